section
-- ===== PART A: goes FIRST, ahead of the names: the tables' words, and 'selects' of the private methods out of them =====
/-- a private method of a class that the tables say can be made, by its rows of tables_1 -/
def lw_okq (q : MethodName × Nat) : Prop := (q.1.cls ≠ "java/lang/invoke/MethodHandle" ∧ q.1.cls ≠ "java/lang/invoke/VarHandle") ∧ Cond.instantiable q.1.cls q.2 ∈ tables_1 ∧ Cond.privateMethod q.1 ∈ tables_1 ∧ Cond.instanceMethod q.1 ∈ tables_1
theorem lw_p0 : lw_okq (⟨"StockRows2", "orderByLevel", "(II)V"⟩, 12) := ⟨⟨by decide +kernel, by decide +kernel⟩, List.mem_of_getElem? (i := 14) (by decide +kernel), List.mem_of_getElem? (i := 103) (by decide +kernel), List.mem_of_getElem? (i := 104) (by decide +kernel)⟩
theorem lw_p1 : lw_okq (⟨"StockRows2", "inStore", "(IIZ)I"⟩, 12) := ⟨⟨by decide +kernel, by decide +kernel⟩, List.mem_of_getElem? (i := 14) (by decide +kernel), List.mem_of_getElem? (i := 114) (by decide +kernel), List.mem_of_getElem? (i := 115) (by decide +kernel)⟩
theorem lw_p2 : lw_okq (⟨"StockRows2", "isGoodOn", "(II)Z"⟩, 12) := ⟨⟨by decide +kernel, by decide +kernel⟩, List.mem_of_getElem? (i := 14) (by decide +kernel), List.mem_of_getElem? (i := 122) (by decide +kernel), List.mem_of_getElem? (i := 123) (by decide +kernel)⟩
theorem lw_p3 : lw_okq (⟨"StockRows2", "onTheWay", "(IIZ)I"⟩, 12) := ⟨⟨by decide +kernel, by decide +kernel⟩, List.mem_of_getElem? (i := 14) (by decide +kernel), List.mem_of_getElem? (i := 129) (by decide +kernel), List.mem_of_getElem? (i := 130) (by decide +kernel)⟩
theorem lw_p4 : lw_okq (⟨"StockRows2", "inOpenOrders", "(II)I"⟩, 12) := ⟨⟨by decide +kernel, by decide +kernel⟩, List.mem_of_getElem? (i := 14) (by decide +kernel), List.mem_of_getElem? (i := 133) (by decide +kernel), List.mem_of_getElem? (i := 134) (by decide +kernel)⟩
theorem lw_p5 : lw_okq (⟨"StockRows2", "addOrder", "(III)I"⟩, 12) := ⟨⟨by decide +kernel, by decide +kernel⟩, List.mem_of_getElem? (i := 14) (by decide +kernel), List.mem_of_getElem? (i := 137) (by decide +kernel), List.mem_of_getElem? (i := 138) (by decide +kernel)⟩
theorem lw_p6 : lw_okq (⟨"java/lang/Throwable", "fillInStackTrace", "(I)Ljava/lang/Throwable;"⟩, 6) := ⟨⟨by decide +kernel, by decide +kernel⟩, List.mem_of_getElem? (i := 196) (by decide +kernel), List.mem_of_getElem? (i := 194) (by decide +kernel), List.mem_of_getElem? (i := 195) (by decide +kernel)⟩
theorem lw_p7 : lw_okq (⟨"StockRows2", "needStore", "(I)V"⟩, 12) := ⟨⟨by decide +kernel, by decide +kernel⟩, List.mem_of_getElem? (i := 14) (by decide +kernel), List.mem_of_getElem? (i := 284) (by decide +kernel), List.mem_of_getElem? (i := 285) (by decide +kernel)⟩
theorem lw_p8 : lw_okq (⟨"StockRows2", "needLot", "(I)V"⟩, 12) := ⟨⟨by decide +kernel, by decide +kernel⟩, List.mem_of_getElem? (i := 14) (by decide +kernel), List.mem_of_getElem? (i := 289) (by decide +kernel), List.mem_of_getElem? (i := 290) (by decide +kernel)⟩
theorem lw_p9 : lw_okq (⟨"StockRows2", "needPlace", "(III)V"⟩, 12) := ⟨⟨by decide +kernel, by decide +kernel⟩, List.mem_of_getElem? (i := 14) (by decide +kernel), List.mem_of_getElem? (i := 301) (by decide +kernel), List.mem_of_getElem? (i := 302) (by decide +kernel)⟩
theorem lw_p10 : lw_okq (⟨"StockRows2", "change", "(III)V"⟩, 12) := ⟨⟨by decide +kernel, by decide +kernel⟩, List.mem_of_getElem? (i := 14) (by decide +kernel), List.mem_of_getElem? (i := 306) (by decide +kernel), List.mem_of_getElem? (i := 307) (by decide +kernel)⟩
theorem lw_p11 : lw_okq (⟨"StockRows2", "needThere", "(III)V"⟩, 12) := ⟨⟨by decide +kernel, by decide +kernel⟩, List.mem_of_getElem? (i := 14) (by decide +kernel), List.mem_of_getElem? (i := 319) (by decide +kernel), List.mem_of_getElem? (i := 320) (by decide +kernel)⟩
theorem lw_p12 : lw_okq (⟨"StockRows2", "arrive", "(I)V"⟩, 12) := ⟨⟨by decide +kernel, by decide +kernel⟩, List.mem_of_getElem? (i := 14) (by decide +kernel), List.mem_of_getElem? (i := 339) (by decide +kernel), List.mem_of_getElem? (i := 340) (by decide +kernel)⟩
theorem lw_p13 : lw_okq (⟨"StockRows2", "addUpToMost", "(III)V"⟩, 12) := ⟨⟨by decide +kernel, by decide +kernel⟩, List.mem_of_getElem? (i := 14) (by decide +kernel), List.mem_of_getElem? (i := 344) (by decide +kernel), List.mem_of_getElem? (i := 345) (by decide +kernel)⟩
theorem lw_p14 : lw_okq (⟨"StockRows2", "take", "(III)V"⟩, 12) := ⟨⟨by decide +kernel, by decide +kernel⟩, List.mem_of_getElem? (i := 14) (by decide +kernel), List.mem_of_getElem? (i := 359) (by decide +kernel), List.mem_of_getElem? (i := 360) (by decide +kernel)⟩
theorem lw_p15 : lw_okq (⟨"StockRows2", "firstToTake", "(II)I"⟩, 12) := ⟨⟨by decide +kernel, by decide +kernel⟩, List.mem_of_getElem? (i := 14) (by decide +kernel), List.mem_of_getElem? (i := 363) (by decide +kernel), List.mem_of_getElem? (i := 364) (by decide +kernel)⟩
def lw_privs_1 : List (MethodName × Nat) := [(⟨"StockRows2", "orderByLevel", "(II)V"⟩, 12), (⟨"StockRows2", "inStore", "(IIZ)I"⟩, 12), (⟨"StockRows2", "isGoodOn", "(II)Z"⟩, 12), (⟨"StockRows2", "onTheWay", "(IIZ)I"⟩, 12), (⟨"StockRows2", "inOpenOrders", "(II)I"⟩, 12), (⟨"StockRows2", "addOrder", "(III)I"⟩, 12), (⟨"java/lang/Throwable", "fillInStackTrace", "(I)Ljava/lang/Throwable;"⟩, 6), (⟨"StockRows2", "needStore", "(I)V"⟩, 12), (⟨"StockRows2", "needLot", "(I)V"⟩, 12), (⟨"StockRows2", "needPlace", "(III)V"⟩, 12), (⟨"StockRows2", "change", "(III)V"⟩, 12), (⟨"StockRows2", "needThere", "(III)V"⟩, 12), (⟨"StockRows2", "arrive", "(I)V"⟩, 12), (⟨"StockRows2", "addUpToMost", "(III)V"⟩, 12), (⟨"StockRows2", "take", "(III)V"⟩, 12), (⟨"StockRows2", "firstToTake", "(II)I"⟩, 12)]
theorem lw_r1 : ∀ q ∈ lw_privs_1, lw_okq q := List.forall_mem_cons.mpr ⟨lw_p0, List.forall_mem_cons.mpr ⟨lw_p1, List.forall_mem_cons.mpr ⟨lw_p2, List.forall_mem_cons.mpr ⟨lw_p3, List.forall_mem_cons.mpr ⟨lw_p4, List.forall_mem_cons.mpr ⟨lw_p5, List.forall_mem_cons.mpr ⟨lw_p6, List.forall_mem_cons.mpr ⟨lw_p7, List.forall_mem_cons.mpr ⟨lw_p8, List.forall_mem_cons.mpr ⟨lw_p9, List.forall_mem_cons.mpr ⟨lw_p10, List.forall_mem_cons.mpr ⟨lw_p11, List.forall_mem_cons.mpr ⟨lw_p12, List.forall_mem_cons.mpr ⟨lw_p13, List.forall_mem_cons.mpr ⟨lw_p14, List.forall_mem_cons.mpr ⟨lw_p15, fun _ h => absurd h List.not_mem_nil⟩⟩⟩⟩⟩⟩⟩⟩⟩⟩⟩⟩⟩⟩⟩⟩
theorem lw_p16 : lw_okq (⟨"StockRows2", "isTakenBefore", "(III)Z"⟩, 12) := ⟨⟨by decide +kernel, by decide +kernel⟩, List.mem_of_getElem? (i := 14) (by decide +kernel), List.mem_of_getElem? (i := 367) (by decide +kernel), List.mem_of_getElem? (i := 368) (by decide +kernel)⟩
theorem lw_p17 : lw_okq (⟨"StockRows2", "hasParts", "(I)Z"⟩, 12) := ⟨⟨by decide +kernel, by decide +kernel⟩, List.mem_of_getElem? (i := 14) (by decide +kernel), List.mem_of_getElem? (i := 468) (by decide +kernel), List.mem_of_getElem? (i := 469) (by decide +kernel)⟩
theorem lw_p18 : lw_okq (⟨"StockRows2", "lackingKind", "(II)I"⟩, 12) := ⟨⟨by decide +kernel, by decide +kernel⟩, List.mem_of_getElem? (i := 14) (by decide +kernel), List.mem_of_getElem? (i := 473) (by decide +kernel), List.mem_of_getElem? (i := 474) (by decide +kernel)⟩
theorem lw_p19 : lw_okq (⟨"StockRows2", "inAllStores", "(I)I"⟩, 12) := ⟨⟨by decide +kernel, by decide +kernel⟩, List.mem_of_getElem? (i := 14) (by decide +kernel), List.mem_of_getElem? (i := 498) (by decide +kernel), List.mem_of_getElem? (i := 499) (by decide +kernel)⟩
theorem lw_p20 : lw_okq (⟨"StockRows2$Table", "lastNotAbove", "(I)I"⟩, 3) := ⟨⟨by decide +kernel, by decide +kernel⟩, List.mem_of_getElem? (i := 42) (by decide +kernel), List.mem_of_getElem? (i := 535) (by decide +kernel), List.mem_of_getElem? (i := 536) (by decide +kernel)⟩
theorem lw_p21 : lw_okq (⟨"StockRows2$Table", "litresBetween", "(III)I"⟩, 3) := ⟨⟨by decide +kernel, by decide +kernel⟩, List.mem_of_getElem? (i := 42) (by decide +kernel), List.mem_of_getElem? (i := 539) (by decide +kernel), List.mem_of_getElem? (i := 540) (by decide +kernel)⟩
theorem lw_p22 : lw_okq (⟨"StockRows2Model", "goes", "(IZZZZ)Z"⟩, 37) := ⟨⟨by decide +kernel, by decide +kernel⟩, List.mem_of_getElem? (i := 550) (by decide +kernel), List.mem_of_getElem? (i := 677) (by decide +kernel), List.mem_of_getElem? (i := 678) (by decide +kernel)⟩
theorem lw_p23 : lw_okq (⟨"StockRows2Model", "isStore", "(I)Z"⟩, 37) := ⟨⟨by decide +kernel, by decide +kernel⟩, List.mem_of_getElem? (i := 550) (by decide +kernel), List.mem_of_getElem? (i := 695) (by decide +kernel), List.mem_of_getElem? (i := 696) (by decide +kernel)⟩
theorem lw_p24 : lw_okq (⟨"StockRows2Model", "isLot", "(I)Z"⟩, 37) := ⟨⟨by decide +kernel, by decide +kernel⟩, List.mem_of_getElem? (i := 550) (by decide +kernel), List.mem_of_getElem? (i := 699) (by decide +kernel), List.mem_of_getElem? (i := 700) (by decide +kernel)⟩
theorem lw_p25 : lw_okq (⟨"StockRows2Model", "at", "(II)I"⟩, 37) := ⟨⟨by decide +kernel, by decide +kernel⟩, List.mem_of_getElem? (i := 550) (by decide +kernel), List.mem_of_getElem? (i := 706) (by decide +kernel), List.mem_of_getElem? (i := 707) (by decide +kernel)⟩
theorem lw_p26 : lw_okq (⟨"StockRows2Model", "comes", "(III)V"⟩, 37) := ⟨⟨by decide +kernel, by decide +kernel⟩, List.mem_of_getElem? (i := 550) (by decide +kernel), List.mem_of_getElem? (i := 714) (by decide +kernel), List.mem_of_getElem? (i := 715) (by decide +kernel)⟩
theorem lw_p27 : lw_okq (⟨"StockRows2Model", "good", "(II)I"⟩, 37) := ⟨⟨by decide +kernel, by decide +kernel⟩, List.mem_of_getElem? (i := 550) (by decide +kernel), List.mem_of_getElem? (i := 725) (by decide +kernel), List.mem_of_getElem? (i := 726) (by decide +kernel)⟩
theorem lw_p28 : lw_okq (⟨"StockRows2Model", "isGood", "(I)Z"⟩, 37) := ⟨⟨by decide +kernel, by decide +kernel⟩, List.mem_of_getElem? (i := 550) (by decide +kernel), List.mem_of_getElem? (i := 729) (by decide +kernel), List.mem_of_getElem? (i := 730) (by decide +kernel)⟩
theorem lw_p29 : lw_okq (⟨"StockRows2Model", "takes", "(III)V"⟩, 37) := ⟨⟨by decide +kernel, by decide +kernel⟩, List.mem_of_getElem? (i := 550) (by decide +kernel), List.mem_of_getElem? (i := 733) (by decide +kernel), List.mem_of_getElem? (i := 734) (by decide +kernel)⟩
theorem lw_p30 : lw_okq (⟨"StockRows2Model", "expected", "(II)I"⟩, 37) := ⟨⟨by decide +kernel, by decide +kernel⟩, List.mem_of_getElem? (i := 550) (by decide +kernel), List.mem_of_getElem? (i := 753) (by decide +kernel), List.mem_of_getElem? (i := 754) (by decide +kernel)⟩
theorem lw_p31 : lw_okq (⟨"StockRows2Model", "makes", "(III)V"⟩, 37) := ⟨⟨by decide +kernel, by decide +kernel⟩, List.mem_of_getElem? (i := 550) (by decide +kernel), List.mem_of_getElem? (i := 757) (by decide +kernel), List.mem_of_getElem? (i := 758) (by decide +kernel)⟩
def lw_privs_2 : List (MethodName × Nat) := [(⟨"StockRows2", "isTakenBefore", "(III)Z"⟩, 12), (⟨"StockRows2", "hasParts", "(I)Z"⟩, 12), (⟨"StockRows2", "lackingKind", "(II)I"⟩, 12), (⟨"StockRows2", "inAllStores", "(I)I"⟩, 12), (⟨"StockRows2$Table", "lastNotAbove", "(I)I"⟩, 3), (⟨"StockRows2$Table", "litresBetween", "(III)I"⟩, 3), (⟨"StockRows2Model", "goes", "(IZZZZ)Z"⟩, 37), (⟨"StockRows2Model", "isStore", "(I)Z"⟩, 37), (⟨"StockRows2Model", "isLot", "(I)Z"⟩, 37), (⟨"StockRows2Model", "at", "(II)I"⟩, 37), (⟨"StockRows2Model", "comes", "(III)V"⟩, 37), (⟨"StockRows2Model", "good", "(II)I"⟩, 37), (⟨"StockRows2Model", "isGood", "(I)Z"⟩, 37), (⟨"StockRows2Model", "takes", "(III)V"⟩, 37), (⟨"StockRows2Model", "expected", "(II)I"⟩, 37), (⟨"StockRows2Model", "makes", "(III)V"⟩, 37)]
theorem lw_r2 : ∀ q ∈ lw_privs_2, lw_okq q := List.forall_mem_cons.mpr ⟨lw_p16, List.forall_mem_cons.mpr ⟨lw_p17, List.forall_mem_cons.mpr ⟨lw_p18, List.forall_mem_cons.mpr ⟨lw_p19, List.forall_mem_cons.mpr ⟨lw_p20, List.forall_mem_cons.mpr ⟨lw_p21, List.forall_mem_cons.mpr ⟨lw_p22, List.forall_mem_cons.mpr ⟨lw_p23, List.forall_mem_cons.mpr ⟨lw_p24, List.forall_mem_cons.mpr ⟨lw_p25, List.forall_mem_cons.mpr ⟨lw_p26, List.forall_mem_cons.mpr ⟨lw_p27, List.forall_mem_cons.mpr ⟨lw_p28, List.forall_mem_cons.mpr ⟨lw_p29, List.forall_mem_cons.mpr ⟨lw_p30, List.forall_mem_cons.mpr ⟨lw_p31, fun _ h => absurd h List.not_mem_nil⟩⟩⟩⟩⟩⟩⟩⟩⟩⟩⟩⟩⟩⟩⟩⟩
def lw_privs : List (MethodName × Nat) := lw_privs_1 ++ (lw_privs_2)
def lw_tbl : List Cond := k2_sels lw_privs ++ tables_1
theorem lw_privs_ok : ∀ q ∈ lw_privs, lw_okq q := by
  show ∀ q ∈ lw_privs_1 ++ (lw_privs_2), lw_okq q
  exact List.forall_mem_append.mpr ⟨lw_r1, lw_r2⟩
end
section
/-! ===== BEGIN words of one list among another's, by their places ===== -/
theorem goodIn_r {big : List Cond} (ws : List Cond) (ps : List Nat) (hp : ws = ps.filterMap (fun i => big[i]?)) (h : ws.all goodWord = true) : GoodIn big ws := by
  intro w hw
  have h1 := List.all_eq_true.mp h w hw
  rw [hp] at hw
  obtain ⟨i, -, hi⟩ := List.mem_filterMap.mp hw
  have hm : w ∈ big := by first | exact List.mem_of_getElem? hi | exact List.getElem?_mem hi
  exact ⟨hm, good_of_word h1⟩
theorem goodIn_app {big a b : List Cond} (ha : GoodIn big a) (hb : GoodIn big b) : GoodIn big (a ++ b) := fun w h => (List.mem_append.mp h).elim (ha w) (hb w)
theorem goodIn_ca {big a b : List Cond} {c : Cond} (ha : GoodIn big (c :: a)) (hb : GoodIn big b) : GoodIn big (c :: (a ++ b)) := fun w h => (List.mem_cons.mp h).elim (fun e => ha w (List.mem_cons.mpr (Or.inl e))) (fun h => (List.mem_append.mp h).elim (fun h => ha w (List.mem_cons.mpr (Or.inr h))) (hb w))
theorem goodIn_sub {big ws : List Cond} (hm : ∀ w ∈ ws, w ∈ big) (h : ws.all goodWord = true) : GoodIn big ws := fun w hw => ⟨hm w hw, good_of_word (List.all_eq_true.mp h w hw)⟩
/-! ===== END ===== -/

/-! ===== BEGIN exceptions that leave a method, and their catching by the caller (launches without stack traces) ===== -/
section VXA
/-! The laws vx_back, vx_callV, vx_callS, vx_callSW, vx_throw0, vx_throwS follow proofs of the library, with one case more: JvmDerived/Free/Laws.lean (Back.of_free), Shelf42/LK1.lean (callV, callS), Shelf/KitTraced.lean (throwNew0V, throwNewS). -/
/-- where a method has thrown q: the class by its name, the cell, what was written, the world -/
def vx_T (XC : String → State → State → Prop) (st : State) (q : Addr) (t : State) (mc ms : Nat) (free : Addr → Prop) : Prop :=
  ∃ (E : String) (ce : Cell) (L : List Loc), XC E st t ∧ t.heap[q]? = some ce ∧ ce.vm = .none ∧ st.vm.findClass E = some ce.cls ∧ st.WarmedH t.vm ∧ st.sameButNew ({ t with vm := st.vm } : State) L mc ms ∧ ∀ z ∈ L, free z.base
def vx_Q (Qc : Array Value → State → Outcome → State → Prop) (XC : String → State → State → Prop) (mc ms : Nat) (free : Addr → Prop) : Array Value → State → Outcome → State → Prop := fun a st o t =>
  (Qc a st o t ∧ ∃ L, FrameEnd st o t L mc ms ∧ ∀ q ∈ L, free q.base) ∨ ∃ q, o = .threw q ∧ vx_T XC st q t mc ms free
/-- a callee that returns or throws -/
def vx_Met (l : Launch) (y : MethodName) (ws : List Cond) (rm : Room) (Pc : Array Value → State → Prop) (Qc : Array Value → State → Outcome → State → Prop) (XC : String → State → State → Prop) (mc ms : Nat) (free : Addr → Prop) : Prop :=
  MetFree l y (headSpec ws rm) Pc (fun _ _ _ _ _ => True) (vx_Q Qc XC mc ms free)
def vx_Post (XC : String → State → State → Prop) (mc ms : Nat) (free : Addr → Prop) : Pt → Array Value → Addr → Pt → Prop := fun A a q B =>
  ∃ (g : JFrame) (mk : MethodId) (t : State) (L : List Loc) (E : String) (ce : Cell), B.U.heap = t.heap ∧ B.U.vm = t.vm ∧ XC E (A.U.calling g mk a) t ∧ t.heap[q]? = some ce ∧ ce.vm = .none ∧ A.U.vm.findClass E = some ce.cls ∧ B.locs = A.locs ++ L ∧ (∀ z ∈ L, free z.base) ∧ B.cells = A.cells + mc ∧ B.slots = A.slots + ms
def vx_Back (l : Launch) (R : Room) (p : Program) (e : Env) (below : List Frame) (s : State) (sargs : Array Value) (y : MethodName) (len W9 : Nat)
    (Pre : Pt → Array Value → Prop) (Post : Pt → Array Value → Option Value → Pt → Prop) (PostX : Pt → Array Value → Addr → Pt → Prop) : Prop :=
  ∀ (m : MethodId) (meth : Method) (c : Code) (A : Pt) (g : JFrame) (ig : Instr) (mk : MethodId) (a : Array Value),
    Stand p l e R s m sargs below meth c A.U A.locs A.cells A.slots → g.method = m → g.locals.size = c.maxLocals → decode c.code g.pc = .ok (ig, len) →
    2 * g.monitorRoom + (g.stack.map fun v => v.category).sum ≤ W9 → A.U.methodNamed? y = some mk → Pre A a →
    (∃ (v : Option Value) (B : Pt), Stand p l e R s m sargs below meth c B.U B.locs B.cells B.slots ∧ Post A a v B ∧
      Steps p.tables e below (doInvoke e (A.U.setTop g) [] mk a).1 (B.U.setTop { g with pc := g.pc + len, stack := v.toList ++ g.stack })) ∨
    (∃ (q : Addr) (B : Pt), Stand p l e R s m sargs below meth c B.U B.locs B.cells B.slots ∧ PostX A a q B ∧
      Steps p.tables e below (doInvoke e (A.U.setTop g) [] mk a).1 ((B.U.setTop g).pushFrame (.throwing q)))
section Payer
variable {l : Launch} {R : Room} {p : Program} {e : Env} {below : List Frame} {s : State} {sargs : Array Value} {y : MethodName} {len W9 : Nat}
theorem vx_back {ws : List Cond} {rm : Room} {Pc : Array Value → State → Prop} {Qc : Array Value → State → Outcome → State → Prop} {XC : String → State → State → Prop} {mc ms : Nat} {free : Addr → Prop} {bytes : ByteArray} {maxL : Nat} {ret : Option FieldType}
    (hM : vx_Met l y ws rm Pc Qc XC mc ms free) (hblind : FrameBlind Pc) (hrc : rm.cells = mc) (hrs : rm.slots = ms)
    (hframes : rm.frames + 1 ≤ R.frames) (hlocals : W9 + (maxL + 11) + rm.locals ≤ R.locals)
    (hws : ∀ w ∈ ws, ∀ a' U, s.WarmedH U.vm → w.before a' U = true) (hcode : Cond.code y bytes maxL ret ∈ ws) (hinit : ∀ a' U, s.WarmedH U.vm → (Cond.initialized y.cls).before a' U = true) :
    vx_Back l R p e below s sargs y len W9 (PreOf R mc ms Pc) (PostOf Qc mc ms free) (vx_Post XC mc ms free) := by
  intro m meth c A g ig mk a X hg hsize hdg hW hn hp
  have h1 : (headSpec ws rm).pre.before a A.U = true := atoms_intro fun w hw => hws w hw _ _ X.warmed
  have h2 : (Cond.code y bytes maxL ret).before a A.U = true := hws _ hcode _ _ X.warmed
  have h3 : (Cond.initialized y.cls).before a A.U = true := hinit _ _ X.warmed
  have h4 : A.cells + (headSpec ws rm).room.cells ≤ R.cells := by rw [show (headSpec ws rm).room.cells = mc from hrc]; exact hp.1
  have h5 : A.slots + (headSpec ws rm).room.slots ≤ R.slots := by rw [show (headSpec ws rm).room.slots = ms from hrs]; exact hp.2.1
  have hPc : Pc a (A.U.calling g mk a) := hblind _ _ _ _ hp.2.2
  obtain ⟨U, Ls, c0, s0⟩ := A
  dsimp only [Pt.U, Pt.locs, Pt.cells, Pt.slots] at h1 h2 h3 h4 h5 X hn hPc ⊢
  obtain ⟨methY, cY, hmY, hcY, -, hlY, -, -, -, -⟩ := Cond.code_spec hn h2
  obtain ⟨kY, hkY, -⟩ := className_of_methodNamed hn
  have hinitY : kY.init = .initialized := Cond.initialized_spec (findClass_of_methodNamed hn) hkY h3
  have h : At U g.method c below := by rw [hg]; exact X.here
  have hlocals9 : W9 + (maxL + 11) + (headSpec ws rm).room.locals ≤ R.locals := hlocals
  have happ : (headSpec ws rm).appliesLoose y e.platform (U.calling g mk a) = true :=
    Spec.appliesLoose_calling (g := g) h hdg hn hkY hinitY
      (X.room_calling (g := g) (R' := (headSpec ws rm).room) hsize hmY hcY hframes (by rw [hlY]; omega) h4 h5) h1
  obtain ⟨mid, hmid⟩ := h.above
  have hfr : (U.setTop g).frames = (.java g :: mid) ++ below := by rw [State.frames_setTop' g h.top, hmid]; rfl
  obtain ⟨o, s₂, hsteps, -, hend, hq⟩ := Steps.callFree hM p X.admits X.cas X.clock (acts := []) hfr happ hPc trivial
  have hq' : vx_Q Qc XC mc ms free a (U.calling g mk a) o s₂ := hq
  rw [State.frames_setTop' g h.top] at hend
  obtain ⟨g₀, hg0⟩ := Option.isSome_iff_exists.mp h.top
  obtain ⟨r, hr⟩ := State.topJava?_eq_some.mp hg0
  have hr' : (({ U with heap := s₂.heap, slotsUsed := s₂.slotsUsed } : State).setVm s₂.vm).frames = .java g₀ :: r := hr
  rcases hq' with ⟨hqc, L, hfe, hL⟩ | ⟨q, rfl, E, ce, L, hx, hce, hcv, hcl, hW₂, hsm, hL⟩
  · obtain ⟨⟨v, rfl⟩, hW₂, e2, q2, q3, q4, q5, q6⟩ := id hfe
    have e3 : s₂ = ({ (U.calling g mk a).setFrames s₂.frames with heap := s₂.heap, slotsUsed := s₂.slotsUsed } : State).setVm s₂.vm := by
      have : s₂ = ({ s₂ with vm := (U.calling g mk a).vm } : State).setVm s₂.vm := rfl
      rw [e2] at this
      exact this
    obtain ⟨c₂, i₂, len₂, hc₂, hd₂, hf₂⟩ := hend
    have hW' : U.WarmedH s₂.vm := hW₂
    have hcc : c₂ = c := by
      have h1 : s₂.code? g.method = U.code? g.method := by
        rw [State.code?_eq, State.code?_eq, hW'.alike.method?]
      exact Option.some.inj (hc₂.symm.trans (h1.trans h.code))
    subst hcc
    have hlen : len₂ = len := by rw [hdg] at hd₂; cases hd₂; rfl
    subst hlen
    have hs₂ : s₂ = (({ U with heap := s₂.heap, slotsUsed := s₂.slotsUsed } : State).setVm s₂.vm).setTop { g with pc := g.pc + len₂, stack := v.toList ++ g.stack } := by
      refine e3.trans ?_
      rw [hf₂, State.calling_eq h.top, State.setFrames_setFrames, State.setTop_of_frames _ hr', hr]
      rfl
    have hsame : U.sameButNew ({ U with heap := s₂.heap, slotsUsed := s₂.slotsUsed } : State) L mc ms := by
      refine ⟨?_, q2, q3, q4, q5, q6⟩
      obtain ⟨t, ht, -⟩ := State.frames_cons hr
      show ({ U with heap := s₂.heap, slotsUsed := s₂.slotsUsed } : State) = { U.setFrames U.frames with heap := s₂.heap, slotsUsed := s₂.slotsUsed }
      rw [State.setFrames_self ht]
    subst hg
    refine Or.inl ⟨v, ⟨(({ U with heap := s₂.heap, slotsUsed := s₂.slotsUsed } : State).setVm s₂.vm), Ls ++ L, c0 + mc, s0 + ms⟩,
      ⟨X.admits, X.cas, X.clock, X.frames, X.room, X.hears, X.method, X.code, (X.here.setHeapUsed s₂.heap s₂.slotsUsed).setVm hW'.alike, X.tail, State.WarmedH.trans X.warmed hW', X.limits, X.bytes, X.same.trans (hsame.setVm s.vm)⟩,
      ⟨g, mk, s₂, L, rfl, rfl, hqc, rfl, hL, rfl, rfl⟩, ?_⟩
    show Steps p.tables e below _ ((({ U with heap := s₂.heap, slotsUsed := s₂.slotsUsed } : State).setVm s₂.vm).setTop { g with pc := g.pc + len₂, stack := v.toList ++ g.stack })
    rw [← hs₂]
    exact hsteps
  · obtain ⟨e2, q2, q3, q4, q5, q6⟩ := id hsm
    have e3 : s₂ = ({ (U.calling g mk a).setFrames s₂.frames with heap := s₂.heap, slotsUsed := s₂.slotsUsed } : State).setVm s₂.vm := by
      have : s₂ = ({ s₂ with vm := (U.calling g mk a).vm } : State).setVm s₂.vm := rfl
      rw [e2] at this
      exact this
    have hf₂ : s₂.frames = .throwing q :: .java g :: U.frames.tail := hend
    have hW' : U.WarmedH s₂.vm := hW₂
    have hs₂ : s₂ = ((({ U with heap := s₂.heap, slotsUsed := s₂.slotsUsed } : State).setVm s₂.vm).setTop g).pushFrame (.throwing q) := by
      refine e3.trans ?_
      rw [hf₂, State.calling_eq h.top, State.setFrames_setFrames, State.pushFrame, State.frames_setTop _ hr', State.setTop_of_frames _ hr', State.setFrames_setFrames, hr]
      rfl
    have hsame : U.sameButNew ({ U with heap := s₂.heap, slotsUsed := s₂.slotsUsed } : State) L mc ms := by
      refine ⟨?_, q2, q3, q4, q5, q6⟩
      obtain ⟨t, ht, -⟩ := State.frames_cons hr
      show ({ U with heap := s₂.heap, slotsUsed := s₂.slotsUsed } : State) = { U.setFrames U.frames with heap := s₂.heap, slotsUsed := s₂.slotsUsed }
      rw [State.setFrames_self ht]
    subst hg
    refine Or.inr ⟨q, ⟨(({ U with heap := s₂.heap, slotsUsed := s₂.slotsUsed } : State).setVm s₂.vm), Ls ++ L, c0 + mc, s0 + ms⟩,
      ⟨X.admits, X.cas, X.clock, X.frames, X.room, X.hears, X.method, X.code, (X.here.setHeapUsed s₂.heap s₂.slotsUsed).setVm hW'.alike, X.tail, State.WarmedH.trans X.warmed hW', X.limits, X.bytes, X.same.trans (hsame.setVm s.vm)⟩,
      ⟨g, mk, s₂, L, E, ce, rfl, rfl, hx, hce, hcv, hcl, rfl, hL, rfl, rfl⟩, ?_⟩
    show Steps p.tables e below _ (((({ U with heap := s₂.heap, slotsUsed := s₂.slotsUsed } : State).setVm s₂.vm).setTop g).pushFrame (.throwing q))
    rw [← hs₂]
    exact hsteps
end Payer
section Calls
variable {p : Program} {l : Launch} {e : Env} {R : Room} {s : State} {m : MethodId} {args : Array Value} {below : List Frame} {meth : Method} {c : Code} {T : State} {locs : List Loc} {cells slots : Nat}
theorem vx_callV (X : Stand p l e R s m args below meth c T locs cells slots) (hexec : p.tables.exec = Jvm.exec) {own C : String} {index : Nat} {y : MethodName} {bytes : ByteArray} {maxL : Nat} {ret : Option FieldType}
    (hown : s.vm.findClass own = some m.cls) (hlink : (Cond.methodLink own index y).before args s = true) (hinst : (Cond.instanceMethod y).before args s = true) (hsel : (Cond.selects C y y).before args s = true)
    (hcode : (Cond.code y bytes maxL ret).before args s = true) (hy : y.cls ≠ "java/lang/invoke/MethodHandle" ∧ y.cls ≠ "java/lang/invoke/VarHandle")
    {W9 : Nat} {Pre : Pt → Array Value → Prop} {Post : Pt → Array Value → Option Value → Pt → Prop} {PostX : Pt → Array Value → Addr → Pt → Prop} (hK : vx_Back l R p e below s args y 3 W9 Pre Post PostX)
    {b : Addr} {cellB : Cell} (hcell : T.heap[b]? = some cellB) (hobj : cellB.vm.isStatics = false) (hcls : s.vm.findClass C = some cellB.cls)
    {g : JFrame} (hg : g.method = m) (hsize : g.locals.size = c.maxLocals) {argsL rest : List Value} (hlen : ∀ sig, parseMethodDescriptor y.desc = some sig → argsL.length = sig.parameters.length)
    (hstack : g.stack = argsL.reverse ++ .ref b :: rest) (hW : 2 * g.monitorRoom + (rest.map fun v => v.category).sum ≤ W9) (hdg : decode c.code g.pc = .ok (.invokevirtual index, 3))
    (hpre : ∀ vm₁, s.WarmedH vm₁ → Pre ⟨T.setVm vm₁, locs, cells, slots⟩ (Value.ref b :: argsL).toArray) :
    (∃ (v : Option Value) (vm₁ : Vm) (B : Pt), s.WarmedH vm₁ ∧ Stand p l e R s m args below meth c B.U B.locs B.cells B.slots ∧ Post ⟨T.setVm vm₁, locs, cells, slots⟩ (Value.ref b :: argsL).toArray v B ∧
      ∀ target, Steps p.tables e below (B.U.setTop { g with pc := g.pc + 3, stack := v.toList ++ rest }) target → Steps p.tables e below (T.setTop g) target) ∨
    (∃ (q : Addr) (vm₁ : Vm) (B : Pt), s.WarmedH vm₁ ∧ Stand p l e R s m args below meth c B.U B.locs B.cells B.slots ∧ PostX ⟨T.setVm vm₁, locs, cells, slots⟩ (Value.ref b :: argsL).toArray q B ∧
      Steps p.tables e below (T.setTop g) ((B.U.setTop { g with stack := rest }).pushFrame (.throwing q))) := by
  obtain ⟨mk, methM, hnamed, hmethM, hstM, habM⟩ := Cond.instanceMethod_spec hinst
  obtain ⟨methM', cM, hmethM', -, -, -, -, -, -, hsigM⟩ := Cond.code_spec hnamed hcode
  cases hmethM.symm.trans hmethM'
  obtain ⟨c2, r2, m2, q1, q2, q3, q4, kP, hkP, hkPi⟩ := Cond.selects_spec hsel
  cases hcls.symm.trans q1
  cases (State.methodFound?_of_named hnamed hy).symm.trans q2
  cases hnamed.symm.trans q3
  have hselP : selectMethod e.platform s.vm cellB.cls mk = .method mk := by rw [Launch.admits_selectMethod X.admits]; exact q4
  obtain ⟨vm₁, X₁, hstep₁⟩ := X.invokevirtual hexec hown hlink hnamed hmethM hstM hkP hkPi hy (a := b) (cell := cellB) hcell
    (fun z h => by rw [h] at hobj; cases hobj) hselP hmethM habM hkP hkPi (g := g) hg (argsL := argsL) (rest := rest) (hlen _ hsigM) hstack hdg
  rcases hK m meth c ⟨T.setVm vm₁, locs, cells, slots⟩ { g with stack := rest } (.invokevirtual index) mk (Value.ref b :: argsL).toArray X₁ hg hsize hdg hW (X₁.named hnamed) (hpre vm₁ X₁.warmed) with ⟨v, B, X', hpost, hsteps⟩ | ⟨q, B, X', hpost, hsteps⟩
  · exact Or.inl ⟨v, vm₁, B, X₁.warmed, X', hpost, fun target h => hstep₁ _ fun acts => by rw [doInvoke_state]; exact hsteps.trans h⟩
  · exact Or.inr ⟨q, vm₁, B, X₁.warmed, X', hpost, hstep₁ _ fun acts => by rw [doInvoke_state]; exact hsteps⟩
theorem vx_callS (X : Stand p l e R s m args below meth c T locs cells slots) (hexec : p.tables.exec = Jvm.exec) {own : String} {index : Nat} {y : MethodName} {bytes : ByteArray} {maxL : Nat} {ret : Option FieldType}
    (hown : s.vm.findClass own = some m.cls) (hlink : (Cond.methodLink own index y).before args s = true) (hstat : (Cond.static y).before args s = true) (hinit : (Cond.initialized y.cls).before args s = true)
    (hcode : (Cond.code y bytes maxL ret).before args s = true) (hy : y.cls ≠ "java/lang/invoke/MethodHandle" ∧ y.cls ≠ "java/lang/invoke/VarHandle")
    {W9 : Nat} {Pre : Pt → Array Value → Prop} {Post : Pt → Array Value → Option Value → Pt → Prop} {PostX : Pt → Array Value → Addr → Pt → Prop} (hK : vx_Back l R p e below s args y 3 W9 Pre Post PostX)
    {g : JFrame} (hg : g.method = m) (hsize : g.locals.size = c.maxLocals) {argsL rest : List Value} (hlen : ∀ sig, parseMethodDescriptor y.desc = some sig → argsL.length = sig.parameters.length)
    (hstack : g.stack = argsL.reverse ++ rest) (hW : 2 * g.monitorRoom + (rest.map fun v => v.category).sum ≤ W9) (hdg : decode c.code g.pc = .ok (.invokestatic index, 3))
    (hpre : ∀ vm₁, s.WarmedH vm₁ → Pre ⟨T.setVm vm₁, locs, cells, slots⟩ argsL.toArray) :
    (∃ (v : Option Value) (vm₁ : Vm) (B : Pt), s.WarmedH vm₁ ∧ Stand p l e R s m args below meth c B.U B.locs B.cells B.slots ∧ Post ⟨T.setVm vm₁, locs, cells, slots⟩ argsL.toArray v B ∧
      ∀ target, Steps p.tables e below (B.U.setTop { g with pc := g.pc + 3, stack := v.toList ++ rest }) target → Steps p.tables e below (T.setTop g) target) ∨
    (∃ (q : Addr) (vm₁ : Vm) (B : Pt), s.WarmedH vm₁ ∧ Stand p l e R s m args below meth c B.U B.locs B.cells B.slots ∧ PostX ⟨T.setVm vm₁, locs, cells, slots⟩ argsL.toArray q B ∧
      Steps p.tables e below (T.setTop g) ((B.U.setTop { g with stack := rest }).pushFrame (.throwing q))) := by
  obtain ⟨mk, hnamed⟩ := Cond.code_named hcode
  obtain ⟨methM, cM, hmethM, -, -, -, -, -, -, hsigM⟩ := Cond.code_spec hnamed hcode
  have hstatic : methM.isStatic = true := Cond.static_spec hnamed hmethM hstat
  obtain ⟨kP, hkP, -⟩ := className_of_methodNamed hnamed
  have hinitP : kP.init = .initialized := Cond.initialized_spec (findClass_of_methodNamed hnamed) hkP hinit
  obtain ⟨vm₁, X₁, hstep₁⟩ := X.invokestatic hexec hown hlink hnamed hmethM hstatic hkP hinitP hy (g := g) hg (argsL := argsL) (rest := rest) (hlen _ hsigM) hstack hdg
  rcases hK m meth c ⟨T.setVm vm₁, locs, cells, slots⟩ { g with stack := rest } (.invokestatic index) mk argsL.toArray X₁ hg hsize hdg hW (X₁.named hnamed) (hpre vm₁ X₁.warmed) with ⟨v, B, X', hpost, hsteps⟩ | ⟨q, B, X', hpost, hsteps⟩
  · exact Or.inl ⟨v, vm₁, B, X₁.warmed, X', hpost, fun target h => hstep₁ _ fun acts => by rw [doInvoke_state]; exact hsteps.trans h⟩
  · exact Or.inr ⟨q, vm₁, B, X₁.warmed, X', hpost, hstep₁ _ fun acts => by rw [doInvoke_state]; exact hsteps⟩
end Calls
theorem vx_cls {s : State} {T : State} {vm₁ : Vm} {E : String} {k : ClassId} (hW : s.WarmedH vm₁) (h : (T.setVm vm₁).vm.findClass E = some k) : s.vm.findClass E = some k := by
  have h1 : vm₁.findClass E = some k := h
  rw [hW.alike.findClass] at h1
  exact h1
/-- the method's frame g, with q thrown over it -/
def vx_W (p : Program) (l : Launch) (e : Env) (R : Room) (s : State) (m : MethodId) (args : Array Value) (below : List Frame) (meth : Method) (c : Code) (H : Heap) (locs : List Loc) (cells slots : Nat) (Q : State → Prop) (g : JFrame) (q : Addr) : Prop :=
  ∀ T : State, T.heap = H → Stand p l e R s m args below meth c T locs cells slots → ∃ t, Steps p.tables e below ((T.setTop g).pushFrame (.throwing q)) t ∧ Q t
def vx_Run (p : Program) (l : Launch) (e : Env) (R : Room) (s : State) (m : MethodId) (args : Array Value) (below : List Frame) (meth : Method) (c : Code) (H : Heap) (locs : List Loc) (cells slots mc ms : Nat) (g : JFrame) (rest : List Value) (Qa : State → Outcome → State → Prop) (XC : String → State → State → Prop) (free : Addr → Prop) : Prop :=
  ∀ T : State, T.heap = H → Stand p l e R s m args below meth c T locs cells slots →
    (∃ (v : Option Value) (st₀ t T' : State) (L : List Loc), st₀.heap = H ∧ Stand p l e R s m args below meth c T' (locs ++ L) (cells + mc) (slots + ms) ∧ (∀ q ∈ L, free q.base) ∧ T'.heap = t.heap ∧ T'.vm = t.vm ∧ Qa st₀ (.returned v) t ∧
      Goes p e below T g T' { g with pc := g.pc + 3, stack := v.toList ++ rest }) ∨
    (∃ (q : Addr) (st₀ t T' : State) (L : List Loc) (E : String) (ce : Cell), st₀.heap = H ∧ Stand p l e R s m args below meth c T' (locs ++ L) (cells + mc) (slots + ms) ∧ (∀ z ∈ L, free z.base) ∧ T'.heap = t.heap ∧ T'.vm = t.vm ∧ XC E st₀ t ∧ t.heap[q]? = some ce ∧ ce.vm = .none ∧ s.vm.findClass E = some ce.cls ∧
      Steps p.tables e below (T.setTop g) ((T'.setTop { g with stack := rest }).pushFrame (.throwing q)))
def vx_X {S : Type} (px : S → Prop) (B : String → S → State → Prop) (A : Nat → Prop) : String → State → State → Prop := fun E st t => ∃ u : S, px u ∧ B E u t ∧ va_F A st t
section Runs
variable {p : Program} {l : Launch} {e : Env} {R : Room} {s : State} {m : MethodId} {args : Array Value} {below : List Frame} {meth : Method} {c : Code} {H : Heap} {locs : List Loc} {cells slots : Nat}
variable {y : MethodName} {bytes cc : ByteArray} {maxL nL mc ms n index : Nat} {ret : Option FieldType} {ws : List Cond} {rm : Room} {Pc : Array Value → State → Prop} {Qc : Array Value → State → Outcome → State → Prop} {XC : String → State → State → Prop} {free : Addr → Prop} {Ts : List Cond} {own C : String} {b : Addr} {As rest : List Value} {g : JFrame}
theorem vx_callBack (cb : CallB R s args own index y bytes maxL ret ws rm mc ms n) (hM : vx_Met l y ws rm Pc Qc XC mc ms free) (hbl : FrameBlind Pc) : vx_Back l R p e below s args y 3 8 (PreOf R mc ms Pc) (PostOf Qc mc ms free) (vx_Post XC mc ms free) := by
  obtain ⟨hrc, hrs, hfr, hlo, hws, hcw, -, hini, -⟩ := cb
  exact vx_back (bytes := bytes) (maxL := maxL) (ret := ret) hM hbl hrc hrs hfr hlo hws hcw (fun a' U hW => word_at hW (Or.inl (by first | rfl | simp [Cond.onTables, Cond.keeps, Cond.steady])) hini)
theorem vx_runV (S : CallFix p m c cc nL s args Ts own) (hM : vx_Met l y ws rm Pc Qc XC mc ms free) (cw : CallW R s args own C index y bytes maxL ret ws rm mc ms n) (hp : PreV s H C b Pc As)
    (hg : g.method = m) (hn : As.length = n) (hsize : g.locals.size = nL) (hstack : g.stack = As.reverse ++ .ref b :: rest) (hW : 2 * g.monitorRoom + (rest.map fun v => v.category).sum ≤ 8) (hdg : decode cc g.pc = .ok (.invokevirtual index, 3)) (hf : cells + mc ≤ R.cells ∧ slots + ms ≤ R.slots) :
    vx_Run p l e R s m args below meth c H locs cells slots mc ms g rest (Qc (Value.ref b :: As).toArray) XC free := by
  have hK : vx_Back l R p e below s args y 3 8 (PreOf R mc ms Pc) (PostOf Qc mc ms free) (vx_Post XC mc ms free) := vx_callBack cw.1 hM hp.1
  obtain ⟨⟨-, -, -, -, -, -, hcode, -, hy, hlen, hl⟩, hin, hse⟩ := cw
  obtain ⟨hx, hb, hml, ho, -⟩ := S
  obtain ⟨-, ⟨cellB, hcB, hoB, hclB⟩, hPc⟩ := hp
  intro T hT X
  rcases vx_callV X hx (C := C) (bytes := bytes) (maxL := maxL) (ret := ret) ho hl hin hse hcode hy hK (by rw [hT]; exact hcB) hoB hclB hg (hsize.trans hml.symm) (argsL := As) (rest := rest) (fun sig h => hn.trans (hlen sig h)) hstack hW (by rw [hb]; exact hdg)
    (fun vm₁ hW₁ => ⟨hf.1, hf.2, hPc (T.setVm vm₁) hT hW₁⟩) with ⟨v, vm₁, ⟨U', l2, c2, s2⟩, hW₁, X', ⟨g', mk, t, L, e1, e2, hq, h1, hL, h2, h3⟩, st⟩ | ⟨q, vm₁, ⟨U', l2, c2, s2⟩, hW₁, X', ⟨g', mk, t, L, E, ce, e1, e2, hq, hce, hcv, hcl, h1, hL, h2, h3⟩, st⟩
  · dsimp only [Pt.U, Pt.locs, Pt.cells, Pt.slots] at X' e1 e2 h1 h2 h3 st
    subst h1; subst h2; subst h3
    exact Or.inl ⟨v, (T.setVm vm₁).calling g' mk (Value.ref b :: As).toArray, t, U', L, hT, X', hL, e1, e2, hq, st⟩
  · dsimp only [Pt.U, Pt.locs, Pt.cells, Pt.slots] at X' e1 e2 h1 h2 h3 st hcl
    subst h1; subst h2; subst h3
    exact Or.inr ⟨q, (T.setVm vm₁).calling g' mk (Value.ref b :: As).toArray, t, U', L, E, ce, hT, X', hL, e1, e2, hq, hce, hcv, vx_cls hW₁ hcl, st⟩
theorem vx_runS (S : CallFix p m c cc nL s args Ts own) (hM : vx_Met l y ws rm Pc Qc XC mc ms free) (cw : CallB R s args own index y bytes maxL ret ws rm mc ms n ∧ (Cond.static y).before args s = true) (hp : PreS s H Pc As)
    (hg : g.method = m) (hn : As.length = n) (hsize : g.locals.size = nL) (hstack : g.stack = As.reverse ++ rest) (hW : 2 * g.monitorRoom + (rest.map fun v => v.category).sum ≤ 8) (hdg : decode cc g.pc = .ok (.invokestatic index, 3)) (hf : cells + mc ≤ R.cells ∧ slots + ms ≤ R.slots) :
    vx_Run p l e R s m args below meth c H locs cells slots mc ms g rest (Qc As.toArray) XC free := by
  have hK : vx_Back l R p e below s args y 3 8 (PreOf R mc ms Pc) (PostOf Qc mc ms free) (vx_Post XC mc ms free) := vx_callBack cw.1 hM hp.1
  obtain ⟨⟨-, -, -, -, -, -, hcode, hini, hy, hlen, hl⟩, hstt⟩ := cw
  obtain ⟨hx, hb, hml, ho, -⟩ := S
  intro T hT X
  rcases vx_callS X hx (bytes := bytes) (maxL := maxL) (ret := ret) ho hl hstt hini hcode hy hK hg (hsize.trans hml.symm) (argsL := As) (rest := rest) (fun sig h => hn.trans (hlen sig h)) hstack hW (by rw [hb]; exact hdg)
    (fun vm₁ hW₁ => ⟨hf.1, hf.2, hp.2 (T.setVm vm₁) hT hW₁⟩) with ⟨v, vm₁, ⟨U', l2, c2, s2⟩, hW₁, X', ⟨g', mk, t, L, e1, e2, hq, h1, hL, h2, h3⟩, st⟩ | ⟨q, vm₁, ⟨U', l2, c2, s2⟩, hW₁, X', ⟨g', mk, t, L, E, ce, e1, e2, hq, hce, hcv, hcl, h1, hL, h2, h3⟩, st⟩
  · dsimp only [Pt.U, Pt.locs, Pt.cells, Pt.slots] at X' e1 e2 h1 h2 h3 st
    subst h1; subst h2; subst h3
    exact Or.inl ⟨v, (T.setVm vm₁).calling g' mk As.toArray, t, U', L, hT, X', hL, e1, e2, hq, st⟩
  · dsimp only [Pt.U, Pt.locs, Pt.cells, Pt.slots] at X' e1 e2 h1 h2 h3 st hcl
    subst h1; subst h2; subst h3
    exact Or.inr ⟨q, (T.setVm vm₁).calling g' mk As.toArray, t, U', L, E, ce, hT, X', hL, e1, e2, hq, hce, hcv, vx_cls hW₁ hcl, st⟩
end Runs
section Rows
variable {p : Program} {l : Launch} {e : Env} {R : Room} {s : State} {m : MethodId} {args : Array Value} {below : List Frame} {meth : Method} {c : Code} {H : Heap} {locs : List Loc} {cells slots : Nat} {Q : State → Prop}
variable {mc ms : Nat} {free : Addr → Prop} {A0 A1 : Nat → Prop} {H0 : Heap} {a : Array Value} {pc : Nat} {ls : Array Slot} {st0 rest : List Value}
theorem vx_keep {st₀ t T' : State} {L : List Loc} (h0 : st₀.heap = H) (e1 : T'.heap = t.heap) (hS : va_S A0 H0 H locs) (hA : ∀ q, q < H.size → A1 q → A0 q) (hf : ∀ q, free q → A0 q) (hL : ∀ q ∈ L, free q.base) (hF : va_F A1 st₀ t) :
    H.size ≤ T'.heap.size ∧ (∀ q : Nat, q < H.size → ¬ A1 q → T'.heap[q]? = H[q]?) ∧ va_S A0 H0 T'.heap (locs ++ L) := by
  obtain ⟨hz, hk⟩ := hF
  rw [h0] at hz hk
  exact ⟨by rw [e1]; exact hz, fun q h1 h2 => by rw [e1]; exact hk q h1 h2,
    ⟨Nat.le_trans hS.1 (by rw [e1]; exact hz), fun q h1 h2 => by rw [e1, hk q (Nat.lt_of_lt_of_le h1 hS.1) (fun z => h2 (hA q (Nat.lt_of_lt_of_le h1 hS.1) z))]; exact hS.2.1 q h1 h2, fun q hq => by
      rcases List.mem_append.mp hq with h | h
      · exact hS.2.2 q h
      · exact hf _ (hL q h)⟩⟩
theorem vx_calli {S SX : Type} {post : Int32 → S → Prop} {px : SX → Prop} {B : S → State → Prop} {BX : String → SX → State → Prop} {AX : Nat → Prop} (hr : vx_Run p l e R s m args below meth c H locs cells slots mc ms (F0 m pc ls st0) rest (va_Qi post B A1 a) (vx_X px BX AX) free) (hS : va_S A0 H0 H locs) (hA : ∀ q, q < H.size → A1 q → A0 q) (hf : ∀ q, free q → A0 q) (hAX : ∀ q, q < H.size → AX q → A0 q)
    (kx : ∀ (E : String) (ce : Cell) (q9 : Addr) (u : SX) (t : State) (H1 : Heap) (locs1 : List Loc), t.heap = H1 → s.vm.Alike t.vm → px u → BX E u t → H.size ≤ H1.size → (∀ q : Nat, q < H.size → ¬ AX q → H1[q]? = H[q]?) → va_S A0 H0 H1 locs1 → H1[q9]? = some ce → ce.vm = .none → s.vm.findClass E = some ce.cls → vx_W p l e R s m args below meth c H1 locs1 (cells + mc) (slots + ms) Q (F0 m pc ls rest) q9)
    (kk : ∀ (r : Int32) (u : S) (t : State) (H1 : Heap) (locs1 : List Loc), t.heap = H1 → s.vm.Alike t.vm → post r u → B u t → H.size ≤ H1.size → (∀ q : Nat, q < H.size → ¬ A1 q → H1[q]? = H[q]?) → va_S A0 H0 H1 locs1 → W p l e R s m args below meth c H1 locs1 (cells + mc) (slots + ms) Q (F0 m (pc + 3) ls (.int r :: rest))) : W p l e R s m args below meth c H locs cells slots Q (F0 m pc ls st0) := by
  intro T hT X
  rcases hr T hT X with ⟨v, st₀, t, T', L, h0, X', hL, e1, e2, ⟨⟨r, u, hv, hp, hb⟩, hF⟩, st⟩ | ⟨q, st₀, t, T', L, E, ce, h0, X', hL, e1, e2, ⟨u, hp, hb, hF⟩, hce, hcv, hcl, st⟩
  · cases hv
    obtain ⟨k1, k2, k3⟩ := vx_keep h0 e1 hS hA hf hL hF
    obtain ⟨t2, a1, b1⟩ := kk r u t T'.heap (locs ++ L) e1.symm (by rw [← e2]; exact X'.warmed.alike) hp hb k1 k2 k3 T' rfl X'
    exact ⟨t2, st t2 a1, b1⟩
  · obtain ⟨k1, k2, k3⟩ := vx_keep h0 e1 hS hAX hf hL hF
    obtain ⟨t2, a1, b1⟩ := kx E ce q u t T'.heap (locs ++ L) e1.symm (by rw [← e2]; exact X'.warmed.alike) hp hb k1 k2 k3 (by rw [e1]; exact hce) hcv hcl T' rfl X'
    exact ⟨t2, st.trans a1, b1⟩
theorem vx_calll {S SX : Type} {post : Int64 → S → Prop} {px : SX → Prop} {B : S → State → Prop} {BX : String → SX → State → Prop} {AX : Nat → Prop} (hr : vx_Run p l e R s m args below meth c H locs cells slots mc ms (F0 m pc ls st0) rest (va_Ql post B A1 a) (vx_X px BX AX) free) (hS : va_S A0 H0 H locs) (hA : ∀ q, q < H.size → A1 q → A0 q) (hf : ∀ q, free q → A0 q) (hAX : ∀ q, q < H.size → AX q → A0 q)
    (kx : ∀ (E : String) (ce : Cell) (q9 : Addr) (u : SX) (t : State) (H1 : Heap) (locs1 : List Loc), t.heap = H1 → s.vm.Alike t.vm → px u → BX E u t → H.size ≤ H1.size → (∀ q : Nat, q < H.size → ¬ AX q → H1[q]? = H[q]?) → va_S A0 H0 H1 locs1 → H1[q9]? = some ce → ce.vm = .none → s.vm.findClass E = some ce.cls → vx_W p l e R s m args below meth c H1 locs1 (cells + mc) (slots + ms) Q (F0 m pc ls rest) q9)
    (kk : ∀ (r : Int64) (u : S) (t : State) (H1 : Heap) (locs1 : List Loc), t.heap = H1 → s.vm.Alike t.vm → post r u → B u t → H.size ≤ H1.size → (∀ q : Nat, q < H.size → ¬ A1 q → H1[q]? = H[q]?) → va_S A0 H0 H1 locs1 → W p l e R s m args below meth c H1 locs1 (cells + mc) (slots + ms) Q (F0 m (pc + 3) ls (.long r :: rest))) : W p l e R s m args below meth c H locs cells slots Q (F0 m pc ls st0) := by
  intro T hT X
  rcases hr T hT X with ⟨v, st₀, t, T', L, h0, X', hL, e1, e2, ⟨⟨r, u, hv, hp, hb⟩, hF⟩, st⟩ | ⟨q, st₀, t, T', L, E, ce, h0, X', hL, e1, e2, ⟨u, hp, hb, hF⟩, hce, hcv, hcl, st⟩
  · cases hv
    obtain ⟨k1, k2, k3⟩ := vx_keep h0 e1 hS hA hf hL hF
    obtain ⟨t2, a1, b1⟩ := kk r u t T'.heap (locs ++ L) e1.symm (by rw [← e2]; exact X'.warmed.alike) hp hb k1 k2 k3 T' rfl X'
    exact ⟨t2, st t2 a1, b1⟩
  · obtain ⟨k1, k2, k3⟩ := vx_keep h0 e1 hS hAX hf hL hF
    obtain ⟨t2, a1, b1⟩ := kx E ce q u t T'.heap (locs ++ L) e1.symm (by rw [← e2]; exact X'.warmed.alike) hp hb k1 k2 k3 (by rw [e1]; exact hce) hcv hcl T' rfl X'
    exact ⟨t2, st.trans a1, b1⟩
theorem vx_callf {S SX : Type} {post : UInt32 → S → Prop} {px : SX → Prop} {B : S → State → Prop} {BX : String → SX → State → Prop} {AX : Nat → Prop} (hr : vx_Run p l e R s m args below meth c H locs cells slots mc ms (F0 m pc ls st0) rest (va_Qf post B A1 a) (vx_X px BX AX) free) (hS : va_S A0 H0 H locs) (hA : ∀ q, q < H.size → A1 q → A0 q) (hf : ∀ q, free q → A0 q) (hAX : ∀ q, q < H.size → AX q → A0 q)
    (kx : ∀ (E : String) (ce : Cell) (q9 : Addr) (u : SX) (t : State) (H1 : Heap) (locs1 : List Loc), t.heap = H1 → s.vm.Alike t.vm → px u → BX E u t → H.size ≤ H1.size → (∀ q : Nat, q < H.size → ¬ AX q → H1[q]? = H[q]?) → va_S A0 H0 H1 locs1 → H1[q9]? = some ce → ce.vm = .none → s.vm.findClass E = some ce.cls → vx_W p l e R s m args below meth c H1 locs1 (cells + mc) (slots + ms) Q (F0 m pc ls rest) q9)
    (kk : ∀ (r : UInt32) (u : S) (t : State) (H1 : Heap) (locs1 : List Loc), t.heap = H1 → s.vm.Alike t.vm → post r u → B u t → H.size ≤ H1.size → (∀ q : Nat, q < H.size → ¬ A1 q → H1[q]? = H[q]?) → va_S A0 H0 H1 locs1 → W p l e R s m args below meth c H1 locs1 (cells + mc) (slots + ms) Q (F0 m (pc + 3) ls (.float r :: rest))) : W p l e R s m args below meth c H locs cells slots Q (F0 m pc ls st0) := by
  intro T hT X
  rcases hr T hT X with ⟨v, st₀, t, T', L, h0, X', hL, e1, e2, ⟨⟨r, u, hv, hp, hb⟩, hF⟩, st⟩ | ⟨q, st₀, t, T', L, E, ce, h0, X', hL, e1, e2, ⟨u, hp, hb, hF⟩, hce, hcv, hcl, st⟩
  · cases hv
    obtain ⟨k1, k2, k3⟩ := vx_keep h0 e1 hS hA hf hL hF
    obtain ⟨t2, a1, b1⟩ := kk r u t T'.heap (locs ++ L) e1.symm (by rw [← e2]; exact X'.warmed.alike) hp hb k1 k2 k3 T' rfl X'
    exact ⟨t2, st t2 a1, b1⟩
  · obtain ⟨k1, k2, k3⟩ := vx_keep h0 e1 hS hAX hf hL hF
    obtain ⟨t2, a1, b1⟩ := kx E ce q u t T'.heap (locs ++ L) e1.symm (by rw [← e2]; exact X'.warmed.alike) hp hb k1 k2 k3 (by rw [e1]; exact hce) hcv hcl T' rfl X'
    exact ⟨t2, st.trans a1, b1⟩
theorem vx_calld {S SX : Type} {post : UInt64 → S → Prop} {px : SX → Prop} {B : S → State → Prop} {BX : String → SX → State → Prop} {AX : Nat → Prop} (hr : vx_Run p l e R s m args below meth c H locs cells slots mc ms (F0 m pc ls st0) rest (va_Qd post B A1 a) (vx_X px BX AX) free) (hS : va_S A0 H0 H locs) (hA : ∀ q, q < H.size → A1 q → A0 q) (hf : ∀ q, free q → A0 q) (hAX : ∀ q, q < H.size → AX q → A0 q)
    (kx : ∀ (E : String) (ce : Cell) (q9 : Addr) (u : SX) (t : State) (H1 : Heap) (locs1 : List Loc), t.heap = H1 → s.vm.Alike t.vm → px u → BX E u t → H.size ≤ H1.size → (∀ q : Nat, q < H.size → ¬ AX q → H1[q]? = H[q]?) → va_S A0 H0 H1 locs1 → H1[q9]? = some ce → ce.vm = .none → s.vm.findClass E = some ce.cls → vx_W p l e R s m args below meth c H1 locs1 (cells + mc) (slots + ms) Q (F0 m pc ls rest) q9)
    (kk : ∀ (r : UInt64) (u : S) (t : State) (H1 : Heap) (locs1 : List Loc), t.heap = H1 → s.vm.Alike t.vm → post r u → B u t → H.size ≤ H1.size → (∀ q : Nat, q < H.size → ¬ A1 q → H1[q]? = H[q]?) → va_S A0 H0 H1 locs1 → W p l e R s m args below meth c H1 locs1 (cells + mc) (slots + ms) Q (F0 m (pc + 3) ls (.double r :: rest))) : W p l e R s m args below meth c H locs cells slots Q (F0 m pc ls st0) := by
  intro T hT X
  rcases hr T hT X with ⟨v, st₀, t, T', L, h0, X', hL, e1, e2, ⟨⟨r, u, hv, hp, hb⟩, hF⟩, st⟩ | ⟨q, st₀, t, T', L, E, ce, h0, X', hL, e1, e2, ⟨u, hp, hb, hF⟩, hce, hcv, hcl, st⟩
  · cases hv
    obtain ⟨k1, k2, k3⟩ := vx_keep h0 e1 hS hA hf hL hF
    obtain ⟨t2, a1, b1⟩ := kk r u t T'.heap (locs ++ L) e1.symm (by rw [← e2]; exact X'.warmed.alike) hp hb k1 k2 k3 T' rfl X'
    exact ⟨t2, st t2 a1, b1⟩
  · obtain ⟨k1, k2, k3⟩ := vx_keep h0 e1 hS hAX hf hL hF
    obtain ⟨t2, a1, b1⟩ := kx E ce q u t T'.heap (locs ++ L) e1.symm (by rw [← e2]; exact X'.warmed.alike) hp hb k1 k2 k3 (by rw [e1]; exact hce) hcv hcl T' rfl X'
    exact ⟨t2, st.trans a1, b1⟩
theorem vx_callv {S SX : Type} {post : S → Prop} {px : SX → Prop} {B : S → State → Prop} {BX : String → SX → State → Prop} {AX : Nat → Prop} (hr : vx_Run p l e R s m args below meth c H locs cells slots mc ms (F0 m pc ls st0) rest (va_Qv post B A1 a) (vx_X px BX AX) free) (hS : va_S A0 H0 H locs) (hA : ∀ q, q < H.size → A1 q → A0 q) (hf : ∀ q, free q → A0 q) (hAX : ∀ q, q < H.size → AX q → A0 q)
    (kx : ∀ (E : String) (ce : Cell) (q9 : Addr) (u : SX) (t : State) (H1 : Heap) (locs1 : List Loc), t.heap = H1 → s.vm.Alike t.vm → px u → BX E u t → H.size ≤ H1.size → (∀ q : Nat, q < H.size → ¬ AX q → H1[q]? = H[q]?) → va_S A0 H0 H1 locs1 → H1[q9]? = some ce → ce.vm = .none → s.vm.findClass E = some ce.cls → vx_W p l e R s m args below meth c H1 locs1 (cells + mc) (slots + ms) Q (F0 m pc ls rest) q9)
    (kk : ∀ (u : S) (t : State) (H1 : Heap) (locs1 : List Loc), t.heap = H1 → s.vm.Alike t.vm → post u → B u t → H.size ≤ H1.size → (∀ q : Nat, q < H.size → ¬ A1 q → H1[q]? = H[q]?) → va_S A0 H0 H1 locs1 → W p l e R s m args below meth c H1 locs1 (cells + mc) (slots + ms) Q (F0 m (pc + 3) ls (rest))) : W p l e R s m args below meth c H locs cells slots Q (F0 m pc ls st0) := by
  intro T hT X
  rcases hr T hT X with ⟨v, st₀, t, T', L, h0, X', hL, e1, e2, ⟨⟨u, hv, hp, hb⟩, hF⟩, st⟩ | ⟨q, st₀, t, T', L, E, ce, h0, X', hL, e1, e2, ⟨u, hp, hb, hF⟩, hce, hcv, hcl, st⟩
  · cases hv
    obtain ⟨k1, k2, k3⟩ := vx_keep h0 e1 hS hA hf hL hF
    obtain ⟨t2, a1, b1⟩ := kk u t T'.heap (locs ++ L) e1.symm (by rw [← e2]; exact X'.warmed.alike) hp hb k1 k2 k3 T' rfl X'
    exact ⟨t2, st t2 a1, b1⟩
  · obtain ⟨k1, k2, k3⟩ := vx_keep h0 e1 hS hAX hf hL hF
    obtain ⟨t2, a1, b1⟩ := kx E ce q u t T'.heap (locs ++ L) e1.symm (by rw [← e2]; exact X'.warmed.alike) hp hb k1 k2 k3 (by rw [e1]; exact hce) hcv hcl T' rfl X'
    exact ⟨t2, st.trans a1, b1⟩
/-- caught by the row x of this method's table; the rows ahead don't take it -/
theorem vx_catch {own name : String} {E : String} {ce : Cell} {q : Addr} (hown : s.vm.findClass own = some m.cls) (pre : List ExceptionTableEntry) (x : ExceptionTableEntry) (suf : List ExceptionTableEntry) (hsplit : c.exceptionTable.toList = pre ++ x :: suf)
    (hpass : ∀ z ∈ pre, covers z pc = false ∨ (z.catchType ≠ 0 ∧ ∃ nm : String, (Cond.classLink own z.catchType nm).before args s = true ∧ va_Nc E nm s)) (hx : covers x pc = true) (h0 : x.catchType ≠ 0)
    (hlink : (Cond.classLink own x.catchType name).before args s = true) (hcast : (Cond.castable E name).before args s = true) (hcell : H[q]? = some ce) (hv : ce.vm = .none) (hcl : s.vm.findClass E = some ce.cls)
    (kk : W p l e R s m args below meth c H locs cells slots Q (F0 m x.handlerPc ls [.ref q])) : vx_W p l e R s m args below meth c H locs cells slots Q (F0 m pc ls rest) q := by
  intro T hT X
  have hpl : e.platform.magicAccessors = ({} : Platform).magicAccessors := by rw [X.admits.platform]
  obtain ⟨c3, c4, hc3, hc4, hasg⟩ := Cond.castable_spec hcast
  cases Option.some.inj (hc3.symm.trans hcl)
  obtain ⟨c5, hc5, hcl5⟩ := Cond.classLink_spec hown hlink e.platform hpl
  cases Option.some.inj (hc4.symm.trans hc5)
  obtain ⟨vm', X', st⟩ := X.thenCaughtThrough q (g := F0 m pc ls rest) rfl (Steps.refl _) (by rw [hT]; exact hcell) (by rw [hv]; rfl) (by obtain ⟨k9, h9, -⟩ := Vm.findClass_spec hcl; exact ⟨k9, h9⟩) pre x suf hsplit
    (fun z hz => by
      rcases hpass z hz with h | ⟨hz0, nm, hl1, hn1⟩
      · exact Or.inl h
      · obtain ⟨c6, hc6, hcl6⟩ := Cond.classLink_spec hown hl1 e.platform hpl
        obtain ⟨a8, b8, h1, h2, h3⟩ := hn1
        cases Option.some.inj (h1.symm.trans hcl)
        cases Option.some.inj (h2.symm.trans hc6)
        exact Or.inr ⟨hz0, _, hcl6, h3⟩) hx (Or.inr ⟨h0, c4, hcl5, hasg⟩)
  obtain ⟨t, a1, b1⟩ := kk (T.setVm vm') hT X'
  exact ⟨t, st.trans a1, b1⟩
end Rows
section Ends
variable {p : Program} {l : Launch} {e : Env} {R : Room} {s : State} {m : MethodId} {args : Array Value} {below : List Frame} {meth : Method} {c : Code} {H : Heap} {locs : List Loc} {cells slots : Nat} {Q : State → Prop}
variable {mc ms : Nat} {free : Addr → Prop} {A0 A1 : Nat → Prop} {H0 : Heap} {a : Array Value} {ls : Array Slot} {st0 rest : List Value}
variable {Qc : Array Value → State → Outcome → State → Prop} {XC : String → State → State → Prop}
/-- what a body that may throw owes at its end -/
def vx_MQ (below : List Frame) (Qc : Array Value → State → Outcome → State → Prop) (XC : String → State → State → Prop) (a : Array Value) (s : State) (mc ms : Nat) (free : Addr → Prop) : State → Prop := fun t =>
  ∃ o, t.status = .running ∧ Ended t below o ∧ vx_Q Qc XC mc ms free a s o t
theorem vx_ret {g : JFrame} {mc ms : Nat} (k : W p l e R s m args below meth c H locs cells slots (MQ below Qc args s mc ms free) g) : W p l e R s m args below meth c H locs cells slots (vx_MQ below Qc XC args s mc ms free) g := by
  intro T hT X
  obtain ⟨t, a1, o, b1, b2, b3, b4⟩ := k T hT X
  exact ⟨t, a1, o, b1, b2, Or.inl ⟨b3, b4⟩⟩
/-- not caught here: it goes on to the caller -/
theorem vx_widen {g : JFrame} {q : Addr} {k n : Nat} (h1 : cells ≤ k) (h2 : slots ≤ n) (kk : vx_W p l e R s m args below meth c H locs k n Q g q) : vx_W p l e R s m args below meth c H locs cells slots Q g q := fun T hT X => kk T hT (stand_widen X h1 h2)
theorem vx_out {pc : Nat} {E : String} {ce : Cell} {q : Addr} {mc ms : Nat} (hout : ∀ x ∈ c.exceptionTable.toList, covers x pc = false) (hlocks : meth.locks = false) (hcell : H[q]? = some ce) (hv : ce.vm = .none) (hcl : s.vm.findClass E = some ce.cls)
    (hx : ∀ t : State, t.heap = H → s.vm.Alike t.vm → XC E s t) (hf : ∀ z ∈ locs, free z.base) (hc : cells ≤ mc) (hs : slots ≤ ms) :
    vx_W p l e R s m args below meth c H locs cells slots (vx_MQ below Qc XC args s mc ms free) (F0 m pc ls rest) q := by
  intro T hT X
  obtain ⟨st1, hrun, hend, hW, hsm⟩ := X.leaveThrown q (g := F0 m pc ls rest) rfl rfl rfl hout hlocks
  have hcell9 : (T.setFrames (.throwing q :: below)).heap[q]? = some ce := by
    show T.heap[q]? = some ce
    rw [hT]; exact hcell
  exact ⟨_, st1, .threw q, hrun, hend, Or.inr ⟨q, rfl, E, ce, locs, hx _ hT hW.alike, hcell9, hv, hcl, hW, hsm.mono hc hs, hf⟩⟩
theorem vx_frame {U : State} {k n : Nat} (h : s.sameButNew ({ U with vm := s.vm } : State) locs k n) : s.heap.size ≤ U.heap.size ∧ ∀ q : Nat, q < s.heap.size → (∀ z ∈ locs, z.base ≠ q) → U.heap[q]? = s.heap[q]? := by
  obtain ⟨-, h2, -, -, -, h6⟩ := h
  refine ⟨h2, fun q hq hz => ?_⟩
  obtain ⟨c9, e1, e2, e3, e4⟩ := h6 q _ (Array.getElem?_eq_getElem hq)
  have hs : c9.slots = (s.heap[q]).slots := Array.ext_getElem? fun i => e4 i fun hm => hz _ hm rfl
  have h9 : c9 = s.heap[q] := by
    rw [hs] at e2
    exact e2
  have e5 : U.heap[q]? = some c9 := e1
  rw [e5, h9, Array.getElem?_eq_getElem hq]
/-- the words of a throw but the four that speak of the heap -/
def vx_no (w : Cond) : Bool := decide (w ≠ .isRef (.static Bundle.tN "UNASSIGNED_STACK" Bundle.steD)) && decide (w ≠ .isRef (.static Bundle.tN "SUPPRESSED_SENTINEL" Bundle.listD)) && decide (w ≠ .laysStatic Bundle.tN "UNASSIGNED_STACK" Bundle.steD) && decide (w ≠ .laysStatic Bundle.tN "SUPPRESSED_SENTINEL" Bundle.listD)
def vx_at0 (own : String) (ic : Nat) (X : String) (names : List String) : List Cond := (Bundle.ownAtoms0 own ic X names).filter vx_no
def vx_atS (own : String) (ic : Nat) (X : String) (names : List String) : List Cond := (Bundle.ownAtoms own ic X names).filter vx_no
/-- a word that the tables alone decide, or a good one -/
def vx_ot (w : Cond) : Bool := w.onTables || goodWord w
theorem vx_ot_at {args a' : Array Value} {s U : State} {w : Cond} (hW : s.WarmedH U.vm) (hvm : s.vm = U.vm) (hg : vx_ot w = true) (h : w.before args s = true) : w.before a' U = true := by
  simp only [vx_ot, Bool.or_eq_true] at hg
  rcases hg with hg | hg
  · exact va_tabs hg hvm h
  · exact word_at hW (good_of_word hg) h
/-- a list's words: the good ones out of the method's own list, the others by premises of their own -/
theorem vx_hat {args : Array Value} {s : State} {L B : List Cond} (h1 : ∀ w ∈ L.filter goodWord, w.before args s = true) (h2 : ∀ w ∈ L.filter (fun w => !goodWord w), w ∈ B) (h3 : ∀ w ∈ B, w.before args s = true) : ∀ w ∈ L, w.before args s = true := by
  intro w hw
  by_cases g : goodWord w = true
  · exact h1 w (List.mem_filter.mpr ⟨hw, g⟩)
  · refine h3 w (h2 w (List.mem_filter.mpr ⟨hw, ?_⟩))
    show (!goodWord w) = true
    cases hgw : goodWord w
    · rfl
    · exact absurd hgw g
theorem vx_c {args : Array Value} {s : State} {w : Cond} {B : List Cond} (h : w.before args s = true) (t : ∀ w ∈ B, w.before args s = true) : ∀ w' ∈ w :: B, w'.before args s = true := fun w' h' => (List.mem_cons.mp h').elim (fun e => by rw [e]; exact h) (t w')
theorem vx_n {args : Array Value} {s : State} : ∀ w ∈ ([] : List Cond), w.before args s = true := fun _ h => nomatch h
theorem vx_own {args : Array Value} {s : State} {L : List Cond} (h1 : ∀ w ∈ L.filter vx_no, w.before args s = true)
    (hU : (Cond.isRef (.static Bundle.tN "UNASSIGNED_STACK" Bundle.steD)).before args s = true) (hN : (Cond.isRef (.static Bundle.tN "SUPPRESSED_SENTINEL" Bundle.listD)).before args s = true)
    (lU : (Cond.laysStatic Bundle.tN "UNASSIGNED_STACK" Bundle.steD).before args s = true) (lN : (Cond.laysStatic Bundle.tN "SUPPRESSED_SENTINEL" Bundle.listD).before args s = true) : ∀ w ∈ L, w.before args s = true := by
  intro w hw
  by_cases e1 : w = .isRef (.static Bundle.tN "UNASSIGNED_STACK" Bundle.steD)
  · rw [e1]; exact hU
  · by_cases e2 : w = .isRef (.static Bundle.tN "SUPPRESSED_SENTINEL" Bundle.listD)
    · rw [e2]; exact hN
    · by_cases e3 : w = .laysStatic Bundle.tN "UNASSIGNED_STACK" Bundle.steD
      · rw [e3]; exact lU
      · by_cases e4 : w = .laysStatic Bundle.tN "SUPPRESSED_SENTINEL" Bundle.listD
        · rw [e4]; exact lN
        · exact h1 w (List.mem_filter.mpr ⟨hw, by unfold vx_no; rw [decide_eq_true e1, decide_eq_true e2, decide_eq_true e3, decide_eq_true e4]; rfl⟩)
/-- where a static field lies, its class's statics cell in H -/
def vx_L (C n d : String) (A : Nat → Prop) (U : State) (H : Heap) : Prop := ∃ (c : ClassId) (k : Class) (i : Nat) (f : Field) (a : Nat) (cell : Cell), U.vm.findClass C = some c ∧ U.fieldFound? C n d = some (c, k, i, f) ∧ f.isStatic = true ∧ k.statics = some a ∧ H[a]? = some cell ∧ cell.vm.isStatics = true ∧ cell.cls = c ∧ f.slot < cell.slots.size ∧ k.staticTypes[f.slot]? = some f.type ∧ ¬ A a
theorem vx_L.moved {C n d : String} {A : Nat → Prop} {u U : State} {H : Heap} (hvm : u.vm.Alike U.vm) (h : vx_L C n d A u H) : vx_L C n d A U H := by
  obtain ⟨c, k, i, f, a, cell, h1, h2, h3, h4, h5, h6, h7, h8, h9, h10⟩ := h
  obtain ⟨k', hi', he⟩ := State.fieldFound?_setVm hvm h2
  exact ⟨c, k', i, f, a, cell, by rw [hvm.findClass]; exact h1, hi', h3, by rw [he]; exact h4, h5, h6, h7, h8, by rw [he]; exact h9, h10⟩
theorem vx_L.kept {C n d : String} {A : Nat → Prop} {U : State} {H H1 : Heap} (h : vx_L C n d A U H) (hq : ∀ a : Nat, a < H.size → ¬ A a → H1[a]? = H[a]?) : vx_L C n d A U H1 := by
  obtain ⟨c, k, i, f, a, cell, h1, h2, h3, h4, h5, h6, h7, h8, h9, h10⟩ := h
  exact ⟨c, k, i, f, a, cell, h1, h2, h3, h4, by rw [hq a (Array.getElem?_eq_some_iff.mp h5).1 h10]; exact h5, h6, h7, h8, h9, h10⟩
theorem vx_L.narrow {C n d : String} {A B : Nat → Prop} {U : State} {H : Heap} (h : vx_L C n d A U H) (hAB : ∀ q, B q → A q) : vx_L C n d B U H := by
  obtain ⟨c, k, i, f, a, cell, h1, h2, h3, h4, h5, h6, h7, h8, h9, h10⟩ := h
  exact ⟨c, k, i, f, a, cell, h1, h2, h3, h4, h5, h6, h7, h8, h9, fun z => h10 (hAB _ z)⟩
theorem vx_L.word {C n d : String} {A : Nat → Prop} {s : State} {args : Array Value} (h : vx_L C n d A s s.heap) : (Cond.laysStatic C n d).before args s = true := by
  obtain ⟨c, k, i, f, a, cell, h1, h2, h3, h4, h5, h6, h7, h8, h9, -⟩ := h
  show (Cond.laysStatic C n d).holds args s none s [] = true
  exact Cond.laysStatic_of h1 h2 h3 h4 h5 h6 h7 h8 h9
/-- .. and what it holds: null or some reference -/
def vx_Zq (C n d : String) (A : Nat → Prop) (U : State) (H : Heap) : Prop := va_Zq C n d A U H ∧ vx_L C n d A U H
theorem vx_Zq.moved {C n d : String} {A : Nat → Prop} {u U : State} {H : Heap} (hvm : u.vm.Alike U.vm) (h : vx_Zq C n d A u H) : vx_Zq C n d A U H := ⟨va_Zq.moved hvm h.1, vx_L.moved hvm h.2⟩
theorem vx_Zq.kept {C n d : String} {A : Nat → Prop} {U : State} {H H1 : Heap} (h : vx_Zq C n d A U H) (hq : ∀ a : Nat, a < H.size → ¬ A a → H1[a]? = H[a]?) : vx_Zq C n d A U H1 := ⟨va_Zq.kept h.1 hq, vx_L.kept h.2 hq⟩
theorem vx_Zq.narrow {C n d : String} {A B : Nat → Prop} {U : State} {H : Heap} (h : vx_Zq C n d A U H) (hAB : ∀ q, B q → A q) : vx_Zq C n d B U H := ⟨va_Zq.narrow h.1 hAB, vx_L.narrow h.2 hAB⟩
theorem vx_Zqof {args : Array Value} {s : State} {C n d : String} {A : Nat → Prop} (hl : (Cond.laysStatic C n d).before args s = true) (hini : (Cond.initialized C).before args s = true) (h : (Cond.isRef (.static C n d)).before args s = true) (hA : ∀ a : Nat, a < s.heap.size → ¬ A a) : vx_Zq C n d A s s.heap := by
  refine ⟨va_Zqof hl hini h hA, ?_⟩
  obtain ⟨c, k, i, f, a, cell, h1, h2, h3, h4, h5, h6, h7, h8, h9⟩ := Cond.laysStatic_spec hl
  exact ⟨c, k, i, f, a, cell, h1, h2, h3, h4, h5, h6, h7, h8, h9, hA a (Array.getElem?_eq_some_iff.mp h5).1⟩
theorem vx_isRef {C n d : String} {v : Value} {A : Nat → Prop} {s : State} {args : Array Value} (h : va_Z C n d v A s s.heap) (hv : v.isRef = true) : (Cond.isRef (.static C n d)).before args s = true := by
  obtain ⟨cf, kf, fi, f, a, cell, h1, h2, h3, h4, h5, h6, h7, -⟩ := h
  have he : (Term.static C n d).eval args s none [] s = some v := by
    simp [Term.eval, State.fieldNamed?, h1, h2, h4, h5, h6, h7]
  simp only [Cond.before, Cond.holds, Cond.value, he]
  cases v <;> simp_all [Value.isRef]
theorem vx_isRefq {C n d : String} {A : Nat → Prop} {s : State} {args : Array Value} (h : va_Zq C n d A s s.heap) : (Cond.isRef (.static C n d)).before args s = true := by
  rcases h with h | ⟨t, h⟩
  · exact vx_isRef h rfl
  · exact vx_isRef h rfl
/-- the same frame, seen from here: as if the method were called anew in this heap -/
theorem vx_rebase {T : State} (X : Stand p l e R s m args below meth c T locs cells slots) {R' : Room} (hf : R'.frames ≤ R.frames) (hl : R'.locals ≤ R.locals) (hc : cells + R'.cells ≤ R.cells) (hs : slots + R'.slots ≤ R.slots) :
    Stand p l e R' ((T.setVm s.vm).setFrames (.invoking m args :: below)) m args below meth c T [] 0 0 := by
  have htop : (T.setVm s.vm).topJava?.isSome := X.here.top
  have hF : ((T.setVm s.vm).setFrames (.invoking m args :: below)).frames = .invoking m args :: below := State.frames_setFrames _ (State.cur_lt_of_top htop)
  obtain ⟨g₀, hg0⟩ := Option.isSome_iff_exists.mp htop
  obtain ⟨r, hr⟩ := State.topJava?_eq_some.mp hg0
  have hl9 : e.platform.stackLimits (T.setVm s.vm).me = e.platform.stackLimits s.me := X.limits
  have hb9 : (T.setVm s.vm).me.stackBytes = s.me.stackBytes := X.bytes
  refine ⟨X.admits, X.cas, X.clock, hF, ?_, X.hears, X.method, X.code, X.here, X.tail, X.warmed, ?_, ?_, ?_⟩
  · have h := X.room
    have hU : ((T.setVm s.vm).setFrames (.invoking m args :: below)).localsInUse = s.localsInUse := by
      rw [State.localsInUse_invoking hF (meth := meth) (c := c) X.method X.code, State.localsInUse_invoking X.frames X.method X.code]
    simp only [State.hasRoom, Bool.and_eq_true, decide_eq_true_eq] at h ⊢
    obtain ⟨⟨⟨⟨h1, h2, h3, h4, h5, h6⟩, h7⟩, h8⟩, h9⟩ := h
    rw [X.frames, List.length_cons] at h2 h3
    have q1 := X.heapSize
    have q2 := X.used
    simp only [hF, hU, List.length_cons, State.stackLimits_setFrames, State.stackBytes_setFrames, hl9, hb9]
    refine ⟨⟨⟨⟨by omega, by omega, by omega, by omega, by omega, h6⟩, ?_⟩, ?_⟩, X.book⟩
    · show T.heap.size + R'.cells ≤ e.platform.maxCells
      omega
    · show T.slotsUsed + R'.slots ≤ e.platform.maxSlots
      omega
  · rw [State.stackLimits_setFrames]; rfl
  · rw [State.stackBytes_setFrames]; rfl
  · refine ⟨?_, Nat.le_refl _, Nat.le_refl _, ?_, ?_, fun a c9 h9 => ⟨c9, h9, rfl, rfl, fun _ _ => rfl⟩⟩
    · obtain ⟨t, ht, -⟩ := State.frames_cons hr
      show T.setVm s.vm = { ((T.setVm s.vm).setFrames (.invoking m args :: below)).setFrames (T.setVm s.vm).frames with heap := T.heap, slotsUsed := T.slotsUsed }
      rw [State.setFrames_setFrames, State.setFrames_self ht]
      rfl
    · show T.slotsUsed = T.slotsUsed + ((T.heap.toList.drop T.heap.size).map (·.slots.size)).sum
      rw [List.drop_eq_nil_of_le (Nat.le_of_eq Array.length_toList)]
      rfl
    · show ((T.heap.toList.drop T.heap.size).map (·.slots.size)).sum ≤ 0
      rw [List.drop_eq_nil_of_le (Nat.le_of_eq Array.length_toList)]
      exact Nat.le_refl _
/-- 'throw new E()': new; dup; invokespecial; athrow -/
theorem vx_throw0 {cc : ByteArray} {pc : Nat} (hexec : p.tables.exec = Jvm.exec) (hb : c.code = cc) (hl : l.stackTraces = false) {own cls : String} {names : List String} {ik ic mc ms : Nat} {A : Nat → Prop}
    (hown : s.vm.findClass own = some m.cls) (hcls : Bundle.fit cls = true) (hnames : ∀ n ∈ names, Bundle.fit n = true)
    (hk : (Cond.classLink own ik cls).before args s = true) (hini : (Cond.initialized cls).before args s = true) (hat : ∀ w ∈ vx_at0 own ic cls names, w.before args s = true)
    (hgood : ∀ w ∈ Cond.classLink own ik cls :: Cond.initialized cls :: vx_at0 own ic cls names, vx_ot w = true)
    (hU : vx_Zq Bundle.tN "UNASSIGNED_STACK" Bundle.steD A s s.heap) (hN : vx_Zq Bundle.tN "SUPPRESSED_SENTINEL" Bundle.listD A s s.heap) (hS : va_S A s.heap H locs) (hsize : ls.size = c.maxLocals)
    (d0 : decode cc pc = .ok (.new ik, 3)) (d3 : decode cc (pc + 3) = .ok (.dup, 1)) (d4 : decode cc (pc + 4) = .ok (.invokespecial ic, 3)) (d7 : decode cc (pc + 7) = .ok (.athrow, 1))
    (hout : ∀ x ∈ c.exceptionTable.toList, covers x (pc + 7) = false)
    (hRframes : names.length + 3 < R.frames) (hRlocals : (rest.map fun v => v.category).sum + (13 * (names.length + 1) + 42) ≤ R.locals) (hRcells : cells + 1 ≤ R.cells) (hRslots : slots + 6 ≤ R.slots) (hlocks : meth.locks = false)
    (hx : ∀ t : State, s.vm.Alike t.vm → H.size ≤ t.heap.size → (∀ q : Nat, q < H.size → t.heap[q]? = H[q]?) → XC cls s t)
    (hf : ∀ z ∈ locs, free z.base) (hc : cells + 1 ≤ mc) (hs : slots + 6 ≤ ms) :
    W p l e R s m args below meth c H locs cells slots (vx_MQ below Qc XC args s mc ms free) (F0 m pc ls rest) := by
  intro T hT X
  have htr : e.platform.stackTraces = false := (show e.platform.stackTraces = l.stackTraces by rw [X.admits.platform]).trans hl
  have Y := vx_rebase X (R' := { frames := R.frames, locals := R.locals, cells := 1, slots := 6 }) (Nat.le_refl _) (Nat.le_refl _) hRcells hRslots
  obtain ⟨s', hA⟩ : ∃ z, z = (T.setVm s.vm).setFrames (.invoking m args :: below) := ⟨_, rfl⟩
  rw [← hA] at Y
  have hvm : s'.vm = s.vm := by rw [hA]; rfl
  have hhp : s'.heap = H := by rw [hA]; exact hT
  have hW0 : s.WarmedH s'.vm := by rw [hvm]; exact State.WarmedH.refl s
  have hat' : ∀ w ∈ vx_at0 own ic cls names, w.before args s' = true := fun w hw => vx_ot_at hW0 hvm.symm (hgood w (List.mem_cons_of_mem _ (List.mem_cons_of_mem _ hw))) (hat w hw)
  have hk' : (Cond.classLink own ik cls).before args s' = true := vx_ot_at hW0 hvm.symm (hgood _ List.mem_cons_self) hk
  have hini' : (Cond.initialized cls).before args s' = true := vx_ot_at hW0 hvm.symm (hgood _ (List.mem_cons_of_mem _ List.mem_cons_self)) hini
  have hU' : vx_Zq Bundle.tN "UNASSIGNED_STACK" Bundle.steD A s' s'.heap := by rw [hhp]; exact vx_Zq.moved hW0.alike (hU.kept hS.2.1)
  have hN' : vx_Zq Bundle.tN "SUPPRESSED_SENTINEL" Bundle.listD A s' s'.heap := by rw [hhp]; exact vx_Zq.moved hW0.alike (hN.kept hS.2.1)
  have h : ∀ w ∈ Bundle.ownAtoms0 own ic cls names, w.before args s' = true := vx_own hat' (vx_isRefq hU'.1) (vx_isRefq hN'.1) hU'.2.word hN'.2.word
  have hown' : s'.vm.findClass own = some m.cls := by rw [hvm]; exact hown
  have hins : (Cond.instantiable cls 6).before args s' = true := h _ (by simp [Bundle.ownAtoms0])
  obtain ⟨vm₁, cX, kX, hfX, hkX, -, -, X₁, st1⟩ := Y.newCold hexec (own := own) (C := cls) (index := ik) (n := 6) hown' hk' hins hini'
    (g := F0 m pc ls rest) rfl (by rw [hb]; exact d0) (Nat.le_refl _) (Nat.le_refl _)
  generalize hT1 : (T.setVm vm₁).pushCell { cls := cX, slots := kX.instanceTypes.map defaultValue, vm := .none } = T1 at X₁ st1
  have hcat : (Value.ref T.heap.size).category = 1 := rfl
  have hcellA : T1.heap[T.heap.size]? = some (freshCell cX kX) := by rw [← hT1]; exact State.heap_pushCell_size _ _
  have d3' : decode c.code (pc + 3) = .ok (.dup, 1) := by rw [hb]; exact d3
  obtain ⟨U, hsteps, hrun, hend, hW, hsame, ce, hce, hO⟩ := X₁.ctorThrow0 hexec htr (own := own) (cls := cls) (names := names) (ic := ic) hown' hcls hnames h (fun x hx => nomatch hx) hfX hkX hcellA (by rw [hhp, hT]; exact Nat.le_refl _)
    (g := { method := m, pc := pc + 4, locals := ls, stack := .ref T.heap.size :: .ref T.heap.size :: rest, locked := none }) rfl hsize rfl rfl (rest := rest) rfl
    (by rw [hb]; exact d4) (by rw [hb]; exact d7) hout hRframes (by simp only [List.map_cons, List.sum_cons, hcat]; omega) hlocks
  obtain ⟨f1, f2⟩ := vx_frame hsame
  rw [hhp] at f1 f2
  have hWs : s.WarmedH U.vm := State.WarmedH.trans hW0 hW
  have hcl : s.vm.findClass cls = some ce.cls := by
    have h9 := hO.cls
    rw [hvm] at h9
    exact h9
  have hall : s.sameButNew ({ U with vm := s.vm } : State) locs mc ms := by
    subst hA
    obtain ⟨e1, e2⟩ := hsame
    rw [State.setFrames_setFrames] at e1
    have h2 : (T.setVm s.vm).sameButNew ({ U with vm := s.vm } : State) [] (0 + 1) (0 + 6) := ⟨e1, e2⟩
    have h3 := X.same.trans h2
    rw [List.append_nil] at h3
    exact h3.mono hc hs
  refine ⟨U, ?_, .threw T.heap.size, hrun, hend, Or.inr ⟨T.heap.size, rfl, cls, ce, locs, hx U hWs.alike f1 (fun q hq => f2 q hq (fun z hz => nomatch hz)), hce, hO.vm, hcl, hWs, hall, hf⟩⟩
  refine st1 _ ?_
  show Steps p.tables e below (T1.setTop { method := m, pc := pc + 3, locals := ls, stack := .ref T.heap.size :: rest, locked := none }) _
  jvm_step X₁.here [X₁.here.top, hexec, d3', Value.category]
  exact hsteps
/-- 'throw new E("text")': new; dup; ldc; invokespecial; athrow -/
theorem vx_throwS {cc : ByteArray} {pc : Nat} (hexec : p.tables.exec = Jvm.exec) (hb : c.code = cc) (hl : l.stackTraces = false) {own cls text : String} {names : List String} {ik is ic mc ms sa : Nat} {A : Nat → Prop}
    (hown : s.vm.findClass own = some m.cls) (hcls : Bundle.fit cls = true) (hnames : ∀ n ∈ names, Bundle.fit n = true)
    (hk : (Cond.classLink own ik cls).before args s = true) (hini : (Cond.initialized cls).before args s = true) (hstr : vk_R own is text sa s) (hat : ∀ w ∈ vx_atS own ic cls names, w.before args s = true)
    (hgood : ∀ w ∈ Cond.classLink own ik cls :: Cond.initialized cls :: vx_atS own ic cls names, vx_ot w = true)
    (hU : vx_Zq Bundle.tN "UNASSIGNED_STACK" Bundle.steD A s s.heap) (hN : vx_Zq Bundle.tN "SUPPRESSED_SENTINEL" Bundle.listD A s s.heap) (hS : va_S A s.heap H locs) (hsize : ls.size = c.maxLocals)
    (d0 : decode cc pc = .ok (.new ik, 3)) (d3 : decode cc (pc + 3) = .ok (.dup, 1)) (d4 : decode cc (pc + 4) = .ok (.ldc is, 2)) (d6 : decode cc (pc + 6) = .ok (.invokespecial ic, 3)) (d9 : decode cc (pc + 9) = .ok (.athrow, 1))
    (hout : ∀ x ∈ c.exceptionTable.toList, covers x (pc + 9) = false)
    (hRframes : names.length + 3 < R.frames) (hRlocals : (rest.map fun v => v.category).sum + (13 * (names.length + 1) + 43) ≤ R.locals) (hRcells : cells + 1 ≤ R.cells) (hRslots : slots + 6 ≤ R.slots) (hlocks : meth.locks = false)
    (hx : ∀ t : State, s.vm.Alike t.vm → H.size ≤ t.heap.size → (∀ q : Nat, q < H.size → t.heap[q]? = H[q]?) → XC cls s t)
    (hf : ∀ z ∈ locs, free z.base) (hc : cells + 1 ≤ mc) (hs : slots + 6 ≤ ms) :
    W p l e R s m args below meth c H locs cells slots (vx_MQ below Qc XC args s mc ms free) (F0 m pc ls rest) := by
  intro T hT X
  have htr : e.platform.stackTraces = false := (show e.platform.stackTraces = l.stackTraces by rw [X.admits.platform]).trans hl
  have Y := vx_rebase X (R' := { frames := R.frames, locals := R.locals, cells := 1, slots := 6 }) (Nat.le_refl _) (Nat.le_refl _) hRcells hRslots
  obtain ⟨s', hA⟩ : ∃ z, z = (T.setVm s.vm).setFrames (.invoking m args :: below) := ⟨_, rfl⟩
  rw [← hA] at Y
  have hvm : s'.vm = s.vm := by rw [hA]; rfl
  have hhp : s'.heap = H := by rw [hA]; exact hT
  have hW0 : s.WarmedH s'.vm := by rw [hvm]; exact State.WarmedH.refl s
  have hat' : ∀ w ∈ vx_atS own ic cls names, w.before args s' = true := fun w hw => vx_ot_at hW0 hvm.symm (hgood w (List.mem_cons_of_mem _ (List.mem_cons_of_mem _ hw))) (hat w hw)
  have hk' : (Cond.classLink own ik cls).before args s' = true := vx_ot_at hW0 hvm.symm (hgood _ List.mem_cons_self) hk
  have hini' : (Cond.initialized cls).before args s' = true := vx_ot_at hW0 hvm.symm (hgood _ (List.mem_cons_of_mem _ List.mem_cons_self)) hini
  have hU' : vx_Zq Bundle.tN "UNASSIGNED_STACK" Bundle.steD A s' s'.heap := by rw [hhp]; exact vx_Zq.moved hW0.alike (hU.kept hS.2.1)
  have hN' : vx_Zq Bundle.tN "SUPPRESSED_SENTINEL" Bundle.listD A s' s'.heap := by rw [hhp]; exact vx_Zq.moved hW0.alike (hN.kept hS.2.1)
  have h : ∀ w ∈ Bundle.ownAtoms own ic cls names, w.before args s' = true := vx_own hat' (vx_isRefq hU'.1) (vx_isRefq hN'.1) hU'.2.word hN'.2.word
  have hown' : s'.vm.findClass own = some m.cls := by rw [hvm]; exact hown
  have hins : (Cond.instantiable cls 6).before args s' = true := h _ (by simp [Bundle.ownAtoms])
  obtain ⟨vm₁, cX, kX, hfX, hkX, -, -, X₁, st1⟩ := Y.newCold hexec (own := own) (C := cls) (index := ik) (n := 6) hown' hk' hins hini'
    (g := F0 m pc ls rest) rfl (by rw [hb]; exact d0) (Nat.le_refl _) (Nat.le_refl _)
  generalize hT1 : (T.setVm vm₁).pushCell { cls := cX, slots := kX.instanceTypes.map defaultValue, vm := .none } = T1 at X₁ st1
  have hcat : (Value.ref T.heap.size).category = 1 := rfl
  have hcellA : T1.heap[T.heap.size]? = some (freshCell cX kX) := by rw [← hT1]; exact State.heap_pushCell_size _ _
  have d3' : decode c.code (pc + 3) = .ok (.dup, 1) := by rw [hb]; exact d3
  have d4' : decode c.code (pc + 4) = .ok (.ldc is, 2) := by rw [hb]; exact d4
  have hstr' : vk_R own is text sa s' := vk_R.warm hW0 hstr
  obtain ⟨U, hsteps, hrun, hend, hW, hsame, ce, hce, hO⟩ := X₁.ctorThrowS hexec htr (own := own) (cls := cls) (names := names) (ic := ic) hown' hcls hnames h (fun x hx => nomatch hx) hfX hkX hcellA (by rw [hhp, hT]; exact Nat.le_refl _) (msg := .ref sa) rfl
    (g := { method := m, pc := pc + 6, locals := ls, stack := .ref sa :: .ref T.heap.size :: .ref T.heap.size :: rest, locked := none }) rfl hsize rfl rfl (rest := rest) rfl
    (by rw [hb]; exact d6) (by rw [hb]; exact d9) hout hRframes (by simp only [List.map_cons, List.sum_cons, hcat]; omega) hlocks
  obtain ⟨f1, f2⟩ := vx_frame hsame
  rw [hhp] at f1 f2
  have hWs : s.WarmedH U.vm := State.WarmedH.trans hW0 hW
  have hcl : s.vm.findClass cls = some ce.cls := by
    have h9 := hO.cls
    rw [hvm] at h9
    exact h9
  have hall : s.sameButNew ({ U with vm := s.vm } : State) locs mc ms := by
    subst hA
    obtain ⟨e1, e2⟩ := hsame
    rw [State.setFrames_setFrames] at e1
    have h2 : (T.setVm s.vm).sameButNew ({ U with vm := s.vm } : State) [] (0 + 1) (0 + 6) := ⟨e1, e2⟩
    have h3 := X.same.trans h2
    rw [List.append_nil] at h3
    exact h3.mono hc hs
  refine ⟨U, ?_, .threw T.heap.size, hrun, hend, Or.inr ⟨T.heap.size, rfl, cls, ce, locs, hx U hWs.alike f1 (fun q hq => f2 q hq (fun z hz => nomatch hz)), hce, hO.vm, hcl, hWs, hall, hf⟩⟩
  refine st1 _ ?_
  show Steps p.tables e below (T1.setTop { method := m, pc := pc + 3, locals := ls, stack := .ref T.heap.size :: rest, locked := none }) _
  jvm_step X₁.here [X₁.here.top, hexec, d3', Value.category]
  exact X₁.ldcString hexec (own := own) (text := text) (index := is) (a := sa) hown' hstr'.1 hstr'.2
    (g := { method := m, pc := pc + 4, locals := ls, stack := .ref T.heap.size :: .ref T.heap.size :: rest, locked := none }) rfl d4' _ hsteps
/-- 'throw new E("text")', the text by a wide index -/
theorem vx_throwSW {cc : ByteArray} {pc : Nat} (hexec : p.tables.exec = Jvm.exec) (hb : c.code = cc) (hl : l.stackTraces = false) {own cls text : String} {names : List String} {ik is ic mc ms sa : Nat} {A : Nat → Prop}
    (hown : s.vm.findClass own = some m.cls) (hcls : Bundle.fit cls = true) (hnames : ∀ n ∈ names, Bundle.fit n = true)
    (hk : (Cond.classLink own ik cls).before args s = true) (hini : (Cond.initialized cls).before args s = true) (hstr : vk_R own is text sa s) (hat : ∀ w ∈ vx_atS own ic cls names, w.before args s = true)
    (hgood : ∀ w ∈ Cond.classLink own ik cls :: Cond.initialized cls :: vx_atS own ic cls names, vx_ot w = true)
    (hU : vx_Zq Bundle.tN "UNASSIGNED_STACK" Bundle.steD A s s.heap) (hN : vx_Zq Bundle.tN "SUPPRESSED_SENTINEL" Bundle.listD A s s.heap) (hS : va_S A s.heap H locs) (hsize : ls.size = c.maxLocals)
    (d0 : decode cc pc = .ok (.new ik, 3)) (d3 : decode cc (pc + 3) = .ok (.dup, 1)) (d4 : decode cc (pc + 4) = .ok (.ldc_w is, 3)) (d7 : decode cc (pc + 7) = .ok (.invokespecial ic, 3)) (d10 : decode cc (pc + 10) = .ok (.athrow, 1))
    (hout : ∀ x ∈ c.exceptionTable.toList, covers x (pc + 10) = false)
    (hRframes : names.length + 3 < R.frames) (hRlocals : (rest.map fun v => v.category).sum + (13 * (names.length + 1) + 43) ≤ R.locals) (hRcells : cells + 1 ≤ R.cells) (hRslots : slots + 6 ≤ R.slots) (hlocks : meth.locks = false)
    (hx : ∀ t : State, s.vm.Alike t.vm → H.size ≤ t.heap.size → (∀ q : Nat, q < H.size → t.heap[q]? = H[q]?) → XC cls s t)
    (hf : ∀ z ∈ locs, free z.base) (hc : cells + 1 ≤ mc) (hs : slots + 6 ≤ ms) :
    W p l e R s m args below meth c H locs cells slots (vx_MQ below Qc XC args s mc ms free) (F0 m pc ls rest) := by
  intro T hT X
  have htr : e.platform.stackTraces = false := (show e.platform.stackTraces = l.stackTraces by rw [X.admits.platform]).trans hl
  have Y := vx_rebase X (R' := { frames := R.frames, locals := R.locals, cells := 1, slots := 6 }) (Nat.le_refl _) (Nat.le_refl _) hRcells hRslots
  obtain ⟨s', hA⟩ : ∃ z, z = (T.setVm s.vm).setFrames (.invoking m args :: below) := ⟨_, rfl⟩
  rw [← hA] at Y
  have hvm : s'.vm = s.vm := by rw [hA]; rfl
  have hhp : s'.heap = H := by rw [hA]; exact hT
  have hW0 : s.WarmedH s'.vm := by rw [hvm]; exact State.WarmedH.refl s
  have hat' : ∀ w ∈ vx_atS own ic cls names, w.before args s' = true := fun w hw => vx_ot_at hW0 hvm.symm (hgood w (List.mem_cons_of_mem _ (List.mem_cons_of_mem _ hw))) (hat w hw)
  have hk' : (Cond.classLink own ik cls).before args s' = true := vx_ot_at hW0 hvm.symm (hgood _ List.mem_cons_self) hk
  have hini' : (Cond.initialized cls).before args s' = true := vx_ot_at hW0 hvm.symm (hgood _ (List.mem_cons_of_mem _ List.mem_cons_self)) hini
  have hU' : vx_Zq Bundle.tN "UNASSIGNED_STACK" Bundle.steD A s' s'.heap := by rw [hhp]; exact vx_Zq.moved hW0.alike (hU.kept hS.2.1)
  have hN' : vx_Zq Bundle.tN "SUPPRESSED_SENTINEL" Bundle.listD A s' s'.heap := by rw [hhp]; exact vx_Zq.moved hW0.alike (hN.kept hS.2.1)
  have h : ∀ w ∈ Bundle.ownAtoms own ic cls names, w.before args s' = true := vx_own hat' (vx_isRefq hU'.1) (vx_isRefq hN'.1) hU'.2.word hN'.2.word
  have hown' : s'.vm.findClass own = some m.cls := by rw [hvm]; exact hown
  have hins : (Cond.instantiable cls 6).before args s' = true := h _ (by simp [Bundle.ownAtoms])
  obtain ⟨vm₁, cX, kX, hfX, hkX, -, -, X₁, st1⟩ := Y.newCold hexec (own := own) (C := cls) (index := ik) (n := 6) hown' hk' hins hini'
    (g := F0 m pc ls rest) rfl (by rw [hb]; exact d0) (Nat.le_refl _) (Nat.le_refl _)
  generalize hT1 : (T.setVm vm₁).pushCell { cls := cX, slots := kX.instanceTypes.map defaultValue, vm := .none } = T1 at X₁ st1
  have hcat : (Value.ref T.heap.size).category = 1 := rfl
  have hcellA : T1.heap[T.heap.size]? = some (freshCell cX kX) := by rw [← hT1]; exact State.heap_pushCell_size _ _
  have d3' : decode c.code (pc + 3) = .ok (.dup, 1) := by rw [hb]; exact d3
  have d4' : decode c.code (pc + 4) = .ok (.ldc_w is, 3) := by rw [hb]; exact d4
  have hstr' : vk_R own is text sa s' := vk_R.warm hW0 hstr
  obtain ⟨U, hsteps, hrun, hend, hW, hsame, ce, hce, hO⟩ := X₁.ctorThrowS hexec htr (own := own) (cls := cls) (names := names) (ic := ic) hown' hcls hnames h (fun x hx => nomatch hx) hfX hkX hcellA (by rw [hhp, hT]; exact Nat.le_refl _) (msg := .ref sa) rfl
    (g := { method := m, pc := pc + 7, locals := ls, stack := .ref sa :: .ref T.heap.size :: .ref T.heap.size :: rest, locked := none }) rfl hsize rfl rfl (rest := rest) rfl
    (by rw [hb]; exact d7) (by rw [hb]; exact d10) hout hRframes (by simp only [List.map_cons, List.sum_cons, hcat]; omega) hlocks
  obtain ⟨f1, f2⟩ := vx_frame hsame
  rw [hhp] at f1 f2
  have hWs : s.WarmedH U.vm := State.WarmedH.trans hW0 hW
  have hcl : s.vm.findClass cls = some ce.cls := by
    have h9 := hO.cls
    rw [hvm] at h9
    exact h9
  have hall : s.sameButNew ({ U with vm := s.vm } : State) locs mc ms := by
    subst hA
    obtain ⟨e1, e2⟩ := hsame
    rw [State.setFrames_setFrames] at e1
    have h2 : (T.setVm s.vm).sameButNew ({ U with vm := s.vm } : State) [] (0 + 1) (0 + 6) := ⟨e1, e2⟩
    have h3 := X.same.trans h2
    rw [List.append_nil] at h3
    exact h3.mono hc hs
  refine ⟨U, ?_, .threw T.heap.size, hrun, hend, Or.inr ⟨T.heap.size, rfl, cls, ce, locs, hx U hWs.alike f1 (fun q hq => f2 q hq (fun z hz => nomatch hz)), hce, hO.vm, hcl, hWs, hall, hf⟩⟩
  refine st1 _ ?_
  show Steps p.tables e below (T1.setTop { method := m, pc := pc + 3, locals := ls, stack := .ref T.heap.size :: rest, locked := none }) _
  jvm_step X₁.here [X₁.here.top, hexec, d3', Value.category]
  exact X₁.ldcStringW hexec (own := own) (text := text) (index := is) (a := sa) hown' hstr'.1 hstr'.2
    (g := { method := m, pc := pc + 4, locals := ls, stack := .ref T.heap.size :: .ref T.heap.size :: rest, locked := none }) rfl d4' _ hsteps
end Ends
section Bodies
variable {l : Launch}
theorem vx_ofW {y : MethodName} {ws ws' : List Cond} {rm : Room} {Pc : Array Value → State → Prop} {Qc : Array Value → State → Outcome → State → Prop} {XC : String → State → State → Prop} {mc ms : Nat} {free : Addr → Prop} {cc : ByteArray} {maxL : Nat} {ret : Option FieldType}
    (hy : plainName y.cls = true) (hw : ws = Cond.code y cc maxL ret :: ws')
    (body : ∀ p e s m args below meth c s₁, BodyLoose p l y (headSpec ws rm) cc maxL ret e s m args below meth c s₁ → c.maxLocals = maxL → (∀ x ∈ c.exceptionTable.toList, False) → Pc args s →
      W p l e (headSpec ws rm).room s m args below meth c s.heap [] 0 0 (vx_MQ below Qc XC args s mc ms free) (entryFrame m args maxL)) : vx_Met l y ws rm Pc Qc XC mc ms free := by
  refine MetFree.of_bodyS (code := cc) (maxLocals := maxL) (ret := ret) hy ?_ ?_
  · intro args s m h hn
    obtain ⟨meth, c, h1, h2, h3, h4, h5, h6, -, -⟩ := Cond.code_spec hn (atoms_spec (ws := ws) h _ (by rw [hw]; exact List.mem_cons_self))
    exact ⟨meth, c, h1, h2, h3, h4, h5, h6⟩
  · intro p e s m args below meth c s₁ B hml hP _
    have hh0 : s₁.heap = s.heap := by rw [B.state]; rfl
    have ht : ∀ x ∈ c.exceptionTable.toList, False := by
      obtain ⟨meth9, c9, h1, h2, -, -, -, -, h7, -⟩ := Cond.code_spec B.named (atoms_spec (ws := ws) B.pre _ (by rw [hw]; exact List.mem_cons_self))
      cases Option.some.inj (h1.symm.trans B.method)
      cases Option.some.inj (h2.symm.trans (Stand.of_body B).code)
      intro x hx
      rw [Array.isEmpty_iff.mp h7] at hx
      cases hx
    obtain ⟨t, a1, o, b1, b2, b3⟩ := body p e s m args below meth c s₁ B hml ht hP s₁ hh0 (Stand.of_body B)
    exact ⟨t, o, a1, b1, b2, b3⟩
/-- the table of a body with handlers -/
theorem vx_table {p : Program} {x y : MethodName} {S : Spec} {cc bytes : ByteArray} {maxL maxL' : Nat} {ret ret' : Option FieldType} {e : Env} {s s₁ : State} {m : MethodId} {args : Array Value} {below : List Frame} {meth : Method} {c : Code} {hh : List (Nat × Nat × Nat × Nat)}
    (B : BodyLoose p l y S cc maxL ret e s m args below meth c s₁) (h : (Cond.codeWith y bytes maxL' ret' hh).before args s = true) : c.exceptionTable.toList = tableOf hh := by
  obtain ⟨m9, meth9, c9, hn9, h1, h2, -, -, h6, -⟩ := Cond.codeWith_spec h
  cases Option.some.inj (hn9.symm.trans B.named)
  cases Option.some.inj (h1.symm.trans B.method)
  cases Option.some.inj (h2.symm.trans (Stand.of_body B).code)
  rw [← h6, table_eq]
end Bodies
end VXA
/-! ===== END ===== -/
/-! ===== BEGIN a static call of a method with an exception table ===== -/
section VXS
variable {p : Program} {l : Launch} {e : Env} {R : Room} {s : State} {m : MethodId} {args : Array Value} {below : List Frame} {meth : Method} {c : Code} {T : State} {H : Heap} {locs : List Loc} {cells slots : Nat}
abbrev vx_CSW (R : Room) (s : State) (args : Array Value) (own : String) (index : Nat) (y : MethodName) (bytes : ByteArray) (maxL : Nat) (ret : Option FieldType) (hh : List (Nat × Nat × Nat × Nat)) (ws : List Cond) (rm : Room) (mc ms n : Nat) : Prop :=
  (rm.cells = mc ∧ rm.slots = ms ∧ rm.frames + 1 ≤ R.frames ∧ 8 + (maxL + 11) + rm.locals ≤ R.locals ∧ (∀ w ∈ ws, ∀ (a' : Array Value) (U : State), s.WarmedH U.vm → w.before a' U = true) ∧ Cond.codeWith y bytes maxL ret hh ∈ ws) ∧
  (Cond.codeWith y bytes maxL ret hh).before args s = true ∧ (Cond.initialized y.cls).before args s = true ∧ (y.cls ≠ "java/lang/invoke/MethodHandle" ∧ y.cls ≠ "java/lang/invoke/VarHandle") ∧
  (∀ sig, parseMethodDescriptor y.desc = some sig → n = sig.parameters.length) ∧ (Cond.methodLink own index y).before args s = true ∧ (Cond.static y).before args s = true
theorem vx_cwSW {own : String} {index maxL mc ms : Nat} {y : MethodName} {bytes : ByteArray} {ret : Option FieldType} {hh : List (Nat × Nat × Nat × Nat)} {Ts ws ws' : List Cond} {rm : Room} (n : Nat) (ht : ∀ w ∈ Ts, w.before args s = true) (hT : GoodIn Ts (va_wsS own index y ws)) (hw : ws = Cond.codeWith y bytes maxL ret hh :: ws') (hrc : rm.cells = mc) (hrs : rm.slots = ms)
    (hd : y.cls ≠ "java/lang/invoke/MethodHandle" ∧ y.cls ≠ "java/lang/invoke/VarHandle" ∧ (parseMethodDescriptor y.desc).map (fun d => d.parameters.length) = some n) (hR : rm.frames + 1 ≤ R.frames ∧ 8 + (maxL + 11) + rm.locals ≤ R.locals) :
    vx_CSW R s args own index y bytes maxL ret hh ws rm mc ms n := by
  have ok : ∀ w ∈ va_wsS own index y ws, w.before args s = true := fun w h => ht w (hT w h).1
  have hG : GoodIn Ts ws := fun w h => hT w (by unfold va_wsS; exact List.mem_append_right _ h)
  have hc : Cond.codeWith y bytes maxL ret hh ∈ ws := by rw [hw]; exact List.mem_cons_self
  refine ⟨⟨hrc, hrs, hR.1, hR.2, pay_in ht hG, hc⟩, ht _ (hG _ hc).1, ok _ (by simp [va_wsS]), ⟨hd.1, hd.2.1⟩, fun sig h => ?_, ok _ (by simp [va_wsS]), ok _ (by simp [va_wsS])⟩
  have h2 := hd.2.2
  rw [h] at h2
  exact (Option.some.inj h2).symm
theorem vx_callSW (X : Stand p l e R s m args below meth c T locs cells slots) (hexec : p.tables.exec = Jvm.exec) {own : String} {index : Nat} {y : MethodName} {bytes : ByteArray} {maxL : Nat} {ret : Option FieldType} {hh : List (Nat × Nat × Nat × Nat)}
    (hown : s.vm.findClass own = some m.cls) (hlink : (Cond.methodLink own index y).before args s = true) (hstat : (Cond.static y).before args s = true) (hinit : (Cond.initialized y.cls).before args s = true)
    (hcode : (Cond.codeWith y bytes maxL ret hh).before args s = true) (hy : y.cls ≠ "java/lang/invoke/MethodHandle" ∧ y.cls ≠ "java/lang/invoke/VarHandle")
    {W9 : Nat} {Pre : Pt → Array Value → Prop} {Post : Pt → Array Value → Option Value → Pt → Prop} (hK : Back l R p e below s args y 3 W9 Pre Post)
    {g : JFrame} (hg : g.method = m) (hsize : g.locals.size = c.maxLocals) {argsL rest : List Value} (hlen : ∀ sig, parseMethodDescriptor y.desc = some sig → argsL.length = sig.parameters.length)
    (hstack : g.stack = argsL.reverse ++ rest) (hW : 2 * g.monitorRoom + (rest.map fun v => v.category).sum ≤ W9) (hdg : decode c.code g.pc = .ok (.invokestatic index, 3))
    (hpre : ∀ vm₁, s.WarmedH vm₁ → Pre ⟨T.setVm vm₁, locs, cells, slots⟩ argsL.toArray) :
    ∃ (v : Option Value) (vm₁ : Vm) (B : Pt), s.WarmedH vm₁ ∧ Stand p l e R s m args below meth c B.U B.locs B.cells B.slots ∧ Post ⟨T.setVm vm₁, locs, cells, slots⟩ argsL.toArray v B ∧
      ∀ target, Steps p.tables e below (B.U.setTop { g with pc := g.pc + 3, stack := v.toList ++ rest }) target → Steps p.tables e below (T.setTop g) target := by
  obtain ⟨mk, methM, cM, hnamed, hmethM, -, -, -, -, -, -, hsigM⟩ := Cond.codeWith_spec hcode
  have hstatic : methM.isStatic = true := Cond.static_spec hnamed hmethM hstat
  obtain ⟨kP, hkP, -⟩ := className_of_methodNamed hnamed
  have hinitP : kP.init = .initialized := Cond.initialized_spec (findClass_of_methodNamed hnamed) hkP hinit
  obtain ⟨vm₁, X₁, hstep₁⟩ := X.invokestatic hexec hown hlink hnamed hmethM hstatic hkP hinitP hy (g := g) hg (argsL := argsL) (rest := rest) (hlen _ hsigM) hstack hdg
  obtain ⟨v, B, X', hpost, hsteps⟩ := hK m meth c ⟨T.setVm vm₁, locs, cells, slots⟩ { g with stack := rest } (.invokestatic index) mk argsL.toArray X₁ hg hsize hdg hW (X₁.named hnamed) (hpre vm₁ X₁.warmed)
  exact ⟨v, vm₁, B, X₁.warmed, X', hpost, fun target h => hstep₁ _ fun acts => by rw [doInvoke_state]; exact hsteps.trans h⟩
theorem vx_runSW {y : MethodName} {bytes cc : ByteArray} {maxL nL mc ms n index : Nat} {ret : Option FieldType} {hh : List (Nat × Nat × Nat × Nat)} {ws : List Cond} {rm : Room} {Pc : Array Value → State → Prop} {Qc : Array Value → State → Outcome → State → Prop} {free : Addr → Prop} {Ts : List Cond} {own : String} {As rest : List Value} {g : JFrame}
    (S : CallFix p m c cc nL s args Ts own) (hM : Met l y ws rm Pc Qc mc ms free) (cw : vx_CSW R s args own index y bytes maxL ret hh ws rm mc ms n) (hp : PreS s H Pc As)
    (hg : g.method = m) (hn : As.length = n) (hsize : g.locals.size = nL) (hstack : g.stack = As.reverse ++ rest) (hW : 2 * g.monitorRoom + (rest.map fun v => v.category).sum ≤ 8) (hdg : decode cc g.pc = .ok (.invokestatic index, 3)) (hf : cells + mc ≤ R.cells ∧ slots + ms ≤ R.slots) :
    va_Run p l e R s m args below meth c H locs cells slots mc ms g rest (Qc As.toArray) (free) := by
  obtain ⟨⟨hrc, hrs, hfr, hlo, hws, hcw⟩, hcode, hini, hy, hlen, hl, hstt⟩ := cw
  have hK : Back l R p e below s args y 3 8 (PreOf R mc ms Pc) (PostOf Qc mc ms free) := va_backW (hh := hh) (bytes := bytes) (maxL := maxL) (ret := ret) hM hp.1 hrc hrs hfr hlo hws hcw (fun a' U hW => word_at hW (Or.inl (by first | rfl | simp [Cond.onTables, Cond.keeps, Cond.steady])) hini)
  obtain ⟨hx, hb, hml, ho, -⟩ := S
  intro T hT X
  obtain ⟨v, vm₁, ⟨U', l2, c2, s2⟩, hW₁, X', ⟨g', mk, t, L, e1, e2, hq, h1, hL, h2, h3⟩, st⟩ := vx_callSW X hx (hh := hh) (bytes := bytes) (maxL := maxL) (ret := ret) ho hl hstt hini hcode hy hK hg (hsize.trans hml.symm) (argsL := As) (rest := rest) (fun sig h => hn.trans (hlen sig h)) hstack hW (by rw [hb]; exact hdg)
    (fun vm₁ hW₁ => ⟨hf.1, hf.2, hp.2 (T.setVm vm₁) hT hW₁⟩)
  dsimp only [Pt.U, Pt.locs, Pt.cells, Pt.slots] at X' e1 e2 h1 h2 h3 st
  subst h1; subst h2; subst h3
  exact ⟨v, (T.setVm vm₁).calling g' mk As.toArray, t, U', L, hT, X', hL, e1, e2, hq, st⟩
/-- not caught here, past rows that name other classes: it goes on to the caller -/
theorem vx_outP {p : Program} {l : Launch} {e : Env} {R : Room} {s : State} {m : MethodId} {args : Array Value} {below : List Frame} {meth : Method} {c : Code} {H : Heap} {locs : List Loc} {cells slots : Nat} {free : Addr → Prop} {ls : Array Slot} {rest : List Value} {Qc : Array Value → State → Outcome → State → Prop} {XC : String → State → State → Prop}
    {pc : Nat} {own E : String} {ce : Cell} {q : Addr} {mc ms : Nat} (hown : s.vm.findClass own = some m.cls) (hlocks : meth.locks = false)
    (hpass : ∀ z ∈ c.exceptionTable.toList, covers z pc = false ∨ (z.catchType ≠ 0 ∧ ∃ nm : String, (Cond.classLink own z.catchType nm).before args s = true ∧ va_Nc E nm s)) (hcell : H[q]? = some ce) (hv : ce.vm = .none) (hcl : s.vm.findClass E = some ce.cls)
    (hx : ∀ t : State, t.heap = H → s.vm.Alike t.vm → XC E s t) (hf : ∀ z ∈ locs, free z.base) (hc : cells ≤ mc) (hs : slots ≤ ms) :
    vx_W p l e R s m args below meth c H locs cells slots (vx_MQ below Qc XC args s mc ms free) (F0 m pc ls rest) q := by
  intro T hT X
  have hpl : e.platform.magicAccessors = ({} : Platform).magicAccessors := by rw [X.admits.platform]
  obtain ⟨vm', hW', X', st⟩ := X.outThrough hlocks q (g := F0 m pc ls rest) rfl rfl rfl (cell := ce) (by rw [hT]; exact hcell) (by rw [hv]; rfl)
    (by obtain ⟨k9, h9, -⟩ := Vm.findClass_spec hcl; exact ⟨k9, h9⟩) (fun z hz => by
      rcases hpass z hz with h | ⟨hz0, nm, hl1, hn1⟩
      · exact Or.inl h
      · obtain ⟨c6, hc6, hcl6⟩ := Cond.classLink_spec hown hl1 e.platform hpl
        obtain ⟨a8, b8, h1, h2, h3⟩ := hn1
        cases Option.some.inj (h1.symm.trans hcl)
        cases Option.some.inj (h2.symm.trans hc6)
        exact Or.inr ⟨hz0, _, hcl6, h3⟩)
  obtain ⟨g₀, hfr⟩ := X'.frames_eq
  have hcell9 : ((T.setVm vm').setFrames (.throwing q :: below)).heap[q]? = some ce := by
    show T.heap[q]? = some ce
    rw [hT]; exact hcell
  have hend : Ended ((T.setVm vm').setFrames (.throwing q :: below)) below (.threw q) := State.frames_setFrames _ (State.cur_lt_of_frames hfr)
  refine ⟨(T.setVm vm').setFrames (.throwing q :: below), ?_, .threw q, X'.here.running, hend, Or.inr ⟨q, rfl, E, ce, locs, hx _ hT (X'.ends _).1.alike, hcell9, hv, hcl, (X'.ends _).1, (X'.ends _).2.mono hc hs, hf⟩⟩
  rw [X.pushThrowing_eq]
  exact st
/-- a thing of a world lies in the heap -/
theorem vx_lt {D : va_G} {cl : List vw_C} {ws : va_W} {H1 : Heap} (h : va_P D cl ws H1) {k : Nat} {q : Nat × va_E} (hk : ws[k]? = some q) : q.1 < H1.size := (h k q hk).lt
end VXS
/-! ===== END ===== -/
/-! ===== BEGIN methods with a table of their own: called by a name, returning or throwing ===== -/
section VXH
/-! vx_backW, vx_callVX, vx_callSX, vx_callVW, vx_runVW, vx_runVX, vx_runSX, vx_ofWH follow the same proofs as their sisters above (Free/Laws.lean, Shelf42/LK1.lean); vx_outP calls Shelf42/NT130.lean (outThrough). -/
section
variable {l : Launch} {R : Room} {p : Program} {e : Env} {below : List Frame} {s : State} {sargs : Array Value} {y : MethodName} {len W9 : Nat}
theorem vx_backW {ws : List Cond} {rm : Room} {Pc : Array Value → State → Prop} {Qc : Array Value → State → Outcome → State → Prop} {XC : String → State → State → Prop} {mc ms : Nat} {free : Addr → Prop} {bytes : ByteArray} {maxL : Nat} {ret : Option FieldType} {hh : List (Nat × Nat × Nat × Nat)}
    (hM : vx_Met l y ws rm Pc Qc XC mc ms free) (hblind : FrameBlind Pc) (hrc : rm.cells = mc) (hrs : rm.slots = ms)
    (hframes : rm.frames + 1 ≤ R.frames) (hlocals : W9 + (maxL + 11) + rm.locals ≤ R.locals)
    (hws : ∀ w ∈ ws, ∀ a' U, s.WarmedH U.vm → w.before a' U = true) (hcode : Cond.codeWith y bytes maxL ret hh ∈ ws) (hinit : ∀ a' U, s.WarmedH U.vm → (Cond.initialized y.cls).before a' U = true) :
    vx_Back l R p e below s sargs y len W9 (PreOf R mc ms Pc) (PostOf Qc mc ms free) (vx_Post XC mc ms free) := by
  intro m meth c A g ig mk a X hg hsize hdg hW hn hp
  have h1 : (headSpec ws rm).pre.before a A.U = true := atoms_intro fun w hw => hws w hw _ _ X.warmed
  have h2 : (Cond.codeWith y bytes maxL ret hh).before a A.U = true := hws _ hcode _ _ X.warmed
  have h3 : (Cond.initialized y.cls).before a A.U = true := hinit _ _ X.warmed
  have h4 : A.cells + (headSpec ws rm).room.cells ≤ R.cells := by rw [show (headSpec ws rm).room.cells = mc from hrc]; exact hp.1
  have h5 : A.slots + (headSpec ws rm).room.slots ≤ R.slots := by rw [show (headSpec ws rm).room.slots = ms from hrs]; exact hp.2.1
  have hPc : Pc a (A.U.calling g mk a) := hblind _ _ _ _ hp.2.2
  obtain ⟨U, Ls, c0, s0⟩ := A
  dsimp only [Pt.U, Pt.locs, Pt.cells, Pt.slots] at h1 h2 h3 h4 h5 X hn hPc ⊢
  obtain ⟨m9, methY, cY, hn9, hmY, hcY, -, hlY, -⟩ := Cond.codeWith_spec h2
  cases Option.some.inj (hn9.symm.trans hn)
  obtain ⟨kY, hkY, -⟩ := className_of_methodNamed hn
  have hinitY : kY.init = .initialized := Cond.initialized_spec (findClass_of_methodNamed hn) hkY h3
  have h : At U g.method c below := by rw [hg]; exact X.here
  have hlocals9 : W9 + (maxL + 11) + (headSpec ws rm).room.locals ≤ R.locals := hlocals
  have happ : (headSpec ws rm).appliesLoose y e.platform (U.calling g mk a) = true :=
    Spec.appliesLoose_calling (g := g) h hdg hn hkY hinitY
      (X.room_calling (g := g) (R' := (headSpec ws rm).room) hsize hmY hcY hframes (by rw [hlY]; omega) h4 h5) h1
  obtain ⟨mid, hmid⟩ := h.above
  have hfr : (U.setTop g).frames = (.java g :: mid) ++ below := by rw [State.frames_setTop' g h.top, hmid]; rfl
  obtain ⟨o, s₂, hsteps, -, hend, hq⟩ := Steps.callFree hM p X.admits X.cas X.clock (acts := []) hfr happ hPc trivial
  have hq' : vx_Q Qc XC mc ms free a (U.calling g mk a) o s₂ := hq
  rw [State.frames_setTop' g h.top] at hend
  obtain ⟨g₀, hg0⟩ := Option.isSome_iff_exists.mp h.top
  obtain ⟨r, hr⟩ := State.topJava?_eq_some.mp hg0
  have hr' : (({ U with heap := s₂.heap, slotsUsed := s₂.slotsUsed } : State).setVm s₂.vm).frames = .java g₀ :: r := hr
  rcases hq' with ⟨hqc, L, hfe, hL⟩ | ⟨q, rfl, E, ce, L, hx, hce, hcv, hcl, hW₂, hsm, hL⟩
  · obtain ⟨⟨v, rfl⟩, hW₂, e2, q2, q3, q4, q5, q6⟩ := id hfe
    have e3 : s₂ = ({ (U.calling g mk a).setFrames s₂.frames with heap := s₂.heap, slotsUsed := s₂.slotsUsed } : State).setVm s₂.vm := by
      have : s₂ = ({ s₂ with vm := (U.calling g mk a).vm } : State).setVm s₂.vm := rfl
      rw [e2] at this
      exact this
    obtain ⟨c₂, i₂, len₂, hc₂, hd₂, hf₂⟩ := hend
    have hW' : U.WarmedH s₂.vm := hW₂
    have hcc : c₂ = c := by
      have h1 : s₂.code? g.method = U.code? g.method := by
        rw [State.code?_eq, State.code?_eq, hW'.alike.method?]
      exact Option.some.inj (hc₂.symm.trans (h1.trans h.code))
    subst hcc
    have hlen : len₂ = len := by rw [hdg] at hd₂; cases hd₂; rfl
    subst hlen
    have hs₂ : s₂ = (({ U with heap := s₂.heap, slotsUsed := s₂.slotsUsed } : State).setVm s₂.vm).setTop { g with pc := g.pc + len₂, stack := v.toList ++ g.stack } := by
      refine e3.trans ?_
      rw [hf₂, State.calling_eq h.top, State.setFrames_setFrames, State.setTop_of_frames _ hr', hr]
      rfl
    have hsame : U.sameButNew ({ U with heap := s₂.heap, slotsUsed := s₂.slotsUsed } : State) L mc ms := by
      refine ⟨?_, q2, q3, q4, q5, q6⟩
      obtain ⟨t, ht, -⟩ := State.frames_cons hr
      show ({ U with heap := s₂.heap, slotsUsed := s₂.slotsUsed } : State) = { U.setFrames U.frames with heap := s₂.heap, slotsUsed := s₂.slotsUsed }
      rw [State.setFrames_self ht]
    subst hg
    refine Or.inl ⟨v, ⟨(({ U with heap := s₂.heap, slotsUsed := s₂.slotsUsed } : State).setVm s₂.vm), Ls ++ L, c0 + mc, s0 + ms⟩,
      ⟨X.admits, X.cas, X.clock, X.frames, X.room, X.hears, X.method, X.code, (X.here.setHeapUsed s₂.heap s₂.slotsUsed).setVm hW'.alike, X.tail, State.WarmedH.trans X.warmed hW', X.limits, X.bytes, X.same.trans (hsame.setVm s.vm)⟩,
      ⟨g, mk, s₂, L, rfl, rfl, hqc, rfl, hL, rfl, rfl⟩, ?_⟩
    show Steps p.tables e below _ ((({ U with heap := s₂.heap, slotsUsed := s₂.slotsUsed } : State).setVm s₂.vm).setTop { g with pc := g.pc + len₂, stack := v.toList ++ g.stack })
    rw [← hs₂]
    exact hsteps
  · obtain ⟨e2, q2, q3, q4, q5, q6⟩ := id hsm
    have e3 : s₂ = ({ (U.calling g mk a).setFrames s₂.frames with heap := s₂.heap, slotsUsed := s₂.slotsUsed } : State).setVm s₂.vm := by
      have : s₂ = ({ s₂ with vm := (U.calling g mk a).vm } : State).setVm s₂.vm := rfl
      rw [e2] at this
      exact this
    have hf₂ : s₂.frames = .throwing q :: .java g :: U.frames.tail := hend
    have hW' : U.WarmedH s₂.vm := hW₂
    have hs₂ : s₂ = ((({ U with heap := s₂.heap, slotsUsed := s₂.slotsUsed } : State).setVm s₂.vm).setTop g).pushFrame (.throwing q) := by
      refine e3.trans ?_
      rw [hf₂, State.calling_eq h.top, State.setFrames_setFrames, State.pushFrame, State.frames_setTop _ hr', State.setTop_of_frames _ hr', State.setFrames_setFrames, hr]
      rfl
    have hsame : U.sameButNew ({ U with heap := s₂.heap, slotsUsed := s₂.slotsUsed } : State) L mc ms := by
      refine ⟨?_, q2, q3, q4, q5, q6⟩
      obtain ⟨t, ht, -⟩ := State.frames_cons hr
      show ({ U with heap := s₂.heap, slotsUsed := s₂.slotsUsed } : State) = { U.setFrames U.frames with heap := s₂.heap, slotsUsed := s₂.slotsUsed }
      rw [State.setFrames_self ht]
    subst hg
    refine Or.inr ⟨q, ⟨(({ U with heap := s₂.heap, slotsUsed := s₂.slotsUsed } : State).setVm s₂.vm), Ls ++ L, c0 + mc, s0 + ms⟩,
      ⟨X.admits, X.cas, X.clock, X.frames, X.room, X.hears, X.method, X.code, (X.here.setHeapUsed s₂.heap s₂.slotsUsed).setVm hW'.alike, X.tail, State.WarmedH.trans X.warmed hW', X.limits, X.bytes, X.same.trans (hsame.setVm s.vm)⟩,
      ⟨g, mk, s₂, L, E, ce, rfl, rfl, hx, hce, hcv, hcl, rfl, hL, rfl, rfl⟩, ?_⟩
    show Steps p.tables e below _ (((({ U with heap := s₂.heap, slotsUsed := s₂.slotsUsed } : State).setVm s₂.vm).setTop g).pushFrame (.throwing q))
    rw [← hs₂]
    exact hsteps
end
variable {p : Program} {l : Launch} {e : Env} {R : Room} {s : State} {m : MethodId} {args : Array Value} {below : List Frame} {meth : Method} {c : Code} {T : State} {H : Heap} {locs : List Loc} {cells slots : Nat}
theorem vx_callVX (X : Stand p l e R s m args below meth c T locs cells slots) (hexec : p.tables.exec = Jvm.exec) {own C : String} {index : Nat} {y : MethodName} {bytes : ByteArray} {maxL : Nat} {ret : Option FieldType} {hh : List (Nat × Nat × Nat × Nat)}
    (hown : s.vm.findClass own = some m.cls) (hlink : (Cond.methodLink own index y).before args s = true) (hinst : (Cond.instanceMethod y).before args s = true) (hsel : (Cond.selects C y y).before args s = true)
    (hcode : (Cond.codeWith y bytes maxL ret hh).before args s = true) (hy : y.cls ≠ "java/lang/invoke/MethodHandle" ∧ y.cls ≠ "java/lang/invoke/VarHandle")
    {W9 : Nat} {Pre : Pt → Array Value → Prop} {Post : Pt → Array Value → Option Value → Pt → Prop} {PostX : Pt → Array Value → Addr → Pt → Prop} (hK : vx_Back l R p e below s args y 3 W9 Pre Post PostX)
    {b : Addr} {cellB : Cell} (hcell : T.heap[b]? = some cellB) (hobj : cellB.vm.isStatics = false) (hcls : s.vm.findClass C = some cellB.cls)
    {g : JFrame} (hg : g.method = m) (hsize : g.locals.size = c.maxLocals) {argsL rest : List Value} (hlen : ∀ sig, parseMethodDescriptor y.desc = some sig → argsL.length = sig.parameters.length)
    (hstack : g.stack = argsL.reverse ++ .ref b :: rest) (hW : 2 * g.monitorRoom + (rest.map fun v => v.category).sum ≤ W9) (hdg : decode c.code g.pc = .ok (.invokevirtual index, 3))
    (hpre : ∀ vm₁, s.WarmedH vm₁ → Pre ⟨T.setVm vm₁, locs, cells, slots⟩ (Value.ref b :: argsL).toArray) :
    (∃ (v : Option Value) (vm₁ : Vm) (B : Pt), s.WarmedH vm₁ ∧ Stand p l e R s m args below meth c B.U B.locs B.cells B.slots ∧ Post ⟨T.setVm vm₁, locs, cells, slots⟩ (Value.ref b :: argsL).toArray v B ∧
      ∀ target, Steps p.tables e below (B.U.setTop { g with pc := g.pc + 3, stack := v.toList ++ rest }) target → Steps p.tables e below (T.setTop g) target) ∨
    (∃ (q : Addr) (vm₁ : Vm) (B : Pt), s.WarmedH vm₁ ∧ Stand p l e R s m args below meth c B.U B.locs B.cells B.slots ∧ PostX ⟨T.setVm vm₁, locs, cells, slots⟩ (Value.ref b :: argsL).toArray q B ∧
      Steps p.tables e below (T.setTop g) ((B.U.setTop { g with stack := rest }).pushFrame (.throwing q))) := by
  obtain ⟨mk, methM, hnamed, hmethM, hstM, habM⟩ := Cond.instanceMethod_spec hinst
  obtain ⟨m8, methM', cM, hn8, hmethM', -, -, -, -, -, -, hsigM⟩ := Cond.codeWith_spec hcode
  cases Option.some.inj (hn8.symm.trans hnamed)
  cases hmethM.symm.trans hmethM'
  obtain ⟨c2, r2, m2, q1, q2, q3, q4, kP, hkP, hkPi⟩ := Cond.selects_spec hsel
  cases hcls.symm.trans q1
  cases (State.methodFound?_of_named hnamed hy).symm.trans q2
  cases hnamed.symm.trans q3
  have hselP : selectMethod e.platform s.vm cellB.cls mk = .method mk := by rw [Launch.admits_selectMethod X.admits]; exact q4
  obtain ⟨vm₁, X₁, hstep₁⟩ := X.invokevirtual hexec hown hlink hnamed hmethM hstM hkP hkPi hy (a := b) (cell := cellB) hcell
    (fun z h => by rw [h] at hobj; cases hobj) hselP hmethM habM hkP hkPi (g := g) hg (argsL := argsL) (rest := rest) (hlen _ hsigM) hstack hdg
  rcases hK m meth c ⟨T.setVm vm₁, locs, cells, slots⟩ { g with stack := rest } (.invokevirtual index) mk (Value.ref b :: argsL).toArray X₁ hg hsize hdg hW (X₁.named hnamed) (hpre vm₁ X₁.warmed) with ⟨v, B, X', hpost, hsteps⟩ | ⟨q, B, X', hpost, hsteps⟩
  · exact Or.inl ⟨v, vm₁, B, X₁.warmed, X', hpost, fun target h => hstep₁ _ fun acts => by rw [doInvoke_state]; exact hsteps.trans h⟩
  · exact Or.inr ⟨q, vm₁, B, X₁.warmed, X', hpost, hstep₁ _ fun acts => by rw [doInvoke_state]; exact hsteps⟩
theorem vx_callSX (X : Stand p l e R s m args below meth c T locs cells slots) (hexec : p.tables.exec = Jvm.exec) {own : String} {index : Nat} {y : MethodName} {bytes : ByteArray} {maxL : Nat} {ret : Option FieldType} {hh : List (Nat × Nat × Nat × Nat)}
    (hown : s.vm.findClass own = some m.cls) (hlink : (Cond.methodLink own index y).before args s = true) (hstat : (Cond.static y).before args s = true) (hinit : (Cond.initialized y.cls).before args s = true)
    (hcode : (Cond.codeWith y bytes maxL ret hh).before args s = true) (hy : y.cls ≠ "java/lang/invoke/MethodHandle" ∧ y.cls ≠ "java/lang/invoke/VarHandle")
    {W9 : Nat} {Pre : Pt → Array Value → Prop} {Post : Pt → Array Value → Option Value → Pt → Prop} {PostX : Pt → Array Value → Addr → Pt → Prop} (hK : vx_Back l R p e below s args y 3 W9 Pre Post PostX)
    {g : JFrame} (hg : g.method = m) (hsize : g.locals.size = c.maxLocals) {argsL rest : List Value} (hlen : ∀ sig, parseMethodDescriptor y.desc = some sig → argsL.length = sig.parameters.length)
    (hstack : g.stack = argsL.reverse ++ rest) (hW : 2 * g.monitorRoom + (rest.map fun v => v.category).sum ≤ W9) (hdg : decode c.code g.pc = .ok (.invokestatic index, 3))
    (hpre : ∀ vm₁, s.WarmedH vm₁ → Pre ⟨T.setVm vm₁, locs, cells, slots⟩ argsL.toArray) :
    (∃ (v : Option Value) (vm₁ : Vm) (B : Pt), s.WarmedH vm₁ ∧ Stand p l e R s m args below meth c B.U B.locs B.cells B.slots ∧ Post ⟨T.setVm vm₁, locs, cells, slots⟩ argsL.toArray v B ∧
      ∀ target, Steps p.tables e below (B.U.setTop { g with pc := g.pc + 3, stack := v.toList ++ rest }) target → Steps p.tables e below (T.setTop g) target) ∨
    (∃ (q : Addr) (vm₁ : Vm) (B : Pt), s.WarmedH vm₁ ∧ Stand p l e R s m args below meth c B.U B.locs B.cells B.slots ∧ PostX ⟨T.setVm vm₁, locs, cells, slots⟩ argsL.toArray q B ∧
      Steps p.tables e below (T.setTop g) ((B.U.setTop { g with stack := rest }).pushFrame (.throwing q))) := by
  obtain ⟨mk, methM, cM, hnamed, hmethM, -, -, -, -, -, -, hsigM⟩ := Cond.codeWith_spec hcode
  have hstatic : methM.isStatic = true := Cond.static_spec hnamed hmethM hstat
  obtain ⟨kP, hkP, -⟩ := className_of_methodNamed hnamed
  have hinitP : kP.init = .initialized := Cond.initialized_spec (findClass_of_methodNamed hnamed) hkP hinit
  obtain ⟨vm₁, X₁, hstep₁⟩ := X.invokestatic hexec hown hlink hnamed hmethM hstatic hkP hinitP hy (g := g) hg (argsL := argsL) (rest := rest) (hlen _ hsigM) hstack hdg
  rcases hK m meth c ⟨T.setVm vm₁, locs, cells, slots⟩ { g with stack := rest } (.invokestatic index) mk argsL.toArray X₁ hg hsize hdg hW (X₁.named hnamed) (hpre vm₁ X₁.warmed) with ⟨v, B, X', hpost, hsteps⟩ | ⟨q, B, X', hpost, hsteps⟩
  · exact Or.inl ⟨v, vm₁, B, X₁.warmed, X', hpost, fun target h => hstep₁ _ fun acts => by rw [doInvoke_state]; exact hsteps.trans h⟩
  · exact Or.inr ⟨q, vm₁, B, X₁.warmed, X', hpost, hstep₁ _ fun acts => by rw [doInvoke_state]; exact hsteps⟩
theorem vx_callVW (X : Stand p l e R s m args below meth c T locs cells slots) (hexec : p.tables.exec = Jvm.exec) {own C : String} {index : Nat} {y : MethodName} {bytes : ByteArray} {maxL : Nat} {ret : Option FieldType} {hh : List (Nat × Nat × Nat × Nat)}
    (hown : s.vm.findClass own = some m.cls) (hlink : (Cond.methodLink own index y).before args s = true) (hinst : (Cond.instanceMethod y).before args s = true) (hsel : (Cond.selects C y y).before args s = true)
    (hcode : (Cond.codeWith y bytes maxL ret hh).before args s = true) (hy : y.cls ≠ "java/lang/invoke/MethodHandle" ∧ y.cls ≠ "java/lang/invoke/VarHandle")
    {W9 : Nat} {Pre : Pt → Array Value → Prop} {Post : Pt → Array Value → Option Value → Pt → Prop} (hK : Back l R p e below s args y 3 W9 Pre Post)
    {b : Addr} {cellB : Cell} (hcell : T.heap[b]? = some cellB) (hobj : cellB.vm.isStatics = false) (hcls : s.vm.findClass C = some cellB.cls)
    {g : JFrame} (hg : g.method = m) (hsize : g.locals.size = c.maxLocals) {argsL rest : List Value} (hlen : ∀ sig, parseMethodDescriptor y.desc = some sig → argsL.length = sig.parameters.length)
    (hstack : g.stack = argsL.reverse ++ .ref b :: rest) (hW : 2 * g.monitorRoom + (rest.map fun v => v.category).sum ≤ W9) (hdg : decode c.code g.pc = .ok (.invokevirtual index, 3))
    (hpre : ∀ vm₁, s.WarmedH vm₁ → Pre ⟨T.setVm vm₁, locs, cells, slots⟩ (Value.ref b :: argsL).toArray) :
    ∃ (v : Option Value) (vm₁ : Vm) (B : Pt), s.WarmedH vm₁ ∧ Stand p l e R s m args below meth c B.U B.locs B.cells B.slots ∧ Post ⟨T.setVm vm₁, locs, cells, slots⟩ (Value.ref b :: argsL).toArray v B ∧
      ∀ target, Steps p.tables e below (B.U.setTop { g with pc := g.pc + 3, stack := v.toList ++ rest }) target → Steps p.tables e below (T.setTop g) target := by
  obtain ⟨mk, methM, hnamed, hmethM, hstM, habM⟩ := Cond.instanceMethod_spec hinst
  obtain ⟨m8, methM', cM, hn8, hmethM', -, -, -, -, -, -, hsigM⟩ := Cond.codeWith_spec hcode
  cases Option.some.inj (hn8.symm.trans hnamed)
  cases hmethM.symm.trans hmethM'
  obtain ⟨c2, r2, m2, q1, q2, q3, q4, kP, hkP, hkPi⟩ := Cond.selects_spec hsel
  cases hcls.symm.trans q1
  cases (State.methodFound?_of_named hnamed hy).symm.trans q2
  cases hnamed.symm.trans q3
  have hselP : selectMethod e.platform s.vm cellB.cls mk = .method mk := by rw [Launch.admits_selectMethod X.admits]; exact q4
  obtain ⟨vm₁, X₁, hstep₁⟩ := X.invokevirtual hexec hown hlink hnamed hmethM hstM hkP hkPi hy (a := b) (cell := cellB) hcell
    (fun z h => by rw [h] at hobj; cases hobj) hselP hmethM habM hkP hkPi (g := g) hg (argsL := argsL) (rest := rest) (hlen _ hsigM) hstack hdg
  obtain ⟨v, B, X', hpost, hsteps⟩ := hK m meth c ⟨T.setVm vm₁, locs, cells, slots⟩ { g with stack := rest } (.invokevirtual index) mk (Value.ref b :: argsL).toArray X₁ hg hsize hdg hW (X₁.named hnamed) (hpre vm₁ X₁.warmed)
  exact ⟨v, vm₁, B, X₁.warmed, X', hpost, fun target h => hstep₁ _ fun acts => by rw [doInvoke_state]; exact hsteps.trans h⟩
abbrev vx_CVW (R : Room) (s : State) (args : Array Value) (own C : String) (index : Nat) (y : MethodName) (bytes : ByteArray) (maxL : Nat) (ret : Option FieldType) (hh : List (Nat × Nat × Nat × Nat)) (ws : List Cond) (rm : Room) (mc ms n : Nat) : Prop :=
  (rm.cells = mc ∧ rm.slots = ms ∧ rm.frames + 1 ≤ R.frames ∧ 8 + (maxL + 11) + rm.locals ≤ R.locals ∧ (∀ w ∈ ws, ∀ (a' : Array Value) (U : State), s.WarmedH U.vm → w.before a' U = true) ∧ Cond.codeWith y bytes maxL ret hh ∈ ws) ∧
  (Cond.codeWith y bytes maxL ret hh).before args s = true ∧ (Cond.initialized y.cls).before args s = true ∧ (y.cls ≠ "java/lang/invoke/MethodHandle" ∧ y.cls ≠ "java/lang/invoke/VarHandle") ∧
  (∀ sig, parseMethodDescriptor y.desc = some sig → n = sig.parameters.length) ∧ (Cond.methodLink own index y).before args s = true ∧ (Cond.instanceMethod y).before args s = true ∧ (Cond.selects C y y).before args s = true
theorem vx_cwVW {own C : String} {index maxL mc ms : Nat} {y : MethodName} {bytes : ByteArray} {ret : Option FieldType} {hh : List (Nat × Nat × Nat × Nat)} {Ts ws ws' : List Cond} {rm : Room} (n : Nat) (ht : ∀ w ∈ Ts, w.before args s = true) (hT : GoodIn Ts (wsV own index C y ws)) (hw : ws = Cond.codeWith y bytes maxL ret hh :: ws') (hrc : rm.cells = mc) (hrs : rm.slots = ms)
    (hd : y.cls = C ∧ y.cls ≠ "java/lang/invoke/MethodHandle" ∧ y.cls ≠ "java/lang/invoke/VarHandle" ∧ (parseMethodDescriptor y.desc).map (fun d => d.parameters.length) = some n) (hR : rm.frames + 1 ≤ R.frames ∧ 8 + (maxL + 11) + rm.locals ≤ R.locals) :
    vx_CVW R s args own C index y bytes maxL ret hh ws rm mc ms n := by
  obtain ⟨hC, hd⟩ := hd
  subst hC
  have ok : ∀ w ∈ wsV own index y.cls y ws, w.before args s = true := fun w h => ht w (hT w h).1
  have hG : GoodIn Ts ws := fun w h => hT w (by unfold wsV; exact List.mem_append_right _ h)
  have hc : Cond.codeWith y bytes maxL ret hh ∈ ws := by rw [hw]; exact List.mem_cons_self
  refine ⟨⟨hrc, hrs, hR.1, hR.2, pay_in ht hG, hc⟩, ht _ (hG _ hc).1, ok _ (by simp [wsV]), ⟨hd.1, hd.2.1⟩, fun sig h => ?_, ok _ (by simp [wsV]), ok _ (by simp [wsV]), ok _ (by simp [wsV])⟩
  have h2 := hd.2.2
  rw [h] at h2
  exact (Option.some.inj h2).symm
theorem vx_runVW {y : MethodName} {bytes cc : ByteArray} {maxL nL mc ms n index : Nat} {ret : Option FieldType} {hh : List (Nat × Nat × Nat × Nat)} {ws : List Cond} {rm : Room} {Pc : Array Value → State → Prop} {Qc : Array Value → State → Outcome → State → Prop} {free : Addr → Prop} {Ts : List Cond} {own C : String} {b : Addr} {As rest : List Value} {g : JFrame}
    (S : CallFix p m c cc nL s args Ts own) (hM : Met l y ws rm Pc Qc mc ms free) (cw : vx_CVW R s args own C index y bytes maxL ret hh ws rm mc ms n) (hp : PreV s H C b Pc As)
    (hg : g.method = m) (hn : As.length = n) (hsize : g.locals.size = nL) (hstack : g.stack = As.reverse ++ .ref b :: rest) (hW : 2 * g.monitorRoom + (rest.map fun v => v.category).sum ≤ 8) (hdg : decode cc g.pc = .ok (.invokevirtual index, 3)) (hf : cells + mc ≤ R.cells ∧ slots + ms ≤ R.slots) :
    va_Run p l e R s m args below meth c H locs cells slots mc ms g rest (Qc (Value.ref b :: As).toArray) free := by
  obtain ⟨⟨hrc, hrs, hfr, hlo, hws, hcw⟩, hcode, hini, hy, hlen, hl, hin, hse⟩ := cw
  have hK : Back l R p e below s args y 3 8 (PreOf R mc ms Pc) (PostOf Qc mc ms free) := va_backW (hh := hh) (bytes := bytes) (maxL := maxL) (ret := ret) hM hp.1 hrc hrs hfr hlo hws hcw (fun a' U hW => word_at hW (Or.inl (by first | rfl | simp [Cond.onTables, Cond.keeps, Cond.steady])) hini)
  obtain ⟨hx, hb, hml, ho, -⟩ := S
  obtain ⟨-, ⟨cellB, hcB, hoB, hclB⟩, hPc⟩ := hp
  intro T hT X
  obtain ⟨v, vm₁, ⟨U', l2, c2, s2⟩, hW₁, X', ⟨g', mk, t, L, e1, e2, hq, h1, hL, h2, h3⟩, st⟩ := vx_callVW X hx (C := C) (hh := hh) (bytes := bytes) (maxL := maxL) (ret := ret) ho hl hin hse hcode hy hK (by rw [hT]; exact hcB) hoB hclB hg (hsize.trans hml.symm) (argsL := As) (rest := rest) (fun sig h => hn.trans (hlen sig h)) hstack hW (by rw [hb]; exact hdg)
    (fun vm₁ hW₁ => ⟨hf.1, hf.2, hPc (T.setVm vm₁) hT hW₁⟩)
  dsimp only [Pt.U, Pt.locs, Pt.cells, Pt.slots] at X' e1 e2 h1 h2 h3 st
  subst h1; subst h2; subst h3
  exact ⟨v, (T.setVm vm₁).calling g' mk (Value.ref b :: As).toArray, t, U', L, hT, X', hL, e1, e2, hq, st⟩
section
variable {y : MethodName} {bytes cc : ByteArray} {maxL nL mc ms n index : Nat} {ret : Option FieldType} {ws : List Cond} {rm : Room} {Pc : Array Value → State → Prop} {Qc : Array Value → State → Outcome → State → Prop} {XC : String → State → State → Prop} {free : Addr → Prop} {Ts : List Cond} {own C : String} {b : Addr} {As rest : List Value} {g : JFrame}
theorem vx_runVX {hh : List (Nat × Nat × Nat × Nat)} (S : CallFix p m c cc nL s args Ts own) (hM : vx_Met l y ws rm Pc Qc XC mc ms free) (cw : vx_CVW R s args own C index y bytes maxL ret hh ws rm mc ms n) (hp : PreV s H C b Pc As)
    (hg : g.method = m) (hn : As.length = n) (hsize : g.locals.size = nL) (hstack : g.stack = As.reverse ++ .ref b :: rest) (hW : 2 * g.monitorRoom + (rest.map fun v => v.category).sum ≤ 8) (hdg : decode cc g.pc = .ok (.invokevirtual index, 3)) (hf : cells + mc ≤ R.cells ∧ slots + ms ≤ R.slots) :
    vx_Run p l e R s m args below meth c H locs cells slots mc ms g rest (Qc (Value.ref b :: As).toArray) XC free := by
  obtain ⟨⟨hrc, hrs, hfr, hlo, hws, hcw⟩, hcode, hini, hy, hlen, hl, hin, hse⟩ := cw
  have hK : vx_Back l R p e below s args y 3 8 (PreOf R mc ms Pc) (PostOf Qc mc ms free) (vx_Post XC mc ms free) := vx_backW (hh := hh) (bytes := bytes) (maxL := maxL) (ret := ret) hM hp.1 hrc hrs hfr hlo hws hcw (fun a' U hW => word_at hW (Or.inl (by first | rfl | simp [Cond.onTables, Cond.keeps, Cond.steady])) hini)
  obtain ⟨hx, hb, hml, ho, -⟩ := S
  obtain ⟨-, ⟨cellB, hcB, hoB, hclB⟩, hPc⟩ := hp
  intro T hT X
  rcases vx_callVX X hx (C := C) (hh := hh) (bytes := bytes) (maxL := maxL) (ret := ret) ho hl hin hse hcode hy hK (by rw [hT]; exact hcB) hoB hclB hg (hsize.trans hml.symm) (argsL := As) (rest := rest) (fun sig h => hn.trans (hlen sig h)) hstack hW (by rw [hb]; exact hdg)
    (fun vm₁ hW₁ => ⟨hf.1, hf.2, hPc (T.setVm vm₁) hT hW₁⟩) with ⟨v, vm₁, ⟨U', l2, c2, s2⟩, hW₁, X', ⟨g', mk, t, L, e1, e2, hq, h1, hL, h2, h3⟩, st⟩ | ⟨q, vm₁, ⟨U', l2, c2, s2⟩, hW₁, X', ⟨g', mk, t, L, E, ce, e1, e2, hq, hce, hcv, hcl, h1, hL, h2, h3⟩, st⟩
  · dsimp only [Pt.U, Pt.locs, Pt.cells, Pt.slots] at X' e1 e2 h1 h2 h3 st
    subst h1; subst h2; subst h3
    exact Or.inl ⟨v, (T.setVm vm₁).calling g' mk (Value.ref b :: As).toArray, t, U', L, hT, X', hL, e1, e2, hq, st⟩
  · dsimp only [Pt.U, Pt.locs, Pt.cells, Pt.slots] at X' e1 e2 h1 h2 h3 st hcl
    subst h1; subst h2; subst h3
    exact Or.inr ⟨q, (T.setVm vm₁).calling g' mk (Value.ref b :: As).toArray, t, U', L, E, ce, hT, X', hL, e1, e2, hq, hce, hcv, vx_cls hW₁ hcl, st⟩
theorem vx_runSX {hh : List (Nat × Nat × Nat × Nat)} (S : CallFix p m c cc nL s args Ts own) (hM : vx_Met l y ws rm Pc Qc XC mc ms free) (cw : vx_CSW R s args own index y bytes maxL ret hh ws rm mc ms n) (hp : PreS s H Pc As)
    (hg : g.method = m) (hn : As.length = n) (hsize : g.locals.size = nL) (hstack : g.stack = As.reverse ++ rest) (hW : 2 * g.monitorRoom + (rest.map fun v => v.category).sum ≤ 8) (hdg : decode cc g.pc = .ok (.invokestatic index, 3)) (hf : cells + mc ≤ R.cells ∧ slots + ms ≤ R.slots) :
    vx_Run p l e R s m args below meth c H locs cells slots mc ms g rest (Qc As.toArray) XC free := by
  obtain ⟨⟨hrc, hrs, hfr, hlo, hws, hcw⟩, hcode, hini, hy, hlen, hl, hstt⟩ := cw
  have hK : vx_Back l R p e below s args y 3 8 (PreOf R mc ms Pc) (PostOf Qc mc ms free) (vx_Post XC mc ms free) := vx_backW (hh := hh) (bytes := bytes) (maxL := maxL) (ret := ret) hM hp.1 hrc hrs hfr hlo hws hcw (fun a' U hW => word_at hW (Or.inl (by first | rfl | simp [Cond.onTables, Cond.keeps, Cond.steady])) hini)
  obtain ⟨hx, hb, hml, ho, -⟩ := S
  intro T hT X
  rcases vx_callSX X hx (hh := hh) (bytes := bytes) (maxL := maxL) (ret := ret) ho hl hstt hini hcode hy hK hg (hsize.trans hml.symm) (argsL := As) (rest := rest) (fun sig h => hn.trans (hlen sig h)) hstack hW (by rw [hb]; exact hdg)
    (fun vm₁ hW₁ => ⟨hf.1, hf.2, hp.2 (T.setVm vm₁) hT hW₁⟩) with ⟨v, vm₁, ⟨U', l2, c2, s2⟩, hW₁, X', ⟨g', mk, t, L, e1, e2, hq, h1, hL, h2, h3⟩, st⟩ | ⟨q, vm₁, ⟨U', l2, c2, s2⟩, hW₁, X', ⟨g', mk, t, L, E, ce, e1, e2, hq, hce, hcv, hcl, h1, hL, h2, h3⟩, st⟩
  · dsimp only [Pt.U, Pt.locs, Pt.cells, Pt.slots] at X' e1 e2 h1 h2 h3 st
    subst h1; subst h2; subst h3
    exact Or.inl ⟨v, (T.setVm vm₁).calling g' mk As.toArray, t, U', L, hT, X', hL, e1, e2, hq, st⟩
  · dsimp only [Pt.U, Pt.locs, Pt.cells, Pt.slots] at X' e1 e2 h1 h2 h3 st hcl
    subst h1; subst h2; subst h3
    exact Or.inr ⟨q, (T.setVm vm₁).calling g' mk As.toArray, t, U', L, E, ce, hT, X', hL, e1, e2, hq, hce, hcv, vx_cls hW₁ hcl, st⟩
end
end VXH
theorem vx_ofWH {l : Launch} {y : MethodName} {ws ws' : List Cond} {rm : Room} {Pc : Array Value → State → Prop} {Qc : Array Value → State → Outcome → State → Prop} {XC : String → State → State → Prop} {mc ms : Nat} {free : Addr → Prop} {cc : ByteArray} {maxL : Nat} {ret : Option FieldType} {hh : List (Nat × Nat × Nat × Nat)}
    (hy : plainName y.cls = true) (hw : ws = Cond.codeWith y cc maxL ret hh :: ws')
    (body : ∀ p e s m args below meth c s₁, BodyLoose p l y (headSpec ws rm) cc maxL ret e s m args below meth c s₁ → c.maxLocals = maxL → Pc args s →
      W p l e (headSpec ws rm).room s m args below meth c s.heap [] 0 0 (vx_MQ below Qc XC args s mc ms free) (entryFrame m args maxL)) : vx_Met l y ws rm Pc Qc XC mc ms free := by
  refine MetFree.of_bodyS (code := cc) (maxLocals := maxL) (ret := ret) hy ?_ ?_
  · intro args s m h hn
    obtain ⟨m9, meth, c, hn9, h1, h2, h3, h4, -, h5, h6, -⟩ := Cond.codeWith_spec (atoms_spec (ws := ws) h _ (by rw [hw]; exact List.mem_cons_self))
    cases hn.symm.trans hn9
    exact ⟨meth, c, h1, h2, h3, h4, h5, h6⟩
  · intro p e s m args below meth c s₁ B hml hP _
    have hh0 : s₁.heap = s.heap := by rw [B.state]; rfl
    obtain ⟨t, a1, o, b1, b2, b3⟩ := body p e s m args below meth c s₁ B hml hP s₁ hh0 (Stand.of_body B)
    exact ⟨t, o, a1, b1, b2, b3⟩
/-! ===== END ===== -/
end
section
/-! NAMES, by program out of the listing: classes, fields, codes, methods. -/
def R_X : String := "StockRows2"
def F_X : u_T := fun k => match k with
  | 0 => ("StockRows2", "lotRows", "LStockRows2$Rows;", true)
  | 1 => ("StockRows2", "moveRows", "LStockRows2$Rows;", true)
  | 2 => ("StockRows2", "orderRows", "LStockRows2$Rows;", true)
  | 3 => ("StockRows2", "emergencyRows", "LStockRows2$Rows;", true)
  | 4 => ("StockRows2", "differenceRows", "LStockRows2$Rows;", true)
  | 5 => ("StockRows2", "table", "LStockRows2$Table;", true)
  | 6 => ("StockRows2", "there", "[I", true)
  | 7 => ("StockRows2", "least", "[I", true)
  | 8 => ("StockRows2", "most", "[I", true)
  | 9 => ("StockRows2", "parts", "[I", true)
  | 10 => ("StockRows2", "stores", "I", false)
  | _ => ("StockRows2", "day", "I", false)
def ty_X : Nat → FieldType := fun k => match k with
  | 0 => .object "StockRows2$Rows"
  | 1 => .object "StockRows2$Rows"
  | 2 => .object "StockRows2$Rows"
  | 3 => .object "StockRows2$Rows"
  | 4 => .object "StockRows2$Rows"
  | 5 => .object "StockRows2$Table"
  | 6 => .array .int
  | 7 => .array .int
  | 8 => .array .int
  | 9 => .array .int
  | 10 => .int
  | _ => .int
theorem n_X : ∀ a, a < 12 → ∀ b, b < 12 → a ≠ b → (F_X a).2.1 ≠ (F_X b).2.1 := by decide +kernel
theorem ty_X_ok : ∀ k, k < 12 → parseFieldDescriptor (F_X k).2.2.1 = some (ty_X k) := by decide +kernel
def R_W : String := "StockRows2$Rows"
def F_W : u_T := fun k => match k with
  | 0 => ("StockRows2$Rows", "room", "I", true)
  | 1 => ("StockRows2$Rows", "cells", "[I", true)
  | _ => ("StockRows2$Rows", "made", "I", false)
def ty_W : Nat → FieldType := fun k => match k with
  | 0 => .int
  | 1 => .array .int
  | _ => .int
theorem n_W : ∀ a, a < 3 → ∀ b, b < 3 → a ≠ b → (F_W a).2.1 ≠ (F_W b).2.1 := by decide +kernel
theorem ty_W_ok : ∀ k, k < 3 → parseFieldDescriptor (F_W k).2.2.1 = some (ty_W k) := by decide +kernel
def R_H : String := "StockRows2$Table"
def F_H : u_T := fun k => match k with
  | 0 => ("StockRows2$Table", "heights", "[I", true)
  | 1 => ("StockRows2$Table", "litres", "[I", true)
  | _ => ("StockRows2$Table", "made", "I", false)
def ty_H : Nat → FieldType := fun k => match k with
  | 0 => .array .int
  | 1 => .array .int
  | _ => .int
theorem n_H : ∀ a, a < 3 → ∀ b, b < 3 → a ≠ b → (F_H a).2.1 ≠ (F_H b).2.1 := by decide +kernel
theorem ty_H_ok : ∀ k, k < 3 → parseFieldDescriptor (F_H k).2.2.1 = some (ty_H k) := by decide +kernel
def R_M : String := "StockRows2Model"
def F_M : u_T := fun k => match k with
  | 0 => ("StockRows2Model", "thrown", "I", false)
  | 1 => ("StockRows2Model", "day", "I", false)
  | 2 => ("StockRows2Model", "stores", "I", false)
  | 3 => ("StockRows2Model", "lots", "I", false)
  | 4 => ("StockRows2Model", "kind", "[I", true)
  | 5 => ("StockRows2Model", "end", "[I", true)
  | 6 => ("StockRows2Model", "out", "[I", true)
  | 7 => ("StockRows2Model", "wasted", "[I", true)
  | 8 => ("StockRows2Model", "paper", "[I", true)
  | 9 => ("StockRows2Model", "has", "[I", true)
  | 10 => ("StockRows2Model", "moves", "I", false)
  | 11 => ("StockRows2Model", "moveTo", "[I", true)
  | 12 => ("StockRows2Model", "moveLot", "[I", true)
  | 13 => ("StockRows2Model", "moveMany", "[I", true)
  | 14 => ("StockRows2Model", "arrives", "[I", true)
  | 15 => ("StockRows2Model", "onWay", "[Z", true)
  | 16 => ("StockRows2Model", "isLevel", "[Z", true)
  | 17 => ("StockRows2Model", "least", "[I", true)
  | 18 => ("StockRows2Model", "most", "[I", true)
  | 19 => ("StockRows2Model", "orders", "I", false)
  | 20 => ("StockRows2Model", "orderStore", "[I", true)
  | 21 => ("StockRows2Model", "orderKind", "[I", true)
  | 22 => ("StockRows2Model", "orderMany", "[I", true)
  | 23 => ("StockRows2Model", "orderDay", "[I", true)
  | 24 => ("StockRows2Model", "open", "[Z", true)
  | 25 => ("StockRows2Model", "emergencies", "I", false)
  | 26 => ("StockRows2Model", "emStore", "[I", true)
  | 27 => ("StockRows2Model", "emKind", "[I", true)
  | 28 => ("StockRows2Model", "emMany", "[I", true)
  | 29 => ("StockRows2Model", "emPerson", "[I", true)
  | 30 => ("StockRows2Model", "emDone", "[Z", true)
  | 31 => ("StockRows2Model", "rows", "I", false)
  | 32 => ("StockRows2Model", "row", "[I", true)
  | 33 => ("StockRows2Model", "parts", "[I", true)
  | 34 => ("StockRows2Model", "heights", "I", false)
  | 35 => ("StockRows2Model", "height", "[I", true)
  | _ => ("StockRows2Model", "litres", "[I", true)
def ty_M : Nat → FieldType := fun k => match k with
  | 0 => .int
  | 1 => .int
  | 2 => .int
  | 3 => .int
  | 4 => .array .int
  | 5 => .array .int
  | 6 => .array .int
  | 7 => .array .int
  | 8 => .array .int
  | 9 => .array .int
  | 10 => .int
  | 11 => .array .int
  | 12 => .array .int
  | 13 => .array .int
  | 14 => .array .int
  | 15 => .array .boolean
  | 16 => .array .boolean
  | 17 => .array .int
  | 18 => .array .int
  | 19 => .int
  | 20 => .array .int
  | 21 => .array .int
  | 22 => .array .int
  | 23 => .array .int
  | 24 => .array .boolean
  | 25 => .int
  | 26 => .array .int
  | 27 => .array .int
  | 28 => .array .int
  | 29 => .array .int
  | 30 => .array .boolean
  | 31 => .int
  | 32 => .array .int
  | 33 => .array .int
  | 34 => .int
  | 35 => .array .int
  | _ => .array .int
theorem n_M : ∀ a, a < 37 → ∀ b, b < 37 → a ≠ b → (F_M a).2.1 ≠ (F_M b).2.1 := by decide +kernel
theorem ty_M_ok : ∀ k, k < 37 → parseFieldDescriptor (F_M k).2.2.1 = some (ty_M k) := by decide +kernel
def R_L : String := "StockRows2Law"
abbrev classes : List vw_C := [(R_X, F_X, 12), (R_W, F_W, 3), (R_H, F_H, 3), (R_M, F_M, 37)]
/-- the words that hold wherever the tables are warm -/
def bg : List Cond := lw_tbl.filter goodWord
theorem bgm {w : Cond} (k : Nat) (h : lw_tbl[k]? = some w) (hg : goodWord w = true) : w ∈ bg := List.mem_filter.mpr ⟨List.mem_of_getElem? h, hg⟩
abbrev b_X_init : ByteArray := prog_1_method_1_code
def y_X_init : MethodName := ⟨R_X, "<init>", "()V"⟩
abbrev b_X_store : ByteArray := prog_1_method_2_code
def y_X_store : MethodName := ⟨R_X, "store", "()I"⟩
abbrev b_X_lot : ByteArray := prog_1_method_3_code
def y_X_lot : MethodName := ⟨R_X, "lot", "(II)I"⟩
abbrev b_X_bring : ByteArray := prog_1_method_4_code
def y_X_bring : MethodName := ⟨R_X, "bring", "(III)I"⟩
abbrev b_X_move : ByteArray := prog_1_method_5_code
def y_X_move : MethodName := ⟨R_X, "move", "(IIIII)I"⟩
abbrev b_X_use : ByteArray := prog_1_method_6_code
def y_X_use : MethodName := ⟨R_X, "use", "(III)I"⟩
abbrev b_X_sum : ByteArray := prog_1_method_7_code
def y_X_sum : MethodName := ⟨R_X, "sum", "(III)I"⟩
abbrev b_X_has : ByteArray := prog_1_method_8_code
def y_X_has : MethodName := ⟨R_X, "has", "(II)I"⟩
abbrev b_X_level : ByteArray := prog_1_method_9_code
def y_X_level : MethodName := ⟨R_X, "level", "(IIII)V"⟩
abbrev b_X_orders : ByteArray := prog_1_method_10_code
def y_X_orders : MethodName := ⟨R_X, "orders", "()I"⟩
abbrev b_X_order : ByteArray := prog_1_method_11_code
def y_X_order : MethodName := ⟨R_X, "order", "(II)I"⟩
abbrev b_X_deliver : ByteArray := prog_1_method_12_code
def y_X_deliver : MethodName := ⟨R_X, "deliver", "(II)I"⟩
abbrev b_X_emergency : ByteArray := prog_1_method_13_code
def y_X_emergency : MethodName := ⟨R_X, "emergency", "(IIII)I"⟩
abbrev b_X_second : ByteArray := prog_1_method_14_code
def y_X_second : MethodName := ⟨R_X, "second", "(II)I"⟩
abbrev b_X_count : ByteArray := prog_1_method_15_code
def y_X_count : MethodName := ⟨R_X, "count", "(IIII)I"⟩
abbrev b_X_difference : ByteArray := prog_1_method_16_code
def y_X_difference : MethodName := ⟨R_X, "difference", "(II)I"⟩
abbrev b_X_kit : ByteArray := prog_1_method_17_code
def y_X_kit : MethodName := ⟨R_X, "kit", "(III)V"⟩
abbrev b_X_give : ByteArray := prog_1_method_18_code
def y_X_give : MethodName := ⟨R_X, "give", "(II)I"⟩
abbrev b_X_back : ByteArray := prog_1_method_19_code
def y_X_back : MethodName := ⟨R_X, "back", "(III)Z"⟩
abbrev b_X_waste : ByteArray := prog_1_method_20_code
def y_X_waste : MethodName := ⟨R_X, "waste", "(IIII)I"⟩
abbrev b_X_lotAt : ByteArray := prog_1_method_21_code
def y_X_lotAt : MethodName := ⟨R_X, "lotAt", "(II)I"⟩
abbrev b_X_row : ByteArray := prog_1_method_22_code
def y_X_row : MethodName := ⟨R_X, "row", "(II)I"⟩
abbrev b_X_dip : ByteArray := prog_1_method_23_code
def y_X_dip : MethodName := ⟨R_X, "dip", "(I)I"⟩
abbrev b_X_tick : ByteArray := prog_1_method_24_code
def y_X_tick : MethodName := ⟨R_X, "tick", "(I)I"⟩
abbrev b_X_needStore : ByteArray := prog_1_method_25_code
def y_X_needStore : MethodName := ⟨R_X, "needStore", "(I)V"⟩
abbrev b_X_needLot : ByteArray := prog_1_method_26_code
def y_X_needLot : MethodName := ⟨R_X, "needLot", "(I)V"⟩
abbrev b_X_needRow : ByteArray := prog_1_method_27_code
def y_X_needRow : MethodName := ⟨R_X, "needRow", "(LStockRows2$Rows;I)V"⟩
abbrev b_X_needKind : ByteArray := prog_1_method_28_code
def y_X_needKind : MethodName := ⟨R_X, "needKind", "(I)V"⟩
abbrev b_X_needPerson : ByteArray := prog_1_method_29_code
def y_X_needPerson : MethodName := ⟨R_X, "needPerson", "(I)V"⟩
abbrev b_X_needKit : ByteArray := prog_1_method_30_code
def y_X_needKit : MethodName := ⟨R_X, "needKit", "(I)V"⟩
abbrev b_X_needRange : ByteArray := prog_1_method_31_code
def y_X_needRange : MethodName := ⟨R_X, "needRange", "(III)V"⟩
abbrev b_X_needThere : ByteArray := prog_1_method_32_code
def y_X_needThere : MethodName := ⟨R_X, "needThere", "(III)V"⟩
abbrev b_X_needPlace : ByteArray := prog_1_method_33_code
def y_X_needPlace : MethodName := ⟨R_X, "needPlace", "(III)V"⟩
abbrev b_X_needRoom : ByteArray := prog_1_method_34_code
def y_X_needRoom : MethodName := ⟨R_X, "needRoom", "(LStockRows2$Rows;)V"⟩
abbrev b_X_cell : ByteArray := prog_1_method_35_code
def y_X_cell : MethodName := ⟨R_X, "cell", "(LStockRows2$Rows;II)I"⟩
abbrev b_X_place : ByteArray := prog_1_method_36_code
def y_X_place : MethodName := ⟨R_X, "place", "(II)I"⟩
abbrev b_X_pair : ByteArray := prog_1_method_37_code
def y_X_pair : MethodName := ⟨R_X, "pair", "(II)I"⟩
abbrev b_X_change : ByteArray := prog_1_method_38_code
def y_X_change : MethodName := ⟨R_X, "change", "(III)V"⟩
abbrev b_X_addUpToMost : ByteArray := prog_1_method_39_code
def y_X_addUpToMost : MethodName := ⟨R_X, "addUpToMost", "(III)V"⟩
abbrev b_X_arrive : ByteArray := prog_1_method_40_code
def y_X_arrive : MethodName := ⟨R_X, "arrive", "(I)V"⟩
abbrev b_X_isGoodOn : ByteArray := prog_1_method_41_code
def y_X_isGoodOn : MethodName := ⟨R_X, "isGoodOn", "(II)Z"⟩
abbrev b_X_inStore : ByteArray := prog_1_method_42_code
def y_X_inStore : MethodName := ⟨R_X, "inStore", "(IIZ)I"⟩
abbrev b_X_inAllStores : ByteArray := prog_1_method_43_code
def y_X_inAllStores : MethodName := ⟨R_X, "inAllStores", "(I)I"⟩
abbrev b_X_onTheWay : ByteArray := prog_1_method_44_code
def y_X_onTheWay : MethodName := ⟨R_X, "onTheWay", "(IIZ)I"⟩
abbrev b_X_inOpenOrders : ByteArray := prog_1_method_45_code
def y_X_inOpenOrders : MethodName := ⟨R_X, "inOpenOrders", "(II)I"⟩
abbrev b_X_orderByLevel : ByteArray := prog_1_method_46_code
def y_X_orderByLevel : MethodName := ⟨R_X, "orderByLevel", "(II)V"⟩
abbrev b_X_addOrder : ByteArray := prog_1_method_47_code
def y_X_addOrder : MethodName := ⟨R_X, "addOrder", "(III)I"⟩
abbrev b_X_take : ByteArray := prog_1_method_48_code
def y_X_take : MethodName := ⟨R_X, "take", "(III)V"⟩
abbrev b_X_firstToTake : ByteArray := prog_1_method_49_code
def y_X_firstToTake : MethodName := ⟨R_X, "firstToTake", "(II)I"⟩
abbrev b_X_isTakenBefore : ByteArray := prog_1_method_50_code
def y_X_isTakenBefore : MethodName := ⟨R_X, "isTakenBefore", "(III)Z"⟩
abbrev b_X_hasParts : ByteArray := prog_1_method_51_code
def y_X_hasParts : MethodName := ⟨R_X, "hasParts", "(I)Z"⟩
abbrev b_X_lackingKind : ByteArray := prog_1_method_52_code
def y_X_lackingKind : MethodName := ⟨R_X, "lackingKind", "(II)I"⟩
abbrev b_M_init : ByteArray := prog_5_method_1_code
def y_M_init : MethodName := ⟨R_M, "<init>", "()V"⟩
abbrev b_M_thrown : ByteArray := prog_5_method_2_code
def y_M_thrown : MethodName := ⟨R_M, "thrown", "()I"⟩
abbrev b_M_in : ByteArray := prog_5_method_3_code
def y_M_in : MethodName := ⟨R_M, "in", "(III)Z"⟩
abbrev b_M_goes : ByteArray := prog_5_method_4_code
def y_M_goes : MethodName := ⟨R_M, "goes", "(IZZZZ)Z"⟩
abbrev b_M_isStore : ByteArray := prog_5_method_5_code
def y_M_isStore : MethodName := ⟨R_M, "isStore", "(I)Z"⟩
abbrev b_M_isKind : ByteArray := prog_5_method_6_code
def y_M_isKind : MethodName := ⟨R_M, "isKind", "(I)Z"⟩
abbrev b_M_isLot : ByteArray := prog_5_method_7_code
def y_M_isLot : MethodName := ⟨R_M, "isLot", "(I)Z"⟩
abbrev b_M_isMany : ByteArray := prog_5_method_8_code
def y_M_isMany : MethodName := ⟨R_M, "isMany", "(I)Z"⟩
abbrev b_M_at : ByteArray := prog_5_method_9_code
def y_M_at : MethodName := ⟨R_M, "at", "(II)I"⟩
abbrev b_M_lesser : ByteArray := prog_5_method_10_code
def y_M_lesser : MethodName := ⟨R_M, "lesser", "(II)I"⟩
abbrev b_M_store : ByteArray := prog_5_method_11_code
def y_M_store : MethodName := ⟨R_M, "store", "()I"⟩
abbrev b_M_lot : ByteArray := prog_5_method_12_code
def y_M_lot : MethodName := ⟨R_M, "lot", "(II)I"⟩
abbrev b_M_bring : ByteArray := prog_5_method_13_code
def y_M_bring : MethodName := ⟨R_M, "bring", "(III)I"⟩
abbrev b_M_comes : ByteArray := prog_5_method_14_code
def y_M_comes : MethodName := ⟨R_M, "comes", "(III)V"⟩
abbrev b_M_move : ByteArray := prog_5_method_15_code
def y_M_move : MethodName := ⟨R_M, "move", "(IIIII)I"⟩
abbrev b_M_isGood : ByteArray := prog_5_method_16_code
def y_M_isGood : MethodName := ⟨R_M, "isGood", "(I)Z"⟩
abbrev b_M_good : ByteArray := prog_5_method_17_code
def y_M_good : MethodName := ⟨R_M, "good", "(II)I"⟩
abbrev b_M_takes : ByteArray := prog_5_method_18_code
def y_M_takes : MethodName := ⟨R_M, "takes", "(III)V"⟩
abbrev b_M_use : ByteArray := prog_5_method_19_code
def y_M_use : MethodName := ⟨R_M, "use", "(III)I"⟩
abbrev b_M_sum : ByteArray := prog_5_method_20_code
def y_M_sum : MethodName := ⟨R_M, "sum", "(III)I"⟩
abbrev b_M_has : ByteArray := prog_5_method_21_code
def y_M_has : MethodName := ⟨R_M, "has", "(II)I"⟩
abbrev b_M_level : ByteArray := prog_5_method_22_code
def y_M_level : MethodName := ⟨R_M, "level", "(IIII)V"⟩
abbrev b_M_makes : ByteArray := prog_5_method_23_code
def y_M_makes : MethodName := ⟨R_M, "makes", "(III)V"⟩
abbrev b_M_expected : ByteArray := prog_5_method_24_code
def y_M_expected : MethodName := ⟨R_M, "expected", "(II)I"⟩
abbrev b_M_orders : ByteArray := prog_5_method_25_code
def y_M_orders : MethodName := ⟨R_M, "orders", "()I"⟩
abbrev b_M_order : ByteArray := prog_5_method_26_code
def y_M_order : MethodName := ⟨R_M, "order", "(II)I"⟩
abbrev b_M_deliver : ByteArray := prog_5_method_27_code
def y_M_deliver : MethodName := ⟨R_M, "deliver", "(II)I"⟩
abbrev b_M_emergency : ByteArray := prog_5_method_28_code
def y_M_emergency : MethodName := ⟨R_M, "emergency", "(IIII)I"⟩
abbrev b_M_second : ByteArray := prog_5_method_29_code
def y_M_second : MethodName := ⟨R_M, "second", "(II)I"⟩
abbrev b_M_count : ByteArray := prog_5_method_30_code
def y_M_count : MethodName := ⟨R_M, "count", "(IIII)I"⟩
abbrev b_M_difference : ByteArray := prog_5_method_31_code
def y_M_difference : MethodName := ⟨R_M, "difference", "(II)I"⟩
abbrev b_M_kit : ByteArray := prog_5_method_32_code
def y_M_kit : MethodName := ⟨R_M, "kit", "(III)V"⟩
abbrev b_M_give : ByteArray := prog_5_method_33_code
def y_M_give : MethodName := ⟨R_M, "give", "(II)I"⟩
abbrev b_M_back : ByteArray := prog_5_method_34_code
def y_M_back : MethodName := ⟨R_M, "back", "(III)Z"⟩
abbrev b_M_waste : ByteArray := prog_5_method_35_code
def y_M_waste : MethodName := ⟨R_M, "waste", "(IIII)I"⟩
abbrev b_M_lotAt : ByteArray := prog_5_method_36_code
def y_M_lotAt : MethodName := ⟨R_M, "lotAt", "(II)I"⟩
abbrev b_M_row : ByteArray := prog_5_method_37_code
def y_M_row : MethodName := ⟨R_M, "row", "(II)I"⟩
abbrev b_M_dip : ByteArray := prog_5_method_38_code
def y_M_dip : MethodName := ⟨R_M, "dip", "(I)I"⟩
abbrev b_M_tick : ByteArray := prog_5_method_39_code
def y_M_tick : MethodName := ⟨R_M, "tick", "(I)I"⟩
abbrev b_W_init : ByteArray := prog_2_method_1_code
def y_W_init : MethodName := ⟨R_W, "<init>", "(I)V"⟩
abbrev b_W_made : ByteArray := prog_2_method_2_code
def y_W_made : MethodName := ⟨R_W, "made", "()I"⟩
abbrev b_W_isFull : ByteArray := prog_2_method_3_code
def y_W_isFull : MethodName := ⟨R_W, "isFull", "()Z"⟩
abbrev b_W_isMade : ByteArray := prog_2_method_4_code
def y_W_isMade : MethodName := ⟨R_W, "isMade", "(I)Z"⟩
abbrev b_W_isColumn : ByteArray := prog_2_method_5_code
def y_W_isColumn : MethodName := ⟨R_W, "isColumn", "(I)Z"⟩
abbrev b_W_at : ByteArray := prog_2_method_6_code
def y_W_at : MethodName := ⟨R_W, "at", "(II)I"⟩
abbrev b_W_put : ByteArray := prog_2_method_7_code
def y_W_put : MethodName := ⟨R_W, "put", "(III)V"⟩
abbrev b_W_add : ByteArray := prog_2_method_8_code
def y_W_add : MethodName := ⟨R_W, "add", "(IIIII)I"⟩
abbrev b_H_init : ByteArray := prog_3_method_1_code
def y_H_init : MethodName := ⟨R_H, "<init>", "()V"⟩
abbrev b_H_isFull : ByteArray := prog_3_method_2_code
def y_H_isFull : MethodName := ⟨R_H, "isFull", "()Z"⟩
abbrev b_H_isBelow : ByteArray := prog_3_method_3_code
def y_H_isBelow : MethodName := ⟨R_H, "isBelow", "(II)Z"⟩
abbrev b_H_add : ByteArray := prog_3_method_4_code
def y_H_add : MethodName := ⟨R_H, "add", "(II)I"⟩
abbrev b_H_litresAt : ByteArray := prog_3_method_5_code
def y_H_litresAt : MethodName := ⟨R_H, "litresAt", "(I)I"⟩
abbrev b_H_lastNotAbove : ByteArray := prog_3_method_6_code
def y_H_lastNotAbove : MethodName := ⟨R_H, "lastNotAbove", "(I)I"⟩
abbrev b_H_litresBetween : ByteArray := prog_3_method_7_code
def y_H_litresBetween : MethodName := ⟨R_H, "litresBetween", "(III)I"⟩
abbrev b_L_store : ByteArray := method_3_code
def y_L_store : MethodName := ⟨R_L, "store", "(LStockRows2;[J)I"⟩
abbrev b_L_lot : ByteArray := method_4_code
def y_L_lot : MethodName := ⟨R_L, "lot", "(LStockRows2;II[J)I"⟩
abbrev b_L_bring : ByteArray := method_5_code
def y_L_bring : MethodName := ⟨R_L, "bring", "(LStockRows2;III[J)I"⟩
abbrev b_L_move : ByteArray := method_6_code
def y_L_move : MethodName := ⟨R_L, "move", "(LStockRows2;IIIII[J)I"⟩
abbrev b_L_use : ByteArray := method_7_code
def y_L_use : MethodName := ⟨R_L, "use", "(LStockRows2;III[J)I"⟩
abbrev b_L_sum : ByteArray := method_8_code
def y_L_sum : MethodName := ⟨R_L, "sum", "(LStockRows2;III[J)I"⟩
abbrev b_L_has : ByteArray := method_9_code
def y_L_has : MethodName := ⟨R_L, "has", "(LStockRows2;II[J)I"⟩
abbrev b_L_level : ByteArray := method_10_code
def y_L_level : MethodName := ⟨R_L, "level", "(LStockRows2;IIII)I"⟩
abbrev b_L_order : ByteArray := method_11_code
def y_L_order : MethodName := ⟨R_L, "order", "(LStockRows2;II[J)I"⟩
abbrev b_L_deliver : ByteArray := method_12_code
def y_L_deliver : MethodName := ⟨R_L, "deliver", "(LStockRows2;II[J)I"⟩
abbrev b_L_emergency : ByteArray := method_13_code
def y_L_emergency : MethodName := ⟨R_L, "emergency", "(LStockRows2;IIII[J)I"⟩
abbrev b_L_second : ByteArray := method_14_code
def y_L_second : MethodName := ⟨R_L, "second", "(LStockRows2;II[J)I"⟩
abbrev b_L_count : ByteArray := method_15_code
def y_L_count : MethodName := ⟨R_L, "count", "(LStockRows2;IIII[J)I"⟩
abbrev b_L_difference : ByteArray := method_16_code
def y_L_difference : MethodName := ⟨R_L, "difference", "(LStockRows2;II[J)I"⟩
abbrev b_L_kit : ByteArray := method_17_code
def y_L_kit : MethodName := ⟨R_L, "kit", "(LStockRows2;III)I"⟩
abbrev b_L_give : ByteArray := method_18_code
def y_L_give : MethodName := ⟨R_L, "give", "(LStockRows2;II[J)I"⟩
abbrev b_L_back : ByteArray := method_19_code
def y_L_back : MethodName := ⟨R_L, "back", "(LStockRows2;III[J)I"⟩
abbrev b_L_waste : ByteArray := method_20_code
def y_L_waste : MethodName := ⟨R_L, "waste", "(LStockRows2;IIII[J)I"⟩
abbrev b_L_lotAt : ByteArray := method_21_code
def y_L_lotAt : MethodName := ⟨R_L, "lotAt", "(LStockRows2;II[J)I"⟩
abbrev b_L_row : ByteArray := method_22_code
def y_L_row : MethodName := ⟨R_L, "row", "(LStockRows2;II[J)I"⟩
abbrev b_L_dip : ByteArray := method_23_code
def y_L_dip : MethodName := ⟨R_L, "dip", "(LStockRows2;I[J)I"⟩
abbrev b_L_tick : ByteArray := method_24_code
def y_L_tick : MethodName := ⟨R_L, "tick", "(LStockRows2;I[J)I"⟩
abbrev b_L_law : ByteArray := code
def y_L_law : MethodName := ⟨R_L, "law", "([I)Z"⟩
end
section
theorem d_W_init_0 : decode b_W_init 0 = .ok (.aload_n 0, 1) := by decide +kernel
theorem d_W_init_1 : decode b_W_init 1 = .ok (.invokespecial 1, 3) := by decide +kernel
theorem d_W_init_4 : decode b_W_init 4 = .ok (.aload_n 0, 1) := by decide +kernel
theorem d_W_init_5 : decode b_W_init 5 = .ok (.iconst 0, 1) := by decide +kernel
theorem d_W_init_6 : decode b_W_init 6 = .ok (.iload_n 1, 1) := by decide +kernel
theorem d_W_init_7 : decode b_W_init 7 = .ok (.invokestatic 7, 3) := by decide +kernel
theorem d_W_init_10 : decode b_W_init 10 = .ok (.putfield 13, 3) := by decide +kernel
theorem d_W_init_13 : decode b_W_init 13 = .ok (.aload_n 0, 1) := by decide +kernel
theorem d_W_init_14 : decode b_W_init 14 = .ok (.aload_n 0, 1) := by decide +kernel
theorem d_W_init_15 : decode b_W_init 15 = .ok (.getfield 13, 3) := by decide +kernel
theorem d_W_init_18 : decode b_W_init 18 = .ok (.iconst 5, 1) := by decide +kernel
theorem d_W_init_19 : decode b_W_init 19 = .ok (.imul, 1) := by decide +kernel
theorem d_W_init_20 : decode b_W_init 20 = .ok (.newarray .int, 2) := by decide +kernel
theorem d_W_init_22 : decode b_W_init 22 = .ok (.putfield 19, 3) := by decide +kernel
theorem d_W_init_25 : decode b_W_init 25 = .ok (.return_, 1) := by decide +kernel
theorem d_W_made_0 : decode b_W_made 0 = .ok (.aload_n 0, 1) := by decide +kernel
theorem d_W_made_1 : decode b_W_made 1 = .ok (.getfield 23, 3) := by decide +kernel
theorem d_W_made_4 : decode b_W_made 4 = .ok (.ireturn, 1) := by decide +kernel
theorem d_W_isFull_0 : decode b_W_isFull 0 = .ok (.aload_n 0, 1) := by decide +kernel
theorem d_W_isFull_1 : decode b_W_isFull 1 = .ok (.getfield 23, 3) := by decide +kernel
theorem d_W_isFull_4 : decode b_W_isFull 4 = .ok (.aload_n 0, 1) := by decide +kernel
theorem d_W_isFull_5 : decode b_W_isFull 5 = .ok (.getfield 13, 3) := by decide +kernel
theorem d_W_isFull_8 : decode b_W_isFull 8 = .ok (.if_icmp .lt 7, 3) := by decide +kernel
theorem d_W_isFull_11 : decode b_W_isFull 11 = .ok (.iconst 1, 1) := by decide +kernel
theorem d_W_isFull_12 : decode b_W_isFull 12 = .ok (.goto 4, 3) := by decide +kernel
theorem d_W_isFull_15 : decode b_W_isFull 15 = .ok (.iconst 0, 1) := by decide +kernel
theorem d_W_isFull_16 : decode b_W_isFull 16 = .ok (.ireturn, 1) := by decide +kernel
theorem d_W_isMade_0 : decode b_W_isMade 0 = .ok (.iload_n 1, 1) := by decide +kernel
theorem d_W_isMade_1 : decode b_W_isMade 1 = .ok (.ifCond .lt 15, 3) := by decide +kernel
theorem d_W_isMade_4 : decode b_W_isMade 4 = .ok (.iload_n 1, 1) := by decide +kernel
theorem d_W_isMade_5 : decode b_W_isMade 5 = .ok (.aload_n 0, 1) := by decide +kernel
theorem d_W_isMade_6 : decode b_W_isMade 6 = .ok (.getfield 23, 3) := by decide +kernel
theorem d_W_isMade_9 : decode b_W_isMade 9 = .ok (.if_icmp .ge 7, 3) := by decide +kernel
theorem d_W_isMade_12 : decode b_W_isMade 12 = .ok (.iconst 1, 1) := by decide +kernel
theorem d_W_isMade_13 : decode b_W_isMade 13 = .ok (.goto 4, 3) := by decide +kernel
theorem d_W_isMade_16 : decode b_W_isMade 16 = .ok (.iconst 0, 1) := by decide +kernel
theorem d_W_isMade_17 : decode b_W_isMade 17 = .ok (.ireturn, 1) := by decide +kernel
theorem d_W_isColumn_0 : decode b_W_isColumn 0 = .ok (.iload_n 1, 1) := by decide +kernel
theorem d_W_isColumn_1 : decode b_W_isColumn 1 = .ok (.ifCond .lt 12, 3) := by decide +kernel
theorem d_W_isColumn_4 : decode b_W_isColumn 4 = .ok (.iload_n 1, 1) := by decide +kernel
theorem d_W_isColumn_5 : decode b_W_isColumn 5 = .ok (.iconst 5, 1) := by decide +kernel
theorem d_W_isColumn_6 : decode b_W_isColumn 6 = .ok (.if_icmp .ge 7, 3) := by decide +kernel
theorem d_W_isColumn_9 : decode b_W_isColumn 9 = .ok (.iconst 1, 1) := by decide +kernel
theorem d_W_isColumn_10 : decode b_W_isColumn 10 = .ok (.goto 4, 3) := by decide +kernel
theorem d_W_isColumn_13 : decode b_W_isColumn 13 = .ok (.iconst 0, 1) := by decide +kernel
theorem d_W_isColumn_14 : decode b_W_isColumn 14 = .ok (.ireturn, 1) := by decide +kernel
theorem d_W_at_0 : decode b_W_at 0 = .ok (.aload_n 0, 1) := by decide +kernel
theorem d_W_at_1 : decode b_W_at 1 = .ok (.getfield 19, 3) := by decide +kernel
theorem d_W_at_4 : decode b_W_at 4 = .ok (.iload_n 1, 1) := by decide +kernel
theorem d_W_at_5 : decode b_W_at 5 = .ok (.iconst 5, 1) := by decide +kernel
theorem d_W_at_6 : decode b_W_at 6 = .ok (.imul, 1) := by decide +kernel
theorem d_W_at_7 : decode b_W_at 7 = .ok (.iload_n 2, 1) := by decide +kernel
theorem d_W_at_8 : decode b_W_at 8 = .ok (.iadd, 1) := by decide +kernel
theorem d_W_at_9 : decode b_W_at 9 = .ok (.iaload, 1) := by decide +kernel
theorem d_W_at_10 : decode b_W_at 10 = .ok (.ireturn, 1) := by decide +kernel
theorem d_W_put_0 : decode b_W_put 0 = .ok (.aload_n 0, 1) := by decide +kernel
theorem d_W_put_1 : decode b_W_put 1 = .ok (.getfield 19, 3) := by decide +kernel
theorem d_W_put_4 : decode b_W_put 4 = .ok (.iload_n 1, 1) := by decide +kernel
theorem d_W_put_5 : decode b_W_put 5 = .ok (.iconst 5, 1) := by decide +kernel
theorem d_W_put_6 : decode b_W_put 6 = .ok (.imul, 1) := by decide +kernel
theorem d_W_put_7 : decode b_W_put 7 = .ok (.iload_n 2, 1) := by decide +kernel
theorem d_W_put_8 : decode b_W_put 8 = .ok (.iadd, 1) := by decide +kernel
theorem d_W_put_9 : decode b_W_put 9 = .ok (.iload_n 3, 1) := by decide +kernel
theorem d_W_put_10 : decode b_W_put 10 = .ok (.iastore, 1) := by decide +kernel
theorem d_W_put_11 : decode b_W_put 11 = .ok (.return_, 1) := by decide +kernel
theorem d_W_add_0 : decode b_W_add 0 = .ok (.aload_n 0, 1) := by decide +kernel
theorem d_W_add_1 : decode b_W_add 1 = .ok (.getfield 23, 3) := by decide +kernel
theorem d_W_add_4 : decode b_W_add 4 = .ok (.istore 6, 2) := by decide +kernel
theorem d_W_add_6 : decode b_W_add 6 = .ok (.aload_n 0, 1) := by decide +kernel
theorem d_W_add_7 : decode b_W_add 7 = .ok (.iload 6, 2) := by decide +kernel
theorem d_W_add_9 : decode b_W_add 9 = .ok (.iconst 0, 1) := by decide +kernel
theorem d_W_add_10 : decode b_W_add 10 = .ok (.iload_n 1, 1) := by decide +kernel
theorem d_W_add_11 : decode b_W_add 11 = .ok (.invokevirtual 26, 3) := by decide +kernel
theorem d_W_add_14 : decode b_W_add 14 = .ok (.aload_n 0, 1) := by decide +kernel
theorem d_W_add_15 : decode b_W_add 15 = .ok (.iload 6, 2) := by decide +kernel
theorem d_W_add_17 : decode b_W_add 17 = .ok (.iconst 1, 1) := by decide +kernel
theorem d_W_add_18 : decode b_W_add 18 = .ok (.iload_n 2, 1) := by decide +kernel
theorem d_W_add_19 : decode b_W_add 19 = .ok (.invokevirtual 26, 3) := by decide +kernel
theorem d_W_add_22 : decode b_W_add 22 = .ok (.aload_n 0, 1) := by decide +kernel
theorem d_W_add_23 : decode b_W_add 23 = .ok (.iload 6, 2) := by decide +kernel
theorem d_W_add_25 : decode b_W_add 25 = .ok (.iconst 2, 1) := by decide +kernel
theorem d_W_add_26 : decode b_W_add 26 = .ok (.iload_n 3, 1) := by decide +kernel
theorem d_W_add_27 : decode b_W_add 27 = .ok (.invokevirtual 26, 3) := by decide +kernel
theorem d_W_add_30 : decode b_W_add 30 = .ok (.aload_n 0, 1) := by decide +kernel
theorem d_W_add_31 : decode b_W_add 31 = .ok (.iload 6, 2) := by decide +kernel
theorem d_W_add_33 : decode b_W_add 33 = .ok (.iconst 3, 1) := by decide +kernel
theorem d_W_add_34 : decode b_W_add 34 = .ok (.iload 4, 2) := by decide +kernel
theorem d_W_add_36 : decode b_W_add 36 = .ok (.invokevirtual 26, 3) := by decide +kernel
theorem d_W_add_39 : decode b_W_add 39 = .ok (.aload_n 0, 1) := by decide +kernel
theorem d_W_add_40 : decode b_W_add 40 = .ok (.iload 6, 2) := by decide +kernel
theorem d_W_add_42 : decode b_W_add 42 = .ok (.iconst 4, 1) := by decide +kernel
theorem d_W_add_43 : decode b_W_add 43 = .ok (.iload 5, 2) := by decide +kernel
theorem d_W_add_45 : decode b_W_add 45 = .ok (.invokevirtual 26, 3) := by decide +kernel
theorem d_W_add_48 : decode b_W_add 48 = .ok (.aload_n 0, 1) := by decide +kernel
theorem d_W_add_49 : decode b_W_add 49 = .ok (.dup, 1) := by decide +kernel
theorem d_W_add_50 : decode b_W_add 50 = .ok (.getfield 23, 3) := by decide +kernel
theorem d_W_add_53 : decode b_W_add 53 = .ok (.iconst 1, 1) := by decide +kernel
theorem d_W_add_54 : decode b_W_add 54 = .ok (.iadd, 1) := by decide +kernel
theorem d_W_add_55 : decode b_W_add 55 = .ok (.putfield 23, 3) := by decide +kernel
theorem d_W_add_58 : decode b_W_add 58 = .ok (.iload 6, 2) := by decide +kernel
theorem d_W_add_60 : decode b_W_add 60 = .ok (.ireturn, 1) := by decide +kernel
theorem d_H_init_0 : decode b_H_init 0 = .ok (.aload_n 0, 1) := by decide +kernel
theorem d_H_init_1 : decode b_H_init 1 = .ok (.invokespecial 3, 3) := by decide +kernel
theorem d_H_init_4 : decode b_H_init 4 = .ok (.aload_n 0, 1) := by decide +kernel
theorem d_H_init_5 : decode b_H_init 5 = .ok (.bipush 10, 2) := by decide +kernel
theorem d_H_init_7 : decode b_H_init 7 = .ok (.newarray .int, 2) := by decide +kernel
theorem d_H_init_9 : decode b_H_init 9 = .ok (.putfield 9, 3) := by decide +kernel
theorem d_H_init_12 : decode b_H_init 12 = .ok (.aload_n 0, 1) := by decide +kernel
theorem d_H_init_13 : decode b_H_init 13 = .ok (.bipush 10, 2) := by decide +kernel
theorem d_H_init_15 : decode b_H_init 15 = .ok (.newarray .int, 2) := by decide +kernel
theorem d_H_init_17 : decode b_H_init 17 = .ok (.putfield 15, 3) := by decide +kernel
theorem d_H_init_20 : decode b_H_init 20 = .ok (.return_, 1) := by decide +kernel
theorem d_H_isFull_0 : decode b_H_isFull 0 = .ok (.aload_n 0, 1) := by decide +kernel
theorem d_H_isFull_1 : decode b_H_isFull 1 = .ok (.getfield 18, 3) := by decide +kernel
theorem d_H_isFull_4 : decode b_H_isFull 4 = .ok (.bipush 10, 2) := by decide +kernel
theorem d_H_isFull_6 : decode b_H_isFull 6 = .ok (.if_icmp .lt 7, 3) := by decide +kernel
theorem d_H_isFull_9 : decode b_H_isFull 9 = .ok (.iconst 1, 1) := by decide +kernel
theorem d_H_isFull_10 : decode b_H_isFull 10 = .ok (.goto 4, 3) := by decide +kernel
theorem d_H_isFull_13 : decode b_H_isFull 13 = .ok (.iconst 0, 1) := by decide +kernel
theorem d_H_isFull_14 : decode b_H_isFull 14 = .ok (.ireturn, 1) := by decide +kernel
theorem d_H_isBelow_0 : decode b_H_isBelow 0 = .ok (.aload_n 0, 1) := by decide +kernel
theorem d_H_isBelow_1 : decode b_H_isBelow 1 = .ok (.getfield 18, 3) := by decide +kernel
theorem d_H_isBelow_4 : decode b_H_isBelow 4 = .ok (.ifCond .eq 33, 3) := by decide +kernel
theorem d_H_isBelow_7 : decode b_H_isBelow 7 = .ok (.aload_n 0, 1) := by decide +kernel
theorem d_H_isBelow_8 : decode b_H_isBelow 8 = .ok (.getfield 9, 3) := by decide +kernel
theorem d_H_isBelow_11 : decode b_H_isBelow 11 = .ok (.aload_n 0, 1) := by decide +kernel
theorem d_H_isBelow_12 : decode b_H_isBelow 12 = .ok (.getfield 18, 3) := by decide +kernel
theorem d_H_isBelow_15 : decode b_H_isBelow 15 = .ok (.iconst 1, 1) := by decide +kernel
theorem d_H_isBelow_16 : decode b_H_isBelow 16 = .ok (.isub, 1) := by decide +kernel
theorem d_H_isBelow_17 : decode b_H_isBelow 17 = .ok (.iaload, 1) := by decide +kernel
theorem d_H_isBelow_18 : decode b_H_isBelow 18 = .ok (.iload_n 1, 1) := by decide +kernel
theorem d_H_isBelow_19 : decode b_H_isBelow 19 = .ok (.if_icmp .ge 22, 3) := by decide +kernel
theorem d_H_isBelow_22 : decode b_H_isBelow 22 = .ok (.aload_n 0, 1) := by decide +kernel
theorem d_H_isBelow_23 : decode b_H_isBelow 23 = .ok (.getfield 15, 3) := by decide +kernel
theorem d_H_isBelow_26 : decode b_H_isBelow 26 = .ok (.aload_n 0, 1) := by decide +kernel
theorem d_H_isBelow_27 : decode b_H_isBelow 27 = .ok (.getfield 18, 3) := by decide +kernel
theorem d_H_isBelow_30 : decode b_H_isBelow 30 = .ok (.iconst 1, 1) := by decide +kernel
theorem d_H_isBelow_31 : decode b_H_isBelow 31 = .ok (.isub, 1) := by decide +kernel
theorem d_H_isBelow_32 : decode b_H_isBelow 32 = .ok (.iaload, 1) := by decide +kernel
theorem d_H_isBelow_33 : decode b_H_isBelow 33 = .ok (.iload_n 2, 1) := by decide +kernel
theorem d_H_isBelow_34 : decode b_H_isBelow 34 = .ok (.if_icmp .ge 7, 3) := by decide +kernel
theorem d_H_isBelow_37 : decode b_H_isBelow 37 = .ok (.iconst 1, 1) := by decide +kernel
theorem d_H_isBelow_38 : decode b_H_isBelow 38 = .ok (.goto 4, 3) := by decide +kernel
theorem d_H_isBelow_41 : decode b_H_isBelow 41 = .ok (.iconst 0, 1) := by decide +kernel
theorem d_H_isBelow_42 : decode b_H_isBelow 42 = .ok (.ireturn, 1) := by decide +kernel
theorem d_H_add_0 : decode b_H_add 0 = .ok (.aload_n 0, 1) := by decide +kernel
theorem d_H_add_1 : decode b_H_add 1 = .ok (.getfield 9, 3) := by decide +kernel
theorem d_H_add_4 : decode b_H_add 4 = .ok (.aload_n 0, 1) := by decide +kernel
theorem d_H_add_5 : decode b_H_add 5 = .ok (.getfield 18, 3) := by decide +kernel
theorem d_H_add_8 : decode b_H_add 8 = .ok (.iload_n 1, 1) := by decide +kernel
theorem d_H_add_9 : decode b_H_add 9 = .ok (.iastore, 1) := by decide +kernel
theorem d_H_add_10 : decode b_H_add 10 = .ok (.aload_n 0, 1) := by decide +kernel
theorem d_H_add_11 : decode b_H_add 11 = .ok (.getfield 15, 3) := by decide +kernel
theorem d_H_add_14 : decode b_H_add 14 = .ok (.aload_n 0, 1) := by decide +kernel
theorem d_H_add_15 : decode b_H_add 15 = .ok (.getfield 18, 3) := by decide +kernel
theorem d_H_add_18 : decode b_H_add 18 = .ok (.iload_n 2, 1) := by decide +kernel
theorem d_H_add_19 : decode b_H_add 19 = .ok (.iastore, 1) := by decide +kernel
theorem d_H_add_20 : decode b_H_add 20 = .ok (.aload_n 0, 1) := by decide +kernel
theorem d_H_add_21 : decode b_H_add 21 = .ok (.dup, 1) := by decide +kernel
theorem d_H_add_22 : decode b_H_add 22 = .ok (.getfield 18, 3) := by decide +kernel
theorem d_H_add_25 : decode b_H_add 25 = .ok (.iconst 1, 1) := by decide +kernel
theorem d_H_add_26 : decode b_H_add 26 = .ok (.iadd, 1) := by decide +kernel
theorem d_H_add_27 : decode b_H_add 27 = .ok (.putfield 18, 3) := by decide +kernel
theorem d_H_add_30 : decode b_H_add 30 = .ok (.aload_n 0, 1) := by decide +kernel
theorem d_H_add_31 : decode b_H_add 31 = .ok (.getfield 18, 3) := by decide +kernel
theorem d_H_add_34 : decode b_H_add 34 = .ok (.ireturn, 1) := by decide +kernel
theorem d_H_litresAt_0 : decode b_H_litresAt 0 = .ok (.aload_n 0, 1) := by decide +kernel
theorem d_H_litresAt_1 : decode b_H_litresAt 1 = .ok (.iload_n 1, 1) := by decide +kernel
theorem d_H_litresAt_2 : decode b_H_litresAt 2 = .ok (.invokevirtual 22, 3) := by decide +kernel
theorem d_H_litresAt_5 : decode b_H_litresAt 5 = .ok (.istore_n 2, 1) := by decide +kernel
theorem d_H_litresAt_6 : decode b_H_litresAt 6 = .ok (.iload_n 2, 1) := by decide +kernel
theorem d_H_litresAt_7 : decode b_H_litresAt 7 = .ok (.ifCond .ge 5, 3) := by decide +kernel
theorem d_H_litresAt_10 : decode b_H_litresAt 10 = .ok (.iconst (-1), 1) := by decide +kernel
theorem d_H_litresAt_11 : decode b_H_litresAt 11 = .ok (.ireturn, 1) := by decide +kernel
theorem d_H_litresAt_12 : decode b_H_litresAt 12 = .ok (.aload_n 0, 1) := by decide +kernel
theorem d_H_litresAt_13 : decode b_H_litresAt 13 = .ok (.getfield 9, 3) := by decide +kernel
theorem d_H_litresAt_16 : decode b_H_litresAt 16 = .ok (.iload_n 2, 1) := by decide +kernel
theorem d_H_litresAt_17 : decode b_H_litresAt 17 = .ok (.iaload, 1) := by decide +kernel
theorem d_H_litresAt_18 : decode b_H_litresAt 18 = .ok (.iload_n 1, 1) := by decide +kernel
theorem d_H_litresAt_19 : decode b_H_litresAt 19 = .ok (.if_icmp .ne 10, 3) := by decide +kernel
theorem d_H_litresAt_22 : decode b_H_litresAt 22 = .ok (.aload_n 0, 1) := by decide +kernel
theorem d_H_litresAt_23 : decode b_H_litresAt 23 = .ok (.getfield 15, 3) := by decide +kernel
theorem d_H_litresAt_26 : decode b_H_litresAt 26 = .ok (.iload_n 2, 1) := by decide +kernel
theorem d_H_litresAt_27 : decode b_H_litresAt 27 = .ok (.iaload, 1) := by decide +kernel
theorem d_H_litresAt_28 : decode b_H_litresAt 28 = .ok (.ireturn, 1) := by decide +kernel
theorem d_H_litresAt_29 : decode b_H_litresAt 29 = .ok (.iload_n 2, 1) := by decide +kernel
theorem d_H_litresAt_30 : decode b_H_litresAt 30 = .ok (.iconst 1, 1) := by decide +kernel
theorem d_H_litresAt_31 : decode b_H_litresAt 31 = .ok (.iadd, 1) := by decide +kernel
theorem d_H_litresAt_32 : decode b_H_litresAt 32 = .ok (.aload_n 0, 1) := by decide +kernel
theorem d_H_litresAt_33 : decode b_H_litresAt 33 = .ok (.getfield 18, 3) := by decide +kernel
theorem d_H_litresAt_36 : decode b_H_litresAt 36 = .ok (.if_icmp .ge 15, 3) := by decide +kernel
theorem d_H_litresAt_39 : decode b_H_litresAt 39 = .ok (.aload_n 0, 1) := by decide +kernel
theorem d_H_litresAt_40 : decode b_H_litresAt 40 = .ok (.iload_n 2, 1) := by decide +kernel
theorem d_H_litresAt_41 : decode b_H_litresAt 41 = .ok (.iload_n 2, 1) := by decide +kernel
theorem d_H_litresAt_42 : decode b_H_litresAt 42 = .ok (.iconst 1, 1) := by decide +kernel
theorem d_H_litresAt_43 : decode b_H_litresAt 43 = .ok (.iadd, 1) := by decide +kernel
theorem d_H_litresAt_44 : decode b_H_litresAt 44 = .ok (.iload_n 1, 1) := by decide +kernel
theorem d_H_litresAt_45 : decode b_H_litresAt 45 = .ok (.invokevirtual 26, 3) := by decide +kernel
theorem d_H_litresAt_48 : decode b_H_litresAt 48 = .ok (.goto 4, 3) := by decide +kernel
theorem d_H_litresAt_51 : decode b_H_litresAt 51 = .ok (.iconst (-1), 1) := by decide +kernel
theorem d_H_litresAt_52 : decode b_H_litresAt 52 = .ok (.ireturn, 1) := by decide +kernel
theorem d_H_lastNotAbove_0 : decode b_H_lastNotAbove 0 = .ok (.iconst (-1), 1) := by decide +kernel
theorem d_H_lastNotAbove_1 : decode b_H_lastNotAbove 1 = .ok (.istore_n 2, 1) := by decide +kernel
theorem d_H_lastNotAbove_2 : decode b_H_lastNotAbove 2 = .ok (.iconst 0, 1) := by decide +kernel
theorem d_H_lastNotAbove_3 : decode b_H_lastNotAbove 3 = .ok (.istore_n 3, 1) := by decide +kernel
theorem d_H_lastNotAbove_4 : decode b_H_lastNotAbove 4 = .ok (.iload_n 3, 1) := by decide +kernel
theorem d_H_lastNotAbove_5 : decode b_H_lastNotAbove 5 = .ok (.aload_n 0, 1) := by decide +kernel
theorem d_H_lastNotAbove_6 : decode b_H_lastNotAbove 6 = .ok (.getfield 18, 3) := by decide +kernel
theorem d_H_lastNotAbove_9 : decode b_H_lastNotAbove 9 = .ok (.if_icmp .ge 21, 3) := by decide +kernel
theorem d_H_lastNotAbove_12 : decode b_H_lastNotAbove 12 = .ok (.aload_n 0, 1) := by decide +kernel
theorem d_H_lastNotAbove_13 : decode b_H_lastNotAbove 13 = .ok (.getfield 9, 3) := by decide +kernel
theorem d_H_lastNotAbove_16 : decode b_H_lastNotAbove 16 = .ok (.iload_n 3, 1) := by decide +kernel
theorem d_H_lastNotAbove_17 : decode b_H_lastNotAbove 17 = .ok (.iaload, 1) := by decide +kernel
theorem d_H_lastNotAbove_18 : decode b_H_lastNotAbove 18 = .ok (.iload_n 1, 1) := by decide +kernel
theorem d_H_lastNotAbove_19 : decode b_H_lastNotAbove 19 = .ok (.if_icmp .gt 5, 3) := by decide +kernel
theorem d_H_lastNotAbove_22 : decode b_H_lastNotAbove 22 = .ok (.iload_n 3, 1) := by decide +kernel
theorem d_H_lastNotAbove_23 : decode b_H_lastNotAbove 23 = .ok (.istore_n 2, 1) := by decide +kernel
theorem d_H_lastNotAbove_24 : decode b_H_lastNotAbove 24 = .ok (.iinc 3 1, 3) := by decide +kernel
theorem d_H_lastNotAbove_27 : decode b_H_lastNotAbove 27 = .ok (.goto (-23), 3) := by decide +kernel
theorem d_H_lastNotAbove_30 : decode b_H_lastNotAbove 30 = .ok (.iload_n 2, 1) := by decide +kernel
theorem d_H_lastNotAbove_31 : decode b_H_lastNotAbove 31 = .ok (.ireturn, 1) := by decide +kernel
theorem d_H_litresBetween_0 : decode b_H_litresBetween 0 = .ok (.aload_n 0, 1) := by decide +kernel
theorem d_H_litresBetween_1 : decode b_H_litresBetween 1 = .ok (.getfield 9, 3) := by decide +kernel
theorem d_H_litresBetween_4 : decode b_H_litresBetween 4 = .ok (.iload_n 2, 1) := by decide +kernel
theorem d_H_litresBetween_5 : decode b_H_litresBetween 5 = .ok (.iaload, 1) := by decide +kernel
theorem d_H_litresBetween_6 : decode b_H_litresBetween 6 = .ok (.aload_n 0, 1) := by decide +kernel
theorem d_H_litresBetween_7 : decode b_H_litresBetween 7 = .ok (.getfield 9, 3) := by decide +kernel
theorem d_H_litresBetween_10 : decode b_H_litresBetween 10 = .ok (.iload_n 1, 1) := by decide +kernel
theorem d_H_litresBetween_11 : decode b_H_litresBetween 11 = .ok (.iaload, 1) := by decide +kernel
theorem d_H_litresBetween_12 : decode b_H_litresBetween 12 = .ok (.isub, 1) := by decide +kernel
theorem d_H_litresBetween_13 : decode b_H_litresBetween 13 = .ok (.istore 4, 2) := by decide +kernel
theorem d_H_litresBetween_15 : decode b_H_litresBetween 15 = .ok (.iload 4, 2) := by decide +kernel
theorem d_H_litresBetween_17 : decode b_H_litresBetween 17 = .ok (.ifCond .gt 10, 3) := by decide +kernel
theorem d_H_litresBetween_20 : decode b_H_litresBetween 20 = .ok (.aload_n 0, 1) := by decide +kernel
theorem d_H_litresBetween_21 : decode b_H_litresBetween 21 = .ok (.getfield 15, 3) := by decide +kernel
theorem d_H_litresBetween_24 : decode b_H_litresBetween 24 = .ok (.iload_n 1, 1) := by decide +kernel
theorem d_H_litresBetween_25 : decode b_H_litresBetween 25 = .ok (.iaload, 1) := by decide +kernel
theorem d_H_litresBetween_26 : decode b_H_litresBetween 26 = .ok (.ireturn, 1) := by decide +kernel
theorem d_H_litresBetween_27 : decode b_H_litresBetween 27 = .ok (.aload_n 0, 1) := by decide +kernel
theorem d_H_litresBetween_28 : decode b_H_litresBetween 28 = .ok (.getfield 15, 3) := by decide +kernel
theorem d_H_litresBetween_31 : decode b_H_litresBetween 31 = .ok (.iload_n 2, 1) := by decide +kernel
theorem d_H_litresBetween_32 : decode b_H_litresBetween 32 = .ok (.iaload, 1) := by decide +kernel
theorem d_H_litresBetween_33 : decode b_H_litresBetween 33 = .ok (.aload_n 0, 1) := by decide +kernel
theorem d_H_litresBetween_34 : decode b_H_litresBetween 34 = .ok (.getfield 15, 3) := by decide +kernel
theorem d_H_litresBetween_37 : decode b_H_litresBetween 37 = .ok (.iload_n 1, 1) := by decide +kernel
theorem d_H_litresBetween_38 : decode b_H_litresBetween 38 = .ok (.iaload, 1) := by decide +kernel
theorem d_H_litresBetween_39 : decode b_H_litresBetween 39 = .ok (.isub, 1) := by decide +kernel
theorem d_H_litresBetween_40 : decode b_H_litresBetween 40 = .ok (.i2l, 1) := by decide +kernel
theorem d_H_litresBetween_41 : decode b_H_litresBetween 41 = .ok (.iload_n 3, 1) := by decide +kernel
theorem d_H_litresBetween_42 : decode b_H_litresBetween 42 = .ok (.aload_n 0, 1) := by decide +kernel
theorem d_H_litresBetween_43 : decode b_H_litresBetween 43 = .ok (.getfield 9, 3) := by decide +kernel
theorem d_H_litresBetween_46 : decode b_H_litresBetween 46 = .ok (.iload_n 1, 1) := by decide +kernel
theorem d_H_litresBetween_47 : decode b_H_litresBetween 47 = .ok (.iaload, 1) := by decide +kernel
theorem d_H_litresBetween_48 : decode b_H_litresBetween 48 = .ok (.isub, 1) := by decide +kernel
theorem d_H_litresBetween_49 : decode b_H_litresBetween 49 = .ok (.i2l, 1) := by decide +kernel
theorem d_H_litresBetween_50 : decode b_H_litresBetween 50 = .ok (.lmul, 1) := by decide +kernel
theorem d_H_litresBetween_51 : decode b_H_litresBetween 51 = .ok (.iload 4, 2) := by decide +kernel
theorem d_H_litresBetween_53 : decode b_H_litresBetween 53 = .ok (.i2l, 1) := by decide +kernel
theorem d_H_litresBetween_54 : decode b_H_litresBetween 54 = .ok (.ldiv, 1) := by decide +kernel
theorem d_H_litresBetween_55 : decode b_H_litresBetween 55 = .ok (.lstore 5, 2) := by decide +kernel
theorem d_H_litresBetween_57 : decode b_H_litresBetween 57 = .ok (.aload_n 0, 1) := by decide +kernel
theorem d_H_litresBetween_58 : decode b_H_litresBetween 58 = .ok (.getfield 15, 3) := by decide +kernel
theorem d_H_litresBetween_61 : decode b_H_litresBetween 61 = .ok (.iload_n 1, 1) := by decide +kernel
theorem d_H_litresBetween_62 : decode b_H_litresBetween 62 = .ok (.iaload, 1) := by decide +kernel
theorem d_H_litresBetween_63 : decode b_H_litresBetween 63 = .ok (.lload 5, 2) := by decide +kernel
theorem d_H_litresBetween_65 : decode b_H_litresBetween 65 = .ok (.l2i, 1) := by decide +kernel
theorem d_H_litresBetween_66 : decode b_H_litresBetween 66 = .ok (.iadd, 1) := by decide +kernel
theorem d_H_litresBetween_67 : decode b_H_litresBetween 67 = .ok (.ireturn, 1) := by decide +kernel
end
section
theorem d_X_init_0 : decode b_X_init 0 = .ok (.aload_n 0, 1) := by decide +kernel
theorem d_X_init_1 : decode b_X_init 1 = .ok (.invokespecial 1, 3) := by decide +kernel
theorem d_X_init_4 : decode b_X_init 4 = .ok (.aload_n 0, 1) := by decide +kernel
theorem d_X_init_5 : decode b_X_init 5 = .ok (.new 7, 3) := by decide +kernel
theorem d_X_init_8 : decode b_X_init 8 = .ok (.dup, 1) := by decide +kernel
theorem d_X_init_9 : decode b_X_init 9 = .ok (.bipush 60, 2) := by decide +kernel
theorem d_X_init_11 : decode b_X_init 11 = .ok (.invokespecial 11, 3) := by decide +kernel
theorem d_X_init_14 : decode b_X_init 14 = .ok (.putfield 14, 3) := by decide +kernel
theorem d_X_init_17 : decode b_X_init 17 = .ok (.aload_n 0, 1) := by decide +kernel
theorem d_X_init_18 : decode b_X_init 18 = .ok (.new 7, 3) := by decide +kernel
theorem d_X_init_21 : decode b_X_init 21 = .ok (.dup, 1) := by decide +kernel
theorem d_X_init_22 : decode b_X_init 22 = .ok (.bipush 60, 2) := by decide +kernel
theorem d_X_init_24 : decode b_X_init 24 = .ok (.invokespecial 11, 3) := by decide +kernel
theorem d_X_init_27 : decode b_X_init 27 = .ok (.putfield 18, 3) := by decide +kernel
theorem d_X_init_30 : decode b_X_init 30 = .ok (.aload_n 0, 1) := by decide +kernel
theorem d_X_init_31 : decode b_X_init 31 = .ok (.new 7, 3) := by decide +kernel
theorem d_X_init_34 : decode b_X_init 34 = .ok (.dup, 1) := by decide +kernel
theorem d_X_init_35 : decode b_X_init 35 = .ok (.bipush 80, 2) := by decide +kernel
theorem d_X_init_37 : decode b_X_init 37 = .ok (.invokespecial 11, 3) := by decide +kernel
theorem d_X_init_40 : decode b_X_init 40 = .ok (.putfield 21, 3) := by decide +kernel
theorem d_X_init_43 : decode b_X_init 43 = .ok (.aload_n 0, 1) := by decide +kernel
theorem d_X_init_44 : decode b_X_init 44 = .ok (.new 7, 3) := by decide +kernel
theorem d_X_init_47 : decode b_X_init 47 = .ok (.dup, 1) := by decide +kernel
theorem d_X_init_48 : decode b_X_init 48 = .ok (.bipush 20, 2) := by decide +kernel
theorem d_X_init_50 : decode b_X_init 50 = .ok (.invokespecial 11, 3) := by decide +kernel
theorem d_X_init_53 : decode b_X_init 53 = .ok (.putfield 24, 3) := by decide +kernel
theorem d_X_init_56 : decode b_X_init 56 = .ok (.aload_n 0, 1) := by decide +kernel
theorem d_X_init_57 : decode b_X_init 57 = .ok (.new 7, 3) := by decide +kernel
theorem d_X_init_60 : decode b_X_init 60 = .ok (.dup, 1) := by decide +kernel
theorem d_X_init_61 : decode b_X_init 61 = .ok (.bipush 80, 2) := by decide +kernel
theorem d_X_init_63 : decode b_X_init 63 = .ok (.invokespecial 11, 3) := by decide +kernel
theorem d_X_init_66 : decode b_X_init 66 = .ok (.putfield 27, 3) := by decide +kernel
theorem d_X_init_69 : decode b_X_init 69 = .ok (.aload_n 0, 1) := by decide +kernel
theorem d_X_init_70 : decode b_X_init 70 = .ok (.new 30, 3) := by decide +kernel
theorem d_X_init_73 : decode b_X_init 73 = .ok (.dup, 1) := by decide +kernel
theorem d_X_init_74 : decode b_X_init 74 = .ok (.invokespecial 32, 3) := by decide +kernel
theorem d_X_init_77 : decode b_X_init 77 = .ok (.putfield 33, 3) := by decide +kernel
theorem d_X_init_80 : decode b_X_init 80 = .ok (.aload_n 0, 1) := by decide +kernel
theorem d_X_init_81 : decode b_X_init 81 = .ok (.sipush 480, 3) := by decide +kernel
theorem d_X_init_84 : decode b_X_init 84 = .ok (.newarray .int, 2) := by decide +kernel
theorem d_X_init_86 : decode b_X_init 86 = .ok (.putfield 37, 3) := by decide +kernel
theorem d_X_init_89 : decode b_X_init 89 = .ok (.aload_n 0, 1) := by decide +kernel
theorem d_X_init_90 : decode b_X_init 90 = .ok (.bipush 80, 2) := by decide +kernel
theorem d_X_init_92 : decode b_X_init 92 = .ok (.newarray .int, 2) := by decide +kernel
theorem d_X_init_94 : decode b_X_init 94 = .ok (.putfield 41, 3) := by decide +kernel
theorem d_X_init_97 : decode b_X_init 97 = .ok (.aload_n 0, 1) := by decide +kernel
theorem d_X_init_98 : decode b_X_init 98 = .ok (.bipush 80, 2) := by decide +kernel
theorem d_X_init_100 : decode b_X_init 100 = .ok (.newarray .int, 2) := by decide +kernel
theorem d_X_init_102 : decode b_X_init 102 = .ok (.putfield 44, 3) := by decide +kernel
theorem d_X_init_105 : decode b_X_init 105 = .ok (.aload_n 0, 1) := by decide +kernel
theorem d_X_init_106 : decode b_X_init 106 = .ok (.bipush 50, 2) := by decide +kernel
theorem d_X_init_108 : decode b_X_init 108 = .ok (.newarray .int, 2) := by decide +kernel
theorem d_X_init_110 : decode b_X_init 110 = .ok (.putfield 47, 3) := by decide +kernel
theorem d_X_init_113 : decode b_X_init 113 = .ok (.return_, 1) := by decide +kernel
theorem d_X_store_0 : decode b_X_store 0 = .ok (.aload_n 0, 1) := by decide +kernel
theorem d_X_store_1 : decode b_X_store 1 = .ok (.getfield 50, 3) := by decide +kernel
theorem d_X_store_4 : decode b_X_store 4 = .ok (.bipush 8, 2) := by decide +kernel
theorem d_X_store_6 : decode b_X_store 6 = .ok (.if_icmp .lt 13, 3) := by decide +kernel
theorem d_X_store_9 : decode b_X_store 9 = .ok (.new 54, 3) := by decide +kernel
theorem d_X_store_12 : decode b_X_store 12 = .ok (.dup, 1) := by decide +kernel
theorem d_X_store_13 : decode b_X_store 13 = .ok (.ldc 56, 2) := by decide +kernel
theorem d_X_store_15 : decode b_X_store 15 = .ok (.invokespecial 58, 3) := by decide +kernel
theorem d_X_store_18 : decode b_X_store 18 = .ok (.athrow, 1) := by decide +kernel
theorem d_X_store_19 : decode b_X_store 19 = .ok (.aload_n 0, 1) := by decide +kernel
theorem d_X_store_20 : decode b_X_store 20 = .ok (.dup, 1) := by decide +kernel
theorem d_X_store_21 : decode b_X_store 21 = .ok (.getfield 50, 3) := by decide +kernel
theorem d_X_store_24 : decode b_X_store 24 = .ok (.iconst 1, 1) := by decide +kernel
theorem d_X_store_25 : decode b_X_store 25 = .ok (.iadd, 1) := by decide +kernel
theorem d_X_store_26 : decode b_X_store 26 = .ok (.putfield 50, 3) := by decide +kernel
theorem d_X_store_29 : decode b_X_store 29 = .ok (.aload_n 0, 1) := by decide +kernel
theorem d_X_store_30 : decode b_X_store 30 = .ok (.getfield 50, 3) := by decide +kernel
theorem d_X_store_33 : decode b_X_store 33 = .ok (.iconst 1, 1) := by decide +kernel
theorem d_X_store_34 : decode b_X_store 34 = .ok (.isub, 1) := by decide +kernel
theorem d_X_store_35 : decode b_X_store 35 = .ok (.ireturn, 1) := by decide +kernel
theorem d_X_lot_0 : decode b_X_lot 0 = .ok (.iload_n 1, 1) := by decide +kernel
theorem d_X_lot_1 : decode b_X_lot 1 = .ok (.invokestatic 61, 3) := by decide +kernel
theorem d_X_lot_4 : decode b_X_lot 4 = .ok (.iload_n 2, 1) := by decide +kernel
theorem d_X_lot_5 : decode b_X_lot 5 = .ok (.iconst 0, 1) := by decide +kernel
theorem d_X_lot_6 : decode b_X_lot 6 = .ok (.sipush 9999, 3) := by decide +kernel
theorem d_X_lot_9 : decode b_X_lot 9 = .ok (.invokestatic 64, 3) := by decide +kernel
theorem d_X_lot_12 : decode b_X_lot 12 = .ok (.aload_n 0, 1) := by decide +kernel
theorem d_X_lot_13 : decode b_X_lot 13 = .ok (.getfield 14, 3) := by decide +kernel
theorem d_X_lot_16 : decode b_X_lot 16 = .ok (.invokestatic 68, 3) := by decide +kernel
theorem d_X_lot_19 : decode b_X_lot 19 = .ok (.aload_n 0, 1) := by decide +kernel
theorem d_X_lot_20 : decode b_X_lot 20 = .ok (.getfield 14, 3) := by decide +kernel
theorem d_X_lot_23 : decode b_X_lot 23 = .ok (.iload_n 1, 1) := by decide +kernel
theorem d_X_lot_24 : decode b_X_lot 24 = .ok (.iload_n 2, 1) := by decide +kernel
theorem d_X_lot_25 : decode b_X_lot 25 = .ok (.iconst 0, 1) := by decide +kernel
theorem d_X_lot_26 : decode b_X_lot 26 = .ok (.iconst 0, 1) := by decide +kernel
theorem d_X_lot_27 : decode b_X_lot 27 = .ok (.iconst 0, 1) := by decide +kernel
theorem d_X_lot_28 : decode b_X_lot 28 = .ok (.invokevirtual 72, 3) := by decide +kernel
theorem d_X_lot_31 : decode b_X_lot 31 = .ok (.ireturn, 1) := by decide +kernel
theorem d_X_bring_0 : decode b_X_bring 0 = .ok (.aload_n 0, 1) := by decide +kernel
theorem d_X_bring_1 : decode b_X_bring 1 = .ok (.iload_n 1, 1) := by decide +kernel
theorem d_X_bring_2 : decode b_X_bring 2 = .ok (.invokevirtual 76, 3) := by decide +kernel
theorem d_X_bring_5 : decode b_X_bring 5 = .ok (.aload_n 0, 1) := by decide +kernel
theorem d_X_bring_6 : decode b_X_bring 6 = .ok (.iload_n 2, 1) := by decide +kernel
theorem d_X_bring_7 : decode b_X_bring 7 = .ok (.invokevirtual 79, 3) := by decide +kernel
theorem d_X_bring_10 : decode b_X_bring 10 = .ok (.iload_n 3, 1) := by decide +kernel
theorem d_X_bring_11 : decode b_X_bring 11 = .ok (.iconst 1, 1) := by decide +kernel
theorem d_X_bring_12 : decode b_X_bring 12 = .ok (.sipush 9999, 3) := by decide +kernel
theorem d_X_bring_15 : decode b_X_bring 15 = .ok (.invokestatic 64, 3) := by decide +kernel
theorem d_X_bring_18 : decode b_X_bring 18 = .ok (.aload_n 0, 1) := by decide +kernel
theorem d_X_bring_19 : decode b_X_bring 19 = .ok (.iload_n 1, 1) := by decide +kernel
theorem d_X_bring_20 : decode b_X_bring 20 = .ok (.iload_n 2, 1) := by decide +kernel
theorem d_X_bring_21 : decode b_X_bring 21 = .ok (.iload_n 3, 1) := by decide +kernel
theorem d_X_bring_22 : decode b_X_bring 22 = .ok (.invokevirtual 82, 3) := by decide +kernel
theorem d_X_bring_25 : decode b_X_bring 25 = .ok (.aload_n 0, 1) := by decide +kernel
theorem d_X_bring_26 : decode b_X_bring 26 = .ok (.iload_n 1, 1) := by decide +kernel
theorem d_X_bring_27 : decode b_X_bring 27 = .ok (.iload_n 2, 1) := by decide +kernel
theorem d_X_bring_28 : decode b_X_bring 28 = .ok (.iload_n 3, 1) := by decide +kernel
theorem d_X_bring_29 : decode b_X_bring 29 = .ok (.invokevirtual 85, 3) := by decide +kernel
theorem d_X_bring_32 : decode b_X_bring 32 = .ok (.aload_n 0, 1) := by decide +kernel
theorem d_X_bring_33 : decode b_X_bring 33 = .ok (.getfield 37, 3) := by decide +kernel
theorem d_X_bring_36 : decode b_X_bring 36 = .ok (.iload_n 1, 1) := by decide +kernel
theorem d_X_bring_37 : decode b_X_bring 37 = .ok (.iload_n 2, 1) := by decide +kernel
theorem d_X_bring_38 : decode b_X_bring 38 = .ok (.invokestatic 88, 3) := by decide +kernel
theorem d_X_bring_41 : decode b_X_bring 41 = .ok (.iaload, 1) := by decide +kernel
theorem d_X_bring_42 : decode b_X_bring 42 = .ok (.ireturn, 1) := by decide +kernel
theorem d_X_move_0 : decode b_X_move 0 = .ok (.aload_n 0, 1) := by decide +kernel
theorem d_X_move_1 : decode b_X_move 1 = .ok (.iload_n 1, 1) := by decide +kernel
theorem d_X_move_2 : decode b_X_move 2 = .ok (.invokevirtual 76, 3) := by decide +kernel
theorem d_X_move_5 : decode b_X_move 5 = .ok (.aload_n 0, 1) := by decide +kernel
theorem d_X_move_6 : decode b_X_move 6 = .ok (.iload_n 2, 1) := by decide +kernel
theorem d_X_move_7 : decode b_X_move 7 = .ok (.invokevirtual 76, 3) := by decide +kernel
theorem d_X_move_10 : decode b_X_move 10 = .ok (.iload_n 1, 1) := by decide +kernel
theorem d_X_move_11 : decode b_X_move 11 = .ok (.iload_n 2, 1) := by decide +kernel
theorem d_X_move_12 : decode b_X_move 12 = .ok (.if_icmp .ne 13, 3) := by decide +kernel
theorem d_X_move_15 : decode b_X_move 15 = .ok (.new 92, 3) := by decide +kernel
theorem d_X_move_18 : decode b_X_move 18 = .ok (.dup, 1) := by decide +kernel
theorem d_X_move_19 : decode b_X_move 19 = .ok (.ldc 94, 2) := by decide +kernel
theorem d_X_move_21 : decode b_X_move 21 = .ok (.invokespecial 96, 3) := by decide +kernel
theorem d_X_move_24 : decode b_X_move 24 = .ok (.athrow, 1) := by decide +kernel
theorem d_X_move_25 : decode b_X_move 25 = .ok (.aload_n 0, 1) := by decide +kernel
theorem d_X_move_26 : decode b_X_move 26 = .ok (.iload_n 3, 1) := by decide +kernel
theorem d_X_move_27 : decode b_X_move 27 = .ok (.invokevirtual 79, 3) := by decide +kernel
theorem d_X_move_30 : decode b_X_move 30 = .ok (.iload 4, 2) := by decide +kernel
theorem d_X_move_32 : decode b_X_move 32 = .ok (.iconst 1, 1) := by decide +kernel
theorem d_X_move_33 : decode b_X_move 33 = .ok (.sipush 9999, 3) := by decide +kernel
theorem d_X_move_36 : decode b_X_move 36 = .ok (.invokestatic 64, 3) := by decide +kernel
theorem d_X_move_39 : decode b_X_move 39 = .ok (.iload 5, 2) := by decide +kernel
theorem d_X_move_41 : decode b_X_move 41 = .ok (.iconst 0, 1) := by decide +kernel
theorem d_X_move_42 : decode b_X_move 42 = .ok (.bipush 30, 2) := by decide +kernel
theorem d_X_move_44 : decode b_X_move 44 = .ok (.invokestatic 64, 3) := by decide +kernel
theorem d_X_move_47 : decode b_X_move 47 = .ok (.aload_n 0, 1) := by decide +kernel
theorem d_X_move_48 : decode b_X_move 48 = .ok (.iload_n 1, 1) := by decide +kernel
theorem d_X_move_49 : decode b_X_move 49 = .ok (.iload_n 3, 1) := by decide +kernel
theorem d_X_move_50 : decode b_X_move 50 = .ok (.iload 4, 2) := by decide +kernel
theorem d_X_move_52 : decode b_X_move 52 = .ok (.invokevirtual 97, 3) := by decide +kernel
theorem d_X_move_55 : decode b_X_move 55 = .ok (.aload_n 0, 1) := by decide +kernel
theorem d_X_move_56 : decode b_X_move 56 = .ok (.getfield 18, 3) := by decide +kernel
theorem d_X_move_59 : decode b_X_move 59 = .ok (.invokestatic 68, 3) := by decide +kernel
theorem d_X_move_62 : decode b_X_move 62 = .ok (.aload_n 0, 1) := by decide +kernel
theorem d_X_move_63 : decode b_X_move 63 = .ok (.iload_n 1, 1) := by decide +kernel
theorem d_X_move_64 : decode b_X_move 64 = .ok (.iload_n 3, 1) := by decide +kernel
theorem d_X_move_65 : decode b_X_move 65 = .ok (.iload 4, 2) := by decide +kernel
theorem d_X_move_67 : decode b_X_move 67 = .ok (.ineg, 1) := by decide +kernel
theorem d_X_move_68 : decode b_X_move 68 = .ok (.invokevirtual 85, 3) := by decide +kernel
theorem d_X_move_71 : decode b_X_move 71 = .ok (.aload_n 0, 1) := by decide +kernel
theorem d_X_move_72 : decode b_X_move 72 = .ok (.getfield 18, 3) := by decide +kernel
theorem d_X_move_75 : decode b_X_move 75 = .ok (.iload_n 2, 1) := by decide +kernel
theorem d_X_move_76 : decode b_X_move 76 = .ok (.iload_n 3, 1) := by decide +kernel
theorem d_X_move_77 : decode b_X_move 77 = .ok (.iload 4, 2) := by decide +kernel
theorem d_X_move_79 : decode b_X_move 79 = .ok (.aload_n 0, 1) := by decide +kernel
theorem d_X_move_80 : decode b_X_move 80 = .ok (.getfield 100, 3) := by decide +kernel
theorem d_X_move_83 : decode b_X_move 83 = .ok (.iload 5, 2) := by decide +kernel
theorem d_X_move_85 : decode b_X_move 85 = .ok (.iadd, 1) := by decide +kernel
theorem d_X_move_86 : decode b_X_move 86 = .ok (.iconst 1, 1) := by decide +kernel
theorem d_X_move_87 : decode b_X_move 87 = .ok (.invokevirtual 72, 3) := by decide +kernel
theorem d_X_move_90 : decode b_X_move 90 = .ok (.istore 6, 2) := by decide +kernel
theorem d_X_move_92 : decode b_X_move 92 = .ok (.iload 5, 2) := by decide +kernel
theorem d_X_move_94 : decode b_X_move 94 = .ok (.ifCond .ne 9, 3) := by decide +kernel
theorem d_X_move_97 : decode b_X_move 97 = .ok (.aload_n 0, 1) := by decide +kernel
theorem d_X_move_98 : decode b_X_move 98 = .ok (.iload 6, 2) := by decide +kernel
theorem d_X_move_100 : decode b_X_move 100 = .ok (.invokevirtual 103, 3) := by decide +kernel
theorem d_X_move_103 : decode b_X_move 103 = .ok (.iload 6, 2) := by decide +kernel
theorem d_X_move_105 : decode b_X_move 105 = .ok (.ireturn, 1) := by decide +kernel
theorem d_X_use_0 : decode b_X_use 0 = .ok (.aload_n 0, 1) := by decide +kernel
theorem d_X_use_1 : decode b_X_use 1 = .ok (.iload_n 1, 1) := by decide +kernel
theorem d_X_use_2 : decode b_X_use 2 = .ok (.invokevirtual 76, 3) := by decide +kernel
theorem d_X_use_5 : decode b_X_use 5 = .ok (.iload_n 2, 1) := by decide +kernel
theorem d_X_use_6 : decode b_X_use 6 = .ok (.invokestatic 61, 3) := by decide +kernel
theorem d_X_use_9 : decode b_X_use 9 = .ok (.iload_n 3, 1) := by decide +kernel
theorem d_X_use_10 : decode b_X_use 10 = .ok (.iconst 1, 1) := by decide +kernel
theorem d_X_use_11 : decode b_X_use 11 = .ok (.sipush 9999, 3) := by decide +kernel
theorem d_X_use_14 : decode b_X_use 14 = .ok (.invokestatic 64, 3) := by decide +kernel
theorem d_X_use_17 : decode b_X_use 17 = .ok (.aload_n 0, 1) := by decide +kernel
theorem d_X_use_18 : decode b_X_use 18 = .ok (.iload_n 1, 1) := by decide +kernel
theorem d_X_use_19 : decode b_X_use 19 = .ok (.iload_n 2, 1) := by decide +kernel
theorem d_X_use_20 : decode b_X_use 20 = .ok (.iconst 1, 1) := by decide +kernel
theorem d_X_use_21 : decode b_X_use 21 = .ok (.invokevirtual 106, 3) := by decide +kernel
theorem d_X_use_24 : decode b_X_use 24 = .ok (.istore 4, 2) := by decide +kernel
theorem d_X_use_26 : decode b_X_use 26 = .ok (.iload 4, 2) := by decide +kernel
theorem d_X_use_28 : decode b_X_use 28 = .ok (.iload_n 3, 1) := by decide +kernel
theorem d_X_use_29 : decode b_X_use 29 = .ok (.if_icmp .ge 13, 3) := by decide +kernel
theorem d_X_use_32 : decode b_X_use 32 = .ok (.new 110, 3) := by decide +kernel
theorem d_X_use_35 : decode b_X_use 35 = .ok (.dup, 1) := by decide +kernel
theorem d_X_use_36 : decode b_X_use 36 = .ok (.ldc 112, 2) := by decide +kernel
theorem d_X_use_38 : decode b_X_use 38 = .ok (.invokespecial 114, 3) := by decide +kernel
theorem d_X_use_41 : decode b_X_use 41 = .ok (.athrow, 1) := by decide +kernel
theorem d_X_use_42 : decode b_X_use 42 = .ok (.aload_n 0, 1) := by decide +kernel
theorem d_X_use_43 : decode b_X_use 43 = .ok (.iload_n 1, 1) := by decide +kernel
theorem d_X_use_44 : decode b_X_use 44 = .ok (.iload_n 2, 1) := by decide +kernel
theorem d_X_use_45 : decode b_X_use 45 = .ok (.iload_n 3, 1) := by decide +kernel
theorem d_X_use_46 : decode b_X_use 46 = .ok (.invokevirtual 115, 3) := by decide +kernel
theorem d_X_use_49 : decode b_X_use 49 = .ok (.iload 4, 2) := by decide +kernel
theorem d_X_use_51 : decode b_X_use 51 = .ok (.iload_n 3, 1) := by decide +kernel
theorem d_X_use_52 : decode b_X_use 52 = .ok (.isub, 1) := by decide +kernel
theorem d_X_use_53 : decode b_X_use 53 = .ok (.ireturn, 1) := by decide +kernel
theorem d_X_sum_0 : decode b_X_sum 0 = .ok (.aload_n 0, 1) := by decide +kernel
theorem d_X_sum_1 : decode b_X_sum 1 = .ok (.iload_n 1, 1) := by decide +kernel
theorem d_X_sum_2 : decode b_X_sum 2 = .ok (.invokevirtual 76, 3) := by decide +kernel
theorem d_X_sum_5 : decode b_X_sum 5 = .ok (.iload_n 2, 1) := by decide +kernel
theorem d_X_sum_6 : decode b_X_sum 6 = .ok (.invokestatic 61, 3) := by decide +kernel
theorem d_X_sum_9 : decode b_X_sum 9 = .ok (.iload_n 3, 1) := by decide +kernel
theorem d_X_sum_10 : decode b_X_sum 10 = .ok (.tableswitch 50 0 2 #[26, 34, 42], 26) := by decide +kernel
theorem d_X_sum_36 : decode b_X_sum 36 = .ok (.aload_n 0, 1) := by decide +kernel
theorem d_X_sum_37 : decode b_X_sum 37 = .ok (.iload_n 1, 1) := by decide +kernel
theorem d_X_sum_38 : decode b_X_sum 38 = .ok (.iload_n 2, 1) := by decide +kernel
theorem d_X_sum_39 : decode b_X_sum 39 = .ok (.iconst 1, 1) := by decide +kernel
theorem d_X_sum_40 : decode b_X_sum 40 = .ok (.invokevirtual 106, 3) := by decide +kernel
theorem d_X_sum_43 : decode b_X_sum 43 = .ok (.ireturn, 1) := by decide +kernel
theorem d_X_sum_44 : decode b_X_sum 44 = .ok (.aload_n 0, 1) := by decide +kernel
theorem d_X_sum_45 : decode b_X_sum 45 = .ok (.iload_n 1, 1) := by decide +kernel
theorem d_X_sum_46 : decode b_X_sum 46 = .ok (.iload_n 2, 1) := by decide +kernel
theorem d_X_sum_47 : decode b_X_sum 47 = .ok (.iconst 0, 1) := by decide +kernel
theorem d_X_sum_48 : decode b_X_sum 48 = .ok (.invokevirtual 106, 3) := by decide +kernel
theorem d_X_sum_51 : decode b_X_sum 51 = .ok (.ireturn, 1) := by decide +kernel
theorem d_X_sum_52 : decode b_X_sum 52 = .ok (.aload_n 0, 1) := by decide +kernel
theorem d_X_sum_53 : decode b_X_sum 53 = .ok (.iload_n 1, 1) := by decide +kernel
theorem d_X_sum_54 : decode b_X_sum 54 = .ok (.iload_n 2, 1) := by decide +kernel
theorem d_X_sum_55 : decode b_X_sum 55 = .ok (.iconst 0, 1) := by decide +kernel
theorem d_X_sum_56 : decode b_X_sum 56 = .ok (.invokevirtual 118, 3) := by decide +kernel
theorem d_X_sum_59 : decode b_X_sum 59 = .ok (.ireturn, 1) := by decide +kernel
theorem d_X_sum_60 : decode b_X_sum 60 = .ok (.new 92, 3) := by decide +kernel
theorem d_X_sum_63 : decode b_X_sum 63 = .ok (.dup, 1) := by decide +kernel
theorem d_X_sum_64 : decode b_X_sum 64 = .ok (.ldc 121, 2) := by decide +kernel
theorem d_X_sum_66 : decode b_X_sum 66 = .ok (.invokespecial 96, 3) := by decide +kernel
theorem d_X_sum_69 : decode b_X_sum 69 = .ok (.athrow, 1) := by decide +kernel
theorem d_X_has_0 : decode b_X_has 0 = .ok (.aload_n 0, 1) := by decide +kernel
theorem d_X_has_1 : decode b_X_has 1 = .ok (.iload_n 1, 1) := by decide +kernel
theorem d_X_has_2 : decode b_X_has 2 = .ok (.invokevirtual 76, 3) := by decide +kernel
theorem d_X_has_5 : decode b_X_has 5 = .ok (.aload_n 0, 1) := by decide +kernel
theorem d_X_has_6 : decode b_X_has 6 = .ok (.iload_n 2, 1) := by decide +kernel
theorem d_X_has_7 : decode b_X_has 7 = .ok (.invokevirtual 79, 3) := by decide +kernel
theorem d_X_has_10 : decode b_X_has 10 = .ok (.aload_n 0, 1) := by decide +kernel
theorem d_X_has_11 : decode b_X_has 11 = .ok (.getfield 37, 3) := by decide +kernel
theorem d_X_has_14 : decode b_X_has 14 = .ok (.iload_n 1, 1) := by decide +kernel
theorem d_X_has_15 : decode b_X_has 15 = .ok (.iload_n 2, 1) := by decide +kernel
theorem d_X_has_16 : decode b_X_has 16 = .ok (.invokestatic 88, 3) := by decide +kernel
theorem d_X_has_19 : decode b_X_has 19 = .ok (.iaload, 1) := by decide +kernel
theorem d_X_has_20 : decode b_X_has 20 = .ok (.ireturn, 1) := by decide +kernel
theorem d_X_level_0 : decode b_X_level 0 = .ok (.aload_n 0, 1) := by decide +kernel
theorem d_X_level_1 : decode b_X_level 1 = .ok (.iload_n 1, 1) := by decide +kernel
theorem d_X_level_2 : decode b_X_level 2 = .ok (.invokevirtual 76, 3) := by decide +kernel
theorem d_X_level_5 : decode b_X_level 5 = .ok (.iload_n 2, 1) := by decide +kernel
theorem d_X_level_6 : decode b_X_level 6 = .ok (.invokestatic 61, 3) := by decide +kernel
theorem d_X_level_9 : decode b_X_level 9 = .ok (.iload 4, 2) := by decide +kernel
theorem d_X_level_11 : decode b_X_level 11 = .ok (.iconst 0, 1) := by decide +kernel
theorem d_X_level_12 : decode b_X_level 12 = .ok (.sipush 9999, 3) := by decide +kernel
theorem d_X_level_15 : decode b_X_level 15 = .ok (.invokestatic 64, 3) := by decide +kernel
theorem d_X_level_18 : decode b_X_level 18 = .ok (.iload_n 3, 1) := by decide +kernel
theorem d_X_level_19 : decode b_X_level 19 = .ok (.iconst 0, 1) := by decide +kernel
theorem d_X_level_20 : decode b_X_level 20 = .ok (.iload 4, 2) := by decide +kernel
theorem d_X_level_22 : decode b_X_level 22 = .ok (.invokestatic 64, 3) := by decide +kernel
theorem d_X_level_25 : decode b_X_level 25 = .ok (.aload_n 0, 1) := by decide +kernel
theorem d_X_level_26 : decode b_X_level 26 = .ok (.getfield 41, 3) := by decide +kernel
theorem d_X_level_29 : decode b_X_level 29 = .ok (.iload_n 1, 1) := by decide +kernel
theorem d_X_level_30 : decode b_X_level 30 = .ok (.iload_n 2, 1) := by decide +kernel
theorem d_X_level_31 : decode b_X_level 31 = .ok (.invokestatic 123, 3) := by decide +kernel
theorem d_X_level_34 : decode b_X_level 34 = .ok (.iload_n 3, 1) := by decide +kernel
theorem d_X_level_35 : decode b_X_level 35 = .ok (.iastore, 1) := by decide +kernel
theorem d_X_level_36 : decode b_X_level 36 = .ok (.aload_n 0, 1) := by decide +kernel
theorem d_X_level_37 : decode b_X_level 37 = .ok (.getfield 44, 3) := by decide +kernel
theorem d_X_level_40 : decode b_X_level 40 = .ok (.iload_n 1, 1) := by decide +kernel
theorem d_X_level_41 : decode b_X_level 41 = .ok (.iload_n 2, 1) := by decide +kernel
theorem d_X_level_42 : decode b_X_level 42 = .ok (.invokestatic 123, 3) := by decide +kernel
theorem d_X_level_45 : decode b_X_level 45 = .ok (.iload 4, 2) := by decide +kernel
theorem d_X_level_47 : decode b_X_level 47 = .ok (.iastore, 1) := by decide +kernel
theorem d_X_level_48 : decode b_X_level 48 = .ok (.return_, 1) := by decide +kernel
theorem d_X_orders_0 : decode b_X_orders 0 = .ok (.aload_n 0, 1) := by decide +kernel
theorem d_X_orders_1 : decode b_X_orders 1 = .ok (.getfield 21, 3) := by decide +kernel
theorem d_X_orders_4 : decode b_X_orders 4 = .ok (.invokevirtual 126, 3) := by decide +kernel
theorem d_X_orders_7 : decode b_X_orders 7 = .ok (.istore_n 1, 1) := by decide +kernel
theorem d_X_orders_8 : decode b_X_orders 8 = .ok (.iconst 0, 1) := by decide +kernel
theorem d_X_orders_9 : decode b_X_orders 9 = .ok (.istore_n 2, 1) := by decide +kernel
theorem d_X_orders_10 : decode b_X_orders 10 = .ok (.iload_n 2, 1) := by decide +kernel
theorem d_X_orders_11 : decode b_X_orders 11 = .ok (.aload_n 0, 1) := by decide +kernel
theorem d_X_orders_12 : decode b_X_orders 12 = .ok (.getfield 50, 3) := by decide +kernel
theorem d_X_orders_15 : decode b_X_orders 15 = .ok (.if_icmp .ge 29, 3) := by decide +kernel
theorem d_X_orders_18 : decode b_X_orders 18 = .ok (.iconst 0, 1) := by decide +kernel
theorem d_X_orders_19 : decode b_X_orders 19 = .ok (.istore_n 3, 1) := by decide +kernel
theorem d_X_orders_20 : decode b_X_orders 20 = .ok (.iload_n 3, 1) := by decide +kernel
theorem d_X_orders_21 : decode b_X_orders 21 = .ok (.bipush 10, 2) := by decide +kernel
theorem d_X_orders_23 : decode b_X_orders 23 = .ok (.if_icmp .ge 15, 3) := by decide +kernel
theorem d_X_orders_26 : decode b_X_orders 26 = .ok (.aload_n 0, 1) := by decide +kernel
theorem d_X_orders_27 : decode b_X_orders 27 = .ok (.iload_n 2, 1) := by decide +kernel
theorem d_X_orders_28 : decode b_X_orders 28 = .ok (.iload_n 3, 1) := by decide +kernel
theorem d_X_orders_29 : decode b_X_orders 29 = .ok (.invokevirtual 130, 3) := by decide +kernel
theorem d_X_orders_32 : decode b_X_orders 32 = .ok (.iinc 3 1, 3) := by decide +kernel
theorem d_X_orders_35 : decode b_X_orders 35 = .ok (.goto (-15), 3) := by decide +kernel
theorem d_X_orders_38 : decode b_X_orders 38 = .ok (.iinc 2 1, 3) := by decide +kernel
theorem d_X_orders_41 : decode b_X_orders 41 = .ok (.goto (-31), 3) := by decide +kernel
theorem d_X_orders_44 : decode b_X_orders 44 = .ok (.aload_n 0, 1) := by decide +kernel
theorem d_X_orders_45 : decode b_X_orders 45 = .ok (.getfield 21, 3) := by decide +kernel
theorem d_X_orders_48 : decode b_X_orders 48 = .ok (.invokevirtual 126, 3) := by decide +kernel
theorem d_X_orders_51 : decode b_X_orders 51 = .ok (.iload_n 1, 1) := by decide +kernel
theorem d_X_orders_52 : decode b_X_orders 52 = .ok (.isub, 1) := by decide +kernel
theorem d_X_orders_53 : decode b_X_orders 53 = .ok (.ireturn, 1) := by decide +kernel
theorem d_X_order_0 : decode b_X_order 0 = .ok (.aload_n 0, 1) := by decide +kernel
theorem d_X_order_1 : decode b_X_order 1 = .ok (.getfield 21, 3) := by decide +kernel
theorem d_X_order_4 : decode b_X_order 4 = .ok (.iload_n 1, 1) := by decide +kernel
theorem d_X_order_5 : decode b_X_order 5 = .ok (.iload_n 2, 1) := by decide +kernel
theorem d_X_order_6 : decode b_X_order 6 = .ok (.invokestatic 134, 3) := by decide +kernel
theorem d_X_order_9 : decode b_X_order 9 = .ok (.ireturn, 1) := by decide +kernel
theorem d_X_deliver_0 : decode b_X_deliver 0 = .ok (.aload_n 0, 1) := by decide +kernel
theorem d_X_deliver_1 : decode b_X_deliver 1 = .ok (.getfield 21, 3) := by decide +kernel
theorem d_X_deliver_4 : decode b_X_deliver 4 = .ok (.iload_n 1, 1) := by decide +kernel
theorem d_X_deliver_5 : decode b_X_deliver 5 = .ok (.invokestatic 138, 3) := by decide +kernel
theorem d_X_deliver_8 : decode b_X_deliver 8 = .ok (.aload_n 0, 1) := by decide +kernel
theorem d_X_deliver_9 : decode b_X_deliver 9 = .ok (.iload_n 2, 1) := by decide +kernel
theorem d_X_deliver_10 : decode b_X_deliver 10 = .ok (.invokevirtual 79, 3) := by decide +kernel
theorem d_X_deliver_13 : decode b_X_deliver 13 = .ok (.aload_n 0, 1) := by decide +kernel
theorem d_X_deliver_14 : decode b_X_deliver 14 = .ok (.getfield 21, 3) := by decide +kernel
theorem d_X_deliver_17 : decode b_X_deliver 17 = .ok (.iload_n 1, 1) := by decide +kernel
theorem d_X_deliver_18 : decode b_X_deliver 18 = .ok (.iconst 4, 1) := by decide +kernel
theorem d_X_deliver_19 : decode b_X_deliver 19 = .ok (.invokevirtual 142, 3) := by decide +kernel
theorem d_X_deliver_22 : decode b_X_deliver 22 = .ok (.iconst 1, 1) := by decide +kernel
theorem d_X_deliver_23 : decode b_X_deliver 23 = .ok (.if_icmp .eq 13, 3) := by decide +kernel
theorem d_X_deliver_26 : decode b_X_deliver 26 = .ok (.new 110, 3) := by decide +kernel
theorem d_X_deliver_29 : decode b_X_deliver 29 = .ok (.dup, 1) := by decide +kernel
theorem d_X_deliver_30 : decode b_X_deliver 30 = .ok (.ldc 145, 2) := by decide +kernel
theorem d_X_deliver_32 : decode b_X_deliver 32 = .ok (.invokespecial 114, 3) := by decide +kernel
theorem d_X_deliver_35 : decode b_X_deliver 35 = .ok (.athrow, 1) := by decide +kernel
theorem d_X_deliver_36 : decode b_X_deliver 36 = .ok (.aload_n 0, 1) := by decide +kernel
theorem d_X_deliver_37 : decode b_X_deliver 37 = .ok (.getfield 21, 3) := by decide +kernel
theorem d_X_deliver_40 : decode b_X_deliver 40 = .ok (.iload_n 1, 1) := by decide +kernel
theorem d_X_deliver_41 : decode b_X_deliver 41 = .ok (.iconst 1, 1) := by decide +kernel
theorem d_X_deliver_42 : decode b_X_deliver 42 = .ok (.invokevirtual 142, 3) := by decide +kernel
theorem d_X_deliver_45 : decode b_X_deliver 45 = .ok (.aload_n 0, 1) := by decide +kernel
theorem d_X_deliver_46 : decode b_X_deliver 46 = .ok (.getfield 14, 3) := by decide +kernel
theorem d_X_deliver_49 : decode b_X_deliver 49 = .ok (.iload_n 2, 1) := by decide +kernel
theorem d_X_deliver_50 : decode b_X_deliver 50 = .ok (.iconst 0, 1) := by decide +kernel
theorem d_X_deliver_51 : decode b_X_deliver 51 = .ok (.invokevirtual 142, 3) := by decide +kernel
theorem d_X_deliver_54 : decode b_X_deliver 54 = .ok (.if_icmp .eq 13, 3) := by decide +kernel
theorem d_X_deliver_57 : decode b_X_deliver 57 = .ok (.new 110, 3) := by decide +kernel
theorem d_X_deliver_60 : decode b_X_deliver 60 = .ok (.dup, 1) := by decide +kernel
theorem d_X_deliver_61 : decode b_X_deliver 61 = .ok (.ldc 147, 2) := by decide +kernel
theorem d_X_deliver_63 : decode b_X_deliver 63 = .ok (.invokespecial 114, 3) := by decide +kernel
theorem d_X_deliver_66 : decode b_X_deliver 66 = .ok (.athrow, 1) := by decide +kernel
theorem d_X_deliver_67 : decode b_X_deliver 67 = .ok (.aload_n 0, 1) := by decide +kernel
theorem d_X_deliver_68 : decode b_X_deliver 68 = .ok (.getfield 21, 3) := by decide +kernel
theorem d_X_deliver_71 : decode b_X_deliver 71 = .ok (.iload_n 1, 1) := by decide +kernel
theorem d_X_deliver_72 : decode b_X_deliver 72 = .ok (.iconst 0, 1) := by decide +kernel
theorem d_X_deliver_73 : decode b_X_deliver 73 = .ok (.invokevirtual 142, 3) := by decide +kernel
theorem d_X_deliver_76 : decode b_X_deliver 76 = .ok (.istore_n 3, 1) := by decide +kernel
theorem d_X_deliver_77 : decode b_X_deliver 77 = .ok (.aload_n 0, 1) := by decide +kernel
theorem d_X_deliver_78 : decode b_X_deliver 78 = .ok (.getfield 21, 3) := by decide +kernel
theorem d_X_deliver_81 : decode b_X_deliver 81 = .ok (.iload_n 1, 1) := by decide +kernel
theorem d_X_deliver_82 : decode b_X_deliver 82 = .ok (.iconst 4, 1) := by decide +kernel
theorem d_X_deliver_83 : decode b_X_deliver 83 = .ok (.iconst 0, 1) := by decide +kernel
theorem d_X_deliver_84 : decode b_X_deliver 84 = .ok (.invokevirtual 149, 3) := by decide +kernel
theorem d_X_deliver_87 : decode b_X_deliver 87 = .ok (.aload_n 0, 1) := by decide +kernel
theorem d_X_deliver_88 : decode b_X_deliver 88 = .ok (.iload_n 3, 1) := by decide +kernel
theorem d_X_deliver_89 : decode b_X_deliver 89 = .ok (.iload_n 2, 1) := by decide +kernel
theorem d_X_deliver_90 : decode b_X_deliver 90 = .ok (.aload_n 0, 1) := by decide +kernel
theorem d_X_deliver_91 : decode b_X_deliver 91 = .ok (.getfield 21, 3) := by decide +kernel
theorem d_X_deliver_94 : decode b_X_deliver 94 = .ok (.iload_n 1, 1) := by decide +kernel
theorem d_X_deliver_95 : decode b_X_deliver 95 = .ok (.iconst 2, 1) := by decide +kernel
theorem d_X_deliver_96 : decode b_X_deliver 96 = .ok (.invokevirtual 142, 3) := by decide +kernel
theorem d_X_deliver_99 : decode b_X_deliver 99 = .ok (.invokevirtual 152, 3) := by decide +kernel
theorem d_X_deliver_102 : decode b_X_deliver 102 = .ok (.aload_n 0, 1) := by decide +kernel
theorem d_X_deliver_103 : decode b_X_deliver 103 = .ok (.getfield 37, 3) := by decide +kernel
theorem d_X_deliver_106 : decode b_X_deliver 106 = .ok (.iload_n 3, 1) := by decide +kernel
theorem d_X_deliver_107 : decode b_X_deliver 107 = .ok (.iload_n 2, 1) := by decide +kernel
theorem d_X_deliver_108 : decode b_X_deliver 108 = .ok (.invokestatic 88, 3) := by decide +kernel
theorem d_X_deliver_111 : decode b_X_deliver 111 = .ok (.iaload, 1) := by decide +kernel
theorem d_X_deliver_112 : decode b_X_deliver 112 = .ok (.ireturn, 1) := by decide +kernel
theorem d_X_emergency_0 : decode b_X_emergency 0 = .ok (.aload_n 0, 1) := by decide +kernel
theorem d_X_emergency_1 : decode b_X_emergency 1 = .ok (.iload_n 1, 1) := by decide +kernel
theorem d_X_emergency_2 : decode b_X_emergency 2 = .ok (.invokevirtual 76, 3) := by decide +kernel
theorem d_X_emergency_5 : decode b_X_emergency 5 = .ok (.iload_n 2, 1) := by decide +kernel
theorem d_X_emergency_6 : decode b_X_emergency 6 = .ok (.invokestatic 61, 3) := by decide +kernel
theorem d_X_emergency_9 : decode b_X_emergency 9 = .ok (.iload 4, 2) := by decide +kernel
theorem d_X_emergency_11 : decode b_X_emergency 11 = .ok (.invokestatic 155, 3) := by decide +kernel
theorem d_X_emergency_14 : decode b_X_emergency 14 = .ok (.iload_n 3, 1) := by decide +kernel
theorem d_X_emergency_15 : decode b_X_emergency 15 = .ok (.iconst 1, 1) := by decide +kernel
theorem d_X_emergency_16 : decode b_X_emergency 16 = .ok (.sipush 9999, 3) := by decide +kernel
theorem d_X_emergency_19 : decode b_X_emergency 19 = .ok (.invokestatic 64, 3) := by decide +kernel
theorem d_X_emergency_22 : decode b_X_emergency 22 = .ok (.aload_n 0, 1) := by decide +kernel
theorem d_X_emergency_23 : decode b_X_emergency 23 = .ok (.getfield 24, 3) := by decide +kernel
theorem d_X_emergency_26 : decode b_X_emergency 26 = .ok (.invokestatic 68, 3) := by decide +kernel
theorem d_X_emergency_29 : decode b_X_emergency 29 = .ok (.aload_n 0, 1) := by decide +kernel
theorem d_X_emergency_30 : decode b_X_emergency 30 = .ok (.getfield 24, 3) := by decide +kernel
theorem d_X_emergency_33 : decode b_X_emergency 33 = .ok (.iload_n 1, 1) := by decide +kernel
theorem d_X_emergency_34 : decode b_X_emergency 34 = .ok (.iload_n 2, 1) := by decide +kernel
theorem d_X_emergency_35 : decode b_X_emergency 35 = .ok (.iload_n 3, 1) := by decide +kernel
theorem d_X_emergency_36 : decode b_X_emergency 36 = .ok (.iload 4, 2) := by decide +kernel
theorem d_X_emergency_38 : decode b_X_emergency 38 = .ok (.iconst 1, 1) := by decide +kernel
theorem d_X_emergency_39 : decode b_X_emergency 39 = .ok (.invokevirtual 72, 3) := by decide +kernel
theorem d_X_emergency_42 : decode b_X_emergency 42 = .ok (.ireturn, 1) := by decide +kernel
theorem d_X_second_0 : decode b_X_second 0 = .ok (.aload_n 0, 1) := by decide +kernel
theorem d_X_second_1 : decode b_X_second 1 = .ok (.getfield 24, 3) := by decide +kernel
theorem d_X_second_4 : decode b_X_second 4 = .ok (.iload_n 1, 1) := by decide +kernel
theorem d_X_second_5 : decode b_X_second 5 = .ok (.invokestatic 138, 3) := by decide +kernel
theorem d_X_second_8 : decode b_X_second 8 = .ok (.iload_n 2, 1) := by decide +kernel
theorem d_X_second_9 : decode b_X_second 9 = .ok (.invokestatic 155, 3) := by decide +kernel
theorem d_X_second_12 : decode b_X_second 12 = .ok (.aload_n 0, 1) := by decide +kernel
theorem d_X_second_13 : decode b_X_second 13 = .ok (.getfield 24, 3) := by decide +kernel
theorem d_X_second_16 : decode b_X_second 16 = .ok (.iload_n 1, 1) := by decide +kernel
theorem d_X_second_17 : decode b_X_second 17 = .ok (.iconst 4, 1) := by decide +kernel
theorem d_X_second_18 : decode b_X_second 18 = .ok (.invokevirtual 142, 3) := by decide +kernel
theorem d_X_second_21 : decode b_X_second 21 = .ok (.iconst 1, 1) := by decide +kernel
theorem d_X_second_22 : decode b_X_second 22 = .ok (.if_icmp .eq 13, 3) := by decide +kernel
theorem d_X_second_25 : decode b_X_second 25 = .ok (.new 110, 3) := by decide +kernel
theorem d_X_second_28 : decode b_X_second 28 = .ok (.dup, 1) := by decide +kernel
theorem d_X_second_29 : decode b_X_second 29 = .ok (.ldc 158, 2) := by decide +kernel
theorem d_X_second_31 : decode b_X_second 31 = .ok (.invokespecial 114, 3) := by decide +kernel
theorem d_X_second_34 : decode b_X_second 34 = .ok (.athrow, 1) := by decide +kernel
theorem d_X_second_35 : decode b_X_second 35 = .ok (.aload_n 0, 1) := by decide +kernel
theorem d_X_second_36 : decode b_X_second 36 = .ok (.getfield 24, 3) := by decide +kernel
theorem d_X_second_39 : decode b_X_second 39 = .ok (.iload_n 1, 1) := by decide +kernel
theorem d_X_second_40 : decode b_X_second 40 = .ok (.iconst 3, 1) := by decide +kernel
theorem d_X_second_41 : decode b_X_second 41 = .ok (.invokevirtual 142, 3) := by decide +kernel
theorem d_X_second_44 : decode b_X_second 44 = .ok (.iload_n 2, 1) := by decide +kernel
theorem d_X_second_45 : decode b_X_second 45 = .ok (.if_icmp .ne 13, 3) := by decide +kernel
theorem d_X_second_48 : decode b_X_second 48 = .ok (.new 110, 3) := by decide +kernel
theorem d_X_second_51 : decode b_X_second 51 = .ok (.dup, 1) := by decide +kernel
theorem d_X_second_52 : decode b_X_second 52 = .ok (.ldc 160, 2) := by decide +kernel
theorem d_X_second_54 : decode b_X_second 54 = .ok (.invokespecial 114, 3) := by decide +kernel
theorem d_X_second_57 : decode b_X_second 57 = .ok (.athrow, 1) := by decide +kernel
theorem d_X_second_58 : decode b_X_second 58 = .ok (.aload_n 0, 1) := by decide +kernel
theorem d_X_second_59 : decode b_X_second 59 = .ok (.getfield 21, 3) := by decide +kernel
theorem d_X_second_62 : decode b_X_second 62 = .ok (.invokestatic 68, 3) := by decide +kernel
theorem d_X_second_65 : decode b_X_second 65 = .ok (.aload_n 0, 1) := by decide +kernel
theorem d_X_second_66 : decode b_X_second 66 = .ok (.getfield 24, 3) := by decide +kernel
theorem d_X_second_69 : decode b_X_second 69 = .ok (.iload_n 1, 1) := by decide +kernel
theorem d_X_second_70 : decode b_X_second 70 = .ok (.iconst 4, 1) := by decide +kernel
theorem d_X_second_71 : decode b_X_second 71 = .ok (.iconst 0, 1) := by decide +kernel
theorem d_X_second_72 : decode b_X_second 72 = .ok (.invokevirtual 149, 3) := by decide +kernel
theorem d_X_second_75 : decode b_X_second 75 = .ok (.aload_n 0, 1) := by decide +kernel
theorem d_X_second_76 : decode b_X_second 76 = .ok (.aload_n 0, 1) := by decide +kernel
theorem d_X_second_77 : decode b_X_second 77 = .ok (.getfield 24, 3) := by decide +kernel
theorem d_X_second_80 : decode b_X_second 80 = .ok (.iload_n 1, 1) := by decide +kernel
theorem d_X_second_81 : decode b_X_second 81 = .ok (.iconst 0, 1) := by decide +kernel
theorem d_X_second_82 : decode b_X_second 82 = .ok (.invokevirtual 142, 3) := by decide +kernel
theorem d_X_second_85 : decode b_X_second 85 = .ok (.aload_n 0, 1) := by decide +kernel
theorem d_X_second_86 : decode b_X_second 86 = .ok (.getfield 24, 3) := by decide +kernel
theorem d_X_second_89 : decode b_X_second 89 = .ok (.iload_n 1, 1) := by decide +kernel
theorem d_X_second_90 : decode b_X_second 90 = .ok (.iconst 1, 1) := by decide +kernel
theorem d_X_second_91 : decode b_X_second 91 = .ok (.invokevirtual 142, 3) := by decide +kernel
theorem d_X_second_94 : decode b_X_second 94 = .ok (.aload_n 0, 1) := by decide +kernel
theorem d_X_second_95 : decode b_X_second 95 = .ok (.getfield 24, 3) := by decide +kernel
theorem d_X_second_98 : decode b_X_second 98 = .ok (.iload_n 1, 1) := by decide +kernel
theorem d_X_second_99 : decode b_X_second 99 = .ok (.iconst 2, 1) := by decide +kernel
theorem d_X_second_100 : decode b_X_second 100 = .ok (.invokevirtual 142, 3) := by decide +kernel
theorem d_X_second_103 : decode b_X_second 103 = .ok (.invokevirtual 162, 3) := by decide +kernel
theorem d_X_second_106 : decode b_X_second 106 = .ok (.ireturn, 1) := by decide +kernel
theorem d_X_count_0 : decode b_X_count 0 = .ok (.aload_n 0, 1) := by decide +kernel
theorem d_X_count_1 : decode b_X_count 1 = .ok (.iload_n 1, 1) := by decide +kernel
theorem d_X_count_2 : decode b_X_count 2 = .ok (.invokevirtual 76, 3) := by decide +kernel
theorem d_X_count_5 : decode b_X_count 5 = .ok (.aload_n 0, 1) := by decide +kernel
theorem d_X_count_6 : decode b_X_count 6 = .ok (.iload_n 2, 1) := by decide +kernel
theorem d_X_count_7 : decode b_X_count 7 = .ok (.invokevirtual 79, 3) := by decide +kernel
theorem d_X_count_10 : decode b_X_count 10 = .ok (.iload_n 3, 1) := by decide +kernel
theorem d_X_count_11 : decode b_X_count 11 = .ok (.iconst 0, 1) := by decide +kernel
theorem d_X_count_12 : decode b_X_count 12 = .ok (.sipush 9999, 3) := by decide +kernel
theorem d_X_count_15 : decode b_X_count 15 = .ok (.invokestatic 64, 3) := by decide +kernel
theorem d_X_count_18 : decode b_X_count 18 = .ok (.iload 4, 2) := by decide +kernel
theorem d_X_count_20 : decode b_X_count 20 = .ok (.iconst 1, 1) := by decide +kernel
theorem d_X_count_21 : decode b_X_count 21 = .ok (.bipush 99, 2) := by decide +kernel
theorem d_X_count_23 : decode b_X_count 23 = .ok (.invokestatic 64, 3) := by decide +kernel
theorem d_X_count_26 : decode b_X_count 26 = .ok (.iload_n 3, 1) := by decide +kernel
theorem d_X_count_27 : decode b_X_count 27 = .ok (.aload_n 0, 1) := by decide +kernel
theorem d_X_count_28 : decode b_X_count 28 = .ok (.getfield 37, 3) := by decide +kernel
theorem d_X_count_31 : decode b_X_count 31 = .ok (.iload_n 1, 1) := by decide +kernel
theorem d_X_count_32 : decode b_X_count 32 = .ok (.iload_n 2, 1) := by decide +kernel
theorem d_X_count_33 : decode b_X_count 33 = .ok (.invokestatic 88, 3) := by decide +kernel
theorem d_X_count_36 : decode b_X_count 36 = .ok (.iaload, 1) := by decide +kernel
theorem d_X_count_37 : decode b_X_count 37 = .ok (.isub, 1) := by decide +kernel
theorem d_X_count_38 : decode b_X_count 38 = .ok (.istore 5, 2) := by decide +kernel
theorem d_X_count_40 : decode b_X_count 40 = .ok (.iload 5, 2) := by decide +kernel
theorem d_X_count_42 : decode b_X_count 42 = .ok (.ifCond .ne 5, 3) := by decide +kernel
theorem d_X_count_45 : decode b_X_count 45 = .ok (.iconst 0, 1) := by decide +kernel
theorem d_X_count_46 : decode b_X_count 46 = .ok (.ireturn, 1) := by decide +kernel
theorem d_X_count_47 : decode b_X_count 47 = .ok (.aload_n 0, 1) := by decide +kernel
theorem d_X_count_48 : decode b_X_count 48 = .ok (.getfield 27, 3) := by decide +kernel
theorem d_X_count_51 : decode b_X_count 51 = .ok (.invokestatic 68, 3) := by decide +kernel
theorem d_X_count_54 : decode b_X_count 54 = .ok (.aload_n 0, 1) := by decide +kernel
theorem d_X_count_55 : decode b_X_count 55 = .ok (.iload_n 1, 1) := by decide +kernel
theorem d_X_count_56 : decode b_X_count 56 = .ok (.iload_n 2, 1) := by decide +kernel
theorem d_X_count_57 : decode b_X_count 57 = .ok (.iload 5, 2) := by decide +kernel
theorem d_X_count_59 : decode b_X_count 59 = .ok (.invokevirtual 85, 3) := by decide +kernel
theorem d_X_count_62 : decode b_X_count 62 = .ok (.aload_n 0, 1) := by decide +kernel
theorem d_X_count_63 : decode b_X_count 63 = .ok (.getfield 27, 3) := by decide +kernel
theorem d_X_count_66 : decode b_X_count 66 = .ok (.iload_n 1, 1) := by decide +kernel
theorem d_X_count_67 : decode b_X_count 67 = .ok (.iload_n 2, 1) := by decide +kernel
theorem d_X_count_68 : decode b_X_count 68 = .ok (.iload 5, 2) := by decide +kernel
theorem d_X_count_70 : decode b_X_count 70 = .ok (.iload 4, 2) := by decide +kernel
theorem d_X_count_72 : decode b_X_count 72 = .ok (.aload_n 0, 1) := by decide +kernel
theorem d_X_count_73 : decode b_X_count 73 = .ok (.getfield 100, 3) := by decide +kernel
theorem d_X_count_76 : decode b_X_count 76 = .ok (.invokevirtual 72, 3) := by decide +kernel
theorem d_X_count_79 : decode b_X_count 79 = .ok (.pop, 1) := by decide +kernel
theorem d_X_count_80 : decode b_X_count 80 = .ok (.iload 5, 2) := by decide +kernel
theorem d_X_count_82 : decode b_X_count 82 = .ok (.ireturn, 1) := by decide +kernel
theorem d_X_difference_0 : decode b_X_difference 0 = .ok (.aload_n 0, 1) := by decide +kernel
theorem d_X_difference_1 : decode b_X_difference 1 = .ok (.getfield 27, 3) := by decide +kernel
theorem d_X_difference_4 : decode b_X_difference 4 = .ok (.iload_n 1, 1) := by decide +kernel
theorem d_X_difference_5 : decode b_X_difference 5 = .ok (.iload_n 2, 1) := by decide +kernel
theorem d_X_difference_6 : decode b_X_difference 6 = .ok (.invokestatic 134, 3) := by decide +kernel
theorem d_X_difference_9 : decode b_X_difference 9 = .ok (.ireturn, 1) := by decide +kernel
theorem d_X_kit_0 : decode b_X_kit 0 = .ok (.iload_n 1, 1) := by decide +kernel
theorem d_X_kit_1 : decode b_X_kit 1 = .ok (.invokestatic 166, 3) := by decide +kernel
theorem d_X_kit_4 : decode b_X_kit 4 = .ok (.iload_n 2, 1) := by decide +kernel
theorem d_X_kit_5 : decode b_X_kit 5 = .ok (.invokestatic 61, 3) := by decide +kernel
theorem d_X_kit_8 : decode b_X_kit 8 = .ok (.iload_n 3, 1) := by decide +kernel
theorem d_X_kit_9 : decode b_X_kit 9 = .ok (.iconst 0, 1) := by decide +kernel
theorem d_X_kit_10 : decode b_X_kit 10 = .ok (.bipush 20, 2) := by decide +kernel
theorem d_X_kit_12 : decode b_X_kit 12 = .ok (.invokestatic 64, 3) := by decide +kernel
theorem d_X_kit_15 : decode b_X_kit 15 = .ok (.aload_n 0, 1) := by decide +kernel
theorem d_X_kit_16 : decode b_X_kit 16 = .ok (.getfield 47, 3) := by decide +kernel
theorem d_X_kit_19 : decode b_X_kit 19 = .ok (.iload_n 1, 1) := by decide +kernel
theorem d_X_kit_20 : decode b_X_kit 20 = .ok (.iload_n 2, 1) := by decide +kernel
theorem d_X_kit_21 : decode b_X_kit 21 = .ok (.invokestatic 123, 3) := by decide +kernel
theorem d_X_kit_24 : decode b_X_kit 24 = .ok (.iload_n 3, 1) := by decide +kernel
theorem d_X_kit_25 : decode b_X_kit 25 = .ok (.iastore, 1) := by decide +kernel
theorem d_X_kit_26 : decode b_X_kit 26 = .ok (.return_, 1) := by decide +kernel
theorem d_X_give_0 : decode b_X_give 0 = .ok (.aload_n 0, 1) := by decide +kernel
theorem d_X_give_1 : decode b_X_give 1 = .ok (.iload_n 1, 1) := by decide +kernel
theorem d_X_give_2 : decode b_X_give 2 = .ok (.invokevirtual 76, 3) := by decide +kernel
theorem d_X_give_5 : decode b_X_give 5 = .ok (.iload_n 2, 1) := by decide +kernel
theorem d_X_give_6 : decode b_X_give 6 = .ok (.invokestatic 166, 3) := by decide +kernel
theorem d_X_give_9 : decode b_X_give 9 = .ok (.aload_n 0, 1) := by decide +kernel
theorem d_X_give_10 : decode b_X_give 10 = .ok (.iload_n 2, 1) := by decide +kernel
theorem d_X_give_11 : decode b_X_give 11 = .ok (.invokevirtual 169, 3) := by decide +kernel
theorem d_X_give_14 : decode b_X_give 14 = .ok (.ifCond .ne 13, 3) := by decide +kernel
theorem d_X_give_17 : decode b_X_give 17 = .ok (.new 110, 3) := by decide +kernel
theorem d_X_give_20 : decode b_X_give 20 = .ok (.dup, 1) := by decide +kernel
theorem d_X_give_21 : decode b_X_give 21 = .ok (.ldc 173, 2) := by decide +kernel
theorem d_X_give_23 : decode b_X_give 23 = .ok (.invokespecial 114, 3) := by decide +kernel
theorem d_X_give_26 : decode b_X_give 26 = .ok (.athrow, 1) := by decide +kernel
theorem d_X_give_27 : decode b_X_give 27 = .ok (.aload_n 0, 1) := by decide +kernel
theorem d_X_give_28 : decode b_X_give 28 = .ok (.iload_n 1, 1) := by decide +kernel
theorem d_X_give_29 : decode b_X_give 29 = .ok (.iload_n 2, 1) := by decide +kernel
theorem d_X_give_30 : decode b_X_give 30 = .ok (.invokevirtual 175, 3) := by decide +kernel
theorem d_X_give_33 : decode b_X_give 33 = .ok (.istore_n 3, 1) := by decide +kernel
theorem d_X_give_34 : decode b_X_give 34 = .ok (.iload_n 3, 1) := by decide +kernel
theorem d_X_give_35 : decode b_X_give 35 = .ok (.ifCond .lt 5, 3) := by decide +kernel
theorem d_X_give_38 : decode b_X_give 38 = .ok (.iload_n 3, 1) := by decide +kernel
theorem d_X_give_39 : decode b_X_give 39 = .ok (.ireturn, 1) := by decide +kernel
theorem d_X_give_40 : decode b_X_give 40 = .ok (.iconst 0, 1) := by decide +kernel
theorem d_X_give_41 : decode b_X_give 41 = .ok (.istore 4, 2) := by decide +kernel
theorem d_X_give_43 : decode b_X_give 43 = .ok (.iload 4, 2) := by decide +kernel
theorem d_X_give_45 : decode b_X_give 45 = .ok (.bipush 10, 2) := by decide +kernel
theorem d_X_give_47 : decode b_X_give 47 = .ok (.if_icmp .ge 27, 3) := by decide +kernel
theorem d_X_give_50 : decode b_X_give 50 = .ok (.aload_n 0, 1) := by decide +kernel
theorem d_X_give_51 : decode b_X_give 51 = .ok (.iload_n 1, 1) := by decide +kernel
theorem d_X_give_52 : decode b_X_give 52 = .ok (.iload 4, 2) := by decide +kernel
theorem d_X_give_54 : decode b_X_give 54 = .ok (.aload_n 0, 1) := by decide +kernel
theorem d_X_give_55 : decode b_X_give 55 = .ok (.getfield 47, 3) := by decide +kernel
theorem d_X_give_58 : decode b_X_give 58 = .ok (.iload_n 2, 1) := by decide +kernel
theorem d_X_give_59 : decode b_X_give 59 = .ok (.iload 4, 2) := by decide +kernel
theorem d_X_give_61 : decode b_X_give 61 = .ok (.invokestatic 123, 3) := by decide +kernel
theorem d_X_give_64 : decode b_X_give 64 = .ok (.iaload, 1) := by decide +kernel
theorem d_X_give_65 : decode b_X_give 65 = .ok (.invokevirtual 115, 3) := by decide +kernel
theorem d_X_give_68 : decode b_X_give 68 = .ok (.iinc 4 1, 3) := by decide +kernel
theorem d_X_give_71 : decode b_X_give 71 = .ok (.goto (-28), 3) := by decide +kernel
theorem d_X_give_74 : decode b_X_give 74 = .ok (.iconst (-1), 1) := by decide +kernel
theorem d_X_give_75 : decode b_X_give 75 = .ok (.ireturn, 1) := by decide +kernel
theorem d_X_back_0 : decode b_X_back 0 = .ok (.aload_n 0, 1) := by decide +kernel
theorem d_X_back_1 : decode b_X_back 1 = .ok (.iload_n 1, 1) := by decide +kernel
theorem d_X_back_2 : decode b_X_back 2 = .ok (.invokevirtual 76, 3) := by decide +kernel
theorem d_X_back_5 : decode b_X_back 5 = .ok (.aload_n 0, 1) := by decide +kernel
theorem d_X_back_6 : decode b_X_back 6 = .ok (.iload_n 2, 1) := by decide +kernel
theorem d_X_back_7 : decode b_X_back 7 = .ok (.invokevirtual 79, 3) := by decide +kernel
theorem d_X_back_10 : decode b_X_back 10 = .ok (.iload_n 3, 1) := by decide +kernel
theorem d_X_back_11 : decode b_X_back 11 = .ok (.iconst 1, 1) := by decide +kernel
theorem d_X_back_12 : decode b_X_back 12 = .ok (.sipush 9999, 3) := by decide +kernel
theorem d_X_back_15 : decode b_X_back 15 = .ok (.invokestatic 64, 3) := by decide +kernel
theorem d_X_back_18 : decode b_X_back 18 = .ok (.aload_n 0, 1) := by decide +kernel
theorem d_X_back_19 : decode b_X_back 19 = .ok (.getfield 14, 3) := by decide +kernel
theorem d_X_back_22 : decode b_X_back 22 = .ok (.iload_n 2, 1) := by decide +kernel
theorem d_X_back_23 : decode b_X_back 23 = .ok (.iconst 2, 1) := by decide +kernel
theorem d_X_back_24 : decode b_X_back 24 = .ok (.invokevirtual 142, 3) := by decide +kernel
theorem d_X_back_27 : decode b_X_back 27 = .ok (.iload_n 3, 1) := by decide +kernel
theorem d_X_back_28 : decode b_X_back 28 = .ok (.if_icmp .ge 5, 3) := by decide +kernel
theorem d_X_back_31 : decode b_X_back 31 = .ok (.iconst 0, 1) := by decide +kernel
theorem d_X_back_32 : decode b_X_back 32 = .ok (.ireturn, 1) := by decide +kernel
theorem d_X_back_33 : decode b_X_back 33 = .ok (.aload_n 0, 1) := by decide +kernel
theorem d_X_back_34 : decode b_X_back 34 = .ok (.iload_n 1, 1) := by decide +kernel
theorem d_X_back_35 : decode b_X_back 35 = .ok (.iload_n 2, 1) := by decide +kernel
theorem d_X_back_36 : decode b_X_back 36 = .ok (.iload_n 3, 1) := by decide +kernel
theorem d_X_back_37 : decode b_X_back 37 = .ok (.invokevirtual 82, 3) := by decide +kernel
theorem d_X_back_40 : decode b_X_back 40 = .ok (.aload_n 0, 1) := by decide +kernel
theorem d_X_back_41 : decode b_X_back 41 = .ok (.getfield 14, 3) := by decide +kernel
theorem d_X_back_44 : decode b_X_back 44 = .ok (.iload_n 2, 1) := by decide +kernel
theorem d_X_back_45 : decode b_X_back 45 = .ok (.iconst 2, 1) := by decide +kernel
theorem d_X_back_46 : decode b_X_back 46 = .ok (.aload_n 0, 1) := by decide +kernel
theorem d_X_back_47 : decode b_X_back 47 = .ok (.getfield 14, 3) := by decide +kernel
theorem d_X_back_50 : decode b_X_back 50 = .ok (.iload_n 2, 1) := by decide +kernel
theorem d_X_back_51 : decode b_X_back 51 = .ok (.iconst 2, 1) := by decide +kernel
theorem d_X_back_52 : decode b_X_back 52 = .ok (.invokevirtual 142, 3) := by decide +kernel
theorem d_X_back_55 : decode b_X_back 55 = .ok (.iload_n 3, 1) := by decide +kernel
theorem d_X_back_56 : decode b_X_back 56 = .ok (.isub, 1) := by decide +kernel
theorem d_X_back_57 : decode b_X_back 57 = .ok (.invokevirtual 149, 3) := by decide +kernel
theorem d_X_back_60 : decode b_X_back 60 = .ok (.aload_n 0, 1) := by decide +kernel
theorem d_X_back_61 : decode b_X_back 61 = .ok (.iload_n 1, 1) := by decide +kernel
theorem d_X_back_62 : decode b_X_back 62 = .ok (.iload_n 2, 1) := by decide +kernel
theorem d_X_back_63 : decode b_X_back 63 = .ok (.iload_n 3, 1) := by decide +kernel
theorem d_X_back_64 : decode b_X_back 64 = .ok (.invokevirtual 85, 3) := by decide +kernel
theorem d_X_back_67 : decode b_X_back 67 = .ok (.iconst 1, 1) := by decide +kernel
theorem d_X_back_68 : decode b_X_back 68 = .ok (.ireturn, 1) := by decide +kernel
theorem d_X_waste_0 : decode b_X_waste 0 = .ok (.aload_n 0, 1) := by decide +kernel
theorem d_X_waste_1 : decode b_X_waste 1 = .ok (.iload_n 1, 1) := by decide +kernel
theorem d_X_waste_2 : decode b_X_waste 2 = .ok (.invokevirtual 76, 3) := by decide +kernel
theorem d_X_waste_5 : decode b_X_waste 5 = .ok (.aload_n 0, 1) := by decide +kernel
theorem d_X_waste_6 : decode b_X_waste 6 = .ok (.iload_n 2, 1) := by decide +kernel
theorem d_X_waste_7 : decode b_X_waste 7 = .ok (.invokevirtual 79, 3) := by decide +kernel
theorem d_X_waste_10 : decode b_X_waste 10 = .ok (.iload_n 3, 1) := by decide +kernel
theorem d_X_waste_11 : decode b_X_waste 11 = .ok (.iconst 1, 1) := by decide +kernel
theorem d_X_waste_12 : decode b_X_waste 12 = .ok (.sipush 9999, 3) := by decide +kernel
theorem d_X_waste_15 : decode b_X_waste 15 = .ok (.invokestatic 64, 3) := by decide +kernel
theorem d_X_waste_18 : decode b_X_waste 18 = .ok (.iload 4, 2) := by decide +kernel
theorem d_X_waste_20 : decode b_X_waste 20 = .ok (.iconst 1, 1) := by decide +kernel
theorem d_X_waste_21 : decode b_X_waste 21 = .ok (.sipush 9999, 3) := by decide +kernel
theorem d_X_waste_24 : decode b_X_waste 24 = .ok (.invokestatic 64, 3) := by decide +kernel
theorem d_X_waste_27 : decode b_X_waste 27 = .ok (.aload_n 0, 1) := by decide +kernel
theorem d_X_waste_28 : decode b_X_waste 28 = .ok (.iload_n 1, 1) := by decide +kernel
theorem d_X_waste_29 : decode b_X_waste 29 = .ok (.iload_n 2, 1) := by decide +kernel
theorem d_X_waste_30 : decode b_X_waste 30 = .ok (.iload_n 3, 1) := by decide +kernel
theorem d_X_waste_31 : decode b_X_waste 31 = .ok (.invokevirtual 97, 3) := by decide +kernel
theorem d_X_waste_34 : decode b_X_waste 34 = .ok (.aload_n 0, 1) := by decide +kernel
theorem d_X_waste_35 : decode b_X_waste 35 = .ok (.iload_n 1, 1) := by decide +kernel
theorem d_X_waste_36 : decode b_X_waste 36 = .ok (.iload_n 2, 1) := by decide +kernel
theorem d_X_waste_37 : decode b_X_waste 37 = .ok (.iload_n 3, 1) := by decide +kernel
theorem d_X_waste_38 : decode b_X_waste 38 = .ok (.ineg, 1) := by decide +kernel
theorem d_X_waste_39 : decode b_X_waste 39 = .ok (.invokevirtual 85, 3) := by decide +kernel
theorem d_X_waste_42 : decode b_X_waste 42 = .ok (.aload_n 0, 1) := by decide +kernel
theorem d_X_waste_43 : decode b_X_waste 43 = .ok (.getfield 14, 3) := by decide +kernel
theorem d_X_waste_46 : decode b_X_waste 46 = .ok (.iload_n 2, 1) := by decide +kernel
theorem d_X_waste_47 : decode b_X_waste 47 = .ok (.iconst 3, 1) := by decide +kernel
theorem d_X_waste_48 : decode b_X_waste 48 = .ok (.aload_n 0, 1) := by decide +kernel
theorem d_X_waste_49 : decode b_X_waste 49 = .ok (.getfield 14, 3) := by decide +kernel
theorem d_X_waste_52 : decode b_X_waste 52 = .ok (.iload_n 2, 1) := by decide +kernel
theorem d_X_waste_53 : decode b_X_waste 53 = .ok (.iconst 3, 1) := by decide +kernel
theorem d_X_waste_54 : decode b_X_waste 54 = .ok (.invokevirtual 142, 3) := by decide +kernel
theorem d_X_waste_57 : decode b_X_waste 57 = .ok (.iload_n 3, 1) := by decide +kernel
theorem d_X_waste_58 : decode b_X_waste 58 = .ok (.iadd, 1) := by decide +kernel
theorem d_X_waste_59 : decode b_X_waste 59 = .ok (.invokevirtual 149, 3) := by decide +kernel
theorem d_X_waste_62 : decode b_X_waste 62 = .ok (.aload_n 0, 1) := by decide +kernel
theorem d_X_waste_63 : decode b_X_waste 63 = .ok (.getfield 14, 3) := by decide +kernel
theorem d_X_waste_66 : decode b_X_waste 66 = .ok (.iload_n 2, 1) := by decide +kernel
theorem d_X_waste_67 : decode b_X_waste 67 = .ok (.iconst 4, 1) := by decide +kernel
theorem d_X_waste_68 : decode b_X_waste 68 = .ok (.iload 4, 2) := by decide +kernel
theorem d_X_waste_70 : decode b_X_waste 70 = .ok (.invokevirtual 149, 3) := by decide +kernel
theorem d_X_waste_73 : decode b_X_waste 73 = .ok (.aload_n 0, 1) := by decide +kernel
theorem d_X_waste_74 : decode b_X_waste 74 = .ok (.getfield 14, 3) := by decide +kernel
theorem d_X_waste_77 : decode b_X_waste 77 = .ok (.iload_n 2, 1) := by decide +kernel
theorem d_X_waste_78 : decode b_X_waste 78 = .ok (.iconst 3, 1) := by decide +kernel
theorem d_X_waste_79 : decode b_X_waste 79 = .ok (.invokevirtual 142, 3) := by decide +kernel
theorem d_X_waste_82 : decode b_X_waste 82 = .ok (.ireturn, 1) := by decide +kernel
theorem d_X_lotAt_0 : decode b_X_lotAt 0 = .ok (.aload_n 0, 1) := by decide +kernel
theorem d_X_lotAt_1 : decode b_X_lotAt 1 = .ok (.iload_n 1, 1) := by decide +kernel
theorem d_X_lotAt_2 : decode b_X_lotAt 2 = .ok (.invokevirtual 79, 3) := by decide +kernel
theorem d_X_lotAt_5 : decode b_X_lotAt 5 = .ok (.iload_n 2, 1) := by decide +kernel
theorem d_X_lotAt_6 : decode b_X_lotAt 6 = .ok (.iconst 5, 1) := by decide +kernel
theorem d_X_lotAt_7 : decode b_X_lotAt 7 = .ok (.if_icmp .ne 9, 3) := by decide +kernel
theorem d_X_lotAt_10 : decode b_X_lotAt 10 = .ok (.aload_n 0, 1) := by decide +kernel
theorem d_X_lotAt_11 : decode b_X_lotAt 11 = .ok (.iload_n 1, 1) := by decide +kernel
theorem d_X_lotAt_12 : decode b_X_lotAt 12 = .ok (.invokevirtual 178, 3) := by decide +kernel
theorem d_X_lotAt_15 : decode b_X_lotAt 15 = .ok (.ireturn, 1) := by decide +kernel
theorem d_X_lotAt_16 : decode b_X_lotAt 16 = .ok (.aload_n 0, 1) := by decide +kernel
theorem d_X_lotAt_17 : decode b_X_lotAt 17 = .ok (.getfield 14, 3) := by decide +kernel
theorem d_X_lotAt_20 : decode b_X_lotAt 20 = .ok (.iload_n 1, 1) := by decide +kernel
theorem d_X_lotAt_21 : decode b_X_lotAt 21 = .ok (.iload_n 2, 1) := by decide +kernel
theorem d_X_lotAt_22 : decode b_X_lotAt 22 = .ok (.invokestatic 134, 3) := by decide +kernel
theorem d_X_lotAt_25 : decode b_X_lotAt 25 = .ok (.ireturn, 1) := by decide +kernel
theorem d_X_row_0 : decode b_X_row 0 = .ok (.iload_n 1, 1) := by decide +kernel
theorem d_X_row_1 : decode b_X_row 1 = .ok (.iconst 0, 1) := by decide +kernel
theorem d_X_row_2 : decode b_X_row 2 = .ok (.ldc 182, 2) := by decide +kernel
theorem d_X_row_4 : decode b_X_row 4 = .ok (.invokestatic 64, 3) := by decide +kernel
theorem d_X_row_7 : decode b_X_row 7 = .ok (.iload_n 2, 1) := by decide +kernel
theorem d_X_row_8 : decode b_X_row 8 = .ok (.iconst 0, 1) := by decide +kernel
theorem d_X_row_9 : decode b_X_row 9 = .ok (.ldc 182, 2) := by decide +kernel
theorem d_X_row_11 : decode b_X_row 11 = .ok (.invokestatic 64, 3) := by decide +kernel
theorem d_X_row_14 : decode b_X_row 14 = .ok (.aload_n 0, 1) := by decide +kernel
theorem d_X_row_15 : decode b_X_row 15 = .ok (.getfield 33, 3) := by decide +kernel
theorem d_X_row_18 : decode b_X_row 18 = .ok (.iload_n 1, 1) := by decide +kernel
theorem d_X_row_19 : decode b_X_row 19 = .ok (.iload_n 2, 1) := by decide +kernel
theorem d_X_row_20 : decode b_X_row 20 = .ok (.invokevirtual 183, 3) := by decide +kernel
theorem d_X_row_23 : decode b_X_row 23 = .ok (.ifCond .ne 13, 3) := by decide +kernel
theorem d_X_row_26 : decode b_X_row 26 = .ok (.new 110, 3) := by decide +kernel
theorem d_X_row_29 : decode b_X_row 29 = .ok (.dup, 1) := by decide +kernel
theorem d_X_row_30 : decode b_X_row 30 = .ok (.ldc 187, 2) := by decide +kernel
theorem d_X_row_32 : decode b_X_row 32 = .ok (.invokespecial 114, 3) := by decide +kernel
theorem d_X_row_35 : decode b_X_row 35 = .ok (.athrow, 1) := by decide +kernel
theorem d_X_row_36 : decode b_X_row 36 = .ok (.aload_n 0, 1) := by decide +kernel
theorem d_X_row_37 : decode b_X_row 37 = .ok (.getfield 33, 3) := by decide +kernel
theorem d_X_row_40 : decode b_X_row 40 = .ok (.invokevirtual 189, 3) := by decide +kernel
theorem d_X_row_43 : decode b_X_row 43 = .ok (.ifCond .eq 13, 3) := by decide +kernel
theorem d_X_row_46 : decode b_X_row 46 = .ok (.new 54, 3) := by decide +kernel
theorem d_X_row_49 : decode b_X_row 49 = .ok (.dup, 1) := by decide +kernel
theorem d_X_row_50 : decode b_X_row 50 = .ok (.ldc 193, 2) := by decide +kernel
theorem d_X_row_52 : decode b_X_row 52 = .ok (.invokespecial 58, 3) := by decide +kernel
theorem d_X_row_55 : decode b_X_row 55 = .ok (.athrow, 1) := by decide +kernel
theorem d_X_row_56 : decode b_X_row 56 = .ok (.aload_n 0, 1) := by decide +kernel
theorem d_X_row_57 : decode b_X_row 57 = .ok (.getfield 33, 3) := by decide +kernel
theorem d_X_row_60 : decode b_X_row 60 = .ok (.iload_n 1, 1) := by decide +kernel
theorem d_X_row_61 : decode b_X_row 61 = .ok (.iload_n 2, 1) := by decide +kernel
theorem d_X_row_62 : decode b_X_row 62 = .ok (.invokevirtual 195, 3) := by decide +kernel
theorem d_X_row_65 : decode b_X_row 65 = .ok (.ireturn, 1) := by decide +kernel
theorem d_X_dip_0 : decode b_X_dip 0 = .ok (.iload_n 1, 1) := by decide +kernel
theorem d_X_dip_1 : decode b_X_dip 1 = .ok (.iconst 0, 1) := by decide +kernel
theorem d_X_dip_2 : decode b_X_dip 2 = .ok (.ldc 182, 2) := by decide +kernel
theorem d_X_dip_4 : decode b_X_dip 4 = .ok (.invokestatic 64, 3) := by decide +kernel
theorem d_X_dip_7 : decode b_X_dip 7 = .ok (.aload_n 0, 1) := by decide +kernel
theorem d_X_dip_8 : decode b_X_dip 8 = .ok (.getfield 33, 3) := by decide +kernel
theorem d_X_dip_11 : decode b_X_dip 11 = .ok (.iload_n 1, 1) := by decide +kernel
theorem d_X_dip_12 : decode b_X_dip 12 = .ok (.invokevirtual 197, 3) := by decide +kernel
theorem d_X_dip_15 : decode b_X_dip 15 = .ok (.ireturn, 1) := by decide +kernel
theorem d_X_tick_0 : decode b_X_tick 0 = .ok (.iload_n 1, 1) := by decide +kernel
theorem d_X_tick_1 : decode b_X_tick 1 = .ok (.iconst 1, 1) := by decide +kernel
theorem d_X_tick_2 : decode b_X_tick 2 = .ok (.sipush 1000, 3) := by decide +kernel
theorem d_X_tick_5 : decode b_X_tick 5 = .ok (.invokestatic 64, 3) := by decide +kernel
theorem d_X_tick_8 : decode b_X_tick 8 = .ok (.aload_n 0, 1) := by decide +kernel
theorem d_X_tick_9 : decode b_X_tick 9 = .ok (.getfield 100, 3) := by decide +kernel
theorem d_X_tick_12 : decode b_X_tick 12 = .ok (.iload_n 1, 1) := by decide +kernel
theorem d_X_tick_13 : decode b_X_tick 13 = .ok (.iadd, 1) := by decide +kernel
theorem d_X_tick_14 : decode b_X_tick 14 = .ok (.iconst 0, 1) := by decide +kernel
theorem d_X_tick_15 : decode b_X_tick 15 = .ok (.sipush 9999, 3) := by decide +kernel
theorem d_X_tick_18 : decode b_X_tick 18 = .ok (.invokestatic 64, 3) := by decide +kernel
theorem d_X_tick_21 : decode b_X_tick 21 = .ok (.aload_n 0, 1) := by decide +kernel
theorem d_X_tick_22 : decode b_X_tick 22 = .ok (.dup, 1) := by decide +kernel
theorem d_X_tick_23 : decode b_X_tick 23 = .ok (.getfield 100, 3) := by decide +kernel
theorem d_X_tick_26 : decode b_X_tick 26 = .ok (.iload_n 1, 1) := by decide +kernel
theorem d_X_tick_27 : decode b_X_tick 27 = .ok (.iadd, 1) := by decide +kernel
theorem d_X_tick_28 : decode b_X_tick 28 = .ok (.putfield 100, 3) := by decide +kernel
theorem d_X_tick_31 : decode b_X_tick 31 = .ok (.iconst 0, 1) := by decide +kernel
theorem d_X_tick_32 : decode b_X_tick 32 = .ok (.istore_n 2, 1) := by decide +kernel
theorem d_X_tick_33 : decode b_X_tick 33 = .ok (.iconst 0, 1) := by decide +kernel
theorem d_X_tick_34 : decode b_X_tick 34 = .ok (.istore_n 3, 1) := by decide +kernel
theorem d_X_tick_35 : decode b_X_tick 35 = .ok (.iload_n 3, 1) := by decide +kernel
theorem d_X_tick_36 : decode b_X_tick 36 = .ok (.aload_n 0, 1) := by decide +kernel
theorem d_X_tick_37 : decode b_X_tick 37 = .ok (.getfield 18, 3) := by decide +kernel
theorem d_X_tick_40 : decode b_X_tick 40 = .ok (.invokevirtual 126, 3) := by decide +kernel
theorem d_X_tick_43 : decode b_X_tick 43 = .ok (.if_icmp .ge 46, 3) := by decide +kernel
theorem d_X_tick_46 : decode b_X_tick 46 = .ok (.aload_n 0, 1) := by decide +kernel
theorem d_X_tick_47 : decode b_X_tick 47 = .ok (.getfield 18, 3) := by decide +kernel
theorem d_X_tick_50 : decode b_X_tick 50 = .ok (.iload_n 3, 1) := by decide +kernel
theorem d_X_tick_51 : decode b_X_tick 51 = .ok (.iconst 4, 1) := by decide +kernel
end
section
theorem d_X_tick_52 : decode b_X_tick 52 = .ok (.invokevirtual 142, 3) := by decide +kernel
theorem d_X_tick_55 : decode b_X_tick 55 = .ok (.iconst 1, 1) := by decide +kernel
theorem d_X_tick_56 : decode b_X_tick 56 = .ok (.if_icmp .ne 27, 3) := by decide +kernel
theorem d_X_tick_59 : decode b_X_tick 59 = .ok (.aload_n 0, 1) := by decide +kernel
theorem d_X_tick_60 : decode b_X_tick 60 = .ok (.getfield 18, 3) := by decide +kernel
theorem d_X_tick_63 : decode b_X_tick 63 = .ok (.iload_n 3, 1) := by decide +kernel
theorem d_X_tick_64 : decode b_X_tick 64 = .ok (.iconst 3, 1) := by decide +kernel
theorem d_X_tick_65 : decode b_X_tick 65 = .ok (.invokevirtual 142, 3) := by decide +kernel
theorem d_X_tick_68 : decode b_X_tick 68 = .ok (.aload_n 0, 1) := by decide +kernel
theorem d_X_tick_69 : decode b_X_tick 69 = .ok (.getfield 100, 3) := by decide +kernel
theorem d_X_tick_72 : decode b_X_tick 72 = .ok (.if_icmp .gt 11, 3) := by decide +kernel
theorem d_X_tick_75 : decode b_X_tick 75 = .ok (.aload_n 0, 1) := by decide +kernel
theorem d_X_tick_76 : decode b_X_tick 76 = .ok (.iload_n 3, 1) := by decide +kernel
theorem d_X_tick_77 : decode b_X_tick 77 = .ok (.invokevirtual 103, 3) := by decide +kernel
theorem d_X_tick_80 : decode b_X_tick 80 = .ok (.iinc 2 1, 3) := by decide +kernel
theorem d_X_tick_83 : decode b_X_tick 83 = .ok (.iinc 3 1, 3) := by decide +kernel
theorem d_X_tick_86 : decode b_X_tick 86 = .ok (.goto (-51), 3) := by decide +kernel
theorem d_X_tick_89 : decode b_X_tick 89 = .ok (.iload_n 2, 1) := by decide +kernel
theorem d_X_tick_90 : decode b_X_tick 90 = .ok (.ireturn, 1) := by decide +kernel
theorem d_X_needStore_0 : decode b_X_needStore 0 = .ok (.iload_n 1, 1) := by decide +kernel
theorem d_X_needStore_1 : decode b_X_needStore 1 = .ok (.ifCond .lt 11, 3) := by decide +kernel
theorem d_X_needStore_4 : decode b_X_needStore 4 = .ok (.iload_n 1, 1) := by decide +kernel
theorem d_X_needStore_5 : decode b_X_needStore 5 = .ok (.aload_n 0, 1) := by decide +kernel
theorem d_X_needStore_6 : decode b_X_needStore 6 = .ok (.getfield 50, 3) := by decide +kernel
theorem d_X_needStore_9 : decode b_X_needStore 9 = .ok (.if_icmp .lt 13, 3) := by decide +kernel
theorem d_X_needStore_12 : decode b_X_needStore 12 = .ok (.new 92, 3) := by decide +kernel
theorem d_X_needStore_15 : decode b_X_needStore 15 = .ok (.dup, 1) := by decide +kernel
theorem d_X_needStore_16 : decode b_X_needStore 16 = .ok (.ldc 200, 2) := by decide +kernel
theorem d_X_needStore_18 : decode b_X_needStore 18 = .ok (.invokespecial 96, 3) := by decide +kernel
theorem d_X_needStore_21 : decode b_X_needStore 21 = .ok (.athrow, 1) := by decide +kernel
theorem d_X_needStore_22 : decode b_X_needStore 22 = .ok (.return_, 1) := by decide +kernel
theorem d_X_needLot_0 : decode b_X_needLot 0 = .ok (.aload_n 0, 1) := by decide +kernel
theorem d_X_needLot_1 : decode b_X_needLot 1 = .ok (.getfield 14, 3) := by decide +kernel
theorem d_X_needLot_4 : decode b_X_needLot 4 = .ok (.iload_n 1, 1) := by decide +kernel
theorem d_X_needLot_5 : decode b_X_needLot 5 = .ok (.invokestatic 138, 3) := by decide +kernel
theorem d_X_needLot_8 : decode b_X_needLot 8 = .ok (.return_, 1) := by decide +kernel
theorem d_X_needRow_0 : decode b_X_needRow 0 = .ok (.aload_n 0, 1) := by decide +kernel
theorem d_X_needRow_1 : decode b_X_needRow 1 = .ok (.iload_n 1, 1) := by decide +kernel
theorem d_X_needRow_2 : decode b_X_needRow 2 = .ok (.invokevirtual 202, 3) := by decide +kernel
theorem d_X_needRow_5 : decode b_X_needRow 5 = .ok (.ifCond .ne 13, 3) := by decide +kernel
theorem d_X_needRow_8 : decode b_X_needRow 8 = .ok (.new 92, 3) := by decide +kernel
theorem d_X_needRow_11 : decode b_X_needRow 11 = .ok (.dup, 1) := by decide +kernel
theorem d_X_needRow_12 : decode b_X_needRow 12 = .ok (.ldc 205, 2) := by decide +kernel
theorem d_X_needRow_14 : decode b_X_needRow 14 = .ok (.invokespecial 96, 3) := by decide +kernel
theorem d_X_needRow_17 : decode b_X_needRow 17 = .ok (.athrow, 1) := by decide +kernel
theorem d_X_needRow_18 : decode b_X_needRow 18 = .ok (.return_, 1) := by decide +kernel
theorem d_X_needKind_0 : decode b_X_needKind 0 = .ok (.iload_n 0, 1) := by decide +kernel
theorem d_X_needKind_1 : decode b_X_needKind 1 = .ok (.ifCond .lt 9, 3) := by decide +kernel
theorem d_X_needKind_4 : decode b_X_needKind 4 = .ok (.iload_n 0, 1) := by decide +kernel
theorem d_X_needKind_5 : decode b_X_needKind 5 = .ok (.bipush 10, 2) := by decide +kernel
theorem d_X_needKind_7 : decode b_X_needKind 7 = .ok (.if_icmp .lt 13, 3) := by decide +kernel
theorem d_X_needKind_10 : decode b_X_needKind 10 = .ok (.new 92, 3) := by decide +kernel
theorem d_X_needKind_13 : decode b_X_needKind 13 = .ok (.dup, 1) := by decide +kernel
theorem d_X_needKind_14 : decode b_X_needKind 14 = .ok (.ldc 207, 2) := by decide +kernel
theorem d_X_needKind_16 : decode b_X_needKind 16 = .ok (.invokespecial 96, 3) := by decide +kernel
theorem d_X_needKind_19 : decode b_X_needKind 19 = .ok (.athrow, 1) := by decide +kernel
theorem d_X_needKind_20 : decode b_X_needKind 20 = .ok (.return_, 1) := by decide +kernel
theorem d_X_needPerson_0 : decode b_X_needPerson 0 = .ok (.iload_n 0, 1) := by decide +kernel
theorem d_X_needPerson_1 : decode b_X_needPerson 1 = .ok (.ifCond .lt 9, 3) := by decide +kernel
theorem d_X_needPerson_4 : decode b_X_needPerson 4 = .ok (.iload_n 0, 1) := by decide +kernel
theorem d_X_needPerson_5 : decode b_X_needPerson 5 = .ok (.bipush 20, 2) := by decide +kernel
theorem d_X_needPerson_7 : decode b_X_needPerson 7 = .ok (.if_icmp .lt 13, 3) := by decide +kernel
theorem d_X_needPerson_10 : decode b_X_needPerson 10 = .ok (.new 92, 3) := by decide +kernel
theorem d_X_needPerson_13 : decode b_X_needPerson 13 = .ok (.dup, 1) := by decide +kernel
theorem d_X_needPerson_14 : decode b_X_needPerson 14 = .ok (.ldc 209, 2) := by decide +kernel
theorem d_X_needPerson_16 : decode b_X_needPerson 16 = .ok (.invokespecial 96, 3) := by decide +kernel
theorem d_X_needPerson_19 : decode b_X_needPerson 19 = .ok (.athrow, 1) := by decide +kernel
theorem d_X_needPerson_20 : decode b_X_needPerson 20 = .ok (.return_, 1) := by decide +kernel
theorem d_X_needKit_0 : decode b_X_needKit 0 = .ok (.iload_n 0, 1) := by decide +kernel
theorem d_X_needKit_1 : decode b_X_needKit 1 = .ok (.ifCond .lt 8, 3) := by decide +kernel
theorem d_X_needKit_4 : decode b_X_needKit 4 = .ok (.iload_n 0, 1) := by decide +kernel
theorem d_X_needKit_5 : decode b_X_needKit 5 = .ok (.iconst 5, 1) := by decide +kernel
theorem d_X_needKit_6 : decode b_X_needKit 6 = .ok (.if_icmp .lt 13, 3) := by decide +kernel
theorem d_X_needKit_9 : decode b_X_needKit 9 = .ok (.new 92, 3) := by decide +kernel
theorem d_X_needKit_12 : decode b_X_needKit 12 = .ok (.dup, 1) := by decide +kernel
theorem d_X_needKit_13 : decode b_X_needKit 13 = .ok (.ldc 211, 2) := by decide +kernel
theorem d_X_needKit_15 : decode b_X_needKit 15 = .ok (.invokespecial 96, 3) := by decide +kernel
theorem d_X_needKit_18 : decode b_X_needKit 18 = .ok (.athrow, 1) := by decide +kernel
theorem d_X_needKit_19 : decode b_X_needKit 19 = .ok (.return_, 1) := by decide +kernel
theorem d_X_needRange_0 : decode b_X_needRange 0 = .ok (.iload_n 0, 1) := by decide +kernel
theorem d_X_needRange_1 : decode b_X_needRange 1 = .ok (.iload_n 1, 1) := by decide +kernel
theorem d_X_needRange_2 : decode b_X_needRange 2 = .ok (.if_icmp .lt 8, 3) := by decide +kernel
theorem d_X_needRange_5 : decode b_X_needRange 5 = .ok (.iload_n 0, 1) := by decide +kernel
theorem d_X_needRange_6 : decode b_X_needRange 6 = .ok (.iload_n 2, 1) := by decide +kernel
theorem d_X_needRange_7 : decode b_X_needRange 7 = .ok (.if_icmp .le 13, 3) := by decide +kernel
theorem d_X_needRange_10 : decode b_X_needRange 10 = .ok (.new 213, 3) := by decide +kernel
theorem d_X_needRange_13 : decode b_X_needRange 13 = .ok (.dup, 1) := by decide +kernel
theorem d_X_needRange_14 : decode b_X_needRange 14 = .ok (.ldc 215, 2) := by decide +kernel
theorem d_X_needRange_16 : decode b_X_needRange 16 = .ok (.invokespecial 217, 3) := by decide +kernel
theorem d_X_needRange_19 : decode b_X_needRange 19 = .ok (.athrow, 1) := by decide +kernel
theorem d_X_needRange_20 : decode b_X_needRange 20 = .ok (.return_, 1) := by decide +kernel
theorem d_X_needThere_0 : decode b_X_needThere 0 = .ok (.aload_n 0, 1) := by decide +kernel
theorem d_X_needThere_1 : decode b_X_needThere 1 = .ok (.getfield 37, 3) := by decide +kernel
theorem d_X_needThere_4 : decode b_X_needThere 4 = .ok (.iload_n 1, 1) := by decide +kernel
theorem d_X_needThere_5 : decode b_X_needThere 5 = .ok (.iload_n 2, 1) := by decide +kernel
theorem d_X_needThere_6 : decode b_X_needThere 6 = .ok (.invokestatic 88, 3) := by decide +kernel
theorem d_X_needThere_9 : decode b_X_needThere 9 = .ok (.iaload, 1) := by decide +kernel
theorem d_X_needThere_10 : decode b_X_needThere 10 = .ok (.iload_n 3, 1) := by decide +kernel
theorem d_X_needThere_11 : decode b_X_needThere 11 = .ok (.if_icmp .ge 13, 3) := by decide +kernel
theorem d_X_needThere_14 : decode b_X_needThere 14 = .ok (.new 110, 3) := by decide +kernel
theorem d_X_needThere_17 : decode b_X_needThere 17 = .ok (.dup, 1) := by decide +kernel
theorem d_X_needThere_18 : decode b_X_needThere 18 = .ok (.ldc 218, 2) := by decide +kernel
theorem d_X_needThere_20 : decode b_X_needThere 20 = .ok (.invokespecial 114, 3) := by decide +kernel
theorem d_X_needThere_23 : decode b_X_needThere 23 = .ok (.athrow, 1) := by decide +kernel
theorem d_X_needThere_24 : decode b_X_needThere 24 = .ok (.return_, 1) := by decide +kernel
theorem d_X_needPlace_0 : decode b_X_needPlace 0 = .ok (.aload_n 0, 1) := by decide +kernel
theorem d_X_needPlace_1 : decode b_X_needPlace 1 = .ok (.getfield 37, 3) := by decide +kernel
theorem d_X_needPlace_4 : decode b_X_needPlace 4 = .ok (.iload_n 1, 1) := by decide +kernel
theorem d_X_needPlace_5 : decode b_X_needPlace 5 = .ok (.iload_n 2, 1) := by decide +kernel
theorem d_X_needPlace_6 : decode b_X_needPlace 6 = .ok (.invokestatic 88, 3) := by decide +kernel
theorem d_X_needPlace_9 : decode b_X_needPlace 9 = .ok (.iaload, 1) := by decide +kernel
theorem d_X_needPlace_10 : decode b_X_needPlace 10 = .ok (.iload_n 3, 1) := by decide +kernel
theorem d_X_needPlace_11 : decode b_X_needPlace 11 = .ok (.iadd, 1) := by decide +kernel
theorem d_X_needPlace_12 : decode b_X_needPlace 12 = .ok (.sipush 9999, 3) := by decide +kernel
theorem d_X_needPlace_15 : decode b_X_needPlace 15 = .ok (.if_icmp .le 13, 3) := by decide +kernel
theorem d_X_needPlace_18 : decode b_X_needPlace 18 = .ok (.new 54, 3) := by decide +kernel
theorem d_X_needPlace_21 : decode b_X_needPlace 21 = .ok (.dup, 1) := by decide +kernel
theorem d_X_needPlace_22 : decode b_X_needPlace 22 = .ok (.ldc 220, 2) := by decide +kernel
theorem d_X_needPlace_24 : decode b_X_needPlace 24 = .ok (.invokespecial 58, 3) := by decide +kernel
theorem d_X_needPlace_27 : decode b_X_needPlace 27 = .ok (.athrow, 1) := by decide +kernel
theorem d_X_needPlace_28 : decode b_X_needPlace 28 = .ok (.return_, 1) := by decide +kernel
theorem d_X_needRoom_0 : decode b_X_needRoom 0 = .ok (.aload_n 0, 1) := by decide +kernel
theorem d_X_needRoom_1 : decode b_X_needRoom 1 = .ok (.invokevirtual 222, 3) := by decide +kernel
theorem d_X_needRoom_4 : decode b_X_needRoom 4 = .ok (.ifCond .eq 13, 3) := by decide +kernel
theorem d_X_needRoom_7 : decode b_X_needRoom 7 = .ok (.new 54, 3) := by decide +kernel
theorem d_X_needRoom_10 : decode b_X_needRoom 10 = .ok (.dup, 1) := by decide +kernel
theorem d_X_needRoom_11 : decode b_X_needRoom 11 = .ok (.ldc 223, 2) := by decide +kernel
theorem d_X_needRoom_13 : decode b_X_needRoom 13 = .ok (.invokespecial 58, 3) := by decide +kernel
theorem d_X_needRoom_16 : decode b_X_needRoom 16 = .ok (.athrow, 1) := by decide +kernel
theorem d_X_needRoom_17 : decode b_X_needRoom 17 = .ok (.return_, 1) := by decide +kernel
theorem d_X_cell_0 : decode b_X_cell 0 = .ok (.aload_n 0, 1) := by decide +kernel
theorem d_X_cell_1 : decode b_X_cell 1 = .ok (.iload_n 1, 1) := by decide +kernel
theorem d_X_cell_2 : decode b_X_cell 2 = .ok (.invokestatic 138, 3) := by decide +kernel
theorem d_X_cell_5 : decode b_X_cell 5 = .ok (.aload_n 0, 1) := by decide +kernel
theorem d_X_cell_6 : decode b_X_cell 6 = .ok (.iload_n 2, 1) := by decide +kernel
theorem d_X_cell_7 : decode b_X_cell 7 = .ok (.invokevirtual 225, 3) := by decide +kernel
theorem d_X_cell_10 : decode b_X_cell 10 = .ok (.ifCond .ne 13, 3) := by decide +kernel
theorem d_X_cell_13 : decode b_X_cell 13 = .ok (.new 92, 3) := by decide +kernel
theorem d_X_cell_16 : decode b_X_cell 16 = .ok (.dup, 1) := by decide +kernel
theorem d_X_cell_17 : decode b_X_cell 17 = .ok (.ldc 121, 2) := by decide +kernel
theorem d_X_cell_19 : decode b_X_cell 19 = .ok (.invokespecial 96, 3) := by decide +kernel
theorem d_X_cell_22 : decode b_X_cell 22 = .ok (.athrow, 1) := by decide +kernel
theorem d_X_cell_23 : decode b_X_cell 23 = .ok (.aload_n 0, 1) := by decide +kernel
theorem d_X_cell_24 : decode b_X_cell 24 = .ok (.iload_n 1, 1) := by decide +kernel
theorem d_X_cell_25 : decode b_X_cell 25 = .ok (.iload_n 2, 1) := by decide +kernel
theorem d_X_cell_26 : decode b_X_cell 26 = .ok (.invokevirtual 142, 3) := by decide +kernel
theorem d_X_cell_29 : decode b_X_cell 29 = .ok (.ireturn, 1) := by decide +kernel
theorem d_X_place_0 : decode b_X_place 0 = .ok (.iload_n 0, 1) := by decide +kernel
theorem d_X_place_1 : decode b_X_place 1 = .ok (.bipush 60, 2) := by decide +kernel
theorem d_X_place_3 : decode b_X_place 3 = .ok (.imul, 1) := by decide +kernel
theorem d_X_place_4 : decode b_X_place 4 = .ok (.iload_n 1, 1) := by decide +kernel
theorem d_X_place_5 : decode b_X_place 5 = .ok (.iadd, 1) := by decide +kernel
theorem d_X_place_6 : decode b_X_place 6 = .ok (.ireturn, 1) := by decide +kernel
theorem d_X_pair_0 : decode b_X_pair 0 = .ok (.iload_n 0, 1) := by decide +kernel
theorem d_X_pair_1 : decode b_X_pair 1 = .ok (.bipush 10, 2) := by decide +kernel
theorem d_X_pair_3 : decode b_X_pair 3 = .ok (.imul, 1) := by decide +kernel
theorem d_X_pair_4 : decode b_X_pair 4 = .ok (.iload_n 1, 1) := by decide +kernel
theorem d_X_pair_5 : decode b_X_pair 5 = .ok (.iadd, 1) := by decide +kernel
theorem d_X_pair_6 : decode b_X_pair 6 = .ok (.ireturn, 1) := by decide +kernel
theorem d_X_change_0 : decode b_X_change 0 = .ok (.aload_n 0, 1) := by decide +kernel
theorem d_X_change_1 : decode b_X_change 1 = .ok (.getfield 37, 3) := by decide +kernel
theorem d_X_change_4 : decode b_X_change 4 = .ok (.iload_n 1, 1) := by decide +kernel
theorem d_X_change_5 : decode b_X_change 5 = .ok (.iload_n 2, 1) := by decide +kernel
theorem d_X_change_6 : decode b_X_change 6 = .ok (.invokestatic 88, 3) := by decide +kernel
theorem d_X_change_9 : decode b_X_change 9 = .ok (.dup2, 1) := by decide +kernel
theorem d_X_change_10 : decode b_X_change 10 = .ok (.iaload, 1) := by decide +kernel
theorem d_X_change_11 : decode b_X_change 11 = .ok (.iload_n 3, 1) := by decide +kernel
theorem d_X_change_12 : decode b_X_change 12 = .ok (.iadd, 1) := by decide +kernel
theorem d_X_change_13 : decode b_X_change 13 = .ok (.iastore, 1) := by decide +kernel
theorem d_X_change_14 : decode b_X_change 14 = .ok (.return_, 1) := by decide +kernel
theorem d_X_addUpToMost_0 : decode b_X_addUpToMost 0 = .ok (.iload_n 1, 1) := by decide +kernel
theorem d_X_addUpToMost_1 : decode b_X_addUpToMost 1 = .ok (.iload_n 2, 1) := by decide +kernel
theorem d_X_addUpToMost_2 : decode b_X_addUpToMost 2 = .ok (.invokestatic 88, 3) := by decide +kernel
theorem d_X_addUpToMost_5 : decode b_X_addUpToMost 5 = .ok (.istore 4, 2) := by decide +kernel
theorem d_X_addUpToMost_7 : decode b_X_addUpToMost 7 = .ok (.aload_n 0, 1) := by decide +kernel
theorem d_X_addUpToMost_8 : decode b_X_addUpToMost 8 = .ok (.getfield 37, 3) := by decide +kernel
theorem d_X_addUpToMost_11 : decode b_X_addUpToMost 11 = .ok (.iload 4, 2) := by decide +kernel
theorem d_X_addUpToMost_13 : decode b_X_addUpToMost 13 = .ok (.sipush 9999, 3) := by decide +kernel
theorem d_X_addUpToMost_16 : decode b_X_addUpToMost 16 = .ok (.aload_n 0, 1) := by decide +kernel
theorem d_X_addUpToMost_17 : decode b_X_addUpToMost 17 = .ok (.getfield 37, 3) := by decide +kernel
theorem d_X_addUpToMost_20 : decode b_X_addUpToMost 20 = .ok (.iload 4, 2) := by decide +kernel
theorem d_X_addUpToMost_22 : decode b_X_addUpToMost 22 = .ok (.iaload, 1) := by decide +kernel
theorem d_X_addUpToMost_23 : decode b_X_addUpToMost 23 = .ok (.iload_n 3, 1) := by decide +kernel
theorem d_X_addUpToMost_24 : decode b_X_addUpToMost 24 = .ok (.iadd, 1) := by decide +kernel
theorem d_X_addUpToMost_25 : decode b_X_addUpToMost 25 = .ok (.invokestatic 228, 3) := by decide +kernel
theorem d_X_addUpToMost_28 : decode b_X_addUpToMost 28 = .ok (.iastore, 1) := by decide +kernel
theorem d_X_addUpToMost_29 : decode b_X_addUpToMost 29 = .ok (.return_, 1) := by decide +kernel
theorem d_X_arrive_0 : decode b_X_arrive 0 = .ok (.aload_n 0, 1) := by decide +kernel
theorem d_X_arrive_1 : decode b_X_arrive 1 = .ok (.getfield 18, 3) := by decide +kernel
theorem d_X_arrive_4 : decode b_X_arrive 4 = .ok (.iload_n 1, 1) := by decide +kernel
theorem d_X_arrive_5 : decode b_X_arrive 5 = .ok (.iconst 4, 1) := by decide +kernel
theorem d_X_arrive_6 : decode b_X_arrive 6 = .ok (.iconst 0, 1) := by decide +kernel
theorem d_X_arrive_7 : decode b_X_arrive 7 = .ok (.invokevirtual 149, 3) := by decide +kernel
theorem d_X_arrive_10 : decode b_X_arrive 10 = .ok (.aload_n 0, 1) := by decide +kernel
theorem d_X_arrive_11 : decode b_X_arrive 11 = .ok (.aload_n 0, 1) := by decide +kernel
theorem d_X_arrive_12 : decode b_X_arrive 12 = .ok (.getfield 18, 3) := by decide +kernel
theorem d_X_arrive_15 : decode b_X_arrive 15 = .ok (.iload_n 1, 1) := by decide +kernel
theorem d_X_arrive_16 : decode b_X_arrive 16 = .ok (.iconst 0, 1) := by decide +kernel
theorem d_X_arrive_17 : decode b_X_arrive 17 = .ok (.invokevirtual 142, 3) := by decide +kernel
theorem d_X_arrive_20 : decode b_X_arrive 20 = .ok (.aload_n 0, 1) := by decide +kernel
theorem d_X_arrive_21 : decode b_X_arrive 21 = .ok (.getfield 18, 3) := by decide +kernel
theorem d_X_arrive_24 : decode b_X_arrive 24 = .ok (.iload_n 1, 1) := by decide +kernel
theorem d_X_arrive_25 : decode b_X_arrive 25 = .ok (.iconst 1, 1) := by decide +kernel
theorem d_X_arrive_26 : decode b_X_arrive 26 = .ok (.invokevirtual 142, 3) := by decide +kernel
theorem d_X_arrive_29 : decode b_X_arrive 29 = .ok (.aload_n 0, 1) := by decide +kernel
theorem d_X_arrive_30 : decode b_X_arrive 30 = .ok (.getfield 18, 3) := by decide +kernel
theorem d_X_arrive_33 : decode b_X_arrive 33 = .ok (.iload_n 1, 1) := by decide +kernel
theorem d_X_arrive_34 : decode b_X_arrive 34 = .ok (.iconst 2, 1) := by decide +kernel
theorem d_X_arrive_35 : decode b_X_arrive 35 = .ok (.invokevirtual 142, 3) := by decide +kernel
theorem d_X_arrive_38 : decode b_X_arrive 38 = .ok (.invokevirtual 152, 3) := by decide +kernel
theorem d_X_arrive_41 : decode b_X_arrive 41 = .ok (.return_, 1) := by decide +kernel
theorem d_X_isGoodOn_0 : decode b_X_isGoodOn 0 = .ok (.iload_n 2, 1) := by decide +kernel
theorem d_X_isGoodOn_1 : decode b_X_isGoodOn 1 = .ok (.aload_n 0, 1) := by decide +kernel
theorem d_X_isGoodOn_2 : decode b_X_isGoodOn 2 = .ok (.getfield 14, 3) := by decide +kernel
theorem d_X_isGoodOn_5 : decode b_X_isGoodOn 5 = .ok (.iload_n 1, 1) := by decide +kernel
theorem d_X_isGoodOn_6 : decode b_X_isGoodOn 6 = .ok (.iconst 1, 1) := by decide +kernel
theorem d_X_isGoodOn_7 : decode b_X_isGoodOn 7 = .ok (.invokevirtual 142, 3) := by decide +kernel
theorem d_X_isGoodOn_10 : decode b_X_isGoodOn 10 = .ok (.if_icmp .gt 7, 3) := by decide +kernel
theorem d_X_isGoodOn_13 : decode b_X_isGoodOn 13 = .ok (.iconst 1, 1) := by decide +kernel
theorem d_X_isGoodOn_14 : decode b_X_isGoodOn 14 = .ok (.goto 4, 3) := by decide +kernel
theorem d_X_isGoodOn_17 : decode b_X_isGoodOn 17 = .ok (.iconst 0, 1) := by decide +kernel
theorem d_X_isGoodOn_18 : decode b_X_isGoodOn 18 = .ok (.ireturn, 1) := by decide +kernel
theorem d_X_inStore_0 : decode b_X_inStore 0 = .ok (.iconst 0, 1) := by decide +kernel
theorem d_X_inStore_1 : decode b_X_inStore 1 = .ok (.istore 4, 2) := by decide +kernel
theorem d_X_inStore_3 : decode b_X_inStore 3 = .ok (.iconst 0, 1) := by decide +kernel
theorem d_X_inStore_4 : decode b_X_inStore 4 = .ok (.istore 5, 2) := by decide +kernel
theorem d_X_inStore_6 : decode b_X_inStore 6 = .ok (.iload 5, 2) := by decide +kernel
theorem d_X_inStore_8 : decode b_X_inStore 8 = .ok (.aload_n 0, 1) := by decide +kernel
theorem d_X_inStore_9 : decode b_X_inStore 9 = .ok (.getfield 14, 3) := by decide +kernel
theorem d_X_inStore_12 : decode b_X_inStore 12 = .ok (.invokevirtual 126, 3) := by decide +kernel
theorem d_X_inStore_15 : decode b_X_inStore 15 = .ok (.if_icmp .ge 53, 3) := by decide +kernel
theorem d_X_inStore_18 : decode b_X_inStore 18 = .ok (.aload_n 0, 1) := by decide +kernel
theorem d_X_inStore_19 : decode b_X_inStore 19 = .ok (.getfield 14, 3) := by decide +kernel
theorem d_X_inStore_22 : decode b_X_inStore 22 = .ok (.iload 5, 2) := by decide +kernel
theorem d_X_inStore_24 : decode b_X_inStore 24 = .ok (.iconst 0, 1) := by decide +kernel
theorem d_X_inStore_25 : decode b_X_inStore 25 = .ok (.invokevirtual 142, 3) := by decide +kernel
theorem d_X_inStore_28 : decode b_X_inStore 28 = .ok (.iload_n 2, 1) := by decide +kernel
theorem d_X_inStore_29 : decode b_X_inStore 29 = .ok (.if_icmp .ne 33, 3) := by decide +kernel
theorem d_X_inStore_32 : decode b_X_inStore 32 = .ok (.aload_n 0, 1) := by decide +kernel
theorem d_X_inStore_33 : decode b_X_inStore 33 = .ok (.iload 5, 2) := by decide +kernel
theorem d_X_inStore_35 : decode b_X_inStore 35 = .ok (.aload_n 0, 1) := by decide +kernel
theorem d_X_inStore_36 : decode b_X_inStore 36 = .ok (.getfield 100, 3) := by decide +kernel
theorem d_X_inStore_39 : decode b_X_inStore 39 = .ok (.invokevirtual 233, 3) := by decide +kernel
theorem d_X_inStore_42 : decode b_X_inStore 42 = .ok (.iload_n 3, 1) := by decide +kernel
theorem d_X_inStore_43 : decode b_X_inStore 43 = .ok (.if_icmp .ne 19, 3) := by decide +kernel
theorem d_X_inStore_46 : decode b_X_inStore 46 = .ok (.iload 4, 2) := by decide +kernel
theorem d_X_inStore_48 : decode b_X_inStore 48 = .ok (.aload_n 0, 1) := by decide +kernel
theorem d_X_inStore_49 : decode b_X_inStore 49 = .ok (.getfield 37, 3) := by decide +kernel
theorem d_X_inStore_52 : decode b_X_inStore 52 = .ok (.iload_n 1, 1) := by decide +kernel
theorem d_X_inStore_53 : decode b_X_inStore 53 = .ok (.iload 5, 2) := by decide +kernel
theorem d_X_inStore_55 : decode b_X_inStore 55 = .ok (.invokestatic 88, 3) := by decide +kernel
theorem d_X_inStore_58 : decode b_X_inStore 58 = .ok (.iaload, 1) := by decide +kernel
theorem d_X_inStore_59 : decode b_X_inStore 59 = .ok (.iadd, 1) := by decide +kernel
theorem d_X_inStore_60 : decode b_X_inStore 60 = .ok (.istore 4, 2) := by decide +kernel
theorem d_X_inStore_62 : decode b_X_inStore 62 = .ok (.iinc 5 1, 3) := by decide +kernel
theorem d_X_inStore_65 : decode b_X_inStore 65 = .ok (.goto (-59), 3) := by decide +kernel
theorem d_X_inStore_68 : decode b_X_inStore 68 = .ok (.iload 4, 2) := by decide +kernel
theorem d_X_inStore_70 : decode b_X_inStore 70 = .ok (.ireturn, 1) := by decide +kernel
theorem d_X_inAllStores_0 : decode b_X_inAllStores 0 = .ok (.iconst 0, 1) := by decide +kernel
theorem d_X_inAllStores_1 : decode b_X_inAllStores 1 = .ok (.istore_n 2, 1) := by decide +kernel
theorem d_X_inAllStores_2 : decode b_X_inAllStores 2 = .ok (.iconst 0, 1) := by decide +kernel
theorem d_X_inAllStores_3 : decode b_X_inAllStores 3 = .ok (.istore_n 3, 1) := by decide +kernel
theorem d_X_inAllStores_4 : decode b_X_inAllStores 4 = .ok (.iload_n 3, 1) := by decide +kernel
theorem d_X_inAllStores_5 : decode b_X_inAllStores 5 = .ok (.aload_n 0, 1) := by decide +kernel
theorem d_X_inAllStores_6 : decode b_X_inAllStores 6 = .ok (.getfield 50, 3) := by decide +kernel
theorem d_X_inAllStores_9 : decode b_X_inAllStores 9 = .ok (.if_icmp .ge 22, 3) := by decide +kernel
theorem d_X_inAllStores_12 : decode b_X_inAllStores 12 = .ok (.iload_n 2, 1) := by decide +kernel
theorem d_X_inAllStores_13 : decode b_X_inAllStores 13 = .ok (.aload_n 0, 1) := by decide +kernel
theorem d_X_inAllStores_14 : decode b_X_inAllStores 14 = .ok (.getfield 37, 3) := by decide +kernel
theorem d_X_inAllStores_17 : decode b_X_inAllStores 17 = .ok (.iload_n 3, 1) := by decide +kernel
theorem d_X_inAllStores_18 : decode b_X_inAllStores 18 = .ok (.iload_n 1, 1) := by decide +kernel
theorem d_X_inAllStores_19 : decode b_X_inAllStores 19 = .ok (.invokestatic 88, 3) := by decide +kernel
theorem d_X_inAllStores_22 : decode b_X_inAllStores 22 = .ok (.iaload, 1) := by decide +kernel
theorem d_X_inAllStores_23 : decode b_X_inAllStores 23 = .ok (.iadd, 1) := by decide +kernel
theorem d_X_inAllStores_24 : decode b_X_inAllStores 24 = .ok (.istore_n 2, 1) := by decide +kernel
theorem d_X_inAllStores_25 : decode b_X_inAllStores 25 = .ok (.iinc 3 1, 3) := by decide +kernel
theorem d_X_inAllStores_28 : decode b_X_inAllStores 28 = .ok (.goto (-24), 3) := by decide +kernel
theorem d_X_inAllStores_31 : decode b_X_inAllStores 31 = .ok (.iload_n 2, 1) := by decide +kernel
theorem d_X_inAllStores_32 : decode b_X_inAllStores 32 = .ok (.ireturn, 1) := by decide +kernel
theorem d_X_onTheWay_0 : decode b_X_onTheWay 0 = .ok (.iconst 0, 1) := by decide +kernel
theorem d_X_onTheWay_1 : decode b_X_onTheWay 1 = .ok (.istore 4, 2) := by decide +kernel
theorem d_X_onTheWay_3 : decode b_X_onTheWay 3 = .ok (.iconst 0, 1) := by decide +kernel
theorem d_X_onTheWay_4 : decode b_X_onTheWay 4 = .ok (.istore 5, 2) := by decide +kernel
theorem d_X_onTheWay_6 : decode b_X_onTheWay 6 = .ok (.iload 5, 2) := by decide +kernel
theorem d_X_onTheWay_8 : decode b_X_onTheWay 8 = .ok (.aload_n 0, 1) := by decide +kernel
theorem d_X_onTheWay_9 : decode b_X_onTheWay 9 = .ok (.getfield 18, 3) := by decide +kernel
theorem d_X_onTheWay_12 : decode b_X_onTheWay 12 = .ok (.invokevirtual 126, 3) := by decide +kernel
theorem d_X_onTheWay_15 : decode b_X_onTheWay 15 = .ok (.if_icmp .ge 101, 3) := by decide +kernel
theorem d_X_onTheWay_18 : decode b_X_onTheWay 18 = .ok (.aload_n 0, 1) := by decide +kernel
theorem d_X_onTheWay_19 : decode b_X_onTheWay 19 = .ok (.getfield 18, 3) := by decide +kernel
theorem d_X_onTheWay_22 : decode b_X_onTheWay 22 = .ok (.iload 5, 2) := by decide +kernel
theorem d_X_onTheWay_24 : decode b_X_onTheWay 24 = .ok (.iconst 1, 1) := by decide +kernel
theorem d_X_onTheWay_25 : decode b_X_onTheWay 25 = .ok (.invokevirtual 142, 3) := by decide +kernel
theorem d_X_onTheWay_28 : decode b_X_onTheWay 28 = .ok (.istore 6, 2) := by decide +kernel
theorem d_X_onTheWay_30 : decode b_X_onTheWay 30 = .ok (.aload_n 0, 1) := by decide +kernel
theorem d_X_onTheWay_31 : decode b_X_onTheWay 31 = .ok (.getfield 18, 3) := by decide +kernel
theorem d_X_onTheWay_34 : decode b_X_onTheWay 34 = .ok (.iload 5, 2) := by decide +kernel
theorem d_X_onTheWay_36 : decode b_X_onTheWay 36 = .ok (.iconst 4, 1) := by decide +kernel
theorem d_X_onTheWay_37 : decode b_X_onTheWay 37 = .ok (.invokevirtual 142, 3) := by decide +kernel
theorem d_X_onTheWay_40 : decode b_X_onTheWay 40 = .ok (.iconst 1, 1) := by decide +kernel
theorem d_X_onTheWay_41 : decode b_X_onTheWay 41 = .ok (.if_icmp .ne 69, 3) := by decide +kernel
theorem d_X_onTheWay_44 : decode b_X_onTheWay 44 = .ok (.aload_n 0, 1) := by decide +kernel
theorem d_X_onTheWay_45 : decode b_X_onTheWay 45 = .ok (.getfield 18, 3) := by decide +kernel
theorem d_X_onTheWay_48 : decode b_X_onTheWay 48 = .ok (.iload 5, 2) := by decide +kernel
theorem d_X_onTheWay_50 : decode b_X_onTheWay 50 = .ok (.iconst 0, 1) := by decide +kernel
theorem d_X_onTheWay_51 : decode b_X_onTheWay 51 = .ok (.invokevirtual 142, 3) := by decide +kernel
theorem d_X_onTheWay_54 : decode b_X_onTheWay 54 = .ok (.iload_n 1, 1) := by decide +kernel
theorem d_X_onTheWay_55 : decode b_X_onTheWay 55 = .ok (.if_icmp .ne 55, 3) := by decide +kernel
theorem d_X_onTheWay_58 : decode b_X_onTheWay 58 = .ok (.aload_n 0, 1) := by decide +kernel
theorem d_X_onTheWay_59 : decode b_X_onTheWay 59 = .ok (.getfield 14, 3) := by decide +kernel
theorem d_X_onTheWay_62 : decode b_X_onTheWay 62 = .ok (.iload 6, 2) := by decide +kernel
theorem d_X_onTheWay_64 : decode b_X_onTheWay 64 = .ok (.iconst 0, 1) := by decide +kernel
theorem d_X_onTheWay_65 : decode b_X_onTheWay 65 = .ok (.invokevirtual 142, 3) := by decide +kernel
theorem d_X_onTheWay_68 : decode b_X_onTheWay 68 = .ok (.iload_n 2, 1) := by decide +kernel
theorem d_X_onTheWay_69 : decode b_X_onTheWay 69 = .ok (.if_icmp .ne 41, 3) := by decide +kernel
theorem d_X_onTheWay_72 : decode b_X_onTheWay 72 = .ok (.iload_n 3, 1) := by decide +kernel
theorem d_X_onTheWay_73 : decode b_X_onTheWay 73 = .ok (.ifCond .eq 22, 3) := by decide +kernel
theorem d_X_onTheWay_76 : decode b_X_onTheWay 76 = .ok (.aload_n 0, 1) := by decide +kernel
theorem d_X_onTheWay_77 : decode b_X_onTheWay 77 = .ok (.iload 6, 2) := by decide +kernel
theorem d_X_onTheWay_79 : decode b_X_onTheWay 79 = .ok (.aload_n 0, 1) := by decide +kernel
theorem d_X_onTheWay_80 : decode b_X_onTheWay 80 = .ok (.getfield 18, 3) := by decide +kernel
theorem d_X_onTheWay_83 : decode b_X_onTheWay 83 = .ok (.iload 5, 2) := by decide +kernel
theorem d_X_onTheWay_85 : decode b_X_onTheWay 85 = .ok (.iconst 3, 1) := by decide +kernel
theorem d_X_onTheWay_86 : decode b_X_onTheWay 86 = .ok (.invokevirtual 142, 3) := by decide +kernel
theorem d_X_onTheWay_89 : decode b_X_onTheWay 89 = .ok (.invokevirtual 233, 3) := by decide +kernel
theorem d_X_onTheWay_92 : decode b_X_onTheWay 92 = .ok (.ifCond .eq 18, 3) := by decide +kernel
theorem d_X_onTheWay_95 : decode b_X_onTheWay 95 = .ok (.iload 4, 2) := by decide +kernel
theorem d_X_onTheWay_97 : decode b_X_onTheWay 97 = .ok (.aload_n 0, 1) := by decide +kernel
theorem d_X_onTheWay_98 : decode b_X_onTheWay 98 = .ok (.getfield 18, 3) := by decide +kernel
theorem d_X_onTheWay_101 : decode b_X_onTheWay 101 = .ok (.iload 5, 2) := by decide +kernel
theorem d_X_onTheWay_103 : decode b_X_onTheWay 103 = .ok (.iconst 2, 1) := by decide +kernel
theorem d_X_onTheWay_104 : decode b_X_onTheWay 104 = .ok (.invokevirtual 142, 3) := by decide +kernel
theorem d_X_onTheWay_107 : decode b_X_onTheWay 107 = .ok (.iadd, 1) := by decide +kernel
theorem d_X_onTheWay_108 : decode b_X_onTheWay 108 = .ok (.istore 4, 2) := by decide +kernel
theorem d_X_onTheWay_110 : decode b_X_onTheWay 110 = .ok (.iinc 5 1, 3) := by decide +kernel
theorem d_X_onTheWay_113 : decode b_X_onTheWay 113 = .ok (.goto (-107), 3) := by decide +kernel
theorem d_X_onTheWay_116 : decode b_X_onTheWay 116 = .ok (.iload 4, 2) := by decide +kernel
theorem d_X_onTheWay_118 : decode b_X_onTheWay 118 = .ok (.ireturn, 1) := by decide +kernel
theorem d_X_inOpenOrders_0 : decode b_X_inOpenOrders 0 = .ok (.iconst 0, 1) := by decide +kernel
theorem d_X_inOpenOrders_1 : decode b_X_inOpenOrders 1 = .ok (.istore_n 3, 1) := by decide +kernel
theorem d_X_inOpenOrders_2 : decode b_X_inOpenOrders 2 = .ok (.iconst 0, 1) := by decide +kernel
theorem d_X_inOpenOrders_3 : decode b_X_inOpenOrders 3 = .ok (.istore 4, 2) := by decide +kernel
theorem d_X_inOpenOrders_5 : decode b_X_inOpenOrders 5 = .ok (.iload 4, 2) := by decide +kernel
theorem d_X_inOpenOrders_7 : decode b_X_inOpenOrders 7 = .ok (.aload_n 0, 1) := by decide +kernel
theorem d_X_inOpenOrders_8 : decode b_X_inOpenOrders 8 = .ok (.getfield 21, 3) := by decide +kernel
theorem d_X_inOpenOrders_11 : decode b_X_inOpenOrders 11 = .ok (.invokevirtual 126, 3) := by decide +kernel
theorem d_X_inOpenOrders_14 : decode b_X_inOpenOrders 14 = .ok (.if_icmp .ge 64, 3) := by decide +kernel
theorem d_X_inOpenOrders_17 : decode b_X_inOpenOrders 17 = .ok (.aload_n 0, 1) := by decide +kernel
theorem d_X_inOpenOrders_18 : decode b_X_inOpenOrders 18 = .ok (.getfield 21, 3) := by decide +kernel
theorem d_X_inOpenOrders_21 : decode b_X_inOpenOrders 21 = .ok (.iload 4, 2) := by decide +kernel
theorem d_X_inOpenOrders_23 : decode b_X_inOpenOrders 23 = .ok (.iconst 4, 1) := by decide +kernel
theorem d_X_inOpenOrders_24 : decode b_X_inOpenOrders 24 = .ok (.invokevirtual 142, 3) := by decide +kernel
theorem d_X_inOpenOrders_27 : decode b_X_inOpenOrders 27 = .ok (.iconst 1, 1) := by decide +kernel
theorem d_X_inOpenOrders_28 : decode b_X_inOpenOrders 28 = .ok (.if_icmp .ne 44, 3) := by decide +kernel
theorem d_X_inOpenOrders_31 : decode b_X_inOpenOrders 31 = .ok (.aload_n 0, 1) := by decide +kernel
theorem d_X_inOpenOrders_32 : decode b_X_inOpenOrders 32 = .ok (.getfield 21, 3) := by decide +kernel
theorem d_X_inOpenOrders_35 : decode b_X_inOpenOrders 35 = .ok (.iload 4, 2) := by decide +kernel
theorem d_X_inOpenOrders_37 : decode b_X_inOpenOrders 37 = .ok (.iconst 0, 1) := by decide +kernel
theorem d_X_inOpenOrders_38 : decode b_X_inOpenOrders 38 = .ok (.invokevirtual 142, 3) := by decide +kernel
theorem d_X_inOpenOrders_41 : decode b_X_inOpenOrders 41 = .ok (.iload_n 1, 1) := by decide +kernel
theorem d_X_inOpenOrders_42 : decode b_X_inOpenOrders 42 = .ok (.if_icmp .ne 30, 3) := by decide +kernel
theorem d_X_inOpenOrders_45 : decode b_X_inOpenOrders 45 = .ok (.aload_n 0, 1) := by decide +kernel
theorem d_X_inOpenOrders_46 : decode b_X_inOpenOrders 46 = .ok (.getfield 21, 3) := by decide +kernel
theorem d_X_inOpenOrders_49 : decode b_X_inOpenOrders 49 = .ok (.iload 4, 2) := by decide +kernel
theorem d_X_inOpenOrders_51 : decode b_X_inOpenOrders 51 = .ok (.iconst 1, 1) := by decide +kernel
theorem d_X_inOpenOrders_52 : decode b_X_inOpenOrders 52 = .ok (.invokevirtual 142, 3) := by decide +kernel
theorem d_X_inOpenOrders_55 : decode b_X_inOpenOrders 55 = .ok (.iload_n 2, 1) := by decide +kernel
theorem d_X_inOpenOrders_56 : decode b_X_inOpenOrders 56 = .ok (.if_icmp .ne 16, 3) := by decide +kernel
theorem d_X_inOpenOrders_59 : decode b_X_inOpenOrders 59 = .ok (.iload_n 3, 1) := by decide +kernel
theorem d_X_inOpenOrders_60 : decode b_X_inOpenOrders 60 = .ok (.aload_n 0, 1) := by decide +kernel
theorem d_X_inOpenOrders_61 : decode b_X_inOpenOrders 61 = .ok (.getfield 21, 3) := by decide +kernel
theorem d_X_inOpenOrders_64 : decode b_X_inOpenOrders 64 = .ok (.iload 4, 2) := by decide +kernel
theorem d_X_inOpenOrders_66 : decode b_X_inOpenOrders 66 = .ok (.iconst 2, 1) := by decide +kernel
theorem d_X_inOpenOrders_67 : decode b_X_inOpenOrders 67 = .ok (.invokevirtual 142, 3) := by decide +kernel
theorem d_X_inOpenOrders_70 : decode b_X_inOpenOrders 70 = .ok (.iadd, 1) := by decide +kernel
theorem d_X_inOpenOrders_71 : decode b_X_inOpenOrders 71 = .ok (.istore_n 3, 1) := by decide +kernel
theorem d_X_inOpenOrders_72 : decode b_X_inOpenOrders 72 = .ok (.iinc 4 1, 3) := by decide +kernel
theorem d_X_inOpenOrders_75 : decode b_X_inOpenOrders 75 = .ok (.goto (-70), 3) := by decide +kernel
theorem d_X_inOpenOrders_78 : decode b_X_inOpenOrders 78 = .ok (.iload_n 3, 1) := by decide +kernel
theorem d_X_inOpenOrders_79 : decode b_X_inOpenOrders 79 = .ok (.ireturn, 1) := by decide +kernel
theorem d_X_orderByLevel_0 : decode b_X_orderByLevel 0 = .ok (.iload_n 1, 1) := by decide +kernel
theorem d_X_orderByLevel_1 : decode b_X_orderByLevel 1 = .ok (.iload_n 2, 1) := by decide +kernel
theorem d_X_orderByLevel_2 : decode b_X_orderByLevel 2 = .ok (.invokestatic 123, 3) := by decide +kernel
theorem d_X_orderByLevel_5 : decode b_X_orderByLevel 5 = .ok (.istore_n 3, 1) := by decide +kernel
theorem d_X_orderByLevel_6 : decode b_X_orderByLevel 6 = .ok (.aload_n 0, 1) := by decide +kernel
theorem d_X_orderByLevel_7 : decode b_X_orderByLevel 7 = .ok (.getfield 41, 3) := by decide +kernel
theorem d_X_orderByLevel_10 : decode b_X_orderByLevel 10 = .ok (.iload_n 3, 1) := by decide +kernel
theorem d_X_orderByLevel_11 : decode b_X_orderByLevel 11 = .ok (.iaload, 1) := by decide +kernel
theorem d_X_orderByLevel_12 : decode b_X_orderByLevel 12 = .ok (.ifCond .eq 13, 3) := by decide +kernel
theorem d_X_orderByLevel_15 : decode b_X_orderByLevel 15 = .ok (.aload_n 0, 1) := by decide +kernel
theorem d_X_orderByLevel_16 : decode b_X_orderByLevel 16 = .ok (.getfield 21, 3) := by decide +kernel
theorem d_X_orderByLevel_19 : decode b_X_orderByLevel 19 = .ok (.invokevirtual 222, 3) := by decide +kernel
theorem d_X_orderByLevel_22 : decode b_X_orderByLevel 22 = .ok (.ifCond .eq 4, 3) := by decide +kernel
theorem d_X_orderByLevel_25 : decode b_X_orderByLevel 25 = .ok (.return_, 1) := by decide +kernel
theorem d_X_orderByLevel_26 : decode b_X_orderByLevel 26 = .ok (.aload_n 0, 1) := by decide +kernel
theorem d_X_orderByLevel_27 : decode b_X_orderByLevel 27 = .ok (.iload_n 1, 1) := by decide +kernel
theorem d_X_orderByLevel_28 : decode b_X_orderByLevel 28 = .ok (.iload_n 2, 1) := by decide +kernel
theorem d_X_orderByLevel_29 : decode b_X_orderByLevel 29 = .ok (.iconst 1, 1) := by decide +kernel
theorem d_X_orderByLevel_30 : decode b_X_orderByLevel 30 = .ok (.invokevirtual 106, 3) := by decide +kernel
theorem d_X_orderByLevel_33 : decode b_X_orderByLevel 33 = .ok (.aload_n 0, 1) := by decide +kernel
theorem d_X_orderByLevel_34 : decode b_X_orderByLevel 34 = .ok (.iload_n 1, 1) := by decide +kernel
theorem d_X_orderByLevel_35 : decode b_X_orderByLevel 35 = .ok (.iload_n 2, 1) := by decide +kernel
theorem d_X_orderByLevel_36 : decode b_X_orderByLevel 36 = .ok (.iconst 1, 1) := by decide +kernel
theorem d_X_orderByLevel_37 : decode b_X_orderByLevel 37 = .ok (.invokevirtual 118, 3) := by decide +kernel
theorem d_X_orderByLevel_40 : decode b_X_orderByLevel 40 = .ok (.iadd, 1) := by decide +kernel
theorem d_X_orderByLevel_41 : decode b_X_orderByLevel 41 = .ok (.aload_n 0, 1) := by decide +kernel
theorem d_X_orderByLevel_42 : decode b_X_orderByLevel 42 = .ok (.iload_n 1, 1) := by decide +kernel
theorem d_X_orderByLevel_43 : decode b_X_orderByLevel 43 = .ok (.iload_n 2, 1) := by decide +kernel
theorem d_X_orderByLevel_44 : decode b_X_orderByLevel 44 = .ok (.invokevirtual 236, 3) := by decide +kernel
theorem d_X_orderByLevel_47 : decode b_X_orderByLevel 47 = .ok (.iadd, 1) := by decide +kernel
theorem d_X_orderByLevel_48 : decode b_X_orderByLevel 48 = .ok (.istore 4, 2) := by decide +kernel
theorem d_X_orderByLevel_50 : decode b_X_orderByLevel 50 = .ok (.iload 4, 2) := by decide +kernel
theorem d_X_orderByLevel_52 : decode b_X_orderByLevel 52 = .ok (.aload_n 0, 1) := by decide +kernel
theorem d_X_orderByLevel_53 : decode b_X_orderByLevel 53 = .ok (.getfield 41, 3) := by decide +kernel
theorem d_X_orderByLevel_56 : decode b_X_orderByLevel 56 = .ok (.iload_n 3, 1) := by decide +kernel
theorem d_X_orderByLevel_57 : decode b_X_orderByLevel 57 = .ok (.iaload, 1) := by decide +kernel
theorem d_X_orderByLevel_58 : decode b_X_orderByLevel 58 = .ok (.if_icmp .ge 19, 3) := by decide +kernel
theorem d_X_orderByLevel_61 : decode b_X_orderByLevel 61 = .ok (.aload_n 0, 1) := by decide +kernel
theorem d_X_orderByLevel_62 : decode b_X_orderByLevel 62 = .ok (.iload_n 1, 1) := by decide +kernel
theorem d_X_orderByLevel_63 : decode b_X_orderByLevel 63 = .ok (.iload_n 2, 1) := by decide +kernel
theorem d_X_orderByLevel_64 : decode b_X_orderByLevel 64 = .ok (.aload_n 0, 1) := by decide +kernel
theorem d_X_orderByLevel_65 : decode b_X_orderByLevel 65 = .ok (.getfield 44, 3) := by decide +kernel
theorem d_X_orderByLevel_68 : decode b_X_orderByLevel 68 = .ok (.iload_n 3, 1) := by decide +kernel
theorem d_X_orderByLevel_69 : decode b_X_orderByLevel 69 = .ok (.iaload, 1) := by decide +kernel
theorem d_X_orderByLevel_70 : decode b_X_orderByLevel 70 = .ok (.iload 4, 2) := by decide +kernel
theorem d_X_orderByLevel_72 : decode b_X_orderByLevel 72 = .ok (.isub, 1) := by decide +kernel
theorem d_X_orderByLevel_73 : decode b_X_orderByLevel 73 = .ok (.invokevirtual 162, 3) := by decide +kernel
theorem d_X_orderByLevel_76 : decode b_X_orderByLevel 76 = .ok (.pop, 1) := by decide +kernel
theorem d_X_orderByLevel_77 : decode b_X_orderByLevel 77 = .ok (.return_, 1) := by decide +kernel
theorem d_X_addOrder_0 : decode b_X_addOrder 0 = .ok (.aload_n 0, 1) := by decide +kernel
theorem d_X_addOrder_1 : decode b_X_addOrder 1 = .ok (.getfield 21, 3) := by decide +kernel
theorem d_X_addOrder_4 : decode b_X_addOrder 4 = .ok (.iload_n 1, 1) := by decide +kernel
theorem d_X_addOrder_5 : decode b_X_addOrder 5 = .ok (.iload_n 2, 1) := by decide +kernel
theorem d_X_addOrder_6 : decode b_X_addOrder 6 = .ok (.iload_n 3, 1) := by decide +kernel
theorem d_X_addOrder_7 : decode b_X_addOrder 7 = .ok (.aload_n 0, 1) := by decide +kernel
theorem d_X_addOrder_8 : decode b_X_addOrder 8 = .ok (.getfield 100, 3) := by decide +kernel
theorem d_X_addOrder_11 : decode b_X_addOrder 11 = .ok (.iconst 1, 1) := by decide +kernel
theorem d_X_addOrder_12 : decode b_X_addOrder 12 = .ok (.invokevirtual 72, 3) := by decide +kernel
theorem d_X_addOrder_15 : decode b_X_addOrder 15 = .ok (.ireturn, 1) := by decide +kernel
theorem d_X_take_0 : decode b_X_take 0 = .ok (.iload_n 3, 1) := by decide +kernel
theorem d_X_take_1 : decode b_X_take 1 = .ok (.istore 4, 2) := by decide +kernel
theorem d_X_take_3 : decode b_X_take 3 = .ok (.iconst 0, 1) := by decide +kernel
theorem d_X_take_4 : decode b_X_take 4 = .ok (.istore 5, 2) := by decide +kernel
theorem d_X_take_6 : decode b_X_take 6 = .ok (.iload 5, 2) := by decide +kernel
theorem d_X_take_8 : decode b_X_take 8 = .ok (.bipush 60, 2) := by decide +kernel
theorem d_X_take_10 : decode b_X_take 10 = .ok (.if_icmp .ge 86, 3) := by decide +kernel
theorem d_X_take_13 : decode b_X_take 13 = .ok (.iload 4, 2) := by decide +kernel
theorem d_X_take_15 : decode b_X_take 15 = .ok (.ifCond .le 81, 3) := by decide +kernel
theorem d_X_take_18 : decode b_X_take 18 = .ok (.aload_n 0, 1) := by decide +kernel
theorem d_X_take_19 : decode b_X_take 19 = .ok (.iload_n 1, 1) := by decide +kernel
theorem d_X_take_20 : decode b_X_take 20 = .ok (.iload_n 2, 1) := by decide +kernel
theorem d_X_take_21 : decode b_X_take 21 = .ok (.invokevirtual 239, 3) := by decide +kernel
theorem d_X_take_24 : decode b_X_take 24 = .ok (.istore 6, 2) := by decide +kernel
theorem d_X_take_26 : decode b_X_take 26 = .ok (.iload 6, 2) := by decide +kernel
theorem d_X_take_28 : decode b_X_take 28 = .ok (.ifCond .ge 4, 3) := by decide +kernel
theorem d_X_take_31 : decode b_X_take 31 = .ok (.return_, 1) := by decide +kernel
theorem d_X_take_32 : decode b_X_take 32 = .ok (.iload 4, 2) := by decide +kernel
theorem d_X_take_34 : decode b_X_take 34 = .ok (.aload_n 0, 1) := by decide +kernel
theorem d_X_take_35 : decode b_X_take 35 = .ok (.getfield 37, 3) := by decide +kernel
theorem d_X_take_38 : decode b_X_take 38 = .ok (.iload_n 1, 1) := by decide +kernel
theorem d_X_take_39 : decode b_X_take 39 = .ok (.iload 6, 2) := by decide +kernel
theorem d_X_take_41 : decode b_X_take 41 = .ok (.invokestatic 88, 3) := by decide +kernel
theorem d_X_take_44 : decode b_X_take 44 = .ok (.iaload, 1) := by decide +kernel
theorem d_X_take_45 : decode b_X_take 45 = .ok (.invokestatic 228, 3) := by decide +kernel
theorem d_X_take_48 : decode b_X_take 48 = .ok (.istore 7, 2) := by decide +kernel
theorem d_X_take_50 : decode b_X_take 50 = .ok (.aload_n 0, 1) := by decide +kernel
theorem d_X_take_51 : decode b_X_take 51 = .ok (.iload_n 1, 1) := by decide +kernel
theorem d_X_take_52 : decode b_X_take 52 = .ok (.iload 6, 2) := by decide +kernel
theorem d_X_take_54 : decode b_X_take 54 = .ok (.iload 7, 2) := by decide +kernel
theorem d_X_take_56 : decode b_X_take 56 = .ok (.ineg, 1) := by decide +kernel
theorem d_X_take_57 : decode b_X_take 57 = .ok (.invokevirtual 85, 3) := by decide +kernel
theorem d_X_take_60 : decode b_X_take 60 = .ok (.aload_n 0, 1) := by decide +kernel
theorem d_X_take_61 : decode b_X_take 61 = .ok (.getfield 14, 3) := by decide +kernel
theorem d_X_take_64 : decode b_X_take 64 = .ok (.iload 6, 2) := by decide +kernel
theorem d_X_take_66 : decode b_X_take 66 = .ok (.iconst 2, 1) := by decide +kernel
theorem d_X_take_67 : decode b_X_take 67 = .ok (.aload_n 0, 1) := by decide +kernel
theorem d_X_take_68 : decode b_X_take 68 = .ok (.getfield 14, 3) := by decide +kernel
theorem d_X_take_71 : decode b_X_take 71 = .ok (.iload 6, 2) := by decide +kernel
theorem d_X_take_73 : decode b_X_take 73 = .ok (.iconst 2, 1) := by decide +kernel
theorem d_X_take_74 : decode b_X_take 74 = .ok (.invokevirtual 142, 3) := by decide +kernel
theorem d_X_take_77 : decode b_X_take 77 = .ok (.iload 7, 2) := by decide +kernel
theorem d_X_take_79 : decode b_X_take 79 = .ok (.iadd, 1) := by decide +kernel
theorem d_X_take_80 : decode b_X_take 80 = .ok (.invokevirtual 149, 3) := by decide +kernel
theorem d_X_take_83 : decode b_X_take 83 = .ok (.iload 4, 2) := by decide +kernel
theorem d_X_take_85 : decode b_X_take 85 = .ok (.iload 7, 2) := by decide +kernel
theorem d_X_take_87 : decode b_X_take 87 = .ok (.isub, 1) := by decide +kernel
theorem d_X_take_88 : decode b_X_take 88 = .ok (.istore 4, 2) := by decide +kernel
theorem d_X_take_90 : decode b_X_take 90 = .ok (.iinc 5 1, 3) := by decide +kernel
theorem d_X_take_93 : decode b_X_take 93 = .ok (.goto (-87), 3) := by decide +kernel
theorem d_X_take_96 : decode b_X_take 96 = .ok (.return_, 1) := by decide +kernel
theorem d_X_firstToTake_0 : decode b_X_firstToTake 0 = .ok (.iconst (-1), 1) := by decide +kernel
theorem d_X_firstToTake_1 : decode b_X_firstToTake 1 = .ok (.istore_n 3, 1) := by decide +kernel
theorem d_X_firstToTake_2 : decode b_X_firstToTake 2 = .ok (.iconst 0, 1) := by decide +kernel
theorem d_X_firstToTake_3 : decode b_X_firstToTake 3 = .ok (.istore 4, 2) := by decide +kernel
theorem d_X_firstToTake_5 : decode b_X_firstToTake 5 = .ok (.iload 4, 2) := by decide +kernel
theorem d_X_firstToTake_7 : decode b_X_firstToTake 7 = .ok (.aload_n 0, 1) := by decide +kernel
theorem d_X_firstToTake_8 : decode b_X_firstToTake 8 = .ok (.getfield 14, 3) := by decide +kernel
theorem d_X_firstToTake_11 : decode b_X_firstToTake 11 = .ok (.invokevirtual 126, 3) := by decide +kernel
theorem d_X_firstToTake_14 : decode b_X_firstToTake 14 = .ok (.if_icmp .ge 68, 3) := by decide +kernel
theorem d_X_firstToTake_17 : decode b_X_firstToTake 17 = .ok (.aload_n 0, 1) := by decide +kernel
theorem d_X_firstToTake_18 : decode b_X_firstToTake 18 = .ok (.getfield 14, 3) := by decide +kernel
theorem d_X_firstToTake_21 : decode b_X_firstToTake 21 = .ok (.iload 4, 2) := by decide +kernel
theorem d_X_firstToTake_23 : decode b_X_firstToTake 23 = .ok (.iconst 0, 1) := by decide +kernel
theorem d_X_firstToTake_24 : decode b_X_firstToTake 24 = .ok (.invokevirtual 142, 3) := by decide +kernel
theorem d_X_firstToTake_27 : decode b_X_firstToTake 27 = .ok (.iload_n 2, 1) := by decide +kernel
theorem d_X_firstToTake_28 : decode b_X_firstToTake 28 = .ok (.if_icmp .ne 48, 3) := by decide +kernel
theorem d_X_firstToTake_31 : decode b_X_firstToTake 31 = .ok (.aload_n 0, 1) := by decide +kernel
theorem d_X_firstToTake_32 : decode b_X_firstToTake 32 = .ok (.iload 4, 2) := by decide +kernel
theorem d_X_firstToTake_34 : decode b_X_firstToTake 34 = .ok (.aload_n 0, 1) := by decide +kernel
theorem d_X_firstToTake_35 : decode b_X_firstToTake 35 = .ok (.getfield 100, 3) := by decide +kernel
theorem d_X_firstToTake_38 : decode b_X_firstToTake 38 = .ok (.invokevirtual 233, 3) := by decide +kernel
theorem d_X_firstToTake_41 : decode b_X_firstToTake 41 = .ok (.ifCond .eq 35, 3) := by decide +kernel
theorem d_X_firstToTake_44 : decode b_X_firstToTake 44 = .ok (.aload_n 0, 1) := by decide +kernel
theorem d_X_firstToTake_45 : decode b_X_firstToTake 45 = .ok (.getfield 37, 3) := by decide +kernel
theorem d_X_firstToTake_48 : decode b_X_firstToTake 48 = .ok (.iload_n 1, 1) := by decide +kernel
theorem d_X_firstToTake_49 : decode b_X_firstToTake 49 = .ok (.iload 4, 2) := by decide +kernel
theorem d_X_firstToTake_51 : decode b_X_firstToTake 51 = .ok (.invokestatic 88, 3) := by decide +kernel
theorem d_X_firstToTake_54 : decode b_X_firstToTake 54 = .ok (.iaload, 1) := by decide +kernel
theorem d_X_firstToTake_55 : decode b_X_firstToTake 55 = .ok (.ifCond .le 21, 3) := by decide +kernel
theorem d_X_firstToTake_58 : decode b_X_firstToTake 58 = .ok (.iload_n 3, 1) := by decide +kernel
theorem d_X_firstToTake_59 : decode b_X_firstToTake 59 = .ok (.ifCond .lt 14, 3) := by decide +kernel
theorem d_X_firstToTake_62 : decode b_X_firstToTake 62 = .ok (.aload_n 0, 1) := by decide +kernel
theorem d_X_firstToTake_63 : decode b_X_firstToTake 63 = .ok (.iload_n 1, 1) := by decide +kernel
theorem d_X_firstToTake_64 : decode b_X_firstToTake 64 = .ok (.iload 4, 2) := by decide +kernel
theorem d_X_firstToTake_66 : decode b_X_firstToTake 66 = .ok (.iload_n 3, 1) := by decide +kernel
theorem d_X_firstToTake_67 : decode b_X_firstToTake 67 = .ok (.invokevirtual 242, 3) := by decide +kernel
theorem d_X_firstToTake_70 : decode b_X_firstToTake 70 = .ok (.ifCond .eq 6, 3) := by decide +kernel
theorem d_X_firstToTake_73 : decode b_X_firstToTake 73 = .ok (.iload 4, 2) := by decide +kernel
theorem d_X_firstToTake_75 : decode b_X_firstToTake 75 = .ok (.istore_n 3, 1) := by decide +kernel
theorem d_X_firstToTake_76 : decode b_X_firstToTake 76 = .ok (.iinc 4 1, 3) := by decide +kernel
theorem d_X_firstToTake_79 : decode b_X_firstToTake 79 = .ok (.goto (-74), 3) := by decide +kernel
theorem d_X_firstToTake_82 : decode b_X_firstToTake 82 = .ok (.iload_n 3, 1) := by decide +kernel
theorem d_X_firstToTake_83 : decode b_X_firstToTake 83 = .ok (.ireturn, 1) := by decide +kernel
theorem d_X_isTakenBefore_0 : decode b_X_isTakenBefore 0 = .ok (.aload_n 0, 1) := by decide +kernel
theorem d_X_isTakenBefore_1 : decode b_X_isTakenBefore 1 = .ok (.getfield 14, 3) := by decide +kernel
theorem d_X_isTakenBefore_4 : decode b_X_isTakenBefore 4 = .ok (.iload_n 2, 1) := by decide +kernel
theorem d_X_isTakenBefore_5 : decode b_X_isTakenBefore 5 = .ok (.iconst 1, 1) := by decide +kernel
theorem d_X_isTakenBefore_6 : decode b_X_isTakenBefore 6 = .ok (.invokevirtual 142, 3) := by decide +kernel
theorem d_X_isTakenBefore_9 : decode b_X_isTakenBefore 9 = .ok (.istore 4, 2) := by decide +kernel
theorem d_X_isTakenBefore_11 : decode b_X_isTakenBefore 11 = .ok (.aload_n 0, 1) := by decide +kernel
theorem d_X_isTakenBefore_12 : decode b_X_isTakenBefore 12 = .ok (.getfield 14, 3) := by decide +kernel
theorem d_X_isTakenBefore_15 : decode b_X_isTakenBefore 15 = .ok (.iload_n 3, 1) := by decide +kernel
theorem d_X_isTakenBefore_16 : decode b_X_isTakenBefore 16 = .ok (.iconst 1, 1) := by decide +kernel
theorem d_X_isTakenBefore_17 : decode b_X_isTakenBefore 17 = .ok (.invokevirtual 142, 3) := by decide +kernel
theorem d_X_isTakenBefore_20 : decode b_X_isTakenBefore 20 = .ok (.istore 5, 2) := by decide +kernel
theorem d_X_isTakenBefore_22 : decode b_X_isTakenBefore 22 = .ok (.iload 4, 2) := by decide +kernel
theorem d_X_isTakenBefore_24 : decode b_X_isTakenBefore 24 = .ok (.iload 5, 2) := by decide +kernel
theorem d_X_isTakenBefore_26 : decode b_X_isTakenBefore 26 = .ok (.if_icmp .eq 16, 3) := by decide +kernel
theorem d_X_isTakenBefore_29 : decode b_X_isTakenBefore 29 = .ok (.iload 4, 2) := by decide +kernel
theorem d_X_isTakenBefore_31 : decode b_X_isTakenBefore 31 = .ok (.iload 5, 2) := by decide +kernel
theorem d_X_isTakenBefore_33 : decode b_X_isTakenBefore 33 = .ok (.if_icmp .ge 7, 3) := by decide +kernel
theorem d_X_isTakenBefore_36 : decode b_X_isTakenBefore 36 = .ok (.iconst 1, 1) := by decide +kernel
theorem d_X_isTakenBefore_37 : decode b_X_isTakenBefore 37 = .ok (.goto 4, 3) := by decide +kernel
theorem d_X_isTakenBefore_40 : decode b_X_isTakenBefore 40 = .ok (.iconst 0, 1) := by decide +kernel
theorem d_X_isTakenBefore_41 : decode b_X_isTakenBefore 41 = .ok (.ireturn, 1) := by decide +kernel
theorem d_X_isTakenBefore_42 : decode b_X_isTakenBefore 42 = .ok (.aload_n 0, 1) := by decide +kernel
theorem d_X_isTakenBefore_43 : decode b_X_isTakenBefore 43 = .ok (.getfield 37, 3) := by decide +kernel
theorem d_X_isTakenBefore_46 : decode b_X_isTakenBefore 46 = .ok (.iload_n 1, 1) := by decide +kernel
theorem d_X_isTakenBefore_47 : decode b_X_isTakenBefore 47 = .ok (.iload_n 2, 1) := by decide +kernel
theorem d_X_isTakenBefore_48 : decode b_X_isTakenBefore 48 = .ok (.invokestatic 88, 3) := by decide +kernel
theorem d_X_isTakenBefore_51 : decode b_X_isTakenBefore 51 = .ok (.iaload, 1) := by decide +kernel
theorem d_X_isTakenBefore_52 : decode b_X_isTakenBefore 52 = .ok (.aload_n 0, 1) := by decide +kernel
theorem d_X_isTakenBefore_53 : decode b_X_isTakenBefore 53 = .ok (.getfield 37, 3) := by decide +kernel
theorem d_X_isTakenBefore_56 : decode b_X_isTakenBefore 56 = .ok (.iload_n 1, 1) := by decide +kernel
theorem d_X_isTakenBefore_57 : decode b_X_isTakenBefore 57 = .ok (.iload_n 3, 1) := by decide +kernel
theorem d_X_isTakenBefore_58 : decode b_X_isTakenBefore 58 = .ok (.invokestatic 88, 3) := by decide +kernel
theorem d_X_isTakenBefore_61 : decode b_X_isTakenBefore 61 = .ok (.iaload, 1) := by decide +kernel
theorem d_X_isTakenBefore_62 : decode b_X_isTakenBefore 62 = .ok (.if_icmp .ge 7, 3) := by decide +kernel
theorem d_X_isTakenBefore_65 : decode b_X_isTakenBefore 65 = .ok (.iconst 1, 1) := by decide +kernel
theorem d_X_isTakenBefore_66 : decode b_X_isTakenBefore 66 = .ok (.goto 4, 3) := by decide +kernel
theorem d_X_isTakenBefore_69 : decode b_X_isTakenBefore 69 = .ok (.iconst 0, 1) := by decide +kernel
theorem d_X_isTakenBefore_70 : decode b_X_isTakenBefore 70 = .ok (.ireturn, 1) := by decide +kernel
theorem d_X_hasParts_0 : decode b_X_hasParts 0 = .ok (.iconst 0, 1) := by decide +kernel
theorem d_X_hasParts_1 : decode b_X_hasParts 1 = .ok (.istore_n 2, 1) := by decide +kernel
theorem d_X_hasParts_2 : decode b_X_hasParts 2 = .ok (.iload_n 2, 1) := by decide +kernel
theorem d_X_hasParts_3 : decode b_X_hasParts 3 = .ok (.bipush 10, 2) := by decide +kernel
theorem d_X_hasParts_5 : decode b_X_hasParts 5 = .ok (.if_icmp .ge 24, 3) := by decide +kernel
theorem d_X_hasParts_8 : decode b_X_hasParts 8 = .ok (.aload_n 0, 1) := by decide +kernel
theorem d_X_hasParts_9 : decode b_X_hasParts 9 = .ok (.getfield 47, 3) := by decide +kernel
theorem d_X_hasParts_12 : decode b_X_hasParts 12 = .ok (.iload_n 1, 1) := by decide +kernel
theorem d_X_hasParts_13 : decode b_X_hasParts 13 = .ok (.iload_n 2, 1) := by decide +kernel
theorem d_X_hasParts_14 : decode b_X_hasParts 14 = .ok (.invokestatic 123, 3) := by decide +kernel
theorem d_X_hasParts_17 : decode b_X_hasParts 17 = .ok (.iaload, 1) := by decide +kernel
theorem d_X_hasParts_18 : decode b_X_hasParts 18 = .ok (.ifCond .le 5, 3) := by decide +kernel
theorem d_X_hasParts_21 : decode b_X_hasParts 21 = .ok (.iconst 1, 1) := by decide +kernel
theorem d_X_hasParts_22 : decode b_X_hasParts 22 = .ok (.ireturn, 1) := by decide +kernel
theorem d_X_hasParts_23 : decode b_X_hasParts 23 = .ok (.iinc 2 1, 3) := by decide +kernel
theorem d_X_hasParts_26 : decode b_X_hasParts 26 = .ok (.goto (-24), 3) := by decide +kernel
theorem d_X_hasParts_29 : decode b_X_hasParts 29 = .ok (.iconst 0, 1) := by decide +kernel
theorem d_X_hasParts_30 : decode b_X_hasParts 30 = .ok (.ireturn, 1) := by decide +kernel
theorem d_X_lackingKind_0 : decode b_X_lackingKind 0 = .ok (.iconst 0, 1) := by decide +kernel
theorem d_X_lackingKind_1 : decode b_X_lackingKind 1 = .ok (.istore_n 3, 1) := by decide +kernel
theorem d_X_lackingKind_2 : decode b_X_lackingKind 2 = .ok (.iload_n 3, 1) := by decide +kernel
theorem d_X_lackingKind_3 : decode b_X_lackingKind 3 = .ok (.bipush 10, 2) := by decide +kernel
theorem d_X_lackingKind_5 : decode b_X_lackingKind 5 = .ok (.if_icmp .ge 40, 3) := by decide +kernel
theorem d_X_lackingKind_8 : decode b_X_lackingKind 8 = .ok (.aload_n 0, 1) := by decide +kernel
theorem d_X_lackingKind_9 : decode b_X_lackingKind 9 = .ok (.getfield 47, 3) := by decide +kernel
theorem d_X_lackingKind_12 : decode b_X_lackingKind 12 = .ok (.iload_n 2, 1) := by decide +kernel
theorem d_X_lackingKind_13 : decode b_X_lackingKind 13 = .ok (.iload_n 3, 1) := by decide +kernel
theorem d_X_lackingKind_14 : decode b_X_lackingKind 14 = .ok (.invokestatic 123, 3) := by decide +kernel
theorem d_X_lackingKind_17 : decode b_X_lackingKind 17 = .ok (.iaload, 1) := by decide +kernel
theorem d_X_lackingKind_18 : decode b_X_lackingKind 18 = .ok (.istore 4, 2) := by decide +kernel
theorem d_X_lackingKind_20 : decode b_X_lackingKind 20 = .ok (.iload 4, 2) := by decide +kernel
theorem d_X_lackingKind_22 : decode b_X_lackingKind 22 = .ok (.ifCond .le 17, 3) := by decide +kernel
theorem d_X_lackingKind_25 : decode b_X_lackingKind 25 = .ok (.aload_n 0, 1) := by decide +kernel
theorem d_X_lackingKind_26 : decode b_X_lackingKind 26 = .ok (.iload_n 1, 1) := by decide +kernel
theorem d_X_lackingKind_27 : decode b_X_lackingKind 27 = .ok (.iload_n 3, 1) := by decide +kernel
theorem d_X_lackingKind_28 : decode b_X_lackingKind 28 = .ok (.iconst 1, 1) := by decide +kernel
theorem d_X_lackingKind_29 : decode b_X_lackingKind 29 = .ok (.invokevirtual 106, 3) := by decide +kernel
theorem d_X_lackingKind_32 : decode b_X_lackingKind 32 = .ok (.iload 4, 2) := by decide +kernel
theorem d_X_lackingKind_34 : decode b_X_lackingKind 34 = .ok (.if_icmp .ge 5, 3) := by decide +kernel
theorem d_X_lackingKind_37 : decode b_X_lackingKind 37 = .ok (.iload_n 3, 1) := by decide +kernel
theorem d_X_lackingKind_38 : decode b_X_lackingKind 38 = .ok (.ireturn, 1) := by decide +kernel
theorem d_X_lackingKind_39 : decode b_X_lackingKind 39 = .ok (.iinc 3 1, 3) := by decide +kernel
theorem d_X_lackingKind_42 : decode b_X_lackingKind 42 = .ok (.goto (-40), 3) := by decide +kernel
theorem d_X_lackingKind_45 : decode b_X_lackingKind 45 = .ok (.iconst (-1), 1) := by decide +kernel
theorem d_X_lackingKind_46 : decode b_X_lackingKind 46 = .ok (.ireturn, 1) := by decide +kernel
end
section
/-! ROWS OVER NATURAL NUMBERS, and calls of methods that only look (the heap stays as it is). -/
def b2 (b : Bool) : Int32 := if b = true then 1 else 0
theorem b2_t : b2 true = 1 := rfl
theorem b2_f : b2 false = 0 := rfl
theorem b2_n (b : Bool) : b2 b = nI (if b = true then 1 else 0) := by cases b <;> rfl
section NV
variable {p : Program} {l : Launch} {e : Env} {R : Room} {s : State} {m : MethodId} {args : Array Value} {below : List Frame} {meth : Method} {c : Code} {H : Heap} {locs : List Loc} {cells slots : Nat} {Q : State → Prop}
variable {cc : ByteArray} {pc : Nat} {ls : Array Slot} {rest : List Value}
theorem nv_add (hexec : p.tables.exec = Jvm.exec) (hb : c.code = cc) {x y : Nat} (hdg : decode cc pc = .ok (.iadd, 1)) (k : W p l e R s m args below meth c H locs cells slots Q (F0 m (pc + 1) ls (.int (nI (x + y)) :: rest))) :
    W p l e R s m args below meth c H locs cells slots Q (F0 m pc ls (.int (nI y) :: .int (nI x) :: rest)) := lv_iadd hexec hb hdg (by rw [nI_add]; exact k)
theorem nv_sub (hexec : p.tables.exec = Jvm.exec) (hb : c.code = cc) {x y : Nat} (h : y ≤ x) (hdg : decode cc pc = .ok (.isub, 1)) (k : W p l e R s m args below meth c H locs cells slots Q (F0 m (pc + 1) ls (.int (nI (x - y)) :: rest))) :
    W p l e R s m args below meth c H locs cells slots Q (F0 m pc ls (.int (nI y) :: .int (nI x) :: rest)) := lv_isub hexec hb hdg (by rw [pk_sub h]; exact k)
theorem nv_mul (hexec : p.tables.exec = Jvm.exec) (hb : c.code = cc) {x y : Nat} (hdg : decode cc pc = .ok (.imul, 1)) (k : W p l e R s m args below meth c H locs cells slots Q (F0 m (pc + 1) ls (.int (nI (x * y)) :: rest))) :
    W p l e R s m args below meth c H locs cells slots Q (F0 m pc ls (.int (nI y) :: .int (nI x) :: rest)) := lv_imul hexec hb hdg (by rw [pk_mul]; exact k)
theorem nv_lmul (hexec : p.tables.exec = Jvm.exec) (hb : c.code = cc) {x y : Nat} (hdg : decode cc pc = .ok (.lmul, 1)) (k : W p l e R s m args below meth c H locs cells slots Q (F0 m (pc + 1) ls (.long (lN (x * y)) :: rest))) :
    W p l e R s m args below meth c H locs cells slots Q (F0 m pc ls (.long (lN y) :: .long (lN x) :: rest)) := lv_lmul hexec hb hdg (by rw [lN_mul]; exact k)
theorem nv_ldiv (hexec : p.tables.exec = Jvm.exec) (hb : c.code = cc) {x y : Nat} (hx : x < 2 ^ 63) (h0 : 0 < y) (hy : y < 2 ^ 63) (hdg : decode cc pc = .ok (.ldiv, 1)) (k : W p l e R s m args below meth c H locs cells slots Q (F0 m (pc + 1) ls (.long (lN (x / y)) :: rest))) :
    W p l e R s m args below meth c H locs cells slots Q (F0 m pc ls (.long (lN y) :: .long (lN x) :: rest)) := by
  refine lv_ldiv hexec hb hdg (fun h => ?_) (by rw [pk_lDiv hx h0 hy]; exact k)
  have h1 := (pk_lEQ (a := y) (b := 0) hy (by decide)).mp h
  omega
/-- the number on the stack, said otherwise -/
theorem nv_as {x : Int32} (y : Int32) (h : x = y) (k : W p l e R s m args below meth c H locs cells slots Q (F0 m pc ls (.int y :: rest))) : W p l e R s m args below meth c H locs cells slots Q (F0 m pc ls (.int x :: rest)) := by rw [h]; exact k
variable {off : Int} {tgt : Nat} {x y : Nat}
theorem nv_cge (hexec : p.tables.exec = Jvm.exec) (hb : c.code = cc) (hx : x < 2 ^ 31) (hy : y < 2 ^ 31) (hdg : decode cc pc = .ok (.if_icmp .ge off, 3)) (ht : (pc : Int) + off = (tgt : Int))
    (kt : y ≤ x → W p l e R s m args below meth c H locs cells slots Q (F0 m tgt ls rest)) (kf : x < y → W p l e R s m args below meth c H locs cells slots Q (F0 m (pc + 3) ls rest)) : W p l e R s m args below meth c H locs cells slots Q (F0 m pc ls (.int (nI y) :: .int (nI x) :: rest)) :=
  lv_icmp_ge hexec hb hdg ht (fun h => kt ((nI_leI hy hx).mp h)) (fun h => kf (Nat.not_le.mp fun z => h ((nI_leI hy hx).mpr z)))
theorem nv_clt (hexec : p.tables.exec = Jvm.exec) (hb : c.code = cc) (hx : x < 2 ^ 31) (hy : y < 2 ^ 31) (hdg : decode cc pc = .ok (.if_icmp .lt off, 3)) (ht : (pc : Int) + off = (tgt : Int))
    (kt : x < y → W p l e R s m args below meth c H locs cells slots Q (F0 m tgt ls rest)) (kf : y ≤ x → W p l e R s m args below meth c H locs cells slots Q (F0 m (pc + 3) ls rest)) : W p l e R s m args below meth c H locs cells slots Q (F0 m pc ls (.int (nI y) :: .int (nI x) :: rest)) :=
  lv_icmp_lt hexec hb hdg ht (fun h => kt ((nI_ltI hx hy).mp h)) (fun h => kf (Nat.not_lt.mp fun z => h ((nI_ltI hx hy).mpr z)))
theorem nv_cgt (hexec : p.tables.exec = Jvm.exec) (hb : c.code = cc) (hx : x < 2 ^ 31) (hy : y < 2 ^ 31) (hdg : decode cc pc = .ok (.if_icmp .gt off, 3)) (ht : (pc : Int) + off = (tgt : Int))
    (kt : y < x → W p l e R s m args below meth c H locs cells slots Q (F0 m tgt ls rest)) (kf : x ≤ y → W p l e R s m args below meth c H locs cells slots Q (F0 m (pc + 3) ls rest)) : W p l e R s m args below meth c H locs cells slots Q (F0 m pc ls (.int (nI y) :: .int (nI x) :: rest)) :=
  lv_icmp_gt hexec hb hdg ht (fun h => kt ((nI_ltI hy hx).mp h)) (fun h => kf (Nat.not_lt.mp fun z => h ((nI_ltI hy hx).mpr z)))
theorem nv_cle (hexec : p.tables.exec = Jvm.exec) (hb : c.code = cc) (hx : x < 2 ^ 31) (hy : y < 2 ^ 31) (hdg : decode cc pc = .ok (.if_icmp .le off, 3)) (ht : (pc : Int) + off = (tgt : Int))
    (kt : x ≤ y → W p l e R s m args below meth c H locs cells slots Q (F0 m tgt ls rest)) (kf : y < x → W p l e R s m args below meth c H locs cells slots Q (F0 m (pc + 3) ls rest)) : W p l e R s m args below meth c H locs cells slots Q (F0 m pc ls (.int (nI y) :: .int (nI x) :: rest)) :=
  lv_icmp_le hexec hb hdg ht (fun h => kt ((nI_leI hx hy).mp h)) (fun h => kf (Nat.not_le.mp fun z => h ((nI_leI hx hy).mpr z)))
theorem nv_ceq (hexec : p.tables.exec = Jvm.exec) (hb : c.code = cc) (hx : x < 2 ^ 31) (hy : y < 2 ^ 31) (hdg : decode cc pc = .ok (.if_icmp .eq off, 3)) (ht : (pc : Int) + off = (tgt : Int))
    (kt : x = y → W p l e R s m args below meth c H locs cells slots Q (F0 m tgt ls rest)) (kf : x ≠ y → W p l e R s m args below meth c H locs cells slots Q (F0 m (pc + 3) ls rest)) : W p l e R s m args below meth c H locs cells slots Q (F0 m pc ls (.int (nI y) :: .int (nI x) :: rest)) :=
  lv_icmp_eq hexec hb hdg ht (fun h => kt ((nI_eq hx hy).mp h)) (fun h => kf fun z => h ((nI_eq hx hy).mpr z))
theorem nv_cne (hexec : p.tables.exec = Jvm.exec) (hb : c.code = cc) (hx : x < 2 ^ 31) (hy : y < 2 ^ 31) (hdg : decode cc pc = .ok (.if_icmp .ne off, 3)) (ht : (pc : Int) + off = (tgt : Int))
    (kt : x ≠ y → W p l e R s m args below meth c H locs cells slots Q (F0 m tgt ls rest)) (kf : x = y → W p l e R s m args below meth c H locs cells slots Q (F0 m (pc + 3) ls rest)) : W p l e R s m args below meth c H locs cells slots Q (F0 m pc ls (.int (nI y) :: .int (nI x) :: rest)) :=
  lv_icmp_ne hexec hb hdg ht (fun h => kt fun z => h ((nI_eq hx hy).mpr z)) (fun h => kf ((nI_eq hx hy).mp h))
theorem b2_0 {b : Bool} (h : b2 b = 0) : b = false := by
  cases b with
  | false => rfl
  | true => exact absurd h (by decide)
theorem b2_1 {b : Bool} (h : ¬ b2 b = 0) : b = true := by
  cases b with
  | true => rfl
  | false => exact absurd rfl h
theorem nv_bz (hexec : p.tables.exec = Jvm.exec) (hb : c.code = cc) {b : Bool} (hdg : decode cc pc = .ok (.ifCond .eq off, 3)) (ht : (pc : Int) + off = (tgt : Int))
    (kt : b = false → W p l e R s m args below meth c H locs cells slots Q (F0 m tgt ls rest)) (kf : b = true → W p l e R s m args below meth c H locs cells slots Q (F0 m (pc + 3) ls rest)) : W p l e R s m args below meth c H locs cells slots Q (F0 m pc ls (.int (b2 b) :: rest)) :=
  lv_if_eq hexec hb hdg ht (fun h => kt (b2_0 h)) (fun h => kf (b2_1 h))
theorem nv_bn (hexec : p.tables.exec = Jvm.exec) (hb : c.code = cc) {b : Bool} (hdg : decode cc pc = .ok (.ifCond .ne off, 3)) (ht : (pc : Int) + off = (tgt : Int))
    (kt : b = true → W p l e R s m args below meth c H locs cells slots Q (F0 m tgt ls rest)) (kf : b = false → W p l e R s m args below meth c H locs cells slots Q (F0 m (pc + 3) ls rest)) : W p l e R s m args below meth c H locs cells slots Q (F0 m pc ls (.int (b2 b) :: rest)) :=
  lv_if_ne hexec hb hdg ht (fun h => kt (b2_1 h)) (fun h => kf (b2_0 h))
theorem nv_zeq (hexec : p.tables.exec = Jvm.exec) (hb : c.code = cc) (hx : x < 2 ^ 31) (hdg : decode cc pc = .ok (.ifCond .eq off, 3)) (ht : (pc : Int) + off = (tgt : Int))
    (kt : x = 0 → W p l e R s m args below meth c H locs cells slots Q (F0 m tgt ls rest)) (kf : x ≠ 0 → W p l e R s m args below meth c H locs cells slots Q (F0 m (pc + 3) ls rest)) : W p l e R s m args below meth c H locs cells slots Q (F0 m pc ls (.int (nI x) :: rest)) :=
  lv_if_eq hexec hb hdg ht (fun h => kt ((nI_eq hx (by decide)).mp h)) (fun h => kf fun z => h ((nI_eq hx (by decide)).mpr z))
theorem nv_zne (hexec : p.tables.exec = Jvm.exec) (hb : c.code = cc) (hx : x < 2 ^ 31) (hdg : decode cc pc = .ok (.ifCond .ne off, 3)) (ht : (pc : Int) + off = (tgt : Int))
    (kt : x ≠ 0 → W p l e R s m args below meth c H locs cells slots Q (F0 m tgt ls rest)) (kf : x = 0 → W p l e R s m args below meth c H locs cells slots Q (F0 m (pc + 3) ls rest)) : W p l e R s m args below meth c H locs cells slots Q (F0 m pc ls (.int (nI x) :: rest)) :=
  lv_if_ne hexec hb hdg ht (fun h => kt fun z => h ((nI_eq hx (by decide)).mpr z)) (fun h => kf ((nI_eq hx (by decide)).mp h))
theorem nv_zgt (hexec : p.tables.exec = Jvm.exec) (hb : c.code = cc) (hx : x < 2 ^ 31) (hdg : decode cc pc = .ok (.ifCond .gt off, 3)) (ht : (pc : Int) + off = (tgt : Int))
    (kt : 0 < x → W p l e R s m args below meth c H locs cells slots Q (F0 m tgt ls rest)) (kf : x = 0 → W p l e R s m args below meth c H locs cells slots Q (F0 m (pc + 3) ls rest)) : W p l e R s m args below meth c H locs cells slots Q (F0 m pc ls (.int (nI x) :: rest)) :=
  lv_if_gt hexec hb hdg ht (fun h => kt ((nI_ltI (a := 0) (by decide) hx).mp h)) (fun h => kf (by
    rcases Nat.eq_zero_or_pos x with z | z
    · exact z
    · exact absurd ((nI_ltI (a := 0) (by decide) hx).mpr z) h))
theorem nv_zle (hexec : p.tables.exec = Jvm.exec) (hb : c.code = cc) (hx : x < 2 ^ 31) (hdg : decode cc pc = .ok (.ifCond .le off, 3)) (ht : (pc : Int) + off = (tgt : Int))
    (kt : x = 0 → W p l e R s m args below meth c H locs cells slots Q (F0 m tgt ls rest)) (kf : 0 < x → W p l e R s m args below meth c H locs cells slots Q (F0 m (pc + 3) ls rest)) : W p l e R s m args below meth c H locs cells slots Q (F0 m pc ls (.int (nI x) :: rest)) :=
  lv_if_le hexec hb hdg ht (fun h => kt (Nat.le_zero.mp ((nI_leI hx (by decide)).mp h))) (fun h => kf (by
    rcases Nat.eq_zero_or_pos x with z | z
    · exact absurd ((nI_leI hx (by decide)).mpr (Nat.le_of_eq z)) h
    · exact z))
theorem nv_zlt (hexec : p.tables.exec = Jvm.exec) (hb : c.code = cc) (hx : x < 2 ^ 31) (hdg : decode cc pc = .ok (.ifCond .lt off, 3)) (ht : (pc : Int) + off = (tgt : Int))
    (kf : W p l e R s m args below meth c H locs cells slots Q (F0 m (pc + 3) ls rest)) : W p l e R s m args below meth c H locs cells slots Q (F0 m pc ls (.int (nI x) :: rest)) :=
  lv_if_lt hexec hb hdg ht (fun h => absurd h (nI_pos hx)) (fun _ => kf)
variable {D : va_G} {cl : List vw_C} {tys : List (ClassId × FieldType)} {ws : va_W} {a : Nat} {A : Nat → Prop} {H0 : Heap}
theorem nv_iald (hexec : p.tables.exec = Jvm.exec) (hb : c.code = cc) (hK : va_K D cl tys s) (hP : va_P D cl ws H) (q0 t0 : Nat) {cA : ClassId} {n : Nat} {f : Nat → Int32} (ha : ws[q0]? = some (a, .inl (cA, n, .inl f))) (ht : tys[t0]? = some (cA, .int)) {i : Nat} {v : Int32} (hi : i < n) (hn : n < 2 ^ 31) (hv : f i = v) (hdg : decode cc pc = .ok (.iaload, 1))
    (kk : W p l e R s m args below meth c H locs cells slots Q (F0 m (pc + 1) ls (.int v :: rest))) : W p l e R s m args below meth c H locs cells slots Q (F0 m pc ls (.int (nI i) :: .ref a :: rest)) :=
  va_iald hexec hb hK hP q0 t0 ha ht (vp_in_nI hi hn) hdg (by rw [nI_clamp (Nat.lt_trans hi hn), hv]; exact kk)
theorem nv_zald (hexec : p.tables.exec = Jvm.exec) (hb : c.code = cc) (hK : va_K D cl tys s) (hP : va_P D cl ws H) (q0 t0 : Nat) {cA : ClassId} {n : Nat} {f : Nat → Int32} (ha : ws[q0]? = some (a, .inl (cA, n, .inl f))) (ht : tys[t0]? = some (cA, .boolean)) {i : Nat} {v : Int32} (hi : i < n) (hn : n < 2 ^ 31) (hv : f i = v) (hdg : decode cc pc = .ok (.baload, 1))
    (kk : W p l e R s m args below meth c H locs cells slots Q (F0 m (pc + 1) ls (.int v :: rest))) : W p l e R s m args below meth c H locs cells slots Q (F0 m pc ls (.int (nI i) :: .ref a :: rest)) :=
  va_zald hexec hb hK hP q0 t0 ha ht (vp_in_nI hi hn) hdg (by rw [nI_clamp (Nat.lt_trans hi hn), hv]; exact kk)
theorem nv_iast (hexec : p.tables.exec = Jvm.exec) (hb : c.code = cc) (hK : va_K D cl tys s) (hP : va_P D cl ws H) (hD : va_D A ws) (hS : va_S A H0 H locs) (q0 t0 : Nat) {cA : ClassId} {n : Nat} {f f' : Nat → Int32} (ha : ws[q0]? = some (a, .inl (cA, n, .inl f))) (ht : tys[t0]? = some (cA, .int)) {i : Nat} {x : Int32} (hi : i < n) (hn : n < 2 ^ 31) (hf : upd f i x = f') (ws' : va_W) (hw : ws.set q0 (a, .inl (cA, n, .inl f')) = ws') (hdg : decode cc pc = .ok (.iastore, 1))
    (kk : ∀ (H1 : Heap) (locs1 : List Loc), va_P D cl ws' H1 → va_D A ws' → va_S A H0 H1 locs1 → W p l e R s m args below meth c H1 locs1 cells slots Q (F0 m (pc + 1) ls rest)) : W p l e R s m args below meth c H locs cells slots Q (F0 m pc ls (.int x :: .int (nI i) :: .ref a :: rest)) := by
  refine va_iast hexec hb hK hP hD hS q0 t0 ha ht (vp_in_nI hi hn) hdg (fun H1 locs1 h1 h2 h3 => ?_)
  rw [nI_clamp (Nat.lt_trans hi hn), hf, hw] at h1 h2
  exact kk H1 locs1 h1 h2 h3
end NV
/-! Methods that only look: they come back with v, and the heap is as it was. -/
theorem tm_nil {L : List Loc} (h : ∀ q ∈ L, (fun _ : Addr => False) q.base) : L = [] := by
  cases L with
  | nil => rfl
  | cons a t => exact (h a List.mem_cons_self).elim
def pu_Q (v : Value) : Array Value → State → Outcome → State → Prop := fun _ st o t => o = .returned (some v) ∧ t.heap = st.heap
def pu_P (D : va_G) (cl : List vw_C) (ws : va_W) (tys : List (ClassId × FieldType)) (av : List Value) : Array Value → State → Prop := va_Pc av (fun U => va_P D cl ws U.heap ∧ va_K D cl tys U)
theorem pu_blind {D : va_G} {cl : List vw_C} {ws : va_W} {tys : List (ClassId × FieldType)} {av : List Value} : FrameBlind (pu_P D cl ws tys av) := fun a U g mk q => by
  obtain ⟨q0, qP, qK⟩ := q
  exact ⟨q0, qP, va_K.moved (u := U) (U := U.calling g mk a) (Vm.Alike.refl U.vm) qK⟩
section PU
variable {p : Program} {l : Launch} {e : Env} {R : Room} {s : State} {m : MethodId} {args : Array Value} {below : List Frame} {meth : Method} {c : Code} {H : Heap} {locs : List Loc} {cells slots : Nat} {Q : State → Prop}
variable {pc : Nat} {ls : Array Slot} {rest st0 As : List Value} {a : Array Value} {D : va_G} {cl : List vw_C} {tys : List (ClassId × FieldType)} {ws : va_W} {b : Nat}
theorem pu_go {v : Value} (hr : va_Run p l e R s m args below meth c H locs cells slots 0 0 (F0 m pc ls st0) rest (pu_Q v a) (fun _ => False)) (k : W p l e R s m args below meth c H locs cells slots Q (F0 m (pc + 3) ls (v :: rest))) :
    W p l e R s m args below meth c H locs cells slots Q (F0 m pc ls st0) := by
  intro T hT X
  obtain ⟨w, st₀, t, T', L, h0, X', hL, e1, e2, ⟨hv, hh⟩, st⟩ := hr T hT X
  have hn := tm_nil hL
  subst hn
  rw [List.append_nil] at X'
  obtain rfl : w = some v := Outcome.returned.inj hv
  obtain ⟨t2, a1, b1⟩ := k T' (by rw [e1, hh, h0]) X'
  exact ⟨t2, st t2 a1, b1⟩
theorem pu_preS (hK : va_K D cl tys s) (hP : va_P D cl ws H) : PreS s H (pu_P D cl ws tys As) As :=
  ⟨pu_blind, fun U hU hW => ⟨rfl, by rw [hU]; exact hP, va_K.moved hW.alike hK⟩⟩
theorem pu_preV {ci q0 : Nat} {q : vw_C} {fs : List Value} (hK : va_K D cl tys s) (hP : va_P D cl ws H) (hc : cl[ci]? = some q) (he : ws[q0]? = some (b, .inr (ci, fs))) : PreV s H q.1 b (pu_P D cl ws tys (.ref b :: As)) As :=
  ⟨pu_blind, va_recv hK hP hc he, fun U hU hW => ⟨rfl, by rw [hU]; exact hP, va_K.moved hW.alike hK⟩⟩
end PU
end
section
/-! THE STATE: arrays of numbers by their places, counts, and the differences (which may be below 0).
arrays: 0..4 lots (kind, end, out, waste, paper), 5..9 moves (to, lot, n, arrival, on), 10..14 orders (store, kind, n, day, on), 15..19 emergencies (store, kind, n, person, on), 20..24 differences (store, lot, -, reason, day),
25 there, 26 least, 27 most, 28 parts, 29 heights, 30 litres, 31 is there a level; numbers: 0 stores, 1 day, 2 lots, 3 moves, 4 orders, 5 emergencies, 6 differences, 7 rows of the table -/
abbrev St : Type := (Nat → Nat → Nat) × (Nat → Nat) × (Nat → Int32)
def aU (a : Nat → Nat → Nat) (k j v : Nat) : Nat → Nat → Nat := va_up a k (va_up (a k) j v)
theorem aU_s {a : Nat → Nat → Nat} {k j v : Nat} : aU a k j v k j = v := by simp [aU, va_up]
theorem aU_e {a : Nat → Nat → Nat} {k j v i : Nat} (h : i ≠ j) : aU a k j v k i = a k i := by simp [aU, va_up, h]
theorem aU_n {a : Nat → Nat → Nat} {k k' j v : Nat} (h : k' ≠ k) : aU a k j v k' = a k' := by simp [aU, va_up, h]
def S_a (S : St) (k j v : Nat) : St := (aU S.1 k j v, S.2.1, S.2.2)
def S_g (S : St) (k v : Nat) : St := (S.1, va_up S.2.1 k v, S.2.2)
def S_z (S : St) (j : Nat) (v : Int32) : St := (S.1, S.2.1, va_up S.2.2 j v)
/-- five columns side by side -/
def rowf (a : Nat → Nat → Nat) (b : Nat) : Nat → Int32 := fun j => nI (a (b + j % 5) (j / 5))
def rowd (a : Nat → Nat → Nat) (z : Nat → Int32) : Nat → Int32 := fun j => if j % 5 = 2 then z (j / 5) else nI (a (20 + j % 5) (j / 5))
theorem rowf_at {a : Nat → Nat → Nat} {b i c : Nat} (h : c < 5) : rowf a b (i * 5 + c) = nI (a (b + c) i) := by
  have h1 : (i * 5 + c) % 5 = c := by omega
  have h2 : (i * 5 + c) / 5 = i := by omega
  simp only [rowf, h1, h2]
theorem rowf_upd {a : Nat → Nat → Nat} {b i c v : Nat} (h : c < 5) : upd (rowf a b) (i * 5 + c) (nI v) = rowf (aU a (b + c) i v) b := by
  funext j
  by_cases hj : j = i * 5 + c
  · subst hj
    rw [pk_us, rowf_at h, aU_s]
  · rw [pk_un hj]
    show nI (a (b + j % 5) (j / 5)) = nI (aU a (b + c) i v (b + j % 5) (j / 5))
    by_cases h1 : j % 5 = c
    · have h2 : j / 5 ≠ i := by omega
      rw [h1, aU_e h2]
    · rw [aU_n (by omega)]
theorem rowf_off {a : Nat → Nat → Nat} {b k i v : Nat} (h : k < b ∨ b + 5 ≤ k) : rowf (aU a k i v) b = rowf a b := by
  funext j
  show nI (aU a k i v (b + j % 5) (j / 5)) = nI (a (b + j % 5) (j / 5))
  rw [aU_n (by omega)]
theorem rowd_at {a : Nat → Nat → Nat} {z : Nat → Int32} {i c : Nat} (h : c < 5) (h2 : c ≠ 2) : rowd a z (i * 5 + c) = nI (a (20 + c) i) := by
  have h1 : (i * 5 + c) % 5 = c := by omega
  have h3 : (i * 5 + c) / 5 = i := by omega
  simp only [rowd, h1, h3, if_neg h2]
theorem rowd_at2 {a : Nat → Nat → Nat} {z : Nat → Int32} {i : Nat} : rowd a z (i * 5 + 2) = z i := by
  have h1 : (i * 5 + 2) % 5 = 2 := by omega
  have h3 : (i * 5 + 2) / 5 = i := by omega
  simp only [rowd, h1, h3, if_pos]
theorem rowd_upd {a : Nat → Nat → Nat} {z : Nat → Int32} {i c v : Nat} (h : c < 5) (h2 : c ≠ 2) : upd (rowd a z) (i * 5 + c) (nI v) = rowd (aU a (20 + c) i v) z := by
  funext j
  by_cases hj : j = i * 5 + c
  · subst hj
    rw [pk_us, rowd_at h h2, aU_s]
  · rw [pk_un hj]
    show (if j % 5 = 2 then z (j / 5) else nI (a (20 + j % 5) (j / 5))) = (if j % 5 = 2 then z (j / 5) else nI (aU a (20 + c) i v (20 + j % 5) (j / 5)))
    by_cases h3 : j % 5 = 2
    · rw [if_pos h3, if_pos h3]
    · rw [if_neg h3, if_neg h3]
      by_cases h1 : j % 5 = c
      · have h4 : j / 5 ≠ i := by omega
        rw [h1, aU_e h4]
      · rw [aU_n (by omega)]
theorem rowd_upd2 {a : Nat → Nat → Nat} {z : Nat → Int32} {i : Nat} {v : Int32} : upd (rowd a z) (i * 5 + 2) v = rowd a (va_up z i v) := by
  funext j
  by_cases hj : j = i * 5 + 2
  · subst hj
    rw [pk_us, rowd_at2, va_up_self]
  · rw [pk_un hj]
    show (if j % 5 = 2 then z (j / 5) else nI (a (20 + j % 5) (j / 5))) = (if j % 5 = 2 then va_up z i v (j / 5) else nI (a (20 + j % 5) (j / 5)))
    by_cases h3 : j % 5 = 2
    · rw [if_pos h3, if_pos h3, va_up_ne _ _ (by omega)]
    · rw [if_neg h3, if_neg h3]
theorem rowd_off {a : Nat → Nat → Nat} {z : Nat → Int32} {k i v : Nat} (h : k < 20 ∨ 25 ≤ k) : rowd (aU a k i v) z = rowd a z := by
  funext j
  show (if j % 5 = 2 then z (j / 5) else nI (aU a k i v (20 + j % 5) (j / 5))) = (if j % 5 = 2 then z (j / 5) else nI (a (20 + j % 5) (j / 5)))
  rw [aU_n (by omega)]
/-- a plain array -/
def colf (a : Nat → Nat → Nat) (k : Nat) : Nat → Int32 := fun j => nI (a k j)
theorem colf_upd {a : Nat → Nat → Nat} {k i v : Nat} : upd (colf a k) i (nI v) = colf (aU a k i v) k := by
  funext j
  by_cases hj : j = i
  · subst hj
    rw [pk_us]
    show _ = nI (aU a k j v k j)
    rw [aU_s]
  · rw [pk_un hj]
    show nI (a k j) = nI (aU a k i v k j)
    rw [aU_e hj]
theorem colf_off {a : Nat → Nat → Nat} {k k' i v : Nat} (h : k' ≠ k) : colf (aU a k i v) k' = colf a k' := by
  funext j
  show nI (aU a k i v k' j) = nI (a k' j)
  rw [aU_n h]
/-- how many of those up to n, taken where P says -/
def sIf (P : Nat → Bool) (v : Nat → Nat) : Nat → Nat
  | 0 => 0
  | i + 1 => sIf P v i + (if P i = true then v i else 0)
theorem sIf_le {P : Nat → Bool} {v : Nat → Nat} {B : Nat} (h : ∀ i, v i ≤ B) : ∀ n, sIf P v n ≤ n * B
  | 0 => by simp [sIf]
  | n + 1 => by
    have h1 := sIf_le (P := P) h n
    have h2 := h n
    have h3 : (n + 1) * B = n * B + B := Nat.succ_mul n B
    simp only [sIf]
    split <;> omega
theorem sIf_congr {P P' : Nat → Bool} {v v' : Nat → Nat} : ∀ n, (∀ i, i < n → P i = P' i ∧ (P i = true → v i = v' i)) → sIf P v n = sIf P' v' n
  | 0, _ => rfl
  | n + 1, h => by
    have h1 := sIf_congr n (fun i hi => h i (Nat.lt_succ_of_lt hi))
    obtain ⟨h2, h3⟩ := h n (Nat.lt_succ_self n)
    simp only [sIf, h1, ← h2]
    split
    · rename_i hp
      rw [h3 hp]
    · rfl
end
section
/-! WHAT EACH CALL DOES, on the state: (0 and an answer, or the number of the exception; the answer; the state behind it). -/
def ok (x : Int32) (n : Nat) : Bool := decide (0 ≤ x.toInt) && decide (x.toInt < n)
def rg (x : Int32) (lo hi : Nat) : Bool := decide ((lo : Int) ≤ x.toInt) && decide (x.toInt ≤ hi)
def nn (x : Int32) : Nat := x.toInt.toNat
theorem nn_nI {x : Int32} (h : 0 ≤ x.toInt) : x = nI (nn x) := by
  have h1 := x.toInt_lt
  have h2 : (nI (nn x)).toInt = x.toInt := by
    rw [nI_toInt (by simp only [nn]; omega)]
    simp only [nn]
    omega
  exact (Int32.toInt_inj.mp h2).symm
theorem ok_of {x : Int32} {n : Nat} (h : ok x n = true) : x = nI (nn x) ∧ nn x < n := by
  simp only [ok, Bool.and_eq_true, decide_eq_true_eq] at h
  exact ⟨nn_nI h.1, by simp only [nn]; omega⟩
theorem rg_of {x : Int32} {lo hi : Nat} (h : rg x lo hi = true) : x = nI (nn x) ∧ lo ≤ nn x ∧ nn x ≤ hi := by
  simp only [rg, Bool.and_eq_true, decide_eq_true_eq] at h
  exact ⟨nn_nI (by omega), by simp only [nn]; omega, by simp only [nn]; omega⟩
theorem nn_of {j : Nat} (h : j < 2 ^ 31) : nn (nI j) = j := by
  simp only [nn, nI_toInt h]
  omega
theorem ok_nI {j n : Nat} (h : j < 2 ^ 31) : ok (nI j) n = decide (j < n) := by
  simp only [ok, nI_toInt h]
  by_cases hj : j < n
  · simp [hj]
  · simp [hj]
abbrev Op : Type := Nat × Int32 × St
def dayOf (S : St) : Nat := S.2.1 1
def good (S : St) (s k : Nat) : Nat := sIf (fun j => decide (S.1 0 j = k) && decide (S.2.1 1 ≤ S.1 1 j)) (fun j => S.1 25 (s * 60 + j)) (S.2.1 2)
def bad (S : St) (s k : Nat) : Nat := sIf (fun j => decide (S.1 0 j = k) && !decide (S.2.1 1 ≤ S.1 1 j)) (fun j => S.1 25 (s * 60 + j)) (S.2.1 2)
def way (S : St) (g : Bool) (s k : Nat) : Nat := sIf (fun j => decide (S.1 9 j = 1) && (decide (S.1 5 j = s) && (decide (S.1 0 (S.1 6 j) = k) && (!g || decide (S.1 8 j ≤ S.1 1 (S.1 6 j)))))) (fun j => S.1 7 j) (S.2.1 3)
def opn (S : St) (s k : Nat) : Nat := sIf (fun j => decide (S.1 14 j = 1) && (decide (S.1 10 j = s) && decide (S.1 11 j = k))) (fun j => S.1 12 j) (S.2.1 4)
def expd (S : St) (s k : Nat) : Nat := good S s k + way S true s k + opn S s k
/-- five columns from b on, at the row i -/
def S_row (S : St) (b i v0 v1 v2 v3 v4 : Nat) : St := S_a (S_a (S_a (S_a (S_a S b i v0) (b + 1) i v1) (b + 2) i v2) (b + 3) i v3) (b + 4) i v4
def op_store (S : St) : Op := if S.2.1 0 < 8 then (0, nI (S.2.1 0), S_g S 0 (S.2.1 0 + 1)) else (1, 0, S)
def op_lot (S : St) (k e : Int32) : Op :=
  if ok k 10 = true then if rg e 0 9999 = true then if S.2.1 2 < 60 then (0, nI (S.2.1 2), S_g (S_row S 0 (S.2.1 2) (nn k) (nn e) 0 0 0) 2 (S.2.1 2 + 1)) else (3, 0, S) else (2, 0, S) else (1, 0, S)
def op_bring (S : St) (x y n : Int32) : Op :=
  if ok x (S.2.1 0) = true then if ok y (S.2.1 2) = true then if rg n 1 9999 = true then
    if S.1 25 (nn x * 60 + nn y) + nn n ≤ 9999 then (0, nI (S.1 25 (nn x * 60 + nn y) + nn n), S_a S 25 (nn x * 60 + nn y) (S.1 25 (nn x * 60 + nn y) + nn n)) else (3, 0, S) else (2, 0, S) else (1, 0, S) else (1, 0, S)
/-- n of a lot come to a store: what is above 9,999 is lost -/
def addUp (S : St) (s l n : Nat) : St := S_a S 25 (s * 60 + l) (min 9999 (S.1 25 (s * 60 + l) + n))
def come (S : St) (i : Nat) : St := addUp (S_a S 9 i 0) (S.1 5 i) (S.1 6 i) (S.1 7 i)
def op_move (S : St) (f t y n d : Int32) : Op :=
  if ok f (S.2.1 0) = true then if ok t (S.2.1 0) = true then if f ≠ t then if ok y (S.2.1 2) = true then if rg n 1 9999 = true then if rg d 0 30 = true then
    if nn n ≤ S.1 25 (nn f * 60 + nn y) then if S.2.1 3 < 60 then
      (0, nI (S.2.1 3), if nn d = 0 then come (S_g (S_row (S_a S 25 (nn f * 60 + nn y) (S.1 25 (nn f * 60 + nn y) - nn n)) 5 (S.2.1 3) (nn t) (nn y) (nn n) (S.2.1 1 + nn d) 1) 3 (S.2.1 3 + 1)) (S.2.1 3)
        else S_g (S_row (S_a S 25 (nn f * 60 + nn y) (S.1 25 (nn f * 60 + nn y) - nn n)) 5 (S.2.1 3) (nn t) (nn y) (nn n) (S.2.1 1 + nn d) 1) 3 (S.2.1 3 + 1))
    else (4, 0, S) else (3, 0, S) else (2, 0, S) else (2, 0, S) else (1, 0, S) else (1, 0, S) else (1, 0, S) else (1, 0, S)
/-- the lot that is taken from first, of those below i -/
def before (S : St) (s l b : Nat) : Bool := if S.1 1 l ≠ S.1 1 b then decide (S.1 1 l < S.1 1 b) else decide (S.1 25 (s * 60 + l) < S.1 25 (s * 60 + b))
def takeable (S : St) (s k l : Nat) : Bool := decide (S.1 0 l = k) && (decide (S.2.1 1 ≤ S.1 1 l) && decide (0 < S.1 25 (s * 60 + l)))
def bst (S : St) (s k : Nat) : Nat → Option Nat
  | 0 => none
  | i + 1 => if takeable S s k i = true then (match bst S s k i with
    | none => some i
    | some b => if before S s i b = true then some i else some b) else bst S s k i
def takeOf (S : St) (s b p : Nat) : St := S_a (S_a S 25 (s * 60 + b) (S.1 25 (s * 60 + b) - p)) 2 b (S.1 2 b + p)
def tk (s k : Nat) : Nat → St → Nat → St
  | 0, S, _ => S
  | f + 1, S, n => if n = 0 then S else (match bst S s k (S.2.1 2) with
    | none => S
    | some b => tk s k f (takeOf S s b (min n (S.1 25 (s * 60 + b)))) (n - min n (S.1 25 (s * 60 + b))))
def op_use (S : St) (x k n : Int32) : Op :=
  if ok x (S.2.1 0) = true then if ok k 10 = true then if rg n 1 9999 = true then
    if nn n ≤ good S (nn x) (nn k) then (0, nI (good S (nn x) (nn k) - nn n), tk (nn x) (nn k) 60 S (nn n)) else (3, 0, S) else (2, 0, S) else (1, 0, S) else (1, 0, S)
def op_sum (S : St) (x k w : Int32) : Op :=
  if ok x (S.2.1 0) = true then if ok k 10 = true then if w = 0 then (0, nI (good S (nn x) (nn k)), S) else if w = 1 then (0, nI (bad S (nn x) (nn k)), S) else if w = 2 then (0, nI (way S false (nn x) (nn k)), S) else (1, 0, S) else (1, 0, S) else (1, 0, S)
def op_has (S : St) (x y : Int32) : Op := if ok x (S.2.1 0) = true then if ok y (S.2.1 2) = true then (0, nI (S.1 25 (nn x * 60 + nn y)), S) else (1, 0, S) else (1, 0, S)
def op_level (S : St) (x k a b : Int32) : Op :=
  if ok x (S.2.1 0) = true then if ok k 10 = true then if rg b 0 9999 = true then if rg a 0 (nn b) = true then
    (0, 0, S_a (S_a (S_a S 26 (nn x * 10 + nn k) (nn a)) 27 (nn x * 10 + nn k) (nn b)) 31 (nn x * 10 + nn k) 1) else (2, 0, S) else (2, 0, S) else (1, 0, S) else (1, 0, S)
def addOrd (S : St) (s k n : Nat) : St := S_g (S_row S 10 (S.2.1 4) s k n (S.2.1 1) 1) 4 (S.2.1 4 + 1)
def ordK (S : St) (s k : Nat) : St := if S.1 26 (s * 10 + k) = 0 then S else if 80 ≤ S.2.1 4 then S else if expd S s k < S.1 26 (s * 10 + k) then addOrd S s k (S.1 27 (s * 10 + k) - expd S s k) else S
def ordR (S : St) (s : Nat) : Nat → St
  | 0 => S
  | k + 1 => ordK (ordR S s k) s k
def ordN (S : St) : Nat → St
  | 0 => S
  | s + 1 => ordR (ordN S s) s 10
def op_orders (S : St) : Op := (0, nI ((ordN S (S.2.1 0)).2.1 4 - S.2.1 4), ordN S (S.2.1 0))
def op_order (S : St) (i w : Int32) : Op := if ok i (S.2.1 4) = true then if ok w 5 = true then (0, nI (S.1 (10 + nn w) (nn i)), S) else (1, 0, S) else (1, 0, S)
def op_deliver (S : St) (i y : Int32) : Op :=
  if ok i (S.2.1 4) = true then if ok y (S.2.1 2) = true then if S.1 14 (nn i) = 1 then if S.1 11 (nn i) = S.1 0 (nn y) then
    (0, nI (min 9999 (S.1 25 (S.1 10 (nn i) * 60 + nn y) + S.1 12 (nn i))), addUp (S_a S 14 (nn i) 0) (S.1 10 (nn i)) (nn y) (S.1 12 (nn i))) else (2, 0, S) else (2, 0, S) else (1, 0, S) else (1, 0, S)
def op_emergency (S : St) (x k n w : Int32) : Op :=
  if ok x (S.2.1 0) = true then if ok k 10 = true then if ok w 20 = true then if rg n 1 9999 = true then if S.2.1 5 < 20 then
    (0, nI (S.2.1 5), S_g (S_row S 15 (S.2.1 5) (nn x) (nn k) (nn n) (nn w) 1) 5 (S.2.1 5 + 1)) else (3, 0, S) else (2, 0, S) else (1, 0, S) else (1, 0, S) else (1, 0, S)
def op_second (S : St) (i w : Int32) : Op :=
  if ok i (S.2.1 5) = true then if ok w 20 = true then if S.1 19 (nn i) = 1 then if S.1 18 (nn i) ≠ nn w then if S.2.1 4 < 80 then
    (0, nI (S.2.1 4), addOrd (S_a S 19 (nn i) 0) (S.1 15 (nn i)) (S.1 16 (nn i)) (S.1 17 (nn i))) else (3, 0, S) else (2, 0, S) else (2, 0, S) else (1, 0, S) else (1, 0, S)
def addDif (S : St) (s l : Nat) (d : Int32) (r : Nat) : St := S_g (S_a (S_a (S_z (S_a (S_a S 20 (S.2.1 6) s) 21 (S.2.1 6) l) (S.2.1 6) d) 23 (S.2.1 6) r) 24 (S.2.1 6) (S.2.1 1)) 6 (S.2.1 6 + 1)
def op_count (S : St) (x y n r : Int32) : Op :=
  if ok x (S.2.1 0) = true then if ok y (S.2.1 2) = true then if rg n 0 9999 = true then if rg r 1 99 = true then
    if nn n = S.1 25 (nn x * 60 + nn y) then (0, 0, S) else if S.2.1 6 < 80 then
      (0, n - nI (S.1 25 (nn x * 60 + nn y)), addDif (S_a S 25 (nn x * 60 + nn y) (nn n)) (nn x) (nn y) (n - nI (S.1 25 (nn x * 60 + nn y))) (nn r)) else (3, 0, S) else (2, 0, S) else (2, 0, S) else (1, 0, S) else (1, 0, S)
def op_difference (S : St) (i w : Int32) : Op := if ok i (S.2.1 6) = true then if ok w 5 = true then (0, if nn w = 2 then S.2.2 (nn i) else nI (S.1 (20 + nn w) (nn i)), S) else (1, 0, S) else (1, 0, S)
def op_kit (S : St) (t k n : Int32) : Op := if ok t 5 = true then if ok k 10 = true then if rg n 0 20 = true then (0, 0, S_a S 28 (nn t * 10 + nn k) (nn n)) else (2, 0, S) else (1, 0, S) else (1, 0, S)
def anyPart (S : St) (t : Nat) : Bool := (List.range 10).any (fun k => decide (0 < S.1 28 (t * 10 + k)))
def lack (S : St) (s t : Nat) : Option Nat := (List.range 10).find? (fun k => decide (good S s k < S.1 28 (t * 10 + k)))
def gvN (S : St) (s t : Nat) : Nat → St
  | 0 => S
  | k + 1 => tk s k 60 (gvN S s t k) (S.1 28 (t * 10 + k))
def op_give (S : St) (x t : Int32) : Op :=
  if ok x (S.2.1 0) = true then if ok t 5 = true then if anyPart S (nn t) = true then (match lack S (nn x) (nn t) with
    | some k => (0, nI k, S)
    | none => (0, -1, gvN S (nn x) (nn t) 10)) else (2, 0, S) else (1, 0, S) else (1, 0, S)
def op_back (S : St) (x y n : Int32) : Op :=
  if ok x (S.2.1 0) = true then if ok y (S.2.1 2) = true then if rg n 1 9999 = true then if S.1 2 (nn y) < nn n then (0, 0, S) else
    if S.1 25 (nn x * 60 + nn y) + nn n ≤ 9999 then (0, 1, S_a (S_a S 2 (nn y) (S.1 2 (nn y) - nn n)) 25 (nn x * 60 + nn y) (S.1 25 (nn x * 60 + nn y) + nn n)) else (3, 0, S) else (2, 0, S) else (1, 0, S) else (1, 0, S)
def op_waste (S : St) (x y n w : Int32) : Op :=
  if ok x (S.2.1 0) = true then if ok y (S.2.1 2) = true then if rg n 1 9999 = true then if rg w 1 9999 = true then if nn n ≤ S.1 25 (nn x * 60 + nn y) then
    (0, nI (S.1 3 (nn y) + nn n), S_a (S_a (S_a S 25 (nn x * 60 + nn y) (S.1 25 (nn x * 60 + nn y) - nn n)) 3 (nn y) (S.1 3 (nn y) + nn n)) 4 (nn y) (nn w)) else (3, 0, S) else (2, 0, S) else (2, 0, S) else (1, 0, S) else (1, 0, S)
def allIn (S : St) (l : Nat) : Nat := sIf (fun _ => true) (fun s => S.1 25 (s * 60 + l)) (S.2.1 0)
def op_lotAt (S : St) (y w : Int32) : Op := if ok y (S.2.1 2) = true then if w = 5 then (0, nI (allIn S (nn y)), S) else if ok w 5 = true then (0, nI (S.1 (nn w) (nn y)), S) else (1, 0, S) else (1, 0, S)
def op_row (S : St) (h v : Int32) : Op :=
  if rg h 0 99999 = true then if rg v 0 99999 = true then if S.2.1 7 = 0 ∨ (S.1 29 (S.2.1 7 - 1) < nn h ∧ S.1 30 (S.2.1 7 - 1) < nn v) then if S.2.1 7 < 10 then
    (0, nI (S.2.1 7 + 1), S_g (S_a (S_a S 29 (S.2.1 7) (nn h)) 30 (S.2.1 7) (nn v)) 7 (S.2.1 7 + 1)) else (3, 0, S) else (2, 0, S) else (1, 0, S) else (1, 0, S)
/-- the last of the rows below i that isn't above h -/
def lna (S : St) (h : Nat) : Nat → Option Nat
  | 0 => none
  | i + 1 => if S.1 29 i ≤ h then some i else lna S h i
def dipv (S : St) (h : Nat) : Int32 := match lna S h (S.2.1 7) with
  | none => -1
  | some b => if S.1 29 b = h then nI (S.1 30 b) else if b + 1 < S.2.1 7 then nI (S.1 30 b + (S.1 30 (b + 1) - S.1 30 b) * (h - S.1 29 b) / (S.1 29 (b + 1) - S.1 29 b)) else -1
def op_dip (S : St) (h : Int32) : Op := if rg h 0 99999 = true then (0, dipv S (nn h), S) else (1, 0, S)
def due (S : St) (D i : Nat) : Bool := decide (S.1 9 i = 1) && decide (S.1 8 i ≤ D)
def arr (S : St) (D : Nat) : Nat → St
  | 0 => S
  | i + 1 => if due (arr S D i) D i = true then come (arr S D i) i else arr S D i
def arrC (S : St) (D : Nat) : Nat → Nat
  | 0 => 0
  | i + 1 => arrC S D i + (if due (arr S D i) D i = true then 1 else 0)
def op_tick (S : St) (d : Int32) : Op :=
  if rg d 1 1000 = true then if S.2.1 1 + nn d ≤ 9999 then (0, nI (arrC (S_g S 1 (S.2.1 1 + nn d)) (S.2.1 1 + nn d) (S.2.1 3)), arr (S_g S 1 (S.2.1 1 + nn d)) (S.2.1 1 + nn d) (S.2.1 3)) else (1, 0, S) else (1, 0, S)
end
section
theorem bgT {w : Cond} (h : w ∈ tables_1) (hg : goodWord w = true) : w ∈ bg := List.mem_filter.mpr ⟨List.mem_append_right _ h, hg⟩
theorem bg1 {w : Cond} (k : Nat) (h : tables_1_1[k]? = some w) (hg : goodWord w = true) : w ∈ bg := bgT (List.mem_append_left _ (List.mem_of_getElem? h)) hg
theorem bg2 {w : Cond} (k : Nat) (h : tables_1_2[k]? = some w) (hg : goodWord w = true) : w ∈ bg := bgT (List.mem_append_right _ (List.mem_append_left _ (List.mem_of_getElem? h))) hg
theorem bg3 {w : Cond} (k : Nat) (h : tables_1_3[k]? = some w) (hg : goodWord w = true) : w ∈ bg := bgT (List.mem_append_right _ (List.mem_append_right _ (List.mem_append_left _ (List.mem_of_getElem? h)))) hg
theorem bg4 {w : Cond} (k : Nat) (h : tables_1_4[k]? = some w) (hg : goodWord w = true) : w ∈ bg := bgT (List.mem_append_right _ (List.mem_append_right _ (List.mem_append_right _ (List.mem_of_getElem? h)))) hg
theorem wp_0 : Cond.selects R_X y_X_orderByLevel y_X_orderByLevel ∈ bg := bgm 0 rfl rfl
theorem wp_1 : Cond.selects R_X y_X_inStore y_X_inStore ∈ bg := bgm 1 rfl rfl
theorem wp_2 : Cond.selects R_X y_X_isGoodOn y_X_isGoodOn ∈ bg := bgm 2 rfl rfl
theorem wp_3 : Cond.selects R_X y_X_onTheWay y_X_onTheWay ∈ bg := bgm 3 rfl rfl
theorem wp_4 : Cond.selects R_X y_X_inOpenOrders y_X_inOpenOrders ∈ bg := bgm 4 rfl rfl
theorem wp_5 : Cond.selects R_X y_X_addOrder y_X_addOrder ∈ bg := bgm 5 rfl rfl
theorem wp_7 : Cond.selects R_X y_X_needStore y_X_needStore ∈ bg := bgm 7 rfl rfl
theorem wp_8 : Cond.selects R_X y_X_needLot y_X_needLot ∈ bg := bgm 8 rfl rfl
theorem wp_9 : Cond.selects R_X y_X_needPlace y_X_needPlace ∈ bg := bgm 9 rfl rfl
theorem wp_10 : Cond.selects R_X y_X_change y_X_change ∈ bg := bgm 10 rfl rfl
theorem wp_11 : Cond.selects R_X y_X_needThere y_X_needThere ∈ bg := bgm 11 rfl rfl
theorem wp_12 : Cond.selects R_X y_X_arrive y_X_arrive ∈ bg := bgm 12 rfl rfl
theorem wp_13 : Cond.selects R_X y_X_addUpToMost y_X_addUpToMost ∈ bg := bgm 13 rfl rfl
theorem wp_14 : Cond.selects R_X y_X_take y_X_take ∈ bg := bgm 14 rfl rfl
theorem wp_15 : Cond.selects R_X y_X_firstToTake y_X_firstToTake ∈ bg := bgm 15 rfl rfl
theorem wp_16 : Cond.selects R_X y_X_isTakenBefore y_X_isTakenBefore ∈ bg := bgm 16 rfl rfl
theorem wp_17 : Cond.selects R_X y_X_hasParts y_X_hasParts ∈ bg := bgm 17 rfl rfl
theorem wp_18 : Cond.selects R_X y_X_lackingKind y_X_lackingKind ∈ bg := bgm 18 rfl rfl
theorem wp_19 : Cond.selects R_X y_X_inAllStores y_X_inAllStores ∈ bg := bgm 19 rfl rfl
theorem wp_20 : Cond.selects R_H y_H_lastNotAbove y_H_lastNotAbove ∈ bg := bgm 20 rfl rfl
theorem wp_21 : Cond.selects R_H y_H_litresBetween y_H_litresBetween ∈ bg := bgm 21 rfl rfl
theorem wp_22 : Cond.selects R_M y_M_goes y_M_goes ∈ bg := bgm 22 rfl rfl
theorem wp_23 : Cond.selects R_M y_M_isStore y_M_isStore ∈ bg := bgm 23 rfl rfl
theorem wp_24 : Cond.selects R_M y_M_isLot y_M_isLot ∈ bg := bgm 24 rfl rfl
theorem wp_25 : Cond.selects R_M y_M_at y_M_at ∈ bg := bgm 25 rfl rfl
theorem wp_26 : Cond.selects R_M y_M_comes y_M_comes ∈ bg := bgm 26 rfl rfl
theorem wp_27 : Cond.selects R_M y_M_good y_M_good ∈ bg := bgm 27 rfl rfl
theorem wp_28 : Cond.selects R_M y_M_isGood y_M_isGood ∈ bg := bgm 28 rfl rfl
theorem wp_29 : Cond.selects R_M y_M_takes y_M_takes ∈ bg := bgm 29 rfl rfl
theorem wp_30 : Cond.selects R_M y_M_expected y_M_expected ∈ bg := bgm 30 rfl rfl
theorem wp_31 : Cond.selects R_M y_M_makes y_M_makes ∈ bg := bgm 31 rfl rfl
theorem wd_0 : Cond.initialized R_L ∈ bg := bg1 0 rfl rfl
theorem wd_1 : Cond.initialized R_X ∈ bg := bg1 1 rfl rfl
theorem wd_2 : Cond.initialized R_W ∈ bg := bg1 2 rfl rfl
theorem wd_3 : Cond.initialized "java/lang/Math" ∈ bg := bg1 3 rfl rfl
theorem wd_4 : Cond.initialized R_H ∈ bg := bg1 4 rfl rfl
theorem wd_5 : Cond.initialized R_M ∈ bg := bg1 5 rfl rfl
theorem wd_6 : Cond.initialized "java/lang/Throwable" ∈ bg := bg1 6 rfl rfl
theorem wd_7 : Cond.initialized "java/lang/Exception" ∈ bg := bg1 7 rfl rfl
theorem wd_8 : Cond.initialized "java/lang/RuntimeException" ∈ bg := bg1 8 rfl rfl
theorem wd_9 : Cond.initialized "java/lang/UnsupportedOperationException" ∈ bg := bg1 9 rfl rfl
theorem wd_10 : Cond.initialized "java/lang/IllegalArgumentException" ∈ bg := bg1 10 rfl rfl
theorem wd_11 : Cond.initialized "java/lang/IndexOutOfBoundsException" ∈ bg := bg1 11 rfl rfl
theorem wd_12 : Cond.initialized "java/lang/IllegalStateException" ∈ bg := bg1 12 rfl rfl
theorem wd_13 : Cond.classLink R_L 8 R_X ∈ bg := bg1 13 rfl rfl
theorem wd_14 : Cond.instantiable R_X 12 ∈ bg := bg1 14 rfl rfl
theorem wd_15 : Cond.methodLink R_L 92 y_X_init ∈ bg := bg1 15 rfl rfl
theorem wd_16 : Cond.instanceMethod y_X_init ∈ bg := bg1 16 rfl rfl
theorem wd_17 : Cond.code y_X_init prog_1_method_1_code 1 (none : Option FieldType) ∈ bg := bg1 17 rfl rfl
theorem wd_18 : Cond.methodLink R_X 1 ⟨"java/lang/Object", "<init>", "()V"⟩ ∈ bg := bg1 18 rfl rfl
theorem wd_19 : Cond.instanceMethod ⟨"java/lang/Object", "<init>", "()V"⟩ ∈ bg := bg1 19 rfl rfl
theorem wd_20 : Cond.code ⟨"java/lang/Object", "<init>", "()V"⟩ object_method_1_code 1 (none : Option FieldType) ∈ bg := bg1 20 rfl rfl
theorem wd_21 : Cond.classLink R_X 7 R_W ∈ bg := bg1 21 rfl rfl
theorem wd_22 : Cond.instantiable R_W 3 ∈ bg := bg1 22 rfl rfl
theorem wd_23 : Cond.methodLink R_X 11 y_W_init ∈ bg := bg1 23 rfl rfl
theorem wd_24 : Cond.instanceMethod y_W_init ∈ bg := bg1 24 rfl rfl
theorem wd_25 : Cond.code y_W_init prog_2_method_1_code 2 (none : Option FieldType) ∈ bg := bg1 25 rfl rfl
theorem wd_26 : Cond.methodLink R_W 1 ⟨"java/lang/Object", "<init>", "()V"⟩ ∈ bg := bg1 26 rfl rfl
theorem wd_27 : Cond.methodLink R_W 7 ⟨"java/lang/Math", "max", "(II)I"⟩ ∈ bg := bg1 27 rfl rfl
theorem wd_28 : Cond.static ⟨"java/lang/Math", "max", "(II)I"⟩ ∈ bg := bg1 28 rfl rfl
theorem wd_29 : Cond.code ⟨"java/lang/Math", "max", "(II)I"⟩ prog_10_method_65_code 2 (some .int) ∈ bg := bg1 29 rfl rfl
theorem wd_30 : Cond.fieldLink R_W 13 R_W "room" "I" ∈ bg := bg1 30 rfl rfl
theorem wd_31 : Cond.fieldLink R_W 19 R_W "cells" "[I" ∈ bg := bg1 31 rfl rfl
theorem wd_32 : Cond.fieldLink R_W 23 R_W "made" "I" ∈ bg := bg1 32 rfl rfl
theorem wd_33 : Cond.laysFinal R_W R_W "room" "I" ∈ bg := bg1 33 rfl rfl
theorem wd_35 : Cond.laysFinal R_W R_W "cells" "[I" ∈ bg := bg1 35 rfl rfl
theorem wd_37 : Cond.lays R_W R_W "made" "I" ∈ bg := bg1 37 rfl rfl
theorem wd_40 : Cond.arrayClass .int ∈ bg := bg1 40 rfl rfl
theorem wd_41 : Cond.classLink R_X 30 R_H ∈ bg := bg1 41 rfl rfl
theorem wd_42 : Cond.instantiable R_H 3 ∈ bg := bg1 42 rfl rfl
theorem wd_44 : Cond.instanceMethod y_H_init ∈ bg := bg1 44 rfl rfl
theorem wd_45 : Cond.code y_H_init prog_3_method_1_code 1 (none : Option FieldType) ∈ bg := bg1 45 rfl rfl
theorem wd_46 : Cond.methodLink R_H 3 ⟨"java/lang/Object", "<init>", "()V"⟩ ∈ bg := bg1 46 rfl rfl
theorem wd_47 : Cond.fieldLink R_H 9 R_H "heights" "[I" ∈ bg := bg1 47 rfl rfl
theorem wd_48 : Cond.fieldLink R_H 15 R_H "litres" "[I" ∈ bg := bg1 48 rfl rfl
theorem wd_49 : Cond.fieldLink R_H 18 R_H "made" "I" ∈ bg := bg1 49 rfl rfl
theorem wd_50 : Cond.laysFinal R_H R_H "heights" "[I" ∈ bg := bg1 50 rfl rfl
theorem wd_52 : Cond.laysFinal R_H R_H "litres" "[I" ∈ bg := bg1 52 rfl rfl
theorem wd_54 : Cond.lays R_H R_H "made" "I" ∈ bg := bg1 54 rfl rfl
theorem wd_57 : Cond.fieldLink R_X 14 R_X "lotRows" "LStockRows2$Rows;" ∈ bg := bg1 57 rfl rfl
theorem wd_58 : Cond.fieldLink R_X 18 R_X "moveRows" "LStockRows2$Rows;" ∈ bg := bg1 58 rfl rfl
theorem wd_59 : Cond.fieldLink R_X 21 R_X "orderRows" "LStockRows2$Rows;" ∈ bg := bg1 59 rfl rfl
theorem wd_60 : Cond.fieldLink R_X 24 R_X "emergencyRows" "LStockRows2$Rows;" ∈ bg := bg1 60 rfl rfl
theorem wd_61 : Cond.fieldLink R_X 27 R_X "differenceRows" "LStockRows2$Rows;" ∈ bg := bg1 61 rfl rfl
theorem wd_62 : Cond.fieldLink R_X 33 R_X "table" "LStockRows2$Table;" ∈ bg := bg1 62 rfl rfl
theorem wd_63 : Cond.fieldLink R_X 37 R_X "there" "[I" ∈ bg := bg1 63 rfl rfl
theorem wd_64 : Cond.fieldLink R_X 41 R_X "least" "[I" ∈ bg := bg1 64 rfl rfl
theorem wd_65 : Cond.fieldLink R_X 44 R_X "most" "[I" ∈ bg := bg1 65 rfl rfl
theorem wd_66 : Cond.fieldLink R_X 47 R_X "parts" "[I" ∈ bg := bg1 66 rfl rfl
theorem wd_67 : Cond.fieldLink R_X 50 R_X "stores" "I" ∈ bg := bg1 67 rfl rfl
theorem wd_68 : Cond.fieldLink R_X 100 R_X "day" "I" ∈ bg := bg1 68 rfl rfl
theorem wd_69 : Cond.laysFinal R_X R_X "lotRows" "LStockRows2$Rows;" ∈ bg := bg1 69 rfl rfl
theorem wd_71 : Cond.laysFinal R_X R_X "moveRows" "LStockRows2$Rows;" ∈ bg := bg1 71 rfl rfl
theorem wd_73 : Cond.laysFinal R_X R_X "orderRows" "LStockRows2$Rows;" ∈ bg := bg1 73 rfl rfl
theorem wd_75 : Cond.laysFinal R_X R_X "emergencyRows" "LStockRows2$Rows;" ∈ bg := bg1 75 rfl rfl
theorem wd_77 : Cond.laysFinal R_X R_X "differenceRows" "LStockRows2$Rows;" ∈ bg := bg1 77 rfl rfl
theorem wd_79 : Cond.laysFinal R_X R_X "table" "LStockRows2$Table;" ∈ bg := bg1 79 rfl rfl
theorem wd_81 : Cond.laysFinal R_X R_X "there" "[I" ∈ bg := bg1 81 rfl rfl
theorem wd_83 : Cond.laysFinal R_X R_X "least" "[I" ∈ bg := bg1 83 rfl rfl
theorem wd_85 : Cond.laysFinal R_X R_X "most" "[I" ∈ bg := bg1 85 rfl rfl
theorem wd_87 : Cond.laysFinal R_X R_X "parts" "[I" ∈ bg := bg1 87 rfl rfl
theorem wd_89 : Cond.lays R_X R_X "stores" "I" ∈ bg := bg1 89 rfl rfl
theorem wd_91 : Cond.lays R_X R_X "day" "I" ∈ bg := bg1 91 rfl rfl
theorem wd_94 : Cond.methodLink R_L 130 y_X_orders ∈ bg := bg1 94 rfl rfl
theorem wd_95 : Cond.instanceMethod y_X_orders ∈ bg := bg1 95 rfl rfl
theorem wd_96 : Cond.selects R_X y_X_orders y_X_orders ∈ bg := bg1 96 rfl rfl
theorem wd_97 : Cond.code y_X_orders prog_1_method_10_code 4 (some .int) ∈ bg := bg1 97 rfl rfl
theorem wd_98 : Cond.methodLink R_X 126 y_W_made ∈ bg := bg1 98 rfl rfl
theorem wd_99 : Cond.instanceMethod y_W_made ∈ bg := bg1 99 rfl rfl
theorem wd_100 : Cond.selects R_W y_W_made y_W_made ∈ bg := bg1 100 rfl rfl
theorem wd_101 : Cond.code y_W_made prog_2_method_2_code 1 (some .int) ∈ bg := bg1 101 rfl rfl
theorem wd_102 : Cond.methodLink R_X 130 y_X_orderByLevel ∈ bg := bg1 102 rfl rfl
theorem wd_104 : Cond.instanceMethod y_X_orderByLevel ∈ bg := bg1 104 rfl rfl
theorem wd_105 : Cond.code y_X_orderByLevel prog_1_method_46_code 5 (none : Option FieldType) ∈ bg := bg1 105 rfl rfl
theorem wd_106 : Cond.methodLink R_X 123 y_X_pair ∈ bg := bg1 106 rfl rfl
theorem wd_107 : Cond.static y_X_pair ∈ bg := bg1 107 rfl rfl
theorem wd_108 : Cond.code y_X_pair prog_1_method_37_code 2 (some .int) ∈ bg := bg1 108 rfl rfl
theorem wd_109 : Cond.methodLink R_X 222 y_W_isFull ∈ bg := bg1 109 rfl rfl
theorem wd_110 : Cond.instanceMethod y_W_isFull ∈ bg := bg1 110 rfl rfl
theorem wd_111 : Cond.selects R_W y_W_isFull y_W_isFull ∈ bg := bg1 111 rfl rfl
theorem wd_112 : Cond.code y_W_isFull prog_2_method_3_code 1 (some .boolean) ∈ bg := bg1 112 rfl rfl
theorem wd_113 : Cond.methodLink R_X 106 y_X_inStore ∈ bg := bg1 113 rfl rfl
theorem wd_115 : Cond.instanceMethod y_X_inStore ∈ bg := bg1 115 rfl rfl
theorem wd_116 : Cond.code y_X_inStore prog_1_method_42_code 6 (some .int) ∈ bg := bg1 116 rfl rfl
theorem wd_117 : Cond.methodLink R_X 142 y_W_at ∈ bg := bg1 117 rfl rfl
theorem wd_118 : Cond.instanceMethod y_W_at ∈ bg := bg1 118 rfl rfl
theorem wd_119 : Cond.selects R_W y_W_at y_W_at ∈ bg := bg1 119 rfl rfl
theorem wd_120 : Cond.code y_W_at prog_2_method_6_code 3 (some .int) ∈ bg := bg1 120 rfl rfl
theorem wd_121 : Cond.methodLink R_X 233 y_X_isGoodOn ∈ bg := bg1 121 rfl rfl
theorem wd_123 : Cond.instanceMethod y_X_isGoodOn ∈ bg := bg1 123 rfl rfl
theorem wd_124 : Cond.code y_X_isGoodOn prog_1_method_41_code 3 (some .boolean) ∈ bg := bg1 124 rfl rfl
theorem wd_125 : Cond.methodLink R_X 88 y_X_place ∈ bg := bg1 125 rfl rfl
theorem wd_126 : Cond.static y_X_place ∈ bg := bg1 126 rfl rfl
theorem wd_127 : Cond.code y_X_place prog_1_method_36_code 2 (some .int) ∈ bg := bg1 127 rfl rfl
theorem wd_128 : Cond.methodLink R_X 118 y_X_onTheWay ∈ bg := bg1 128 rfl rfl
theorem wd_130 : Cond.instanceMethod y_X_onTheWay ∈ bg := bg1 130 rfl rfl
theorem wd_131 : Cond.code y_X_onTheWay prog_1_method_44_code 7 (some .int) ∈ bg := bg1 131 rfl rfl
theorem wd_132 : Cond.methodLink R_X 236 y_X_inOpenOrders ∈ bg := bg1 132 rfl rfl
theorem wd_134 : Cond.instanceMethod y_X_inOpenOrders ∈ bg := bg1 134 rfl rfl
theorem wd_135 : Cond.code y_X_inOpenOrders prog_1_method_45_code 5 (some .int) ∈ bg := bg1 135 rfl rfl
theorem wd_136 : Cond.methodLink R_X 162 y_X_addOrder ∈ bg := bg1 136 rfl rfl
theorem wd_138 : Cond.instanceMethod y_X_addOrder ∈ bg := bg1 138 rfl rfl
theorem wd_139 : Cond.code y_X_addOrder prog_1_method_47_code 4 (some .int) ∈ bg := bg1 139 rfl rfl
theorem wd_140 : Cond.methodLink R_X 72 y_W_add ∈ bg := bg1 140 rfl rfl
theorem wd_141 : Cond.instanceMethod y_W_add ∈ bg := bg1 141 rfl rfl
theorem wd_142 : Cond.selects R_W y_W_add y_W_add ∈ bg := bg1 142 rfl rfl
theorem wd_143 : Cond.code y_W_add prog_2_method_8_code 7 (some .int) ∈ bg := bg1 143 rfl rfl
theorem wd_144 : Cond.methodLink R_W 26 y_W_put ∈ bg := bg1 144 rfl rfl
theorem wd_145 : Cond.instanceMethod y_W_put ∈ bg := bg1 145 rfl rfl
theorem wd_146 : Cond.selects R_W y_W_put y_W_put ∈ bg := bg1 146 rfl rfl
theorem wd_147 : Cond.code y_W_put prog_2_method_7_code 4 (none : Option FieldType) ∈ bg := bg1 147 rfl rfl
theorem wd_148 : Cond.methodLink R_L 96 y_L_store ∈ bg := bg1 148 rfl rfl
theorem wd_149 : Cond.static y_L_store ∈ bg := bg1 149 rfl rfl
theorem wd_150 : Cond.codeWith y_L_store method_3_code 3 (some .int) [(0, 8, 11, 13)] ∈ bg := bg1 150 rfl rfl
theorem wd_151 : Cond.classLink R_L 13 "java/lang/UnsupportedOperationException" ∈ bg := bg1 151 rfl rfl
theorem wd_152 : Cond.methodLink R_L 7 y_X_store ∈ bg := bg1 152 rfl rfl
theorem wd_153 : Cond.instanceMethod y_X_store ∈ bg := bg1 153 rfl rfl
theorem wd_154 : Cond.selects R_X y_X_store y_X_store ∈ bg := bg1 154 rfl rfl
theorem wd_155 : Cond.code y_X_store prog_1_method_2_code 1 (some .int) ∈ bg := bg1 155 rfl rfl
theorem wd_156 : Cond.classLink R_X 54 "java/lang/UnsupportedOperationException" ∈ bg := bg1 156 rfl rfl
theorem wd_157 : Cond.instantiable "java/lang/UnsupportedOperationException" 6 ∈ bg := bg1 157 rfl rfl
theorem wd_165 : Cond.selects "java/lang/UnsupportedOperationException" ⟨"java/lang/Throwable", "fillInStackTrace", "(I)Ljava/lang/Throwable;"⟩ ⟨"java/lang/Throwable", "fillInStackTrace", "(I)Ljava/lang/Throwable;"⟩ ∈ bg := bg1 165 rfl rfl
theorem wd_166 : Cond.selects "java/lang/UnsupportedOperationException" ⟨"java/lang/Throwable", "fillInStackTrace", "()Ljava/lang/Throwable;"⟩ ⟨"java/lang/Throwable", "fillInStackTrace", "()Ljava/lang/Throwable;"⟩ ∈ bg := bg1 166 rfl rfl
theorem wd_167 : Cond.lays "java/lang/UnsupportedOperationException" "java/lang/Throwable" "cause" "Ljava/lang/Throwable;" ∈ bg := bg1 167 rfl rfl
theorem wd_168 : Cond.lays "java/lang/Throwable" "java/lang/Throwable" "cause" "Ljava/lang/Throwable;" ∈ bg := bg1 168 rfl rfl
theorem wd_169 : Cond.lays "java/lang/UnsupportedOperationException" "java/lang/Throwable" "stackTrace" "[Ljava/lang/StackTraceElement;" ∈ bg := bg1 169 rfl rfl
theorem wd_170 : Cond.lays "java/lang/Throwable" "java/lang/Throwable" "stackTrace" "[Ljava/lang/StackTraceElement;" ∈ bg := bg1 170 rfl rfl
theorem wd_171 : Cond.lays "java/lang/UnsupportedOperationException" "java/lang/Throwable" "suppressedExceptions" "Ljava/util/List;" ∈ bg := bg1 171 rfl rfl
theorem wd_172 : Cond.lays "java/lang/Throwable" "java/lang/Throwable" "suppressedExceptions" "Ljava/util/List;" ∈ bg := bg1 172 rfl rfl
theorem wd_173 : Cond.lays "java/lang/UnsupportedOperationException" "java/lang/Throwable" "detailMessage" "Ljava/lang/String;" ∈ bg := bg1 173 rfl rfl
theorem wd_174 : Cond.lays "java/lang/Throwable" "java/lang/Throwable" "detailMessage" "Ljava/lang/String;" ∈ bg := bg1 174 rfl rfl
theorem wd_175 : Cond.lays "java/lang/UnsupportedOperationException" "java/lang/Throwable" "backtrace" "Ljava/lang/Object;" ∈ bg := bg1 175 rfl rfl
theorem wd_176 : Cond.lays "java/lang/Throwable" "java/lang/Throwable" "backtrace" "Ljava/lang/Object;" ∈ bg := bg1 176 rfl rfl
theorem wd_177 : Cond.fieldLink "java/lang/Throwable" 198 "java/lang/Throwable" "backtrace" "Ljava/lang/Object;" ∈ bg := bg1 177 rfl rfl
theorem wd_179 : Cond.instanceMethod ⟨"java/lang/Throwable", "<init>", "()V"⟩ ∈ bg := bg1 179 rfl rfl
theorem wd_180 : Cond.code ⟨"java/lang/Throwable", "<init>", "()V"⟩ prog_13_method_1_code 1 (none : Option FieldType) ∈ bg := bg1 180 rfl rfl
theorem wd_181 : Cond.methodLink "java/lang/Throwable" 1 ⟨"java/lang/Object", "<init>", "()V"⟩ ∈ bg := bg1 181 rfl rfl
theorem wd_182 : Cond.fieldLink "java/lang/Throwable" 13 "java/lang/Throwable" "UNASSIGNED_STACK" "[Ljava/lang/StackTraceElement;" ∈ bg := bg1 182 rfl rfl
theorem wd_184 : Cond.fieldLink "java/lang/Throwable" 20 "java/lang/Throwable" "SUPPRESSED_SENTINEL" "Ljava/util/List;" ∈ bg := bg1 184 rfl rfl
theorem wd_186 : Cond.methodLink "java/lang/Throwable" 27 ⟨"java/lang/Throwable", "fillInStackTrace", "()Ljava/lang/Throwable;"⟩ ∈ bg := bg1 186 rfl rfl
theorem wd_187 : Cond.instanceMethod ⟨"java/lang/Throwable", "fillInStackTrace", "()Ljava/lang/Throwable;"⟩ ∈ bg := bg1 187 rfl rfl
theorem wd_189 : Cond.selects "java/lang/IllegalArgumentException" ⟨"java/lang/Throwable", "fillInStackTrace", "()Ljava/lang/Throwable;"⟩ ⟨"java/lang/Throwable", "fillInStackTrace", "()Ljava/lang/Throwable;"⟩ ∈ bg := bg1 189 rfl rfl
theorem wd_190 : Cond.selects "java/lang/IllegalStateException" ⟨"java/lang/Throwable", "fillInStackTrace", "()Ljava/lang/Throwable;"⟩ ⟨"java/lang/Throwable", "fillInStackTrace", "()Ljava/lang/Throwable;"⟩ ∈ bg := bg1 190 rfl rfl
theorem wd_191 : Cond.selects "java/lang/IndexOutOfBoundsException" ⟨"java/lang/Throwable", "fillInStackTrace", "()Ljava/lang/Throwable;"⟩ ⟨"java/lang/Throwable", "fillInStackTrace", "()Ljava/lang/Throwable;"⟩ ∈ bg := bg1 191 rfl rfl
theorem wd_193 : Cond.methodLink "java/lang/Throwable" 202 ⟨"java/lang/Throwable", "fillInStackTrace", "(I)Ljava/lang/Throwable;"⟩ ∈ bg := bg1 193 rfl rfl
theorem wd_195 : Cond.instanceMethod ⟨"java/lang/Throwable", "fillInStackTrace", "(I)Ljava/lang/Throwable;"⟩ ∈ bg := bg1 195 rfl rfl
theorem wd_196 : Cond.instantiable "java/lang/Throwable" 6 ∈ bg := bg1 196 rfl rfl
theorem wd_199 : Cond.methodLink R_X 58 ⟨"java/lang/UnsupportedOperationException", "<init>", "(Ljava/lang/String;)V"⟩ ∈ bg := bg1 199 rfl rfl
theorem wd_200 : Cond.instanceMethod ⟨"java/lang/UnsupportedOperationException", "<init>", "(Ljava/lang/String;)V"⟩ ∈ bg := bg1 200 rfl rfl
theorem wd_201 : Cond.code ⟨"java/lang/UnsupportedOperationException", "<init>", "(Ljava/lang/String;)V"⟩ prog_14_method_2_code 2 (none : Option FieldType) ∈ bg := bg1 201 rfl rfl
theorem wd_202 : Cond.methodLink "java/lang/UnsupportedOperationException" 7 ⟨"java/lang/RuntimeException", "<init>", "(Ljava/lang/String;)V"⟩ ∈ bg := bg1 202 rfl rfl
theorem wd_203 : Cond.instanceMethod ⟨"java/lang/RuntimeException", "<init>", "(Ljava/lang/String;)V"⟩ ∈ bg := bg1 203 rfl rfl
theorem wd_204 : Cond.code ⟨"java/lang/RuntimeException", "<init>", "(Ljava/lang/String;)V"⟩ prog_11_method_2_code 2 (none : Option FieldType) ∈ bg := bg1 204 rfl rfl
theorem wd_205 : Cond.methodLink "java/lang/RuntimeException" 7 ⟨"java/lang/Exception", "<init>", "(Ljava/lang/String;)V"⟩ ∈ bg := bg1 205 rfl rfl
theorem wd_206 : Cond.instanceMethod ⟨"java/lang/Exception", "<init>", "(Ljava/lang/String;)V"⟩ ∈ bg := bg1 206 rfl rfl
theorem wd_207 : Cond.code ⟨"java/lang/Exception", "<init>", "(Ljava/lang/String;)V"⟩ prog_6_method_2_code 2 (none : Option FieldType) ∈ bg := bg1 207 rfl rfl
theorem wd_208 : Cond.methodLink "java/lang/Exception" 7 ⟨"java/lang/Throwable", "<init>", "(Ljava/lang/String;)V"⟩ ∈ bg := bg1 208 rfl rfl
theorem wd_209 : Cond.instanceMethod ⟨"java/lang/Throwable", "<init>", "(Ljava/lang/String;)V"⟩ ∈ bg := bg1 209 rfl rfl
theorem wd_210 : Cond.code ⟨"java/lang/Throwable", "<init>", "(Ljava/lang/String;)V"⟩ prog_13_method_2_code 2 (none : Option FieldType) ∈ bg := bg1 210 rfl rfl
theorem wd_212 : Cond.fieldLink "java/lang/Throwable" 31 "java/lang/Throwable" "detailMessage" "Ljava/lang/String;" ∈ bg := bg1 212 rfl rfl
theorem wd_213 : Cond.fieldLink "java/lang/Throwable" 7 "java/lang/Throwable" "cause" "Ljava/lang/Throwable;" ∈ bg := bg1 213 rfl rfl
theorem wd_214 : Cond.fieldLink "java/lang/Throwable" 17 "java/lang/Throwable" "stackTrace" "[Ljava/lang/StackTraceElement;" ∈ bg := bg1 214 rfl rfl
theorem wd_215 : Cond.fieldLink "java/lang/Throwable" 24 "java/lang/Throwable" "suppressedExceptions" "Ljava/util/List;" ∈ bg := bg1 215 rfl rfl
theorem wd_220 : Cond.lays "java/lang/UnsupportedOperationException" "java/lang/Throwable" "depth" "I" ∈ bg := bg1 220 rfl rfl
theorem wd_224 : Cond.arrayClass .byte ∈ bg := bg1 224 rfl rfl
theorem wd_225 : Cond.methodLink R_L 105 y_L_lot ∈ bg := bg1 225 rfl rfl
theorem wd_226 : Cond.static y_L_lot ∈ bg := bg1 226 rfl rfl
theorem wd_227 : Cond.codeWith y_L_lot method_4_code 5 (some .int) [(0, 10, 13, 19), (0, 10, 17, 21), (0, 10, 21, 13)] ∈ bg := bg1 227 rfl rfl
theorem wd_228 : Cond.classLink R_L 19 "java/lang/IllegalArgumentException" ∈ bg := bg1 228 rfl rfl
theorem wd_229 : Cond.classLink R_L 21 "java/lang/IndexOutOfBoundsException" ∈ bg := bg1 229 rfl rfl
theorem wd_230 : Cond.methodLink R_L 15 y_X_lot ∈ bg := bg1 230 rfl rfl
theorem wd_231 : Cond.instanceMethod y_X_lot ∈ bg := bg1 231 rfl rfl
theorem wd_232 : Cond.selects R_X y_X_lot y_X_lot ∈ bg := bg1 232 rfl rfl
theorem wd_233 : Cond.code y_X_lot prog_1_method_3_code 3 (some .int) ∈ bg := bg1 233 rfl rfl
theorem wd_234 : Cond.methodLink R_X 61 y_X_needKind ∈ bg := bg1 234 rfl rfl
theorem wd_235 : Cond.static y_X_needKind ∈ bg := bg1 235 rfl rfl
theorem wd_236 : Cond.code y_X_needKind prog_1_method_28_code 1 (none : Option FieldType) ∈ bg := bg1 236 rfl rfl
theorem wd_237 : Cond.classLink R_X 92 "java/lang/IllegalArgumentException" ∈ bg := bg1 237 rfl rfl
theorem wd_238 : Cond.instantiable "java/lang/IllegalArgumentException" 6 ∈ bg := bg1 238 rfl rfl
theorem wd_240 : Cond.selects "java/lang/IllegalArgumentException" ⟨"java/lang/Throwable", "fillInStackTrace", "(I)Ljava/lang/Throwable;"⟩ ⟨"java/lang/Throwable", "fillInStackTrace", "(I)Ljava/lang/Throwable;"⟩ ∈ bg := bg2 0 rfl rfl
theorem wd_241 : Cond.lays "java/lang/IllegalArgumentException" "java/lang/Throwable" "cause" "Ljava/lang/Throwable;" ∈ bg := bg2 1 rfl rfl
theorem wd_242 : Cond.lays "java/lang/IllegalArgumentException" "java/lang/Throwable" "stackTrace" "[Ljava/lang/StackTraceElement;" ∈ bg := bg2 2 rfl rfl
theorem wd_243 : Cond.lays "java/lang/IllegalArgumentException" "java/lang/Throwable" "suppressedExceptions" "Ljava/util/List;" ∈ bg := bg2 3 rfl rfl
theorem wd_244 : Cond.lays "java/lang/IllegalArgumentException" "java/lang/Throwable" "detailMessage" "Ljava/lang/String;" ∈ bg := bg2 4 rfl rfl
theorem wd_245 : Cond.lays "java/lang/IllegalArgumentException" "java/lang/Throwable" "backtrace" "Ljava/lang/Object;" ∈ bg := bg2 5 rfl rfl
theorem wd_247 : Cond.methodLink R_X 96 ⟨"java/lang/IllegalArgumentException", "<init>", "(Ljava/lang/String;)V"⟩ ∈ bg := bg2 7 rfl rfl
theorem wd_248 : Cond.instanceMethod ⟨"java/lang/IllegalArgumentException", "<init>", "(Ljava/lang/String;)V"⟩ ∈ bg := bg2 8 rfl rfl
theorem wd_249 : Cond.code ⟨"java/lang/IllegalArgumentException", "<init>", "(Ljava/lang/String;)V"⟩ prog_7_method_2_code 2 (none : Option FieldType) ∈ bg := bg2 9 rfl rfl
theorem wd_250 : Cond.methodLink "java/lang/IllegalArgumentException" 7 ⟨"java/lang/RuntimeException", "<init>", "(Ljava/lang/String;)V"⟩ ∈ bg := bg2 10 rfl rfl
theorem wd_251 : Cond.lays "java/lang/IllegalArgumentException" "java/lang/Throwable" "depth" "I" ∈ bg := bg2 11 rfl rfl
theorem wd_253 : Cond.methodLink R_X 64 y_X_needRange ∈ bg := bg2 13 rfl rfl
theorem wd_254 : Cond.static y_X_needRange ∈ bg := bg2 14 rfl rfl
theorem wd_255 : Cond.code y_X_needRange prog_1_method_31_code 3 (none : Option FieldType) ∈ bg := bg2 15 rfl rfl
theorem wd_256 : Cond.classLink R_X 213 "java/lang/IndexOutOfBoundsException" ∈ bg := bg2 16 rfl rfl
theorem wd_257 : Cond.instantiable "java/lang/IndexOutOfBoundsException" 6 ∈ bg := bg2 17 rfl rfl
theorem wd_259 : Cond.selects "java/lang/IndexOutOfBoundsException" ⟨"java/lang/Throwable", "fillInStackTrace", "(I)Ljava/lang/Throwable;"⟩ ⟨"java/lang/Throwable", "fillInStackTrace", "(I)Ljava/lang/Throwable;"⟩ ∈ bg := bg2 19 rfl rfl
theorem wd_260 : Cond.lays "java/lang/IndexOutOfBoundsException" "java/lang/Throwable" "cause" "Ljava/lang/Throwable;" ∈ bg := bg2 20 rfl rfl
theorem wd_261 : Cond.lays "java/lang/IndexOutOfBoundsException" "java/lang/Throwable" "stackTrace" "[Ljava/lang/StackTraceElement;" ∈ bg := bg2 21 rfl rfl
theorem wd_262 : Cond.lays "java/lang/IndexOutOfBoundsException" "java/lang/Throwable" "suppressedExceptions" "Ljava/util/List;" ∈ bg := bg2 22 rfl rfl
theorem wd_263 : Cond.lays "java/lang/IndexOutOfBoundsException" "java/lang/Throwable" "detailMessage" "Ljava/lang/String;" ∈ bg := bg2 23 rfl rfl
theorem wd_264 : Cond.lays "java/lang/IndexOutOfBoundsException" "java/lang/Throwable" "backtrace" "Ljava/lang/Object;" ∈ bg := bg2 24 rfl rfl
theorem wd_266 : Cond.methodLink R_X 217 ⟨"java/lang/IndexOutOfBoundsException", "<init>", "(Ljava/lang/String;)V"⟩ ∈ bg := bg2 26 rfl rfl
theorem wd_267 : Cond.instanceMethod ⟨"java/lang/IndexOutOfBoundsException", "<init>", "(Ljava/lang/String;)V"⟩ ∈ bg := bg2 27 rfl rfl
theorem wd_268 : Cond.code ⟨"java/lang/IndexOutOfBoundsException", "<init>", "(Ljava/lang/String;)V"⟩ prog_9_method_2_code 2 (none : Option FieldType) ∈ bg := bg2 28 rfl rfl
theorem wd_269 : Cond.methodLink "java/lang/IndexOutOfBoundsException" 7 ⟨"java/lang/RuntimeException", "<init>", "(Ljava/lang/String;)V"⟩ ∈ bg := bg2 29 rfl rfl
theorem wd_270 : Cond.lays "java/lang/IndexOutOfBoundsException" "java/lang/Throwable" "depth" "I" ∈ bg := bg2 30 rfl rfl
theorem wd_272 : Cond.methodLink R_X 68 y_X_needRoom ∈ bg := bg2 32 rfl rfl
theorem wd_273 : Cond.static y_X_needRoom ∈ bg := bg2 33 rfl rfl
theorem wd_274 : Cond.code y_X_needRoom prog_1_method_34_code 1 (none : Option FieldType) ∈ bg := bg2 34 rfl rfl
theorem wd_276 : Cond.methodLink R_L 109 y_L_bring ∈ bg := bg2 36 rfl rfl
theorem wd_277 : Cond.static y_L_bring ∈ bg := bg2 37 rfl rfl
theorem wd_278 : Cond.codeWith y_L_bring method_5_code 6 (some .int) [(0, 12, 15, 19), (0, 12, 19, 21), (0, 12, 23, 13)] ∈ bg := bg2 38 rfl rfl
theorem wd_279 : Cond.methodLink R_L 23 y_X_bring ∈ bg := bg2 39 rfl rfl
theorem wd_280 : Cond.instanceMethod y_X_bring ∈ bg := bg2 40 rfl rfl
theorem wd_281 : Cond.selects R_X y_X_bring y_X_bring ∈ bg := bg2 41 rfl rfl
theorem wd_282 : Cond.code y_X_bring prog_1_method_4_code 4 (some .int) ∈ bg := bg2 42 rfl rfl
theorem wd_283 : Cond.methodLink R_X 76 y_X_needStore ∈ bg := bg2 43 rfl rfl
theorem wd_285 : Cond.instanceMethod y_X_needStore ∈ bg := bg2 45 rfl rfl
theorem wd_286 : Cond.code y_X_needStore prog_1_method_25_code 2 (none : Option FieldType) ∈ bg := bg2 46 rfl rfl
theorem wd_288 : Cond.methodLink R_X 79 y_X_needLot ∈ bg := bg2 48 rfl rfl
theorem wd_290 : Cond.instanceMethod y_X_needLot ∈ bg := bg2 50 rfl rfl
theorem wd_291 : Cond.code y_X_needLot prog_1_method_26_code 2 (none : Option FieldType) ∈ bg := bg2 51 rfl rfl
theorem wd_292 : Cond.methodLink R_X 138 y_X_needRow ∈ bg := bg2 52 rfl rfl
theorem wd_293 : Cond.static y_X_needRow ∈ bg := bg2 53 rfl rfl
theorem wd_294 : Cond.code y_X_needRow prog_1_method_27_code 2 (none : Option FieldType) ∈ bg := bg2 54 rfl rfl
theorem wd_295 : Cond.methodLink R_X 202 y_W_isMade ∈ bg := bg2 55 rfl rfl
theorem wd_296 : Cond.instanceMethod y_W_isMade ∈ bg := bg2 56 rfl rfl
theorem wd_297 : Cond.selects R_W y_W_isMade y_W_isMade ∈ bg := bg2 57 rfl rfl
theorem wd_298 : Cond.code y_W_isMade prog_2_method_4_code 2 (some .boolean) ∈ bg := bg2 58 rfl rfl
theorem wd_300 : Cond.methodLink R_X 82 y_X_needPlace ∈ bg := bg2 60 rfl rfl
theorem wd_302 : Cond.instanceMethod y_X_needPlace ∈ bg := bg2 62 rfl rfl
theorem wd_303 : Cond.code y_X_needPlace prog_1_method_33_code 4 (none : Option FieldType) ∈ bg := bg2 63 rfl rfl
theorem wd_305 : Cond.methodLink R_X 85 y_X_change ∈ bg := bg2 65 rfl rfl
theorem wd_307 : Cond.instanceMethod y_X_change ∈ bg := bg2 67 rfl rfl
theorem wd_308 : Cond.code y_X_change prog_1_method_38_code 4 (none : Option FieldType) ∈ bg := bg2 68 rfl rfl
theorem wd_309 : Cond.methodLink R_L 113 y_L_move ∈ bg := bg2 69 rfl rfl
theorem wd_310 : Cond.static y_L_move ∈ bg := bg2 70 rfl rfl
theorem wd_311 : Cond.codeWith y_L_move method_6_code 8 (some .int) [(0, 16, 19, 19), (0, 16, 23, 21), (0, 16, 27, 31), (0, 16, 31, 13)] ∈ bg := bg2 71 rfl rfl
theorem wd_312 : Cond.classLink R_L 31 "java/lang/IllegalStateException" ∈ bg := bg2 72 rfl rfl
theorem wd_313 : Cond.methodLink R_L 27 y_X_move ∈ bg := bg2 73 rfl rfl
theorem wd_314 : Cond.instanceMethod y_X_move ∈ bg := bg2 74 rfl rfl
theorem wd_315 : Cond.selects R_X y_X_move y_X_move ∈ bg := bg2 75 rfl rfl
theorem wd_316 : Cond.code y_X_move prog_1_method_5_code 7 (some .int) ∈ bg := bg2 76 rfl rfl
theorem wd_318 : Cond.methodLink R_X 97 y_X_needThere ∈ bg := bg2 78 rfl rfl
theorem wd_320 : Cond.instanceMethod y_X_needThere ∈ bg := bg2 80 rfl rfl
theorem wd_321 : Cond.code y_X_needThere prog_1_method_32_code 4 (none : Option FieldType) ∈ bg := bg2 81 rfl rfl
theorem wd_322 : Cond.classLink R_X 110 "java/lang/IllegalStateException" ∈ bg := bg2 82 rfl rfl
theorem wd_323 : Cond.instantiable "java/lang/IllegalStateException" 6 ∈ bg := bg2 83 rfl rfl
theorem wd_325 : Cond.selects "java/lang/IllegalStateException" ⟨"java/lang/Throwable", "fillInStackTrace", "(I)Ljava/lang/Throwable;"⟩ ⟨"java/lang/Throwable", "fillInStackTrace", "(I)Ljava/lang/Throwable;"⟩ ∈ bg := bg2 85 rfl rfl
theorem wd_326 : Cond.lays "java/lang/IllegalStateException" "java/lang/Throwable" "cause" "Ljava/lang/Throwable;" ∈ bg := bg2 86 rfl rfl
theorem wd_327 : Cond.lays "java/lang/IllegalStateException" "java/lang/Throwable" "stackTrace" "[Ljava/lang/StackTraceElement;" ∈ bg := bg2 87 rfl rfl
theorem wd_328 : Cond.lays "java/lang/IllegalStateException" "java/lang/Throwable" "suppressedExceptions" "Ljava/util/List;" ∈ bg := bg2 88 rfl rfl
theorem wd_329 : Cond.lays "java/lang/IllegalStateException" "java/lang/Throwable" "detailMessage" "Ljava/lang/String;" ∈ bg := bg2 89 rfl rfl
theorem wd_330 : Cond.lays "java/lang/IllegalStateException" "java/lang/Throwable" "backtrace" "Ljava/lang/Object;" ∈ bg := bg2 90 rfl rfl
theorem wd_332 : Cond.methodLink R_X 114 ⟨"java/lang/IllegalStateException", "<init>", "(Ljava/lang/String;)V"⟩ ∈ bg := bg2 92 rfl rfl
theorem wd_333 : Cond.instanceMethod ⟨"java/lang/IllegalStateException", "<init>", "(Ljava/lang/String;)V"⟩ ∈ bg := bg2 93 rfl rfl
theorem wd_334 : Cond.code ⟨"java/lang/IllegalStateException", "<init>", "(Ljava/lang/String;)V"⟩ prog_8_method_2_code 2 (none : Option FieldType) ∈ bg := bg2 94 rfl rfl
theorem wd_335 : Cond.methodLink "java/lang/IllegalStateException" 7 ⟨"java/lang/RuntimeException", "<init>", "(Ljava/lang/String;)V"⟩ ∈ bg := bg2 95 rfl rfl
theorem wd_336 : Cond.lays "java/lang/IllegalStateException" "java/lang/Throwable" "depth" "I" ∈ bg := bg2 96 rfl rfl
theorem wd_338 : Cond.methodLink R_X 103 y_X_arrive ∈ bg := bg2 98 rfl rfl
theorem wd_340 : Cond.instanceMethod y_X_arrive ∈ bg := bg2 100 rfl rfl
theorem wd_341 : Cond.code y_X_arrive prog_1_method_40_code 2 (none : Option FieldType) ∈ bg := bg2 101 rfl rfl
theorem wd_342 : Cond.methodLink R_X 149 y_W_put ∈ bg := bg2 102 rfl rfl
theorem wd_343 : Cond.methodLink R_X 152 y_X_addUpToMost ∈ bg := bg2 103 rfl rfl
theorem wd_345 : Cond.instanceMethod y_X_addUpToMost ∈ bg := bg2 105 rfl rfl
theorem wd_346 : Cond.code y_X_addUpToMost prog_1_method_39_code 5 (none : Option FieldType) ∈ bg := bg2 106 rfl rfl
theorem wd_347 : Cond.methodLink R_X 228 ⟨"java/lang/Math", "min", "(II)I"⟩ ∈ bg := bg2 107 rfl rfl
theorem wd_348 : Cond.static ⟨"java/lang/Math", "min", "(II)I"⟩ ∈ bg := bg2 108 rfl rfl
theorem wd_349 : Cond.code ⟨"java/lang/Math", "min", "(II)I"⟩ prog_10_method_69_code 2 (some .int) ∈ bg := bg2 109 rfl rfl
theorem wd_350 : Cond.methodLink R_L 117 y_L_use ∈ bg := bg2 110 rfl rfl
theorem wd_351 : Cond.static y_L_use ∈ bg := bg2 111 rfl rfl
theorem wd_352 : Cond.codeWith y_L_use method_7_code 6 (some .int) [(0, 12, 15, 19), (0, 12, 19, 21), (0, 12, 23, 31)] ∈ bg := bg2 112 rfl rfl
theorem wd_353 : Cond.methodLink R_L 33 y_X_use ∈ bg := bg2 113 rfl rfl
theorem wd_354 : Cond.instanceMethod y_X_use ∈ bg := bg2 114 rfl rfl
theorem wd_355 : Cond.selects R_X y_X_use y_X_use ∈ bg := bg2 115 rfl rfl
theorem wd_356 : Cond.code y_X_use prog_1_method_6_code 5 (some .int) ∈ bg := bg2 116 rfl rfl
theorem wd_358 : Cond.methodLink R_X 115 y_X_take ∈ bg := bg2 118 rfl rfl
theorem wd_360 : Cond.instanceMethod y_X_take ∈ bg := bg2 120 rfl rfl
theorem wd_361 : Cond.code y_X_take prog_1_method_48_code 8 (none : Option FieldType) ∈ bg := bg2 121 rfl rfl
theorem wd_362 : Cond.methodLink R_X 239 y_X_firstToTake ∈ bg := bg2 122 rfl rfl
theorem wd_364 : Cond.instanceMethod y_X_firstToTake ∈ bg := bg2 124 rfl rfl
theorem wd_365 : Cond.code y_X_firstToTake prog_1_method_49_code 5 (some .int) ∈ bg := bg2 125 rfl rfl
theorem wd_366 : Cond.methodLink R_X 242 y_X_isTakenBefore ∈ bg := bg2 126 rfl rfl
theorem wd_368 : Cond.instanceMethod y_X_isTakenBefore ∈ bg := bg2 128 rfl rfl
theorem wd_369 : Cond.code y_X_isTakenBefore prog_1_method_50_code 6 (some .boolean) ∈ bg := bg2 129 rfl rfl
theorem wd_370 : Cond.methodLink R_L 120 y_L_sum ∈ bg := bg2 130 rfl rfl
theorem wd_371 : Cond.static y_L_sum ∈ bg := bg2 131 rfl rfl
theorem wd_372 : Cond.codeWith y_L_sum method_8_code 6 (some .int) [(0, 12, 15, 19)] ∈ bg := bg2 132 rfl rfl
theorem wd_373 : Cond.methodLink R_L 36 y_X_sum ∈ bg := bg2 133 rfl rfl
theorem wd_374 : Cond.instanceMethod y_X_sum ∈ bg := bg2 134 rfl rfl
theorem wd_375 : Cond.selects R_X y_X_sum y_X_sum ∈ bg := bg2 135 rfl rfl
theorem wd_376 : Cond.code y_X_sum prog_1_method_7_code 4 (some .int) ∈ bg := bg2 136 rfl rfl
theorem wd_378 : Cond.methodLink R_L 123 y_L_has ∈ bg := bg2 138 rfl rfl
theorem wd_379 : Cond.static y_L_has ∈ bg := bg2 139 rfl rfl
theorem wd_380 : Cond.codeWith y_L_has method_9_code 5 (some .int) [(0, 10, 13, 19)] ∈ bg := bg2 140 rfl rfl
theorem wd_381 : Cond.methodLink R_L 39 y_X_has ∈ bg := bg2 141 rfl rfl
theorem wd_382 : Cond.instanceMethod y_X_has ∈ bg := bg2 142 rfl rfl
theorem wd_383 : Cond.selects R_X y_X_has y_X_has ∈ bg := bg2 143 rfl rfl
theorem wd_384 : Cond.code y_X_has prog_1_method_8_code 3 (some .int) ∈ bg := bg2 144 rfl rfl
theorem wd_385 : Cond.methodLink R_L 126 y_L_level ∈ bg := bg2 145 rfl rfl
theorem wd_386 : Cond.static y_L_level ∈ bg := bg2 146 rfl rfl
theorem wd_387 : Cond.codeWith y_L_level method_10_code 6 (some .int) [(0, 9, 12, 19), (0, 9, 16, 21)] ∈ bg := bg2 147 rfl rfl
theorem wd_388 : Cond.methodLink R_L 42 y_X_level ∈ bg := bg2 148 rfl rfl
theorem wd_389 : Cond.instanceMethod y_X_level ∈ bg := bg2 149 rfl rfl
theorem wd_390 : Cond.selects R_X y_X_level y_X_level ∈ bg := bg2 150 rfl rfl
theorem wd_391 : Cond.code y_X_level prog_1_method_9_code 5 (none : Option FieldType) ∈ bg := bg2 151 rfl rfl
theorem wd_392 : Cond.methodLink R_L 134 y_L_order ∈ bg := bg2 152 rfl rfl
theorem wd_393 : Cond.static y_L_order ∈ bg := bg2 153 rfl rfl
theorem wd_394 : Cond.codeWith y_L_order method_11_code 5 (some .int) [(0, 10, 13, 19)] ∈ bg := bg2 154 rfl rfl
theorem wd_395 : Cond.methodLink R_L 46 y_X_order ∈ bg := bg2 155 rfl rfl
theorem wd_396 : Cond.instanceMethod y_X_order ∈ bg := bg2 156 rfl rfl
theorem wd_397 : Cond.selects R_X y_X_order y_X_order ∈ bg := bg2 157 rfl rfl
theorem wd_398 : Cond.code y_X_order prog_1_method_11_code 3 (some .int) ∈ bg := bg2 158 rfl rfl
theorem wd_399 : Cond.methodLink R_X 134 y_X_cell ∈ bg := bg2 159 rfl rfl
theorem wd_400 : Cond.static y_X_cell ∈ bg := bg2 160 rfl rfl
theorem wd_401 : Cond.code y_X_cell prog_1_method_35_code 3 (some .int) ∈ bg := bg2 161 rfl rfl
theorem wd_402 : Cond.methodLink R_X 225 y_W_isColumn ∈ bg := bg2 162 rfl rfl
theorem wd_403 : Cond.instanceMethod y_W_isColumn ∈ bg := bg2 163 rfl rfl
theorem wd_404 : Cond.selects R_W y_W_isColumn y_W_isColumn ∈ bg := bg2 164 rfl rfl
theorem wd_405 : Cond.code y_W_isColumn prog_2_method_5_code 2 (some .boolean) ∈ bg := bg2 165 rfl rfl
theorem wd_406 : Cond.methodLink R_L 137 y_L_deliver ∈ bg := bg2 166 rfl rfl
theorem wd_407 : Cond.static y_L_deliver ∈ bg := bg2 167 rfl rfl
theorem wd_408 : Cond.codeWith y_L_deliver method_12_code 5 (some .int) [(0, 10, 13, 19), (0, 10, 17, 31)] ∈ bg := bg2 168 rfl rfl
theorem wd_409 : Cond.methodLink R_L 49 y_X_deliver ∈ bg := bg2 169 rfl rfl
theorem wd_410 : Cond.instanceMethod y_X_deliver ∈ bg := bg2 170 rfl rfl
theorem wd_411 : Cond.selects R_X y_X_deliver y_X_deliver ∈ bg := bg2 171 rfl rfl
theorem wd_412 : Cond.code y_X_deliver prog_1_method_12_code 4 (some .int) ∈ bg := bg2 172 rfl rfl
theorem wd_415 : Cond.methodLink R_L 140 y_L_emergency ∈ bg := bg2 175 rfl rfl
theorem wd_416 : Cond.static y_L_emergency ∈ bg := bg2 176 rfl rfl
theorem wd_417 : Cond.codeWith y_L_emergency method_13_code 7 (some .int) [(0, 14, 17, 19), (0, 14, 21, 21), (0, 14, 25, 13)] ∈ bg := bg2 177 rfl rfl
theorem wd_418 : Cond.methodLink R_L 52 y_X_emergency ∈ bg := bg2 178 rfl rfl
theorem wd_419 : Cond.instanceMethod y_X_emergency ∈ bg := bg2 179 rfl rfl
theorem wd_420 : Cond.selects R_X y_X_emergency y_X_emergency ∈ bg := bg2 180 rfl rfl
theorem wd_421 : Cond.code y_X_emergency prog_1_method_13_code 5 (some .int) ∈ bg := bg2 181 rfl rfl
theorem wd_422 : Cond.methodLink R_X 155 y_X_needPerson ∈ bg := bg2 182 rfl rfl
theorem wd_423 : Cond.static y_X_needPerson ∈ bg := bg2 183 rfl rfl
theorem wd_424 : Cond.code y_X_needPerson prog_1_method_29_code 1 (none : Option FieldType) ∈ bg := bg2 184 rfl rfl
theorem wd_426 : Cond.methodLink R_L 144 y_L_second ∈ bg := bg2 186 rfl rfl
theorem wd_427 : Cond.static y_L_second ∈ bg := bg2 187 rfl rfl
theorem wd_428 : Cond.codeWith y_L_second method_14_code 5 (some .int) [(0, 10, 13, 19), (0, 10, 17, 31), (0, 10, 21, 13)] ∈ bg := bg2 188 rfl rfl
theorem wd_429 : Cond.methodLink R_L 56 y_X_second ∈ bg := bg2 189 rfl rfl
theorem wd_430 : Cond.instanceMethod y_X_second ∈ bg := bg2 190 rfl rfl
theorem wd_431 : Cond.selects R_X y_X_second y_X_second ∈ bg := bg2 191 rfl rfl
theorem wd_432 : Cond.code y_X_second prog_1_method_14_code 3 (some .int) ∈ bg := bg2 192 rfl rfl
theorem wd_435 : Cond.methodLink R_L 147 y_L_count ∈ bg := bg2 195 rfl rfl
theorem wd_436 : Cond.static y_L_count ∈ bg := bg2 196 rfl rfl
theorem wd_437 : Cond.codeWith y_L_count method_15_code 7 (some .int) [(0, 14, 17, 19), (0, 14, 21, 21), (0, 14, 25, 13)] ∈ bg := bg2 197 rfl rfl
theorem wd_438 : Cond.methodLink R_L 59 y_X_count ∈ bg := bg2 198 rfl rfl
theorem wd_439 : Cond.instanceMethod y_X_count ∈ bg := bg2 199 rfl rfl
theorem wd_440 : Cond.selects R_X y_X_count y_X_count ∈ bg := bg2 200 rfl rfl
theorem wd_441 : Cond.code y_X_count prog_1_method_15_code 6 (some .int) ∈ bg := bg2 201 rfl rfl
theorem wd_442 : Cond.methodLink R_L 150 y_L_difference ∈ bg := bg2 202 rfl rfl
theorem wd_443 : Cond.static y_L_difference ∈ bg := bg2 203 rfl rfl
theorem wd_444 : Cond.codeWith y_L_difference method_16_code 5 (some .int) [(0, 10, 13, 19)] ∈ bg := bg2 204 rfl rfl
theorem wd_445 : Cond.methodLink R_L 62 y_X_difference ∈ bg := bg2 205 rfl rfl
theorem wd_446 : Cond.instanceMethod y_X_difference ∈ bg := bg2 206 rfl rfl
theorem wd_447 : Cond.selects R_X y_X_difference y_X_difference ∈ bg := bg2 207 rfl rfl
theorem wd_448 : Cond.code y_X_difference prog_1_method_16_code 3 (some .int) ∈ bg := bg2 208 rfl rfl
theorem wd_449 : Cond.methodLink R_L 153 y_L_kit ∈ bg := bg2 209 rfl rfl
theorem wd_450 : Cond.static y_L_kit ∈ bg := bg2 210 rfl rfl
theorem wd_451 : Cond.codeWith y_L_kit method_17_code 5 (some .int) [(0, 7, 10, 19), (0, 7, 14, 21)] ∈ bg := bg2 211 rfl rfl
theorem wd_452 : Cond.methodLink R_L 65 y_X_kit ∈ bg := bg2 212 rfl rfl
theorem wd_453 : Cond.instanceMethod y_X_kit ∈ bg := bg2 213 rfl rfl
theorem wd_454 : Cond.selects R_X y_X_kit y_X_kit ∈ bg := bg2 214 rfl rfl
theorem wd_455 : Cond.code y_X_kit prog_1_method_17_code 4 (none : Option FieldType) ∈ bg := bg2 215 rfl rfl
theorem wd_456 : Cond.methodLink R_X 166 y_X_needKit ∈ bg := bg2 216 rfl rfl
theorem wd_457 : Cond.static y_X_needKit ∈ bg := bg2 217 rfl rfl
theorem wd_458 : Cond.code y_X_needKit prog_1_method_30_code 1 (none : Option FieldType) ∈ bg := bg2 218 rfl rfl
theorem wd_460 : Cond.methodLink R_L 157 y_L_give ∈ bg := bg2 220 rfl rfl
theorem wd_461 : Cond.static y_L_give ∈ bg := bg2 221 rfl rfl
theorem wd_462 : Cond.codeWith y_L_give method_18_code 5 (some .int) [(0, 10, 13, 19), (0, 10, 17, 31)] ∈ bg := bg2 222 rfl rfl
theorem wd_463 : Cond.methodLink R_L 69 y_X_give ∈ bg := bg2 223 rfl rfl
theorem wd_464 : Cond.instanceMethod y_X_give ∈ bg := bg2 224 rfl rfl
theorem wd_465 : Cond.selects R_X y_X_give y_X_give ∈ bg := bg2 225 rfl rfl
theorem wd_466 : Cond.code y_X_give prog_1_method_18_code 5 (some .int) ∈ bg := bg2 226 rfl rfl
theorem wd_467 : Cond.methodLink R_X 169 y_X_hasParts ∈ bg := bg2 227 rfl rfl
theorem wd_469 : Cond.instanceMethod y_X_hasParts ∈ bg := bg2 229 rfl rfl
theorem wd_470 : Cond.code y_X_hasParts prog_1_method_51_code 3 (some .boolean) ∈ bg := bg2 230 rfl rfl
theorem wd_472 : Cond.methodLink R_X 175 y_X_lackingKind ∈ bg := bg2 232 rfl rfl
theorem wd_474 : Cond.instanceMethod y_X_lackingKind ∈ bg := bg2 234 rfl rfl
theorem wd_475 : Cond.code y_X_lackingKind prog_1_method_52_code 5 (some .int) ∈ bg := bg2 235 rfl rfl
theorem wd_476 : Cond.methodLink R_L 160 y_L_back ∈ bg := bg2 236 rfl rfl
theorem wd_477 : Cond.static y_L_back ∈ bg := bg2 237 rfl rfl
theorem wd_478 : Cond.codeWith y_L_back method_19_code 6 (some .int) [(0, 19, 22, 19), (0, 19, 26, 21), (0, 19, 30, 13)] ∈ bg := bg2 238 rfl rfl
theorem wd_479 : Cond.methodLink R_L 72 y_X_back ∈ bg := bg2 239 rfl rfl
theorem wd_480 : Cond.instanceMethod y_X_back ∈ bg := bg3 0 rfl rfl
theorem wd_481 : Cond.selects R_X y_X_back y_X_back ∈ bg := bg3 1 rfl rfl
theorem wd_482 : Cond.code y_X_back prog_1_method_19_code 4 (some .boolean) ∈ bg := bg3 2 rfl rfl
theorem wd_483 : Cond.methodLink R_L 163 y_L_waste ∈ bg := bg3 3 rfl rfl
theorem wd_484 : Cond.static y_L_waste ∈ bg := bg3 4 rfl rfl
theorem wd_485 : Cond.codeWith y_L_waste method_20_code 7 (some .int) [(0, 14, 17, 19), (0, 14, 21, 21), (0, 14, 25, 31)] ∈ bg := bg3 5 rfl rfl
theorem wd_486 : Cond.methodLink R_L 76 y_X_waste ∈ bg := bg3 6 rfl rfl
theorem wd_487 : Cond.instanceMethod y_X_waste ∈ bg := bg3 7 rfl rfl
theorem wd_488 : Cond.selects R_X y_X_waste y_X_waste ∈ bg := bg3 8 rfl rfl
theorem wd_489 : Cond.code y_X_waste prog_1_method_20_code 5 (some .int) ∈ bg := bg3 9 rfl rfl
theorem wd_490 : Cond.methodLink R_L 166 y_L_lotAt ∈ bg := bg3 10 rfl rfl
theorem wd_491 : Cond.static y_L_lotAt ∈ bg := bg3 11 rfl rfl
theorem wd_492 : Cond.codeWith y_L_lotAt method_21_code 5 (some .int) [(0, 10, 13, 19)] ∈ bg := bg3 12 rfl rfl
theorem wd_493 : Cond.methodLink R_L 79 y_X_lotAt ∈ bg := bg3 13 rfl rfl
theorem wd_494 : Cond.instanceMethod y_X_lotAt ∈ bg := bg3 14 rfl rfl
theorem wd_495 : Cond.selects R_X y_X_lotAt y_X_lotAt ∈ bg := bg3 15 rfl rfl
theorem wd_496 : Cond.code y_X_lotAt prog_1_method_21_code 3 (some .int) ∈ bg := bg3 16 rfl rfl
theorem wd_497 : Cond.methodLink R_X 178 y_X_inAllStores ∈ bg := bg3 17 rfl rfl
theorem wd_499 : Cond.instanceMethod y_X_inAllStores ∈ bg := bg3 19 rfl rfl
theorem wd_500 : Cond.code y_X_inAllStores prog_1_method_43_code 4 (some .int) ∈ bg := bg3 20 rfl rfl
theorem wd_501 : Cond.methodLink R_L 169 y_L_row ∈ bg := bg3 21 rfl rfl
theorem wd_502 : Cond.static y_L_row ∈ bg := bg3 22 rfl rfl
theorem wd_503 : Cond.codeWith y_L_row method_22_code 5 (some .int) [(0, 10, 13, 21), (0, 10, 17, 31), (0, 10, 21, 13)] ∈ bg := bg3 23 rfl rfl
theorem wd_504 : Cond.methodLink R_L 82 y_X_row ∈ bg := bg3 24 rfl rfl
theorem wd_505 : Cond.instanceMethod y_X_row ∈ bg := bg3 25 rfl rfl
theorem wd_506 : Cond.selects R_X y_X_row y_X_row ∈ bg := bg3 26 rfl rfl
theorem wd_507 : Cond.code y_X_row prog_1_method_22_code 3 (some .int) ∈ bg := bg3 27 rfl rfl
theorem wd_508 : Cond.constant R_X 182 99999 ∈ bg := bg3 28 rfl rfl
theorem wd_509 : Cond.methodLink R_X 183 y_H_isBelow ∈ bg := bg3 29 rfl rfl
theorem wd_510 : Cond.instanceMethod y_H_isBelow ∈ bg := bg3 30 rfl rfl
theorem wd_511 : Cond.selects R_H y_H_isBelow y_H_isBelow ∈ bg := bg3 31 rfl rfl
theorem wd_512 : Cond.code y_H_isBelow prog_3_method_3_code 3 (some .boolean) ∈ bg := bg3 32 rfl rfl
theorem wd_514 : Cond.methodLink R_X 189 y_H_isFull ∈ bg := bg3 34 rfl rfl
theorem wd_515 : Cond.instanceMethod y_H_isFull ∈ bg := bg3 35 rfl rfl
theorem wd_516 : Cond.selects R_H y_H_isFull y_H_isFull ∈ bg := bg3 36 rfl rfl
theorem wd_517 : Cond.code y_H_isFull prog_3_method_2_code 1 (some .boolean) ∈ bg := bg3 37 rfl rfl
theorem wd_519 : Cond.methodLink R_X 195 y_H_add ∈ bg := bg3 39 rfl rfl
theorem wd_520 : Cond.instanceMethod y_H_add ∈ bg := bg3 40 rfl rfl
theorem wd_521 : Cond.selects R_H y_H_add y_H_add ∈ bg := bg3 41 rfl rfl
theorem wd_522 : Cond.code y_H_add prog_3_method_4_code 3 (some .int) ∈ bg := bg3 42 rfl rfl
theorem wd_523 : Cond.methodLink R_L 172 y_L_dip ∈ bg := bg3 43 rfl rfl
theorem wd_524 : Cond.static y_L_dip ∈ bg := bg3 44 rfl rfl
theorem wd_525 : Cond.codeWith y_L_dip method_23_code 4 (some .int) [(0, 9, 12, 21)] ∈ bg := bg3 45 rfl rfl
theorem wd_526 : Cond.methodLink R_L 85 y_X_dip ∈ bg := bg3 46 rfl rfl
theorem wd_527 : Cond.instanceMethod y_X_dip ∈ bg := bg3 47 rfl rfl
theorem wd_528 : Cond.selects R_X y_X_dip y_X_dip ∈ bg := bg3 48 rfl rfl
theorem wd_529 : Cond.code y_X_dip prog_1_method_23_code 2 (some .int) ∈ bg := bg3 49 rfl rfl
theorem wd_530 : Cond.methodLink R_X 197 y_H_litresAt ∈ bg := bg3 50 rfl rfl
theorem wd_531 : Cond.instanceMethod y_H_litresAt ∈ bg := bg3 51 rfl rfl
theorem wd_532 : Cond.selects R_H y_H_litresAt y_H_litresAt ∈ bg := bg3 52 rfl rfl
theorem wd_533 : Cond.code y_H_litresAt prog_3_method_5_code 3 (some .int) ∈ bg := bg3 53 rfl rfl
theorem wd_534 : Cond.methodLink R_H 22 y_H_lastNotAbove ∈ bg := bg3 54 rfl rfl
theorem wd_536 : Cond.instanceMethod y_H_lastNotAbove ∈ bg := bg3 56 rfl rfl
theorem wd_537 : Cond.code y_H_lastNotAbove prog_3_method_6_code 4 (some .int) ∈ bg := bg3 57 rfl rfl
theorem wd_538 : Cond.methodLink R_H 26 y_H_litresBetween ∈ bg := bg3 58 rfl rfl
theorem wd_540 : Cond.instanceMethod y_H_litresBetween ∈ bg := bg3 60 rfl rfl
theorem wd_541 : Cond.code y_H_litresBetween prog_3_method_7_code 7 (some .int) ∈ bg := bg3 61 rfl rfl
theorem wd_542 : Cond.methodLink R_L 176 y_L_tick ∈ bg := bg3 62 rfl rfl
theorem wd_543 : Cond.static y_L_tick ∈ bg := bg3 63 rfl rfl
theorem wd_544 : Cond.codeWith y_L_tick method_24_code 4 (some .int) [(0, 9, 12, 21)] ∈ bg := bg3 64 rfl rfl
theorem wd_545 : Cond.methodLink R_L 89 y_X_tick ∈ bg := bg3 65 rfl rfl
theorem wd_546 : Cond.instanceMethod y_X_tick ∈ bg := bg3 66 rfl rfl
theorem wd_547 : Cond.selects R_X y_X_tick y_X_tick ∈ bg := bg3 67 rfl rfl
theorem wd_548 : Cond.code y_X_tick prog_1_method_24_code 4 (some .int) ∈ bg := bg3 68 rfl rfl
theorem wd_549 : Cond.classLink R_L 93 R_M ∈ bg := bg3 69 rfl rfl
theorem wd_550 : Cond.instantiable R_M 37 ∈ bg := bg3 70 rfl rfl
theorem wd_551 : Cond.methodLink R_L 95 y_M_init ∈ bg := bg3 71 rfl rfl
theorem wd_552 : Cond.instanceMethod y_M_init ∈ bg := bg3 72 rfl rfl
theorem wd_553 : Cond.code y_M_init prog_5_method_1_code 1 (none : Option FieldType) ∈ bg := bg3 73 rfl rfl
theorem wd_554 : Cond.methodLink R_M 1 ⟨"java/lang/Object", "<init>", "()V"⟩ ∈ bg := bg3 74 rfl rfl
theorem wd_555 : Cond.fieldLink R_M 95 R_M "thrown" "I" ∈ bg := bg3 75 rfl rfl
theorem wd_556 : Cond.fieldLink R_M 136 R_M "day" "I" ∈ bg := bg3 76 rfl rfl
theorem wd_557 : Cond.fieldLink R_M 99 R_M "stores" "I" ∈ bg := bg3 77 rfl rfl
theorem wd_558 : Cond.fieldLink R_M 106 R_M "lots" "I" ∈ bg := bg3 78 rfl rfl
theorem wd_559 : Cond.fieldLink R_M 7 R_M "kind" "[I" ∈ bg := bg3 79 rfl rfl
theorem wd_560 : Cond.fieldLink R_M 13 R_M "end" "[I" ∈ bg := bg3 80 rfl rfl
theorem wd_561 : Cond.fieldLink R_M 16 R_M "out" "[I" ∈ bg := bg3 81 rfl rfl
theorem wd_562 : Cond.fieldLink R_M 19 R_M "wasted" "[I" ∈ bg := bg3 82 rfl rfl
theorem wd_563 : Cond.fieldLink R_M 22 R_M "paper" "[I" ∈ bg := bg3 83 rfl rfl
theorem wd_564 : Cond.fieldLink R_M 25 R_M "has" "[I" ∈ bg := bg3 84 rfl rfl
theorem wd_565 : Cond.fieldLink R_M 133 R_M "moves" "I" ∈ bg := bg3 85 rfl rfl
theorem wd_566 : Cond.fieldLink R_M 28 R_M "moveTo" "[I" ∈ bg := bg3 86 rfl rfl
theorem wd_567 : Cond.fieldLink R_M 31 R_M "moveLot" "[I" ∈ bg := bg3 87 rfl rfl
theorem wd_568 : Cond.fieldLink R_M 34 R_M "moveMany" "[I" ∈ bg := bg3 88 rfl rfl
theorem wd_569 : Cond.fieldLink R_M 37 R_M "arrives" "[I" ∈ bg := bg3 89 rfl rfl
theorem wd_570 : Cond.fieldLink R_M 40 R_M "onWay" "[Z" ∈ bg := bg3 90 rfl rfl
theorem wd_571 : Cond.fieldLink R_M 44 R_M "isLevel" "[Z" ∈ bg := bg3 91 rfl rfl
theorem wd_572 : Cond.fieldLink R_M 47 R_M "least" "[I" ∈ bg := bg3 92 rfl rfl
theorem wd_573 : Cond.fieldLink R_M 50 R_M "most" "[I" ∈ bg := bg3 93 rfl rfl
theorem wd_574 : Cond.fieldLink R_M 152 R_M "orders" "I" ∈ bg := bg3 94 rfl rfl
theorem wd_575 : Cond.fieldLink R_M 53 R_M "orderStore" "[I" ∈ bg := bg3 95 rfl rfl
theorem wd_576 : Cond.fieldLink R_M 56 R_M "orderKind" "[I" ∈ bg := bg3 96 rfl rfl
theorem wd_577 : Cond.fieldLink R_M 59 R_M "orderMany" "[I" ∈ bg := bg3 97 rfl rfl
theorem wd_578 : Cond.fieldLink R_M 62 R_M "orderDay" "[I" ∈ bg := bg3 98 rfl rfl
theorem wd_579 : Cond.fieldLink R_M 65 R_M "open" "[Z" ∈ bg := bg3 99 rfl rfl
theorem wd_580 : Cond.fieldLink R_M 161 R_M "emergencies" "I" ∈ bg := bg3 100 rfl rfl
theorem wd_581 : Cond.fieldLink R_M 68 R_M "emStore" "[I" ∈ bg := bg3 101 rfl rfl
theorem wd_582 : Cond.fieldLink R_M 71 R_M "emKind" "[I" ∈ bg := bg3 102 rfl rfl
theorem wd_583 : Cond.fieldLink R_M 74 R_M "emMany" "[I" ∈ bg := bg3 103 rfl rfl
theorem wd_584 : Cond.fieldLink R_M 77 R_M "emPerson" "[I" ∈ bg := bg3 104 rfl rfl
theorem wd_585 : Cond.fieldLink R_M 80 R_M "emDone" "[Z" ∈ bg := bg3 105 rfl rfl
theorem wd_586 : Cond.fieldLink R_M 164 R_M "rows" "I" ∈ bg := bg3 106 rfl rfl
theorem wd_587 : Cond.fieldLink R_M 83 R_M "row" "[I" ∈ bg := bg3 107 rfl rfl
theorem wd_588 : Cond.fieldLink R_M 86 R_M "parts" "[I" ∈ bg := bg3 108 rfl rfl
theorem wd_589 : Cond.fieldLink R_M 167 R_M "heights" "I" ∈ bg := bg3 109 rfl rfl
theorem wd_590 : Cond.fieldLink R_M 89 R_M "height" "[I" ∈ bg := bg3 110 rfl rfl
theorem wd_591 : Cond.fieldLink R_M 92 R_M "litres" "[I" ∈ bg := bg3 111 rfl rfl
theorem wd_592 : Cond.lays R_M R_M "thrown" "I" ∈ bg := bg3 112 rfl rfl
theorem wd_594 : Cond.lays R_M R_M "day" "I" ∈ bg := bg3 114 rfl rfl
theorem wd_596 : Cond.lays R_M R_M "stores" "I" ∈ bg := bg3 116 rfl rfl
theorem wd_598 : Cond.lays R_M R_M "lots" "I" ∈ bg := bg3 118 rfl rfl
theorem wd_600 : Cond.laysFinal R_M R_M "kind" "[I" ∈ bg := bg3 120 rfl rfl
theorem wd_602 : Cond.laysFinal R_M R_M "end" "[I" ∈ bg := bg3 122 rfl rfl
theorem wd_604 : Cond.laysFinal R_M R_M "out" "[I" ∈ bg := bg3 124 rfl rfl
theorem wd_606 : Cond.laysFinal R_M R_M "wasted" "[I" ∈ bg := bg3 126 rfl rfl
theorem wd_608 : Cond.laysFinal R_M R_M "paper" "[I" ∈ bg := bg3 128 rfl rfl
theorem wd_610 : Cond.laysFinal R_M R_M "has" "[I" ∈ bg := bg3 130 rfl rfl
theorem wd_612 : Cond.lays R_M R_M "moves" "I" ∈ bg := bg3 132 rfl rfl
theorem wd_614 : Cond.laysFinal R_M R_M "moveTo" "[I" ∈ bg := bg3 134 rfl rfl
theorem wd_616 : Cond.laysFinal R_M R_M "moveLot" "[I" ∈ bg := bg3 136 rfl rfl
theorem wd_618 : Cond.laysFinal R_M R_M "moveMany" "[I" ∈ bg := bg3 138 rfl rfl
theorem wd_620 : Cond.laysFinal R_M R_M "arrives" "[I" ∈ bg := bg3 140 rfl rfl
theorem wd_622 : Cond.laysFinal R_M R_M "onWay" "[Z" ∈ bg := bg3 142 rfl rfl
theorem wd_624 : Cond.laysFinal R_M R_M "isLevel" "[Z" ∈ bg := bg3 144 rfl rfl
theorem wd_626 : Cond.laysFinal R_M R_M "least" "[I" ∈ bg := bg3 146 rfl rfl
theorem wd_628 : Cond.laysFinal R_M R_M "most" "[I" ∈ bg := bg3 148 rfl rfl
theorem wd_630 : Cond.lays R_M R_M "orders" "I" ∈ bg := bg3 150 rfl rfl
theorem wd_632 : Cond.laysFinal R_M R_M "orderStore" "[I" ∈ bg := bg3 152 rfl rfl
theorem wd_634 : Cond.laysFinal R_M R_M "orderKind" "[I" ∈ bg := bg3 154 rfl rfl
theorem wd_636 : Cond.laysFinal R_M R_M "orderMany" "[I" ∈ bg := bg3 156 rfl rfl
theorem wd_638 : Cond.laysFinal R_M R_M "orderDay" "[I" ∈ bg := bg3 158 rfl rfl
theorem wd_640 : Cond.laysFinal R_M R_M "open" "[Z" ∈ bg := bg3 160 rfl rfl
theorem wd_642 : Cond.lays R_M R_M "emergencies" "I" ∈ bg := bg3 162 rfl rfl
theorem wd_644 : Cond.laysFinal R_M R_M "emStore" "[I" ∈ bg := bg3 164 rfl rfl
theorem wd_646 : Cond.laysFinal R_M R_M "emKind" "[I" ∈ bg := bg3 166 rfl rfl
theorem wd_648 : Cond.laysFinal R_M R_M "emMany" "[I" ∈ bg := bg3 168 rfl rfl
theorem wd_650 : Cond.laysFinal R_M R_M "emPerson" "[I" ∈ bg := bg3 170 rfl rfl
theorem wd_652 : Cond.laysFinal R_M R_M "emDone" "[Z" ∈ bg := bg3 172 rfl rfl
theorem wd_654 : Cond.lays R_M R_M "rows" "I" ∈ bg := bg3 174 rfl rfl
theorem wd_656 : Cond.laysFinal R_M R_M "row" "[I" ∈ bg := bg3 176 rfl rfl
theorem wd_658 : Cond.laysFinal R_M R_M "parts" "[I" ∈ bg := bg3 178 rfl rfl
theorem wd_660 : Cond.lays R_M R_M "heights" "I" ∈ bg := bg3 180 rfl rfl
theorem wd_662 : Cond.laysFinal R_M R_M "height" "[I" ∈ bg := bg3 182 rfl rfl
theorem wd_664 : Cond.laysFinal R_M R_M "litres" "[I" ∈ bg := bg3 184 rfl rfl
theorem wd_667 : Cond.arrayClass .boolean ∈ bg := bg3 187 rfl rfl
theorem wd_668 : Cond.methodLink R_L 102 y_M_thrown ∈ bg := bg3 188 rfl rfl
theorem wd_669 : Cond.instanceMethod y_M_thrown ∈ bg := bg3 189 rfl rfl
theorem wd_670 : Cond.selects R_M y_M_thrown y_M_thrown ∈ bg := bg3 190 rfl rfl
theorem wd_671 : Cond.code y_M_thrown prog_5_method_2_code 1 (some .int) ∈ bg := bg3 191 rfl rfl
theorem wd_672 : Cond.methodLink R_L 101 y_M_store ∈ bg := bg3 192 rfl rfl
theorem wd_673 : Cond.instanceMethod y_M_store ∈ bg := bg3 193 rfl rfl
theorem wd_674 : Cond.selects R_M y_M_store y_M_store ∈ bg := bg3 194 rfl rfl
theorem wd_675 : Cond.code y_M_store prog_5_method_11_code 1 (some .int) ∈ bg := bg3 195 rfl rfl
theorem wd_676 : Cond.methodLink R_M 116 y_M_goes ∈ bg := bg3 196 rfl rfl
theorem wd_678 : Cond.instanceMethod y_M_goes ∈ bg := bg3 198 rfl rfl
theorem wd_679 : Cond.code y_M_goes prog_5_method_4_code 8 (some .boolean) ∈ bg := bg3 199 rfl rfl
theorem wd_680 : Cond.methodLink R_L 108 y_M_lot ∈ bg := bg3 200 rfl rfl
theorem wd_681 : Cond.instanceMethod y_M_lot ∈ bg := bg3 201 rfl rfl
theorem wd_682 : Cond.selects R_M y_M_lot y_M_lot ∈ bg := bg3 202 rfl rfl
theorem wd_683 : Cond.code y_M_lot prog_5_method_12_code 3 (some .int) ∈ bg := bg3 203 rfl rfl
theorem wd_684 : Cond.methodLink R_M 120 y_M_isKind ∈ bg := bg3 204 rfl rfl
theorem wd_685 : Cond.static y_M_isKind ∈ bg := bg3 205 rfl rfl
theorem wd_686 : Cond.code y_M_isKind prog_5_method_6_code 1 (some .boolean) ∈ bg := bg3 206 rfl rfl
theorem wd_687 : Cond.methodLink R_M 102 y_M_in ∈ bg := bg3 207 rfl rfl
theorem wd_688 : Cond.static y_M_in ∈ bg := bg3 208 rfl rfl
theorem wd_689 : Cond.code y_M_in prog_5_method_3_code 3 (some .boolean) ∈ bg := bg3 209 rfl rfl
theorem wd_690 : Cond.methodLink R_L 112 y_M_bring ∈ bg := bg3 210 rfl rfl
theorem wd_691 : Cond.instanceMethod y_M_bring ∈ bg := bg3 211 rfl rfl
theorem wd_692 : Cond.selects R_M y_M_bring y_M_bring ∈ bg := bg3 212 rfl rfl
theorem wd_693 : Cond.code y_M_bring prog_5_method_13_code 4 (some .int) ∈ bg := bg3 213 rfl rfl
theorem wd_694 : Cond.methodLink R_M 109 y_M_isStore ∈ bg := bg3 214 rfl rfl
theorem wd_696 : Cond.instanceMethod y_M_isStore ∈ bg := bg3 216 rfl rfl
theorem wd_697 : Cond.code y_M_isStore prog_5_method_5_code 2 (some .boolean) ∈ bg := bg3 217 rfl rfl
theorem wd_698 : Cond.methodLink R_M 113 y_M_isLot ∈ bg := bg3 218 rfl rfl
theorem wd_700 : Cond.instanceMethod y_M_isLot ∈ bg := bg3 220 rfl rfl
theorem wd_701 : Cond.code y_M_isLot prog_5_method_7_code 2 (some .boolean) ∈ bg := bg3 221 rfl rfl
theorem wd_702 : Cond.methodLink R_M 123 y_M_isMany ∈ bg := bg3 222 rfl rfl
theorem wd_703 : Cond.static y_M_isMany ∈ bg := bg3 223 rfl rfl
theorem wd_704 : Cond.code y_M_isMany prog_5_method_8_code 1 (some .boolean) ∈ bg := bg3 224 rfl rfl
theorem wd_705 : Cond.methodLink R_M 126 y_M_at ∈ bg := bg3 225 rfl rfl
theorem wd_707 : Cond.instanceMethod y_M_at ∈ bg := bg3 227 rfl rfl
theorem wd_708 : Cond.code y_M_at prog_5_method_9_code 3 (some .int) ∈ bg := bg3 228 rfl rfl
theorem wd_709 : Cond.methodLink R_L 116 y_M_move ∈ bg := bg3 229 rfl rfl
theorem wd_710 : Cond.instanceMethod y_M_move ∈ bg := bg3 230 rfl rfl
theorem wd_711 : Cond.selects R_M y_M_move y_M_move ∈ bg := bg3 231 rfl rfl
theorem wd_712 : Cond.code y_M_move prog_5_method_15_code 7 (some .int) ∈ bg := bg3 232 rfl rfl
theorem wd_713 : Cond.methodLink R_M 139 y_M_comes ∈ bg := bg3 233 rfl rfl
theorem wd_715 : Cond.instanceMethod y_M_comes ∈ bg := bg3 235 rfl rfl
theorem wd_716 : Cond.code y_M_comes prog_5_method_14_code 4 (none : Option FieldType) ∈ bg := bg3 236 rfl rfl
theorem wd_717 : Cond.methodLink R_M 130 y_M_lesser ∈ bg := bg3 237 rfl rfl
theorem wd_718 : Cond.static y_M_lesser ∈ bg := bg3 238 rfl rfl
theorem wd_719 : Cond.code y_M_lesser prog_5_method_10_code 2 (some .int) ∈ bg := bg3 239 rfl rfl
theorem wd_720 : Cond.methodLink R_L 119 y_M_use ∈ bg := bg4 0 rfl rfl
theorem wd_721 : Cond.instanceMethod y_M_use ∈ bg := bg4 1 rfl rfl
theorem wd_722 : Cond.selects R_M y_M_use y_M_use ∈ bg := bg4 2 rfl rfl
theorem wd_723 : Cond.code y_M_use prog_5_method_19_code 5 (some .int) ∈ bg := bg4 3 rfl rfl
theorem wd_724 : Cond.methodLink R_M 146 y_M_good ∈ bg := bg4 4 rfl rfl
theorem wd_726 : Cond.instanceMethod y_M_good ∈ bg := bg4 6 rfl rfl
theorem wd_727 : Cond.code y_M_good prog_5_method_17_code 5 (some .int) ∈ bg := bg4 7 rfl rfl
theorem wd_728 : Cond.methodLink R_M 143 y_M_isGood ∈ bg := bg4 8 rfl rfl
theorem wd_730 : Cond.instanceMethod y_M_isGood ∈ bg := bg4 10 rfl rfl
theorem wd_731 : Cond.code y_M_isGood prog_5_method_16_code 2 (some .boolean) ∈ bg := bg4 11 rfl rfl
theorem wd_732 : Cond.methodLink R_M 149 y_M_takes ∈ bg := bg4 12 rfl rfl
theorem wd_734 : Cond.instanceMethod y_M_takes ∈ bg := bg4 14 rfl rfl
theorem wd_735 : Cond.code y_M_takes prog_5_method_18_code 7 (none : Option FieldType) ∈ bg := bg4 15 rfl rfl
theorem wd_736 : Cond.methodLink R_L 122 y_M_sum ∈ bg := bg4 16 rfl rfl
theorem wd_737 : Cond.instanceMethod y_M_sum ∈ bg := bg4 17 rfl rfl
theorem wd_738 : Cond.selects R_M y_M_sum y_M_sum ∈ bg := bg4 18 rfl rfl
theorem wd_739 : Cond.code y_M_sum prog_5_method_20_code 6 (some .int) ∈ bg := bg4 19 rfl rfl
theorem wd_740 : Cond.methodLink R_L 125 y_M_has ∈ bg := bg4 20 rfl rfl
theorem wd_741 : Cond.instanceMethod y_M_has ∈ bg := bg4 21 rfl rfl
theorem wd_742 : Cond.selects R_M y_M_has y_M_has ∈ bg := bg4 22 rfl rfl
theorem wd_743 : Cond.code y_M_has prog_5_method_21_code 3 (some .int) ∈ bg := bg4 23 rfl rfl
theorem wd_744 : Cond.methodLink R_L 129 y_M_level ∈ bg := bg4 24 rfl rfl
theorem wd_745 : Cond.instanceMethod y_M_level ∈ bg := bg4 25 rfl rfl
theorem wd_746 : Cond.selects R_M y_M_level y_M_level ∈ bg := bg4 26 rfl rfl
theorem wd_747 : Cond.code y_M_level prog_5_method_22_code 5 (none : Option FieldType) ∈ bg := bg4 27 rfl rfl
theorem wd_748 : Cond.methodLink R_L 133 y_M_orders ∈ bg := bg4 28 rfl rfl
theorem wd_749 : Cond.instanceMethod y_M_orders ∈ bg := bg4 29 rfl rfl
theorem wd_750 : Cond.selects R_M y_M_orders y_M_orders ∈ bg := bg4 30 rfl rfl
theorem wd_751 : Cond.code y_M_orders prog_5_method_25_code 5 (some .int) ∈ bg := bg4 31 rfl rfl
theorem wd_752 : Cond.methodLink R_M 155 y_M_expected ∈ bg := bg4 32 rfl rfl
theorem wd_754 : Cond.instanceMethod y_M_expected ∈ bg := bg4 34 rfl rfl
theorem wd_755 : Cond.code y_M_expected prog_5_method_24_code 5 (some .int) ∈ bg := bg4 35 rfl rfl
theorem wd_756 : Cond.methodLink R_M 158 y_M_makes ∈ bg := bg4 36 rfl rfl
theorem wd_758 : Cond.instanceMethod y_M_makes ∈ bg := bg4 38 rfl rfl
theorem wd_759 : Cond.code y_M_makes prog_5_method_23_code 4 (none : Option FieldType) ∈ bg := bg4 39 rfl rfl
theorem wd_760 : Cond.methodLink R_L 136 y_M_order ∈ bg := bg4 40 rfl rfl
theorem wd_761 : Cond.instanceMethod y_M_order ∈ bg := bg4 41 rfl rfl
theorem wd_762 : Cond.selects R_M y_M_order y_M_order ∈ bg := bg4 42 rfl rfl
theorem wd_763 : Cond.code y_M_order prog_5_method_26_code 3 (some .int) ∈ bg := bg4 43 rfl rfl
theorem wd_764 : Cond.methodLink R_L 139 y_M_deliver ∈ bg := bg4 44 rfl rfl
theorem wd_765 : Cond.instanceMethod y_M_deliver ∈ bg := bg4 45 rfl rfl
theorem wd_766 : Cond.selects R_M y_M_deliver y_M_deliver ∈ bg := bg4 46 rfl rfl
theorem wd_767 : Cond.code y_M_deliver prog_5_method_27_code 4 (some .int) ∈ bg := bg4 47 rfl rfl
theorem wd_768 : Cond.methodLink R_L 143 y_M_emergency ∈ bg := bg4 48 rfl rfl
theorem wd_769 : Cond.instanceMethod y_M_emergency ∈ bg := bg4 49 rfl rfl
theorem wd_770 : Cond.selects R_M y_M_emergency y_M_emergency ∈ bg := bg4 50 rfl rfl
theorem wd_771 : Cond.code y_M_emergency prog_5_method_28_code 5 (some .int) ∈ bg := bg4 51 rfl rfl
theorem wd_772 : Cond.methodLink R_L 146 y_M_second ∈ bg := bg4 52 rfl rfl
theorem wd_773 : Cond.instanceMethod y_M_second ∈ bg := bg4 53 rfl rfl
theorem wd_774 : Cond.selects R_M y_M_second y_M_second ∈ bg := bg4 54 rfl rfl
theorem wd_775 : Cond.code y_M_second prog_5_method_29_code 4 (some .int) ∈ bg := bg4 55 rfl rfl
theorem wd_776 : Cond.methodLink R_L 149 y_M_count ∈ bg := bg4 56 rfl rfl
theorem wd_777 : Cond.instanceMethod y_M_count ∈ bg := bg4 57 rfl rfl
theorem wd_778 : Cond.selects R_M y_M_count y_M_count ∈ bg := bg4 58 rfl rfl
theorem wd_779 : Cond.code y_M_count prog_5_method_30_code 7 (some .int) ∈ bg := bg4 59 rfl rfl
theorem wd_780 : Cond.methodLink R_L 152 y_M_difference ∈ bg := bg4 60 rfl rfl
theorem wd_781 : Cond.instanceMethod y_M_difference ∈ bg := bg4 61 rfl rfl
theorem wd_782 : Cond.selects R_M y_M_difference y_M_difference ∈ bg := bg4 62 rfl rfl
theorem wd_783 : Cond.code y_M_difference prog_5_method_31_code 3 (some .int) ∈ bg := bg4 63 rfl rfl
theorem wd_784 : Cond.methodLink R_L 156 y_M_kit ∈ bg := bg4 64 rfl rfl
theorem wd_785 : Cond.instanceMethod y_M_kit ∈ bg := bg4 65 rfl rfl
theorem wd_786 : Cond.selects R_M y_M_kit y_M_kit ∈ bg := bg4 66 rfl rfl
theorem wd_787 : Cond.code y_M_kit prog_5_method_32_code 4 (none : Option FieldType) ∈ bg := bg4 67 rfl rfl
theorem wd_788 : Cond.methodLink R_L 159 y_M_give ∈ bg := bg4 68 rfl rfl
theorem wd_789 : Cond.instanceMethod y_M_give ∈ bg := bg4 69 rfl rfl
theorem wd_790 : Cond.selects R_M y_M_give y_M_give ∈ bg := bg4 70 rfl rfl
theorem wd_791 : Cond.code y_M_give prog_5_method_33_code 6 (some .int) ∈ bg := bg4 71 rfl rfl
theorem wd_792 : Cond.methodLink R_L 162 y_M_back ∈ bg := bg4 72 rfl rfl
theorem wd_793 : Cond.instanceMethod y_M_back ∈ bg := bg4 73 rfl rfl
theorem wd_794 : Cond.selects R_M y_M_back y_M_back ∈ bg := bg4 74 rfl rfl
theorem wd_795 : Cond.code y_M_back prog_5_method_34_code 6 (some .boolean) ∈ bg := bg4 75 rfl rfl
theorem wd_796 : Cond.methodLink R_L 165 y_M_waste ∈ bg := bg4 76 rfl rfl
theorem wd_797 : Cond.instanceMethod y_M_waste ∈ bg := bg4 77 rfl rfl
theorem wd_798 : Cond.selects R_M y_M_waste y_M_waste ∈ bg := bg4 78 rfl rfl
theorem wd_799 : Cond.code y_M_waste prog_5_method_35_code 6 (some .int) ∈ bg := bg4 79 rfl rfl
theorem wd_800 : Cond.methodLink R_L 168 y_M_lotAt ∈ bg := bg4 80 rfl rfl
theorem wd_801 : Cond.instanceMethod y_M_lotAt ∈ bg := bg4 81 rfl rfl
theorem wd_802 : Cond.selects R_M y_M_lotAt y_M_lotAt ∈ bg := bg4 82 rfl rfl
theorem wd_803 : Cond.code y_M_lotAt prog_5_method_36_code 5 (some .int) ∈ bg := bg4 83 rfl rfl
theorem wd_804 : Cond.methodLink R_L 171 y_M_row ∈ bg := bg4 84 rfl rfl
theorem wd_805 : Cond.instanceMethod y_M_row ∈ bg := bg4 85 rfl rfl
theorem wd_806 : Cond.selects R_M y_M_row y_M_row ∈ bg := bg4 86 rfl rfl
theorem wd_807 : Cond.code y_M_row prog_5_method_37_code 4 (some .int) ∈ bg := bg4 87 rfl rfl
theorem wd_808 : Cond.constant R_M 170 99999 ∈ bg := bg4 88 rfl rfl
theorem wd_809 : Cond.methodLink R_L 175 y_M_dip ∈ bg := bg4 89 rfl rfl
theorem wd_810 : Cond.instanceMethod y_M_dip ∈ bg := bg4 90 rfl rfl
theorem wd_811 : Cond.selects R_M y_M_dip y_M_dip ∈ bg := bg4 91 rfl rfl
theorem wd_812 : Cond.code y_M_dip prog_5_method_38_code 3 (some .int) ∈ bg := bg4 92 rfl rfl
theorem wd_813 : Cond.methodLink R_L 178 y_M_tick ∈ bg := bg4 93 rfl rfl
theorem wd_814 : Cond.instanceMethod y_M_tick ∈ bg := bg4 94 rfl rfl
theorem wd_815 : Cond.selects R_M y_M_tick y_M_tick ∈ bg := bg4 95 rfl rfl
theorem wd_816 : Cond.code y_M_tick prog_5_method_39_code 5 (some .int) ∈ bg := bg4 96 rfl rfl
theorem wd_817 : Cond.arrayClass .long ∈ bg := bg4 97 rfl rfl
end
section
/-! Words in the common list, classes' fields, numbers that come from outside. -/
theorem i_X : ∀ w ∈ u_ws R_X F_X 12, w ∈ bg := by decide +kernel
theorem i_W : ∀ w ∈ u_ws R_W F_W 3, w ∈ bg := by decide +kernel
theorem i_H : ∀ w ∈ u_ws R_H F_H 3, w ∈ bg := by decide +kernel
theorem i_M : ∀ w ∈ u_ws R_M F_M 37, w ∈ bg := by decide +kernel
theorem gi_bg {ws : List Cond} (h : ∀ w ∈ ws, w ∈ bg) : GoodIn bg ws := fun w hw => ⟨h w hw, good_of_word (List.mem_filter.mp (h w hw)).2⟩
theorem gi_V {own C : String} {idx : Nat} {y : MethodName} {c : Cond} (h1 : Cond.methodLink own idx y ∈ bg) (h2 : Cond.instanceMethod y ∈ bg) (h3 : Cond.selects C y y ∈ bg) (h4 : Cond.initialized C ∈ bg) (h5 : c ∈ bg) : GoodIn bg (wsV own idx C y (c :: bg)) :=
  gi_bg (fun w hw => by
    unfold wsV at hw
    rcases List.mem_append.mp hw with hw | hw
    · simp only [List.mem_cons, List.not_mem_nil, or_false] at hw
      rcases hw with rfl | rfl | rfl | rfl
      · exact h1
      · exact h2
      · exact h3
      · exact h4
    · rcases List.mem_cons.mp hw with rfl | hw
      · exact h5
      · exact hw)
theorem gi_S {own : String} {idx : Nat} {y : MethodName} {c : Cond} (h1 : Cond.methodLink own idx y ∈ bg) (h2 : Cond.static y ∈ bg) (h3 : Cond.initialized own ∈ bg) (h5 : c ∈ bg) : GoodIn bg (wsS own idx y (c :: bg)) :=
  gi_bg (fun w hw => by
    unfold wsS at hw
    rcases List.mem_append.mp hw with hw | hw
    · simp only [List.mem_cons, List.not_mem_nil, or_false] at hw
      rcases hw with rfl | rfl | rfl
      · exact h1
      · exact h2
      · exact h3
    · rcases List.mem_cons.mp hw with rfl | hw
      · exact h5
      · exact hw)
theorem gi_I {c : Cond} (h5 : c ∈ bg) : GoodIn bg (c :: bg) := gi_bg (fun w hw => by
  rcases List.mem_cons.mp hw with rfl | hw
  · exact h5
  · exact hw)
theorem b2_nar (b : Bool) : narrow .boolean (.int (b2 b)) = .int (b2 b) := by cases b <;> rfl
theorem ok_neg {x : Int32} {n : Nat} (h : x < 0) : ok x n = false := by
  have h1 : x.toInt < 0 := by simpa [Int32.lt_iff_toInt_lt] using h
  simp [ok, Int.not_le.mpr h1]
theorem ok_ge {x : Int32} {n : Nat} (hn : n < 2 ^ 31) (h : nI n ≤ x) : ok x n = false := by
  have h1 : (nI n).toInt ≤ x.toInt := Int32.le_iff_toInt_le.mp h
  rw [nI_toInt hn] at h1
  simp only [ok, Bool.and_eq_false_iff, decide_eq_false_iff_not]
  omega
theorem ok_yes {x : Int32} {n : Nat} (hn : n < 2 ^ 31) (h0 : ¬ x < 0) (h : ¬ nI n ≤ x) : ok x n = true := by
  have h1 : ¬ (nI n).toInt ≤ x.toInt := fun z => h (Int32.le_iff_toInt_le.mpr z)
  have h2 : ¬ x.toInt < 0 := fun z => h0 (by simpa [Int32.lt_iff_toInt_lt] using z)
  rw [nI_toInt hn] at h1
  simp only [ok, Bool.and_eq_true, decide_eq_true_eq]
  omega
theorem rg_lo {x : Int32} {lo hi : Nat} (hl : lo < 2 ^ 31) (h : x < nI lo) : rg x lo hi = false := by
  have h1 : x.toInt < (nI lo).toInt := Int32.lt_iff_toInt_lt.mp h
  rw [nI_toInt hl] at h1
  simp only [rg, Bool.and_eq_false_iff, decide_eq_false_iff_not]
  omega
theorem rg_hi {x : Int32} {lo hi : Nat} (hh : hi < 2 ^ 31) (h : nI hi < x) : rg x lo hi = false := by
  have h1 : (nI hi).toInt < x.toInt := Int32.lt_iff_toInt_lt.mp h
  rw [nI_toInt hh] at h1
  simp only [rg, Bool.and_eq_false_iff, decide_eq_false_iff_not]
  omega
theorem rg_yes {x : Int32} {lo hi : Nat} (hl : lo < 2 ^ 31) (hh : hi < 2 ^ 31) (h0 : ¬ x < nI lo) (h : ¬ nI hi < x) : rg x lo hi = true := by
  have h1 : ¬ (nI hi).toInt < x.toInt := fun z => h (Int32.lt_iff_toInt_lt.mpr z)
  have h2 : ¬ x.toInt < (nI lo).toInt := fun z => h0 (Int32.lt_iff_toInt_lt.mpr z)
  rw [nI_toInt hh] at h1
  rw [nI_toInt hl] at h2
  simp only [rg, Bool.and_eq_true, decide_eq_true_eq]
  omega
end
section
set_option maxHeartbeats 4000000 in
set_option maxRecDepth 100000 in
theorem c_W_made (l : Launch) (dC : Nat → ClassId) (dI : Nat → Nat → Nat) (cI : ClassId) (r ca rm md n : Nat) (f : Nat → Int32)  : Met l y_W_made (.code y_W_made b_W_made 1 (some .int) :: bg) { frames := 0, cells := 0, slots := 0, locals := 0 } (pu_P (dC, dI) classes [(r, .inr (1, [.int (nI rm), .ref ca, .int (nI md)])), (ca, .inl (cI, n, .inl f))] [(cI, .int)] [.ref r]) (pu_Q (.int (nI md))) 0 0 (fun _ => False) := by
  refine Met.ofW (cc := b_W_made) (maxL := 1) (ret := (some .int)) (by decide) rfl ?_
  intro p e s m args below meth c s₁ B hml hv
  obtain ⟨rfl, hP, hK⟩ := hv
  have hx := B.exec
  have hb := B.bytes
  have hr := B.returns
  have hts := fun w (h : w ∈ bg) => atoms_spec (ws := .code y_W_made b_W_made 1 (some .int) :: bg) B.pre w (List.mem_cons_of_mem _ h)
  have hown : s.vm.findClass R_W = some m.cls := findClass_of_methodNamed B.named
  have hlocks := B.notSynchronized
  have hl := lv_entry ([.ref r]) (n := 1) (Nat.le_of_ble_eq_true rfl)
  rw [lg_entry_eq]
  generalize (lg_sl ([.ref r]) ++ List.replicate (1 - (lg_sl ([.ref r])).length) Slot.unset).toArray = ls at hl ⊢
  have hl : lv_has ls 1 [(0, .ref r)] := hl
  refine lv_aload_n hx hb d_W_made_0 rfl (lv_at hl 0 rfl) ?_
  refine va_get (D := (dC, dI)) (ci := 1) (v := .int (nI md)) (C := R_W) (T := F_W) (N := 3) hx hb hts i_W hown hK hP 0 rfl rfl 2 (by decide) (hts _ wd_32) (fun _ h9 => h9) rfl d_W_made_1 ?_
  exact W.iret hx hb hr (fun t ht hW => ⟨rfl, ht⟩) (fun q h => nomatch h) d_W_made_4
set_option maxHeartbeats 4000000 in
set_option maxRecDepth 100000 in
theorem c_W_isFull (l : Launch) (dC : Nat → ClassId) (dI : Nat → Nat → Nat) (cI : ClassId) (r ca rm md n : Nat) (f : Nat → Int32) (h1 : rm < 2 ^ 31) (h2 : md < 2 ^ 31) : Met l y_W_isFull (.code y_W_isFull b_W_isFull 1 (some .boolean) :: bg) { frames := 0, cells := 0, slots := 0, locals := 0 } (pu_P (dC, dI) classes [(r, .inr (1, [.int (nI rm), .ref ca, .int (nI md)])), (ca, .inl (cI, n, .inl f))] [(cI, .int)] [.ref r]) (pu_Q (.int (b2 (decide (rm ≤ md))))) 0 0 (fun _ => False) := by
  refine Met.ofW (cc := b_W_isFull) (maxL := 1) (ret := (some .boolean)) (by decide) rfl ?_
  intro p e s m args below meth c s₁ B hml hv
  obtain ⟨rfl, hP, hK⟩ := hv
  have hx := B.exec
  have hb := B.bytes
  have hr := B.returns
  have hts := fun w (h : w ∈ bg) => atoms_spec (ws := .code y_W_isFull b_W_isFull 1 (some .boolean) :: bg) B.pre w (List.mem_cons_of_mem _ h)
  have hown : s.vm.findClass R_W = some m.cls := findClass_of_methodNamed B.named
  have hlocks := B.notSynchronized
  have hl := lv_entry ([.ref r]) (n := 1) (Nat.le_of_ble_eq_true rfl)
  rw [lg_entry_eq]
  generalize (lg_sl ([.ref r]) ++ List.replicate (1 - (lg_sl ([.ref r])).length) Slot.unset).toArray = ls at hl ⊢
  have hl : lv_has ls 1 [(0, .ref r)] := hl
  refine lv_aload_n hx hb d_W_isFull_0 rfl (lv_at hl 0 rfl) ?_
  refine va_get (D := (dC, dI)) (ci := 1) (v := .int (nI md)) (C := R_W) (T := F_W) (N := 3) hx hb hts i_W hown hK hP 0 rfl rfl 2 (by decide) (hts _ wd_32) (fun _ h9 => h9) rfl d_W_isFull_1 ?_
  refine lv_aload_n hx hb d_W_isFull_4 rfl (lv_at hl 0 rfl) ?_
  refine va_get (D := (dC, dI)) (ci := 1) (v := .int (nI rm)) (C := R_W) (T := F_W) (N := 3) hx hb hts i_W hown hK hP 0 rfl rfl 0 (by decide) (hts _ wd_30) (fun _ h9 => h9) rfl d_W_isFull_5 ?_
  refine nv_clt (tgt := 15) hx hb (by omega) (by omega) d_W_isFull_8 (by decide) (fun c8 => ?_) (fun c8 => ?_)
  · refine lv_iconst (v := nI 0) hx hb d_W_isFull_15 (by decide) ?_
    refine nv_as (b2 (decide (rm ≤ md))) (by first | (rw [decide_eq_true (by omega)]; rfl) | (rw [decide_eq_false (by omega)]; rfl)) ?_
    exact W.zret hx hb hr (b2_nar _) (fun t ht hW => ⟨rfl, ht⟩) (fun q h => nomatch h) d_W_isFull_16
  · refine lv_iconst (v := nI 1) hx hb d_W_isFull_11 (by decide) ?_
    refine lv_goto (tgt := 16) hx hb d_W_isFull_12 (by decide) ?_
    refine nv_as (b2 (decide (rm ≤ md))) (by first | (rw [decide_eq_true (by omega)]; rfl) | (rw [decide_eq_false (by omega)]; rfl)) ?_
    exact W.zret hx hb hr (b2_nar _) (fun t ht hW => ⟨rfl, ht⟩) (fun q h => nomatch h) d_W_isFull_16
set_option maxHeartbeats 4000000 in
set_option maxRecDepth 100000 in
theorem c_W_isMade (l : Launch) (dC : Nat → ClassId) (dI : Nat → Nat → Nat) (cI : ClassId) (r ca rm md n : Nat) (f : Nat → Int32) (x : Int32) (h2 : md < 2 ^ 31) : Met l y_W_isMade (.code y_W_isMade b_W_isMade 2 (some .boolean) :: bg) { frames := 0, cells := 0, slots := 0, locals := 0 } (pu_P (dC, dI) classes [(r, .inr (1, [.int (nI rm), .ref ca, .int (nI md)])), (ca, .inl (cI, n, .inl f))] [(cI, .int)] [.ref r, .int x]) (pu_Q (.int (b2 (ok x md)))) 0 0 (fun _ => False) := by
  refine Met.ofW (cc := b_W_isMade) (maxL := 2) (ret := (some .boolean)) (by decide) rfl ?_
  intro p e s m args below meth c s₁ B hml hv
  obtain ⟨rfl, hP, hK⟩ := hv
  have hx := B.exec
  have hb := B.bytes
  have hr := B.returns
  have hts := fun w (h : w ∈ bg) => atoms_spec (ws := .code y_W_isMade b_W_isMade 2 (some .boolean) :: bg) B.pre w (List.mem_cons_of_mem _ h)
  have hown : s.vm.findClass R_W = some m.cls := findClass_of_methodNamed B.named
  have hlocks := B.notSynchronized
  have hl := lv_entry ([.ref r, .int x]) (n := 2) (Nat.le_of_ble_eq_true rfl)
  rw [lg_entry_eq]
  generalize (lg_sl ([.ref r, .int x]) ++ List.replicate (2 - (lg_sl ([.ref r, .int x])).length) Slot.unset).toArray = ls at hl ⊢
  have hl : lv_has ls 2 [(0, .ref r), (1, .int x)] := hl
  refine lv_iload_n hx hb d_W_isMade_0 rfl (lv_at hl 1 rfl) ?_
  refine lv_if_lt (tgt := 16) hx hb d_W_isMade_1 (by decide) (fun c1 => ?_) (fun c1 => ?_)
  · refine lv_iconst (v := nI 0) hx hb d_W_isMade_16 (by decide) ?_
    refine nv_as (b2 (ok x md)) (by rw [ok_neg c1]; rfl) ?_
    exact W.zret hx hb hr (b2_nar _) (fun t ht hW => ⟨rfl, ht⟩) (fun q h => nomatch h) d_W_isMade_17
  · refine lv_iload_n hx hb d_W_isMade_4 rfl (lv_at hl 1 rfl) ?_
    refine lv_aload_n hx hb d_W_isMade_5 rfl (lv_at hl 0 rfl) ?_
    refine va_get (D := (dC, dI)) (ci := 1) (v := .int (nI md)) (C := R_W) (T := F_W) (N := 3) hx hb hts i_W hown hK hP 0 rfl rfl 2 (by decide) (hts _ wd_32) (fun _ h9 => h9) rfl d_W_isMade_6 ?_
    refine lv_icmp_ge (tgt := 16) hx hb d_W_isMade_9 (by decide) (fun c9 => ?_) (fun c9 => ?_)
    · refine lv_iconst (v := nI 0) hx hb d_W_isMade_16 (by decide) ?_
      refine nv_as (b2 (ok x md)) (by rw [ok_ge h2 c9]; rfl) ?_
      exact W.zret hx hb hr (b2_nar _) (fun t ht hW => ⟨rfl, ht⟩) (fun q h => nomatch h) d_W_isMade_17
    · refine lv_iconst (v := nI 1) hx hb d_W_isMade_12 (by decide) ?_
      refine lv_goto (tgt := 17) hx hb d_W_isMade_13 (by decide) ?_
      refine nv_as (b2 (ok x md)) (by rw [ok_yes h2 c1 c9]; rfl) ?_
      exact W.zret hx hb hr (b2_nar _) (fun t ht hW => ⟨rfl, ht⟩) (fun q h => nomatch h) d_W_isMade_17
set_option maxHeartbeats 4000000 in
set_option maxRecDepth 100000 in
theorem c_W_isColumn (l : Launch) (dC : Nat → ClassId) (dI : Nat → Nat → Nat) (cI : ClassId) (r ca rm md n : Nat) (f : Nat → Int32) (x : Int32) : Met l y_W_isColumn (.code y_W_isColumn b_W_isColumn 2 (some .boolean) :: bg) { frames := 0, cells := 0, slots := 0, locals := 0 } (pu_P (dC, dI) classes [(r, .inr (1, [.int (nI rm), .ref ca, .int (nI md)])), (ca, .inl (cI, n, .inl f))] [(cI, .int)] [.ref r, .int x]) (pu_Q (.int (b2 (ok x 5)))) 0 0 (fun _ => False) := by
  refine Met.ofW (cc := b_W_isColumn) (maxL := 2) (ret := (some .boolean)) (by decide) rfl ?_
  intro p e s m args below meth c s₁ B hml hv
  obtain ⟨rfl, hP, hK⟩ := hv
  have hx := B.exec
  have hb := B.bytes
  have hr := B.returns
  have hts := fun w (h : w ∈ bg) => atoms_spec (ws := .code y_W_isColumn b_W_isColumn 2 (some .boolean) :: bg) B.pre w (List.mem_cons_of_mem _ h)
  have hown : s.vm.findClass R_W = some m.cls := findClass_of_methodNamed B.named
  have hlocks := B.notSynchronized
  have hl := lv_entry ([.ref r, .int x]) (n := 2) (Nat.le_of_ble_eq_true rfl)
  rw [lg_entry_eq]
  generalize (lg_sl ([.ref r, .int x]) ++ List.replicate (2 - (lg_sl ([.ref r, .int x])).length) Slot.unset).toArray = ls at hl ⊢
  have hl : lv_has ls 2 [(0, .ref r), (1, .int x)] := hl
  refine lv_iload_n hx hb d_W_isColumn_0 rfl (lv_at hl 1 rfl) ?_
  refine lv_if_lt (tgt := 13) hx hb d_W_isColumn_1 (by decide) (fun c1 => ?_) (fun c1 => ?_)
  · refine lv_iconst (v := nI 0) hx hb d_W_isColumn_13 (by decide) ?_
    refine nv_as (b2 (ok x 5)) (by rw [ok_neg c1]; rfl) ?_
    exact W.zret hx hb hr (b2_nar _) (fun t ht hW => ⟨rfl, ht⟩) (fun q h => nomatch h) d_W_isColumn_14
  · refine lv_iload_n hx hb d_W_isColumn_4 rfl (lv_at hl 1 rfl) ?_
    refine lv_iconst (v := nI 5) hx hb d_W_isColumn_5 (by decide) ?_
    refine lv_icmp_ge (tgt := 13) hx hb d_W_isColumn_6 (by decide) (fun c6 => ?_) (fun c6 => ?_)
    · refine lv_iconst (v := nI 0) hx hb d_W_isColumn_13 (by decide) ?_
      refine nv_as (b2 (ok x 5)) (by rw [ok_ge (by decide) c6]; rfl) ?_
      exact W.zret hx hb hr (b2_nar _) (fun t ht hW => ⟨rfl, ht⟩) (fun q h => nomatch h) d_W_isColumn_14
    · refine lv_iconst (v := nI 1) hx hb d_W_isColumn_9 (by decide) ?_
      refine lv_goto (tgt := 14) hx hb d_W_isColumn_10 (by decide) ?_
      refine nv_as (b2 (ok x 5)) (by rw [ok_yes (by decide) c1 c6]; rfl) ?_
      exact W.zret hx hb hr (b2_nar _) (fun t ht hW => ⟨rfl, ht⟩) (fun q h => nomatch h) d_W_isColumn_14
set_option maxHeartbeats 4000000 in
set_option maxRecDepth 100000 in
theorem c_W_at (l : Launch) (dC : Nat → ClassId) (dI : Nat → Nat → Nat) (cI : ClassId) (r ca rm md n : Nat) (f : Nat → Int32) (i co : Nat) (hi : i * 5 + co < n) (hn : n < 2 ^ 31) : Met l y_W_at (.code y_W_at b_W_at 3 (some .int) :: bg) { frames := 0, cells := 0, slots := 0, locals := 0 } (pu_P (dC, dI) classes [(r, .inr (1, [.int (nI rm), .ref ca, .int (nI md)])), (ca, .inl (cI, n, .inl f))] [(cI, .int)] [.ref r, .int (nI i), .int (nI co)]) (pu_Q (.int (f (i * 5 + co)))) 0 0 (fun _ => False) := by
  refine Met.ofW (cc := b_W_at) (maxL := 3) (ret := (some .int)) (by decide) rfl ?_
  intro p e s m args below meth c s₁ B hml hv
  obtain ⟨rfl, hP, hK⟩ := hv
  have hx := B.exec
  have hb := B.bytes
  have hr := B.returns
  have hts := fun w (h : w ∈ bg) => atoms_spec (ws := .code y_W_at b_W_at 3 (some .int) :: bg) B.pre w (List.mem_cons_of_mem _ h)
  have hown : s.vm.findClass R_W = some m.cls := findClass_of_methodNamed B.named
  have hlocks := B.notSynchronized
  have hl := lv_entry ([.ref r, .int (nI i), .int (nI co)]) (n := 3) (Nat.le_of_ble_eq_true rfl)
  rw [lg_entry_eq]
  generalize (lg_sl ([.ref r, .int (nI i), .int (nI co)]) ++ List.replicate (3 - (lg_sl ([.ref r, .int (nI i), .int (nI co)])).length) Slot.unset).toArray = ls at hl ⊢
  have hl : lv_has ls 3 [(0, .ref r), (1, .int (nI i)), (2, .int (nI co))] := hl
  refine lv_aload_n hx hb d_W_at_0 rfl (lv_at hl 0 rfl) ?_
  refine va_get (D := (dC, dI)) (ci := 1) (v := .ref ca) (C := R_W) (T := F_W) (N := 3) hx hb hts i_W hown hK hP 0 rfl rfl 1 (by decide) (hts _ wd_31) (fun _ h9 => h9) rfl d_W_at_1 ?_
  refine lv_iload_n hx hb d_W_at_4 rfl (lv_at hl 1 rfl) ?_
  refine lv_iconst (v := nI 5) hx hb d_W_at_5 (by decide) ?_
  refine nv_mul hx hb d_W_at_6 ?_
  refine lv_iload_n hx hb d_W_at_7 rfl (lv_at hl 2 rfl) ?_
  refine nv_add hx hb d_W_at_8 ?_
  refine nv_iald (v := f ((i * 5) + co)) hx hb hK hP 1 0 rfl rfl (by omega) (by omega) rfl d_W_at_9 ?_
  refine nv_as (f (i * 5 + co)) (by rfl) ?_
  exact W.iret hx hb hr (fun t ht hW => ⟨rfl, ht⟩) (fun q h => nomatch h) d_W_at_10
end
section
/-! THE CLASS'S WORLD: eighteen cells, and what holds of the state between two calls (t of them done). -/
def wX (q : Nat → Nat) (cI : ClassId) (S : St) : va_W :=
  [(q 0, .inr (0, [.ref (q 1), .ref (q 2), .ref (q 3), .ref (q 4), .ref (q 5), .ref (q 6), .ref (q 7), .ref (q 8), .ref (q 9), .ref (q 10), .int (nI (S.2.1 0)), .int (nI (S.2.1 1))])),
   (q 1, .inr (1, [.int (nI 60), .ref (q 11), .int (nI (S.2.1 2))])),
   (q 2, .inr (1, [.int (nI 60), .ref (q 12), .int (nI (S.2.1 3))])),
   (q 3, .inr (1, [.int (nI 80), .ref (q 13), .int (nI (S.2.1 4))])),
   (q 4, .inr (1, [.int (nI 20), .ref (q 14), .int (nI (S.2.1 5))])),
   (q 5, .inr (1, [.int (nI 80), .ref (q 15), .int (nI (S.2.1 6))])),
   (q 6, .inr (2, [.ref (q 16), .ref (q 17), .int (nI (S.2.1 7))])),
   (q 7, .inl (cI, 480, .inl (colf S.1 25))),
   (q 8, .inl (cI, 80, .inl (colf S.1 26))),
   (q 9, .inl (cI, 80, .inl (colf S.1 27))),
   (q 10, .inl (cI, 50, .inl (colf S.1 28))),
   (q 11, .inl (cI, 300, .inl (rowf S.1 0))),
   (q 12, .inl (cI, 300, .inl (rowf S.1 5))),
   (q 13, .inl (cI, 400, .inl (rowf S.1 10))),
   (q 14, .inl (cI, 100, .inl (rowf S.1 15))),
   (q 15, .inl (cI, 400, .inl (rowd S.1 S.2.2))),
   (q 16, .inl (cI, 10, .inl (colf S.1 29))),
   (q 17, .inl (cI, 10, .inl (colf S.1 30)))]
def bd (t k : Nat) : Nat := match k with
  | 0 => 9 | 1 => 9999 | 2 => 9999 * t | 3 => 9999 * t | 4 => 9999 | 5 => 7 | 6 => 59 | 7 => 9999 | 8 => 10029 | 9 => 1
  | 10 => 7 | 11 => 9 | 12 => 9999 | 13 => 9999 | 14 => 1 | 15 => 7 | 16 => 9 | 17 => 9999 | 18 => 19 | 19 => 1
  | 20 => 7 | 21 => 59 | 22 => 0 | 23 => 99 | 24 => 9999 | 25 => 9999 | 26 => 9999 | 27 => 9999 | 28 => 20 | 29 => 99999 | 30 => 99999 | 31 => 1 | _ => 0
def gb (k : Nat) : Nat := match k with
  | 0 => 8 | 1 => 9999 | 2 => 60 | 3 => 60 | 4 => 80 | 5 => 20 | 6 => 80 | 7 => 10 | _ => 0
/-- the bounds alone -/
def Bd (t : Nat) (S : St) : Prop := (∀ k j, S.1 k j ≤ bd t k) ∧ (∀ k, S.2.1 k ≤ gb k) ∧ t ≤ 512
def Inv (t : Nat) (S : St) : Prop := Bd t S ∧ (∀ j, S.1 26 j ≤ S.1 27 j) ∧ (∀ j, S.1 31 j = 0 → S.1 26 j = 0) ∧ (∀ j, S.2.1 2 ≤ j → S.1 2 j = 0 ∧ S.1 3 j = 0 ∧ S.1 4 j = 0) ∧
  (∀ j, j < S.2.1 4 → S.1 10 j < S.2.1 0) ∧ (∀ j, j < S.2.1 5 → S.1 15 j < S.2.1 0) ∧ (∀ j, S.1 9 j = 1 → S.2.1 1 < S.1 8 j) ∧ (∀ i j, i < j → j < S.2.1 7 → S.1 29 i < S.1 29 j ∧ S.1 30 i < S.1 30 j)
theorem sIf_t {P : Nat → Bool} {v : Nat → Nat} {i : Nat} (h : P i = true) : sIf P v (i + 1) = sIf P v i + v i := by simp [sIf, h]
theorem sIf_f {P : Nat → Bool} {v : Nat → Nat} {i : Nat} (h : P i = false) : sIf P v (i + 1) = sIf P v i := by simp [sIf, h]
theorem sIf_0 {P : Nat → Bool} {v : Nat → Nat} : sIf P v 0 = 0 := rfl
theorem b2_inj {x y : Bool} (h : b2 x = b2 y) : x = y := by cases x <;> cases y <;> first | rfl | exact absurd h (by decide)
def inst (S : St) (s k : Nat) (g : Bool) : Nat := sIf (fun j => decide (S.1 0 j = k) && (decide (S.2.1 1 ≤ S.1 1 j) == g)) (fun j => S.1 25 (s * 60 + j)) (S.2.1 2)
theorem inst_t {S : St} {s k : Nat} : inst S s k true = good S s k := sIf_congr _ (fun i _ => ⟨by simp, fun _ => rfl⟩)
theorem inst_f {S : St} {s k : Nat} : inst S s k false = bad S s k := sIf_congr _ (fun i _ => ⟨by simp, fun _ => rfl⟩)
def o2 (o : Option Nat) : Int32 := match o with
  | none => -1
  | some b => nI b
theorem o2_some {o : Option Nat} (h : ¬ o2 o < 0) : ∃ b, o = some b := by
  cases o with
  | none => exact absurd (by decide) h
  | some b => exact ⟨b, rfl⟩
theorem o2_none {o : Option Nat} (h : o2 o < 0) (hb : ∀ b, o = some b → b < 2 ^ 31) : o = none := by
  cases o with
  | none => rfl
  | some b => exact absurd h (nI_pos (hb b rfl))
theorem bst_lt {S : St} {s k : Nat} : ∀ {i b : Nat}, bst S s k i = some b → b < i
  | 0, b, h => by simp [bst] at h
  | i + 1, b, h => by
    simp only [bst] at h
    split at h
    · split at h
      · cases h; omega
      · rename_i b' hb'
        split at h
        · cases h; omega
        · cases h; exact Nat.lt_succ_of_lt (bst_lt hb')
    · exact Nat.lt_succ_of_lt (bst_lt h)
theorem bst_no {S : St} {s k i : Nat} (h : takeable S s k i = false) : bst S s k (i + 1) = bst S s k i := by simp [bst, h]
theorem bst_first {S : St} {s k i : Nat} (h : takeable S s k i = true) (hn : bst S s k i = none) : bst S s k (i + 1) = some i := by simp [bst, h, hn]
theorem bst_new {S : St} {s k i b : Nat} (h : takeable S s k i = true) (hn : bst S s k i = some b) (hb : before S s i b = true) : bst S s k (i + 1) = some i := by simp [bst, h, hn, hb]
theorem bst_keep {S : St} {s k i b : Nat} (h : takeable S s k i = true) (hn : bst S s k i = some b) (hb : before S s i b = false) : bst S s k (i + 1) = some b := by simp [bst, h, hn, hb]
theorem anyPart_t {S : St} {t k : Nat} (hk : k < 10) (h : 0 < S.1 28 (t * 10 + k)) : anyPart S t = true :=
  List.any_eq_true.mpr ⟨k, List.mem_range.mpr hk, decide_eq_true h⟩
theorem anyPart_f {S : St} {t : Nat} (h : ∀ j, j < 10 → S.1 28 (t * 10 + j) = 0) : anyPart S t = false := by
  refine List.any_eq_false.mpr fun k hk => ?_
  have := h k (List.mem_range.mp hk)
  simp [this]
theorem find_first {P : Nat → Bool} : ∀ (n a i : Nat), a ≤ i → i < a + n → P i = true → (∀ j, a ≤ j → j < i → P j = false) → (List.range' a n).find? P = some i
  | 0, a, i, h1, h2, _, _ => by omega
  | n + 1, a, i, h1, h2, hp, hn => by
    rw [List.range'_succ, List.find?_cons]
    by_cases e : a = i
    · subst e; simp [hp]
    · rw [hn a (Nat.le_refl _) (by omega)]
      exact find_first n (a + 1) i (by omega) (by omega) hp (fun j h3 h4 => hn j (by omega) h4)
theorem lack_some {S : St} {s t i : Nat} (hi : i < 10) (h : good S s i < S.1 28 (t * 10 + i)) (hn : ∀ j, j < i → S.1 28 (t * 10 + j) ≤ good S s j) : lack S s t = some i := by
  unfold lack
  rw [List.range_eq_range']
  exact find_first 10 0 i (Nat.zero_le _) (by omega) (decide_eq_true h) (fun j _ hj => decide_eq_false (Nat.not_lt.mpr (hn j hj)))
theorem lack_none {S : St} {s t : Nat} (hn : ∀ j, j < 10 → S.1 28 (t * 10 + j) ≤ good S s j) : lack S s t = none := by
  refine List.find?_eq_none.mpr fun k hk => ?_
  have := hn k (List.mem_range.mp hk)
  simp [Nat.not_lt.mpr this]
theorem lna_lt {S : St} {h : Nat} : ∀ {i b : Nat}, lna S h i = some b → b < i ∧ S.1 29 b ≤ h
  | 0, b, e => by simp [lna] at e
  | i + 1, b, e => by
    simp only [lna] at e
    split at e
    · rename_i h1
      cases e; exact ⟨Nat.lt_succ_self _, h1⟩
    · exact ⟨Nat.lt_succ_of_lt (lna_lt e).1, (lna_lt e).2⟩
theorem lna_y {S : St} {h i : Nat} (e : S.1 29 i ≤ h) : lna S h (i + 1) = some i := by simp [lna, e]
theorem lna_n {S : St} {h i : Nat} (e : h < S.1 29 i) : lna S h (i + 1) = lna S h i := by simp [lna, Nat.not_le.mpr e]
theorem sum_le {n N : Nat} {P : Nat → Bool} {v : Nat → Nat} (hv : ∀ i, v i ≤ 9999) (hn : n ≤ N) : sIf P v n ≤ N * 9999 :=
  Nat.le_trans (sIf_le hv n) (Nat.mul_le_mul_right 9999 hn)
theorem inst_le {t : Nat} {S : St} (hI : Bd t S) (s k : Nat) (g : Bool) : inst S s k g ≤ 599940 := sum_le (fun i => hI.1 25 _) (hI.2.1 2)
theorem good_le {t : Nat} {S : St} (hI : Bd t S) (s k : Nat) : good S s k ≤ 599940 := sum_le (fun i => hI.1 25 _) (hI.2.1 2)
theorem bad_le {t : Nat} {S : St} (hI : Bd t S) (s k : Nat) : bad S s k ≤ 599940 := sum_le (fun i => hI.1 25 _) (hI.2.1 2)
theorem way_le {t : Nat} {S : St} (hI : Bd t S) (g : Bool) (s k : Nat) : way S g s k ≤ 599940 := sum_le (fun i => hI.1 7 _) (hI.2.1 3)
theorem opn_le {t : Nat} {S : St} (hI : Bd t S) (s k : Nat) : opn S s k ≤ 799920 := sum_le (fun i => hI.1 12 _) (hI.2.1 4)
theorem allIn_le {t : Nat} {S : St} (hI : Bd t S) (y : Nat) : allIn S y ≤ 79992 := sum_le (fun i => hI.1 25 _) (hI.2.1 0)
end
section
set_option maxHeartbeats 4000000 in
set_option maxRecDepth 100000 in
theorem c_X_place (l : Launch) (dC : Nat → ClassId) (dI : Nat → Nat → Nat) (a b : Nat) : Met l y_X_place (.code y_X_place b_X_place 2 (some .int) :: bg) { frames := 0, cells := 0, slots := 0, locals := 0 } (pu_P (dC, dI) classes [] [] [.int (nI a), .int (nI b)]) (pu_Q (.int (nI (a * 60 + b)))) 0 0 (fun _ => False) := by
  refine Met.ofW (cc := b_X_place) (maxL := 2) (ret := (some .int)) (by decide) rfl ?_
  intro p e s m args below meth c s₁ B hml hv
  obtain ⟨rfl, hP, hK⟩ := hv
  have hx := B.exec
  have hb := B.bytes
  have hr := B.returns
  have hts := fun w (h : w ∈ bg) => atoms_spec (ws := .code y_X_place b_X_place 2 (some .int) :: bg) B.pre w (List.mem_cons_of_mem _ h)
  have hown : s.vm.findClass R_X = some m.cls := findClass_of_methodNamed B.named
  have hlocks := B.notSynchronized
  have hl := lv_entry ([.int (nI a), .int (nI b)]) (n := 2) (Nat.le_of_ble_eq_true rfl)
  rw [lg_entry_eq]
  generalize (lg_sl ([.int (nI a), .int (nI b)]) ++ List.replicate (2 - (lg_sl ([.int (nI a), .int (nI b)])).length) Slot.unset).toArray = ls at hl ⊢
  have hl : lv_has ls 2 [(0, .int (nI a)), (1, .int (nI b))] := hl
  refine lv_iload_n hx hb d_X_place_0 rfl (lv_at hl 0 rfl) ?_
  refine lv_bipush (v := nI 60) hx hb d_X_place_1 (by decide) ?_
  refine nv_mul hx hb d_X_place_3 ?_
  refine lv_iload_n hx hb d_X_place_4 rfl (lv_at hl 1 rfl) ?_
  refine nv_add hx hb d_X_place_5 ?_
  refine nv_as (nI (a * 60 + b)) (by rfl) ?_
  exact W.iret hx hb hr (fun t ht hW => ⟨rfl, ht⟩) (fun q h => nomatch h) d_X_place_6
set_option maxHeartbeats 4000000 in
set_option maxRecDepth 100000 in
theorem c_X_pair (l : Launch) (dC : Nat → ClassId) (dI : Nat → Nat → Nat) (a b : Nat) : Met l y_X_pair (.code y_X_pair b_X_pair 2 (some .int) :: bg) { frames := 0, cells := 0, slots := 0, locals := 0 } (pu_P (dC, dI) classes [] [] [.int (nI a), .int (nI b)]) (pu_Q (.int (nI (a * 10 + b)))) 0 0 (fun _ => False) := by
  refine Met.ofW (cc := b_X_pair) (maxL := 2) (ret := (some .int)) (by decide) rfl ?_
  intro p e s m args below meth c s₁ B hml hv
  obtain ⟨rfl, hP, hK⟩ := hv
  have hx := B.exec
  have hb := B.bytes
  have hr := B.returns
  have hts := fun w (h : w ∈ bg) => atoms_spec (ws := .code y_X_pair b_X_pair 2 (some .int) :: bg) B.pre w (List.mem_cons_of_mem _ h)
  have hown : s.vm.findClass R_X = some m.cls := findClass_of_methodNamed B.named
  have hlocks := B.notSynchronized
  have hl := lv_entry ([.int (nI a), .int (nI b)]) (n := 2) (Nat.le_of_ble_eq_true rfl)
  rw [lg_entry_eq]
  generalize (lg_sl ([.int (nI a), .int (nI b)]) ++ List.replicate (2 - (lg_sl ([.int (nI a), .int (nI b)])).length) Slot.unset).toArray = ls at hl ⊢
  have hl : lv_has ls 2 [(0, .int (nI a)), (1, .int (nI b))] := hl
  refine lv_iload_n hx hb d_X_pair_0 rfl (lv_at hl 0 rfl) ?_
  refine lv_bipush (v := nI 10) hx hb d_X_pair_1 (by decide) ?_
  refine nv_mul hx hb d_X_pair_3 ?_
  refine lv_iload_n hx hb d_X_pair_4 rfl (lv_at hl 1 rfl) ?_
  refine nv_add hx hb d_X_pair_5 ?_
  refine nv_as (nI (a * 10 + b)) (by rfl) ?_
  exact W.iret hx hb hr (fun t ht hW => ⟨rfl, ht⟩) (fun q h => nomatch h) d_X_pair_6
set_option maxHeartbeats 4000000 in
set_option maxRecDepth 100000 in
theorem c_X_isGoodOn (l : Launch) (dC : Nat → ClassId) (dI : Nat → Nat → Nat) (cI : ClassId) (q : Nat → Nat) (S : St) (t : Nat) (hI : Bd t S) (j d : Nat) (hj : j < 60) (hd : d < 2 ^ 31) : Met l y_X_isGoodOn (.code y_X_isGoodOn b_X_isGoodOn 3 (some .boolean) :: bg) { frames := 1, cells := 0, slots := 0, locals := 22 } (pu_P (dC, dI) classes (wX q cI S) [(cI, .int)] [.ref (q 0), .int (nI j), .int (nI d)]) (pu_Q (.int (b2 (decide (d ≤ S.1 1 j))))) 0 0 (fun _ => False) := by
  refine Met.ofW (cc := b_X_isGoodOn) (maxL := 3) (ret := (some .boolean)) (by decide) rfl ?_
  intro p e s m args below meth c s₁ B hml hv
  obtain ⟨rfl, hP, hK⟩ := hv
  have hx := B.exec
  have hb := B.bytes
  have hr := B.returns
  have hts := fun w (h : w ∈ bg) => atoms_spec (ws := .code y_X_isGoodOn b_X_isGoodOn 3 (some .boolean) :: bg) B.pre w (List.mem_cons_of_mem _ h)
  have hown : s.vm.findClass R_X = some m.cls := findClass_of_methodNamed B.named
  have hlocks := B.notSynchronized
  have hl := lv_entry ([.ref (q 0), .int (nI j), .int (nI d)]) (n := 3) (Nat.le_of_ble_eq_true rfl)
  rw [lg_entry_eq]
  generalize (lg_sl ([.ref (q 0), .int (nI j), .int (nI d)]) ++ List.replicate (3 - (lg_sl ([.ref (q 0), .int (nI j), .int (nI d)])).length) Slot.unset).toArray = ls at hl ⊢
  have hl : lv_has ls 3 [(0, .ref (q 0)), (1, .int (nI j)), (2, .int (nI d))] := hl
  have hB := hI.1
  have hg0 : S.2.1 0 ≤ 8 := hI.2.1 0
  have hg1 : S.2.1 1 ≤ 9999 := hI.2.1 1
  have hg2 : S.2.1 2 ≤ 60 := hI.2.1 2
  have hg3 : S.2.1 3 ≤ 60 := hI.2.1 3
  have hg4 : S.2.1 4 ≤ 80 := hI.2.1 4
  have hg5 : S.2.1 5 ≤ 20 := hI.2.1 5
  have hg6 : S.2.1 6 ≤ 80 := hI.2.1 6
  have hg7 : S.2.1 7 ≤ 10 := hI.2.1 7
  have hg8 : t ≤ 512 := hI.2.2
  refine lv_iload_n hx hb d_X_isGoodOn_0 rfl (lv_at hl 2 rfl) ?_
  refine lv_aload_n hx hb d_X_isGoodOn_1 rfl (lv_at hl 0 rfl) ?_
  refine va_get (D := (dC, dI)) (ci := 0) (v := .ref (q 1)) (C := R_X) (T := F_X) (N := 12) hx hb hts i_X hown hK hP 0 rfl rfl 0 (by decide) (hts _ wd_57) (fun _ h9 => h9) rfl d_X_isGoodOn_2 ?_
  refine lv_iload_n hx hb d_X_isGoodOn_5 rfl (lv_at hl 1 rfl) ?_
  refine lv_iconst (v := nI 1) hx hb d_X_isGoodOn_6 (by decide) ?_
  refine pu_go (va_runV (As := [.int (nI j), .int (nI 1)]) (rest := [.int (nI d)]) ⟨hx, hb, hml, hown, hts⟩ (c_W_at l dC dI cI (q 1) (q 11) 60 (S.2.1 2) 300 (rowf S.1 0) j 1 (by omega) (by decide)) (cwV 2 hts (gi_V wd_117 wd_118 wd_119 wd_2 wd_120) rfl rfl rfl (by decide +kernel) ⟨Nat.le_of_ble_eq_true rfl, Nat.le_of_ble_eq_true rfl⟩) (pu_preV hK (hP.sub [1, 11] rfl) (ci := 1) (q0 := 0) rfl rfl) rfl rfl hl.1 rfl (lv_room (Nat.le_of_ble_eq_true rfl)) d_X_isGoodOn_7 ⟨Nat.le_of_ble_eq_true rfl, Nat.le_of_ble_eq_true rfl⟩) ?_
  refine nv_as (nI (S.1 1 j)) (rowf_at (by decide)) ?_
  have hb1 : S.1 1 j ≤ 9999 := hB 1 _
  refine nv_cgt (tgt := 17) hx hb (by omega) (by omega) d_X_isGoodOn_10 (by decide) (fun c10 => ?_) (fun c10 => ?_)
  · refine lv_iconst (v := nI 0) hx hb d_X_isGoodOn_17 (by decide) ?_
    refine nv_as (b2 (decide (d ≤ S.1 1 j))) (by first | (rw [decide_eq_true (by omega)]; rfl) | (rw [decide_eq_false (by omega)]; rfl)) ?_
    exact W.zret hx hb hr (b2_nar _) (fun t ht hW => ⟨rfl, ht⟩) (fun q h => nomatch h) d_X_isGoodOn_18
  · refine lv_iconst (v := nI 1) hx hb d_X_isGoodOn_13 (by decide) ?_
    refine lv_goto (tgt := 18) hx hb d_X_isGoodOn_14 (by decide) ?_
    refine nv_as (b2 (decide (d ≤ S.1 1 j))) (by first | (rw [decide_eq_true (by omega)]; rfl) | (rw [decide_eq_false (by omega)]; rfl)) ?_
    exact W.zret hx hb hr (b2_nar _) (fun t ht hW => ⟨rfl, ht⟩) (fun q h => nomatch h) d_X_isGoodOn_18
set_option maxHeartbeats 4000000 in
set_option maxRecDepth 100000 in
theorem c_X_inStore (l : Launch) (dC : Nat → ClassId) (dI : Nat → Nat → Nat) (cI : ClassId) (q : Nat → Nat) (S : St) (t : Nat) (hI : Bd t S) (st kd : Nat) (g : Bool) (hs : st < 8) (hk : kd < 10) : Met l y_X_inStore (.code y_X_inStore b_X_inStore 6 (some .int) :: bg) { frames := 2, cells := 0, slots := 0, locals := 44 } (pu_P (dC, dI) classes (wX q cI S) [(cI, .int)] [.ref (q 0), .int (nI st), .int (nI kd), .int (b2 g)]) (pu_Q (.int (nI (inst S st kd g)))) 0 0 (fun _ => False) := by
  refine Met.ofW (cc := b_X_inStore) (maxL := 6) (ret := (some .int)) (by decide) rfl ?_
  intro p e s m args below meth c s₁ B hml hv
  obtain ⟨rfl, hP, hK⟩ := hv
  have hx := B.exec
  have hb := B.bytes
  have hr := B.returns
  have hts := fun w (h : w ∈ bg) => atoms_spec (ws := .code y_X_inStore b_X_inStore 6 (some .int) :: bg) B.pre w (List.mem_cons_of_mem _ h)
  have hown : s.vm.findClass R_X = some m.cls := findClass_of_methodNamed B.named
  have hlocks := B.notSynchronized
  have hl := lv_entry ([.ref (q 0), .int (nI st), .int (nI kd), .int (b2 g)]) (n := 6) (Nat.le_of_ble_eq_true rfl)
  rw [lg_entry_eq]
  generalize (lg_sl ([.ref (q 0), .int (nI st), .int (nI kd), .int (b2 g)]) ++ List.replicate (6 - (lg_sl ([.ref (q 0), .int (nI st), .int (nI kd), .int (b2 g)])).length) Slot.unset).toArray = ls at hl ⊢
  have hl : lv_has ls 6 [(0, .ref (q 0)), (1, .int (nI st)), (2, .int (nI kd)), (3, .int (b2 g))] := hl
  have hB := hI.1
  have hg0 : S.2.1 0 ≤ 8 := hI.2.1 0
  have hg1 : S.2.1 1 ≤ 9999 := hI.2.1 1
  have hg2 : S.2.1 2 ≤ 60 := hI.2.1 2
  have hg3 : S.2.1 3 ≤ 60 := hI.2.1 3
  have hg4 : S.2.1 4 ≤ 80 := hI.2.1 4
  have hg5 : S.2.1 5 ≤ 20 := hI.2.1 5
  have hg6 : S.2.1 6 ≤ 80 := hI.2.1 6
  have hg7 : S.2.1 7 ≤ 10 := hI.2.1 7
  have hg8 : t ≤ 512 := hI.2.2
  refine lv_iconst (v := nI 0) hx hb d_X_inStore_0 (by decide) ?_
  refine lv_istore (lv' := [(4, .int (nI 0)), (0, .ref (q 0)), (1, .int (nI st)), (2, .int (nI kd)), (3, .int (b2 g))]) hx hb d_X_inStore_1 hl (by decide) rfl (fun ls hl => ?_)
  refine lv_iconst (v := nI 0) hx hb d_X_inStore_3 (by decide) ?_
  refine lv_istore (lv' := [(5, .int (nI 0)), (4, .int (nI 0)), (0, .ref (q 0)), (1, .int (nI st)), (2, .int (nI kd)), (3, .int (b2 g))]) hx hb d_X_inStore_4 hl (by decide) rfl (fun ls hl => ?_)
  have LP6 : ∀ (fu i : Nat), S.2.1 2 - i < fu → i ≤ S.2.1 2 → ∀ ls : Array Slot, lv_has ls 6 [(5, .int (nI i)), (4, .int (nI (sIf (fun j => decide (S.1 0 j = kd) && (decide (S.2.1 1 ≤ S.1 1 j) == g)) (fun j => S.1 25 (st * 60 + j)) i))), (0, .ref (q 0)), (1, .int (nI st)), (2, .int (nI kd)), (3, .int (b2 g))] → W p l e (headSpec (.code y_X_inStore b_X_inStore 6 (some .int) :: bg) { frames := 2, cells := 0, slots := 0, locals := 44 }).room s m (List.toArray [.ref (q 0), .int (nI st), .int (nI kd), .int (b2 g)]) below meth c s.heap [] 0 0 (MQ below (pu_Q (.int (nI (inst S st kd g)))) (List.toArray [.ref (q 0), .int (nI st), .int (nI kd), .int (b2 g)]) s 0 0 (fun _ => False)) (F0 m 6 ls []) := by
    intro fu
    induction fu with
    | zero => intro i h; exact absurd h (Nat.not_lt_zero _)
    | succ fu ih =>
      intro i hfu hi ls hl
      refine lv_iload hx hb d_X_inStore_6 (lv_at hl 0 rfl) ?_
      refine lv_aload_n hx hb d_X_inStore_8 rfl (lv_at hl 2 rfl) ?_
      refine va_get (D := (dC, dI)) (ci := 0) (v := .ref (q 1)) (C := R_X) (T := F_X) (N := 12) hx hb hts i_X hown hK hP 0 rfl rfl 0 (by decide) (hts _ wd_57) (fun _ h9 => h9) rfl d_X_inStore_9 ?_
      refine pu_go (va_runV (As := []) (rest := [.int (nI i)]) ⟨hx, hb, hml, hown, hts⟩ (c_W_made l dC dI cI (q 1) (q 11) 60 (S.2.1 2) 300 (rowf S.1 0)) (cwV 0 hts (gi_V wd_98 wd_99 wd_100 wd_2 wd_101) rfl rfl rfl (by decide +kernel) ⟨Nat.le_of_ble_eq_true rfl, Nat.le_of_ble_eq_true rfl⟩) (pu_preV hK (hP.sub [1, 11] rfl) (ci := 1) (q0 := 0) rfl rfl) rfl rfl hl.1 rfl (lv_room (Nat.le_of_ble_eq_true rfl)) d_X_inStore_12 ⟨Nat.le_of_ble_eq_true rfl, Nat.le_of_ble_eq_true rfl⟩) ?_
      refine nv_cge (tgt := 68) hx hb (by omega) (by omega) d_X_inStore_15 (by decide) (fun c15 => ?_) (fun c15 => ?_)
      · obtain rfl : i = S.2.1 2 := by omega
        refine lv_iload hx hb d_X_inStore_68 (lv_at hl 1 rfl) ?_
        refine nv_as (nI (inst S st kd g)) (by rfl) ?_
        exact W.iret hx hb hr (fun t ht hW => ⟨rfl, ht⟩) (fun q h => nomatch h) d_X_inStore_70
      · refine lv_aload_n hx hb d_X_inStore_18 rfl (lv_at hl 2 rfl) ?_
        refine va_get (D := (dC, dI)) (ci := 0) (v := .ref (q 1)) (C := R_X) (T := F_X) (N := 12) hx hb hts i_X hown hK hP 0 rfl rfl 0 (by decide) (hts _ wd_57) (fun _ h9 => h9) rfl d_X_inStore_19 ?_
        refine lv_iload hx hb d_X_inStore_22 (lv_at hl 0 rfl) ?_
        refine lv_iconst (v := nI 0) hx hb d_X_inStore_24 (by decide) ?_
        refine pu_go (va_runV (As := [.int (nI i), .int (nI 0)]) (rest := []) ⟨hx, hb, hml, hown, hts⟩ (c_W_at l dC dI cI (q 1) (q 11) 60 (S.2.1 2) 300 (rowf S.1 0) i 0 (by omega) (by decide)) (cwV 2 hts (gi_V wd_117 wd_118 wd_119 wd_2 wd_120) rfl rfl rfl (by decide +kernel) ⟨Nat.le_of_ble_eq_true rfl, Nat.le_of_ble_eq_true rfl⟩) (pu_preV hK (hP.sub [1, 11] rfl) (ci := 1) (q0 := 0) rfl rfl) rfl rfl hl.1 rfl (lv_room (Nat.le_of_ble_eq_true rfl)) d_X_inStore_25 ⟨Nat.le_of_ble_eq_true rfl, Nat.le_of_ble_eq_true rfl⟩) ?_
        refine nv_as (nI (S.1 0 i)) (rowf_at (by decide)) ?_
        have hb1 : S.1 0 i ≤ 9 := hB 0 _
        refine lv_iload_n hx hb d_X_inStore_28 rfl (lv_at hl 4 rfl) ?_
        refine nv_cne (tgt := 62) hx hb (by omega) (by omega) d_X_inStore_29 (by decide) (fun c29 => ?_) (fun c29 => ?_)
        · refine lv_iinc (v := nI (i + 1)) (lv' := [(5, .int (nI (i + 1))), (4, .int (nI (sIf (fun j => decide (S.1 0 j = kd) && (decide (S.2.1 1 ≤ S.1 1 j) == g)) (fun j => S.1 25 (st * 60 + j)) i))), (0, .ref (q 0)), (1, .int (nI st)), (2, .int (nI kd)), (3, .int (b2 g))]) hx hb d_X_inStore_62 hl (k := 0) rfl (nI_1 _) (by decide) rfl (fun ls hl => ?_)
          refine lv_goto (tgt := 6) hx hb d_X_inStore_65 (by decide) ?_
          exact ih (i + 1) (by omega) (by omega) ls (lv_sub hl [0, 1, 2, 3, 4, 5] (by rw [sIf_f (by simp [c29])]; rfl))
        · refine lv_aload_n hx hb d_X_inStore_32 rfl (lv_at hl 2 rfl) ?_
          refine lv_iload hx hb d_X_inStore_33 (lv_at hl 0 rfl) ?_
          refine lv_aload_n hx hb d_X_inStore_35 rfl (lv_at hl 2 rfl) ?_
          refine va_get (D := (dC, dI)) (ci := 0) (v := .int (nI (S.2.1 1))) (C := R_X) (T := F_X) (N := 12) hx hb hts i_X hown hK hP 0 rfl rfl 11 (by decide) (hts _ wd_68) (fun _ h9 => h9) rfl d_X_inStore_36 ?_
          refine pu_go (va_runV (As := [.int (nI i), .int (nI (S.2.1 1))]) (rest := []) ⟨hx, hb, hml, hown, hts⟩ (c_X_isGoodOn l dC dI cI q S t hI i (S.2.1 1) (by omega) (by omega)) (cwV 2 hts (gi_V wd_121 wd_123 wp_2 wd_1 wd_124) rfl rfl rfl (by decide +kernel) ⟨Nat.le_of_ble_eq_true rfl, Nat.le_of_ble_eq_true rfl⟩) (pu_preV hK hP (ci := 0) (q0 := 0) rfl rfl) rfl rfl hl.1 rfl (lv_room (Nat.le_of_ble_eq_true rfl)) d_X_inStore_39 ⟨Nat.le_of_ble_eq_true rfl, Nat.le_of_ble_eq_true rfl⟩) ?_
          refine lv_iload_n hx hb d_X_inStore_42 rfl (lv_at hl 5 rfl) ?_
          refine lv_icmp_ne (tgt := 62) hx hb d_X_inStore_43 (by decide) (fun c43 => ?_) (fun c43 => ?_)
          · refine lv_iinc (v := nI (i + 1)) (lv' := [(5, .int (nI (i + 1))), (4, .int (nI (sIf (fun j => decide (S.1 0 j = kd) && (decide (S.2.1 1 ≤ S.1 1 j) == g)) (fun j => S.1 25 (st * 60 + j)) i))), (0, .ref (q 0)), (1, .int (nI st)), (2, .int (nI kd)), (3, .int (b2 g))]) hx hb d_X_inStore_62 hl (k := 0) rfl (nI_1 _) (by decide) rfl (fun ls hl => ?_)
            refine lv_goto (tgt := 6) hx hb d_X_inStore_65 (by decide) ?_
            exact ih (i + 1) (by omega) (by omega) ls (lv_sub hl [0, 1, 2, 3, 4, 5] (by rw [sIf_f (by simp only [Bool.and_eq_false_iff, beq_eq_false_iff_ne]; exact Or.inr (fun h => c43 (congrArg b2 h)))]; rfl))
          · refine lv_iload hx hb d_X_inStore_46 (lv_at hl 1 rfl) ?_
            refine lv_aload_n hx hb d_X_inStore_48 rfl (lv_at hl 2 rfl) ?_
            refine va_get (D := (dC, dI)) (ci := 0) (v := .ref (q 7)) (C := R_X) (T := F_X) (N := 12) hx hb hts i_X hown hK hP 0 rfl rfl 6 (by decide) (hts _ wd_63) (fun _ h9 => h9) rfl d_X_inStore_49 ?_
            refine lv_iload_n hx hb d_X_inStore_52 rfl (lv_at hl 3 rfl) ?_
            refine lv_iload hx hb d_X_inStore_53 (lv_at hl 0 rfl) ?_
            refine pu_go (va_runS (As := [.int (nI st), .int (nI i)]) (rest := [.ref (q 7), .int (nI (sIf (fun j => decide (S.1 0 j = kd) && (decide (S.2.1 1 ≤ S.1 1 j) == g)) (fun j => S.1 25 (st * 60 + j)) i))]) ⟨hx, hb, hml, hown, hts⟩ (c_X_place l dC dI st i) (cwS 2 hts (gi_S wd_125 wd_126 wd_1 wd_127) rfl rfl rfl (by decide +kernel) ⟨Nat.le_of_ble_eq_true rfl, Nat.le_of_ble_eq_true rfl⟩) (pu_preS (hK.sub (tys' := []) [] rfl) (fun k q h => by simp at h)) rfl rfl hl.1 rfl (lv_room (Nat.le_of_ble_eq_true rfl)) d_X_inStore_55 ⟨Nat.le_of_ble_eq_true rfl, Nat.le_of_ble_eq_true rfl⟩) ?_
            refine nv_iald (v := nI (S.1 25 (st * 60 + i))) hx hb hK hP 7 0 rfl rfl (by omega) (by decide) rfl d_X_inStore_58 ?_
            have hb9 : S.1 25 (st * 60 + i) ≤ 9999 := hB 25 _
            refine nv_add hx hb d_X_inStore_59 ?_
            refine lv_istore (lv' := [(4, .int (nI ((sIf (fun j => decide (S.1 0 j = kd) && (decide (S.2.1 1 ≤ S.1 1 j) == g)) (fun j => S.1 25 (st * 60 + j)) i) + (S.1 25 (st * 60 + i))))), (5, .int (nI i)), (0, .ref (q 0)), (1, .int (nI st)), (2, .int (nI kd)), (3, .int (b2 g))]) hx hb d_X_inStore_60 hl (by decide) rfl (fun ls hl => ?_)
            refine lv_iinc (v := nI (i + 1)) (lv' := [(5, .int (nI (i + 1))), (4, .int (nI ((sIf (fun j => decide (S.1 0 j = kd) && (decide (S.2.1 1 ≤ S.1 1 j) == g)) (fun j => S.1 25 (st * 60 + j)) i) + (S.1 25 (st * 60 + i))))), (0, .ref (q 0)), (1, .int (nI st)), (2, .int (nI kd)), (3, .int (b2 g))]) hx hb d_X_inStore_62 hl (k := 1) rfl (nI_1 _) (by decide) rfl (fun ls hl => ?_)
            refine lv_goto (tgt := 6) hx hb d_X_inStore_65 (by decide) ?_
            exact ih (i + 1) (by omega) (by omega) ls (lv_sub hl [0, 1, 2, 3, 4, 5] (by rw [sIf_t (by simp only [Bool.and_eq_true, decide_eq_true_eq, beq_iff_eq]; exact ⟨c29, b2_inj c43⟩)]; rfl))
  exact LP6 (S.2.1 2 + 1) 0 (by omega) (by omega) ls (lv_sub hl [0, 1, 2, 3, 4, 5] rfl)
end
section
set_option maxHeartbeats 4000000 in
set_option maxRecDepth 100000 in
theorem c_X_inAllStores (l : Launch) (dC : Nat → ClassId) (dI : Nat → Nat → Nat) (cI : ClassId) (q : Nat → Nat) (S : St) (t : Nat) (hI : Bd t S) (y : Nat) (hy : y < 60) : Met l y_X_inAllStores (.code y_X_inAllStores b_X_inAllStores 4 (some .int) :: bg) { frames := 1, cells := 0, slots := 0, locals := 21 } (pu_P (dC, dI) classes (wX q cI S) [(cI, .int)] [.ref (q 0), .int (nI y)]) (pu_Q (.int (nI (allIn S y)))) 0 0 (fun _ => False) := by
  refine Met.ofW (cc := b_X_inAllStores) (maxL := 4) (ret := (some .int)) (by decide) rfl ?_
  intro p e s m args below meth c s₁ B hml hv
  obtain ⟨rfl, hP, hK⟩ := hv
  have hx := B.exec
  have hb := B.bytes
  have hr := B.returns
  have hts := fun w (h : w ∈ bg) => atoms_spec (ws := .code y_X_inAllStores b_X_inAllStores 4 (some .int) :: bg) B.pre w (List.mem_cons_of_mem _ h)
  have hown : s.vm.findClass R_X = some m.cls := findClass_of_methodNamed B.named
  have hlocks := B.notSynchronized
  have hl := lv_entry ([.ref (q 0), .int (nI y)]) (n := 4) (Nat.le_of_ble_eq_true rfl)
  rw [lg_entry_eq]
  generalize (lg_sl ([.ref (q 0), .int (nI y)]) ++ List.replicate (4 - (lg_sl ([.ref (q 0), .int (nI y)])).length) Slot.unset).toArray = ls at hl ⊢
  have hl : lv_has ls 4 [(0, .ref (q 0)), (1, .int (nI y))] := hl
  have hB := hI.1
  have hg0 : S.2.1 0 ≤ 8 := hI.2.1 0
  have hg1 : S.2.1 1 ≤ 9999 := hI.2.1 1
  have hg2 : S.2.1 2 ≤ 60 := hI.2.1 2
  have hg3 : S.2.1 3 ≤ 60 := hI.2.1 3
  have hg4 : S.2.1 4 ≤ 80 := hI.2.1 4
  have hg5 : S.2.1 5 ≤ 20 := hI.2.1 5
  have hg6 : S.2.1 6 ≤ 80 := hI.2.1 6
  have hg7 : S.2.1 7 ≤ 10 := hI.2.1 7
  have hg8 : t ≤ 512 := hI.2.2
  refine lv_iconst (v := nI 0) hx hb d_X_inAllStores_0 (by decide) ?_
  refine lv_istore_n (lv' := [(2, .int (nI 0)), (0, .ref (q 0)), (1, .int (nI y))]) hx hb d_X_inAllStores_1 rfl hl (by decide) rfl (fun ls hl => ?_)
  refine lv_iconst (v := nI 0) hx hb d_X_inAllStores_2 (by decide) ?_
  refine lv_istore_n (lv' := [(3, .int (nI 0)), (2, .int (nI 0)), (0, .ref (q 0)), (1, .int (nI y))]) hx hb d_X_inAllStores_3 rfl hl (by decide) rfl (fun ls hl => ?_)
  have LP4 : ∀ (fu i : Nat), S.2.1 0 - i < fu → i ≤ S.2.1 0 → ∀ ls : Array Slot, lv_has ls 4 [(3, .int (nI i)), (2, .int (nI (sIf (fun _ => true) (fun s => S.1 25 (s * 60 + y)) i))), (0, .ref (q 0)), (1, .int (nI y))] → W p l e (headSpec (.code y_X_inAllStores b_X_inAllStores 4 (some .int) :: bg) { frames := 1, cells := 0, slots := 0, locals := 21 }).room s m (List.toArray [.ref (q 0), .int (nI y)]) below meth c s.heap [] 0 0 (MQ below (pu_Q (.int (nI (allIn S y)))) (List.toArray [.ref (q 0), .int (nI y)]) s 0 0 (fun _ => False)) (F0 m 4 ls []) := by
    intro fu
    induction fu with
    | zero => intro i h; exact absurd h (Nat.not_lt_zero _)
    | succ fu ih =>
      intro i hfu hi ls hl
      refine lv_iload_n hx hb d_X_inAllStores_4 rfl (lv_at hl 0 rfl) ?_
      refine lv_aload_n hx hb d_X_inAllStores_5 rfl (lv_at hl 2 rfl) ?_
      refine va_get (D := (dC, dI)) (ci := 0) (v := .int (nI (S.2.1 0))) (C := R_X) (T := F_X) (N := 12) hx hb hts i_X hown hK hP 0 rfl rfl 10 (by decide) (hts _ wd_67) (fun _ h9 => h9) rfl d_X_inAllStores_6 ?_
      refine nv_cge (tgt := 31) hx hb (by omega) (by omega) d_X_inAllStores_9 (by decide) (fun c9 => ?_) (fun c9 => ?_)
      · obtain rfl : i = S.2.1 0 := by omega
        refine lv_iload_n hx hb d_X_inAllStores_31 rfl (lv_at hl 1 rfl) ?_
        refine nv_as (nI (allIn S y)) (by rfl) ?_
        exact W.iret hx hb hr (fun t ht hW => ⟨rfl, ht⟩) (fun q h => nomatch h) d_X_inAllStores_32
      · refine lv_iload_n hx hb d_X_inAllStores_12 rfl (lv_at hl 1 rfl) ?_
        refine lv_aload_n hx hb d_X_inAllStores_13 rfl (lv_at hl 2 rfl) ?_
        refine va_get (D := (dC, dI)) (ci := 0) (v := .ref (q 7)) (C := R_X) (T := F_X) (N := 12) hx hb hts i_X hown hK hP 0 rfl rfl 6 (by decide) (hts _ wd_63) (fun _ h9 => h9) rfl d_X_inAllStores_14 ?_
        refine lv_iload_n hx hb d_X_inAllStores_17 rfl (lv_at hl 0 rfl) ?_
        refine lv_iload_n hx hb d_X_inAllStores_18 rfl (lv_at hl 3 rfl) ?_
        refine pu_go (va_runS (As := [.int (nI i), .int (nI y)]) (rest := [.ref (q 7), .int (nI (sIf (fun _ => true) (fun s => S.1 25 (s * 60 + y)) i))]) ⟨hx, hb, hml, hown, hts⟩ (c_X_place l dC dI i y) (cwS 2 hts (gi_S wd_125 wd_126 wd_1 wd_127) rfl rfl rfl (by decide +kernel) ⟨Nat.le_of_ble_eq_true rfl, Nat.le_of_ble_eq_true rfl⟩) (pu_preS (hK.sub (tys' := []) [] rfl) (fun k q h => by simp at h)) rfl rfl hl.1 rfl (lv_room (Nat.le_of_ble_eq_true rfl)) d_X_inAllStores_19 ⟨Nat.le_of_ble_eq_true rfl, Nat.le_of_ble_eq_true rfl⟩) ?_
        refine nv_iald (v := nI (S.1 25 (i * 60 + y))) hx hb hK hP 7 0 rfl rfl (by omega) (by decide) rfl d_X_inAllStores_22 ?_
        have hb9 : S.1 25 (i * 60 + y) ≤ 9999 := hB 25 _
        refine nv_add hx hb d_X_inAllStores_23 ?_
        refine lv_istore_n (lv' := [(2, .int (nI ((sIf (fun _ => true) (fun s => S.1 25 (s * 60 + y)) i) + (S.1 25 (i * 60 + y))))), (3, .int (nI i)), (0, .ref (q 0)), (1, .int (nI y))]) hx hb d_X_inAllStores_24 rfl hl (by decide) rfl (fun ls hl => ?_)
        refine lv_iinc (v := nI (i + 1)) (lv' := [(3, .int (nI (i + 1))), (2, .int (nI ((sIf (fun _ => true) (fun s => S.1 25 (s * 60 + y)) i) + (S.1 25 (i * 60 + y))))), (0, .ref (q 0)), (1, .int (nI y))]) hx hb d_X_inAllStores_25 hl (k := 1) rfl (nI_1 _) (by decide) rfl (fun ls hl => ?_)
        refine lv_goto (tgt := 4) hx hb d_X_inAllStores_28 (by decide) ?_
        exact ih (i + 1) (by omega) (by omega) ls (lv_sub hl [0, 1, 2, 3] (by rw [sIf_t rfl]; rfl))
  exact LP4 (S.2.1 0 + 1) 0 (by omega) (by omega) ls (lv_sub hl [0, 1, 2, 3] rfl)
set_option maxHeartbeats 4000000 in
set_option maxRecDepth 100000 in
theorem c_X_onTheWay (l : Launch) (dC : Nat → ClassId) (dI : Nat → Nat → Nat) (cI : ClassId) (q : Nat → Nat) (S : St) (t : Nat) (hI : Bd t S) (st kd : Nat) (g : Bool) (hs : st < 8) (hk : kd < 10) : Met l y_X_onTheWay (.code y_X_onTheWay b_X_onTheWay 7 (some .int) :: bg) { frames := 2, cells := 0, slots := 0, locals := 44 } (pu_P (dC, dI) classes (wX q cI S) [(cI, .int)] [.ref (q 0), .int (nI st), .int (nI kd), .int (b2 g)]) (pu_Q (.int (nI (way S g st kd)))) 0 0 (fun _ => False) := by
  refine Met.ofW (cc := b_X_onTheWay) (maxL := 7) (ret := (some .int)) (by decide) rfl ?_
  intro p e s m args below meth c s₁ B hml hv
  obtain ⟨rfl, hP, hK⟩ := hv
  have hx := B.exec
  have hb := B.bytes
  have hr := B.returns
  have hts := fun w (h : w ∈ bg) => atoms_spec (ws := .code y_X_onTheWay b_X_onTheWay 7 (some .int) :: bg) B.pre w (List.mem_cons_of_mem _ h)
  have hown : s.vm.findClass R_X = some m.cls := findClass_of_methodNamed B.named
  have hlocks := B.notSynchronized
  have hl := lv_entry ([.ref (q 0), .int (nI st), .int (nI kd), .int (b2 g)]) (n := 7) (Nat.le_of_ble_eq_true rfl)
  rw [lg_entry_eq]
  generalize (lg_sl ([.ref (q 0), .int (nI st), .int (nI kd), .int (b2 g)]) ++ List.replicate (7 - (lg_sl ([.ref (q 0), .int (nI st), .int (nI kd), .int (b2 g)])).length) Slot.unset).toArray = ls at hl ⊢
  have hl : lv_has ls 7 [(0, .ref (q 0)), (1, .int (nI st)), (2, .int (nI kd)), (3, .int (b2 g))] := hl
  have hB := hI.1
  have hg0 : S.2.1 0 ≤ 8 := hI.2.1 0
  have hg1 : S.2.1 1 ≤ 9999 := hI.2.1 1
  have hg2 : S.2.1 2 ≤ 60 := hI.2.1 2
  have hg3 : S.2.1 3 ≤ 60 := hI.2.1 3
  have hg4 : S.2.1 4 ≤ 80 := hI.2.1 4
  have hg5 : S.2.1 5 ≤ 20 := hI.2.1 5
  have hg6 : S.2.1 6 ≤ 80 := hI.2.1 6
  have hg7 : S.2.1 7 ≤ 10 := hI.2.1 7
  have hg8 : t ≤ 512 := hI.2.2
  refine lv_iconst (v := nI 0) hx hb d_X_onTheWay_0 (by decide) ?_
  refine lv_istore (lv' := [(4, .int (nI 0)), (0, .ref (q 0)), (1, .int (nI st)), (2, .int (nI kd)), (3, .int (b2 g))]) hx hb d_X_onTheWay_1 hl (by decide) rfl (fun ls hl => ?_)
  refine lv_iconst (v := nI 0) hx hb d_X_onTheWay_3 (by decide) ?_
  refine lv_istore (lv' := [(5, .int (nI 0)), (4, .int (nI 0)), (0, .ref (q 0)), (1, .int (nI st)), (2, .int (nI kd)), (3, .int (b2 g))]) hx hb d_X_onTheWay_4 hl (by decide) rfl (fun ls hl => ?_)
  have LP6 : ∀ (fu i : Nat), S.2.1 3 - i < fu → i ≤ S.2.1 3 → ∀ ls : Array Slot, lv_has ls 7 [(5, .int (nI i)), (4, .int (nI (sIf (fun j => decide (S.1 9 j = 1) && (decide (S.1 5 j = st) && (decide (S.1 0 (S.1 6 j) = kd) && (!g || decide (S.1 8 j ≤ S.1 1 (S.1 6 j)))))) (fun j => S.1 7 j) i))), (0, .ref (q 0)), (1, .int (nI st)), (2, .int (nI kd)), (3, .int (b2 g))] → W p l e (headSpec (.code y_X_onTheWay b_X_onTheWay 7 (some .int) :: bg) { frames := 2, cells := 0, slots := 0, locals := 44 }).room s m (List.toArray [.ref (q 0), .int (nI st), .int (nI kd), .int (b2 g)]) below meth c s.heap [] 0 0 (MQ below (pu_Q (.int (nI (way S g st kd)))) (List.toArray [.ref (q 0), .int (nI st), .int (nI kd), .int (b2 g)]) s 0 0 (fun _ => False)) (F0 m 6 ls []) := by
    intro fu
    induction fu with
    | zero => intro i h; exact absurd h (Nat.not_lt_zero _)
    | succ fu ih =>
      intro i hfu hi ls hl
      refine lv_iload hx hb d_X_onTheWay_6 (lv_at hl 0 rfl) ?_
      refine lv_aload_n hx hb d_X_onTheWay_8 rfl (lv_at hl 2 rfl) ?_
      refine va_get (D := (dC, dI)) (ci := 0) (v := .ref (q 2)) (C := R_X) (T := F_X) (N := 12) hx hb hts i_X hown hK hP 0 rfl rfl 1 (by decide) (hts _ wd_58) (fun _ h9 => h9) rfl d_X_onTheWay_9 ?_
      refine pu_go (va_runV (As := []) (rest := [.int (nI i)]) ⟨hx, hb, hml, hown, hts⟩ (c_W_made l dC dI cI (q 2) (q 12) 60 (S.2.1 3) 300 (rowf S.1 5)) (cwV 0 hts (gi_V wd_98 wd_99 wd_100 wd_2 wd_101) rfl rfl rfl (by decide +kernel) ⟨Nat.le_of_ble_eq_true rfl, Nat.le_of_ble_eq_true rfl⟩) (pu_preV hK (hP.sub [2, 12] rfl) (ci := 1) (q0 := 0) rfl rfl) rfl rfl hl.1 rfl (lv_room (Nat.le_of_ble_eq_true rfl)) d_X_onTheWay_12 ⟨Nat.le_of_ble_eq_true rfl, Nat.le_of_ble_eq_true rfl⟩) ?_
      refine nv_cge (tgt := 116) hx hb (by omega) (by omega) d_X_onTheWay_15 (by decide) (fun c15 => ?_) (fun c15 => ?_)
      · obtain rfl : i = S.2.1 3 := by omega
        refine lv_iload hx hb d_X_onTheWay_116 (lv_at hl 1 rfl) ?_
        refine nv_as (nI (way S g st kd)) (by rfl) ?_
        exact W.iret hx hb hr (fun t ht hW => ⟨rfl, ht⟩) (fun q h => nomatch h) d_X_onTheWay_118
      · refine lv_aload_n hx hb d_X_onTheWay_18 rfl (lv_at hl 2 rfl) ?_
        refine va_get (D := (dC, dI)) (ci := 0) (v := .ref (q 2)) (C := R_X) (T := F_X) (N := 12) hx hb hts i_X hown hK hP 0 rfl rfl 1 (by decide) (hts _ wd_58) (fun _ h9 => h9) rfl d_X_onTheWay_19 ?_
        refine lv_iload hx hb d_X_onTheWay_22 (lv_at hl 0 rfl) ?_
        refine lv_iconst (v := nI 1) hx hb d_X_onTheWay_24 (by decide) ?_
        refine pu_go (va_runV (As := [.int (nI i), .int (nI 1)]) (rest := []) ⟨hx, hb, hml, hown, hts⟩ (c_W_at l dC dI cI (q 2) (q 12) 60 (S.2.1 3) 300 (rowf S.1 5) i 1 (by omega) (by decide)) (cwV 2 hts (gi_V wd_117 wd_118 wd_119 wd_2 wd_120) rfl rfl rfl (by decide +kernel) ⟨Nat.le_of_ble_eq_true rfl, Nat.le_of_ble_eq_true rfl⟩) (pu_preV hK (hP.sub [2, 12] rfl) (ci := 1) (q0 := 0) rfl rfl) rfl rfl hl.1 rfl (lv_room (Nat.le_of_ble_eq_true rfl)) d_X_onTheWay_25 ⟨Nat.le_of_ble_eq_true rfl, Nat.le_of_ble_eq_true rfl⟩) ?_
        refine nv_as (nI (S.1 6 i)) (rowf_at (by decide)) ?_
        have hb1 : S.1 6 i ≤ 59 := hB 6 _
        refine lv_istore (lv' := [(6, .int (nI (S.1 6 i))), (5, .int (nI i)), (4, .int (nI (sIf (fun j => decide (S.1 9 j = 1) && (decide (S.1 5 j = st) && (decide (S.1 0 (S.1 6 j) = kd) && (!g || decide (S.1 8 j ≤ S.1 1 (S.1 6 j)))))) (fun j => S.1 7 j) i))), (0, .ref (q 0)), (1, .int (nI st)), (2, .int (nI kd)), (3, .int (b2 g))]) hx hb d_X_onTheWay_28 hl (by decide) rfl (fun ls hl => ?_)
        refine lv_aload_n hx hb d_X_onTheWay_30 rfl (lv_at hl 3 rfl) ?_
        refine va_get (D := (dC, dI)) (ci := 0) (v := .ref (q 2)) (C := R_X) (T := F_X) (N := 12) hx hb hts i_X hown hK hP 0 rfl rfl 1 (by decide) (hts _ wd_58) (fun _ h9 => h9) rfl d_X_onTheWay_31 ?_
        refine lv_iload hx hb d_X_onTheWay_34 (lv_at hl 1 rfl) ?_
        refine lv_iconst (v := nI 4) hx hb d_X_onTheWay_36 (by decide) ?_
        refine pu_go (va_runV (As := [.int (nI i), .int (nI 4)]) (rest := []) ⟨hx, hb, hml, hown, hts⟩ (c_W_at l dC dI cI (q 2) (q 12) 60 (S.2.1 3) 300 (rowf S.1 5) i 4 (by omega) (by decide)) (cwV 2 hts (gi_V wd_117 wd_118 wd_119 wd_2 wd_120) rfl rfl rfl (by decide +kernel) ⟨Nat.le_of_ble_eq_true rfl, Nat.le_of_ble_eq_true rfl⟩) (pu_preV hK (hP.sub [2, 12] rfl) (ci := 1) (q0 := 0) rfl rfl) rfl rfl hl.1 rfl (lv_room (Nat.le_of_ble_eq_true rfl)) d_X_onTheWay_37 ⟨Nat.le_of_ble_eq_true rfl, Nat.le_of_ble_eq_true rfl⟩) ?_
        refine nv_as (nI (S.1 9 i)) (rowf_at (by decide)) ?_
        have hb2 : S.1 9 i ≤ 1 := hB 9 _
        refine lv_iconst (v := nI 1) hx hb d_X_onTheWay_40 (by decide) ?_
        refine nv_cne (tgt := 110) hx hb (by omega) (by omega) d_X_onTheWay_41 (by decide) (fun c41 => ?_) (fun c41 => ?_)
        · refine lv_iinc (v := nI (i + 1)) (lv' := [(5, .int (nI (i + 1))), (6, .int (nI (S.1 6 i))), (4, .int (nI (sIf (fun j => decide (S.1 9 j = 1) && (decide (S.1 5 j = st) && (decide (S.1 0 (S.1 6 j) = kd) && (!g || decide (S.1 8 j ≤ S.1 1 (S.1 6 j)))))) (fun j => S.1 7 j) i))), (0, .ref (q 0)), (1, .int (nI st)), (2, .int (nI kd)), (3, .int (b2 g))]) hx hb d_X_onTheWay_110 hl (k := 1) rfl (nI_1 _) (by decide) rfl (fun ls hl => ?_)
          refine lv_goto (tgt := 6) hx hb d_X_onTheWay_113 (by decide) ?_
          exact ih (i + 1) (by omega) (by omega) ls (lv_sub hl [0, 2, 3, 4, 5, 6] (by rw [sIf_f (by simp [c41])]; rfl))
        · refine lv_aload_n hx hb d_X_onTheWay_44 rfl (lv_at hl 3 rfl) ?_
          refine va_get (D := (dC, dI)) (ci := 0) (v := .ref (q 2)) (C := R_X) (T := F_X) (N := 12) hx hb hts i_X hown hK hP 0 rfl rfl 1 (by decide) (hts _ wd_58) (fun _ h9 => h9) rfl d_X_onTheWay_45 ?_
          refine lv_iload hx hb d_X_onTheWay_48 (lv_at hl 1 rfl) ?_
          refine lv_iconst (v := nI 0) hx hb d_X_onTheWay_50 (by decide) ?_
          refine pu_go (va_runV (As := [.int (nI i), .int (nI 0)]) (rest := []) ⟨hx, hb, hml, hown, hts⟩ (c_W_at l dC dI cI (q 2) (q 12) 60 (S.2.1 3) 300 (rowf S.1 5) i 0 (by omega) (by decide)) (cwV 2 hts (gi_V wd_117 wd_118 wd_119 wd_2 wd_120) rfl rfl rfl (by decide +kernel) ⟨Nat.le_of_ble_eq_true rfl, Nat.le_of_ble_eq_true rfl⟩) (pu_preV hK (hP.sub [2, 12] rfl) (ci := 1) (q0 := 0) rfl rfl) rfl rfl hl.1 rfl (lv_room (Nat.le_of_ble_eq_true rfl)) d_X_onTheWay_51 ⟨Nat.le_of_ble_eq_true rfl, Nat.le_of_ble_eq_true rfl⟩) ?_
          refine nv_as (nI (S.1 5 i)) (rowf_at (by decide)) ?_
          have hb3 : S.1 5 i ≤ 7 := hB 5 _
          refine lv_iload_n hx hb d_X_onTheWay_54 rfl (lv_at hl 4 rfl) ?_
          refine nv_cne (tgt := 110) hx hb (by omega) (by omega) d_X_onTheWay_55 (by decide) (fun c55 => ?_) (fun c55 => ?_)
          · refine lv_iinc (v := nI (i + 1)) (lv' := [(5, .int (nI (i + 1))), (6, .int (nI (S.1 6 i))), (4, .int (nI (sIf (fun j => decide (S.1 9 j = 1) && (decide (S.1 5 j = st) && (decide (S.1 0 (S.1 6 j) = kd) && (!g || decide (S.1 8 j ≤ S.1 1 (S.1 6 j)))))) (fun j => S.1 7 j) i))), (0, .ref (q 0)), (1, .int (nI st)), (2, .int (nI kd)), (3, .int (b2 g))]) hx hb d_X_onTheWay_110 hl (k := 1) rfl (nI_1 _) (by decide) rfl (fun ls hl => ?_)
            refine lv_goto (tgt := 6) hx hb d_X_onTheWay_113 (by decide) ?_
            exact ih (i + 1) (by omega) (by omega) ls (lv_sub hl [0, 2, 3, 4, 5, 6] (by rw [sIf_f (by simp [c55])]; rfl))
          · refine lv_aload_n hx hb d_X_onTheWay_58 rfl (lv_at hl 3 rfl) ?_
            refine va_get (D := (dC, dI)) (ci := 0) (v := .ref (q 1)) (C := R_X) (T := F_X) (N := 12) hx hb hts i_X hown hK hP 0 rfl rfl 0 (by decide) (hts _ wd_57) (fun _ h9 => h9) rfl d_X_onTheWay_59 ?_
            refine lv_iload hx hb d_X_onTheWay_62 (lv_at hl 0 rfl) ?_
            refine lv_iconst (v := nI 0) hx hb d_X_onTheWay_64 (by decide) ?_
            refine pu_go (va_runV (As := [.int (nI (S.1 6 i)), .int (nI 0)]) (rest := []) ⟨hx, hb, hml, hown, hts⟩ (c_W_at l dC dI cI (q 1) (q 11) 60 (S.2.1 2) 300 (rowf S.1 0) (S.1 6 i) 0 (by omega) (by decide)) (cwV 2 hts (gi_V wd_117 wd_118 wd_119 wd_2 wd_120) rfl rfl rfl (by decide +kernel) ⟨Nat.le_of_ble_eq_true rfl, Nat.le_of_ble_eq_true rfl⟩) (pu_preV hK (hP.sub [1, 11] rfl) (ci := 1) (q0 := 0) rfl rfl) rfl rfl hl.1 rfl (lv_room (Nat.le_of_ble_eq_true rfl)) d_X_onTheWay_65 ⟨Nat.le_of_ble_eq_true rfl, Nat.le_of_ble_eq_true rfl⟩) ?_
            refine nv_as (nI (S.1 0 (S.1 6 i))) (rowf_at (by decide)) ?_
            have hb4 : S.1 0 (S.1 6 i) ≤ 9 := hB 0 _
            refine lv_iload_n hx hb d_X_onTheWay_68 rfl (lv_at hl 5 rfl) ?_
            refine nv_cne (tgt := 110) hx hb (by omega) (by omega) d_X_onTheWay_69 (by decide) (fun c69 => ?_) (fun c69 => ?_)
            · refine lv_iinc (v := nI (i + 1)) (lv' := [(5, .int (nI (i + 1))), (6, .int (nI (S.1 6 i))), (4, .int (nI (sIf (fun j => decide (S.1 9 j = 1) && (decide (S.1 5 j = st) && (decide (S.1 0 (S.1 6 j) = kd) && (!g || decide (S.1 8 j ≤ S.1 1 (S.1 6 j)))))) (fun j => S.1 7 j) i))), (0, .ref (q 0)), (1, .int (nI st)), (2, .int (nI kd)), (3, .int (b2 g))]) hx hb d_X_onTheWay_110 hl (k := 1) rfl (nI_1 _) (by decide) rfl (fun ls hl => ?_)
              refine lv_goto (tgt := 6) hx hb d_X_onTheWay_113 (by decide) ?_
              exact ih (i + 1) (by omega) (by omega) ls (lv_sub hl [0, 2, 3, 4, 5, 6] (by rw [sIf_f (by simp [c69])]; rfl))
            · refine lv_iload_n hx hb d_X_onTheWay_72 rfl (lv_at hl 6 rfl) ?_
              refine nv_bz (tgt := 95) hx hb d_X_onTheWay_73 (by decide) (fun c73 => ?_) (fun c73 => ?_)
              · refine lv_iload hx hb d_X_onTheWay_95 (lv_at hl 2 rfl) ?_
                refine lv_aload_n hx hb d_X_onTheWay_97 rfl (lv_at hl 3 rfl) ?_
                refine va_get (D := (dC, dI)) (ci := 0) (v := .ref (q 2)) (C := R_X) (T := F_X) (N := 12) hx hb hts i_X hown hK hP 0 rfl rfl 1 (by decide) (hts _ wd_58) (fun _ h9 => h9) rfl d_X_onTheWay_98 ?_
                refine lv_iload hx hb d_X_onTheWay_101 (lv_at hl 1 rfl) ?_
                refine lv_iconst (v := nI 2) hx hb d_X_onTheWay_103 (by decide) ?_
                refine pu_go (va_runV (As := [.int (nI i), .int (nI 2)]) (rest := [.int (nI (sIf (fun j => decide (S.1 9 j = 1) && (decide (S.1 5 j = st) && (decide (S.1 0 (S.1 6 j) = kd) && (!g || decide (S.1 8 j ≤ S.1 1 (S.1 6 j)))))) (fun j => S.1 7 j) i))]) ⟨hx, hb, hml, hown, hts⟩ (c_W_at l dC dI cI (q 2) (q 12) 60 (S.2.1 3) 300 (rowf S.1 5) i 2 (by omega) (by decide)) (cwV 2 hts (gi_V wd_117 wd_118 wd_119 wd_2 wd_120) rfl rfl rfl (by decide +kernel) ⟨Nat.le_of_ble_eq_true rfl, Nat.le_of_ble_eq_true rfl⟩) (pu_preV hK (hP.sub [2, 12] rfl) (ci := 1) (q0 := 0) rfl rfl) rfl rfl hl.1 rfl (lv_room (Nat.le_of_ble_eq_true rfl)) d_X_onTheWay_104 ⟨Nat.le_of_ble_eq_true rfl, Nat.le_of_ble_eq_true rfl⟩) ?_
                refine nv_as (nI (S.1 7 i)) (rowf_at (by decide)) ?_
                have hb5 : S.1 7 i ≤ 9999 := hB 7 _
                refine nv_add hx hb d_X_onTheWay_107 ?_
                refine lv_istore (lv' := [(4, .int (nI ((sIf (fun j => decide (S.1 9 j = 1) && (decide (S.1 5 j = st) && (decide (S.1 0 (S.1 6 j) = kd) && (!g || decide (S.1 8 j ≤ S.1 1 (S.1 6 j)))))) (fun j => S.1 7 j) i) + (S.1 7 i)))), (6, .int (nI (S.1 6 i))), (5, .int (nI i)), (0, .ref (q 0)), (1, .int (nI st)), (2, .int (nI kd)), (3, .int (b2 g))]) hx hb d_X_onTheWay_108 hl (by decide) rfl (fun ls hl => ?_)
                refine lv_iinc (v := nI (i + 1)) (lv' := [(5, .int (nI (i + 1))), (4, .int (nI ((sIf (fun j => decide (S.1 9 j = 1) && (decide (S.1 5 j = st) && (decide (S.1 0 (S.1 6 j) = kd) && (!g || decide (S.1 8 j ≤ S.1 1 (S.1 6 j)))))) (fun j => S.1 7 j) i) + (S.1 7 i)))), (6, .int (nI (S.1 6 i))), (0, .ref (q 0)), (1, .int (nI st)), (2, .int (nI kd)), (3, .int (b2 g))]) hx hb d_X_onTheWay_110 hl (k := 2) rfl (nI_1 _) (by decide) rfl (fun ls hl => ?_)
                refine lv_goto (tgt := 6) hx hb d_X_onTheWay_113 (by decide) ?_
                exact ih (i + 1) (by omega) (by omega) ls (lv_sub hl [0, 1, 3, 4, 5, 6] (by rw [sIf_t (by simp [c41, c55, c69, c73])]; rfl))
              · refine lv_aload_n hx hb d_X_onTheWay_76 rfl (lv_at hl 3 rfl) ?_
                refine lv_iload hx hb d_X_onTheWay_77 (lv_at hl 0 rfl) ?_
                refine lv_aload_n hx hb d_X_onTheWay_79 rfl (lv_at hl 3 rfl) ?_
                refine va_get (D := (dC, dI)) (ci := 0) (v := .ref (q 2)) (C := R_X) (T := F_X) (N := 12) hx hb hts i_X hown hK hP 0 rfl rfl 1 (by decide) (hts _ wd_58) (fun _ h9 => h9) rfl d_X_onTheWay_80 ?_
                refine lv_iload hx hb d_X_onTheWay_83 (lv_at hl 1 rfl) ?_
                refine lv_iconst (v := nI 3) hx hb d_X_onTheWay_85 (by decide) ?_
                refine pu_go (va_runV (As := [.int (nI i), .int (nI 3)]) (rest := [.int (nI (S.1 6 i)), .ref (q 0)]) ⟨hx, hb, hml, hown, hts⟩ (c_W_at l dC dI cI (q 2) (q 12) 60 (S.2.1 3) 300 (rowf S.1 5) i 3 (by omega) (by decide)) (cwV 2 hts (gi_V wd_117 wd_118 wd_119 wd_2 wd_120) rfl rfl rfl (by decide +kernel) ⟨Nat.le_of_ble_eq_true rfl, Nat.le_of_ble_eq_true rfl⟩) (pu_preV hK (hP.sub [2, 12] rfl) (ci := 1) (q0 := 0) rfl rfl) rfl rfl hl.1 rfl (lv_room (Nat.le_of_ble_eq_true rfl)) d_X_onTheWay_86 ⟨Nat.le_of_ble_eq_true rfl, Nat.le_of_ble_eq_true rfl⟩) ?_
                refine nv_as (nI (S.1 8 i)) (rowf_at (by decide)) ?_
                have hb6 : S.1 8 i ≤ 10029 := hB 8 _
                refine pu_go (va_runV (As := [.int (nI (S.1 6 i)), .int (nI (S.1 8 i))]) (rest := []) ⟨hx, hb, hml, hown, hts⟩ (c_X_isGoodOn l dC dI cI q S t hI (S.1 6 i) (S.1 8 i) (by omega) (by omega)) (cwV 2 hts (gi_V wd_121 wd_123 wp_2 wd_1 wd_124) rfl rfl rfl (by decide +kernel) ⟨Nat.le_of_ble_eq_true rfl, Nat.le_of_ble_eq_true rfl⟩) (pu_preV hK hP (ci := 0) (q0 := 0) rfl rfl) rfl rfl hl.1 rfl (lv_room (Nat.le_of_ble_eq_true rfl)) d_X_onTheWay_89 ⟨Nat.le_of_ble_eq_true rfl, Nat.le_of_ble_eq_true rfl⟩) ?_
                refine nv_bz (tgt := 110) hx hb d_X_onTheWay_92 (by decide) (fun c92 => ?_) (fun c92 => ?_)
                · refine lv_iinc (v := nI (i + 1)) (lv' := [(5, .int (nI (i + 1))), (6, .int (nI (S.1 6 i))), (4, .int (nI (sIf (fun j => decide (S.1 9 j = 1) && (decide (S.1 5 j = st) && (decide (S.1 0 (S.1 6 j) = kd) && (!g || decide (S.1 8 j ≤ S.1 1 (S.1 6 j)))))) (fun j => S.1 7 j) i))), (0, .ref (q 0)), (1, .int (nI st)), (2, .int (nI kd)), (3, .int (b2 g))]) hx hb d_X_onTheWay_110 hl (k := 1) rfl (nI_1 _) (by decide) rfl (fun ls hl => ?_)
                  refine lv_goto (tgt := 6) hx hb d_X_onTheWay_113 (by decide) ?_
                  exact ih (i + 1) (by omega) (by omega) ls (lv_sub hl [0, 2, 3, 4, 5, 6] (by rw [sIf_f (by simp [c73, of_decide_eq_false c92])]; rfl))
                · refine lv_iload hx hb d_X_onTheWay_95 (lv_at hl 2 rfl) ?_
                  refine lv_aload_n hx hb d_X_onTheWay_97 rfl (lv_at hl 3 rfl) ?_
                  refine va_get (D := (dC, dI)) (ci := 0) (v := .ref (q 2)) (C := R_X) (T := F_X) (N := 12) hx hb hts i_X hown hK hP 0 rfl rfl 1 (by decide) (hts _ wd_58) (fun _ h9 => h9) rfl d_X_onTheWay_98 ?_
                  refine lv_iload hx hb d_X_onTheWay_101 (lv_at hl 1 rfl) ?_
                  refine lv_iconst (v := nI 2) hx hb d_X_onTheWay_103 (by decide) ?_
                  refine pu_go (va_runV (As := [.int (nI i), .int (nI 2)]) (rest := [.int (nI (sIf (fun j => decide (S.1 9 j = 1) && (decide (S.1 5 j = st) && (decide (S.1 0 (S.1 6 j) = kd) && (!g || decide (S.1 8 j ≤ S.1 1 (S.1 6 j)))))) (fun j => S.1 7 j) i))]) ⟨hx, hb, hml, hown, hts⟩ (c_W_at l dC dI cI (q 2) (q 12) 60 (S.2.1 3) 300 (rowf S.1 5) i 2 (by omega) (by decide)) (cwV 2 hts (gi_V wd_117 wd_118 wd_119 wd_2 wd_120) rfl rfl rfl (by decide +kernel) ⟨Nat.le_of_ble_eq_true rfl, Nat.le_of_ble_eq_true rfl⟩) (pu_preV hK (hP.sub [2, 12] rfl) (ci := 1) (q0 := 0) rfl rfl) rfl rfl hl.1 rfl (lv_room (Nat.le_of_ble_eq_true rfl)) d_X_onTheWay_104 ⟨Nat.le_of_ble_eq_true rfl, Nat.le_of_ble_eq_true rfl⟩) ?_
                  refine nv_as (nI (S.1 7 i)) (rowf_at (by decide)) ?_
                  have hb7 : S.1 7 i ≤ 9999 := hB 7 _
                  refine nv_add hx hb d_X_onTheWay_107 ?_
                  refine lv_istore (lv' := [(4, .int (nI ((sIf (fun j => decide (S.1 9 j = 1) && (decide (S.1 5 j = st) && (decide (S.1 0 (S.1 6 j) = kd) && (!g || decide (S.1 8 j ≤ S.1 1 (S.1 6 j)))))) (fun j => S.1 7 j) i) + (S.1 7 i)))), (6, .int (nI (S.1 6 i))), (5, .int (nI i)), (0, .ref (q 0)), (1, .int (nI st)), (2, .int (nI kd)), (3, .int (b2 g))]) hx hb d_X_onTheWay_108 hl (by decide) rfl (fun ls hl => ?_)
                  refine lv_iinc (v := nI (i + 1)) (lv' := [(5, .int (nI (i + 1))), (4, .int (nI ((sIf (fun j => decide (S.1 9 j = 1) && (decide (S.1 5 j = st) && (decide (S.1 0 (S.1 6 j) = kd) && (!g || decide (S.1 8 j ≤ S.1 1 (S.1 6 j)))))) (fun j => S.1 7 j) i) + (S.1 7 i)))), (6, .int (nI (S.1 6 i))), (0, .ref (q 0)), (1, .int (nI st)), (2, .int (nI kd)), (3, .int (b2 g))]) hx hb d_X_onTheWay_110 hl (k := 2) rfl (nI_1 _) (by decide) rfl (fun ls hl => ?_)
                  refine lv_goto (tgt := 6) hx hb d_X_onTheWay_113 (by decide) ?_
                  exact ih (i + 1) (by omega) (by omega) ls (lv_sub hl [0, 1, 3, 4, 5, 6] (by rw [sIf_t (by simp [c41, c55, c69, c73, of_decide_eq_true c92])]; rfl))
  exact LP6 (S.2.1 3 + 1) 0 (by omega) (by omega) ls (lv_sub hl [0, 1, 2, 3, 4, 5] rfl)
set_option maxHeartbeats 4000000 in
set_option maxRecDepth 100000 in
theorem c_X_inOpenOrders (l : Launch) (dC : Nat → ClassId) (dI : Nat → Nat → Nat) (cI : ClassId) (q : Nat → Nat) (S : St) (t : Nat) (hI : Bd t S) (st kd : Nat) (hs : st < 8) (hk : kd < 10) : Met l y_X_inOpenOrders (.code y_X_inOpenOrders b_X_inOpenOrders 5 (some .int) :: bg) { frames := 1, cells := 0, slots := 0, locals := 22 } (pu_P (dC, dI) classes (wX q cI S) [(cI, .int)] [.ref (q 0), .int (nI st), .int (nI kd)]) (pu_Q (.int (nI (opn S st kd)))) 0 0 (fun _ => False) := by
  refine Met.ofW (cc := b_X_inOpenOrders) (maxL := 5) (ret := (some .int)) (by decide) rfl ?_
  intro p e s m args below meth c s₁ B hml hv
  obtain ⟨rfl, hP, hK⟩ := hv
  have hx := B.exec
  have hb := B.bytes
  have hr := B.returns
  have hts := fun w (h : w ∈ bg) => atoms_spec (ws := .code y_X_inOpenOrders b_X_inOpenOrders 5 (some .int) :: bg) B.pre w (List.mem_cons_of_mem _ h)
  have hown : s.vm.findClass R_X = some m.cls := findClass_of_methodNamed B.named
  have hlocks := B.notSynchronized
  have hl := lv_entry ([.ref (q 0), .int (nI st), .int (nI kd)]) (n := 5) (Nat.le_of_ble_eq_true rfl)
  rw [lg_entry_eq]
  generalize (lg_sl ([.ref (q 0), .int (nI st), .int (nI kd)]) ++ List.replicate (5 - (lg_sl ([.ref (q 0), .int (nI st), .int (nI kd)])).length) Slot.unset).toArray = ls at hl ⊢
  have hl : lv_has ls 5 [(0, .ref (q 0)), (1, .int (nI st)), (2, .int (nI kd))] := hl
  have hB := hI.1
  have hg0 : S.2.1 0 ≤ 8 := hI.2.1 0
  have hg1 : S.2.1 1 ≤ 9999 := hI.2.1 1
  have hg2 : S.2.1 2 ≤ 60 := hI.2.1 2
  have hg3 : S.2.1 3 ≤ 60 := hI.2.1 3
  have hg4 : S.2.1 4 ≤ 80 := hI.2.1 4
  have hg5 : S.2.1 5 ≤ 20 := hI.2.1 5
  have hg6 : S.2.1 6 ≤ 80 := hI.2.1 6
  have hg7 : S.2.1 7 ≤ 10 := hI.2.1 7
  have hg8 : t ≤ 512 := hI.2.2
  refine lv_iconst (v := nI 0) hx hb d_X_inOpenOrders_0 (by decide) ?_
  refine lv_istore_n (lv' := [(3, .int (nI 0)), (0, .ref (q 0)), (1, .int (nI st)), (2, .int (nI kd))]) hx hb d_X_inOpenOrders_1 rfl hl (by decide) rfl (fun ls hl => ?_)
  refine lv_iconst (v := nI 0) hx hb d_X_inOpenOrders_2 (by decide) ?_
  refine lv_istore (lv' := [(4, .int (nI 0)), (3, .int (nI 0)), (0, .ref (q 0)), (1, .int (nI st)), (2, .int (nI kd))]) hx hb d_X_inOpenOrders_3 hl (by decide) rfl (fun ls hl => ?_)
  have LP5 : ∀ (fu i : Nat), S.2.1 4 - i < fu → i ≤ S.2.1 4 → ∀ ls : Array Slot, lv_has ls 5 [(4, .int (nI i)), (3, .int (nI (sIf (fun j => decide (S.1 14 j = 1) && (decide (S.1 10 j = st) && decide (S.1 11 j = kd))) (fun j => S.1 12 j) i))), (0, .ref (q 0)), (1, .int (nI st)), (2, .int (nI kd))] → W p l e (headSpec (.code y_X_inOpenOrders b_X_inOpenOrders 5 (some .int) :: bg) { frames := 1, cells := 0, slots := 0, locals := 22 }).room s m (List.toArray [.ref (q 0), .int (nI st), .int (nI kd)]) below meth c s.heap [] 0 0 (MQ below (pu_Q (.int (nI (opn S st kd)))) (List.toArray [.ref (q 0), .int (nI st), .int (nI kd)]) s 0 0 (fun _ => False)) (F0 m 5 ls []) := by
    intro fu
    induction fu with
    | zero => intro i h; exact absurd h (Nat.not_lt_zero _)
    | succ fu ih =>
      intro i hfu hi ls hl
      refine lv_iload hx hb d_X_inOpenOrders_5 (lv_at hl 0 rfl) ?_
      refine lv_aload_n hx hb d_X_inOpenOrders_7 rfl (lv_at hl 2 rfl) ?_
      refine va_get (D := (dC, dI)) (ci := 0) (v := .ref (q 3)) (C := R_X) (T := F_X) (N := 12) hx hb hts i_X hown hK hP 0 rfl rfl 2 (by decide) (hts _ wd_59) (fun _ h9 => h9) rfl d_X_inOpenOrders_8 ?_
      refine pu_go (va_runV (As := []) (rest := [.int (nI i)]) ⟨hx, hb, hml, hown, hts⟩ (c_W_made l dC dI cI (q 3) (q 13) 80 (S.2.1 4) 400 (rowf S.1 10)) (cwV 0 hts (gi_V wd_98 wd_99 wd_100 wd_2 wd_101) rfl rfl rfl (by decide +kernel) ⟨Nat.le_of_ble_eq_true rfl, Nat.le_of_ble_eq_true rfl⟩) (pu_preV hK (hP.sub [3, 13] rfl) (ci := 1) (q0 := 0) rfl rfl) rfl rfl hl.1 rfl (lv_room (Nat.le_of_ble_eq_true rfl)) d_X_inOpenOrders_11 ⟨Nat.le_of_ble_eq_true rfl, Nat.le_of_ble_eq_true rfl⟩) ?_
      refine nv_cge (tgt := 78) hx hb (by omega) (by omega) d_X_inOpenOrders_14 (by decide) (fun c14 => ?_) (fun c14 => ?_)
      · obtain rfl : i = S.2.1 4 := by omega
        refine lv_iload_n hx hb d_X_inOpenOrders_78 rfl (lv_at hl 1 rfl) ?_
        refine nv_as (nI (opn S st kd)) (by rfl) ?_
        exact W.iret hx hb hr (fun t ht hW => ⟨rfl, ht⟩) (fun q h => nomatch h) d_X_inOpenOrders_79
      · refine lv_aload_n hx hb d_X_inOpenOrders_17 rfl (lv_at hl 2 rfl) ?_
        refine va_get (D := (dC, dI)) (ci := 0) (v := .ref (q 3)) (C := R_X) (T := F_X) (N := 12) hx hb hts i_X hown hK hP 0 rfl rfl 2 (by decide) (hts _ wd_59) (fun _ h9 => h9) rfl d_X_inOpenOrders_18 ?_
        refine lv_iload hx hb d_X_inOpenOrders_21 (lv_at hl 0 rfl) ?_
        refine lv_iconst (v := nI 4) hx hb d_X_inOpenOrders_23 (by decide) ?_
        refine pu_go (va_runV (As := [.int (nI i), .int (nI 4)]) (rest := []) ⟨hx, hb, hml, hown, hts⟩ (c_W_at l dC dI cI (q 3) (q 13) 80 (S.2.1 4) 400 (rowf S.1 10) i 4 (by omega) (by decide)) (cwV 2 hts (gi_V wd_117 wd_118 wd_119 wd_2 wd_120) rfl rfl rfl (by decide +kernel) ⟨Nat.le_of_ble_eq_true rfl, Nat.le_of_ble_eq_true rfl⟩) (pu_preV hK (hP.sub [3, 13] rfl) (ci := 1) (q0 := 0) rfl rfl) rfl rfl hl.1 rfl (lv_room (Nat.le_of_ble_eq_true rfl)) d_X_inOpenOrders_24 ⟨Nat.le_of_ble_eq_true rfl, Nat.le_of_ble_eq_true rfl⟩) ?_
        refine nv_as (nI (S.1 14 i)) (rowf_at (by decide)) ?_
        have hb1 : S.1 14 i ≤ 1 := hB 14 _
        refine lv_iconst (v := nI 1) hx hb d_X_inOpenOrders_27 (by decide) ?_
        refine nv_cne (tgt := 72) hx hb (by omega) (by omega) d_X_inOpenOrders_28 (by decide) (fun c28 => ?_) (fun c28 => ?_)
        · refine lv_iinc (v := nI (i + 1)) (lv' := [(4, .int (nI (i + 1))), (3, .int (nI (sIf (fun j => decide (S.1 14 j = 1) && (decide (S.1 10 j = st) && decide (S.1 11 j = kd))) (fun j => S.1 12 j) i))), (0, .ref (q 0)), (1, .int (nI st)), (2, .int (nI kd))]) hx hb d_X_inOpenOrders_72 hl (k := 0) rfl (nI_1 _) (by decide) rfl (fun ls hl => ?_)
          refine lv_goto (tgt := 5) hx hb d_X_inOpenOrders_75 (by decide) ?_
          exact ih (i + 1) (by omega) (by omega) ls (lv_sub hl [0, 1, 2, 3, 4] (by rw [sIf_f (by simp [c28])]; rfl))
        · refine lv_aload_n hx hb d_X_inOpenOrders_31 rfl (lv_at hl 2 rfl) ?_
          refine va_get (D := (dC, dI)) (ci := 0) (v := .ref (q 3)) (C := R_X) (T := F_X) (N := 12) hx hb hts i_X hown hK hP 0 rfl rfl 2 (by decide) (hts _ wd_59) (fun _ h9 => h9) rfl d_X_inOpenOrders_32 ?_
          refine lv_iload hx hb d_X_inOpenOrders_35 (lv_at hl 0 rfl) ?_
          refine lv_iconst (v := nI 0) hx hb d_X_inOpenOrders_37 (by decide) ?_
          refine pu_go (va_runV (As := [.int (nI i), .int (nI 0)]) (rest := []) ⟨hx, hb, hml, hown, hts⟩ (c_W_at l dC dI cI (q 3) (q 13) 80 (S.2.1 4) 400 (rowf S.1 10) i 0 (by omega) (by decide)) (cwV 2 hts (gi_V wd_117 wd_118 wd_119 wd_2 wd_120) rfl rfl rfl (by decide +kernel) ⟨Nat.le_of_ble_eq_true rfl, Nat.le_of_ble_eq_true rfl⟩) (pu_preV hK (hP.sub [3, 13] rfl) (ci := 1) (q0 := 0) rfl rfl) rfl rfl hl.1 rfl (lv_room (Nat.le_of_ble_eq_true rfl)) d_X_inOpenOrders_38 ⟨Nat.le_of_ble_eq_true rfl, Nat.le_of_ble_eq_true rfl⟩) ?_
          refine nv_as (nI (S.1 10 i)) (rowf_at (by decide)) ?_
          have hb2 : S.1 10 i ≤ 7 := hB 10 _
          refine lv_iload_n hx hb d_X_inOpenOrders_41 rfl (lv_at hl 3 rfl) ?_
          refine nv_cne (tgt := 72) hx hb (by omega) (by omega) d_X_inOpenOrders_42 (by decide) (fun c42 => ?_) (fun c42 => ?_)
          · refine lv_iinc (v := nI (i + 1)) (lv' := [(4, .int (nI (i + 1))), (3, .int (nI (sIf (fun j => decide (S.1 14 j = 1) && (decide (S.1 10 j = st) && decide (S.1 11 j = kd))) (fun j => S.1 12 j) i))), (0, .ref (q 0)), (1, .int (nI st)), (2, .int (nI kd))]) hx hb d_X_inOpenOrders_72 hl (k := 0) rfl (nI_1 _) (by decide) rfl (fun ls hl => ?_)
            refine lv_goto (tgt := 5) hx hb d_X_inOpenOrders_75 (by decide) ?_
            exact ih (i + 1) (by omega) (by omega) ls (lv_sub hl [0, 1, 2, 3, 4] (by rw [sIf_f (by simp [c42])]; rfl))
          · refine lv_aload_n hx hb d_X_inOpenOrders_45 rfl (lv_at hl 2 rfl) ?_
            refine va_get (D := (dC, dI)) (ci := 0) (v := .ref (q 3)) (C := R_X) (T := F_X) (N := 12) hx hb hts i_X hown hK hP 0 rfl rfl 2 (by decide) (hts _ wd_59) (fun _ h9 => h9) rfl d_X_inOpenOrders_46 ?_
            refine lv_iload hx hb d_X_inOpenOrders_49 (lv_at hl 0 rfl) ?_
            refine lv_iconst (v := nI 1) hx hb d_X_inOpenOrders_51 (by decide) ?_
            refine pu_go (va_runV (As := [.int (nI i), .int (nI 1)]) (rest := []) ⟨hx, hb, hml, hown, hts⟩ (c_W_at l dC dI cI (q 3) (q 13) 80 (S.2.1 4) 400 (rowf S.1 10) i 1 (by omega) (by decide)) (cwV 2 hts (gi_V wd_117 wd_118 wd_119 wd_2 wd_120) rfl rfl rfl (by decide +kernel) ⟨Nat.le_of_ble_eq_true rfl, Nat.le_of_ble_eq_true rfl⟩) (pu_preV hK (hP.sub [3, 13] rfl) (ci := 1) (q0 := 0) rfl rfl) rfl rfl hl.1 rfl (lv_room (Nat.le_of_ble_eq_true rfl)) d_X_inOpenOrders_52 ⟨Nat.le_of_ble_eq_true rfl, Nat.le_of_ble_eq_true rfl⟩) ?_
            refine nv_as (nI (S.1 11 i)) (rowf_at (by decide)) ?_
            have hb3 : S.1 11 i ≤ 9 := hB 11 _
            refine lv_iload_n hx hb d_X_inOpenOrders_55 rfl (lv_at hl 4 rfl) ?_
            refine nv_cne (tgt := 72) hx hb (by omega) (by omega) d_X_inOpenOrders_56 (by decide) (fun c56 => ?_) (fun c56 => ?_)
            · refine lv_iinc (v := nI (i + 1)) (lv' := [(4, .int (nI (i + 1))), (3, .int (nI (sIf (fun j => decide (S.1 14 j = 1) && (decide (S.1 10 j = st) && decide (S.1 11 j = kd))) (fun j => S.1 12 j) i))), (0, .ref (q 0)), (1, .int (nI st)), (2, .int (nI kd))]) hx hb d_X_inOpenOrders_72 hl (k := 0) rfl (nI_1 _) (by decide) rfl (fun ls hl => ?_)
              refine lv_goto (tgt := 5) hx hb d_X_inOpenOrders_75 (by decide) ?_
              exact ih (i + 1) (by omega) (by omega) ls (lv_sub hl [0, 1, 2, 3, 4] (by rw [sIf_f (by simp [c56])]; rfl))
            · refine lv_iload_n hx hb d_X_inOpenOrders_59 rfl (lv_at hl 1 rfl) ?_
              refine lv_aload_n hx hb d_X_inOpenOrders_60 rfl (lv_at hl 2 rfl) ?_
              refine va_get (D := (dC, dI)) (ci := 0) (v := .ref (q 3)) (C := R_X) (T := F_X) (N := 12) hx hb hts i_X hown hK hP 0 rfl rfl 2 (by decide) (hts _ wd_59) (fun _ h9 => h9) rfl d_X_inOpenOrders_61 ?_
              refine lv_iload hx hb d_X_inOpenOrders_64 (lv_at hl 0 rfl) ?_
              refine lv_iconst (v := nI 2) hx hb d_X_inOpenOrders_66 (by decide) ?_
              refine pu_go (va_runV (As := [.int (nI i), .int (nI 2)]) (rest := [.int (nI (sIf (fun j => decide (S.1 14 j = 1) && (decide (S.1 10 j = st) && decide (S.1 11 j = kd))) (fun j => S.1 12 j) i))]) ⟨hx, hb, hml, hown, hts⟩ (c_W_at l dC dI cI (q 3) (q 13) 80 (S.2.1 4) 400 (rowf S.1 10) i 2 (by omega) (by decide)) (cwV 2 hts (gi_V wd_117 wd_118 wd_119 wd_2 wd_120) rfl rfl rfl (by decide +kernel) ⟨Nat.le_of_ble_eq_true rfl, Nat.le_of_ble_eq_true rfl⟩) (pu_preV hK (hP.sub [3, 13] rfl) (ci := 1) (q0 := 0) rfl rfl) rfl rfl hl.1 rfl (lv_room (Nat.le_of_ble_eq_true rfl)) d_X_inOpenOrders_67 ⟨Nat.le_of_ble_eq_true rfl, Nat.le_of_ble_eq_true rfl⟩) ?_
              refine nv_as (nI (S.1 12 i)) (rowf_at (by decide)) ?_
              have hb4 : S.1 12 i ≤ 9999 := hB 12 _
              refine nv_add hx hb d_X_inOpenOrders_70 ?_
              refine lv_istore_n (lv' := [(3, .int (nI ((sIf (fun j => decide (S.1 14 j = 1) && (decide (S.1 10 j = st) && decide (S.1 11 j = kd))) (fun j => S.1 12 j) i) + (S.1 12 i)))), (4, .int (nI i)), (0, .ref (q 0)), (1, .int (nI st)), (2, .int (nI kd))]) hx hb d_X_inOpenOrders_71 rfl hl (by decide) rfl (fun ls hl => ?_)
              refine lv_iinc (v := nI (i + 1)) (lv' := [(4, .int (nI (i + 1))), (3, .int (nI ((sIf (fun j => decide (S.1 14 j = 1) && (decide (S.1 10 j = st) && decide (S.1 11 j = kd))) (fun j => S.1 12 j) i) + (S.1 12 i)))), (0, .ref (q 0)), (1, .int (nI st)), (2, .int (nI kd))]) hx hb d_X_inOpenOrders_72 hl (k := 1) rfl (nI_1 _) (by decide) rfl (fun ls hl => ?_)
              refine lv_goto (tgt := 5) hx hb d_X_inOpenOrders_75 (by decide) ?_
              exact ih (i + 1) (by omega) (by omega) ls (lv_sub hl [0, 1, 2, 3, 4] (by rw [sIf_t (by simp [c28, c42, c56])]; rfl))
  exact LP5 (S.2.1 4 + 1) 0 (by omega) (by omega) ls (lv_sub hl [0, 1, 2, 3, 4] rfl)
set_option maxHeartbeats 4000000 in
set_option maxRecDepth 100000 in
theorem c_X_isTakenBefore (l : Launch) (dC : Nat → ClassId) (dI : Nat → Nat → Nat) (cI : ClassId) (q : Nat → Nat) (S : St) (t : Nat) (hI : Bd t S) (st j b : Nat) (hs : st < 8) (hj : j < 60) (hb0 : b < 60) : Met l y_X_isTakenBefore (.code y_X_isTakenBefore b_X_isTakenBefore 6 (some .boolean) :: bg) { frames := 1, cells := 0, slots := 0, locals := 22 } (pu_P (dC, dI) classes (wX q cI S) [(cI, .int)] [.ref (q 0), .int (nI st), .int (nI j), .int (nI b)]) (pu_Q (.int (b2 (before S st j b)))) 0 0 (fun _ => False) := by
  refine Met.ofW (cc := b_X_isTakenBefore) (maxL := 6) (ret := (some .boolean)) (by decide) rfl ?_
  intro p e s m args below meth c s₁ B hml hv
  obtain ⟨rfl, hP, hK⟩ := hv
  have hx := B.exec
  have hb := B.bytes
  have hr := B.returns
  have hts := fun w (h : w ∈ bg) => atoms_spec (ws := .code y_X_isTakenBefore b_X_isTakenBefore 6 (some .boolean) :: bg) B.pre w (List.mem_cons_of_mem _ h)
  have hown : s.vm.findClass R_X = some m.cls := findClass_of_methodNamed B.named
  have hlocks := B.notSynchronized
  have hl := lv_entry ([.ref (q 0), .int (nI st), .int (nI j), .int (nI b)]) (n := 6) (Nat.le_of_ble_eq_true rfl)
  rw [lg_entry_eq]
  generalize (lg_sl ([.ref (q 0), .int (nI st), .int (nI j), .int (nI b)]) ++ List.replicate (6 - (lg_sl ([.ref (q 0), .int (nI st), .int (nI j), .int (nI b)])).length) Slot.unset).toArray = ls at hl ⊢
  have hl : lv_has ls 6 [(0, .ref (q 0)), (1, .int (nI st)), (2, .int (nI j)), (3, .int (nI b))] := hl
  have hB := hI.1
  have hg0 : S.2.1 0 ≤ 8 := hI.2.1 0
  have hg1 : S.2.1 1 ≤ 9999 := hI.2.1 1
  have hg2 : S.2.1 2 ≤ 60 := hI.2.1 2
  have hg3 : S.2.1 3 ≤ 60 := hI.2.1 3
  have hg4 : S.2.1 4 ≤ 80 := hI.2.1 4
  have hg5 : S.2.1 5 ≤ 20 := hI.2.1 5
  have hg6 : S.2.1 6 ≤ 80 := hI.2.1 6
  have hg7 : S.2.1 7 ≤ 10 := hI.2.1 7
  have hg8 : t ≤ 512 := hI.2.2
  refine lv_aload_n hx hb d_X_isTakenBefore_0 rfl (lv_at hl 0 rfl) ?_
  refine va_get (D := (dC, dI)) (ci := 0) (v := .ref (q 1)) (C := R_X) (T := F_X) (N := 12) hx hb hts i_X hown hK hP 0 rfl rfl 0 (by decide) (hts _ wd_57) (fun _ h9 => h9) rfl d_X_isTakenBefore_1 ?_
  refine lv_iload_n hx hb d_X_isTakenBefore_4 rfl (lv_at hl 2 rfl) ?_
  refine lv_iconst (v := nI 1) hx hb d_X_isTakenBefore_5 (by decide) ?_
  refine pu_go (va_runV (As := [.int (nI j), .int (nI 1)]) (rest := []) ⟨hx, hb, hml, hown, hts⟩ (c_W_at l dC dI cI (q 1) (q 11) 60 (S.2.1 2) 300 (rowf S.1 0) j 1 (by omega) (by decide)) (cwV 2 hts (gi_V wd_117 wd_118 wd_119 wd_2 wd_120) rfl rfl rfl (by decide +kernel) ⟨Nat.le_of_ble_eq_true rfl, Nat.le_of_ble_eq_true rfl⟩) (pu_preV hK (hP.sub [1, 11] rfl) (ci := 1) (q0 := 0) rfl rfl) rfl rfl hl.1 rfl (lv_room (Nat.le_of_ble_eq_true rfl)) d_X_isTakenBefore_6 ⟨Nat.le_of_ble_eq_true rfl, Nat.le_of_ble_eq_true rfl⟩) ?_
  refine nv_as (nI (S.1 1 j)) (rowf_at (by decide)) ?_
  have hb1 : S.1 1 j ≤ 9999 := hB 1 _
  refine lv_istore (lv' := [(4, .int (nI (S.1 1 j))), (0, .ref (q 0)), (1, .int (nI st)), (2, .int (nI j)), (3, .int (nI b))]) hx hb d_X_isTakenBefore_9 hl (by decide) rfl (fun ls hl => ?_)
  refine lv_aload_n hx hb d_X_isTakenBefore_11 rfl (lv_at hl 1 rfl) ?_
  refine va_get (D := (dC, dI)) (ci := 0) (v := .ref (q 1)) (C := R_X) (T := F_X) (N := 12) hx hb hts i_X hown hK hP 0 rfl rfl 0 (by decide) (hts _ wd_57) (fun _ h9 => h9) rfl d_X_isTakenBefore_12 ?_
  refine lv_iload_n hx hb d_X_isTakenBefore_15 rfl (lv_at hl 4 rfl) ?_
  refine lv_iconst (v := nI 1) hx hb d_X_isTakenBefore_16 (by decide) ?_
  refine pu_go (va_runV (As := [.int (nI b), .int (nI 1)]) (rest := []) ⟨hx, hb, hml, hown, hts⟩ (c_W_at l dC dI cI (q 1) (q 11) 60 (S.2.1 2) 300 (rowf S.1 0) b 1 (by omega) (by decide)) (cwV 2 hts (gi_V wd_117 wd_118 wd_119 wd_2 wd_120) rfl rfl rfl (by decide +kernel) ⟨Nat.le_of_ble_eq_true rfl, Nat.le_of_ble_eq_true rfl⟩) (pu_preV hK (hP.sub [1, 11] rfl) (ci := 1) (q0 := 0) rfl rfl) rfl rfl hl.1 rfl (lv_room (Nat.le_of_ble_eq_true rfl)) d_X_isTakenBefore_17 ⟨Nat.le_of_ble_eq_true rfl, Nat.le_of_ble_eq_true rfl⟩) ?_
  refine nv_as (nI (S.1 1 b)) (rowf_at (by decide)) ?_
  have hb2 : S.1 1 b ≤ 9999 := hB 1 _
  refine lv_istore (lv' := [(5, .int (nI (S.1 1 b))), (4, .int (nI (S.1 1 j))), (0, .ref (q 0)), (1, .int (nI st)), (2, .int (nI j)), (3, .int (nI b))]) hx hb d_X_isTakenBefore_20 hl (by decide) rfl (fun ls hl => ?_)
  refine lv_iload hx hb d_X_isTakenBefore_22 (lv_at hl 1 rfl) ?_
  refine lv_iload hx hb d_X_isTakenBefore_24 (lv_at hl 0 rfl) ?_
  refine nv_ceq (tgt := 42) hx hb (by omega) (by omega) d_X_isTakenBefore_26 (by decide) (fun c26 => ?_) (fun c26 => ?_)
  · refine lv_aload_n hx hb d_X_isTakenBefore_42 rfl (lv_at hl 2 rfl) ?_
    refine va_get (D := (dC, dI)) (ci := 0) (v := .ref (q 7)) (C := R_X) (T := F_X) (N := 12) hx hb hts i_X hown hK hP 0 rfl rfl 6 (by decide) (hts _ wd_63) (fun _ h9 => h9) rfl d_X_isTakenBefore_43 ?_
    refine lv_iload_n hx hb d_X_isTakenBefore_46 rfl (lv_at hl 3 rfl) ?_
    refine lv_iload_n hx hb d_X_isTakenBefore_47 rfl (lv_at hl 4 rfl) ?_
    refine pu_go (va_runS (As := [.int (nI st), .int (nI j)]) (rest := [.ref (q 7)]) ⟨hx, hb, hml, hown, hts⟩ (c_X_place l dC dI st j) (cwS 2 hts (gi_S wd_125 wd_126 wd_1 wd_127) rfl rfl rfl (by decide +kernel) ⟨Nat.le_of_ble_eq_true rfl, Nat.le_of_ble_eq_true rfl⟩) (pu_preS (hK.sub (tys' := []) [] rfl) (fun k q h => by simp at h)) rfl rfl hl.1 rfl (lv_room (Nat.le_of_ble_eq_true rfl)) d_X_isTakenBefore_48 ⟨Nat.le_of_ble_eq_true rfl, Nat.le_of_ble_eq_true rfl⟩) ?_
    refine nv_iald (v := nI (S.1 25 (st * 60 + j))) hx hb hK hP 7 0 rfl rfl (by omega) (by decide) rfl d_X_isTakenBefore_51 ?_
    have hb51 : S.1 25 (st * 60 + j) ≤ 9999 := hB 25 _
    refine lv_aload_n hx hb d_X_isTakenBefore_52 rfl (lv_at hl 2 rfl) ?_
    refine va_get (D := (dC, dI)) (ci := 0) (v := .ref (q 7)) (C := R_X) (T := F_X) (N := 12) hx hb hts i_X hown hK hP 0 rfl rfl 6 (by decide) (hts _ wd_63) (fun _ h9 => h9) rfl d_X_isTakenBefore_53 ?_
    refine lv_iload_n hx hb d_X_isTakenBefore_56 rfl (lv_at hl 3 rfl) ?_
    refine lv_iload_n hx hb d_X_isTakenBefore_57 rfl (lv_at hl 5 rfl) ?_
    refine pu_go (va_runS (As := [.int (nI st), .int (nI b)]) (rest := [.ref (q 7), .int (nI (S.1 25 (st * 60 + j)))]) ⟨hx, hb, hml, hown, hts⟩ (c_X_place l dC dI st b) (cwS 2 hts (gi_S wd_125 wd_126 wd_1 wd_127) rfl rfl rfl (by decide +kernel) ⟨Nat.le_of_ble_eq_true rfl, Nat.le_of_ble_eq_true rfl⟩) (pu_preS (hK.sub (tys' := []) [] rfl) (fun k q h => by simp at h)) rfl rfl hl.1 rfl (lv_room (Nat.le_of_ble_eq_true rfl)) d_X_isTakenBefore_58 ⟨Nat.le_of_ble_eq_true rfl, Nat.le_of_ble_eq_true rfl⟩) ?_
    refine nv_iald (v := nI (S.1 25 (st * 60 + b))) hx hb hK hP 7 0 rfl rfl (by omega) (by decide) rfl d_X_isTakenBefore_61 ?_
    have hb61 : S.1 25 (st * 60 + b) ≤ 9999 := hB 25 _
    refine nv_cge (tgt := 69) hx hb (by omega) (by omega) d_X_isTakenBefore_62 (by decide) (fun c62 => ?_) (fun c62 => ?_)
    · refine lv_iconst (v := nI 0) hx hb d_X_isTakenBefore_69 (by decide) ?_
      refine nv_as (b2 (before S st j b)) (by unfold before; rw [if_neg (fun h => h c26), decide_eq_false (by omega)]; rfl) ?_
      exact W.zret hx hb hr (b2_nar _) (fun t ht hW => ⟨rfl, ht⟩) (fun q h => nomatch h) d_X_isTakenBefore_70
    · refine lv_iconst (v := nI 1) hx hb d_X_isTakenBefore_65 (by decide) ?_
      refine lv_goto (tgt := 70) hx hb d_X_isTakenBefore_66 (by decide) ?_
      refine nv_as (b2 (before S st j b)) (by unfold before; rw [if_neg (fun h => h c26), decide_eq_true (by omega)]; rfl) ?_
      exact W.zret hx hb hr (b2_nar _) (fun t ht hW => ⟨rfl, ht⟩) (fun q h => nomatch h) d_X_isTakenBefore_70
  · refine lv_iload hx hb d_X_isTakenBefore_29 (lv_at hl 1 rfl) ?_
    refine lv_iload hx hb d_X_isTakenBefore_31 (lv_at hl 0 rfl) ?_
    refine nv_cge (tgt := 40) hx hb (by omega) (by omega) d_X_isTakenBefore_33 (by decide) (fun c33 => ?_) (fun c33 => ?_)
    · refine lv_iconst (v := nI 0) hx hb d_X_isTakenBefore_40 (by decide) ?_
      refine nv_as (b2 (before S st j b)) (by unfold before; rw [if_pos c26, decide_eq_false (by omega)]; rfl) ?_
      exact W.zret hx hb hr (b2_nar _) (fun t ht hW => ⟨rfl, ht⟩) (fun q h => nomatch h) d_X_isTakenBefore_41
    · refine lv_iconst (v := nI 1) hx hb d_X_isTakenBefore_36 (by decide) ?_
      refine lv_goto (tgt := 41) hx hb d_X_isTakenBefore_37 (by decide) ?_
      refine nv_as (b2 (before S st j b)) (by unfold before; rw [if_pos c26, decide_eq_true (by omega)]; rfl) ?_
      exact W.zret hx hb hr (b2_nar _) (fun t ht hW => ⟨rfl, ht⟩) (fun q h => nomatch h) d_X_isTakenBefore_41
set_option maxHeartbeats 4000000 in
set_option maxRecDepth 100000 in
theorem c_X_firstToTake (l : Launch) (dC : Nat → ClassId) (dI : Nat → Nat → Nat) (cI : ClassId) (q : Nat → Nat) (S : St) (t : Nat) (hI : Bd t S) (st kd : Nat) (hs : st < 8) (hk : kd < 10) : Met l y_X_firstToTake (.code y_X_firstToTake b_X_firstToTake 5 (some .int) :: bg) { frames := 2, cells := 0, slots := 0, locals := 47 } (pu_P (dC, dI) classes (wX q cI S) [(cI, .int)] [.ref (q 0), .int (nI st), .int (nI kd)]) (pu_Q (.int (o2 (bst S st kd (S.2.1 2))))) 0 0 (fun _ => False) := by
  refine Met.ofW (cc := b_X_firstToTake) (maxL := 5) (ret := (some .int)) (by decide) rfl ?_
  intro p e s m args below meth c s₁ B hml hv
  obtain ⟨rfl, hP, hK⟩ := hv
  have hx := B.exec
  have hb := B.bytes
  have hr := B.returns
  have hts := fun w (h : w ∈ bg) => atoms_spec (ws := .code y_X_firstToTake b_X_firstToTake 5 (some .int) :: bg) B.pre w (List.mem_cons_of_mem _ h)
  have hown : s.vm.findClass R_X = some m.cls := findClass_of_methodNamed B.named
  have hlocks := B.notSynchronized
  have hl := lv_entry ([.ref (q 0), .int (nI st), .int (nI kd)]) (n := 5) (Nat.le_of_ble_eq_true rfl)
  rw [lg_entry_eq]
  generalize (lg_sl ([.ref (q 0), .int (nI st), .int (nI kd)]) ++ List.replicate (5 - (lg_sl ([.ref (q 0), .int (nI st), .int (nI kd)])).length) Slot.unset).toArray = ls at hl ⊢
  have hl : lv_has ls 5 [(0, .ref (q 0)), (1, .int (nI st)), (2, .int (nI kd))] := hl
  have hB := hI.1
  have hg0 : S.2.1 0 ≤ 8 := hI.2.1 0
  have hg1 : S.2.1 1 ≤ 9999 := hI.2.1 1
  have hg2 : S.2.1 2 ≤ 60 := hI.2.1 2
  have hg3 : S.2.1 3 ≤ 60 := hI.2.1 3
  have hg4 : S.2.1 4 ≤ 80 := hI.2.1 4
  have hg5 : S.2.1 5 ≤ 20 := hI.2.1 5
  have hg6 : S.2.1 6 ≤ 80 := hI.2.1 6
  have hg7 : S.2.1 7 ≤ 10 := hI.2.1 7
  have hg8 : t ≤ 512 := hI.2.2
  refine lv_iconst (v := (-1)) hx hb d_X_firstToTake_0 (by decide) ?_
  refine lv_istore_n (lv' := [(3, .int (-1)), (0, .ref (q 0)), (1, .int (nI st)), (2, .int (nI kd))]) hx hb d_X_firstToTake_1 rfl hl (by decide) rfl (fun ls hl => ?_)
  refine lv_iconst (v := nI 0) hx hb d_X_firstToTake_2 (by decide) ?_
  refine lv_istore (lv' := [(4, .int (nI 0)), (3, .int (-1)), (0, .ref (q 0)), (1, .int (nI st)), (2, .int (nI kd))]) hx hb d_X_firstToTake_3 hl (by decide) rfl (fun ls hl => ?_)
  have LP5 : ∀ (fu i : Nat), S.2.1 2 - i < fu → i ≤ S.2.1 2 → ∀ ls : Array Slot, lv_has ls 5 [(4, .int (nI i)), (3, .int (o2 (bst S st kd i))), (0, .ref (q 0)), (1, .int (nI st)), (2, .int (nI kd))] → W p l e (headSpec (.code y_X_firstToTake b_X_firstToTake 5 (some .int) :: bg) { frames := 2, cells := 0, slots := 0, locals := 47 }).room s m (List.toArray [.ref (q 0), .int (nI st), .int (nI kd)]) below meth c s.heap [] 0 0 (MQ below (pu_Q (.int (o2 (bst S st kd (S.2.1 2))))) (List.toArray [.ref (q 0), .int (nI st), .int (nI kd)]) s 0 0 (fun _ => False)) (F0 m 5 ls []) := by
    intro fu
    induction fu with
    | zero => intro i h; exact absurd h (Nat.not_lt_zero _)
    | succ fu ih =>
      intro i hfu hi ls hl
      refine lv_iload hx hb d_X_firstToTake_5 (lv_at hl 0 rfl) ?_
      refine lv_aload_n hx hb d_X_firstToTake_7 rfl (lv_at hl 2 rfl) ?_
      refine va_get (D := (dC, dI)) (ci := 0) (v := .ref (q 1)) (C := R_X) (T := F_X) (N := 12) hx hb hts i_X hown hK hP 0 rfl rfl 0 (by decide) (hts _ wd_57) (fun _ h9 => h9) rfl d_X_firstToTake_8 ?_
      refine pu_go (va_runV (As := []) (rest := [.int (nI i)]) ⟨hx, hb, hml, hown, hts⟩ (c_W_made l dC dI cI (q 1) (q 11) 60 (S.2.1 2) 300 (rowf S.1 0)) (cwV 0 hts (gi_V wd_98 wd_99 wd_100 wd_2 wd_101) rfl rfl rfl (by decide +kernel) ⟨Nat.le_of_ble_eq_true rfl, Nat.le_of_ble_eq_true rfl⟩) (pu_preV hK (hP.sub [1, 11] rfl) (ci := 1) (q0 := 0) rfl rfl) rfl rfl hl.1 rfl (lv_room (Nat.le_of_ble_eq_true rfl)) d_X_firstToTake_11 ⟨Nat.le_of_ble_eq_true rfl, Nat.le_of_ble_eq_true rfl⟩) ?_
      refine nv_cge (tgt := 82) hx hb (by omega) (by omega) d_X_firstToTake_14 (by decide) (fun c14 => ?_) (fun c14 => ?_)
      · obtain rfl : i = S.2.1 2 := by omega
        refine lv_iload_n hx hb d_X_firstToTake_82 rfl (lv_at hl 1 rfl) ?_
        refine nv_as (o2 (bst S st kd (S.2.1 2))) (by rfl) ?_
        exact W.iret hx hb hr (fun t ht hW => ⟨rfl, ht⟩) (fun q h => nomatch h) d_X_firstToTake_83
      · refine lv_aload_n hx hb d_X_firstToTake_17 rfl (lv_at hl 2 rfl) ?_
        refine va_get (D := (dC, dI)) (ci := 0) (v := .ref (q 1)) (C := R_X) (T := F_X) (N := 12) hx hb hts i_X hown hK hP 0 rfl rfl 0 (by decide) (hts _ wd_57) (fun _ h9 => h9) rfl d_X_firstToTake_18 ?_
        refine lv_iload hx hb d_X_firstToTake_21 (lv_at hl 0 rfl) ?_
        refine lv_iconst (v := nI 0) hx hb d_X_firstToTake_23 (by decide) ?_
        refine pu_go (va_runV (As := [.int (nI i), .int (nI 0)]) (rest := []) ⟨hx, hb, hml, hown, hts⟩ (c_W_at l dC dI cI (q 1) (q 11) 60 (S.2.1 2) 300 (rowf S.1 0) i 0 (by omega) (by decide)) (cwV 2 hts (gi_V wd_117 wd_118 wd_119 wd_2 wd_120) rfl rfl rfl (by decide +kernel) ⟨Nat.le_of_ble_eq_true rfl, Nat.le_of_ble_eq_true rfl⟩) (pu_preV hK (hP.sub [1, 11] rfl) (ci := 1) (q0 := 0) rfl rfl) rfl rfl hl.1 rfl (lv_room (Nat.le_of_ble_eq_true rfl)) d_X_firstToTake_24 ⟨Nat.le_of_ble_eq_true rfl, Nat.le_of_ble_eq_true rfl⟩) ?_
        refine nv_as (nI (S.1 0 i)) (rowf_at (by decide)) ?_
        have hb1 : S.1 0 i ≤ 9 := hB 0 _
        refine lv_iload_n hx hb d_X_firstToTake_27 rfl (lv_at hl 4 rfl) ?_
        refine nv_cne (tgt := 76) hx hb (by omega) (by omega) d_X_firstToTake_28 (by decide) (fun c28 => ?_) (fun c28 => ?_)
        · refine lv_iinc (v := nI (i + 1)) (lv' := [(4, .int (nI (i + 1))), (3, .int (o2 (bst S st kd i))), (0, .ref (q 0)), (1, .int (nI st)), (2, .int (nI kd))]) hx hb d_X_firstToTake_76 hl (k := 0) rfl (nI_1 _) (by decide) rfl (fun ls hl => ?_)
          refine lv_goto (tgt := 5) hx hb d_X_firstToTake_79 (by decide) ?_
          exact ih (i + 1) (by omega) (by omega) ls (lv_sub hl [0, 1, 2, 3, 4] (by rw [bst_no (by simp [takeable, c28])]; rfl))
        · refine lv_aload_n hx hb d_X_firstToTake_31 rfl (lv_at hl 2 rfl) ?_
          refine lv_iload hx hb d_X_firstToTake_32 (lv_at hl 0 rfl) ?_
          refine lv_aload_n hx hb d_X_firstToTake_34 rfl (lv_at hl 2 rfl) ?_
          refine va_get (D := (dC, dI)) (ci := 0) (v := .int (nI (S.2.1 1))) (C := R_X) (T := F_X) (N := 12) hx hb hts i_X hown hK hP 0 rfl rfl 11 (by decide) (hts _ wd_68) (fun _ h9 => h9) rfl d_X_firstToTake_35 ?_
          refine pu_go (va_runV (As := [.int (nI i), .int (nI (S.2.1 1))]) (rest := []) ⟨hx, hb, hml, hown, hts⟩ (c_X_isGoodOn l dC dI cI q S t hI i (S.2.1 1) (by omega) (by omega)) (cwV 2 hts (gi_V wd_121 wd_123 wp_2 wd_1 wd_124) rfl rfl rfl (by decide +kernel) ⟨Nat.le_of_ble_eq_true rfl, Nat.le_of_ble_eq_true rfl⟩) (pu_preV hK hP (ci := 0) (q0 := 0) rfl rfl) rfl rfl hl.1 rfl (lv_room (Nat.le_of_ble_eq_true rfl)) d_X_firstToTake_38 ⟨Nat.le_of_ble_eq_true rfl, Nat.le_of_ble_eq_true rfl⟩) ?_
          refine nv_bz (tgt := 76) hx hb d_X_firstToTake_41 (by decide) (fun c41 => ?_) (fun c41 => ?_)
          · refine lv_iinc (v := nI (i + 1)) (lv' := [(4, .int (nI (i + 1))), (3, .int (o2 (bst S st kd i))), (0, .ref (q 0)), (1, .int (nI st)), (2, .int (nI kd))]) hx hb d_X_firstToTake_76 hl (k := 0) rfl (nI_1 _) (by decide) rfl (fun ls hl => ?_)
            refine lv_goto (tgt := 5) hx hb d_X_firstToTake_79 (by decide) ?_
            exact ih (i + 1) (by omega) (by omega) ls (lv_sub hl [0, 1, 2, 3, 4] (by rw [bst_no (by simp [takeable, of_decide_eq_false c41])]; rfl))
          · refine lv_aload_n hx hb d_X_firstToTake_44 rfl (lv_at hl 2 rfl) ?_
            refine va_get (D := (dC, dI)) (ci := 0) (v := .ref (q 7)) (C := R_X) (T := F_X) (N := 12) hx hb hts i_X hown hK hP 0 rfl rfl 6 (by decide) (hts _ wd_63) (fun _ h9 => h9) rfl d_X_firstToTake_45 ?_
            refine lv_iload_n hx hb d_X_firstToTake_48 rfl (lv_at hl 3 rfl) ?_
            refine lv_iload hx hb d_X_firstToTake_49 (lv_at hl 0 rfl) ?_
            refine pu_go (va_runS (As := [.int (nI st), .int (nI i)]) (rest := [.ref (q 7)]) ⟨hx, hb, hml, hown, hts⟩ (c_X_place l dC dI st i) (cwS 2 hts (gi_S wd_125 wd_126 wd_1 wd_127) rfl rfl rfl (by decide +kernel) ⟨Nat.le_of_ble_eq_true rfl, Nat.le_of_ble_eq_true rfl⟩) (pu_preS (hK.sub (tys' := []) [] rfl) (fun k q h => by simp at h)) rfl rfl hl.1 rfl (lv_room (Nat.le_of_ble_eq_true rfl)) d_X_firstToTake_51 ⟨Nat.le_of_ble_eq_true rfl, Nat.le_of_ble_eq_true rfl⟩) ?_
            refine nv_iald (v := nI (S.1 25 (st * 60 + i))) hx hb hK hP 7 0 rfl rfl (by omega) (by decide) rfl d_X_firstToTake_54 ?_
            have hb54 : S.1 25 (st * 60 + i) ≤ 9999 := hB 25 _
            refine nv_zle (tgt := 76) hx hb (by omega) d_X_firstToTake_55 (by decide) (fun c55 => ?_) (fun c55 => ?_)
            · refine lv_iinc (v := nI (i + 1)) (lv' := [(4, .int (nI (i + 1))), (3, .int (o2 (bst S st kd i))), (0, .ref (q 0)), (1, .int (nI st)), (2, .int (nI kd))]) hx hb d_X_firstToTake_76 hl (k := 0) rfl (nI_1 _) (by decide) rfl (fun ls hl => ?_)
              refine lv_goto (tgt := 5) hx hb d_X_firstToTake_79 (by decide) ?_
              exact ih (i + 1) (by omega) (by omega) ls (lv_sub hl [0, 1, 2, 3, 4] (by rw [bst_no (by simp [takeable, c55])]; rfl))
            · refine lv_iload_n hx hb d_X_firstToTake_58 rfl (lv_at hl 1 rfl) ?_
              refine lv_if_lt (tgt := 73) hx hb d_X_firstToTake_59 (by decide) (fun c59 => ?_) (fun c59 => ?_)
              · refine lv_iload hx hb d_X_firstToTake_73 (lv_at hl 0 rfl) ?_
                refine lv_istore_n (lv' := [(3, .int (nI i)), (4, .int (nI i)), (0, .ref (q 0)), (1, .int (nI st)), (2, .int (nI kd))]) hx hb d_X_firstToTake_75 rfl hl (by decide) rfl (fun ls hl => ?_)
                refine lv_iinc (v := nI (i + 1)) (lv' := [(4, .int (nI (i + 1))), (3, .int (nI i)), (0, .ref (q 0)), (1, .int (nI st)), (2, .int (nI kd))]) hx hb d_X_firstToTake_76 hl (k := 1) rfl (nI_1 _) (by decide) rfl (fun ls hl => ?_)
                refine lv_goto (tgt := 5) hx hb d_X_firstToTake_79 (by decide) ?_
                exact ih (i + 1) (by omega) (by omega) ls (lv_sub hl [0, 1, 2, 3, 4] (by rw [bst_first (by simp [takeable, c28, of_decide_eq_true c41, c55]) (o2_none c59 (fun b hb => by have := bst_lt hb; omega))]; rfl))
              · obtain ⟨b, hbb⟩ := o2_some c59
                have hlb := bst_lt hbb
                have hl : lv_has ls 5 [(4, .int (nI i)), (3, .int (nI b)), (0, .ref (q 0)), (1, .int (nI st)), (2, .int (nI kd))] := by rw [hbb] at hl; exact hl
                refine lv_aload_n hx hb d_X_firstToTake_62 rfl (lv_at hl 2 rfl) ?_
                refine lv_iload_n hx hb d_X_firstToTake_63 rfl (lv_at hl 3 rfl) ?_
                refine lv_iload hx hb d_X_firstToTake_64 (lv_at hl 0 rfl) ?_
                refine lv_iload_n hx hb d_X_firstToTake_66 rfl (lv_at hl 1 rfl) ?_
                refine pu_go (va_runV (As := [.int (nI st), .int (nI i), .int (nI b)]) (rest := []) ⟨hx, hb, hml, hown, hts⟩ (c_X_isTakenBefore l dC dI cI q S t hI st i b (by omega) (by omega) (by omega)) (cwV 3 hts (gi_V wd_366 wd_368 wp_16 wd_1 wd_369) rfl rfl rfl (by decide +kernel) ⟨Nat.le_of_ble_eq_true rfl, Nat.le_of_ble_eq_true rfl⟩) (pu_preV hK hP (ci := 0) (q0 := 0) rfl rfl) rfl rfl hl.1 rfl (lv_room (Nat.le_of_ble_eq_true rfl)) d_X_firstToTake_67 ⟨Nat.le_of_ble_eq_true rfl, Nat.le_of_ble_eq_true rfl⟩) ?_
                refine nv_bz (tgt := 76) hx hb d_X_firstToTake_70 (by decide) (fun c70 => ?_) (fun c70 => ?_)
                · refine lv_iinc (v := nI (i + 1)) (lv' := [(4, .int (nI (i + 1))), (3, .int (nI b)), (0, .ref (q 0)), (1, .int (nI st)), (2, .int (nI kd))]) hx hb d_X_firstToTake_76 hl (k := 0) rfl (nI_1 _) (by decide) rfl (fun ls hl => ?_)
                  refine lv_goto (tgt := 5) hx hb d_X_firstToTake_79 (by decide) ?_
                  exact ih (i + 1) (by omega) (by omega) ls (lv_sub hl [0, 1, 2, 3, 4] (by rw [bst_keep (by simp [takeable, c28, of_decide_eq_true c41, c55]) hbb c70]; rfl))
                · refine lv_iload hx hb d_X_firstToTake_73 (lv_at hl 0 rfl) ?_
                  refine lv_istore_n (lv' := [(3, .int (nI i)), (4, .int (nI i)), (0, .ref (q 0)), (1, .int (nI st)), (2, .int (nI kd))]) hx hb d_X_firstToTake_75 rfl hl (by decide) rfl (fun ls hl => ?_)
                  refine lv_iinc (v := nI (i + 1)) (lv' := [(4, .int (nI (i + 1))), (3, .int (nI i)), (0, .ref (q 0)), (1, .int (nI st)), (2, .int (nI kd))]) hx hb d_X_firstToTake_76 hl (k := 1) rfl (nI_1 _) (by decide) rfl (fun ls hl => ?_)
                  refine lv_goto (tgt := 5) hx hb d_X_firstToTake_79 (by decide) ?_
                  exact ih (i + 1) (by omega) (by omega) ls (lv_sub hl [0, 1, 2, 3, 4] (by rw [bst_new (by simp [takeable, c28, of_decide_eq_true c41, c55]) hbb c70]; rfl))
  exact LP5 (S.2.1 2 + 1) 0 (by omega) (by omega) ls (lv_sub hl [0, 1, 2, 3, 4] rfl)
set_option maxHeartbeats 4000000 in
set_option maxRecDepth 100000 in
theorem c_X_hasParts (l : Launch) (dC : Nat → ClassId) (dI : Nat → Nat → Nat) (cI : ClassId) (q : Nat → Nat) (S : St) (t : Nat) (hI : Bd t S) (kt : Nat) (hk : kt < 5) : Met l y_X_hasParts (.code y_X_hasParts b_X_hasParts 3 (some .boolean) :: bg) { frames := 1, cells := 0, slots := 0, locals := 21 } (pu_P (dC, dI) classes (wX q cI S) [(cI, .int)] [.ref (q 0), .int (nI kt)]) (pu_Q (.int (b2 (anyPart S kt)))) 0 0 (fun _ => False) := by
  refine Met.ofW (cc := b_X_hasParts) (maxL := 3) (ret := (some .boolean)) (by decide) rfl ?_
  intro p e s m args below meth c s₁ B hml hv
  obtain ⟨rfl, hP, hK⟩ := hv
  have hx := B.exec
  have hb := B.bytes
  have hr := B.returns
  have hts := fun w (h : w ∈ bg) => atoms_spec (ws := .code y_X_hasParts b_X_hasParts 3 (some .boolean) :: bg) B.pre w (List.mem_cons_of_mem _ h)
  have hown : s.vm.findClass R_X = some m.cls := findClass_of_methodNamed B.named
  have hlocks := B.notSynchronized
  have hl := lv_entry ([.ref (q 0), .int (nI kt)]) (n := 3) (Nat.le_of_ble_eq_true rfl)
  rw [lg_entry_eq]
  generalize (lg_sl ([.ref (q 0), .int (nI kt)]) ++ List.replicate (3 - (lg_sl ([.ref (q 0), .int (nI kt)])).length) Slot.unset).toArray = ls at hl ⊢
  have hl : lv_has ls 3 [(0, .ref (q 0)), (1, .int (nI kt))] := hl
  have hB := hI.1
  have hg0 : S.2.1 0 ≤ 8 := hI.2.1 0
  have hg1 : S.2.1 1 ≤ 9999 := hI.2.1 1
  have hg2 : S.2.1 2 ≤ 60 := hI.2.1 2
  have hg3 : S.2.1 3 ≤ 60 := hI.2.1 3
  have hg4 : S.2.1 4 ≤ 80 := hI.2.1 4
  have hg5 : S.2.1 5 ≤ 20 := hI.2.1 5
  have hg6 : S.2.1 6 ≤ 80 := hI.2.1 6
  have hg7 : S.2.1 7 ≤ 10 := hI.2.1 7
  have hg8 : t ≤ 512 := hI.2.2
  refine lv_iconst (v := nI 0) hx hb d_X_hasParts_0 (by decide) ?_
  refine lv_istore_n (lv' := [(2, .int (nI 0)), (0, .ref (q 0)), (1, .int (nI kt))]) hx hb d_X_hasParts_1 rfl hl (by decide) rfl (fun ls hl => ?_)
  have LP2 : ∀ (fu i : Nat), 10 - i < fu → i ≤ 10 → (∀ j, j < i → S.1 28 (kt * 10 + j) = 0) → ∀ ls : Array Slot, lv_has ls 3 [(2, .int (nI i)), (0, .ref (q 0)), (1, .int (nI kt))] → W p l e (headSpec (.code y_X_hasParts b_X_hasParts 3 (some .boolean) :: bg) { frames := 1, cells := 0, slots := 0, locals := 21 }).room s m (List.toArray [.ref (q 0), .int (nI kt)]) below meth c s.heap [] 0 0 (MQ below (pu_Q (.int (b2 (anyPart S kt)))) (List.toArray [.ref (q 0), .int (nI kt)]) s 0 0 (fun _ => False)) (F0 m 2 ls []) := by
    intro fu
    induction fu with
    | zero => intro i h; exact absurd h (Nat.not_lt_zero _)
    | succ fu ih =>
      intro i hfu hi hh0 ls hl
      refine lv_iload_n hx hb d_X_hasParts_2 rfl (lv_at hl 0 rfl) ?_
      refine lv_bipush (v := nI 10) hx hb d_X_hasParts_3 (by decide) ?_
      refine nv_cge (tgt := 29) hx hb (by omega) (by omega) d_X_hasParts_5 (by decide) (fun c5 => ?_) (fun c5 => ?_)
      · refine lv_iconst (v := nI 0) hx hb d_X_hasParts_29 (by decide) ?_
        refine nv_as (b2 (anyPart S kt)) (by rw [anyPart_f (fun j h => hh0 j (by omega))]; rfl) ?_
        exact W.zret hx hb hr (b2_nar _) (fun t ht hW => ⟨rfl, ht⟩) (fun q h => nomatch h) d_X_hasParts_30
      · refine lv_aload_n hx hb d_X_hasParts_8 rfl (lv_at hl 1 rfl) ?_
        refine va_get (D := (dC, dI)) (ci := 0) (v := .ref (q 10)) (C := R_X) (T := F_X) (N := 12) hx hb hts i_X hown hK hP 0 rfl rfl 9 (by decide) (hts _ wd_66) (fun _ h9 => h9) rfl d_X_hasParts_9 ?_
        refine lv_iload_n hx hb d_X_hasParts_12 rfl (lv_at hl 2 rfl) ?_
        refine lv_iload_n hx hb d_X_hasParts_13 rfl (lv_at hl 0 rfl) ?_
        refine pu_go (va_runS (As := [.int (nI kt), .int (nI i)]) (rest := [.ref (q 10)]) ⟨hx, hb, hml, hown, hts⟩ (c_X_pair l dC dI kt i) (cwS 2 hts (gi_S wd_106 wd_107 wd_1 wd_108) rfl rfl rfl (by decide +kernel) ⟨Nat.le_of_ble_eq_true rfl, Nat.le_of_ble_eq_true rfl⟩) (pu_preS (hK.sub (tys' := []) [] rfl) (fun k q h => by simp at h)) rfl rfl hl.1 rfl (lv_room (Nat.le_of_ble_eq_true rfl)) d_X_hasParts_14 ⟨Nat.le_of_ble_eq_true rfl, Nat.le_of_ble_eq_true rfl⟩) ?_
        refine nv_iald (v := nI (S.1 28 (kt * 10 + i))) hx hb hK hP 10 0 rfl rfl (by omega) (by decide) rfl d_X_hasParts_17 ?_
        have hb17 : S.1 28 (kt * 10 + i) ≤ 20 := hB 28 _
        refine nv_zle (tgt := 23) hx hb (by omega) d_X_hasParts_18 (by decide) (fun c18 => ?_) (fun c18 => ?_)
        · refine lv_iinc (v := nI (i + 1)) (lv' := [(2, .int (nI (i + 1))), (0, .ref (q 0)), (1, .int (nI kt))]) hx hb d_X_hasParts_23 hl (k := 0) rfl (nI_1 _) (by decide) rfl (fun ls hl => ?_)
          refine lv_goto (tgt := 2) hx hb d_X_hasParts_26 (by decide) ?_
          exact ih (i + 1) (by omega) (by omega) (fun j h => by rcases Nat.lt_succ_iff_lt_or_eq.mp h with h | rfl; exact hh0 j h; exact c18) ls (lv_sub hl [0, 1, 2] (rfl))
        · refine lv_iconst (v := nI 1) hx hb d_X_hasParts_21 (by decide) ?_
          refine nv_as (b2 (anyPart S kt)) (by rw [anyPart_t c5 c18]; rfl) ?_
          exact W.zret hx hb hr (b2_nar _) (fun t ht hW => ⟨rfl, ht⟩) (fun q h => nomatch h) d_X_hasParts_22
  exact LP2 (10 + 1) 0 (by omega) (by omega) (fun j h => absurd h (Nat.not_lt_zero _)) ls (lv_sub hl [0, 1, 2] rfl)
set_option maxHeartbeats 4000000 in
set_option maxRecDepth 100000 in
theorem c_X_lackingKind (l : Launch) (dC : Nat → ClassId) (dI : Nat → Nat → Nat) (cI : ClassId) (q : Nat → Nat) (S : St) (t : Nat) (hI : Bd t S) (st kt : Nat) (hs : st < 8) (hk : kt < 5) : Met l y_X_lackingKind (.code y_X_lackingKind b_X_lackingKind 5 (some .int) :: bg) { frames := 3, cells := 0, slots := 0, locals := 69 } (pu_P (dC, dI) classes (wX q cI S) [(cI, .int)] [.ref (q 0), .int (nI st), .int (nI kt)]) (pu_Q (.int (o2 (lack S st kt)))) 0 0 (fun _ => False) := by
  refine Met.ofW (cc := b_X_lackingKind) (maxL := 5) (ret := (some .int)) (by decide) rfl ?_
  intro p e s m args below meth c s₁ B hml hv
  obtain ⟨rfl, hP, hK⟩ := hv
  have hx := B.exec
  have hb := B.bytes
  have hr := B.returns
  have hts := fun w (h : w ∈ bg) => atoms_spec (ws := .code y_X_lackingKind b_X_lackingKind 5 (some .int) :: bg) B.pre w (List.mem_cons_of_mem _ h)
  have hown : s.vm.findClass R_X = some m.cls := findClass_of_methodNamed B.named
  have hlocks := B.notSynchronized
  have hl := lv_entry ([.ref (q 0), .int (nI st), .int (nI kt)]) (n := 5) (Nat.le_of_ble_eq_true rfl)
  rw [lg_entry_eq]
  generalize (lg_sl ([.ref (q 0), .int (nI st), .int (nI kt)]) ++ List.replicate (5 - (lg_sl ([.ref (q 0), .int (nI st), .int (nI kt)])).length) Slot.unset).toArray = ls at hl ⊢
  have hl : lv_has ls 5 [(0, .ref (q 0)), (1, .int (nI st)), (2, .int (nI kt))] := hl
  have hB := hI.1
  have hg0 : S.2.1 0 ≤ 8 := hI.2.1 0
  have hg1 : S.2.1 1 ≤ 9999 := hI.2.1 1
  have hg2 : S.2.1 2 ≤ 60 := hI.2.1 2
  have hg3 : S.2.1 3 ≤ 60 := hI.2.1 3
  have hg4 : S.2.1 4 ≤ 80 := hI.2.1 4
  have hg5 : S.2.1 5 ≤ 20 := hI.2.1 5
  have hg6 : S.2.1 6 ≤ 80 := hI.2.1 6
  have hg7 : S.2.1 7 ≤ 10 := hI.2.1 7
  have hg8 : t ≤ 512 := hI.2.2
  refine lv_iconst (v := nI 0) hx hb d_X_lackingKind_0 (by decide) ?_
  refine lv_istore_n (lv' := [(3, .int (nI 0)), (0, .ref (q 0)), (1, .int (nI st)), (2, .int (nI kt))]) hx hb d_X_lackingKind_1 rfl hl (by decide) rfl (fun ls hl => ?_)
  have LP2 : ∀ (fu i : Nat), 10 - i < fu → i ≤ 10 → (∀ j, j < i → S.1 28 (kt * 10 + j) ≤ good S st j) → ∀ ls : Array Slot, lv_has ls 5 [(3, .int (nI i)), (0, .ref (q 0)), (1, .int (nI st)), (2, .int (nI kt))] → W p l e (headSpec (.code y_X_lackingKind b_X_lackingKind 5 (some .int) :: bg) { frames := 3, cells := 0, slots := 0, locals := 69 }).room s m (List.toArray [.ref (q 0), .int (nI st), .int (nI kt)]) below meth c s.heap [] 0 0 (MQ below (pu_Q (.int (o2 (lack S st kt)))) (List.toArray [.ref (q 0), .int (nI st), .int (nI kt)]) s 0 0 (fun _ => False)) (F0 m 2 ls []) := by
    intro fu
    induction fu with
    | zero => intro i h; exact absurd h (Nat.not_lt_zero _)
    | succ fu ih =>
      intro i hfu hi hh0 ls hl
      refine lv_iload_n hx hb d_X_lackingKind_2 rfl (lv_at hl 0 rfl) ?_
      refine lv_bipush (v := nI 10) hx hb d_X_lackingKind_3 (by decide) ?_
      refine nv_cge (tgt := 45) hx hb (by omega) (by omega) d_X_lackingKind_5 (by decide) (fun c5 => ?_) (fun c5 => ?_)
      · refine lv_iconst (v := (-1)) hx hb d_X_lackingKind_45 (by decide) ?_
        refine nv_as (o2 (lack S st kt)) (by rw [lack_none (fun j h => hh0 j (by omega))]; rfl) ?_
        exact W.iret hx hb hr (fun t ht hW => ⟨rfl, ht⟩) (fun q h => nomatch h) d_X_lackingKind_46
      · refine lv_aload_n hx hb d_X_lackingKind_8 rfl (lv_at hl 1 rfl) ?_
        refine va_get (D := (dC, dI)) (ci := 0) (v := .ref (q 10)) (C := R_X) (T := F_X) (N := 12) hx hb hts i_X hown hK hP 0 rfl rfl 9 (by decide) (hts _ wd_66) (fun _ h9 => h9) rfl d_X_lackingKind_9 ?_
        refine lv_iload_n hx hb d_X_lackingKind_12 rfl (lv_at hl 3 rfl) ?_
        refine lv_iload_n hx hb d_X_lackingKind_13 rfl (lv_at hl 0 rfl) ?_
        refine pu_go (va_runS (As := [.int (nI kt), .int (nI i)]) (rest := [.ref (q 10)]) ⟨hx, hb, hml, hown, hts⟩ (c_X_pair l dC dI kt i) (cwS 2 hts (gi_S wd_106 wd_107 wd_1 wd_108) rfl rfl rfl (by decide +kernel) ⟨Nat.le_of_ble_eq_true rfl, Nat.le_of_ble_eq_true rfl⟩) (pu_preS (hK.sub (tys' := []) [] rfl) (fun k q h => by simp at h)) rfl rfl hl.1 rfl (lv_room (Nat.le_of_ble_eq_true rfl)) d_X_lackingKind_14 ⟨Nat.le_of_ble_eq_true rfl, Nat.le_of_ble_eq_true rfl⟩) ?_
        refine nv_iald (v := nI (S.1 28 (kt * 10 + i))) hx hb hK hP 10 0 rfl rfl (by omega) (by decide) rfl d_X_lackingKind_17 ?_
        have hb17 : S.1 28 (kt * 10 + i) ≤ 20 := hB 28 _
        refine lv_istore (lv' := [(4, .int (nI (S.1 28 (kt * 10 + i)))), (3, .int (nI i)), (0, .ref (q 0)), (1, .int (nI st)), (2, .int (nI kt))]) hx hb d_X_lackingKind_18 hl (by decide) rfl (fun ls hl => ?_)
        refine lv_iload hx hb d_X_lackingKind_20 (lv_at hl 0 rfl) ?_
        refine nv_zle (tgt := 39) hx hb (by omega) d_X_lackingKind_22 (by decide) (fun c22 => ?_) (fun c22 => ?_)
        · refine lv_iinc (v := nI (i + 1)) (lv' := [(3, .int (nI (i + 1))), (4, .int (nI (S.1 28 (kt * 10 + i)))), (0, .ref (q 0)), (1, .int (nI st)), (2, .int (nI kt))]) hx hb d_X_lackingKind_39 hl (k := 1) rfl (nI_1 _) (by decide) rfl (fun ls hl => ?_)
          refine lv_goto (tgt := 2) hx hb d_X_lackingKind_42 (by decide) ?_
          exact ih (i + 1) (by omega) (by omega) (fun j h => by rcases Nat.lt_succ_iff_lt_or_eq.mp h with h | rfl; exact hh0 j h; omega) ls (lv_sub hl [0, 2, 3, 4] (rfl))
        · refine lv_aload_n hx hb d_X_lackingKind_25 rfl (lv_at hl 2 rfl) ?_
          refine lv_iload_n hx hb d_X_lackingKind_26 rfl (lv_at hl 3 rfl) ?_
          refine lv_iload_n hx hb d_X_lackingKind_27 rfl (lv_at hl 1 rfl) ?_
          refine lv_iconst (v := b2 true) hx hb d_X_lackingKind_28 (by decide) ?_
          refine pu_go (va_runV (As := [.int (nI st), .int (nI i), .int (b2 true)]) (rest := []) ⟨hx, hb, hml, hown, hts⟩ (c_X_inStore l dC dI cI q S t hI st i true (by omega) (by omega)) (cwV 3 hts (gi_V wd_113 wd_115 wp_1 wd_1 wd_116) rfl rfl rfl (by decide +kernel) ⟨Nat.le_of_ble_eq_true rfl, Nat.le_of_ble_eq_true rfl⟩) (pu_preV hK hP (ci := 0) (q0 := 0) rfl rfl) rfl rfl hl.1 rfl (lv_room (Nat.le_of_ble_eq_true rfl)) d_X_lackingKind_29 ⟨Nat.le_of_ble_eq_true rfl, Nat.le_of_ble_eq_true rfl⟩) ?_
          have hb1 := inst_le hI st i true
          refine lv_iload hx hb d_X_lackingKind_32 (lv_at hl 0 rfl) ?_
          refine nv_cge (tgt := 39) hx hb (by omega) (by omega) d_X_lackingKind_34 (by decide) (fun c34 => ?_) (fun c34 => ?_)
          · rw [inst_t] at c34
            refine lv_iinc (v := nI (i + 1)) (lv' := [(3, .int (nI (i + 1))), (4, .int (nI (S.1 28 (kt * 10 + i)))), (0, .ref (q 0)), (1, .int (nI st)), (2, .int (nI kt))]) hx hb d_X_lackingKind_39 hl (k := 1) rfl (nI_1 _) (by decide) rfl (fun ls hl => ?_)
            refine lv_goto (tgt := 2) hx hb d_X_lackingKind_42 (by decide) ?_
            exact ih (i + 1) (by omega) (by omega) (fun j h => by rcases Nat.lt_succ_iff_lt_or_eq.mp h with h | rfl; exact hh0 j h; omega) ls (lv_sub hl [0, 2, 3, 4] (rfl))
          · rw [inst_t] at c34
            refine lv_iload_n hx hb d_X_lackingKind_37 rfl (lv_at hl 1 rfl) ?_
            refine nv_as (o2 (lack S st kt)) (by rw [lack_some (by omega) c34 hh0]; rfl) ?_
            exact W.iret hx hb hr (fun t ht hW => ⟨rfl, ht⟩) (fun q h => nomatch h) d_X_lackingKind_38
  exact LP2 (10 + 1) 0 (by omega) (by omega) (fun j h => absurd h (Nat.not_lt_zero _)) ls (lv_sub hl [0, 1, 2, 3] rfl)
end
section
set_option maxHeartbeats 4000000 in
set_option maxRecDepth 100000 in
theorem c_H_isFull (l : Launch) (dC : Nat → ClassId) (dI : Nat → Nat → Nat) (cI : ClassId) (q : Nat → Nat) (S : St) (t : Nat) (hI : Bd t S)  : Met l y_H_isFull (.code y_H_isFull b_H_isFull 1 (some .boolean) :: bg) { frames := 0, cells := 0, slots := 0, locals := 0 } (pu_P (dC, dI) classes [(q 6, .inr (2, [.ref (q 16), .ref (q 17), .int (nI (S.2.1 7))])), (q 16, .inl (cI, 10, .inl (colf S.1 29))), (q 17, .inl (cI, 10, .inl (colf S.1 30)))] [(cI, .int)] [.ref (q 6)]) (pu_Q (.int (b2 (decide (10 ≤ S.2.1 7))))) 0 0 (fun _ => False) := by
  refine Met.ofW (cc := b_H_isFull) (maxL := 1) (ret := (some .boolean)) (by decide) rfl ?_
  intro p e s m args below meth c s₁ B hml hv
  obtain ⟨rfl, hP, hK⟩ := hv
  have hx := B.exec
  have hb := B.bytes
  have hr := B.returns
  have hts := fun w (h : w ∈ bg) => atoms_spec (ws := .code y_H_isFull b_H_isFull 1 (some .boolean) :: bg) B.pre w (List.mem_cons_of_mem _ h)
  have hown : s.vm.findClass R_H = some m.cls := findClass_of_methodNamed B.named
  have hlocks := B.notSynchronized
  have hl := lv_entry ([.ref (q 6)]) (n := 1) (Nat.le_of_ble_eq_true rfl)
  rw [lg_entry_eq]
  generalize (lg_sl ([.ref (q 6)]) ++ List.replicate (1 - (lg_sl ([.ref (q 6)])).length) Slot.unset).toArray = ls at hl ⊢
  have hl : lv_has ls 1 [(0, .ref (q 6))] := hl
  have hB := hI.1
  have hg0 : S.2.1 0 ≤ 8 := hI.2.1 0
  have hg1 : S.2.1 1 ≤ 9999 := hI.2.1 1
  have hg2 : S.2.1 2 ≤ 60 := hI.2.1 2
  have hg3 : S.2.1 3 ≤ 60 := hI.2.1 3
  have hg4 : S.2.1 4 ≤ 80 := hI.2.1 4
  have hg5 : S.2.1 5 ≤ 20 := hI.2.1 5
  have hg6 : S.2.1 6 ≤ 80 := hI.2.1 6
  have hg7 : S.2.1 7 ≤ 10 := hI.2.1 7
  have hg8 : t ≤ 512 := hI.2.2
  refine lv_aload_n hx hb d_H_isFull_0 rfl (lv_at hl 0 rfl) ?_
  refine va_get (D := (dC, dI)) (ci := 2) (v := .int (nI (S.2.1 7))) (C := R_H) (T := F_H) (N := 3) hx hb hts i_H hown hK hP 0 rfl rfl 2 (by decide) (hts _ wd_49) (fun _ h9 => h9) rfl d_H_isFull_1 ?_
  refine lv_bipush (v := nI 10) hx hb d_H_isFull_4 (by decide) ?_
  refine nv_clt (tgt := 13) hx hb (by omega) (by omega) d_H_isFull_6 (by decide) (fun c6 => ?_) (fun c6 => ?_)
  · refine lv_iconst (v := nI 0) hx hb d_H_isFull_13 (by decide) ?_
    refine nv_as (b2 (decide (10 ≤ S.2.1 7))) (by first | (rw [decide_eq_true (by omega)]; rfl) | (rw [decide_eq_false (by omega)]; rfl)) ?_
    exact W.zret hx hb hr (b2_nar _) (fun t ht hW => ⟨rfl, ht⟩) (fun q h => nomatch h) d_H_isFull_14
  · refine lv_iconst (v := nI 1) hx hb d_H_isFull_9 (by decide) ?_
    refine lv_goto (tgt := 14) hx hb d_H_isFull_10 (by decide) ?_
    refine nv_as (b2 (decide (10 ≤ S.2.1 7))) (by first | (rw [decide_eq_true (by omega)]; rfl) | (rw [decide_eq_false (by omega)]; rfl)) ?_
    exact W.zret hx hb hr (b2_nar _) (fun t ht hW => ⟨rfl, ht⟩) (fun q h => nomatch h) d_H_isFull_14
set_option maxHeartbeats 4000000 in
set_option maxRecDepth 100000 in
theorem c_H_isBelow (l : Launch) (dC : Nat → ClassId) (dI : Nat → Nat → Nat) (cI : ClassId) (q : Nat → Nat) (S : St) (t : Nat) (hI : Bd t S) (h v : Nat) (hh : h < 2 ^ 31) (hv0 : v < 2 ^ 31) : Met l y_H_isBelow (.code y_H_isBelow b_H_isBelow 3 (some .boolean) :: bg) { frames := 0, cells := 0, slots := 0, locals := 0 } (pu_P (dC, dI) classes [(q 6, .inr (2, [.ref (q 16), .ref (q 17), .int (nI (S.2.1 7))])), (q 16, .inl (cI, 10, .inl (colf S.1 29))), (q 17, .inl (cI, 10, .inl (colf S.1 30)))] [(cI, .int)] [.ref (q 6), .int (nI h), .int (nI v)]) (pu_Q (.int (b2 (decide (S.2.1 7 = 0 ∨ (S.1 29 (S.2.1 7 - 1) < h ∧ S.1 30 (S.2.1 7 - 1) < v)))))) 0 0 (fun _ => False) := by
  refine Met.ofW (cc := b_H_isBelow) (maxL := 3) (ret := (some .boolean)) (by decide) rfl ?_
  intro p e s m args below meth c s₁ B hml hv
  obtain ⟨rfl, hP, hK⟩ := hv
  have hx := B.exec
  have hb := B.bytes
  have hr := B.returns
  have hts := fun w (h : w ∈ bg) => atoms_spec (ws := .code y_H_isBelow b_H_isBelow 3 (some .boolean) :: bg) B.pre w (List.mem_cons_of_mem _ h)
  have hown : s.vm.findClass R_H = some m.cls := findClass_of_methodNamed B.named
  have hlocks := B.notSynchronized
  have hl := lv_entry ([.ref (q 6), .int (nI h), .int (nI v)]) (n := 3) (Nat.le_of_ble_eq_true rfl)
  rw [lg_entry_eq]
  generalize (lg_sl ([.ref (q 6), .int (nI h), .int (nI v)]) ++ List.replicate (3 - (lg_sl ([.ref (q 6), .int (nI h), .int (nI v)])).length) Slot.unset).toArray = ls at hl ⊢
  have hl : lv_has ls 3 [(0, .ref (q 6)), (1, .int (nI h)), (2, .int (nI v))] := hl
  have hB := hI.1
  have hg0 : S.2.1 0 ≤ 8 := hI.2.1 0
  have hg1 : S.2.1 1 ≤ 9999 := hI.2.1 1
  have hg2 : S.2.1 2 ≤ 60 := hI.2.1 2
  have hg3 : S.2.1 3 ≤ 60 := hI.2.1 3
  have hg4 : S.2.1 4 ≤ 80 := hI.2.1 4
  have hg5 : S.2.1 5 ≤ 20 := hI.2.1 5
  have hg6 : S.2.1 6 ≤ 80 := hI.2.1 6
  have hg7 : S.2.1 7 ≤ 10 := hI.2.1 7
  have hg8 : t ≤ 512 := hI.2.2
  refine lv_aload_n hx hb d_H_isBelow_0 rfl (lv_at hl 0 rfl) ?_
  refine va_get (D := (dC, dI)) (ci := 2) (v := .int (nI (S.2.1 7))) (C := R_H) (T := F_H) (N := 3) hx hb hts i_H hown hK hP 0 rfl rfl 2 (by decide) (hts _ wd_49) (fun _ h9 => h9) rfl d_H_isBelow_1 ?_
  refine nv_zeq (tgt := 37) hx hb (by omega) d_H_isBelow_4 (by decide) (fun c4 => ?_) (fun c4 => ?_)
  · refine lv_iconst (v := nI 1) hx hb d_H_isBelow_37 (by decide) ?_
    refine lv_goto (tgt := 42) hx hb d_H_isBelow_38 (by decide) ?_
    refine nv_as (b2 (decide (S.2.1 7 = 0 ∨ (S.1 29 (S.2.1 7 - 1) < h ∧ S.1 30 (S.2.1 7 - 1) < v)))) (by first | (rw [decide_eq_true (by omega)]; rfl) | (rw [decide_eq_false (by omega)]; rfl)) ?_
    exact W.zret hx hb hr (b2_nar _) (fun t ht hW => ⟨rfl, ht⟩) (fun q h => nomatch h) d_H_isBelow_42
  · refine lv_aload_n hx hb d_H_isBelow_7 rfl (lv_at hl 0 rfl) ?_
    refine va_get (D := (dC, dI)) (ci := 2) (v := .ref (q 16)) (C := R_H) (T := F_H) (N := 3) hx hb hts i_H hown hK hP 0 rfl rfl 0 (by decide) (hts _ wd_47) (fun _ h9 => h9) rfl d_H_isBelow_8 ?_
    refine lv_aload_n hx hb d_H_isBelow_11 rfl (lv_at hl 0 rfl) ?_
    refine va_get (D := (dC, dI)) (ci := 2) (v := .int (nI (S.2.1 7))) (C := R_H) (T := F_H) (N := 3) hx hb hts i_H hown hK hP 0 rfl rfl 2 (by decide) (hts _ wd_49) (fun _ h9 => h9) rfl d_H_isBelow_12 ?_
    refine lv_iconst (v := nI 1) hx hb d_H_isBelow_15 (by decide) ?_
    refine nv_sub hx hb (by omega) d_H_isBelow_16 ?_
    refine nv_iald (v := nI (S.1 29 ((S.2.1 7) - 1))) hx hb hK hP 1 0 rfl rfl (by omega) (by decide) rfl d_H_isBelow_17 ?_
    have hb17 : S.1 29 (S.2.1 7 - 1) ≤ 99999 := hB 29 _
    refine lv_iload_n hx hb d_H_isBelow_18 rfl (lv_at hl 1 rfl) ?_
    refine nv_cge (tgt := 41) hx hb (by omega) (by omega) d_H_isBelow_19 (by decide) (fun c19 => ?_) (fun c19 => ?_)
    · refine lv_iconst (v := nI 0) hx hb d_H_isBelow_41 (by decide) ?_
      refine nv_as (b2 (decide (S.2.1 7 = 0 ∨ (S.1 29 (S.2.1 7 - 1) < h ∧ S.1 30 (S.2.1 7 - 1) < v)))) (by first | (rw [decide_eq_true (by omega)]; rfl) | (rw [decide_eq_false (by omega)]; rfl)) ?_
      exact W.zret hx hb hr (b2_nar _) (fun t ht hW => ⟨rfl, ht⟩) (fun q h => nomatch h) d_H_isBelow_42
    · refine lv_aload_n hx hb d_H_isBelow_22 rfl (lv_at hl 0 rfl) ?_
      refine va_get (D := (dC, dI)) (ci := 2) (v := .ref (q 17)) (C := R_H) (T := F_H) (N := 3) hx hb hts i_H hown hK hP 0 rfl rfl 1 (by decide) (hts _ wd_48) (fun _ h9 => h9) rfl d_H_isBelow_23 ?_
      refine lv_aload_n hx hb d_H_isBelow_26 rfl (lv_at hl 0 rfl) ?_
      refine va_get (D := (dC, dI)) (ci := 2) (v := .int (nI (S.2.1 7))) (C := R_H) (T := F_H) (N := 3) hx hb hts i_H hown hK hP 0 rfl rfl 2 (by decide) (hts _ wd_49) (fun _ h9 => h9) rfl d_H_isBelow_27 ?_
      refine lv_iconst (v := nI 1) hx hb d_H_isBelow_30 (by decide) ?_
      refine nv_sub hx hb (by omega) d_H_isBelow_31 ?_
      refine nv_iald (v := nI (S.1 30 ((S.2.1 7) - 1))) hx hb hK hP 2 0 rfl rfl (by omega) (by decide) rfl d_H_isBelow_32 ?_
      have hb32 : S.1 30 (S.2.1 7 - 1) ≤ 99999 := hB 30 _
      refine lv_iload_n hx hb d_H_isBelow_33 rfl (lv_at hl 2 rfl) ?_
      refine nv_cge (tgt := 41) hx hb (by omega) (by omega) d_H_isBelow_34 (by decide) (fun c34 => ?_) (fun c34 => ?_)
      · refine lv_iconst (v := nI 0) hx hb d_H_isBelow_41 (by decide) ?_
        refine nv_as (b2 (decide (S.2.1 7 = 0 ∨ (S.1 29 (S.2.1 7 - 1) < h ∧ S.1 30 (S.2.1 7 - 1) < v)))) (by first | (rw [decide_eq_true (by omega)]; rfl) | (rw [decide_eq_false (by omega)]; rfl)) ?_
        exact W.zret hx hb hr (b2_nar _) (fun t ht hW => ⟨rfl, ht⟩) (fun q h => nomatch h) d_H_isBelow_42
      · refine lv_iconst (v := nI 1) hx hb d_H_isBelow_37 (by decide) ?_
        refine lv_goto (tgt := 42) hx hb d_H_isBelow_38 (by decide) ?_
        refine nv_as (b2 (decide (S.2.1 7 = 0 ∨ (S.1 29 (S.2.1 7 - 1) < h ∧ S.1 30 (S.2.1 7 - 1) < v)))) (by first | (rw [decide_eq_true (by omega)]; rfl) | (rw [decide_eq_false (by omega)]; rfl)) ?_
        exact W.zret hx hb hr (b2_nar _) (fun t ht hW => ⟨rfl, ht⟩) (fun q h => nomatch h) d_H_isBelow_42
set_option maxHeartbeats 4000000 in
set_option maxRecDepth 100000 in
theorem c_H_lastNotAbove (l : Launch) (dC : Nat → ClassId) (dI : Nat → Nat → Nat) (cI : ClassId) (q : Nat → Nat) (S : St) (t : Nat) (hI : Bd t S) (h : Nat) (hh : h < 2 ^ 31) : Met l y_H_lastNotAbove (.code y_H_lastNotAbove b_H_lastNotAbove 4 (some .int) :: bg) { frames := 0, cells := 0, slots := 0, locals := 0 } (pu_P (dC, dI) classes [(q 6, .inr (2, [.ref (q 16), .ref (q 17), .int (nI (S.2.1 7))])), (q 16, .inl (cI, 10, .inl (colf S.1 29))), (q 17, .inl (cI, 10, .inl (colf S.1 30)))] [(cI, .int)] [.ref (q 6), .int (nI h)]) (pu_Q (.int (o2 (lna S h (S.2.1 7))))) 0 0 (fun _ => False) := by
  refine Met.ofW (cc := b_H_lastNotAbove) (maxL := 4) (ret := (some .int)) (by decide) rfl ?_
  intro p e s m args below meth c s₁ B hml hv
  obtain ⟨rfl, hP, hK⟩ := hv
  have hx := B.exec
  have hb := B.bytes
  have hr := B.returns
  have hts := fun w (h : w ∈ bg) => atoms_spec (ws := .code y_H_lastNotAbove b_H_lastNotAbove 4 (some .int) :: bg) B.pre w (List.mem_cons_of_mem _ h)
  have hown : s.vm.findClass R_H = some m.cls := findClass_of_methodNamed B.named
  have hlocks := B.notSynchronized
  have hl := lv_entry ([.ref (q 6), .int (nI h)]) (n := 4) (Nat.le_of_ble_eq_true rfl)
  rw [lg_entry_eq]
  generalize (lg_sl ([.ref (q 6), .int (nI h)]) ++ List.replicate (4 - (lg_sl ([.ref (q 6), .int (nI h)])).length) Slot.unset).toArray = ls at hl ⊢
  have hl : lv_has ls 4 [(0, .ref (q 6)), (1, .int (nI h))] := hl
  have hB := hI.1
  have hg0 : S.2.1 0 ≤ 8 := hI.2.1 0
  have hg1 : S.2.1 1 ≤ 9999 := hI.2.1 1
  have hg2 : S.2.1 2 ≤ 60 := hI.2.1 2
  have hg3 : S.2.1 3 ≤ 60 := hI.2.1 3
  have hg4 : S.2.1 4 ≤ 80 := hI.2.1 4
  have hg5 : S.2.1 5 ≤ 20 := hI.2.1 5
  have hg6 : S.2.1 6 ≤ 80 := hI.2.1 6
  have hg7 : S.2.1 7 ≤ 10 := hI.2.1 7
  have hg8 : t ≤ 512 := hI.2.2
  refine lv_iconst (v := (-1)) hx hb d_H_lastNotAbove_0 (by decide) ?_
  refine lv_istore_n (lv' := [(2, .int (-1)), (0, .ref (q 6)), (1, .int (nI h))]) hx hb d_H_lastNotAbove_1 rfl hl (by decide) rfl (fun ls hl => ?_)
  refine lv_iconst (v := nI 0) hx hb d_H_lastNotAbove_2 (by decide) ?_
  refine lv_istore_n (lv' := [(3, .int (nI 0)), (2, .int (-1)), (0, .ref (q 6)), (1, .int (nI h))]) hx hb d_H_lastNotAbove_3 rfl hl (by decide) rfl (fun ls hl => ?_)
  have LP4 : ∀ (fu i : Nat), S.2.1 7 - i < fu → i ≤ S.2.1 7 → ∀ ls : Array Slot, lv_has ls 4 [(3, .int (nI i)), (2, .int (o2 (lna S h i))), (0, .ref (q 6)), (1, .int (nI h))] → W p l e (headSpec (.code y_H_lastNotAbove b_H_lastNotAbove 4 (some .int) :: bg) { frames := 0, cells := 0, slots := 0, locals := 0 }).room s m (List.toArray [.ref (q 6), .int (nI h)]) below meth c s.heap [] 0 0 (MQ below (pu_Q (.int (o2 (lna S h (S.2.1 7))))) (List.toArray [.ref (q 6), .int (nI h)]) s 0 0 (fun _ => False)) (F0 m 4 ls []) := by
    intro fu
    induction fu with
    | zero => intro i h; exact absurd h (Nat.not_lt_zero _)
    | succ fu ih =>
      intro i hfu hi ls hl
      refine lv_iload_n hx hb d_H_lastNotAbove_4 rfl (lv_at hl 0 rfl) ?_
      refine lv_aload_n hx hb d_H_lastNotAbove_5 rfl (lv_at hl 2 rfl) ?_
      refine va_get (D := (dC, dI)) (ci := 2) (v := .int (nI (S.2.1 7))) (C := R_H) (T := F_H) (N := 3) hx hb hts i_H hown hK hP 0 rfl rfl 2 (by decide) (hts _ wd_49) (fun _ h9 => h9) rfl d_H_lastNotAbove_6 ?_
      refine nv_cge (tgt := 30) hx hb (by omega) (by omega) d_H_lastNotAbove_9 (by decide) (fun c9 => ?_) (fun c9 => ?_)
      · obtain rfl : i = S.2.1 7 := by omega
        refine lv_iload_n hx hb d_H_lastNotAbove_30 rfl (lv_at hl 1 rfl) ?_
        refine nv_as (o2 (lna S h (S.2.1 7))) (by rfl) ?_
        exact W.iret hx hb hr (fun t ht hW => ⟨rfl, ht⟩) (fun q h => nomatch h) d_H_lastNotAbove_31
      · refine lv_aload_n hx hb d_H_lastNotAbove_12 rfl (lv_at hl 2 rfl) ?_
        refine va_get (D := (dC, dI)) (ci := 2) (v := .ref (q 16)) (C := R_H) (T := F_H) (N := 3) hx hb hts i_H hown hK hP 0 rfl rfl 0 (by decide) (hts _ wd_47) (fun _ h9 => h9) rfl d_H_lastNotAbove_13 ?_
        refine lv_iload_n hx hb d_H_lastNotAbove_16 rfl (lv_at hl 0 rfl) ?_
        refine nv_iald (v := nI (S.1 29 i)) hx hb hK hP 1 0 rfl rfl (by omega) (by decide) rfl d_H_lastNotAbove_17 ?_
        have hb17 : S.1 29 i ≤ 99999 := hB 29 _
        refine lv_iload_n hx hb d_H_lastNotAbove_18 rfl (lv_at hl 3 rfl) ?_
        refine nv_cgt (tgt := 24) hx hb (by omega) (by omega) d_H_lastNotAbove_19 (by decide) (fun c19 => ?_) (fun c19 => ?_)
        · refine lv_iinc (v := nI (i + 1)) (lv' := [(3, .int (nI (i + 1))), (2, .int (o2 (lna S h i))), (0, .ref (q 6)), (1, .int (nI h))]) hx hb d_H_lastNotAbove_24 hl (k := 0) rfl (nI_1 _) (by decide) rfl (fun ls hl => ?_)
          refine lv_goto (tgt := 4) hx hb d_H_lastNotAbove_27 (by decide) ?_
          exact ih (i + 1) (by omega) (by omega) ls (lv_sub hl [0, 1, 2, 3] (by rw [lna_n c19]; rfl))
        · refine lv_iload_n hx hb d_H_lastNotAbove_22 rfl (lv_at hl 0 rfl) ?_
          refine lv_istore_n (lv' := [(2, .int (nI i)), (3, .int (nI i)), (0, .ref (q 6)), (1, .int (nI h))]) hx hb d_H_lastNotAbove_23 rfl hl (by decide) rfl (fun ls hl => ?_)
          refine lv_iinc (v := nI (i + 1)) (lv' := [(3, .int (nI (i + 1))), (2, .int (nI i)), (0, .ref (q 6)), (1, .int (nI h))]) hx hb d_H_lastNotAbove_24 hl (k := 1) rfl (nI_1 _) (by decide) rfl (fun ls hl => ?_)
          refine lv_goto (tgt := 4) hx hb d_H_lastNotAbove_27 (by decide) ?_
          exact ih (i + 1) (by omega) (by omega) ls (lv_sub hl [0, 1, 2, 3] (by rw [lna_y c19]; rfl))
  exact LP4 (S.2.1 7 + 1) 0 (by omega) (by omega) ls (lv_sub hl [0, 1, 2, 3] rfl)
set_option maxHeartbeats 4000000 in
set_option maxRecDepth 100000 in
theorem c_H_litresBetween (l : Launch) (dC : Nat → ClassId) (dI : Nat → Nat → Nat) (cI : ClassId) (q : Nat → Nat) (S : St) (t : Nat) (hI : Bd t S) (b h : Nat) (hb0 : b + 1 < S.2.1 7) (h1 : S.1 29 b < S.1 29 (b + 1)) (h2 : S.1 30 b < S.1 30 (b + 1)) (h3 : S.1 29 b ≤ h) (hh : h ≤ 99999) : Met l y_H_litresBetween (.code y_H_litresBetween b_H_litresBetween 7 (some .int) :: bg) { frames := 0, cells := 0, slots := 0, locals := 0 } (pu_P (dC, dI) classes [(q 6, .inr (2, [.ref (q 16), .ref (q 17), .int (nI (S.2.1 7))])), (q 16, .inl (cI, 10, .inl (colf S.1 29))), (q 17, .inl (cI, 10, .inl (colf S.1 30)))] [(cI, .int)] [.ref (q 6), .int (nI b), .int (nI (b + 1)), .int (nI h)]) (pu_Q (.int (nI (S.1 30 b + (S.1 30 (b + 1) - S.1 30 b) * (h - S.1 29 b) / (S.1 29 (b + 1) - S.1 29 b))))) 0 0 (fun _ => False) := by
  refine Met.ofW (cc := b_H_litresBetween) (maxL := 7) (ret := (some .int)) (by decide) rfl ?_
  intro p e s m args below meth c s₁ B hml hv
  obtain ⟨rfl, hP, hK⟩ := hv
  have hx := B.exec
  have hb := B.bytes
  have hr := B.returns
  have hts := fun w (h : w ∈ bg) => atoms_spec (ws := .code y_H_litresBetween b_H_litresBetween 7 (some .int) :: bg) B.pre w (List.mem_cons_of_mem _ h)
  have hown : s.vm.findClass R_H = some m.cls := findClass_of_methodNamed B.named
  have hlocks := B.notSynchronized
  have hl := lv_entry ([.ref (q 6), .int (nI b), .int (nI (b + 1)), .int (nI h)]) (n := 7) (Nat.le_of_ble_eq_true rfl)
  rw [lg_entry_eq]
  generalize (lg_sl ([.ref (q 6), .int (nI b), .int (nI (b + 1)), .int (nI h)]) ++ List.replicate (7 - (lg_sl ([.ref (q 6), .int (nI b), .int (nI (b + 1)), .int (nI h)])).length) Slot.unset).toArray = ls at hl ⊢
  have hl : lv_has ls 7 [(0, .ref (q 6)), (1, .int (nI b)), (2, .int (nI (b + 1))), (3, .int (nI h))] := hl
  have hB := hI.1
  have hg0 : S.2.1 0 ≤ 8 := hI.2.1 0
  have hg1 : S.2.1 1 ≤ 9999 := hI.2.1 1
  have hg2 : S.2.1 2 ≤ 60 := hI.2.1 2
  have hg3 : S.2.1 3 ≤ 60 := hI.2.1 3
  have hg4 : S.2.1 4 ≤ 80 := hI.2.1 4
  have hg5 : S.2.1 5 ≤ 20 := hI.2.1 5
  have hg6 : S.2.1 6 ≤ 80 := hI.2.1 6
  have hg7 : S.2.1 7 ≤ 10 := hI.2.1 7
  have hg8 : t ≤ 512 := hI.2.2
  refine lv_aload_n hx hb d_H_litresBetween_0 rfl (lv_at hl 0 rfl) ?_
  refine va_get (D := (dC, dI)) (ci := 2) (v := .ref (q 16)) (C := R_H) (T := F_H) (N := 3) hx hb hts i_H hown hK hP 0 rfl rfl 0 (by decide) (hts _ wd_47) (fun _ h9 => h9) rfl d_H_litresBetween_1 ?_
  refine lv_iload_n hx hb d_H_litresBetween_4 rfl (lv_at hl 2 rfl) ?_
  refine nv_iald (v := nI (S.1 29 (b + 1))) hx hb hK hP 1 0 rfl rfl (by omega) (by decide) rfl d_H_litresBetween_5 ?_
  have hb5 : S.1 29 (b + 1) ≤ 99999 := hB 29 _
  refine lv_aload_n hx hb d_H_litresBetween_6 rfl (lv_at hl 0 rfl) ?_
  refine va_get (D := (dC, dI)) (ci := 2) (v := .ref (q 16)) (C := R_H) (T := F_H) (N := 3) hx hb hts i_H hown hK hP 0 rfl rfl 0 (by decide) (hts _ wd_47) (fun _ h9 => h9) rfl d_H_litresBetween_7 ?_
  refine lv_iload_n hx hb d_H_litresBetween_10 rfl (lv_at hl 1 rfl) ?_
  refine nv_iald (v := nI (S.1 29 b)) hx hb hK hP 1 0 rfl rfl (by omega) (by decide) rfl d_H_litresBetween_11 ?_
  refine nv_sub hx hb (by omega) d_H_litresBetween_12 ?_
  refine lv_istore (lv' := [(4, .int (nI ((S.1 29 (b + 1)) - (S.1 29 b)))), (0, .ref (q 6)), (1, .int (nI b)), (2, .int (nI (b + 1))), (3, .int (nI h))]) hx hb d_H_litresBetween_13 hl (by decide) rfl (fun ls hl => ?_)
  refine lv_iload hx hb d_H_litresBetween_15 (lv_at hl 0 rfl) ?_
  refine nv_zgt (tgt := 27) hx hb (by omega) d_H_litresBetween_17 (by decide) (fun c17 => ?_) (fun c17 => ?_)
  · refine lv_aload_n hx hb d_H_litresBetween_27 rfl (lv_at hl 1 rfl) ?_
    refine va_get (D := (dC, dI)) (ci := 2) (v := .ref (q 17)) (C := R_H) (T := F_H) (N := 3) hx hb hts i_H hown hK hP 0 rfl rfl 1 (by decide) (hts _ wd_48) (fun _ h9 => h9) rfl d_H_litresBetween_28 ?_
    refine lv_iload_n hx hb d_H_litresBetween_31 rfl (lv_at hl 3 rfl) ?_
    refine nv_iald (v := nI (S.1 30 (b + 1))) hx hb hK hP 2 0 rfl rfl (by omega) (by decide) rfl d_H_litresBetween_32 ?_
    have hb32 : S.1 30 (b + 1) ≤ 99999 := hB 30 _
    refine lv_aload_n hx hb d_H_litresBetween_33 rfl (lv_at hl 1 rfl) ?_
    refine va_get (D := (dC, dI)) (ci := 2) (v := .ref (q 17)) (C := R_H) (T := F_H) (N := 3) hx hb hts i_H hown hK hP 0 rfl rfl 1 (by decide) (hts _ wd_48) (fun _ h9 => h9) rfl d_H_litresBetween_34 ?_
    refine lv_iload_n hx hb d_H_litresBetween_37 rfl (lv_at hl 2 rfl) ?_
    refine nv_iald (v := nI (S.1 30 b)) hx hb hK hP 2 0 rfl rfl (by omega) (by decide) rfl d_H_litresBetween_38 ?_
    refine nv_sub hx hb (by omega) d_H_litresBetween_39 ?_
    refine lv_i2l (v := lN ((S.1 30 (b + 1)) - (S.1 30 b))) hx hb d_H_litresBetween_40 (nI_l (by omega)) ?_
    refine lv_iload_n hx hb d_H_litresBetween_41 rfl (lv_at hl 4 rfl) ?_
    refine lv_aload_n hx hb d_H_litresBetween_42 rfl (lv_at hl 1 rfl) ?_
    refine va_get (D := (dC, dI)) (ci := 2) (v := .ref (q 16)) (C := R_H) (T := F_H) (N := 3) hx hb hts i_H hown hK hP 0 rfl rfl 0 (by decide) (hts _ wd_47) (fun _ h9 => h9) rfl d_H_litresBetween_43 ?_
    refine lv_iload_n hx hb d_H_litresBetween_46 rfl (lv_at hl 2 rfl) ?_
    refine nv_iald (v := nI (S.1 29 b)) hx hb hK hP 1 0 rfl rfl (by omega) (by decide) rfl d_H_litresBetween_47 ?_
    refine nv_sub hx hb (by omega) d_H_litresBetween_48 ?_
    refine lv_i2l (v := lN (h - (S.1 29 b))) hx hb d_H_litresBetween_49 (nI_l (by omega)) ?_
    refine nv_lmul hx hb d_H_litresBetween_50 ?_
    refine lv_iload hx hb d_H_litresBetween_51 (lv_at hl 0 rfl) ?_
    refine lv_i2l (v := lN ((S.1 29 (b + 1)) - (S.1 29 b))) hx hb d_H_litresBetween_53 (nI_l (by omega)) ?_
    refine nv_ldiv hx hb (Nat.lt_of_le_of_lt (Nat.mul_le_mul (show _ ≤ 99999 by omega) (show _ ≤ 99999 by omega)) (by decide)) (by omega) (by omega) d_H_litresBetween_54 ?_
    refine lv_lstore (lv' := [(5, .long (lN ((((S.1 30 (b + 1)) - (S.1 30 b)) * (h - (S.1 29 b))) / ((S.1 29 (b + 1)) - (S.1 29 b))))), (4, .int (nI ((S.1 29 (b + 1)) - (S.1 29 b)))), (0, .ref (q 6)), (1, .int (nI b)), (2, .int (nI (b + 1))), (3, .int (nI h))]) hx hb d_H_litresBetween_55 hl (by decide) rfl (fun ls hl => ?_)
    refine lv_aload_n hx hb d_H_litresBetween_57 rfl (lv_at hl 2 rfl) ?_
    refine va_get (D := (dC, dI)) (ci := 2) (v := .ref (q 17)) (C := R_H) (T := F_H) (N := 3) hx hb hts i_H hown hK hP 0 rfl rfl 1 (by decide) (hts _ wd_48) (fun _ h9 => h9) rfl d_H_litresBetween_58 ?_
    refine lv_iload_n hx hb d_H_litresBetween_61 rfl (lv_at hl 3 rfl) ?_
    refine nv_iald (v := nI (S.1 30 b)) hx hb hK hP 2 0 rfl rfl (by omega) (by decide) rfl d_H_litresBetween_62 ?_
    refine lv_lload hx hb d_H_litresBetween_63 (lv_at hl 0 rfl) ?_
    refine lv_l2i (v := nI ((((S.1 30 (b + 1)) - (S.1 30 b)) * (h - (S.1 29 b))) / ((S.1 29 (b + 1)) - (S.1 29 b)))) hx hb d_H_litresBetween_65 (lN_i _) ?_
    refine nv_add hx hb d_H_litresBetween_66 ?_
    refine nv_as (nI (S.1 30 b + (S.1 30 (b + 1) - S.1 30 b) * (h - S.1 29 b) / (S.1 29 (b + 1) - S.1 29 b))) (by rfl) ?_
    exact W.iret hx hb hr (fun t ht hW => ⟨rfl, ht⟩) (fun q h => nomatch h) d_H_litresBetween_67
  · exact absurd c17 (by omega)
set_option maxHeartbeats 4000000 in
set_option maxRecDepth 100000 in
theorem c_H_litresAt (l : Launch) (dC : Nat → ClassId) (dI : Nat → Nat → Nat) (cI : ClassId) (q : Nat → Nat) (S : St) (t : Nat) (hI : Bd t S) (h : Nat) (hh : h ≤ 99999) (hso : ∀ b, b + 1 < S.2.1 7 → S.1 29 b < S.1 29 (b + 1) ∧ S.1 30 b < S.1 30 (b + 1)) : Met l y_H_litresAt (.code y_H_litresAt b_H_litresAt 3 (some .int) :: bg) { frames := 1, cells := 0, slots := 0, locals := 26 } (pu_P (dC, dI) classes [(q 6, .inr (2, [.ref (q 16), .ref (q 17), .int (nI (S.2.1 7))])), (q 16, .inl (cI, 10, .inl (colf S.1 29))), (q 17, .inl (cI, 10, .inl (colf S.1 30)))] [(cI, .int)] [.ref (q 6), .int (nI h)]) (pu_Q (.int (dipv S h))) 0 0 (fun _ => False) := by
  refine Met.ofW (cc := b_H_litresAt) (maxL := 3) (ret := (some .int)) (by decide) rfl ?_
  intro p e s m args below meth c s₁ B hml hv
  obtain ⟨rfl, hP, hK⟩ := hv
  have hx := B.exec
  have hb := B.bytes
  have hr := B.returns
  have hts := fun w (h : w ∈ bg) => atoms_spec (ws := .code y_H_litresAt b_H_litresAt 3 (some .int) :: bg) B.pre w (List.mem_cons_of_mem _ h)
  have hown : s.vm.findClass R_H = some m.cls := findClass_of_methodNamed B.named
  have hlocks := B.notSynchronized
  have hl := lv_entry ([.ref (q 6), .int (nI h)]) (n := 3) (Nat.le_of_ble_eq_true rfl)
  rw [lg_entry_eq]
  generalize (lg_sl ([.ref (q 6), .int (nI h)]) ++ List.replicate (3 - (lg_sl ([.ref (q 6), .int (nI h)])).length) Slot.unset).toArray = ls at hl ⊢
  have hl : lv_has ls 3 [(0, .ref (q 6)), (1, .int (nI h))] := hl
  have hB := hI.1
  have hg0 : S.2.1 0 ≤ 8 := hI.2.1 0
  have hg1 : S.2.1 1 ≤ 9999 := hI.2.1 1
  have hg2 : S.2.1 2 ≤ 60 := hI.2.1 2
  have hg3 : S.2.1 3 ≤ 60 := hI.2.1 3
  have hg4 : S.2.1 4 ≤ 80 := hI.2.1 4
  have hg5 : S.2.1 5 ≤ 20 := hI.2.1 5
  have hg6 : S.2.1 6 ≤ 80 := hI.2.1 6
  have hg7 : S.2.1 7 ≤ 10 := hI.2.1 7
  have hg8 : t ≤ 512 := hI.2.2
  refine lv_aload_n hx hb d_H_litresAt_0 rfl (lv_at hl 0 rfl) ?_
  refine lv_iload_n hx hb d_H_litresAt_1 rfl (lv_at hl 1 rfl) ?_
  refine pu_go (va_runV (As := [.int (nI h)]) (rest := []) ⟨hx, hb, hml, hown, hts⟩ (c_H_lastNotAbove l dC dI cI q S t hI h (by omega)) (cwV 1 hts (gi_V wd_534 wd_536 wp_20 wd_4 wd_537) rfl rfl rfl (by decide +kernel) ⟨Nat.le_of_ble_eq_true rfl, Nat.le_of_ble_eq_true rfl⟩) (pu_preV hK hP (ci := 2) (q0 := 0) rfl rfl) rfl rfl hl.1 rfl (lv_room (Nat.le_of_ble_eq_true rfl)) d_H_litresAt_2 ⟨Nat.le_of_ble_eq_true rfl, Nat.le_of_ble_eq_true rfl⟩) ?_
  refine lv_istore_n (lv' := [(2, .int (o2 (lna S h (S.2.1 7)))), (0, .ref (q 6)), (1, .int (nI h))]) hx hb d_H_litresAt_5 rfl hl (by decide) rfl (fun ls hl => ?_)
  refine lv_iload_n hx hb d_H_litresAt_6 rfl (lv_at hl 0 rfl) ?_
  refine lv_if_ge (tgt := 12) hx hb d_H_litresAt_7 (by decide) (fun c7 => ?_) (fun c7 => ?_)
  · obtain ⟨b, hbb⟩ := o2_some (Int32.not_lt.mpr c7)
    have hlb := (lna_lt hbb).1
    have hl : lv_has ls 3 [(2, .int (nI b)), (0, .ref (q 6)), (1, .int (nI h))] := by rw [hbb] at hl; exact hl
    refine lv_aload_n hx hb d_H_litresAt_12 rfl (lv_at hl 1 rfl) ?_
    refine va_get (D := (dC, dI)) (ci := 2) (v := .ref (q 16)) (C := R_H) (T := F_H) (N := 3) hx hb hts i_H hown hK hP 0 rfl rfl 0 (by decide) (hts _ wd_47) (fun _ h9 => h9) rfl d_H_litresAt_13 ?_
    refine lv_iload_n hx hb d_H_litresAt_16 rfl (lv_at hl 0 rfl) ?_
    refine nv_iald (v := nI (S.1 29 b)) hx hb hK hP 1 0 rfl rfl (by omega) (by decide) rfl d_H_litresAt_17 ?_
    have hb17 : S.1 29 b ≤ 99999 := hB 29 _
    refine lv_iload_n hx hb d_H_litresAt_18 rfl (lv_at hl 2 rfl) ?_
    refine nv_cne (tgt := 29) hx hb (by omega) (by omega) d_H_litresAt_19 (by decide) (fun c19 => ?_) (fun c19 => ?_)
    · refine lv_iload_n hx hb d_H_litresAt_29 rfl (lv_at hl 0 rfl) ?_
      refine lv_iconst (v := nI 1) hx hb d_H_litresAt_30 (by decide) ?_
      refine nv_add hx hb d_H_litresAt_31 ?_
      refine lv_aload_n hx hb d_H_litresAt_32 rfl (lv_at hl 1 rfl) ?_
      refine va_get (D := (dC, dI)) (ci := 2) (v := .int (nI (S.2.1 7))) (C := R_H) (T := F_H) (N := 3) hx hb hts i_H hown hK hP 0 rfl rfl 2 (by decide) (hts _ wd_49) (fun _ h9 => h9) rfl d_H_litresAt_33 ?_
      refine nv_cge (tgt := 51) hx hb (by omega) (by omega) d_H_litresAt_36 (by decide) (fun c36 => ?_) (fun c36 => ?_)
      · refine lv_iconst (v := (-1)) hx hb d_H_litresAt_51 (by decide) ?_
        refine nv_as (dipv S h) (by unfold dipv; rw [hbb]; simp only [c19, if_false, Nat.not_lt.mpr c36]) ?_
        exact W.iret hx hb hr (fun t ht hW => ⟨rfl, ht⟩) (fun q h => nomatch h) d_H_litresAt_52
      · refine lv_aload_n hx hb d_H_litresAt_39 rfl (lv_at hl 1 rfl) ?_
        refine lv_iload_n hx hb d_H_litresAt_40 rfl (lv_at hl 0 rfl) ?_
        refine lv_iload_n hx hb d_H_litresAt_41 rfl (lv_at hl 0 rfl) ?_
        refine lv_iconst (v := nI 1) hx hb d_H_litresAt_42 (by decide) ?_
        refine nv_add hx hb d_H_litresAt_43 ?_
        refine lv_iload_n hx hb d_H_litresAt_44 rfl (lv_at hl 2 rfl) ?_
        refine pu_go (va_runV (As := [.int (nI b), .int (nI (b + 1)), .int (nI h)]) (rest := []) ⟨hx, hb, hml, hown, hts⟩ (c_H_litresBetween l dC dI cI q S t hI b h (by omega) (hso b (by omega)).1 (hso b (by omega)).2 (lna_lt hbb).2 hh) (cwV 3 hts (gi_V wd_538 wd_540 wp_21 wd_4 wd_541) rfl rfl rfl (by decide +kernel) ⟨Nat.le_of_ble_eq_true rfl, Nat.le_of_ble_eq_true rfl⟩) (pu_preV hK hP (ci := 2) (q0 := 0) rfl rfl) rfl rfl hl.1 rfl (lv_room (Nat.le_of_ble_eq_true rfl)) d_H_litresAt_45 ⟨Nat.le_of_ble_eq_true rfl, Nat.le_of_ble_eq_true rfl⟩) ?_
        refine lv_goto (tgt := 52) hx hb d_H_litresAt_48 (by decide) ?_
        refine nv_as (dipv S h) (by unfold dipv; rw [hbb]; simp only [c19, if_false, c36, if_true]) ?_
        exact W.iret hx hb hr (fun t ht hW => ⟨rfl, ht⟩) (fun q h => nomatch h) d_H_litresAt_52
    · refine lv_aload_n hx hb d_H_litresAt_22 rfl (lv_at hl 1 rfl) ?_
      refine va_get (D := (dC, dI)) (ci := 2) (v := .ref (q 17)) (C := R_H) (T := F_H) (N := 3) hx hb hts i_H hown hK hP 0 rfl rfl 1 (by decide) (hts _ wd_48) (fun _ h9 => h9) rfl d_H_litresAt_23 ?_
      refine lv_iload_n hx hb d_H_litresAt_26 rfl (lv_at hl 0 rfl) ?_
      refine nv_iald (v := nI (S.1 30 b)) hx hb hK hP 2 0 rfl rfl (by omega) (by decide) rfl d_H_litresAt_27 ?_
      refine nv_as (dipv S h) (by unfold dipv; rw [hbb]; simp only [c19, if_true]) ?_
      exact W.iret hx hb hr (fun t ht hW => ⟨rfl, ht⟩) (fun q h => nomatch h) d_H_litresAt_28
  · refine lv_iconst (v := (-1)) hx hb d_H_litresAt_10 (by decide) ?_
    refine nv_as (dipv S h) (by unfold dipv; rw [o2_none (Int32.not_le.mp c7) (fun b hb => by have := (lna_lt hb).1; omega)]) ?_
    exact W.iret hx hb hr (fun t ht hW => ⟨rfl, ht⟩) (fun q h => nomatch h) d_H_litresAt_11
end
section
/-! WHAT A THROW ASKS FOR beside the words in the list: two static fields of Throwable, some words that want care, the constants' texts. -/
def hard : Cond → Bool
  | .declares _ => true
  | .castable .. => true
  | .methodLinkNest .. => true
  | _ => false
def gG (A : Nat → Prop) (U : State) (H : Heap) : Prop := vx_Zq Bundle.tN "UNASSIGNED_STACK" Bundle.steD A U H ∧ vx_Zq Bundle.tN "SUPPRESSED_SENTINEL" Bundle.listD A U H ∧ (∀ w ∈ tables_1, hard w = true → va_Nw w U) ∧ ∀ k tx, Cond.stringRef R_X k tx ∈ tables_1 → ∃ a, vk_R R_X k tx a U
theorem hard_warm {w : Cond} (hw : hard w = true) {s U : State} (hW : s.WarmedH U.vm) (h : va_Nw w s) : va_Nw w U := by
  cases w <;> first | exact va_Nw.warmD hW h | exact va_Nw.warmC hW h | exact va_Nw.warmM hW h | (simp [hard] at hw)
theorem hard_same {w : Cond} (hw : hard w = true) {s U : State} (hv : s.vm = U.vm) (h : va_Nw w s) : va_Nw w U := by
  cases w <;> first | exact va_Nw.same rfl hv h | (simp [hard] at hw)
theorem hard_use {w : Cond} (hw : hard w = true) {A : Array Value} {U : State} (h : va_Nw w U) : w.before A U = true := by
  cases w <;> first | exact va_Nw.use rfl h | (simp [hard] at hw)
theorem gG_at {A : Nat → Prop} {s U : State} {H : Heap} (h : gG A s H) (hU : U.heap = H) (hW : s.WarmedH U.vm) : gG A U U.heap := by
  rw [hU]
  exact ⟨vx_Zq.moved hW.alike h.1, vx_Zq.moved hW.alike h.2.1, fun w hw hh => hard_warm hh hW (h.2.2.1 w hw hh), fun k tx hk => by
    obtain ⟨a, ha⟩ := h.2.2.2 k tx hk
    exact ⟨a, vk_R.warm hW ha⟩⟩
theorem gG_call {A : Nat → Prop} {U : State} {g : JFrame} {mk : MethodId} {a : Array Value} (h : gG A U U.heap) : gG A (U.calling g mk a) (U.calling g mk a).heap :=
  ⟨vx_Zq.moved (u := U) (U := U.calling g mk a) (Vm.Alike.refl U.vm) h.1, vx_Zq.moved (u := U) (U := U.calling g mk a) (Vm.Alike.refl U.vm) h.2.1, fun w hw hh => hard_same (s := U) (U := U.calling g mk a) hh rfl (h.2.2.1 w hw hh), fun k tx hk => by
    obtain ⟨a, ha⟩ := h.2.2.2 k tx hk
    exact ⟨a, vk_R.same rfl ha⟩⟩
def nd_P (D : va_G) (cl : List vw_C) (ws : va_W) (tys : List (ClassId × FieldType)) (A : Nat → Prop) (av : List Value) : Array Value → State → Prop := va_Pc av (fun U => va_P D cl ws U.heap ∧ va_K D cl tys U ∧ gG A U U.heap)
theorem nd_blind {D : va_G} {cl : List vw_C} {ws : va_W} {tys : List (ClassId × FieldType)} {A : Nat → Prop} {av : List Value} : FrameBlind (nd_P D cl ws tys A av) := fun a U g mk q => by
  obtain ⟨q0, qP, qK, qG⟩ := q
  exact ⟨q0, qP, va_K.moved (u := U) (U := U.calling g mk a) (Vm.Alike.refl U.vm) qK, gG_call qG⟩
/-- a method that only looks: it comes back where P holds -/
def nd_Q (P : Prop) : Array Value → State → Outcome → State → Prop := fun _ st o t => P ∧ o = .returned none ∧ t.heap = st.heap
/-- else it throws an E -/
def nd_X (P : Prop) (E : String) : String → State → State → Prop := fun E' st t => ¬ P ∧ E' = E ∧ st.heap.size ≤ t.heap.size ∧ ∀ z : Nat, z < st.heap.size → t.heap[z]? = st.heap[z]?
abbrev sup2 : List String := ["java/lang/RuntimeException", "java/lang/Exception"]
def exOk (E : String) (ik ic : Nat) : Prop := Bundle.fit E = true ∧ Cond.classLink R_X ik E ∈ bg ∧ Cond.initialized E ∈ bg ∧ (∀ w ∈ (vx_atS R_X ic E sup2).filter goodWord, w ∈ bg) ∧ (∀ w ∈ (vx_atS R_X ic E sup2).filter (fun w => !goodWord w), w ∈ tables_1.filter hard) ∧ ∀ w ∈ Cond.classLink R_X ik E :: Cond.initialized E :: vx_atS R_X ic E sup2, vx_ot w = true
section ND
variable {p : Program} {l : Launch} {e : Env} {R : Room} {s : State} {m : MethodId} {args : Array Value} {below : List Frame} {meth : Method} {c : Code} {H : Heap} {locs : List Loc} {cells slots : Nat} {Q : State → Prop}
variable {pc : Nat} {ls : Array Slot} {rest st0 As : List Value} {a : Array Value} {D : va_G} {cl : List vw_C} {tys : List (ClassId × FieldType)} {ws : va_W} {b : Nat} {A : Nat → Prop}
theorem x_throw {cc : ByteArray} {Qc : Array Value → State → Outcome → State → Prop} {XC : String → State → State → Prop} {free : Addr → Prop} {E : String} {ik is ic mc ms : Nat} (hexec : p.tables.exec = Jvm.exec) (hb : c.code = cc) (hl : l.stackTraces = false) (hown : s.vm.findClass R_X = some m.cls)
    (hts : ∀ w ∈ bg, w.before args s = true) (hG : gG A s s.heap) (hE : exOk E ik ic) (hstr : ∃ tx, Cond.stringRef R_X is tx ∈ tables_1) (hnt : ∀ x ∈ c.exceptionTable.toList, False) (hsize : ls.size = c.maxLocals) (hlocks : meth.locks = false)
    (d0 : decode cc pc = .ok (.new ik, 3)) (d3 : decode cc (pc + 3) = .ok (.dup, 1)) (d4 : decode cc (pc + 4) = .ok (.ldc is, 2)) (d6 : decode cc (pc + 6) = .ok (.invokespecial ic, 3)) (d9 : decode cc (pc + 9) = .ok (.athrow, 1))
    (hRf : 6 ≤ R.frames) (hRl : (rest.map fun v => v.category).sum + 82 ≤ R.locals) (hRc : cells + 1 ≤ R.cells) (hRs : slots + 6 ≤ R.slots) (hc : cells + 1 ≤ mc) (hs : slots + 6 ≤ ms)
    (hx : ∀ t : State, s.heap.size ≤ t.heap.size → (∀ q : Nat, q < s.heap.size → t.heap[q]? = s.heap[q]?) → XC E s t) :
    W p l e R s m args below meth c s.heap [] cells slots (vx_MQ below Qc XC args s mc ms free) (F0 m pc ls rest) := by
  obtain ⟨e1, e2, e3, e4, e5, e6⟩ := hE
  obtain ⟨tx, htx⟩ := hstr
  obtain ⟨sa, hsa⟩ := hG.2.2.2 is tx htx
  exact vx_throwS (names := sup2) (A := A) hexec hb hl hown e1 (by decide +kernel) (hts _ e2) (hts _ e3) hsa
    (vx_hat (B := tables_1.filter hard) (fun w hw => hts w (e4 w hw)) e5 (fun w hw => hard_use (List.mem_filter.mp hw).2 (hG.2.2.1 w (List.mem_filter.mp hw).1 (List.mem_filter.mp hw).2))) e6 hG.1 hG.2.1 va_S.rf hsize d0 d3 d4 d6 d9
    (fun x hx => (hnt x hx).elim) (show 2 + 3 < R.frames by omega) hRl hRc hRs hlocks (fun t _ h1 h2 => hx t h1 h2) (fun z hz => nomatch hz) hc hs
theorem nd_go {P : Prop} {E : String} {mc ms : Nat} (hr : vx_Run p l e R s m args below meth c H locs cells slots mc ms (F0 m pc ls st0) rest (nd_Q P a) (nd_X P E) (fun _ => False))
    (kx : ¬ P → ∀ (ce : Cell) (q9 : Addr) (H1 : Heap), H.size ≤ H1.size → (∀ z : Nat, z < H.size → H1[z]? = H[z]?) → H1[q9]? = some ce → ce.vm = .none → s.vm.findClass E = some ce.cls → vx_W p l e R s m args below meth c H1 locs (cells + mc) (slots + ms) Q (F0 m pc ls rest) q9)
    (kk : P → W p l e R s m args below meth c H locs (cells + mc) (slots + ms) Q (F0 m (pc + 3) ls rest)) : W p l e R s m args below meth c H locs cells slots Q (F0 m pc ls st0) := by
  intro T hT X
  rcases hr T hT X with ⟨v, st₀, t, T', L, h0, X', hL, e1, e2, ⟨hP, hv, hh⟩, st⟩ | ⟨q, st₀, t, T', L, E', ce, h0, X', hL, e1, e2, ⟨hP, hE, h1, h2⟩, hce, hcv, hcl, st⟩
  · have hn := tm_nil hL
    subst hn
    rw [List.append_nil] at X'
    obtain rfl : v = none := Outcome.returned.inj hv
    obtain ⟨t2, a1, b1⟩ := kk hP T' (by rw [e1, hh, h0]) X'
    exact ⟨t2, st t2 a1, b1⟩
  · have hn := tm_nil hL
    subst hn
    rw [List.append_nil] at X'
    subst hE
    rw [h0] at h1 h2
    obtain ⟨t2, a1, b1⟩ := kx hP ce q t.heap h1 h2 hce hcv hcl T' e1 X'
    exact ⟨t2, st.trans a1, b1⟩
theorem nd_preS (hK : va_K D cl tys s) (hP : va_P D cl ws H) (hG : gG A s H) : PreS s H (nd_P D cl ws tys A As) As :=
  ⟨nd_blind, fun U hU hW => ⟨rfl, by rw [hU]; exact hP, va_K.moved hW.alike hK, gG_at hG hU hW⟩⟩
theorem nd_preV {ci q0 : Nat} {q : vw_C} {fs : List Value} (hK : va_K D cl tys s) (hP : va_P D cl ws H) (hG : gG A s H) (hc : cl[ci]? = some q) (he : ws[q0]? = some (b, .inr (ci, fs))) : PreV s H q.1 b (nd_P D cl ws tys A (.ref b :: As)) As :=
  ⟨nd_blind, va_recv hK hP hc he, fun U hU hW => ⟨rfl, by rw [hU]; exact hP, va_K.moved hW.alike hK, gG_at hG hU hW⟩⟩
end ND
abbrev E_ia : String := "java/lang/IllegalArgumentException"
theorem ex_ia : exOk E_ia 92 96 := ⟨by decide +kernel, wd_237, wd_10, by decide +kernel, by decide +kernel, by decide +kernel⟩
abbrev E_io : String := "java/lang/IndexOutOfBoundsException"
theorem ex_io : exOk E_io 213 217 := ⟨by decide +kernel, wd_256, wd_11, by decide +kernel, by decide +kernel, by decide +kernel⟩
abbrev E_is : String := "java/lang/IllegalStateException"
theorem ex_is : exOk E_is 110 114 := ⟨by decide +kernel, wd_322, wd_12, by decide +kernel, by decide +kernel, by decide +kernel⟩
abbrev E_uo : String := "java/lang/UnsupportedOperationException"
theorem ex_uo : exOk E_uo 54 58 := ⟨by decide +kernel, wd_156, wd_9, by decide +kernel, by decide +kernel, by decide +kernel⟩
theorem sx_56 : ∃ tx, Cond.stringRef R_X 56 tx ∈ tables_1 := ⟨_, List.mem_append_left _ (List.mem_of_getElem? (i := 198) rfl)⟩
theorem sx_207 : ∃ tx, Cond.stringRef R_X 207 tx ∈ tables_1 := ⟨_, List.mem_append_right _ (List.mem_append_left _ (List.mem_of_getElem? (i := 6) rfl))⟩
theorem sx_215 : ∃ tx, Cond.stringRef R_X 215 tx ∈ tables_1 := ⟨_, List.mem_append_right _ (List.mem_append_left _ (List.mem_of_getElem? (i := 25) rfl))⟩
theorem sx_223 : ∃ tx, Cond.stringRef R_X 223 tx ∈ tables_1 := ⟨_, List.mem_append_right _ (List.mem_append_left _ (List.mem_of_getElem? (i := 35) rfl))⟩
theorem sx_200 : ∃ tx, Cond.stringRef R_X 200 tx ∈ tables_1 := ⟨_, List.mem_append_right _ (List.mem_append_left _ (List.mem_of_getElem? (i := 47) rfl))⟩
theorem sx_205 : ∃ tx, Cond.stringRef R_X 205 tx ∈ tables_1 := ⟨_, List.mem_append_right _ (List.mem_append_left _ (List.mem_of_getElem? (i := 59) rfl))⟩
theorem sx_220 : ∃ tx, Cond.stringRef R_X 220 tx ∈ tables_1 := ⟨_, List.mem_append_right _ (List.mem_append_left _ (List.mem_of_getElem? (i := 64) rfl))⟩
theorem sx_94 : ∃ tx, Cond.stringRef R_X 94 tx ∈ tables_1 := ⟨_, List.mem_append_right _ (List.mem_append_left _ (List.mem_of_getElem? (i := 77) rfl))⟩
theorem sx_218 : ∃ tx, Cond.stringRef R_X 218 tx ∈ tables_1 := ⟨_, List.mem_append_right _ (List.mem_append_left _ (List.mem_of_getElem? (i := 91) rfl))⟩
theorem sx_112 : ∃ tx, Cond.stringRef R_X 112 tx ∈ tables_1 := ⟨_, List.mem_append_right _ (List.mem_append_left _ (List.mem_of_getElem? (i := 117) rfl))⟩
theorem sx_121 : ∃ tx, Cond.stringRef R_X 121 tx ∈ tables_1 := ⟨_, List.mem_append_right _ (List.mem_append_left _ (List.mem_of_getElem? (i := 137) rfl))⟩
theorem sx_145 : ∃ tx, Cond.stringRef R_X 145 tx ∈ tables_1 := ⟨_, List.mem_append_right _ (List.mem_append_left _ (List.mem_of_getElem? (i := 173) rfl))⟩
theorem sx_147 : ∃ tx, Cond.stringRef R_X 147 tx ∈ tables_1 := ⟨_, List.mem_append_right _ (List.mem_append_left _ (List.mem_of_getElem? (i := 174) rfl))⟩
theorem sx_209 : ∃ tx, Cond.stringRef R_X 209 tx ∈ tables_1 := ⟨_, List.mem_append_right _ (List.mem_append_left _ (List.mem_of_getElem? (i := 185) rfl))⟩
theorem sx_158 : ∃ tx, Cond.stringRef R_X 158 tx ∈ tables_1 := ⟨_, List.mem_append_right _ (List.mem_append_left _ (List.mem_of_getElem? (i := 193) rfl))⟩
theorem sx_160 : ∃ tx, Cond.stringRef R_X 160 tx ∈ tables_1 := ⟨_, List.mem_append_right _ (List.mem_append_left _ (List.mem_of_getElem? (i := 194) rfl))⟩
theorem sx_211 : ∃ tx, Cond.stringRef R_X 211 tx ∈ tables_1 := ⟨_, List.mem_append_right _ (List.mem_append_left _ (List.mem_of_getElem? (i := 219) rfl))⟩
theorem sx_173 : ∃ tx, Cond.stringRef R_X 173 tx ∈ tables_1 := ⟨_, List.mem_append_right _ (List.mem_append_left _ (List.mem_of_getElem? (i := 231) rfl))⟩
theorem sx_187 : ∃ tx, Cond.stringRef R_X 187 tx ∈ tables_1 := ⟨_, List.mem_append_right _ (List.mem_append_right _ (List.mem_append_left _ (List.mem_of_getElem? (i := 33) rfl)))⟩
theorem sx_193 : ∃ tx, Cond.stringRef R_X 193 tx ∈ tables_1 := ⟨_, List.mem_append_right _ (List.mem_append_right _ (List.mem_append_left _ (List.mem_of_getElem? (i := 38) rfl)))⟩
end
section
set_option maxHeartbeats 4000000 in
set_option maxRecDepth 100000 in
theorem c_X_needStore (l : Launch) (hst : l.stackTraces = false) (dC : Nat → ClassId) (dI : Nat → Nat → Nat) (A : Nat → Prop) (cI : ClassId) (q : Nat → Nat) (S : St) (t : Nat) (hI : Bd t S) (x : Int32) : vx_Met l y_X_needStore (.code y_X_needStore b_X_needStore 2 none :: bg) { frames := 6, cells := 1, slots := 6, locals := 90 } (nd_P (dC, dI) classes (wX q cI S) [(cI, .int)] A [.ref (q 0), .int x]) (nd_Q (ok x (S.2.1 0) = true)) (nd_X (ok x (S.2.1 0) = true) E_ia) 1 6 (fun _ => False) := by
  refine vx_ofW (cc := b_X_needStore) (maxL := 2) (ret := none) (by decide) rfl ?_
  intro p e s m args below meth c s₁ B hml hnt hv
  obtain ⟨rfl, hP, hK, hG⟩ := hv
  have hx := B.exec
  have hb := B.bytes
  have hr := B.returns
  have hts := fun w (h : w ∈ bg) => atoms_spec (ws := .code y_X_needStore b_X_needStore 2 none :: bg) B.pre w (List.mem_cons_of_mem _ h)
  have hown : s.vm.findClass R_X = some m.cls := findClass_of_methodNamed B.named
  have hlocks := B.notSynchronized
  have hl := lv_entry ([.ref (q 0), .int x]) (n := 2) (Nat.le_of_ble_eq_true rfl)
  rw [lg_entry_eq]
  generalize (lg_sl ([.ref (q 0), .int x]) ++ List.replicate (2 - (lg_sl ([.ref (q 0), .int x])).length) Slot.unset).toArray = ls at hl ⊢
  have hl : lv_has ls 2 [(0, .ref (q 0)), (1, .int x)] := hl
  have hB := hI.1
  have hg0 : S.2.1 0 ≤ 8 := hI.2.1 0
  have hg1 : S.2.1 1 ≤ 9999 := hI.2.1 1
  have hg2 : S.2.1 2 ≤ 60 := hI.2.1 2
  have hg3 : S.2.1 3 ≤ 60 := hI.2.1 3
  have hg4 : S.2.1 4 ≤ 80 := hI.2.1 4
  have hg5 : S.2.1 5 ≤ 20 := hI.2.1 5
  have hg6 : S.2.1 6 ≤ 80 := hI.2.1 6
  have hg7 : S.2.1 7 ≤ 10 := hI.2.1 7
  have hg8 : t ≤ 512 := hI.2.2
  refine lv_iload_n hx hb d_X_needStore_0 rfl (lv_at hl 1 rfl) ?_
  refine lv_if_lt (tgt := 12) hx hb d_X_needStore_1 (by decide) (fun c1 => ?_) (fun c1 => ?_)
  · exact x_throw (A := A) hx hb hst hown hts hG ex_ia sx_200 hnt (hl.1.trans hml.symm) hlocks d_X_needStore_12 d_X_needStore_15 d_X_needStore_16 d_X_needStore_18 d_X_needStore_21 (Nat.le_of_ble_eq_true rfl) (Nat.le_of_ble_eq_true rfl) (Nat.le_of_ble_eq_true rfl) (Nat.le_of_ble_eq_true rfl) (Nat.le_of_ble_eq_true rfl) (Nat.le_of_ble_eq_true rfl) (fun t h1 h2 => ⟨by rw [ok_neg c1]; decide, rfl, h1, h2⟩)
  · refine lv_iload_n hx hb d_X_needStore_4 rfl (lv_at hl 1 rfl) ?_
    refine lv_aload_n hx hb d_X_needStore_5 rfl (lv_at hl 0 rfl) ?_
    refine va_get (D := (dC, dI)) (ci := 0) (v := .int (nI (S.2.1 0))) (C := R_X) (T := F_X) (N := 12) hx hb hts i_X hown hK hP 0 rfl rfl 10 (by decide) (hts _ wd_67) (fun _ h9 => h9) rfl d_X_needStore_6 ?_
    refine lv_icmp_lt (tgt := 22) hx hb d_X_needStore_9 (by decide) (fun c9 => ?_) (fun c9 => ?_)
    · refine W.widen (k := 1) (n := 6) (Nat.le_of_ble_eq_true rfl) (Nat.le_of_ble_eq_true rfl) ?_
      exact vx_ret (W.vret hx hb hr (fun t ht hW => ⟨ok_yes (by omega) c1 (Int32.not_le.mpr c9), rfl, ht⟩) (fun q h => nomatch h) d_X_needStore_22)
    · exact x_throw (A := A) hx hb hst hown hts hG ex_ia sx_200 hnt (hl.1.trans hml.symm) hlocks d_X_needStore_12 d_X_needStore_15 d_X_needStore_16 d_X_needStore_18 d_X_needStore_21 (Nat.le_of_ble_eq_true rfl) (Nat.le_of_ble_eq_true rfl) (Nat.le_of_ble_eq_true rfl) (Nat.le_of_ble_eq_true rfl) (Nat.le_of_ble_eq_true rfl) (Nat.le_of_ble_eq_true rfl) (fun t h1 h2 => ⟨by rw [ok_ge (by omega) (Int32.not_lt.mp c9)]; decide, rfl, h1, h2⟩)
set_option maxHeartbeats 4000000 in
set_option maxRecDepth 100000 in
theorem c_X_needKind (l : Launch) (hst : l.stackTraces = false) (dC : Nat → ClassId) (dI : Nat → Nat → Nat) (A : Nat → Prop) (x : Int32) : vx_Met l y_X_needKind (.code y_X_needKind b_X_needKind 1 none :: bg) { frames := 6, cells := 1, slots := 6, locals := 90 } (nd_P (dC, dI) classes [] [] A [.int x]) (nd_Q (ok x 10 = true)) (nd_X (ok x 10 = true) E_ia) 1 6 (fun _ => False) := by
  refine vx_ofW (cc := b_X_needKind) (maxL := 1) (ret := none) (by decide) rfl ?_
  intro p e s m args below meth c s₁ B hml hnt hv
  obtain ⟨rfl, hP, hK, hG⟩ := hv
  have hx := B.exec
  have hb := B.bytes
  have hr := B.returns
  have hts := fun w (h : w ∈ bg) => atoms_spec (ws := .code y_X_needKind b_X_needKind 1 none :: bg) B.pre w (List.mem_cons_of_mem _ h)
  have hown : s.vm.findClass R_X = some m.cls := findClass_of_methodNamed B.named
  have hlocks := B.notSynchronized
  have hl := lv_entry ([.int x]) (n := 1) (Nat.le_of_ble_eq_true rfl)
  rw [lg_entry_eq]
  generalize (lg_sl ([.int x]) ++ List.replicate (1 - (lg_sl ([.int x])).length) Slot.unset).toArray = ls at hl ⊢
  have hl : lv_has ls 1 [(0, .int x)] := hl
  refine lv_iload_n hx hb d_X_needKind_0 rfl (lv_at hl 0 rfl) ?_
  refine lv_if_lt (tgt := 10) hx hb d_X_needKind_1 (by decide) (fun c1 => ?_) (fun c1 => ?_)
  · exact x_throw (A := A) hx hb hst hown hts hG ex_ia sx_207 hnt (hl.1.trans hml.symm) hlocks d_X_needKind_10 d_X_needKind_13 d_X_needKind_14 d_X_needKind_16 d_X_needKind_19 (Nat.le_of_ble_eq_true rfl) (Nat.le_of_ble_eq_true rfl) (Nat.le_of_ble_eq_true rfl) (Nat.le_of_ble_eq_true rfl) (Nat.le_of_ble_eq_true rfl) (Nat.le_of_ble_eq_true rfl) (fun t h1 h2 => ⟨by rw [ok_neg c1]; decide, rfl, h1, h2⟩)
  · refine lv_iload_n hx hb d_X_needKind_4 rfl (lv_at hl 0 rfl) ?_
    refine lv_bipush (v := nI 10) hx hb d_X_needKind_5 (by decide) ?_
    refine lv_icmp_lt (tgt := 20) hx hb d_X_needKind_7 (by decide) (fun c7 => ?_) (fun c7 => ?_)
    · refine W.widen (k := 1) (n := 6) (Nat.le_of_ble_eq_true rfl) (Nat.le_of_ble_eq_true rfl) ?_
      exact vx_ret (W.vret hx hb hr (fun t ht hW => ⟨ok_yes (by decide) c1 (Int32.not_le.mpr c7), rfl, ht⟩) (fun q h => nomatch h) d_X_needKind_20)
    · exact x_throw (A := A) hx hb hst hown hts hG ex_ia sx_207 hnt (hl.1.trans hml.symm) hlocks d_X_needKind_10 d_X_needKind_13 d_X_needKind_14 d_X_needKind_16 d_X_needKind_19 (Nat.le_of_ble_eq_true rfl) (Nat.le_of_ble_eq_true rfl) (Nat.le_of_ble_eq_true rfl) (Nat.le_of_ble_eq_true rfl) (Nat.le_of_ble_eq_true rfl) (Nat.le_of_ble_eq_true rfl) (fun t h1 h2 => ⟨by rw [ok_ge (by decide) (Int32.not_lt.mp c7)]; decide, rfl, h1, h2⟩)
set_option maxHeartbeats 4000000 in
set_option maxRecDepth 100000 in
theorem c_X_needPerson (l : Launch) (hst : l.stackTraces = false) (dC : Nat → ClassId) (dI : Nat → Nat → Nat) (A : Nat → Prop) (x : Int32) : vx_Met l y_X_needPerson (.code y_X_needPerson b_X_needPerson 1 none :: bg) { frames := 6, cells := 1, slots := 6, locals := 90 } (nd_P (dC, dI) classes [] [] A [.int x]) (nd_Q (ok x 20 = true)) (nd_X (ok x 20 = true) E_ia) 1 6 (fun _ => False) := by
  refine vx_ofW (cc := b_X_needPerson) (maxL := 1) (ret := none) (by decide) rfl ?_
  intro p e s m args below meth c s₁ B hml hnt hv
  obtain ⟨rfl, hP, hK, hG⟩ := hv
  have hx := B.exec
  have hb := B.bytes
  have hr := B.returns
  have hts := fun w (h : w ∈ bg) => atoms_spec (ws := .code y_X_needPerson b_X_needPerson 1 none :: bg) B.pre w (List.mem_cons_of_mem _ h)
  have hown : s.vm.findClass R_X = some m.cls := findClass_of_methodNamed B.named
  have hlocks := B.notSynchronized
  have hl := lv_entry ([.int x]) (n := 1) (Nat.le_of_ble_eq_true rfl)
  rw [lg_entry_eq]
  generalize (lg_sl ([.int x]) ++ List.replicate (1 - (lg_sl ([.int x])).length) Slot.unset).toArray = ls at hl ⊢
  have hl : lv_has ls 1 [(0, .int x)] := hl
  refine lv_iload_n hx hb d_X_needPerson_0 rfl (lv_at hl 0 rfl) ?_
  refine lv_if_lt (tgt := 10) hx hb d_X_needPerson_1 (by decide) (fun c1 => ?_) (fun c1 => ?_)
  · exact x_throw (A := A) hx hb hst hown hts hG ex_ia sx_209 hnt (hl.1.trans hml.symm) hlocks d_X_needPerson_10 d_X_needPerson_13 d_X_needPerson_14 d_X_needPerson_16 d_X_needPerson_19 (Nat.le_of_ble_eq_true rfl) (Nat.le_of_ble_eq_true rfl) (Nat.le_of_ble_eq_true rfl) (Nat.le_of_ble_eq_true rfl) (Nat.le_of_ble_eq_true rfl) (Nat.le_of_ble_eq_true rfl) (fun t h1 h2 => ⟨by rw [ok_neg c1]; decide, rfl, h1, h2⟩)
  · refine lv_iload_n hx hb d_X_needPerson_4 rfl (lv_at hl 0 rfl) ?_
    refine lv_bipush (v := nI 20) hx hb d_X_needPerson_5 (by decide) ?_
    refine lv_icmp_lt (tgt := 20) hx hb d_X_needPerson_7 (by decide) (fun c7 => ?_) (fun c7 => ?_)
    · refine W.widen (k := 1) (n := 6) (Nat.le_of_ble_eq_true rfl) (Nat.le_of_ble_eq_true rfl) ?_
      exact vx_ret (W.vret hx hb hr (fun t ht hW => ⟨ok_yes (by decide) c1 (Int32.not_le.mpr c7), rfl, ht⟩) (fun q h => nomatch h) d_X_needPerson_20)
    · exact x_throw (A := A) hx hb hst hown hts hG ex_ia sx_209 hnt (hl.1.trans hml.symm) hlocks d_X_needPerson_10 d_X_needPerson_13 d_X_needPerson_14 d_X_needPerson_16 d_X_needPerson_19 (Nat.le_of_ble_eq_true rfl) (Nat.le_of_ble_eq_true rfl) (Nat.le_of_ble_eq_true rfl) (Nat.le_of_ble_eq_true rfl) (Nat.le_of_ble_eq_true rfl) (Nat.le_of_ble_eq_true rfl) (fun t h1 h2 => ⟨by rw [ok_ge (by decide) (Int32.not_lt.mp c7)]; decide, rfl, h1, h2⟩)
set_option maxHeartbeats 4000000 in
set_option maxRecDepth 100000 in
theorem c_X_needKit (l : Launch) (hst : l.stackTraces = false) (dC : Nat → ClassId) (dI : Nat → Nat → Nat) (A : Nat → Prop) (x : Int32) : vx_Met l y_X_needKit (.code y_X_needKit b_X_needKit 1 none :: bg) { frames := 6, cells := 1, slots := 6, locals := 90 } (nd_P (dC, dI) classes [] [] A [.int x]) (nd_Q (ok x 5 = true)) (nd_X (ok x 5 = true) E_ia) 1 6 (fun _ => False) := by
  refine vx_ofW (cc := b_X_needKit) (maxL := 1) (ret := none) (by decide) rfl ?_
  intro p e s m args below meth c s₁ B hml hnt hv
  obtain ⟨rfl, hP, hK, hG⟩ := hv
  have hx := B.exec
  have hb := B.bytes
  have hr := B.returns
  have hts := fun w (h : w ∈ bg) => atoms_spec (ws := .code y_X_needKit b_X_needKit 1 none :: bg) B.pre w (List.mem_cons_of_mem _ h)
  have hown : s.vm.findClass R_X = some m.cls := findClass_of_methodNamed B.named
  have hlocks := B.notSynchronized
  have hl := lv_entry ([.int x]) (n := 1) (Nat.le_of_ble_eq_true rfl)
  rw [lg_entry_eq]
  generalize (lg_sl ([.int x]) ++ List.replicate (1 - (lg_sl ([.int x])).length) Slot.unset).toArray = ls at hl ⊢
  have hl : lv_has ls 1 [(0, .int x)] := hl
  refine lv_iload_n hx hb d_X_needKit_0 rfl (lv_at hl 0 rfl) ?_
  refine lv_if_lt (tgt := 9) hx hb d_X_needKit_1 (by decide) (fun c1 => ?_) (fun c1 => ?_)
  · exact x_throw (A := A) hx hb hst hown hts hG ex_ia sx_211 hnt (hl.1.trans hml.symm) hlocks d_X_needKit_9 d_X_needKit_12 d_X_needKit_13 d_X_needKit_15 d_X_needKit_18 (Nat.le_of_ble_eq_true rfl) (Nat.le_of_ble_eq_true rfl) (Nat.le_of_ble_eq_true rfl) (Nat.le_of_ble_eq_true rfl) (Nat.le_of_ble_eq_true rfl) (Nat.le_of_ble_eq_true rfl) (fun t h1 h2 => ⟨by rw [ok_neg c1]; decide, rfl, h1, h2⟩)
  · refine lv_iload_n hx hb d_X_needKit_4 rfl (lv_at hl 0 rfl) ?_
    refine lv_iconst (v := nI 5) hx hb d_X_needKit_5 (by decide) ?_
    refine lv_icmp_lt (tgt := 19) hx hb d_X_needKit_6 (by decide) (fun c6 => ?_) (fun c6 => ?_)
    · refine W.widen (k := 1) (n := 6) (Nat.le_of_ble_eq_true rfl) (Nat.le_of_ble_eq_true rfl) ?_
      exact vx_ret (W.vret hx hb hr (fun t ht hW => ⟨ok_yes (by decide) c1 (Int32.not_le.mpr c6), rfl, ht⟩) (fun q h => nomatch h) d_X_needKit_19)
    · exact x_throw (A := A) hx hb hst hown hts hG ex_ia sx_211 hnt (hl.1.trans hml.symm) hlocks d_X_needKit_9 d_X_needKit_12 d_X_needKit_13 d_X_needKit_15 d_X_needKit_18 (Nat.le_of_ble_eq_true rfl) (Nat.le_of_ble_eq_true rfl) (Nat.le_of_ble_eq_true rfl) (Nat.le_of_ble_eq_true rfl) (Nat.le_of_ble_eq_true rfl) (Nat.le_of_ble_eq_true rfl) (fun t h1 h2 => ⟨by rw [ok_ge (by decide) (Int32.not_lt.mp c6)]; decide, rfl, h1, h2⟩)
set_option maxHeartbeats 4000000 in
set_option maxRecDepth 100000 in
theorem c_X_needRange (l : Launch) (hst : l.stackTraces = false) (dC : Nat → ClassId) (dI : Nat → Nat → Nat) (A : Nat → Prop) (x : Int32) (lo hi : Nat) (hlo : lo < 2 ^ 31) (hhi : hi < 2 ^ 31) : vx_Met l y_X_needRange (.code y_X_needRange b_X_needRange 3 none :: bg) { frames := 6, cells := 1, slots := 6, locals := 90 } (nd_P (dC, dI) classes [] [] A [.int x, .int (nI lo), .int (nI hi)]) (nd_Q (rg x lo hi = true)) (nd_X (rg x lo hi = true) E_io) 1 6 (fun _ => False) := by
  refine vx_ofW (cc := b_X_needRange) (maxL := 3) (ret := none) (by decide) rfl ?_
  intro p e s m args below meth c s₁ B hml hnt hv
  obtain ⟨rfl, hP, hK, hG⟩ := hv
  have hx := B.exec
  have hb := B.bytes
  have hr := B.returns
  have hts := fun w (h : w ∈ bg) => atoms_spec (ws := .code y_X_needRange b_X_needRange 3 none :: bg) B.pre w (List.mem_cons_of_mem _ h)
  have hown : s.vm.findClass R_X = some m.cls := findClass_of_methodNamed B.named
  have hlocks := B.notSynchronized
  have hl := lv_entry ([.int x, .int (nI lo), .int (nI hi)]) (n := 3) (Nat.le_of_ble_eq_true rfl)
  rw [lg_entry_eq]
  generalize (lg_sl ([.int x, .int (nI lo), .int (nI hi)]) ++ List.replicate (3 - (lg_sl ([.int x, .int (nI lo), .int (nI hi)])).length) Slot.unset).toArray = ls at hl ⊢
  have hl : lv_has ls 3 [(0, .int x), (1, .int (nI lo)), (2, .int (nI hi))] := hl
  refine lv_iload_n hx hb d_X_needRange_0 rfl (lv_at hl 0 rfl) ?_
  refine lv_iload_n hx hb d_X_needRange_1 rfl (lv_at hl 1 rfl) ?_
  refine lv_icmp_lt (tgt := 10) hx hb d_X_needRange_2 (by decide) (fun c2 => ?_) (fun c2 => ?_)
  · exact x_throw (A := A) hx hb hst hown hts hG ex_io sx_215 hnt (hl.1.trans hml.symm) hlocks d_X_needRange_10 d_X_needRange_13 d_X_needRange_14 d_X_needRange_16 d_X_needRange_19 (Nat.le_of_ble_eq_true rfl) (Nat.le_of_ble_eq_true rfl) (Nat.le_of_ble_eq_true rfl) (Nat.le_of_ble_eq_true rfl) (Nat.le_of_ble_eq_true rfl) (Nat.le_of_ble_eq_true rfl) (fun t h1 h2 => ⟨by rw [rg_lo hlo c2]; decide, rfl, h1, h2⟩)
  · refine lv_iload_n hx hb d_X_needRange_5 rfl (lv_at hl 0 rfl) ?_
    refine lv_iload_n hx hb d_X_needRange_6 rfl (lv_at hl 2 rfl) ?_
    refine lv_icmp_le (tgt := 20) hx hb d_X_needRange_7 (by decide) (fun c7 => ?_) (fun c7 => ?_)
    · refine W.widen (k := 1) (n := 6) (Nat.le_of_ble_eq_true rfl) (Nat.le_of_ble_eq_true rfl) ?_
      exact vx_ret (W.vret hx hb hr (fun t ht hW => ⟨rg_yes hlo hhi c2 (Int32.not_lt.mpr c7), rfl, ht⟩) (fun q h => nomatch h) d_X_needRange_20)
    · exact x_throw (A := A) hx hb hst hown hts hG ex_io sx_215 hnt (hl.1.trans hml.symm) hlocks d_X_needRange_10 d_X_needRange_13 d_X_needRange_14 d_X_needRange_16 d_X_needRange_19 (Nat.le_of_ble_eq_true rfl) (Nat.le_of_ble_eq_true rfl) (Nat.le_of_ble_eq_true rfl) (Nat.le_of_ble_eq_true rfl) (Nat.le_of_ble_eq_true rfl) (Nat.le_of_ble_eq_true rfl) (fun t h1 h2 => ⟨by rw [rg_hi hhi (Int32.not_le.mp c7)]; decide, rfl, h1, h2⟩)
set_option maxHeartbeats 4000000 in
set_option maxRecDepth 100000 in
theorem c_X_needRow (l : Launch) (hst : l.stackTraces = false) (dC : Nat → ClassId) (dI : Nat → Nat → Nat) (A : Nat → Prop) (cI : ClassId) (r ca rm md n : Nat) (f : Nat → Int32) (x : Int32) (h2 : md < 2 ^ 31) : vx_Met l y_X_needRow (.code y_X_needRow b_X_needRow 2 none :: bg) { frames := 6, cells := 1, slots := 6, locals := 90 } (nd_P (dC, dI) classes [(r, .inr (1, [.int (nI rm), .ref ca, .int (nI md)])), (ca, .inl (cI, n, .inl f))] [(cI, .int)] A [.ref r, .int x]) (nd_Q (ok x md = true)) (nd_X (ok x md = true) E_ia) 1 6 (fun _ => False) := by
  refine vx_ofW (cc := b_X_needRow) (maxL := 2) (ret := none) (by decide) rfl ?_
  intro p e s m args below meth c s₁ B hml hnt hv
  obtain ⟨rfl, hP, hK, hG⟩ := hv
  have hx := B.exec
  have hb := B.bytes
  have hr := B.returns
  have hts := fun w (h : w ∈ bg) => atoms_spec (ws := .code y_X_needRow b_X_needRow 2 none :: bg) B.pre w (List.mem_cons_of_mem _ h)
  have hown : s.vm.findClass R_X = some m.cls := findClass_of_methodNamed B.named
  have hlocks := B.notSynchronized
  have hl := lv_entry ([.ref r, .int x]) (n := 2) (Nat.le_of_ble_eq_true rfl)
  rw [lg_entry_eq]
  generalize (lg_sl ([.ref r, .int x]) ++ List.replicate (2 - (lg_sl ([.ref r, .int x])).length) Slot.unset).toArray = ls at hl ⊢
  have hl : lv_has ls 2 [(0, .ref r), (1, .int x)] := hl
  refine lv_aload_n hx hb d_X_needRow_0 rfl (lv_at hl 0 rfl) ?_
  refine lv_iload_n hx hb d_X_needRow_1 rfl (lv_at hl 1 rfl) ?_
  refine pu_go (va_runV (As := [.int x]) (rest := []) ⟨hx, hb, hml, hown, hts⟩ (c_W_isMade l dC dI cI r ca rm md n f x h2) (cwV 1 hts (gi_V wd_295 wd_296 wd_297 wd_2 wd_298) rfl rfl rfl (by decide +kernel) ⟨Nat.le_of_ble_eq_true rfl, Nat.le_of_ble_eq_true rfl⟩) (pu_preV hK hP (ci := 1) (q0 := 0) rfl rfl) rfl rfl hl.1 rfl (lv_room (Nat.le_of_ble_eq_true rfl)) d_X_needRow_2 ⟨Nat.le_of_ble_eq_true rfl, Nat.le_of_ble_eq_true rfl⟩) ?_
  refine nv_bn (tgt := 18) hx hb d_X_needRow_5 (by decide) (fun c5 => ?_) (fun c5 => ?_)
  · refine W.widen (k := 1) (n := 6) (Nat.le_of_ble_eq_true rfl) (Nat.le_of_ble_eq_true rfl) ?_
    exact vx_ret (W.vret hx hb hr (fun t ht hW => ⟨c5, rfl, ht⟩) (fun q h => nomatch h) d_X_needRow_18)
  · exact x_throw (A := A) hx hb hst hown hts hG ex_ia sx_205 hnt (hl.1.trans hml.symm) hlocks d_X_needRow_8 d_X_needRow_11 d_X_needRow_12 d_X_needRow_14 d_X_needRow_17 (Nat.le_of_ble_eq_true rfl) (Nat.le_of_ble_eq_true rfl) (Nat.le_of_ble_eq_true rfl) (Nat.le_of_ble_eq_true rfl) (Nat.le_of_ble_eq_true rfl) (Nat.le_of_ble_eq_true rfl) (fun t h1 h2 => ⟨by rw [c5]; decide, rfl, h1, h2⟩)
set_option maxHeartbeats 4000000 in
set_option maxRecDepth 100000 in
theorem c_X_needRoom (l : Launch) (hst : l.stackTraces = false) (dC : Nat → ClassId) (dI : Nat → Nat → Nat) (A : Nat → Prop) (cI : ClassId) (r ca rm md n : Nat) (f : Nat → Int32) (h1 : rm < 2 ^ 31) (h2 : md < 2 ^ 31) : vx_Met l y_X_needRoom (.code y_X_needRoom b_X_needRoom 1 none :: bg) { frames := 6, cells := 1, slots := 6, locals := 90 } (nd_P (dC, dI) classes [(r, .inr (1, [.int (nI rm), .ref ca, .int (nI md)])), (ca, .inl (cI, n, .inl f))] [(cI, .int)] A [.ref r]) (nd_Q (md < rm)) (nd_X (md < rm) E_uo) 1 6 (fun _ => False) := by
  refine vx_ofW (cc := b_X_needRoom) (maxL := 1) (ret := none) (by decide) rfl ?_
  intro p e s m args below meth c s₁ B hml hnt hv
  obtain ⟨rfl, hP, hK, hG⟩ := hv
  have hx := B.exec
  have hb := B.bytes
  have hr := B.returns
  have hts := fun w (h : w ∈ bg) => atoms_spec (ws := .code y_X_needRoom b_X_needRoom 1 none :: bg) B.pre w (List.mem_cons_of_mem _ h)
  have hown : s.vm.findClass R_X = some m.cls := findClass_of_methodNamed B.named
  have hlocks := B.notSynchronized
  have hl := lv_entry ([.ref r]) (n := 1) (Nat.le_of_ble_eq_true rfl)
  rw [lg_entry_eq]
  generalize (lg_sl ([.ref r]) ++ List.replicate (1 - (lg_sl ([.ref r])).length) Slot.unset).toArray = ls at hl ⊢
  have hl : lv_has ls 1 [(0, .ref r)] := hl
  refine lv_aload_n hx hb d_X_needRoom_0 rfl (lv_at hl 0 rfl) ?_
  refine pu_go (va_runV (As := []) (rest := []) ⟨hx, hb, hml, hown, hts⟩ (c_W_isFull l dC dI cI r ca rm md n f h1 h2) (cwV 0 hts (gi_V wd_109 wd_110 wd_111 wd_2 wd_112) rfl rfl rfl (by decide +kernel) ⟨Nat.le_of_ble_eq_true rfl, Nat.le_of_ble_eq_true rfl⟩) (pu_preV hK hP (ci := 1) (q0 := 0) rfl rfl) rfl rfl hl.1 rfl (lv_room (Nat.le_of_ble_eq_true rfl)) d_X_needRoom_1 ⟨Nat.le_of_ble_eq_true rfl, Nat.le_of_ble_eq_true rfl⟩) ?_
  refine nv_bz (tgt := 17) hx hb d_X_needRoom_4 (by decide) (fun c4 => ?_) (fun c4 => ?_)
  · refine W.widen (k := 1) (n := 6) (Nat.le_of_ble_eq_true rfl) (Nat.le_of_ble_eq_true rfl) ?_
    exact vx_ret (W.vret hx hb hr (fun t ht hW => ⟨by have := of_decide_eq_false c4; omega, rfl, ht⟩) (fun q h => nomatch h) d_X_needRoom_17)
  · exact x_throw (A := A) hx hb hst hown hts hG ex_uo sx_223 hnt (hl.1.trans hml.symm) hlocks d_X_needRoom_7 d_X_needRoom_10 d_X_needRoom_11 d_X_needRoom_13 d_X_needRoom_16 (Nat.le_of_ble_eq_true rfl) (Nat.le_of_ble_eq_true rfl) (Nat.le_of_ble_eq_true rfl) (Nat.le_of_ble_eq_true rfl) (Nat.le_of_ble_eq_true rfl) (Nat.le_of_ble_eq_true rfl) (fun t h1 h2 => ⟨by have := of_decide_eq_true c4; omega, rfl, h1, h2⟩)
set_option maxHeartbeats 4000000 in
set_option maxRecDepth 100000 in
theorem c_X_needLot (l : Launch) (hst : l.stackTraces = false) (dC : Nat → ClassId) (dI : Nat → Nat → Nat) (A : Nat → Prop) (cI : ClassId) (q : Nat → Nat) (S : St) (t : Nat) (hI : Bd t S) (x : Int32) : vx_Met l y_X_needLot (.code y_X_needLot b_X_needLot 2 none :: bg) { frames := 7, cells := 1, slots := 6, locals := 111 } (nd_P (dC, dI) classes (wX q cI S) [(cI, .int)] A [.ref (q 0), .int x]) (nd_Q (ok x (S.2.1 2) = true)) (nd_X (ok x (S.2.1 2) = true) E_ia) 1 6 (fun _ => False) := by
  refine vx_ofW (cc := b_X_needLot) (maxL := 2) (ret := none) (by decide) rfl ?_
  intro p e s m args below meth c s₁ B hml hnt hv
  obtain ⟨rfl, hP, hK, hG⟩ := hv
  have hx := B.exec
  have hb := B.bytes
  have hr := B.returns
  have hts := fun w (h : w ∈ bg) => atoms_spec (ws := .code y_X_needLot b_X_needLot 2 none :: bg) B.pre w (List.mem_cons_of_mem _ h)
  have hown : s.vm.findClass R_X = some m.cls := findClass_of_methodNamed B.named
  have hlocks := B.notSynchronized
  have hl := lv_entry ([.ref (q 0), .int x]) (n := 2) (Nat.le_of_ble_eq_true rfl)
  rw [lg_entry_eq]
  generalize (lg_sl ([.ref (q 0), .int x]) ++ List.replicate (2 - (lg_sl ([.ref (q 0), .int x])).length) Slot.unset).toArray = ls at hl ⊢
  have hl : lv_has ls 2 [(0, .ref (q 0)), (1, .int x)] := hl
  have hB := hI.1
  have hg0 : S.2.1 0 ≤ 8 := hI.2.1 0
  have hg1 : S.2.1 1 ≤ 9999 := hI.2.1 1
  have hg2 : S.2.1 2 ≤ 60 := hI.2.1 2
  have hg3 : S.2.1 3 ≤ 60 := hI.2.1 3
  have hg4 : S.2.1 4 ≤ 80 := hI.2.1 4
  have hg5 : S.2.1 5 ≤ 20 := hI.2.1 5
  have hg6 : S.2.1 6 ≤ 80 := hI.2.1 6
  have hg7 : S.2.1 7 ≤ 10 := hI.2.1 7
  have hg8 : t ≤ 512 := hI.2.2
  refine lv_aload_n hx hb d_X_needLot_0 rfl (lv_at hl 0 rfl) ?_
  refine va_get (D := (dC, dI)) (ci := 0) (v := .ref (q 1)) (C := R_X) (T := F_X) (N := 12) hx hb hts i_X hown hK hP 0 rfl rfl 0 (by decide) (hts _ wd_57) (fun _ h9 => h9) rfl d_X_needLot_1 ?_
  refine lv_iload_n hx hb d_X_needLot_4 rfl (lv_at hl 1 rfl) ?_
  refine nd_go (vx_runS (As := [.ref (q 1), .int x]) (rest := []) ⟨hx, hb, hml, hown, hts⟩ (c_X_needRow l hst dC dI A cI (q 1) (q 11) 60 (S.2.1 2) 300 (rowf S.1 0) x (by omega)) (cwS 2 hts (gi_S wd_292 wd_293 wd_1 wd_294) rfl rfl rfl (by decide +kernel) ⟨Nat.le_of_ble_eq_true rfl, Nat.le_of_ble_eq_true rfl⟩) (nd_preS hK (hP.sub [1, 11] rfl) hG) rfl rfl hl.1 rfl (lv_room (Nat.le_of_ble_eq_true rfl)) d_X_needLot_5 ⟨Nat.le_of_ble_eq_true rfl, Nat.le_of_ble_eq_true rfl⟩) (fun p5 ce q9 H1 h1 h2 h3 h4 h5 => vx_out (fun x hx => (hnt x hx).elim) hlocks h3 h4 h5 (fun t ht hv => ⟨p5, rfl, by rw [ht]; exact h1, fun z hz => by rw [ht]; exact h2 z hz⟩) (fun q h => nomatch h) (Nat.le_of_ble_eq_true rfl) (Nat.le_of_ble_eq_true rfl)) (fun p5 => ?_)
  refine W.widen (k := 1) (n := 6) (Nat.le_of_ble_eq_true rfl) (Nat.le_of_ble_eq_true rfl) ?_
  exact vx_ret (W.vret hx hb hr (fun t ht hW => ⟨p5, rfl, ht⟩) (fun q h => nomatch h) d_X_needLot_8)
set_option maxHeartbeats 4000000 in
set_option maxRecDepth 100000 in
theorem c_X_needThere (l : Launch) (hst : l.stackTraces = false) (dC : Nat → ClassId) (dI : Nat → Nat → Nat) (A : Nat → Prop) (cI : ClassId) (q : Nat → Nat) (S : St) (t : Nat) (hI : Bd t S) (st y n : Nat) (hs : st < 8) (hy : y < 60) (hn : n ≤ 9999) : vx_Met l y_X_needThere (.code y_X_needThere b_X_needThere 4 none :: bg) { frames := 6, cells := 1, slots := 6, locals := 90 } (nd_P (dC, dI) classes (wX q cI S) [(cI, .int)] A [.ref (q 0), .int (nI st), .int (nI y), .int (nI n)]) (nd_Q (n ≤ S.1 25 (st * 60 + y))) (nd_X (n ≤ S.1 25 (st * 60 + y)) E_is) 1 6 (fun _ => False) := by
  refine vx_ofW (cc := b_X_needThere) (maxL := 4) (ret := none) (by decide) rfl ?_
  intro p e s m args below meth c s₁ B hml hnt hv
  obtain ⟨rfl, hP, hK, hG⟩ := hv
  have hx := B.exec
  have hb := B.bytes
  have hr := B.returns
  have hts := fun w (h : w ∈ bg) => atoms_spec (ws := .code y_X_needThere b_X_needThere 4 none :: bg) B.pre w (List.mem_cons_of_mem _ h)
  have hown : s.vm.findClass R_X = some m.cls := findClass_of_methodNamed B.named
  have hlocks := B.notSynchronized
  have hl := lv_entry ([.ref (q 0), .int (nI st), .int (nI y), .int (nI n)]) (n := 4) (Nat.le_of_ble_eq_true rfl)
  rw [lg_entry_eq]
  generalize (lg_sl ([.ref (q 0), .int (nI st), .int (nI y), .int (nI n)]) ++ List.replicate (4 - (lg_sl ([.ref (q 0), .int (nI st), .int (nI y), .int (nI n)])).length) Slot.unset).toArray = ls at hl ⊢
  have hl : lv_has ls 4 [(0, .ref (q 0)), (1, .int (nI st)), (2, .int (nI y)), (3, .int (nI n))] := hl
  have hB := hI.1
  have hg0 : S.2.1 0 ≤ 8 := hI.2.1 0
  have hg1 : S.2.1 1 ≤ 9999 := hI.2.1 1
  have hg2 : S.2.1 2 ≤ 60 := hI.2.1 2
  have hg3 : S.2.1 3 ≤ 60 := hI.2.1 3
  have hg4 : S.2.1 4 ≤ 80 := hI.2.1 4
  have hg5 : S.2.1 5 ≤ 20 := hI.2.1 5
  have hg6 : S.2.1 6 ≤ 80 := hI.2.1 6
  have hg7 : S.2.1 7 ≤ 10 := hI.2.1 7
  have hg8 : t ≤ 512 := hI.2.2
  refine lv_aload_n hx hb d_X_needThere_0 rfl (lv_at hl 0 rfl) ?_
  refine va_get (D := (dC, dI)) (ci := 0) (v := .ref (q 7)) (C := R_X) (T := F_X) (N := 12) hx hb hts i_X hown hK hP 0 rfl rfl 6 (by decide) (hts _ wd_63) (fun _ h9 => h9) rfl d_X_needThere_1 ?_
  refine lv_iload_n hx hb d_X_needThere_4 rfl (lv_at hl 1 rfl) ?_
  refine lv_iload_n hx hb d_X_needThere_5 rfl (lv_at hl 2 rfl) ?_
  refine pu_go (va_runS (As := [.int (nI st), .int (nI y)]) (rest := [.ref (q 7)]) ⟨hx, hb, hml, hown, hts⟩ (c_X_place l dC dI st y) (cwS 2 hts (gi_S wd_125 wd_126 wd_1 wd_127) rfl rfl rfl (by decide +kernel) ⟨Nat.le_of_ble_eq_true rfl, Nat.le_of_ble_eq_true rfl⟩) (pu_preS (hK.sub (tys' := []) [] rfl) (fun k q h => by simp at h)) rfl rfl hl.1 rfl (lv_room (Nat.le_of_ble_eq_true rfl)) d_X_needThere_6 ⟨Nat.le_of_ble_eq_true rfl, Nat.le_of_ble_eq_true rfl⟩) ?_
  refine nv_iald (v := nI (S.1 25 (st * 60 + y))) hx hb hK hP 7 0 rfl rfl (by omega) (by decide) rfl d_X_needThere_9 ?_
  have hb9 : S.1 25 (st * 60 + y) ≤ 9999 := hB 25 _
  refine lv_iload_n hx hb d_X_needThere_10 rfl (lv_at hl 3 rfl) ?_
  refine nv_cge (tgt := 24) hx hb (by omega) (by omega) d_X_needThere_11 (by decide) (fun c11 => ?_) (fun c11 => ?_)
  · refine W.widen (k := 1) (n := 6) (Nat.le_of_ble_eq_true rfl) (Nat.le_of_ble_eq_true rfl) ?_
    exact vx_ret (W.vret hx hb hr (fun t ht hW => ⟨by omega, rfl, ht⟩) (fun q h => nomatch h) d_X_needThere_24)
  · exact x_throw (A := A) hx hb hst hown hts hG ex_is sx_218 hnt (hl.1.trans hml.symm) hlocks d_X_needThere_14 d_X_needThere_17 d_X_needThere_18 d_X_needThere_20 d_X_needThere_23 (Nat.le_of_ble_eq_true rfl) (Nat.le_of_ble_eq_true rfl) (Nat.le_of_ble_eq_true rfl) (Nat.le_of_ble_eq_true rfl) (Nat.le_of_ble_eq_true rfl) (Nat.le_of_ble_eq_true rfl) (fun t h1 h2 => ⟨by omega, rfl, h1, h2⟩)
set_option maxHeartbeats 4000000 in
set_option maxRecDepth 100000 in
theorem c_X_needPlace (l : Launch) (hst : l.stackTraces = false) (dC : Nat → ClassId) (dI : Nat → Nat → Nat) (A : Nat → Prop) (cI : ClassId) (q : Nat → Nat) (S : St) (t : Nat) (hI : Bd t S) (st y n : Nat) (hs : st < 8) (hy : y < 60) (hn : n ≤ 9999) : vx_Met l y_X_needPlace (.code y_X_needPlace b_X_needPlace 4 none :: bg) { frames := 6, cells := 1, slots := 6, locals := 90 } (nd_P (dC, dI) classes (wX q cI S) [(cI, .int)] A [.ref (q 0), .int (nI st), .int (nI y), .int (nI n)]) (nd_Q (S.1 25 (st * 60 + y) + n ≤ 9999)) (nd_X (S.1 25 (st * 60 + y) + n ≤ 9999) E_uo) 1 6 (fun _ => False) := by
  refine vx_ofW (cc := b_X_needPlace) (maxL := 4) (ret := none) (by decide) rfl ?_
  intro p e s m args below meth c s₁ B hml hnt hv
  obtain ⟨rfl, hP, hK, hG⟩ := hv
  have hx := B.exec
  have hb := B.bytes
  have hr := B.returns
  have hts := fun w (h : w ∈ bg) => atoms_spec (ws := .code y_X_needPlace b_X_needPlace 4 none :: bg) B.pre w (List.mem_cons_of_mem _ h)
  have hown : s.vm.findClass R_X = some m.cls := findClass_of_methodNamed B.named
  have hlocks := B.notSynchronized
  have hl := lv_entry ([.ref (q 0), .int (nI st), .int (nI y), .int (nI n)]) (n := 4) (Nat.le_of_ble_eq_true rfl)
  rw [lg_entry_eq]
  generalize (lg_sl ([.ref (q 0), .int (nI st), .int (nI y), .int (nI n)]) ++ List.replicate (4 - (lg_sl ([.ref (q 0), .int (nI st), .int (nI y), .int (nI n)])).length) Slot.unset).toArray = ls at hl ⊢
  have hl : lv_has ls 4 [(0, .ref (q 0)), (1, .int (nI st)), (2, .int (nI y)), (3, .int (nI n))] := hl
  have hB := hI.1
  have hg0 : S.2.1 0 ≤ 8 := hI.2.1 0
  have hg1 : S.2.1 1 ≤ 9999 := hI.2.1 1
  have hg2 : S.2.1 2 ≤ 60 := hI.2.1 2
  have hg3 : S.2.1 3 ≤ 60 := hI.2.1 3
  have hg4 : S.2.1 4 ≤ 80 := hI.2.1 4
  have hg5 : S.2.1 5 ≤ 20 := hI.2.1 5
  have hg6 : S.2.1 6 ≤ 80 := hI.2.1 6
  have hg7 : S.2.1 7 ≤ 10 := hI.2.1 7
  have hg8 : t ≤ 512 := hI.2.2
  refine lv_aload_n hx hb d_X_needPlace_0 rfl (lv_at hl 0 rfl) ?_
  refine va_get (D := (dC, dI)) (ci := 0) (v := .ref (q 7)) (C := R_X) (T := F_X) (N := 12) hx hb hts i_X hown hK hP 0 rfl rfl 6 (by decide) (hts _ wd_63) (fun _ h9 => h9) rfl d_X_needPlace_1 ?_
  refine lv_iload_n hx hb d_X_needPlace_4 rfl (lv_at hl 1 rfl) ?_
  refine lv_iload_n hx hb d_X_needPlace_5 rfl (lv_at hl 2 rfl) ?_
  refine pu_go (va_runS (As := [.int (nI st), .int (nI y)]) (rest := [.ref (q 7)]) ⟨hx, hb, hml, hown, hts⟩ (c_X_place l dC dI st y) (cwS 2 hts (gi_S wd_125 wd_126 wd_1 wd_127) rfl rfl rfl (by decide +kernel) ⟨Nat.le_of_ble_eq_true rfl, Nat.le_of_ble_eq_true rfl⟩) (pu_preS (hK.sub (tys' := []) [] rfl) (fun k q h => by simp at h)) rfl rfl hl.1 rfl (lv_room (Nat.le_of_ble_eq_true rfl)) d_X_needPlace_6 ⟨Nat.le_of_ble_eq_true rfl, Nat.le_of_ble_eq_true rfl⟩) ?_
  refine nv_iald (v := nI (S.1 25 (st * 60 + y))) hx hb hK hP 7 0 rfl rfl (by omega) (by decide) rfl d_X_needPlace_9 ?_
  have hb9 : S.1 25 (st * 60 + y) ≤ 9999 := hB 25 _
  refine lv_iload_n hx hb d_X_needPlace_10 rfl (lv_at hl 3 rfl) ?_
  refine nv_add hx hb d_X_needPlace_11 ?_
  refine lv_sipush (v := nI 9999) hx hb d_X_needPlace_12 (by decide) ?_
  refine nv_cle (tgt := 28) hx hb (by omega) (by omega) d_X_needPlace_15 (by decide) (fun c15 => ?_) (fun c15 => ?_)
  · refine W.widen (k := 1) (n := 6) (Nat.le_of_ble_eq_true rfl) (Nat.le_of_ble_eq_true rfl) ?_
    exact vx_ret (W.vret hx hb hr (fun t ht hW => ⟨by omega, rfl, ht⟩) (fun q h => nomatch h) d_X_needPlace_28)
  · exact x_throw (A := A) hx hb hst hown hts hG ex_uo sx_220 hnt (hl.1.trans hml.symm) hlocks d_X_needPlace_18 d_X_needPlace_21 d_X_needPlace_22 d_X_needPlace_24 d_X_needPlace_27 (Nat.le_of_ble_eq_true rfl) (Nat.le_of_ble_eq_true rfl) (Nat.le_of_ble_eq_true rfl) (Nat.le_of_ble_eq_true rfl) (Nat.le_of_ble_eq_true rfl) (Nat.le_of_ble_eq_true rfl) (fun t h1 h2 => ⟨by omega, rfl, h1, h2⟩)
end
section
/-! METHODS THAT WRITE: the world before and behind, all else as it was; a world's changes as changes of the state. -/
def wr_P (D : va_G) (cl : List vw_C) (ws : va_W) (tys : List (ClassId × FieldType)) (sz : Nat) (av : List Value) : Array Value → State → Prop := va_Pc av (fun U => U.heap.size = sz ∧ va_P D cl ws U.heap ∧ va_K D cl tys U ∧ va_D (fun _ => True) ws)
def wr_Q (v : Option Value) (D : va_G) (cl : List vw_C) (ws' : va_W) (A : Nat → Prop) : Array Value → State → Outcome → State → Prop := fun _ st o t => o = .returned v ∧ va_P D cl ws' t.heap ∧ va_F A st t
theorem wr_blind {D : va_G} {cl : List vw_C} {ws : va_W} {tys : List (ClassId × FieldType)} {sz : Nat} {av : List Value} : FrameBlind (wr_P D cl ws tys sz av) := fun a U g mk q => by
  obtain ⟨q0, qz, qP, qK, qD⟩ := q
  exact ⟨q0, qz, qP, va_K.moved (u := U) (U := U.calling g mk a) (Vm.Alike.refl U.vm) qK, qD⟩
/-- cells put at their places -/
def place : va_W → List Nat → va_W → va_W
  | ws, i :: is, e :: es => place (ws.set i e) is es
  | ws, _, _ => ws
theorem place_get : ∀ (is : List Nat) (es ws : va_W) (k : Nat) (x : Nat × va_E), (place ws is es)[k]? = some x → (∃ i : Nat, es[i]? = some x) ∨ (ws[k]? = some x ∧ (is.length = es.length → k ∉ is))
  | [], es, ws, k, x, h => Or.inr ⟨by cases es <;> exact h, fun _ h => nomatch h⟩
  | i :: is, [], ws, k, x, h => Or.inr ⟨h, fun h => by simp at h⟩
  | i :: is, e :: es, ws, k, x, h => by
    rcases place_get is es (ws.set i e) k x h with ⟨j, hj⟩ | ⟨h1, h2⟩
    · exact Or.inl ⟨j + 1, hj⟩
    · by_cases hk : k = i
      · subst hk
        by_cases hl : k < ws.length
        · rw [List.getElem?_set_self hl] at h1
          exact Or.inl ⟨0, h1⟩
        · rw [List.getElem?_eq_none (by simp; omega)] at h1
          cases h1
      · rw [List.getElem?_set_ne (Ne.symm hk)] at h1
        refine Or.inr ⟨h1, fun hl hm => ?_⟩
        rcases List.mem_cons.mp hm with rfl | hm
        · exact hk rfl
        · exact h2 (by simpa using hl) hm
theorem D_adr {A : Nat → Prop} {ws ws' : va_W} (h : va_D A ws) (e : ws'.map Prod.fst = ws.map Prod.fst) : va_D A ws' := by
  have key : ∀ (k : Nat) (x : Nat × va_E), ws'[k]? = some x → ∃ y, ws[k]? = some y ∧ y.1 = x.1 := by
    intro k x hx
    have h1 : (ws'.map Prod.fst)[k]? = some x.1 := by rw [List.getElem?_map, hx]; rfl
    rw [e, List.getElem?_map] at h1
    cases hy : ws[k]? with
    | none => rw [hy] at h1; cases h1
    | some y => rw [hy] at h1; exact ⟨y, rfl, Option.some.inj h1⟩
  refine ⟨fun i j p q hp hq hpq => ?_, fun k q hq => ?_⟩
  · obtain ⟨p', hp', ep⟩ := key i p hp
    obtain ⟨q', hq', eq⟩ := key j q hq
    exact h.1 i j p' q' hp' hq' (by rw [ep, eq, hpq])
  · obtain ⟨q', hq', eq⟩ := key k q hq
    rw [← eq]
    exact h.2 k q' hq'
theorem place_join {D : va_G} {cl : List vw_C} {A : Nat → Prop} {ws wc wc' : va_W} {H H1 : Heap} (hP : va_P D cl ws H) (hD : va_D A ws) (isC : List Nat) (hC : isC.map (fun i => ws[i]?) = wc.map some) (hn : isC.length = wc'.length)
    (hk : ∀ q : Nat, q < H.size → ¬ va_A wc H.size q → H1[q]? = H[q]?) (hP1 : va_P D cl wc' H1) : va_P D cl (place ws isC wc') H1 := by
  intro k x hx
  rcases place_get isC wc' ws k x hx with ⟨i, hi⟩ | ⟨h1, h2⟩
  · exact hP1 i x hi
  · refine (hP k x h1).kept (hk x.1 ((hP k x h1).lt) (fun ha => ?_))
    rcases ha with ⟨j, e, hj⟩ | hge
    · have hjc : (wc.map some)[j]? = some (some (x.1, e)) := by rw [List.getElem?_map, hj]; rfl
      rw [← hC, List.getElem?_map] at hjc
      cases hi : isC[j]? with
      | none => rw [hi] at hjc; cases hjc
      | some i =>
        rw [hi] at hjc
        have hw : ws[i]? = some (x.1, e) := Option.some.inj hjc
        have := hD.1 k i x (x.1, e) h1 hw rfl
        subst this
        exact h2 hn (List.mem_of_getElem? hi)
    · exact absurd ((hP k x h1).lt) (Nat.not_lt.mpr hge)
section WR
variable {p : Program} {l : Launch} {e : Env} {R : Room} {s : State} {m : MethodId} {args : Array Value} {below : List Frame} {meth : Method} {c : Code} {H : Heap} {locs : List Loc} {cells slots : Nat} {Q : State → Prop}
variable {pc : Nat} {ls : Array Slot} {rest st0 As : List Value} {a : Array Value} {D : va_G} {cl : List vw_C} {tys : List (ClassId × FieldType)} {ws wc wc' : va_W} {b : Nat} {A : Nat → Prop} {H0 : Heap}
theorem wr_go {v : Option Value} (hr : va_Run p l e R s m args below meth c H locs cells slots 0 0 (F0 m pc ls st0) rest (wr_Q v D cl wc' (va_A wc H.size) a) (va_A wc H.size)) (hP : va_P D cl ws H) (hD : va_D A ws) (hS : va_S A H0 H locs) (hA : ∀ q : Nat, H0.size ≤ q → A q) (isC : List Nat)
    (hC : isC.map (fun i => ws[i]?) = wc.map some) (hn : isC.length = wc'.length) (ws' : va_W) (hw : place ws isC wc' = ws') (hadr : ws'.map Prod.fst = ws.map Prod.fst)
    (k : ∀ (H1 : Heap) (locs1 : List Loc), va_P D cl ws' H1 → va_D A ws' → va_S A H0 H1 locs1 → W p l e R s m args below meth c H1 locs1 cells slots Q (F0 m (pc + 3) ls (v.toList ++ rest))) :
    W p l e R s m args below meth c H locs cells slots Q (F0 m pc ls st0) := by
  intro T hT X
  obtain ⟨w, st₀, t, T', L, h0, X', hL, e1, e2, ⟨hv, hP1, hz, hk⟩, st⟩ := hr T hT X
  obtain rfl : w = v := Outcome.returned.inj hv
  rw [h0] at hz hk
  have hfree := va_free (wc := wc) hD hS hA isC hC
  obtain ⟨t2, a1, b1⟩ := k t.heap (locs ++ L) (by rw [← hw]; exact place_join hP hD isC hC hn hk hP1) (D_adr hD hadr)
    ⟨Nat.le_trans hS.1 hz, fun q h1 h2 => by rw [hk q (Nat.lt_of_lt_of_le h1 hS.1) (fun z => h2 (hfree q z))]; exact hS.2.1 q h1 h2, fun q hq => by
      rcases List.mem_append.mp hq with h | h
      · exact hS.2.2 q h
      · exact hfree _ (hL q h)⟩ T' e1 X'
  exact ⟨t2, st t2 a1, b1⟩
theorem wr_preV {ci q0 : Nat} {q : vw_C} {fs : List Value} (hK : va_K D cl tys s) (hP : va_P D cl ws H) (hD : va_D A ws) (hc : cl[ci]? = some q) (he : ws[q0]? = some (b, .inr (ci, fs))) : PreV s H q.1 b (wr_P D cl ws tys H.size (.ref b :: As)) As :=
  ⟨wr_blind, va_recv hK hP hc he, fun U hU hW => ⟨rfl, by rw [hU], by rw [hU]; exact hP, va_K.moved hW.alike hK, hD.weaken (fun _ _ _ _ => trivial)⟩⟩
end WR
end
section
/-! the world's changes as changes of the state -/
theorem wX_r0 {q : Nat → Nat} {cI : ClassId} {S : St} {i k v : Nat} (h : k < 5) : (wX q cI S).set 11 (q 11, .inl (cI, 300, .inl (upd (rowf S.1 0) (i * 5 + k) (nI v)))) = wX q cI (S_a S (0 + k) i v) := by
  simp only [wX, S_a, List.set, rowf_upd h, rowf_off (a := S.1) (b := 5) (k := 0 + k) (i := i) (v := v) (by omega), rowf_off (a := S.1) (b := 10) (k := 0 + k) (i := i) (v := v) (by omega), rowf_off (a := S.1) (b := 15) (k := 0 + k) (i := i) (v := v) (by omega), rowd_off (a := S.1) (z := S.2.2) (k := 0 + k) (i := i) (v := v) (by omega), colf_off (a := S.1) (k := 0 + k) (k' := 25) (i := i) (v := v) (by omega), colf_off (a := S.1) (k := 0 + k) (k' := 26) (i := i) (v := v) (by omega), colf_off (a := S.1) (k := 0 + k) (k' := 27) (i := i) (v := v) (by omega), colf_off (a := S.1) (k := 0 + k) (k' := 28) (i := i) (v := v) (by omega), colf_off (a := S.1) (k := 0 + k) (k' := 29) (i := i) (v := v) (by omega), colf_off (a := S.1) (k := 0 + k) (k' := 30) (i := i) (v := v) (by omega)]
theorem wX_r5 {q : Nat → Nat} {cI : ClassId} {S : St} {i k v : Nat} (h : k < 5) : (wX q cI S).set 12 (q 12, .inl (cI, 300, .inl (upd (rowf S.1 5) (i * 5 + k) (nI v)))) = wX q cI (S_a S (5 + k) i v) := by
  simp only [wX, S_a, List.set, rowf_upd h, rowf_off (a := S.1) (b := 0) (k := 5 + k) (i := i) (v := v) (by omega), rowf_off (a := S.1) (b := 10) (k := 5 + k) (i := i) (v := v) (by omega), rowf_off (a := S.1) (b := 15) (k := 5 + k) (i := i) (v := v) (by omega), rowd_off (a := S.1) (z := S.2.2) (k := 5 + k) (i := i) (v := v) (by omega), colf_off (a := S.1) (k := 5 + k) (k' := 25) (i := i) (v := v) (by omega), colf_off (a := S.1) (k := 5 + k) (k' := 26) (i := i) (v := v) (by omega), colf_off (a := S.1) (k := 5 + k) (k' := 27) (i := i) (v := v) (by omega), colf_off (a := S.1) (k := 5 + k) (k' := 28) (i := i) (v := v) (by omega), colf_off (a := S.1) (k := 5 + k) (k' := 29) (i := i) (v := v) (by omega), colf_off (a := S.1) (k := 5 + k) (k' := 30) (i := i) (v := v) (by omega)]
theorem wX_r10 {q : Nat → Nat} {cI : ClassId} {S : St} {i k v : Nat} (h : k < 5) : (wX q cI S).set 13 (q 13, .inl (cI, 400, .inl (upd (rowf S.1 10) (i * 5 + k) (nI v)))) = wX q cI (S_a S (10 + k) i v) := by
  simp only [wX, S_a, List.set, rowf_upd h, rowf_off (a := S.1) (b := 0) (k := 10 + k) (i := i) (v := v) (by omega), rowf_off (a := S.1) (b := 5) (k := 10 + k) (i := i) (v := v) (by omega), rowf_off (a := S.1) (b := 15) (k := 10 + k) (i := i) (v := v) (by omega), rowd_off (a := S.1) (z := S.2.2) (k := 10 + k) (i := i) (v := v) (by omega), colf_off (a := S.1) (k := 10 + k) (k' := 25) (i := i) (v := v) (by omega), colf_off (a := S.1) (k := 10 + k) (k' := 26) (i := i) (v := v) (by omega), colf_off (a := S.1) (k := 10 + k) (k' := 27) (i := i) (v := v) (by omega), colf_off (a := S.1) (k := 10 + k) (k' := 28) (i := i) (v := v) (by omega), colf_off (a := S.1) (k := 10 + k) (k' := 29) (i := i) (v := v) (by omega), colf_off (a := S.1) (k := 10 + k) (k' := 30) (i := i) (v := v) (by omega)]
theorem wX_r15 {q : Nat → Nat} {cI : ClassId} {S : St} {i k v : Nat} (h : k < 5) : (wX q cI S).set 14 (q 14, .inl (cI, 100, .inl (upd (rowf S.1 15) (i * 5 + k) (nI v)))) = wX q cI (S_a S (15 + k) i v) := by
  simp only [wX, S_a, List.set, rowf_upd h, rowf_off (a := S.1) (b := 0) (k := 15 + k) (i := i) (v := v) (by omega), rowf_off (a := S.1) (b := 5) (k := 15 + k) (i := i) (v := v) (by omega), rowf_off (a := S.1) (b := 10) (k := 15 + k) (i := i) (v := v) (by omega), rowd_off (a := S.1) (z := S.2.2) (k := 15 + k) (i := i) (v := v) (by omega), colf_off (a := S.1) (k := 15 + k) (k' := 25) (i := i) (v := v) (by omega), colf_off (a := S.1) (k := 15 + k) (k' := 26) (i := i) (v := v) (by omega), colf_off (a := S.1) (k := 15 + k) (k' := 27) (i := i) (v := v) (by omega), colf_off (a := S.1) (k := 15 + k) (k' := 28) (i := i) (v := v) (by omega), colf_off (a := S.1) (k := 15 + k) (k' := 29) (i := i) (v := v) (by omega), colf_off (a := S.1) (k := 15 + k) (k' := 30) (i := i) (v := v) (by omega)]
theorem wX_r20 {q : Nat → Nat} {cI : ClassId} {S : St} {i k v : Nat} (h : k < 5) (h2 : k ≠ 2) : (wX q cI S).set 15 (q 15, .inl (cI, 400, .inl (upd (rowd S.1 S.2.2) (i * 5 + k) (nI v)))) = wX q cI (S_a S (20 + k) i v) := by
  simp only [wX, S_a, List.set, rowd_upd h h2, rowf_off (a := S.1) (b := 0) (k := 20 + k) (i := i) (v := v) (by omega), rowf_off (a := S.1) (b := 5) (k := 20 + k) (i := i) (v := v) (by omega), rowf_off (a := S.1) (b := 10) (k := 20 + k) (i := i) (v := v) (by omega), rowf_off (a := S.1) (b := 15) (k := 20 + k) (i := i) (v := v) (by omega), colf_off (a := S.1) (k := 20 + k) (k' := 25) (i := i) (v := v) (by omega), colf_off (a := S.1) (k := 20 + k) (k' := 26) (i := i) (v := v) (by omega), colf_off (a := S.1) (k := 20 + k) (k' := 27) (i := i) (v := v) (by omega), colf_off (a := S.1) (k := 20 + k) (k' := 28) (i := i) (v := v) (by omega), colf_off (a := S.1) (k := 20 + k) (k' := 29) (i := i) (v := v) (by omega), colf_off (a := S.1) (k := 20 + k) (k' := 30) (i := i) (v := v) (by omega)]
theorem wX_rz {q : Nat → Nat} {cI : ClassId} {S : St} {i : Nat} {v : Int32} : (wX q cI S).set 15 (q 15, .inl (cI, 400, .inl (upd (rowd S.1 S.2.2) (i * 5 + 2) v))) = wX q cI (S_z S i v) := by
  simp only [wX, S_z, List.set, rowd_upd2]
theorem wX_c25 {q : Nat → Nat} {cI : ClassId} {S : St} {i v : Nat} : (wX q cI S).set 7 (q 7, .inl (cI, 480, .inl (upd (colf S.1 25) i (nI v)))) = wX q cI (S_a S 25 i v) := by
  simp only [wX, S_a, List.set, colf_upd, rowf_off (a := S.1) (b := 0) (k := 25) (i := i) (v := v) (by omega), rowf_off (a := S.1) (b := 5) (k := 25) (i := i) (v := v) (by omega), rowf_off (a := S.1) (b := 10) (k := 25) (i := i) (v := v) (by omega), rowf_off (a := S.1) (b := 15) (k := 25) (i := i) (v := v) (by omega), rowd_off (a := S.1) (z := S.2.2) (k := 25) (i := i) (v := v) (by omega), colf_off (a := S.1) (k := 25) (k' := 26) (i := i) (v := v) (by omega), colf_off (a := S.1) (k := 25) (k' := 27) (i := i) (v := v) (by omega), colf_off (a := S.1) (k := 25) (k' := 28) (i := i) (v := v) (by omega), colf_off (a := S.1) (k := 25) (k' := 29) (i := i) (v := v) (by omega), colf_off (a := S.1) (k := 25) (k' := 30) (i := i) (v := v) (by omega)]
theorem wX_c26 {q : Nat → Nat} {cI : ClassId} {S : St} {i v : Nat} : (wX q cI S).set 8 (q 8, .inl (cI, 80, .inl (upd (colf S.1 26) i (nI v)))) = wX q cI (S_a S 26 i v) := by
  simp only [wX, S_a, List.set, colf_upd, rowf_off (a := S.1) (b := 0) (k := 26) (i := i) (v := v) (by omega), rowf_off (a := S.1) (b := 5) (k := 26) (i := i) (v := v) (by omega), rowf_off (a := S.1) (b := 10) (k := 26) (i := i) (v := v) (by omega), rowf_off (a := S.1) (b := 15) (k := 26) (i := i) (v := v) (by omega), rowd_off (a := S.1) (z := S.2.2) (k := 26) (i := i) (v := v) (by omega), colf_off (a := S.1) (k := 26) (k' := 25) (i := i) (v := v) (by omega), colf_off (a := S.1) (k := 26) (k' := 27) (i := i) (v := v) (by omega), colf_off (a := S.1) (k := 26) (k' := 28) (i := i) (v := v) (by omega), colf_off (a := S.1) (k := 26) (k' := 29) (i := i) (v := v) (by omega), colf_off (a := S.1) (k := 26) (k' := 30) (i := i) (v := v) (by omega)]
theorem wX_c27 {q : Nat → Nat} {cI : ClassId} {S : St} {i v : Nat} : (wX q cI S).set 9 (q 9, .inl (cI, 80, .inl (upd (colf S.1 27) i (nI v)))) = wX q cI (S_a S 27 i v) := by
  simp only [wX, S_a, List.set, colf_upd, rowf_off (a := S.1) (b := 0) (k := 27) (i := i) (v := v) (by omega), rowf_off (a := S.1) (b := 5) (k := 27) (i := i) (v := v) (by omega), rowf_off (a := S.1) (b := 10) (k := 27) (i := i) (v := v) (by omega), rowf_off (a := S.1) (b := 15) (k := 27) (i := i) (v := v) (by omega), rowd_off (a := S.1) (z := S.2.2) (k := 27) (i := i) (v := v) (by omega), colf_off (a := S.1) (k := 27) (k' := 25) (i := i) (v := v) (by omega), colf_off (a := S.1) (k := 27) (k' := 26) (i := i) (v := v) (by omega), colf_off (a := S.1) (k := 27) (k' := 28) (i := i) (v := v) (by omega), colf_off (a := S.1) (k := 27) (k' := 29) (i := i) (v := v) (by omega), colf_off (a := S.1) (k := 27) (k' := 30) (i := i) (v := v) (by omega)]
theorem wX_c28 {q : Nat → Nat} {cI : ClassId} {S : St} {i v : Nat} : (wX q cI S).set 10 (q 10, .inl (cI, 50, .inl (upd (colf S.1 28) i (nI v)))) = wX q cI (S_a S 28 i v) := by
  simp only [wX, S_a, List.set, colf_upd, rowf_off (a := S.1) (b := 0) (k := 28) (i := i) (v := v) (by omega), rowf_off (a := S.1) (b := 5) (k := 28) (i := i) (v := v) (by omega), rowf_off (a := S.1) (b := 10) (k := 28) (i := i) (v := v) (by omega), rowf_off (a := S.1) (b := 15) (k := 28) (i := i) (v := v) (by omega), rowd_off (a := S.1) (z := S.2.2) (k := 28) (i := i) (v := v) (by omega), colf_off (a := S.1) (k := 28) (k' := 25) (i := i) (v := v) (by omega), colf_off (a := S.1) (k := 28) (k' := 26) (i := i) (v := v) (by omega), colf_off (a := S.1) (k := 28) (k' := 27) (i := i) (v := v) (by omega), colf_off (a := S.1) (k := 28) (k' := 29) (i := i) (v := v) (by omega), colf_off (a := S.1) (k := 28) (k' := 30) (i := i) (v := v) (by omega)]
theorem wX_c29 {q : Nat → Nat} {cI : ClassId} {S : St} {i v : Nat} : (wX q cI S).set 16 (q 16, .inl (cI, 10, .inl (upd (colf S.1 29) i (nI v)))) = wX q cI (S_a S 29 i v) := by
  simp only [wX, S_a, List.set, colf_upd, rowf_off (a := S.1) (b := 0) (k := 29) (i := i) (v := v) (by omega), rowf_off (a := S.1) (b := 5) (k := 29) (i := i) (v := v) (by omega), rowf_off (a := S.1) (b := 10) (k := 29) (i := i) (v := v) (by omega), rowf_off (a := S.1) (b := 15) (k := 29) (i := i) (v := v) (by omega), rowd_off (a := S.1) (z := S.2.2) (k := 29) (i := i) (v := v) (by omega), colf_off (a := S.1) (k := 29) (k' := 25) (i := i) (v := v) (by omega), colf_off (a := S.1) (k := 29) (k' := 26) (i := i) (v := v) (by omega), colf_off (a := S.1) (k := 29) (k' := 27) (i := i) (v := v) (by omega), colf_off (a := S.1) (k := 29) (k' := 28) (i := i) (v := v) (by omega), colf_off (a := S.1) (k := 29) (k' := 30) (i := i) (v := v) (by omega)]
theorem wX_c30 {q : Nat → Nat} {cI : ClassId} {S : St} {i v : Nat} : (wX q cI S).set 17 (q 17, .inl (cI, 10, .inl (upd (colf S.1 30) i (nI v)))) = wX q cI (S_a S 30 i v) := by
  simp only [wX, S_a, List.set, colf_upd, rowf_off (a := S.1) (b := 0) (k := 30) (i := i) (v := v) (by omega), rowf_off (a := S.1) (b := 5) (k := 30) (i := i) (v := v) (by omega), rowf_off (a := S.1) (b := 10) (k := 30) (i := i) (v := v) (by omega), rowf_off (a := S.1) (b := 15) (k := 30) (i := i) (v := v) (by omega), rowd_off (a := S.1) (z := S.2.2) (k := 30) (i := i) (v := v) (by omega), colf_off (a := S.1) (k := 30) (k' := 25) (i := i) (v := v) (by omega), colf_off (a := S.1) (k := 30) (k' := 26) (i := i) (v := v) (by omega), colf_off (a := S.1) (k := 30) (k' := 27) (i := i) (v := v) (by omega), colf_off (a := S.1) (k := 30) (k' := 28) (i := i) (v := v) (by omega), colf_off (a := S.1) (k := 30) (k' := 29) (i := i) (v := v) (by omega)]
theorem wX_31 {q : Nat → Nat} {cI : ClassId} {S : St} {i v : Nat} : wX q cI (S_a S 31 i v) = wX q cI S := by
  simp only [wX, S_a, rowf_off (a := S.1) (b := 0) (k := 31) (i := i) (v := v) (by omega), rowf_off (a := S.1) (b := 5) (k := 31) (i := i) (v := v) (by omega), rowf_off (a := S.1) (b := 10) (k := 31) (i := i) (v := v) (by omega), rowf_off (a := S.1) (b := 15) (k := 31) (i := i) (v := v) (by omega), rowd_off (a := S.1) (z := S.2.2) (k := 31) (i := i) (v := v) (by omega), colf_off (a := S.1) (k := 31) (k' := 25) (i := i) (v := v) (by omega), colf_off (a := S.1) (k := 31) (k' := 26) (i := i) (v := v) (by omega), colf_off (a := S.1) (k := 31) (k' := 27) (i := i) (v := v) (by omega), colf_off (a := S.1) (k := 31) (k' := 28) (i := i) (v := v) (by omega), colf_off (a := S.1) (k := 31) (k' := 29) (i := i) (v := v) (by omega), colf_off (a := S.1) (k := 31) (k' := 30) (i := i) (v := v) (by omega)]
theorem wX_g0 {q : Nat → Nat} {cI : ClassId} {S : St} {v : Nat} : (wX q cI S).set 0 (q 0, .inr (0, [.ref (q 1), .ref (q 2), .ref (q 3), .ref (q 4), .ref (q 5), .ref (q 6), .ref (q 7), .ref (q 8), .ref (q 9), .ref (q 10), .int (nI v), .int (nI (S.2.1 1))])) = wX q cI (S_g S 0 v) := by
  simp [wX, S_g, List.set, va_up]
theorem wX_g1 {q : Nat → Nat} {cI : ClassId} {S : St} {v : Nat} : (wX q cI S).set 0 (q 0, .inr (0, [.ref (q 1), .ref (q 2), .ref (q 3), .ref (q 4), .ref (q 5), .ref (q 6), .ref (q 7), .ref (q 8), .ref (q 9), .ref (q 10), .int (nI (S.2.1 0)), .int (nI v)])) = wX q cI (S_g S 1 v) := by
  simp [wX, S_g, List.set, va_up]
theorem wX_g2 {q : Nat → Nat} {cI : ClassId} {S : St} {v : Nat} : (wX q cI S).set 1 (q 1, .inr (1, [.int (nI 60), .ref (q 11), .int (nI v)])) = wX q cI (S_g S 2 v) := by
  simp [wX, S_g, List.set, va_up]
theorem wX_g3 {q : Nat → Nat} {cI : ClassId} {S : St} {v : Nat} : (wX q cI S).set 2 (q 2, .inr (1, [.int (nI 60), .ref (q 12), .int (nI v)])) = wX q cI (S_g S 3 v) := by
  simp [wX, S_g, List.set, va_up]
theorem wX_g4 {q : Nat → Nat} {cI : ClassId} {S : St} {v : Nat} : (wX q cI S).set 3 (q 3, .inr (1, [.int (nI 80), .ref (q 13), .int (nI v)])) = wX q cI (S_g S 4 v) := by
  simp [wX, S_g, List.set, va_up]
theorem wX_g5 {q : Nat → Nat} {cI : ClassId} {S : St} {v : Nat} : (wX q cI S).set 4 (q 4, .inr (1, [.int (nI 20), .ref (q 14), .int (nI v)])) = wX q cI (S_g S 5 v) := by
  simp [wX, S_g, List.set, va_up]
theorem wX_g6 {q : Nat → Nat} {cI : ClassId} {S : St} {v : Nat} : (wX q cI S).set 5 (q 5, .inr (1, [.int (nI 80), .ref (q 15), .int (nI v)])) = wX q cI (S_g S 6 v) := by
  simp [wX, S_g, List.set, va_up]
theorem wX_g7 {q : Nat → Nat} {cI : ClassId} {S : St} {v : Nat} : (wX q cI S).set 6 (q 6, .inr (2, [.ref (q 16), .ref (q 17), .int (nI v)])) = wX q cI (S_g S 7 v) := by
  simp [wX, S_g, List.set, va_up]
theorem wX_add0 {q : Nat → Nat} {cI : ClassId} {S : St} {i v0 v1 v2 v3 v4 : Nat} : place (wX q cI S) [1, 11] [(q 1, .inr (1, [.int (nI 60), .ref (q 11), .int (nI (i + 1))])), (q 11, .inl (cI, 300, .inl (upd (upd (upd (upd (upd (rowf S.1 0) (i * 5 + 0) (nI v0)) (i * 5 + 1) (nI v1)) (i * 5 + 2) (nI v2)) (i * 5 + 3) (nI v3)) (i * 5 + 4) (nI v4))))] = wX q cI (S_g (S_row S 0 i v0 v1 v2 v3 v4) 2 (i + 1)) := by
  rw [rowf_upd (by decide), rowf_upd (by decide), rowf_upd (by decide), rowf_upd (by decide), rowf_upd (by decide)]
  have e1 := wX_g2 (q := q) (cI := cI) (S := S_row S 0 i v0 v1 v2 v3 v4) (v := i + 1)
  rw [← e1]
  unfold S_row
  rw [show S_a (S_a (S_a (S_a (S_a S 0 i v0) (0 + 1) i v1) (0 + 2) i v2) (0 + 3) i v3) (0 + 4) i v4 = S_a (S_a (S_a (S_a (S_a S (0 + 0) i v0) (0 + 1) i v1) (0 + 2) i v2) (0 + 3) i v3) (0 + 4) i v4 from rfl, ← wX_r0 (k := 4) (by decide), ← wX_r0 (k := 3) (by decide), ← wX_r0 (k := 2) (by decide), ← wX_r0 (k := 1) (by decide), ← wX_r0 (k := 0) (by decide)]
  simp only [S_a]
  rw [rowf_upd (by decide), rowf_upd (by decide), rowf_upd (by decide), rowf_upd (by decide), rowf_upd (by decide)]
  rfl
theorem wX_add5 {q : Nat → Nat} {cI : ClassId} {S : St} {i v0 v1 v2 v3 v4 : Nat} : place (wX q cI S) [2, 12] [(q 2, .inr (1, [.int (nI 60), .ref (q 12), .int (nI (i + 1))])), (q 12, .inl (cI, 300, .inl (upd (upd (upd (upd (upd (rowf S.1 5) (i * 5 + 0) (nI v0)) (i * 5 + 1) (nI v1)) (i * 5 + 2) (nI v2)) (i * 5 + 3) (nI v3)) (i * 5 + 4) (nI v4))))] = wX q cI (S_g (S_row S 5 i v0 v1 v2 v3 v4) 3 (i + 1)) := by
  rw [rowf_upd (by decide), rowf_upd (by decide), rowf_upd (by decide), rowf_upd (by decide), rowf_upd (by decide)]
  have e1 := wX_g3 (q := q) (cI := cI) (S := S_row S 5 i v0 v1 v2 v3 v4) (v := i + 1)
  rw [← e1]
  unfold S_row
  rw [show S_a (S_a (S_a (S_a (S_a S 5 i v0) (5 + 1) i v1) (5 + 2) i v2) (5 + 3) i v3) (5 + 4) i v4 = S_a (S_a (S_a (S_a (S_a S (5 + 0) i v0) (5 + 1) i v1) (5 + 2) i v2) (5 + 3) i v3) (5 + 4) i v4 from rfl, ← wX_r5 (k := 4) (by decide), ← wX_r5 (k := 3) (by decide), ← wX_r5 (k := 2) (by decide), ← wX_r5 (k := 1) (by decide), ← wX_r5 (k := 0) (by decide)]
  simp only [S_a]
  rw [rowf_upd (by decide), rowf_upd (by decide), rowf_upd (by decide), rowf_upd (by decide), rowf_upd (by decide)]
  rfl
theorem wX_add10 {q : Nat → Nat} {cI : ClassId} {S : St} {i v0 v1 v2 v3 v4 : Nat} : place (wX q cI S) [3, 13] [(q 3, .inr (1, [.int (nI 80), .ref (q 13), .int (nI (i + 1))])), (q 13, .inl (cI, 400, .inl (upd (upd (upd (upd (upd (rowf S.1 10) (i * 5 + 0) (nI v0)) (i * 5 + 1) (nI v1)) (i * 5 + 2) (nI v2)) (i * 5 + 3) (nI v3)) (i * 5 + 4) (nI v4))))] = wX q cI (S_g (S_row S 10 i v0 v1 v2 v3 v4) 4 (i + 1)) := by
  rw [rowf_upd (by decide), rowf_upd (by decide), rowf_upd (by decide), rowf_upd (by decide), rowf_upd (by decide)]
  have e1 := wX_g4 (q := q) (cI := cI) (S := S_row S 10 i v0 v1 v2 v3 v4) (v := i + 1)
  rw [← e1]
  unfold S_row
  rw [show S_a (S_a (S_a (S_a (S_a S 10 i v0) (10 + 1) i v1) (10 + 2) i v2) (10 + 3) i v3) (10 + 4) i v4 = S_a (S_a (S_a (S_a (S_a S (10 + 0) i v0) (10 + 1) i v1) (10 + 2) i v2) (10 + 3) i v3) (10 + 4) i v4 from rfl, ← wX_r10 (k := 4) (by decide), ← wX_r10 (k := 3) (by decide), ← wX_r10 (k := 2) (by decide), ← wX_r10 (k := 1) (by decide), ← wX_r10 (k := 0) (by decide)]
  simp only [S_a]
  rw [rowf_upd (by decide), rowf_upd (by decide), rowf_upd (by decide), rowf_upd (by decide), rowf_upd (by decide)]
  rfl
theorem wX_add15 {q : Nat → Nat} {cI : ClassId} {S : St} {i v0 v1 v2 v3 v4 : Nat} : place (wX q cI S) [4, 14] [(q 4, .inr (1, [.int (nI 20), .ref (q 14), .int (nI (i + 1))])), (q 14, .inl (cI, 100, .inl (upd (upd (upd (upd (upd (rowf S.1 15) (i * 5 + 0) (nI v0)) (i * 5 + 1) (nI v1)) (i * 5 + 2) (nI v2)) (i * 5 + 3) (nI v3)) (i * 5 + 4) (nI v4))))] = wX q cI (S_g (S_row S 15 i v0 v1 v2 v3 v4) 5 (i + 1)) := by
  rw [rowf_upd (by decide), rowf_upd (by decide), rowf_upd (by decide), rowf_upd (by decide), rowf_upd (by decide)]
  have e1 := wX_g5 (q := q) (cI := cI) (S := S_row S 15 i v0 v1 v2 v3 v4) (v := i + 1)
  rw [← e1]
  unfold S_row
  rw [show S_a (S_a (S_a (S_a (S_a S 15 i v0) (15 + 1) i v1) (15 + 2) i v2) (15 + 3) i v3) (15 + 4) i v4 = S_a (S_a (S_a (S_a (S_a S (15 + 0) i v0) (15 + 1) i v1) (15 + 2) i v2) (15 + 3) i v3) (15 + 4) i v4 from rfl, ← wX_r15 (k := 4) (by decide), ← wX_r15 (k := 3) (by decide), ← wX_r15 (k := 2) (by decide), ← wX_r15 (k := 1) (by decide), ← wX_r15 (k := 0) (by decide)]
  simp only [S_a]
  rw [rowf_upd (by decide), rowf_upd (by decide), rowf_upd (by decide), rowf_upd (by decide), rowf_upd (by decide)]
  rfl
end
section
/-! the bounds under changes -/
theorem Bd_a {t : Nat} {S : St} {k j v : Nat} (h : Bd t S) (hv : v ≤ bd t k) : Bd t (S_a S k j v) := by
  refine ⟨fun k' j' => ?_, h.2.1, h.2.2⟩
  show aU S.1 k j v k' j' ≤ bd t k'
  by_cases hk : k' = k
  · subst hk
    by_cases hj : j' = j
    · subst hj; rw [aU_s]; exact hv
    · rw [aU_e hj]; exact h.1 k' j'
  · rw [aU_n hk]; exact h.1 k' j'
theorem Bd_g {t : Nat} {S : St} {k v : Nat} (h : Bd t S) (hv : v ≤ gb k) : Bd t (S_g S k v) := by
  refine ⟨h.1, fun k' => ?_, h.2.2⟩
  show va_up S.2.1 k v k' ≤ gb k'
  by_cases hk : k' = k
  · subst hk; rw [va_up_self]; exact hv
  · rw [va_up_ne _ _ hk]; exact h.2.1 k'
theorem Bd_z {t : Nat} {S : St} {j : Nat} {v : Int32} (h : Bd t S) : Bd t (S_z S j v) := h
theorem bd_mono {t t' : Nat} (h : t ≤ t') (k : Nat) : bd t k ≤ bd t' k := by
  unfold bd
  split <;> first | exact Nat.le_refl _ | exact Nat.mul_le_mul_left 9999 h
theorem Bd_up {t t' : Nat} {S : St} (h : Bd t S) (ht : t ≤ t') (h2 : t' ≤ 512) : Bd t' S := ⟨fun k j => Nat.le_trans (h.1 k j) (bd_mono ht k), h.2.1, h2⟩
theorem Bd_addUp {t : Nat} {S : St} {s y n : Nat} (h : Bd t S) : Bd t (addUp S s y n) := Bd_a h (Nat.min_le_left _ _)
theorem Bd_come {t : Nat} {S : St} {i : Nat} (h : Bd t S) : Bd t (come S i) := Bd_addUp (Bd_a h (Nat.zero_le _))
theorem Bd_row {t : Nat} {S : St} {b i v0 v1 v2 v3 v4 : Nat} (h : Bd t S) (h0 : v0 ≤ bd t b) (h1 : v1 ≤ bd t (b + 1)) (h2 : v2 ≤ bd t (b + 2)) (h3 : v3 ≤ bd t (b + 3)) (h4 : v4 ≤ bd t (b + 4)) : Bd t (S_row S b i v0 v1 v2 v3 v4) :=
  Bd_a (Bd_a (Bd_a (Bd_a (Bd_a h h0) h1) h2) h3) h4
theorem Bd_addOrd {t : Nat} {S : St} {s k n : Nat} (h : Bd t S) (hs : s ≤ 7) (hk : k ≤ 9) (hn : n ≤ 9999) (ho : S.2.1 4 < 80) : Bd t (addOrd S s k n) :=
  Bd_g (Bd_row h hs hk hn (h.2.1 1) (Nat.le_refl 1)) (show S.2.1 4 + 1 ≤ 80 from ho)
theorem Bd_ordK {t : Nat} {S : St} {s k : Nat} (h : Bd t S) (hs : s < 8) (hk : k < 10) : Bd t (ordK S s k) := by
  unfold ordK
  split
  · exact h
  · split
    · exact h
    · split
      · refine Bd_addOrd h (by omega) (by omega) ?_ (by omega)
        have : S.1 27 (s * 10 + k) ≤ 9999 := h.1 27 _
        omega
      · exact h
theorem tk_0 {s k f : Nat} {S : St} : tk s k f S 0 = S := by cases f <;> simp [tk]
theorem tk_s {s k f n : Nat} {S : St} {b : Nat} (hn : 0 < n) (hb : bst S s k (S.2.1 2) = some b) : tk s k (f + 1) S n = tk s k f (takeOf S s b (min n (S.1 25 (s * 60 + b)))) (n - min n (S.1 25 (s * 60 + b))) := by
  simp [tk, Nat.ne_of_gt hn, hb]
theorem tk_n {s k f n : Nat} {S : St} (hb : bst S s k (S.2.1 2) = none) : tk s k f S n = S := by
  cases f with
  | zero => rfl
  | succ f => simp [tk, hb]
theorem wm_min : Cond.code Lib.Math.min.name Lib.Math.min.code 2 (some .int) ∈ bg := bg2 109 rfl rfl
theorem wm_max : Cond.code Lib.Math.max.name Lib.Math.max.code 2 (some .int) ∈ bg := bg1 29 rfl rfl
theorem out_takeOf {T : St} {s b p nd B : Nat} (h : ∀ j, T.1 2 j + nd ≤ B) (hp : p ≤ nd) : ∀ j, (takeOf T s b p).1 2 j + (nd - p) ≤ B := by
  intro j
  have h1 := h j
  have h2 := h b
  show aU (aU T.1 25 (s * 60 + b) (T.1 25 (s * 60 + b) - p)) 2 b (T.1 2 b + p) 2 j + (nd - p) ≤ B
  by_cases hj : j = b
  · subst hj; rw [aU_s]; omega
  · rw [aU_e hj, aU_n (by decide)]; omega
theorem wX_adr {q : Nat → Nat} {cI : ClassId} {S S' : St} : (wX q cI S').map Prod.fst = (wX q cI S).map Prod.fst := rfl
section WRA
variable {p : Program} {l : Launch} {e : Env} {R : Room} {s : State} {m : MethodId} {args : Array Value} {below : List Frame} {meth : Method} {c : Code} {H : Heap} {locs : List Loc} {cells slots : Nat} {Q : State → Prop}
variable {pc : Nat} {ls : Array Slot} {rest st0 : List Value} {a : Array Value} {D : va_G} {cl : List vw_C} {ws ws' : va_W} {A : Nat → Prop} {H0 : Heap}
/-- a callee that has the whole world -/
theorem wr_goA {v : Option Value} (hr : va_Run p l e R s m args below meth c H locs cells slots 0 0 (F0 m pc ls st0) rest (wr_Q v D cl ws' (va_A ws H.size) a) (va_A ws H.size)) (hD : va_D A ws) (hS : va_S A H0 H locs) (hA : ∀ q : Nat, H0.size ≤ q → A q) (hadr : ws'.map Prod.fst = ws.map Prod.fst)
    (k : ∀ (H1 : Heap) (locs1 : List Loc), va_P D cl ws' H1 → va_D A ws' → va_S A H0 H1 locs1 → W p l e R s m args below meth c H1 locs1 cells slots Q (F0 m (pc + 3) ls (v.toList ++ rest))) :
    W p l e R s m args below meth c H locs cells slots Q (F0 m pc ls st0) := by
  intro T hT X
  obtain ⟨w, st₀, t, T', L, h0, X', hL, e1, e2, ⟨hv, hP1, hz, hk⟩, st⟩ := hr T hT X
  obtain rfl : w = v := Outcome.returned.inj hv
  rw [h0] at hz hk
  have hfree : ∀ q, va_A ws H.size q → A q := fun q hq => by
    rcases hq with ⟨k, e, hk⟩ | hge
    · exact hD.2 k (q, e) hk
    · exact hA q (Nat.le_trans hS.1 hge)
  obtain ⟨t2, a1, b1⟩ := k t.heap (locs ++ L) hP1 (D_adr hD hadr)
    ⟨Nat.le_trans hS.1 hz, fun q h1 h2 => by rw [hk q (Nat.lt_of_lt_of_le h1 hS.1) (fun z => h2 (hfree q z))]; exact hS.2.1 q h1 h2, fun q hq => by
      rcases List.mem_append.mp hq with h | h
      · exact hS.2.2 q h
      · exact hfree _ (hL q h)⟩ T' e1 X'
  exact ⟨t2, st t2 a1, b1⟩
end WRA
end
section
theorem min_nI {x y : Nat} (hx : x < 2 ^ 31) (hy : y < 2 ^ 31) : (if nI y < nI x then nI y else nI x) = nI (min x y) := by
  by_cases h : y < x
  · rw [if_pos ((nI_ltI hy hx).mpr h), Nat.min_eq_right (Nat.le_of_lt h)]
  · rw [if_neg (fun z => h ((nI_ltI hy hx).mp z)), Nat.min_eq_left (Nat.not_lt.mp h)]
set_option maxHeartbeats 4000000 in
set_option maxRecDepth 100000 in
theorem c_W_put (l : Launch) (dC : Nat → ClassId) (dI : Nat → Nat → Nat) (sz : Nat) (cI : ClassId) (r ca rm md n : Nat) (f : Nat → Int32) (i co : Nat) (v : Int32) (hi : i * 5 + co < n) (hn : n < 2 ^ 31) : Met l y_W_put (.code y_W_put b_W_put 4 none :: bg) { frames := 0, cells := 0, slots := 0, locals := 0 } (wr_P (dC, dI) classes [(r, .inr (1, [.int (nI rm), .ref ca, .int (nI md)])), (ca, .inl (cI, n, .inl f))] [(cI, .int)] sz [.ref r, .int (nI i), .int (nI co), .int v]) (wr_Q (none) (dC, dI) classes [(r, .inr (1, [.int (nI rm), .ref ca, .int (nI md)])), (ca, .inl (cI, n, .inl (upd f (i * 5 + co) v)))] (va_A [(r, .inr (1, [.int (nI rm), .ref ca, .int (nI md)])), (ca, .inl (cI, n, .inl f))] sz)) 0 0 (va_A [(r, .inr (1, [.int (nI rm), .ref ca, .int (nI md)])), (ca, .inl (cI, n, .inl f))] sz) := by
  refine Met.ofW (cc := b_W_put) (maxL := 4) (ret := none) (by decide) rfl ?_
  intro p e s m args below meth c s₁ B hml hv
  obtain ⟨rfl, hsz, hP, hK, hD0⟩ := hv
  subst hsz
  have hD := hD0.self (sz := s.heap.size)
  generalize hAe : va_A [(r, .inr (1, [.int (nI rm), .ref ca, .int (nI md)])), (ca, .inl (cI, n, .inl f))] s.heap.size = A at hD ⊢
  have hA : ∀ q : Nat, s.heap.size ≤ q → A q := fun q h => by rw [← hAe]; exact Or.inr h
  have hS : va_S A s.heap s.heap [] := va_S.rf
  have hx := B.exec
  have hb := B.bytes
  have hr := B.returns
  have hts := fun w (h : w ∈ bg) => atoms_spec (ws := .code y_W_put b_W_put 4 none :: bg) B.pre w (List.mem_cons_of_mem _ h)
  have hown : s.vm.findClass R_W = some m.cls := findClass_of_methodNamed B.named
  have hlocks := B.notSynchronized
  have hl := lv_entry ([.ref r, .int (nI i), .int (nI co), .int v]) (n := 4) (Nat.le_of_ble_eq_true rfl)
  rw [lg_entry_eq]
  generalize (lg_sl ([.ref r, .int (nI i), .int (nI co), .int v]) ++ List.replicate (4 - (lg_sl ([.ref r, .int (nI i), .int (nI co), .int v])).length) Slot.unset).toArray = ls at hl ⊢
  have hl : lv_has ls 4 [(0, .ref r), (1, .int (nI i)), (2, .int (nI co)), (3, .int v)] := hl
  refine lv_aload_n hx hb d_W_put_0 rfl (lv_at hl 0 rfl) ?_
  refine va_get (D := (dC, dI)) (ci := 1) (v := .ref ca) (C := R_W) (T := F_W) (N := 3) hx hb hts i_W hown hK hP 0 rfl rfl 1 (by decide) (hts _ wd_31) (fun _ h9 => h9) rfl d_W_put_1 ?_
  refine lv_iload_n hx hb d_W_put_4 rfl (lv_at hl 1 rfl) ?_
  refine lv_iconst (v := nI 5) hx hb d_W_put_5 (by decide) ?_
  refine nv_mul hx hb d_W_put_6 ?_
  refine lv_iload_n hx hb d_W_put_7 rfl (lv_at hl 2 rfl) ?_
  refine nv_add hx hb d_W_put_8 ?_
  refine lv_iload_n hx hb d_W_put_9 rfl (lv_at hl 3 rfl) ?_
  refine nv_iast (f' := upd f ((i * 5) + co) v) hx hb hK hP hD hS 1 0 rfl rfl (by omega) (by omega) rfl ([(r, .inr (1, [.int (nI rm), .ref ca, .int (nI md)])), (ca, .inl (cI, n, .inl (upd f ((i * 5) + co) v)))]) rfl d_W_put_10 (fun H locs hP hD hS => ?_)
  have hP9 : va_P (dC, dI) classes [(r, .inr (1, [.int (nI rm), .ref ca, .int (nI md)])), (ca, .inl (cI, n, .inl (upd f (i * 5 + co) v)))] _ := hP
  exact W.vret hx hb hr (fun t ht hW => ⟨rfl, by rw [ht]; exact hP9, hS.F ht⟩) hS.2.2 d_W_put_11
set_option maxHeartbeats 4000000 in
set_option maxRecDepth 100000 in
theorem c_W_add (l : Launch) (dC : Nat → ClassId) (dI : Nat → Nat → Nat) (sz : Nat) (cI : ClassId) (r ca rm md n : Nat) (f : Nat → Int32) (v0 v1 v2 v3 v4 : Int32) (hi : md * 5 + 4 < n) (hn : n < 2 ^ 31) : Met l y_W_add (.code y_W_add b_W_add 7 (some .int) :: bg) { frames := 1, cells := 0, slots := 0, locals := 23 } (wr_P (dC, dI) classes [(r, .inr (1, [.int (nI rm), .ref ca, .int (nI md)])), (ca, .inl (cI, n, .inl f))] [(cI, .int)] sz [.ref r, .int v0, .int v1, .int v2, .int v3, .int v4]) (wr_Q (some (.int (nI md))) (dC, dI) classes [(r, .inr (1, [.int (nI rm), .ref ca, .int (nI (md + 1))])), (ca, .inl (cI, n, .inl (upd (upd (upd (upd (upd f (md * 5 + 0) v0) (md * 5 + 1) v1) (md * 5 + 2) v2) (md * 5 + 3) v3) (md * 5 + 4) v4)))] (va_A [(r, .inr (1, [.int (nI rm), .ref ca, .int (nI md)])), (ca, .inl (cI, n, .inl f))] sz)) 0 0 (va_A [(r, .inr (1, [.int (nI rm), .ref ca, .int (nI md)])), (ca, .inl (cI, n, .inl f))] sz) := by
  refine Met.ofW (cc := b_W_add) (maxL := 7) (ret := (some .int)) (by decide) rfl ?_
  intro p e s m args below meth c s₁ B hml hv
  obtain ⟨rfl, hsz, hP, hK, hD0⟩ := hv
  subst hsz
  have hD := hD0.self (sz := s.heap.size)
  generalize hAe : va_A [(r, .inr (1, [.int (nI rm), .ref ca, .int (nI md)])), (ca, .inl (cI, n, .inl f))] s.heap.size = A at hD ⊢
  have hA : ∀ q : Nat, s.heap.size ≤ q → A q := fun q h => by rw [← hAe]; exact Or.inr h
  have hS : va_S A s.heap s.heap [] := va_S.rf
  have hx := B.exec
  have hb := B.bytes
  have hr := B.returns
  have hts := fun w (h : w ∈ bg) => atoms_spec (ws := .code y_W_add b_W_add 7 (some .int) :: bg) B.pre w (List.mem_cons_of_mem _ h)
  have hown : s.vm.findClass R_W = some m.cls := findClass_of_methodNamed B.named
  have hlocks := B.notSynchronized
  have hl := lv_entry ([.ref r, .int v0, .int v1, .int v2, .int v3, .int v4]) (n := 7) (Nat.le_of_ble_eq_true rfl)
  rw [lg_entry_eq]
  generalize (lg_sl ([.ref r, .int v0, .int v1, .int v2, .int v3, .int v4]) ++ List.replicate (7 - (lg_sl ([.ref r, .int v0, .int v1, .int v2, .int v3, .int v4])).length) Slot.unset).toArray = ls at hl ⊢
  have hl : lv_has ls 7 [(0, .ref r), (1, .int v0), (2, .int v1), (3, .int v2), (4, .int v3), (5, .int v4)] := hl
  refine lv_aload_n hx hb d_W_add_0 rfl (lv_at hl 0 rfl) ?_
  refine va_get (D := (dC, dI)) (ci := 1) (v := .int (nI md)) (C := R_W) (T := F_W) (N := 3) hx hb hts i_W hown hK hP 0 rfl rfl 2 (by decide) (hts _ wd_32) (fun _ h9 => h9) rfl d_W_add_1 ?_
  refine lv_istore (lv' := [(6, .int (nI md)), (0, .ref r), (1, .int v0), (2, .int v1), (3, .int v2), (4, .int v3), (5, .int v4)]) hx hb d_W_add_4 hl (by decide) rfl (fun ls hl => ?_)
  refine lv_aload_n hx hb d_W_add_6 rfl (lv_at hl 1 rfl) ?_
  refine lv_iload hx hb d_W_add_7 (lv_at hl 0 rfl) ?_
  refine lv_iconst (v := nI 0) hx hb d_W_add_9 (by decide) ?_
  refine lv_iload_n hx hb d_W_add_10 rfl (lv_at hl 2 rfl) ?_
  refine wr_go (va_runV (As := [.int (nI md), .int (nI 0), .int v0]) (rest := []) ⟨hx, hb, hml, hown, hts⟩ (c_W_put l dC dI s.heap.size cI r ca rm md n f md 0 v0 (by omega) (by omega)) (cwV 3 hts (gi_V wd_144 wd_145 wd_146 wd_2 wd_147) rfl rfl rfl (by decide +kernel) ⟨Nat.le_of_ble_eq_true rfl, Nat.le_of_ble_eq_true rfl⟩) (wr_preV hK (hP.sub [0, 1] rfl) (hD.sub [0, 1] (by decide) rfl) (ci := 1) (q0 := 0) rfl rfl) rfl rfl hl.1 rfl (lv_room (Nat.le_of_ble_eq_true rfl)) d_W_add_11 ⟨Nat.le_of_ble_eq_true rfl, Nat.le_of_ble_eq_true rfl⟩) hP hD hS hA [0, 1] rfl rfl ([(r, .inr (1, [.int (nI rm), .ref ca, .int (nI md)])), (ca, .inl (cI, n, .inl (upd f (md * 5 + 0) v0)))]) rfl rfl (fun H locs hP hD hS => ?_)
  refine W.eq (g2 := F0 m 14 ls []) rfl ?_
  refine lv_aload_n hx hb d_W_add_14 rfl (lv_at hl 1 rfl) ?_
  refine lv_iload hx hb d_W_add_15 (lv_at hl 0 rfl) ?_
  refine lv_iconst (v := nI 1) hx hb d_W_add_17 (by decide) ?_
  refine lv_iload_n hx hb d_W_add_18 rfl (lv_at hl 3 rfl) ?_
  refine wr_go (va_runV (As := [.int (nI md), .int (nI 1), .int v1]) (rest := []) ⟨hx, hb, hml, hown, hts⟩ (c_W_put l dC dI H.size cI r ca rm md n (upd f (md * 5 + 0) v0) md 1 v1 (by omega) (by omega)) (cwV 3 hts (gi_V wd_144 wd_145 wd_146 wd_2 wd_147) rfl rfl rfl (by decide +kernel) ⟨Nat.le_of_ble_eq_true rfl, Nat.le_of_ble_eq_true rfl⟩) (wr_preV hK (hP.sub [0, 1] rfl) (hD.sub [0, 1] (by decide) rfl) (ci := 1) (q0 := 0) rfl rfl) rfl rfl hl.1 rfl (lv_room (Nat.le_of_ble_eq_true rfl)) d_W_add_19 ⟨Nat.le_of_ble_eq_true rfl, Nat.le_of_ble_eq_true rfl⟩) hP hD hS hA [0, 1] rfl rfl ([(r, .inr (1, [.int (nI rm), .ref ca, .int (nI md)])), (ca, .inl (cI, n, .inl (upd (upd f (md * 5 + 0) v0) (md * 5 + 1) v1)))]) rfl rfl (fun H locs hP hD hS => ?_)
  refine W.eq (g2 := F0 m 22 ls []) rfl ?_
  refine lv_aload_n hx hb d_W_add_22 rfl (lv_at hl 1 rfl) ?_
  refine lv_iload hx hb d_W_add_23 (lv_at hl 0 rfl) ?_
  refine lv_iconst (v := nI 2) hx hb d_W_add_25 (by decide) ?_
  refine lv_iload_n hx hb d_W_add_26 rfl (lv_at hl 4 rfl) ?_
  refine wr_go (va_runV (As := [.int (nI md), .int (nI 2), .int v2]) (rest := []) ⟨hx, hb, hml, hown, hts⟩ (c_W_put l dC dI H.size cI r ca rm md n (upd (upd f (md * 5 + 0) v0) (md * 5 + 1) v1) md 2 v2 (by omega) (by omega)) (cwV 3 hts (gi_V wd_144 wd_145 wd_146 wd_2 wd_147) rfl rfl rfl (by decide +kernel) ⟨Nat.le_of_ble_eq_true rfl, Nat.le_of_ble_eq_true rfl⟩) (wr_preV hK (hP.sub [0, 1] rfl) (hD.sub [0, 1] (by decide) rfl) (ci := 1) (q0 := 0) rfl rfl) rfl rfl hl.1 rfl (lv_room (Nat.le_of_ble_eq_true rfl)) d_W_add_27 ⟨Nat.le_of_ble_eq_true rfl, Nat.le_of_ble_eq_true rfl⟩) hP hD hS hA [0, 1] rfl rfl ([(r, .inr (1, [.int (nI rm), .ref ca, .int (nI md)])), (ca, .inl (cI, n, .inl (upd (upd (upd f (md * 5 + 0) v0) (md * 5 + 1) v1) (md * 5 + 2) v2)))]) rfl rfl (fun H locs hP hD hS => ?_)
  refine W.eq (g2 := F0 m 30 ls []) rfl ?_
  refine lv_aload_n hx hb d_W_add_30 rfl (lv_at hl 1 rfl) ?_
  refine lv_iload hx hb d_W_add_31 (lv_at hl 0 rfl) ?_
  refine lv_iconst (v := nI 3) hx hb d_W_add_33 (by decide) ?_
  refine lv_iload hx hb d_W_add_34 (lv_at hl 5 rfl) ?_
  refine wr_go (va_runV (As := [.int (nI md), .int (nI 3), .int v3]) (rest := []) ⟨hx, hb, hml, hown, hts⟩ (c_W_put l dC dI H.size cI r ca rm md n (upd (upd (upd f (md * 5 + 0) v0) (md * 5 + 1) v1) (md * 5 + 2) v2) md 3 v3 (by omega) (by omega)) (cwV 3 hts (gi_V wd_144 wd_145 wd_146 wd_2 wd_147) rfl rfl rfl (by decide +kernel) ⟨Nat.le_of_ble_eq_true rfl, Nat.le_of_ble_eq_true rfl⟩) (wr_preV hK (hP.sub [0, 1] rfl) (hD.sub [0, 1] (by decide) rfl) (ci := 1) (q0 := 0) rfl rfl) rfl rfl hl.1 rfl (lv_room (Nat.le_of_ble_eq_true rfl)) d_W_add_36 ⟨Nat.le_of_ble_eq_true rfl, Nat.le_of_ble_eq_true rfl⟩) hP hD hS hA [0, 1] rfl rfl ([(r, .inr (1, [.int (nI rm), .ref ca, .int (nI md)])), (ca, .inl (cI, n, .inl (upd (upd (upd (upd f (md * 5 + 0) v0) (md * 5 + 1) v1) (md * 5 + 2) v2) (md * 5 + 3) v3)))]) rfl rfl (fun H locs hP hD hS => ?_)
  refine W.eq (g2 := F0 m 39 ls []) rfl ?_
  refine lv_aload_n hx hb d_W_add_39 rfl (lv_at hl 1 rfl) ?_
  refine lv_iload hx hb d_W_add_40 (lv_at hl 0 rfl) ?_
  refine lv_iconst (v := nI 4) hx hb d_W_add_42 (by decide) ?_
  refine lv_iload hx hb d_W_add_43 (lv_at hl 6 rfl) ?_
  refine wr_go (va_runV (As := [.int (nI md), .int (nI 4), .int v4]) (rest := []) ⟨hx, hb, hml, hown, hts⟩ (c_W_put l dC dI H.size cI r ca rm md n (upd (upd (upd (upd f (md * 5 + 0) v0) (md * 5 + 1) v1) (md * 5 + 2) v2) (md * 5 + 3) v3) md 4 v4 (by omega) (by omega)) (cwV 3 hts (gi_V wd_144 wd_145 wd_146 wd_2 wd_147) rfl rfl rfl (by decide +kernel) ⟨Nat.le_of_ble_eq_true rfl, Nat.le_of_ble_eq_true rfl⟩) (wr_preV hK (hP.sub [0, 1] rfl) (hD.sub [0, 1] (by decide) rfl) (ci := 1) (q0 := 0) rfl rfl) rfl rfl hl.1 rfl (lv_room (Nat.le_of_ble_eq_true rfl)) d_W_add_45 ⟨Nat.le_of_ble_eq_true rfl, Nat.le_of_ble_eq_true rfl⟩) hP hD hS hA [0, 1] rfl rfl ([(r, .inr (1, [.int (nI rm), .ref ca, .int (nI md)])), (ca, .inl (cI, n, .inl (upd (upd (upd (upd (upd f (md * 5 + 0) v0) (md * 5 + 1) v1) (md * 5 + 2) v2) (md * 5 + 3) v3) (md * 5 + 4) v4)))]) rfl rfl (fun H locs hP hD hS => ?_)
  refine W.eq (g2 := F0 m 48 ls []) rfl ?_
  refine lv_aload_n hx hb d_W_add_48 rfl (lv_at hl 1 rfl) ?_
  refine lv_dup hx hb d_W_add_49 rfl ?_
  refine va_get (D := (dC, dI)) (ci := 1) (v := .int (nI md)) (C := R_W) (T := F_W) (N := 3) hx hb hts i_W hown hK hP 0 rfl rfl 2 (by decide) (hts _ wd_32) (fun _ h9 => h9) rfl d_W_add_50 ?_
  refine lv_iconst (v := nI 1) hx hb d_W_add_53 (by decide) ?_
  refine nv_add hx hb d_W_add_54 ?_
  refine va_put (D := (dC, dI)) (ci := 1) (v := .int (nI (md + 1))) (ty := .int) (C := R_W) (T := F_W) (N := 3) hx hb hts i_W ty_W ty_W_ok n_W hown hK hP hD hS 0 rfl rfl 2 (by decide) (hts _ wd_32) (fun _ h9 => h9) rfl (by decide +kernel) rfl rfl (Nat.le_of_ble_eq_true rfl) d_W_add_55 (fun H locs hP hD hS => ?_)
  have hP : va_P (dC, dI) classes [(r, .inr (1, [.int (nI rm), .ref ca, .int (nI (md + 1))])), (ca, .inl (cI, n, .inl (upd (upd (upd (upd (upd f (md * 5 + 0) v0) (md * 5 + 1) v1) (md * 5 + 2) v2) (md * 5 + 3) v3) (md * 5 + 4) v4)))] H := hP
  have hD : va_D A [(r, .inr (1, [.int (nI rm), .ref ca, .int (nI (md + 1))])), (ca, .inl (cI, n, .inl (upd (upd (upd (upd (upd f (md * 5 + 0) v0) (md * 5 + 1) v1) (md * 5 + 2) v2) (md * 5 + 3) v3) (md * 5 + 4) v4)))] := hD
  refine lv_iload hx hb d_W_add_58 (lv_at hl 0 rfl) ?_
  have hP9 : va_P (dC, dI) classes [(r, .inr (1, [.int (nI rm), .ref ca, .int (nI (md + 1))])), (ca, .inl (cI, n, .inl (upd (upd (upd (upd (upd f (md * 5 + 0) v0) (md * 5 + 1) v1) (md * 5 + 2) v2) (md * 5 + 3) v3) (md * 5 + 4) v4)))] _ := hP
  exact W.iret hx hb hr (fun t ht hW => ⟨rfl, by rw [ht]; exact hP9, hS.F ht⟩) hS.2.2 d_W_add_60
end
section
set_option maxHeartbeats 4000000 in
set_option maxRecDepth 100000 in
theorem c_X_change (l : Launch) (dC : Nat → ClassId) (dI : Nat → Nat → Nat) (sz : Nat) (cI : ClassId) (q : Nat → Nat) (S : St) (t : Nat) (hI : Bd t S) (st y v : Nat) (x : Int32) (hs : st < 8) (hy : y < 60) (hv : nI (S.1 25 (st * 60 + y)) + x = nI v) : Met l y_X_change (.code y_X_change b_X_change 4 none :: bg) { frames := 1, cells := 0, slots := 0, locals := 21 } (wr_P (dC, dI) classes (wX q cI S) [(cI, .int)] sz [.ref (q 0), .int (nI st), .int (nI y), .int x]) (wr_Q (none) (dC, dI) classes (wX q cI (S_a S 25 (st * 60 + y) v)) (va_A (wX q cI S) sz)) 0 0 (va_A (wX q cI S) sz) := by
  refine Met.ofW (cc := b_X_change) (maxL := 4) (ret := none) (by decide) rfl ?_
  intro p e s m args below meth c s₁ B hml hv
  obtain ⟨rfl, hsz, hP, hK, hD0⟩ := hv
  subst hsz
  have hD := hD0.self (sz := s.heap.size)
  generalize hAe : va_A (wX q cI S) s.heap.size = A at hD ⊢
  have hA : ∀ q : Nat, s.heap.size ≤ q → A q := fun q h => by rw [← hAe]; exact Or.inr h
  have hS : va_S A s.heap s.heap [] := va_S.rf
  have hx := B.exec
  have hb := B.bytes
  have hr := B.returns
  have hts := fun w (h : w ∈ bg) => atoms_spec (ws := .code y_X_change b_X_change 4 none :: bg) B.pre w (List.mem_cons_of_mem _ h)
  have hown : s.vm.findClass R_X = some m.cls := findClass_of_methodNamed B.named
  have hlocks := B.notSynchronized
  have hl := lv_entry ([.ref (q 0), .int (nI st), .int (nI y), .int x]) (n := 4) (Nat.le_of_ble_eq_true rfl)
  rw [lg_entry_eq]
  generalize (lg_sl ([.ref (q 0), .int (nI st), .int (nI y), .int x]) ++ List.replicate (4 - (lg_sl ([.ref (q 0), .int (nI st), .int (nI y), .int x])).length) Slot.unset).toArray = ls at hl ⊢
  have hl : lv_has ls 4 [(0, .ref (q 0)), (1, .int (nI st)), (2, .int (nI y)), (3, .int x)] := hl
  have hB := hI.1
  have hg0 : S.2.1 0 ≤ 8 := hI.2.1 0
  have hg1 : S.2.1 1 ≤ 9999 := hI.2.1 1
  have hg2 : S.2.1 2 ≤ 60 := hI.2.1 2
  have hg3 : S.2.1 3 ≤ 60 := hI.2.1 3
  have hg4 : S.2.1 4 ≤ 80 := hI.2.1 4
  have hg5 : S.2.1 5 ≤ 20 := hI.2.1 5
  have hg6 : S.2.1 6 ≤ 80 := hI.2.1 6
  have hg7 : S.2.1 7 ≤ 10 := hI.2.1 7
  have hg8 : t ≤ 512 := hI.2.2
  refine lv_aload_n hx hb d_X_change_0 rfl (lv_at hl 0 rfl) ?_
  refine va_get (D := (dC, dI)) (ci := 0) (v := .ref (q 7)) (C := R_X) (T := F_X) (N := 12) hx hb hts i_X hown hK hP 0 rfl rfl 6 (by decide) (hts _ wd_63) (fun _ h9 => h9) rfl d_X_change_1 ?_
  refine lv_iload_n hx hb d_X_change_4 rfl (lv_at hl 1 rfl) ?_
  refine lv_iload_n hx hb d_X_change_5 rfl (lv_at hl 2 rfl) ?_
  refine pu_go (va_runS (As := [.int (nI st), .int (nI y)]) (rest := [.ref (q 7)]) ⟨hx, hb, hml, hown, hts⟩ (c_X_place l dC dI st y) (cwS 2 hts (gi_S wd_125 wd_126 wd_1 wd_127) rfl rfl rfl (by decide +kernel) ⟨Nat.le_of_ble_eq_true rfl, Nat.le_of_ble_eq_true rfl⟩) (pu_preS (hK.sub (tys' := []) [] rfl) (fun k q h => by simp at h)) rfl rfl hl.1 rfl (lv_room (Nat.le_of_ble_eq_true rfl)) d_X_change_6 ⟨Nat.le_of_ble_eq_true rfl, Nat.le_of_ble_eq_true rfl⟩) ?_
  refine lv_dup2_11 hx hb d_X_change_9 rfl rfl ?_
  refine nv_iald (v := nI (S.1 25 (st * 60 + y))) hx hb hK hP 7 0 rfl rfl (by omega) (by decide) rfl d_X_change_10 ?_
  refine lv_iload_n hx hb d_X_change_11 rfl (lv_at hl 3 rfl) ?_
  refine lv_iadd hx hb d_X_change_12 ?_
  refine nv_as (nI v) hv ?_
  refine nv_iast (f' := upd (colf S.1 25) (st * 60 + y) (nI v)) hx hb hK hP hD hS 7 0 rfl rfl (by omega) (by decide) rfl (wX q cI (S_a S 25 (st * 60 + y) v)) wX_c25 d_X_change_13 (fun H locs hP hD hS => ?_)
  have hP9 : va_P (dC, dI) classes (wX q cI (S_a S 25 (st * 60 + y) v)) H := hP
  exact W.vret hx hb hr (fun t ht hW => ⟨rfl, by rw [ht]; exact hP9, hS.F ht⟩) hS.2.2 d_X_change_14
set_option maxHeartbeats 4000000 in
set_option maxRecDepth 100000 in
theorem c_X_addUpToMost (l : Launch) (dC : Nat → ClassId) (dI : Nat → Nat → Nat) (sz : Nat) (cI : ClassId) (q : Nat → Nat) (S : St) (t : Nat) (hI : Bd t S) (st y n : Nat) (hs : st < 8) (hy : y < 60) (hn : n ≤ 9999) : Met l y_X_addUpToMost (.code y_X_addUpToMost b_X_addUpToMost 5 none :: bg) { frames := 1, cells := 0, slots := 0, locals := 40 } (wr_P (dC, dI) classes (wX q cI S) [(cI, .int)] sz [.ref (q 0), .int (nI st), .int (nI y), .int (nI n)]) (wr_Q (none) (dC, dI) classes (wX q cI (addUp S st y n)) (va_A (wX q cI S) sz)) 0 0 (va_A (wX q cI S) sz) := by
  refine Met.ofW (cc := b_X_addUpToMost) (maxL := 5) (ret := none) (by decide) rfl ?_
  intro p e s m args below meth c s₁ B hml hv
  obtain ⟨rfl, hsz, hP, hK, hD0⟩ := hv
  subst hsz
  have hD := hD0.self (sz := s.heap.size)
  generalize hAe : va_A (wX q cI S) s.heap.size = A at hD ⊢
  have hA : ∀ q : Nat, s.heap.size ≤ q → A q := fun q h => by rw [← hAe]; exact Or.inr h
  have hS : va_S A s.heap s.heap [] := va_S.rf
  have hx := B.exec
  have hb := B.bytes
  have hr := B.returns
  have hts := fun w (h : w ∈ bg) => atoms_spec (ws := .code y_X_addUpToMost b_X_addUpToMost 5 none :: bg) B.pre w (List.mem_cons_of_mem _ h)
  have hown : s.vm.findClass R_X = some m.cls := findClass_of_methodNamed B.named
  have hlocks := B.notSynchronized
  have hl := lv_entry ([.ref (q 0), .int (nI st), .int (nI y), .int (nI n)]) (n := 5) (Nat.le_of_ble_eq_true rfl)
  rw [lg_entry_eq]
  generalize (lg_sl ([.ref (q 0), .int (nI st), .int (nI y), .int (nI n)]) ++ List.replicate (5 - (lg_sl ([.ref (q 0), .int (nI st), .int (nI y), .int (nI n)])).length) Slot.unset).toArray = ls at hl ⊢
  have hl : lv_has ls 5 [(0, .ref (q 0)), (1, .int (nI st)), (2, .int (nI y)), (3, .int (nI n))] := hl
  have hB := hI.1
  have hg0 : S.2.1 0 ≤ 8 := hI.2.1 0
  have hg1 : S.2.1 1 ≤ 9999 := hI.2.1 1
  have hg2 : S.2.1 2 ≤ 60 := hI.2.1 2
  have hg3 : S.2.1 3 ≤ 60 := hI.2.1 3
  have hg4 : S.2.1 4 ≤ 80 := hI.2.1 4
  have hg5 : S.2.1 5 ≤ 20 := hI.2.1 5
  have hg6 : S.2.1 6 ≤ 80 := hI.2.1 6
  have hg7 : S.2.1 7 ≤ 10 := hI.2.1 7
  have hg8 : t ≤ 512 := hI.2.2
  refine lv_iload_n hx hb d_X_addUpToMost_0 rfl (lv_at hl 1 rfl) ?_
  refine lv_iload_n hx hb d_X_addUpToMost_1 rfl (lv_at hl 2 rfl) ?_
  refine pu_go (va_runS (As := [.int (nI st), .int (nI y)]) (rest := []) ⟨hx, hb, hml, hown, hts⟩ (c_X_place l dC dI st y) (cwS 2 hts (gi_S wd_125 wd_126 wd_1 wd_127) rfl rfl rfl (by decide +kernel) ⟨Nat.le_of_ble_eq_true rfl, Nat.le_of_ble_eq_true rfl⟩) (pu_preS (hK.sub (tys' := []) [] rfl) (fun k q h => by simp at h)) rfl rfl hl.1 rfl (lv_room (Nat.le_of_ble_eq_true rfl)) d_X_addUpToMost_2 ⟨Nat.le_of_ble_eq_true rfl, Nat.le_of_ble_eq_true rfl⟩) ?_
  refine lv_istore (lv' := [(4, .int (nI (st * 60 + y))), (0, .ref (q 0)), (1, .int (nI st)), (2, .int (nI y)), (3, .int (nI n))]) hx hb d_X_addUpToMost_5 hl (by decide) rfl (fun ls hl => ?_)
  refine lv_aload_n hx hb d_X_addUpToMost_7 rfl (lv_at hl 1 rfl) ?_
  refine va_get (D := (dC, dI)) (ci := 0) (v := .ref (q 7)) (C := R_X) (T := F_X) (N := 12) hx hb hts i_X hown hK hP 0 rfl rfl 6 (by decide) (hts _ wd_63) (fun _ h9 => h9) rfl d_X_addUpToMost_8 ?_
  refine lv_iload hx hb d_X_addUpToMost_11 (lv_at hl 0 rfl) ?_
  refine lv_sipush (v := nI 9999) hx hb d_X_addUpToMost_13 (by decide) ?_
  refine lv_aload_n hx hb d_X_addUpToMost_16 rfl (lv_at hl 1 rfl) ?_
  refine va_get (D := (dC, dI)) (ci := 0) (v := .ref (q 7)) (C := R_X) (T := F_X) (N := 12) hx hb hts i_X hown hK hP 0 rfl rfl 6 (by decide) (hts _ wd_63) (fun _ h9 => h9) rfl d_X_addUpToMost_17 ?_
  refine lv_iload hx hb d_X_addUpToMost_20 (lv_at hl 0 rfl) ?_
  refine nv_iald (v := nI (S.1 25 (st * 60 + y))) hx hb hK hP 7 0 rfl rfl (by omega) (by decide) rfl d_X_addUpToMost_22 ?_
  have hb9 : S.1 25 (st * 60 + y) ≤ 9999 := hB 25 _
  refine lv_iload_n hx hb d_X_addUpToMost_23 rfl (lv_at hl 4 rfl) ?_
  refine nv_add hx hb d_X_addUpToMost_24 ?_
  refine va_mmin hx hb (hml.trans hl.1.symm) hown (hts _ wd_347) (hts _ wd_348) (hts _ wd_3) (hts _ wm_min) (Nat.le_of_ble_eq_true rfl) (Nat.le_of_ble_eq_true rfl) (Nat.le_of_ble_eq_true rfl) (Nat.le_of_ble_eq_true rfl) d_X_addUpToMost_25 ?_
  refine nv_as (nI (min 9999 ((S.1 25 (st * 60 + y)) + n))) (min_nI (by omega) (by omega)) ?_
  refine nv_iast (f' := upd (colf S.1 25) (st * 60 + y) (nI (min 9999 ((S.1 25 (st * 60 + y)) + n)))) hx hb hK hP hD hS 7 0 rfl rfl (by omega) (by decide) rfl (wX q cI (S_a S 25 (st * 60 + y) (min 9999 ((S.1 25 (st * 60 + y)) + n)))) wX_c25 d_X_addUpToMost_28 (fun H locs hP hD hS => ?_)
  have hP9 : va_P (dC, dI) classes (wX q cI (addUp S st y n)) H := hP
  exact W.vret hx hb hr (fun t ht hW => ⟨rfl, by rw [ht]; exact hP9, hS.F ht⟩) hS.2.2 d_X_addUpToMost_29
set_option maxHeartbeats 4000000 in
set_option maxRecDepth 100000 in
theorem c_X_arrive (l : Launch) (dC : Nat → ClassId) (dI : Nat → Nat → Nat) (sz : Nat) (cI : ClassId) (q : Nat → Nat) (S : St) (t : Nat) (hI : Bd t S) (i : Nat) (hi : i < 60) : Met l y_X_arrive (.code y_X_arrive b_X_arrive 2 none :: bg) { frames := 2, cells := 0, slots := 0, locals := 64 } (wr_P (dC, dI) classes (wX q cI S) [(cI, .int)] sz [.ref (q 0), .int (nI i)]) (wr_Q (none) (dC, dI) classes (wX q cI (come S i)) (va_A (wX q cI S) sz)) 0 0 (va_A (wX q cI S) sz) := by
  refine Met.ofW (cc := b_X_arrive) (maxL := 2) (ret := none) (by decide) rfl ?_
  intro p e s m args below meth c s₁ B hml hv
  obtain ⟨rfl, hsz, hP, hK, hD0⟩ := hv
  subst hsz
  have hD := hD0.self (sz := s.heap.size)
  generalize hAe : va_A (wX q cI S) s.heap.size = A at hD ⊢
  have hA : ∀ q : Nat, s.heap.size ≤ q → A q := fun q h => by rw [← hAe]; exact Or.inr h
  have hS : va_S A s.heap s.heap [] := va_S.rf
  have hx := B.exec
  have hb := B.bytes
  have hr := B.returns
  have hts := fun w (h : w ∈ bg) => atoms_spec (ws := .code y_X_arrive b_X_arrive 2 none :: bg) B.pre w (List.mem_cons_of_mem _ h)
  have hown : s.vm.findClass R_X = some m.cls := findClass_of_methodNamed B.named
  have hlocks := B.notSynchronized
  have hl := lv_entry ([.ref (q 0), .int (nI i)]) (n := 2) (Nat.le_of_ble_eq_true rfl)
  rw [lg_entry_eq]
  generalize (lg_sl ([.ref (q 0), .int (nI i)]) ++ List.replicate (2 - (lg_sl ([.ref (q 0), .int (nI i)])).length) Slot.unset).toArray = ls at hl ⊢
  have hl : lv_has ls 2 [(0, .ref (q 0)), (1, .int (nI i))] := hl
  have hB := hI.1
  have hg0 : S.2.1 0 ≤ 8 := hI.2.1 0
  have hg1 : S.2.1 1 ≤ 9999 := hI.2.1 1
  have hg2 : S.2.1 2 ≤ 60 := hI.2.1 2
  have hg3 : S.2.1 3 ≤ 60 := hI.2.1 3
  have hg4 : S.2.1 4 ≤ 80 := hI.2.1 4
  have hg5 : S.2.1 5 ≤ 20 := hI.2.1 5
  have hg6 : S.2.1 6 ≤ 80 := hI.2.1 6
  have hg7 : S.2.1 7 ≤ 10 := hI.2.1 7
  have hg8 : t ≤ 512 := hI.2.2
  refine lv_aload_n hx hb d_X_arrive_0 rfl (lv_at hl 0 rfl) ?_
  refine va_get (D := (dC, dI)) (ci := 0) (v := .ref (q 2)) (C := R_X) (T := F_X) (N := 12) hx hb hts i_X hown hK hP 0 rfl rfl 1 (by decide) (hts _ wd_58) (fun _ h9 => h9) rfl d_X_arrive_1 ?_
  refine lv_iload_n hx hb d_X_arrive_4 rfl (lv_at hl 1 rfl) ?_
  refine lv_iconst (v := nI 4) hx hb d_X_arrive_5 (by decide) ?_
  refine lv_iconst (v := nI 0) hx hb d_X_arrive_6 (by decide) ?_
  refine wr_go (va_runV (As := [.int (nI i), .int (nI 4), .int (nI 0)]) (rest := []) ⟨hx, hb, hml, hown, hts⟩ (c_W_put l dC dI s.heap.size cI (q 2) (q 12) 60 (S.2.1 3) 300 (rowf S.1 5) i 4 (nI 0) (by omega) (by decide)) (cwV 3 hts (gi_V wd_342 wd_145 wd_146 wd_2 wd_147) rfl rfl rfl (by decide +kernel) ⟨Nat.le_of_ble_eq_true rfl, Nat.le_of_ble_eq_true rfl⟩) (wr_preV hK (hP.sub [2, 12] rfl) (hD.sub [2, 12] (by decide) rfl) (ci := 1) (q0 := 0) rfl rfl) rfl rfl hl.1 rfl (lv_room (Nat.le_of_ble_eq_true rfl)) d_X_arrive_7 ⟨Nat.le_of_ble_eq_true rfl, Nat.le_of_ble_eq_true rfl⟩) hP hD hS hA [2, 12] rfl rfl (wX q cI (S_a S (5 + 4) i 0)) (wX_r5 (by decide)) rfl (fun H locs hP hD hS => ?_)
  refine W.eq (g2 := F0 m 10 ls []) rfl ?_
  obtain ⟨S1, hS1⟩ : ∃ z : St, z = S_a S (5 + 4) i 0 := ⟨_, rfl⟩
  rw [← hS1] at hP hD
  have hIS1 : Bd t S1 := by rw [hS1]; exact Bd_a hI (Nat.zero_le _)
  have hBS1 := hIS1.1
  have hg0 : S1.2.1 0 ≤ 8 := hIS1.2.1 0
  have hg1 : S1.2.1 1 ≤ 9999 := hIS1.2.1 1
  have hg2 : S1.2.1 2 ≤ 60 := hIS1.2.1 2
  have hg3 : S1.2.1 3 ≤ 60 := hIS1.2.1 3
  have hg4 : S1.2.1 4 ≤ 80 := hIS1.2.1 4
  have hg5 : S1.2.1 5 ≤ 20 := hIS1.2.1 5
  have hg6 : S1.2.1 6 ≤ 80 := hIS1.2.1 6
  have hg7 : S1.2.1 7 ≤ 10 := hIS1.2.1 7
  have hg8 : t ≤ 512 := hIS1.2.2
  refine lv_aload_n hx hb d_X_arrive_10 rfl (lv_at hl 0 rfl) ?_
  refine lv_aload_n hx hb d_X_arrive_11 rfl (lv_at hl 0 rfl) ?_
  refine va_get (D := (dC, dI)) (ci := 0) (v := .ref (q 2)) (C := R_X) (T := F_X) (N := 12) hx hb hts i_X hown hK hP 0 rfl rfl 1 (by decide) (hts _ wd_58) (fun _ h9 => h9) rfl d_X_arrive_12 ?_
  refine lv_iload_n hx hb d_X_arrive_15 rfl (lv_at hl 1 rfl) ?_
  refine lv_iconst (v := nI 0) hx hb d_X_arrive_16 (by decide) ?_
  refine pu_go (va_runV (As := [.int (nI i), .int (nI 0)]) (rest := [.ref (q 0)]) ⟨hx, hb, hml, hown, hts⟩ (c_W_at l dC dI cI (q 2) (q 12) 60 (S1.2.1 3) 300 (rowf S1.1 5) i 0 (by omega) (by decide)) (cwV 2 hts (gi_V wd_117 wd_118 wd_119 wd_2 wd_120) rfl rfl rfl (by decide +kernel) ⟨Nat.le_of_ble_eq_true rfl, Nat.le_of_ble_eq_true rfl⟩) (pu_preV hK (hP.sub [2, 12] rfl) (ci := 1) (q0 := 0) rfl rfl) rfl rfl hl.1 rfl (lv_room (Nat.le_of_ble_eq_true rfl)) d_X_arrive_17 ⟨Nat.le_of_ble_eq_true rfl, Nat.le_of_ble_eq_true rfl⟩) ?_
  refine nv_as (nI (S1.1 5 i)) (rowf_at (by decide)) ?_
  have hb1 : S1.1 5 i ≤ 7 := hBS1 5 _
  refine lv_aload_n hx hb d_X_arrive_20 rfl (lv_at hl 0 rfl) ?_
  refine va_get (D := (dC, dI)) (ci := 0) (v := .ref (q 2)) (C := R_X) (T := F_X) (N := 12) hx hb hts i_X hown hK hP 0 rfl rfl 1 (by decide) (hts _ wd_58) (fun _ h9 => h9) rfl d_X_arrive_21 ?_
  refine lv_iload_n hx hb d_X_arrive_24 rfl (lv_at hl 1 rfl) ?_
  refine lv_iconst (v := nI 1) hx hb d_X_arrive_25 (by decide) ?_
  refine pu_go (va_runV (As := [.int (nI i), .int (nI 1)]) (rest := [.int (nI (S1.1 5 i)), .ref (q 0)]) ⟨hx, hb, hml, hown, hts⟩ (c_W_at l dC dI cI (q 2) (q 12) 60 (S1.2.1 3) 300 (rowf S1.1 5) i 1 (by omega) (by decide)) (cwV 2 hts (gi_V wd_117 wd_118 wd_119 wd_2 wd_120) rfl rfl rfl (by decide +kernel) ⟨Nat.le_of_ble_eq_true rfl, Nat.le_of_ble_eq_true rfl⟩) (pu_preV hK (hP.sub [2, 12] rfl) (ci := 1) (q0 := 0) rfl rfl) rfl rfl hl.1 rfl (lv_room (Nat.le_of_ble_eq_true rfl)) d_X_arrive_26 ⟨Nat.le_of_ble_eq_true rfl, Nat.le_of_ble_eq_true rfl⟩) ?_
  refine nv_as (nI (S1.1 6 i)) (rowf_at (by decide)) ?_
  have hb2 : S1.1 6 i ≤ 59 := hBS1 6 _
  refine lv_aload_n hx hb d_X_arrive_29 rfl (lv_at hl 0 rfl) ?_
  refine va_get (D := (dC, dI)) (ci := 0) (v := .ref (q 2)) (C := R_X) (T := F_X) (N := 12) hx hb hts i_X hown hK hP 0 rfl rfl 1 (by decide) (hts _ wd_58) (fun _ h9 => h9) rfl d_X_arrive_30 ?_
  refine lv_iload_n hx hb d_X_arrive_33 rfl (lv_at hl 1 rfl) ?_
  refine lv_iconst (v := nI 2) hx hb d_X_arrive_34 (by decide) ?_
  refine pu_go (va_runV (As := [.int (nI i), .int (nI 2)]) (rest := [.int (nI (S1.1 6 i)), .int (nI (S1.1 5 i)), .ref (q 0)]) ⟨hx, hb, hml, hown, hts⟩ (c_W_at l dC dI cI (q 2) (q 12) 60 (S1.2.1 3) 300 (rowf S1.1 5) i 2 (by omega) (by decide)) (cwV 2 hts (gi_V wd_117 wd_118 wd_119 wd_2 wd_120) rfl rfl rfl (by decide +kernel) ⟨Nat.le_of_ble_eq_true rfl, Nat.le_of_ble_eq_true rfl⟩) (pu_preV hK (hP.sub [2, 12] rfl) (ci := 1) (q0 := 0) rfl rfl) rfl rfl hl.1 rfl (lv_room (Nat.le_of_ble_eq_true rfl)) d_X_arrive_35 ⟨Nat.le_of_ble_eq_true rfl, Nat.le_of_ble_eq_true rfl⟩) ?_
  refine nv_as (nI (S1.1 7 i)) (rowf_at (by decide)) ?_
  have hb3 : S1.1 7 i ≤ 9999 := hBS1 7 _
  refine wr_goA (va_runV (As := [.int (nI (S1.1 5 i)), .int (nI (S1.1 6 i)), .int (nI (S1.1 7 i))]) (rest := []) ⟨hx, hb, hml, hown, hts⟩ (c_X_addUpToMost l dC dI H.size cI q S1 t hIS1 (S1.1 5 i) (S1.1 6 i) (S1.1 7 i) (by omega) (by omega) (by omega)) (cwV 3 hts (gi_V wd_343 wd_345 wp_13 wd_1 wd_346) rfl rfl rfl (by decide +kernel) ⟨Nat.le_of_ble_eq_true rfl, Nat.le_of_ble_eq_true rfl⟩) (wr_preV hK hP hD (ci := 0) (q0 := 0) rfl rfl) rfl rfl hl.1 rfl (lv_room (Nat.le_of_ble_eq_true rfl)) d_X_arrive_38 ⟨Nat.le_of_ble_eq_true rfl, Nat.le_of_ble_eq_true rfl⟩) hD hS hA wX_adr (fun H locs hP hD hS => ?_)
  refine W.eq (g2 := F0 m 41 ls []) rfl ?_
  have hP9 : va_P (dC, dI) classes (wX q cI (come S i)) H := by rw [hS1] at hP; exact hP
  exact W.vret hx hb hr (fun t ht hW => ⟨rfl, by rw [ht]; exact hP9, hS.F ht⟩) hS.2.2 d_X_arrive_41
set_option maxHeartbeats 4000000 in
set_option maxRecDepth 100000 in
theorem c_X_addOrder (l : Launch) (dC : Nat → ClassId) (dI : Nat → Nat → Nat) (sz : Nat) (cI : ClassId) (q : Nat → Nat) (S : St) (t : Nat) (hI : Bd t S) (st kd n : Nat) (ho : S.2.1 4 < 80) : Met l y_X_addOrder (.code y_X_addOrder b_X_addOrder 4 (some .int) :: bg) { frames := 2, cells := 0, slots := 0, locals := 49 } (wr_P (dC, dI) classes (wX q cI S) [(cI, .int)] sz [.ref (q 0), .int (nI st), .int (nI kd), .int (nI n)]) (wr_Q (some (.int (nI (S.2.1 4)))) (dC, dI) classes (wX q cI (addOrd S st kd n)) (va_A (wX q cI S) sz)) 0 0 (va_A (wX q cI S) sz) := by
  refine Met.ofW (cc := b_X_addOrder) (maxL := 4) (ret := (some .int)) (by decide) rfl ?_
  intro p e s m args below meth c s₁ B hml hv
  obtain ⟨rfl, hsz, hP, hK, hD0⟩ := hv
  subst hsz
  have hD := hD0.self (sz := s.heap.size)
  generalize hAe : va_A (wX q cI S) s.heap.size = A at hD ⊢
  have hA : ∀ q : Nat, s.heap.size ≤ q → A q := fun q h => by rw [← hAe]; exact Or.inr h
  have hS : va_S A s.heap s.heap [] := va_S.rf
  have hx := B.exec
  have hb := B.bytes
  have hr := B.returns
  have hts := fun w (h : w ∈ bg) => atoms_spec (ws := .code y_X_addOrder b_X_addOrder 4 (some .int) :: bg) B.pre w (List.mem_cons_of_mem _ h)
  have hown : s.vm.findClass R_X = some m.cls := findClass_of_methodNamed B.named
  have hlocks := B.notSynchronized
  have hl := lv_entry ([.ref (q 0), .int (nI st), .int (nI kd), .int (nI n)]) (n := 4) (Nat.le_of_ble_eq_true rfl)
  rw [lg_entry_eq]
  generalize (lg_sl ([.ref (q 0), .int (nI st), .int (nI kd), .int (nI n)]) ++ List.replicate (4 - (lg_sl ([.ref (q 0), .int (nI st), .int (nI kd), .int (nI n)])).length) Slot.unset).toArray = ls at hl ⊢
  have hl : lv_has ls 4 [(0, .ref (q 0)), (1, .int (nI st)), (2, .int (nI kd)), (3, .int (nI n))] := hl
  have hB := hI.1
  have hg0 : S.2.1 0 ≤ 8 := hI.2.1 0
  have hg1 : S.2.1 1 ≤ 9999 := hI.2.1 1
  have hg2 : S.2.1 2 ≤ 60 := hI.2.1 2
  have hg3 : S.2.1 3 ≤ 60 := hI.2.1 3
  have hg4 : S.2.1 4 ≤ 80 := hI.2.1 4
  have hg5 : S.2.1 5 ≤ 20 := hI.2.1 5
  have hg6 : S.2.1 6 ≤ 80 := hI.2.1 6
  have hg7 : S.2.1 7 ≤ 10 := hI.2.1 7
  have hg8 : t ≤ 512 := hI.2.2
  refine lv_aload_n hx hb d_X_addOrder_0 rfl (lv_at hl 0 rfl) ?_
  refine va_get (D := (dC, dI)) (ci := 0) (v := .ref (q 3)) (C := R_X) (T := F_X) (N := 12) hx hb hts i_X hown hK hP 0 rfl rfl 2 (by decide) (hts _ wd_59) (fun _ h9 => h9) rfl d_X_addOrder_1 ?_
  refine lv_iload_n hx hb d_X_addOrder_4 rfl (lv_at hl 1 rfl) ?_
  refine lv_iload_n hx hb d_X_addOrder_5 rfl (lv_at hl 2 rfl) ?_
  refine lv_iload_n hx hb d_X_addOrder_6 rfl (lv_at hl 3 rfl) ?_
  refine lv_aload_n hx hb d_X_addOrder_7 rfl (lv_at hl 0 rfl) ?_
  refine va_get (D := (dC, dI)) (ci := 0) (v := .int (nI (S.2.1 1))) (C := R_X) (T := F_X) (N := 12) hx hb hts i_X hown hK hP 0 rfl rfl 11 (by decide) (hts _ wd_68) (fun _ h9 => h9) rfl d_X_addOrder_8 ?_
  refine lv_iconst (v := nI 1) hx hb d_X_addOrder_11 (by decide) ?_
  refine wr_go (va_runV (As := [.int (nI st), .int (nI kd), .int (nI n), .int (nI (S.2.1 1)), .int (nI 1)]) (rest := []) ⟨hx, hb, hml, hown, hts⟩ (c_W_add l dC dI s.heap.size cI (q 3) (q 13) 80 (S.2.1 4) 400 (rowf S.1 10) (nI st) (nI kd) (nI n) (nI (S.2.1 1)) (nI 1) (by omega) (by decide)) (cwV 5 hts (gi_V wd_140 wd_141 wd_142 wd_2 wd_143) rfl rfl rfl (by decide +kernel) ⟨Nat.le_of_ble_eq_true rfl, Nat.le_of_ble_eq_true rfl⟩) (wr_preV hK (hP.sub [3, 13] rfl) (hD.sub [3, 13] (by decide) rfl) (ci := 1) (q0 := 0) rfl rfl) rfl rfl hl.1 rfl (lv_room (Nat.le_of_ble_eq_true rfl)) d_X_addOrder_12 ⟨Nat.le_of_ble_eq_true rfl, Nat.le_of_ble_eq_true rfl⟩) hP hD hS hA [3, 13] rfl rfl (wX q cI (S_g (S_row S 10 (S.2.1 4) st kd n (S.2.1 1) 1) 4 (S.2.1 4 + 1))) wX_add10 rfl (fun H locs hP hD hS => ?_)
  refine W.eq (g2 := F0 m 15 ls [.int (nI (S.2.1 4))]) rfl ?_
  have hP9 : va_P (dC, dI) classes (wX q cI (addOrd S st kd n)) H := hP
  exact W.iret hx hb hr (fun t ht hW => ⟨rfl, by rw [ht]; exact hP9, hS.F ht⟩) hS.2.2 d_X_addOrder_15
set_option maxHeartbeats 4000000 in
set_option maxRecDepth 100000 in
theorem c_X_orderByLevel (l : Launch) (dC : Nat → ClassId) (dI : Nat → Nat → Nat) (sz : Nat) (cI : ClassId) (q : Nat → Nat) (S : St) (t : Nat) (hI : Bd t S) (st kd : Nat) (hs : st < 8) (hk : kd < 10) (hlm : ∀ j, S.1 26 j ≤ S.1 27 j) : Met l y_X_orderByLevel (.code y_X_orderByLevel b_X_orderByLevel 5 none :: bg) { frames := 3, cells := 0, slots := 0, locals := 72 } (wr_P (dC, dI) classes (wX q cI S) [(cI, .int)] sz [.ref (q 0), .int (nI st), .int (nI kd)]) (wr_Q (none) (dC, dI) classes (wX q cI (ordK S st kd)) (va_A (wX q cI S) sz)) 0 0 (va_A (wX q cI S) sz) := by
  refine Met.ofW (cc := b_X_orderByLevel) (maxL := 5) (ret := none) (by decide) rfl ?_
  intro p e s m args below meth c s₁ B hml hv
  obtain ⟨rfl, hsz, hP, hK, hD0⟩ := hv
  subst hsz
  have hD := hD0.self (sz := s.heap.size)
  generalize hAe : va_A (wX q cI S) s.heap.size = A at hD ⊢
  have hA : ∀ q : Nat, s.heap.size ≤ q → A q := fun q h => by rw [← hAe]; exact Or.inr h
  have hS : va_S A s.heap s.heap [] := va_S.rf
  have hx := B.exec
  have hb := B.bytes
  have hr := B.returns
  have hts := fun w (h : w ∈ bg) => atoms_spec (ws := .code y_X_orderByLevel b_X_orderByLevel 5 none :: bg) B.pre w (List.mem_cons_of_mem _ h)
  have hown : s.vm.findClass R_X = some m.cls := findClass_of_methodNamed B.named
  have hlocks := B.notSynchronized
  have hl := lv_entry ([.ref (q 0), .int (nI st), .int (nI kd)]) (n := 5) (Nat.le_of_ble_eq_true rfl)
  rw [lg_entry_eq]
  generalize (lg_sl ([.ref (q 0), .int (nI st), .int (nI kd)]) ++ List.replicate (5 - (lg_sl ([.ref (q 0), .int (nI st), .int (nI kd)])).length) Slot.unset).toArray = ls at hl ⊢
  have hl : lv_has ls 5 [(0, .ref (q 0)), (1, .int (nI st)), (2, .int (nI kd))] := hl
  have hB := hI.1
  have hg0 : S.2.1 0 ≤ 8 := hI.2.1 0
  have hg1 : S.2.1 1 ≤ 9999 := hI.2.1 1
  have hg2 : S.2.1 2 ≤ 60 := hI.2.1 2
  have hg3 : S.2.1 3 ≤ 60 := hI.2.1 3
  have hg4 : S.2.1 4 ≤ 80 := hI.2.1 4
  have hg5 : S.2.1 5 ≤ 20 := hI.2.1 5
  have hg6 : S.2.1 6 ≤ 80 := hI.2.1 6
  have hg7 : S.2.1 7 ≤ 10 := hI.2.1 7
  have hg8 : t ≤ 512 := hI.2.2
  refine lv_iload_n hx hb d_X_orderByLevel_0 rfl (lv_at hl 1 rfl) ?_
  refine lv_iload_n hx hb d_X_orderByLevel_1 rfl (lv_at hl 2 rfl) ?_
  refine pu_go (va_runS (As := [.int (nI st), .int (nI kd)]) (rest := []) ⟨hx, hb, hml, hown, hts⟩ (c_X_pair l dC dI st kd) (cwS 2 hts (gi_S wd_106 wd_107 wd_1 wd_108) rfl rfl rfl (by decide +kernel) ⟨Nat.le_of_ble_eq_true rfl, Nat.le_of_ble_eq_true rfl⟩) (pu_preS (hK.sub (tys' := []) [] rfl) (fun k q h => by simp at h)) rfl rfl hl.1 rfl (lv_room (Nat.le_of_ble_eq_true rfl)) d_X_orderByLevel_2 ⟨Nat.le_of_ble_eq_true rfl, Nat.le_of_ble_eq_true rfl⟩) ?_
  refine lv_istore_n (lv' := [(3, .int (nI (st * 10 + kd))), (0, .ref (q 0)), (1, .int (nI st)), (2, .int (nI kd))]) hx hb d_X_orderByLevel_5 rfl hl (by decide) rfl (fun ls hl => ?_)
  refine lv_aload_n hx hb d_X_orderByLevel_6 rfl (lv_at hl 1 rfl) ?_
  refine va_get (D := (dC, dI)) (ci := 0) (v := .ref (q 8)) (C := R_X) (T := F_X) (N := 12) hx hb hts i_X hown hK hP 0 rfl rfl 7 (by decide) (hts _ wd_64) (fun _ h9 => h9) rfl d_X_orderByLevel_7 ?_
  refine lv_iload_n hx hb d_X_orderByLevel_10 rfl (lv_at hl 0 rfl) ?_
  refine nv_iald (v := nI (S.1 26 (st * 10 + kd))) hx hb hK hP 8 0 rfl rfl (by omega) (by decide) rfl d_X_orderByLevel_11 ?_
  have hb11 : S.1 26 (st * 10 + kd) ≤ 9999 := hB 26 _
  refine nv_zeq (tgt := 25) hx hb (by omega) d_X_orderByLevel_12 (by decide) (fun c12 => ?_) (fun c12 => ?_)
  · have hP9 : va_P (dC, dI) classes (wX q cI (ordK S st kd)) s.heap := by unfold ordK; rw [if_pos c12]; exact hP
    exact W.vret hx hb hr (fun t ht hW => ⟨rfl, by rw [ht]; exact hP9, hS.F ht⟩) hS.2.2 d_X_orderByLevel_25
  · refine lv_aload_n hx hb d_X_orderByLevel_15 rfl (lv_at hl 1 rfl) ?_
    refine va_get (D := (dC, dI)) (ci := 0) (v := .ref (q 3)) (C := R_X) (T := F_X) (N := 12) hx hb hts i_X hown hK hP 0 rfl rfl 2 (by decide) (hts _ wd_59) (fun _ h9 => h9) rfl d_X_orderByLevel_16 ?_
    refine pu_go (va_runV (As := []) (rest := []) ⟨hx, hb, hml, hown, hts⟩ (c_W_isFull l dC dI cI (q 3) (q 13) 80 (S.2.1 4) 400 (rowf S.1 10) (by omega) (by omega)) (cwV 0 hts (gi_V wd_109 wd_110 wd_111 wd_2 wd_112) rfl rfl rfl (by decide +kernel) ⟨Nat.le_of_ble_eq_true rfl, Nat.le_of_ble_eq_true rfl⟩) (pu_preV hK (hP.sub [3, 13] rfl) (ci := 1) (q0 := 0) rfl rfl) rfl rfl hl.1 rfl (lv_room (Nat.le_of_ble_eq_true rfl)) d_X_orderByLevel_19 ⟨Nat.le_of_ble_eq_true rfl, Nat.le_of_ble_eq_true rfl⟩) ?_
    refine nv_bz (tgt := 26) hx hb d_X_orderByLevel_22 (by decide) (fun c22 => ?_) (fun c22 => ?_)
    · refine lv_aload_n hx hb d_X_orderByLevel_26 rfl (lv_at hl 1 rfl) ?_
      refine lv_iload_n hx hb d_X_orderByLevel_27 rfl (lv_at hl 2 rfl) ?_
      refine lv_iload_n hx hb d_X_orderByLevel_28 rfl (lv_at hl 3 rfl) ?_
      refine lv_iconst (v := b2 true) hx hb d_X_orderByLevel_29 (by decide) ?_
      refine pu_go (va_runV (As := [.int (nI st), .int (nI kd), .int (b2 true)]) (rest := []) ⟨hx, hb, hml, hown, hts⟩ (c_X_inStore l dC dI cI q S t hI st kd true (by omega) (by omega)) (cwV 3 hts (gi_V wd_113 wd_115 wp_1 wd_1 wd_116) rfl rfl rfl (by decide +kernel) ⟨Nat.le_of_ble_eq_true rfl, Nat.le_of_ble_eq_true rfl⟩) (pu_preV hK hP (ci := 0) (q0 := 0) rfl rfl) rfl rfl hl.1 rfl (lv_room (Nat.le_of_ble_eq_true rfl)) d_X_orderByLevel_30 ⟨Nat.le_of_ble_eq_true rfl, Nat.le_of_ble_eq_true rfl⟩) ?_
      have hb1 := inst_le hI st kd true
      refine lv_aload_n hx hb d_X_orderByLevel_33 rfl (lv_at hl 1 rfl) ?_
      refine lv_iload_n hx hb d_X_orderByLevel_34 rfl (lv_at hl 2 rfl) ?_
      refine lv_iload_n hx hb d_X_orderByLevel_35 rfl (lv_at hl 3 rfl) ?_
      refine lv_iconst (v := b2 true) hx hb d_X_orderByLevel_36 (by decide) ?_
      refine pu_go (va_runV (As := [.int (nI st), .int (nI kd), .int (b2 true)]) (rest := [.int (nI (inst S st kd true))]) ⟨hx, hb, hml, hown, hts⟩ (c_X_onTheWay l dC dI cI q S t hI st kd true (by omega) (by omega)) (cwV 3 hts (gi_V wd_128 wd_130 wp_3 wd_1 wd_131) rfl rfl rfl (by decide +kernel) ⟨Nat.le_of_ble_eq_true rfl, Nat.le_of_ble_eq_true rfl⟩) (pu_preV hK hP (ci := 0) (q0 := 0) rfl rfl) rfl rfl hl.1 rfl (lv_room (Nat.le_of_ble_eq_true rfl)) d_X_orderByLevel_37 ⟨Nat.le_of_ble_eq_true rfl, Nat.le_of_ble_eq_true rfl⟩) ?_
      have hb2 := way_le hI true st kd
      refine nv_add hx hb d_X_orderByLevel_40 ?_
      refine lv_aload_n hx hb d_X_orderByLevel_41 rfl (lv_at hl 1 rfl) ?_
      refine lv_iload_n hx hb d_X_orderByLevel_42 rfl (lv_at hl 2 rfl) ?_
      refine lv_iload_n hx hb d_X_orderByLevel_43 rfl (lv_at hl 3 rfl) ?_
      refine pu_go (va_runV (As := [.int (nI st), .int (nI kd)]) (rest := [.int (nI ((inst S st kd true) + (way S true st kd)))]) ⟨hx, hb, hml, hown, hts⟩ (c_X_inOpenOrders l dC dI cI q S t hI st kd (by omega) (by omega)) (cwV 2 hts (gi_V wd_132 wd_134 wp_4 wd_1 wd_135) rfl rfl rfl (by decide +kernel) ⟨Nat.le_of_ble_eq_true rfl, Nat.le_of_ble_eq_true rfl⟩) (pu_preV hK hP (ci := 0) (q0 := 0) rfl rfl) rfl rfl hl.1 rfl (lv_room (Nat.le_of_ble_eq_true rfl)) d_X_orderByLevel_44 ⟨Nat.le_of_ble_eq_true rfl, Nat.le_of_ble_eq_true rfl⟩) ?_
      have hb3 := opn_le hI st kd
      refine nv_add hx hb d_X_orderByLevel_47 ?_
      refine lv_istore (lv' := [(4, .int (nI (((inst S st kd true) + (way S true st kd)) + (opn S st kd)))), (3, .int (nI (st * 10 + kd))), (0, .ref (q 0)), (1, .int (nI st)), (2, .int (nI kd))]) hx hb d_X_orderByLevel_48 hl (by decide) rfl (fun ls hl => ?_)
      refine lv_iload hx hb d_X_orderByLevel_50 (lv_at hl 0 rfl) ?_
      refine lv_aload_n hx hb d_X_orderByLevel_52 rfl (lv_at hl 2 rfl) ?_
      refine va_get (D := (dC, dI)) (ci := 0) (v := .ref (q 8)) (C := R_X) (T := F_X) (N := 12) hx hb hts i_X hown hK hP 0 rfl rfl 7 (by decide) (hts _ wd_64) (fun _ h9 => h9) rfl d_X_orderByLevel_53 ?_
      refine lv_iload_n hx hb d_X_orderByLevel_56 rfl (lv_at hl 1 rfl) ?_
      refine nv_iald (v := nI (S.1 26 (st * 10 + kd))) hx hb hK hP 8 0 rfl rfl (by omega) (by decide) rfl d_X_orderByLevel_57 ?_
      refine nv_cge (tgt := 77) hx hb (by omega) (by omega) d_X_orderByLevel_58 (by decide) (fun c58 => ?_) (fun c58 => ?_)
      · have he : expd S st kd = inst S st kd true + way S true st kd + opn S st kd := by unfold expd; rw [inst_t]
        have hP9 : va_P (dC, dI) classes (wX q cI (ordK S st kd)) s.heap := by unfold ordK; rw [if_neg c12, if_neg (of_decide_eq_false c22), if_neg (by omega)]; exact hP
        exact W.vret hx hb hr (fun t ht hW => ⟨rfl, by rw [ht]; exact hP9, hS.F ht⟩) hS.2.2 d_X_orderByLevel_77
      · have c22 := of_decide_eq_false c22
        have he : expd S st kd = inst S st kd true + way S true st kd + opn S st kd := by unfold expd; rw [inst_t]
        refine lv_aload_n hx hb d_X_orderByLevel_61 rfl (lv_at hl 2 rfl) ?_
        refine lv_iload_n hx hb d_X_orderByLevel_62 rfl (lv_at hl 3 rfl) ?_
        refine lv_iload_n hx hb d_X_orderByLevel_63 rfl (lv_at hl 4 rfl) ?_
        refine lv_aload_n hx hb d_X_orderByLevel_64 rfl (lv_at hl 2 rfl) ?_
        refine va_get (D := (dC, dI)) (ci := 0) (v := .ref (q 9)) (C := R_X) (T := F_X) (N := 12) hx hb hts i_X hown hK hP 0 rfl rfl 8 (by decide) (hts _ wd_65) (fun _ h9 => h9) rfl d_X_orderByLevel_65 ?_
        refine lv_iload_n hx hb d_X_orderByLevel_68 rfl (lv_at hl 1 rfl) ?_
        refine nv_iald (v := nI (S.1 27 (st * 10 + kd))) hx hb hK hP 9 0 rfl rfl (by omega) (by decide) rfl d_X_orderByLevel_69 ?_
        have hb69 : S.1 27 (st * 10 + kd) ≤ 9999 := hB 27 _
        have hb68 := hlm (st * 10 + kd)
        refine lv_iload hx hb d_X_orderByLevel_70 (lv_at hl 0 rfl) ?_
        refine nv_sub hx hb (by omega) d_X_orderByLevel_72 ?_
        refine wr_goA (va_runV (As := [.int (nI st), .int (nI kd), .int (nI ((S.1 27 (st * 10 + kd)) - (((inst S st kd true) + (way S true st kd)) + (opn S st kd))))]) (rest := []) ⟨hx, hb, hml, hown, hts⟩ (c_X_addOrder l dC dI s.heap.size cI q S t hI st kd ((S.1 27 (st * 10 + kd)) - (((inst S st kd true) + (way S true st kd)) + (opn S st kd))) (by omega)) (cwV 3 hts (gi_V wd_136 wd_138 wp_5 wd_1 wd_139) rfl rfl rfl (by decide +kernel) ⟨Nat.le_of_ble_eq_true rfl, Nat.le_of_ble_eq_true rfl⟩) (wr_preV hK hP hD (ci := 0) (q0 := 0) rfl rfl) rfl rfl hl.1 rfl (lv_room (Nat.le_of_ble_eq_true rfl)) d_X_orderByLevel_73 ⟨Nat.le_of_ble_eq_true rfl, Nat.le_of_ble_eq_true rfl⟩) hD hS hA wX_adr (fun H locs hP hD hS => ?_)
        refine W.eq (g2 := F0 m 76 ls [.int (nI (S.2.1 4))]) rfl ?_
        refine lv_pop hx hb d_X_orderByLevel_76 rfl ?_
        have hP9 : va_P (dC, dI) classes (wX q cI (ordK S st kd)) H := by unfold ordK; rw [if_neg c12, if_neg c22, if_pos (by omega), he]; exact hP
        exact W.vret hx hb hr (fun t ht hW => ⟨rfl, by rw [ht]; exact hP9, hS.F ht⟩) hS.2.2 d_X_orderByLevel_77
    · have hP9 : va_P (dC, dI) classes (wX q cI (ordK S st kd)) s.heap := by unfold ordK; rw [if_neg c12, if_pos (of_decide_eq_true c22)]; exact hP
      exact W.vret hx hb hr (fun t ht hW => ⟨rfl, by rw [ht]; exact hP9, hS.F ht⟩) hS.2.2 d_X_orderByLevel_25
set_option maxHeartbeats 4000000 in
set_option maxRecDepth 100000 in
theorem c_X_take (l : Launch) (dC : Nat → ClassId) (dI : Nat → Nat → Nat) (sz : Nat) (cI : ClassId) (q : Nat → Nat) (S : St) (t : Nat) (hI : Bd t S) (st kd n : Nat) (hs : st < 8) (hk : kd < 10) (hn : n ≤ 9999) (hou : ∀ j, S.1 2 j + n ≤ 9999 * t) : Met l y_X_take (.code y_X_take b_X_take 8 none :: bg) { frames := 3, cells := 0, slots := 0, locals := 71 } (wr_P (dC, dI) classes (wX q cI S) [(cI, .int)] sz [.ref (q 0), .int (nI st), .int (nI kd), .int (nI n)]) (wr_Q (none) (dC, dI) classes (wX q cI (tk st kd 60 S n)) (va_A (wX q cI S) sz)) 0 0 (va_A (wX q cI S) sz) := by
  refine Met.ofW (cc := b_X_take) (maxL := 8) (ret := none) (by decide) rfl ?_
  intro p e s m args below meth c s₁ B hml hv
  obtain ⟨rfl, hsz, hP, hK, hD0⟩ := hv
  subst hsz
  have hD := hD0.self (sz := s.heap.size)
  generalize hAe : va_A (wX q cI S) s.heap.size = A at hD ⊢
  have hA : ∀ q : Nat, s.heap.size ≤ q → A q := fun q h => by rw [← hAe]; exact Or.inr h
  have hS : va_S A s.heap s.heap [] := va_S.rf
  have hx := B.exec
  have hb := B.bytes
  have hr := B.returns
  have hts := fun w (h : w ∈ bg) => atoms_spec (ws := .code y_X_take b_X_take 8 none :: bg) B.pre w (List.mem_cons_of_mem _ h)
  have hown : s.vm.findClass R_X = some m.cls := findClass_of_methodNamed B.named
  have hlocks := B.notSynchronized
  have hl := lv_entry ([.ref (q 0), .int (nI st), .int (nI kd), .int (nI n)]) (n := 8) (Nat.le_of_ble_eq_true rfl)
  rw [lg_entry_eq]
  generalize (lg_sl ([.ref (q 0), .int (nI st), .int (nI kd), .int (nI n)]) ++ List.replicate (8 - (lg_sl ([.ref (q 0), .int (nI st), .int (nI kd), .int (nI n)])).length) Slot.unset).toArray = ls at hl ⊢
  have hl : lv_has ls 8 [(0, .ref (q 0)), (1, .int (nI st)), (2, .int (nI kd)), (3, .int (nI n))] := hl
  have hB := hI.1
  have hg0 : S.2.1 0 ≤ 8 := hI.2.1 0
  have hg1 : S.2.1 1 ≤ 9999 := hI.2.1 1
  have hg2 : S.2.1 2 ≤ 60 := hI.2.1 2
  have hg3 : S.2.1 3 ≤ 60 := hI.2.1 3
  have hg4 : S.2.1 4 ≤ 80 := hI.2.1 4
  have hg5 : S.2.1 5 ≤ 20 := hI.2.1 5
  have hg6 : S.2.1 6 ≤ 80 := hI.2.1 6
  have hg7 : S.2.1 7 ≤ 10 := hI.2.1 7
  have hg8 : t ≤ 512 := hI.2.2
  refine lv_iload_n hx hb d_X_take_0 rfl (lv_at hl 3 rfl) ?_
  refine lv_istore (lv' := [(4, .int (nI n)), (0, .ref (q 0)), (1, .int (nI st)), (2, .int (nI kd)), (3, .int (nI n))]) hx hb d_X_take_1 hl (by decide) rfl (fun ls hl => ?_)
  refine lv_iconst (v := nI 0) hx hb d_X_take_3 (by decide) ?_
  refine lv_istore (lv' := [(5, .int (nI 0)), (4, .int (nI n)), (0, .ref (q 0)), (1, .int (nI st)), (2, .int (nI kd)), (3, .int (nI n))]) hx hb d_X_take_4 hl (by decide) rfl (fun ls hl => ?_)
  have LP6 : ∀ (fu : Nat) (i : Nat) (nd : Nat) (T : St) (H : Heap) (locs : List Loc), 60 - i < fu → (i ≤ 60) → (tk st kd (60 - i) T nd = tk st kd 60 S n) → (Bd t T) → (∀ j, T.1 2 j + nd ≤ 9999 * t) → (nd ≤ n) → va_P (dC, dI) classes (wX q cI T) H → va_D A (wX q cI T) → va_S A s.heap H locs → ∀ ls : Array Slot, lv_has ls 8 [(5, .int (nI i)), (4, .int (nI nd)), (0, .ref (q 0)), (1, .int (nI st)), (2, .int (nI kd)), (3, .int (nI n))] → W p l e (headSpec (.code y_X_take b_X_take 8 none :: bg) { frames := 3, cells := 0, slots := 0, locals := 71 }).room s m (List.toArray [.ref (q 0), .int (nI st), .int (nI kd), .int (nI n)]) below meth c H locs 0 0 (MQ below (wr_Q (none) (dC, dI) classes (wX q cI (tk st kd 60 S n)) A) (List.toArray [.ref (q 0), .int (nI st), .int (nI kd), .int (nI n)]) s 0 0 A) (F0 m 6 ls []) := by
    intro fu
    induction fu with
    | zero => intro i nd T H locs h; exact absurd h (Nat.not_lt_zero _)
    | succ fu ih =>
      intro i nd T H locs hfu hh0 hh1 hh2 hh3 hh4 hP hD hS ls hl
      have hIT := hh2
      have hBT := hIT.1
      have hg0 : T.2.1 0 ≤ 8 := hIT.2.1 0
      have hg1 : T.2.1 1 ≤ 9999 := hIT.2.1 1
      have hg2 : T.2.1 2 ≤ 60 := hIT.2.1 2
      have hg3 : T.2.1 3 ≤ 60 := hIT.2.1 3
      have hg4 : T.2.1 4 ≤ 80 := hIT.2.1 4
      have hg5 : T.2.1 5 ≤ 20 := hIT.2.1 5
      have hg6 : T.2.1 6 ≤ 80 := hIT.2.1 6
      have hg7 : T.2.1 7 ≤ 10 := hIT.2.1 7
      have hg8 : t ≤ 512 := hIT.2.2
      refine lv_iload hx hb d_X_take_6 (lv_at hl 0 rfl) ?_
      refine lv_bipush (v := nI 60) hx hb d_X_take_8 (by decide) ?_
      refine nv_cge (tgt := 96) hx hb (by omega) (by omega) d_X_take_10 (by decide) (fun c10 => ?_) (fun c10 => ?_)
      · have hP9 : va_P (dC, dI) classes (wX q cI (tk st kd 60 S n)) H := by rw [show 60 - i = 0 by omega] at hh1; rw [← hh1]; exact hP
        exact W.vret hx hb hr (fun t ht hW => ⟨rfl, by rw [ht]; exact hP9, hS.F ht⟩) hS.2.2 d_X_take_96
      · refine lv_iload hx hb d_X_take_13 (lv_at hl 1 rfl) ?_
        refine nv_zle (tgt := 96) hx hb (by omega) d_X_take_15 (by decide) (fun c15 => ?_) (fun c15 => ?_)
        · have hP9 : va_P (dC, dI) classes (wX q cI (tk st kd 60 S n)) H := by rw [c15, tk_0] at hh1; rw [← hh1]; exact hP
          exact W.vret hx hb hr (fun t ht hW => ⟨rfl, by rw [ht]; exact hP9, hS.F ht⟩) hS.2.2 d_X_take_96
        · refine lv_aload_n hx hb d_X_take_18 rfl (lv_at hl 2 rfl) ?_
          refine lv_iload_n hx hb d_X_take_19 rfl (lv_at hl 3 rfl) ?_
          refine lv_iload_n hx hb d_X_take_20 rfl (lv_at hl 4 rfl) ?_
          refine pu_go (va_runV (As := [.int (nI st), .int (nI kd)]) (rest := []) ⟨hx, hb, hml, hown, hts⟩ (c_X_firstToTake l dC dI cI q T t hIT st kd (by omega) (by omega)) (cwV 2 hts (gi_V wd_362 wd_364 wp_15 wd_1 wd_365) rfl rfl rfl (by decide +kernel) ⟨Nat.le_of_ble_eq_true rfl, Nat.le_of_ble_eq_true rfl⟩) (pu_preV hK hP (ci := 0) (q0 := 0) rfl rfl) rfl rfl hl.1 rfl (lv_room (Nat.le_of_ble_eq_true rfl)) d_X_take_21 ⟨Nat.le_of_ble_eq_true rfl, Nat.le_of_ble_eq_true rfl⟩) ?_
          refine lv_istore (lv' := [(6, .int (o2 (bst T st kd (T.2.1 2)))), (5, .int (nI i)), (4, .int (nI nd)), (0, .ref (q 0)), (1, .int (nI st)), (2, .int (nI kd)), (3, .int (nI n))]) hx hb d_X_take_24 hl (by decide) rfl (fun ls hl => ?_)
          refine lv_iload hx hb d_X_take_26 (lv_at hl 0 rfl) ?_
          refine lv_if_ge (tgt := 32) hx hb d_X_take_28 (by decide) (fun c28 => ?_) (fun c28 => ?_)
          · obtain ⟨b, hbb⟩ := o2_some (Int32.not_lt.mpr c28)
            have hlb := bst_lt hbb
            have hl : lv_has ls 8 [(6, .int (nI b)), (5, .int (nI i)), (4, .int (nI nd)), (0, .ref (q 0)), (1, .int (nI st)), (2, .int (nI kd)), (3, .int (nI n))] := by rw [hbb] at hl; exact hl
            refine lv_iload hx hb d_X_take_32 (lv_at hl 2 rfl) ?_
            refine lv_aload_n hx hb d_X_take_34 rfl (lv_at hl 3 rfl) ?_
            refine va_get (D := (dC, dI)) (ci := 0) (v := .ref (q 7)) (C := R_X) (T := F_X) (N := 12) hx hb hts i_X hown hK hP 0 rfl rfl 6 (by decide) (hts _ wd_63) (fun _ h9 => h9) rfl d_X_take_35 ?_
            refine lv_iload_n hx hb d_X_take_38 rfl (lv_at hl 4 rfl) ?_
            refine lv_iload hx hb d_X_take_39 (lv_at hl 0 rfl) ?_
            refine pu_go (va_runS (As := [.int (nI st), .int (nI b)]) (rest := [.ref (q 7), .int (nI nd)]) ⟨hx, hb, hml, hown, hts⟩ (c_X_place l dC dI st b) (cwS 2 hts (gi_S wd_125 wd_126 wd_1 wd_127) rfl rfl rfl (by decide +kernel) ⟨Nat.le_of_ble_eq_true rfl, Nat.le_of_ble_eq_true rfl⟩) (pu_preS (hK.sub (tys' := []) [] rfl) (fun k q h => by simp at h)) rfl rfl hl.1 rfl (lv_room (Nat.le_of_ble_eq_true rfl)) d_X_take_41 ⟨Nat.le_of_ble_eq_true rfl, Nat.le_of_ble_eq_true rfl⟩) ?_
            refine nv_iald (v := nI (T.1 25 (st * 60 + b))) hx hb hK hP 7 0 rfl rfl (by omega) (by decide) rfl d_X_take_44 ?_
            have hb44 : T.1 25 (st * 60 + b) ≤ 9999 := hBT 25 _
            refine va_mmin hx hb (hml.trans hl.1.symm) hown (hts _ wd_347) (hts _ wd_348) (hts _ wd_3) (hts _ wm_min) (Nat.le_of_ble_eq_true rfl) (Nat.le_of_ble_eq_true rfl) (Nat.le_of_ble_eq_true rfl) (Nat.le_of_ble_eq_true rfl) d_X_take_45 ?_
            refine nv_as (nI (min nd (T.1 25 (st * 60 + b)))) (min_nI (by omega) (by omega)) ?_
            obtain ⟨p, hp⟩ : ∃ z : Nat, z = min nd (T.1 25 (st * 60 + b)) := ⟨_, rfl⟩
            have hp1 : p ≤ nd := by rw [hp]; exact Nat.min_le_left _ _
            have hp2 : p ≤ T.1 25 (st * 60 + b) := by rw [hp]; exact Nat.min_le_right _ _
            rw [← hp]
            refine lv_istore (lv' := [(7, .int (nI p)), (6, .int (nI b)), (5, .int (nI i)), (4, .int (nI nd)), (0, .ref (q 0)), (1, .int (nI st)), (2, .int (nI kd)), (3, .int (nI n))]) hx hb d_X_take_48 hl (by decide) rfl (fun ls hl => ?_)
            refine lv_aload_n hx hb d_X_take_50 rfl (lv_at hl 4 rfl) ?_
            refine lv_iload_n hx hb d_X_take_51 rfl (lv_at hl 5 rfl) ?_
            refine lv_iload hx hb d_X_take_52 (lv_at hl 1 rfl) ?_
            refine lv_iload hx hb d_X_take_54 (lv_at hl 0 rfl) ?_
            refine lv_ineg hx hb d_X_take_56 ?_
            refine wr_goA (va_runV (As := [.int (nI st), .int (nI b), .int (-(nI p))]) (rest := []) ⟨hx, hb, hml, hown, hts⟩ (c_X_change l dC dI H.size cI q T t hIT st b (T.1 25 (st * 60 + b) - p) (-(nI p)) (by omega) (by omega) (by rw [← Int32.sub_eq_add_neg]; exact pk_sub hp2)) (cwV 3 hts (gi_V wd_305 wd_307 wp_10 wd_1 wd_308) rfl rfl rfl (by decide +kernel) ⟨Nat.le_of_ble_eq_true rfl, Nat.le_of_ble_eq_true rfl⟩) (wr_preV hK hP hD (ci := 0) (q0 := 0) rfl rfl) rfl rfl hl.1 rfl (lv_room (Nat.le_of_ble_eq_true rfl)) d_X_take_57 ⟨Nat.le_of_ble_eq_true rfl, Nat.le_of_ble_eq_true rfl⟩) hD hS hA wX_adr (fun H locs hP hD hS => ?_)
            refine W.eq (g2 := F0 m 60 ls []) rfl ?_
            obtain ⟨T1, hT1⟩ : ∃ z : St, z = S_a T 25 (st * 60 + b) (T.1 25 (st * 60 + b) - p) := ⟨_, rfl⟩
            rw [← hT1] at hP hD
            have hIT1 : Bd t T1 := by rw [hT1]; exact Bd_a hIT (show _ ≤ 9999 by omega)
            have hBT1 := hIT1.1
            have hg0 : T1.2.1 0 ≤ 8 := hIT1.2.1 0
            have hg1 : T1.2.1 1 ≤ 9999 := hIT1.2.1 1
            have hg2 : T1.2.1 2 ≤ 60 := hIT1.2.1 2
            have hg3 : T1.2.1 3 ≤ 60 := hIT1.2.1 3
            have hg4 : T1.2.1 4 ≤ 80 := hIT1.2.1 4
            have hg5 : T1.2.1 5 ≤ 20 := hIT1.2.1 5
            have hg6 : T1.2.1 6 ≤ 80 := hIT1.2.1 6
            have hg7 : T1.2.1 7 ≤ 10 := hIT1.2.1 7
            have hg8 : t ≤ 512 := hIT1.2.2
            have hou1 : T1.1 2 b = T.1 2 b := by rw [hT1]; rfl
            refine lv_aload_n hx hb d_X_take_60 rfl (lv_at hl 4 rfl) ?_
            refine va_get (D := (dC, dI)) (ci := 0) (v := .ref (q 1)) (C := R_X) (T := F_X) (N := 12) hx hb hts i_X hown hK hP 0 rfl rfl 0 (by decide) (hts _ wd_57) (fun _ h9 => h9) rfl d_X_take_61 ?_
            refine lv_iload hx hb d_X_take_64 (lv_at hl 1 rfl) ?_
            refine lv_iconst (v := nI 2) hx hb d_X_take_66 (by decide) ?_
            refine lv_aload_n hx hb d_X_take_67 rfl (lv_at hl 4 rfl) ?_
            refine va_get (D := (dC, dI)) (ci := 0) (v := .ref (q 1)) (C := R_X) (T := F_X) (N := 12) hx hb hts i_X hown hK hP 0 rfl rfl 0 (by decide) (hts _ wd_57) (fun _ h9 => h9) rfl d_X_take_68 ?_
            refine lv_iload hx hb d_X_take_71 (lv_at hl 1 rfl) ?_
            refine lv_iconst (v := nI 2) hx hb d_X_take_73 (by decide) ?_
            refine pu_go (va_runV (As := [.int (nI b), .int (nI 2)]) (rest := [.int (nI 2), .int (nI b), .ref (q 1)]) ⟨hx, hb, hml, hown, hts⟩ (c_W_at l dC dI cI (q 1) (q 11) 60 (T1.2.1 2) 300 (rowf T1.1 0) b 2 (by omega) (by decide)) (cwV 2 hts (gi_V wd_117 wd_118 wd_119 wd_2 wd_120) rfl rfl rfl (by decide +kernel) ⟨Nat.le_of_ble_eq_true rfl, Nat.le_of_ble_eq_true rfl⟩) (pu_preV hK (hP.sub [1, 11] rfl) (ci := 1) (q0 := 0) rfl rfl) rfl rfl hl.1 rfl (lv_room (Nat.le_of_ble_eq_true rfl)) d_X_take_74 ⟨Nat.le_of_ble_eq_true rfl, Nat.le_of_ble_eq_true rfl⟩) ?_
            refine nv_as (nI (T1.1 2 b)) (rowf_at (by decide)) ?_
            have hb1 : T1.1 2 b ≤ 9999 * t := hBT1 2 _
            refine lv_iload hx hb d_X_take_77 (lv_at hl 0 rfl) ?_
            refine nv_add hx hb d_X_take_79 ?_
            refine wr_go (va_runV (As := [.int (nI b), .int (nI 2), .int (nI ((T1.1 2 b) + p))]) (rest := []) ⟨hx, hb, hml, hown, hts⟩ (c_W_put l dC dI H.size cI (q 1) (q 11) 60 (T1.2.1 2) 300 (rowf T1.1 0) b 2 (nI ((T1.1 2 b) + p)) (by omega) (by decide)) (cwV 3 hts (gi_V wd_342 wd_145 wd_146 wd_2 wd_147) rfl rfl rfl (by decide +kernel) ⟨Nat.le_of_ble_eq_true rfl, Nat.le_of_ble_eq_true rfl⟩) (wr_preV hK (hP.sub [1, 11] rfl) (hD.sub [1, 11] (by decide) rfl) (ci := 1) (q0 := 0) rfl rfl) rfl rfl hl.1 rfl (lv_room (Nat.le_of_ble_eq_true rfl)) d_X_take_80 ⟨Nat.le_of_ble_eq_true rfl, Nat.le_of_ble_eq_true rfl⟩) hP hD hS hA [1, 11] rfl rfl (wX q cI (S_a T1 (0 + 2) b ((T1.1 2 b) + p))) (wX_r0 (by decide)) rfl (fun H locs hP hD hS => ?_)
            refine W.eq (g2 := F0 m 83 ls []) rfl ?_
            obtain ⟨T2, hT2⟩ : ∃ z : St, z = S_a T1 (0 + 2) b ((T1.1 2 b) + p) := ⟨_, rfl⟩
            rw [← hT2] at hP hD
            have hIT2 : Bd t T2 := by rw [hT2]; exact Bd_a hIT1 (show _ ≤ 9999 * t by have := hh3 b; omega)
            have hBT2 := hIT2.1
            have hg0 : T2.2.1 0 ≤ 8 := hIT2.2.1 0
            have hg1 : T2.2.1 1 ≤ 9999 := hIT2.2.1 1
            have hg2 : T2.2.1 2 ≤ 60 := hIT2.2.1 2
            have hg3 : T2.2.1 3 ≤ 60 := hIT2.2.1 3
            have hg4 : T2.2.1 4 ≤ 80 := hIT2.2.1 4
            have hg5 : T2.2.1 5 ≤ 20 := hIT2.2.1 5
            have hg6 : T2.2.1 6 ≤ 80 := hIT2.2.1 6
            have hg7 : T2.2.1 7 ≤ 10 := hIT2.2.1 7
            have hg8 : t ≤ 512 := hIT2.2.2
            have hTT : T2 = takeOf T st b p := by rw [hT2, hT1]; rfl
            refine lv_iload hx hb d_X_take_83 (lv_at hl 3 rfl) ?_
            refine lv_iload hx hb d_X_take_85 (lv_at hl 0 rfl) ?_
            refine nv_sub hx hb (by omega) d_X_take_87 ?_
            refine lv_istore (lv' := [(4, .int (nI (nd - p))), (7, .int (nI p)), (6, .int (nI b)), (5, .int (nI i)), (0, .ref (q 0)), (1, .int (nI st)), (2, .int (nI kd)), (3, .int (nI n))]) hx hb d_X_take_88 hl (by decide) rfl (fun ls hl => ?_)
            refine lv_iinc (v := nI (i + 1)) (lv' := [(5, .int (nI (i + 1))), (4, .int (nI (nd - p))), (7, .int (nI p)), (6, .int (nI b)), (0, .ref (q 0)), (1, .int (nI st)), (2, .int (nI kd)), (3, .int (nI n))]) hx hb d_X_take_90 hl (k := 3) rfl (nI_1 _) (by decide) rfl (fun ls hl => ?_)
            refine lv_goto (tgt := 6) hx hb d_X_take_93 (by decide) ?_
            exact ih (i + 1) (nd - p) T2 _ _ (by omega) (by omega) (by rw [← hh1, show 60 - i = 60 - (i + 1) + 1 by omega, tk_s c15 hbb, ← hp, ← hTT]) hIT2 (by rw [hTT]; exact out_takeOf hh3 hp1) (by omega) hP hD hS ls (lv_sub hl [0, 1, 4, 5, 6, 7] (rfl))
          · have hP9 : va_P (dC, dI) classes (wX q cI (tk st kd 60 S n)) H := by rw [tk_n (o2_none (Int32.not_le.mp c28) (fun b hb => by have := bst_lt hb; omega))] at hh1; rw [← hh1]; exact hP
            exact W.vret hx hb hr (fun t ht hW => ⟨rfl, by rw [ht]; exact hP9, hS.F ht⟩) hS.2.2 d_X_take_31
  exact LP6 ((60 - 0) + 1) 0 n S _ _ (Nat.lt_succ_self _) (by omega) rfl hI hou (Nat.le_refl _) hP hD hS ls (lv_sub hl [0, 1, 2, 3, 4, 5] (rfl))
end
section
/-! THE FACE: each call does what is said of it on the state, or throws the exception that is said and changes nothing. -/
def xo_P (D : va_G) (cl : List vw_C) (tys : List (ClassId × FieldType)) (A0 : Nat → Prop) (ws : va_W) (sz : Nat) (av : List Value) : Array Value → State → Prop := va_Pc av (fun U => U.heap.size = sz ∧ va_P D cl ws U.heap ∧ va_K D cl tys U ∧ va_D (fun _ => True) ws ∧ gG A0 U U.heap)
def xo_Q (o : Op) (rv : Option Value) (D : va_G) (cl : List vw_C) (ws' : va_W) (A : Nat → Prop) : Array Value → State → Outcome → State → Prop := fun _ st oc t => o.1 = 0 ∧ oc = .returned rv ∧ va_P D cl ws' t.heap ∧ va_F A st t
def xo_X (o : Op) (exs : List String) : String → State → State → Prop := fun E st t => 0 < o.1 ∧ exs[o.1 - 1]? = some E ∧ st.heap.size ≤ t.heap.size ∧ ∀ z : Nat, z < st.heap.size → t.heap[z]? = st.heap[z]?
theorem xo_blind {D : va_G} {cl : List vw_C} {ws : va_W} {tys : List (ClassId × FieldType)} {A0 : Nat → Prop} {sz : Nat} {av : List Value} : FrameBlind (xo_P D cl tys A0 ws sz av) := fun a U g mk q => by
  obtain ⟨q0, qz, qP, qK, qD, qG⟩ := q
  exact ⟨q0, qz, qP, va_K.moved (u := U) (U := U.calling g mk a) (Vm.Alike.refl U.vm) qK, qD, gG_call qG⟩
theorem ok_ex {x : Int32} {n : Nat} (h : ok x n = true) : ∃ a, a < n ∧ x = nI a := ⟨nn x, (ok_of h).2, (ok_of h).1⟩
theorem rg_ex {x : Int32} {lo hi : Nat} (h : rg x lo hi = true) : ∃ a, lo ≤ a ∧ a ≤ hi ∧ x = nI a := ⟨nn x, (rg_of h).2.1, (rg_of h).2.2, (rg_of h).1⟩
theorem rg_nI {j lo hi : Nat} (h : j < 2 ^ 31) : rg (nI j) lo hi = (decide (lo ≤ j) && decide (j ≤ hi)) := by
  simp only [rg, nI_toInt h]
  congr 1
  · simp
  · simp
theorem Sa_s {S : St} {k j v : Nat} : (S_a S k j v).1 k j = v := aU_s
theorem Sa_e {S : St} {k j v i : Nat} (h : i ≠ j) : (S_a S k j v).1 k i = S.1 k i := aU_e h
theorem Sa_n {S : St} {k k' j v : Nat} (h : k' ≠ k) : (S_a S k j v).1 k' = S.1 k' := aU_n h
theorem sub_0 {a b : Nat} (ha : a < 2 ^ 31) (hb : b < 2 ^ 31) (h : nI a - nI b = 0) : a = b := by
  have h1 : nI a = nI b := by
    have := congrArg (· + nI b) h
    simpa [Int32.sub_add_cancel] using this
  exact (nI_eq ha hb).mp h1
theorem sub_n0 {a b : Nat} (h : ¬ nI a - nI b = 0) : a ≠ b := fun e => h (by rw [e]; simp)
theorem add_sub {a b : Int32} : b + (a - b) = a := by rw [Int32.add_comm, Int32.sub_add_cancel]
/-- a method that looks and answers, or throws -/
def nv_Q (P : Prop) (v : Value) : Array Value → State → Outcome → State → Prop := fun _ st o t => P ∧ o = .returned (some v) ∧ t.heap = st.heap
section NDV
variable {p : Program} {l : Launch} {e : Env} {R : Room} {s : State} {m : MethodId} {args : Array Value} {below : List Frame} {meth : Method} {c : Code} {H : Heap} {locs : List Loc} {cells slots : Nat} {Q : State → Prop}
variable {pc : Nat} {ls : Array Slot} {rest st0 : List Value} {a : Array Value}
theorem nv_go {P : Prop} {v : Value} {E : String} {mc ms : Nat} (hr : vx_Run p l e R s m args below meth c H locs cells slots mc ms (F0 m pc ls st0) rest (nv_Q P v a) (nd_X P E) (fun _ => False))
    (kx : ¬ P → ∀ (ce : Cell) (q9 : Addr) (H1 : Heap), H.size ≤ H1.size → (∀ z : Nat, z < H.size → H1[z]? = H[z]?) → H1[q9]? = some ce → ce.vm = .none → s.vm.findClass E = some ce.cls → vx_W p l e R s m args below meth c H1 locs (cells + mc) (slots + ms) Q (F0 m pc ls rest) q9)
    (kk : P → W p l e R s m args below meth c H locs (cells + mc) (slots + ms) Q (F0 m (pc + 3) ls (v :: rest))) : W p l e R s m args below meth c H locs cells slots Q (F0 m pc ls st0) := by
  intro T hT X
  rcases hr T hT X with ⟨v', st₀, t, T', L, h0, X', hL, e1, e2, ⟨hP, hv, hh⟩, st⟩ | ⟨q, st₀, t, T', L, E', ce, h0, X', hL, e1, e2, ⟨hP, hE, h1, h2⟩, hce, hcv, hcl, st⟩
  · have hn := tm_nil hL
    subst hn
    rw [List.append_nil] at X'
    obtain rfl : v' = some v := Outcome.returned.inj hv
    obtain ⟨t2, a1, b1⟩ := kk hP T' (by rw [e1, hh, h0]) X'
    exact ⟨t2, st t2 a1, b1⟩
  · have hn := tm_nil hL
    subst hn
    rw [List.append_nil] at X'
    subst hE
    rw [h0] at h1 h2
    obtain ⟨t2, a1, b1⟩ := kx hP ce q t.heap h1 h2 hce hcv hcl T' e1 X'
    exact ⟨t2, st.trans a1, b1⟩
end NDV
end
section
theorem wX_add20 {q : Nat → Nat} {cI : ClassId} {S : St} {v0 v1 v3 : Nat} {d : Int32} : place (wX q cI S) [5, 15] [(q 5, .inr (1, [.int (nI 80), .ref (q 15), .int (nI (S.2.1 6 + 1))])), (q 15, .inl (cI, 400, .inl (upd (upd (upd (upd (upd (rowd S.1 S.2.2) (S.2.1 6 * 5 + 0) (nI v0)) (S.2.1 6 * 5 + 1) (nI v1)) (S.2.1 6 * 5 + 2) d) (S.2.1 6 * 5 + 3) (nI v3)) (S.2.1 6 * 5 + 4) (nI (S.2.1 1)))))] = wX q cI (addDif S v0 v1 d v3) := by
  rw [rowd_upd (by decide) (by decide), rowd_upd (by decide) (by decide), rowd_upd2, rowd_upd (by decide) (by decide), rowd_upd (by decide) (by decide)]
  have e1 := wX_g6 (q := q) (cI := cI) (S := S_a (S_a (S_z (S_a (S_a S (20 + 0) (S.2.1 6) v0) (20 + 1) (S.2.1 6) v1) (S.2.1 6) d) (20 + 3) (S.2.1 6) v3) (20 + 4) (S.2.1 6) (S.2.1 1)) (v := S.2.1 6 + 1)
  rw [show addDif S v0 v1 d v3 = S_g (S_a (S_a (S_z (S_a (S_a S (20 + 0) (S.2.1 6) v0) (20 + 1) (S.2.1 6) v1) (S.2.1 6) d) (20 + 3) (S.2.1 6) v3) (20 + 4) (S.2.1 6) (S.2.1 1)) 6 (S.2.1 6 + 1) from rfl, ← e1]
  rw [← wX_r20 (k := 4) (by decide) (by decide), ← wX_r20 (k := 3) (by decide) (by decide), ← wX_rz, ← wX_r20 (k := 1) (by decide) (by decide), ← wX_r20 (k := 0) (by decide) (by decide)]
  simp only [S_a, S_z]
  rw [rowd_upd (by decide) (by decide), rowd_upd (by decide) (by decide), rowd_upd2, rowd_upd (by decide) (by decide), rowd_upd (by decide) (by decide)]
  rfl
theorem wX_hadd {q : Nat → Nat} {cI : ClassId} {S : St} {h v : Nat} : place (wX q cI S) [6, 16, 17] [(q 6, .inr (2, [.ref (q 16), .ref (q 17), .int (nI (S.2.1 7 + 1))])), (q 16, .inl (cI, 10, .inl (upd (colf S.1 29) (S.2.1 7) (nI h)))), (q 17, .inl (cI, 10, .inl (upd (colf S.1 30) (S.2.1 7) (nI v))))] = wX q cI (S_g (S_a (S_a S 29 (S.2.1 7) h) 30 (S.2.1 7) v) 7 (S.2.1 7 + 1)) := by
  rw [← wX_g7, ← wX_c30, ← wX_c29]
  simp only [S_a]
  rw [colf_off (k' := 30) (k := 29) (by decide)]
  rfl
end
section
set_option maxHeartbeats 4000000 in
set_option maxRecDepth 100000 in
theorem c_X_store (l : Launch) (hst : l.stackTraces = false) (dC : Nat → ClassId) (dI : Nat → Nat → Nat) (A0 : Nat → Prop) (sz : Nat) (cI : ClassId) (q : Nat → Nat) (S : St) (t : Nat) (hI : Bd t S) : vx_Met l y_X_store (.code y_X_store b_X_store 1 (some .int) :: bg) { frames := 8, cells := 1, slots := 6, locals := 132 } (xo_P (dC, dI) classes [(cI, .int)] A0 (wX q cI S) sz [.ref (q 0)]) (xo_Q (op_store S) (some (.int (op_store S).2.1)) (dC, dI) classes (wX q cI (op_store S).2.2) (va_A (wX q cI S) sz)) (xo_X (op_store S) [E_uo]) 1 6 (va_A (wX q cI S) sz) := by
  refine vx_ofW (cc := b_X_store) (maxL := 1) (ret := (some .int)) (by decide) rfl ?_
  intro p e s m args below meth c s₁ B hml hnt hv
  obtain ⟨rfl, hsz, hP, hK, hD0, hG⟩ := hv
  subst hsz
  have hD := hD0.self (sz := s.heap.size)
  generalize hAe : va_A (wX q cI S) s.heap.size = A at hD ⊢
  have hA : ∀ q : Nat, s.heap.size ≤ q → A q := fun q h => by rw [← hAe]; exact Or.inr h
  have hS : va_S A s.heap s.heap [] := va_S.rf
  have hx := B.exec
  have hb := B.bytes
  have hr := B.returns
  have hts := fun w (h : w ∈ bg) => atoms_spec (ws := .code y_X_store b_X_store 1 (some .int) :: bg) B.pre w (List.mem_cons_of_mem _ h)
  have hown : s.vm.findClass R_X = some m.cls := findClass_of_methodNamed B.named
  have hlocks := B.notSynchronized
  have hl := lv_entry ([.ref (q 0)]) (n := 1) (Nat.le_of_ble_eq_true rfl)
  rw [lg_entry_eq]
  generalize (lg_sl ([.ref (q 0)]) ++ List.replicate (1 - (lg_sl ([.ref (q 0)])).length) Slot.unset).toArray = ls at hl ⊢
  have hl : lv_has ls 1 [(0, .ref (q 0))] := hl
  have hB := hI.1
  have hg0 : S.2.1 0 ≤ 8 := hI.2.1 0
  have hg1 : S.2.1 1 ≤ 9999 := hI.2.1 1
  have hg2 : S.2.1 2 ≤ 60 := hI.2.1 2
  have hg3 : S.2.1 3 ≤ 60 := hI.2.1 3
  have hg4 : S.2.1 4 ≤ 80 := hI.2.1 4
  have hg5 : S.2.1 5 ≤ 20 := hI.2.1 5
  have hg6 : S.2.1 6 ≤ 80 := hI.2.1 6
  have hg7 : S.2.1 7 ≤ 10 := hI.2.1 7
  have hg8 : t ≤ 512 := hI.2.2
  refine lv_aload_n hx hb d_X_store_0 rfl (lv_at hl 0 rfl) ?_
  refine va_get (D := (dC, dI)) (ci := 0) (v := .int (nI (S.2.1 0))) (C := R_X) (T := F_X) (N := 12) hx hb hts i_X hown hK hP 0 rfl rfl 10 (by decide) (hts _ wd_67) (fun _ h9 => h9) rfl d_X_store_1 ?_
  refine lv_bipush (v := nI 8) hx hb d_X_store_4 (by decide) ?_
  refine nv_clt (tgt := 19) hx hb (by omega) (by omega) d_X_store_6 (by decide) (fun c6 => ?_) (fun c6 => ?_)
  · refine lv_aload_n hx hb d_X_store_19 rfl (lv_at hl 0 rfl) ?_
    refine lv_dup hx hb d_X_store_20 rfl ?_
    refine va_get (D := (dC, dI)) (ci := 0) (v := .int (nI (S.2.1 0))) (C := R_X) (T := F_X) (N := 12) hx hb hts i_X hown hK hP 0 rfl rfl 10 (by decide) (hts _ wd_67) (fun _ h9 => h9) rfl d_X_store_21 ?_
    refine lv_iconst (v := nI 1) hx hb d_X_store_24 (by decide) ?_
    refine nv_add hx hb d_X_store_25 ?_
    refine va_put (D := (dC, dI)) (ci := 0) (v := .int (nI ((S.2.1 0) + 1))) (ty := .int) (C := R_X) (T := F_X) (N := 12) hx hb hts i_X ty_X ty_X_ok n_X hown hK hP hD hS 0 rfl rfl 10 (by decide) (hts _ wd_67) (fun _ h9 => h9) rfl (by decide +kernel) rfl rfl (Nat.le_of_ble_eq_true rfl) d_X_store_26 (fun H locs hP hD hS => ?_)
    have hP : va_P (dC, dI) classes (wX q cI (S_g S 0 ((S.2.1 0) + 1))) H := by rw [← wX_g0]; exact hP
    have hD : va_D A (wX q cI (S_g S 0 ((S.2.1 0) + 1))) := by rw [← wX_g0]; exact hD
    obtain ⟨S1, hS1⟩ : ∃ z : St, z = S_g S 0 ((S.2.1 0) + 1) := ⟨_, rfl⟩
    rw [← hS1] at hP hD
    refine lv_aload_n hx hb d_X_store_29 rfl (lv_at hl 0 rfl) ?_
    refine va_get (D := (dC, dI)) (ci := 0) (v := .int (nI (S1.2.1 0))) (C := R_X) (T := F_X) (N := 12) hx hb hts i_X hown hK hP 0 rfl rfl 10 (by decide) (hts _ wd_67) (fun _ h9 => h9) rfl d_X_store_30 ?_
    have hq : S1.2.1 0 = S.2.1 0 + 1 := by rw [hS1]; rfl
    refine lv_iconst (v := nI 1) hx hb d_X_store_33 (by decide) ?_
    refine nv_sub hx hb (by omega) d_X_store_34 ?_
    have ho : op_store S = (0, nI (S.2.1 0), S_g S 0 (S.2.1 0 + 1)) := by simp only [op_store, if_pos c6]
    rw [ho]
    refine nv_as (nI (S.2.1 0)) (by rw [hS1]; rfl) ?_
    refine W.widen (k := 1) (n := 6) (Nat.le_of_ble_eq_true rfl) (Nat.le_of_ble_eq_true rfl) ?_
    have hP9 : va_P (dC, dI) classes (wX q cI (S_g S 0 (S.2.1 0 + 1))) H := by rw [hS1] at hP; exact hP
    exact vx_ret (W.iret hx hb hr (fun t ht hW => ⟨rfl, rfl, by rw [ht]; exact hP9, hS.F ht⟩) hS.2.2 d_X_store_35)
  · exact x_throw (A := A0) hx hb hst hown hts hG ex_uo sx_56 hnt (hl.1.trans hml.symm) hlocks d_X_store_9 d_X_store_12 d_X_store_13 d_X_store_15 d_X_store_18 (Nat.le_of_ble_eq_true rfl) (Nat.le_of_ble_eq_true rfl) (Nat.le_of_ble_eq_true rfl) (Nat.le_of_ble_eq_true rfl) (Nat.le_of_ble_eq_true rfl) (Nat.le_of_ble_eq_true rfl) (fun t h1 h2 => ⟨by simp only [op_store, if_neg (Nat.not_lt.mpr c6)]; decide, by simp only [op_store, if_neg (Nat.not_lt.mpr c6)]; rfl, h1, h2⟩)
set_option maxHeartbeats 4000000 in
set_option maxRecDepth 100000 in
theorem c_X_lot (l : Launch) (hst : l.stackTraces = false) (dC : Nat → ClassId) (dI : Nat → Nat → Nat) (A0 : Nat → Prop) (sz : Nat) (cI : ClassId) (q : Nat → Nat) (S : St) (t : Nat) (hI : Bd t S) (x y : Int32) : vx_Met l y_X_lot (.code y_X_lot b_X_lot 3 (some .int) :: bg) { frames := 8, cells := 3, slots := 18, locals := 132 } (xo_P (dC, dI) classes [(cI, .int)] A0 (wX q cI S) sz [.ref (q 0), .int x, .int y]) (xo_Q (op_lot S x y) (some (.int (op_lot S x y).2.1)) (dC, dI) classes (wX q cI (op_lot S x y).2.2) (va_A (wX q cI S) sz)) (xo_X (op_lot S x y) [E_ia, E_io, E_uo]) 3 18 (va_A (wX q cI S) sz) := by
  refine vx_ofW (cc := b_X_lot) (maxL := 3) (ret := (some .int)) (by decide) rfl ?_
  intro p e s m args below meth c s₁ B hml hnt hv
  obtain ⟨rfl, hsz, hP, hK, hD0, hG⟩ := hv
  subst hsz
  have hD := hD0.self (sz := s.heap.size)
  generalize hAe : va_A (wX q cI S) s.heap.size = A at hD ⊢
  have hA : ∀ q : Nat, s.heap.size ≤ q → A q := fun q h => by rw [← hAe]; exact Or.inr h
  have hS : va_S A s.heap s.heap [] := va_S.rf
  have hx := B.exec
  have hb := B.bytes
  have hr := B.returns
  have hts := fun w (h : w ∈ bg) => atoms_spec (ws := .code y_X_lot b_X_lot 3 (some .int) :: bg) B.pre w (List.mem_cons_of_mem _ h)
  have hown : s.vm.findClass R_X = some m.cls := findClass_of_methodNamed B.named
  have hlocks := B.notSynchronized
  have hl := lv_entry ([.ref (q 0), .int x, .int y]) (n := 3) (Nat.le_of_ble_eq_true rfl)
  rw [lg_entry_eq]
  generalize (lg_sl ([.ref (q 0), .int x, .int y]) ++ List.replicate (3 - (lg_sl ([.ref (q 0), .int x, .int y])).length) Slot.unset).toArray = ls at hl ⊢
  have hl : lv_has ls 3 [(0, .ref (q 0)), (1, .int x), (2, .int y)] := hl
  have hB := hI.1
  have hg0 : S.2.1 0 ≤ 8 := hI.2.1 0
  have hg1 : S.2.1 1 ≤ 9999 := hI.2.1 1
  have hg2 : S.2.1 2 ≤ 60 := hI.2.1 2
  have hg3 : S.2.1 3 ≤ 60 := hI.2.1 3
  have hg4 : S.2.1 4 ≤ 80 := hI.2.1 4
  have hg5 : S.2.1 5 ≤ 20 := hI.2.1 5
  have hg6 : S.2.1 6 ≤ 80 := hI.2.1 6
  have hg7 : S.2.1 7 ≤ 10 := hI.2.1 7
  have hg8 : t ≤ 512 := hI.2.2
  refine lv_iload_n hx hb d_X_lot_0 rfl (lv_at hl 1 rfl) ?_
  refine nd_go (vx_runS (As := [.int x]) (rest := []) ⟨hx, hb, hml, hown, hts⟩ (c_X_needKind l hst dC dI A0 x) (cwS 1 hts (gi_S wd_234 wd_235 wd_1 wd_236) rfl rfl rfl (by decide +kernel) ⟨Nat.le_of_ble_eq_true rfl, Nat.le_of_ble_eq_true rfl⟩) (nd_preS (hK.sub (tys' := []) [] rfl) (fun k q h => by simp at h) hG) rfl rfl hl.1 rfl (lv_room (Nat.le_of_ble_eq_true rfl)) d_X_lot_1 ⟨Nat.le_of_ble_eq_true rfl, Nat.le_of_ble_eq_true rfl⟩) (fun p1 ce q9 H1 h1 h2 h3 h4 h5 => vx_out (fun x hx => (hnt x hx).elim) hlocks h3 h4 h5 (fun t ht hv => ⟨by simp only [op_lot, if_neg p1]; decide, by simp only [op_lot, if_neg p1]; rfl, by rw [ht]; exact h1, fun z hz => by rw [ht]; exact h2 z hz⟩) (fun q h => nomatch h) (Nat.le_of_ble_eq_true rfl) (Nat.le_of_ble_eq_true rfl)) (fun p1 => ?_)
  obtain ⟨a1, ha1, rfl⟩ := ok_ex p1
  have ma1 : nn (nI a1) = a1 := nn_of (by omega)
  refine lv_iload_n hx hb d_X_lot_4 rfl (lv_at hl 2 rfl) ?_
  refine lv_iconst (v := nI 0) hx hb d_X_lot_5 (by decide) ?_
  refine lv_sipush (v := nI 9999) hx hb d_X_lot_6 (by decide) ?_
  refine nd_go (vx_runS (As := [.int y, .int (nI 0), .int (nI 9999)]) (rest := []) ⟨hx, hb, hml, hown, hts⟩ (c_X_needRange l hst dC dI A0 y 0 9999 (by omega) (by omega)) (cwS 3 hts (gi_S wd_253 wd_254 wd_1 wd_255) rfl rfl rfl (by decide +kernel) ⟨Nat.le_of_ble_eq_true rfl, Nat.le_of_ble_eq_true rfl⟩) (nd_preS (hK.sub (tys' := []) [] rfl) (fun k q h => by simp at h) hG) rfl rfl hl.1 rfl (lv_room (Nat.le_of_ble_eq_true rfl)) d_X_lot_9 ⟨Nat.le_of_ble_eq_true rfl, Nat.le_of_ble_eq_true rfl⟩) (fun p9 ce q9 H1 h1 h2 h3 h4 h5 => vx_out (fun x hx => (hnt x hx).elim) hlocks h3 h4 h5 (fun t ht hv => ⟨by simp only [op_lot, ma1, if_pos p1, if_neg p9]; decide, by simp only [op_lot, ma1, if_pos p1, if_neg p9]; rfl, by rw [ht]; exact h1, fun z hz => by rw [ht]; exact h2 z hz⟩) (fun q h => nomatch h) (Nat.le_of_ble_eq_true rfl) (Nat.le_of_ble_eq_true rfl)) (fun p9 => ?_)
  obtain ⟨a2, ga2, ha2, rfl⟩ := rg_ex p9
  have ma2 : nn (nI a2) = a2 := nn_of (by omega)
  refine lv_aload_n hx hb d_X_lot_12 rfl (lv_at hl 0 rfl) ?_
  refine va_get (D := (dC, dI)) (ci := 0) (v := .ref (q 1)) (C := R_X) (T := F_X) (N := 12) hx hb hts i_X hown hK hP 0 rfl rfl 0 (by decide) (hts _ wd_57) (fun _ h9 => h9) rfl d_X_lot_13 ?_
  refine nd_go (vx_runS (As := [.ref (q 1)]) (rest := []) ⟨hx, hb, hml, hown, hts⟩ (c_X_needRoom l hst dC dI A0 cI (q 1) (q 11) 60 (S.2.1 2) 300 (rowf S.1 0) (by omega) (by omega)) (cwS 1 hts (gi_S wd_272 wd_273 wd_1 wd_274) rfl rfl rfl (by decide +kernel) ⟨Nat.le_of_ble_eq_true rfl, Nat.le_of_ble_eq_true rfl⟩) (nd_preS hK (hP.sub [1, 11] rfl) hG) rfl rfl hl.1 rfl (lv_room (Nat.le_of_ble_eq_true rfl)) d_X_lot_16 ⟨Nat.le_of_ble_eq_true rfl, Nat.le_of_ble_eq_true rfl⟩) (fun p16 ce q9 H1 h1 h2 h3 h4 h5 => vx_out (fun x hx => (hnt x hx).elim) hlocks h3 h4 h5 (fun t ht hv => ⟨by simp only [op_lot, ma1, if_pos p1, ma2, if_pos p9, if_neg p16]; decide, by simp only [op_lot, ma1, if_pos p1, ma2, if_pos p9, if_neg p16]; rfl, by rw [ht]; exact h1, fun z hz => by rw [ht]; exact h2 z hz⟩) (fun q h => nomatch h) (Nat.le_of_ble_eq_true rfl) (Nat.le_of_ble_eq_true rfl)) (fun p16 => ?_)
  refine lv_aload_n hx hb d_X_lot_19 rfl (lv_at hl 0 rfl) ?_
  refine va_get (D := (dC, dI)) (ci := 0) (v := .ref (q 1)) (C := R_X) (T := F_X) (N := 12) hx hb hts i_X hown hK hP 0 rfl rfl 0 (by decide) (hts _ wd_57) (fun _ h9 => h9) rfl d_X_lot_20 ?_
  refine lv_iload_n hx hb d_X_lot_23 rfl (lv_at hl 1 rfl) ?_
  refine lv_iload_n hx hb d_X_lot_24 rfl (lv_at hl 2 rfl) ?_
  refine lv_iconst (v := nI 0) hx hb d_X_lot_25 (by decide) ?_
  refine lv_iconst (v := nI 0) hx hb d_X_lot_26 (by decide) ?_
  refine lv_iconst (v := nI 0) hx hb d_X_lot_27 (by decide) ?_
  refine wr_go (va_runV (As := [.int (nI a1), .int (nI a2), .int (nI 0), .int (nI 0), .int (nI 0)]) (rest := []) ⟨hx, hb, hml, hown, hts⟩ (c_W_add l dC dI s.heap.size cI (q 1) (q 11) 60 (S.2.1 2) 300 (rowf S.1 0) (nI a1) (nI a2) (nI 0) (nI 0) (nI 0) (by omega) (by decide)) (cwV 5 hts (gi_V wd_140 wd_141 wd_142 wd_2 wd_143) rfl rfl rfl (by decide +kernel) ⟨Nat.le_of_ble_eq_true rfl, Nat.le_of_ble_eq_true rfl⟩) (wr_preV hK (hP.sub [1, 11] rfl) (hD.sub [1, 11] (by decide) rfl) (ci := 1) (q0 := 0) rfl rfl) rfl rfl hl.1 rfl (lv_room (Nat.le_of_ble_eq_true rfl)) d_X_lot_28 ⟨Nat.le_of_ble_eq_true rfl, Nat.le_of_ble_eq_true rfl⟩) hP hD hS hA [1, 11] rfl rfl (wX q cI (S_g (S_row S 0 (S.2.1 2) a1 a2 0 0 0) 2 (S.2.1 2 + 1))) wX_add0 rfl (fun H locs hP hD hS => ?_)
  refine W.eq (g2 := F0 m 31 ls [.int (nI (S.2.1 2))]) rfl ?_
  obtain ⟨S1, hS1⟩ : ∃ z : St, z = S_g (S_row S 0 (S.2.1 2) a1 a2 0 0 0) 2 (S.2.1 2 + 1) := ⟨_, rfl⟩
  rw [← hS1] at hP hD
  have ho : op_lot S (nI a1) (nI a2) = (0, nI (S.2.1 2), S_g (S_row S 0 (S.2.1 2) a1 a2 0 0 0) 2 (S.2.1 2 + 1)) := by simp only [op_lot, ma1, if_pos p1, ma2, if_pos p9, if_pos p16]
  rw [ho]
  refine W.widen (k := 3) (n := 18) (Nat.le_of_ble_eq_true rfl) (Nat.le_of_ble_eq_true rfl) ?_
  have hP9 : va_P (dC, dI) classes (wX q cI (S_g (S_row S 0 (S.2.1 2) a1 a2 0 0 0) 2 (S.2.1 2 + 1))) H := by rw [hS1] at hP; exact hP
  exact vx_ret (W.iret hx hb hr (fun t ht hW => ⟨rfl, rfl, by rw [ht]; exact hP9, hS.F ht⟩) hS.2.2 d_X_lot_31)
set_option maxHeartbeats 4000000 in
set_option maxRecDepth 100000 in
theorem c_X_bring (l : Launch) (hst : l.stackTraces = false) (dC : Nat → ClassId) (dI : Nat → Nat → Nat) (A0 : Nat → Prop) (sz : Nat) (cI : ClassId) (q : Nat → Nat) (S : St) (t : Nat) (hI : Bd t S) (x y n : Int32) : vx_Met l y_X_bring (.code y_X_bring b_X_bring 4 (some .int) :: bg) { frames := 8, cells := 4, slots := 24, locals := 132 } (xo_P (dC, dI) classes [(cI, .int)] A0 (wX q cI S) sz [.ref (q 0), .int x, .int y, .int n]) (xo_Q (op_bring S x y n) (some (.int (op_bring S x y n).2.1)) (dC, dI) classes (wX q cI (op_bring S x y n).2.2) (va_A (wX q cI S) sz)) (xo_X (op_bring S x y n) [E_ia, E_io, E_uo]) 4 24 (va_A (wX q cI S) sz) := by
  refine vx_ofW (cc := b_X_bring) (maxL := 4) (ret := (some .int)) (by decide) rfl ?_
  intro p e s m args below meth c s₁ B hml hnt hv
  obtain ⟨rfl, hsz, hP, hK, hD0, hG⟩ := hv
  subst hsz
  have hD := hD0.self (sz := s.heap.size)
  generalize hAe : va_A (wX q cI S) s.heap.size = A at hD ⊢
  have hA : ∀ q : Nat, s.heap.size ≤ q → A q := fun q h => by rw [← hAe]; exact Or.inr h
  have hS : va_S A s.heap s.heap [] := va_S.rf
  have hx := B.exec
  have hb := B.bytes
  have hr := B.returns
  have hts := fun w (h : w ∈ bg) => atoms_spec (ws := .code y_X_bring b_X_bring 4 (some .int) :: bg) B.pre w (List.mem_cons_of_mem _ h)
  have hown : s.vm.findClass R_X = some m.cls := findClass_of_methodNamed B.named
  have hlocks := B.notSynchronized
  have hl := lv_entry ([.ref (q 0), .int x, .int y, .int n]) (n := 4) (Nat.le_of_ble_eq_true rfl)
  rw [lg_entry_eq]
  generalize (lg_sl ([.ref (q 0), .int x, .int y, .int n]) ++ List.replicate (4 - (lg_sl ([.ref (q 0), .int x, .int y, .int n])).length) Slot.unset).toArray = ls at hl ⊢
  have hl : lv_has ls 4 [(0, .ref (q 0)), (1, .int x), (2, .int y), (3, .int n)] := hl
  have hB := hI.1
  have hg0 : S.2.1 0 ≤ 8 := hI.2.1 0
  have hg1 : S.2.1 1 ≤ 9999 := hI.2.1 1
  have hg2 : S.2.1 2 ≤ 60 := hI.2.1 2
  have hg3 : S.2.1 3 ≤ 60 := hI.2.1 3
  have hg4 : S.2.1 4 ≤ 80 := hI.2.1 4
  have hg5 : S.2.1 5 ≤ 20 := hI.2.1 5
  have hg6 : S.2.1 6 ≤ 80 := hI.2.1 6
  have hg7 : S.2.1 7 ≤ 10 := hI.2.1 7
  have hg8 : t ≤ 512 := hI.2.2
  refine lv_aload_n hx hb d_X_bring_0 rfl (lv_at hl 0 rfl) ?_
  refine lv_iload_n hx hb d_X_bring_1 rfl (lv_at hl 1 rfl) ?_
  refine nd_go (vx_runV (As := [.int x]) (rest := []) ⟨hx, hb, hml, hown, hts⟩ (c_X_needStore l hst dC dI A0 cI q S t hI x) (cwV 1 hts (gi_V wd_283 wd_285 wp_7 wd_1 wd_286) rfl rfl rfl (by decide +kernel) ⟨Nat.le_of_ble_eq_true rfl, Nat.le_of_ble_eq_true rfl⟩) (nd_preV hK hP hG (ci := 0) (q0 := 0) rfl rfl) rfl rfl hl.1 rfl (lv_room (Nat.le_of_ble_eq_true rfl)) d_X_bring_2 ⟨Nat.le_of_ble_eq_true rfl, Nat.le_of_ble_eq_true rfl⟩) (fun p2 ce q9 H1 h1 h2 h3 h4 h5 => vx_out (fun x hx => (hnt x hx).elim) hlocks h3 h4 h5 (fun t ht hv => ⟨by simp only [op_bring, if_neg p2]; decide, by simp only [op_bring, if_neg p2]; rfl, by rw [ht]; exact h1, fun z hz => by rw [ht]; exact h2 z hz⟩) (fun q h => nomatch h) (Nat.le_of_ble_eq_true rfl) (Nat.le_of_ble_eq_true rfl)) (fun p2 => ?_)
  obtain ⟨a1, ha1, rfl⟩ := ok_ex p2
  have ma1 : nn (nI a1) = a1 := nn_of (by omega)
  refine lv_aload_n hx hb d_X_bring_5 rfl (lv_at hl 0 rfl) ?_
  refine lv_iload_n hx hb d_X_bring_6 rfl (lv_at hl 2 rfl) ?_
  refine nd_go (vx_runV (As := [.int y]) (rest := []) ⟨hx, hb, hml, hown, hts⟩ (c_X_needLot l hst dC dI A0 cI q S t hI y) (cwV 1 hts (gi_V wd_288 wd_290 wp_8 wd_1 wd_291) rfl rfl rfl (by decide +kernel) ⟨Nat.le_of_ble_eq_true rfl, Nat.le_of_ble_eq_true rfl⟩) (nd_preV hK hP hG (ci := 0) (q0 := 0) rfl rfl) rfl rfl hl.1 rfl (lv_room (Nat.le_of_ble_eq_true rfl)) d_X_bring_7 ⟨Nat.le_of_ble_eq_true rfl, Nat.le_of_ble_eq_true rfl⟩) (fun p7 ce q9 H1 h1 h2 h3 h4 h5 => vx_out (fun x hx => (hnt x hx).elim) hlocks h3 h4 h5 (fun t ht hv => ⟨by simp only [op_bring, ma1, if_pos p2, if_neg p7]; decide, by simp only [op_bring, ma1, if_pos p2, if_neg p7]; rfl, by rw [ht]; exact h1, fun z hz => by rw [ht]; exact h2 z hz⟩) (fun q h => nomatch h) (Nat.le_of_ble_eq_true rfl) (Nat.le_of_ble_eq_true rfl)) (fun p7 => ?_)
  obtain ⟨a2, ha2, rfl⟩ := ok_ex p7
  have ma2 : nn (nI a2) = a2 := nn_of (by omega)
  refine lv_iload_n hx hb d_X_bring_10 rfl (lv_at hl 3 rfl) ?_
  refine lv_iconst (v := nI 1) hx hb d_X_bring_11 (by decide) ?_
  refine lv_sipush (v := nI 9999) hx hb d_X_bring_12 (by decide) ?_
  refine nd_go (vx_runS (As := [.int n, .int (nI 1), .int (nI 9999)]) (rest := []) ⟨hx, hb, hml, hown, hts⟩ (c_X_needRange l hst dC dI A0 n 1 9999 (by omega) (by omega)) (cwS 3 hts (gi_S wd_253 wd_254 wd_1 wd_255) rfl rfl rfl (by decide +kernel) ⟨Nat.le_of_ble_eq_true rfl, Nat.le_of_ble_eq_true rfl⟩) (nd_preS (hK.sub (tys' := []) [] rfl) (fun k q h => by simp at h) hG) rfl rfl hl.1 rfl (lv_room (Nat.le_of_ble_eq_true rfl)) d_X_bring_15 ⟨Nat.le_of_ble_eq_true rfl, Nat.le_of_ble_eq_true rfl⟩) (fun p15 ce q9 H1 h1 h2 h3 h4 h5 => vx_out (fun x hx => (hnt x hx).elim) hlocks h3 h4 h5 (fun t ht hv => ⟨by simp only [op_bring, ma1, if_pos p2, ma2, if_pos p7, if_neg p15]; decide, by simp only [op_bring, ma1, if_pos p2, ma2, if_pos p7, if_neg p15]; rfl, by rw [ht]; exact h1, fun z hz => by rw [ht]; exact h2 z hz⟩) (fun q h => nomatch h) (Nat.le_of_ble_eq_true rfl) (Nat.le_of_ble_eq_true rfl)) (fun p15 => ?_)
  obtain ⟨a3, ga3, ha3, rfl⟩ := rg_ex p15
  have ma3 : nn (nI a3) = a3 := nn_of (by omega)
  refine lv_aload_n hx hb d_X_bring_18 rfl (lv_at hl 0 rfl) ?_
  refine lv_iload_n hx hb d_X_bring_19 rfl (lv_at hl 1 rfl) ?_
  refine lv_iload_n hx hb d_X_bring_20 rfl (lv_at hl 2 rfl) ?_
  refine lv_iload_n hx hb d_X_bring_21 rfl (lv_at hl 3 rfl) ?_
  refine nd_go (vx_runV (As := [.int (nI a1), .int (nI a2), .int (nI a3)]) (rest := []) ⟨hx, hb, hml, hown, hts⟩ (c_X_needPlace l hst dC dI A0 cI q S t hI a1 a2 a3 (by omega) (by omega) (by omega)) (cwV 3 hts (gi_V wd_300 wd_302 wp_9 wd_1 wd_303) rfl rfl rfl (by decide +kernel) ⟨Nat.le_of_ble_eq_true rfl, Nat.le_of_ble_eq_true rfl⟩) (nd_preV hK hP hG (ci := 0) (q0 := 0) rfl rfl) rfl rfl hl.1 rfl (lv_room (Nat.le_of_ble_eq_true rfl)) d_X_bring_22 ⟨Nat.le_of_ble_eq_true rfl, Nat.le_of_ble_eq_true rfl⟩) (fun p22 ce q9 H1 h1 h2 h3 h4 h5 => vx_out (fun x hx => (hnt x hx).elim) hlocks h3 h4 h5 (fun t ht hv => ⟨by simp only [op_bring, ma1, if_pos p2, ma2, if_pos p7, ma3, if_pos p15, if_neg p22]; decide, by simp only [op_bring, ma1, if_pos p2, ma2, if_pos p7, ma3, if_pos p15, if_neg p22]; rfl, by rw [ht]; exact h1, fun z hz => by rw [ht]; exact h2 z hz⟩) (fun q h => nomatch h) (Nat.le_of_ble_eq_true rfl) (Nat.le_of_ble_eq_true rfl)) (fun p22 => ?_)
  refine lv_aload_n hx hb d_X_bring_25 rfl (lv_at hl 0 rfl) ?_
  refine lv_iload_n hx hb d_X_bring_26 rfl (lv_at hl 1 rfl) ?_
  refine lv_iload_n hx hb d_X_bring_27 rfl (lv_at hl 2 rfl) ?_
  refine lv_iload_n hx hb d_X_bring_28 rfl (lv_at hl 3 rfl) ?_
  refine wr_goA (va_runV (As := [.int (nI a1), .int (nI a2), .int (nI a3)]) (rest := []) ⟨hx, hb, hml, hown, hts⟩ (c_X_change l dC dI s.heap.size cI q S t hI a1 a2 (S.1 25 (a1 * 60 + a2) + a3) (nI a3) (by omega) (by omega) (nI_add _ _)) (cwV 3 hts (gi_V wd_305 wd_307 wp_10 wd_1 wd_308) rfl rfl rfl (by decide +kernel) ⟨Nat.le_of_ble_eq_true rfl, Nat.le_of_ble_eq_true rfl⟩) (wr_preV hK hP hD (ci := 0) (q0 := 0) rfl rfl) rfl rfl hl.1 rfl (lv_room (Nat.le_of_ble_eq_true rfl)) d_X_bring_29 ⟨Nat.le_of_ble_eq_true rfl, Nat.le_of_ble_eq_true rfl⟩) hD hS hA wX_adr (fun H locs hP hD hS => ?_)
  refine W.eq (g2 := F0 m 32 ls []) rfl ?_
  obtain ⟨S1, hS1⟩ : ∃ z : St, z = S_a S 25 (a1 * 60 + a2) (S.1 25 (a1 * 60 + a2) + a3) := ⟨_, rfl⟩
  rw [← hS1] at hP hD
  refine lv_aload_n hx hb d_X_bring_32 rfl (lv_at hl 0 rfl) ?_
  refine va_get (D := (dC, dI)) (ci := 0) (v := .ref (q 7)) (C := R_X) (T := F_X) (N := 12) hx hb hts i_X hown hK hP 0 rfl rfl 6 (by decide) (hts _ wd_63) (fun _ h9 => h9) rfl d_X_bring_33 ?_
  refine lv_iload_n hx hb d_X_bring_36 rfl (lv_at hl 1 rfl) ?_
  refine lv_iload_n hx hb d_X_bring_37 rfl (lv_at hl 2 rfl) ?_
  refine pu_go (va_runS (As := [.int (nI a1), .int (nI a2)]) (rest := [.ref (q 7)]) ⟨hx, hb, hml, hown, hts⟩ (c_X_place l dC dI a1 a2) (cwS 2 hts (gi_S wd_125 wd_126 wd_1 wd_127) rfl rfl rfl (by decide +kernel) ⟨Nat.le_of_ble_eq_true rfl, Nat.le_of_ble_eq_true rfl⟩) (pu_preS (hK.sub (tys' := []) [] rfl) (fun k q h => by simp at h)) rfl rfl hl.1 rfl (lv_room (Nat.le_of_ble_eq_true rfl)) d_X_bring_38 ⟨Nat.le_of_ble_eq_true rfl, Nat.le_of_ble_eq_true rfl⟩) ?_
  refine nv_iald (v := nI (S1.1 25 (a1 * 60 + a2))) hx hb hK hP 7 0 rfl rfl (by omega) (by decide) rfl d_X_bring_41 ?_
  have ho : op_bring S (nI a1) (nI a2) (nI a3) = (0, nI (S.1 25 (a1 * 60 + a2) + a3), S_a S 25 (a1 * 60 + a2) (S.1 25 (a1 * 60 + a2) + a3)) := by simp only [op_bring, ma1, if_pos p2, ma2, if_pos p7, ma3, if_pos p15, if_pos p22]
  rw [ho]
  refine nv_as (nI (S.1 25 (a1 * 60 + a2) + a3)) (by rw [hS1]; exact congrArg nI Sa_s) ?_
  refine W.widen (k := 4) (n := 24) (Nat.le_of_ble_eq_true rfl) (Nat.le_of_ble_eq_true rfl) ?_
  have hP9 : va_P (dC, dI) classes (wX q cI (S_a S 25 (a1 * 60 + a2) (S.1 25 (a1 * 60 + a2) + a3))) H := by rw [hS1] at hP; exact hP
  exact vx_ret (W.iret hx hb hr (fun t ht hW => ⟨rfl, rfl, by rw [ht]; exact hP9, hS.F ht⟩) hS.2.2 d_X_bring_42)
set_option maxHeartbeats 4000000 in
set_option maxRecDepth 100000 in
theorem c_X_has (l : Launch) (hst : l.stackTraces = false) (dC : Nat → ClassId) (dI : Nat → Nat → Nat) (A0 : Nat → Prop) (sz : Nat) (cI : ClassId) (q : Nat → Nat) (S : St) (t : Nat) (hI : Bd t S) (x y : Int32) : vx_Met l y_X_has (.code y_X_has b_X_has 3 (some .int) :: bg) { frames := 8, cells := 2, slots := 12, locals := 132 } (xo_P (dC, dI) classes [(cI, .int)] A0 (wX q cI S) sz [.ref (q 0), .int x, .int y]) (xo_Q (op_has S x y) (some (.int (op_has S x y).2.1)) (dC, dI) classes (wX q cI (op_has S x y).2.2) (va_A (wX q cI S) sz)) (xo_X (op_has S x y) [E_ia]) 2 12 (va_A (wX q cI S) sz) := by
  refine vx_ofW (cc := b_X_has) (maxL := 3) (ret := (some .int)) (by decide) rfl ?_
  intro p e s m args below meth c s₁ B hml hnt hv
  obtain ⟨rfl, hsz, hP, hK, hD0, hG⟩ := hv
  subst hsz
  have hD := hD0.self (sz := s.heap.size)
  generalize hAe : va_A (wX q cI S) s.heap.size = A at hD ⊢
  have hA : ∀ q : Nat, s.heap.size ≤ q → A q := fun q h => by rw [← hAe]; exact Or.inr h
  have hS : va_S A s.heap s.heap [] := va_S.rf
  have hx := B.exec
  have hb := B.bytes
  have hr := B.returns
  have hts := fun w (h : w ∈ bg) => atoms_spec (ws := .code y_X_has b_X_has 3 (some .int) :: bg) B.pre w (List.mem_cons_of_mem _ h)
  have hown : s.vm.findClass R_X = some m.cls := findClass_of_methodNamed B.named
  have hlocks := B.notSynchronized
  have hl := lv_entry ([.ref (q 0), .int x, .int y]) (n := 3) (Nat.le_of_ble_eq_true rfl)
  rw [lg_entry_eq]
  generalize (lg_sl ([.ref (q 0), .int x, .int y]) ++ List.replicate (3 - (lg_sl ([.ref (q 0), .int x, .int y])).length) Slot.unset).toArray = ls at hl ⊢
  have hl : lv_has ls 3 [(0, .ref (q 0)), (1, .int x), (2, .int y)] := hl
  have hB := hI.1
  have hg0 : S.2.1 0 ≤ 8 := hI.2.1 0
  have hg1 : S.2.1 1 ≤ 9999 := hI.2.1 1
  have hg2 : S.2.1 2 ≤ 60 := hI.2.1 2
  have hg3 : S.2.1 3 ≤ 60 := hI.2.1 3
  have hg4 : S.2.1 4 ≤ 80 := hI.2.1 4
  have hg5 : S.2.1 5 ≤ 20 := hI.2.1 5
  have hg6 : S.2.1 6 ≤ 80 := hI.2.1 6
  have hg7 : S.2.1 7 ≤ 10 := hI.2.1 7
  have hg8 : t ≤ 512 := hI.2.2
  refine lv_aload_n hx hb d_X_has_0 rfl (lv_at hl 0 rfl) ?_
  refine lv_iload_n hx hb d_X_has_1 rfl (lv_at hl 1 rfl) ?_
  refine nd_go (vx_runV (As := [.int x]) (rest := []) ⟨hx, hb, hml, hown, hts⟩ (c_X_needStore l hst dC dI A0 cI q S t hI x) (cwV 1 hts (gi_V wd_283 wd_285 wp_7 wd_1 wd_286) rfl rfl rfl (by decide +kernel) ⟨Nat.le_of_ble_eq_true rfl, Nat.le_of_ble_eq_true rfl⟩) (nd_preV hK hP hG (ci := 0) (q0 := 0) rfl rfl) rfl rfl hl.1 rfl (lv_room (Nat.le_of_ble_eq_true rfl)) d_X_has_2 ⟨Nat.le_of_ble_eq_true rfl, Nat.le_of_ble_eq_true rfl⟩) (fun p2 ce q9 H1 h1 h2 h3 h4 h5 => vx_out (fun x hx => (hnt x hx).elim) hlocks h3 h4 h5 (fun t ht hv => ⟨by simp only [op_has, if_neg p2]; decide, by simp only [op_has, if_neg p2]; rfl, by rw [ht]; exact h1, fun z hz => by rw [ht]; exact h2 z hz⟩) (fun q h => nomatch h) (Nat.le_of_ble_eq_true rfl) (Nat.le_of_ble_eq_true rfl)) (fun p2 => ?_)
  obtain ⟨a1, ha1, rfl⟩ := ok_ex p2
  have ma1 : nn (nI a1) = a1 := nn_of (by omega)
  refine lv_aload_n hx hb d_X_has_5 rfl (lv_at hl 0 rfl) ?_
  refine lv_iload_n hx hb d_X_has_6 rfl (lv_at hl 2 rfl) ?_
  refine nd_go (vx_runV (As := [.int y]) (rest := []) ⟨hx, hb, hml, hown, hts⟩ (c_X_needLot l hst dC dI A0 cI q S t hI y) (cwV 1 hts (gi_V wd_288 wd_290 wp_8 wd_1 wd_291) rfl rfl rfl (by decide +kernel) ⟨Nat.le_of_ble_eq_true rfl, Nat.le_of_ble_eq_true rfl⟩) (nd_preV hK hP hG (ci := 0) (q0 := 0) rfl rfl) rfl rfl hl.1 rfl (lv_room (Nat.le_of_ble_eq_true rfl)) d_X_has_7 ⟨Nat.le_of_ble_eq_true rfl, Nat.le_of_ble_eq_true rfl⟩) (fun p7 ce q9 H1 h1 h2 h3 h4 h5 => vx_out (fun x hx => (hnt x hx).elim) hlocks h3 h4 h5 (fun t ht hv => ⟨by simp only [op_has, ma1, if_pos p2, if_neg p7]; decide, by simp only [op_has, ma1, if_pos p2, if_neg p7]; rfl, by rw [ht]; exact h1, fun z hz => by rw [ht]; exact h2 z hz⟩) (fun q h => nomatch h) (Nat.le_of_ble_eq_true rfl) (Nat.le_of_ble_eq_true rfl)) (fun p7 => ?_)
  obtain ⟨a2, ha2, rfl⟩ := ok_ex p7
  have ma2 : nn (nI a2) = a2 := nn_of (by omega)
  refine lv_aload_n hx hb d_X_has_10 rfl (lv_at hl 0 rfl) ?_
  refine va_get (D := (dC, dI)) (ci := 0) (v := .ref (q 7)) (C := R_X) (T := F_X) (N := 12) hx hb hts i_X hown hK hP 0 rfl rfl 6 (by decide) (hts _ wd_63) (fun _ h9 => h9) rfl d_X_has_11 ?_
  refine lv_iload_n hx hb d_X_has_14 rfl (lv_at hl 1 rfl) ?_
  refine lv_iload_n hx hb d_X_has_15 rfl (lv_at hl 2 rfl) ?_
  refine pu_go (va_runS (As := [.int (nI a1), .int (nI a2)]) (rest := [.ref (q 7)]) ⟨hx, hb, hml, hown, hts⟩ (c_X_place l dC dI a1 a2) (cwS 2 hts (gi_S wd_125 wd_126 wd_1 wd_127) rfl rfl rfl (by decide +kernel) ⟨Nat.le_of_ble_eq_true rfl, Nat.le_of_ble_eq_true rfl⟩) (pu_preS (hK.sub (tys' := []) [] rfl) (fun k q h => by simp at h)) rfl rfl hl.1 rfl (lv_room (Nat.le_of_ble_eq_true rfl)) d_X_has_16 ⟨Nat.le_of_ble_eq_true rfl, Nat.le_of_ble_eq_true rfl⟩) ?_
  refine nv_iald (v := nI (S.1 25 (a1 * 60 + a2))) hx hb hK hP 7 0 rfl rfl (by omega) (by decide) rfl d_X_has_19 ?_
  have ho : op_has S (nI a1) (nI a2) = (0, nI (S.1 25 (a1 * 60 + a2)), S) := by simp only [op_has, ma1, if_pos p2, ma2, if_pos p7]
  rw [ho]
  refine W.widen (k := 2) (n := 12) (Nat.le_of_ble_eq_true rfl) (Nat.le_of_ble_eq_true rfl) ?_
  have hP9 : va_P (dC, dI) classes (wX q cI (S)) s.heap := hP
  exact vx_ret (W.iret hx hb hr (fun t ht hW => ⟨rfl, rfl, by rw [ht]; exact hP9, hS.F ht⟩) hS.2.2 d_X_has_20)
set_option maxHeartbeats 4000000 in
set_option maxRecDepth 100000 in
theorem c_X_kit (l : Launch) (hst : l.stackTraces = false) (dC : Nat → ClassId) (dI : Nat → Nat → Nat) (A0 : Nat → Prop) (sz : Nat) (cI : ClassId) (q : Nat → Nat) (S : St) (t : Nat) (hI : Bd t S) (x y n : Int32) : vx_Met l y_X_kit (.code y_X_kit b_X_kit 4 none :: bg) { frames := 8, cells := 3, slots := 18, locals := 132 } (xo_P (dC, dI) classes [(cI, .int)] A0 (wX q cI S) sz [.ref (q 0), .int x, .int y, .int n]) (xo_Q (op_kit S x y n) none (dC, dI) classes (wX q cI (op_kit S x y n).2.2) (va_A (wX q cI S) sz)) (xo_X (op_kit S x y n) [E_ia, E_io]) 3 18 (va_A (wX q cI S) sz) := by
  refine vx_ofW (cc := b_X_kit) (maxL := 4) (ret := none) (by decide) rfl ?_
  intro p e s m args below meth c s₁ B hml hnt hv
  obtain ⟨rfl, hsz, hP, hK, hD0, hG⟩ := hv
  subst hsz
  have hD := hD0.self (sz := s.heap.size)
  generalize hAe : va_A (wX q cI S) s.heap.size = A at hD ⊢
  have hA : ∀ q : Nat, s.heap.size ≤ q → A q := fun q h => by rw [← hAe]; exact Or.inr h
  have hS : va_S A s.heap s.heap [] := va_S.rf
  have hx := B.exec
  have hb := B.bytes
  have hr := B.returns
  have hts := fun w (h : w ∈ bg) => atoms_spec (ws := .code y_X_kit b_X_kit 4 none :: bg) B.pre w (List.mem_cons_of_mem _ h)
  have hown : s.vm.findClass R_X = some m.cls := findClass_of_methodNamed B.named
  have hlocks := B.notSynchronized
  have hl := lv_entry ([.ref (q 0), .int x, .int y, .int n]) (n := 4) (Nat.le_of_ble_eq_true rfl)
  rw [lg_entry_eq]
  generalize (lg_sl ([.ref (q 0), .int x, .int y, .int n]) ++ List.replicate (4 - (lg_sl ([.ref (q 0), .int x, .int y, .int n])).length) Slot.unset).toArray = ls at hl ⊢
  have hl : lv_has ls 4 [(0, .ref (q 0)), (1, .int x), (2, .int y), (3, .int n)] := hl
  have hB := hI.1
  have hg0 : S.2.1 0 ≤ 8 := hI.2.1 0
  have hg1 : S.2.1 1 ≤ 9999 := hI.2.1 1
  have hg2 : S.2.1 2 ≤ 60 := hI.2.1 2
  have hg3 : S.2.1 3 ≤ 60 := hI.2.1 3
  have hg4 : S.2.1 4 ≤ 80 := hI.2.1 4
  have hg5 : S.2.1 5 ≤ 20 := hI.2.1 5
  have hg6 : S.2.1 6 ≤ 80 := hI.2.1 6
  have hg7 : S.2.1 7 ≤ 10 := hI.2.1 7
  have hg8 : t ≤ 512 := hI.2.2
  refine lv_iload_n hx hb d_X_kit_0 rfl (lv_at hl 1 rfl) ?_
  refine nd_go (vx_runS (As := [.int x]) (rest := []) ⟨hx, hb, hml, hown, hts⟩ (c_X_needKit l hst dC dI A0 x) (cwS 1 hts (gi_S wd_456 wd_457 wd_1 wd_458) rfl rfl rfl (by decide +kernel) ⟨Nat.le_of_ble_eq_true rfl, Nat.le_of_ble_eq_true rfl⟩) (nd_preS (hK.sub (tys' := []) [] rfl) (fun k q h => by simp at h) hG) rfl rfl hl.1 rfl (lv_room (Nat.le_of_ble_eq_true rfl)) d_X_kit_1 ⟨Nat.le_of_ble_eq_true rfl, Nat.le_of_ble_eq_true rfl⟩) (fun p1 ce q9 H1 h1 h2 h3 h4 h5 => vx_out (fun x hx => (hnt x hx).elim) hlocks h3 h4 h5 (fun t ht hv => ⟨by simp only [op_kit, if_neg p1]; decide, by simp only [op_kit, if_neg p1]; rfl, by rw [ht]; exact h1, fun z hz => by rw [ht]; exact h2 z hz⟩) (fun q h => nomatch h) (Nat.le_of_ble_eq_true rfl) (Nat.le_of_ble_eq_true rfl)) (fun p1 => ?_)
  obtain ⟨a1, ha1, rfl⟩ := ok_ex p1
  have ma1 : nn (nI a1) = a1 := nn_of (by omega)
  refine lv_iload_n hx hb d_X_kit_4 rfl (lv_at hl 2 rfl) ?_
  refine nd_go (vx_runS (As := [.int y]) (rest := []) ⟨hx, hb, hml, hown, hts⟩ (c_X_needKind l hst dC dI A0 y) (cwS 1 hts (gi_S wd_234 wd_235 wd_1 wd_236) rfl rfl rfl (by decide +kernel) ⟨Nat.le_of_ble_eq_true rfl, Nat.le_of_ble_eq_true rfl⟩) (nd_preS (hK.sub (tys' := []) [] rfl) (fun k q h => by simp at h) hG) rfl rfl hl.1 rfl (lv_room (Nat.le_of_ble_eq_true rfl)) d_X_kit_5 ⟨Nat.le_of_ble_eq_true rfl, Nat.le_of_ble_eq_true rfl⟩) (fun p5 ce q9 H1 h1 h2 h3 h4 h5 => vx_out (fun x hx => (hnt x hx).elim) hlocks h3 h4 h5 (fun t ht hv => ⟨by simp only [op_kit, ma1, if_pos p1, if_neg p5]; decide, by simp only [op_kit, ma1, if_pos p1, if_neg p5]; rfl, by rw [ht]; exact h1, fun z hz => by rw [ht]; exact h2 z hz⟩) (fun q h => nomatch h) (Nat.le_of_ble_eq_true rfl) (Nat.le_of_ble_eq_true rfl)) (fun p5 => ?_)
  obtain ⟨a2, ha2, rfl⟩ := ok_ex p5
  have ma2 : nn (nI a2) = a2 := nn_of (by omega)
  refine lv_iload_n hx hb d_X_kit_8 rfl (lv_at hl 3 rfl) ?_
  refine lv_iconst (v := nI 0) hx hb d_X_kit_9 (by decide) ?_
  refine lv_bipush (v := nI 20) hx hb d_X_kit_10 (by decide) ?_
  refine nd_go (vx_runS (As := [.int n, .int (nI 0), .int (nI 20)]) (rest := []) ⟨hx, hb, hml, hown, hts⟩ (c_X_needRange l hst dC dI A0 n 0 20 (by omega) (by omega)) (cwS 3 hts (gi_S wd_253 wd_254 wd_1 wd_255) rfl rfl rfl (by decide +kernel) ⟨Nat.le_of_ble_eq_true rfl, Nat.le_of_ble_eq_true rfl⟩) (nd_preS (hK.sub (tys' := []) [] rfl) (fun k q h => by simp at h) hG) rfl rfl hl.1 rfl (lv_room (Nat.le_of_ble_eq_true rfl)) d_X_kit_12 ⟨Nat.le_of_ble_eq_true rfl, Nat.le_of_ble_eq_true rfl⟩) (fun p12 ce q9 H1 h1 h2 h3 h4 h5 => vx_out (fun x hx => (hnt x hx).elim) hlocks h3 h4 h5 (fun t ht hv => ⟨by simp only [op_kit, ma1, if_pos p1, ma2, if_pos p5, if_neg p12]; decide, by simp only [op_kit, ma1, if_pos p1, ma2, if_pos p5, if_neg p12]; rfl, by rw [ht]; exact h1, fun z hz => by rw [ht]; exact h2 z hz⟩) (fun q h => nomatch h) (Nat.le_of_ble_eq_true rfl) (Nat.le_of_ble_eq_true rfl)) (fun p12 => ?_)
  obtain ⟨a3, ga3, ha3, rfl⟩ := rg_ex p12
  have ma3 : nn (nI a3) = a3 := nn_of (by omega)
  refine lv_aload_n hx hb d_X_kit_15 rfl (lv_at hl 0 rfl) ?_
  refine va_get (D := (dC, dI)) (ci := 0) (v := .ref (q 10)) (C := R_X) (T := F_X) (N := 12) hx hb hts i_X hown hK hP 0 rfl rfl 9 (by decide) (hts _ wd_66) (fun _ h9 => h9) rfl d_X_kit_16 ?_
  refine lv_iload_n hx hb d_X_kit_19 rfl (lv_at hl 1 rfl) ?_
  refine lv_iload_n hx hb d_X_kit_20 rfl (lv_at hl 2 rfl) ?_
  refine pu_go (va_runS (As := [.int (nI a1), .int (nI a2)]) (rest := [.ref (q 10)]) ⟨hx, hb, hml, hown, hts⟩ (c_X_pair l dC dI a1 a2) (cwS 2 hts (gi_S wd_106 wd_107 wd_1 wd_108) rfl rfl rfl (by decide +kernel) ⟨Nat.le_of_ble_eq_true rfl, Nat.le_of_ble_eq_true rfl⟩) (pu_preS (hK.sub (tys' := []) [] rfl) (fun k q h => by simp at h)) rfl rfl hl.1 rfl (lv_room (Nat.le_of_ble_eq_true rfl)) d_X_kit_21 ⟨Nat.le_of_ble_eq_true rfl, Nat.le_of_ble_eq_true rfl⟩) ?_
  refine lv_iload_n hx hb d_X_kit_24 rfl (lv_at hl 3 rfl) ?_
  refine nv_iast (f' := upd (colf S.1 28) (a1 * 10 + a2) (nI a3)) hx hb hK hP hD hS 10 0 rfl rfl (by omega) (by decide) rfl (wX q cI (S_a S 28 (a1 * 10 + a2) a3)) wX_c28 d_X_kit_25 (fun H locs hP hD hS => ?_)
  obtain ⟨S1, hS1⟩ : ∃ z : St, z = S_a S 28 (a1 * 10 + a2) a3 := ⟨_, rfl⟩
  rw [← hS1] at hP hD
  have ho : op_kit S (nI a1) (nI a2) (nI a3) = (0, 0, S_a S 28 (a1 * 10 + a2) a3) := by simp only [op_kit, ma1, if_pos p1, ma2, if_pos p5, ma3, if_pos p12]
  rw [ho]
  refine W.widen (k := 3) (n := 18) (Nat.le_of_ble_eq_true rfl) (Nat.le_of_ble_eq_true rfl) ?_
  have hP9 : va_P (dC, dI) classes (wX q cI (S_a S 28 (a1 * 10 + a2) a3)) H := by rw [hS1] at hP; exact hP
  exact vx_ret (W.vret hx hb hr (fun t ht hW => ⟨rfl, rfl, by rw [ht]; exact hP9, hS.F ht⟩) hS.2.2 d_X_kit_26)
set_option maxHeartbeats 4000000 in
set_option maxRecDepth 100000 in
theorem c_X_level (l : Launch) (hst : l.stackTraces = false) (dC : Nat → ClassId) (dI : Nat → Nat → Nat) (A0 : Nat → Prop) (sz : Nat) (cI : ClassId) (q : Nat → Nat) (S : St) (t : Nat) (hI : Bd t S) (x y a b : Int32) : vx_Met l y_X_level (.code y_X_level b_X_level 5 none :: bg) { frames := 8, cells := 4, slots := 24, locals := 132 } (xo_P (dC, dI) classes [(cI, .int)] A0 (wX q cI S) sz [.ref (q 0), .int x, .int y, .int a, .int b]) (xo_Q (op_level S x y a b) none (dC, dI) classes (wX q cI (op_level S x y a b).2.2) (va_A (wX q cI S) sz)) (xo_X (op_level S x y a b) [E_ia, E_io]) 4 24 (va_A (wX q cI S) sz) := by
  refine vx_ofW (cc := b_X_level) (maxL := 5) (ret := none) (by decide) rfl ?_
  intro p e s m args below meth c s₁ B hml hnt hv
  obtain ⟨rfl, hsz, hP, hK, hD0, hG⟩ := hv
  subst hsz
  have hD := hD0.self (sz := s.heap.size)
  generalize hAe : va_A (wX q cI S) s.heap.size = A at hD ⊢
  have hA : ∀ q : Nat, s.heap.size ≤ q → A q := fun q h => by rw [← hAe]; exact Or.inr h
  have hS : va_S A s.heap s.heap [] := va_S.rf
  have hx := B.exec
  have hb := B.bytes
  have hr := B.returns
  have hts := fun w (h : w ∈ bg) => atoms_spec (ws := .code y_X_level b_X_level 5 none :: bg) B.pre w (List.mem_cons_of_mem _ h)
  have hown : s.vm.findClass R_X = some m.cls := findClass_of_methodNamed B.named
  have hlocks := B.notSynchronized
  have hl := lv_entry ([.ref (q 0), .int x, .int y, .int a, .int b]) (n := 5) (Nat.le_of_ble_eq_true rfl)
  rw [lg_entry_eq]
  generalize (lg_sl ([.ref (q 0), .int x, .int y, .int a, .int b]) ++ List.replicate (5 - (lg_sl ([.ref (q 0), .int x, .int y, .int a, .int b])).length) Slot.unset).toArray = ls at hl ⊢
  have hl : lv_has ls 5 [(0, .ref (q 0)), (1, .int x), (2, .int y), (3, .int a), (4, .int b)] := hl
  have hB := hI.1
  have hg0 : S.2.1 0 ≤ 8 := hI.2.1 0
  have hg1 : S.2.1 1 ≤ 9999 := hI.2.1 1
  have hg2 : S.2.1 2 ≤ 60 := hI.2.1 2
  have hg3 : S.2.1 3 ≤ 60 := hI.2.1 3
  have hg4 : S.2.1 4 ≤ 80 := hI.2.1 4
  have hg5 : S.2.1 5 ≤ 20 := hI.2.1 5
  have hg6 : S.2.1 6 ≤ 80 := hI.2.1 6
  have hg7 : S.2.1 7 ≤ 10 := hI.2.1 7
  have hg8 : t ≤ 512 := hI.2.2
  refine lv_aload_n hx hb d_X_level_0 rfl (lv_at hl 0 rfl) ?_
  refine lv_iload_n hx hb d_X_level_1 rfl (lv_at hl 1 rfl) ?_
  refine nd_go (vx_runV (As := [.int x]) (rest := []) ⟨hx, hb, hml, hown, hts⟩ (c_X_needStore l hst dC dI A0 cI q S t hI x) (cwV 1 hts (gi_V wd_283 wd_285 wp_7 wd_1 wd_286) rfl rfl rfl (by decide +kernel) ⟨Nat.le_of_ble_eq_true rfl, Nat.le_of_ble_eq_true rfl⟩) (nd_preV hK hP hG (ci := 0) (q0 := 0) rfl rfl) rfl rfl hl.1 rfl (lv_room (Nat.le_of_ble_eq_true rfl)) d_X_level_2 ⟨Nat.le_of_ble_eq_true rfl, Nat.le_of_ble_eq_true rfl⟩) (fun p2 ce q9 H1 h1 h2 h3 h4 h5 => vx_out (fun x hx => (hnt x hx).elim) hlocks h3 h4 h5 (fun t ht hv => ⟨by simp only [op_level, if_neg p2]; decide, by simp only [op_level, if_neg p2]; rfl, by rw [ht]; exact h1, fun z hz => by rw [ht]; exact h2 z hz⟩) (fun q h => nomatch h) (Nat.le_of_ble_eq_true rfl) (Nat.le_of_ble_eq_true rfl)) (fun p2 => ?_)
  obtain ⟨a1, ha1, rfl⟩ := ok_ex p2
  have ma1 : nn (nI a1) = a1 := nn_of (by omega)
  refine lv_iload_n hx hb d_X_level_5 rfl (lv_at hl 2 rfl) ?_
  refine nd_go (vx_runS (As := [.int y]) (rest := []) ⟨hx, hb, hml, hown, hts⟩ (c_X_needKind l hst dC dI A0 y) (cwS 1 hts (gi_S wd_234 wd_235 wd_1 wd_236) rfl rfl rfl (by decide +kernel) ⟨Nat.le_of_ble_eq_true rfl, Nat.le_of_ble_eq_true rfl⟩) (nd_preS (hK.sub (tys' := []) [] rfl) (fun k q h => by simp at h) hG) rfl rfl hl.1 rfl (lv_room (Nat.le_of_ble_eq_true rfl)) d_X_level_6 ⟨Nat.le_of_ble_eq_true rfl, Nat.le_of_ble_eq_true rfl⟩) (fun p6 ce q9 H1 h1 h2 h3 h4 h5 => vx_out (fun x hx => (hnt x hx).elim) hlocks h3 h4 h5 (fun t ht hv => ⟨by simp only [op_level, ma1, if_pos p2, if_neg p6]; decide, by simp only [op_level, ma1, if_pos p2, if_neg p6]; rfl, by rw [ht]; exact h1, fun z hz => by rw [ht]; exact h2 z hz⟩) (fun q h => nomatch h) (Nat.le_of_ble_eq_true rfl) (Nat.le_of_ble_eq_true rfl)) (fun p6 => ?_)
  obtain ⟨a2, ha2, rfl⟩ := ok_ex p6
  have ma2 : nn (nI a2) = a2 := nn_of (by omega)
  refine lv_iload hx hb d_X_level_9 (lv_at hl 4 rfl) ?_
  refine lv_iconst (v := nI 0) hx hb d_X_level_11 (by decide) ?_
  refine lv_sipush (v := nI 9999) hx hb d_X_level_12 (by decide) ?_
  refine nd_go (vx_runS (As := [.int b, .int (nI 0), .int (nI 9999)]) (rest := []) ⟨hx, hb, hml, hown, hts⟩ (c_X_needRange l hst dC dI A0 b 0 9999 (by omega) (by omega)) (cwS 3 hts (gi_S wd_253 wd_254 wd_1 wd_255) rfl rfl rfl (by decide +kernel) ⟨Nat.le_of_ble_eq_true rfl, Nat.le_of_ble_eq_true rfl⟩) (nd_preS (hK.sub (tys' := []) [] rfl) (fun k q h => by simp at h) hG) rfl rfl hl.1 rfl (lv_room (Nat.le_of_ble_eq_true rfl)) d_X_level_15 ⟨Nat.le_of_ble_eq_true rfl, Nat.le_of_ble_eq_true rfl⟩) (fun p15 ce q9 H1 h1 h2 h3 h4 h5 => vx_out (fun x hx => (hnt x hx).elim) hlocks h3 h4 h5 (fun t ht hv => ⟨by simp only [op_level, ma1, if_pos p2, ma2, if_pos p6, if_neg p15]; decide, by simp only [op_level, ma1, if_pos p2, ma2, if_pos p6, if_neg p15]; rfl, by rw [ht]; exact h1, fun z hz => by rw [ht]; exact h2 z hz⟩) (fun q h => nomatch h) (Nat.le_of_ble_eq_true rfl) (Nat.le_of_ble_eq_true rfl)) (fun p15 => ?_)
  obtain ⟨a3, ga3, ha3, rfl⟩ := rg_ex p15
  have ma3 : nn (nI a3) = a3 := nn_of (by omega)
  refine lv_iload_n hx hb d_X_level_18 rfl (lv_at hl 3 rfl) ?_
  refine lv_iconst (v := nI 0) hx hb d_X_level_19 (by decide) ?_
  refine lv_iload hx hb d_X_level_20 (lv_at hl 4 rfl) ?_
  refine nd_go (vx_runS (As := [.int a, .int (nI 0), .int (nI a3)]) (rest := []) ⟨hx, hb, hml, hown, hts⟩ (c_X_needRange l hst dC dI A0 a 0 a3 (by omega) (by omega)) (cwS 3 hts (gi_S wd_253 wd_254 wd_1 wd_255) rfl rfl rfl (by decide +kernel) ⟨Nat.le_of_ble_eq_true rfl, Nat.le_of_ble_eq_true rfl⟩) (nd_preS (hK.sub (tys' := []) [] rfl) (fun k q h => by simp at h) hG) rfl rfl hl.1 rfl (lv_room (Nat.le_of_ble_eq_true rfl)) d_X_level_22 ⟨Nat.le_of_ble_eq_true rfl, Nat.le_of_ble_eq_true rfl⟩) (fun p22 ce q9 H1 h1 h2 h3 h4 h5 => vx_out (fun x hx => (hnt x hx).elim) hlocks h3 h4 h5 (fun t ht hv => ⟨by simp only [op_level, ma1, if_pos p2, ma2, if_pos p6, ma3, if_pos p15, if_neg p22]; decide, by simp only [op_level, ma1, if_pos p2, ma2, if_pos p6, ma3, if_pos p15, if_neg p22]; rfl, by rw [ht]; exact h1, fun z hz => by rw [ht]; exact h2 z hz⟩) (fun q h => nomatch h) (Nat.le_of_ble_eq_true rfl) (Nat.le_of_ble_eq_true rfl)) (fun p22 => ?_)
  obtain ⟨a4, ga4, ha4, rfl⟩ := rg_ex p22
  have ma4 : nn (nI a4) = a4 := nn_of (by omega)
  refine lv_aload_n hx hb d_X_level_25 rfl (lv_at hl 0 rfl) ?_
  refine va_get (D := (dC, dI)) (ci := 0) (v := .ref (q 8)) (C := R_X) (T := F_X) (N := 12) hx hb hts i_X hown hK hP 0 rfl rfl 7 (by decide) (hts _ wd_64) (fun _ h9 => h9) rfl d_X_level_26 ?_
  refine lv_iload_n hx hb d_X_level_29 rfl (lv_at hl 1 rfl) ?_
  refine lv_iload_n hx hb d_X_level_30 rfl (lv_at hl 2 rfl) ?_
  refine pu_go (va_runS (As := [.int (nI a1), .int (nI a2)]) (rest := [.ref (q 8)]) ⟨hx, hb, hml, hown, hts⟩ (c_X_pair l dC dI a1 a2) (cwS 2 hts (gi_S wd_106 wd_107 wd_1 wd_108) rfl rfl rfl (by decide +kernel) ⟨Nat.le_of_ble_eq_true rfl, Nat.le_of_ble_eq_true rfl⟩) (pu_preS (hK.sub (tys' := []) [] rfl) (fun k q h => by simp at h)) rfl rfl hl.1 rfl (lv_room (Nat.le_of_ble_eq_true rfl)) d_X_level_31 ⟨Nat.le_of_ble_eq_true rfl, Nat.le_of_ble_eq_true rfl⟩) ?_
  refine lv_iload_n hx hb d_X_level_34 rfl (lv_at hl 3 rfl) ?_
  refine nv_iast (f' := upd (colf S.1 26) (a1 * 10 + a2) (nI a4)) hx hb hK hP hD hS 8 0 rfl rfl (by omega) (by decide) rfl (wX q cI (S_a S 26 (a1 * 10 + a2) a4)) wX_c26 d_X_level_35 (fun H locs hP hD hS => ?_)
  obtain ⟨S1, hS1⟩ : ∃ z : St, z = S_a S 26 (a1 * 10 + a2) a4 := ⟨_, rfl⟩
  rw [← hS1] at hP hD
  refine lv_aload_n hx hb d_X_level_36 rfl (lv_at hl 0 rfl) ?_
  refine va_get (D := (dC, dI)) (ci := 0) (v := .ref (q 9)) (C := R_X) (T := F_X) (N := 12) hx hb hts i_X hown hK hP 0 rfl rfl 8 (by decide) (hts _ wd_65) (fun _ h9 => h9) rfl d_X_level_37 ?_
  refine lv_iload_n hx hb d_X_level_40 rfl (lv_at hl 1 rfl) ?_
  refine lv_iload_n hx hb d_X_level_41 rfl (lv_at hl 2 rfl) ?_
  refine pu_go (va_runS (As := [.int (nI a1), .int (nI a2)]) (rest := [.ref (q 9)]) ⟨hx, hb, hml, hown, hts⟩ (c_X_pair l dC dI a1 a2) (cwS 2 hts (gi_S wd_106 wd_107 wd_1 wd_108) rfl rfl rfl (by decide +kernel) ⟨Nat.le_of_ble_eq_true rfl, Nat.le_of_ble_eq_true rfl⟩) (pu_preS (hK.sub (tys' := []) [] rfl) (fun k q h => by simp at h)) rfl rfl hl.1 rfl (lv_room (Nat.le_of_ble_eq_true rfl)) d_X_level_42 ⟨Nat.le_of_ble_eq_true rfl, Nat.le_of_ble_eq_true rfl⟩) ?_
  refine lv_iload hx hb d_X_level_45 (lv_at hl 4 rfl) ?_
  refine nv_iast (f' := upd (colf S1.1 27) (a1 * 10 + a2) (nI a3)) hx hb hK hP hD hS 9 0 rfl rfl (by omega) (by decide) rfl (wX q cI (S_a S1 27 (a1 * 10 + a2) a3)) wX_c27 d_X_level_47 (fun H locs hP hD hS => ?_)
  obtain ⟨S2, hS2⟩ : ∃ z : St, z = S_a S1 27 (a1 * 10 + a2) a3 := ⟨_, rfl⟩
  rw [← hS2] at hP hD
  have ho : op_level S (nI a1) (nI a2) (nI a4) (nI a3) = (0, 0, S_a (S_a (S_a S 26 (a1 * 10 + a2) a4) 27 (a1 * 10 + a2) a3) 31 (a1 * 10 + a2) 1) := by simp only [op_level, ma1, if_pos p2, ma2, if_pos p6, ma3, if_pos p15, ma4, if_pos p22]
  rw [ho]
  refine W.widen (k := 4) (n := 24) (Nat.le_of_ble_eq_true rfl) (Nat.le_of_ble_eq_true rfl) ?_
  have hP9 : va_P (dC, dI) classes (wX q cI (S_a (S_a (S_a S 26 (a1 * 10 + a2) a4) 27 (a1 * 10 + a2) a3) 31 (a1 * 10 + a2) 1)) H := by rw [hS2, hS1] at hP; rw [wX_31]; exact hP
  exact vx_ret (W.vret hx hb hr (fun t ht hW => ⟨rfl, rfl, by rw [ht]; exact hP9, hS.F ht⟩) hS.2.2 d_X_level_48)
set_option maxHeartbeats 4000000 in
set_option maxRecDepth 100000 in
theorem c_X_emergency (l : Launch) (hst : l.stackTraces = false) (dC : Nat → ClassId) (dI : Nat → Nat → Nat) (A0 : Nat → Prop) (sz : Nat) (cI : ClassId) (q : Nat → Nat) (S : St) (t : Nat) (hI : Bd t S) (x y n w : Int32) : vx_Met l y_X_emergency (.code y_X_emergency b_X_emergency 5 (some .int) :: bg) { frames := 8, cells := 5, slots := 30, locals := 132 } (xo_P (dC, dI) classes [(cI, .int)] A0 (wX q cI S) sz [.ref (q 0), .int x, .int y, .int n, .int w]) (xo_Q (op_emergency S x y n w) (some (.int (op_emergency S x y n w).2.1)) (dC, dI) classes (wX q cI (op_emergency S x y n w).2.2) (va_A (wX q cI S) sz)) (xo_X (op_emergency S x y n w) [E_ia, E_io, E_uo]) 5 30 (va_A (wX q cI S) sz) := by
  refine vx_ofW (cc := b_X_emergency) (maxL := 5) (ret := (some .int)) (by decide) rfl ?_
  intro p e s m args below meth c s₁ B hml hnt hv
  obtain ⟨rfl, hsz, hP, hK, hD0, hG⟩ := hv
  subst hsz
  have hD := hD0.self (sz := s.heap.size)
  generalize hAe : va_A (wX q cI S) s.heap.size = A at hD ⊢
  have hA : ∀ q : Nat, s.heap.size ≤ q → A q := fun q h => by rw [← hAe]; exact Or.inr h
  have hS : va_S A s.heap s.heap [] := va_S.rf
  have hx := B.exec
  have hb := B.bytes
  have hr := B.returns
  have hts := fun w (h : w ∈ bg) => atoms_spec (ws := .code y_X_emergency b_X_emergency 5 (some .int) :: bg) B.pre w (List.mem_cons_of_mem _ h)
  have hown : s.vm.findClass R_X = some m.cls := findClass_of_methodNamed B.named
  have hlocks := B.notSynchronized
  have hl := lv_entry ([.ref (q 0), .int x, .int y, .int n, .int w]) (n := 5) (Nat.le_of_ble_eq_true rfl)
  rw [lg_entry_eq]
  generalize (lg_sl ([.ref (q 0), .int x, .int y, .int n, .int w]) ++ List.replicate (5 - (lg_sl ([.ref (q 0), .int x, .int y, .int n, .int w])).length) Slot.unset).toArray = ls at hl ⊢
  have hl : lv_has ls 5 [(0, .ref (q 0)), (1, .int x), (2, .int y), (3, .int n), (4, .int w)] := hl
  have hB := hI.1
  have hg0 : S.2.1 0 ≤ 8 := hI.2.1 0
  have hg1 : S.2.1 1 ≤ 9999 := hI.2.1 1
  have hg2 : S.2.1 2 ≤ 60 := hI.2.1 2
  have hg3 : S.2.1 3 ≤ 60 := hI.2.1 3
  have hg4 : S.2.1 4 ≤ 80 := hI.2.1 4
  have hg5 : S.2.1 5 ≤ 20 := hI.2.1 5
  have hg6 : S.2.1 6 ≤ 80 := hI.2.1 6
  have hg7 : S.2.1 7 ≤ 10 := hI.2.1 7
  have hg8 : t ≤ 512 := hI.2.2
  refine lv_aload_n hx hb d_X_emergency_0 rfl (lv_at hl 0 rfl) ?_
  refine lv_iload_n hx hb d_X_emergency_1 rfl (lv_at hl 1 rfl) ?_
  refine nd_go (vx_runV (As := [.int x]) (rest := []) ⟨hx, hb, hml, hown, hts⟩ (c_X_needStore l hst dC dI A0 cI q S t hI x) (cwV 1 hts (gi_V wd_283 wd_285 wp_7 wd_1 wd_286) rfl rfl rfl (by decide +kernel) ⟨Nat.le_of_ble_eq_true rfl, Nat.le_of_ble_eq_true rfl⟩) (nd_preV hK hP hG (ci := 0) (q0 := 0) rfl rfl) rfl rfl hl.1 rfl (lv_room (Nat.le_of_ble_eq_true rfl)) d_X_emergency_2 ⟨Nat.le_of_ble_eq_true rfl, Nat.le_of_ble_eq_true rfl⟩) (fun p2 ce q9 H1 h1 h2 h3 h4 h5 => vx_out (fun x hx => (hnt x hx).elim) hlocks h3 h4 h5 (fun t ht hv => ⟨by simp only [op_emergency, if_neg p2]; decide, by simp only [op_emergency, if_neg p2]; rfl, by rw [ht]; exact h1, fun z hz => by rw [ht]; exact h2 z hz⟩) (fun q h => nomatch h) (Nat.le_of_ble_eq_true rfl) (Nat.le_of_ble_eq_true rfl)) (fun p2 => ?_)
  obtain ⟨a1, ha1, rfl⟩ := ok_ex p2
  have ma1 : nn (nI a1) = a1 := nn_of (by omega)
  refine lv_iload_n hx hb d_X_emergency_5 rfl (lv_at hl 2 rfl) ?_
  refine nd_go (vx_runS (As := [.int y]) (rest := []) ⟨hx, hb, hml, hown, hts⟩ (c_X_needKind l hst dC dI A0 y) (cwS 1 hts (gi_S wd_234 wd_235 wd_1 wd_236) rfl rfl rfl (by decide +kernel) ⟨Nat.le_of_ble_eq_true rfl, Nat.le_of_ble_eq_true rfl⟩) (nd_preS (hK.sub (tys' := []) [] rfl) (fun k q h => by simp at h) hG) rfl rfl hl.1 rfl (lv_room (Nat.le_of_ble_eq_true rfl)) d_X_emergency_6 ⟨Nat.le_of_ble_eq_true rfl, Nat.le_of_ble_eq_true rfl⟩) (fun p6 ce q9 H1 h1 h2 h3 h4 h5 => vx_out (fun x hx => (hnt x hx).elim) hlocks h3 h4 h5 (fun t ht hv => ⟨by simp only [op_emergency, ma1, if_pos p2, if_neg p6]; decide, by simp only [op_emergency, ma1, if_pos p2, if_neg p6]; rfl, by rw [ht]; exact h1, fun z hz => by rw [ht]; exact h2 z hz⟩) (fun q h => nomatch h) (Nat.le_of_ble_eq_true rfl) (Nat.le_of_ble_eq_true rfl)) (fun p6 => ?_)
  obtain ⟨a2, ha2, rfl⟩ := ok_ex p6
  have ma2 : nn (nI a2) = a2 := nn_of (by omega)
  refine lv_iload hx hb d_X_emergency_9 (lv_at hl 4 rfl) ?_
  refine nd_go (vx_runS (As := [.int w]) (rest := []) ⟨hx, hb, hml, hown, hts⟩ (c_X_needPerson l hst dC dI A0 w) (cwS 1 hts (gi_S wd_422 wd_423 wd_1 wd_424) rfl rfl rfl (by decide +kernel) ⟨Nat.le_of_ble_eq_true rfl, Nat.le_of_ble_eq_true rfl⟩) (nd_preS (hK.sub (tys' := []) [] rfl) (fun k q h => by simp at h) hG) rfl rfl hl.1 rfl (lv_room (Nat.le_of_ble_eq_true rfl)) d_X_emergency_11 ⟨Nat.le_of_ble_eq_true rfl, Nat.le_of_ble_eq_true rfl⟩) (fun p11 ce q9 H1 h1 h2 h3 h4 h5 => vx_out (fun x hx => (hnt x hx).elim) hlocks h3 h4 h5 (fun t ht hv => ⟨by simp only [op_emergency, ma1, if_pos p2, ma2, if_pos p6, if_neg p11]; decide, by simp only [op_emergency, ma1, if_pos p2, ma2, if_pos p6, if_neg p11]; rfl, by rw [ht]; exact h1, fun z hz => by rw [ht]; exact h2 z hz⟩) (fun q h => nomatch h) (Nat.le_of_ble_eq_true rfl) (Nat.le_of_ble_eq_true rfl)) (fun p11 => ?_)
  obtain ⟨a3, ha3, rfl⟩ := ok_ex p11
  have ma3 : nn (nI a3) = a3 := nn_of (by omega)
  refine lv_iload_n hx hb d_X_emergency_14 rfl (lv_at hl 3 rfl) ?_
  refine lv_iconst (v := nI 1) hx hb d_X_emergency_15 (by decide) ?_
  refine lv_sipush (v := nI 9999) hx hb d_X_emergency_16 (by decide) ?_
  refine nd_go (vx_runS (As := [.int n, .int (nI 1), .int (nI 9999)]) (rest := []) ⟨hx, hb, hml, hown, hts⟩ (c_X_needRange l hst dC dI A0 n 1 9999 (by omega) (by omega)) (cwS 3 hts (gi_S wd_253 wd_254 wd_1 wd_255) rfl rfl rfl (by decide +kernel) ⟨Nat.le_of_ble_eq_true rfl, Nat.le_of_ble_eq_true rfl⟩) (nd_preS (hK.sub (tys' := []) [] rfl) (fun k q h => by simp at h) hG) rfl rfl hl.1 rfl (lv_room (Nat.le_of_ble_eq_true rfl)) d_X_emergency_19 ⟨Nat.le_of_ble_eq_true rfl, Nat.le_of_ble_eq_true rfl⟩) (fun p19 ce q9 H1 h1 h2 h3 h4 h5 => vx_out (fun x hx => (hnt x hx).elim) hlocks h3 h4 h5 (fun t ht hv => ⟨by simp only [op_emergency, ma1, if_pos p2, ma2, if_pos p6, ma3, if_pos p11, if_neg p19]; decide, by simp only [op_emergency, ma1, if_pos p2, ma2, if_pos p6, ma3, if_pos p11, if_neg p19]; rfl, by rw [ht]; exact h1, fun z hz => by rw [ht]; exact h2 z hz⟩) (fun q h => nomatch h) (Nat.le_of_ble_eq_true rfl) (Nat.le_of_ble_eq_true rfl)) (fun p19 => ?_)
  obtain ⟨a4, ga4, ha4, rfl⟩ := rg_ex p19
  have ma4 : nn (nI a4) = a4 := nn_of (by omega)
  refine lv_aload_n hx hb d_X_emergency_22 rfl (lv_at hl 0 rfl) ?_
  refine va_get (D := (dC, dI)) (ci := 0) (v := .ref (q 4)) (C := R_X) (T := F_X) (N := 12) hx hb hts i_X hown hK hP 0 rfl rfl 3 (by decide) (hts _ wd_60) (fun _ h9 => h9) rfl d_X_emergency_23 ?_
  refine nd_go (vx_runS (As := [.ref (q 4)]) (rest := []) ⟨hx, hb, hml, hown, hts⟩ (c_X_needRoom l hst dC dI A0 cI (q 4) (q 14) 20 (S.2.1 5) 100 (rowf S.1 15) (by omega) (by omega)) (cwS 1 hts (gi_S wd_272 wd_273 wd_1 wd_274) rfl rfl rfl (by decide +kernel) ⟨Nat.le_of_ble_eq_true rfl, Nat.le_of_ble_eq_true rfl⟩) (nd_preS hK (hP.sub [4, 14] rfl) hG) rfl rfl hl.1 rfl (lv_room (Nat.le_of_ble_eq_true rfl)) d_X_emergency_26 ⟨Nat.le_of_ble_eq_true rfl, Nat.le_of_ble_eq_true rfl⟩) (fun p26 ce q9 H1 h1 h2 h3 h4 h5 => vx_out (fun x hx => (hnt x hx).elim) hlocks h3 h4 h5 (fun t ht hv => ⟨by simp only [op_emergency, ma1, if_pos p2, ma2, if_pos p6, ma3, if_pos p11, ma4, if_pos p19, if_neg p26]; decide, by simp only [op_emergency, ma1, if_pos p2, ma2, if_pos p6, ma3, if_pos p11, ma4, if_pos p19, if_neg p26]; rfl, by rw [ht]; exact h1, fun z hz => by rw [ht]; exact h2 z hz⟩) (fun q h => nomatch h) (Nat.le_of_ble_eq_true rfl) (Nat.le_of_ble_eq_true rfl)) (fun p26 => ?_)
  refine lv_aload_n hx hb d_X_emergency_29 rfl (lv_at hl 0 rfl) ?_
  refine va_get (D := (dC, dI)) (ci := 0) (v := .ref (q 4)) (C := R_X) (T := F_X) (N := 12) hx hb hts i_X hown hK hP 0 rfl rfl 3 (by decide) (hts _ wd_60) (fun _ h9 => h9) rfl d_X_emergency_30 ?_
  refine lv_iload_n hx hb d_X_emergency_33 rfl (lv_at hl 1 rfl) ?_
  refine lv_iload_n hx hb d_X_emergency_34 rfl (lv_at hl 2 rfl) ?_
  refine lv_iload_n hx hb d_X_emergency_35 rfl (lv_at hl 3 rfl) ?_
  refine lv_iload hx hb d_X_emergency_36 (lv_at hl 4 rfl) ?_
  refine lv_iconst (v := nI 1) hx hb d_X_emergency_38 (by decide) ?_
  refine wr_go (va_runV (As := [.int (nI a1), .int (nI a2), .int (nI a4), .int (nI a3), .int (nI 1)]) (rest := []) ⟨hx, hb, hml, hown, hts⟩ (c_W_add l dC dI s.heap.size cI (q 4) (q 14) 20 (S.2.1 5) 100 (rowf S.1 15) (nI a1) (nI a2) (nI a4) (nI a3) (nI 1) (by omega) (by decide)) (cwV 5 hts (gi_V wd_140 wd_141 wd_142 wd_2 wd_143) rfl rfl rfl (by decide +kernel) ⟨Nat.le_of_ble_eq_true rfl, Nat.le_of_ble_eq_true rfl⟩) (wr_preV hK (hP.sub [4, 14] rfl) (hD.sub [4, 14] (by decide) rfl) (ci := 1) (q0 := 0) rfl rfl) rfl rfl hl.1 rfl (lv_room (Nat.le_of_ble_eq_true rfl)) d_X_emergency_39 ⟨Nat.le_of_ble_eq_true rfl, Nat.le_of_ble_eq_true rfl⟩) hP hD hS hA [4, 14] rfl rfl (wX q cI (S_g (S_row S 15 (S.2.1 5) a1 a2 a4 a3 1) 5 (S.2.1 5 + 1))) wX_add15 rfl (fun H locs hP hD hS => ?_)
  refine W.eq (g2 := F0 m 42 ls [.int (nI (S.2.1 5))]) rfl ?_
  obtain ⟨S1, hS1⟩ : ∃ z : St, z = S_g (S_row S 15 (S.2.1 5) a1 a2 a4 a3 1) 5 (S.2.1 5 + 1) := ⟨_, rfl⟩
  rw [← hS1] at hP hD
  have ho : op_emergency S (nI a1) (nI a2) (nI a4) (nI a3) = (0, nI (S.2.1 5), S_g (S_row S 15 (S.2.1 5) a1 a2 a4 a3 1) 5 (S.2.1 5 + 1)) := by simp only [op_emergency, ma1, if_pos p2, ma2, if_pos p6, ma3, if_pos p11, ma4, if_pos p19, if_pos p26]
  rw [ho]
  refine W.widen (k := 5) (n := 30) (Nat.le_of_ble_eq_true rfl) (Nat.le_of_ble_eq_true rfl) ?_
  have hP9 : va_P (dC, dI) classes (wX q cI (S_g (S_row S 15 (S.2.1 5) a1 a2 a4 a3 1) 5 (S.2.1 5 + 1))) H := by rw [hS1] at hP; exact hP
  exact vx_ret (W.iret hx hb hr (fun t ht hW => ⟨rfl, rfl, by rw [ht]; exact hP9, hS.F ht⟩) hS.2.2 d_X_emergency_42)
end
section
theorem sw3 {v : Int32} (h0 : ¬ v = 0) (h1 : ¬ v = 1) (h2 : ¬ v = 2) : v.toInt < 0 ∨ 2 < v.toInt := by
  have e0 : ¬ v.toInt = 0 := fun h => h0 (Int32.toInt_inj.mp h)
  have e1 : ¬ v.toInt = 1 := fun h => h1 (Int32.toInt_inj.mp h)
  have e2 : ¬ v.toInt = 2 := fun h => h2 (Int32.toInt_inj.mp h)
  omega
set_option maxHeartbeats 4000000 in
set_option maxRecDepth 100000 in
theorem c_X_use (l : Launch) (hst : l.stackTraces = false) (dC : Nat → ClassId) (dI : Nat → Nat → Nat) (A0 : Nat → Prop) (sz : Nat) (cI : ClassId) (q : Nat → Nat) (S : St) (t : Nat) (hI : Bd t S) (x y n : Int32) (hou : ∀ j, S.1 2 j + 9999 ≤ 9999 * t) : vx_Met l y_X_use (.code y_X_use b_X_use 5 (some .int) :: bg) { frames := 8, cells := 4, slots := 24, locals := 132 } (xo_P (dC, dI) classes [(cI, .int)] A0 (wX q cI S) sz [.ref (q 0), .int x, .int y, .int n]) (xo_Q (op_use S x y n) (some (.int (op_use S x y n).2.1)) (dC, dI) classes (wX q cI (op_use S x y n).2.2) (va_A (wX q cI S) sz)) (xo_X (op_use S x y n) [E_ia, E_io, E_is]) 4 24 (va_A (wX q cI S) sz) := by
  refine vx_ofW (cc := b_X_use) (maxL := 5) (ret := (some .int)) (by decide) rfl ?_
  intro p e s m args below meth c s₁ B hml hnt hv
  obtain ⟨rfl, hsz, hP, hK, hD0, hG⟩ := hv
  subst hsz
  have hD := hD0.self (sz := s.heap.size)
  generalize hAe : va_A (wX q cI S) s.heap.size = A at hD ⊢
  have hA : ∀ q : Nat, s.heap.size ≤ q → A q := fun q h => by rw [← hAe]; exact Or.inr h
  have hS : va_S A s.heap s.heap [] := va_S.rf
  have hx := B.exec
  have hb := B.bytes
  have hr := B.returns
  have hts := fun w (h : w ∈ bg) => atoms_spec (ws := .code y_X_use b_X_use 5 (some .int) :: bg) B.pre w (List.mem_cons_of_mem _ h)
  have hown : s.vm.findClass R_X = some m.cls := findClass_of_methodNamed B.named
  have hlocks := B.notSynchronized
  have hl := lv_entry ([.ref (q 0), .int x, .int y, .int n]) (n := 5) (Nat.le_of_ble_eq_true rfl)
  rw [lg_entry_eq]
  generalize (lg_sl ([.ref (q 0), .int x, .int y, .int n]) ++ List.replicate (5 - (lg_sl ([.ref (q 0), .int x, .int y, .int n])).length) Slot.unset).toArray = ls at hl ⊢
  have hl : lv_has ls 5 [(0, .ref (q 0)), (1, .int x), (2, .int y), (3, .int n)] := hl
  have hB := hI.1
  have hg0 : S.2.1 0 ≤ 8 := hI.2.1 0
  have hg1 : S.2.1 1 ≤ 9999 := hI.2.1 1
  have hg2 : S.2.1 2 ≤ 60 := hI.2.1 2
  have hg3 : S.2.1 3 ≤ 60 := hI.2.1 3
  have hg4 : S.2.1 4 ≤ 80 := hI.2.1 4
  have hg5 : S.2.1 5 ≤ 20 := hI.2.1 5
  have hg6 : S.2.1 6 ≤ 80 := hI.2.1 6
  have hg7 : S.2.1 7 ≤ 10 := hI.2.1 7
  have hg8 : t ≤ 512 := hI.2.2
  refine lv_aload_n hx hb d_X_use_0 rfl (lv_at hl 0 rfl) ?_
  refine lv_iload_n hx hb d_X_use_1 rfl (lv_at hl 1 rfl) ?_
  refine nd_go (vx_runV (As := [.int x]) (rest := []) ⟨hx, hb, hml, hown, hts⟩ (c_X_needStore l hst dC dI A0 cI q S t hI x) (cwV 1 hts (gi_V wd_283 wd_285 wp_7 wd_1 wd_286) rfl rfl rfl (by decide +kernel) ⟨Nat.le_of_ble_eq_true rfl, Nat.le_of_ble_eq_true rfl⟩) (nd_preV hK hP hG (ci := 0) (q0 := 0) rfl rfl) rfl rfl hl.1 rfl (lv_room (Nat.le_of_ble_eq_true rfl)) d_X_use_2 ⟨Nat.le_of_ble_eq_true rfl, Nat.le_of_ble_eq_true rfl⟩) (fun p2 ce q9 H1 h1 h2 h3 h4 h5 => vx_out (fun x hx => (hnt x hx).elim) hlocks h3 h4 h5 (fun t ht hv => ⟨by simp only [op_use, if_neg p2]; decide, by simp only [op_use, if_neg p2]; rfl, by rw [ht]; exact h1, fun z hz => by rw [ht]; exact h2 z hz⟩) (fun q h => nomatch h) (Nat.le_of_ble_eq_true rfl) (Nat.le_of_ble_eq_true rfl)) (fun p2 => ?_)
  obtain ⟨a1, ha1, rfl⟩ := ok_ex p2
  have ma1 : nn (nI a1) = a1 := nn_of (by omega)
  refine lv_iload_n hx hb d_X_use_5 rfl (lv_at hl 2 rfl) ?_
  refine nd_go (vx_runS (As := [.int y]) (rest := []) ⟨hx, hb, hml, hown, hts⟩ (c_X_needKind l hst dC dI A0 y) (cwS 1 hts (gi_S wd_234 wd_235 wd_1 wd_236) rfl rfl rfl (by decide +kernel) ⟨Nat.le_of_ble_eq_true rfl, Nat.le_of_ble_eq_true rfl⟩) (nd_preS (hK.sub (tys' := []) [] rfl) (fun k q h => by simp at h) hG) rfl rfl hl.1 rfl (lv_room (Nat.le_of_ble_eq_true rfl)) d_X_use_6 ⟨Nat.le_of_ble_eq_true rfl, Nat.le_of_ble_eq_true rfl⟩) (fun p6 ce q9 H1 h1 h2 h3 h4 h5 => vx_out (fun x hx => (hnt x hx).elim) hlocks h3 h4 h5 (fun t ht hv => ⟨by simp only [op_use, ma1, if_pos p2, if_neg p6]; decide, by simp only [op_use, ma1, if_pos p2, if_neg p6]; rfl, by rw [ht]; exact h1, fun z hz => by rw [ht]; exact h2 z hz⟩) (fun q h => nomatch h) (Nat.le_of_ble_eq_true rfl) (Nat.le_of_ble_eq_true rfl)) (fun p6 => ?_)
  obtain ⟨a2, ha2, rfl⟩ := ok_ex p6
  have ma2 : nn (nI a2) = a2 := nn_of (by omega)
  refine lv_iload_n hx hb d_X_use_9 rfl (lv_at hl 3 rfl) ?_
  refine lv_iconst (v := nI 1) hx hb d_X_use_10 (by decide) ?_
  refine lv_sipush (v := nI 9999) hx hb d_X_use_11 (by decide) ?_
  refine nd_go (vx_runS (As := [.int n, .int (nI 1), .int (nI 9999)]) (rest := []) ⟨hx, hb, hml, hown, hts⟩ (c_X_needRange l hst dC dI A0 n 1 9999 (by omega) (by omega)) (cwS 3 hts (gi_S wd_253 wd_254 wd_1 wd_255) rfl rfl rfl (by decide +kernel) ⟨Nat.le_of_ble_eq_true rfl, Nat.le_of_ble_eq_true rfl⟩) (nd_preS (hK.sub (tys' := []) [] rfl) (fun k q h => by simp at h) hG) rfl rfl hl.1 rfl (lv_room (Nat.le_of_ble_eq_true rfl)) d_X_use_14 ⟨Nat.le_of_ble_eq_true rfl, Nat.le_of_ble_eq_true rfl⟩) (fun p14 ce q9 H1 h1 h2 h3 h4 h5 => vx_out (fun x hx => (hnt x hx).elim) hlocks h3 h4 h5 (fun t ht hv => ⟨by simp only [op_use, ma1, if_pos p2, ma2, if_pos p6, if_neg p14]; decide, by simp only [op_use, ma1, if_pos p2, ma2, if_pos p6, if_neg p14]; rfl, by rw [ht]; exact h1, fun z hz => by rw [ht]; exact h2 z hz⟩) (fun q h => nomatch h) (Nat.le_of_ble_eq_true rfl) (Nat.le_of_ble_eq_true rfl)) (fun p14 => ?_)
  obtain ⟨a3, ga3, ha3, rfl⟩ := rg_ex p14
  have ma3 : nn (nI a3) = a3 := nn_of (by omega)
  refine lv_aload_n hx hb d_X_use_17 rfl (lv_at hl 0 rfl) ?_
  refine lv_iload_n hx hb d_X_use_18 rfl (lv_at hl 1 rfl) ?_
  refine lv_iload_n hx hb d_X_use_19 rfl (lv_at hl 2 rfl) ?_
  refine lv_iconst (v := b2 true) hx hb d_X_use_20 (by decide) ?_
  refine pu_go (va_runV (As := [.int (nI a1), .int (nI a2), .int (b2 true)]) (rest := []) ⟨hx, hb, hml, hown, hts⟩ (c_X_inStore l dC dI cI q S t hI a1 a2 true (by omega) (by omega)) (cwV 3 hts (gi_V wd_113 wd_115 wp_1 wd_1 wd_116) rfl rfl rfl (by decide +kernel) ⟨Nat.le_of_ble_eq_true rfl, Nat.le_of_ble_eq_true rfl⟩) (pu_preV hK hP (ci := 0) (q0 := 0) rfl rfl) rfl rfl hl.1 rfl (lv_room (Nat.le_of_ble_eq_true rfl)) d_X_use_21 ⟨Nat.le_of_ble_eq_true rfl, Nat.le_of_ble_eq_true rfl⟩) ?_
  have hb1 := inst_le hI a1 a2 true
  refine lv_istore (lv' := [(4, .int (nI (inst S a1 a2 true))), (0, .ref (q 0)), (1, .int (nI a1)), (2, .int (nI a2)), (3, .int (nI a3))]) hx hb d_X_use_24 hl (by decide) rfl (fun ls hl => ?_)
  refine lv_iload hx hb d_X_use_26 (lv_at hl 0 rfl) ?_
  refine lv_iload_n hx hb d_X_use_28 rfl (lv_at hl 4 rfl) ?_
  refine nv_cge (tgt := 42) hx hb (by omega) (by omega) d_X_use_29 (by decide) (fun c29 => ?_) (fun c29 => ?_)
  · rw [inst_t] at c29
    refine lv_aload_n hx hb d_X_use_42 rfl (lv_at hl 1 rfl) ?_
    refine lv_iload_n hx hb d_X_use_43 rfl (lv_at hl 2 rfl) ?_
    refine lv_iload_n hx hb d_X_use_44 rfl (lv_at hl 3 rfl) ?_
    refine lv_iload_n hx hb d_X_use_45 rfl (lv_at hl 4 rfl) ?_
    refine wr_goA (va_runV (As := [.int (nI a1), .int (nI a2), .int (nI a3)]) (rest := []) ⟨hx, hb, hml, hown, hts⟩ (c_X_take l dC dI s.heap.size cI q S t hI a1 a2 a3 (by omega) (by omega) (by omega) (fun j => by have := hou j; omega)) (cwV 3 hts (gi_V wd_358 wd_360 wp_14 wd_1 wd_361) rfl rfl rfl (by decide +kernel) ⟨Nat.le_of_ble_eq_true rfl, Nat.le_of_ble_eq_true rfl⟩) (wr_preV hK hP hD (ci := 0) (q0 := 0) rfl rfl) rfl rfl hl.1 rfl (lv_room (Nat.le_of_ble_eq_true rfl)) d_X_use_46 ⟨Nat.le_of_ble_eq_true rfl, Nat.le_of_ble_eq_true rfl⟩) hD hS hA wX_adr (fun H locs hP hD hS => ?_)
    refine W.eq (g2 := F0 m 49 ls []) rfl ?_
    obtain ⟨S1, hS1⟩ : ∃ z : St, z = tk a1 a2 60 S a3 := ⟨_, rfl⟩
    rw [← hS1] at hP hD
    refine lv_iload hx hb d_X_use_49 (lv_at hl 0 rfl) ?_
    refine lv_iload_n hx hb d_X_use_51 rfl (lv_at hl 4 rfl) ?_
    have hin := inst_t (S := S) (s := a1) (k := a2)
    refine nv_sub hx hb (by omega) d_X_use_52 ?_
    have ho : op_use S (nI a1) (nI a2) (nI a3) = (0, nI (good S a1 a2 - a3), tk a1 a2 60 S a3) := by simp only [op_use, ma1, if_pos p2, ma2, if_pos p6, ma3, if_pos p14, if_pos c29]
    rw [ho]
    refine nv_as (nI (good S a1 a2 - a3)) (by rw [hin]) ?_
    refine W.widen (k := 4) (n := 24) (Nat.le_of_ble_eq_true rfl) (Nat.le_of_ble_eq_true rfl) ?_
    have hP9 : va_P (dC, dI) classes (wX q cI (tk a1 a2 60 S a3)) H := by rw [hS1] at hP; exact hP
    exact vx_ret (W.iret hx hb hr (fun t ht hW => ⟨rfl, rfl, by rw [ht]; exact hP9, hS.F ht⟩) hS.2.2 d_X_use_53)
  · rw [inst_t] at c29
    exact x_throw (A := A0) hx hb hst hown hts hG ex_is sx_112 hnt (hl.1.trans hml.symm) hlocks d_X_use_32 d_X_use_35 d_X_use_36 d_X_use_38 d_X_use_41 (Nat.le_of_ble_eq_true rfl) (Nat.le_of_ble_eq_true rfl) (Nat.le_of_ble_eq_true rfl) (Nat.le_of_ble_eq_true rfl) (Nat.le_of_ble_eq_true rfl) (Nat.le_of_ble_eq_true rfl) (fun t h1 h2 => ⟨by simp only [op_use, ma1, if_pos p2, ma2, if_pos p6, ma3, if_pos p14, if_neg (Nat.not_le.mpr c29)]; decide, by simp only [op_use, ma1, if_pos p2, ma2, if_pos p6, ma3, if_pos p14, if_neg (Nat.not_le.mpr c29)]; rfl, h1, h2⟩)
set_option maxHeartbeats 4000000 in
set_option maxRecDepth 100000 in
theorem c_X_move (l : Launch) (hst : l.stackTraces = false) (dC : Nat → ClassId) (dI : Nat → Nat → Nat) (A0 : Nat → Prop) (sz : Nat) (cI : ClassId) (q : Nat → Nat) (S : St) (t : Nat) (hI : Bd t S) (x y u n d : Int32) : vx_Met l y_X_move (.code y_X_move b_X_move 7 (some .int) :: bg) { frames := 8, cells := 8, slots := 48, locals := 132 } (xo_P (dC, dI) classes [(cI, .int)] A0 (wX q cI S) sz [.ref (q 0), .int x, .int y, .int u, .int n, .int d]) (xo_Q (op_move S x y u n d) (some (.int (op_move S x y u n d).2.1)) (dC, dI) classes (wX q cI (op_move S x y u n d).2.2) (va_A (wX q cI S) sz)) (xo_X (op_move S x y u n d) [E_ia, E_io, E_is, E_uo]) 8 48 (va_A (wX q cI S) sz) := by
  refine vx_ofW (cc := b_X_move) (maxL := 7) (ret := (some .int)) (by decide) rfl ?_
  intro p e s m args below meth c s₁ B hml hnt hv
  obtain ⟨rfl, hsz, hP, hK, hD0, hG⟩ := hv
  subst hsz
  have hD := hD0.self (sz := s.heap.size)
  generalize hAe : va_A (wX q cI S) s.heap.size = A at hD ⊢
  have hA : ∀ q : Nat, s.heap.size ≤ q → A q := fun q h => by rw [← hAe]; exact Or.inr h
  have hS : va_S A s.heap s.heap [] := va_S.rf
  have hx := B.exec
  have hb := B.bytes
  have hr := B.returns
  have hts := fun w (h : w ∈ bg) => atoms_spec (ws := .code y_X_move b_X_move 7 (some .int) :: bg) B.pre w (List.mem_cons_of_mem _ h)
  have hown : s.vm.findClass R_X = some m.cls := findClass_of_methodNamed B.named
  have hlocks := B.notSynchronized
  have hl := lv_entry ([.ref (q 0), .int x, .int y, .int u, .int n, .int d]) (n := 7) (Nat.le_of_ble_eq_true rfl)
  rw [lg_entry_eq]
  generalize (lg_sl ([.ref (q 0), .int x, .int y, .int u, .int n, .int d]) ++ List.replicate (7 - (lg_sl ([.ref (q 0), .int x, .int y, .int u, .int n, .int d])).length) Slot.unset).toArray = ls at hl ⊢
  have hl : lv_has ls 7 [(0, .ref (q 0)), (1, .int x), (2, .int y), (3, .int u), (4, .int n), (5, .int d)] := hl
  have hB := hI.1
  have hg0 : S.2.1 0 ≤ 8 := hI.2.1 0
  have hg1 : S.2.1 1 ≤ 9999 := hI.2.1 1
  have hg2 : S.2.1 2 ≤ 60 := hI.2.1 2
  have hg3 : S.2.1 3 ≤ 60 := hI.2.1 3
  have hg4 : S.2.1 4 ≤ 80 := hI.2.1 4
  have hg5 : S.2.1 5 ≤ 20 := hI.2.1 5
  have hg6 : S.2.1 6 ≤ 80 := hI.2.1 6
  have hg7 : S.2.1 7 ≤ 10 := hI.2.1 7
  have hg8 : t ≤ 512 := hI.2.2
  refine lv_aload_n hx hb d_X_move_0 rfl (lv_at hl 0 rfl) ?_
  refine lv_iload_n hx hb d_X_move_1 rfl (lv_at hl 1 rfl) ?_
  refine nd_go (vx_runV (As := [.int x]) (rest := []) ⟨hx, hb, hml, hown, hts⟩ (c_X_needStore l hst dC dI A0 cI q S t hI x) (cwV 1 hts (gi_V wd_283 wd_285 wp_7 wd_1 wd_286) rfl rfl rfl (by decide +kernel) ⟨Nat.le_of_ble_eq_true rfl, Nat.le_of_ble_eq_true rfl⟩) (nd_preV hK hP hG (ci := 0) (q0 := 0) rfl rfl) rfl rfl hl.1 rfl (lv_room (Nat.le_of_ble_eq_true rfl)) d_X_move_2 ⟨Nat.le_of_ble_eq_true rfl, Nat.le_of_ble_eq_true rfl⟩) (fun p2 ce q9 H1 h1 h2 h3 h4 h5 => vx_out (fun x hx => (hnt x hx).elim) hlocks h3 h4 h5 (fun t ht hv => ⟨by simp only [op_move, if_neg p2]; decide, by simp only [op_move, if_neg p2]; rfl, by rw [ht]; exact h1, fun z hz => by rw [ht]; exact h2 z hz⟩) (fun q h => nomatch h) (Nat.le_of_ble_eq_true rfl) (Nat.le_of_ble_eq_true rfl)) (fun p2 => ?_)
  obtain ⟨a1, ha1, rfl⟩ := ok_ex p2
  have ma1 : nn (nI a1) = a1 := nn_of (by omega)
  refine lv_aload_n hx hb d_X_move_5 rfl (lv_at hl 0 rfl) ?_
  refine lv_iload_n hx hb d_X_move_6 rfl (lv_at hl 2 rfl) ?_
  refine nd_go (vx_runV (As := [.int y]) (rest := []) ⟨hx, hb, hml, hown, hts⟩ (c_X_needStore l hst dC dI A0 cI q S t hI y) (cwV 1 hts (gi_V wd_283 wd_285 wp_7 wd_1 wd_286) rfl rfl rfl (by decide +kernel) ⟨Nat.le_of_ble_eq_true rfl, Nat.le_of_ble_eq_true rfl⟩) (nd_preV hK hP hG (ci := 0) (q0 := 0) rfl rfl) rfl rfl hl.1 rfl (lv_room (Nat.le_of_ble_eq_true rfl)) d_X_move_7 ⟨Nat.le_of_ble_eq_true rfl, Nat.le_of_ble_eq_true rfl⟩) (fun p7 ce q9 H1 h1 h2 h3 h4 h5 => vx_out (fun x hx => (hnt x hx).elim) hlocks h3 h4 h5 (fun t ht hv => ⟨by simp only [op_move, ma1, if_pos p2, if_neg p7]; decide, by simp only [op_move, ma1, if_pos p2, if_neg p7]; rfl, by rw [ht]; exact h1, fun z hz => by rw [ht]; exact h2 z hz⟩) (fun q h => nomatch h) (Nat.le_of_ble_eq_true rfl) (Nat.le_of_ble_eq_true rfl)) (fun p7 => ?_)
  obtain ⟨a2, ha2, rfl⟩ := ok_ex p7
  have ma2 : nn (nI a2) = a2 := nn_of (by omega)
  refine lv_iload_n hx hb d_X_move_10 rfl (lv_at hl 1 rfl) ?_
  refine lv_iload_n hx hb d_X_move_11 rfl (lv_at hl 2 rfl) ?_
  refine nv_cne (tgt := 25) hx hb (by omega) (by omega) d_X_move_12 (by decide) (fun c12 => ?_) (fun c12 => ?_)
  · have q12 : nI a1 ≠ nI a2 := fun h => c12 ((nI_eq (by omega) (by omega)).mp h)
    refine lv_aload_n hx hb d_X_move_25 rfl (lv_at hl 0 rfl) ?_
    refine lv_iload_n hx hb d_X_move_26 rfl (lv_at hl 3 rfl) ?_
    refine nd_go (vx_runV (As := [.int u]) (rest := []) ⟨hx, hb, hml, hown, hts⟩ (c_X_needLot l hst dC dI A0 cI q S t hI u) (cwV 1 hts (gi_V wd_288 wd_290 wp_8 wd_1 wd_291) rfl rfl rfl (by decide +kernel) ⟨Nat.le_of_ble_eq_true rfl, Nat.le_of_ble_eq_true rfl⟩) (nd_preV hK hP hG (ci := 0) (q0 := 0) rfl rfl) rfl rfl hl.1 rfl (lv_room (Nat.le_of_ble_eq_true rfl)) d_X_move_27 ⟨Nat.le_of_ble_eq_true rfl, Nat.le_of_ble_eq_true rfl⟩) (fun p27 ce q9 H1 h1 h2 h3 h4 h5 => vx_out (fun x hx => (hnt x hx).elim) hlocks h3 h4 h5 (fun t ht hv => ⟨by simp only [op_move, ma1, if_pos p2, ma2, if_pos p7, if_pos q12, if_neg p27]; decide, by simp only [op_move, ma1, if_pos p2, ma2, if_pos p7, if_pos q12, if_neg p27]; rfl, by rw [ht]; exact h1, fun z hz => by rw [ht]; exact h2 z hz⟩) (fun q h => nomatch h) (Nat.le_of_ble_eq_true rfl) (Nat.le_of_ble_eq_true rfl)) (fun p27 => ?_)
    obtain ⟨a3, ha3, rfl⟩ := ok_ex p27
    have ma3 : nn (nI a3) = a3 := nn_of (by omega)
    refine lv_iload hx hb d_X_move_30 (lv_at hl 4 rfl) ?_
    refine lv_iconst (v := nI 1) hx hb d_X_move_32 (by decide) ?_
    refine lv_sipush (v := nI 9999) hx hb d_X_move_33 (by decide) ?_
    refine nd_go (vx_runS (As := [.int n, .int (nI 1), .int (nI 9999)]) (rest := []) ⟨hx, hb, hml, hown, hts⟩ (c_X_needRange l hst dC dI A0 n 1 9999 (by omega) (by omega)) (cwS 3 hts (gi_S wd_253 wd_254 wd_1 wd_255) rfl rfl rfl (by decide +kernel) ⟨Nat.le_of_ble_eq_true rfl, Nat.le_of_ble_eq_true rfl⟩) (nd_preS (hK.sub (tys' := []) [] rfl) (fun k q h => by simp at h) hG) rfl rfl hl.1 rfl (lv_room (Nat.le_of_ble_eq_true rfl)) d_X_move_36 ⟨Nat.le_of_ble_eq_true rfl, Nat.le_of_ble_eq_true rfl⟩) (fun p36 ce q9 H1 h1 h2 h3 h4 h5 => vx_out (fun x hx => (hnt x hx).elim) hlocks h3 h4 h5 (fun t ht hv => ⟨by simp only [op_move, ma1, if_pos p2, ma2, if_pos p7, if_pos q12, ma3, if_pos p27, if_neg p36]; decide, by simp only [op_move, ma1, if_pos p2, ma2, if_pos p7, if_pos q12, ma3, if_pos p27, if_neg p36]; rfl, by rw [ht]; exact h1, fun z hz => by rw [ht]; exact h2 z hz⟩) (fun q h => nomatch h) (Nat.le_of_ble_eq_true rfl) (Nat.le_of_ble_eq_true rfl)) (fun p36 => ?_)
    obtain ⟨a4, ga4, ha4, rfl⟩ := rg_ex p36
    have ma4 : nn (nI a4) = a4 := nn_of (by omega)
    refine lv_iload hx hb d_X_move_39 (lv_at hl 5 rfl) ?_
    refine lv_iconst (v := nI 0) hx hb d_X_move_41 (by decide) ?_
    refine lv_bipush (v := nI 30) hx hb d_X_move_42 (by decide) ?_
    refine nd_go (vx_runS (As := [.int d, .int (nI 0), .int (nI 30)]) (rest := []) ⟨hx, hb, hml, hown, hts⟩ (c_X_needRange l hst dC dI A0 d 0 30 (by omega) (by omega)) (cwS 3 hts (gi_S wd_253 wd_254 wd_1 wd_255) rfl rfl rfl (by decide +kernel) ⟨Nat.le_of_ble_eq_true rfl, Nat.le_of_ble_eq_true rfl⟩) (nd_preS (hK.sub (tys' := []) [] rfl) (fun k q h => by simp at h) hG) rfl rfl hl.1 rfl (lv_room (Nat.le_of_ble_eq_true rfl)) d_X_move_44 ⟨Nat.le_of_ble_eq_true rfl, Nat.le_of_ble_eq_true rfl⟩) (fun p44 ce q9 H1 h1 h2 h3 h4 h5 => vx_out (fun x hx => (hnt x hx).elim) hlocks h3 h4 h5 (fun t ht hv => ⟨by simp only [op_move, ma1, if_pos p2, ma2, if_pos p7, if_pos q12, ma3, if_pos p27, ma4, if_pos p36, if_neg p44]; decide, by simp only [op_move, ma1, if_pos p2, ma2, if_pos p7, if_pos q12, ma3, if_pos p27, ma4, if_pos p36, if_neg p44]; rfl, by rw [ht]; exact h1, fun z hz => by rw [ht]; exact h2 z hz⟩) (fun q h => nomatch h) (Nat.le_of_ble_eq_true rfl) (Nat.le_of_ble_eq_true rfl)) (fun p44 => ?_)
    obtain ⟨a5, ga5, ha5, rfl⟩ := rg_ex p44
    have ma5 : nn (nI a5) = a5 := nn_of (by omega)
    refine lv_aload_n hx hb d_X_move_47 rfl (lv_at hl 0 rfl) ?_
    refine lv_iload_n hx hb d_X_move_48 rfl (lv_at hl 1 rfl) ?_
    refine lv_iload_n hx hb d_X_move_49 rfl (lv_at hl 3 rfl) ?_
    refine lv_iload hx hb d_X_move_50 (lv_at hl 4 rfl) ?_
    refine nd_go (vx_runV (As := [.int (nI a1), .int (nI a3), .int (nI a4)]) (rest := []) ⟨hx, hb, hml, hown, hts⟩ (c_X_needThere l hst dC dI A0 cI q S t hI a1 a3 a4 (by omega) (by omega) (by omega)) (cwV 3 hts (gi_V wd_318 wd_320 wp_11 wd_1 wd_321) rfl rfl rfl (by decide +kernel) ⟨Nat.le_of_ble_eq_true rfl, Nat.le_of_ble_eq_true rfl⟩) (nd_preV hK hP hG (ci := 0) (q0 := 0) rfl rfl) rfl rfl hl.1 rfl (lv_room (Nat.le_of_ble_eq_true rfl)) d_X_move_52 ⟨Nat.le_of_ble_eq_true rfl, Nat.le_of_ble_eq_true rfl⟩) (fun p52 ce q9 H1 h1 h2 h3 h4 h5 => vx_out (fun x hx => (hnt x hx).elim) hlocks h3 h4 h5 (fun t ht hv => ⟨by simp only [op_move, ma1, if_pos p2, ma2, if_pos p7, if_pos q12, ma3, if_pos p27, ma4, if_pos p36, ma5, if_pos p44, if_neg p52]; decide, by simp only [op_move, ma1, if_pos p2, ma2, if_pos p7, if_pos q12, ma3, if_pos p27, ma4, if_pos p36, ma5, if_pos p44, if_neg p52]; rfl, by rw [ht]; exact h1, fun z hz => by rw [ht]; exact h2 z hz⟩) (fun q h => nomatch h) (Nat.le_of_ble_eq_true rfl) (Nat.le_of_ble_eq_true rfl)) (fun p52 => ?_)
    refine lv_aload_n hx hb d_X_move_55 rfl (lv_at hl 0 rfl) ?_
    refine va_get (D := (dC, dI)) (ci := 0) (v := .ref (q 2)) (C := R_X) (T := F_X) (N := 12) hx hb hts i_X hown hK hP 0 rfl rfl 1 (by decide) (hts _ wd_58) (fun _ h9 => h9) rfl d_X_move_56 ?_
    refine nd_go (vx_runS (As := [.ref (q 2)]) (rest := []) ⟨hx, hb, hml, hown, hts⟩ (c_X_needRoom l hst dC dI A0 cI (q 2) (q 12) 60 (S.2.1 3) 300 (rowf S.1 5) (by omega) (by omega)) (cwS 1 hts (gi_S wd_272 wd_273 wd_1 wd_274) rfl rfl rfl (by decide +kernel) ⟨Nat.le_of_ble_eq_true rfl, Nat.le_of_ble_eq_true rfl⟩) (nd_preS hK (hP.sub [2, 12] rfl) hG) rfl rfl hl.1 rfl (lv_room (Nat.le_of_ble_eq_true rfl)) d_X_move_59 ⟨Nat.le_of_ble_eq_true rfl, Nat.le_of_ble_eq_true rfl⟩) (fun p59 ce q9 H1 h1 h2 h3 h4 h5 => vx_out (fun x hx => (hnt x hx).elim) hlocks h3 h4 h5 (fun t ht hv => ⟨by simp only [op_move, ma1, if_pos p2, ma2, if_pos p7, if_pos q12, ma3, if_pos p27, ma4, if_pos p36, ma5, if_pos p44, if_pos p52, if_neg p59]; decide, by simp only [op_move, ma1, if_pos p2, ma2, if_pos p7, if_pos q12, ma3, if_pos p27, ma4, if_pos p36, ma5, if_pos p44, if_pos p52, if_neg p59]; rfl, by rw [ht]; exact h1, fun z hz => by rw [ht]; exact h2 z hz⟩) (fun q h => nomatch h) (Nat.le_of_ble_eq_true rfl) (Nat.le_of_ble_eq_true rfl)) (fun p59 => ?_)
    refine lv_aload_n hx hb d_X_move_62 rfl (lv_at hl 0 rfl) ?_
    refine lv_iload_n hx hb d_X_move_63 rfl (lv_at hl 1 rfl) ?_
    refine lv_iload_n hx hb d_X_move_64 rfl (lv_at hl 3 rfl) ?_
    refine lv_iload hx hb d_X_move_65 (lv_at hl 4 rfl) ?_
    refine lv_ineg hx hb d_X_move_67 ?_
    refine wr_goA (va_runV (As := [.int (nI a1), .int (nI a3), .int (-(nI a4))]) (rest := []) ⟨hx, hb, hml, hown, hts⟩ (c_X_change l dC dI s.heap.size cI q S t hI a1 a3 (S.1 25 (a1 * 60 + a3) - a4) (-(nI a4)) (by omega) (by omega) (by rw [← Int32.sub_eq_add_neg]; exact pk_sub (by omega))) (cwV 3 hts (gi_V wd_305 wd_307 wp_10 wd_1 wd_308) rfl rfl rfl (by decide +kernel) ⟨Nat.le_of_ble_eq_true rfl, Nat.le_of_ble_eq_true rfl⟩) (wr_preV hK hP hD (ci := 0) (q0 := 0) rfl rfl) rfl rfl hl.1 rfl (lv_room (Nat.le_of_ble_eq_true rfl)) d_X_move_68 ⟨Nat.le_of_ble_eq_true rfl, Nat.le_of_ble_eq_true rfl⟩) hD hS hA wX_adr (fun H locs hP hD hS => ?_)
    refine W.eq (g2 := F0 m 71 ls []) rfl ?_
    obtain ⟨S1, hS1⟩ : ∃ z : St, z = S_a S 25 (a1 * 60 + a3) (S.1 25 (a1 * 60 + a3) - a4) := ⟨_, rfl⟩
    rw [← hS1] at hP hD
    have hIS1 : Bd t S1 := by rw [hS1]; exact Bd_a hI (show _ ≤ 9999 from Nat.le_trans (Nat.sub_le _ _) (hI.1 25 _))
    have hBS1 := hIS1.1
    have hg0 : S1.2.1 0 ≤ 8 := hIS1.2.1 0
    have hg1 : S1.2.1 1 ≤ 9999 := hIS1.2.1 1
    have hg2 : S1.2.1 2 ≤ 60 := hIS1.2.1 2
    have hg3 : S1.2.1 3 ≤ 60 := hIS1.2.1 3
    have hg4 : S1.2.1 4 ≤ 80 := hIS1.2.1 4
    have hg5 : S1.2.1 5 ≤ 20 := hIS1.2.1 5
    have hg6 : S1.2.1 6 ≤ 80 := hIS1.2.1 6
    have hg7 : S1.2.1 7 ≤ 10 := hIS1.2.1 7
    have hg8 : t ≤ 512 := hIS1.2.2
    have r3 : S1.2.1 3 = S.2.1 3 := by rw [hS1]; rfl
    have r1 : S1.2.1 1 = S.2.1 1 := by rw [hS1]; rfl
    refine lv_aload_n hx hb d_X_move_71 rfl (lv_at hl 0 rfl) ?_
    refine va_get (D := (dC, dI)) (ci := 0) (v := .ref (q 2)) (C := R_X) (T := F_X) (N := 12) hx hb hts i_X hown hK hP 0 rfl rfl 1 (by decide) (hts _ wd_58) (fun _ h9 => h9) rfl d_X_move_72 ?_
    refine lv_iload_n hx hb d_X_move_75 rfl (lv_at hl 2 rfl) ?_
    refine lv_iload_n hx hb d_X_move_76 rfl (lv_at hl 3 rfl) ?_
    refine lv_iload hx hb d_X_move_77 (lv_at hl 4 rfl) ?_
    refine lv_aload_n hx hb d_X_move_79 rfl (lv_at hl 0 rfl) ?_
    refine va_get (D := (dC, dI)) (ci := 0) (v := .int (nI (S1.2.1 1))) (C := R_X) (T := F_X) (N := 12) hx hb hts i_X hown hK hP 0 rfl rfl 11 (by decide) (hts _ wd_68) (fun _ h9 => h9) rfl d_X_move_80 ?_
    refine lv_iload hx hb d_X_move_83 (lv_at hl 5 rfl) ?_
    refine nv_add hx hb d_X_move_85 ?_
    refine lv_iconst (v := nI 1) hx hb d_X_move_86 (by decide) ?_
    refine wr_go (va_runV (As := [.int (nI a2), .int (nI a3), .int (nI a4), .int (nI ((S1.2.1 1) + a5)), .int (nI 1)]) (rest := []) ⟨hx, hb, hml, hown, hts⟩ (c_W_add l dC dI H.size cI (q 2) (q 12) 60 (S1.2.1 3) 300 (rowf S1.1 5) (nI a2) (nI a3) (nI a4) (nI ((S1.2.1 1) + a5)) (nI 1) (by omega) (by decide)) (cwV 5 hts (gi_V wd_140 wd_141 wd_142 wd_2 wd_143) rfl rfl rfl (by decide +kernel) ⟨Nat.le_of_ble_eq_true rfl, Nat.le_of_ble_eq_true rfl⟩) (wr_preV hK (hP.sub [2, 12] rfl) (hD.sub [2, 12] (by decide) rfl) (ci := 1) (q0 := 0) rfl rfl) rfl rfl hl.1 rfl (lv_room (Nat.le_of_ble_eq_true rfl)) d_X_move_87 ⟨Nat.le_of_ble_eq_true rfl, Nat.le_of_ble_eq_true rfl⟩) hP hD hS hA [2, 12] rfl rfl (wX q cI (S_g (S_row S1 5 (S1.2.1 3) a2 a3 a4 ((S1.2.1 1) + a5) 1) 3 (S1.2.1 3 + 1))) wX_add5 rfl (fun H locs hP hD hS => ?_)
    refine W.eq (g2 := F0 m 90 ls [.int (nI (S1.2.1 3))]) rfl ?_
    obtain ⟨S2, hS2⟩ : ∃ z : St, z = S_g (S_row S1 5 (S1.2.1 3) a2 a3 a4 ((S1.2.1 1) + a5) 1) 3 (S1.2.1 3 + 1) := ⟨_, rfl⟩
    rw [← hS2] at hP hD
    have hIS2 : Bd t S2 := by rw [hS2]; exact Bd_g (Bd_row hIS1 (show _ ≤ 7 by omega) (show _ ≤ 59 by omega) (show _ ≤ 9999 by omega) (show _ ≤ 10029 by omega) (Nat.le_refl 1)) (show _ ≤ 60 by omega)
    have hBS2 := hIS2.1
    have hg0 : S2.2.1 0 ≤ 8 := hIS2.2.1 0
    have hg1 : S2.2.1 1 ≤ 9999 := hIS2.2.1 1
    have hg2 : S2.2.1 2 ≤ 60 := hIS2.2.1 2
    have hg3 : S2.2.1 3 ≤ 60 := hIS2.2.1 3
    have hg4 : S2.2.1 4 ≤ 80 := hIS2.2.1 4
    have hg5 : S2.2.1 5 ≤ 20 := hIS2.2.1 5
    have hg6 : S2.2.1 6 ≤ 80 := hIS2.2.1 6
    have hg7 : S2.2.1 7 ≤ 10 := hIS2.2.1 7
    have hg8 : t ≤ 512 := hIS2.2.2
    have r32 : S2.2.1 3 = S1.2.1 3 + 1 := by rw [hS2]; rfl
    refine lv_istore (lv' := [(6, .int (nI (S1.2.1 3))), (0, .ref (q 0)), (1, .int (nI a1)), (2, .int (nI a2)), (3, .int (nI a3)), (4, .int (nI a4)), (5, .int (nI a5))]) hx hb d_X_move_90 hl (by decide) rfl (fun ls hl => ?_)
    refine lv_iload hx hb d_X_move_92 (lv_at hl 6 rfl) ?_
    refine nv_zne (tgt := 103) hx hb (by omega) d_X_move_94 (by decide) (fun c94 => ?_) (fun c94 => ?_)
    · refine lv_iload hx hb d_X_move_103 (lv_at hl 0 rfl) ?_
      have ho : op_move S (nI a1) (nI a2) (nI a3) (nI a4) (nI a5) = (0, nI (S.2.1 3), S_g (S_row (S_a S 25 (a1 * 60 + a3) (S.1 25 (a1 * 60 + a3) - a4)) 5 (S.2.1 3) a2 a3 a4 (S.2.1 1 + a5) 1) 3 (S.2.1 3 + 1)) := by simp only [op_move, ma1, if_pos p2, ma2, if_pos p7, if_pos q12, ma3, if_pos p27, ma4, if_pos p36, ma5, if_pos p44, if_pos p52, if_pos p59, if_neg c94]
      rw [ho]
      refine nv_as (nI (S.2.1 3)) (by rw [hS1]; rfl) ?_
      refine W.widen (k := 8) (n := 48) (Nat.le_of_ble_eq_true rfl) (Nat.le_of_ble_eq_true rfl) ?_
      have hP9 : va_P (dC, dI) classes (wX q cI (S_g (S_row (S_a S 25 (a1 * 60 + a3) (S.1 25 (a1 * 60 + a3) - a4)) 5 (S.2.1 3) a2 a3 a4 (S.2.1 1 + a5) 1) 3 (S.2.1 3 + 1))) H := by rw [hS2, hS1] at hP; exact hP
      exact vx_ret (W.iret hx hb hr (fun t ht hW => ⟨rfl, rfl, by rw [ht]; exact hP9, hS.F ht⟩) hS.2.2 d_X_move_105)
    · refine lv_aload_n hx hb d_X_move_97 rfl (lv_at hl 1 rfl) ?_
      refine lv_iload hx hb d_X_move_98 (lv_at hl 0 rfl) ?_
      refine wr_goA (va_runV (As := [.int (nI (S1.2.1 3))]) (rest := []) ⟨hx, hb, hml, hown, hts⟩ (c_X_arrive l dC dI H.size cI q S2 t hIS2 (S1.2.1 3) (by omega)) (cwV 1 hts (gi_V wd_338 wd_340 wp_12 wd_1 wd_341) rfl rfl rfl (by decide +kernel) ⟨Nat.le_of_ble_eq_true rfl, Nat.le_of_ble_eq_true rfl⟩) (wr_preV hK hP hD (ci := 0) (q0 := 0) rfl rfl) rfl rfl hl.1 rfl (lv_room (Nat.le_of_ble_eq_true rfl)) d_X_move_100 ⟨Nat.le_of_ble_eq_true rfl, Nat.le_of_ble_eq_true rfl⟩) hD hS hA wX_adr (fun H locs hP hD hS => ?_)
      refine W.eq (g2 := F0 m 103 ls []) rfl ?_
      obtain ⟨S3, hS3⟩ : ∃ z : St, z = come S2 (S1.2.1 3) := ⟨_, rfl⟩
      rw [← hS3] at hP hD
      refine lv_iload hx hb d_X_move_103 (lv_at hl 0 rfl) ?_
      have ho : op_move S (nI a1) (nI a2) (nI a3) (nI a4) (nI a5) = (0, nI (S.2.1 3), come (S_g (S_row (S_a S 25 (a1 * 60 + a3) (S.1 25 (a1 * 60 + a3) - a4)) 5 (S.2.1 3) a2 a3 a4 (S.2.1 1 + a5) 1) 3 (S.2.1 3 + 1)) (S.2.1 3)) := by simp only [op_move, ma1, if_pos p2, ma2, if_pos p7, if_pos q12, ma3, if_pos p27, ma4, if_pos p36, ma5, if_pos p44, if_pos p52, if_pos p59, if_pos c94]
      rw [ho]
      refine nv_as (nI (S.2.1 3)) (by rw [hS1]; rfl) ?_
      refine W.widen (k := 8) (n := 48) (Nat.le_of_ble_eq_true rfl) (Nat.le_of_ble_eq_true rfl) ?_
      have hP9 : va_P (dC, dI) classes (wX q cI (come (S_g (S_row (S_a S 25 (a1 * 60 + a3) (S.1 25 (a1 * 60 + a3) - a4)) 5 (S.2.1 3) a2 a3 a4 (S.2.1 1 + a5) 1) 3 (S.2.1 3 + 1)) (S.2.1 3))) H := by rw [hS3, hS2, hS1] at hP; exact hP
      exact vx_ret (W.iret hx hb hr (fun t ht hW => ⟨rfl, rfl, by rw [ht]; exact hP9, hS.F ht⟩) hS.2.2 d_X_move_105)
  · have q12 : ¬ nI a1 ≠ nI a2 := fun h => h (by rw [c12])
    exact x_throw (A := A0) hx hb hst hown hts hG ex_ia sx_94 hnt (hl.1.trans hml.symm) hlocks d_X_move_15 d_X_move_18 d_X_move_19 d_X_move_21 d_X_move_24 (Nat.le_of_ble_eq_true rfl) (Nat.le_of_ble_eq_true rfl) (Nat.le_of_ble_eq_true rfl) (Nat.le_of_ble_eq_true rfl) (Nat.le_of_ble_eq_true rfl) (Nat.le_of_ble_eq_true rfl) (fun t h1 h2 => ⟨by simp only [op_move, ma1, if_pos p2, ma2, if_pos p7, if_neg q12]; decide, by simp only [op_move, ma1, if_pos p2, ma2, if_pos p7, if_neg q12]; rfl, h1, h2⟩)
set_option maxHeartbeats 4000000 in
set_option maxRecDepth 100000 in
theorem c_X_sum (l : Launch) (hst : l.stackTraces = false) (dC : Nat → ClassId) (dI : Nat → Nat → Nat) (A0 : Nat → Prop) (sz : Nat) (cI : ClassId) (q : Nat → Nat) (S : St) (t : Nat) (hI : Bd t S) (x y v : Int32) : vx_Met l y_X_sum (.code y_X_sum b_X_sum 4 (some .int) :: bg) { frames := 8, cells := 3, slots := 18, locals := 132 } (xo_P (dC, dI) classes [(cI, .int)] A0 (wX q cI S) sz [.ref (q 0), .int x, .int y, .int v]) (xo_Q (op_sum S x y v) (some (.int (op_sum S x y v).2.1)) (dC, dI) classes (wX q cI (op_sum S x y v).2.2) (va_A (wX q cI S) sz)) (xo_X (op_sum S x y v) [E_ia]) 3 18 (va_A (wX q cI S) sz) := by
  refine vx_ofW (cc := b_X_sum) (maxL := 4) (ret := (some .int)) (by decide) rfl ?_
  intro p e s m args below meth c s₁ B hml hnt hv
  obtain ⟨rfl, hsz, hP, hK, hD0, hG⟩ := hv
  subst hsz
  have hD := hD0.self (sz := s.heap.size)
  generalize hAe : va_A (wX q cI S) s.heap.size = A at hD ⊢
  have hA : ∀ q : Nat, s.heap.size ≤ q → A q := fun q h => by rw [← hAe]; exact Or.inr h
  have hS : va_S A s.heap s.heap [] := va_S.rf
  have hx := B.exec
  have hb := B.bytes
  have hr := B.returns
  have hts := fun w (h : w ∈ bg) => atoms_spec (ws := .code y_X_sum b_X_sum 4 (some .int) :: bg) B.pre w (List.mem_cons_of_mem _ h)
  have hown : s.vm.findClass R_X = some m.cls := findClass_of_methodNamed B.named
  have hlocks := B.notSynchronized
  have hl := lv_entry ([.ref (q 0), .int x, .int y, .int v]) (n := 4) (Nat.le_of_ble_eq_true rfl)
  rw [lg_entry_eq]
  generalize (lg_sl ([.ref (q 0), .int x, .int y, .int v]) ++ List.replicate (4 - (lg_sl ([.ref (q 0), .int x, .int y, .int v])).length) Slot.unset).toArray = ls at hl ⊢
  have hl : lv_has ls 4 [(0, .ref (q 0)), (1, .int x), (2, .int y), (3, .int v)] := hl
  have hB := hI.1
  have hg0 : S.2.1 0 ≤ 8 := hI.2.1 0
  have hg1 : S.2.1 1 ≤ 9999 := hI.2.1 1
  have hg2 : S.2.1 2 ≤ 60 := hI.2.1 2
  have hg3 : S.2.1 3 ≤ 60 := hI.2.1 3
  have hg4 : S.2.1 4 ≤ 80 := hI.2.1 4
  have hg5 : S.2.1 5 ≤ 20 := hI.2.1 5
  have hg6 : S.2.1 6 ≤ 80 := hI.2.1 6
  have hg7 : S.2.1 7 ≤ 10 := hI.2.1 7
  have hg8 : t ≤ 512 := hI.2.2
  refine lv_aload_n hx hb d_X_sum_0 rfl (lv_at hl 0 rfl) ?_
  refine lv_iload_n hx hb d_X_sum_1 rfl (lv_at hl 1 rfl) ?_
  refine nd_go (vx_runV (As := [.int x]) (rest := []) ⟨hx, hb, hml, hown, hts⟩ (c_X_needStore l hst dC dI A0 cI q S t hI x) (cwV 1 hts (gi_V wd_283 wd_285 wp_7 wd_1 wd_286) rfl rfl rfl (by decide +kernel) ⟨Nat.le_of_ble_eq_true rfl, Nat.le_of_ble_eq_true rfl⟩) (nd_preV hK hP hG (ci := 0) (q0 := 0) rfl rfl) rfl rfl hl.1 rfl (lv_room (Nat.le_of_ble_eq_true rfl)) d_X_sum_2 ⟨Nat.le_of_ble_eq_true rfl, Nat.le_of_ble_eq_true rfl⟩) (fun p2 ce q9 H1 h1 h2 h3 h4 h5 => vx_out (fun x hx => (hnt x hx).elim) hlocks h3 h4 h5 (fun t ht hv => ⟨by simp only [op_sum, if_neg p2]; decide, by simp only [op_sum, if_neg p2]; rfl, by rw [ht]; exact h1, fun z hz => by rw [ht]; exact h2 z hz⟩) (fun q h => nomatch h) (Nat.le_of_ble_eq_true rfl) (Nat.le_of_ble_eq_true rfl)) (fun p2 => ?_)
  obtain ⟨a1, ha1, rfl⟩ := ok_ex p2
  have ma1 : nn (nI a1) = a1 := nn_of (by omega)
  refine lv_iload_n hx hb d_X_sum_5 rfl (lv_at hl 2 rfl) ?_
  refine nd_go (vx_runS (As := [.int y]) (rest := []) ⟨hx, hb, hml, hown, hts⟩ (c_X_needKind l hst dC dI A0 y) (cwS 1 hts (gi_S wd_234 wd_235 wd_1 wd_236) rfl rfl rfl (by decide +kernel) ⟨Nat.le_of_ble_eq_true rfl, Nat.le_of_ble_eq_true rfl⟩) (nd_preS (hK.sub (tys' := []) [] rfl) (fun k q h => by simp at h) hG) rfl rfl hl.1 rfl (lv_room (Nat.le_of_ble_eq_true rfl)) d_X_sum_6 ⟨Nat.le_of_ble_eq_true rfl, Nat.le_of_ble_eq_true rfl⟩) (fun p6 ce q9 H1 h1 h2 h3 h4 h5 => vx_out (fun x hx => (hnt x hx).elim) hlocks h3 h4 h5 (fun t ht hv => ⟨by simp only [op_sum, ma1, if_pos p2, if_neg p6]; decide, by simp only [op_sum, ma1, if_pos p2, if_neg p6]; rfl, by rw [ht]; exact h1, fun z hz => by rw [ht]; exact h2 z hz⟩) (fun q h => nomatch h) (Nat.le_of_ble_eq_true rfl) (Nat.le_of_ble_eq_true rfl)) (fun p6 => ?_)
  obtain ⟨a2, ha2, rfl⟩ := ok_ex p6
  have ma2 : nn (nI a2) = a2 := nn_of (by omega)
  refine lv_iload_n hx hb d_X_sum_9 rfl (lv_at hl 3 rfl) ?_
  by_cases k0 : v = 0
  · subst k0
    refine lv_tableIn (tgt := 36) hx hb d_X_sum_10 (by decide) (by decide) (off := 26) rfl (by decide) ?_
    refine lv_aload_n hx hb d_X_sum_36 rfl (lv_at hl 0 rfl) ?_
    refine lv_iload_n hx hb d_X_sum_37 rfl (lv_at hl 1 rfl) ?_
    refine lv_iload_n hx hb d_X_sum_38 rfl (lv_at hl 2 rfl) ?_
    refine lv_iconst (v := b2 true) hx hb d_X_sum_39 (by decide) ?_
    refine pu_go (va_runV (As := [.int (nI a1), .int (nI a2), .int (b2 true)]) (rest := []) ⟨hx, hb, hml, hown, hts⟩ (c_X_inStore l dC dI cI q S t hI a1 a2 true (by omega) (by omega)) (cwV 3 hts (gi_V wd_113 wd_115 wp_1 wd_1 wd_116) rfl rfl rfl (by decide +kernel) ⟨Nat.le_of_ble_eq_true rfl, Nat.le_of_ble_eq_true rfl⟩) (pu_preV hK hP (ci := 0) (q0 := 0) rfl rfl) rfl rfl hl.1 rfl (lv_room (Nat.le_of_ble_eq_true rfl)) d_X_sum_40 ⟨Nat.le_of_ble_eq_true rfl, Nat.le_of_ble_eq_true rfl⟩) ?_
    have hb1 := inst_le hI a1 a2 true
    have ho : op_sum S (nI a1) (nI a2) 0 = (0, nI (good S a1 a2), S) := by simp only [op_sum, ma1, if_pos p2, ma2, if_pos p6, if_true]
    rw [ho]
    refine nv_as (nI (good S a1 a2)) (by rw [inst_t]) ?_
    refine W.widen (k := 3) (n := 18) (Nat.le_of_ble_eq_true rfl) (Nat.le_of_ble_eq_true rfl) ?_
    have hP9 : va_P (dC, dI) classes (wX q cI (S)) s.heap := hP
    exact vx_ret (W.iret hx hb hr (fun t ht hW => ⟨rfl, rfl, by rw [ht]; exact hP9, hS.F ht⟩) hS.2.2 d_X_sum_43)
  by_cases k1 : v = 1
  · subst k1
    refine lv_tableIn (tgt := 44) hx hb d_X_sum_10 (by decide) (by decide) (off := 34) rfl (by decide) ?_
    refine lv_aload_n hx hb d_X_sum_44 rfl (lv_at hl 0 rfl) ?_
    refine lv_iload_n hx hb d_X_sum_45 rfl (lv_at hl 1 rfl) ?_
    refine lv_iload_n hx hb d_X_sum_46 rfl (lv_at hl 2 rfl) ?_
    refine lv_iconst (v := b2 false) hx hb d_X_sum_47 (by decide) ?_
    refine pu_go (va_runV (As := [.int (nI a1), .int (nI a2), .int (b2 false)]) (rest := []) ⟨hx, hb, hml, hown, hts⟩ (c_X_inStore l dC dI cI q S t hI a1 a2 false (by omega) (by omega)) (cwV 3 hts (gi_V wd_113 wd_115 wp_1 wd_1 wd_116) rfl rfl rfl (by decide +kernel) ⟨Nat.le_of_ble_eq_true rfl, Nat.le_of_ble_eq_true rfl⟩) (pu_preV hK hP (ci := 0) (q0 := 0) rfl rfl) rfl rfl hl.1 rfl (lv_room (Nat.le_of_ble_eq_true rfl)) d_X_sum_48 ⟨Nat.le_of_ble_eq_true rfl, Nat.le_of_ble_eq_true rfl⟩) ?_
    have hb2 := inst_le hI a1 a2 false
    have ho : op_sum S (nI a1) (nI a2) 1 = (0, nI (bad S a1 a2), S) := by simp only [op_sum, ma1, if_pos p2, ma2, if_pos p6, if_neg (show ¬ (1 : Int32) = 0 by decide), if_true]
    rw [ho]
    refine nv_as (nI (bad S a1 a2)) (by rw [inst_f]) ?_
    refine W.widen (k := 3) (n := 18) (Nat.le_of_ble_eq_true rfl) (Nat.le_of_ble_eq_true rfl) ?_
    have hP9 : va_P (dC, dI) classes (wX q cI (S)) s.heap := hP
    exact vx_ret (W.iret hx hb hr (fun t ht hW => ⟨rfl, rfl, by rw [ht]; exact hP9, hS.F ht⟩) hS.2.2 d_X_sum_51)
  by_cases k2 : v = 2
  · subst k2
    refine lv_tableIn (tgt := 52) hx hb d_X_sum_10 (by decide) (by decide) (off := 42) rfl (by decide) ?_
    refine lv_aload_n hx hb d_X_sum_52 rfl (lv_at hl 0 rfl) ?_
    refine lv_iload_n hx hb d_X_sum_53 rfl (lv_at hl 1 rfl) ?_
    refine lv_iload_n hx hb d_X_sum_54 rfl (lv_at hl 2 rfl) ?_
    refine lv_iconst (v := b2 false) hx hb d_X_sum_55 (by decide) ?_
    refine pu_go (va_runV (As := [.int (nI a1), .int (nI a2), .int (b2 false)]) (rest := []) ⟨hx, hb, hml, hown, hts⟩ (c_X_onTheWay l dC dI cI q S t hI a1 a2 false (by omega) (by omega)) (cwV 3 hts (gi_V wd_128 wd_130 wp_3 wd_1 wd_131) rfl rfl rfl (by decide +kernel) ⟨Nat.le_of_ble_eq_true rfl, Nat.le_of_ble_eq_true rfl⟩) (pu_preV hK hP (ci := 0) (q0 := 0) rfl rfl) rfl rfl hl.1 rfl (lv_room (Nat.le_of_ble_eq_true rfl)) d_X_sum_56 ⟨Nat.le_of_ble_eq_true rfl, Nat.le_of_ble_eq_true rfl⟩) ?_
    have hb3 := way_le hI false a1 a2
    have ho : op_sum S (nI a1) (nI a2) 2 = (0, nI (way S false a1 a2), S) := by simp only [op_sum, ma1, if_pos p2, ma2, if_pos p6, if_neg (show ¬ (2 : Int32) = 0 by decide), if_neg (show ¬ (2 : Int32) = 1 by decide), if_true]
    rw [ho]
    refine W.widen (k := 3) (n := 18) (Nat.le_of_ble_eq_true rfl) (Nat.le_of_ble_eq_true rfl) ?_
    have hP9 : va_P (dC, dI) classes (wX q cI (S)) s.heap := hP
    exact vx_ret (W.iret hx hb hr (fun t ht hW => ⟨rfl, rfl, by rw [ht]; exact hP9, hS.F ht⟩) hS.2.2 d_X_sum_59)
  refine lv_tableOut (tgt := 60) hx hb d_X_sum_10 (sw3 k0 k1 k2) (by decide) ?_
  exact x_throw (A := A0) hx hb hst hown hts hG ex_ia sx_121 hnt (hl.1.trans hml.symm) hlocks d_X_sum_60 d_X_sum_63 d_X_sum_64 d_X_sum_66 d_X_sum_69 (Nat.le_of_ble_eq_true rfl) (Nat.le_of_ble_eq_true rfl) (Nat.le_of_ble_eq_true rfl) (Nat.le_of_ble_eq_true rfl) (Nat.le_of_ble_eq_true rfl) (Nat.le_of_ble_eq_true rfl) (fun t h1 h2 => ⟨by simp only [op_sum, ma1, if_pos p2, ma2, if_pos p6, if_neg k0, if_neg k1, if_neg k2]; decide, by simp only [op_sum, ma1, if_pos p2, ma2, if_pos p6, if_neg k0, if_neg k1, if_neg k2]; rfl, h1, h2⟩)
set_option maxHeartbeats 4000000 in
set_option maxRecDepth 100000 in
theorem c_X_deliver (l : Launch) (hst : l.stackTraces = false) (dC : Nat → ClassId) (dI : Nat → Nat → Nat) (A0 : Nat → Prop) (sz : Nat) (cI : ClassId) (q : Nat → Nat) (S : St) (t : Nat) (hI : Bd t S) (x y : Int32) : vx_Met l y_X_deliver (.code y_X_deliver b_X_deliver 4 (some .int) :: bg) { frames := 8, cells := 3, slots := 18, locals := 132 } (xo_P (dC, dI) classes [(cI, .int)] A0 (wX q cI S) sz [.ref (q 0), .int x, .int y]) (xo_Q (op_deliver S x y) (some (.int (op_deliver S x y).2.1)) (dC, dI) classes (wX q cI (op_deliver S x y).2.2) (va_A (wX q cI S) sz)) (xo_X (op_deliver S x y) [E_ia, E_is]) 3 18 (va_A (wX q cI S) sz) := by
  refine vx_ofW (cc := b_X_deliver) (maxL := 4) (ret := (some .int)) (by decide) rfl ?_
  intro p e s m args below meth c s₁ B hml hnt hv
  obtain ⟨rfl, hsz, hP, hK, hD0, hG⟩ := hv
  subst hsz
  have hD := hD0.self (sz := s.heap.size)
  generalize hAe : va_A (wX q cI S) s.heap.size = A at hD ⊢
  have hA : ∀ q : Nat, s.heap.size ≤ q → A q := fun q h => by rw [← hAe]; exact Or.inr h
  have hS : va_S A s.heap s.heap [] := va_S.rf
  have hx := B.exec
  have hb := B.bytes
  have hr := B.returns
  have hts := fun w (h : w ∈ bg) => atoms_spec (ws := .code y_X_deliver b_X_deliver 4 (some .int) :: bg) B.pre w (List.mem_cons_of_mem _ h)
  have hown : s.vm.findClass R_X = some m.cls := findClass_of_methodNamed B.named
  have hlocks := B.notSynchronized
  have hl := lv_entry ([.ref (q 0), .int x, .int y]) (n := 4) (Nat.le_of_ble_eq_true rfl)
  rw [lg_entry_eq]
  generalize (lg_sl ([.ref (q 0), .int x, .int y]) ++ List.replicate (4 - (lg_sl ([.ref (q 0), .int x, .int y])).length) Slot.unset).toArray = ls at hl ⊢
  have hl : lv_has ls 4 [(0, .ref (q 0)), (1, .int x), (2, .int y)] := hl
  have hB := hI.1
  have hg0 : S.2.1 0 ≤ 8 := hI.2.1 0
  have hg1 : S.2.1 1 ≤ 9999 := hI.2.1 1
  have hg2 : S.2.1 2 ≤ 60 := hI.2.1 2
  have hg3 : S.2.1 3 ≤ 60 := hI.2.1 3
  have hg4 : S.2.1 4 ≤ 80 := hI.2.1 4
  have hg5 : S.2.1 5 ≤ 20 := hI.2.1 5
  have hg6 : S.2.1 6 ≤ 80 := hI.2.1 6
  have hg7 : S.2.1 7 ≤ 10 := hI.2.1 7
  have hg8 : t ≤ 512 := hI.2.2
  refine lv_aload_n hx hb d_X_deliver_0 rfl (lv_at hl 0 rfl) ?_
  refine va_get (D := (dC, dI)) (ci := 0) (v := .ref (q 3)) (C := R_X) (T := F_X) (N := 12) hx hb hts i_X hown hK hP 0 rfl rfl 2 (by decide) (hts _ wd_59) (fun _ h9 => h9) rfl d_X_deliver_1 ?_
  refine lv_iload_n hx hb d_X_deliver_4 rfl (lv_at hl 1 rfl) ?_
  refine nd_go (vx_runS (As := [.ref (q 3), .int x]) (rest := []) ⟨hx, hb, hml, hown, hts⟩ (c_X_needRow l hst dC dI A0 cI (q 3) (q 13) 80 (S.2.1 4) 400 (rowf S.1 10) x (by omega)) (cwS 2 hts (gi_S wd_292 wd_293 wd_1 wd_294) rfl rfl rfl (by decide +kernel) ⟨Nat.le_of_ble_eq_true rfl, Nat.le_of_ble_eq_true rfl⟩) (nd_preS hK (hP.sub [3, 13] rfl) hG) rfl rfl hl.1 rfl (lv_room (Nat.le_of_ble_eq_true rfl)) d_X_deliver_5 ⟨Nat.le_of_ble_eq_true rfl, Nat.le_of_ble_eq_true rfl⟩) (fun p5 ce q9 H1 h1 h2 h3 h4 h5 => vx_out (fun x hx => (hnt x hx).elim) hlocks h3 h4 h5 (fun t ht hv => ⟨by simp only [op_deliver, if_neg p5]; decide, by simp only [op_deliver, if_neg p5]; rfl, by rw [ht]; exact h1, fun z hz => by rw [ht]; exact h2 z hz⟩) (fun q h => nomatch h) (Nat.le_of_ble_eq_true rfl) (Nat.le_of_ble_eq_true rfl)) (fun p5 => ?_)
  obtain ⟨a1, ha1, rfl⟩ := ok_ex p5
  have ma1 : nn (nI a1) = a1 := nn_of (by omega)
  refine lv_aload_n hx hb d_X_deliver_8 rfl (lv_at hl 0 rfl) ?_
  refine lv_iload_n hx hb d_X_deliver_9 rfl (lv_at hl 2 rfl) ?_
  refine nd_go (vx_runV (As := [.int y]) (rest := []) ⟨hx, hb, hml, hown, hts⟩ (c_X_needLot l hst dC dI A0 cI q S t hI y) (cwV 1 hts (gi_V wd_288 wd_290 wp_8 wd_1 wd_291) rfl rfl rfl (by decide +kernel) ⟨Nat.le_of_ble_eq_true rfl, Nat.le_of_ble_eq_true rfl⟩) (nd_preV hK hP hG (ci := 0) (q0 := 0) rfl rfl) rfl rfl hl.1 rfl (lv_room (Nat.le_of_ble_eq_true rfl)) d_X_deliver_10 ⟨Nat.le_of_ble_eq_true rfl, Nat.le_of_ble_eq_true rfl⟩) (fun p10 ce q9 H1 h1 h2 h3 h4 h5 => vx_out (fun x hx => (hnt x hx).elim) hlocks h3 h4 h5 (fun t ht hv => ⟨by simp only [op_deliver, ma1, if_pos p5, if_neg p10]; decide, by simp only [op_deliver, ma1, if_pos p5, if_neg p10]; rfl, by rw [ht]; exact h1, fun z hz => by rw [ht]; exact h2 z hz⟩) (fun q h => nomatch h) (Nat.le_of_ble_eq_true rfl) (Nat.le_of_ble_eq_true rfl)) (fun p10 => ?_)
  obtain ⟨a2, ha2, rfl⟩ := ok_ex p10
  have ma2 : nn (nI a2) = a2 := nn_of (by omega)
  refine lv_aload_n hx hb d_X_deliver_13 rfl (lv_at hl 0 rfl) ?_
  refine va_get (D := (dC, dI)) (ci := 0) (v := .ref (q 3)) (C := R_X) (T := F_X) (N := 12) hx hb hts i_X hown hK hP 0 rfl rfl 2 (by decide) (hts _ wd_59) (fun _ h9 => h9) rfl d_X_deliver_14 ?_
  refine lv_iload_n hx hb d_X_deliver_17 rfl (lv_at hl 1 rfl) ?_
  refine lv_iconst (v := nI 4) hx hb d_X_deliver_18 (by decide) ?_
  refine pu_go (va_runV (As := [.int (nI a1), .int (nI 4)]) (rest := []) ⟨hx, hb, hml, hown, hts⟩ (c_W_at l dC dI cI (q 3) (q 13) 80 (S.2.1 4) 400 (rowf S.1 10) a1 4 (by omega) (by decide)) (cwV 2 hts (gi_V wd_117 wd_118 wd_119 wd_2 wd_120) rfl rfl rfl (by decide +kernel) ⟨Nat.le_of_ble_eq_true rfl, Nat.le_of_ble_eq_true rfl⟩) (pu_preV hK (hP.sub [3, 13] rfl) (ci := 1) (q0 := 0) rfl rfl) rfl rfl hl.1 rfl (lv_room (Nat.le_of_ble_eq_true rfl)) d_X_deliver_19 ⟨Nat.le_of_ble_eq_true rfl, Nat.le_of_ble_eq_true rfl⟩) ?_
  refine nv_as (nI (S.1 14 a1)) (rowf_at (by decide)) ?_
  have hb1 : S.1 14 a1 ≤ 1 := hB 14 _
  refine lv_iconst (v := nI 1) hx hb d_X_deliver_22 (by decide) ?_
  refine nv_ceq (tgt := 36) hx hb (by omega) (by omega) d_X_deliver_23 (by decide) (fun c23 => ?_) (fun c23 => ?_)
  · refine lv_aload_n hx hb d_X_deliver_36 rfl (lv_at hl 0 rfl) ?_
    refine va_get (D := (dC, dI)) (ci := 0) (v := .ref (q 3)) (C := R_X) (T := F_X) (N := 12) hx hb hts i_X hown hK hP 0 rfl rfl 2 (by decide) (hts _ wd_59) (fun _ h9 => h9) rfl d_X_deliver_37 ?_
    refine lv_iload_n hx hb d_X_deliver_40 rfl (lv_at hl 1 rfl) ?_
    refine lv_iconst (v := nI 1) hx hb d_X_deliver_41 (by decide) ?_
    refine pu_go (va_runV (As := [.int (nI a1), .int (nI 1)]) (rest := []) ⟨hx, hb, hml, hown, hts⟩ (c_W_at l dC dI cI (q 3) (q 13) 80 (S.2.1 4) 400 (rowf S.1 10) a1 1 (by omega) (by decide)) (cwV 2 hts (gi_V wd_117 wd_118 wd_119 wd_2 wd_120) rfl rfl rfl (by decide +kernel) ⟨Nat.le_of_ble_eq_true rfl, Nat.le_of_ble_eq_true rfl⟩) (pu_preV hK (hP.sub [3, 13] rfl) (ci := 1) (q0 := 0) rfl rfl) rfl rfl hl.1 rfl (lv_room (Nat.le_of_ble_eq_true rfl)) d_X_deliver_42 ⟨Nat.le_of_ble_eq_true rfl, Nat.le_of_ble_eq_true rfl⟩) ?_
    refine nv_as (nI (S.1 11 a1)) (rowf_at (by decide)) ?_
    have hb2 : S.1 11 a1 ≤ 9 := hB 11 _
    refine lv_aload_n hx hb d_X_deliver_45 rfl (lv_at hl 0 rfl) ?_
    refine va_get (D := (dC, dI)) (ci := 0) (v := .ref (q 1)) (C := R_X) (T := F_X) (N := 12) hx hb hts i_X hown hK hP 0 rfl rfl 0 (by decide) (hts _ wd_57) (fun _ h9 => h9) rfl d_X_deliver_46 ?_
    refine lv_iload_n hx hb d_X_deliver_49 rfl (lv_at hl 2 rfl) ?_
    refine lv_iconst (v := nI 0) hx hb d_X_deliver_50 (by decide) ?_
    refine pu_go (va_runV (As := [.int (nI a2), .int (nI 0)]) (rest := [.int (nI (S.1 11 a1))]) ⟨hx, hb, hml, hown, hts⟩ (c_W_at l dC dI cI (q 1) (q 11) 60 (S.2.1 2) 300 (rowf S.1 0) a2 0 (by omega) (by decide)) (cwV 2 hts (gi_V wd_117 wd_118 wd_119 wd_2 wd_120) rfl rfl rfl (by decide +kernel) ⟨Nat.le_of_ble_eq_true rfl, Nat.le_of_ble_eq_true rfl⟩) (pu_preV hK (hP.sub [1, 11] rfl) (ci := 1) (q0 := 0) rfl rfl) rfl rfl hl.1 rfl (lv_room (Nat.le_of_ble_eq_true rfl)) d_X_deliver_51 ⟨Nat.le_of_ble_eq_true rfl, Nat.le_of_ble_eq_true rfl⟩) ?_
    refine nv_as (nI (S.1 0 a2)) (rowf_at (by decide)) ?_
    have hb3 : S.1 0 a2 ≤ 9 := hB 0 _
    refine nv_ceq (tgt := 67) hx hb (by omega) (by omega) d_X_deliver_54 (by decide) (fun c54 => ?_) (fun c54 => ?_)
    · refine lv_aload_n hx hb d_X_deliver_67 rfl (lv_at hl 0 rfl) ?_
      refine va_get (D := (dC, dI)) (ci := 0) (v := .ref (q 3)) (C := R_X) (T := F_X) (N := 12) hx hb hts i_X hown hK hP 0 rfl rfl 2 (by decide) (hts _ wd_59) (fun _ h9 => h9) rfl d_X_deliver_68 ?_
      refine lv_iload_n hx hb d_X_deliver_71 rfl (lv_at hl 1 rfl) ?_
      refine lv_iconst (v := nI 0) hx hb d_X_deliver_72 (by decide) ?_
      refine pu_go (va_runV (As := [.int (nI a1), .int (nI 0)]) (rest := []) ⟨hx, hb, hml, hown, hts⟩ (c_W_at l dC dI cI (q 3) (q 13) 80 (S.2.1 4) 400 (rowf S.1 10) a1 0 (by omega) (by decide)) (cwV 2 hts (gi_V wd_117 wd_118 wd_119 wd_2 wd_120) rfl rfl rfl (by decide +kernel) ⟨Nat.le_of_ble_eq_true rfl, Nat.le_of_ble_eq_true rfl⟩) (pu_preV hK (hP.sub [3, 13] rfl) (ci := 1) (q0 := 0) rfl rfl) rfl rfl hl.1 rfl (lv_room (Nat.le_of_ble_eq_true rfl)) d_X_deliver_73 ⟨Nat.le_of_ble_eq_true rfl, Nat.le_of_ble_eq_true rfl⟩) ?_
      refine nv_as (nI (S.1 10 a1)) (rowf_at (by decide)) ?_
      have hb4 : S.1 10 a1 ≤ 7 := hB 10 _
      refine lv_istore_n (lv' := [(3, .int (nI (S.1 10 a1))), (0, .ref (q 0)), (1, .int (nI a1)), (2, .int (nI a2))]) hx hb d_X_deliver_76 rfl hl (by decide) rfl (fun ls hl => ?_)
      refine lv_aload_n hx hb d_X_deliver_77 rfl (lv_at hl 1 rfl) ?_
      refine va_get (D := (dC, dI)) (ci := 0) (v := .ref (q 3)) (C := R_X) (T := F_X) (N := 12) hx hb hts i_X hown hK hP 0 rfl rfl 2 (by decide) (hts _ wd_59) (fun _ h9 => h9) rfl d_X_deliver_78 ?_
      refine lv_iload_n hx hb d_X_deliver_81 rfl (lv_at hl 2 rfl) ?_
      refine lv_iconst (v := nI 4) hx hb d_X_deliver_82 (by decide) ?_
      refine lv_iconst (v := nI 0) hx hb d_X_deliver_83 (by decide) ?_
      refine wr_go (va_runV (As := [.int (nI a1), .int (nI 4), .int (nI 0)]) (rest := []) ⟨hx, hb, hml, hown, hts⟩ (c_W_put l dC dI s.heap.size cI (q 3) (q 13) 80 (S.2.1 4) 400 (rowf S.1 10) a1 4 (nI 0) (by omega) (by decide)) (cwV 3 hts (gi_V wd_342 wd_145 wd_146 wd_2 wd_147) rfl rfl rfl (by decide +kernel) ⟨Nat.le_of_ble_eq_true rfl, Nat.le_of_ble_eq_true rfl⟩) (wr_preV hK (hP.sub [3, 13] rfl) (hD.sub [3, 13] (by decide) rfl) (ci := 1) (q0 := 0) rfl rfl) rfl rfl hl.1 rfl (lv_room (Nat.le_of_ble_eq_true rfl)) d_X_deliver_84 ⟨Nat.le_of_ble_eq_true rfl, Nat.le_of_ble_eq_true rfl⟩) hP hD hS hA [3, 13] rfl rfl (wX q cI (S_a S (10 + 4) a1 0)) (wX_r10 (by decide)) rfl (fun H locs hP hD hS => ?_)
      refine W.eq (g2 := F0 m 87 ls []) rfl ?_
      obtain ⟨S1, hS1⟩ : ∃ z : St, z = S_a S (10 + 4) a1 0 := ⟨_, rfl⟩
      rw [← hS1] at hP hD
      have hIS1 : Bd t S1 := by rw [hS1]; exact Bd_a hI (Nat.zero_le _)
      have hBS1 := hIS1.1
      have hg0 : S1.2.1 0 ≤ 8 := hIS1.2.1 0
      have hg1 : S1.2.1 1 ≤ 9999 := hIS1.2.1 1
      have hg2 : S1.2.1 2 ≤ 60 := hIS1.2.1 2
      have hg3 : S1.2.1 3 ≤ 60 := hIS1.2.1 3
      have hg4 : S1.2.1 4 ≤ 80 := hIS1.2.1 4
      have hg5 : S1.2.1 5 ≤ 20 := hIS1.2.1 5
      have hg6 : S1.2.1 6 ≤ 80 := hIS1.2.1 6
      have hg7 : S1.2.1 7 ≤ 10 := hIS1.2.1 7
      have hg8 : t ≤ 512 := hIS1.2.2
      refine lv_aload_n hx hb d_X_deliver_87 rfl (lv_at hl 1 rfl) ?_
      refine lv_iload_n hx hb d_X_deliver_88 rfl (lv_at hl 0 rfl) ?_
      refine lv_iload_n hx hb d_X_deliver_89 rfl (lv_at hl 3 rfl) ?_
      refine lv_aload_n hx hb d_X_deliver_90 rfl (lv_at hl 1 rfl) ?_
      refine va_get (D := (dC, dI)) (ci := 0) (v := .ref (q 3)) (C := R_X) (T := F_X) (N := 12) hx hb hts i_X hown hK hP 0 rfl rfl 2 (by decide) (hts _ wd_59) (fun _ h9 => h9) rfl d_X_deliver_91 ?_
      refine lv_iload_n hx hb d_X_deliver_94 rfl (lv_at hl 2 rfl) ?_
      refine lv_iconst (v := nI 2) hx hb d_X_deliver_95 (by decide) ?_
      refine pu_go (va_runV (As := [.int (nI a1), .int (nI 2)]) (rest := [.int (nI a2), .int (nI (S.1 10 a1)), .ref (q 0)]) ⟨hx, hb, hml, hown, hts⟩ (c_W_at l dC dI cI (q 3) (q 13) 80 (S1.2.1 4) 400 (rowf S1.1 10) a1 2 (by omega) (by decide)) (cwV 2 hts (gi_V wd_117 wd_118 wd_119 wd_2 wd_120) rfl rfl rfl (by decide +kernel) ⟨Nat.le_of_ble_eq_true rfl, Nat.le_of_ble_eq_true rfl⟩) (pu_preV hK (hP.sub [3, 13] rfl) (ci := 1) (q0 := 0) rfl rfl) rfl rfl hl.1 rfl (lv_room (Nat.le_of_ble_eq_true rfl)) d_X_deliver_96 ⟨Nat.le_of_ble_eq_true rfl, Nat.le_of_ble_eq_true rfl⟩) ?_
      refine nv_as (nI (S1.1 12 a1)) (rowf_at (by decide)) ?_
      have hb5 : S1.1 12 a1 ≤ 9999 := hBS1 12 _
      have r12 : S1.1 12 a1 = S.1 12 a1 := by rw [hS1]; rfl
      refine wr_goA (va_runV (As := [.int (nI (S.1 10 a1)), .int (nI a2), .int (nI (S1.1 12 a1))]) (rest := []) ⟨hx, hb, hml, hown, hts⟩ (c_X_addUpToMost l dC dI H.size cI q S1 t hIS1 (S.1 10 a1) a2 (S1.1 12 a1) (by omega) (by omega) (by omega)) (cwV 3 hts (gi_V wd_343 wd_345 wp_13 wd_1 wd_346) rfl rfl rfl (by decide +kernel) ⟨Nat.le_of_ble_eq_true rfl, Nat.le_of_ble_eq_true rfl⟩) (wr_preV hK hP hD (ci := 0) (q0 := 0) rfl rfl) rfl rfl hl.1 rfl (lv_room (Nat.le_of_ble_eq_true rfl)) d_X_deliver_99 ⟨Nat.le_of_ble_eq_true rfl, Nat.le_of_ble_eq_true rfl⟩) hD hS hA wX_adr (fun H locs hP hD hS => ?_)
      refine W.eq (g2 := F0 m 102 ls []) rfl ?_
      obtain ⟨S2, hS2⟩ : ∃ z : St, z = addUp S1 (S.1 10 a1) a2 (S1.1 12 a1) := ⟨_, rfl⟩
      rw [← hS2] at hP hD
      refine lv_aload_n hx hb d_X_deliver_102 rfl (lv_at hl 1 rfl) ?_
      refine va_get (D := (dC, dI)) (ci := 0) (v := .ref (q 7)) (C := R_X) (T := F_X) (N := 12) hx hb hts i_X hown hK hP 0 rfl rfl 6 (by decide) (hts _ wd_63) (fun _ h9 => h9) rfl d_X_deliver_103 ?_
      refine lv_iload_n hx hb d_X_deliver_106 rfl (lv_at hl 0 rfl) ?_
      refine lv_iload_n hx hb d_X_deliver_107 rfl (lv_at hl 3 rfl) ?_
      refine pu_go (va_runS (As := [.int (nI (S.1 10 a1)), .int (nI a2)]) (rest := [.ref (q 7)]) ⟨hx, hb, hml, hown, hts⟩ (c_X_place l dC dI (S.1 10 a1) a2) (cwS 2 hts (gi_S wd_125 wd_126 wd_1 wd_127) rfl rfl rfl (by decide +kernel) ⟨Nat.le_of_ble_eq_true rfl, Nat.le_of_ble_eq_true rfl⟩) (pu_preS (hK.sub (tys' := []) [] rfl) (fun k q h => by simp at h)) rfl rfl hl.1 rfl (lv_room (Nat.le_of_ble_eq_true rfl)) d_X_deliver_108 ⟨Nat.le_of_ble_eq_true rfl, Nat.le_of_ble_eq_true rfl⟩) ?_
      refine nv_iald (v := nI (S2.1 25 ((S.1 10 a1) * 60 + a2))) hx hb hK hP 7 0 rfl rfl (by omega) (by decide) rfl d_X_deliver_111 ?_
      have ho : op_deliver S (nI a1) (nI a2) = (0, nI (min 9999 (S.1 25 (S.1 10 a1 * 60 + a2) + S.1 12 a1)), addUp (S_a S 14 a1 0) (S.1 10 a1) a2 (S.1 12 a1)) := by simp only [op_deliver, ma1, if_pos p5, ma2, if_pos p10, if_pos c23, if_pos c54]
      rw [ho]
      refine nv_as (nI (min 9999 (S.1 25 (S.1 10 a1 * 60 + a2) + S.1 12 a1))) (by rw [hS2, hS1]; exact congrArg nI Sa_s) ?_
      refine W.widen (k := 3) (n := 18) (Nat.le_of_ble_eq_true rfl) (Nat.le_of_ble_eq_true rfl) ?_
      have hP9 : va_P (dC, dI) classes (wX q cI (addUp (S_a S 14 a1 0) (S.1 10 a1) a2 (S.1 12 a1))) H := by rw [hS2, hS1] at hP; exact hP
      exact vx_ret (W.iret hx hb hr (fun t ht hW => ⟨rfl, rfl, by rw [ht]; exact hP9, hS.F ht⟩) hS.2.2 d_X_deliver_112)
    · exact x_throw (A := A0) hx hb hst hown hts hG ex_is sx_147 hnt (hl.1.trans hml.symm) hlocks d_X_deliver_57 d_X_deliver_60 d_X_deliver_61 d_X_deliver_63 d_X_deliver_66 (Nat.le_of_ble_eq_true rfl) (Nat.le_of_ble_eq_true rfl) (Nat.le_of_ble_eq_true rfl) (Nat.le_of_ble_eq_true rfl) (Nat.le_of_ble_eq_true rfl) (Nat.le_of_ble_eq_true rfl) (fun t h1 h2 => ⟨by simp only [op_deliver, ma1, if_pos p5, ma2, if_pos p10, if_pos c23, if_neg c54]; decide, by simp only [op_deliver, ma1, if_pos p5, ma2, if_pos p10, if_pos c23, if_neg c54]; rfl, h1, h2⟩)
  · exact x_throw (A := A0) hx hb hst hown hts hG ex_is sx_145 hnt (hl.1.trans hml.symm) hlocks d_X_deliver_26 d_X_deliver_29 d_X_deliver_30 d_X_deliver_32 d_X_deliver_35 (Nat.le_of_ble_eq_true rfl) (Nat.le_of_ble_eq_true rfl) (Nat.le_of_ble_eq_true rfl) (Nat.le_of_ble_eq_true rfl) (Nat.le_of_ble_eq_true rfl) (Nat.le_of_ble_eq_true rfl) (fun t h1 h2 => ⟨by simp only [op_deliver, ma1, if_pos p5, ma2, if_pos p10, if_neg c23]; decide, by simp only [op_deliver, ma1, if_pos p5, ma2, if_pos p10, if_neg c23]; rfl, h1, h2⟩)
set_option maxHeartbeats 4000000 in
set_option maxRecDepth 100000 in
theorem c_X_second (l : Launch) (hst : l.stackTraces = false) (dC : Nat → ClassId) (dI : Nat → Nat → Nat) (A0 : Nat → Prop) (sz : Nat) (cI : ClassId) (q : Nat → Nat) (S : St) (t : Nat) (hI : Bd t S) (x y : Int32) : vx_Met l y_X_second (.code y_X_second b_X_second 3 (some .int) :: bg) { frames := 8, cells := 4, slots := 24, locals := 132 } (xo_P (dC, dI) classes [(cI, .int)] A0 (wX q cI S) sz [.ref (q 0), .int x, .int y]) (xo_Q (op_second S x y) (some (.int (op_second S x y).2.1)) (dC, dI) classes (wX q cI (op_second S x y).2.2) (va_A (wX q cI S) sz)) (xo_X (op_second S x y) [E_ia, E_is, E_uo]) 4 24 (va_A (wX q cI S) sz) := by
  refine vx_ofW (cc := b_X_second) (maxL := 3) (ret := (some .int)) (by decide) rfl ?_
  intro p e s m args below meth c s₁ B hml hnt hv
  obtain ⟨rfl, hsz, hP, hK, hD0, hG⟩ := hv
  subst hsz
  have hD := hD0.self (sz := s.heap.size)
  generalize hAe : va_A (wX q cI S) s.heap.size = A at hD ⊢
  have hA : ∀ q : Nat, s.heap.size ≤ q → A q := fun q h => by rw [← hAe]; exact Or.inr h
  have hS : va_S A s.heap s.heap [] := va_S.rf
  have hx := B.exec
  have hb := B.bytes
  have hr := B.returns
  have hts := fun w (h : w ∈ bg) => atoms_spec (ws := .code y_X_second b_X_second 3 (some .int) :: bg) B.pre w (List.mem_cons_of_mem _ h)
  have hown : s.vm.findClass R_X = some m.cls := findClass_of_methodNamed B.named
  have hlocks := B.notSynchronized
  have hl := lv_entry ([.ref (q 0), .int x, .int y]) (n := 3) (Nat.le_of_ble_eq_true rfl)
  rw [lg_entry_eq]
  generalize (lg_sl ([.ref (q 0), .int x, .int y]) ++ List.replicate (3 - (lg_sl ([.ref (q 0), .int x, .int y])).length) Slot.unset).toArray = ls at hl ⊢
  have hl : lv_has ls 3 [(0, .ref (q 0)), (1, .int x), (2, .int y)] := hl
  have hB := hI.1
  have hg0 : S.2.1 0 ≤ 8 := hI.2.1 0
  have hg1 : S.2.1 1 ≤ 9999 := hI.2.1 1
  have hg2 : S.2.1 2 ≤ 60 := hI.2.1 2
  have hg3 : S.2.1 3 ≤ 60 := hI.2.1 3
  have hg4 : S.2.1 4 ≤ 80 := hI.2.1 4
  have hg5 : S.2.1 5 ≤ 20 := hI.2.1 5
  have hg6 : S.2.1 6 ≤ 80 := hI.2.1 6
  have hg7 : S.2.1 7 ≤ 10 := hI.2.1 7
  have hg8 : t ≤ 512 := hI.2.2
  refine lv_aload_n hx hb d_X_second_0 rfl (lv_at hl 0 rfl) ?_
  refine va_get (D := (dC, dI)) (ci := 0) (v := .ref (q 4)) (C := R_X) (T := F_X) (N := 12) hx hb hts i_X hown hK hP 0 rfl rfl 3 (by decide) (hts _ wd_60) (fun _ h9 => h9) rfl d_X_second_1 ?_
  refine lv_iload_n hx hb d_X_second_4 rfl (lv_at hl 1 rfl) ?_
  refine nd_go (vx_runS (As := [.ref (q 4), .int x]) (rest := []) ⟨hx, hb, hml, hown, hts⟩ (c_X_needRow l hst dC dI A0 cI (q 4) (q 14) 20 (S.2.1 5) 100 (rowf S.1 15) x (by omega)) (cwS 2 hts (gi_S wd_292 wd_293 wd_1 wd_294) rfl rfl rfl (by decide +kernel) ⟨Nat.le_of_ble_eq_true rfl, Nat.le_of_ble_eq_true rfl⟩) (nd_preS hK (hP.sub [4, 14] rfl) hG) rfl rfl hl.1 rfl (lv_room (Nat.le_of_ble_eq_true rfl)) d_X_second_5 ⟨Nat.le_of_ble_eq_true rfl, Nat.le_of_ble_eq_true rfl⟩) (fun p5 ce q9 H1 h1 h2 h3 h4 h5 => vx_out (fun x hx => (hnt x hx).elim) hlocks h3 h4 h5 (fun t ht hv => ⟨by simp only [op_second, if_neg p5]; decide, by simp only [op_second, if_neg p5]; rfl, by rw [ht]; exact h1, fun z hz => by rw [ht]; exact h2 z hz⟩) (fun q h => nomatch h) (Nat.le_of_ble_eq_true rfl) (Nat.le_of_ble_eq_true rfl)) (fun p5 => ?_)
  obtain ⟨a1, ha1, rfl⟩ := ok_ex p5
  have ma1 : nn (nI a1) = a1 := nn_of (by omega)
  refine lv_iload_n hx hb d_X_second_8 rfl (lv_at hl 2 rfl) ?_
  refine nd_go (vx_runS (As := [.int y]) (rest := []) ⟨hx, hb, hml, hown, hts⟩ (c_X_needPerson l hst dC dI A0 y) (cwS 1 hts (gi_S wd_422 wd_423 wd_1 wd_424) rfl rfl rfl (by decide +kernel) ⟨Nat.le_of_ble_eq_true rfl, Nat.le_of_ble_eq_true rfl⟩) (nd_preS (hK.sub (tys' := []) [] rfl) (fun k q h => by simp at h) hG) rfl rfl hl.1 rfl (lv_room (Nat.le_of_ble_eq_true rfl)) d_X_second_9 ⟨Nat.le_of_ble_eq_true rfl, Nat.le_of_ble_eq_true rfl⟩) (fun p9 ce q9 H1 h1 h2 h3 h4 h5 => vx_out (fun x hx => (hnt x hx).elim) hlocks h3 h4 h5 (fun t ht hv => ⟨by simp only [op_second, ma1, if_pos p5, if_neg p9]; decide, by simp only [op_second, ma1, if_pos p5, if_neg p9]; rfl, by rw [ht]; exact h1, fun z hz => by rw [ht]; exact h2 z hz⟩) (fun q h => nomatch h) (Nat.le_of_ble_eq_true rfl) (Nat.le_of_ble_eq_true rfl)) (fun p9 => ?_)
  obtain ⟨a2, ha2, rfl⟩ := ok_ex p9
  have ma2 : nn (nI a2) = a2 := nn_of (by omega)
  refine lv_aload_n hx hb d_X_second_12 rfl (lv_at hl 0 rfl) ?_
  refine va_get (D := (dC, dI)) (ci := 0) (v := .ref (q 4)) (C := R_X) (T := F_X) (N := 12) hx hb hts i_X hown hK hP 0 rfl rfl 3 (by decide) (hts _ wd_60) (fun _ h9 => h9) rfl d_X_second_13 ?_
  refine lv_iload_n hx hb d_X_second_16 rfl (lv_at hl 1 rfl) ?_
  refine lv_iconst (v := nI 4) hx hb d_X_second_17 (by decide) ?_
  refine pu_go (va_runV (As := [.int (nI a1), .int (nI 4)]) (rest := []) ⟨hx, hb, hml, hown, hts⟩ (c_W_at l dC dI cI (q 4) (q 14) 20 (S.2.1 5) 100 (rowf S.1 15) a1 4 (by omega) (by decide)) (cwV 2 hts (gi_V wd_117 wd_118 wd_119 wd_2 wd_120) rfl rfl rfl (by decide +kernel) ⟨Nat.le_of_ble_eq_true rfl, Nat.le_of_ble_eq_true rfl⟩) (pu_preV hK (hP.sub [4, 14] rfl) (ci := 1) (q0 := 0) rfl rfl) rfl rfl hl.1 rfl (lv_room (Nat.le_of_ble_eq_true rfl)) d_X_second_18 ⟨Nat.le_of_ble_eq_true rfl, Nat.le_of_ble_eq_true rfl⟩) ?_
  refine nv_as (nI (S.1 19 a1)) (rowf_at (by decide)) ?_
  have hb1 : S.1 19 a1 ≤ 1 := hB 19 _
  refine lv_iconst (v := nI 1) hx hb d_X_second_21 (by decide) ?_
  refine nv_ceq (tgt := 35) hx hb (by omega) (by omega) d_X_second_22 (by decide) (fun c22 => ?_) (fun c22 => ?_)
  · refine lv_aload_n hx hb d_X_second_35 rfl (lv_at hl 0 rfl) ?_
    refine va_get (D := (dC, dI)) (ci := 0) (v := .ref (q 4)) (C := R_X) (T := F_X) (N := 12) hx hb hts i_X hown hK hP 0 rfl rfl 3 (by decide) (hts _ wd_60) (fun _ h9 => h9) rfl d_X_second_36 ?_
    refine lv_iload_n hx hb d_X_second_39 rfl (lv_at hl 1 rfl) ?_
    refine lv_iconst (v := nI 3) hx hb d_X_second_40 (by decide) ?_
    refine pu_go (va_runV (As := [.int (nI a1), .int (nI 3)]) (rest := []) ⟨hx, hb, hml, hown, hts⟩ (c_W_at l dC dI cI (q 4) (q 14) 20 (S.2.1 5) 100 (rowf S.1 15) a1 3 (by omega) (by decide)) (cwV 2 hts (gi_V wd_117 wd_118 wd_119 wd_2 wd_120) rfl rfl rfl (by decide +kernel) ⟨Nat.le_of_ble_eq_true rfl, Nat.le_of_ble_eq_true rfl⟩) (pu_preV hK (hP.sub [4, 14] rfl) (ci := 1) (q0 := 0) rfl rfl) rfl rfl hl.1 rfl (lv_room (Nat.le_of_ble_eq_true rfl)) d_X_second_41 ⟨Nat.le_of_ble_eq_true rfl, Nat.le_of_ble_eq_true rfl⟩) ?_
    refine nv_as (nI (S.1 18 a1)) (rowf_at (by decide)) ?_
    have hb2 : S.1 18 a1 ≤ 19 := hB 18 _
    refine lv_iload_n hx hb d_X_second_44 rfl (lv_at hl 2 rfl) ?_
    refine nv_cne (tgt := 58) hx hb (by omega) (by omega) d_X_second_45 (by decide) (fun c45 => ?_) (fun c45 => ?_)
    · refine lv_aload_n hx hb d_X_second_58 rfl (lv_at hl 0 rfl) ?_
      refine va_get (D := (dC, dI)) (ci := 0) (v := .ref (q 3)) (C := R_X) (T := F_X) (N := 12) hx hb hts i_X hown hK hP 0 rfl rfl 2 (by decide) (hts _ wd_59) (fun _ h9 => h9) rfl d_X_second_59 ?_
      refine nd_go (vx_runS (As := [.ref (q 3)]) (rest := []) ⟨hx, hb, hml, hown, hts⟩ (c_X_needRoom l hst dC dI A0 cI (q 3) (q 13) 80 (S.2.1 4) 400 (rowf S.1 10) (by omega) (by omega)) (cwS 1 hts (gi_S wd_272 wd_273 wd_1 wd_274) rfl rfl rfl (by decide +kernel) ⟨Nat.le_of_ble_eq_true rfl, Nat.le_of_ble_eq_true rfl⟩) (nd_preS hK (hP.sub [3, 13] rfl) hG) rfl rfl hl.1 rfl (lv_room (Nat.le_of_ble_eq_true rfl)) d_X_second_62 ⟨Nat.le_of_ble_eq_true rfl, Nat.le_of_ble_eq_true rfl⟩) (fun p62 ce q9 H1 h1 h2 h3 h4 h5 => vx_out (fun x hx => (hnt x hx).elim) hlocks h3 h4 h5 (fun t ht hv => ⟨by simp only [op_second, ma1, if_pos p5, ma2, if_pos p9, if_pos c22, if_pos c45, if_neg p62]; decide, by simp only [op_second, ma1, if_pos p5, ma2, if_pos p9, if_pos c22, if_pos c45, if_neg p62]; rfl, by rw [ht]; exact h1, fun z hz => by rw [ht]; exact h2 z hz⟩) (fun q h => nomatch h) (Nat.le_of_ble_eq_true rfl) (Nat.le_of_ble_eq_true rfl)) (fun p62 => ?_)
      refine lv_aload_n hx hb d_X_second_65 rfl (lv_at hl 0 rfl) ?_
      refine va_get (D := (dC, dI)) (ci := 0) (v := .ref (q 4)) (C := R_X) (T := F_X) (N := 12) hx hb hts i_X hown hK hP 0 rfl rfl 3 (by decide) (hts _ wd_60) (fun _ h9 => h9) rfl d_X_second_66 ?_
      refine lv_iload_n hx hb d_X_second_69 rfl (lv_at hl 1 rfl) ?_
      refine lv_iconst (v := nI 4) hx hb d_X_second_70 (by decide) ?_
      refine lv_iconst (v := nI 0) hx hb d_X_second_71 (by decide) ?_
      refine wr_go (va_runV (As := [.int (nI a1), .int (nI 4), .int (nI 0)]) (rest := []) ⟨hx, hb, hml, hown, hts⟩ (c_W_put l dC dI s.heap.size cI (q 4) (q 14) 20 (S.2.1 5) 100 (rowf S.1 15) a1 4 (nI 0) (by omega) (by decide)) (cwV 3 hts (gi_V wd_342 wd_145 wd_146 wd_2 wd_147) rfl rfl rfl (by decide +kernel) ⟨Nat.le_of_ble_eq_true rfl, Nat.le_of_ble_eq_true rfl⟩) (wr_preV hK (hP.sub [4, 14] rfl) (hD.sub [4, 14] (by decide) rfl) (ci := 1) (q0 := 0) rfl rfl) rfl rfl hl.1 rfl (lv_room (Nat.le_of_ble_eq_true rfl)) d_X_second_72 ⟨Nat.le_of_ble_eq_true rfl, Nat.le_of_ble_eq_true rfl⟩) hP hD hS hA [4, 14] rfl rfl (wX q cI (S_a S (15 + 4) a1 0)) (wX_r15 (by decide)) rfl (fun H locs hP hD hS => ?_)
      refine W.eq (g2 := F0 m 75 ls []) rfl ?_
      obtain ⟨S1, hS1⟩ : ∃ z : St, z = S_a S (15 + 4) a1 0 := ⟨_, rfl⟩
      rw [← hS1] at hP hD
      have hIS1 : Bd t S1 := by rw [hS1]; exact Bd_a hI (Nat.zero_le _)
      have hBS1 := hIS1.1
      have hg0 : S1.2.1 0 ≤ 8 := hIS1.2.1 0
      have hg1 : S1.2.1 1 ≤ 9999 := hIS1.2.1 1
      have hg2 : S1.2.1 2 ≤ 60 := hIS1.2.1 2
      have hg3 : S1.2.1 3 ≤ 60 := hIS1.2.1 3
      have hg4 : S1.2.1 4 ≤ 80 := hIS1.2.1 4
      have hg5 : S1.2.1 5 ≤ 20 := hIS1.2.1 5
      have hg6 : S1.2.1 6 ≤ 80 := hIS1.2.1 6
      have hg7 : S1.2.1 7 ≤ 10 := hIS1.2.1 7
      have hg8 : t ≤ 512 := hIS1.2.2
      have r4 : S1.2.1 4 = S.2.1 4 := by rw [hS1]; rfl
      refine lv_aload_n hx hb d_X_second_75 rfl (lv_at hl 0 rfl) ?_
      refine lv_aload_n hx hb d_X_second_76 rfl (lv_at hl 0 rfl) ?_
      refine va_get (D := (dC, dI)) (ci := 0) (v := .ref (q 4)) (C := R_X) (T := F_X) (N := 12) hx hb hts i_X hown hK hP 0 rfl rfl 3 (by decide) (hts _ wd_60) (fun _ h9 => h9) rfl d_X_second_77 ?_
      refine lv_iload_n hx hb d_X_second_80 rfl (lv_at hl 1 rfl) ?_
      refine lv_iconst (v := nI 0) hx hb d_X_second_81 (by decide) ?_
      refine pu_go (va_runV (As := [.int (nI a1), .int (nI 0)]) (rest := [.ref (q 0)]) ⟨hx, hb, hml, hown, hts⟩ (c_W_at l dC dI cI (q 4) (q 14) 20 (S1.2.1 5) 100 (rowf S1.1 15) a1 0 (by omega) (by decide)) (cwV 2 hts (gi_V wd_117 wd_118 wd_119 wd_2 wd_120) rfl rfl rfl (by decide +kernel) ⟨Nat.le_of_ble_eq_true rfl, Nat.le_of_ble_eq_true rfl⟩) (pu_preV hK (hP.sub [4, 14] rfl) (ci := 1) (q0 := 0) rfl rfl) rfl rfl hl.1 rfl (lv_room (Nat.le_of_ble_eq_true rfl)) d_X_second_82 ⟨Nat.le_of_ble_eq_true rfl, Nat.le_of_ble_eq_true rfl⟩) ?_
      refine nv_as (nI (S1.1 15 a1)) (rowf_at (by decide)) ?_
      have hb3 : S1.1 15 a1 ≤ 7 := hBS1 15 _
      refine lv_aload_n hx hb d_X_second_85 rfl (lv_at hl 0 rfl) ?_
      refine va_get (D := (dC, dI)) (ci := 0) (v := .ref (q 4)) (C := R_X) (T := F_X) (N := 12) hx hb hts i_X hown hK hP 0 rfl rfl 3 (by decide) (hts _ wd_60) (fun _ h9 => h9) rfl d_X_second_86 ?_
      refine lv_iload_n hx hb d_X_second_89 rfl (lv_at hl 1 rfl) ?_
      refine lv_iconst (v := nI 1) hx hb d_X_second_90 (by decide) ?_
      refine pu_go (va_runV (As := [.int (nI a1), .int (nI 1)]) (rest := [.int (nI (S1.1 15 a1)), .ref (q 0)]) ⟨hx, hb, hml, hown, hts⟩ (c_W_at l dC dI cI (q 4) (q 14) 20 (S1.2.1 5) 100 (rowf S1.1 15) a1 1 (by omega) (by decide)) (cwV 2 hts (gi_V wd_117 wd_118 wd_119 wd_2 wd_120) rfl rfl rfl (by decide +kernel) ⟨Nat.le_of_ble_eq_true rfl, Nat.le_of_ble_eq_true rfl⟩) (pu_preV hK (hP.sub [4, 14] rfl) (ci := 1) (q0 := 0) rfl rfl) rfl rfl hl.1 rfl (lv_room (Nat.le_of_ble_eq_true rfl)) d_X_second_91 ⟨Nat.le_of_ble_eq_true rfl, Nat.le_of_ble_eq_true rfl⟩) ?_
      refine nv_as (nI (S1.1 16 a1)) (rowf_at (by decide)) ?_
      have hb4 : S1.1 16 a1 ≤ 9 := hBS1 16 _
      refine lv_aload_n hx hb d_X_second_94 rfl (lv_at hl 0 rfl) ?_
      refine va_get (D := (dC, dI)) (ci := 0) (v := .ref (q 4)) (C := R_X) (T := F_X) (N := 12) hx hb hts i_X hown hK hP 0 rfl rfl 3 (by decide) (hts _ wd_60) (fun _ h9 => h9) rfl d_X_second_95 ?_
      refine lv_iload_n hx hb d_X_second_98 rfl (lv_at hl 1 rfl) ?_
      refine lv_iconst (v := nI 2) hx hb d_X_second_99 (by decide) ?_
      refine pu_go (va_runV (As := [.int (nI a1), .int (nI 2)]) (rest := [.int (nI (S1.1 16 a1)), .int (nI (S1.1 15 a1)), .ref (q 0)]) ⟨hx, hb, hml, hown, hts⟩ (c_W_at l dC dI cI (q 4) (q 14) 20 (S1.2.1 5) 100 (rowf S1.1 15) a1 2 (by omega) (by decide)) (cwV 2 hts (gi_V wd_117 wd_118 wd_119 wd_2 wd_120) rfl rfl rfl (by decide +kernel) ⟨Nat.le_of_ble_eq_true rfl, Nat.le_of_ble_eq_true rfl⟩) (pu_preV hK (hP.sub [4, 14] rfl) (ci := 1) (q0 := 0) rfl rfl) rfl rfl hl.1 rfl (lv_room (Nat.le_of_ble_eq_true rfl)) d_X_second_100 ⟨Nat.le_of_ble_eq_true rfl, Nat.le_of_ble_eq_true rfl⟩) ?_
      refine nv_as (nI (S1.1 17 a1)) (rowf_at (by decide)) ?_
      have hb5 : S1.1 17 a1 ≤ 9999 := hBS1 17 _
      refine wr_goA (va_runV (As := [.int (nI (S1.1 15 a1)), .int (nI (S1.1 16 a1)), .int (nI (S1.1 17 a1))]) (rest := []) ⟨hx, hb, hml, hown, hts⟩ (c_X_addOrder l dC dI H.size cI q S1 t hIS1 (S1.1 15 a1) (S1.1 16 a1) (S1.1 17 a1) (by omega)) (cwV 3 hts (gi_V wd_136 wd_138 wp_5 wd_1 wd_139) rfl rfl rfl (by decide +kernel) ⟨Nat.le_of_ble_eq_true rfl, Nat.le_of_ble_eq_true rfl⟩) (wr_preV hK hP hD (ci := 0) (q0 := 0) rfl rfl) rfl rfl hl.1 rfl (lv_room (Nat.le_of_ble_eq_true rfl)) d_X_second_103 ⟨Nat.le_of_ble_eq_true rfl, Nat.le_of_ble_eq_true rfl⟩) hD hS hA wX_adr (fun H locs hP hD hS => ?_)
      refine W.eq (g2 := F0 m 106 ls [.int (nI (S1.2.1 4))]) rfl ?_
      obtain ⟨S2, hS2⟩ : ∃ z : St, z = addOrd S1 (S1.1 15 a1) (S1.1 16 a1) (S1.1 17 a1) := ⟨_, rfl⟩
      rw [← hS2] at hP hD
      have ho : op_second S (nI a1) (nI a2) = (0, nI (S.2.1 4), addOrd (S_a S 19 a1 0) (S.1 15 a1) (S.1 16 a1) (S.1 17 a1)) := by simp only [op_second, ma1, if_pos p5, ma2, if_pos p9, if_pos c22, if_pos c45, if_pos p62]
      rw [ho]
      refine nv_as (nI (S.2.1 4)) (by rw [r4]) ?_
      refine W.widen (k := 4) (n := 24) (Nat.le_of_ble_eq_true rfl) (Nat.le_of_ble_eq_true rfl) ?_
      have hP9 : va_P (dC, dI) classes (wX q cI (addOrd (S_a S 19 a1 0) (S.1 15 a1) (S.1 16 a1) (S.1 17 a1))) H := by rw [hS2, hS1] at hP; exact hP
      exact vx_ret (W.iret hx hb hr (fun t ht hW => ⟨rfl, rfl, by rw [ht]; exact hP9, hS.F ht⟩) hS.2.2 d_X_second_106)
    · exact x_throw (A := A0) hx hb hst hown hts hG ex_is sx_160 hnt (hl.1.trans hml.symm) hlocks d_X_second_48 d_X_second_51 d_X_second_52 d_X_second_54 d_X_second_57 (Nat.le_of_ble_eq_true rfl) (Nat.le_of_ble_eq_true rfl) (Nat.le_of_ble_eq_true rfl) (Nat.le_of_ble_eq_true rfl) (Nat.le_of_ble_eq_true rfl) (Nat.le_of_ble_eq_true rfl) (fun t h1 h2 => ⟨by simp only [op_second, ma1, if_pos p5, ma2, if_pos p9, if_pos c22, if_neg (show ¬ S.1 18 a1 ≠ a2 from fun h => h c45)]; decide, by simp only [op_second, ma1, if_pos p5, ma2, if_pos p9, if_pos c22, if_neg (show ¬ S.1 18 a1 ≠ a2 from fun h => h c45)]; rfl, h1, h2⟩)
  · exact x_throw (A := A0) hx hb hst hown hts hG ex_is sx_158 hnt (hl.1.trans hml.symm) hlocks d_X_second_25 d_X_second_28 d_X_second_29 d_X_second_31 d_X_second_34 (Nat.le_of_ble_eq_true rfl) (Nat.le_of_ble_eq_true rfl) (Nat.le_of_ble_eq_true rfl) (Nat.le_of_ble_eq_true rfl) (Nat.le_of_ble_eq_true rfl) (Nat.le_of_ble_eq_true rfl) (fun t h1 h2 => ⟨by simp only [op_second, ma1, if_pos p5, ma2, if_pos p9, if_neg c22]; decide, by simp only [op_second, ma1, if_pos p5, ma2, if_pos p9, if_neg c22]; rfl, h1, h2⟩)
set_option maxHeartbeats 4000000 in
set_option maxRecDepth 100000 in
theorem c_X_back (l : Launch) (hst : l.stackTraces = false) (dC : Nat → ClassId) (dI : Nat → Nat → Nat) (A0 : Nat → Prop) (sz : Nat) (cI : ClassId) (q : Nat → Nat) (S : St) (t : Nat) (hI : Bd t S) (x y n : Int32) : vx_Met l y_X_back (.code y_X_back b_X_back 4 (some .boolean) :: bg) { frames := 8, cells := 4, slots := 24, locals := 132 } (xo_P (dC, dI) classes [(cI, .int)] A0 (wX q cI S) sz [.ref (q 0), .int x, .int y, .int n]) (xo_Q (op_back S x y n) (some (.int (op_back S x y n).2.1)) (dC, dI) classes (wX q cI (op_back S x y n).2.2) (va_A (wX q cI S) sz)) (xo_X (op_back S x y n) [E_ia, E_io, E_uo]) 4 24 (va_A (wX q cI S) sz) := by
  refine vx_ofW (cc := b_X_back) (maxL := 4) (ret := (some .boolean)) (by decide) rfl ?_
  intro p e s m args below meth c s₁ B hml hnt hv
  obtain ⟨rfl, hsz, hP, hK, hD0, hG⟩ := hv
  subst hsz
  have hD := hD0.self (sz := s.heap.size)
  generalize hAe : va_A (wX q cI S) s.heap.size = A at hD ⊢
  have hA : ∀ q : Nat, s.heap.size ≤ q → A q := fun q h => by rw [← hAe]; exact Or.inr h
  have hS : va_S A s.heap s.heap [] := va_S.rf
  have hx := B.exec
  have hb := B.bytes
  have hr := B.returns
  have hts := fun w (h : w ∈ bg) => atoms_spec (ws := .code y_X_back b_X_back 4 (some .boolean) :: bg) B.pre w (List.mem_cons_of_mem _ h)
  have hown : s.vm.findClass R_X = some m.cls := findClass_of_methodNamed B.named
  have hlocks := B.notSynchronized
  have hl := lv_entry ([.ref (q 0), .int x, .int y, .int n]) (n := 4) (Nat.le_of_ble_eq_true rfl)
  rw [lg_entry_eq]
  generalize (lg_sl ([.ref (q 0), .int x, .int y, .int n]) ++ List.replicate (4 - (lg_sl ([.ref (q 0), .int x, .int y, .int n])).length) Slot.unset).toArray = ls at hl ⊢
  have hl : lv_has ls 4 [(0, .ref (q 0)), (1, .int x), (2, .int y), (3, .int n)] := hl
  have hB := hI.1
  have hg0 : S.2.1 0 ≤ 8 := hI.2.1 0
  have hg1 : S.2.1 1 ≤ 9999 := hI.2.1 1
  have hg2 : S.2.1 2 ≤ 60 := hI.2.1 2
  have hg3 : S.2.1 3 ≤ 60 := hI.2.1 3
  have hg4 : S.2.1 4 ≤ 80 := hI.2.1 4
  have hg5 : S.2.1 5 ≤ 20 := hI.2.1 5
  have hg6 : S.2.1 6 ≤ 80 := hI.2.1 6
  have hg7 : S.2.1 7 ≤ 10 := hI.2.1 7
  have hg8 : t ≤ 512 := hI.2.2
  refine lv_aload_n hx hb d_X_back_0 rfl (lv_at hl 0 rfl) ?_
  refine lv_iload_n hx hb d_X_back_1 rfl (lv_at hl 1 rfl) ?_
  refine nd_go (vx_runV (As := [.int x]) (rest := []) ⟨hx, hb, hml, hown, hts⟩ (c_X_needStore l hst dC dI A0 cI q S t hI x) (cwV 1 hts (gi_V wd_283 wd_285 wp_7 wd_1 wd_286) rfl rfl rfl (by decide +kernel) ⟨Nat.le_of_ble_eq_true rfl, Nat.le_of_ble_eq_true rfl⟩) (nd_preV hK hP hG (ci := 0) (q0 := 0) rfl rfl) rfl rfl hl.1 rfl (lv_room (Nat.le_of_ble_eq_true rfl)) d_X_back_2 ⟨Nat.le_of_ble_eq_true rfl, Nat.le_of_ble_eq_true rfl⟩) (fun p2 ce q9 H1 h1 h2 h3 h4 h5 => vx_out (fun x hx => (hnt x hx).elim) hlocks h3 h4 h5 (fun t ht hv => ⟨by simp only [op_back, if_neg p2]; decide, by simp only [op_back, if_neg p2]; rfl, by rw [ht]; exact h1, fun z hz => by rw [ht]; exact h2 z hz⟩) (fun q h => nomatch h) (Nat.le_of_ble_eq_true rfl) (Nat.le_of_ble_eq_true rfl)) (fun p2 => ?_)
  obtain ⟨a1, ha1, rfl⟩ := ok_ex p2
  have ma1 : nn (nI a1) = a1 := nn_of (by omega)
  refine lv_aload_n hx hb d_X_back_5 rfl (lv_at hl 0 rfl) ?_
  refine lv_iload_n hx hb d_X_back_6 rfl (lv_at hl 2 rfl) ?_
  refine nd_go (vx_runV (As := [.int y]) (rest := []) ⟨hx, hb, hml, hown, hts⟩ (c_X_needLot l hst dC dI A0 cI q S t hI y) (cwV 1 hts (gi_V wd_288 wd_290 wp_8 wd_1 wd_291) rfl rfl rfl (by decide +kernel) ⟨Nat.le_of_ble_eq_true rfl, Nat.le_of_ble_eq_true rfl⟩) (nd_preV hK hP hG (ci := 0) (q0 := 0) rfl rfl) rfl rfl hl.1 rfl (lv_room (Nat.le_of_ble_eq_true rfl)) d_X_back_7 ⟨Nat.le_of_ble_eq_true rfl, Nat.le_of_ble_eq_true rfl⟩) (fun p7 ce q9 H1 h1 h2 h3 h4 h5 => vx_out (fun x hx => (hnt x hx).elim) hlocks h3 h4 h5 (fun t ht hv => ⟨by simp only [op_back, ma1, if_pos p2, if_neg p7]; decide, by simp only [op_back, ma1, if_pos p2, if_neg p7]; rfl, by rw [ht]; exact h1, fun z hz => by rw [ht]; exact h2 z hz⟩) (fun q h => nomatch h) (Nat.le_of_ble_eq_true rfl) (Nat.le_of_ble_eq_true rfl)) (fun p7 => ?_)
  obtain ⟨a2, ha2, rfl⟩ := ok_ex p7
  have ma2 : nn (nI a2) = a2 := nn_of (by omega)
  refine lv_iload_n hx hb d_X_back_10 rfl (lv_at hl 3 rfl) ?_
  refine lv_iconst (v := nI 1) hx hb d_X_back_11 (by decide) ?_
  refine lv_sipush (v := nI 9999) hx hb d_X_back_12 (by decide) ?_
  refine nd_go (vx_runS (As := [.int n, .int (nI 1), .int (nI 9999)]) (rest := []) ⟨hx, hb, hml, hown, hts⟩ (c_X_needRange l hst dC dI A0 n 1 9999 (by omega) (by omega)) (cwS 3 hts (gi_S wd_253 wd_254 wd_1 wd_255) rfl rfl rfl (by decide +kernel) ⟨Nat.le_of_ble_eq_true rfl, Nat.le_of_ble_eq_true rfl⟩) (nd_preS (hK.sub (tys' := []) [] rfl) (fun k q h => by simp at h) hG) rfl rfl hl.1 rfl (lv_room (Nat.le_of_ble_eq_true rfl)) d_X_back_15 ⟨Nat.le_of_ble_eq_true rfl, Nat.le_of_ble_eq_true rfl⟩) (fun p15 ce q9 H1 h1 h2 h3 h4 h5 => vx_out (fun x hx => (hnt x hx).elim) hlocks h3 h4 h5 (fun t ht hv => ⟨by simp only [op_back, ma1, if_pos p2, ma2, if_pos p7, if_neg p15]; decide, by simp only [op_back, ma1, if_pos p2, ma2, if_pos p7, if_neg p15]; rfl, by rw [ht]; exact h1, fun z hz => by rw [ht]; exact h2 z hz⟩) (fun q h => nomatch h) (Nat.le_of_ble_eq_true rfl) (Nat.le_of_ble_eq_true rfl)) (fun p15 => ?_)
  obtain ⟨a3, ga3, ha3, rfl⟩ := rg_ex p15
  have ma3 : nn (nI a3) = a3 := nn_of (by omega)
  refine lv_aload_n hx hb d_X_back_18 rfl (lv_at hl 0 rfl) ?_
  refine va_get (D := (dC, dI)) (ci := 0) (v := .ref (q 1)) (C := R_X) (T := F_X) (N := 12) hx hb hts i_X hown hK hP 0 rfl rfl 0 (by decide) (hts _ wd_57) (fun _ h9 => h9) rfl d_X_back_19 ?_
  refine lv_iload_n hx hb d_X_back_22 rfl (lv_at hl 2 rfl) ?_
  refine lv_iconst (v := nI 2) hx hb d_X_back_23 (by decide) ?_
  refine pu_go (va_runV (As := [.int (nI a2), .int (nI 2)]) (rest := []) ⟨hx, hb, hml, hown, hts⟩ (c_W_at l dC dI cI (q 1) (q 11) 60 (S.2.1 2) 300 (rowf S.1 0) a2 2 (by omega) (by decide)) (cwV 2 hts (gi_V wd_117 wd_118 wd_119 wd_2 wd_120) rfl rfl rfl (by decide +kernel) ⟨Nat.le_of_ble_eq_true rfl, Nat.le_of_ble_eq_true rfl⟩) (pu_preV hK (hP.sub [1, 11] rfl) (ci := 1) (q0 := 0) rfl rfl) rfl rfl hl.1 rfl (lv_room (Nat.le_of_ble_eq_true rfl)) d_X_back_24 ⟨Nat.le_of_ble_eq_true rfl, Nat.le_of_ble_eq_true rfl⟩) ?_
  refine nv_as (nI (S.1 2 a2)) (rowf_at (by decide)) ?_
  have hb1 : S.1 2 a2 ≤ 9999 * t := hB 2 _
  refine lv_iload_n hx hb d_X_back_27 rfl (lv_at hl 3 rfl) ?_
  refine nv_cge (tgt := 33) hx hb (by omega) (by omega) d_X_back_28 (by decide) (fun c28 => ?_) (fun c28 => ?_)
  · refine lv_aload_n hx hb d_X_back_33 rfl (lv_at hl 0 rfl) ?_
    refine lv_iload_n hx hb d_X_back_34 rfl (lv_at hl 1 rfl) ?_
    refine lv_iload_n hx hb d_X_back_35 rfl (lv_at hl 2 rfl) ?_
    refine lv_iload_n hx hb d_X_back_36 rfl (lv_at hl 3 rfl) ?_
    refine nd_go (vx_runV (As := [.int (nI a1), .int (nI a2), .int (nI a3)]) (rest := []) ⟨hx, hb, hml, hown, hts⟩ (c_X_needPlace l hst dC dI A0 cI q S t hI a1 a2 a3 (by omega) (by omega) (by omega)) (cwV 3 hts (gi_V wd_300 wd_302 wp_9 wd_1 wd_303) rfl rfl rfl (by decide +kernel) ⟨Nat.le_of_ble_eq_true rfl, Nat.le_of_ble_eq_true rfl⟩) (nd_preV hK hP hG (ci := 0) (q0 := 0) rfl rfl) rfl rfl hl.1 rfl (lv_room (Nat.le_of_ble_eq_true rfl)) d_X_back_37 ⟨Nat.le_of_ble_eq_true rfl, Nat.le_of_ble_eq_true rfl⟩) (fun p37 ce q9 H1 h1 h2 h3 h4 h5 => vx_out (fun x hx => (hnt x hx).elim) hlocks h3 h4 h5 (fun t ht hv => ⟨by simp only [op_back, ma1, if_pos p2, ma2, if_pos p7, ma3, if_pos p15, if_neg (Nat.not_lt.mpr c28), if_neg p37]; decide, by simp only [op_back, ma1, if_pos p2, ma2, if_pos p7, ma3, if_pos p15, if_neg (Nat.not_lt.mpr c28), if_neg p37]; rfl, by rw [ht]; exact h1, fun z hz => by rw [ht]; exact h2 z hz⟩) (fun q h => nomatch h) (Nat.le_of_ble_eq_true rfl) (Nat.le_of_ble_eq_true rfl)) (fun p37 => ?_)
    refine lv_aload_n hx hb d_X_back_40 rfl (lv_at hl 0 rfl) ?_
    refine va_get (D := (dC, dI)) (ci := 0) (v := .ref (q 1)) (C := R_X) (T := F_X) (N := 12) hx hb hts i_X hown hK hP 0 rfl rfl 0 (by decide) (hts _ wd_57) (fun _ h9 => h9) rfl d_X_back_41 ?_
    refine lv_iload_n hx hb d_X_back_44 rfl (lv_at hl 2 rfl) ?_
    refine lv_iconst (v := nI 2) hx hb d_X_back_45 (by decide) ?_
    refine lv_aload_n hx hb d_X_back_46 rfl (lv_at hl 0 rfl) ?_
    refine va_get (D := (dC, dI)) (ci := 0) (v := .ref (q 1)) (C := R_X) (T := F_X) (N := 12) hx hb hts i_X hown hK hP 0 rfl rfl 0 (by decide) (hts _ wd_57) (fun _ h9 => h9) rfl d_X_back_47 ?_
    refine lv_iload_n hx hb d_X_back_50 rfl (lv_at hl 2 rfl) ?_
    refine lv_iconst (v := nI 2) hx hb d_X_back_51 (by decide) ?_
    refine pu_go (va_runV (As := [.int (nI a2), .int (nI 2)]) (rest := [.int (nI 2), .int (nI a2), .ref (q 1)]) ⟨hx, hb, hml, hown, hts⟩ (c_W_at l dC dI cI (q 1) (q 11) 60 (S.2.1 2) 300 (rowf S.1 0) a2 2 (by omega) (by decide)) (cwV 2 hts (gi_V wd_117 wd_118 wd_119 wd_2 wd_120) rfl rfl rfl (by decide +kernel) ⟨Nat.le_of_ble_eq_true rfl, Nat.le_of_ble_eq_true rfl⟩) (pu_preV hK (hP.sub [1, 11] rfl) (ci := 1) (q0 := 0) rfl rfl) rfl rfl hl.1 rfl (lv_room (Nat.le_of_ble_eq_true rfl)) d_X_back_52 ⟨Nat.le_of_ble_eq_true rfl, Nat.le_of_ble_eq_true rfl⟩) ?_
    refine nv_as (nI (S.1 2 a2)) (rowf_at (by decide)) ?_
    have hb2 : S.1 2 a2 ≤ 9999 * t := hB 2 _
    refine lv_iload_n hx hb d_X_back_55 rfl (lv_at hl 3 rfl) ?_
    refine nv_sub hx hb (by omega) d_X_back_56 ?_
    refine wr_go (va_runV (As := [.int (nI a2), .int (nI 2), .int (nI ((S.1 2 a2) - a3))]) (rest := []) ⟨hx, hb, hml, hown, hts⟩ (c_W_put l dC dI s.heap.size cI (q 1) (q 11) 60 (S.2.1 2) 300 (rowf S.1 0) a2 2 (nI ((S.1 2 a2) - a3)) (by omega) (by decide)) (cwV 3 hts (gi_V wd_342 wd_145 wd_146 wd_2 wd_147) rfl rfl rfl (by decide +kernel) ⟨Nat.le_of_ble_eq_true rfl, Nat.le_of_ble_eq_true rfl⟩) (wr_preV hK (hP.sub [1, 11] rfl) (hD.sub [1, 11] (by decide) rfl) (ci := 1) (q0 := 0) rfl rfl) rfl rfl hl.1 rfl (lv_room (Nat.le_of_ble_eq_true rfl)) d_X_back_57 ⟨Nat.le_of_ble_eq_true rfl, Nat.le_of_ble_eq_true rfl⟩) hP hD hS hA [1, 11] rfl rfl (wX q cI (S_a S (0 + 2) a2 ((S.1 2 a2) - a3))) (wX_r0 (by decide)) rfl (fun H locs hP hD hS => ?_)
    refine W.eq (g2 := F0 m 60 ls []) rfl ?_
    obtain ⟨S1, hS1⟩ : ∃ z : St, z = S_a S (0 + 2) a2 ((S.1 2 a2) - a3) := ⟨_, rfl⟩
    rw [← hS1] at hP hD
    have hIS1 : Bd t S1 := by rw [hS1]; exact Bd_a hI (show _ ≤ 9999 * t by omega)
    have hBS1 := hIS1.1
    have hg0 : S1.2.1 0 ≤ 8 := hIS1.2.1 0
    have hg1 : S1.2.1 1 ≤ 9999 := hIS1.2.1 1
    have hg2 : S1.2.1 2 ≤ 60 := hIS1.2.1 2
    have hg3 : S1.2.1 3 ≤ 60 := hIS1.2.1 3
    have hg4 : S1.2.1 4 ≤ 80 := hIS1.2.1 4
    have hg5 : S1.2.1 5 ≤ 20 := hIS1.2.1 5
    have hg6 : S1.2.1 6 ≤ 80 := hIS1.2.1 6
    have hg7 : S1.2.1 7 ≤ 10 := hIS1.2.1 7
    have hg8 : t ≤ 512 := hIS1.2.2
    refine lv_aload_n hx hb d_X_back_60 rfl (lv_at hl 0 rfl) ?_
    refine lv_iload_n hx hb d_X_back_61 rfl (lv_at hl 1 rfl) ?_
    refine lv_iload_n hx hb d_X_back_62 rfl (lv_at hl 2 rfl) ?_
    refine lv_iload_n hx hb d_X_back_63 rfl (lv_at hl 3 rfl) ?_
    refine wr_goA (va_runV (As := [.int (nI a1), .int (nI a2), .int (nI a3)]) (rest := []) ⟨hx, hb, hml, hown, hts⟩ (c_X_change l dC dI H.size cI q S1 t hIS1 a1 a2 (S1.1 25 (a1 * 60 + a2) + a3) (nI a3) (by omega) (by omega) (nI_add _ _)) (cwV 3 hts (gi_V wd_305 wd_307 wp_10 wd_1 wd_308) rfl rfl rfl (by decide +kernel) ⟨Nat.le_of_ble_eq_true rfl, Nat.le_of_ble_eq_true rfl⟩) (wr_preV hK hP hD (ci := 0) (q0 := 0) rfl rfl) rfl rfl hl.1 rfl (lv_room (Nat.le_of_ble_eq_true rfl)) d_X_back_64 ⟨Nat.le_of_ble_eq_true rfl, Nat.le_of_ble_eq_true rfl⟩) hD hS hA wX_adr (fun H locs hP hD hS => ?_)
    refine W.eq (g2 := F0 m 67 ls []) rfl ?_
    obtain ⟨S2, hS2⟩ : ∃ z : St, z = S_a S1 25 (a1 * 60 + a2) (S1.1 25 (a1 * 60 + a2) + a3) := ⟨_, rfl⟩
    rw [← hS2] at hP hD
    refine lv_iconst (v := nI 1) hx hb d_X_back_67 (by decide) ?_
    have ho : op_back S (nI a1) (nI a2) (nI a3) = (0, 1, S_a (S_a S 2 a2 (S.1 2 a2 - a3)) 25 (a1 * 60 + a2) (S.1 25 (a1 * 60 + a2) + a3)) := by simp only [op_back, ma1, if_pos p2, ma2, if_pos p7, ma3, if_pos p15, if_neg (Nat.not_lt.mpr c28), if_pos p37]
    rw [ho]
    refine nv_as (1) (by decide) ?_
    refine W.widen (k := 4) (n := 24) (Nat.le_of_ble_eq_true rfl) (Nat.le_of_ble_eq_true rfl) ?_
    have hP9 : va_P (dC, dI) classes (wX q cI (S_a (S_a S 2 a2 (S.1 2 a2 - a3)) 25 (a1 * 60 + a2) (S.1 25 (a1 * 60 + a2) + a3))) H := by rw [hS2, hS1] at hP; exact hP
    exact vx_ret (W.zret hx hb hr (by decide) (fun t ht hW => ⟨rfl, rfl, by rw [ht]; exact hP9, hS.F ht⟩) hS.2.2 d_X_back_68)
  · refine lv_iconst (v := nI 0) hx hb d_X_back_31 (by decide) ?_
    have ho : op_back S (nI a1) (nI a2) (nI a3) = (0, 0, S) := by simp only [op_back, ma1, if_pos p2, ma2, if_pos p7, ma3, if_pos p15, if_pos c28]
    rw [ho]
    refine nv_as (0) (by decide) ?_
    refine W.widen (k := 4) (n := 24) (Nat.le_of_ble_eq_true rfl) (Nat.le_of_ble_eq_true rfl) ?_
    have hP9 : va_P (dC, dI) classes (wX q cI (S)) s.heap := hP
    exact vx_ret (W.zret hx hb hr (by decide) (fun t ht hW => ⟨rfl, rfl, by rw [ht]; exact hP9, hS.F ht⟩) hS.2.2 d_X_back_32)
set_option maxHeartbeats 4000000 in
set_option maxRecDepth 100000 in
theorem c_X_waste (l : Launch) (hst : l.stackTraces = false) (dC : Nat → ClassId) (dI : Nat → Nat → Nat) (A0 : Nat → Prop) (sz : Nat) (cI : ClassId) (q : Nat → Nat) (S : St) (t : Nat) (hI : Bd t S) (x y n v : Int32) (hwa : ∀ j, S.1 3 j + 9999 ≤ 9999 * t) : vx_Met l y_X_waste (.code y_X_waste b_X_waste 5 (some .int) :: bg) { frames := 8, cells := 5, slots := 30, locals := 132 } (xo_P (dC, dI) classes [(cI, .int)] A0 (wX q cI S) sz [.ref (q 0), .int x, .int y, .int n, .int v]) (xo_Q (op_waste S x y n v) (some (.int (op_waste S x y n v).2.1)) (dC, dI) classes (wX q cI (op_waste S x y n v).2.2) (va_A (wX q cI S) sz)) (xo_X (op_waste S x y n v) [E_ia, E_io, E_is]) 5 30 (va_A (wX q cI S) sz) := by
  refine vx_ofW (cc := b_X_waste) (maxL := 5) (ret := (some .int)) (by decide) rfl ?_
  intro p e s m args below meth c s₁ B hml hnt hv
  obtain ⟨rfl, hsz, hP, hK, hD0, hG⟩ := hv
  subst hsz
  have hD := hD0.self (sz := s.heap.size)
  generalize hAe : va_A (wX q cI S) s.heap.size = A at hD ⊢
  have hA : ∀ q : Nat, s.heap.size ≤ q → A q := fun q h => by rw [← hAe]; exact Or.inr h
  have hS : va_S A s.heap s.heap [] := va_S.rf
  have hx := B.exec
  have hb := B.bytes
  have hr := B.returns
  have hts := fun w (h : w ∈ bg) => atoms_spec (ws := .code y_X_waste b_X_waste 5 (some .int) :: bg) B.pre w (List.mem_cons_of_mem _ h)
  have hown : s.vm.findClass R_X = some m.cls := findClass_of_methodNamed B.named
  have hlocks := B.notSynchronized
  have hl := lv_entry ([.ref (q 0), .int x, .int y, .int n, .int v]) (n := 5) (Nat.le_of_ble_eq_true rfl)
  rw [lg_entry_eq]
  generalize (lg_sl ([.ref (q 0), .int x, .int y, .int n, .int v]) ++ List.replicate (5 - (lg_sl ([.ref (q 0), .int x, .int y, .int n, .int v])).length) Slot.unset).toArray = ls at hl ⊢
  have hl : lv_has ls 5 [(0, .ref (q 0)), (1, .int x), (2, .int y), (3, .int n), (4, .int v)] := hl
  have hB := hI.1
  have hg0 : S.2.1 0 ≤ 8 := hI.2.1 0
  have hg1 : S.2.1 1 ≤ 9999 := hI.2.1 1
  have hg2 : S.2.1 2 ≤ 60 := hI.2.1 2
  have hg3 : S.2.1 3 ≤ 60 := hI.2.1 3
  have hg4 : S.2.1 4 ≤ 80 := hI.2.1 4
  have hg5 : S.2.1 5 ≤ 20 := hI.2.1 5
  have hg6 : S.2.1 6 ≤ 80 := hI.2.1 6
  have hg7 : S.2.1 7 ≤ 10 := hI.2.1 7
  have hg8 : t ≤ 512 := hI.2.2
  refine lv_aload_n hx hb d_X_waste_0 rfl (lv_at hl 0 rfl) ?_
  refine lv_iload_n hx hb d_X_waste_1 rfl (lv_at hl 1 rfl) ?_
  refine nd_go (vx_runV (As := [.int x]) (rest := []) ⟨hx, hb, hml, hown, hts⟩ (c_X_needStore l hst dC dI A0 cI q S t hI x) (cwV 1 hts (gi_V wd_283 wd_285 wp_7 wd_1 wd_286) rfl rfl rfl (by decide +kernel) ⟨Nat.le_of_ble_eq_true rfl, Nat.le_of_ble_eq_true rfl⟩) (nd_preV hK hP hG (ci := 0) (q0 := 0) rfl rfl) rfl rfl hl.1 rfl (lv_room (Nat.le_of_ble_eq_true rfl)) d_X_waste_2 ⟨Nat.le_of_ble_eq_true rfl, Nat.le_of_ble_eq_true rfl⟩) (fun p2 ce q9 H1 h1 h2 h3 h4 h5 => vx_out (fun x hx => (hnt x hx).elim) hlocks h3 h4 h5 (fun t ht hv => ⟨by simp only [op_waste, if_neg p2]; decide, by simp only [op_waste, if_neg p2]; rfl, by rw [ht]; exact h1, fun z hz => by rw [ht]; exact h2 z hz⟩) (fun q h => nomatch h) (Nat.le_of_ble_eq_true rfl) (Nat.le_of_ble_eq_true rfl)) (fun p2 => ?_)
  obtain ⟨a1, ha1, rfl⟩ := ok_ex p2
  have ma1 : nn (nI a1) = a1 := nn_of (by omega)
  refine lv_aload_n hx hb d_X_waste_5 rfl (lv_at hl 0 rfl) ?_
  refine lv_iload_n hx hb d_X_waste_6 rfl (lv_at hl 2 rfl) ?_
  refine nd_go (vx_runV (As := [.int y]) (rest := []) ⟨hx, hb, hml, hown, hts⟩ (c_X_needLot l hst dC dI A0 cI q S t hI y) (cwV 1 hts (gi_V wd_288 wd_290 wp_8 wd_1 wd_291) rfl rfl rfl (by decide +kernel) ⟨Nat.le_of_ble_eq_true rfl, Nat.le_of_ble_eq_true rfl⟩) (nd_preV hK hP hG (ci := 0) (q0 := 0) rfl rfl) rfl rfl hl.1 rfl (lv_room (Nat.le_of_ble_eq_true rfl)) d_X_waste_7 ⟨Nat.le_of_ble_eq_true rfl, Nat.le_of_ble_eq_true rfl⟩) (fun p7 ce q9 H1 h1 h2 h3 h4 h5 => vx_out (fun x hx => (hnt x hx).elim) hlocks h3 h4 h5 (fun t ht hv => ⟨by simp only [op_waste, ma1, if_pos p2, if_neg p7]; decide, by simp only [op_waste, ma1, if_pos p2, if_neg p7]; rfl, by rw [ht]; exact h1, fun z hz => by rw [ht]; exact h2 z hz⟩) (fun q h => nomatch h) (Nat.le_of_ble_eq_true rfl) (Nat.le_of_ble_eq_true rfl)) (fun p7 => ?_)
  obtain ⟨a2, ha2, rfl⟩ := ok_ex p7
  have ma2 : nn (nI a2) = a2 := nn_of (by omega)
  refine lv_iload_n hx hb d_X_waste_10 rfl (lv_at hl 3 rfl) ?_
  refine lv_iconst (v := nI 1) hx hb d_X_waste_11 (by decide) ?_
  refine lv_sipush (v := nI 9999) hx hb d_X_waste_12 (by decide) ?_
  refine nd_go (vx_runS (As := [.int n, .int (nI 1), .int (nI 9999)]) (rest := []) ⟨hx, hb, hml, hown, hts⟩ (c_X_needRange l hst dC dI A0 n 1 9999 (by omega) (by omega)) (cwS 3 hts (gi_S wd_253 wd_254 wd_1 wd_255) rfl rfl rfl (by decide +kernel) ⟨Nat.le_of_ble_eq_true rfl, Nat.le_of_ble_eq_true rfl⟩) (nd_preS (hK.sub (tys' := []) [] rfl) (fun k q h => by simp at h) hG) rfl rfl hl.1 rfl (lv_room (Nat.le_of_ble_eq_true rfl)) d_X_waste_15 ⟨Nat.le_of_ble_eq_true rfl, Nat.le_of_ble_eq_true rfl⟩) (fun p15 ce q9 H1 h1 h2 h3 h4 h5 => vx_out (fun x hx => (hnt x hx).elim) hlocks h3 h4 h5 (fun t ht hv => ⟨by simp only [op_waste, ma1, if_pos p2, ma2, if_pos p7, if_neg p15]; decide, by simp only [op_waste, ma1, if_pos p2, ma2, if_pos p7, if_neg p15]; rfl, by rw [ht]; exact h1, fun z hz => by rw [ht]; exact h2 z hz⟩) (fun q h => nomatch h) (Nat.le_of_ble_eq_true rfl) (Nat.le_of_ble_eq_true rfl)) (fun p15 => ?_)
  obtain ⟨a3, ga3, ha3, rfl⟩ := rg_ex p15
  have ma3 : nn (nI a3) = a3 := nn_of (by omega)
  refine lv_iload hx hb d_X_waste_18 (lv_at hl 4 rfl) ?_
  refine lv_iconst (v := nI 1) hx hb d_X_waste_20 (by decide) ?_
  refine lv_sipush (v := nI 9999) hx hb d_X_waste_21 (by decide) ?_
  refine nd_go (vx_runS (As := [.int v, .int (nI 1), .int (nI 9999)]) (rest := []) ⟨hx, hb, hml, hown, hts⟩ (c_X_needRange l hst dC dI A0 v 1 9999 (by omega) (by omega)) (cwS 3 hts (gi_S wd_253 wd_254 wd_1 wd_255) rfl rfl rfl (by decide +kernel) ⟨Nat.le_of_ble_eq_true rfl, Nat.le_of_ble_eq_true rfl⟩) (nd_preS (hK.sub (tys' := []) [] rfl) (fun k q h => by simp at h) hG) rfl rfl hl.1 rfl (lv_room (Nat.le_of_ble_eq_true rfl)) d_X_waste_24 ⟨Nat.le_of_ble_eq_true rfl, Nat.le_of_ble_eq_true rfl⟩) (fun p24 ce q9 H1 h1 h2 h3 h4 h5 => vx_out (fun x hx => (hnt x hx).elim) hlocks h3 h4 h5 (fun t ht hv => ⟨by simp only [op_waste, ma1, if_pos p2, ma2, if_pos p7, ma3, if_pos p15, if_neg p24]; decide, by simp only [op_waste, ma1, if_pos p2, ma2, if_pos p7, ma3, if_pos p15, if_neg p24]; rfl, by rw [ht]; exact h1, fun z hz => by rw [ht]; exact h2 z hz⟩) (fun q h => nomatch h) (Nat.le_of_ble_eq_true rfl) (Nat.le_of_ble_eq_true rfl)) (fun p24 => ?_)
  obtain ⟨a4, ga4, ha4, rfl⟩ := rg_ex p24
  have ma4 : nn (nI a4) = a4 := nn_of (by omega)
  refine lv_aload_n hx hb d_X_waste_27 rfl (lv_at hl 0 rfl) ?_
  refine lv_iload_n hx hb d_X_waste_28 rfl (lv_at hl 1 rfl) ?_
  refine lv_iload_n hx hb d_X_waste_29 rfl (lv_at hl 2 rfl) ?_
  refine lv_iload_n hx hb d_X_waste_30 rfl (lv_at hl 3 rfl) ?_
  refine nd_go (vx_runV (As := [.int (nI a1), .int (nI a2), .int (nI a3)]) (rest := []) ⟨hx, hb, hml, hown, hts⟩ (c_X_needThere l hst dC dI A0 cI q S t hI a1 a2 a3 (by omega) (by omega) (by omega)) (cwV 3 hts (gi_V wd_318 wd_320 wp_11 wd_1 wd_321) rfl rfl rfl (by decide +kernel) ⟨Nat.le_of_ble_eq_true rfl, Nat.le_of_ble_eq_true rfl⟩) (nd_preV hK hP hG (ci := 0) (q0 := 0) rfl rfl) rfl rfl hl.1 rfl (lv_room (Nat.le_of_ble_eq_true rfl)) d_X_waste_31 ⟨Nat.le_of_ble_eq_true rfl, Nat.le_of_ble_eq_true rfl⟩) (fun p31 ce q9 H1 h1 h2 h3 h4 h5 => vx_out (fun x hx => (hnt x hx).elim) hlocks h3 h4 h5 (fun t ht hv => ⟨by simp only [op_waste, ma1, if_pos p2, ma2, if_pos p7, ma3, if_pos p15, ma4, if_pos p24, if_neg p31]; decide, by simp only [op_waste, ma1, if_pos p2, ma2, if_pos p7, ma3, if_pos p15, ma4, if_pos p24, if_neg p31]; rfl, by rw [ht]; exact h1, fun z hz => by rw [ht]; exact h2 z hz⟩) (fun q h => nomatch h) (Nat.le_of_ble_eq_true rfl) (Nat.le_of_ble_eq_true rfl)) (fun p31 => ?_)
  refine lv_aload_n hx hb d_X_waste_34 rfl (lv_at hl 0 rfl) ?_
  refine lv_iload_n hx hb d_X_waste_35 rfl (lv_at hl 1 rfl) ?_
  refine lv_iload_n hx hb d_X_waste_36 rfl (lv_at hl 2 rfl) ?_
  refine lv_iload_n hx hb d_X_waste_37 rfl (lv_at hl 3 rfl) ?_
  refine lv_ineg hx hb d_X_waste_38 ?_
  refine wr_goA (va_runV (As := [.int (nI a1), .int (nI a2), .int (-(nI a3))]) (rest := []) ⟨hx, hb, hml, hown, hts⟩ (c_X_change l dC dI s.heap.size cI q S t hI a1 a2 (S.1 25 (a1 * 60 + a2) - a3) (-(nI a3)) (by omega) (by omega) (by rw [← Int32.sub_eq_add_neg]; exact pk_sub (by omega))) (cwV 3 hts (gi_V wd_305 wd_307 wp_10 wd_1 wd_308) rfl rfl rfl (by decide +kernel) ⟨Nat.le_of_ble_eq_true rfl, Nat.le_of_ble_eq_true rfl⟩) (wr_preV hK hP hD (ci := 0) (q0 := 0) rfl rfl) rfl rfl hl.1 rfl (lv_room (Nat.le_of_ble_eq_true rfl)) d_X_waste_39 ⟨Nat.le_of_ble_eq_true rfl, Nat.le_of_ble_eq_true rfl⟩) hD hS hA wX_adr (fun H locs hP hD hS => ?_)
  refine W.eq (g2 := F0 m 42 ls []) rfl ?_
  obtain ⟨S1, hS1⟩ : ∃ z : St, z = S_a S 25 (a1 * 60 + a2) (S.1 25 (a1 * 60 + a2) - a3) := ⟨_, rfl⟩
  rw [← hS1] at hP hD
  have hIS1 : Bd t S1 := by rw [hS1]; exact Bd_a hI (show _ ≤ 9999 from Nat.le_trans (Nat.sub_le _ _) (hI.1 25 _))
  have hBS1 := hIS1.1
  have hg0 : S1.2.1 0 ≤ 8 := hIS1.2.1 0
  have hg1 : S1.2.1 1 ≤ 9999 := hIS1.2.1 1
  have hg2 : S1.2.1 2 ≤ 60 := hIS1.2.1 2
  have hg3 : S1.2.1 3 ≤ 60 := hIS1.2.1 3
  have hg4 : S1.2.1 4 ≤ 80 := hIS1.2.1 4
  have hg5 : S1.2.1 5 ≤ 20 := hIS1.2.1 5
  have hg6 : S1.2.1 6 ≤ 80 := hIS1.2.1 6
  have hg7 : S1.2.1 7 ≤ 10 := hIS1.2.1 7
  have hg8 : t ≤ 512 := hIS1.2.2
  refine lv_aload_n hx hb d_X_waste_42 rfl (lv_at hl 0 rfl) ?_
  refine va_get (D := (dC, dI)) (ci := 0) (v := .ref (q 1)) (C := R_X) (T := F_X) (N := 12) hx hb hts i_X hown hK hP 0 rfl rfl 0 (by decide) (hts _ wd_57) (fun _ h9 => h9) rfl d_X_waste_43 ?_
  refine lv_iload_n hx hb d_X_waste_46 rfl (lv_at hl 2 rfl) ?_
  refine lv_iconst (v := nI 3) hx hb d_X_waste_47 (by decide) ?_
  refine lv_aload_n hx hb d_X_waste_48 rfl (lv_at hl 0 rfl) ?_
  refine va_get (D := (dC, dI)) (ci := 0) (v := .ref (q 1)) (C := R_X) (T := F_X) (N := 12) hx hb hts i_X hown hK hP 0 rfl rfl 0 (by decide) (hts _ wd_57) (fun _ h9 => h9) rfl d_X_waste_49 ?_
  refine lv_iload_n hx hb d_X_waste_52 rfl (lv_at hl 2 rfl) ?_
  refine lv_iconst (v := nI 3) hx hb d_X_waste_53 (by decide) ?_
  refine pu_go (va_runV (As := [.int (nI a2), .int (nI 3)]) (rest := [.int (nI 3), .int (nI a2), .ref (q 1)]) ⟨hx, hb, hml, hown, hts⟩ (c_W_at l dC dI cI (q 1) (q 11) 60 (S1.2.1 2) 300 (rowf S1.1 0) a2 3 (by omega) (by decide)) (cwV 2 hts (gi_V wd_117 wd_118 wd_119 wd_2 wd_120) rfl rfl rfl (by decide +kernel) ⟨Nat.le_of_ble_eq_true rfl, Nat.le_of_ble_eq_true rfl⟩) (pu_preV hK (hP.sub [1, 11] rfl) (ci := 1) (q0 := 0) rfl rfl) rfl rfl hl.1 rfl (lv_room (Nat.le_of_ble_eq_true rfl)) d_X_waste_54 ⟨Nat.le_of_ble_eq_true rfl, Nat.le_of_ble_eq_true rfl⟩) ?_
  refine nv_as (nI (S1.1 3 a2)) (rowf_at (by decide)) ?_
  have hb1 : S1.1 3 a2 ≤ 9999 * t := hBS1 3 _
  have r3 : S1.1 3 a2 = S.1 3 a2 := by rw [hS1]; rfl
  refine lv_iload_n hx hb d_X_waste_57 rfl (lv_at hl 3 rfl) ?_
  refine nv_add hx hb d_X_waste_58 ?_
  refine wr_go (va_runV (As := [.int (nI a2), .int (nI 3), .int (nI ((S1.1 3 a2) + a3))]) (rest := []) ⟨hx, hb, hml, hown, hts⟩ (c_W_put l dC dI H.size cI (q 1) (q 11) 60 (S1.2.1 2) 300 (rowf S1.1 0) a2 3 (nI ((S1.1 3 a2) + a3)) (by omega) (by decide)) (cwV 3 hts (gi_V wd_342 wd_145 wd_146 wd_2 wd_147) rfl rfl rfl (by decide +kernel) ⟨Nat.le_of_ble_eq_true rfl, Nat.le_of_ble_eq_true rfl⟩) (wr_preV hK (hP.sub [1, 11] rfl) (hD.sub [1, 11] (by decide) rfl) (ci := 1) (q0 := 0) rfl rfl) rfl rfl hl.1 rfl (lv_room (Nat.le_of_ble_eq_true rfl)) d_X_waste_59 ⟨Nat.le_of_ble_eq_true rfl, Nat.le_of_ble_eq_true rfl⟩) hP hD hS hA [1, 11] rfl rfl (wX q cI (S_a S1 (0 + 3) a2 ((S1.1 3 a2) + a3))) (wX_r0 (by decide)) rfl (fun H locs hP hD hS => ?_)
  refine W.eq (g2 := F0 m 62 ls []) rfl ?_
  obtain ⟨S2, hS2⟩ : ∃ z : St, z = S_a S1 (0 + 3) a2 ((S1.1 3 a2) + a3) := ⟨_, rfl⟩
  rw [← hS2] at hP hD
  have hIS2 : Bd t S2 := by rw [hS2]; exact Bd_a hIS1 (show _ ≤ 9999 * t by have := hwa a2; omega)
  have hBS2 := hIS2.1
  have hg0 : S2.2.1 0 ≤ 8 := hIS2.2.1 0
  have hg1 : S2.2.1 1 ≤ 9999 := hIS2.2.1 1
  have hg2 : S2.2.1 2 ≤ 60 := hIS2.2.1 2
  have hg3 : S2.2.1 3 ≤ 60 := hIS2.2.1 3
  have hg4 : S2.2.1 4 ≤ 80 := hIS2.2.1 4
  have hg5 : S2.2.1 5 ≤ 20 := hIS2.2.1 5
  have hg6 : S2.2.1 6 ≤ 80 := hIS2.2.1 6
  have hg7 : S2.2.1 7 ≤ 10 := hIS2.2.1 7
  have hg8 : t ≤ 512 := hIS2.2.2
  refine lv_aload_n hx hb d_X_waste_62 rfl (lv_at hl 0 rfl) ?_
  refine va_get (D := (dC, dI)) (ci := 0) (v := .ref (q 1)) (C := R_X) (T := F_X) (N := 12) hx hb hts i_X hown hK hP 0 rfl rfl 0 (by decide) (hts _ wd_57) (fun _ h9 => h9) rfl d_X_waste_63 ?_
  refine lv_iload_n hx hb d_X_waste_66 rfl (lv_at hl 2 rfl) ?_
  refine lv_iconst (v := nI 4) hx hb d_X_waste_67 (by decide) ?_
  refine lv_iload hx hb d_X_waste_68 (lv_at hl 4 rfl) ?_
  refine wr_go (va_runV (As := [.int (nI a2), .int (nI 4), .int (nI a4)]) (rest := []) ⟨hx, hb, hml, hown, hts⟩ (c_W_put l dC dI H.size cI (q 1) (q 11) 60 (S2.2.1 2) 300 (rowf S2.1 0) a2 4 (nI a4) (by omega) (by decide)) (cwV 3 hts (gi_V wd_342 wd_145 wd_146 wd_2 wd_147) rfl rfl rfl (by decide +kernel) ⟨Nat.le_of_ble_eq_true rfl, Nat.le_of_ble_eq_true rfl⟩) (wr_preV hK (hP.sub [1, 11] rfl) (hD.sub [1, 11] (by decide) rfl) (ci := 1) (q0 := 0) rfl rfl) rfl rfl hl.1 rfl (lv_room (Nat.le_of_ble_eq_true rfl)) d_X_waste_70 ⟨Nat.le_of_ble_eq_true rfl, Nat.le_of_ble_eq_true rfl⟩) hP hD hS hA [1, 11] rfl rfl (wX q cI (S_a S2 (0 + 4) a2 a4)) (wX_r0 (by decide)) rfl (fun H locs hP hD hS => ?_)
  refine W.eq (g2 := F0 m 73 ls []) rfl ?_
  obtain ⟨S3, hS3⟩ : ∃ z : St, z = S_a S2 (0 + 4) a2 a4 := ⟨_, rfl⟩
  rw [← hS3] at hP hD
  have hIS3 : Bd t S3 := by rw [hS3]; exact Bd_a hIS2 (show _ ≤ 9999 by omega)
  have hBS3 := hIS3.1
  have hg0 : S3.2.1 0 ≤ 8 := hIS3.2.1 0
  have hg1 : S3.2.1 1 ≤ 9999 := hIS3.2.1 1
  have hg2 : S3.2.1 2 ≤ 60 := hIS3.2.1 2
  have hg3 : S3.2.1 3 ≤ 60 := hIS3.2.1 3
  have hg4 : S3.2.1 4 ≤ 80 := hIS3.2.1 4
  have hg5 : S3.2.1 5 ≤ 20 := hIS3.2.1 5
  have hg6 : S3.2.1 6 ≤ 80 := hIS3.2.1 6
  have hg7 : S3.2.1 7 ≤ 10 := hIS3.2.1 7
  have hg8 : t ≤ 512 := hIS3.2.2
  refine lv_aload_n hx hb d_X_waste_73 rfl (lv_at hl 0 rfl) ?_
  refine va_get (D := (dC, dI)) (ci := 0) (v := .ref (q 1)) (C := R_X) (T := F_X) (N := 12) hx hb hts i_X hown hK hP 0 rfl rfl 0 (by decide) (hts _ wd_57) (fun _ h9 => h9) rfl d_X_waste_74 ?_
  refine lv_iload_n hx hb d_X_waste_77 rfl (lv_at hl 2 rfl) ?_
  refine lv_iconst (v := nI 3) hx hb d_X_waste_78 (by decide) ?_
  refine pu_go (va_runV (As := [.int (nI a2), .int (nI 3)]) (rest := []) ⟨hx, hb, hml, hown, hts⟩ (c_W_at l dC dI cI (q 1) (q 11) 60 (S3.2.1 2) 300 (rowf S3.1 0) a2 3 (by omega) (by decide)) (cwV 2 hts (gi_V wd_117 wd_118 wd_119 wd_2 wd_120) rfl rfl rfl (by decide +kernel) ⟨Nat.le_of_ble_eq_true rfl, Nat.le_of_ble_eq_true rfl⟩) (pu_preV hK (hP.sub [1, 11] rfl) (ci := 1) (q0 := 0) rfl rfl) rfl rfl hl.1 rfl (lv_room (Nat.le_of_ble_eq_true rfl)) d_X_waste_79 ⟨Nat.le_of_ble_eq_true rfl, Nat.le_of_ble_eq_true rfl⟩) ?_
  refine nv_as (nI (S3.1 3 a2)) (rowf_at (by decide)) ?_
  have hb2 : S3.1 3 a2 ≤ 9999 * t := hBS3 3 _
  have ho : op_waste S (nI a1) (nI a2) (nI a3) (nI a4) = (0, nI (S.1 3 a2 + a3), S_a (S_a (S_a S 25 (a1 * 60 + a2) (S.1 25 (a1 * 60 + a2) - a3)) 3 a2 (S.1 3 a2 + a3)) 4 a2 a4) := by simp only [op_waste, ma1, if_pos p2, ma2, if_pos p7, ma3, if_pos p15, ma4, if_pos p24, if_pos p31]
  rw [ho]
  refine nv_as (nI (S.1 3 a2 + a3)) (by rw [hS3, hS2, hS1]; exact congrArg nI ((congrFun (Sa_n (by decide)) a2).trans Sa_s)) ?_
  refine W.widen (k := 5) (n := 30) (Nat.le_of_ble_eq_true rfl) (Nat.le_of_ble_eq_true rfl) ?_
  have hP9 : va_P (dC, dI) classes (wX q cI (S_a (S_a (S_a S 25 (a1 * 60 + a2) (S.1 25 (a1 * 60 + a2) - a3)) 3 a2 (S.1 3 a2 + a3)) 4 a2 a4)) H := by rw [hS3, hS2, hS1] at hP; exact hP
  exact vx_ret (W.iret hx hb hr (fun t ht hW => ⟨rfl, rfl, by rw [ht]; exact hP9, hS.F ht⟩) hS.2.2 d_X_waste_82)
end
section
set_option maxHeartbeats 4000000 in
set_option maxRecDepth 100000 in
theorem c_X_cell (l : Launch) (hst : l.stackTraces = false) (dC : Nat → ClassId) (dI : Nat → Nat → Nat) (A : Nat → Prop) (cI : ClassId) (r ca rm md n : Nat) (f : Nat → Int32) (x v : Int32) (h2 : md * 5 ≤ n) (hn : n < 2 ^ 31) : vx_Met l y_X_cell (.code y_X_cell b_X_cell 3 (some .int) :: bg) { frames := 7, cells := 2, slots := 12, locals := 111 } (nd_P (dC, dI) classes [(r, .inr (1, [.int (nI rm), .ref ca, .int (nI md)])), (ca, .inl (cI, n, .inl f))] [(cI, .int)] A [.ref r, .int x, .int v]) (nv_Q (ok x md = true ∧ ok v 5 = true) (.int (f (nn x * 5 + nn v)))) (nd_X (ok x md = true ∧ ok v 5 = true) E_ia) 2 12 (fun _ => False) := by
  refine vx_ofW (cc := b_X_cell) (maxL := 3) (ret := (some .int)) (by decide) rfl ?_
  intro p e s m args below meth c s₁ B hml hnt hv
  obtain ⟨rfl, hP, hK, hG⟩ := hv
  have hx := B.exec
  have hb := B.bytes
  have hr := B.returns
  have hts := fun w (h : w ∈ bg) => atoms_spec (ws := .code y_X_cell b_X_cell 3 (some .int) :: bg) B.pre w (List.mem_cons_of_mem _ h)
  have hown : s.vm.findClass R_X = some m.cls := findClass_of_methodNamed B.named
  have hlocks := B.notSynchronized
  have hl := lv_entry ([.ref r, .int x, .int v]) (n := 3) (Nat.le_of_ble_eq_true rfl)
  rw [lg_entry_eq]
  generalize (lg_sl ([.ref r, .int x, .int v]) ++ List.replicate (3 - (lg_sl ([.ref r, .int x, .int v])).length) Slot.unset).toArray = ls at hl ⊢
  have hl : lv_has ls 3 [(0, .ref r), (1, .int x), (2, .int v)] := hl
  refine lv_aload_n hx hb d_X_cell_0 rfl (lv_at hl 0 rfl) ?_
  refine lv_iload_n hx hb d_X_cell_1 rfl (lv_at hl 1 rfl) ?_
  refine nd_go (vx_runS (As := [.ref r, .int x]) (rest := []) ⟨hx, hb, hml, hown, hts⟩ (c_X_needRow l hst dC dI A cI r ca rm md n f x (by omega)) (cwS 2 hts (gi_S wd_292 wd_293 wd_1 wd_294) rfl rfl rfl (by decide +kernel) ⟨Nat.le_of_ble_eq_true rfl, Nat.le_of_ble_eq_true rfl⟩) (nd_preS hK hP hG) rfl rfl hl.1 rfl (lv_room (Nat.le_of_ble_eq_true rfl)) d_X_cell_2 ⟨Nat.le_of_ble_eq_true rfl, Nat.le_of_ble_eq_true rfl⟩) (fun p2 ce q9 H1 h1 h2 h3 h4 h5 => vx_out (fun x hx => (hnt x hx).elim) hlocks h3 h4 h5 (fun t ht hv => ⟨(fun h => p2 h.1), rfl, by rw [ht]; exact h1, fun z hz => by rw [ht]; exact h2 z hz⟩) (fun q h => nomatch h) (Nat.le_of_ble_eq_true rfl) (Nat.le_of_ble_eq_true rfl)) (fun p2 => ?_)
  refine lv_aload_n hx hb d_X_cell_5 rfl (lv_at hl 0 rfl) ?_
  refine lv_iload_n hx hb d_X_cell_6 rfl (lv_at hl 2 rfl) ?_
  refine pu_go (va_runV (As := [.int v]) (rest := []) ⟨hx, hb, hml, hown, hts⟩ (c_W_isColumn l dC dI cI r ca rm md n f v) (cwV 1 hts (gi_V wd_402 wd_403 wd_404 wd_2 wd_405) rfl rfl rfl (by decide +kernel) ⟨Nat.le_of_ble_eq_true rfl, Nat.le_of_ble_eq_true rfl⟩) (pu_preV hK hP (ci := 1) (q0 := 0) rfl rfl) rfl rfl hl.1 rfl (lv_room (Nat.le_of_ble_eq_true rfl)) d_X_cell_7 ⟨Nat.le_of_ble_eq_true rfl, Nat.le_of_ble_eq_true rfl⟩) ?_
  refine nv_bn (tgt := 23) hx hb d_X_cell_10 (by decide) (fun c10 => ?_) (fun c10 => ?_)
  · have hx5 := ok_of c10
    have hxm := ok_of p2
    refine lv_aload_n hx hb d_X_cell_23 rfl (lv_at hl 0 rfl) ?_
    refine lv_iload_n hx hb d_X_cell_24 rfl (lv_at hl 1 rfl) ?_
    refine lv_iload_n hx hb d_X_cell_25 rfl (lv_at hl 2 rfl) ?_
    refine W.eq (g2 := F0 m 26 ls [.int (nI (nn v)), .int (nI (nn x)), .ref r]) (by rw [← hx5.1, ← hxm.1]) ?_
    refine pu_go (va_runV (As := [.int (nI (nn x)), .int (nI (nn v))]) (rest := []) ⟨hx, hb, hml, hown, hts⟩ (c_W_at l dC dI cI r ca rm md n f (nn x) (nn v) (by omega) (by omega)) (cwV 2 hts (gi_V wd_117 wd_118 wd_119 wd_2 wd_120) rfl rfl rfl (by decide +kernel) ⟨Nat.le_of_ble_eq_true rfl, Nat.le_of_ble_eq_true rfl⟩) (pu_preV hK hP (ci := 1) (q0 := 0) rfl rfl) rfl rfl hl.1 rfl (lv_room (Nat.le_of_ble_eq_true rfl)) d_X_cell_26 ⟨Nat.le_of_ble_eq_true rfl, Nat.le_of_ble_eq_true rfl⟩) ?_
    refine W.widen (k := 2) (n := 12) (Nat.le_of_ble_eq_true rfl) (Nat.le_of_ble_eq_true rfl) ?_
    exact vx_ret (W.iret hx hb hr (fun t ht hW => ⟨⟨p2, c10⟩, rfl, ht⟩) (fun q h => nomatch h) d_X_cell_29)
  · exact x_throw (A := A) hx hb hst hown hts hG ex_ia sx_121 hnt (hl.1.trans hml.symm) hlocks d_X_cell_13 d_X_cell_16 d_X_cell_17 d_X_cell_19 d_X_cell_22 (Nat.le_of_ble_eq_true rfl) (Nat.le_of_ble_eq_true rfl) (Nat.le_of_ble_eq_true rfl) (Nat.le_of_ble_eq_true rfl) (Nat.le_of_ble_eq_true rfl) (Nat.le_of_ble_eq_true rfl) (fun t h1 h2 => ⟨fun h => by rw [c10] at h; exact absurd h.2 (by decide), rfl, h1, h2⟩)
set_option maxHeartbeats 4000000 in
set_option maxRecDepth 100000 in
theorem c_X_order (l : Launch) (hst : l.stackTraces = false) (dC : Nat → ClassId) (dI : Nat → Nat → Nat) (A0 : Nat → Prop) (sz : Nat) (cI : ClassId) (q : Nat → Nat) (S : St) (t : Nat) (hI : Bd t S) (x v : Int32) : vx_Met l y_X_order (.code y_X_order b_X_order 3 (some .int) :: bg) { frames := 8, cells := 2, slots := 12, locals := 133 } (xo_P (dC, dI) classes [(cI, .int)] A0 (wX q cI S) sz [.ref (q 0), .int x, .int v]) (xo_Q (op_order S x v) (some (.int (op_order S x v).2.1)) (dC, dI) classes (wX q cI (op_order S x v).2.2) (va_A (wX q cI S) sz)) (xo_X (op_order S x v) [E_ia]) 2 12 (va_A (wX q cI S) sz) := by
  refine vx_ofW (cc := b_X_order) (maxL := 3) (ret := (some .int)) (by decide) rfl ?_
  intro p e s m args below meth c s₁ B hml hnt hv
  obtain ⟨rfl, hsz, hP, hK, hD0, hG⟩ := hv
  subst hsz
  have hD := hD0.self (sz := s.heap.size)
  generalize hAe : va_A (wX q cI S) s.heap.size = A at hD ⊢
  have hA : ∀ q : Nat, s.heap.size ≤ q → A q := fun q h => by rw [← hAe]; exact Or.inr h
  have hS : va_S A s.heap s.heap [] := va_S.rf
  have hx := B.exec
  have hb := B.bytes
  have hr := B.returns
  have hts := fun w (h : w ∈ bg) => atoms_spec (ws := .code y_X_order b_X_order 3 (some .int) :: bg) B.pre w (List.mem_cons_of_mem _ h)
  have hown : s.vm.findClass R_X = some m.cls := findClass_of_methodNamed B.named
  have hlocks := B.notSynchronized
  have hl := lv_entry ([.ref (q 0), .int x, .int v]) (n := 3) (Nat.le_of_ble_eq_true rfl)
  rw [lg_entry_eq]
  generalize (lg_sl ([.ref (q 0), .int x, .int v]) ++ List.replicate (3 - (lg_sl ([.ref (q 0), .int x, .int v])).length) Slot.unset).toArray = ls at hl ⊢
  have hl : lv_has ls 3 [(0, .ref (q 0)), (1, .int x), (2, .int v)] := hl
  have hB := hI.1
  have hg0 : S.2.1 0 ≤ 8 := hI.2.1 0
  have hg1 : S.2.1 1 ≤ 9999 := hI.2.1 1
  have hg2 : S.2.1 2 ≤ 60 := hI.2.1 2
  have hg3 : S.2.1 3 ≤ 60 := hI.2.1 3
  have hg4 : S.2.1 4 ≤ 80 := hI.2.1 4
  have hg5 : S.2.1 5 ≤ 20 := hI.2.1 5
  have hg6 : S.2.1 6 ≤ 80 := hI.2.1 6
  have hg7 : S.2.1 7 ≤ 10 := hI.2.1 7
  have hg8 : t ≤ 512 := hI.2.2
  refine lv_aload_n hx hb d_X_order_0 rfl (lv_at hl 0 rfl) ?_
  refine va_get (D := (dC, dI)) (ci := 0) (v := .ref (q 3)) (C := R_X) (T := F_X) (N := 12) hx hb hts i_X hown hK hP 0 rfl rfl 2 (by decide) (hts _ wd_59) (fun _ h9 => h9) rfl d_X_order_1 ?_
  refine lv_iload_n hx hb d_X_order_4 rfl (lv_at hl 1 rfl) ?_
  refine lv_iload_n hx hb d_X_order_5 rfl (lv_at hl 2 rfl) ?_
  refine nv_go (vx_runS (As := [.ref (q 3), .int x, .int v]) (rest := []) ⟨hx, hb, hml, hown, hts⟩ (c_X_cell l hst dC dI A0 cI (q 3) (q 13) 80 (S.2.1 4) 400 (rowf S.1 10) x v (by omega) (by decide)) (cwS 3 hts (gi_S wd_399 wd_400 wd_1 wd_401) rfl rfl rfl (by decide +kernel) ⟨Nat.le_of_ble_eq_true rfl, Nat.le_of_ble_eq_true rfl⟩) (nd_preS hK (hP.sub [3, 13] rfl) hG) rfl rfl hl.1 rfl (lv_room (Nat.le_of_ble_eq_true rfl)) d_X_order_6 ⟨Nat.le_of_ble_eq_true rfl, Nat.le_of_ble_eq_true rfl⟩) (fun p6 ce q9 H1 h1 h2 h3 h4 h5 => vx_out (fun x hx => (hnt x hx).elim) hlocks h3 h4 h5 (fun t ht hv => ⟨by unfold op_order; split <;> first | exact Nat.zero_lt_one | (split <;> first | exact Nat.zero_lt_one | exact absurd ⟨by assumption, by assumption⟩ p6), by unfold op_order; split <;> first | rfl | (split <;> first | rfl | exact absurd ⟨by assumption, by assumption⟩ p6), by rw [ht]; exact h1, fun z hz => by rw [ht]; exact h2 z hz⟩) (fun q h => nomatch h) (Nat.le_of_ble_eq_true rfl) (Nat.le_of_ble_eq_true rfl)) (fun p6 => ?_)
  have h5 := (ok_of p6.2).2
  have ho : op_order S x v = (0, nI (S.1 (10 + nn v) (nn x)), S) := by simp only [op_order, if_pos p6.1, if_pos p6.2]
  rw [ho]
  refine nv_as (nI (S.1 (10 + nn v) (nn x))) (rowf_at h5) ?_
  refine W.widen (k := 2) (n := 12) (Nat.le_of_ble_eq_true rfl) (Nat.le_of_ble_eq_true rfl) ?_
  have hP9 : va_P (dC, dI) classes (wX q cI (S)) s.heap := hP
  exact vx_ret (W.iret hx hb hr (fun t ht hW => ⟨rfl, rfl, by rw [ht]; exact hP9, hS.F ht⟩) hS.2.2 d_X_order_9)
set_option maxHeartbeats 4000000 in
set_option maxRecDepth 100000 in
theorem c_X_difference (l : Launch) (hst : l.stackTraces = false) (dC : Nat → ClassId) (dI : Nat → Nat → Nat) (A0 : Nat → Prop) (sz : Nat) (cI : ClassId) (q : Nat → Nat) (S : St) (t : Nat) (hI : Bd t S) (x v : Int32) : vx_Met l y_X_difference (.code y_X_difference b_X_difference 3 (some .int) :: bg) { frames := 8, cells := 2, slots := 12, locals := 133 } (xo_P (dC, dI) classes [(cI, .int)] A0 (wX q cI S) sz [.ref (q 0), .int x, .int v]) (xo_Q (op_difference S x v) (some (.int (op_difference S x v).2.1)) (dC, dI) classes (wX q cI (op_difference S x v).2.2) (va_A (wX q cI S) sz)) (xo_X (op_difference S x v) [E_ia]) 2 12 (va_A (wX q cI S) sz) := by
  refine vx_ofW (cc := b_X_difference) (maxL := 3) (ret := (some .int)) (by decide) rfl ?_
  intro p e s m args below meth c s₁ B hml hnt hv
  obtain ⟨rfl, hsz, hP, hK, hD0, hG⟩ := hv
  subst hsz
  have hD := hD0.self (sz := s.heap.size)
  generalize hAe : va_A (wX q cI S) s.heap.size = A at hD ⊢
  have hA : ∀ q : Nat, s.heap.size ≤ q → A q := fun q h => by rw [← hAe]; exact Or.inr h
  have hS : va_S A s.heap s.heap [] := va_S.rf
  have hx := B.exec
  have hb := B.bytes
  have hr := B.returns
  have hts := fun w (h : w ∈ bg) => atoms_spec (ws := .code y_X_difference b_X_difference 3 (some .int) :: bg) B.pre w (List.mem_cons_of_mem _ h)
  have hown : s.vm.findClass R_X = some m.cls := findClass_of_methodNamed B.named
  have hlocks := B.notSynchronized
  have hl := lv_entry ([.ref (q 0), .int x, .int v]) (n := 3) (Nat.le_of_ble_eq_true rfl)
  rw [lg_entry_eq]
  generalize (lg_sl ([.ref (q 0), .int x, .int v]) ++ List.replicate (3 - (lg_sl ([.ref (q 0), .int x, .int v])).length) Slot.unset).toArray = ls at hl ⊢
  have hl : lv_has ls 3 [(0, .ref (q 0)), (1, .int x), (2, .int v)] := hl
  have hB := hI.1
  have hg0 : S.2.1 0 ≤ 8 := hI.2.1 0
  have hg1 : S.2.1 1 ≤ 9999 := hI.2.1 1
  have hg2 : S.2.1 2 ≤ 60 := hI.2.1 2
  have hg3 : S.2.1 3 ≤ 60 := hI.2.1 3
  have hg4 : S.2.1 4 ≤ 80 := hI.2.1 4
  have hg5 : S.2.1 5 ≤ 20 := hI.2.1 5
  have hg6 : S.2.1 6 ≤ 80 := hI.2.1 6
  have hg7 : S.2.1 7 ≤ 10 := hI.2.1 7
  have hg8 : t ≤ 512 := hI.2.2
  refine lv_aload_n hx hb d_X_difference_0 rfl (lv_at hl 0 rfl) ?_
  refine va_get (D := (dC, dI)) (ci := 0) (v := .ref (q 5)) (C := R_X) (T := F_X) (N := 12) hx hb hts i_X hown hK hP 0 rfl rfl 4 (by decide) (hts _ wd_61) (fun _ h9 => h9) rfl d_X_difference_1 ?_
  refine lv_iload_n hx hb d_X_difference_4 rfl (lv_at hl 1 rfl) ?_
  refine lv_iload_n hx hb d_X_difference_5 rfl (lv_at hl 2 rfl) ?_
  refine nv_go (vx_runS (As := [.ref (q 5), .int x, .int v]) (rest := []) ⟨hx, hb, hml, hown, hts⟩ (c_X_cell l hst dC dI A0 cI (q 5) (q 15) 80 (S.2.1 6) 400 (rowd S.1 S.2.2) x v (by omega) (by decide)) (cwS 3 hts (gi_S wd_399 wd_400 wd_1 wd_401) rfl rfl rfl (by decide +kernel) ⟨Nat.le_of_ble_eq_true rfl, Nat.le_of_ble_eq_true rfl⟩) (nd_preS hK (hP.sub [5, 15] rfl) hG) rfl rfl hl.1 rfl (lv_room (Nat.le_of_ble_eq_true rfl)) d_X_difference_6 ⟨Nat.le_of_ble_eq_true rfl, Nat.le_of_ble_eq_true rfl⟩) (fun p6 ce q9 H1 h1 h2 h3 h4 h5 => vx_out (fun x hx => (hnt x hx).elim) hlocks h3 h4 h5 (fun t ht hv => ⟨by unfold op_difference; split <;> first | exact Nat.zero_lt_one | (split <;> first | exact Nat.zero_lt_one | exact absurd ⟨by assumption, by assumption⟩ p6), by unfold op_difference; split <;> first | rfl | (split <;> first | rfl | exact absurd ⟨by assumption, by assumption⟩ p6), by rw [ht]; exact h1, fun z hz => by rw [ht]; exact h2 z hz⟩) (fun q h => nomatch h) (Nat.le_of_ble_eq_true rfl) (Nat.le_of_ble_eq_true rfl)) (fun p6 => ?_)
  have h5 := (ok_of p6.2).2
  have ho : op_difference S x v = (0, if nn v = 2 then S.2.2 (nn x) else nI (S.1 (20 + nn v) (nn x)), S) := by simp only [op_difference, if_pos p6.1, if_pos p6.2]
  rw [ho]
  refine nv_as (if nn v = 2 then S.2.2 (nn x) else nI (S.1 (20 + nn v) (nn x))) (by by_cases hv2 : nn v = 2; rw [if_pos hv2, hv2]; exact rowd_at2; rw [if_neg hv2]; exact rowd_at h5 hv2) ?_
  refine W.widen (k := 2) (n := 12) (Nat.le_of_ble_eq_true rfl) (Nat.le_of_ble_eq_true rfl) ?_
  have hP9 : va_P (dC, dI) classes (wX q cI (S)) s.heap := hP
  exact vx_ret (W.iret hx hb hr (fun t ht hW => ⟨rfl, rfl, by rw [ht]; exact hP9, hS.F ht⟩) hS.2.2 d_X_difference_9)
set_option maxHeartbeats 4000000 in
set_option maxRecDepth 100000 in
theorem c_X_lotAt (l : Launch) (hst : l.stackTraces = false) (dC : Nat → ClassId) (dI : Nat → Nat → Nat) (A0 : Nat → Prop) (sz : Nat) (cI : ClassId) (q : Nat → Nat) (S : St) (t : Nat) (hI : Bd t S) (x v : Int32) : vx_Met l y_X_lotAt (.code y_X_lotAt b_X_lotAt 3 (some .int) :: bg) { frames := 8, cells := 3, slots := 18, locals := 133 } (xo_P (dC, dI) classes [(cI, .int)] A0 (wX q cI S) sz [.ref (q 0), .int x, .int v]) (xo_Q (op_lotAt S x v) (some (.int (op_lotAt S x v).2.1)) (dC, dI) classes (wX q cI (op_lotAt S x v).2.2) (va_A (wX q cI S) sz)) (xo_X (op_lotAt S x v) [E_ia]) 3 18 (va_A (wX q cI S) sz) := by
  refine vx_ofW (cc := b_X_lotAt) (maxL := 3) (ret := (some .int)) (by decide) rfl ?_
  intro p e s m args below meth c s₁ B hml hnt hv
  obtain ⟨rfl, hsz, hP, hK, hD0, hG⟩ := hv
  subst hsz
  have hD := hD0.self (sz := s.heap.size)
  generalize hAe : va_A (wX q cI S) s.heap.size = A at hD ⊢
  have hA : ∀ q : Nat, s.heap.size ≤ q → A q := fun q h => by rw [← hAe]; exact Or.inr h
  have hS : va_S A s.heap s.heap [] := va_S.rf
  have hx := B.exec
  have hb := B.bytes
  have hr := B.returns
  have hts := fun w (h : w ∈ bg) => atoms_spec (ws := .code y_X_lotAt b_X_lotAt 3 (some .int) :: bg) B.pre w (List.mem_cons_of_mem _ h)
  have hown : s.vm.findClass R_X = some m.cls := findClass_of_methodNamed B.named
  have hlocks := B.notSynchronized
  have hl := lv_entry ([.ref (q 0), .int x, .int v]) (n := 3) (Nat.le_of_ble_eq_true rfl)
  rw [lg_entry_eq]
  generalize (lg_sl ([.ref (q 0), .int x, .int v]) ++ List.replicate (3 - (lg_sl ([.ref (q 0), .int x, .int v])).length) Slot.unset).toArray = ls at hl ⊢
  have hl : lv_has ls 3 [(0, .ref (q 0)), (1, .int x), (2, .int v)] := hl
  have hB := hI.1
  have hg0 : S.2.1 0 ≤ 8 := hI.2.1 0
  have hg1 : S.2.1 1 ≤ 9999 := hI.2.1 1
  have hg2 : S.2.1 2 ≤ 60 := hI.2.1 2
  have hg3 : S.2.1 3 ≤ 60 := hI.2.1 3
  have hg4 : S.2.1 4 ≤ 80 := hI.2.1 4
  have hg5 : S.2.1 5 ≤ 20 := hI.2.1 5
  have hg6 : S.2.1 6 ≤ 80 := hI.2.1 6
  have hg7 : S.2.1 7 ≤ 10 := hI.2.1 7
  have hg8 : t ≤ 512 := hI.2.2
  refine lv_aload_n hx hb d_X_lotAt_0 rfl (lv_at hl 0 rfl) ?_
  refine lv_iload_n hx hb d_X_lotAt_1 rfl (lv_at hl 1 rfl) ?_
  refine nd_go (vx_runV (As := [.int x]) (rest := []) ⟨hx, hb, hml, hown, hts⟩ (c_X_needLot l hst dC dI A0 cI q S t hI x) (cwV 1 hts (gi_V wd_288 wd_290 wp_8 wd_1 wd_291) rfl rfl rfl (by decide +kernel) ⟨Nat.le_of_ble_eq_true rfl, Nat.le_of_ble_eq_true rfl⟩) (nd_preV hK hP hG (ci := 0) (q0 := 0) rfl rfl) rfl rfl hl.1 rfl (lv_room (Nat.le_of_ble_eq_true rfl)) d_X_lotAt_2 ⟨Nat.le_of_ble_eq_true rfl, Nat.le_of_ble_eq_true rfl⟩) (fun p2 ce q9 H1 h1 h2 h3 h4 h5 => vx_out (fun x hx => (hnt x hx).elim) hlocks h3 h4 h5 (fun t ht hv => ⟨by simp only [op_lotAt, if_neg p2]; decide, by simp only [op_lotAt, if_neg p2]; rfl, by rw [ht]; exact h1, fun z hz => by rw [ht]; exact h2 z hz⟩) (fun q h => nomatch h) (Nat.le_of_ble_eq_true rfl) (Nat.le_of_ble_eq_true rfl)) (fun p2 => ?_)
  obtain ⟨a1, ha1, rfl⟩ := ok_ex p2
  have ma1 : nn (nI a1) = a1 := nn_of (by omega)
  refine lv_iload_n hx hb d_X_lotAt_5 rfl (lv_at hl 2 rfl) ?_
  refine lv_iconst (v := nI 5) hx hb d_X_lotAt_6 (by decide) ?_
  refine lv_icmp_ne (tgt := 16) hx hb d_X_lotAt_7 (by decide) (fun c7 => ?_) (fun c7 => ?_)
  · have q7 : ¬ v = 5 := fun h => c7 (h.trans (by decide))
    refine lv_aload_n hx hb d_X_lotAt_16 rfl (lv_at hl 0 rfl) ?_
    refine va_get (D := (dC, dI)) (ci := 0) (v := .ref (q 1)) (C := R_X) (T := F_X) (N := 12) hx hb hts i_X hown hK hP 0 rfl rfl 0 (by decide) (hts _ wd_57) (fun _ h9 => h9) rfl d_X_lotAt_17 ?_
    refine lv_iload_n hx hb d_X_lotAt_20 rfl (lv_at hl 1 rfl) ?_
    refine lv_iload_n hx hb d_X_lotAt_21 rfl (lv_at hl 2 rfl) ?_
    refine nv_go (vx_runS (As := [.ref (q 1), .int (nI a1), .int v]) (rest := []) ⟨hx, hb, hml, hown, hts⟩ (c_X_cell l hst dC dI A0 cI (q 1) (q 11) 60 (S.2.1 2) 300 (rowf S.1 0) (nI a1) v (by omega) (by decide)) (cwS 3 hts (gi_S wd_399 wd_400 wd_1 wd_401) rfl rfl rfl (by decide +kernel) ⟨Nat.le_of_ble_eq_true rfl, Nat.le_of_ble_eq_true rfl⟩) (nd_preS hK (hP.sub [1, 11] rfl) hG) rfl rfl hl.1 rfl (lv_room (Nat.le_of_ble_eq_true rfl)) d_X_lotAt_22 ⟨Nat.le_of_ble_eq_true rfl, Nat.le_of_ble_eq_true rfl⟩) (fun p22 ce q9 H1 h1 h2 h3 h4 h5 => vx_out (fun x hx => (hnt x hx).elim) hlocks h3 h4 h5 (fun t ht hv => ⟨by simp only [op_lotAt, if_pos p2, if_neg q7, if_neg (show ¬ ok v 5 = true from fun h => p22 ⟨p2, h⟩)]; decide, by simp only [op_lotAt, if_pos p2, if_neg q7, if_neg (show ¬ ok v 5 = true from fun h => p22 ⟨p2, h⟩)]; rfl, by rw [ht]; exact h1, fun z hz => by rw [ht]; exact h2 z hz⟩) (fun q h => nomatch h) (Nat.le_of_ble_eq_true rfl) (Nat.le_of_ble_eq_true rfl)) (fun p22 => ?_)
    have h5 := (ok_of p22.2).2
    have ho : op_lotAt S (nI a1) v = (0, nI (S.1 (nn v) a1), S) := by simp only [op_lotAt, ma1, if_pos p2, if_neg q7, if_pos p22.2]
    rw [ho]
    refine nv_as (nI (S.1 (nn v) a1)) (by rw [ma1]; exact (rowf_at h5).trans (by rw [Nat.zero_add])) ?_
    refine W.widen (k := 3) (n := 18) (Nat.le_of_ble_eq_true rfl) (Nat.le_of_ble_eq_true rfl) ?_
    have hP9 : va_P (dC, dI) classes (wX q cI (S)) s.heap := hP
    exact vx_ret (W.iret hx hb hr (fun t ht hW => ⟨rfl, rfl, by rw [ht]; exact hP9, hS.F ht⟩) hS.2.2 d_X_lotAt_25)
  · have q7 : v = 5 := c7.trans (by decide)
    refine lv_aload_n hx hb d_X_lotAt_10 rfl (lv_at hl 0 rfl) ?_
    refine lv_iload_n hx hb d_X_lotAt_11 rfl (lv_at hl 1 rfl) ?_
    refine pu_go (va_runV (As := [.int (nI a1)]) (rest := []) ⟨hx, hb, hml, hown, hts⟩ (c_X_inAllStores l dC dI cI q S t hI a1 (by omega)) (cwV 1 hts (gi_V wd_497 wd_499 wp_19 wd_1 wd_500) rfl rfl rfl (by decide +kernel) ⟨Nat.le_of_ble_eq_true rfl, Nat.le_of_ble_eq_true rfl⟩) (pu_preV hK hP (ci := 0) (q0 := 0) rfl rfl) rfl rfl hl.1 rfl (lv_room (Nat.le_of_ble_eq_true rfl)) d_X_lotAt_12 ⟨Nat.le_of_ble_eq_true rfl, Nat.le_of_ble_eq_true rfl⟩) ?_
    have ho : op_lotAt S (nI a1) v = (0, nI (allIn S a1), S) := by simp only [op_lotAt, ma1, if_pos p2, if_pos q7]
    rw [ho]
    refine W.widen (k := 3) (n := 18) (Nat.le_of_ble_eq_true rfl) (Nat.le_of_ble_eq_true rfl) ?_
    have hP9 : va_P (dC, dI) classes (wX q cI (S)) s.heap := hP
    exact vx_ret (W.iret hx hb hr (fun t ht hW => ⟨rfl, rfl, by rw [ht]; exact hP9, hS.F ht⟩) hS.2.2 d_X_lotAt_15)
set_option maxHeartbeats 4000000 in
set_option maxRecDepth 100000 in
theorem c_X_count (l : Launch) (hst : l.stackTraces = false) (dC : Nat → ClassId) (dI : Nat → Nat → Nat) (A0 : Nat → Prop) (sz : Nat) (cI : ClassId) (q : Nat → Nat) (S : St) (t : Nat) (hI : Bd t S) (x y n v : Int32) : vx_Met l y_X_count (.code y_X_count b_X_count 6 (some .int) :: bg) { frames := 8, cells := 5, slots := 30, locals := 132 } (xo_P (dC, dI) classes [(cI, .int)] A0 (wX q cI S) sz [.ref (q 0), .int x, .int y, .int n, .int v]) (xo_Q (op_count S x y n v) (some (.int (op_count S x y n v).2.1)) (dC, dI) classes (wX q cI (op_count S x y n v).2.2) (va_A (wX q cI S) sz)) (xo_X (op_count S x y n v) [E_ia, E_io, E_uo]) 5 30 (va_A (wX q cI S) sz) := by
  refine vx_ofW (cc := b_X_count) (maxL := 6) (ret := (some .int)) (by decide) rfl ?_
  intro p e s m args below meth c s₁ B hml hnt hv
  obtain ⟨rfl, hsz, hP, hK, hD0, hG⟩ := hv
  subst hsz
  have hD := hD0.self (sz := s.heap.size)
  generalize hAe : va_A (wX q cI S) s.heap.size = A at hD ⊢
  have hA : ∀ q : Nat, s.heap.size ≤ q → A q := fun q h => by rw [← hAe]; exact Or.inr h
  have hS : va_S A s.heap s.heap [] := va_S.rf
  have hx := B.exec
  have hb := B.bytes
  have hr := B.returns
  have hts := fun w (h : w ∈ bg) => atoms_spec (ws := .code y_X_count b_X_count 6 (some .int) :: bg) B.pre w (List.mem_cons_of_mem _ h)
  have hown : s.vm.findClass R_X = some m.cls := findClass_of_methodNamed B.named
  have hlocks := B.notSynchronized
  have hl := lv_entry ([.ref (q 0), .int x, .int y, .int n, .int v]) (n := 6) (Nat.le_of_ble_eq_true rfl)
  rw [lg_entry_eq]
  generalize (lg_sl ([.ref (q 0), .int x, .int y, .int n, .int v]) ++ List.replicate (6 - (lg_sl ([.ref (q 0), .int x, .int y, .int n, .int v])).length) Slot.unset).toArray = ls at hl ⊢
  have hl : lv_has ls 6 [(0, .ref (q 0)), (1, .int x), (2, .int y), (3, .int n), (4, .int v)] := hl
  have hB := hI.1
  have hg0 : S.2.1 0 ≤ 8 := hI.2.1 0
  have hg1 : S.2.1 1 ≤ 9999 := hI.2.1 1
  have hg2 : S.2.1 2 ≤ 60 := hI.2.1 2
  have hg3 : S.2.1 3 ≤ 60 := hI.2.1 3
  have hg4 : S.2.1 4 ≤ 80 := hI.2.1 4
  have hg5 : S.2.1 5 ≤ 20 := hI.2.1 5
  have hg6 : S.2.1 6 ≤ 80 := hI.2.1 6
  have hg7 : S.2.1 7 ≤ 10 := hI.2.1 7
  have hg8 : t ≤ 512 := hI.2.2
  refine lv_aload_n hx hb d_X_count_0 rfl (lv_at hl 0 rfl) ?_
  refine lv_iload_n hx hb d_X_count_1 rfl (lv_at hl 1 rfl) ?_
  refine nd_go (vx_runV (As := [.int x]) (rest := []) ⟨hx, hb, hml, hown, hts⟩ (c_X_needStore l hst dC dI A0 cI q S t hI x) (cwV 1 hts (gi_V wd_283 wd_285 wp_7 wd_1 wd_286) rfl rfl rfl (by decide +kernel) ⟨Nat.le_of_ble_eq_true rfl, Nat.le_of_ble_eq_true rfl⟩) (nd_preV hK hP hG (ci := 0) (q0 := 0) rfl rfl) rfl rfl hl.1 rfl (lv_room (Nat.le_of_ble_eq_true rfl)) d_X_count_2 ⟨Nat.le_of_ble_eq_true rfl, Nat.le_of_ble_eq_true rfl⟩) (fun p2 ce q9 H1 h1 h2 h3 h4 h5 => vx_out (fun x hx => (hnt x hx).elim) hlocks h3 h4 h5 (fun t ht hv => ⟨by simp only [op_count, if_neg p2]; decide, by simp only [op_count, if_neg p2]; rfl, by rw [ht]; exact h1, fun z hz => by rw [ht]; exact h2 z hz⟩) (fun q h => nomatch h) (Nat.le_of_ble_eq_true rfl) (Nat.le_of_ble_eq_true rfl)) (fun p2 => ?_)
  obtain ⟨a1, ha1, rfl⟩ := ok_ex p2
  have ma1 : nn (nI a1) = a1 := nn_of (by omega)
  refine lv_aload_n hx hb d_X_count_5 rfl (lv_at hl 0 rfl) ?_
  refine lv_iload_n hx hb d_X_count_6 rfl (lv_at hl 2 rfl) ?_
  refine nd_go (vx_runV (As := [.int y]) (rest := []) ⟨hx, hb, hml, hown, hts⟩ (c_X_needLot l hst dC dI A0 cI q S t hI y) (cwV 1 hts (gi_V wd_288 wd_290 wp_8 wd_1 wd_291) rfl rfl rfl (by decide +kernel) ⟨Nat.le_of_ble_eq_true rfl, Nat.le_of_ble_eq_true rfl⟩) (nd_preV hK hP hG (ci := 0) (q0 := 0) rfl rfl) rfl rfl hl.1 rfl (lv_room (Nat.le_of_ble_eq_true rfl)) d_X_count_7 ⟨Nat.le_of_ble_eq_true rfl, Nat.le_of_ble_eq_true rfl⟩) (fun p7 ce q9 H1 h1 h2 h3 h4 h5 => vx_out (fun x hx => (hnt x hx).elim) hlocks h3 h4 h5 (fun t ht hv => ⟨by simp only [op_count, ma1, if_pos p2, if_neg p7]; decide, by simp only [op_count, ma1, if_pos p2, if_neg p7]; rfl, by rw [ht]; exact h1, fun z hz => by rw [ht]; exact h2 z hz⟩) (fun q h => nomatch h) (Nat.le_of_ble_eq_true rfl) (Nat.le_of_ble_eq_true rfl)) (fun p7 => ?_)
  obtain ⟨a2, ha2, rfl⟩ := ok_ex p7
  have ma2 : nn (nI a2) = a2 := nn_of (by omega)
  refine lv_iload_n hx hb d_X_count_10 rfl (lv_at hl 3 rfl) ?_
  refine lv_iconst (v := nI 0) hx hb d_X_count_11 (by decide) ?_
  refine lv_sipush (v := nI 9999) hx hb d_X_count_12 (by decide) ?_
  refine nd_go (vx_runS (As := [.int n, .int (nI 0), .int (nI 9999)]) (rest := []) ⟨hx, hb, hml, hown, hts⟩ (c_X_needRange l hst dC dI A0 n 0 9999 (by omega) (by omega)) (cwS 3 hts (gi_S wd_253 wd_254 wd_1 wd_255) rfl rfl rfl (by decide +kernel) ⟨Nat.le_of_ble_eq_true rfl, Nat.le_of_ble_eq_true rfl⟩) (nd_preS (hK.sub (tys' := []) [] rfl) (fun k q h => by simp at h) hG) rfl rfl hl.1 rfl (lv_room (Nat.le_of_ble_eq_true rfl)) d_X_count_15 ⟨Nat.le_of_ble_eq_true rfl, Nat.le_of_ble_eq_true rfl⟩) (fun p15 ce q9 H1 h1 h2 h3 h4 h5 => vx_out (fun x hx => (hnt x hx).elim) hlocks h3 h4 h5 (fun t ht hv => ⟨by simp only [op_count, ma1, if_pos p2, ma2, if_pos p7, if_neg p15]; decide, by simp only [op_count, ma1, if_pos p2, ma2, if_pos p7, if_neg p15]; rfl, by rw [ht]; exact h1, fun z hz => by rw [ht]; exact h2 z hz⟩) (fun q h => nomatch h) (Nat.le_of_ble_eq_true rfl) (Nat.le_of_ble_eq_true rfl)) (fun p15 => ?_)
  obtain ⟨a3, ga3, ha3, rfl⟩ := rg_ex p15
  have ma3 : nn (nI a3) = a3 := nn_of (by omega)
  refine lv_iload hx hb d_X_count_18 (lv_at hl 4 rfl) ?_
  refine lv_iconst (v := nI 1) hx hb d_X_count_20 (by decide) ?_
  refine lv_bipush (v := nI 99) hx hb d_X_count_21 (by decide) ?_
  refine nd_go (vx_runS (As := [.int v, .int (nI 1), .int (nI 99)]) (rest := []) ⟨hx, hb, hml, hown, hts⟩ (c_X_needRange l hst dC dI A0 v 1 99 (by omega) (by omega)) (cwS 3 hts (gi_S wd_253 wd_254 wd_1 wd_255) rfl rfl rfl (by decide +kernel) ⟨Nat.le_of_ble_eq_true rfl, Nat.le_of_ble_eq_true rfl⟩) (nd_preS (hK.sub (tys' := []) [] rfl) (fun k q h => by simp at h) hG) rfl rfl hl.1 rfl (lv_room (Nat.le_of_ble_eq_true rfl)) d_X_count_23 ⟨Nat.le_of_ble_eq_true rfl, Nat.le_of_ble_eq_true rfl⟩) (fun p23 ce q9 H1 h1 h2 h3 h4 h5 => vx_out (fun x hx => (hnt x hx).elim) hlocks h3 h4 h5 (fun t ht hv => ⟨by simp only [op_count, ma1, if_pos p2, ma2, if_pos p7, ma3, if_pos p15, if_neg p23]; decide, by simp only [op_count, ma1, if_pos p2, ma2, if_pos p7, ma3, if_pos p15, if_neg p23]; rfl, by rw [ht]; exact h1, fun z hz => by rw [ht]; exact h2 z hz⟩) (fun q h => nomatch h) (Nat.le_of_ble_eq_true rfl) (Nat.le_of_ble_eq_true rfl)) (fun p23 => ?_)
  obtain ⟨a4, ga4, ha4, rfl⟩ := rg_ex p23
  have ma4 : nn (nI a4) = a4 := nn_of (by omega)
  refine lv_iload_n hx hb d_X_count_26 rfl (lv_at hl 3 rfl) ?_
  refine lv_aload_n hx hb d_X_count_27 rfl (lv_at hl 0 rfl) ?_
  refine va_get (D := (dC, dI)) (ci := 0) (v := .ref (q 7)) (C := R_X) (T := F_X) (N := 12) hx hb hts i_X hown hK hP 0 rfl rfl 6 (by decide) (hts _ wd_63) (fun _ h9 => h9) rfl d_X_count_28 ?_
  refine lv_iload_n hx hb d_X_count_31 rfl (lv_at hl 1 rfl) ?_
  refine lv_iload_n hx hb d_X_count_32 rfl (lv_at hl 2 rfl) ?_
  refine pu_go (va_runS (As := [.int (nI a1), .int (nI a2)]) (rest := [.ref (q 7), .int (nI a3)]) ⟨hx, hb, hml, hown, hts⟩ (c_X_place l dC dI a1 a2) (cwS 2 hts (gi_S wd_125 wd_126 wd_1 wd_127) rfl rfl rfl (by decide +kernel) ⟨Nat.le_of_ble_eq_true rfl, Nat.le_of_ble_eq_true rfl⟩) (pu_preS (hK.sub (tys' := []) [] rfl) (fun k q h => by simp at h)) rfl rfl hl.1 rfl (lv_room (Nat.le_of_ble_eq_true rfl)) d_X_count_33 ⟨Nat.le_of_ble_eq_true rfl, Nat.le_of_ble_eq_true rfl⟩) ?_
  refine nv_iald (v := nI (S.1 25 (a1 * 60 + a2))) hx hb hK hP 7 0 rfl rfl (by omega) (by decide) rfl d_X_count_36 ?_
  have hb36 : S.1 25 (a1 * 60 + a2) ≤ 9999 := hB 25 _
  refine lv_isub hx hb d_X_count_37 ?_
  refine lv_istore (lv' := [(5, .int ((nI a3) - (nI (S.1 25 (a1 * 60 + a2))))), (0, .ref (q 0)), (1, .int (nI a1)), (2, .int (nI a2)), (3, .int (nI a3)), (4, .int (nI a4))]) hx hb d_X_count_38 hl (by decide) rfl (fun ls hl => ?_)
  refine lv_iload hx hb d_X_count_40 (lv_at hl 0 rfl) ?_
  refine lv_if_ne (tgt := 47) hx hb d_X_count_42 (by decide) (fun c42 => ?_) (fun c42 => ?_)
  · have q42 : ¬ a3 = S.1 25 (a1 * 60 + a2) := sub_n0 c42
    refine lv_aload_n hx hb d_X_count_47 rfl (lv_at hl 1 rfl) ?_
    refine va_get (D := (dC, dI)) (ci := 0) (v := .ref (q 5)) (C := R_X) (T := F_X) (N := 12) hx hb hts i_X hown hK hP 0 rfl rfl 4 (by decide) (hts _ wd_61) (fun _ h9 => h9) rfl d_X_count_48 ?_
    refine nd_go (vx_runS (As := [.ref (q 5)]) (rest := []) ⟨hx, hb, hml, hown, hts⟩ (c_X_needRoom l hst dC dI A0 cI (q 5) (q 15) 80 (S.2.1 6) 400 (rowd S.1 S.2.2) (by omega) (by omega)) (cwS 1 hts (gi_S wd_272 wd_273 wd_1 wd_274) rfl rfl rfl (by decide +kernel) ⟨Nat.le_of_ble_eq_true rfl, Nat.le_of_ble_eq_true rfl⟩) (nd_preS hK (hP.sub [5, 15] rfl) hG) rfl rfl hl.1 rfl (lv_room (Nat.le_of_ble_eq_true rfl)) d_X_count_51 ⟨Nat.le_of_ble_eq_true rfl, Nat.le_of_ble_eq_true rfl⟩) (fun p51 ce q9 H1 h1 h2 h3 h4 h5 => vx_out (fun x hx => (hnt x hx).elim) hlocks h3 h4 h5 (fun t ht hv => ⟨by simp only [op_count, ma1, if_pos p2, ma2, if_pos p7, ma3, if_pos p15, ma4, if_pos p23, if_neg q42, if_neg p51]; decide, by simp only [op_count, ma1, if_pos p2, ma2, if_pos p7, ma3, if_pos p15, ma4, if_pos p23, if_neg q42, if_neg p51]; rfl, by rw [ht]; exact h1, fun z hz => by rw [ht]; exact h2 z hz⟩) (fun q h => nomatch h) (Nat.le_of_ble_eq_true rfl) (Nat.le_of_ble_eq_true rfl)) (fun p51 => ?_)
    refine lv_aload_n hx hb d_X_count_54 rfl (lv_at hl 1 rfl) ?_
    refine lv_iload_n hx hb d_X_count_55 rfl (lv_at hl 2 rfl) ?_
    refine lv_iload_n hx hb d_X_count_56 rfl (lv_at hl 3 rfl) ?_
    refine lv_iload hx hb d_X_count_57 (lv_at hl 0 rfl) ?_
    refine wr_goA (va_runV (As := [.int (nI a1), .int (nI a2), .int ((nI a3) - (nI (S.1 25 (a1 * 60 + a2))))]) (rest := []) ⟨hx, hb, hml, hown, hts⟩ (c_X_change l dC dI s.heap.size cI q S t hI a1 a2 a3 ((nI a3) - (nI (S.1 25 (a1 * 60 + a2)))) (by omega) (by omega) add_sub) (cwV 3 hts (gi_V wd_305 wd_307 wp_10 wd_1 wd_308) rfl rfl rfl (by decide +kernel) ⟨Nat.le_of_ble_eq_true rfl, Nat.le_of_ble_eq_true rfl⟩) (wr_preV hK hP hD (ci := 0) (q0 := 0) rfl rfl) rfl rfl hl.1 rfl (lv_room (Nat.le_of_ble_eq_true rfl)) d_X_count_59 ⟨Nat.le_of_ble_eq_true rfl, Nat.le_of_ble_eq_true rfl⟩) hD hS hA wX_adr (fun H locs hP hD hS => ?_)
    refine W.eq (g2 := F0 m 62 ls []) rfl ?_
    obtain ⟨S1, hS1⟩ : ∃ z : St, z = S_a S 25 (a1 * 60 + a2) a3 := ⟨_, rfl⟩
    rw [← hS1] at hP hD
    have hIS1 : Bd t S1 := by rw [hS1]; exact Bd_a hI (show _ ≤ 9999 by omega)
    have hBS1 := hIS1.1
    have hg0 : S1.2.1 0 ≤ 8 := hIS1.2.1 0
    have hg1 : S1.2.1 1 ≤ 9999 := hIS1.2.1 1
    have hg2 : S1.2.1 2 ≤ 60 := hIS1.2.1 2
    have hg3 : S1.2.1 3 ≤ 60 := hIS1.2.1 3
    have hg4 : S1.2.1 4 ≤ 80 := hIS1.2.1 4
    have hg5 : S1.2.1 5 ≤ 20 := hIS1.2.1 5
    have hg6 : S1.2.1 6 ≤ 80 := hIS1.2.1 6
    have hg7 : S1.2.1 7 ≤ 10 := hIS1.2.1 7
    have hg8 : t ≤ 512 := hIS1.2.2
    have r6 : S1.2.1 6 = S.2.1 6 := by rw [hS1]; rfl
    refine lv_aload_n hx hb d_X_count_62 rfl (lv_at hl 1 rfl) ?_
    refine va_get (D := (dC, dI)) (ci := 0) (v := .ref (q 5)) (C := R_X) (T := F_X) (N := 12) hx hb hts i_X hown hK hP 0 rfl rfl 4 (by decide) (hts _ wd_61) (fun _ h9 => h9) rfl d_X_count_63 ?_
    refine lv_iload_n hx hb d_X_count_66 rfl (lv_at hl 2 rfl) ?_
    refine lv_iload_n hx hb d_X_count_67 rfl (lv_at hl 3 rfl) ?_
    refine lv_iload hx hb d_X_count_68 (lv_at hl 0 rfl) ?_
    refine lv_iload hx hb d_X_count_70 (lv_at hl 5 rfl) ?_
    refine lv_aload_n hx hb d_X_count_72 rfl (lv_at hl 1 rfl) ?_
    refine va_get (D := (dC, dI)) (ci := 0) (v := .int (nI (S1.2.1 1))) (C := R_X) (T := F_X) (N := 12) hx hb hts i_X hown hK hP 0 rfl rfl 11 (by decide) (hts _ wd_68) (fun _ h9 => h9) rfl d_X_count_73 ?_
    refine wr_go (va_runV (As := [.int (nI a1), .int (nI a2), .int ((nI a3) - (nI (S.1 25 (a1 * 60 + a2)))), .int (nI a4), .int (nI (S1.2.1 1))]) (rest := []) ⟨hx, hb, hml, hown, hts⟩ (c_W_add l dC dI H.size cI (q 5) (q 15) 80 (S1.2.1 6) 400 (rowd S1.1 S1.2.2) (nI a1) (nI a2) ((nI a3) - (nI (S.1 25 (a1 * 60 + a2)))) (nI a4) (nI (S1.2.1 1)) (by omega) (by decide)) (cwV 5 hts (gi_V wd_140 wd_141 wd_142 wd_2 wd_143) rfl rfl rfl (by decide +kernel) ⟨Nat.le_of_ble_eq_true rfl, Nat.le_of_ble_eq_true rfl⟩) (wr_preV hK (hP.sub [5, 15] rfl) (hD.sub [5, 15] (by decide) rfl) (ci := 1) (q0 := 0) rfl rfl) rfl rfl hl.1 rfl (lv_room (Nat.le_of_ble_eq_true rfl)) d_X_count_76 ⟨Nat.le_of_ble_eq_true rfl, Nat.le_of_ble_eq_true rfl⟩) hP hD hS hA [5, 15] rfl rfl (wX q cI (addDif S1 a1 a2 (nI a3 - nI (S.1 25 (a1 * 60 + a2))) a4)) wX_add20 rfl (fun H locs hP hD hS => ?_)
    refine W.eq (g2 := F0 m 79 ls [.int (nI (S1.2.1 6))]) rfl ?_
    obtain ⟨S2, hS2⟩ : ∃ z : St, z = addDif S1 a1 a2 (nI a3 - nI (S.1 25 (a1 * 60 + a2))) a4 := ⟨_, rfl⟩
    rw [← hS2] at hP hD
    refine lv_pop hx hb d_X_count_79 rfl ?_
    refine lv_iload hx hb d_X_count_80 (lv_at hl 0 rfl) ?_
    have ho : op_count S (nI a1) (nI a2) (nI a3) (nI a4) = (0, nI a3 - nI (S.1 25 (a1 * 60 + a2)), addDif (S_a S 25 (a1 * 60 + a2) a3) a1 a2 (nI a3 - nI (S.1 25 (a1 * 60 + a2))) a4) := by simp only [op_count, ma1, if_pos p2, ma2, if_pos p7, ma3, if_pos p15, ma4, if_pos p23, if_neg q42, if_pos p51]
    rw [ho]
    refine nv_as (nI a3 - nI (S.1 25 (a1 * 60 + a2))) (by rfl) ?_
    refine W.widen (k := 5) (n := 30) (Nat.le_of_ble_eq_true rfl) (Nat.le_of_ble_eq_true rfl) ?_
    have hP9 : va_P (dC, dI) classes (wX q cI (addDif (S_a S 25 (a1 * 60 + a2) a3) a1 a2 (nI a3 - nI (S.1 25 (a1 * 60 + a2))) a4)) H := by rw [hS2, hS1] at hP; exact hP
    exact vx_ret (W.iret hx hb hr (fun t ht hW => ⟨rfl, rfl, by rw [ht]; exact hP9, hS.F ht⟩) hS.2.2 d_X_count_82)
  · have q42 : a3 = S.1 25 (a1 * 60 + a2) := sub_0 (by omega) (by omega) c42
    refine lv_iconst (v := nI 0) hx hb d_X_count_45 (by decide) ?_
    have ho : op_count S (nI a1) (nI a2) (nI a3) (nI a4) = (0, 0, S) := by simp only [op_count, ma1, if_pos p2, ma2, if_pos p7, ma3, if_pos p15, ma4, if_pos p23, if_pos q42]
    rw [ho]
    refine nv_as (0) (by decide) ?_
    refine W.widen (k := 5) (n := 30) (Nat.le_of_ble_eq_true rfl) (Nat.le_of_ble_eq_true rfl) ?_
    have hP9 : va_P (dC, dI) classes (wX q cI (S)) s.heap := hP
    exact vx_ret (W.iret hx hb hr (fun t ht hW => ⟨rfl, rfl, by rw [ht]; exact hP9, hS.F ht⟩) hS.2.2 d_X_count_46)
set_option maxHeartbeats 4000000 in
set_option maxRecDepth 100000 in
theorem c_H_add (l : Launch) (dC : Nat → ClassId) (dI : Nat → Nat → Nat) (sz : Nat) (cI : ClassId) (q : Nat → Nat) (S : St) (t : Nat) (hI : Bd t S) (h v : Nat) (h7 : S.2.1 7 < 10) : Met l y_H_add (.code y_H_add b_H_add 3 (some .int) :: bg) { frames := 0, cells := 0, slots := 0, locals := 0 } (wr_P (dC, dI) classes [(q 6, .inr (2, [.ref (q 16), .ref (q 17), .int (nI (S.2.1 7))])), (q 16, .inl (cI, 10, .inl (colf S.1 29))), (q 17, .inl (cI, 10, .inl (colf S.1 30)))] [(cI, .int)] sz [.ref (q 6), .int (nI h), .int (nI v)]) (wr_Q (some (.int (nI (S.2.1 7 + 1)))) (dC, dI) classes [(q 6, .inr (2, [.ref (q 16), .ref (q 17), .int (nI (S.2.1 7 + 1))])), (q 16, .inl (cI, 10, .inl (upd (colf S.1 29) (S.2.1 7) (nI h)))), (q 17, .inl (cI, 10, .inl (upd (colf S.1 30) (S.2.1 7) (nI v))))] (va_A [(q 6, .inr (2, [.ref (q 16), .ref (q 17), .int (nI (S.2.1 7))])), (q 16, .inl (cI, 10, .inl (colf S.1 29))), (q 17, .inl (cI, 10, .inl (colf S.1 30)))] sz)) 0 0 (va_A [(q 6, .inr (2, [.ref (q 16), .ref (q 17), .int (nI (S.2.1 7))])), (q 16, .inl (cI, 10, .inl (colf S.1 29))), (q 17, .inl (cI, 10, .inl (colf S.1 30)))] sz) := by
  refine Met.ofW (cc := b_H_add) (maxL := 3) (ret := (some .int)) (by decide) rfl ?_
  intro p e s m args below meth c s₁ B hml hv
  obtain ⟨rfl, hsz, hP, hK, hD0⟩ := hv
  subst hsz
  have hD := hD0.self (sz := s.heap.size)
  generalize hAe : va_A [(q 6, .inr (2, [.ref (q 16), .ref (q 17), .int (nI (S.2.1 7))])), (q 16, .inl (cI, 10, .inl (colf S.1 29))), (q 17, .inl (cI, 10, .inl (colf S.1 30)))] s.heap.size = A at hD ⊢
  have hA : ∀ q : Nat, s.heap.size ≤ q → A q := fun q h => by rw [← hAe]; exact Or.inr h
  have hS : va_S A s.heap s.heap [] := va_S.rf
  have hx := B.exec
  have hb := B.bytes
  have hr := B.returns
  have hts := fun w (h : w ∈ bg) => atoms_spec (ws := .code y_H_add b_H_add 3 (some .int) :: bg) B.pre w (List.mem_cons_of_mem _ h)
  have hown : s.vm.findClass R_H = some m.cls := findClass_of_methodNamed B.named
  have hlocks := B.notSynchronized
  have hl := lv_entry ([.ref (q 6), .int (nI h), .int (nI v)]) (n := 3) (Nat.le_of_ble_eq_true rfl)
  rw [lg_entry_eq]
  generalize (lg_sl ([.ref (q 6), .int (nI h), .int (nI v)]) ++ List.replicate (3 - (lg_sl ([.ref (q 6), .int (nI h), .int (nI v)])).length) Slot.unset).toArray = ls at hl ⊢
  have hl : lv_has ls 3 [(0, .ref (q 6)), (1, .int (nI h)), (2, .int (nI v))] := hl
  have hB := hI.1
  have hg0 : S.2.1 0 ≤ 8 := hI.2.1 0
  have hg1 : S.2.1 1 ≤ 9999 := hI.2.1 1
  have hg2 : S.2.1 2 ≤ 60 := hI.2.1 2
  have hg3 : S.2.1 3 ≤ 60 := hI.2.1 3
  have hg4 : S.2.1 4 ≤ 80 := hI.2.1 4
  have hg5 : S.2.1 5 ≤ 20 := hI.2.1 5
  have hg6 : S.2.1 6 ≤ 80 := hI.2.1 6
  have hg7 : S.2.1 7 ≤ 10 := hI.2.1 7
  have hg8 : t ≤ 512 := hI.2.2
  refine lv_aload_n hx hb d_H_add_0 rfl (lv_at hl 0 rfl) ?_
  refine va_get (D := (dC, dI)) (ci := 2) (v := .ref (q 16)) (C := R_H) (T := F_H) (N := 3) hx hb hts i_H hown hK hP 0 rfl rfl 0 (by decide) (hts _ wd_47) (fun _ h9 => h9) rfl d_H_add_1 ?_
  refine lv_aload_n hx hb d_H_add_4 rfl (lv_at hl 0 rfl) ?_
  refine va_get (D := (dC, dI)) (ci := 2) (v := .int (nI (S.2.1 7))) (C := R_H) (T := F_H) (N := 3) hx hb hts i_H hown hK hP 0 rfl rfl 2 (by decide) (hts _ wd_49) (fun _ h9 => h9) rfl d_H_add_5 ?_
  refine lv_iload_n hx hb d_H_add_8 rfl (lv_at hl 1 rfl) ?_
  refine nv_iast (f' := upd (colf S.1 29) (S.2.1 7) (nI h)) hx hb hK hP hD hS 1 0 rfl rfl (by omega) (by decide) rfl ([(q 6, .inr (2, [.ref (q 16), .ref (q 17), .int (nI (S.2.1 7))])), (q 16, .inl (cI, 10, .inl (upd (colf S.1 29) (S.2.1 7) (nI h)))), (q 17, .inl (cI, 10, .inl (colf S.1 30)))]) rfl d_H_add_9 (fun H locs hP hD hS => ?_)
  refine lv_aload_n hx hb d_H_add_10 rfl (lv_at hl 0 rfl) ?_
  refine va_get (D := (dC, dI)) (ci := 2) (v := .ref (q 17)) (C := R_H) (T := F_H) (N := 3) hx hb hts i_H hown hK hP 0 rfl rfl 1 (by decide) (hts _ wd_48) (fun _ h9 => h9) rfl d_H_add_11 ?_
  refine lv_aload_n hx hb d_H_add_14 rfl (lv_at hl 0 rfl) ?_
  refine va_get (D := (dC, dI)) (ci := 2) (v := .int (nI (S.2.1 7))) (C := R_H) (T := F_H) (N := 3) hx hb hts i_H hown hK hP 0 rfl rfl 2 (by decide) (hts _ wd_49) (fun _ h9 => h9) rfl d_H_add_15 ?_
  refine lv_iload_n hx hb d_H_add_18 rfl (lv_at hl 2 rfl) ?_
  refine nv_iast (f' := upd (colf S.1 30) (S.2.1 7) (nI v)) hx hb hK hP hD hS 2 0 rfl rfl (by omega) (by decide) rfl ([(q 6, .inr (2, [.ref (q 16), .ref (q 17), .int (nI (S.2.1 7))])), (q 16, .inl (cI, 10, .inl (upd (colf S.1 29) (S.2.1 7) (nI h)))), (q 17, .inl (cI, 10, .inl (upd (colf S.1 30) (S.2.1 7) (nI v))))]) rfl d_H_add_19 (fun H locs hP hD hS => ?_)
  refine lv_aload_n hx hb d_H_add_20 rfl (lv_at hl 0 rfl) ?_
  refine lv_dup hx hb d_H_add_21 rfl ?_
  refine va_get (D := (dC, dI)) (ci := 2) (v := .int (nI (S.2.1 7))) (C := R_H) (T := F_H) (N := 3) hx hb hts i_H hown hK hP 0 rfl rfl 2 (by decide) (hts _ wd_49) (fun _ h9 => h9) rfl d_H_add_22 ?_
  refine lv_iconst (v := nI 1) hx hb d_H_add_25 (by decide) ?_
  refine nv_add hx hb d_H_add_26 ?_
  refine va_put (D := (dC, dI)) (ci := 2) (v := .int (nI ((S.2.1 7) + 1))) (ty := .int) (C := R_H) (T := F_H) (N := 3) hx hb hts i_H ty_H ty_H_ok n_H hown hK hP hD hS 0 rfl rfl 2 (by decide) (hts _ wd_49) (fun _ h9 => h9) rfl (by decide +kernel) rfl rfl (Nat.le_of_ble_eq_true rfl) d_H_add_27 (fun H locs hP hD hS => ?_)
  have hP : va_P (dC, dI) classes [(q 6, .inr (2, [.ref (q 16), .ref (q 17), .int (nI ((S.2.1 7) + 1))])), (q 16, .inl (cI, 10, .inl (upd (colf S.1 29) (S.2.1 7) (nI h)))), (q 17, .inl (cI, 10, .inl (upd (colf S.1 30) (S.2.1 7) (nI v))))] H := hP
  have hD : va_D A [(q 6, .inr (2, [.ref (q 16), .ref (q 17), .int (nI ((S.2.1 7) + 1))])), (q 16, .inl (cI, 10, .inl (upd (colf S.1 29) (S.2.1 7) (nI h)))), (q 17, .inl (cI, 10, .inl (upd (colf S.1 30) (S.2.1 7) (nI v))))] := hD
  refine lv_aload_n hx hb d_H_add_30 rfl (lv_at hl 0 rfl) ?_
  refine va_get (D := (dC, dI)) (ci := 2) (v := .int (nI ((S.2.1 7) + 1))) (C := R_H) (T := F_H) (N := 3) hx hb hts i_H hown hK hP 0 rfl rfl 2 (by decide) (hts _ wd_49) (fun _ h9 => h9) rfl d_H_add_31 ?_
  refine nv_as (nI (S.2.1 7 + 1)) (by rfl) ?_
  have hP9 : va_P (dC, dI) classes [(q 6, .inr (2, [.ref (q 16), .ref (q 17), .int (nI (S.2.1 7 + 1))])), (q 16, .inl (cI, 10, .inl (upd (colf S.1 29) (S.2.1 7) (nI h)))), (q 17, .inl (cI, 10, .inl (upd (colf S.1 30) (S.2.1 7) (nI v))))] H := hP
  exact W.iret hx hb hr (fun t ht hW => ⟨rfl, by rw [ht]; exact hP9, hS.F ht⟩) hS.2.2 d_H_add_34
set_option maxHeartbeats 4000000 in
set_option maxRecDepth 100000 in
theorem c_X_row (l : Launch) (hst : l.stackTraces = false) (dC : Nat → ClassId) (dI : Nat → Nat → Nat) (A0 : Nat → Prop) (sz : Nat) (cI : ClassId) (q : Nat → Nat) (S : St) (t : Nat) (hI : Bd t S) (x y : Int32) : vx_Met l y_X_row (.code y_X_row b_X_row 3 (some .int) :: bg) { frames := 8, cells := 3, slots := 18, locals := 132 } (xo_P (dC, dI) classes [(cI, .int)] A0 (wX q cI S) sz [.ref (q 0), .int x, .int y]) (xo_Q (op_row S x y) (some (.int (op_row S x y).2.1)) (dC, dI) classes (wX q cI (op_row S x y).2.2) (va_A (wX q cI S) sz)) (xo_X (op_row S x y) [E_io, E_is, E_uo]) 3 18 (va_A (wX q cI S) sz) := by
  refine vx_ofW (cc := b_X_row) (maxL := 3) (ret := (some .int)) (by decide) rfl ?_
  intro p e s m args below meth c s₁ B hml hnt hv
  obtain ⟨rfl, hsz, hP, hK, hD0, hG⟩ := hv
  subst hsz
  have hD := hD0.self (sz := s.heap.size)
  generalize hAe : va_A (wX q cI S) s.heap.size = A at hD ⊢
  have hA : ∀ q : Nat, s.heap.size ≤ q → A q := fun q h => by rw [← hAe]; exact Or.inr h
  have hS : va_S A s.heap s.heap [] := va_S.rf
  have hx := B.exec
  have hb := B.bytes
  have hr := B.returns
  have hts := fun w (h : w ∈ bg) => atoms_spec (ws := .code y_X_row b_X_row 3 (some .int) :: bg) B.pre w (List.mem_cons_of_mem _ h)
  have hown : s.vm.findClass R_X = some m.cls := findClass_of_methodNamed B.named
  have hlocks := B.notSynchronized
  have hl := lv_entry ([.ref (q 0), .int x, .int y]) (n := 3) (Nat.le_of_ble_eq_true rfl)
  rw [lg_entry_eq]
  generalize (lg_sl ([.ref (q 0), .int x, .int y]) ++ List.replicate (3 - (lg_sl ([.ref (q 0), .int x, .int y])).length) Slot.unset).toArray = ls at hl ⊢
  have hl : lv_has ls 3 [(0, .ref (q 0)), (1, .int x), (2, .int y)] := hl
  have hB := hI.1
  have hg0 : S.2.1 0 ≤ 8 := hI.2.1 0
  have hg1 : S.2.1 1 ≤ 9999 := hI.2.1 1
  have hg2 : S.2.1 2 ≤ 60 := hI.2.1 2
  have hg3 : S.2.1 3 ≤ 60 := hI.2.1 3
  have hg4 : S.2.1 4 ≤ 80 := hI.2.1 4
  have hg5 : S.2.1 5 ≤ 20 := hI.2.1 5
  have hg6 : S.2.1 6 ≤ 80 := hI.2.1 6
  have hg7 : S.2.1 7 ≤ 10 := hI.2.1 7
  have hg8 : t ≤ 512 := hI.2.2
  refine lv_iload_n hx hb d_X_row_0 rfl (lv_at hl 1 rfl) ?_
  refine lv_iconst (v := nI 0) hx hb d_X_row_1 (by decide) ?_
  refine lv_ldc hx hb hown (hts _ wd_508) d_X_row_2 ?_
  refine nv_as (nI 99999) (by decide) ?_
  refine nd_go (vx_runS (As := [.int x, .int (nI 0), .int (nI 99999)]) (rest := []) ⟨hx, hb, hml, hown, hts⟩ (c_X_needRange l hst dC dI A0 x 0 99999 (by omega) (by omega)) (cwS 3 hts (gi_S wd_253 wd_254 wd_1 wd_255) rfl rfl rfl (by decide +kernel) ⟨Nat.le_of_ble_eq_true rfl, Nat.le_of_ble_eq_true rfl⟩) (nd_preS (hK.sub (tys' := []) [] rfl) (fun k q h => by simp at h) hG) rfl rfl hl.1 rfl (lv_room (Nat.le_of_ble_eq_true rfl)) d_X_row_4 ⟨Nat.le_of_ble_eq_true rfl, Nat.le_of_ble_eq_true rfl⟩) (fun p4 ce q9 H1 h1 h2 h3 h4 h5 => vx_out (fun x hx => (hnt x hx).elim) hlocks h3 h4 h5 (fun t ht hv => ⟨by simp only [op_row, if_neg p4]; decide, by simp only [op_row, if_neg p4]; rfl, by rw [ht]; exact h1, fun z hz => by rw [ht]; exact h2 z hz⟩) (fun q h => nomatch h) (Nat.le_of_ble_eq_true rfl) (Nat.le_of_ble_eq_true rfl)) (fun p4 => ?_)
  obtain ⟨a1, ga1, ha1, rfl⟩ := rg_ex p4
  have ma1 : nn (nI a1) = a1 := nn_of (by omega)
  refine lv_iload_n hx hb d_X_row_7 rfl (lv_at hl 2 rfl) ?_
  refine lv_iconst (v := nI 0) hx hb d_X_row_8 (by decide) ?_
  refine lv_ldc hx hb hown (hts _ wd_508) d_X_row_9 ?_
  refine nv_as (nI 99999) (by decide) ?_
  refine nd_go (vx_runS (As := [.int y, .int (nI 0), .int (nI 99999)]) (rest := []) ⟨hx, hb, hml, hown, hts⟩ (c_X_needRange l hst dC dI A0 y 0 99999 (by omega) (by omega)) (cwS 3 hts (gi_S wd_253 wd_254 wd_1 wd_255) rfl rfl rfl (by decide +kernel) ⟨Nat.le_of_ble_eq_true rfl, Nat.le_of_ble_eq_true rfl⟩) (nd_preS (hK.sub (tys' := []) [] rfl) (fun k q h => by simp at h) hG) rfl rfl hl.1 rfl (lv_room (Nat.le_of_ble_eq_true rfl)) d_X_row_11 ⟨Nat.le_of_ble_eq_true rfl, Nat.le_of_ble_eq_true rfl⟩) (fun p11 ce q9 H1 h1 h2 h3 h4 h5 => vx_out (fun x hx => (hnt x hx).elim) hlocks h3 h4 h5 (fun t ht hv => ⟨by simp only [op_row, ma1, if_pos p4, if_neg p11]; decide, by simp only [op_row, ma1, if_pos p4, if_neg p11]; rfl, by rw [ht]; exact h1, fun z hz => by rw [ht]; exact h2 z hz⟩) (fun q h => nomatch h) (Nat.le_of_ble_eq_true rfl) (Nat.le_of_ble_eq_true rfl)) (fun p11 => ?_)
  obtain ⟨a2, ga2, ha2, rfl⟩ := rg_ex p11
  have ma2 : nn (nI a2) = a2 := nn_of (by omega)
  refine lv_aload_n hx hb d_X_row_14 rfl (lv_at hl 0 rfl) ?_
  refine va_get (D := (dC, dI)) (ci := 0) (v := .ref (q 6)) (C := R_X) (T := F_X) (N := 12) hx hb hts i_X hown hK hP 0 rfl rfl 5 (by decide) (hts _ wd_62) (fun _ h9 => h9) rfl d_X_row_15 ?_
  refine lv_iload_n hx hb d_X_row_18 rfl (lv_at hl 1 rfl) ?_
  refine lv_iload_n hx hb d_X_row_19 rfl (lv_at hl 2 rfl) ?_
  refine pu_go (va_runV (As := [.int (nI a1), .int (nI a2)]) (rest := []) ⟨hx, hb, hml, hown, hts⟩ (c_H_isBelow l dC dI cI q S t hI a1 a2 (by omega) (by omega)) (cwV 2 hts (gi_V wd_509 wd_510 wd_511 wd_4 wd_512) rfl rfl rfl (by decide +kernel) ⟨Nat.le_of_ble_eq_true rfl, Nat.le_of_ble_eq_true rfl⟩) (pu_preV hK (hP.sub [6, 16, 17] rfl) (ci := 2) (q0 := 0) rfl rfl) rfl rfl hl.1 rfl (lv_room (Nat.le_of_ble_eq_true rfl)) d_X_row_20 ⟨Nat.le_of_ble_eq_true rfl, Nat.le_of_ble_eq_true rfl⟩) ?_
  refine nv_bn (tgt := 36) hx hb d_X_row_23 (by decide) (fun c23 => ?_) (fun c23 => ?_)
  · have q23 := of_decide_eq_true c23
    refine lv_aload_n hx hb d_X_row_36 rfl (lv_at hl 0 rfl) ?_
    refine va_get (D := (dC, dI)) (ci := 0) (v := .ref (q 6)) (C := R_X) (T := F_X) (N := 12) hx hb hts i_X hown hK hP 0 rfl rfl 5 (by decide) (hts _ wd_62) (fun _ h9 => h9) rfl d_X_row_37 ?_
    refine pu_go (va_runV (As := []) (rest := []) ⟨hx, hb, hml, hown, hts⟩ (c_H_isFull l dC dI cI q S t hI ) (cwV 0 hts (gi_V wd_514 wd_515 wd_516 wd_4 wd_517) rfl rfl rfl (by decide +kernel) ⟨Nat.le_of_ble_eq_true rfl, Nat.le_of_ble_eq_true rfl⟩) (pu_preV hK (hP.sub [6, 16, 17] rfl) (ci := 2) (q0 := 0) rfl rfl) rfl rfl hl.1 rfl (lv_room (Nat.le_of_ble_eq_true rfl)) d_X_row_40 ⟨Nat.le_of_ble_eq_true rfl, Nat.le_of_ble_eq_true rfl⟩) ?_
    refine nv_bz (tgt := 56) hx hb d_X_row_43 (by decide) (fun c43 => ?_) (fun c43 => ?_)
    · have q43 := of_decide_eq_false c43
      refine lv_aload_n hx hb d_X_row_56 rfl (lv_at hl 0 rfl) ?_
      refine va_get (D := (dC, dI)) (ci := 0) (v := .ref (q 6)) (C := R_X) (T := F_X) (N := 12) hx hb hts i_X hown hK hP 0 rfl rfl 5 (by decide) (hts _ wd_62) (fun _ h9 => h9) rfl d_X_row_57 ?_
      refine lv_iload_n hx hb d_X_row_60 rfl (lv_at hl 1 rfl) ?_
      refine lv_iload_n hx hb d_X_row_61 rfl (lv_at hl 2 rfl) ?_
      refine wr_go (va_runV (As := [.int (nI a1), .int (nI a2)]) (rest := []) ⟨hx, hb, hml, hown, hts⟩ (c_H_add l dC dI s.heap.size cI q S t hI a1 a2 (by omega)) (cwV 2 hts (gi_V wd_519 wd_520 wd_521 wd_4 wd_522) rfl rfl rfl (by decide +kernel) ⟨Nat.le_of_ble_eq_true rfl, Nat.le_of_ble_eq_true rfl⟩) (wr_preV hK (hP.sub [6, 16, 17] rfl) (hD.sub [6, 16, 17] (by decide) rfl) (ci := 2) (q0 := 0) rfl rfl) rfl rfl hl.1 rfl (lv_room (Nat.le_of_ble_eq_true rfl)) d_X_row_62 ⟨Nat.le_of_ble_eq_true rfl, Nat.le_of_ble_eq_true rfl⟩) hP hD hS hA [6, 16, 17] rfl rfl (wX q cI (S_g (S_a (S_a S 29 (S.2.1 7) a1) 30 (S.2.1 7) a2) 7 (S.2.1 7 + 1))) wX_hadd rfl (fun H locs hP hD hS => ?_)
      refine W.eq (g2 := F0 m 65 ls [.int (nI (S.2.1 7 + 1))]) rfl ?_
      obtain ⟨S1, hS1⟩ : ∃ z : St, z = S_g (S_a (S_a S 29 (S.2.1 7) a1) 30 (S.2.1 7) a2) 7 (S.2.1 7 + 1) := ⟨_, rfl⟩
      rw [← hS1] at hP hD
      have ho : op_row S (nI a1) (nI a2) = (0, nI (S.2.1 7 + 1), S_g (S_a (S_a S 29 (S.2.1 7) a1) 30 (S.2.1 7) a2) 7 (S.2.1 7 + 1)) := by simp only [op_row, ma1, if_pos p4, ma2, if_pos p11, if_pos q23, if_pos (show S.2.1 7 < 10 by omega)]
      rw [ho]
      refine W.widen (k := 3) (n := 18) (Nat.le_of_ble_eq_true rfl) (Nat.le_of_ble_eq_true rfl) ?_
      have hP9 : va_P (dC, dI) classes (wX q cI (S_g (S_a (S_a S 29 (S.2.1 7) a1) 30 (S.2.1 7) a2) 7 (S.2.1 7 + 1))) H := by rw [hS1] at hP; exact hP
      exact vx_ret (W.iret hx hb hr (fun t ht hW => ⟨rfl, rfl, by rw [ht]; exact hP9, hS.F ht⟩) hS.2.2 d_X_row_65)
    · have q43 := of_decide_eq_true c43
      exact x_throw (A := A0) hx hb hst hown hts hG ex_uo sx_193 hnt (hl.1.trans hml.symm) hlocks d_X_row_46 d_X_row_49 d_X_row_50 d_X_row_52 d_X_row_55 (Nat.le_of_ble_eq_true rfl) (Nat.le_of_ble_eq_true rfl) (Nat.le_of_ble_eq_true rfl) (Nat.le_of_ble_eq_true rfl) (Nat.le_of_ble_eq_true rfl) (Nat.le_of_ble_eq_true rfl) (fun t h1 h2 => ⟨by simp only [op_row, ma1, if_pos p4, ma2, if_pos p11, if_pos q23, if_neg (show ¬ S.2.1 7 < 10 by omega)]; decide, by simp only [op_row, ma1, if_pos p4, ma2, if_pos p11, if_pos q23, if_neg (show ¬ S.2.1 7 < 10 by omega)]; rfl, h1, h2⟩)
  · have q23 := of_decide_eq_false c23
    exact x_throw (A := A0) hx hb hst hown hts hG ex_is sx_187 hnt (hl.1.trans hml.symm) hlocks d_X_row_26 d_X_row_29 d_X_row_30 d_X_row_32 d_X_row_35 (Nat.le_of_ble_eq_true rfl) (Nat.le_of_ble_eq_true rfl) (Nat.le_of_ble_eq_true rfl) (Nat.le_of_ble_eq_true rfl) (Nat.le_of_ble_eq_true rfl) (Nat.le_of_ble_eq_true rfl) (fun t h1 h2 => ⟨by simp only [op_row, ma1, if_pos p4, ma2, if_pos p11, if_neg q23]; decide, by simp only [op_row, ma1, if_pos p4, ma2, if_pos p11, if_neg q23]; rfl, h1, h2⟩)
set_option maxHeartbeats 4000000 in
set_option maxRecDepth 100000 in
theorem c_X_dip (l : Launch) (hst : l.stackTraces = false) (dC : Nat → ClassId) (dI : Nat → Nat → Nat) (A0 : Nat → Prop) (sz : Nat) (cI : ClassId) (q : Nat → Nat) (S : St) (t : Nat) (hI : Bd t S) (x : Int32) (hso : ∀ b, b + 1 < S.2.1 7 → S.1 29 b < S.1 29 (b + 1) ∧ S.1 30 b < S.1 30 (b + 1)) : vx_Met l y_X_dip (.code y_X_dip b_X_dip 2 (some .int) :: bg) { frames := 8, cells := 1, slots := 6, locals := 132 } (xo_P (dC, dI) classes [(cI, .int)] A0 (wX q cI S) sz [.ref (q 0), .int x]) (xo_Q (op_dip S x) (some (.int (op_dip S x).2.1)) (dC, dI) classes (wX q cI (op_dip S x).2.2) (va_A (wX q cI S) sz)) (xo_X (op_dip S x) [E_io]) 1 6 (va_A (wX q cI S) sz) := by
  refine vx_ofW (cc := b_X_dip) (maxL := 2) (ret := (some .int)) (by decide) rfl ?_
  intro p e s m args below meth c s₁ B hml hnt hv
  obtain ⟨rfl, hsz, hP, hK, hD0, hG⟩ := hv
  subst hsz
  have hD := hD0.self (sz := s.heap.size)
  generalize hAe : va_A (wX q cI S) s.heap.size = A at hD ⊢
  have hA : ∀ q : Nat, s.heap.size ≤ q → A q := fun q h => by rw [← hAe]; exact Or.inr h
  have hS : va_S A s.heap s.heap [] := va_S.rf
  have hx := B.exec
  have hb := B.bytes
  have hr := B.returns
  have hts := fun w (h : w ∈ bg) => atoms_spec (ws := .code y_X_dip b_X_dip 2 (some .int) :: bg) B.pre w (List.mem_cons_of_mem _ h)
  have hown : s.vm.findClass R_X = some m.cls := findClass_of_methodNamed B.named
  have hlocks := B.notSynchronized
  have hl := lv_entry ([.ref (q 0), .int x]) (n := 2) (Nat.le_of_ble_eq_true rfl)
  rw [lg_entry_eq]
  generalize (lg_sl ([.ref (q 0), .int x]) ++ List.replicate (2 - (lg_sl ([.ref (q 0), .int x])).length) Slot.unset).toArray = ls at hl ⊢
  have hl : lv_has ls 2 [(0, .ref (q 0)), (1, .int x)] := hl
  have hB := hI.1
  have hg0 : S.2.1 0 ≤ 8 := hI.2.1 0
  have hg1 : S.2.1 1 ≤ 9999 := hI.2.1 1
  have hg2 : S.2.1 2 ≤ 60 := hI.2.1 2
  have hg3 : S.2.1 3 ≤ 60 := hI.2.1 3
  have hg4 : S.2.1 4 ≤ 80 := hI.2.1 4
  have hg5 : S.2.1 5 ≤ 20 := hI.2.1 5
  have hg6 : S.2.1 6 ≤ 80 := hI.2.1 6
  have hg7 : S.2.1 7 ≤ 10 := hI.2.1 7
  have hg8 : t ≤ 512 := hI.2.2
  refine lv_iload_n hx hb d_X_dip_0 rfl (lv_at hl 1 rfl) ?_
  refine lv_iconst (v := nI 0) hx hb d_X_dip_1 (by decide) ?_
  refine lv_ldc hx hb hown (hts _ wd_508) d_X_dip_2 ?_
  refine nv_as (nI 99999) (by decide) ?_
  refine nd_go (vx_runS (As := [.int x, .int (nI 0), .int (nI 99999)]) (rest := []) ⟨hx, hb, hml, hown, hts⟩ (c_X_needRange l hst dC dI A0 x 0 99999 (by omega) (by omega)) (cwS 3 hts (gi_S wd_253 wd_254 wd_1 wd_255) rfl rfl rfl (by decide +kernel) ⟨Nat.le_of_ble_eq_true rfl, Nat.le_of_ble_eq_true rfl⟩) (nd_preS (hK.sub (tys' := []) [] rfl) (fun k q h => by simp at h) hG) rfl rfl hl.1 rfl (lv_room (Nat.le_of_ble_eq_true rfl)) d_X_dip_4 ⟨Nat.le_of_ble_eq_true rfl, Nat.le_of_ble_eq_true rfl⟩) (fun p4 ce q9 H1 h1 h2 h3 h4 h5 => vx_out (fun x hx => (hnt x hx).elim) hlocks h3 h4 h5 (fun t ht hv => ⟨by simp only [op_dip, if_neg p4]; decide, by simp only [op_dip, if_neg p4]; rfl, by rw [ht]; exact h1, fun z hz => by rw [ht]; exact h2 z hz⟩) (fun q h => nomatch h) (Nat.le_of_ble_eq_true rfl) (Nat.le_of_ble_eq_true rfl)) (fun p4 => ?_)
  obtain ⟨a1, ga1, ha1, rfl⟩ := rg_ex p4
  have ma1 : nn (nI a1) = a1 := nn_of (by omega)
  refine lv_aload_n hx hb d_X_dip_7 rfl (lv_at hl 0 rfl) ?_
  refine va_get (D := (dC, dI)) (ci := 0) (v := .ref (q 6)) (C := R_X) (T := F_X) (N := 12) hx hb hts i_X hown hK hP 0 rfl rfl 5 (by decide) (hts _ wd_62) (fun _ h9 => h9) rfl d_X_dip_8 ?_
  refine lv_iload_n hx hb d_X_dip_11 rfl (lv_at hl 1 rfl) ?_
  refine pu_go (va_runV (As := [.int (nI a1)]) (rest := []) ⟨hx, hb, hml, hown, hts⟩ (c_H_litresAt l dC dI cI q S t hI a1 (by omega) hso) (cwV 1 hts (gi_V wd_530 wd_531 wd_532 wd_4 wd_533) rfl rfl rfl (by decide +kernel) ⟨Nat.le_of_ble_eq_true rfl, Nat.le_of_ble_eq_true rfl⟩) (pu_preV hK (hP.sub [6, 16, 17] rfl) (ci := 2) (q0 := 0) rfl rfl) rfl rfl hl.1 rfl (lv_room (Nat.le_of_ble_eq_true rfl)) d_X_dip_12 ⟨Nat.le_of_ble_eq_true rfl, Nat.le_of_ble_eq_true rfl⟩) ?_
  have ho : op_dip S (nI a1) = (0, dipv S a1, S) := by simp only [op_dip, ma1, if_pos p4]
  rw [ho]
  refine W.widen (k := 1) (n := 6) (Nat.le_of_ble_eq_true rfl) (Nat.le_of_ble_eq_true rfl) ?_
  have hP9 : va_P (dC, dI) classes (wX q cI (S)) s.heap := hP
  exact vx_ret (W.iret hx hb hr (fun t ht hW => ⟨rfl, rfl, by rw [ht]; exact hP9, hS.F ht⟩) hS.2.2 d_X_dip_15)
end
section
/-! what taking, ordering and arriving leave as it was -/
theorem takeOf_Bd {t : Nat} {S : St} {s b p : Nat} (h : Bd t S) (ho : S.1 2 b + p ≤ 9999 * t) : Bd t (takeOf S s b p) :=
  Bd_a (Bd_a h (show _ ≤ 9999 from Nat.le_trans (Nat.sub_le _ _) (h.1 25 _))) ho
theorem tk_all {t s k : Nat} : ∀ (f : Nat) (S : St) (n : Nat), Bd t S → (∀ j, S.1 2 j + n ≤ 9999 * t) → Bd t (tk s k f S n) ∧ (∀ j, (tk s k f S n).1 2 j ≤ S.1 2 j + n) ∧ (tk s k f S n).2 = S.2 ∧ ∀ k', k' ≠ 2 → k' ≠ 25 → (tk s k f S n).1 k' = S.1 k'
  | 0, S, n, h, _ => ⟨h, fun j => Nat.le_add_right _ _, rfl, fun _ _ _ => rfl⟩
  | f + 1, S, n, h, ho => by
    by_cases hn : n = 0
    · subst hn; rw [tk_0]; exact ⟨h, fun j => Nat.le_refl _, rfl, fun _ _ _ => rfl⟩
    · cases hb : bst S s k (S.2.1 2) with
      | none => rw [tk_n hb]; exact ⟨h, fun j => Nat.le_add_right _ _, rfl, fun _ _ _ => rfl⟩
      | some b =>
        rw [tk_s (Nat.pos_of_ne_zero hn) hb]
        have hp : min n (S.1 25 (s * 60 + b)) ≤ n := Nat.min_le_left _ _
        generalize min n (S.1 25 (s * 60 + b)) = p at hp ⊢
        obtain ⟨h1, h2, h3, h4⟩ := tk_all f (takeOf S s b p) (n - p) (takeOf_Bd h (by have := ho b; omega)) (out_takeOf ho hp)
        refine ⟨h1, fun j => Nat.le_trans (h2 j) ?_, h3, fun k' e1 e2 => (h4 k' e1 e2).trans ?_⟩
        · show aU (aU S.1 25 (s * 60 + b) (S.1 25 (s * 60 + b) - p)) 2 b (S.1 2 b + p) 2 j + (n - p) ≤ S.1 2 j + n
          by_cases hj : j = b
          · subst hj; rw [aU_s]; omega
          · rw [aU_e hj, aU_n (by decide)]; omega
        · show aU (aU S.1 25 (s * 60 + b) (S.1 25 (s * 60 + b) - p)) 2 b (S.1 2 b + p) k' = S.1 k'
          rw [aU_n e1, aU_n e2]
theorem ordK_all {t : Nat} {S : St} {s k : Nat} (h : Bd t S) (hs : s < 8) (hk : k < 10) : Bd t (ordK S s k) ∧ (ordK S s k).2.1 0 = S.2.1 0 ∧ S.2.1 4 ≤ (ordK S s k).2.1 4 ∧ (ordK S s k).1 26 = S.1 26 ∧ (ordK S s k).1 27 = S.1 27 := by
  refine ⟨Bd_ordK h hs hk, ?_⟩
  unfold ordK
  split
  · exact ⟨rfl, Nat.le_refl _, rfl, rfl⟩
  · split
    · exact ⟨rfl, Nat.le_refl _, rfl, rfl⟩
    · split
      · exact ⟨rfl, Nat.le_succ _, rfl, rfl⟩
      · exact ⟨rfl, Nat.le_refl _, rfl, rfl⟩
theorem ordR_all {t : Nat} {S : St} {s : Nat} (h : Bd t S) (hs : s < 8) : ∀ k, k ≤ 10 → Bd t (ordR S s k) ∧ (ordR S s k).2.1 0 = S.2.1 0 ∧ S.2.1 4 ≤ (ordR S s k).2.1 4 ∧ (ordR S s k).1 26 = S.1 26 ∧ (ordR S s k).1 27 = S.1 27
  | 0, _ => ⟨h, rfl, Nat.le_refl _, rfl, rfl⟩
  | k + 1, hk => by
    obtain ⟨h1, h2, h3, h4, h5⟩ := ordR_all h hs k (by omega)
    obtain ⟨g1, g2, g3, g4, g5⟩ := ordK_all h1 hs (k := k) (by omega)
    exact ⟨g1, g2.trans h2, Nat.le_trans h3 g3, g4.trans h4, g5.trans h5⟩
theorem ordN_s {S : St} {i : Nat} : ordN S (i + 1) = ordR (ordN S i) i 10 := by rw [ordN]
theorem ordN_all {t : Nat} {S : St} (h : Bd t S) : ∀ i, i ≤ 8 → Bd t (ordN S i) ∧ (ordN S i).2.1 0 = S.2.1 0 ∧ S.2.1 4 ≤ (ordN S i).2.1 4 ∧ (ordN S i).1 26 = S.1 26 ∧ (ordN S i).1 27 = S.1 27
  | 0, _ => ⟨h, rfl, Nat.le_refl _, rfl, rfl⟩
  | i + 1, hi => by
    obtain ⟨h1, h2, h3, h4, h5⟩ := ordN_all h i (by omega)
    obtain ⟨g1, g2, g3, g4, g5⟩ := ordR_all h1 (s := i) (by omega) 10 (Nat.le_refl _)
    rw [ordN_s]
    exact ⟨g1, g2.trans h2, Nat.le_trans h3 g3, g4.trans h4, g5.trans h5⟩
theorem gvN_all {t : Nat} {S : St} {s kt : Nat} (h : Bd t S) (ho : ∀ j, S.1 2 j + 200 ≤ 9999 * t) : ∀ i, i ≤ 10 → Bd t (gvN S s kt i) ∧ (∀ j, (gvN S s kt i).1 2 j + 20 * (10 - i) ≤ 9999 * t) ∧ (gvN S s kt i).2 = S.2 ∧ ∀ k', k' ≠ 2 → k' ≠ 25 → (gvN S s kt i).1 k' = S.1 k'
  | 0, _ => ⟨h, fun j => by have := ho j; show S.1 2 j + 20 * (10 - 0) ≤ _; omega, rfl, fun _ _ _ => rfl⟩
  | i + 1, hi => by
    obtain ⟨h1, h2, h3, h4⟩ := gvN_all h ho i (by omega)
    have hn : S.1 28 (kt * 10 + i) ≤ 20 := h.1 28 _
    obtain ⟨g1, g2, g3, g4⟩ := tk_all (s := s) (k := i) 60 (gvN S s kt i) (S.1 28 (kt * 10 + i)) h1 (fun j => by have := h2 j; omega)
    refine ⟨g1, fun j => ?_, g3.trans h3, fun k' e1 e2 => (g4 k' e1 e2).trans (h4 k' e1 e2)⟩
    have a1 := g2 j
    have a2 := h2 j
    show (tk s i 60 (gvN S s kt i) (S.1 28 (kt * 10 + i))).1 2 j + 20 * (10 - (i + 1)) ≤ 9999 * t
    omega
theorem arr_all {t : Nat} {S : St} {D : Nat} (h : Bd t S) : ∀ i, Bd t (arr S D i) ∧ (arr S D i).2 = S.2
  | 0 => ⟨h, rfl⟩
  | i + 1 => by
    obtain ⟨h1, h2⟩ := arr_all (D := D) h i
    simp only [arr]
    split
    · exact ⟨Bd_come h1, h2⟩
    · exact ⟨h1, h2⟩
theorem arr_y {S : St} {D i : Nat} (h : due (arr S D i) D i = true) : arr S D (i + 1) = come (arr S D i) i ∧ arrC S D (i + 1) = arrC S D i + 1 := ⟨by simp [arr, h], by simp [arrC, h]⟩
theorem arr_n {S : St} {D i : Nat} (h : due (arr S D i) D i = false) : arr S D (i + 1) = arr S D i ∧ arrC S D (i + 1) = arrC S D i := ⟨by simp [arr, h], by simp [arrC, h]⟩
theorem arrC_le {S : St} {D : Nat} : ∀ i, arrC S D i ≤ i
  | 0 => Nat.le_refl _
  | i + 1 => by
    have := arrC_le (S := S) (D := D) i
    simp only [arrC]
    split <;> omega
end
section
theorem hdue {S T : St} {D i : Nat} (h : T = arr S D i) (h1 : T.1 9 i = 1) (h2 : T.1 8 i ≤ D) : due (arr S D i) D i = true := by
  rw [← h]; simp [due, h1, h2]
theorem hndue {S T : St} {D i : Nat} (h : T = arr S D i) (h1 : ¬ (T.1 9 i = 1 ∧ T.1 8 i ≤ D)) : due (arr S D i) D i = false := by
  rw [← h]
  simp only [due, Bool.and_eq_false_iff, decide_eq_false_iff_not]
  omega
set_option maxHeartbeats 4000000 in
set_option maxRecDepth 100000 in
theorem c_X_orders (l : Launch) (dC : Nat → ClassId) (dI : Nat → Nat → Nat) (sz : Nat) (cI : ClassId) (q : Nat → Nat) (S : St) (t : Nat) (hI : Bd t S) (hlm : ∀ j, S.1 26 j ≤ S.1 27 j) : Met l y_X_orders (.code y_X_orders b_X_orders 4 (some .int) :: bg) { frames := 4, cells := 0, slots := 0, locals := 96 } (wr_P (dC, dI) classes (wX q cI S) [(cI, .int)] sz [.ref (q 0)]) (wr_Q (some (.int ((op_orders S).2.1))) (dC, dI) classes (wX q cI ((op_orders S).2.2)) (va_A (wX q cI S) sz)) 0 0 (va_A (wX q cI S) sz) := by
  refine Met.ofW (cc := b_X_orders) (maxL := 4) (ret := (some .int)) (by decide) rfl ?_
  intro p e s m args below meth c s₁ B hml hv
  obtain ⟨rfl, hsz, hP, hK, hD0⟩ := hv
  subst hsz
  have hD := hD0.self (sz := s.heap.size)
  generalize hAe : va_A (wX q cI S) s.heap.size = A at hD ⊢
  have hA : ∀ q : Nat, s.heap.size ≤ q → A q := fun q h => by rw [← hAe]; exact Or.inr h
  have hS : va_S A s.heap s.heap [] := va_S.rf
  have hx := B.exec
  have hb := B.bytes
  have hr := B.returns
  have hts := fun w (h : w ∈ bg) => atoms_spec (ws := .code y_X_orders b_X_orders 4 (some .int) :: bg) B.pre w (List.mem_cons_of_mem _ h)
  have hown : s.vm.findClass R_X = some m.cls := findClass_of_methodNamed B.named
  have hlocks := B.notSynchronized
  have hl := lv_entry ([.ref (q 0)]) (n := 4) (Nat.le_of_ble_eq_true rfl)
  rw [lg_entry_eq]
  generalize (lg_sl ([.ref (q 0)]) ++ List.replicate (4 - (lg_sl ([.ref (q 0)])).length) Slot.unset).toArray = ls at hl ⊢
  have hl : lv_has ls 4 [(0, .ref (q 0))] := hl
  have hB := hI.1
  have hg0 : S.2.1 0 ≤ 8 := hI.2.1 0
  have hg1 : S.2.1 1 ≤ 9999 := hI.2.1 1
  have hg2 : S.2.1 2 ≤ 60 := hI.2.1 2
  have hg3 : S.2.1 3 ≤ 60 := hI.2.1 3
  have hg4 : S.2.1 4 ≤ 80 := hI.2.1 4
  have hg5 : S.2.1 5 ≤ 20 := hI.2.1 5
  have hg6 : S.2.1 6 ≤ 80 := hI.2.1 6
  have hg7 : S.2.1 7 ≤ 10 := hI.2.1 7
  have hg8 : t ≤ 512 := hI.2.2
  refine lv_aload_n hx hb d_X_orders_0 rfl (lv_at hl 0 rfl) ?_
  refine va_get (D := (dC, dI)) (ci := 0) (v := .ref (q 3)) (C := R_X) (T := F_X) (N := 12) hx hb hts i_X hown hK hP 0 rfl rfl 2 (by decide) (hts _ wd_59) (fun _ h9 => h9) rfl d_X_orders_1 ?_
  refine pu_go (va_runV (As := []) (rest := []) ⟨hx, hb, hml, hown, hts⟩ (c_W_made l dC dI cI (q 3) (q 13) 80 (S.2.1 4) 400 (rowf S.1 10)) (cwV 0 hts (gi_V wd_98 wd_99 wd_100 wd_2 wd_101) rfl rfl rfl (by decide +kernel) ⟨Nat.le_of_ble_eq_true rfl, Nat.le_of_ble_eq_true rfl⟩) (pu_preV hK (hP.sub [3, 13] rfl) (ci := 1) (q0 := 0) rfl rfl) rfl rfl hl.1 rfl (lv_room (Nat.le_of_ble_eq_true rfl)) d_X_orders_4 ⟨Nat.le_of_ble_eq_true rfl, Nat.le_of_ble_eq_true rfl⟩) ?_
  refine lv_istore_n (lv' := [(1, .int (nI (S.2.1 4))), (0, .ref (q 0))]) hx hb d_X_orders_7 rfl hl (by decide) rfl (fun ls hl => ?_)
  refine lv_iconst (v := nI 0) hx hb d_X_orders_8 (by decide) ?_
  refine lv_istore_n (lv' := [(2, .int (nI 0)), (1, .int (nI (S.2.1 4))), (0, .ref (q 0))]) hx hb d_X_orders_9 rfl hl (by decide) rfl (fun ls hl => ?_)
  have LP10 : ∀ (fua : Nat) (i : Nat) (T : St) (H : Heap) (locs : List Loc), S.2.1 0 - i < fua → (i ≤ S.2.1 0) → (T = ordN S i) → va_P (dC, dI) classes (wX q cI T) H → va_D A (wX q cI T) → va_S A s.heap H locs → ∀ ls : Array Slot, lv_has ls 4 [(2, .int (nI i)), (1, .int (nI (S.2.1 4))), (0, .ref (q 0))] → W p l e (headSpec (.code y_X_orders b_X_orders 4 (some .int) :: bg) { frames := 4, cells := 0, slots := 0, locals := 96 }).room s m (List.toArray [.ref (q 0)]) below meth c H locs 0 0 (MQ below (wr_Q (some (.int ((op_orders S).2.1))) (dC, dI) classes (wX q cI ((op_orders S).2.2)) A) (List.toArray [.ref (q 0)]) s 0 0 A) (F0 m 10 ls []) := by
    intro fua
    induction fua with
    | zero => intro i T H locs h; exact absurd h (Nat.not_lt_zero _)
    | succ fua iha =>
      intro i T H locs hfua hha0 hha1 hP hD hS ls hl
      obtain ⟨hIT, hT2, hT3, hT4, hT5⟩ := ordN_all (t := t) hI i (by omega)
      rw [← hha1] at hIT hT2 hT3 hT4 hT5
      have hBT := hIT.1
      have hg0 : T.2.1 0 ≤ 8 := hIT.2.1 0
      have hg1 : T.2.1 1 ≤ 9999 := hIT.2.1 1
      have hg2 : T.2.1 2 ≤ 60 := hIT.2.1 2
      have hg3 : T.2.1 3 ≤ 60 := hIT.2.1 3
      have hg4 : T.2.1 4 ≤ 80 := hIT.2.1 4
      have hg5 : T.2.1 5 ≤ 20 := hIT.2.1 5
      have hg6 : T.2.1 6 ≤ 80 := hIT.2.1 6
      have hg7 : T.2.1 7 ≤ 10 := hIT.2.1 7
      have hg8 : t ≤ 512 := hIT.2.2
      refine lv_iload_n hx hb d_X_orders_10 rfl (lv_at hl 0 rfl) ?_
      refine lv_aload_n hx hb d_X_orders_11 rfl (lv_at hl 2 rfl) ?_
      refine va_get (D := (dC, dI)) (ci := 0) (v := .int (nI (T.2.1 0))) (C := R_X) (T := F_X) (N := 12) hx hb hts i_X hown hK hP 0 rfl rfl 10 (by decide) (hts _ wd_67) (fun _ h9 => h9) rfl d_X_orders_12 ?_
      refine nv_cge (tgt := 44) hx hb (by omega) (by omega) d_X_orders_15 (by decide) (fun c15 => ?_) (fun c15 => ?_)
      · obtain rfl : i = S.2.1 0 := by omega
        refine lv_aload_n hx hb d_X_orders_44 rfl (lv_at hl 2 rfl) ?_
        refine va_get (D := (dC, dI)) (ci := 0) (v := .ref (q 3)) (C := R_X) (T := F_X) (N := 12) hx hb hts i_X hown hK hP 0 rfl rfl 2 (by decide) (hts _ wd_59) (fun _ h9 => h9) rfl d_X_orders_45 ?_
        refine pu_go (va_runV (As := []) (rest := []) ⟨hx, hb, hml, hown, hts⟩ (c_W_made l dC dI cI (q 3) (q 13) 80 (T.2.1 4) 400 (rowf T.1 10)) (cwV 0 hts (gi_V wd_98 wd_99 wd_100 wd_2 wd_101) rfl rfl rfl (by decide +kernel) ⟨Nat.le_of_ble_eq_true rfl, Nat.le_of_ble_eq_true rfl⟩) (pu_preV hK (hP.sub [3, 13] rfl) (ci := 1) (q0 := 0) rfl rfl) rfl rfl hl.1 rfl (lv_room (Nat.le_of_ble_eq_true rfl)) d_X_orders_48 ⟨Nat.le_of_ble_eq_true rfl, Nat.le_of_ble_eq_true rfl⟩) ?_
        refine lv_iload_n hx hb d_X_orders_51 rfl (lv_at hl 1 rfl) ?_
        refine nv_sub hx hb (by omega) d_X_orders_52 ?_
        refine nv_as ((op_orders S).2.1) (by rw [hha1]; rfl) ?_
        have hP9 : va_P (dC, dI) classes (wX q cI ((op_orders S).2.2)) H := by rw [hha1] at hP; exact hP
        exact W.iret hx hb hr (fun t ht hW => ⟨rfl, by rw [ht]; exact hP9, hS.F ht⟩) hS.2.2 d_X_orders_53
      · refine lv_iconst (v := nI 0) hx hb d_X_orders_18 (by decide) ?_
        refine lv_istore_n (lv' := [(3, .int (nI 0)), (2, .int (nI i)), (1, .int (nI (S.2.1 4))), (0, .ref (q 0))]) hx hb d_X_orders_19 rfl hl (by decide) rfl (fun ls hl => ?_)
        have LP20 : ∀ (fub : Nat) (k : Nat) (U : St) (H : Heap) (locs : List Loc), 10 - k < fub → (k ≤ 10) → (U = ordR T i k) → va_P (dC, dI) classes (wX q cI U) H → va_D A (wX q cI U) → va_S A s.heap H locs → ∀ ls : Array Slot, lv_has ls 4 [(3, .int (nI k)), (2, .int (nI i)), (1, .int (nI (S.2.1 4))), (0, .ref (q 0))] → W p l e (headSpec (.code y_X_orders b_X_orders 4 (some .int) :: bg) { frames := 4, cells := 0, slots := 0, locals := 96 }).room s m (List.toArray [.ref (q 0)]) below meth c H locs 0 0 (MQ below (wr_Q (some (.int ((op_orders S).2.1))) (dC, dI) classes (wX q cI ((op_orders S).2.2)) A) (List.toArray [.ref (q 0)]) s 0 0 A) (F0 m 20 ls []) := by
          intro fub
          induction fub with
          | zero => intro k U H locs h; exact absurd h (Nat.not_lt_zero _)
          | succ fub ihb =>
            intro k U H locs hfub hhb0 hhb1 hP hD hS ls hl
            obtain ⟨hIU, hU2, hU3, hU4, hU5⟩ := ordR_all (t := t) hIT (s := i) (by omega) k hhb0
            rw [← hhb1] at hIU hU2 hU3 hU4 hU5
            rw [hT4] at hU4
            rw [hT5] at hU5
            have hBU := hIU.1
            have hg0 : U.2.1 0 ≤ 8 := hIU.2.1 0
            have hg1 : U.2.1 1 ≤ 9999 := hIU.2.1 1
            have hg2 : U.2.1 2 ≤ 60 := hIU.2.1 2
            have hg3 : U.2.1 3 ≤ 60 := hIU.2.1 3
            have hg4 : U.2.1 4 ≤ 80 := hIU.2.1 4
            have hg5 : U.2.1 5 ≤ 20 := hIU.2.1 5
            have hg6 : U.2.1 6 ≤ 80 := hIU.2.1 6
            have hg7 : U.2.1 7 ≤ 10 := hIU.2.1 7
            have hg8 : t ≤ 512 := hIU.2.2
            refine lv_iload_n hx hb d_X_orders_20 rfl (lv_at hl 0 rfl) ?_
            refine lv_bipush (v := nI 10) hx hb d_X_orders_21 (by decide) ?_
            refine nv_cge (tgt := 38) hx hb (by omega) (by omega) d_X_orders_23 (by decide) (fun c23 => ?_) (fun c23 => ?_)
            · refine lv_iinc (v := nI (i + 1)) (lv' := [(2, .int (nI (i + 1))), (3, .int (nI k)), (1, .int (nI (S.2.1 4))), (0, .ref (q 0))]) hx hb d_X_orders_38 hl (k := 1) rfl (nI_1 _) (by decide) rfl (fun ls hl => ?_)
              refine lv_goto (tgt := 10) hx hb d_X_orders_41 (by decide) ?_
              exact iha (i + 1) U _ _ (by omega) (by omega) (by rw [ordN_s, ← hha1, hhb1, show k = 10 by omega]) hP hD hS ls (lv_sub hl [0, 2, 3] (rfl))
            · refine lv_aload_n hx hb d_X_orders_26 rfl (lv_at hl 3 rfl) ?_
              refine lv_iload_n hx hb d_X_orders_27 rfl (lv_at hl 1 rfl) ?_
              refine lv_iload_n hx hb d_X_orders_28 rfl (lv_at hl 0 rfl) ?_
              refine wr_goA (va_runV (As := [.int (nI i), .int (nI k)]) (rest := []) ⟨hx, hb, hml, hown, hts⟩ (c_X_orderByLevel l dC dI H.size cI q U t hIU i k (by omega) (by omega) (fun j => by rw [hU4, hU5]; exact hlm j)) (cwV 2 hts (gi_V wd_102 wd_104 wp_0 wd_1 wd_105) rfl rfl rfl (by decide +kernel) ⟨Nat.le_of_ble_eq_true rfl, Nat.le_of_ble_eq_true rfl⟩) (wr_preV hK hP hD (ci := 0) (q0 := 0) rfl rfl) rfl rfl hl.1 rfl (lv_room (Nat.le_of_ble_eq_true rfl)) d_X_orders_29 ⟨Nat.le_of_ble_eq_true rfl, Nat.le_of_ble_eq_true rfl⟩) hD hS hA wX_adr (fun H locs hP hD hS => ?_)
              refine W.eq (g2 := F0 m 32 ls []) rfl ?_
              refine lv_iinc (v := nI (k + 1)) (lv' := [(3, .int (nI (k + 1))), (2, .int (nI i)), (1, .int (nI (S.2.1 4))), (0, .ref (q 0))]) hx hb d_X_orders_32 hl (k := 0) rfl (nI_1 _) (by decide) rfl (fun ls hl => ?_)
              refine lv_goto (tgt := 20) hx hb d_X_orders_35 (by decide) ?_
              exact ihb (k + 1) (ordK U i k) _ _ (by omega) (by omega) (by rw [hhb1]; rfl) hP hD hS ls (lv_sub hl [0, 1, 2, 3] (rfl))
        exact LP20 ((10 - 0) + 1) 0 T _ _ (Nat.lt_succ_self _) (Nat.zero_le _) rfl hP hD hS ls (lv_sub hl [0, 1, 2, 3] (rfl))
  exact LP10 ((S.2.1 0 - 0) + 1) 0 S _ _ (Nat.lt_succ_self _) (Nat.zero_le _) rfl hP hD hS ls (lv_sub hl [0, 1, 2] (rfl))
set_option maxHeartbeats 4000000 in
set_option maxRecDepth 100000 in
theorem c_X_give (l : Launch) (hst : l.stackTraces = false) (dC : Nat → ClassId) (dI : Nat → Nat → Nat) (A0 : Nat → Prop) (sz : Nat) (cI : ClassId) (q : Nat → Nat) (S : St) (t : Nat) (hI : Bd t S) (x y : Int32) (hou : ∀ j, S.1 2 j + 9999 ≤ 9999 * t) : vx_Met l y_X_give (.code y_X_give b_X_give 5 (some .int) :: bg) { frames := 8, cells := 3, slots := 18, locals := 132 } (xo_P (dC, dI) classes [(cI, .int)] A0 (wX q cI S) sz [.ref (q 0), .int x, .int y]) (xo_Q (op_give S x y) (some (.int (op_give S x y).2.1)) (dC, dI) classes (wX q cI (op_give S x y).2.2) (va_A (wX q cI S) sz)) (xo_X (op_give S x y) [E_ia, E_is]) 3 18 (va_A (wX q cI S) sz) := by
  refine vx_ofW (cc := b_X_give) (maxL := 5) (ret := (some .int)) (by decide) rfl ?_
  intro p e s m args below meth c s₁ B hml hnt hv
  obtain ⟨rfl, hsz, hP, hK, hD0, hG⟩ := hv
  subst hsz
  have hD := hD0.self (sz := s.heap.size)
  generalize hAe : va_A (wX q cI S) s.heap.size = A at hD ⊢
  have hA : ∀ q : Nat, s.heap.size ≤ q → A q := fun q h => by rw [← hAe]; exact Or.inr h
  have hS : va_S A s.heap s.heap [] := va_S.rf
  have hx := B.exec
  have hb := B.bytes
  have hr := B.returns
  have hts := fun w (h : w ∈ bg) => atoms_spec (ws := .code y_X_give b_X_give 5 (some .int) :: bg) B.pre w (List.mem_cons_of_mem _ h)
  have hown : s.vm.findClass R_X = some m.cls := findClass_of_methodNamed B.named
  have hlocks := B.notSynchronized
  have hl := lv_entry ([.ref (q 0), .int x, .int y]) (n := 5) (Nat.le_of_ble_eq_true rfl)
  rw [lg_entry_eq]
  generalize (lg_sl ([.ref (q 0), .int x, .int y]) ++ List.replicate (5 - (lg_sl ([.ref (q 0), .int x, .int y])).length) Slot.unset).toArray = ls at hl ⊢
  have hl : lv_has ls 5 [(0, .ref (q 0)), (1, .int x), (2, .int y)] := hl
  have hB := hI.1
  have hg0 : S.2.1 0 ≤ 8 := hI.2.1 0
  have hg1 : S.2.1 1 ≤ 9999 := hI.2.1 1
  have hg2 : S.2.1 2 ≤ 60 := hI.2.1 2
  have hg3 : S.2.1 3 ≤ 60 := hI.2.1 3
  have hg4 : S.2.1 4 ≤ 80 := hI.2.1 4
  have hg5 : S.2.1 5 ≤ 20 := hI.2.1 5
  have hg6 : S.2.1 6 ≤ 80 := hI.2.1 6
  have hg7 : S.2.1 7 ≤ 10 := hI.2.1 7
  have hg8 : t ≤ 512 := hI.2.2
  refine lv_aload_n hx hb d_X_give_0 rfl (lv_at hl 0 rfl) ?_
  refine lv_iload_n hx hb d_X_give_1 rfl (lv_at hl 1 rfl) ?_
  refine nd_go (vx_runV (As := [.int x]) (rest := []) ⟨hx, hb, hml, hown, hts⟩ (c_X_needStore l hst dC dI A0 cI q S t hI x) (cwV 1 hts (gi_V wd_283 wd_285 wp_7 wd_1 wd_286) rfl rfl rfl (by decide +kernel) ⟨Nat.le_of_ble_eq_true rfl, Nat.le_of_ble_eq_true rfl⟩) (nd_preV hK hP hG (ci := 0) (q0 := 0) rfl rfl) rfl rfl hl.1 rfl (lv_room (Nat.le_of_ble_eq_true rfl)) d_X_give_2 ⟨Nat.le_of_ble_eq_true rfl, Nat.le_of_ble_eq_true rfl⟩) (fun p2 ce q9 H1 h1 h2 h3 h4 h5 => vx_out (fun x hx => (hnt x hx).elim) hlocks h3 h4 h5 (fun t ht hv => ⟨by simp only [op_give, if_neg p2]; decide, by simp only [op_give, if_neg p2]; rfl, by rw [ht]; exact h1, fun z hz => by rw [ht]; exact h2 z hz⟩) (fun q h => nomatch h) (Nat.le_of_ble_eq_true rfl) (Nat.le_of_ble_eq_true rfl)) (fun p2 => ?_)
  obtain ⟨a1, ha1, rfl⟩ := ok_ex p2
  have ma1 : nn (nI a1) = a1 := nn_of (by omega)
  refine lv_iload_n hx hb d_X_give_5 rfl (lv_at hl 2 rfl) ?_
  refine nd_go (vx_runS (As := [.int y]) (rest := []) ⟨hx, hb, hml, hown, hts⟩ (c_X_needKit l hst dC dI A0 y) (cwS 1 hts (gi_S wd_456 wd_457 wd_1 wd_458) rfl rfl rfl (by decide +kernel) ⟨Nat.le_of_ble_eq_true rfl, Nat.le_of_ble_eq_true rfl⟩) (nd_preS (hK.sub (tys' := []) [] rfl) (fun k q h => by simp at h) hG) rfl rfl hl.1 rfl (lv_room (Nat.le_of_ble_eq_true rfl)) d_X_give_6 ⟨Nat.le_of_ble_eq_true rfl, Nat.le_of_ble_eq_true rfl⟩) (fun p6 ce q9 H1 h1 h2 h3 h4 h5 => vx_out (fun x hx => (hnt x hx).elim) hlocks h3 h4 h5 (fun t ht hv => ⟨by simp only [op_give, ma1, if_pos p2, if_neg p6]; decide, by simp only [op_give, ma1, if_pos p2, if_neg p6]; rfl, by rw [ht]; exact h1, fun z hz => by rw [ht]; exact h2 z hz⟩) (fun q h => nomatch h) (Nat.le_of_ble_eq_true rfl) (Nat.le_of_ble_eq_true rfl)) (fun p6 => ?_)
  obtain ⟨a2, ha2, rfl⟩ := ok_ex p6
  have ma2 : nn (nI a2) = a2 := nn_of (by omega)
  refine lv_aload_n hx hb d_X_give_9 rfl (lv_at hl 0 rfl) ?_
  refine lv_iload_n hx hb d_X_give_10 rfl (lv_at hl 2 rfl) ?_
  refine pu_go (va_runV (As := [.int (nI a2)]) (rest := []) ⟨hx, hb, hml, hown, hts⟩ (c_X_hasParts l dC dI cI q S t hI a2 (by omega)) (cwV 1 hts (gi_V wd_467 wd_469 wp_17 wd_1 wd_470) rfl rfl rfl (by decide +kernel) ⟨Nat.le_of_ble_eq_true rfl, Nat.le_of_ble_eq_true rfl⟩) (pu_preV hK hP (ci := 0) (q0 := 0) rfl rfl) rfl rfl hl.1 rfl (lv_room (Nat.le_of_ble_eq_true rfl)) d_X_give_11 ⟨Nat.le_of_ble_eq_true rfl, Nat.le_of_ble_eq_true rfl⟩) ?_
  refine nv_bn (tgt := 27) hx hb d_X_give_14 (by decide) (fun c14 => ?_) (fun c14 => ?_)
  · refine lv_aload_n hx hb d_X_give_27 rfl (lv_at hl 0 rfl) ?_
    refine lv_iload_n hx hb d_X_give_28 rfl (lv_at hl 1 rfl) ?_
    refine lv_iload_n hx hb d_X_give_29 rfl (lv_at hl 2 rfl) ?_
    refine pu_go (va_runV (As := [.int (nI a1), .int (nI a2)]) (rest := []) ⟨hx, hb, hml, hown, hts⟩ (c_X_lackingKind l dC dI cI q S t hI a1 a2 (by omega) (by omega)) (cwV 2 hts (gi_V wd_472 wd_474 wp_18 wd_1 wd_475) rfl rfl rfl (by decide +kernel) ⟨Nat.le_of_ble_eq_true rfl, Nat.le_of_ble_eq_true rfl⟩) (pu_preV hK hP (ci := 0) (q0 := 0) rfl rfl) rfl rfl hl.1 rfl (lv_room (Nat.le_of_ble_eq_true rfl)) d_X_give_30 ⟨Nat.le_of_ble_eq_true rfl, Nat.le_of_ble_eq_true rfl⟩) ?_
    refine lv_istore_n (lv' := [(3, .int (o2 (lack S a1 a2))), (0, .ref (q 0)), (1, .int (nI a1)), (2, .int (nI a2))]) hx hb d_X_give_33 rfl hl (by decide) rfl (fun ls hl => ?_)
    refine lv_iload_n hx hb d_X_give_34 rfl (lv_at hl 0 rfl) ?_
    refine lv_if_lt (tgt := 40) hx hb d_X_give_35 (by decide) (fun c35 => ?_) (fun c35 => ?_)
    · have hno : lack S a1 a2 = none := o2_none c35 (fun b hb => by have := List.mem_range.mp (List.mem_of_find?_eq_some hb); omega)
      refine lv_iconst (v := nI 0) hx hb d_X_give_40 (by decide) ?_
      refine lv_istore (lv' := [(4, .int (nI 0)), (3, .int (o2 (lack S a1 a2))), (0, .ref (q 0)), (1, .int (nI a1)), (2, .int (nI a2))]) hx hb d_X_give_41 hl (by decide) rfl (fun ls hl => ?_)
      have LP43 : ∀ (fu : Nat) (i : Nat) (T : St) (H : Heap) (locs : List Loc), 10 - i < fu → (i ≤ 10) → (T = gvN S a1 a2 i) → va_P (dC, dI) classes (wX q cI T) H → va_D A (wX q cI T) → va_S A s.heap H locs → ∀ ls : Array Slot, lv_has ls 5 [(4, .int (nI i)), (3, .int (o2 (lack S a1 a2))), (0, .ref (q 0)), (1, .int (nI a1)), (2, .int (nI a2))] → W p l e (headSpec (.code y_X_give b_X_give 5 (some .int) :: bg) { frames := 8, cells := 3, slots := 18, locals := 132 }).room s m (List.toArray [.ref (q 0), .int (nI a1), .int (nI a2)]) below meth c H locs 2 12 (vx_MQ below (xo_Q (op_give S (nI a1) (nI a2)) (some (.int (op_give S (nI a1) (nI a2)).2.1)) (dC, dI) classes (wX q cI (op_give S (nI a1) (nI a2)).2.2) A) (xo_X (op_give S (nI a1) (nI a2)) [E_ia, E_is]) (List.toArray [.ref (q 0), .int (nI a1), .int (nI a2)]) s 3 18 A) (F0 m 43 ls []) := by
        intro fu
        induction fu with
        | zero => intro i T H locs h; exact absurd h (Nat.not_lt_zero _)
        | succ fu ih =>
          intro i T H locs hfu hh0 hh1 hP hD hS ls hl
          obtain ⟨hIT, hT2, hT3, hT4⟩ := gvN_all (t := t) (s := a1) (kt := a2) hI (fun j => by have := hou j; omega) i hh0
          rw [← hh1] at hIT hT2 hT3 hT4
          have hBT := hIT.1
          have hg0 : T.2.1 0 ≤ 8 := hIT.2.1 0
          have hg1 : T.2.1 1 ≤ 9999 := hIT.2.1 1
          have hg2 : T.2.1 2 ≤ 60 := hIT.2.1 2
          have hg3 : T.2.1 3 ≤ 60 := hIT.2.1 3
          have hg4 : T.2.1 4 ≤ 80 := hIT.2.1 4
          have hg5 : T.2.1 5 ≤ 20 := hIT.2.1 5
          have hg6 : T.2.1 6 ≤ 80 := hIT.2.1 6
          have hg7 : T.2.1 7 ≤ 10 := hIT.2.1 7
          have hg8 : t ≤ 512 := hIT.2.2
          refine lv_iload hx hb d_X_give_43 (lv_at hl 0 rfl) ?_
          refine lv_bipush (v := nI 10) hx hb d_X_give_45 (by decide) ?_
          refine nv_cge (tgt := 74) hx hb (by omega) (by omega) d_X_give_47 (by decide) (fun c47 => ?_) (fun c47 => ?_)
          · obtain rfl : i = 10 := by omega
            refine lv_iconst (v := (-1)) hx hb d_X_give_74 (by decide) ?_
            have ho : op_give S (nI a1) (nI a2) = (0, (-1), gvN S a1 a2 10) := by simp only [op_give, ma1, if_pos p2, ma2, if_pos p6, if_pos c14, hno]
            rw [ho]
            refine W.widen (k := 3) (n := 18) (Nat.le_of_ble_eq_true rfl) (Nat.le_of_ble_eq_true rfl) ?_
            have hP9 : va_P (dC, dI) classes (wX q cI (gvN S a1 a2 10)) H := by rw [hh1] at hP; exact hP
            exact vx_ret (W.iret hx hb hr (fun t ht hW => ⟨rfl, rfl, by rw [ht]; exact hP9, hS.F ht⟩) hS.2.2 d_X_give_75)
          · refine lv_aload_n hx hb d_X_give_50 rfl (lv_at hl 2 rfl) ?_
            refine lv_iload_n hx hb d_X_give_51 rfl (lv_at hl 3 rfl) ?_
            refine lv_iload hx hb d_X_give_52 (lv_at hl 0 rfl) ?_
            refine lv_aload_n hx hb d_X_give_54 rfl (lv_at hl 2 rfl) ?_
            refine va_get (D := (dC, dI)) (ci := 0) (v := .ref (q 10)) (C := R_X) (T := F_X) (N := 12) hx hb hts i_X hown hK hP 0 rfl rfl 9 (by decide) (hts _ wd_66) (fun _ h9 => h9) rfl d_X_give_55 ?_
            refine lv_iload_n hx hb d_X_give_58 rfl (lv_at hl 4 rfl) ?_
            refine lv_iload hx hb d_X_give_59 (lv_at hl 0 rfl) ?_
            refine pu_go (va_runS (As := [.int (nI a2), .int (nI i)]) (rest := [.ref (q 10), .int (nI i), .int (nI a1), .ref (q 0)]) ⟨hx, hb, hml, hown, hts⟩ (c_X_pair l dC dI a2 i) (cwS 2 hts (gi_S wd_106 wd_107 wd_1 wd_108) rfl rfl rfl (by decide +kernel) ⟨Nat.le_of_ble_eq_true rfl, Nat.le_of_ble_eq_true rfl⟩) (pu_preS (hK.sub (tys' := []) [] rfl) (fun k q h => by simp at h)) rfl rfl hl.1 rfl (lv_room (Nat.le_of_ble_eq_true rfl)) d_X_give_61 ⟨Nat.le_of_ble_eq_true rfl, Nat.le_of_ble_eq_true rfl⟩) ?_
            refine nv_iald (v := nI (T.1 28 (a2 * 10 + i))) hx hb hK hP 10 0 rfl rfl (by omega) (by decide) rfl d_X_give_64 ?_
            have h28 : T.1 28 (a2 * 10 + i) = S.1 28 (a2 * 10 + i) := by rw [hT4 28 (by decide) (by decide)]
            have hb28 : T.1 28 (a2 * 10 + i) ≤ 20 := hBT 28 _
            refine wr_goA (va_runV (As := [.int (nI a1), .int (nI i), .int (nI (T.1 28 (a2 * 10 + i)))]) (rest := []) ⟨hx, hb, hml, hown, hts⟩ (c_X_take l dC dI H.size cI q T t hIT a1 i (T.1 28 (a2 * 10 + i)) (by omega) (by omega) (by omega) (fun j => by have := hT2 j; omega)) (cwV 3 hts (gi_V wd_358 wd_360 wp_14 wd_1 wd_361) rfl rfl rfl (by decide +kernel) ⟨Nat.le_of_ble_eq_true rfl, Nat.le_of_ble_eq_true rfl⟩) (wr_preV hK hP hD (ci := 0) (q0 := 0) rfl rfl) rfl rfl hl.1 rfl (lv_room (Nat.le_of_ble_eq_true rfl)) d_X_give_65 ⟨Nat.le_of_ble_eq_true rfl, Nat.le_of_ble_eq_true rfl⟩) hD hS hA wX_adr (fun H locs hP hD hS => ?_)
            refine W.eq (g2 := F0 m 68 ls []) rfl ?_
            obtain ⟨T1, hT1⟩ : ∃ z : St, z = tk a1 i 60 T (T.1 28 (a2 * 10 + i)) := ⟨_, rfl⟩
            rw [← hT1] at hP hD
            refine lv_iinc (v := nI (i + 1)) (lv' := [(4, .int (nI (i + 1))), (3, .int (o2 (lack S a1 a2))), (0, .ref (q 0)), (1, .int (nI a1)), (2, .int (nI a2))]) hx hb d_X_give_68 hl (k := 0) rfl (nI_1 _) (by decide) rfl (fun ls hl => ?_)
            refine lv_goto (tgt := 43) hx hb d_X_give_71 (by decide) ?_
            exact ih (i + 1) T1 _ _ (by omega) (by omega) (by rw [hT1, h28, hh1]; rfl) hP hD hS ls (lv_sub hl [0, 1, 2, 3, 4] (rfl))
      exact LP43 ((10 - 0) + 1) 0 S _ _ (Nat.lt_succ_self _) (Nat.zero_le _) rfl hP hD hS ls (lv_sub hl [0, 1, 2, 3, 4] (rfl))
    · obtain ⟨b, hbb⟩ := o2_some c35
      refine lv_iload_n hx hb d_X_give_38 rfl (lv_at hl 0 rfl) ?_
      have ho : op_give S (nI a1) (nI a2) = (0, nI b, S) := by simp only [op_give, ma1, if_pos p2, ma2, if_pos p6, if_pos c14, hbb]
      rw [ho]
      refine nv_as (nI b) (by rw [hbb]; rfl) ?_
      refine W.widen (k := 3) (n := 18) (Nat.le_of_ble_eq_true rfl) (Nat.le_of_ble_eq_true rfl) ?_
      have hP9 : va_P (dC, dI) classes (wX q cI (S)) s.heap := hP
      exact vx_ret (W.iret hx hb hr (fun t ht hW => ⟨rfl, rfl, by rw [ht]; exact hP9, hS.F ht⟩) hS.2.2 d_X_give_39)
  · exact x_throw (A := A0) hx hb hst hown hts hG ex_is sx_173 hnt (hl.1.trans hml.symm) hlocks d_X_give_17 d_X_give_20 d_X_give_21 d_X_give_23 d_X_give_26 (Nat.le_of_ble_eq_true rfl) (Nat.le_of_ble_eq_true rfl) (Nat.le_of_ble_eq_true rfl) (Nat.le_of_ble_eq_true rfl) (Nat.le_of_ble_eq_true rfl) (Nat.le_of_ble_eq_true rfl) (fun t h1 h2 => ⟨by simp only [op_give, ma1, if_pos p2, ma2, if_pos p6, if_neg (show ¬ anyPart S a2 = true by rw [c14]; decide)]; decide, by simp only [op_give, ma1, if_pos p2, ma2, if_pos p6, if_neg (show ¬ anyPart S a2 = true by rw [c14]; decide)]; rfl, h1, h2⟩)
set_option maxHeartbeats 4000000 in
set_option maxRecDepth 100000 in
theorem c_X_tick (l : Launch) (hst : l.stackTraces = false) (dC : Nat → ClassId) (dI : Nat → Nat → Nat) (A0 : Nat → Prop) (sz : Nat) (cI : ClassId) (q : Nat → Nat) (S : St) (t : Nat) (hI : Bd t S) (x : Int32) : vx_Met l y_X_tick (.code y_X_tick b_X_tick 4 (some .int) :: bg) { frames := 8, cells := 2, slots := 12, locals := 132 } (xo_P (dC, dI) classes [(cI, .int)] A0 (wX q cI S) sz [.ref (q 0), .int x]) (xo_Q (op_tick S x) (some (.int (op_tick S x).2.1)) (dC, dI) classes (wX q cI (op_tick S x).2.2) (va_A (wX q cI S) sz)) (xo_X (op_tick S x) [E_io]) 2 12 (va_A (wX q cI S) sz) := by
  refine vx_ofW (cc := b_X_tick) (maxL := 4) (ret := (some .int)) (by decide) rfl ?_
  intro p e s m args below meth c s₁ B hml hnt hv
  obtain ⟨rfl, hsz, hP, hK, hD0, hG⟩ := hv
  subst hsz
  have hD := hD0.self (sz := s.heap.size)
  generalize hAe : va_A (wX q cI S) s.heap.size = A at hD ⊢
  have hA : ∀ q : Nat, s.heap.size ≤ q → A q := fun q h => by rw [← hAe]; exact Or.inr h
  have hS : va_S A s.heap s.heap [] := va_S.rf
  have hx := B.exec
  have hb := B.bytes
  have hr := B.returns
  have hts := fun w (h : w ∈ bg) => atoms_spec (ws := .code y_X_tick b_X_tick 4 (some .int) :: bg) B.pre w (List.mem_cons_of_mem _ h)
  have hown : s.vm.findClass R_X = some m.cls := findClass_of_methodNamed B.named
  have hlocks := B.notSynchronized
  have hl := lv_entry ([.ref (q 0), .int x]) (n := 4) (Nat.le_of_ble_eq_true rfl)
  rw [lg_entry_eq]
  generalize (lg_sl ([.ref (q 0), .int x]) ++ List.replicate (4 - (lg_sl ([.ref (q 0), .int x])).length) Slot.unset).toArray = ls at hl ⊢
  have hl : lv_has ls 4 [(0, .ref (q 0)), (1, .int x)] := hl
  have hB := hI.1
  have hg0 : S.2.1 0 ≤ 8 := hI.2.1 0
  have hg1 : S.2.1 1 ≤ 9999 := hI.2.1 1
  have hg2 : S.2.1 2 ≤ 60 := hI.2.1 2
  have hg3 : S.2.1 3 ≤ 60 := hI.2.1 3
  have hg4 : S.2.1 4 ≤ 80 := hI.2.1 4
  have hg5 : S.2.1 5 ≤ 20 := hI.2.1 5
  have hg6 : S.2.1 6 ≤ 80 := hI.2.1 6
  have hg7 : S.2.1 7 ≤ 10 := hI.2.1 7
  have hg8 : t ≤ 512 := hI.2.2
  refine lv_iload_n hx hb d_X_tick_0 rfl (lv_at hl 1 rfl) ?_
  refine lv_iconst (v := nI 1) hx hb d_X_tick_1 (by decide) ?_
  refine lv_sipush (v := nI 1000) hx hb d_X_tick_2 (by decide) ?_
  refine nd_go (vx_runS (As := [.int x, .int (nI 1), .int (nI 1000)]) (rest := []) ⟨hx, hb, hml, hown, hts⟩ (c_X_needRange l hst dC dI A0 x 1 1000 (by omega) (by omega)) (cwS 3 hts (gi_S wd_253 wd_254 wd_1 wd_255) rfl rfl rfl (by decide +kernel) ⟨Nat.le_of_ble_eq_true rfl, Nat.le_of_ble_eq_true rfl⟩) (nd_preS (hK.sub (tys' := []) [] rfl) (fun k q h => by simp at h) hG) rfl rfl hl.1 rfl (lv_room (Nat.le_of_ble_eq_true rfl)) d_X_tick_5 ⟨Nat.le_of_ble_eq_true rfl, Nat.le_of_ble_eq_true rfl⟩) (fun p5 ce q9 H1 h1 h2 h3 h4 h5 => vx_out (fun x hx => (hnt x hx).elim) hlocks h3 h4 h5 (fun t ht hv => ⟨by simp only [op_tick, if_neg p5]; decide, by simp only [op_tick, if_neg p5]; rfl, by rw [ht]; exact h1, fun z hz => by rw [ht]; exact h2 z hz⟩) (fun q h => nomatch h) (Nat.le_of_ble_eq_true rfl) (Nat.le_of_ble_eq_true rfl)) (fun p5 => ?_)
  obtain ⟨a1, ga1, ha1, rfl⟩ := rg_ex p5
  have ma1 : nn (nI a1) = a1 := nn_of (by omega)
  refine lv_aload_n hx hb d_X_tick_8 rfl (lv_at hl 0 rfl) ?_
  refine va_get (D := (dC, dI)) (ci := 0) (v := .int (nI (S.2.1 1))) (C := R_X) (T := F_X) (N := 12) hx hb hts i_X hown hK hP 0 rfl rfl 11 (by decide) (hts _ wd_68) (fun _ h9 => h9) rfl d_X_tick_9 ?_
  refine lv_iload_n hx hb d_X_tick_12 rfl (lv_at hl 1 rfl) ?_
  refine nv_add hx hb d_X_tick_13 ?_
  refine lv_iconst (v := nI 0) hx hb d_X_tick_14 (by decide) ?_
  refine lv_sipush (v := nI 9999) hx hb d_X_tick_15 (by decide) ?_
  refine nd_go (vx_runS (As := [.int (nI ((S.2.1 1) + a1)), .int (nI 0), .int (nI 9999)]) (rest := []) ⟨hx, hb, hml, hown, hts⟩ (c_X_needRange l hst dC dI A0 (nI ((S.2.1 1) + a1)) 0 9999 (by omega) (by omega)) (cwS 3 hts (gi_S wd_253 wd_254 wd_1 wd_255) rfl rfl rfl (by decide +kernel) ⟨Nat.le_of_ble_eq_true rfl, Nat.le_of_ble_eq_true rfl⟩) (nd_preS (hK.sub (tys' := []) [] rfl) (fun k q h => by simp at h) hG) rfl rfl hl.1 rfl (lv_room (Nat.le_of_ble_eq_true rfl)) d_X_tick_18 ⟨Nat.le_of_ble_eq_true rfl, Nat.le_of_ble_eq_true rfl⟩) (fun p18 ce q9 H1 h1 h2 h3 h4 h5 => vx_out (fun x hx => (hnt x hx).elim) hlocks h3 h4 h5 (fun t ht hv => ⟨by simp only [op_tick, ma1, if_pos p5, if_neg (show ¬ S.2.1 1 + a1 ≤ 9999 from fun h => p18 (by rw [rg_nI (by omega)]; simpa using h))]; decide, by simp only [op_tick, ma1, if_pos p5, if_neg (show ¬ S.2.1 1 + a1 ≤ 9999 from fun h => p18 (by rw [rg_nI (by omega)]; simpa using h))]; rfl, by rw [ht]; exact h1, fun z hz => by rw [ht]; exact h2 z hz⟩) (fun q h => nomatch h) (Nat.le_of_ble_eq_true rfl) (Nat.le_of_ble_eq_true rfl)) (fun p18 => ?_)
  have q18 : S.2.1 1 + a1 ≤ 9999 := by rw [rg_nI (by omega)] at p18; simpa using p18
  refine lv_aload_n hx hb d_X_tick_21 rfl (lv_at hl 0 rfl) ?_
  refine lv_dup hx hb d_X_tick_22 rfl ?_
  refine va_get (D := (dC, dI)) (ci := 0) (v := .int (nI (S.2.1 1))) (C := R_X) (T := F_X) (N := 12) hx hb hts i_X hown hK hP 0 rfl rfl 11 (by decide) (hts _ wd_68) (fun _ h9 => h9) rfl d_X_tick_23 ?_
  refine lv_iload_n hx hb d_X_tick_26 rfl (lv_at hl 1 rfl) ?_
  refine nv_add hx hb d_X_tick_27 ?_
  refine va_put (D := (dC, dI)) (ci := 0) (v := .int (nI ((S.2.1 1) + a1))) (ty := .int) (C := R_X) (T := F_X) (N := 12) hx hb hts i_X ty_X ty_X_ok n_X hown hK hP hD hS 0 rfl rfl 11 (by decide) (hts _ wd_68) (fun _ h9 => h9) rfl (by decide +kernel) rfl rfl (Nat.le_of_ble_eq_true rfl) d_X_tick_28 (fun H locs hP hD hS => ?_)
  have hP : va_P (dC, dI) classes (wX q cI (S_g S 1 ((S.2.1 1) + a1))) H := by rw [← wX_g1]; exact hP
  have hD : va_D A (wX q cI (S_g S 1 ((S.2.1 1) + a1))) := by rw [← wX_g1]; exact hD
  obtain ⟨S1, hS1⟩ : ∃ z : St, z = S_g S 1 ((S.2.1 1) + a1) := ⟨_, rfl⟩
  rw [← hS1] at hP hD
  have hIS1 : Bd t S1 := by rw [hS1]; exact Bd_g hI (show _ ≤ 9999 from q18)
  have hBS1 := hIS1.1
  have hg0 : S1.2.1 0 ≤ 8 := hIS1.2.1 0
  have hg1 : S1.2.1 1 ≤ 9999 := hIS1.2.1 1
  have hg2 : S1.2.1 2 ≤ 60 := hIS1.2.1 2
  have hg3 : S1.2.1 3 ≤ 60 := hIS1.2.1 3
  have hg4 : S1.2.1 4 ≤ 80 := hIS1.2.1 4
  have hg5 : S1.2.1 5 ≤ 20 := hIS1.2.1 5
  have hg6 : S1.2.1 6 ≤ 80 := hIS1.2.1 6
  have hg7 : S1.2.1 7 ≤ 10 := hIS1.2.1 7
  have hg8 : t ≤ 512 := hIS1.2.2
  refine lv_iconst (v := nI 0) hx hb d_X_tick_31 (by decide) ?_
  refine lv_istore_n (lv' := [(2, .int (nI 0)), (0, .ref (q 0)), (1, .int (nI a1))]) hx hb d_X_tick_32 rfl hl (by decide) rfl (fun ls hl => ?_)
  refine lv_iconst (v := nI 0) hx hb d_X_tick_33 (by decide) ?_
  refine lv_istore_n (lv' := [(3, .int (nI 0)), (2, .int (nI 0)), (0, .ref (q 0)), (1, .int (nI a1))]) hx hb d_X_tick_34 rfl hl (by decide) rfl (fun ls hl => ?_)
  have LP35 : ∀ (fu : Nat) (i : Nat) (T : St) (H : Heap) (locs : List Loc), S.2.1 3 - i < fu → (i ≤ S.2.1 3) → (T = arr S1 (S.2.1 1 + a1) i) → va_P (dC, dI) classes (wX q cI T) H → va_D A (wX q cI T) → va_S A s.heap H locs → ∀ ls : Array Slot, lv_has ls 4 [(3, .int (nI i)), (2, .int (nI (arrC S1 (S.2.1 1 + a1) i))), (0, .ref (q 0)), (1, .int (nI a1))] → W p l e (headSpec (.code y_X_tick b_X_tick 4 (some .int) :: bg) { frames := 8, cells := 2, slots := 12, locals := 132 }).room s m (List.toArray [.ref (q 0), .int (nI a1)]) below meth c H locs 2 12 (vx_MQ below (xo_Q (op_tick S (nI a1)) (some (.int (op_tick S (nI a1)).2.1)) (dC, dI) classes (wX q cI (op_tick S (nI a1)).2.2) A) (xo_X (op_tick S (nI a1)) [E_io]) (List.toArray [.ref (q 0), .int (nI a1)]) s 2 12 A) (F0 m 35 ls []) := by
    intro fu
    induction fu with
    | zero => intro i T H locs h; exact absurd h (Nat.not_lt_zero _)
    | succ fu ih =>
      intro i T H locs hfu hh0 hh1 hP hD hS ls hl
      obtain ⟨hIT, hT2⟩ := arr_all (t := t) (D := S.2.1 1 + a1) hIS1 i
      rw [← hh1] at hIT hT2
      have hBT := hIT.1
      have hg0 : T.2.1 0 ≤ 8 := hIT.2.1 0
      have hg1 : T.2.1 1 ≤ 9999 := hIT.2.1 1
      have hg2 : T.2.1 2 ≤ 60 := hIT.2.1 2
      have hg3 : T.2.1 3 ≤ 60 := hIT.2.1 3
      have hg4 : T.2.1 4 ≤ 80 := hIT.2.1 4
      have hg5 : T.2.1 5 ≤ 20 := hIT.2.1 5
      have hg6 : T.2.1 6 ≤ 80 := hIT.2.1 6
      have hg7 : T.2.1 7 ≤ 10 := hIT.2.1 7
      have hg8 : t ≤ 512 := hIT.2.2
      have r3 : T.2.1 3 = S.2.1 3 := by rw [hT2, hS1]; rfl
      have r1 : T.2.1 1 = S.2.1 1 + a1 := by rw [hT2, hS1]; rfl
      have hcl := arrC_le (S := S1) (D := S.2.1 1 + a1) i
      refine lv_iload_n hx hb d_X_tick_35 rfl (lv_at hl 0 rfl) ?_
      refine lv_aload_n hx hb d_X_tick_36 rfl (lv_at hl 2 rfl) ?_
      refine va_get (D := (dC, dI)) (ci := 0) (v := .ref (q 2)) (C := R_X) (T := F_X) (N := 12) hx hb hts i_X hown hK hP 0 rfl rfl 1 (by decide) (hts _ wd_58) (fun _ h9 => h9) rfl d_X_tick_37 ?_
      refine pu_go (va_runV (As := []) (rest := [.int (nI i)]) ⟨hx, hb, hml, hown, hts⟩ (c_W_made l dC dI cI (q 2) (q 12) 60 (T.2.1 3) 300 (rowf T.1 5)) (cwV 0 hts (gi_V wd_98 wd_99 wd_100 wd_2 wd_101) rfl rfl rfl (by decide +kernel) ⟨Nat.le_of_ble_eq_true rfl, Nat.le_of_ble_eq_true rfl⟩) (pu_preV hK (hP.sub [2, 12] rfl) (ci := 1) (q0 := 0) rfl rfl) rfl rfl hl.1 rfl (lv_room (Nat.le_of_ble_eq_true rfl)) d_X_tick_40 ⟨Nat.le_of_ble_eq_true rfl, Nat.le_of_ble_eq_true rfl⟩) ?_
      refine nv_cge (tgt := 89) hx hb (by omega) (by omega) d_X_tick_43 (by decide) (fun c43 => ?_) (fun c43 => ?_)
      · obtain rfl : i = S.2.1 3 := by omega
        refine lv_iload_n hx hb d_X_tick_89 rfl (lv_at hl 1 rfl) ?_
        have ho : op_tick S (nI a1) = (0, nI (arrC (S_g S 1 (S.2.1 1 + a1)) (S.2.1 1 + a1) (S.2.1 3)), arr (S_g S 1 (S.2.1 1 + a1)) (S.2.1 1 + a1) (S.2.1 3)) := by simp only [op_tick, ma1, if_pos p5, if_pos q18]
        rw [ho]
        refine nv_as (nI (arrC (S_g S 1 (S.2.1 1 + a1)) (S.2.1 1 + a1) (S.2.1 3))) (by rw [hS1]) ?_
        refine W.widen (k := 2) (n := 12) (Nat.le_of_ble_eq_true rfl) (Nat.le_of_ble_eq_true rfl) ?_
        have hP9 : va_P (dC, dI) classes (wX q cI (arr (S_g S 1 (S.2.1 1 + a1)) (S.2.1 1 + a1) (S.2.1 3))) H := by rw [hh1, hS1] at hP; exact hP
        exact vx_ret (W.iret hx hb hr (fun t ht hW => ⟨rfl, rfl, by rw [ht]; exact hP9, hS.F ht⟩) hS.2.2 d_X_tick_90)
      · refine lv_aload_n hx hb d_X_tick_46 rfl (lv_at hl 2 rfl) ?_
        refine va_get (D := (dC, dI)) (ci := 0) (v := .ref (q 2)) (C := R_X) (T := F_X) (N := 12) hx hb hts i_X hown hK hP 0 rfl rfl 1 (by decide) (hts _ wd_58) (fun _ h9 => h9) rfl d_X_tick_47 ?_
        refine lv_iload_n hx hb d_X_tick_50 rfl (lv_at hl 0 rfl) ?_
        refine lv_iconst (v := nI 4) hx hb d_X_tick_51 (by decide) ?_
        refine pu_go (va_runV (As := [.int (nI i), .int (nI 4)]) (rest := []) ⟨hx, hb, hml, hown, hts⟩ (c_W_at l dC dI cI (q 2) (q 12) 60 (T.2.1 3) 300 (rowf T.1 5) i 4 (by omega) (by decide)) (cwV 2 hts (gi_V wd_117 wd_118 wd_119 wd_2 wd_120) rfl rfl rfl (by decide +kernel) ⟨Nat.le_of_ble_eq_true rfl, Nat.le_of_ble_eq_true rfl⟩) (pu_preV hK (hP.sub [2, 12] rfl) (ci := 1) (q0 := 0) rfl rfl) rfl rfl hl.1 rfl (lv_room (Nat.le_of_ble_eq_true rfl)) d_X_tick_52 ⟨Nat.le_of_ble_eq_true rfl, Nat.le_of_ble_eq_true rfl⟩) ?_
        refine nv_as (nI (T.1 9 i)) (rowf_at (by decide)) ?_
        have hb1 : T.1 9 i ≤ 1 := hBT 9 _
        refine lv_iconst (v := nI 1) hx hb d_X_tick_55 (by decide) ?_
        refine nv_cne (tgt := 83) hx hb (by omega) (by omega) d_X_tick_56 (by decide) (fun c56 => ?_) (fun c56 => ?_)
        · refine lv_iinc (v := nI (i + 1)) (lv' := [(3, .int (nI (i + 1))), (2, .int (nI (arrC S1 (S.2.1 1 + a1) i))), (0, .ref (q 0)), (1, .int (nI a1))]) hx hb d_X_tick_83 hl (k := 0) rfl (nI_1 _) (by decide) rfl (fun ls hl => ?_)
          refine lv_goto (tgt := 35) hx hb d_X_tick_86 (by decide) ?_
          exact ih (i + 1) T _ _ (by omega) (by omega) (by rw [(arr_n (hndue hh1 (by omega))).1]; exact hh1) hP hD hS ls (lv_sub hl [0, 1, 2, 3] (by rw [(arr_n (hndue hh1 (by omega))).2]; rfl))
        · refine lv_aload_n hx hb d_X_tick_59 rfl (lv_at hl 2 rfl) ?_
          refine va_get (D := (dC, dI)) (ci := 0) (v := .ref (q 2)) (C := R_X) (T := F_X) (N := 12) hx hb hts i_X hown hK hP 0 rfl rfl 1 (by decide) (hts _ wd_58) (fun _ h9 => h9) rfl d_X_tick_60 ?_
          refine lv_iload_n hx hb d_X_tick_63 rfl (lv_at hl 0 rfl) ?_
          refine lv_iconst (v := nI 3) hx hb d_X_tick_64 (by decide) ?_
          refine pu_go (va_runV (As := [.int (nI i), .int (nI 3)]) (rest := []) ⟨hx, hb, hml, hown, hts⟩ (c_W_at l dC dI cI (q 2) (q 12) 60 (T.2.1 3) 300 (rowf T.1 5) i 3 (by omega) (by decide)) (cwV 2 hts (gi_V wd_117 wd_118 wd_119 wd_2 wd_120) rfl rfl rfl (by decide +kernel) ⟨Nat.le_of_ble_eq_true rfl, Nat.le_of_ble_eq_true rfl⟩) (pu_preV hK (hP.sub [2, 12] rfl) (ci := 1) (q0 := 0) rfl rfl) rfl rfl hl.1 rfl (lv_room (Nat.le_of_ble_eq_true rfl)) d_X_tick_65 ⟨Nat.le_of_ble_eq_true rfl, Nat.le_of_ble_eq_true rfl⟩) ?_
          refine nv_as (nI (T.1 8 i)) (rowf_at (by decide)) ?_
          have hb2 : T.1 8 i ≤ 10029 := hBT 8 _
          refine lv_aload_n hx hb d_X_tick_68 rfl (lv_at hl 2 rfl) ?_
          refine va_get (D := (dC, dI)) (ci := 0) (v := .int (nI (T.2.1 1))) (C := R_X) (T := F_X) (N := 12) hx hb hts i_X hown hK hP 0 rfl rfl 11 (by decide) (hts _ wd_68) (fun _ h9 => h9) rfl d_X_tick_69 ?_
          refine nv_cgt (tgt := 83) hx hb (by omega) (by omega) d_X_tick_72 (by decide) (fun c72 => ?_) (fun c72 => ?_)
          · refine lv_iinc (v := nI (i + 1)) (lv' := [(3, .int (nI (i + 1))), (2, .int (nI (arrC S1 (S.2.1 1 + a1) i))), (0, .ref (q 0)), (1, .int (nI a1))]) hx hb d_X_tick_83 hl (k := 0) rfl (nI_1 _) (by decide) rfl (fun ls hl => ?_)
            refine lv_goto (tgt := 35) hx hb d_X_tick_86 (by decide) ?_
            exact ih (i + 1) T _ _ (by omega) (by omega) (by rw [(arr_n (hndue hh1 (by omega))).1]; exact hh1) hP hD hS ls (lv_sub hl [0, 1, 2, 3] (by rw [(arr_n (hndue hh1 (by omega))).2]; rfl))
          · refine lv_aload_n hx hb d_X_tick_75 rfl (lv_at hl 2 rfl) ?_
            refine lv_iload_n hx hb d_X_tick_76 rfl (lv_at hl 0 rfl) ?_
            refine wr_goA (va_runV (As := [.int (nI i)]) (rest := []) ⟨hx, hb, hml, hown, hts⟩ (c_X_arrive l dC dI H.size cI q T t hIT i (by omega)) (cwV 1 hts (gi_V wd_338 wd_340 wp_12 wd_1 wd_341) rfl rfl rfl (by decide +kernel) ⟨Nat.le_of_ble_eq_true rfl, Nat.le_of_ble_eq_true rfl⟩) (wr_preV hK hP hD (ci := 0) (q0 := 0) rfl rfl) rfl rfl hl.1 rfl (lv_room (Nat.le_of_ble_eq_true rfl)) d_X_tick_77 ⟨Nat.le_of_ble_eq_true rfl, Nat.le_of_ble_eq_true rfl⟩) hD hS hA wX_adr (fun H locs hP hD hS => ?_)
            refine W.eq (g2 := F0 m 80 ls []) rfl ?_
            obtain ⟨T2, hT2_⟩ : ∃ z : St, z = come T i := ⟨_, rfl⟩
            rw [← hT2_] at hP hD
            refine lv_iinc (v := nI ((arrC S1 (S.2.1 1 + a1) i) + 1)) (lv' := [(2, .int (nI ((arrC S1 (S.2.1 1 + a1) i) + 1))), (3, .int (nI i)), (0, .ref (q 0)), (1, .int (nI a1))]) hx hb d_X_tick_80 hl (k := 1) rfl (nI_1 _) (by decide) rfl (fun ls hl => ?_)
            refine lv_iinc (v := nI (i + 1)) (lv' := [(3, .int (nI (i + 1))), (2, .int (nI ((arrC S1 (S.2.1 1 + a1) i) + 1))), (0, .ref (q 0)), (1, .int (nI a1))]) hx hb d_X_tick_83 hl (k := 1) rfl (nI_1 _) (by decide) rfl (fun ls hl => ?_)
            refine lv_goto (tgt := 35) hx hb d_X_tick_86 (by decide) ?_
            exact ih (i + 1) T2 _ _ (by omega) (by omega) (by rw [(arr_y (hdue hh1 (by omega) (by omega))).1, hT2_, hh1]) hP hD hS ls (lv_sub hl [0, 1, 2, 3] (by rw [(arr_y (hdue hh1 (by omega) (by omega))).2]; rfl))
  exact LP35 ((S.2.1 3 - 0) + 1) 0 S1 _ _ (Nat.lt_succ_self _) (Nat.zero_le _) rfl hP hD hS ls (lv_sub hl [0, 1, 2, 3] (rfl))
end
section
def S0 : St := (fun _ _ => 0, fun _ => 0, fun _ => 0)
theorem wo_code : Cond.code objectInit ⟨#[0xb1]⟩ 1 none ∈ bg := bg1 20 rfl rfl
theorem zr_r {b : Nat} : rowf S0.1 b = fun _ => 0 := rfl
theorem zr_c {cA : ClassId} {n k : Nat} : vp_cell cA (n, .inl (colf S0.1 k)) = arrV cA n (fun _ => defaultValue .int) := rfl
theorem zr_11 : (rowf S0.1 0) = fun _ => 0 := rfl
theorem zr_24 : (rowf S0.1 5) = fun _ => 0 := rfl
theorem zr_37 : (rowf S0.1 10) = fun _ => 0 := rfl
theorem zr_50 : (rowf S0.1 15) = fun _ => 0 := rfl
theorem zr_63 : (rowd S0.1 S0.2.2) = fun _ => 0 := by funext j; show (if j % 5 = 2 then (0 : Int32) else nI 0) = 0; split <;> rfl
theorem zr_29 : (colf S0.1 29) = fun _ => 0 := rfl
theorem zr_30 : (colf S0.1 30) = fun _ => 0 := rfl
theorem wn_H : Cond.methodLinkNest R_X 32 y_H_init "StockRows2" ∈ tables_1 := List.mem_append_left _ (List.mem_of_getElem? (i := 43) rfl)
theorem K_one {D : va_G} {cl : List vw_C} {tys : List (ClassId × FieldType)} {U : State} (hK : va_K D cl tys U) (i j : Nat) {c1 c2 : ClassId} (h1 : tys[i]? = some (c1, .int)) (h2 : tys[j]? = some (c2, .int)) : c1 = c2 := by
  have e1 := (hK.2 i _ h1).2
  have e2 := (hK.2 j _ h2).2
  exact Option.some.inj (e1.symm.trans e2)
set_option maxHeartbeats 8000000 in
set_option maxRecDepth 100000 in
theorem c_W_init60 (l : Launch) (dC : Nat → ClassId) (dI : Nat → Nat → Nat) (h0 sz : Nat) (f : Nat → Int32) (hf : f = fun _ => 0) : Met l y_W_init (.code y_W_init b_W_init 2 none :: bg) { frames := 1, cells := 1, slots := 300, locals := 14 } (va_Pc [.ref h0, .int (nI 60)] (fun U => U.heap.size = sz ∧ va_P (dC, dI) classes [(h0, .inr (1, [.int 0, .null, .int 0]))] U.heap ∧ va_K (dC, dI) classes [] U ∧ va_D (fun _ => True) [(h0, .inr (1, [.int 0, .null, .int 0]))])) (va_Qv (fun _ : Nat × ClassId => True) (fun u t => va_P (dC, dI) classes [(h0, .inr (1, [.int (nI 60), .ref u.1, .int 0])), (u.1, .inl (u.2, 300, .inl f))] t.heap ∧ va_K (dC, dI) classes [(u.2, .int)] t ∧ va_D (va_A [(h0, .inr (1, [.int 0, .null, .int 0]))] sz) [(h0, .inr (1, [.int (nI 60), .ref u.1, .int 0])), (u.1, .inl (u.2, 300, .inl f))]) (va_A [(h0, .inr (1, [.int 0, .null, .int 0]))] sz)) 1 300 (va_A [(h0, .inr (1, [.int 0, .null, .int 0]))] sz) := by
  refine Met.ofW (cc := b_W_init) (maxL := 2) (ret := none) (by decide) rfl ?_
  intro p e s m args below meth c s₁ B hml hv
  obtain ⟨rfl, hsz, hP, hK, hD0⟩ := hv
  subst hsz
  have hin : meth.name = "<init>" := (name_of_methodNamed B.named B.method).1
  have hD := hD0.self (sz := s.heap.size)
  generalize hAe : va_A [(h0, .inr (1, [.int 0, .null, .int 0]))] s.heap.size = A at hD ⊢
  have hA : ∀ q : Nat, s.heap.size ≤ q → A q := fun q h => by rw [← hAe]; exact Or.inr h
  have hS : va_S A s.heap s.heap [] := va_S.rf
  have hx := B.exec
  have hb := B.bytes
  have hr := B.returns
  have hts := fun w (h : w ∈ bg) => atoms_spec (ws := .code y_W_init b_W_init 2 none :: bg) B.pre w (List.mem_cons_of_mem _ h)
  have hown : s.vm.findClass R_W = some m.cls := findClass_of_methodNamed B.named
  have hlocks := B.notSynchronized
  have hl := lv_entry ([.ref h0, .int (nI 60)]) (n := 2) (Nat.le_of_ble_eq_true rfl)
  rw [lg_entry_eq]
  generalize (lg_sl ([.ref h0, .int (nI 60)]) ++ List.replicate (2 - (lg_sl ([.ref h0, .int (nI 60)])).length) Slot.unset).toArray = ls at hl ⊢
  have hl : lv_has ls 2 [(0, .ref h0), (1, .int (nI 60))] := hl
  refine lv_aload_n hx hb d_W_init_0 rfl (lv_at hl 0 rfl) ?_
  refine W.objInit hx hb hown (hts (.methodLink R_W 1 objectInit) wd_26) (hts (.instanceMethod objectInit) wd_19) (hts _ wo_code) rfl (by rw [hml]; exact hl.1) rfl d_W_init_1 (Nat.le_of_ble_eq_true rfl) (Nat.le_of_ble_eq_true rfl) ?_
  refine W.eq (g2 := F0 m 4 ls []) rfl ?_
  refine lv_aload_n hx hb d_W_init_4 rfl (lv_at hl 0 rfl) ?_
  refine lv_iconst (v := nI 0) hx hb d_W_init_5 (by decide) ?_
  refine lv_iload_n hx hb d_W_init_6 rfl (lv_at hl 1 rfl) ?_
  refine va_mmax hx hb (hml.trans hl.1.symm) hown (hts _ wd_27) (hts _ wd_28) (hts _ wd_3) (hts _ wm_max) (Nat.le_of_ble_eq_true rfl) (Nat.le_of_ble_eq_true rfl) (Nat.le_of_ble_eq_true rfl) (Nat.le_of_ble_eq_true rfl) d_W_init_7 ?_
  refine nv_as (nI 60) (by decide) ?_
  refine va_putF (D := (dC, dI)) (ci := 1) (v := .int (nI 60)) (ty := .int) (C := R_W) (T := F_W) (N := 3) hx hb hts i_W ty_W ty_W_ok n_W hown hK hP hD hS 0 rfl rfl 0 (by decide) (hts _ wd_30) (fun _ h9 => h9) rfl hin rfl (by decide +kernel) rfl rfl (Nat.le_of_ble_eq_true rfl) d_W_init_10 (fun H locs hP hD hS => ?_)
  have hP : va_P (dC, dI) classes [(h0, .inr (1, [.int (nI 60), .null, .int 0]))] H := hP
  have hD : va_D A [(h0, .inr (1, [.int (nI 60), .null, .int 0]))] := hD
  have hK : va_K (dC, dI) classes [] s := hK
  refine lv_aload_n hx hb d_W_init_13 rfl (lv_at hl 0 rfl) ?_
  refine lv_aload_n hx hb d_W_init_14 rfl (lv_at hl 0 rfl) ?_
  refine va_get (D := (dC, dI)) (ci := 1) (v := .int (nI 60)) (C := R_W) (T := F_W) (N := 3) hx hb hts i_W hown hK hP 0 rfl rfl 0 (by decide) (hts _ wd_30) (fun _ h9 => h9) rfl d_W_init_15 ?_
  refine lv_iconst (v := nI 5) hx hb d_W_init_18 (by decide) ?_
  refine nv_mul hx hb d_W_init_19 ?_
  refine nv_as (nI 300) (by decide) ?_
  refine va_newa (atype := .int) (ty := .int) (N' := 300) (a0 := (300, .inl f)) hx hb (hts _ wd_40) rfl hK hP hD hS hA (fun cA => by rw [hf]; rfl) (by decide) (by decide) (by decide) (Nat.le_of_ble_eq_true rfl) (Nat.le_of_ble_eq_true rfl) d_W_init_20 (fun q20 ca20 H hK hP hD hS => ?_)
  have hP : va_P (dC, dI) classes [(h0, .inr (1, [.int (nI 60), .null, .int 0])), (q20, .inl (ca20, 300, .inl f))] H := hP
  have hD : va_D A [(h0, .inr (1, [.int (nI 60), .null, .int 0])), (q20, .inl (ca20, 300, .inl f))] := hD
  have hK : va_K (dC, dI) classes [(ca20, .int)] s := hK
  refine W.widen (k := 1) (n := 300) (Nat.le_of_ble_eq_true rfl) (Nat.le_of_ble_eq_true rfl) ?_
  refine va_putF (D := (dC, dI)) (ci := 1) (v := .ref q20) (ty := .array .int) (C := R_W) (T := F_W) (N := 3) hx hb hts i_W ty_W ty_W_ok n_W hown hK hP hD hS 0 rfl rfl 1 (by decide) (hts _ wd_31) (fun _ h9 => h9) rfl hin rfl (by decide +kernel) rfl rfl (Nat.le_of_ble_eq_true rfl) d_W_init_22 (fun H locs hP hD hS => ?_)
  have hP : va_P (dC, dI) classes [(h0, .inr (1, [.int (nI 60), .ref q20, .int 0])), (q20, .inl (ca20, 300, .inl f))] H := hP
  have hD : va_D A [(h0, .inr (1, [.int (nI 60), .ref q20, .int 0])), (q20, .inl (ca20, 300, .inl f))] := hD
  have hK : va_K (dC, dI) classes [(ca20, .int)] s := hK
  exact W.vret hx hb hr (fun t ht hW => ⟨⟨(q20, ca20), rfl, trivial, by rw [ht]; exact hP, va_K.moved hW.alike hK, hD⟩, hS.F ht⟩) hS.2.2 d_W_init_25
set_option maxHeartbeats 8000000 in
set_option maxRecDepth 100000 in
theorem c_W_init80 (l : Launch) (dC : Nat → ClassId) (dI : Nat → Nat → Nat) (h0 sz : Nat) (f : Nat → Int32) (hf : f = fun _ => 0) : Met l y_W_init (.code y_W_init b_W_init 2 none :: bg) { frames := 1, cells := 1, slots := 400, locals := 14 } (va_Pc [.ref h0, .int (nI 80)] (fun U => U.heap.size = sz ∧ va_P (dC, dI) classes [(h0, .inr (1, [.int 0, .null, .int 0]))] U.heap ∧ va_K (dC, dI) classes [] U ∧ va_D (fun _ => True) [(h0, .inr (1, [.int 0, .null, .int 0]))])) (va_Qv (fun _ : Nat × ClassId => True) (fun u t => va_P (dC, dI) classes [(h0, .inr (1, [.int (nI 80), .ref u.1, .int 0])), (u.1, .inl (u.2, 400, .inl f))] t.heap ∧ va_K (dC, dI) classes [(u.2, .int)] t ∧ va_D (va_A [(h0, .inr (1, [.int 0, .null, .int 0]))] sz) [(h0, .inr (1, [.int (nI 80), .ref u.1, .int 0])), (u.1, .inl (u.2, 400, .inl f))]) (va_A [(h0, .inr (1, [.int 0, .null, .int 0]))] sz)) 1 400 (va_A [(h0, .inr (1, [.int 0, .null, .int 0]))] sz) := by
  refine Met.ofW (cc := b_W_init) (maxL := 2) (ret := none) (by decide) rfl ?_
  intro p e s m args below meth c s₁ B hml hv
  obtain ⟨rfl, hsz, hP, hK, hD0⟩ := hv
  subst hsz
  have hin : meth.name = "<init>" := (name_of_methodNamed B.named B.method).1
  have hD := hD0.self (sz := s.heap.size)
  generalize hAe : va_A [(h0, .inr (1, [.int 0, .null, .int 0]))] s.heap.size = A at hD ⊢
  have hA : ∀ q : Nat, s.heap.size ≤ q → A q := fun q h => by rw [← hAe]; exact Or.inr h
  have hS : va_S A s.heap s.heap [] := va_S.rf
  have hx := B.exec
  have hb := B.bytes
  have hr := B.returns
  have hts := fun w (h : w ∈ bg) => atoms_spec (ws := .code y_W_init b_W_init 2 none :: bg) B.pre w (List.mem_cons_of_mem _ h)
  have hown : s.vm.findClass R_W = some m.cls := findClass_of_methodNamed B.named
  have hlocks := B.notSynchronized
  have hl := lv_entry ([.ref h0, .int (nI 80)]) (n := 2) (Nat.le_of_ble_eq_true rfl)
  rw [lg_entry_eq]
  generalize (lg_sl ([.ref h0, .int (nI 80)]) ++ List.replicate (2 - (lg_sl ([.ref h0, .int (nI 80)])).length) Slot.unset).toArray = ls at hl ⊢
  have hl : lv_has ls 2 [(0, .ref h0), (1, .int (nI 80))] := hl
  refine lv_aload_n hx hb d_W_init_0 rfl (lv_at hl 0 rfl) ?_
  refine W.objInit hx hb hown (hts (.methodLink R_W 1 objectInit) wd_26) (hts (.instanceMethod objectInit) wd_19) (hts _ wo_code) rfl (by rw [hml]; exact hl.1) rfl d_W_init_1 (Nat.le_of_ble_eq_true rfl) (Nat.le_of_ble_eq_true rfl) ?_
  refine W.eq (g2 := F0 m 4 ls []) rfl ?_
  refine lv_aload_n hx hb d_W_init_4 rfl (lv_at hl 0 rfl) ?_
  refine lv_iconst (v := nI 0) hx hb d_W_init_5 (by decide) ?_
  refine lv_iload_n hx hb d_W_init_6 rfl (lv_at hl 1 rfl) ?_
  refine va_mmax hx hb (hml.trans hl.1.symm) hown (hts _ wd_27) (hts _ wd_28) (hts _ wd_3) (hts _ wm_max) (Nat.le_of_ble_eq_true rfl) (Nat.le_of_ble_eq_true rfl) (Nat.le_of_ble_eq_true rfl) (Nat.le_of_ble_eq_true rfl) d_W_init_7 ?_
  refine nv_as (nI 80) (by decide) ?_
  refine va_putF (D := (dC, dI)) (ci := 1) (v := .int (nI 80)) (ty := .int) (C := R_W) (T := F_W) (N := 3) hx hb hts i_W ty_W ty_W_ok n_W hown hK hP hD hS 0 rfl rfl 0 (by decide) (hts _ wd_30) (fun _ h9 => h9) rfl hin rfl (by decide +kernel) rfl rfl (Nat.le_of_ble_eq_true rfl) d_W_init_10 (fun H locs hP hD hS => ?_)
  have hP : va_P (dC, dI) classes [(h0, .inr (1, [.int (nI 80), .null, .int 0]))] H := hP
  have hD : va_D A [(h0, .inr (1, [.int (nI 80), .null, .int 0]))] := hD
  have hK : va_K (dC, dI) classes [] s := hK
  refine lv_aload_n hx hb d_W_init_13 rfl (lv_at hl 0 rfl) ?_
  refine lv_aload_n hx hb d_W_init_14 rfl (lv_at hl 0 rfl) ?_
  refine va_get (D := (dC, dI)) (ci := 1) (v := .int (nI 80)) (C := R_W) (T := F_W) (N := 3) hx hb hts i_W hown hK hP 0 rfl rfl 0 (by decide) (hts _ wd_30) (fun _ h9 => h9) rfl d_W_init_15 ?_
  refine lv_iconst (v := nI 5) hx hb d_W_init_18 (by decide) ?_
  refine nv_mul hx hb d_W_init_19 ?_
  refine nv_as (nI 400) (by decide) ?_
  refine va_newa (atype := .int) (ty := .int) (N' := 400) (a0 := (400, .inl f)) hx hb (hts _ wd_40) rfl hK hP hD hS hA (fun cA => by rw [hf]; rfl) (by decide) (by decide) (by decide) (Nat.le_of_ble_eq_true rfl) (Nat.le_of_ble_eq_true rfl) d_W_init_20 (fun q20 ca20 H hK hP hD hS => ?_)
  have hP : va_P (dC, dI) classes [(h0, .inr (1, [.int (nI 80), .null, .int 0])), (q20, .inl (ca20, 400, .inl f))] H := hP
  have hD : va_D A [(h0, .inr (1, [.int (nI 80), .null, .int 0])), (q20, .inl (ca20, 400, .inl f))] := hD
  have hK : va_K (dC, dI) classes [(ca20, .int)] s := hK
  refine W.widen (k := 1) (n := 400) (Nat.le_of_ble_eq_true rfl) (Nat.le_of_ble_eq_true rfl) ?_
  refine va_putF (D := (dC, dI)) (ci := 1) (v := .ref q20) (ty := .array .int) (C := R_W) (T := F_W) (N := 3) hx hb hts i_W ty_W ty_W_ok n_W hown hK hP hD hS 0 rfl rfl 1 (by decide) (hts _ wd_31) (fun _ h9 => h9) rfl hin rfl (by decide +kernel) rfl rfl (Nat.le_of_ble_eq_true rfl) d_W_init_22 (fun H locs hP hD hS => ?_)
  have hP : va_P (dC, dI) classes [(h0, .inr (1, [.int (nI 80), .ref q20, .int 0])), (q20, .inl (ca20, 400, .inl f))] H := hP
  have hD : va_D A [(h0, .inr (1, [.int (nI 80), .ref q20, .int 0])), (q20, .inl (ca20, 400, .inl f))] := hD
  have hK : va_K (dC, dI) classes [(ca20, .int)] s := hK
  exact W.vret hx hb hr (fun t ht hW => ⟨⟨(q20, ca20), rfl, trivial, by rw [ht]; exact hP, va_K.moved hW.alike hK, hD⟩, hS.F ht⟩) hS.2.2 d_W_init_25
set_option maxHeartbeats 8000000 in
set_option maxRecDepth 100000 in
theorem c_W_init20 (l : Launch) (dC : Nat → ClassId) (dI : Nat → Nat → Nat) (h0 sz : Nat) (f : Nat → Int32) (hf : f = fun _ => 0) : Met l y_W_init (.code y_W_init b_W_init 2 none :: bg) { frames := 1, cells := 1, slots := 100, locals := 14 } (va_Pc [.ref h0, .int (nI 20)] (fun U => U.heap.size = sz ∧ va_P (dC, dI) classes [(h0, .inr (1, [.int 0, .null, .int 0]))] U.heap ∧ va_K (dC, dI) classes [] U ∧ va_D (fun _ => True) [(h0, .inr (1, [.int 0, .null, .int 0]))])) (va_Qv (fun _ : Nat × ClassId => True) (fun u t => va_P (dC, dI) classes [(h0, .inr (1, [.int (nI 20), .ref u.1, .int 0])), (u.1, .inl (u.2, 100, .inl f))] t.heap ∧ va_K (dC, dI) classes [(u.2, .int)] t ∧ va_D (va_A [(h0, .inr (1, [.int 0, .null, .int 0]))] sz) [(h0, .inr (1, [.int (nI 20), .ref u.1, .int 0])), (u.1, .inl (u.2, 100, .inl f))]) (va_A [(h0, .inr (1, [.int 0, .null, .int 0]))] sz)) 1 100 (va_A [(h0, .inr (1, [.int 0, .null, .int 0]))] sz) := by
  refine Met.ofW (cc := b_W_init) (maxL := 2) (ret := none) (by decide) rfl ?_
  intro p e s m args below meth c s₁ B hml hv
  obtain ⟨rfl, hsz, hP, hK, hD0⟩ := hv
  subst hsz
  have hin : meth.name = "<init>" := (name_of_methodNamed B.named B.method).1
  have hD := hD0.self (sz := s.heap.size)
  generalize hAe : va_A [(h0, .inr (1, [.int 0, .null, .int 0]))] s.heap.size = A at hD ⊢
  have hA : ∀ q : Nat, s.heap.size ≤ q → A q := fun q h => by rw [← hAe]; exact Or.inr h
  have hS : va_S A s.heap s.heap [] := va_S.rf
  have hx := B.exec
  have hb := B.bytes
  have hr := B.returns
  have hts := fun w (h : w ∈ bg) => atoms_spec (ws := .code y_W_init b_W_init 2 none :: bg) B.pre w (List.mem_cons_of_mem _ h)
  have hown : s.vm.findClass R_W = some m.cls := findClass_of_methodNamed B.named
  have hlocks := B.notSynchronized
  have hl := lv_entry ([.ref h0, .int (nI 20)]) (n := 2) (Nat.le_of_ble_eq_true rfl)
  rw [lg_entry_eq]
  generalize (lg_sl ([.ref h0, .int (nI 20)]) ++ List.replicate (2 - (lg_sl ([.ref h0, .int (nI 20)])).length) Slot.unset).toArray = ls at hl ⊢
  have hl : lv_has ls 2 [(0, .ref h0), (1, .int (nI 20))] := hl
  refine lv_aload_n hx hb d_W_init_0 rfl (lv_at hl 0 rfl) ?_
  refine W.objInit hx hb hown (hts (.methodLink R_W 1 objectInit) wd_26) (hts (.instanceMethod objectInit) wd_19) (hts _ wo_code) rfl (by rw [hml]; exact hl.1) rfl d_W_init_1 (Nat.le_of_ble_eq_true rfl) (Nat.le_of_ble_eq_true rfl) ?_
  refine W.eq (g2 := F0 m 4 ls []) rfl ?_
  refine lv_aload_n hx hb d_W_init_4 rfl (lv_at hl 0 rfl) ?_
  refine lv_iconst (v := nI 0) hx hb d_W_init_5 (by decide) ?_
  refine lv_iload_n hx hb d_W_init_6 rfl (lv_at hl 1 rfl) ?_
  refine va_mmax hx hb (hml.trans hl.1.symm) hown (hts _ wd_27) (hts _ wd_28) (hts _ wd_3) (hts _ wm_max) (Nat.le_of_ble_eq_true rfl) (Nat.le_of_ble_eq_true rfl) (Nat.le_of_ble_eq_true rfl) (Nat.le_of_ble_eq_true rfl) d_W_init_7 ?_
  refine nv_as (nI 20) (by decide) ?_
  refine va_putF (D := (dC, dI)) (ci := 1) (v := .int (nI 20)) (ty := .int) (C := R_W) (T := F_W) (N := 3) hx hb hts i_W ty_W ty_W_ok n_W hown hK hP hD hS 0 rfl rfl 0 (by decide) (hts _ wd_30) (fun _ h9 => h9) rfl hin rfl (by decide +kernel) rfl rfl (Nat.le_of_ble_eq_true rfl) d_W_init_10 (fun H locs hP hD hS => ?_)
  have hP : va_P (dC, dI) classes [(h0, .inr (1, [.int (nI 20), .null, .int 0]))] H := hP
  have hD : va_D A [(h0, .inr (1, [.int (nI 20), .null, .int 0]))] := hD
  have hK : va_K (dC, dI) classes [] s := hK
  refine lv_aload_n hx hb d_W_init_13 rfl (lv_at hl 0 rfl) ?_
  refine lv_aload_n hx hb d_W_init_14 rfl (lv_at hl 0 rfl) ?_
  refine va_get (D := (dC, dI)) (ci := 1) (v := .int (nI 20)) (C := R_W) (T := F_W) (N := 3) hx hb hts i_W hown hK hP 0 rfl rfl 0 (by decide) (hts _ wd_30) (fun _ h9 => h9) rfl d_W_init_15 ?_
  refine lv_iconst (v := nI 5) hx hb d_W_init_18 (by decide) ?_
  refine nv_mul hx hb d_W_init_19 ?_
  refine nv_as (nI 100) (by decide) ?_
  refine va_newa (atype := .int) (ty := .int) (N' := 100) (a0 := (100, .inl f)) hx hb (hts _ wd_40) rfl hK hP hD hS hA (fun cA => by rw [hf]; rfl) (by decide) (by decide) (by decide) (Nat.le_of_ble_eq_true rfl) (Nat.le_of_ble_eq_true rfl) d_W_init_20 (fun q20 ca20 H hK hP hD hS => ?_)
  have hP : va_P (dC, dI) classes [(h0, .inr (1, [.int (nI 20), .null, .int 0])), (q20, .inl (ca20, 100, .inl f))] H := hP
  have hD : va_D A [(h0, .inr (1, [.int (nI 20), .null, .int 0])), (q20, .inl (ca20, 100, .inl f))] := hD
  have hK : va_K (dC, dI) classes [(ca20, .int)] s := hK
  refine W.widen (k := 1) (n := 100) (Nat.le_of_ble_eq_true rfl) (Nat.le_of_ble_eq_true rfl) ?_
  refine va_putF (D := (dC, dI)) (ci := 1) (v := .ref q20) (ty := .array .int) (C := R_W) (T := F_W) (N := 3) hx hb hts i_W ty_W ty_W_ok n_W hown hK hP hD hS 0 rfl rfl 1 (by decide) (hts _ wd_31) (fun _ h9 => h9) rfl hin rfl (by decide +kernel) rfl rfl (Nat.le_of_ble_eq_true rfl) d_W_init_22 (fun H locs hP hD hS => ?_)
  have hP : va_P (dC, dI) classes [(h0, .inr (1, [.int (nI 20), .ref q20, .int 0])), (q20, .inl (ca20, 100, .inl f))] H := hP
  have hD : va_D A [(h0, .inr (1, [.int (nI 20), .ref q20, .int 0])), (q20, .inl (ca20, 100, .inl f))] := hD
  have hK : va_K (dC, dI) classes [(ca20, .int)] s := hK
  exact W.vret hx hb hr (fun t ht hW => ⟨⟨(q20, ca20), rfl, trivial, by rw [ht]; exact hP, va_K.moved hW.alike hK, hD⟩, hS.F ht⟩) hS.2.2 d_W_init_25
set_option maxHeartbeats 8000000 in
set_option maxRecDepth 100000 in
theorem c_H_init (l : Launch) (dC : Nat → ClassId) (dI : Nat → Nat → Nat) (h0 sz : Nat) (f g : Nat → Int32) (hf : f = fun _ => 0) (hg : g = fun _ => 0) : Met l y_H_init (.code y_H_init b_H_init 1 none :: bg) { frames := 1, cells := 2, slots := 20, locals := 14 } (va_Pc [.ref h0] (fun U => U.heap.size = sz ∧ va_P (dC, dI) classes [(h0, .inr (2, [.null, .null, .int 0]))] U.heap ∧ va_K (dC, dI) classes [] U ∧ va_D (fun _ => True) [(h0, .inr (2, [.null, .null, .int 0]))])) (va_Qv (fun _ : Nat × Nat × ClassId × ClassId => True) (fun u t => va_P (dC, dI) classes [(h0, .inr (2, [.ref u.1, .ref u.2.1, .int 0])), (u.1, .inl (u.2.2.1, 10, .inl f)), (u.2.1, .inl (u.2.2.2, 10, .inl g))] t.heap ∧ va_K (dC, dI) classes [(u.2.2.1, .int), (u.2.2.2, .int)] t ∧ va_D (va_A [(h0, .inr (2, [.null, .null, .int 0]))] sz) [(h0, .inr (2, [.ref u.1, .ref u.2.1, .int 0])), (u.1, .inl (u.2.2.1, 10, .inl f)), (u.2.1, .inl (u.2.2.2, 10, .inl g))]) (va_A [(h0, .inr (2, [.null, .null, .int 0]))] sz)) 2 20 (va_A [(h0, .inr (2, [.null, .null, .int 0]))] sz) := by
  refine Met.ofW (cc := b_H_init) (maxL := 1) (ret := none) (by decide) rfl ?_
  intro p e s m args below meth c s₁ B hml hv
  obtain ⟨rfl, hsz, hP, hK, hD0⟩ := hv
  subst hsz
  have hin : meth.name = "<init>" := (name_of_methodNamed B.named B.method).1
  have hD := hD0.self (sz := s.heap.size)
  generalize hAe : va_A [(h0, .inr (2, [.null, .null, .int 0]))] s.heap.size = A at hD ⊢
  have hA : ∀ q : Nat, s.heap.size ≤ q → A q := fun q h => by rw [← hAe]; exact Or.inr h
  have hS : va_S A s.heap s.heap [] := va_S.rf
  have hx := B.exec
  have hb := B.bytes
  have hr := B.returns
  have hts := fun w (h : w ∈ bg) => atoms_spec (ws := .code y_H_init b_H_init 1 none :: bg) B.pre w (List.mem_cons_of_mem _ h)
  have hown : s.vm.findClass R_H = some m.cls := findClass_of_methodNamed B.named
  have hlocks := B.notSynchronized
  have hl := lv_entry ([.ref h0]) (n := 1) (Nat.le_of_ble_eq_true rfl)
  rw [lg_entry_eq]
  generalize (lg_sl ([.ref h0]) ++ List.replicate (1 - (lg_sl ([.ref h0])).length) Slot.unset).toArray = ls at hl ⊢
  have hl : lv_has ls 1 [(0, .ref h0)] := hl
  refine lv_aload_n hx hb d_H_init_0 rfl (lv_at hl 0 rfl) ?_
  refine W.objInit hx hb hown (hts (.methodLink R_H 3 objectInit) wd_46) (hts (.instanceMethod objectInit) wd_19) (hts _ wo_code) rfl (by rw [hml]; exact hl.1) rfl d_H_init_1 (Nat.le_of_ble_eq_true rfl) (Nat.le_of_ble_eq_true rfl) ?_
  refine W.eq (g2 := F0 m 4 ls []) rfl ?_
  refine lv_aload_n hx hb d_H_init_4 rfl (lv_at hl 0 rfl) ?_
  refine lv_bipush (v := nI 10) hx hb d_H_init_5 (by decide) ?_
  refine va_newa (atype := .int) (ty := .int) (N' := 10) (a0 := (10, .inl f)) hx hb (hts _ wd_40) rfl hK hP hD hS hA (fun cA => by rw [hf]; rfl) (by decide) (by decide) (by decide) (Nat.le_of_ble_eq_true rfl) (Nat.le_of_ble_eq_true rfl) d_H_init_7 (fun q7 ca7 H hK hP hD hS => ?_)
  have hP : va_P (dC, dI) classes [(h0, .inr (2, [.null, .null, .int 0])), (q7, .inl (ca7, 10, .inl f))] H := hP
  have hD : va_D A [(h0, .inr (2, [.null, .null, .int 0])), (q7, .inl (ca7, 10, .inl f))] := hD
  have hK : va_K (dC, dI) classes [(ca7, .int)] s := hK
  refine W.widen (k := 1) (n := 10) (Nat.le_of_ble_eq_true rfl) (Nat.le_of_ble_eq_true rfl) ?_
  refine va_putF (D := (dC, dI)) (ci := 2) (v := .ref q7) (ty := .array .int) (C := R_H) (T := F_H) (N := 3) hx hb hts i_H ty_H ty_H_ok n_H hown hK hP hD hS 0 rfl rfl 0 (by decide) (hts _ wd_47) (fun _ h9 => h9) rfl hin rfl (by decide +kernel) rfl rfl (Nat.le_of_ble_eq_true rfl) d_H_init_9 (fun H locs hP hD hS => ?_)
  have hP : va_P (dC, dI) classes [(h0, .inr (2, [.ref q7, .null, .int 0])), (q7, .inl (ca7, 10, .inl f))] H := hP
  have hD : va_D A [(h0, .inr (2, [.ref q7, .null, .int 0])), (q7, .inl (ca7, 10, .inl f))] := hD
  have hK : va_K (dC, dI) classes [(ca7, .int)] s := hK
  refine lv_aload_n hx hb d_H_init_12 rfl (lv_at hl 0 rfl) ?_
  refine lv_bipush (v := nI 10) hx hb d_H_init_13 (by decide) ?_
  refine va_newa (atype := .int) (ty := .int) (N' := 10) (a0 := (10, .inl g)) hx hb (hts _ wd_40) rfl hK hP hD hS hA (fun cA => by rw [hg]; rfl) (by decide) (by decide) (by decide) (Nat.le_of_ble_eq_true rfl) (Nat.le_of_ble_eq_true rfl) d_H_init_15 (fun q15 ca15 H hK hP hD hS => ?_)
  have hP : va_P (dC, dI) classes [(h0, .inr (2, [.ref q7, .null, .int 0])), (q7, .inl (ca7, 10, .inl f)), (q15, .inl (ca15, 10, .inl g))] H := hP
  have hD : va_D A [(h0, .inr (2, [.ref q7, .null, .int 0])), (q7, .inl (ca7, 10, .inl f)), (q15, .inl (ca15, 10, .inl g))] := hD
  have hK : va_K (dC, dI) classes [(ca7, .int), (ca15, .int)] s := hK
  refine W.widen (k := 2) (n := 20) (Nat.le_of_ble_eq_true rfl) (Nat.le_of_ble_eq_true rfl) ?_
  refine va_putF (D := (dC, dI)) (ci := 2) (v := .ref q15) (ty := .array .int) (C := R_H) (T := F_H) (N := 3) hx hb hts i_H ty_H ty_H_ok n_H hown hK hP hD hS 0 rfl rfl 1 (by decide) (hts _ wd_48) (fun _ h9 => h9) rfl hin rfl (by decide +kernel) rfl rfl (Nat.le_of_ble_eq_true rfl) d_H_init_17 (fun H locs hP hD hS => ?_)
  have hP : va_P (dC, dI) classes [(h0, .inr (2, [.ref q7, .ref q15, .int 0])), (q7, .inl (ca7, 10, .inl f)), (q15, .inl (ca15, 10, .inl g))] H := hP
  have hD : va_D A [(h0, .inr (2, [.ref q7, .ref q15, .int 0])), (q7, .inl (ca7, 10, .inl f)), (q15, .inl (ca15, 10, .inl g))] := hD
  have hK : va_K (dC, dI) classes [(ca7, .int), (ca15, .int)] s := hK
  exact W.vret hx hb hr (fun t ht hW => ⟨⟨(q7, q15, ca7, ca15), rfl, trivial, by rw [ht]; exact hP, va_K.moved hW.alike hK, hD⟩, hS.F ht⟩) hS.2.2 d_H_init_20
set_option maxHeartbeats 8000000 in
set_option maxRecDepth 100000 in
theorem c_X_init (l : Launch) (dC : Nat → ClassId) (dI : Nat → Nat → Nat) (A0 : Nat → Prop) (h0 sz : Nat) : Met l y_X_init (.code y_X_init b_X_init 1 none :: bg) { frames := 2, cells := 17, slots := 2228, locals := 35 } (va_Pc [.ref h0] (fun U => U.heap.size = sz ∧ va_P (dC, dI) classes [(h0, .inr (0, [.null, .null, .null, .null, .null, .null, .null, .null, .null, .null, .int 0, .int 0]))] U.heap ∧ va_K (dC, dI) classes [] U ∧ va_D (fun _ => True) [(h0, .inr (0, [.null, .null, .null, .null, .null, .null, .null, .null, .null, .null, .int 0, .int 0]))] ∧ gG A0 U U.heap)) (va_Qv (fun _ : (Nat → Nat) × ClassId => True) (fun u t => u.1 0 = h0 ∧ va_P (dC, dI) classes (wX u.1 u.2 S0) t.heap ∧ va_K (dC, dI) classes [(u.2, .int)] t ∧ va_D (va_A [(h0, .inr (0, [.null, .null, .null, .null, .null, .null, .null, .null, .null, .null, .int 0, .int 0]))] sz) (wX u.1 u.2 S0)) (va_A [(h0, .inr (0, [.null, .null, .null, .null, .null, .null, .null, .null, .null, .null, .int 0, .int 0]))] sz)) 17 2228 (va_A [(h0, .inr (0, [.null, .null, .null, .null, .null, .null, .null, .null, .null, .null, .int 0, .int 0]))] sz) := by
  refine Met.ofW (cc := b_X_init) (maxL := 1) (ret := none) (by decide) rfl ?_
  intro p e s m args below meth c s₁ B hml hv
  obtain ⟨rfl, hsz, hP, hK, hD0, hG⟩ := hv
  subst hsz
  have hin : meth.name = "<init>" := (name_of_methodNamed B.named B.method).1
  have hD := hD0.self (sz := s.heap.size)
  generalize hAe : va_A [(h0, .inr (0, [.null, .null, .null, .null, .null, .null, .null, .null, .null, .null, .int 0, .int 0]))] s.heap.size = A at hD ⊢
  have hA : ∀ q : Nat, s.heap.size ≤ q → A q := fun q h => by rw [← hAe]; exact Or.inr h
  have hS : va_S A s.heap s.heap [] := va_S.rf
  have hx := B.exec
  have hb := B.bytes
  have hr := B.returns
  have hts := fun w (h : w ∈ bg) => atoms_spec (ws := .code y_X_init b_X_init 1 none :: bg) B.pre w (List.mem_cons_of_mem _ h)
  have hown : s.vm.findClass R_X = some m.cls := findClass_of_methodNamed B.named
  have hlocks := B.notSynchronized
  have hl := lv_entry ([.ref h0]) (n := 1) (Nat.le_of_ble_eq_true rfl)
  rw [lg_entry_eq]
  generalize (lg_sl ([.ref h0]) ++ List.replicate (1 - (lg_sl ([.ref h0])).length) Slot.unset).toArray = ls at hl ⊢
  have hl : lv_has ls 1 [(0, .ref h0)] := hl
  refine lv_aload_n hx hb d_X_init_0 rfl (lv_at hl 0 rfl) ?_
  refine W.objInit hx hb hown (hts (.methodLink R_X 1 objectInit) wd_18) (hts (.instanceMethod objectInit) wd_19) (hts _ wo_code) rfl (by rw [hml]; exact hl.1) rfl d_X_init_1 (Nat.le_of_ble_eq_true rfl) (Nat.le_of_ble_eq_true rfl) ?_
  refine W.eq (g2 := F0 m 4 ls []) rfl ?_
  refine lv_aload_n hx hb d_X_init_4 rfl (lv_at hl 0 rfl) ?_
  refine va_new (ci := 1) (fs := [.int 0, .null, .int 0]) (C := R_W) (T := F_W) (N := 3) hx hb hts i_W ty_W ty_W_ok hown (hts _ wd_21) (hts _ wd_22) (hts _ wd_2) hK hP hD hS hA rfl (fun j hj => by rcases (show j = 0 ∨ j = 1 ∨ j = 2 by omega) with rfl | rfl | rfl <;> rfl) (Nat.le_of_ble_eq_true rfl) (Nat.le_of_ble_eq_true rfl) d_X_init_5 (fun q5 H hP hD hS => ?_)
  have hP : va_P (dC, dI) classes [(h0, .inr (0, [.null, .null, .null, .null, .null, .null, .null, .null, .null, .null, .int 0, .int 0])), (q5, .inr (1, [.int 0, .null, .int 0]))] H := hP
  have hD : va_D A [(h0, .inr (0, [.null, .null, .null, .null, .null, .null, .null, .null, .null, .null, .int 0, .int 0])), (q5, .inr (1, [.int 0, .null, .int 0]))] := hD
  have hK : va_K (dC, dI) classes [] s := hK
  refine W.widen (k := 1) (n := 3) (Nat.le_of_ble_eq_true rfl) (Nat.le_of_ble_eq_true rfl) ?_
  refine lv_dup hx hb d_X_init_8 rfl ?_
  refine lv_bipush (v := nI 60) hx hb d_X_init_9 (by decide) ?_
  have hPc := hP.sub (ws' := [(q5, .inr (1, [.int 0, .null, .int 0]))]) [1] rfl
  have hDc := hD.sub (ws' := [(q5, .inr (1, [.int 0, .null, .int 0]))]) [1] (by decide) rfl
  have hKc := hK.sub (tys' := []) [] rfl
  have hFc := va_free (wc := [(q5, .inr (1, [.int 0, .null, .int 0]))]) hD hS hA [1] rfl
  refine va_callv (va_runI (As := [.int (nI 60)]) (rest := [.ref q5, .ref h0]) ⟨hx, hb, hml, hown, hts⟩ (c_W_init60 l dC dI q5 H.size (rowf S0.1 0) zr_11) (cwI 1 hts (gi_I wd_25) rfl rfl rfl (hts _ wd_2) (hts _ wd_23) (hts _ wd_24) rfl (by decide +kernel) ⟨Nat.le_of_ble_eq_true rfl, Nat.le_of_ble_eq_true rfl⟩) ⟨fun a U g mk q => by obtain ⟨q0, q1, qP, qK, qD⟩ := q; exact ⟨q0, q1, qP, va_K.moved (u := U) (U := U.calling g mk a) (Vm.Alike.refl U.vm) qK, qD⟩, fun U hU hW => ⟨rfl, by rw [hU], by rw [hU]; exact hPc, va_K.moved hW.alike hKc, hDc.weaken (fun _ _ _ _ => trivial)⟩⟩ rfl rfl hl.1 rfl (lv_room (Nat.le_of_ble_eq_true rfl)) d_X_init_11 ⟨Nat.le_of_ble_eq_true rfl, Nat.le_of_ble_eq_true rfl⟩) hS (fun q _ h => hFc q h) hFc (fun u t H1 locs ht hvm hw hB hz1 hk1 hS => ?_)
  obtain ⟨r11, ca11⟩ := u
  obtain ⟨hP1, hK1, hD1⟩ := hB
  rw [ht] at hP1
  have hK1 := va_K.moved hvm.symm hK1
  obtain ⟨hP, hD⟩ := va_join (wr := [(h0, .inr (0, [.null, .null, .null, .null, .null, .null, .null, .null, .null, .null, .int 0, .int 0]))]) (w1 := [(q5, .inr (1, [.int (nI 60), .ref r11, .int 0])), (r11, .inl (ca11, 300, .inl (rowf S0.1 0)))]) hP hD [1] [0] rfl rfl (by decide) (by decide) hk1 hFc hP1 hD1
  have hK := (hK.sub (tys' := []) [] rfl).app hK1
  generalize H1 = H at hP hS ⊢
  have hP : va_P (dC, dI) classes [(h0, .inr (0, [.null, .null, .null, .null, .null, .null, .null, .null, .null, .null, .int 0, .int 0])), (q5, .inr (1, [.int (nI 60), .ref r11, .int 0])), (r11, .inl (ca11, 300, .inl (rowf S0.1 0)))] H := hP
  have hD : va_D A [(h0, .inr (0, [.null, .null, .null, .null, .null, .null, .null, .null, .null, .null, .int 0, .int 0])), (q5, .inr (1, [.int (nI 60), .ref r11, .int 0])), (r11, .inl (ca11, 300, .inl (rowf S0.1 0)))] := hD
  have hK : va_K (dC, dI) classes [(ca11, .int)] s := hK
  refine W.widen (k := 2) (n := 303) (Nat.le_of_ble_eq_true rfl) (Nat.le_of_ble_eq_true rfl) ?_
  refine W.eq (g2 := F0 m 14 ls [.ref q5, .ref h0]) rfl ?_
  refine va_putF (D := (dC, dI)) (ci := 0) (v := .ref q5) (ty := .object "StockRows2$Rows") (C := R_X) (T := F_X) (N := 12) hx hb hts i_X ty_X ty_X_ok n_X hown hK hP hD hS 0 rfl rfl 0 (by decide) (hts _ wd_57) (fun _ h9 => h9) rfl hin rfl (by decide +kernel) rfl rfl (Nat.le_of_ble_eq_true rfl) d_X_init_14 (fun H locs hP hD hS => ?_)
  have hP : va_P (dC, dI) classes [(h0, .inr (0, [.ref q5, .null, .null, .null, .null, .null, .null, .null, .null, .null, .int 0, .int 0])), (q5, .inr (1, [.int (nI 60), .ref r11, .int 0])), (r11, .inl (ca11, 300, .inl (rowf S0.1 0)))] H := hP
  have hD : va_D A [(h0, .inr (0, [.ref q5, .null, .null, .null, .null, .null, .null, .null, .null, .null, .int 0, .int 0])), (q5, .inr (1, [.int (nI 60), .ref r11, .int 0])), (r11, .inl (ca11, 300, .inl (rowf S0.1 0)))] := hD
  have hK : va_K (dC, dI) classes [(ca11, .int)] s := hK
  refine lv_aload_n hx hb d_X_init_17 rfl (lv_at hl 0 rfl) ?_
  refine va_new (ci := 1) (fs := [.int 0, .null, .int 0]) (C := R_W) (T := F_W) (N := 3) hx hb hts i_W ty_W ty_W_ok hown (hts _ wd_21) (hts _ wd_22) (hts _ wd_2) hK hP hD hS hA rfl (fun j hj => by rcases (show j = 0 ∨ j = 1 ∨ j = 2 by omega) with rfl | rfl | rfl <;> rfl) (Nat.le_of_ble_eq_true rfl) (Nat.le_of_ble_eq_true rfl) d_X_init_18 (fun q18 H hP hD hS => ?_)
  have hP : va_P (dC, dI) classes [(h0, .inr (0, [.ref q5, .null, .null, .null, .null, .null, .null, .null, .null, .null, .int 0, .int 0])), (q5, .inr (1, [.int (nI 60), .ref r11, .int 0])), (r11, .inl (ca11, 300, .inl (rowf S0.1 0))), (q18, .inr (1, [.int 0, .null, .int 0]))] H := hP
  have hD : va_D A [(h0, .inr (0, [.ref q5, .null, .null, .null, .null, .null, .null, .null, .null, .null, .int 0, .int 0])), (q5, .inr (1, [.int (nI 60), .ref r11, .int 0])), (r11, .inl (ca11, 300, .inl (rowf S0.1 0))), (q18, .inr (1, [.int 0, .null, .int 0]))] := hD
  have hK : va_K (dC, dI) classes [(ca11, .int)] s := hK
  refine W.widen (k := 3) (n := 306) (Nat.le_of_ble_eq_true rfl) (Nat.le_of_ble_eq_true rfl) ?_
  refine lv_dup hx hb d_X_init_21 rfl ?_
  refine lv_bipush (v := nI 60) hx hb d_X_init_22 (by decide) ?_
  have hPc := hP.sub (ws' := [(q18, .inr (1, [.int 0, .null, .int 0]))]) [3] rfl
  have hDc := hD.sub (ws' := [(q18, .inr (1, [.int 0, .null, .int 0]))]) [3] (by decide) rfl
  have hKc := hK.sub (tys' := []) [] rfl
  have hFc := va_free (wc := [(q18, .inr (1, [.int 0, .null, .int 0]))]) hD hS hA [3] rfl
  refine va_callv (va_runI (As := [.int (nI 60)]) (rest := [.ref q18, .ref h0]) ⟨hx, hb, hml, hown, hts⟩ (c_W_init60 l dC dI q18 H.size (rowf S0.1 5) zr_24) (cwI 1 hts (gi_I wd_25) rfl rfl rfl (hts _ wd_2) (hts _ wd_23) (hts _ wd_24) rfl (by decide +kernel) ⟨Nat.le_of_ble_eq_true rfl, Nat.le_of_ble_eq_true rfl⟩) ⟨fun a U g mk q => by obtain ⟨q0, q1, qP, qK, qD⟩ := q; exact ⟨q0, q1, qP, va_K.moved (u := U) (U := U.calling g mk a) (Vm.Alike.refl U.vm) qK, qD⟩, fun U hU hW => ⟨rfl, by rw [hU], by rw [hU]; exact hPc, va_K.moved hW.alike hKc, hDc.weaken (fun _ _ _ _ => trivial)⟩⟩ rfl rfl hl.1 rfl (lv_room (Nat.le_of_ble_eq_true rfl)) d_X_init_24 ⟨Nat.le_of_ble_eq_true rfl, Nat.le_of_ble_eq_true rfl⟩) hS (fun q _ h => hFc q h) hFc (fun u t H1 locs ht hvm hw hB hz1 hk1 hS => ?_)
  obtain ⟨r24, ca24⟩ := u
  obtain ⟨hP1, hK1, hD1⟩ := hB
  rw [ht] at hP1
  have hK1 := va_K.moved hvm.symm hK1
  obtain ⟨hP, hD⟩ := va_join (wr := [(h0, .inr (0, [.ref q5, .null, .null, .null, .null, .null, .null, .null, .null, .null, .int 0, .int 0])), (q5, .inr (1, [.int (nI 60), .ref r11, .int 0])), (r11, .inl (ca11, 300, .inl (rowf S0.1 0)))]) (w1 := [(q18, .inr (1, [.int (nI 60), .ref r24, .int 0])), (r24, .inl (ca24, 300, .inl (rowf S0.1 5)))]) hP hD [3] [0, 1, 2] rfl rfl (by decide) (by decide) hk1 hFc hP1 hD1
  have hK := (hK.sub (tys' := [(ca11, .int)]) [0] rfl).app hK1
  generalize H1 = H at hP hS ⊢
  have hP : va_P (dC, dI) classes [(h0, .inr (0, [.ref q5, .null, .null, .null, .null, .null, .null, .null, .null, .null, .int 0, .int 0])), (q5, .inr (1, [.int (nI 60), .ref r11, .int 0])), (r11, .inl (ca11, 300, .inl (rowf S0.1 0))), (q18, .inr (1, [.int (nI 60), .ref r24, .int 0])), (r24, .inl (ca24, 300, .inl (rowf S0.1 5)))] H := hP
  have hD : va_D A [(h0, .inr (0, [.ref q5, .null, .null, .null, .null, .null, .null, .null, .null, .null, .int 0, .int 0])), (q5, .inr (1, [.int (nI 60), .ref r11, .int 0])), (r11, .inl (ca11, 300, .inl (rowf S0.1 0))), (q18, .inr (1, [.int (nI 60), .ref r24, .int 0])), (r24, .inl (ca24, 300, .inl (rowf S0.1 5)))] := hD
  have hK : va_K (dC, dI) classes [(ca11, .int), (ca24, .int)] s := hK
  refine W.widen (k := 4) (n := 606) (Nat.le_of_ble_eq_true rfl) (Nat.le_of_ble_eq_true rfl) ?_
  refine W.eq (g2 := F0 m 27 ls [.ref q18, .ref h0]) rfl ?_
  refine va_putF (D := (dC, dI)) (ci := 0) (v := .ref q18) (ty := .object "StockRows2$Rows") (C := R_X) (T := F_X) (N := 12) hx hb hts i_X ty_X ty_X_ok n_X hown hK hP hD hS 0 rfl rfl 1 (by decide) (hts _ wd_58) (fun _ h9 => h9) rfl hin rfl (by decide +kernel) rfl rfl (Nat.le_of_ble_eq_true rfl) d_X_init_27 (fun H locs hP hD hS => ?_)
  have hP : va_P (dC, dI) classes [(h0, .inr (0, [.ref q5, .ref q18, .null, .null, .null, .null, .null, .null, .null, .null, .int 0, .int 0])), (q5, .inr (1, [.int (nI 60), .ref r11, .int 0])), (r11, .inl (ca11, 300, .inl (rowf S0.1 0))), (q18, .inr (1, [.int (nI 60), .ref r24, .int 0])), (r24, .inl (ca24, 300, .inl (rowf S0.1 5)))] H := hP
  have hD : va_D A [(h0, .inr (0, [.ref q5, .ref q18, .null, .null, .null, .null, .null, .null, .null, .null, .int 0, .int 0])), (q5, .inr (1, [.int (nI 60), .ref r11, .int 0])), (r11, .inl (ca11, 300, .inl (rowf S0.1 0))), (q18, .inr (1, [.int (nI 60), .ref r24, .int 0])), (r24, .inl (ca24, 300, .inl (rowf S0.1 5)))] := hD
  have hK : va_K (dC, dI) classes [(ca11, .int), (ca24, .int)] s := hK
  refine lv_aload_n hx hb d_X_init_30 rfl (lv_at hl 0 rfl) ?_
  refine va_new (ci := 1) (fs := [.int 0, .null, .int 0]) (C := R_W) (T := F_W) (N := 3) hx hb hts i_W ty_W ty_W_ok hown (hts _ wd_21) (hts _ wd_22) (hts _ wd_2) hK hP hD hS hA rfl (fun j hj => by rcases (show j = 0 ∨ j = 1 ∨ j = 2 by omega) with rfl | rfl | rfl <;> rfl) (Nat.le_of_ble_eq_true rfl) (Nat.le_of_ble_eq_true rfl) d_X_init_31 (fun q31 H hP hD hS => ?_)
  have hP : va_P (dC, dI) classes [(h0, .inr (0, [.ref q5, .ref q18, .null, .null, .null, .null, .null, .null, .null, .null, .int 0, .int 0])), (q5, .inr (1, [.int (nI 60), .ref r11, .int 0])), (r11, .inl (ca11, 300, .inl (rowf S0.1 0))), (q18, .inr (1, [.int (nI 60), .ref r24, .int 0])), (r24, .inl (ca24, 300, .inl (rowf S0.1 5))), (q31, .inr (1, [.int 0, .null, .int 0]))] H := hP
  have hD : va_D A [(h0, .inr (0, [.ref q5, .ref q18, .null, .null, .null, .null, .null, .null, .null, .null, .int 0, .int 0])), (q5, .inr (1, [.int (nI 60), .ref r11, .int 0])), (r11, .inl (ca11, 300, .inl (rowf S0.1 0))), (q18, .inr (1, [.int (nI 60), .ref r24, .int 0])), (r24, .inl (ca24, 300, .inl (rowf S0.1 5))), (q31, .inr (1, [.int 0, .null, .int 0]))] := hD
  have hK : va_K (dC, dI) classes [(ca11, .int), (ca24, .int)] s := hK
  refine W.widen (k := 5) (n := 609) (Nat.le_of_ble_eq_true rfl) (Nat.le_of_ble_eq_true rfl) ?_
  refine lv_dup hx hb d_X_init_34 rfl ?_
  refine lv_bipush (v := nI 80) hx hb d_X_init_35 (by decide) ?_
  have hPc := hP.sub (ws' := [(q31, .inr (1, [.int 0, .null, .int 0]))]) [5] rfl
  have hDc := hD.sub (ws' := [(q31, .inr (1, [.int 0, .null, .int 0]))]) [5] (by decide) rfl
  have hKc := hK.sub (tys' := []) [] rfl
  have hFc := va_free (wc := [(q31, .inr (1, [.int 0, .null, .int 0]))]) hD hS hA [5] rfl
  refine va_callv (va_runI (As := [.int (nI 80)]) (rest := [.ref q31, .ref h0]) ⟨hx, hb, hml, hown, hts⟩ (c_W_init80 l dC dI q31 H.size (rowf S0.1 10) zr_37) (cwI 1 hts (gi_I wd_25) rfl rfl rfl (hts _ wd_2) (hts _ wd_23) (hts _ wd_24) rfl (by decide +kernel) ⟨Nat.le_of_ble_eq_true rfl, Nat.le_of_ble_eq_true rfl⟩) ⟨fun a U g mk q => by obtain ⟨q0, q1, qP, qK, qD⟩ := q; exact ⟨q0, q1, qP, va_K.moved (u := U) (U := U.calling g mk a) (Vm.Alike.refl U.vm) qK, qD⟩, fun U hU hW => ⟨rfl, by rw [hU], by rw [hU]; exact hPc, va_K.moved hW.alike hKc, hDc.weaken (fun _ _ _ _ => trivial)⟩⟩ rfl rfl hl.1 rfl (lv_room (Nat.le_of_ble_eq_true rfl)) d_X_init_37 ⟨Nat.le_of_ble_eq_true rfl, Nat.le_of_ble_eq_true rfl⟩) hS (fun q _ h => hFc q h) hFc (fun u t H1 locs ht hvm hw hB hz1 hk1 hS => ?_)
  obtain ⟨r37, ca37⟩ := u
  obtain ⟨hP1, hK1, hD1⟩ := hB
  rw [ht] at hP1
  have hK1 := va_K.moved hvm.symm hK1
  obtain ⟨hP, hD⟩ := va_join (wr := [(h0, .inr (0, [.ref q5, .ref q18, .null, .null, .null, .null, .null, .null, .null, .null, .int 0, .int 0])), (q5, .inr (1, [.int (nI 60), .ref r11, .int 0])), (r11, .inl (ca11, 300, .inl (rowf S0.1 0))), (q18, .inr (1, [.int (nI 60), .ref r24, .int 0])), (r24, .inl (ca24, 300, .inl (rowf S0.1 5)))]) (w1 := [(q31, .inr (1, [.int (nI 80), .ref r37, .int 0])), (r37, .inl (ca37, 400, .inl (rowf S0.1 10)))]) hP hD [5] [0, 1, 2, 3, 4] rfl rfl (by decide) (by decide) hk1 hFc hP1 hD1
  have hK := (hK.sub (tys' := [(ca11, .int), (ca24, .int)]) [0, 1] rfl).app hK1
  generalize H1 = H at hP hS ⊢
  have hP : va_P (dC, dI) classes [(h0, .inr (0, [.ref q5, .ref q18, .null, .null, .null, .null, .null, .null, .null, .null, .int 0, .int 0])), (q5, .inr (1, [.int (nI 60), .ref r11, .int 0])), (r11, .inl (ca11, 300, .inl (rowf S0.1 0))), (q18, .inr (1, [.int (nI 60), .ref r24, .int 0])), (r24, .inl (ca24, 300, .inl (rowf S0.1 5))), (q31, .inr (1, [.int (nI 80), .ref r37, .int 0])), (r37, .inl (ca37, 400, .inl (rowf S0.1 10)))] H := hP
  have hD : va_D A [(h0, .inr (0, [.ref q5, .ref q18, .null, .null, .null, .null, .null, .null, .null, .null, .int 0, .int 0])), (q5, .inr (1, [.int (nI 60), .ref r11, .int 0])), (r11, .inl (ca11, 300, .inl (rowf S0.1 0))), (q18, .inr (1, [.int (nI 60), .ref r24, .int 0])), (r24, .inl (ca24, 300, .inl (rowf S0.1 5))), (q31, .inr (1, [.int (nI 80), .ref r37, .int 0])), (r37, .inl (ca37, 400, .inl (rowf S0.1 10)))] := hD
  have hK : va_K (dC, dI) classes [(ca11, .int), (ca24, .int), (ca37, .int)] s := hK
  refine W.widen (k := 6) (n := 1009) (Nat.le_of_ble_eq_true rfl) (Nat.le_of_ble_eq_true rfl) ?_
  refine W.eq (g2 := F0 m 40 ls [.ref q31, .ref h0]) rfl ?_
  refine va_putF (D := (dC, dI)) (ci := 0) (v := .ref q31) (ty := .object "StockRows2$Rows") (C := R_X) (T := F_X) (N := 12) hx hb hts i_X ty_X ty_X_ok n_X hown hK hP hD hS 0 rfl rfl 2 (by decide) (hts _ wd_59) (fun _ h9 => h9) rfl hin rfl (by decide +kernel) rfl rfl (Nat.le_of_ble_eq_true rfl) d_X_init_40 (fun H locs hP hD hS => ?_)
  have hP : va_P (dC, dI) classes [(h0, .inr (0, [.ref q5, .ref q18, .ref q31, .null, .null, .null, .null, .null, .null, .null, .int 0, .int 0])), (q5, .inr (1, [.int (nI 60), .ref r11, .int 0])), (r11, .inl (ca11, 300, .inl (rowf S0.1 0))), (q18, .inr (1, [.int (nI 60), .ref r24, .int 0])), (r24, .inl (ca24, 300, .inl (rowf S0.1 5))), (q31, .inr (1, [.int (nI 80), .ref r37, .int 0])), (r37, .inl (ca37, 400, .inl (rowf S0.1 10)))] H := hP
  have hD : va_D A [(h0, .inr (0, [.ref q5, .ref q18, .ref q31, .null, .null, .null, .null, .null, .null, .null, .int 0, .int 0])), (q5, .inr (1, [.int (nI 60), .ref r11, .int 0])), (r11, .inl (ca11, 300, .inl (rowf S0.1 0))), (q18, .inr (1, [.int (nI 60), .ref r24, .int 0])), (r24, .inl (ca24, 300, .inl (rowf S0.1 5))), (q31, .inr (1, [.int (nI 80), .ref r37, .int 0])), (r37, .inl (ca37, 400, .inl (rowf S0.1 10)))] := hD
  have hK : va_K (dC, dI) classes [(ca11, .int), (ca24, .int), (ca37, .int)] s := hK
  refine lv_aload_n hx hb d_X_init_43 rfl (lv_at hl 0 rfl) ?_
  refine va_new (ci := 1) (fs := [.int 0, .null, .int 0]) (C := R_W) (T := F_W) (N := 3) hx hb hts i_W ty_W ty_W_ok hown (hts _ wd_21) (hts _ wd_22) (hts _ wd_2) hK hP hD hS hA rfl (fun j hj => by rcases (show j = 0 ∨ j = 1 ∨ j = 2 by omega) with rfl | rfl | rfl <;> rfl) (Nat.le_of_ble_eq_true rfl) (Nat.le_of_ble_eq_true rfl) d_X_init_44 (fun q44 H hP hD hS => ?_)
  have hP : va_P (dC, dI) classes [(h0, .inr (0, [.ref q5, .ref q18, .ref q31, .null, .null, .null, .null, .null, .null, .null, .int 0, .int 0])), (q5, .inr (1, [.int (nI 60), .ref r11, .int 0])), (r11, .inl (ca11, 300, .inl (rowf S0.1 0))), (q18, .inr (1, [.int (nI 60), .ref r24, .int 0])), (r24, .inl (ca24, 300, .inl (rowf S0.1 5))), (q31, .inr (1, [.int (nI 80), .ref r37, .int 0])), (r37, .inl (ca37, 400, .inl (rowf S0.1 10))), (q44, .inr (1, [.int 0, .null, .int 0]))] H := hP
  have hD : va_D A [(h0, .inr (0, [.ref q5, .ref q18, .ref q31, .null, .null, .null, .null, .null, .null, .null, .int 0, .int 0])), (q5, .inr (1, [.int (nI 60), .ref r11, .int 0])), (r11, .inl (ca11, 300, .inl (rowf S0.1 0))), (q18, .inr (1, [.int (nI 60), .ref r24, .int 0])), (r24, .inl (ca24, 300, .inl (rowf S0.1 5))), (q31, .inr (1, [.int (nI 80), .ref r37, .int 0])), (r37, .inl (ca37, 400, .inl (rowf S0.1 10))), (q44, .inr (1, [.int 0, .null, .int 0]))] := hD
  have hK : va_K (dC, dI) classes [(ca11, .int), (ca24, .int), (ca37, .int)] s := hK
  refine W.widen (k := 7) (n := 1012) (Nat.le_of_ble_eq_true rfl) (Nat.le_of_ble_eq_true rfl) ?_
  refine lv_dup hx hb d_X_init_47 rfl ?_
  refine lv_bipush (v := nI 20) hx hb d_X_init_48 (by decide) ?_
  have hPc := hP.sub (ws' := [(q44, .inr (1, [.int 0, .null, .int 0]))]) [7] rfl
  have hDc := hD.sub (ws' := [(q44, .inr (1, [.int 0, .null, .int 0]))]) [7] (by decide) rfl
  have hKc := hK.sub (tys' := []) [] rfl
  have hFc := va_free (wc := [(q44, .inr (1, [.int 0, .null, .int 0]))]) hD hS hA [7] rfl
  refine va_callv (va_runI (As := [.int (nI 20)]) (rest := [.ref q44, .ref h0]) ⟨hx, hb, hml, hown, hts⟩ (c_W_init20 l dC dI q44 H.size (rowf S0.1 15) zr_50) (cwI 1 hts (gi_I wd_25) rfl rfl rfl (hts _ wd_2) (hts _ wd_23) (hts _ wd_24) rfl (by decide +kernel) ⟨Nat.le_of_ble_eq_true rfl, Nat.le_of_ble_eq_true rfl⟩) ⟨fun a U g mk q => by obtain ⟨q0, q1, qP, qK, qD⟩ := q; exact ⟨q0, q1, qP, va_K.moved (u := U) (U := U.calling g mk a) (Vm.Alike.refl U.vm) qK, qD⟩, fun U hU hW => ⟨rfl, by rw [hU], by rw [hU]; exact hPc, va_K.moved hW.alike hKc, hDc.weaken (fun _ _ _ _ => trivial)⟩⟩ rfl rfl hl.1 rfl (lv_room (Nat.le_of_ble_eq_true rfl)) d_X_init_50 ⟨Nat.le_of_ble_eq_true rfl, Nat.le_of_ble_eq_true rfl⟩) hS (fun q _ h => hFc q h) hFc (fun u t H1 locs ht hvm hw hB hz1 hk1 hS => ?_)
  obtain ⟨r50, ca50⟩ := u
  obtain ⟨hP1, hK1, hD1⟩ := hB
  rw [ht] at hP1
  have hK1 := va_K.moved hvm.symm hK1
  obtain ⟨hP, hD⟩ := va_join (wr := [(h0, .inr (0, [.ref q5, .ref q18, .ref q31, .null, .null, .null, .null, .null, .null, .null, .int 0, .int 0])), (q5, .inr (1, [.int (nI 60), .ref r11, .int 0])), (r11, .inl (ca11, 300, .inl (rowf S0.1 0))), (q18, .inr (1, [.int (nI 60), .ref r24, .int 0])), (r24, .inl (ca24, 300, .inl (rowf S0.1 5))), (q31, .inr (1, [.int (nI 80), .ref r37, .int 0])), (r37, .inl (ca37, 400, .inl (rowf S0.1 10)))]) (w1 := [(q44, .inr (1, [.int (nI 20), .ref r50, .int 0])), (r50, .inl (ca50, 100, .inl (rowf S0.1 15)))]) hP hD [7] [0, 1, 2, 3, 4, 5, 6] rfl rfl (by decide) (by decide) hk1 hFc hP1 hD1
  have hK := (hK.sub (tys' := [(ca11, .int), (ca24, .int), (ca37, .int)]) [0, 1, 2] rfl).app hK1
  generalize H1 = H at hP hS ⊢
  have hP : va_P (dC, dI) classes [(h0, .inr (0, [.ref q5, .ref q18, .ref q31, .null, .null, .null, .null, .null, .null, .null, .int 0, .int 0])), (q5, .inr (1, [.int (nI 60), .ref r11, .int 0])), (r11, .inl (ca11, 300, .inl (rowf S0.1 0))), (q18, .inr (1, [.int (nI 60), .ref r24, .int 0])), (r24, .inl (ca24, 300, .inl (rowf S0.1 5))), (q31, .inr (1, [.int (nI 80), .ref r37, .int 0])), (r37, .inl (ca37, 400, .inl (rowf S0.1 10))), (q44, .inr (1, [.int (nI 20), .ref r50, .int 0])), (r50, .inl (ca50, 100, .inl (rowf S0.1 15)))] H := hP
  have hD : va_D A [(h0, .inr (0, [.ref q5, .ref q18, .ref q31, .null, .null, .null, .null, .null, .null, .null, .int 0, .int 0])), (q5, .inr (1, [.int (nI 60), .ref r11, .int 0])), (r11, .inl (ca11, 300, .inl (rowf S0.1 0))), (q18, .inr (1, [.int (nI 60), .ref r24, .int 0])), (r24, .inl (ca24, 300, .inl (rowf S0.1 5))), (q31, .inr (1, [.int (nI 80), .ref r37, .int 0])), (r37, .inl (ca37, 400, .inl (rowf S0.1 10))), (q44, .inr (1, [.int (nI 20), .ref r50, .int 0])), (r50, .inl (ca50, 100, .inl (rowf S0.1 15)))] := hD
  have hK : va_K (dC, dI) classes [(ca11, .int), (ca24, .int), (ca37, .int), (ca50, .int)] s := hK
  refine W.widen (k := 8) (n := 1112) (Nat.le_of_ble_eq_true rfl) (Nat.le_of_ble_eq_true rfl) ?_
  refine W.eq (g2 := F0 m 53 ls [.ref q44, .ref h0]) rfl ?_
  refine va_putF (D := (dC, dI)) (ci := 0) (v := .ref q44) (ty := .object "StockRows2$Rows") (C := R_X) (T := F_X) (N := 12) hx hb hts i_X ty_X ty_X_ok n_X hown hK hP hD hS 0 rfl rfl 3 (by decide) (hts _ wd_60) (fun _ h9 => h9) rfl hin rfl (by decide +kernel) rfl rfl (Nat.le_of_ble_eq_true rfl) d_X_init_53 (fun H locs hP hD hS => ?_)
  have hP : va_P (dC, dI) classes [(h0, .inr (0, [.ref q5, .ref q18, .ref q31, .ref q44, .null, .null, .null, .null, .null, .null, .int 0, .int 0])), (q5, .inr (1, [.int (nI 60), .ref r11, .int 0])), (r11, .inl (ca11, 300, .inl (rowf S0.1 0))), (q18, .inr (1, [.int (nI 60), .ref r24, .int 0])), (r24, .inl (ca24, 300, .inl (rowf S0.1 5))), (q31, .inr (1, [.int (nI 80), .ref r37, .int 0])), (r37, .inl (ca37, 400, .inl (rowf S0.1 10))), (q44, .inr (1, [.int (nI 20), .ref r50, .int 0])), (r50, .inl (ca50, 100, .inl (rowf S0.1 15)))] H := hP
  have hD : va_D A [(h0, .inr (0, [.ref q5, .ref q18, .ref q31, .ref q44, .null, .null, .null, .null, .null, .null, .int 0, .int 0])), (q5, .inr (1, [.int (nI 60), .ref r11, .int 0])), (r11, .inl (ca11, 300, .inl (rowf S0.1 0))), (q18, .inr (1, [.int (nI 60), .ref r24, .int 0])), (r24, .inl (ca24, 300, .inl (rowf S0.1 5))), (q31, .inr (1, [.int (nI 80), .ref r37, .int 0])), (r37, .inl (ca37, 400, .inl (rowf S0.1 10))), (q44, .inr (1, [.int (nI 20), .ref r50, .int 0])), (r50, .inl (ca50, 100, .inl (rowf S0.1 15)))] := hD
  have hK : va_K (dC, dI) classes [(ca11, .int), (ca24, .int), (ca37, .int), (ca50, .int)] s := hK
  refine lv_aload_n hx hb d_X_init_56 rfl (lv_at hl 0 rfl) ?_
  refine va_new (ci := 1) (fs := [.int 0, .null, .int 0]) (C := R_W) (T := F_W) (N := 3) hx hb hts i_W ty_W ty_W_ok hown (hts _ wd_21) (hts _ wd_22) (hts _ wd_2) hK hP hD hS hA rfl (fun j hj => by rcases (show j = 0 ∨ j = 1 ∨ j = 2 by omega) with rfl | rfl | rfl <;> rfl) (Nat.le_of_ble_eq_true rfl) (Nat.le_of_ble_eq_true rfl) d_X_init_57 (fun q57 H hP hD hS => ?_)
  have hP : va_P (dC, dI) classes [(h0, .inr (0, [.ref q5, .ref q18, .ref q31, .ref q44, .null, .null, .null, .null, .null, .null, .int 0, .int 0])), (q5, .inr (1, [.int (nI 60), .ref r11, .int 0])), (r11, .inl (ca11, 300, .inl (rowf S0.1 0))), (q18, .inr (1, [.int (nI 60), .ref r24, .int 0])), (r24, .inl (ca24, 300, .inl (rowf S0.1 5))), (q31, .inr (1, [.int (nI 80), .ref r37, .int 0])), (r37, .inl (ca37, 400, .inl (rowf S0.1 10))), (q44, .inr (1, [.int (nI 20), .ref r50, .int 0])), (r50, .inl (ca50, 100, .inl (rowf S0.1 15))), (q57, .inr (1, [.int 0, .null, .int 0]))] H := hP
  have hD : va_D A [(h0, .inr (0, [.ref q5, .ref q18, .ref q31, .ref q44, .null, .null, .null, .null, .null, .null, .int 0, .int 0])), (q5, .inr (1, [.int (nI 60), .ref r11, .int 0])), (r11, .inl (ca11, 300, .inl (rowf S0.1 0))), (q18, .inr (1, [.int (nI 60), .ref r24, .int 0])), (r24, .inl (ca24, 300, .inl (rowf S0.1 5))), (q31, .inr (1, [.int (nI 80), .ref r37, .int 0])), (r37, .inl (ca37, 400, .inl (rowf S0.1 10))), (q44, .inr (1, [.int (nI 20), .ref r50, .int 0])), (r50, .inl (ca50, 100, .inl (rowf S0.1 15))), (q57, .inr (1, [.int 0, .null, .int 0]))] := hD
  have hK : va_K (dC, dI) classes [(ca11, .int), (ca24, .int), (ca37, .int), (ca50, .int)] s := hK
  refine W.widen (k := 9) (n := 1115) (Nat.le_of_ble_eq_true rfl) (Nat.le_of_ble_eq_true rfl) ?_
  refine lv_dup hx hb d_X_init_60 rfl ?_
  refine lv_bipush (v := nI 80) hx hb d_X_init_61 (by decide) ?_
  have hPc := hP.sub (ws' := [(q57, .inr (1, [.int 0, .null, .int 0]))]) [9] rfl
  have hDc := hD.sub (ws' := [(q57, .inr (1, [.int 0, .null, .int 0]))]) [9] (by decide) rfl
  have hKc := hK.sub (tys' := []) [] rfl
  have hFc := va_free (wc := [(q57, .inr (1, [.int 0, .null, .int 0]))]) hD hS hA [9] rfl
  refine va_callv (va_runI (As := [.int (nI 80)]) (rest := [.ref q57, .ref h0]) ⟨hx, hb, hml, hown, hts⟩ (c_W_init80 l dC dI q57 H.size (rowd S0.1 S0.2.2) zr_63) (cwI 1 hts (gi_I wd_25) rfl rfl rfl (hts _ wd_2) (hts _ wd_23) (hts _ wd_24) rfl (by decide +kernel) ⟨Nat.le_of_ble_eq_true rfl, Nat.le_of_ble_eq_true rfl⟩) ⟨fun a U g mk q => by obtain ⟨q0, q1, qP, qK, qD⟩ := q; exact ⟨q0, q1, qP, va_K.moved (u := U) (U := U.calling g mk a) (Vm.Alike.refl U.vm) qK, qD⟩, fun U hU hW => ⟨rfl, by rw [hU], by rw [hU]; exact hPc, va_K.moved hW.alike hKc, hDc.weaken (fun _ _ _ _ => trivial)⟩⟩ rfl rfl hl.1 rfl (lv_room (Nat.le_of_ble_eq_true rfl)) d_X_init_63 ⟨Nat.le_of_ble_eq_true rfl, Nat.le_of_ble_eq_true rfl⟩) hS (fun q _ h => hFc q h) hFc (fun u t H1 locs ht hvm hw hB hz1 hk1 hS => ?_)
  obtain ⟨r63, ca63⟩ := u
  obtain ⟨hP1, hK1, hD1⟩ := hB
  rw [ht] at hP1
  have hK1 := va_K.moved hvm.symm hK1
  obtain ⟨hP, hD⟩ := va_join (wr := [(h0, .inr (0, [.ref q5, .ref q18, .ref q31, .ref q44, .null, .null, .null, .null, .null, .null, .int 0, .int 0])), (q5, .inr (1, [.int (nI 60), .ref r11, .int 0])), (r11, .inl (ca11, 300, .inl (rowf S0.1 0))), (q18, .inr (1, [.int (nI 60), .ref r24, .int 0])), (r24, .inl (ca24, 300, .inl (rowf S0.1 5))), (q31, .inr (1, [.int (nI 80), .ref r37, .int 0])), (r37, .inl (ca37, 400, .inl (rowf S0.1 10))), (q44, .inr (1, [.int (nI 20), .ref r50, .int 0])), (r50, .inl (ca50, 100, .inl (rowf S0.1 15)))]) (w1 := [(q57, .inr (1, [.int (nI 80), .ref r63, .int 0])), (r63, .inl (ca63, 400, .inl (rowd S0.1 S0.2.2)))]) hP hD [9] [0, 1, 2, 3, 4, 5, 6, 7, 8] rfl rfl (by decide) (by decide) hk1 hFc hP1 hD1
  have hK := (hK.sub (tys' := [(ca11, .int), (ca24, .int), (ca37, .int), (ca50, .int)]) [0, 1, 2, 3] rfl).app hK1
  generalize H1 = H at hP hS ⊢
  have hP : va_P (dC, dI) classes [(h0, .inr (0, [.ref q5, .ref q18, .ref q31, .ref q44, .null, .null, .null, .null, .null, .null, .int 0, .int 0])), (q5, .inr (1, [.int (nI 60), .ref r11, .int 0])), (r11, .inl (ca11, 300, .inl (rowf S0.1 0))), (q18, .inr (1, [.int (nI 60), .ref r24, .int 0])), (r24, .inl (ca24, 300, .inl (rowf S0.1 5))), (q31, .inr (1, [.int (nI 80), .ref r37, .int 0])), (r37, .inl (ca37, 400, .inl (rowf S0.1 10))), (q44, .inr (1, [.int (nI 20), .ref r50, .int 0])), (r50, .inl (ca50, 100, .inl (rowf S0.1 15))), (q57, .inr (1, [.int (nI 80), .ref r63, .int 0])), (r63, .inl (ca63, 400, .inl (rowd S0.1 S0.2.2)))] H := hP
  have hD : va_D A [(h0, .inr (0, [.ref q5, .ref q18, .ref q31, .ref q44, .null, .null, .null, .null, .null, .null, .int 0, .int 0])), (q5, .inr (1, [.int (nI 60), .ref r11, .int 0])), (r11, .inl (ca11, 300, .inl (rowf S0.1 0))), (q18, .inr (1, [.int (nI 60), .ref r24, .int 0])), (r24, .inl (ca24, 300, .inl (rowf S0.1 5))), (q31, .inr (1, [.int (nI 80), .ref r37, .int 0])), (r37, .inl (ca37, 400, .inl (rowf S0.1 10))), (q44, .inr (1, [.int (nI 20), .ref r50, .int 0])), (r50, .inl (ca50, 100, .inl (rowf S0.1 15))), (q57, .inr (1, [.int (nI 80), .ref r63, .int 0])), (r63, .inl (ca63, 400, .inl (rowd S0.1 S0.2.2)))] := hD
  have hK : va_K (dC, dI) classes [(ca11, .int), (ca24, .int), (ca37, .int), (ca50, .int), (ca63, .int)] s := hK
  refine W.widen (k := 10) (n := 1515) (Nat.le_of_ble_eq_true rfl) (Nat.le_of_ble_eq_true rfl) ?_
  refine W.eq (g2 := F0 m 66 ls [.ref q57, .ref h0]) rfl ?_
  refine va_putF (D := (dC, dI)) (ci := 0) (v := .ref q57) (ty := .object "StockRows2$Rows") (C := R_X) (T := F_X) (N := 12) hx hb hts i_X ty_X ty_X_ok n_X hown hK hP hD hS 0 rfl rfl 4 (by decide) (hts _ wd_61) (fun _ h9 => h9) rfl hin rfl (by decide +kernel) rfl rfl (Nat.le_of_ble_eq_true rfl) d_X_init_66 (fun H locs hP hD hS => ?_)
  have hP : va_P (dC, dI) classes [(h0, .inr (0, [.ref q5, .ref q18, .ref q31, .ref q44, .ref q57, .null, .null, .null, .null, .null, .int 0, .int 0])), (q5, .inr (1, [.int (nI 60), .ref r11, .int 0])), (r11, .inl (ca11, 300, .inl (rowf S0.1 0))), (q18, .inr (1, [.int (nI 60), .ref r24, .int 0])), (r24, .inl (ca24, 300, .inl (rowf S0.1 5))), (q31, .inr (1, [.int (nI 80), .ref r37, .int 0])), (r37, .inl (ca37, 400, .inl (rowf S0.1 10))), (q44, .inr (1, [.int (nI 20), .ref r50, .int 0])), (r50, .inl (ca50, 100, .inl (rowf S0.1 15))), (q57, .inr (1, [.int (nI 80), .ref r63, .int 0])), (r63, .inl (ca63, 400, .inl (rowd S0.1 S0.2.2)))] H := hP
  have hD : va_D A [(h0, .inr (0, [.ref q5, .ref q18, .ref q31, .ref q44, .ref q57, .null, .null, .null, .null, .null, .int 0, .int 0])), (q5, .inr (1, [.int (nI 60), .ref r11, .int 0])), (r11, .inl (ca11, 300, .inl (rowf S0.1 0))), (q18, .inr (1, [.int (nI 60), .ref r24, .int 0])), (r24, .inl (ca24, 300, .inl (rowf S0.1 5))), (q31, .inr (1, [.int (nI 80), .ref r37, .int 0])), (r37, .inl (ca37, 400, .inl (rowf S0.1 10))), (q44, .inr (1, [.int (nI 20), .ref r50, .int 0])), (r50, .inl (ca50, 100, .inl (rowf S0.1 15))), (q57, .inr (1, [.int (nI 80), .ref r63, .int 0])), (r63, .inl (ca63, 400, .inl (rowd S0.1 S0.2.2)))] := hD
  have hK : va_K (dC, dI) classes [(ca11, .int), (ca24, .int), (ca37, .int), (ca50, .int), (ca63, .int)] s := hK
  refine lv_aload_n hx hb d_X_init_69 rfl (lv_at hl 0 rfl) ?_
  refine va_new (ci := 2) (fs := [.null, .null, .int 0]) (C := R_H) (T := F_H) (N := 3) hx hb hts i_H ty_H ty_H_ok hown (hts _ wd_41) (hts _ wd_42) (hts _ wd_4) hK hP hD hS hA rfl (fun j hj => by rcases (show j = 0 ∨ j = 1 ∨ j = 2 by omega) with rfl | rfl | rfl <;> rfl) (Nat.le_of_ble_eq_true rfl) (Nat.le_of_ble_eq_true rfl) d_X_init_70 (fun q70 H hP hD hS => ?_)
  have hP : va_P (dC, dI) classes [(h0, .inr (0, [.ref q5, .ref q18, .ref q31, .ref q44, .ref q57, .null, .null, .null, .null, .null, .int 0, .int 0])), (q5, .inr (1, [.int (nI 60), .ref r11, .int 0])), (r11, .inl (ca11, 300, .inl (rowf S0.1 0))), (q18, .inr (1, [.int (nI 60), .ref r24, .int 0])), (r24, .inl (ca24, 300, .inl (rowf S0.1 5))), (q31, .inr (1, [.int (nI 80), .ref r37, .int 0])), (r37, .inl (ca37, 400, .inl (rowf S0.1 10))), (q44, .inr (1, [.int (nI 20), .ref r50, .int 0])), (r50, .inl (ca50, 100, .inl (rowf S0.1 15))), (q57, .inr (1, [.int (nI 80), .ref r63, .int 0])), (r63, .inl (ca63, 400, .inl (rowd S0.1 S0.2.2))), (q70, .inr (2, [.null, .null, .int 0]))] H := hP
  have hD : va_D A [(h0, .inr (0, [.ref q5, .ref q18, .ref q31, .ref q44, .ref q57, .null, .null, .null, .null, .null, .int 0, .int 0])), (q5, .inr (1, [.int (nI 60), .ref r11, .int 0])), (r11, .inl (ca11, 300, .inl (rowf S0.1 0))), (q18, .inr (1, [.int (nI 60), .ref r24, .int 0])), (r24, .inl (ca24, 300, .inl (rowf S0.1 5))), (q31, .inr (1, [.int (nI 80), .ref r37, .int 0])), (r37, .inl (ca37, 400, .inl (rowf S0.1 10))), (q44, .inr (1, [.int (nI 20), .ref r50, .int 0])), (r50, .inl (ca50, 100, .inl (rowf S0.1 15))), (q57, .inr (1, [.int (nI 80), .ref r63, .int 0])), (r63, .inl (ca63, 400, .inl (rowd S0.1 S0.2.2))), (q70, .inr (2, [.null, .null, .int 0]))] := hD
  have hK : va_K (dC, dI) classes [(ca11, .int), (ca24, .int), (ca37, .int), (ca50, .int), (ca63, .int)] s := hK
  refine W.widen (k := 11) (n := 1518) (Nat.le_of_ble_eq_true rfl) (Nat.le_of_ble_eq_true rfl) ?_
  refine lv_dup hx hb d_X_init_73 rfl ?_
  have hPc := hP.sub (ws' := [(q70, .inr (2, [.null, .null, .int 0]))]) [11] rfl
  have hDc := hD.sub (ws' := [(q70, .inr (2, [.null, .null, .int 0]))]) [11] (by decide) rfl
  have hKc := hK.sub (tys' := []) [] rfl
  have hFc := va_free (wc := [(q70, .inr (2, [.null, .null, .int 0]))]) hD hS hA [11] rfl
  refine va_callv (va_runIN (As := []) (rest := [.ref q70, .ref h0]) ⟨hx, hb, hml, hown, hts⟩ (c_H_init l dC dI q70 H.size (colf S0.1 29) (colf S0.1 30) zr_29 zr_30) (⟨va_cnB (host := "StockRows2") 0 hts (gi_I wd_45) rfl rfl rfl (hG.2.2.1 _ wn_H rfl) (hts _ wd_4) (by decide +kernel) ⟨Nat.le_of_ble_eq_true rfl, Nat.le_of_ble_eq_true rfl⟩, rfl, (hts _ wd_44)⟩) ⟨fun a U g mk q => by obtain ⟨q0, q1, qP, qK, qD⟩ := q; exact ⟨q0, q1, qP, va_K.moved (u := U) (U := U.calling g mk a) (Vm.Alike.refl U.vm) qK, qD⟩, fun U hU hW => ⟨rfl, by rw [hU], by rw [hU]; exact hPc, va_K.moved hW.alike hKc, hDc.weaken (fun _ _ _ _ => trivial)⟩⟩ rfl rfl hl.1 rfl (lv_room (Nat.le_of_ble_eq_true rfl)) d_X_init_74 ⟨Nat.le_of_ble_eq_true rfl, Nat.le_of_ble_eq_true rfl⟩) hS (fun q _ h => hFc q h) hFc (fun u t H1 locs ht hvm hw hB hz1 hk1 hS => ?_)
  obtain ⟨ra, rb, cra, crb⟩ := u
  obtain ⟨hP1, hK1, hD1⟩ := hB
  rw [ht] at hP1
  have hK1 := va_K.moved hvm.symm hK1
  obtain ⟨hP, hD⟩ := va_join (wr := [(h0, .inr (0, [.ref q5, .ref q18, .ref q31, .ref q44, .ref q57, .null, .null, .null, .null, .null, .int 0, .int 0])), (q5, .inr (1, [.int (nI 60), .ref r11, .int 0])), (r11, .inl (ca11, 300, .inl (rowf S0.1 0))), (q18, .inr (1, [.int (nI 60), .ref r24, .int 0])), (r24, .inl (ca24, 300, .inl (rowf S0.1 5))), (q31, .inr (1, [.int (nI 80), .ref r37, .int 0])), (r37, .inl (ca37, 400, .inl (rowf S0.1 10))), (q44, .inr (1, [.int (nI 20), .ref r50, .int 0])), (r50, .inl (ca50, 100, .inl (rowf S0.1 15))), (q57, .inr (1, [.int (nI 80), .ref r63, .int 0])), (r63, .inl (ca63, 400, .inl (rowd S0.1 S0.2.2)))]) (w1 := [(q70, .inr (2, [.ref ra, .ref rb, .int 0])), (ra, .inl (cra, 10, .inl (colf S0.1 29))), (rb, .inl (crb, 10, .inl (colf S0.1 30)))]) hP hD [11] [0, 1, 2, 3, 4, 5, 6, 7, 8, 9, 10] rfl rfl (by decide) (by decide) hk1 hFc hP1 hD1
  have hK := (hK.sub (tys' := [(ca11, .int), (ca24, .int), (ca37, .int), (ca50, .int), (ca63, .int)]) [0, 1, 2, 3, 4] rfl).app hK1
  generalize H1 = H at hP hS ⊢
  have hP : va_P (dC, dI) classes [(h0, .inr (0, [.ref q5, .ref q18, .ref q31, .ref q44, .ref q57, .null, .null, .null, .null, .null, .int 0, .int 0])), (q5, .inr (1, [.int (nI 60), .ref r11, .int 0])), (r11, .inl (ca11, 300, .inl (rowf S0.1 0))), (q18, .inr (1, [.int (nI 60), .ref r24, .int 0])), (r24, .inl (ca24, 300, .inl (rowf S0.1 5))), (q31, .inr (1, [.int (nI 80), .ref r37, .int 0])), (r37, .inl (ca37, 400, .inl (rowf S0.1 10))), (q44, .inr (1, [.int (nI 20), .ref r50, .int 0])), (r50, .inl (ca50, 100, .inl (rowf S0.1 15))), (q57, .inr (1, [.int (nI 80), .ref r63, .int 0])), (r63, .inl (ca63, 400, .inl (rowd S0.1 S0.2.2))), (q70, .inr (2, [.ref ra, .ref rb, .int 0])), (ra, .inl (cra, 10, .inl (colf S0.1 29))), (rb, .inl (crb, 10, .inl (colf S0.1 30)))] H := hP
  have hD : va_D A [(h0, .inr (0, [.ref q5, .ref q18, .ref q31, .ref q44, .ref q57, .null, .null, .null, .null, .null, .int 0, .int 0])), (q5, .inr (1, [.int (nI 60), .ref r11, .int 0])), (r11, .inl (ca11, 300, .inl (rowf S0.1 0))), (q18, .inr (1, [.int (nI 60), .ref r24, .int 0])), (r24, .inl (ca24, 300, .inl (rowf S0.1 5))), (q31, .inr (1, [.int (nI 80), .ref r37, .int 0])), (r37, .inl (ca37, 400, .inl (rowf S0.1 10))), (q44, .inr (1, [.int (nI 20), .ref r50, .int 0])), (r50, .inl (ca50, 100, .inl (rowf S0.1 15))), (q57, .inr (1, [.int (nI 80), .ref r63, .int 0])), (r63, .inl (ca63, 400, .inl (rowd S0.1 S0.2.2))), (q70, .inr (2, [.ref ra, .ref rb, .int 0])), (ra, .inl (cra, 10, .inl (colf S0.1 29))), (rb, .inl (crb, 10, .inl (colf S0.1 30)))] := hD
  have hK : va_K (dC, dI) classes [(ca11, .int), (ca24, .int), (ca37, .int), (ca50, .int), (ca63, .int), (cra, .int), (crb, .int)] s := hK
  refine W.widen (k := 13) (n := 1538) (Nat.le_of_ble_eq_true rfl) (Nat.le_of_ble_eq_true rfl) ?_
  refine W.eq (g2 := F0 m 77 ls [.ref q70, .ref h0]) rfl ?_
  refine va_putF (D := (dC, dI)) (ci := 0) (v := .ref q70) (ty := .object "StockRows2$Table") (C := R_X) (T := F_X) (N := 12) hx hb hts i_X ty_X ty_X_ok n_X hown hK hP hD hS 0 rfl rfl 5 (by decide) (hts _ wd_62) (fun _ h9 => h9) rfl hin rfl (by decide +kernel) rfl rfl (Nat.le_of_ble_eq_true rfl) d_X_init_77 (fun H locs hP hD hS => ?_)
  have hP : va_P (dC, dI) classes [(h0, .inr (0, [.ref q5, .ref q18, .ref q31, .ref q44, .ref q57, .ref q70, .null, .null, .null, .null, .int 0, .int 0])), (q5, .inr (1, [.int (nI 60), .ref r11, .int 0])), (r11, .inl (ca11, 300, .inl (rowf S0.1 0))), (q18, .inr (1, [.int (nI 60), .ref r24, .int 0])), (r24, .inl (ca24, 300, .inl (rowf S0.1 5))), (q31, .inr (1, [.int (nI 80), .ref r37, .int 0])), (r37, .inl (ca37, 400, .inl (rowf S0.1 10))), (q44, .inr (1, [.int (nI 20), .ref r50, .int 0])), (r50, .inl (ca50, 100, .inl (rowf S0.1 15))), (q57, .inr (1, [.int (nI 80), .ref r63, .int 0])), (r63, .inl (ca63, 400, .inl (rowd S0.1 S0.2.2))), (q70, .inr (2, [.ref ra, .ref rb, .int 0])), (ra, .inl (cra, 10, .inl (colf S0.1 29))), (rb, .inl (crb, 10, .inl (colf S0.1 30)))] H := hP
  have hD : va_D A [(h0, .inr (0, [.ref q5, .ref q18, .ref q31, .ref q44, .ref q57, .ref q70, .null, .null, .null, .null, .int 0, .int 0])), (q5, .inr (1, [.int (nI 60), .ref r11, .int 0])), (r11, .inl (ca11, 300, .inl (rowf S0.1 0))), (q18, .inr (1, [.int (nI 60), .ref r24, .int 0])), (r24, .inl (ca24, 300, .inl (rowf S0.1 5))), (q31, .inr (1, [.int (nI 80), .ref r37, .int 0])), (r37, .inl (ca37, 400, .inl (rowf S0.1 10))), (q44, .inr (1, [.int (nI 20), .ref r50, .int 0])), (r50, .inl (ca50, 100, .inl (rowf S0.1 15))), (q57, .inr (1, [.int (nI 80), .ref r63, .int 0])), (r63, .inl (ca63, 400, .inl (rowd S0.1 S0.2.2))), (q70, .inr (2, [.ref ra, .ref rb, .int 0])), (ra, .inl (cra, 10, .inl (colf S0.1 29))), (rb, .inl (crb, 10, .inl (colf S0.1 30)))] := hD
  have hK : va_K (dC, dI) classes [(ca11, .int), (ca24, .int), (ca37, .int), (ca50, .int), (ca63, .int), (cra, .int), (crb, .int)] s := hK
  refine lv_aload_n hx hb d_X_init_80 rfl (lv_at hl 0 rfl) ?_
  refine lv_sipush (v := nI 480) hx hb d_X_init_81 (by decide) ?_
  refine va_newa (atype := .int) (ty := .int) (N' := 480) (a0 := (480, .inl (colf S0.1 25))) hx hb (hts _ wd_40) rfl hK hP hD hS hA (fun cA => zr_c) (by decide) (by decide) (by decide) (Nat.le_of_ble_eq_true rfl) (Nat.le_of_ble_eq_true rfl) d_X_init_84 (fun q84 ca84 H hK hP hD hS => ?_)
  have hP : va_P (dC, dI) classes [(h0, .inr (0, [.ref q5, .ref q18, .ref q31, .ref q44, .ref q57, .ref q70, .null, .null, .null, .null, .int 0, .int 0])), (q5, .inr (1, [.int (nI 60), .ref r11, .int 0])), (r11, .inl (ca11, 300, .inl (rowf S0.1 0))), (q18, .inr (1, [.int (nI 60), .ref r24, .int 0])), (r24, .inl (ca24, 300, .inl (rowf S0.1 5))), (q31, .inr (1, [.int (nI 80), .ref r37, .int 0])), (r37, .inl (ca37, 400, .inl (rowf S0.1 10))), (q44, .inr (1, [.int (nI 20), .ref r50, .int 0])), (r50, .inl (ca50, 100, .inl (rowf S0.1 15))), (q57, .inr (1, [.int (nI 80), .ref r63, .int 0])), (r63, .inl (ca63, 400, .inl (rowd S0.1 S0.2.2))), (q70, .inr (2, [.ref ra, .ref rb, .int 0])), (ra, .inl (cra, 10, .inl (colf S0.1 29))), (rb, .inl (crb, 10, .inl (colf S0.1 30))), (q84, .inl (ca84, 480, .inl (colf S0.1 25)))] H := hP
  have hD : va_D A [(h0, .inr (0, [.ref q5, .ref q18, .ref q31, .ref q44, .ref q57, .ref q70, .null, .null, .null, .null, .int 0, .int 0])), (q5, .inr (1, [.int (nI 60), .ref r11, .int 0])), (r11, .inl (ca11, 300, .inl (rowf S0.1 0))), (q18, .inr (1, [.int (nI 60), .ref r24, .int 0])), (r24, .inl (ca24, 300, .inl (rowf S0.1 5))), (q31, .inr (1, [.int (nI 80), .ref r37, .int 0])), (r37, .inl (ca37, 400, .inl (rowf S0.1 10))), (q44, .inr (1, [.int (nI 20), .ref r50, .int 0])), (r50, .inl (ca50, 100, .inl (rowf S0.1 15))), (q57, .inr (1, [.int (nI 80), .ref r63, .int 0])), (r63, .inl (ca63, 400, .inl (rowd S0.1 S0.2.2))), (q70, .inr (2, [.ref ra, .ref rb, .int 0])), (ra, .inl (cra, 10, .inl (colf S0.1 29))), (rb, .inl (crb, 10, .inl (colf S0.1 30))), (q84, .inl (ca84, 480, .inl (colf S0.1 25)))] := hD
  have hK : va_K (dC, dI) classes [(ca11, .int), (ca24, .int), (ca37, .int), (ca50, .int), (ca63, .int), (cra, .int), (crb, .int), (ca84, .int)] s := hK
  refine W.widen (k := 14) (n := 2018) (Nat.le_of_ble_eq_true rfl) (Nat.le_of_ble_eq_true rfl) ?_
  refine va_putF (D := (dC, dI)) (ci := 0) (v := .ref q84) (ty := .array .int) (C := R_X) (T := F_X) (N := 12) hx hb hts i_X ty_X ty_X_ok n_X hown hK hP hD hS 0 rfl rfl 6 (by decide) (hts _ wd_63) (fun _ h9 => h9) rfl hin rfl (by decide +kernel) rfl rfl (Nat.le_of_ble_eq_true rfl) d_X_init_86 (fun H locs hP hD hS => ?_)
  have hP : va_P (dC, dI) classes [(h0, .inr (0, [.ref q5, .ref q18, .ref q31, .ref q44, .ref q57, .ref q70, .ref q84, .null, .null, .null, .int 0, .int 0])), (q5, .inr (1, [.int (nI 60), .ref r11, .int 0])), (r11, .inl (ca11, 300, .inl (rowf S0.1 0))), (q18, .inr (1, [.int (nI 60), .ref r24, .int 0])), (r24, .inl (ca24, 300, .inl (rowf S0.1 5))), (q31, .inr (1, [.int (nI 80), .ref r37, .int 0])), (r37, .inl (ca37, 400, .inl (rowf S0.1 10))), (q44, .inr (1, [.int (nI 20), .ref r50, .int 0])), (r50, .inl (ca50, 100, .inl (rowf S0.1 15))), (q57, .inr (1, [.int (nI 80), .ref r63, .int 0])), (r63, .inl (ca63, 400, .inl (rowd S0.1 S0.2.2))), (q70, .inr (2, [.ref ra, .ref rb, .int 0])), (ra, .inl (cra, 10, .inl (colf S0.1 29))), (rb, .inl (crb, 10, .inl (colf S0.1 30))), (q84, .inl (ca84, 480, .inl (colf S0.1 25)))] H := hP
  have hD : va_D A [(h0, .inr (0, [.ref q5, .ref q18, .ref q31, .ref q44, .ref q57, .ref q70, .ref q84, .null, .null, .null, .int 0, .int 0])), (q5, .inr (1, [.int (nI 60), .ref r11, .int 0])), (r11, .inl (ca11, 300, .inl (rowf S0.1 0))), (q18, .inr (1, [.int (nI 60), .ref r24, .int 0])), (r24, .inl (ca24, 300, .inl (rowf S0.1 5))), (q31, .inr (1, [.int (nI 80), .ref r37, .int 0])), (r37, .inl (ca37, 400, .inl (rowf S0.1 10))), (q44, .inr (1, [.int (nI 20), .ref r50, .int 0])), (r50, .inl (ca50, 100, .inl (rowf S0.1 15))), (q57, .inr (1, [.int (nI 80), .ref r63, .int 0])), (r63, .inl (ca63, 400, .inl (rowd S0.1 S0.2.2))), (q70, .inr (2, [.ref ra, .ref rb, .int 0])), (ra, .inl (cra, 10, .inl (colf S0.1 29))), (rb, .inl (crb, 10, .inl (colf S0.1 30))), (q84, .inl (ca84, 480, .inl (colf S0.1 25)))] := hD
  have hK : va_K (dC, dI) classes [(ca11, .int), (ca24, .int), (ca37, .int), (ca50, .int), (ca63, .int), (cra, .int), (crb, .int), (ca84, .int)] s := hK
  refine lv_aload_n hx hb d_X_init_89 rfl (lv_at hl 0 rfl) ?_
  refine lv_bipush (v := nI 80) hx hb d_X_init_90 (by decide) ?_
  refine va_newa (atype := .int) (ty := .int) (N' := 80) (a0 := (80, .inl (colf S0.1 26))) hx hb (hts _ wd_40) rfl hK hP hD hS hA (fun cA => zr_c) (by decide) (by decide) (by decide) (Nat.le_of_ble_eq_true rfl) (Nat.le_of_ble_eq_true rfl) d_X_init_92 (fun q92 ca92 H hK hP hD hS => ?_)
  have hP : va_P (dC, dI) classes [(h0, .inr (0, [.ref q5, .ref q18, .ref q31, .ref q44, .ref q57, .ref q70, .ref q84, .null, .null, .null, .int 0, .int 0])), (q5, .inr (1, [.int (nI 60), .ref r11, .int 0])), (r11, .inl (ca11, 300, .inl (rowf S0.1 0))), (q18, .inr (1, [.int (nI 60), .ref r24, .int 0])), (r24, .inl (ca24, 300, .inl (rowf S0.1 5))), (q31, .inr (1, [.int (nI 80), .ref r37, .int 0])), (r37, .inl (ca37, 400, .inl (rowf S0.1 10))), (q44, .inr (1, [.int (nI 20), .ref r50, .int 0])), (r50, .inl (ca50, 100, .inl (rowf S0.1 15))), (q57, .inr (1, [.int (nI 80), .ref r63, .int 0])), (r63, .inl (ca63, 400, .inl (rowd S0.1 S0.2.2))), (q70, .inr (2, [.ref ra, .ref rb, .int 0])), (ra, .inl (cra, 10, .inl (colf S0.1 29))), (rb, .inl (crb, 10, .inl (colf S0.1 30))), (q84, .inl (ca84, 480, .inl (colf S0.1 25))), (q92, .inl (ca92, 80, .inl (colf S0.1 26)))] H := hP
  have hD : va_D A [(h0, .inr (0, [.ref q5, .ref q18, .ref q31, .ref q44, .ref q57, .ref q70, .ref q84, .null, .null, .null, .int 0, .int 0])), (q5, .inr (1, [.int (nI 60), .ref r11, .int 0])), (r11, .inl (ca11, 300, .inl (rowf S0.1 0))), (q18, .inr (1, [.int (nI 60), .ref r24, .int 0])), (r24, .inl (ca24, 300, .inl (rowf S0.1 5))), (q31, .inr (1, [.int (nI 80), .ref r37, .int 0])), (r37, .inl (ca37, 400, .inl (rowf S0.1 10))), (q44, .inr (1, [.int (nI 20), .ref r50, .int 0])), (r50, .inl (ca50, 100, .inl (rowf S0.1 15))), (q57, .inr (1, [.int (nI 80), .ref r63, .int 0])), (r63, .inl (ca63, 400, .inl (rowd S0.1 S0.2.2))), (q70, .inr (2, [.ref ra, .ref rb, .int 0])), (ra, .inl (cra, 10, .inl (colf S0.1 29))), (rb, .inl (crb, 10, .inl (colf S0.1 30))), (q84, .inl (ca84, 480, .inl (colf S0.1 25))), (q92, .inl (ca92, 80, .inl (colf S0.1 26)))] := hD
  have hK : va_K (dC, dI) classes [(ca11, .int), (ca24, .int), (ca37, .int), (ca50, .int), (ca63, .int), (cra, .int), (crb, .int), (ca84, .int), (ca92, .int)] s := hK
  refine W.widen (k := 15) (n := 2098) (Nat.le_of_ble_eq_true rfl) (Nat.le_of_ble_eq_true rfl) ?_
  refine va_putF (D := (dC, dI)) (ci := 0) (v := .ref q92) (ty := .array .int) (C := R_X) (T := F_X) (N := 12) hx hb hts i_X ty_X ty_X_ok n_X hown hK hP hD hS 0 rfl rfl 7 (by decide) (hts _ wd_64) (fun _ h9 => h9) rfl hin rfl (by decide +kernel) rfl rfl (Nat.le_of_ble_eq_true rfl) d_X_init_94 (fun H locs hP hD hS => ?_)
  have hP : va_P (dC, dI) classes [(h0, .inr (0, [.ref q5, .ref q18, .ref q31, .ref q44, .ref q57, .ref q70, .ref q84, .ref q92, .null, .null, .int 0, .int 0])), (q5, .inr (1, [.int (nI 60), .ref r11, .int 0])), (r11, .inl (ca11, 300, .inl (rowf S0.1 0))), (q18, .inr (1, [.int (nI 60), .ref r24, .int 0])), (r24, .inl (ca24, 300, .inl (rowf S0.1 5))), (q31, .inr (1, [.int (nI 80), .ref r37, .int 0])), (r37, .inl (ca37, 400, .inl (rowf S0.1 10))), (q44, .inr (1, [.int (nI 20), .ref r50, .int 0])), (r50, .inl (ca50, 100, .inl (rowf S0.1 15))), (q57, .inr (1, [.int (nI 80), .ref r63, .int 0])), (r63, .inl (ca63, 400, .inl (rowd S0.1 S0.2.2))), (q70, .inr (2, [.ref ra, .ref rb, .int 0])), (ra, .inl (cra, 10, .inl (colf S0.1 29))), (rb, .inl (crb, 10, .inl (colf S0.1 30))), (q84, .inl (ca84, 480, .inl (colf S0.1 25))), (q92, .inl (ca92, 80, .inl (colf S0.1 26)))] H := hP
  have hD : va_D A [(h0, .inr (0, [.ref q5, .ref q18, .ref q31, .ref q44, .ref q57, .ref q70, .ref q84, .ref q92, .null, .null, .int 0, .int 0])), (q5, .inr (1, [.int (nI 60), .ref r11, .int 0])), (r11, .inl (ca11, 300, .inl (rowf S0.1 0))), (q18, .inr (1, [.int (nI 60), .ref r24, .int 0])), (r24, .inl (ca24, 300, .inl (rowf S0.1 5))), (q31, .inr (1, [.int (nI 80), .ref r37, .int 0])), (r37, .inl (ca37, 400, .inl (rowf S0.1 10))), (q44, .inr (1, [.int (nI 20), .ref r50, .int 0])), (r50, .inl (ca50, 100, .inl (rowf S0.1 15))), (q57, .inr (1, [.int (nI 80), .ref r63, .int 0])), (r63, .inl (ca63, 400, .inl (rowd S0.1 S0.2.2))), (q70, .inr (2, [.ref ra, .ref rb, .int 0])), (ra, .inl (cra, 10, .inl (colf S0.1 29))), (rb, .inl (crb, 10, .inl (colf S0.1 30))), (q84, .inl (ca84, 480, .inl (colf S0.1 25))), (q92, .inl (ca92, 80, .inl (colf S0.1 26)))] := hD
  have hK : va_K (dC, dI) classes [(ca11, .int), (ca24, .int), (ca37, .int), (ca50, .int), (ca63, .int), (cra, .int), (crb, .int), (ca84, .int), (ca92, .int)] s := hK
  refine lv_aload_n hx hb d_X_init_97 rfl (lv_at hl 0 rfl) ?_
  refine lv_bipush (v := nI 80) hx hb d_X_init_98 (by decide) ?_
  refine va_newa (atype := .int) (ty := .int) (N' := 80) (a0 := (80, .inl (colf S0.1 27))) hx hb (hts _ wd_40) rfl hK hP hD hS hA (fun cA => zr_c) (by decide) (by decide) (by decide) (Nat.le_of_ble_eq_true rfl) (Nat.le_of_ble_eq_true rfl) d_X_init_100 (fun q100 ca100 H hK hP hD hS => ?_)
  have hP : va_P (dC, dI) classes [(h0, .inr (0, [.ref q5, .ref q18, .ref q31, .ref q44, .ref q57, .ref q70, .ref q84, .ref q92, .null, .null, .int 0, .int 0])), (q5, .inr (1, [.int (nI 60), .ref r11, .int 0])), (r11, .inl (ca11, 300, .inl (rowf S0.1 0))), (q18, .inr (1, [.int (nI 60), .ref r24, .int 0])), (r24, .inl (ca24, 300, .inl (rowf S0.1 5))), (q31, .inr (1, [.int (nI 80), .ref r37, .int 0])), (r37, .inl (ca37, 400, .inl (rowf S0.1 10))), (q44, .inr (1, [.int (nI 20), .ref r50, .int 0])), (r50, .inl (ca50, 100, .inl (rowf S0.1 15))), (q57, .inr (1, [.int (nI 80), .ref r63, .int 0])), (r63, .inl (ca63, 400, .inl (rowd S0.1 S0.2.2))), (q70, .inr (2, [.ref ra, .ref rb, .int 0])), (ra, .inl (cra, 10, .inl (colf S0.1 29))), (rb, .inl (crb, 10, .inl (colf S0.1 30))), (q84, .inl (ca84, 480, .inl (colf S0.1 25))), (q92, .inl (ca92, 80, .inl (colf S0.1 26))), (q100, .inl (ca100, 80, .inl (colf S0.1 27)))] H := hP
  have hD : va_D A [(h0, .inr (0, [.ref q5, .ref q18, .ref q31, .ref q44, .ref q57, .ref q70, .ref q84, .ref q92, .null, .null, .int 0, .int 0])), (q5, .inr (1, [.int (nI 60), .ref r11, .int 0])), (r11, .inl (ca11, 300, .inl (rowf S0.1 0))), (q18, .inr (1, [.int (nI 60), .ref r24, .int 0])), (r24, .inl (ca24, 300, .inl (rowf S0.1 5))), (q31, .inr (1, [.int (nI 80), .ref r37, .int 0])), (r37, .inl (ca37, 400, .inl (rowf S0.1 10))), (q44, .inr (1, [.int (nI 20), .ref r50, .int 0])), (r50, .inl (ca50, 100, .inl (rowf S0.1 15))), (q57, .inr (1, [.int (nI 80), .ref r63, .int 0])), (r63, .inl (ca63, 400, .inl (rowd S0.1 S0.2.2))), (q70, .inr (2, [.ref ra, .ref rb, .int 0])), (ra, .inl (cra, 10, .inl (colf S0.1 29))), (rb, .inl (crb, 10, .inl (colf S0.1 30))), (q84, .inl (ca84, 480, .inl (colf S0.1 25))), (q92, .inl (ca92, 80, .inl (colf S0.1 26))), (q100, .inl (ca100, 80, .inl (colf S0.1 27)))] := hD
  have hK : va_K (dC, dI) classes [(ca11, .int), (ca24, .int), (ca37, .int), (ca50, .int), (ca63, .int), (cra, .int), (crb, .int), (ca84, .int), (ca92, .int), (ca100, .int)] s := hK
  refine W.widen (k := 16) (n := 2178) (Nat.le_of_ble_eq_true rfl) (Nat.le_of_ble_eq_true rfl) ?_
  refine va_putF (D := (dC, dI)) (ci := 0) (v := .ref q100) (ty := .array .int) (C := R_X) (T := F_X) (N := 12) hx hb hts i_X ty_X ty_X_ok n_X hown hK hP hD hS 0 rfl rfl 8 (by decide) (hts _ wd_65) (fun _ h9 => h9) rfl hin rfl (by decide +kernel) rfl rfl (Nat.le_of_ble_eq_true rfl) d_X_init_102 (fun H locs hP hD hS => ?_)
  have hP : va_P (dC, dI) classes [(h0, .inr (0, [.ref q5, .ref q18, .ref q31, .ref q44, .ref q57, .ref q70, .ref q84, .ref q92, .ref q100, .null, .int 0, .int 0])), (q5, .inr (1, [.int (nI 60), .ref r11, .int 0])), (r11, .inl (ca11, 300, .inl (rowf S0.1 0))), (q18, .inr (1, [.int (nI 60), .ref r24, .int 0])), (r24, .inl (ca24, 300, .inl (rowf S0.1 5))), (q31, .inr (1, [.int (nI 80), .ref r37, .int 0])), (r37, .inl (ca37, 400, .inl (rowf S0.1 10))), (q44, .inr (1, [.int (nI 20), .ref r50, .int 0])), (r50, .inl (ca50, 100, .inl (rowf S0.1 15))), (q57, .inr (1, [.int (nI 80), .ref r63, .int 0])), (r63, .inl (ca63, 400, .inl (rowd S0.1 S0.2.2))), (q70, .inr (2, [.ref ra, .ref rb, .int 0])), (ra, .inl (cra, 10, .inl (colf S0.1 29))), (rb, .inl (crb, 10, .inl (colf S0.1 30))), (q84, .inl (ca84, 480, .inl (colf S0.1 25))), (q92, .inl (ca92, 80, .inl (colf S0.1 26))), (q100, .inl (ca100, 80, .inl (colf S0.1 27)))] H := hP
  have hD : va_D A [(h0, .inr (0, [.ref q5, .ref q18, .ref q31, .ref q44, .ref q57, .ref q70, .ref q84, .ref q92, .ref q100, .null, .int 0, .int 0])), (q5, .inr (1, [.int (nI 60), .ref r11, .int 0])), (r11, .inl (ca11, 300, .inl (rowf S0.1 0))), (q18, .inr (1, [.int (nI 60), .ref r24, .int 0])), (r24, .inl (ca24, 300, .inl (rowf S0.1 5))), (q31, .inr (1, [.int (nI 80), .ref r37, .int 0])), (r37, .inl (ca37, 400, .inl (rowf S0.1 10))), (q44, .inr (1, [.int (nI 20), .ref r50, .int 0])), (r50, .inl (ca50, 100, .inl (rowf S0.1 15))), (q57, .inr (1, [.int (nI 80), .ref r63, .int 0])), (r63, .inl (ca63, 400, .inl (rowd S0.1 S0.2.2))), (q70, .inr (2, [.ref ra, .ref rb, .int 0])), (ra, .inl (cra, 10, .inl (colf S0.1 29))), (rb, .inl (crb, 10, .inl (colf S0.1 30))), (q84, .inl (ca84, 480, .inl (colf S0.1 25))), (q92, .inl (ca92, 80, .inl (colf S0.1 26))), (q100, .inl (ca100, 80, .inl (colf S0.1 27)))] := hD
  have hK : va_K (dC, dI) classes [(ca11, .int), (ca24, .int), (ca37, .int), (ca50, .int), (ca63, .int), (cra, .int), (crb, .int), (ca84, .int), (ca92, .int), (ca100, .int)] s := hK
  refine lv_aload_n hx hb d_X_init_105 rfl (lv_at hl 0 rfl) ?_
  refine lv_bipush (v := nI 50) hx hb d_X_init_106 (by decide) ?_
  refine va_newa (atype := .int) (ty := .int) (N' := 50) (a0 := (50, .inl (colf S0.1 28))) hx hb (hts _ wd_40) rfl hK hP hD hS hA (fun cA => zr_c) (by decide) (by decide) (by decide) (Nat.le_of_ble_eq_true rfl) (Nat.le_of_ble_eq_true rfl) d_X_init_108 (fun q108 ca108 H hK hP hD hS => ?_)
  have hP : va_P (dC, dI) classes [(h0, .inr (0, [.ref q5, .ref q18, .ref q31, .ref q44, .ref q57, .ref q70, .ref q84, .ref q92, .ref q100, .null, .int 0, .int 0])), (q5, .inr (1, [.int (nI 60), .ref r11, .int 0])), (r11, .inl (ca11, 300, .inl (rowf S0.1 0))), (q18, .inr (1, [.int (nI 60), .ref r24, .int 0])), (r24, .inl (ca24, 300, .inl (rowf S0.1 5))), (q31, .inr (1, [.int (nI 80), .ref r37, .int 0])), (r37, .inl (ca37, 400, .inl (rowf S0.1 10))), (q44, .inr (1, [.int (nI 20), .ref r50, .int 0])), (r50, .inl (ca50, 100, .inl (rowf S0.1 15))), (q57, .inr (1, [.int (nI 80), .ref r63, .int 0])), (r63, .inl (ca63, 400, .inl (rowd S0.1 S0.2.2))), (q70, .inr (2, [.ref ra, .ref rb, .int 0])), (ra, .inl (cra, 10, .inl (colf S0.1 29))), (rb, .inl (crb, 10, .inl (colf S0.1 30))), (q84, .inl (ca84, 480, .inl (colf S0.1 25))), (q92, .inl (ca92, 80, .inl (colf S0.1 26))), (q100, .inl (ca100, 80, .inl (colf S0.1 27))), (q108, .inl (ca108, 50, .inl (colf S0.1 28)))] H := hP
  have hD : va_D A [(h0, .inr (0, [.ref q5, .ref q18, .ref q31, .ref q44, .ref q57, .ref q70, .ref q84, .ref q92, .ref q100, .null, .int 0, .int 0])), (q5, .inr (1, [.int (nI 60), .ref r11, .int 0])), (r11, .inl (ca11, 300, .inl (rowf S0.1 0))), (q18, .inr (1, [.int (nI 60), .ref r24, .int 0])), (r24, .inl (ca24, 300, .inl (rowf S0.1 5))), (q31, .inr (1, [.int (nI 80), .ref r37, .int 0])), (r37, .inl (ca37, 400, .inl (rowf S0.1 10))), (q44, .inr (1, [.int (nI 20), .ref r50, .int 0])), (r50, .inl (ca50, 100, .inl (rowf S0.1 15))), (q57, .inr (1, [.int (nI 80), .ref r63, .int 0])), (r63, .inl (ca63, 400, .inl (rowd S0.1 S0.2.2))), (q70, .inr (2, [.ref ra, .ref rb, .int 0])), (ra, .inl (cra, 10, .inl (colf S0.1 29))), (rb, .inl (crb, 10, .inl (colf S0.1 30))), (q84, .inl (ca84, 480, .inl (colf S0.1 25))), (q92, .inl (ca92, 80, .inl (colf S0.1 26))), (q100, .inl (ca100, 80, .inl (colf S0.1 27))), (q108, .inl (ca108, 50, .inl (colf S0.1 28)))] := hD
  have hK : va_K (dC, dI) classes [(ca11, .int), (ca24, .int), (ca37, .int), (ca50, .int), (ca63, .int), (cra, .int), (crb, .int), (ca84, .int), (ca92, .int), (ca100, .int), (ca108, .int)] s := hK
  refine W.widen (k := 17) (n := 2228) (Nat.le_of_ble_eq_true rfl) (Nat.le_of_ble_eq_true rfl) ?_
  refine va_putF (D := (dC, dI)) (ci := 0) (v := .ref q108) (ty := .array .int) (C := R_X) (T := F_X) (N := 12) hx hb hts i_X ty_X ty_X_ok n_X hown hK hP hD hS 0 rfl rfl 9 (by decide) (hts _ wd_66) (fun _ h9 => h9) rfl hin rfl (by decide +kernel) rfl rfl (Nat.le_of_ble_eq_true rfl) d_X_init_110 (fun H locs hP hD hS => ?_)
  have hP : va_P (dC, dI) classes [(h0, .inr (0, [.ref q5, .ref q18, .ref q31, .ref q44, .ref q57, .ref q70, .ref q84, .ref q92, .ref q100, .ref q108, .int 0, .int 0])), (q5, .inr (1, [.int (nI 60), .ref r11, .int 0])), (r11, .inl (ca11, 300, .inl (rowf S0.1 0))), (q18, .inr (1, [.int (nI 60), .ref r24, .int 0])), (r24, .inl (ca24, 300, .inl (rowf S0.1 5))), (q31, .inr (1, [.int (nI 80), .ref r37, .int 0])), (r37, .inl (ca37, 400, .inl (rowf S0.1 10))), (q44, .inr (1, [.int (nI 20), .ref r50, .int 0])), (r50, .inl (ca50, 100, .inl (rowf S0.1 15))), (q57, .inr (1, [.int (nI 80), .ref r63, .int 0])), (r63, .inl (ca63, 400, .inl (rowd S0.1 S0.2.2))), (q70, .inr (2, [.ref ra, .ref rb, .int 0])), (ra, .inl (cra, 10, .inl (colf S0.1 29))), (rb, .inl (crb, 10, .inl (colf S0.1 30))), (q84, .inl (ca84, 480, .inl (colf S0.1 25))), (q92, .inl (ca92, 80, .inl (colf S0.1 26))), (q100, .inl (ca100, 80, .inl (colf S0.1 27))), (q108, .inl (ca108, 50, .inl (colf S0.1 28)))] H := hP
  have hD : va_D A [(h0, .inr (0, [.ref q5, .ref q18, .ref q31, .ref q44, .ref q57, .ref q70, .ref q84, .ref q92, .ref q100, .ref q108, .int 0, .int 0])), (q5, .inr (1, [.int (nI 60), .ref r11, .int 0])), (r11, .inl (ca11, 300, .inl (rowf S0.1 0))), (q18, .inr (1, [.int (nI 60), .ref r24, .int 0])), (r24, .inl (ca24, 300, .inl (rowf S0.1 5))), (q31, .inr (1, [.int (nI 80), .ref r37, .int 0])), (r37, .inl (ca37, 400, .inl (rowf S0.1 10))), (q44, .inr (1, [.int (nI 20), .ref r50, .int 0])), (r50, .inl (ca50, 100, .inl (rowf S0.1 15))), (q57, .inr (1, [.int (nI 80), .ref r63, .int 0])), (r63, .inl (ca63, 400, .inl (rowd S0.1 S0.2.2))), (q70, .inr (2, [.ref ra, .ref rb, .int 0])), (ra, .inl (cra, 10, .inl (colf S0.1 29))), (rb, .inl (crb, 10, .inl (colf S0.1 30))), (q84, .inl (ca84, 480, .inl (colf S0.1 25))), (q92, .inl (ca92, 80, .inl (colf S0.1 26))), (q100, .inl (ca100, 80, .inl (colf S0.1 27))), (q108, .inl (ca108, 50, .inl (colf S0.1 28)))] := hD
  have hK : va_K (dC, dI) classes [(ca11, .int), (ca24, .int), (ca37, .int), (ca50, .int), (ca63, .int), (cra, .int), (crb, .int), (ca84, .int), (ca92, .int), (ca100, .int), (ca108, .int)] s := hK
  obtain rfl := K_one hK 1 0 rfl rfl
  obtain rfl := K_one hK 2 0 rfl rfl
  obtain rfl := K_one hK 3 0 rfl rfl
  obtain rfl := K_one hK 4 0 rfl rfl
  obtain rfl := K_one hK 5 0 rfl rfl
  obtain rfl := K_one hK 6 0 rfl rfl
  obtain rfl := K_one hK 7 0 rfl rfl
  obtain rfl := K_one hK 8 0 rfl rfl
  obtain rfl := K_one hK 9 0 rfl rfl
  obtain rfl := K_one hK 10 0 rfl rfl
  have hK9 := hK.sub (tys' := [(ca108, .int)]) [0] rfl
  have hP9 := hP.sub (ws' := wX (fun k => [h0, q5, q18, q31, q44, q57, q70, q84, q92, q100, q108, r11, r24, r37, r50, r63, ra, rb].getD k 0) ca108 S0) [0, 1, 3, 5, 7, 9, 11, 14, 15, 16, 17, 2, 4, 6, 8, 10, 12, 13] rfl
  have hD9 := hD.sub (ws' := wX (fun k => [h0, q5, q18, q31, q44, q57, q70, q84, q92, q100, q108, r11, r24, r37, r50, r63, ra, rb].getD k 0) ca108 S0) [0, 1, 3, 5, 7, 9, 11, 14, 15, 16, 17, 2, 4, 6, 8, 10, 12, 13] (by decide) rfl
  exact W.vret hx hb hr (fun t ht hW => ⟨⟨(fun k => [h0, q5, q18, q31, q44, q57, q70, q84, q92, q100, q108, r11, r24, r37, r50, r63, ra, rb].getD k 0, ca108), rfl, trivial, rfl, by rw [ht]; exact hP9, va_K.moved hW.alike hK9, hD9⟩, hS.F ht⟩) hS.2.2 d_X_init_113
end
