def R_law : String := "StockRows2Law"
def lw_P (b : Addr) (xs : List Int32) (args : Array Value) (s : State) : Prop := args = #[.ref b] ∧ s.IntsAt b xs ∧ xs.length ≤ 3072 ∧ (Jvm.Cond.and given_1 narrow_1).before args s = true
def lw_Q (_ : Array Value) (s : State) (o : Outcome) (t : State) : Prop := o = .returned (some (.int 1)) ∧ Framed s o t [] 601024 7293034
def lw_Z (below : List Frame) (a : Array Value) (s : State) : State → Prop := fun t => ∃ o, t.status = .running ∧ Ended t below o ∧ lw_Q a s o t
/-- the law's own end, with 1 on the stack, nothing written that was there before, its room as the claim has it -/
theorem lw_ret {p : Program} {l : Launch} {e : Env} {s : State} {m : MethodId} {below : List Frame} {meth : Method} {c : Code} {b : Nat} (hx : p.tables.exec = Jvm.exec) (hb : c.code = code) (hr : meth.sig.returnType = ret) (hlocks : meth.locks = false) {pc : Nat} {H : Heap} {ls : Array Slot} (hdg : decode code pc = .ok (.ireturn, 1)) : W p l e room_1 s m #[Value.ref b] below meth c H [] 601024 7293034 (lw_Z below #[Value.ref b] s) (F0 m pc ls [.int 1]) := by
  intro T hT X
  obtain ⟨fs, hret, hrun, hended, hW, hframe⟩ := X.leave (v := some (.int 1)) (hlocks := hlocks) (fun h => by rw [hr] at h; cases h)
  have hmeth' : T.vm.method? m = some meth := X.method'
  refine ⟨T.setFrames fs, ?_, .returned (some (.int 1)), hrun, hended, rfl, ⟨_, rfl⟩, hW, hframe⟩
  jvm_step X.here [X.here.top, hx, hb, hdg, hmeth', hr, ret, narrow_b1]
  (try refine ⟨rfl, ?_⟩); (try refine ⟨rfl, ?_⟩)
  first | (intro acts; rw [hret _ acts rfl rfl rfl]) | rw [hret _ _ rfl rfl rfl]
  exact Steps.refl _
/-- what holds at the law's entry: the machine, the code, the tables' words (any of lw_tbl by 'hts w (by decide +kernel)'), the script of L ints xs at the cell b, what the Statement gives of the start (any of its parts by flat_of_before) -/
def lw_At (p : Program) (s : State) (m : MethodId) (meth : Method) (c : Code) (b L : Nat) (xs : Nat → Int32) : Prop :=
  p.tables.exec = Jvm.exec ∧ c.code = code ∧ meth.sig.returnType = ret ∧ c.maxLocals = 7 ∧ s.vm.findClass R_law = some m.cls ∧ (∀ w ∈ lw_tbl, w.before #[Value.ref b] s = true) ∧ va_X b L xs s s.heap ∧ b < s.heap.size ∧ meth.locks = false ∧ (Jvm.Cond.and given_1 narrow_1).before #[Value.ref b] s = true
/-! THE LAW: what stands at its loop's head, and rows for its cases. -/
def lA (s : State) : Nat → Prop := fun q => s.heap.size ≤ q
def lC (p : Program) (l : Launch) (s : State) (m : MethodId) (meth : Method) (c : Code) (b L : Nat) (xs : Nat → Int32) (dC : Nat → ClassId) (dI : Nat → Nat → Nat) (cI cZ cJ : ClassId) : Prop :=
  lw_At p s m meth c b L xs ∧ l.stackTraces = false ∧ va_K (dC, dI) classes [(cI, .int), (cZ, .boolean), (cJ, .long)] s ∧ gG (lA s) s s.heap ∧ nC s ∧ L ≤ 3072
abbrev lW (q r : Nat → Nat) (qo : Nat) (cI cZ cJ : ClassId) (S : St) (th : Int32) (f : Nat → Int64) : va_W := (wX q cI S ++ [oC qo cJ f]) ++ wM r cI cZ S th
abbrev lV (b : Nat) (q r : Nat → Nat) (qo t : Nat) : List (Nat × Value) := [(0, .ref b), (1, .ref (q 0)), (2, .ref (r 0)), (3, .ref qo), (4, .int (nI (6 * t)))]
def lG (s : State) (dC : Nat → ClassId) (dI : Nat → Nat → Nat) (cI cZ cJ : ClassId) (b : Nat) (q r : Nat → Nat) (qo t u : Nat) (S : St) (th : Int32) (f : Nat → Int64) (H : Heap) (locs : List Loc) (ls : Array Slot) : Prop :=
  Iv u S ∧ va_P (dC, dI) classes (lW q r qo cI cZ cJ S th f) H ∧ va_D (lA s) (lW q r qo cI cZ cJ S th f) ∧ va_S (lA s) s.heap H locs ∧ lv_has ls 7 (lV b q r qo t)
def lK (p : Program) (l : Launch) (e : Env) (s : State) (m : MethodId) (below : List Frame) (meth : Method) (c : Code) (dC : Nat → ClassId) (dI : Nat → Nat → Nat) (cI cZ cJ : ClassId) (b : Nat) (q r : Nat → Nat) (qo t cells slots : Nat) : Prop :=
  ∀ (S : St) (th : Int32) (f : Nat → Int64) (H : Heap) (locs : List Loc) (ls : Array Slot), lG s dC dI cI cZ cJ b q r qo t (t + 1) S th f H locs ls → W p l e room_1 s m #[Value.ref b] below meth c H locs cells slots (lw_Z below #[Value.ref b] s) (F0 m 1768 ls [])
theorem bg_of {av : Array Value} {s : State} (h : ∀ w ∈ lw_tbl, w.before av s = true) : ∀ w ∈ bg, w.before av s = true := fun w hw => h w (List.mem_filter.mp hw).1
theorem gG_H {A : Nat → Prop} {s : State} {H H1 : Heap} (h : gG A s H) (hk : ∀ a : Nat, a < H.size → ¬ A a → H1[a]? = H[a]?) : gG A s H1 := ⟨h.1.kept hk, h.2.1.kept hk, h.2.2⟩
theorem z_of {n : Nat} (hn : n < 2 ^ 31) (h : nI n = 0) : n = 0 := (nI_eq hn (by decide)).mp (h.trans nI_0.symm)
theorem gi_SW {own : String} {idx : Nat} {y : MethodName} {c : Cond} (h1 : Cond.methodLink own idx y ∈ bg) (h2 : Cond.static y ∈ bg) (h3 : Cond.initialized y.cls ∈ bg) (h5 : c ∈ bg) : GoodIn bg (va_wsS own idx y (c :: bg)) :=
  gi_bg (fun w hw => by
    unfold va_wsS at hw
    rcases List.mem_append.mp hw with hw | hw
    · simp only [List.mem_cons, List.not_mem_nil, or_false] at hw
      rcases hw with rfl | rfl | rfl
      · exact h1
      · exact h2
      · exact h3
    · rcases List.mem_cons.mp hw with rfl | hw
      · exact h5
      · exact hw)
section LK
variable {p : Program} {l : Launch} {e : Env} {R : Room} {s : State} {m : MethodId} {args : Array Value} {below : List Frame} {meth : Method} {c : Code} {H : Heap} {locs : List Loc} {cells slots : Nat} {Q : State → Prop}
variable {cc : ByteArray} {pc : Nat} {ls : Array Slot} {rest st0 As : List Value} {a : Array Value} {D : va_G} {cl : List vw_C} {tys : List (ClassId × FieldType)} {ws wc wc' wr : va_W} {A A0 : Nat → Prop} {H0 : Heap}
theorem P_swap (h : va_P D cl (wc ++ wr) H) : va_P D cl (wr ++ wc) H := P_app (P_r h) (P_l h)
theorem D_swap (h : va_D A (wc ++ wr)) : va_D A (wr ++ wc) :=
  va_D.app (D_r h) (D_l h) (fun i j x y hx hy hxy => D_x h hy hx hxy.symm)
theorem P_v {o : va_W} (h : va_P D cl ((wc ++ o) ++ wr) H) : va_P D cl ((wc ++ []) ++ (o ++ wr)) H := by rw [List.append_nil, ← List.append_assoc]; exact h
theorem D_v {o : va_W} (h : va_D A ((wc ++ o) ++ wr)) : va_D A ((wc ++ []) ++ (o ++ wr)) := by rw [List.append_nil, ← List.append_assoc]; exact h
theorem P_u {o : va_W} (h : va_P D cl ((wc ++ []) ++ (o ++ wr)) H) : va_P D cl ((wc ++ o) ++ wr) H := by rw [List.append_nil, ← List.append_assoc] at h; exact h
theorem D_u {o : va_W} (h : va_D A ((wc ++ []) ++ (o ++ wr))) : va_D A ((wc ++ o) ++ wr) := by rw [List.append_nil, ← List.append_assoc] at h; exact h
theorem wl_preS (hK : va_K D cl tys s) (hP : va_P D cl ws H) (hD : va_D A ws) (hG : gG A0 s H) (hN : nC s) : PreS s H (wl_P D cl tys A0 ws H.size As) As :=
  ⟨wl_blind, fun U hU hW => ⟨rfl, by rw [hU], by rw [hU]; exact hP, va_K.moved hW.alike hK, hD.weaken (fun _ _ _ _ => trivial), gG_at hG hU hW, nC_moved hW.alike hN⟩⟩
theorem lw_go {v : Option Value} {mc ms : Nat} (hr : va_Run p l e R s m args below meth c H locs cells slots mc ms (F0 m pc ls st0) rest (wr_Q v D cl wc' (va_A wc H.size) a) (va_A wc H.size)) (hP : va_P D cl (wc ++ wr) H) (hD : va_D A (wc ++ wr)) (hS : va_S A H0 H locs) (hA : ∀ q : Nat, H0.size ≤ q → A q) (hadr : wc'.map Prod.fst = wc.map Prod.fst)
    (k : ∀ (H1 : Heap) (locs1 : List Loc), va_P D cl (wc' ++ wr) H1 → va_D A (wc' ++ wr) → va_S A H0 H1 locs1 → W p l e R s m args below meth c H1 locs1 (cells + mc) (slots + ms) Q (F0 m (pc + 3) ls (v.toList ++ rest))) :
    W p l e R s m args below meth c H locs cells slots Q (F0 m pc ls st0) := by
  intro T hT X
  have hfree := A_free hD hS hA
  obtain ⟨w, st₀, t, T', L, h0, X', hL, e1, e2, ⟨hv, hP1, hz, hk⟩, st⟩ := hr T hT X
  obtain rfl : w = v := Outcome.returned.inj hv
  rw [h0] at hz hk
  obtain ⟨t2, a1, b1⟩ := k t.heap (locs ++ L) (P_app hP1 (P_kept hD (P_r hP) hk)) (D_sw hD hadr)
    ⟨Nat.le_trans hS.1 hz, fun q h1 h2 => by rw [hk q (Nat.lt_of_lt_of_le h1 hS.1) (fun z => h2 (hfree q z))]; exact hS.2.1 q h1 h2, fun q hq => by
      rcases List.mem_append.mp hq with h | h
      · exact hS.2.2 q h
      · exact hfree _ (hL q h)⟩ T' e1 X'
  exact ⟨t2, st t2 a1, b1⟩
theorem nv_sld (hexec : p.tables.exec = Jvm.exec) (hb : c.code = cc) {b L : Nat} {xs : Nat → Int32} (hX : va_X b L xs s s.heap) (hbl : b < s.heap.size) (hS : va_S (lA s) s.heap H locs) {i : Nat} (hi : i < L) (hL : L ≤ 3072) (hdg : decode cc pc = .ok (.iaload, 1))
    (k : W p l e R s m args below meth c H locs cells slots Q (F0 m (pc + 1) ls (.int (xs i) :: rest))) : W p l e R s m args below meth c H locs cells slots Q (F0 m pc ls (.int (nI i) :: .ref b :: rest)) :=
  va_sld hexec hb hX hbl (Nat.not_le.mpr hbl) hS (vp_in_nI hi (by omega)) hdg (by rw [nI_clamp (by omega)]; exact k)
theorem lw_out {o : Op} {f : Nat → Int64} {qo : Nat} {cJ : ClassId} (hexec : p.tables.exec = Jvm.exec) (hb : c.code = cc) (hK : va_K D cl [(cJ, .long)] s) (hP : va_P D cl [oC qo cJ (ov o f)] H) (h0 : o.1 = 0) (hdg : decode cc pc = .ok (.laload, 1))
    (k : W p l e R s m args below meth c H locs cells slots Q (F0 m (pc + 1) ls (.long o.2.1.toInt64 :: rest))) : W p l e R s m args below meth c H locs cells slots Q (F0 m pc ls (.int (nI 0) :: .ref qo :: rest)) := by
  refine va_lald hexec hb hK hP 0 0 rfl rfl (vp_in_nI (n := 0) (N := 1) (by decide) (by decide)) hdg ?_
  rw [nI_clamp (by decide), ov_y h0, show vp_updL f 0 o.2.1.toInt64 0 = o.2.1.toInt64 by simp [vp_updL]]
  exact k
theorem lw_cmp {x y : Int64} (hexec : p.tables.exec = Jvm.exec) (hb : c.code = cc) (h : x = y) (hdg : decode cc pc = .ok (.lcmp, 1))
    (k : W p l e R s m args below meth c H locs cells slots Q (F0 m (pc + 1) ls (.int 0 :: rest))) : W p l e R s m args below meth c H locs cells slots Q (F0 m pc ls (.long y :: .long x :: rest)) :=
  W.lcmp hexec hb hdg (by rw [(lg_cmp_eq x y).mpr h]; exact k)
end LK
theorem xo_adr {q : Nat → Nat} {cI cJ : ClassId} {qo : Nat} {S S' : St} {f f' : Nat → Int64} : (wX q cI S' ++ [oC qo cJ f']).map Prod.fst = (wX q cI S ++ [oC qo cJ f]).map Prod.fst := rfl
theorem xv_adr {q : Nat → Nat} {cI : ClassId} {S S' : St} : (wX q cI S' ++ []).map Prod.fst = (wX q cI S ++ []).map Prod.fst := rfl
theorem lt_store {S : St} : (op_store S ).1 < 2 ^ 31 := by
  unfold op_store
  repeat' split
  all_goals exact Nat.le_of_ble_eq_true rfl
theorem lt_lot {S : St} {x y : Int32} : (op_lot S x y).1 < 2 ^ 31 := by
  unfold op_lot
  repeat' split
  all_goals exact Nat.le_of_ble_eq_true rfl
theorem lt_bring {S : St} {x y n : Int32} : (op_bring S x y n).1 < 2 ^ 31 := by
  unfold op_bring
  repeat' split
  all_goals exact Nat.le_of_ble_eq_true rfl
theorem lt_move {S : St} {x y w n d : Int32} : (op_move S x y w n d).1 < 2 ^ 31 := by
  unfold op_move
  repeat' split
  all_goals exact Nat.le_of_ble_eq_true rfl
theorem lt_use {S : St} {x y n : Int32} : (op_use S x y n).1 < 2 ^ 31 := by
  unfold op_use
  repeat' split
  all_goals exact Nat.le_of_ble_eq_true rfl
theorem lt_sum {S : St} {x y w : Int32} : (op_sum S x y w).1 < 2 ^ 31 := by
  unfold op_sum
  repeat' split
  all_goals exact Nat.le_of_ble_eq_true rfl
theorem lt_has {S : St} {x y : Int32} : (op_has S x y).1 < 2 ^ 31 := by
  unfold op_has
  repeat' split
  all_goals exact Nat.le_of_ble_eq_true rfl
theorem lt_level {S : St} {x y a b : Int32} : (op_level S x y a b).1 < 2 ^ 31 := by
  unfold op_level
  repeat' split
  all_goals exact Nat.le_of_ble_eq_true rfl
theorem lt_order {S : St} {x y : Int32} : (op_order S x y).1 < 2 ^ 31 := by
  unfold op_order
  repeat' split
  all_goals exact Nat.le_of_ble_eq_true rfl
theorem lt_deliver {S : St} {x y : Int32} : (op_deliver S x y).1 < 2 ^ 31 := by
  unfold op_deliver
  repeat' split
  all_goals exact Nat.le_of_ble_eq_true rfl
theorem lt_emergency {S : St} {x y n w : Int32} : (op_emergency S x y n w).1 < 2 ^ 31 := by
  unfold op_emergency
  repeat' split
  all_goals exact Nat.le_of_ble_eq_true rfl
theorem lt_second {S : St} {x y : Int32} : (op_second S x y).1 < 2 ^ 31 := by
  unfold op_second
  repeat' split
  all_goals exact Nat.le_of_ble_eq_true rfl
theorem lt_count {S : St} {x y n w : Int32} : (op_count S x y n w).1 < 2 ^ 31 := by
  unfold op_count
  repeat' split
  all_goals exact Nat.le_of_ble_eq_true rfl
theorem lt_difference {S : St} {x y : Int32} : (op_difference S x y).1 < 2 ^ 31 := by
  unfold op_difference
  repeat' split
  all_goals exact Nat.le_of_ble_eq_true rfl
theorem lt_kit {S : St} {x y n : Int32} : (op_kit S x y n).1 < 2 ^ 31 := by
  unfold op_kit
  repeat' split
  all_goals exact Nat.le_of_ble_eq_true rfl
theorem lt_give {S : St} {x y : Int32} : (op_give S x y).1 < 2 ^ 31 := by
  unfold op_give
  repeat' split
  all_goals exact Nat.le_of_ble_eq_true rfl
theorem lt_back {S : St} {x y n : Int32} : (op_back S x y n).1 < 2 ^ 31 := by
  unfold op_back
  repeat' split
  all_goals exact Nat.le_of_ble_eq_true rfl
theorem lt_waste {S : St} {x y n w : Int32} : (op_waste S x y n w).1 < 2 ^ 31 := by
  unfold op_waste
  repeat' split
  all_goals exact Nat.le_of_ble_eq_true rfl
theorem lt_lotAt {S : St} {x y : Int32} : (op_lotAt S x y).1 < 2 ^ 31 := by
  unfold op_lotAt
  repeat' split
  all_goals exact Nat.le_of_ble_eq_true rfl
theorem lt_row {S : St} {x y : Int32} : (op_row S x y).1 < 2 ^ 31 := by
  unfold op_row
  repeat' split
  all_goals exact Nat.le_of_ble_eq_true rfl
theorem lt_dip {S : St} {x : Int32} : (op_dip S x).1 < 2 ^ 31 := by
  unfold op_dip
  repeat' split
  all_goals exact Nat.le_of_ble_eq_true rfl
theorem lt_tick {S : St} {x : Int32} : (op_tick S x).1 < 2 ^ 31 := by
  unfold op_tick
  repeat' split
  all_goals exact Nat.le_of_ble_eq_true rfl
theorem Iv_sum {t : Nat} {S : St} {x y w : Int32} (h : Iv t S) : Iv t (op_sum S x y w).2.2 := by
  unfold op_sum
  repeat' split
  all_goals exact h
theorem Iv_has {t : Nat} {S : St} {x y : Int32} (h : Iv t S) : Iv t (op_has S x y).2.2 := by
  unfold op_has
  repeat' split
  all_goals exact h
theorem Iv_order {t : Nat} {S : St} {x y : Int32} (h : Iv t S) : Iv t (op_order S x y).2.2 := by
  unfold op_order
  repeat' split
  all_goals exact h
theorem Iv_difference {t : Nat} {S : St} {x y : Int32} (h : Iv t S) : Iv t (op_difference S x y).2.2 := by
  unfold op_difference
  repeat' split
  all_goals exact h
theorem Iv_lotAt {t : Nat} {S : St} {x y : Int32} (h : Iv t S) : Iv t (op_lotAt S x y).2.2 := by
  unfold op_lotAt
  repeat' split
  all_goals exact h
theorem Iv_dip {t : Nat} {S : St} {x : Int32} (h : Iv t S) : Iv t (op_dip S x).2.2 := by
  unfold op_dip
  repeat' split
  all_goals exact h
