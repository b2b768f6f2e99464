/-! THE LAW'S OWN METHODS: each calls the class, keeps the answer in the cell, and names the exception by a number. -/
abbrev exl : List String := [E_ia, E_io, E_is, E_uo]
def nC (U : State) : Prop := ∀ E ∈ exl, ∀ T ∈ exl, E ≠ T → va_Nc E T U
def wl_P (D : va_G) (cl : List vw_C) (tys : List (ClassId × FieldType)) (A0 : Nat → Prop) (ws : va_W) (sz : Nat) (av : List Value) : Array Value → State → Prop := va_Pc av (fun U => U.heap.size = sz ∧ va_P D cl ws U.heap ∧ va_K D cl tys U ∧ va_D (fun _ => True) ws ∧ gG A0 U U.heap ∧ nC U)
theorem nC_moved {u U : State} (hvm : u.vm.Alike U.vm) (h : nC u) : nC U := fun E hE T hT hn => va_Nc.moved hvm (h E hE T hT hn)
theorem wl_blind {D : va_G} {cl : List vw_C} {ws : va_W} {tys : List (ClassId × FieldType)} {A0 : Nat → Prop} {sz : Nat} {av : List Value} : FrameBlind (wl_P D cl tys A0 ws sz av) := fun a U g mk q => by
  obtain ⟨q0, qz, qP, qK, qD, qG, qN⟩ := q
  exact ⟨q0, qz, qP, va_K.moved (u := U) (U := U.calling g mk a) (Vm.Alike.refl U.vm) qK, qD, gG_call qG, nC_moved (u := U) (U := U.calling g mk a) (Vm.Alike.refl U.vm) qN⟩
def oC (qo : Nat) (cJ : ClassId) (f : Nat → Int64) : Nat × va_E := (qo, .inl (cJ, 1, .inr (.inl f)))
def ov (o : Op) (f : Nat → Int64) : Nat → Int64 := if o.1 = 0 then vp_updL f 0 o.2.1.toInt64 else f
theorem ov_y {o : Op} {f : Nat → Int64} (h : o.1 = 0) : ov o f = vp_updL f 0 o.2.1.toInt64 := if_pos h
theorem ov_n {o : Op} {f : Nat → Int64} (h : 0 < o.1) : ov o f = f := if_neg (Nat.ne_of_gt h)
theorem ex_lt {o : Op} {exs : List String} {E : String} (h : exs[o.1 - 1]? = some E) (h0 : 0 < o.1) : o.1 ≤ exs.length := by
  have := (List.getElem?_eq_some_iff.mp h).1
  omega
section XO
variable {p : Program} {l : Launch} {e : Env} {R : Room} {s : State} {m : MethodId} {args : Array Value} {below : List Frame} {meth : Method} {c : Code} {H : Heap} {locs : List Loc} {cells slots : Nat} {Q : State → Prop}
variable {pc : Nat} {ls : Array Slot} {rest st0 As : List Value} {a : Array Value} {D : va_G} {cl : List vw_C} {tys : List (ClassId × FieldType)} {ws wc wc' : va_W} {b : Nat} {A A0 : Nat → Prop} {H0 : Heap}
theorem xo_preV {ci q0 : Nat} {q : vw_C} {fs : List Value} (hK : va_K D cl tys s) (hP : va_P D cl ws H) (hD : va_D A ws) (hG : gG A0 s H) (hc : cl[ci]? = some q) (he : ws[q0]? = some (b, .inr (ci, fs))) : PreV s H q.1 b (xo_P D cl tys A0 ws H.size (.ref b :: As)) As :=
  ⟨xo_blind, va_recv hK hP hc he, fun U hU hW => ⟨rfl, by rw [hU], by rw [hU]; exact hP, va_K.moved hW.alike hK, hD.weaken (fun _ _ _ _ => trivial), gG_at hG hU hW⟩⟩
theorem P_l {wr : va_W} (h : va_P D cl (wc ++ wr) H) : va_P D cl wc H := fun k x hx => h k x (by rw [List.getElem?_append_left (List.getElem?_eq_some_iff.mp hx).1]; exact hx)
theorem P_r {wr : va_W} (h : va_P D cl (wc ++ wr) H) : va_P D cl wr H := fun k x hx => h (wc.length + k) x (by rw [List.getElem?_append_right (Nat.le_add_right _ _), Nat.add_sub_cancel_left]; exact hx)
theorem P_app {wr : va_W} (h : va_P D cl wc H) (h2 : va_P D cl wr H) : va_P D cl (wc ++ wr) H := fun k x hx => by
  rcases Nat.lt_or_ge k wc.length with hk | hk
  · rw [List.getElem?_append_left hk] at hx; exact h k x hx
  · rw [List.getElem?_append_right hk] at hx; exact h2 _ x hx
theorem D_l {wr : va_W} (h : va_D A (wc ++ wr)) : va_D A wc :=
  ⟨fun i j p q hp hq e => h.1 i j p q (by rw [List.getElem?_append_left (List.getElem?_eq_some_iff.mp hp).1]; exact hp) (by rw [List.getElem?_append_left (List.getElem?_eq_some_iff.mp hq).1]; exact hq) e,
   fun k q hq => h.2 k q (by rw [List.getElem?_append_left (List.getElem?_eq_some_iff.mp hq).1]; exact hq)⟩
theorem D_r {wr : va_W} (h : va_D A (wc ++ wr)) : va_D A wr :=
  ⟨fun i j p q hp hq e => Nat.add_left_cancel (h.1 (wc.length + i) (wc.length + j) p q (by rw [List.getElem?_append_right (Nat.le_add_right _ _), Nat.add_sub_cancel_left]; exact hp) (by rw [List.getElem?_append_right (Nat.le_add_right _ _), Nat.add_sub_cancel_left]; exact hq) e),
   fun k q hq => h.2 (wc.length + k) q (by rw [List.getElem?_append_right (Nat.le_add_right _ _), Nat.add_sub_cancel_left]; exact hq)⟩
theorem D_x {wr : va_W} (h : va_D A (wc ++ wr)) {i j : Nat} {x y : Nat × va_E} (hx : wc[i]? = some x) (hy : wr[j]? = some y) : x.1 ≠ y.1 := fun e => by
  have hi := (List.getElem?_eq_some_iff.mp hx).1
  have := h.1 i (wc.length + j) x y (by rw [List.getElem?_append_left hi]; exact hx) (by rw [List.getElem?_append_right (Nat.le_add_right _ _), Nat.add_sub_cancel_left]; exact hy) e
  omega
/-- the rest of a world stays as it was -/
theorem P_kept {wr : va_W} (h : va_D A (wc ++ wr)) (hP : va_P D cl wr H) {H1 : Heap} (hk : ∀ q : Nat, q < H.size → ¬ va_A wc H.size q → H1[q]? = H[q]?) : va_P D cl wr H1 := fun k x hx => (hP k x hx).kept (hk x.1 ((hP k x hx).lt) (fun z => by
  rcases z with ⟨i, e, hi⟩ | hge
  · exact D_x h hi hx rfl
  · exact absurd ((hP k x hx).lt) (Nat.not_lt.mpr hge)))
theorem A_free {wr : va_W} (h : va_D A (wc ++ wr)) (hS : va_S A H0 H locs) (hA : ∀ q : Nat, H0.size ≤ q → A q) : ∀ q, va_A wc H.size q → A q := fun q hq => by
  rcases hq with ⟨k, e, hk⟩ | hge
  · exact (D_l h).2 k (q, e) hk
  · exact hA q (Nat.le_trans hS.1 hge)
theorem D_sw {wr : va_W} (h : va_D A (wc ++ wr)) (e : wc'.map Prod.fst = wc.map Prod.fst) : va_D A (wc' ++ wr) := D_adr h (by rw [List.map_append, List.map_append, e])
theorem xo_go {o : Op} {rv : Option Value} {exs : List String} {mc ms : Nat} {wr : va_W} (hr : vx_Run p l e R s m args below meth c H locs cells slots mc ms (F0 m pc ls st0) rest (xo_Q o rv D cl wc' (va_A wc H.size) a) (xo_X o exs) (va_A wc H.size)) (hP : va_P D cl (wc ++ wr) H) (hD : va_D A (wc ++ wr)) (hS : va_S A H0 H locs) (hA : ∀ q : Nat, H0.size ≤ q → A q) (hadr : wc'.map Prod.fst = wc.map Prod.fst)
    (kx : 0 < o.1 → ∀ E, exs[o.1 - 1]? = some E → ∀ (ce : Cell) (q9 : Addr) (H1 : Heap) (locs1 : List Loc), va_P D cl (wc ++ wr) H1 → va_S A H0 H1 locs1 → H1[q9]? = some ce → ce.vm = .none → s.vm.findClass E = some ce.cls → vx_W p l e R s m args below meth c H1 locs1 (cells + mc) (slots + ms) Q (F0 m pc ls rest) q9)
    (k : o.1 = 0 → ∀ (H1 : Heap) (locs1 : List Loc), va_P D cl (wc' ++ wr) H1 → va_D A (wc' ++ wr) → va_S A H0 H1 locs1 → W p l e R s m args below meth c H1 locs1 (cells + mc) (slots + ms) Q (F0 m (pc + 3) ls (rv.toList ++ rest))) :
    W p l e R s m args below meth c H locs cells slots Q (F0 m pc ls st0) := by
  intro T hT X
  have hfree := A_free hD hS hA
  rcases hr T hT X with ⟨w, st₀, t, T', L, h0, X', hL, e1, e2, ⟨hz0, hv, hP1, hz, hk⟩, st⟩ | ⟨q, st₀, t, T', L, E', ce, h0, X', hL, e1, e2, ⟨hp, hE, h1, h2⟩, hce, hcv, hcl, st⟩
  · obtain rfl : w = rv := Outcome.returned.inj hv
    rw [h0] at hz hk
    obtain ⟨t2, a1, b1⟩ := k hz0 t.heap (locs ++ L) (P_app hP1 (P_kept hD (P_r hP) hk)) (D_sw hD hadr)
      ⟨Nat.le_trans hS.1 hz, fun q h1 h2 => by rw [hk q (Nat.lt_of_lt_of_le h1 hS.1) (fun z => h2 (hfree q z))]; exact hS.2.1 q h1 h2, fun q hq => by
        rcases List.mem_append.mp hq with h | h
        · exact hS.2.2 q h
        · exact hfree _ (hL q h)⟩ T' e1 X'
    exact ⟨t2, st t2 a1, b1⟩
  · rw [h0] at h1 h2
    obtain ⟨t2, a1, b1⟩ := kx hp E' hE ce q t.heap (locs ++ L) (fun k x hx => (hP k x hx).kept (h2 x.1 ((hP k x hx).lt)))
      ⟨Nat.le_trans hS.1 h1, fun z g1 g2 => by rw [h2 z (Nat.lt_of_lt_of_le g1 hS.1)]; exact hS.2.1 z g1 g2, fun z hz => by
        rcases List.mem_append.mp hz with h | h
        · exact hS.2.2 z h
        · exact hfree _ (hL z h)⟩ hce hcv hcl T' e1 X'
    exact ⟨t2, st.trans a1, b1⟩
end XO
section CP
variable {α : Type} {P Q : α → Prop} {a b d : α}
theorem cp_1 (h : Q a) : ∀ z ∈ [a], P z ∨ Q z := fun z hz => by
  rcases List.mem_cons.mp hz with rfl | hz
  · exact Or.inr h
  · cases hz
theorem cp_2 (h : Q a) (h2 : Q b) : ∀ z ∈ [a, b], P z ∨ Q z := fun z hz => by
  rcases List.mem_cons.mp hz with rfl | hz
  · exact Or.inr h
  · exact cp_1 h2 z hz
theorem cp_3 (h : Q a) (h2 : Q b) (h3 : Q d) : ∀ z ∈ [a, b, d], P z ∨ Q z := fun z hz => by
  rcases List.mem_cons.mp hz with rfl | hz
  · exact Or.inr h
  · exact cp_2 h2 h3 z hz
end CP
theorem cs_ia : Cond.castable E_ia E_ia ∈ tables_1 := (List.mem_append_left _ (List.mem_of_getElem? (i := 239) rfl))
theorem cs_io : Cond.castable E_io E_io ∈ tables_1 := (List.mem_append_right _ (List.mem_append_left _ (List.mem_of_getElem? (i := 18) rfl)))
theorem cs_is : Cond.castable E_is E_is ∈ tables_1 := (List.mem_append_right _ (List.mem_append_left _ (List.mem_of_getElem? (i := 84) rfl)))
theorem cs_uo : Cond.castable E_uo E_uo ∈ tables_1 := (List.mem_append_left _ (List.mem_of_getElem? (i := 158) rfl))
theorem st_store {S : St} : 0 < (op_store S ).1 → (op_store S ).2.2 = S := by
  unfold op_store
  repeat' split
  all_goals first | exact fun _ => rfl | exact fun h => absurd h (Nat.lt_irrefl 0)
theorem st_lot {S : St} {x y : Int32} : 0 < (op_lot S x y).1 → (op_lot S x y).2.2 = S := by
  unfold op_lot
  repeat' split
  all_goals first | exact fun _ => rfl | exact fun h => absurd h (Nat.lt_irrefl 0)
theorem st_bring {S : St} {x y n : Int32} : 0 < (op_bring S x y n).1 → (op_bring S x y n).2.2 = S := by
  unfold op_bring
  repeat' split
  all_goals first | exact fun _ => rfl | exact fun h => absurd h (Nat.lt_irrefl 0)
theorem st_move {S : St} {x y w n d : Int32} : 0 < (op_move S x y w n d).1 → (op_move S x y w n d).2.2 = S := by
  unfold op_move
  repeat' split
  all_goals first | exact fun _ => rfl | exact fun h => absurd h (Nat.lt_irrefl 0)
theorem st_use {S : St} {x y n : Int32} : 0 < (op_use S x y n).1 → (op_use S x y n).2.2 = S := by
  unfold op_use
  repeat' split
  all_goals first | exact fun _ => rfl | exact fun h => absurd h (Nat.lt_irrefl 0)
theorem st_sum {S : St} {x y w : Int32} : 0 < (op_sum S x y w).1 → (op_sum S x y w).2.2 = S := by
  unfold op_sum
  repeat' split
  all_goals first | exact fun _ => rfl | exact fun h => absurd h (Nat.lt_irrefl 0)
theorem st_has {S : St} {x y : Int32} : 0 < (op_has S x y).1 → (op_has S x y).2.2 = S := by
  unfold op_has
  repeat' split
  all_goals first | exact fun _ => rfl | exact fun h => absurd h (Nat.lt_irrefl 0)
theorem st_level {S : St} {x y a b : Int32} : 0 < (op_level S x y a b).1 → (op_level S x y a b).2.2 = S := by
  unfold op_level
  repeat' split
  all_goals first | exact fun _ => rfl | exact fun h => absurd h (Nat.lt_irrefl 0)
theorem st_order {S : St} {x y : Int32} : 0 < (op_order S x y).1 → (op_order S x y).2.2 = S := by
  unfold op_order
  repeat' split
  all_goals first | exact fun _ => rfl | exact fun h => absurd h (Nat.lt_irrefl 0)
theorem st_deliver {S : St} {x y : Int32} : 0 < (op_deliver S x y).1 → (op_deliver S x y).2.2 = S := by
  unfold op_deliver
  repeat' split
  all_goals first | exact fun _ => rfl | exact fun h => absurd h (Nat.lt_irrefl 0)
theorem st_emergency {S : St} {x y n w : Int32} : 0 < (op_emergency S x y n w).1 → (op_emergency S x y n w).2.2 = S := by
  unfold op_emergency
  repeat' split
  all_goals first | exact fun _ => rfl | exact fun h => absurd h (Nat.lt_irrefl 0)
theorem st_second {S : St} {x y : Int32} : 0 < (op_second S x y).1 → (op_second S x y).2.2 = S := by
  unfold op_second
  repeat' split
  all_goals first | exact fun _ => rfl | exact fun h => absurd h (Nat.lt_irrefl 0)
theorem st_count {S : St} {x y n w : Int32} : 0 < (op_count S x y n w).1 → (op_count S x y n w).2.2 = S := by
  unfold op_count
  repeat' split
  all_goals first | exact fun _ => rfl | exact fun h => absurd h (Nat.lt_irrefl 0)
theorem st_difference {S : St} {x y : Int32} : 0 < (op_difference S x y).1 → (op_difference S x y).2.2 = S := by
  unfold op_difference
  repeat' split
  all_goals first | exact fun _ => rfl | exact fun h => absurd h (Nat.lt_irrefl 0)
theorem st_kit {S : St} {x y n : Int32} : 0 < (op_kit S x y n).1 → (op_kit S x y n).2.2 = S := by
  unfold op_kit
  repeat' split
  all_goals first | exact fun _ => rfl | exact fun h => absurd h (Nat.lt_irrefl 0)
theorem st_give {S : St} {x y : Int32} : 0 < (op_give S x y).1 → (op_give S x y).2.2 = S := by
  unfold op_give
  repeat' split
  all_goals first | exact fun _ => rfl | exact fun h => absurd h (Nat.lt_irrefl 0)
theorem st_back {S : St} {x y n : Int32} : 0 < (op_back S x y n).1 → (op_back S x y n).2.2 = S := by
  unfold op_back
  repeat' split
  all_goals first | exact fun _ => rfl | exact fun h => absurd h (Nat.lt_irrefl 0)
theorem st_waste {S : St} {x y n w : Int32} : 0 < (op_waste S x y n w).1 → (op_waste S x y n w).2.2 = S := by
  unfold op_waste
  repeat' split
  all_goals first | exact fun _ => rfl | exact fun h => absurd h (Nat.lt_irrefl 0)
theorem st_lotAt {S : St} {x y : Int32} : 0 < (op_lotAt S x y).1 → (op_lotAt S x y).2.2 = S := by
  unfold op_lotAt
  repeat' split
  all_goals first | exact fun _ => rfl | exact fun h => absurd h (Nat.lt_irrefl 0)
theorem st_row {S : St} {x y : Int32} : 0 < (op_row S x y).1 → (op_row S x y).2.2 = S := by
  unfold op_row
  repeat' split
  all_goals first | exact fun _ => rfl | exact fun h => absurd h (Nat.lt_irrefl 0)
theorem st_dip {S : St} {x : Int32} : 0 < (op_dip S x).1 → (op_dip S x).2.2 = S := by
  unfold op_dip
  repeat' split
  all_goals first | exact fun _ => rfl | exact fun h => absurd h (Nat.lt_irrefl 0)
theorem st_tick {S : St} {x : Int32} : 0 < (op_tick S x).1 → (op_tick S x).2.2 = S := by
  unfold op_tick
  repeat' split
  all_goals first | exact fun _ => rfl | exact fun h => absurd h (Nat.lt_irrefl 0)
theorem bk01 {S : St} {x y n : Int32} : (op_back S x y n).2.1 = 0 ∨ (op_back S x y n).2.1 = 1 := by
  unfold op_back
  repeat' split
  all_goals first | exact Or.inl rfl | exact Or.inr rfl
set_option maxHeartbeats 4000000 in
set_option maxRecDepth 100000 in
theorem c_L_store (l : Launch) (hst : l.stackTraces = false) (dC : Nat → ClassId) (dI : Nat → Nat → Nat) (A0 : Nat → Prop) (sz : Nat) (cI : ClassId) (q : Nat → Nat) (cJ : ClassId) (qo : Nat) (f : Nat → Int64) (S : St) (t : Nat) (hI : Bd t S) : Met l y_L_store (.codeWith y_L_store b_L_store 3 (some .int) [(0, 8, 11, 13)] :: bg) { frames := 9, cells := 1, slots := 6, locals := 152 } (wl_P (dC, dI) classes [(cI, .int), (cJ, .long)] A0 (wX q cI S ++ [oC qo cJ f]) sz [.ref (q 0), .ref qo]) (wr_Q (some (.int (nI (op_store S).1))) (dC, dI) classes (wX q cI (op_store S).2.2 ++ [oC qo cJ (ov (op_store S) f)]) (va_A (wX q cI S ++ [oC qo cJ f]) sz)) 1 6 (va_A (wX q cI S ++ [oC qo cJ f]) sz) := by
  refine va_MetW (cc := b_L_store) (maxL := 3) (ret := some .int) (hh := [(0, 8, 11, 13)]) (by decide) rfl ?_
  intro p e s m args below meth c s₁ B hml hv
  obtain ⟨rfl, hsz, hP, hK, hD0, hG, hN⟩ := hv
  subst hsz
  have hD := hD0.self (sz := s.heap.size)
  generalize hAe : va_A (wX q cI S ++ [oC qo cJ f]) s.heap.size = A at hD ⊢
  have hA : ∀ q : Nat, s.heap.size ≤ q → A q := fun q h => by rw [← hAe]; exact Or.inr h
  have hS : va_S A s.heap s.heap [] := va_S.rf
  have hx := B.exec
  have hb := B.bytes
  have hr := B.returns
  have hts := fun w (h : w ∈ bg) => atoms_spec (ws := .codeWith y_L_store b_L_store 3 (some .int) [(0, 8, 11, 13)] :: bg) B.pre w (List.mem_cons_of_mem _ h)
  have htab := vx_table (x := y_L_store) B (hts _ wd_150)
  have hown : s.vm.findClass R_L = some m.cls := findClass_of_methodNamed B.named
  have hl := lv_entry ([.ref (q 0), .ref qo]) (n := 3) (Nat.le_of_ble_eq_true rfl)
  rw [lg_entry_eq]
  generalize (lg_sl ([.ref (q 0), .ref qo]) ++ List.replicate (3 - (lg_sl ([.ref (q 0), .ref qo])).length) Slot.unset).toArray = ls at hl ⊢
  have hl : lv_has ls 3 [(0, .ref (q 0)), (1, .ref qo)] := hl
  refine lv_aload_n hx hb d_L_store_0 rfl (lv_at hl 1 rfl) ?_
  refine lv_iconst (v := nI 0) hx hb d_L_store_1 (by decide) ?_
  refine lv_aload_n hx hb d_L_store_2 rfl (lv_at hl 0 rfl) ?_
  refine xo_go (vx_runV (As := []) (rest := [.int (nI 0), .ref qo]) ⟨hx, hb, hml, hown, hts⟩ (c_X_store l hst dC dI A0 s.heap.size cI q S t hI  ) (cwV 0 hts (gi_V wd_152 wd_153 wd_154 wd_1 wd_155) rfl rfl rfl (by decide +kernel) ⟨Nat.le_of_ble_eq_true rfl, Nat.le_of_ble_eq_true rfl⟩) (xo_preV (hK.sub (tys' := [(cI, .int)]) [0] rfl) (P_l hP) (D_l hD) hG (ci := 0) (q0 := 0) rfl rfl) rfl rfl hl.1 rfl (lv_room (Nat.le_of_ble_eq_true rfl)) d_L_store_3 ⟨Nat.le_of_ble_eq_true rfl, Nat.le_of_ble_eq_true rfl⟩) hP hD hS hA wX_adr (fun h9 E hE ce q9 H locs hP hS h3 h4 h5 => ?_) (fun h9 H locs hP hD hS => ?_)
  · have hle := ex_lt hE h9
    have hle : (op_store S).1 ≤ 1 := hle
    rcases (show (op_store S).1 = 1 by omega) with hk
    · obtain rfl : E_uo = E := by rw [hk] at hE; exact Option.some.inj hE
      refine vx_catch hown [] ⟨0, 8, 11, 13⟩ [] (htab.trans rfl) (fun z hz => nomatch hz) (by decide) (by decide) (hts _ wd_151) (hard_use rfl (hG.2.2.1 _ cs_uo rfl)) h3 h4 h5 ?_
      refine lv_astore_n (lv' := [(2, .ref q9), (0, .ref (q 0)), (1, .ref qo)]) hx hb d_L_store_11 rfl hl (by decide) rfl (fun ls hl => ?_)
      refine lv_iconst (v := nI 1) hx hb d_L_store_12 (by decide) ?_
      have hP9 : va_P (dC, dI) classes (wX q cI (op_store S).2.2 ++ [oC qo cJ (ov (op_store S) f)]) H := by rw [st_store h9, ov_n h9]; exact hP
      refine nv_as (nI (op_store S).1) (by rw [hk]) ?_
      exact W.iret hx hb hr (fun t ht hW => ⟨rfl, by rw [ht]; exact hP9, hS.F ht⟩) hS.2.2 d_L_store_13
  · refine W.eq (g2 := F0 m 6 ls [.int ((op_store S).2.1), .int (nI 0), .ref qo]) rfl ?_
    refine lv_i2l (v := ((op_store S).2.1).toInt64) hx hb d_L_store_6 rfl ?_
    refine va_last (f := f) hx hb hK hP hD hS 18 1 rfl rfl (vp_in_nI (n := 0) (N := 1) (by decide) (by decide)) d_L_store_7 (fun H locs hP hD hS => ?_)
    have hP : va_P (dC, dI) classes (wX q cI (op_store S).2.2 ++ [oC qo cJ (vp_updL f 0 (((op_store S).2.1).toInt64))]) H := hP
    refine lv_goto (tgt := 14) hx hb d_L_store_8 (by decide) ?_
    refine lv_iconst (v := nI 0) hx hb d_L_store_14 (by decide) ?_
    have hP9 : va_P (dC, dI) classes (wX q cI (op_store S).2.2 ++ [oC qo cJ (ov (op_store S) f)]) H := by rw [ov_y h9]; exact hP
    refine nv_as (nI (op_store S).1) (by rw [h9]) ?_
    exact W.iret hx hb hr (fun t ht hW => ⟨rfl, by rw [ht]; exact hP9, hS.F ht⟩) hS.2.2 d_L_store_15
set_option maxHeartbeats 4000000 in
set_option maxRecDepth 100000 in
theorem c_L_lot (l : Launch) (hst : l.stackTraces = false) (dC : Nat → ClassId) (dI : Nat → Nat → Nat) (A0 : Nat → Prop) (sz : Nat) (cI : ClassId) (q : Nat → Nat) (cJ : ClassId) (qo : Nat) (f : Nat → Int64) (S : St) (t : Nat) (hI : Bd t S) (x y : Int32) : Met l y_L_lot (.codeWith y_L_lot b_L_lot 5 (some .int) [(0, 10, 13, 19), (0, 10, 17, 21), (0, 10, 21, 13)] :: bg) { frames := 9, cells := 3, slots := 18, locals := 154 } (wl_P (dC, dI) classes [(cI, .int), (cJ, .long)] A0 (wX q cI S ++ [oC qo cJ f]) sz [.ref (q 0), .int x, .int y, .ref qo]) (wr_Q (some (.int (nI (op_lot S x y).1))) (dC, dI) classes (wX q cI (op_lot S x y).2.2 ++ [oC qo cJ (ov (op_lot S x y) f)]) (va_A (wX q cI S ++ [oC qo cJ f]) sz)) 3 18 (va_A (wX q cI S ++ [oC qo cJ f]) sz) := by
  refine va_MetW (cc := b_L_lot) (maxL := 5) (ret := some .int) (hh := [(0, 10, 13, 19), (0, 10, 17, 21), (0, 10, 21, 13)]) (by decide) rfl ?_
  intro p e s m args below meth c s₁ B hml hv
  obtain ⟨rfl, hsz, hP, hK, hD0, hG, hN⟩ := hv
  subst hsz
  have hD := hD0.self (sz := s.heap.size)
  generalize hAe : va_A (wX q cI S ++ [oC qo cJ f]) s.heap.size = A at hD ⊢
  have hA : ∀ q : Nat, s.heap.size ≤ q → A q := fun q h => by rw [← hAe]; exact Or.inr h
  have hS : va_S A s.heap s.heap [] := va_S.rf
  have hx := B.exec
  have hb := B.bytes
  have hr := B.returns
  have hts := fun w (h : w ∈ bg) => atoms_spec (ws := .codeWith y_L_lot b_L_lot 5 (some .int) [(0, 10, 13, 19), (0, 10, 17, 21), (0, 10, 21, 13)] :: bg) B.pre w (List.mem_cons_of_mem _ h)
  have htab := vx_table (x := y_L_lot) B (hts _ wd_227)
  have hown : s.vm.findClass R_L = some m.cls := findClass_of_methodNamed B.named
  have hl := lv_entry ([.ref (q 0), .int x, .int y, .ref qo]) (n := 5) (Nat.le_of_ble_eq_true rfl)
  rw [lg_entry_eq]
  generalize (lg_sl ([.ref (q 0), .int x, .int y, .ref qo]) ++ List.replicate (5 - (lg_sl ([.ref (q 0), .int x, .int y, .ref qo])).length) Slot.unset).toArray = ls at hl ⊢
  have hl : lv_has ls 5 [(0, .ref (q 0)), (1, .int x), (2, .int y), (3, .ref qo)] := hl
  refine lv_aload_n hx hb d_L_lot_0 rfl (lv_at hl 3 rfl) ?_
  refine lv_iconst (v := nI 0) hx hb d_L_lot_1 (by decide) ?_
  refine lv_aload_n hx hb d_L_lot_2 rfl (lv_at hl 0 rfl) ?_
  refine lv_iload_n hx hb d_L_lot_3 rfl (lv_at hl 1 rfl) ?_
  refine lv_iload_n hx hb d_L_lot_4 rfl (lv_at hl 2 rfl) ?_
  refine xo_go (vx_runV (As := [.int x, .int y]) (rest := [.int (nI 0), .ref qo]) ⟨hx, hb, hml, hown, hts⟩ (c_X_lot l hst dC dI A0 s.heap.size cI q S t hI x y ) (cwV 2 hts (gi_V wd_230 wd_231 wd_232 wd_1 wd_233) rfl rfl rfl (by decide +kernel) ⟨Nat.le_of_ble_eq_true rfl, Nat.le_of_ble_eq_true rfl⟩) (xo_preV (hK.sub (tys' := [(cI, .int)]) [0] rfl) (P_l hP) (D_l hD) hG (ci := 0) (q0 := 0) rfl rfl) rfl rfl hl.1 rfl (lv_room (Nat.le_of_ble_eq_true rfl)) d_L_lot_5 ⟨Nat.le_of_ble_eq_true rfl, Nat.le_of_ble_eq_true rfl⟩) hP hD hS hA wX_adr (fun h9 E hE ce q9 H locs hP hS h3 h4 h5 => ?_) (fun h9 H locs hP hD hS => ?_)
  · have hle := ex_lt hE h9
    have hle : (op_lot S x y).1 ≤ 3 := hle
    rcases (show (op_lot S x y).1 = 1 ∨ (op_lot S x y).1 = 2 ∨ (op_lot S x y).1 = 3 by omega) with hk | hk | hk
    · obtain rfl : E_ia = E := by rw [hk] at hE; exact Option.some.inj hE
      refine vx_catch hown [] ⟨0, 10, 13, 19⟩ [⟨0, 10, 17, 21⟩, ⟨0, 10, 21, 13⟩] (htab.trans rfl) (fun z hz => nomatch hz) (by decide) (by decide) (hts _ wd_228) (hard_use rfl (hG.2.2.1 _ cs_ia rfl)) h3 h4 h5 ?_
      refine lv_astore (lv' := [(4, .ref q9), (0, .ref (q 0)), (1, .int x), (2, .int y), (3, .ref qo)]) hx hb d_L_lot_13 hl (by decide) rfl (fun ls hl => ?_)
      refine lv_iconst (v := nI 1) hx hb d_L_lot_15 (by decide) ?_
      have hP9 : va_P (dC, dI) classes (wX q cI (op_lot S x y).2.2 ++ [oC qo cJ (ov (op_lot S x y) f)]) H := by rw [st_lot h9, ov_n h9]; exact hP
      refine nv_as (nI (op_lot S x y).1) (by rw [hk]) ?_
      exact W.iret hx hb hr (fun t ht hW => ⟨rfl, by rw [ht]; exact hP9, hS.F ht⟩) hS.2.2 d_L_lot_16
    · obtain rfl : E_io = E := by rw [hk] at hE; exact Option.some.inj hE
      refine vx_catch hown [⟨0, 10, 13, 19⟩] ⟨0, 10, 17, 21⟩ [⟨0, 10, 21, 13⟩] (htab.trans rfl) (cp_1 (⟨by decide, E_ia, hts _ wd_228, hN _ (by decide) _ (by decide) (by decide)⟩)) (by decide) (by decide) (hts _ wd_229) (hard_use rfl (hG.2.2.1 _ cs_io rfl)) h3 h4 h5 ?_
      refine lv_astore (lv' := [(4, .ref q9), (0, .ref (q 0)), (1, .int x), (2, .int y), (3, .ref qo)]) hx hb d_L_lot_17 hl (by decide) rfl (fun ls hl => ?_)
      refine lv_iconst (v := nI 2) hx hb d_L_lot_19 (by decide) ?_
      have hP9 : va_P (dC, dI) classes (wX q cI (op_lot S x y).2.2 ++ [oC qo cJ (ov (op_lot S x y) f)]) H := by rw [st_lot h9, ov_n h9]; exact hP
      refine nv_as (nI (op_lot S x y).1) (by rw [hk]) ?_
      exact W.iret hx hb hr (fun t ht hW => ⟨rfl, by rw [ht]; exact hP9, hS.F ht⟩) hS.2.2 d_L_lot_20
    · obtain rfl : E_uo = E := by rw [hk] at hE; exact Option.some.inj hE
      refine vx_catch hown [⟨0, 10, 13, 19⟩, ⟨0, 10, 17, 21⟩] ⟨0, 10, 21, 13⟩ [] (htab.trans rfl) (cp_2 (⟨by decide, E_ia, hts _ wd_228, hN _ (by decide) _ (by decide) (by decide)⟩) (⟨by decide, E_io, hts _ wd_229, hN _ (by decide) _ (by decide) (by decide)⟩)) (by decide) (by decide) (hts _ wd_151) (hard_use rfl (hG.2.2.1 _ cs_uo rfl)) h3 h4 h5 ?_
      refine lv_astore (lv' := [(4, .ref q9), (0, .ref (q 0)), (1, .int x), (2, .int y), (3, .ref qo)]) hx hb d_L_lot_21 hl (by decide) rfl (fun ls hl => ?_)
      refine lv_iconst (v := nI 3) hx hb d_L_lot_23 (by decide) ?_
      have hP9 : va_P (dC, dI) classes (wX q cI (op_lot S x y).2.2 ++ [oC qo cJ (ov (op_lot S x y) f)]) H := by rw [st_lot h9, ov_n h9]; exact hP
      refine nv_as (nI (op_lot S x y).1) (by rw [hk]) ?_
      exact W.iret hx hb hr (fun t ht hW => ⟨rfl, by rw [ht]; exact hP9, hS.F ht⟩) hS.2.2 d_L_lot_24
  · refine W.eq (g2 := F0 m 8 ls [.int ((op_lot S x y).2.1), .int (nI 0), .ref qo]) rfl ?_
    refine lv_i2l (v := ((op_lot S x y).2.1).toInt64) hx hb d_L_lot_8 rfl ?_
    refine va_last (f := f) hx hb hK hP hD hS 18 1 rfl rfl (vp_in_nI (n := 0) (N := 1) (by decide) (by decide)) d_L_lot_9 (fun H locs hP hD hS => ?_)
    have hP : va_P (dC, dI) classes (wX q cI (op_lot S x y).2.2 ++ [oC qo cJ (vp_updL f 0 (((op_lot S x y).2.1).toInt64))]) H := hP
    refine lv_goto (tgt := 25) hx hb d_L_lot_10 (by decide) ?_
    refine lv_iconst (v := nI 0) hx hb d_L_lot_25 (by decide) ?_
    have hP9 : va_P (dC, dI) classes (wX q cI (op_lot S x y).2.2 ++ [oC qo cJ (ov (op_lot S x y) f)]) H := by rw [ov_y h9]; exact hP
    refine nv_as (nI (op_lot S x y).1) (by rw [h9]) ?_
    exact W.iret hx hb hr (fun t ht hW => ⟨rfl, by rw [ht]; exact hP9, hS.F ht⟩) hS.2.2 d_L_lot_26
