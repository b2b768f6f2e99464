/-! THE LAW'S OWN METHODS: each calls the class, keeps the answer in the cell, and names the exception by a number. -/
abbrev exl : List String := [E_ia, E_io, E_is, E_uo]
def nC (U : State) : Prop := ∀ E ∈ exl, ∀ T ∈ exl, E ≠ T → va_Nc E T U
def wl_P (D : va_G) (cl : List vw_C) (tys : List (ClassId × FieldType)) (A0 : Nat → Prop) (ws : va_W) (sz : Nat) (av : List Value) : Array Value → State → Prop := va_Pc av (fun U => U.heap.size = sz ∧ va_P D cl ws U.heap ∧ va_K D cl tys U ∧ va_D (fun _ => True) ws ∧ gG A0 U U.heap ∧ nC U)
theorem nC_moved {u U : State} (hvm : u.vm.Alike U.vm) (h : nC u) : nC U := fun E hE T hT hn => va_Nc.moved hvm (h E hE T hT hn)
theorem wl_blind {D : va_G} {cl : List vw_C} {ws : va_W} {tys : List (ClassId × FieldType)} {A0 : Nat → Prop} {sz : Nat} {av : List Value} : FrameBlind (wl_P D cl tys A0 ws sz av) := fun a U g mk q => by
  obtain ⟨q0, qz, qP, qK, qD, qG, qN⟩ := q
  exact ⟨q0, qz, qP, va_K.moved (u := U) (U := U.calling g mk a) (Vm.Alike.refl U.vm) qK, qD, gG_call qG, nC_moved (u := U) (U := U.calling g mk a) (Vm.Alike.refl U.vm) qN⟩
def oC (qo : Nat) (cJ : ClassId) (f : Nat → Int64) : Nat × va_E := (qo, .inl (cJ, 1, .inr (.inl f)))
def ov (o : Op) (f : Nat → Int64) : Nat → Int64 := if o.1 = 0 then vp_updL f 0 o.2.1.toInt64 else f
theorem ov_y {o : Op} {f : Nat → Int64} (h : o.1 = 0) : ov o f = vp_updL f 0 o.2.1.toInt64 := if_pos h
theorem ov_n {o : Op} {f : Nat → Int64} (h : 0 < o.1) : ov o f = f := if_neg (Nat.ne_of_gt h)
theorem ex_lt {o : Op} {exs : List String} {E : String} (h : exs[o.1 - 1]? = some E) (h0 : 0 < o.1) : o.1 ≤ exs.length := by
  have := (List.getElem?_eq_some_iff.mp h).1
  omega
section XO
variable {p : Program} {l : Launch} {e : Env} {R : Room} {s : State} {m : MethodId} {args : Array Value} {below : List Frame} {meth : Method} {c : Code} {H : Heap} {locs : List Loc} {cells slots : Nat} {Q : State → Prop}
variable {pc : Nat} {ls : Array Slot} {rest st0 As : List Value} {a : Array Value} {D : va_G} {cl : List vw_C} {tys : List (ClassId × FieldType)} {ws wc wc' : va_W} {b : Nat} {A A0 : Nat → Prop} {H0 : Heap}
theorem xo_preV {ci q0 : Nat} {q : vw_C} {fs : List Value} (hK : va_K D cl tys s) (hP : va_P D cl ws H) (hD : va_D A ws) (hG : gG A0 s H) (hc : cl[ci]? = some q) (he : ws[q0]? = some (b, .inr (ci, fs))) : PreV s H q.1 b (xo_P D cl tys A0 ws H.size (.ref b :: As)) As :=
  ⟨xo_blind, va_recv hK hP hc he, fun U hU hW => ⟨rfl, by rw [hU], by rw [hU]; exact hP, va_K.moved hW.alike hK, hD.weaken (fun _ _ _ _ => trivial), gG_at hG hU hW⟩⟩
theorem P_l {wr : va_W} (h : va_P D cl (wc ++ wr) H) : va_P D cl wc H := fun k x hx => h k x (by rw [List.getElem?_append_left (List.getElem?_eq_some_iff.mp hx).1]; exact hx)
theorem P_r {wr : va_W} (h : va_P D cl (wc ++ wr) H) : va_P D cl wr H := fun k x hx => h (wc.length + k) x (by rw [List.getElem?_append_right (Nat.le_add_right _ _), Nat.add_sub_cancel_left]; exact hx)
theorem P_app {wr : va_W} (h : va_P D cl wc H) (h2 : va_P D cl wr H) : va_P D cl (wc ++ wr) H := fun k x hx => by
  rcases Nat.lt_or_ge k wc.length with hk | hk
  · rw [List.getElem?_append_left hk] at hx; exact h k x hx
  · rw [List.getElem?_append_right hk] at hx; exact h2 _ x hx
theorem D_l {wr : va_W} (h : va_D A (wc ++ wr)) : va_D A wc :=
  ⟨fun i j p q hp hq e => h.1 i j p q (by rw [List.getElem?_append_left (List.getElem?_eq_some_iff.mp hp).1]; exact hp) (by rw [List.getElem?_append_left (List.getElem?_eq_some_iff.mp hq).1]; exact hq) e,
   fun k q hq => h.2 k q (by rw [List.getElem?_append_left (List.getElem?_eq_some_iff.mp hq).1]; exact hq)⟩
theorem D_r {wr : va_W} (h : va_D A (wc ++ wr)) : va_D A wr :=
  ⟨fun i j p q hp hq e => Nat.add_left_cancel (h.1 (wc.length + i) (wc.length + j) p q (by rw [List.getElem?_append_right (Nat.le_add_right _ _), Nat.add_sub_cancel_left]; exact hp) (by rw [List.getElem?_append_right (Nat.le_add_right _ _), Nat.add_sub_cancel_left]; exact hq) e),
   fun k q hq => h.2 (wc.length + k) q (by rw [List.getElem?_append_right (Nat.le_add_right _ _), Nat.add_sub_cancel_left]; exact hq)⟩
theorem D_x {wr : va_W} (h : va_D A (wc ++ wr)) {i j : Nat} {x y : Nat × va_E} (hx : wc[i]? = some x) (hy : wr[j]? = some y) : x.1 ≠ y.1 := fun e => by
  have hi := (List.getElem?_eq_some_iff.mp hx).1
  have := h.1 i (wc.length + j) x y (by rw [List.getElem?_append_left hi]; exact hx) (by rw [List.getElem?_append_right (Nat.le_add_right _ _), Nat.add_sub_cancel_left]; exact hy) e
  omega
/-- the rest of a world stays as it was -/
theorem P_kept {wr : va_W} (h : va_D A (wc ++ wr)) (hP : va_P D cl wr H) {H1 : Heap} (hk : ∀ q : Nat, q < H.size → ¬ va_A wc H.size q → H1[q]? = H[q]?) : va_P D cl wr H1 := fun k x hx => (hP k x hx).kept (hk x.1 ((hP k x hx).lt) (fun z => by
  rcases z with ⟨i, e, hi⟩ | hge
  · exact D_x h hi hx rfl
  · exact absurd ((hP k x hx).lt) (Nat.not_lt.mpr hge)))
theorem A_free {wr : va_W} (h : va_D A (wc ++ wr)) (hS : va_S A H0 H locs) (hA : ∀ q : Nat, H0.size ≤ q → A q) : ∀ q, va_A wc H.size q → A q := fun q hq => by
  rcases hq with ⟨k, e, hk⟩ | hge
  · exact (D_l h).2 k (q, e) hk
  · exact hA q (Nat.le_trans hS.1 hge)
theorem D_sw {wr : va_W} (h : va_D A (wc ++ wr)) (e : wc'.map Prod.fst = wc.map Prod.fst) : va_D A (wc' ++ wr) := D_adr h (by rw [List.map_append, List.map_append, e])
theorem xo_go {o : Op} {rv : Option Value} {exs : List String} {mc ms : Nat} {wr : va_W} (hr : vx_Run p l e R s m args below meth c H locs cells slots mc ms (F0 m pc ls st0) rest (xo_Q o rv D cl wc' (va_A wc H.size) a) (xo_X o exs) (va_A wc H.size)) (hP : va_P D cl (wc ++ wr) H) (hD : va_D A (wc ++ wr)) (hS : va_S A H0 H locs) (hA : ∀ q : Nat, H0.size ≤ q → A q) (hadr : wc'.map Prod.fst = wc.map Prod.fst)
    (kx : 0 < o.1 → ∀ E, exs[o.1 - 1]? = some E → ∀ (ce : Cell) (q9 : Addr) (H1 : Heap) (locs1 : List Loc), va_P D cl (wc ++ wr) H1 → va_S A H0 H1 locs1 → H1[q9]? = some ce → ce.vm = .none → s.vm.findClass E = some ce.cls → vx_W p l e R s m args below meth c H1 locs1 (cells + mc) (slots + ms) Q (F0 m pc ls rest) q9)
    (k : o.1 = 0 → ∀ (H1 : Heap) (locs1 : List Loc), va_P D cl (wc' ++ wr) H1 → va_D A (wc' ++ wr) → va_S A H0 H1 locs1 → W p l e R s m args below meth c H1 locs1 (cells + mc) (slots + ms) Q (F0 m (pc + 3) ls (rv.toList ++ rest))) :
    W p l e R s m args below meth c H locs cells slots Q (F0 m pc ls st0) := by
  intro T hT X
  have hfree := A_free hD hS hA
  rcases hr T hT X with ⟨w, st₀, t, T', L, h0, X', hL, e1, e2, ⟨hz0, hv, hP1, hz, hk⟩, st⟩ | ⟨q, st₀, t, T', L, E', ce, h0, X', hL, e1, e2, ⟨hp, hE, h1, h2⟩, hce, hcv, hcl, st⟩
  · obtain rfl : w = rv := Outcome.returned.inj hv
    rw [h0] at hz hk
    obtain ⟨t2, a1, b1⟩ := k hz0 t.heap (locs ++ L) (P_app hP1 (P_kept hD (P_r hP) hk)) (D_sw hD hadr)
      ⟨Nat.le_trans hS.1 hz, fun q h1 h2 => by rw [hk q (Nat.lt_of_lt_of_le h1 hS.1) (fun z => h2 (hfree q z))]; exact hS.2.1 q h1 h2, fun q hq => by
        rcases List.mem_append.mp hq with h | h
        · exact hS.2.2 q h
        · exact hfree _ (hL q h)⟩ T' e1 X'
    exact ⟨t2, st t2 a1, b1⟩
  · rw [h0] at h1 h2
    obtain ⟨t2, a1, b1⟩ := kx hp E' hE ce q t.heap (locs ++ L) (fun k x hx => (hP k x hx).kept (h2 x.1 ((hP k x hx).lt)))
      ⟨Nat.le_trans hS.1 h1, fun z g1 g2 => by rw [h2 z (Nat.lt_of_lt_of_le g1 hS.1)]; exact hS.2.1 z g1 g2, fun z hz => by
        rcases List.mem_append.mp hz with h | h
        · exact hS.2.2 z h
        · exact hfree _ (hL z h)⟩ hce hcv hcl T' e1 X'
    exact ⟨t2, st.trans a1, b1⟩
end XO
section CP
variable {α : Type} {P Q : α → Prop} {a b d : α}
theorem cp_1 (h : Q a) : ∀ z ∈ [a], P z ∨ Q z := fun z hz => by
  rcases List.mem_cons.mp hz with rfl | hz
  · exact Or.inr h
  · cases hz
theorem cp_2 (h : Q a) (h2 : Q b) : ∀ z ∈ [a, b], P z ∨ Q z := fun z hz => by
  rcases List.mem_cons.mp hz with rfl | hz
  · exact Or.inr h
  · exact cp_1 h2 z hz
theorem cp_3 (h : Q a) (h2 : Q b) (h3 : Q d) : ∀ z ∈ [a, b, d], P z ∨ Q z := fun z hz => by
  rcases List.mem_cons.mp hz with rfl | hz
  · exact Or.inr h
  · exact cp_2 h2 h3 z hz
end CP
theorem cs_ia : Cond.castable E_ia E_ia ∈ tables_1 := (List.mem_append_left _ (List.mem_of_getElem? (i := 239) rfl))
theorem cs_io : Cond.castable E_io E_io ∈ tables_1 := (List.mem_append_right _ (List.mem_append_left _ (List.mem_of_getElem? (i := 18) rfl)))
theorem cs_is : Cond.castable E_is E_is ∈ tables_1 := (List.mem_append_right _ (List.mem_append_left _ (List.mem_of_getElem? (i := 84) rfl)))
theorem cs_uo : Cond.castable E_uo E_uo ∈ tables_1 := (List.mem_append_left _ (List.mem_of_getElem? (i := 158) rfl))
theorem st_store {S : St} : 0 < (op_store S ).1 → (op_store S ).2.2 = S := by
  unfold op_store
  repeat' split
  all_goals first | exact fun _ => rfl | exact fun h => absurd h (Nat.lt_irrefl 0)
theorem st_lot {S : St} {x y : Int32} : 0 < (op_lot S x y).1 → (op_lot S x y).2.2 = S := by
  unfold op_lot
  repeat' split
  all_goals first | exact fun _ => rfl | exact fun h => absurd h (Nat.lt_irrefl 0)
theorem st_bring {S : St} {x y n : Int32} : 0 < (op_bring S x y n).1 → (op_bring S x y n).2.2 = S := by
  unfold op_bring
  repeat' split
  all_goals first | exact fun _ => rfl | exact fun h => absurd h (Nat.lt_irrefl 0)
theorem st_move {S : St} {x y w n d : Int32} : 0 < (op_move S x y w n d).1 → (op_move S x y w n d).2.2 = S := by
  unfold op_move
  repeat' split
  all_goals first | exact fun _ => rfl | exact fun h => absurd h (Nat.lt_irrefl 0)
theorem st_use {S : St} {x y n : Int32} : 0 < (op_use S x y n).1 → (op_use S x y n).2.2 = S := by
  unfold op_use
  repeat' split
  all_goals first | exact fun _ => rfl | exact fun h => absurd h (Nat.lt_irrefl 0)
theorem st_sum {S : St} {x y w : Int32} : 0 < (op_sum S x y w).1 → (op_sum S x y w).2.2 = S := by
  unfold op_sum
  repeat' split
  all_goals first | exact fun _ => rfl | exact fun h => absurd h (Nat.lt_irrefl 0)
theorem st_has {S : St} {x y : Int32} : 0 < (op_has S x y).1 → (op_has S x y).2.2 = S := by
  unfold op_has
  repeat' split
  all_goals first | exact fun _ => rfl | exact fun h => absurd h (Nat.lt_irrefl 0)
theorem st_level {S : St} {x y a b : Int32} : 0 < (op_level S x y a b).1 → (op_level S x y a b).2.2 = S := by
  unfold op_level
  repeat' split
  all_goals first | exact fun _ => rfl | exact fun h => absurd h (Nat.lt_irrefl 0)
theorem st_order {S : St} {x y : Int32} : 0 < (op_order S x y).1 → (op_order S x y).2.2 = S := by
  unfold op_order
  repeat' split
  all_goals first | exact fun _ => rfl | exact fun h => absurd h (Nat.lt_irrefl 0)
theorem st_deliver {S : St} {x y : Int32} : 0 < (op_deliver S x y).1 → (op_deliver S x y).2.2 = S := by
  unfold op_deliver
  repeat' split
  all_goals first | exact fun _ => rfl | exact fun h => absurd h (Nat.lt_irrefl 0)
theorem st_emergency {S : St} {x y n w : Int32} : 0 < (op_emergency S x y n w).1 → (op_emergency S x y n w).2.2 = S := by
  unfold op_emergency
  repeat' split
  all_goals first | exact fun _ => rfl | exact fun h => absurd h (Nat.lt_irrefl 0)
theorem st_second {S : St} {x y : Int32} : 0 < (op_second S x y).1 → (op_second S x y).2.2 = S := by
  unfold op_second
  repeat' split
  all_goals first | exact fun _ => rfl | exact fun h => absurd h (Nat.lt_irrefl 0)
theorem st_count {S : St} {x y n w : Int32} : 0 < (op_count S x y n w).1 → (op_count S x y n w).2.2 = S := by
  unfold op_count
  repeat' split
  all_goals first | exact fun _ => rfl | exact fun h => absurd h (Nat.lt_irrefl 0)
theorem st_difference {S : St} {x y : Int32} : 0 < (op_difference S x y).1 → (op_difference S x y).2.2 = S := by
  unfold op_difference
  repeat' split
  all_goals first | exact fun _ => rfl | exact fun h => absurd h (Nat.lt_irrefl 0)
theorem st_kit {S : St} {x y n : Int32} : 0 < (op_kit S x y n).1 → (op_kit S x y n).2.2 = S := by
  unfold op_kit
  repeat' split
  all_goals first | exact fun _ => rfl | exact fun h => absurd h (Nat.lt_irrefl 0)
theorem st_give {S : St} {x y : Int32} : 0 < (op_give S x y).1 → (op_give S x y).2.2 = S := by
  unfold op_give
  repeat' split
  all_goals first | exact fun _ => rfl | exact fun h => absurd h (Nat.lt_irrefl 0)
theorem st_back {S : St} {x y n : Int32} : 0 < (op_back S x y n).1 → (op_back S x y n).2.2 = S := by
  unfold op_back
  repeat' split
  all_goals first | exact fun _ => rfl | exact fun h => absurd h (Nat.lt_irrefl 0)
theorem st_waste {S : St} {x y n w : Int32} : 0 < (op_waste S x y n w).1 → (op_waste S x y n w).2.2 = S := by
  unfold op_waste
  repeat' split
  all_goals first | exact fun _ => rfl | exact fun h => absurd h (Nat.lt_irrefl 0)
theorem st_lotAt {S : St} {x y : Int32} : 0 < (op_lotAt S x y).1 → (op_lotAt S x y).2.2 = S := by
  unfold op_lotAt
  repeat' split
  all_goals first | exact fun _ => rfl | exact fun h => absurd h (Nat.lt_irrefl 0)
theorem st_row {S : St} {x y : Int32} : 0 < (op_row S x y).1 → (op_row S x y).2.2 = S := by
  unfold op_row
  repeat' split
  all_goals first | exact fun _ => rfl | exact fun h => absurd h (Nat.lt_irrefl 0)
theorem st_dip {S : St} {x : Int32} : 0 < (op_dip S x).1 → (op_dip S x).2.2 = S := by
  unfold op_dip
  repeat' split
  all_goals first | exact fun _ => rfl | exact fun h => absurd h (Nat.lt_irrefl 0)
theorem st_tick {S : St} {x : Int32} : 0 < (op_tick S x).1 → (op_tick S x).2.2 = S := by
  unfold op_tick
  repeat' split
  all_goals first | exact fun _ => rfl | exact fun h => absurd h (Nat.lt_irrefl 0)
theorem bk01 {S : St} {x y n : Int32} : (op_back S x y n).2.1 = 0 ∨ (op_back S x y n).2.1 = 1 := by
  unfold op_back
  repeat' split
  all_goals first | exact Or.inl rfl | exact Or.inr rfl
set_option maxHeartbeats 4000000 in
set_option maxRecDepth 100000 in
theorem c_L_store (l : Launch) (hst : l.stackTraces = false) (dC : Nat → ClassId) (dI : Nat → Nat → Nat) (A0 : Nat → Prop) (sz : Nat) (cI : ClassId) (q : Nat → Nat) (cJ : ClassId) (qo : Nat) (f : Nat → Int64) (S : St) (t : Nat) (hI : Bd t S) : Met l y_L_store (.codeWith y_L_store b_L_store 3 (some .int) [(0, 8, 11, 13)] :: bg) { frames := 9, cells := 1, slots := 6, locals := 152 } (wl_P (dC, dI) classes [(cI, .int), (cJ, .long)] A0 (wX q cI S ++ [oC qo cJ f]) sz [.ref (q 0), .ref qo]) (wr_Q (some (.int (nI (op_store S).1))) (dC, dI) classes (wX q cI (op_store S).2.2 ++ [oC qo cJ (ov (op_store S) f)]) (va_A (wX q cI S ++ [oC qo cJ f]) sz)) 1 6 (va_A (wX q cI S ++ [oC qo cJ f]) sz) := by
  refine va_MetW (cc := b_L_store) (maxL := 3) (ret := some .int) (hh := [(0, 8, 11, 13)]) (by decide) rfl ?_
  intro p e s m args below meth c s₁ B hml hv
  obtain ⟨rfl, hsz, hP, hK, hD0, hG, hN⟩ := hv
  subst hsz
  have hD := hD0.self (sz := s.heap.size)
  generalize hAe : va_A (wX q cI S ++ [oC qo cJ f]) s.heap.size = A at hD ⊢
  have hA : ∀ q : Nat, s.heap.size ≤ q → A q := fun q h => by rw [← hAe]; exact Or.inr h
  have hS : va_S A s.heap s.heap [] := va_S.rf
  have hx := B.exec
  have hb := B.bytes
  have hr := B.returns
  have hts := fun w (h : w ∈ bg) => atoms_spec (ws := .codeWith y_L_store b_L_store 3 (some .int) [(0, 8, 11, 13)] :: bg) B.pre w (List.mem_cons_of_mem _ h)
  have htab := vx_table (x := y_L_store) B (hts _ wd_150)
  have hown : s.vm.findClass R_L = some m.cls := findClass_of_methodNamed B.named
  have hl := lv_entry ([.ref (q 0), .ref qo]) (n := 3) (Nat.le_of_ble_eq_true rfl)
  rw [lg_entry_eq]
  generalize (lg_sl ([.ref (q 0), .ref qo]) ++ List.replicate (3 - (lg_sl ([.ref (q 0), .ref qo])).length) Slot.unset).toArray = ls at hl ⊢
  have hl : lv_has ls 3 [(0, .ref (q 0)), (1, .ref qo)] := hl
  refine lv_aload_n hx hb d_L_store_0 rfl (lv_at hl 1 rfl) ?_
  refine lv_iconst (v := nI 0) hx hb d_L_store_1 (by decide) ?_
  refine lv_aload_n hx hb d_L_store_2 rfl (lv_at hl 0 rfl) ?_
  refine xo_go (vx_runV (As := []) (rest := [.int (nI 0), .ref qo]) ⟨hx, hb, hml, hown, hts⟩ (c_X_store l hst dC dI A0 s.heap.size cI q S t hI  ) (cwV 0 hts (gi_V wd_152 wd_153 wd_154 wd_1 wd_155) rfl rfl rfl (by decide +kernel) ⟨Nat.le_of_ble_eq_true rfl, Nat.le_of_ble_eq_true rfl⟩) (xo_preV (hK.sub (tys' := [(cI, .int)]) [0] rfl) (P_l hP) (D_l hD) hG (ci := 0) (q0 := 0) rfl rfl) rfl rfl hl.1 rfl (lv_room (Nat.le_of_ble_eq_true rfl)) d_L_store_3 ⟨Nat.le_of_ble_eq_true rfl, Nat.le_of_ble_eq_true rfl⟩) hP hD hS hA wX_adr (fun h9 E hE ce q9 H locs hP hS h3 h4 h5 => ?_) (fun h9 H locs hP hD hS => ?_)
  · have hle := ex_lt hE h9
    have hle : (op_store S).1 ≤ 1 := hle
    rcases (show (op_store S).1 = 1 by omega) with hk
    · obtain rfl : E_uo = E := by rw [hk] at hE; exact Option.some.inj hE
      refine vx_catch hown [] ⟨0, 8, 11, 13⟩ [] (htab.trans rfl) (fun z hz => nomatch hz) (by decide) (by decide) (hts _ wd_151) (hard_use rfl (hG.2.2.1 _ cs_uo rfl)) h3 h4 h5 ?_
      refine lv_astore_n (lv' := [(2, .ref q9), (0, .ref (q 0)), (1, .ref qo)]) hx hb d_L_store_11 rfl hl (by decide) rfl (fun ls hl => ?_)
      refine lv_iconst (v := nI 1) hx hb d_L_store_12 (by decide) ?_
      have hP9 : va_P (dC, dI) classes (wX q cI (op_store S).2.2 ++ [oC qo cJ (ov (op_store S) f)]) H := by rw [st_store h9, ov_n h9]; exact hP
      refine nv_as (nI (op_store S).1) (by rw [hk]) ?_
      exact W.iret hx hb hr (fun t ht hW => ⟨rfl, by rw [ht]; exact hP9, hS.F ht⟩) hS.2.2 d_L_store_13
  · refine W.eq (g2 := F0 m 6 ls [.int ((op_store S).2.1), .int (nI 0), .ref qo]) rfl ?_
    refine lv_i2l (v := ((op_store S).2.1).toInt64) hx hb d_L_store_6 rfl ?_
    refine va_last (f := f) hx hb hK hP hD hS 18 1 rfl rfl (vp_in_nI (n := 0) (N := 1) (by decide) (by decide)) d_L_store_7 (fun H locs hP hD hS => ?_)
    have hP : va_P (dC, dI) classes (wX q cI (op_store S).2.2 ++ [oC qo cJ (vp_updL f 0 (((op_store S).2.1).toInt64))]) H := hP
    refine lv_goto (tgt := 14) hx hb d_L_store_8 (by decide) ?_
    refine lv_iconst (v := nI 0) hx hb d_L_store_14 (by decide) ?_
    have hP9 : va_P (dC, dI) classes (wX q cI (op_store S).2.2 ++ [oC qo cJ (ov (op_store S) f)]) H := by rw [ov_y h9]; exact hP
    refine nv_as (nI (op_store S).1) (by rw [h9]) ?_
    exact W.iret hx hb hr (fun t ht hW => ⟨rfl, by rw [ht]; exact hP9, hS.F ht⟩) hS.2.2 d_L_store_15
set_option maxHeartbeats 4000000 in
set_option maxRecDepth 100000 in
theorem c_L_lot (l : Launch) (hst : l.stackTraces = false) (dC : Nat → ClassId) (dI : Nat → Nat → Nat) (A0 : Nat → Prop) (sz : Nat) (cI : ClassId) (q : Nat → Nat) (cJ : ClassId) (qo : Nat) (f : Nat → Int64) (S : St) (t : Nat) (hI : Bd t S) (x y : Int32) : Met l y_L_lot (.codeWith y_L_lot b_L_lot 5 (some .int) [(0, 10, 13, 19), (0, 10, 17, 21), (0, 10, 21, 13)] :: bg) { frames := 9, cells := 3, slots := 18, locals := 154 } (wl_P (dC, dI) classes [(cI, .int), (cJ, .long)] A0 (wX q cI S ++ [oC qo cJ f]) sz [.ref (q 0), .int x, .int y, .ref qo]) (wr_Q (some (.int (nI (op_lot S x y).1))) (dC, dI) classes (wX q cI (op_lot S x y).2.2 ++ [oC qo cJ (ov (op_lot S x y) f)]) (va_A (wX q cI S ++ [oC qo cJ f]) sz)) 3 18 (va_A (wX q cI S ++ [oC qo cJ f]) sz) := by
  refine va_MetW (cc := b_L_lot) (maxL := 5) (ret := some .int) (hh := [(0, 10, 13, 19), (0, 10, 17, 21), (0, 10, 21, 13)]) (by decide) rfl ?_
  intro p e s m args below meth c s₁ B hml hv
  obtain ⟨rfl, hsz, hP, hK, hD0, hG, hN⟩ := hv
  subst hsz
  have hD := hD0.self (sz := s.heap.size)
  generalize hAe : va_A (wX q cI S ++ [oC qo cJ f]) s.heap.size = A at hD ⊢
  have hA : ∀ q : Nat, s.heap.size ≤ q → A q := fun q h => by rw [← hAe]; exact Or.inr h
  have hS : va_S A s.heap s.heap [] := va_S.rf
  have hx := B.exec
  have hb := B.bytes
  have hr := B.returns
  have hts := fun w (h : w ∈ bg) => atoms_spec (ws := .codeWith y_L_lot b_L_lot 5 (some .int) [(0, 10, 13, 19), (0, 10, 17, 21), (0, 10, 21, 13)] :: bg) B.pre w (List.mem_cons_of_mem _ h)
  have htab := vx_table (x := y_L_lot) B (hts _ wd_227)
  have hown : s.vm.findClass R_L = some m.cls := findClass_of_methodNamed B.named
  have hl := lv_entry ([.ref (q 0), .int x, .int y, .ref qo]) (n := 5) (Nat.le_of_ble_eq_true rfl)
  rw [lg_entry_eq]
  generalize (lg_sl ([.ref (q 0), .int x, .int y, .ref qo]) ++ List.replicate (5 - (lg_sl ([.ref (q 0), .int x, .int y, .ref qo])).length) Slot.unset).toArray = ls at hl ⊢
  have hl : lv_has ls 5 [(0, .ref (q 0)), (1, .int x), (2, .int y), (3, .ref qo)] := hl
  refine lv_aload_n hx hb d_L_lot_0 rfl (lv_at hl 3 rfl) ?_
  refine lv_iconst (v := nI 0) hx hb d_L_lot_1 (by decide) ?_
  refine lv_aload_n hx hb d_L_lot_2 rfl (lv_at hl 0 rfl) ?_
  refine lv_iload_n hx hb d_L_lot_3 rfl (lv_at hl 1 rfl) ?_
  refine lv_iload_n hx hb d_L_lot_4 rfl (lv_at hl 2 rfl) ?_
  refine xo_go (vx_runV (As := [.int x, .int y]) (rest := [.int (nI 0), .ref qo]) ⟨hx, hb, hml, hown, hts⟩ (c_X_lot l hst dC dI A0 s.heap.size cI q S t hI x y ) (cwV 2 hts (gi_V wd_230 wd_231 wd_232 wd_1 wd_233) rfl rfl rfl (by decide +kernel) ⟨Nat.le_of_ble_eq_true rfl, Nat.le_of_ble_eq_true rfl⟩) (xo_preV (hK.sub (tys' := [(cI, .int)]) [0] rfl) (P_l hP) (D_l hD) hG (ci := 0) (q0 := 0) rfl rfl) rfl rfl hl.1 rfl (lv_room (Nat.le_of_ble_eq_true rfl)) d_L_lot_5 ⟨Nat.le_of_ble_eq_true rfl, Nat.le_of_ble_eq_true rfl⟩) hP hD hS hA wX_adr (fun h9 E hE ce q9 H locs hP hS h3 h4 h5 => ?_) (fun h9 H locs hP hD hS => ?_)
  · have hle := ex_lt hE h9
    have hle : (op_lot S x y).1 ≤ 3 := hle
    rcases (show (op_lot S x y).1 = 1 ∨ (op_lot S x y).1 = 2 ∨ (op_lot S x y).1 = 3 by omega) with hk | hk | hk
    · obtain rfl : E_ia = E := by rw [hk] at hE; exact Option.some.inj hE
      refine vx_catch hown [] ⟨0, 10, 13, 19⟩ [⟨0, 10, 17, 21⟩, ⟨0, 10, 21, 13⟩] (htab.trans rfl) (fun z hz => nomatch hz) (by decide) (by decide) (hts _ wd_228) (hard_use rfl (hG.2.2.1 _ cs_ia rfl)) h3 h4 h5 ?_
      refine lv_astore (lv' := [(4, .ref q9), (0, .ref (q 0)), (1, .int x), (2, .int y), (3, .ref qo)]) hx hb d_L_lot_13 hl (by decide) rfl (fun ls hl => ?_)
      refine lv_iconst (v := nI 1) hx hb d_L_lot_15 (by decide) ?_
      have hP9 : va_P (dC, dI) classes (wX q cI (op_lot S x y).2.2 ++ [oC qo cJ (ov (op_lot S x y) f)]) H := by rw [st_lot h9, ov_n h9]; exact hP
      refine nv_as (nI (op_lot S x y).1) (by rw [hk]) ?_
      exact W.iret hx hb hr (fun t ht hW => ⟨rfl, by rw [ht]; exact hP9, hS.F ht⟩) hS.2.2 d_L_lot_16
    · obtain rfl : E_io = E := by rw [hk] at hE; exact Option.some.inj hE
      refine vx_catch hown [⟨0, 10, 13, 19⟩] ⟨0, 10, 17, 21⟩ [⟨0, 10, 21, 13⟩] (htab.trans rfl) (cp_1 (⟨by decide, E_ia, hts _ wd_228, hN _ (by decide) _ (by decide) (by decide)⟩)) (by decide) (by decide) (hts _ wd_229) (hard_use rfl (hG.2.2.1 _ cs_io rfl)) h3 h4 h5 ?_
      refine lv_astore (lv' := [(4, .ref q9), (0, .ref (q 0)), (1, .int x), (2, .int y), (3, .ref qo)]) hx hb d_L_lot_17 hl (by decide) rfl (fun ls hl => ?_)
      refine lv_iconst (v := nI 2) hx hb d_L_lot_19 (by decide) ?_
      have hP9 : va_P (dC, dI) classes (wX q cI (op_lot S x y).2.2 ++ [oC qo cJ (ov (op_lot S x y) f)]) H := by rw [st_lot h9, ov_n h9]; exact hP
      refine nv_as (nI (op_lot S x y).1) (by rw [hk]) ?_
      exact W.iret hx hb hr (fun t ht hW => ⟨rfl, by rw [ht]; exact hP9, hS.F ht⟩) hS.2.2 d_L_lot_20
    · obtain rfl : E_uo = E := by rw [hk] at hE; exact Option.some.inj hE
      refine vx_catch hown [⟨0, 10, 13, 19⟩, ⟨0, 10, 17, 21⟩] ⟨0, 10, 21, 13⟩ [] (htab.trans rfl) (cp_2 (⟨by decide, E_ia, hts _ wd_228, hN _ (by decide) _ (by decide) (by decide)⟩) (⟨by decide, E_io, hts _ wd_229, hN _ (by decide) _ (by decide) (by decide)⟩)) (by decide) (by decide) (hts _ wd_151) (hard_use rfl (hG.2.2.1 _ cs_uo rfl)) h3 h4 h5 ?_
      refine lv_astore (lv' := [(4, .ref q9), (0, .ref (q 0)), (1, .int x), (2, .int y), (3, .ref qo)]) hx hb d_L_lot_21 hl (by decide) rfl (fun ls hl => ?_)
      refine lv_iconst (v := nI 3) hx hb d_L_lot_23 (by decide) ?_
      have hP9 : va_P (dC, dI) classes (wX q cI (op_lot S x y).2.2 ++ [oC qo cJ (ov (op_lot S x y) f)]) H := by rw [st_lot h9, ov_n h9]; exact hP
      refine nv_as (nI (op_lot S x y).1) (by rw [hk]) ?_
      exact W.iret hx hb hr (fun t ht hW => ⟨rfl, by rw [ht]; exact hP9, hS.F ht⟩) hS.2.2 d_L_lot_24
  · refine W.eq (g2 := F0 m 8 ls [.int ((op_lot S x y).2.1), .int (nI 0), .ref qo]) rfl ?_
    refine lv_i2l (v := ((op_lot S x y).2.1).toInt64) hx hb d_L_lot_8 rfl ?_
    refine va_last (f := f) hx hb hK hP hD hS 18 1 rfl rfl (vp_in_nI (n := 0) (N := 1) (by decide) (by decide)) d_L_lot_9 (fun H locs hP hD hS => ?_)
    have hP : va_P (dC, dI) classes (wX q cI (op_lot S x y).2.2 ++ [oC qo cJ (vp_updL f 0 (((op_lot S x y).2.1).toInt64))]) H := hP
    refine lv_goto (tgt := 25) hx hb d_L_lot_10 (by decide) ?_
    refine lv_iconst (v := nI 0) hx hb d_L_lot_25 (by decide) ?_
    have hP9 : va_P (dC, dI) classes (wX q cI (op_lot S x y).2.2 ++ [oC qo cJ (ov (op_lot S x y) f)]) H := by rw [ov_y h9]; exact hP
    refine nv_as (nI (op_lot S x y).1) (by rw [h9]) ?_
    exact W.iret hx hb hr (fun t ht hW => ⟨rfl, by rw [ht]; exact hP9, hS.F ht⟩) hS.2.2 d_L_lot_26
set_option maxHeartbeats 4000000 in
set_option maxRecDepth 100000 in
theorem c_L_bring (l : Launch) (hst : l.stackTraces = false) (dC : Nat → ClassId) (dI : Nat → Nat → Nat) (A0 : Nat → Prop) (sz : Nat) (cI : ClassId) (q : Nat → Nat) (cJ : ClassId) (qo : Nat) (f : Nat → Int64) (S : St) (t : Nat) (hI : Bd t S) (x y n : Int32) : Met l y_L_bring (.codeWith y_L_bring b_L_bring 6 (some .int) [(0, 12, 15, 19), (0, 12, 19, 21), (0, 12, 23, 13)] :: bg) { frames := 9, cells := 4, slots := 24, locals := 155 } (wl_P (dC, dI) classes [(cI, .int), (cJ, .long)] A0 (wX q cI S ++ [oC qo cJ f]) sz [.ref (q 0), .int x, .int y, .int n, .ref qo]) (wr_Q (some (.int (nI (op_bring S x y n).1))) (dC, dI) classes (wX q cI (op_bring S x y n).2.2 ++ [oC qo cJ (ov (op_bring S x y n) f)]) (va_A (wX q cI S ++ [oC qo cJ f]) sz)) 4 24 (va_A (wX q cI S ++ [oC qo cJ f]) sz) := by
  refine va_MetW (cc := b_L_bring) (maxL := 6) (ret := some .int) (hh := [(0, 12, 15, 19), (0, 12, 19, 21), (0, 12, 23, 13)]) (by decide) rfl ?_
  intro p e s m args below meth c s₁ B hml hv
  obtain ⟨rfl, hsz, hP, hK, hD0, hG, hN⟩ := hv
  subst hsz
  have hD := hD0.self (sz := s.heap.size)
  generalize hAe : va_A (wX q cI S ++ [oC qo cJ f]) s.heap.size = A at hD ⊢
  have hA : ∀ q : Nat, s.heap.size ≤ q → A q := fun q h => by rw [← hAe]; exact Or.inr h
  have hS : va_S A s.heap s.heap [] := va_S.rf
  have hx := B.exec
  have hb := B.bytes
  have hr := B.returns
  have hts := fun w (h : w ∈ bg) => atoms_spec (ws := .codeWith y_L_bring b_L_bring 6 (some .int) [(0, 12, 15, 19), (0, 12, 19, 21), (0, 12, 23, 13)] :: bg) B.pre w (List.mem_cons_of_mem _ h)
  have htab := vx_table (x := y_L_bring) B (hts _ wd_278)
  have hown : s.vm.findClass R_L = some m.cls := findClass_of_methodNamed B.named
  have hl := lv_entry ([.ref (q 0), .int x, .int y, .int n, .ref qo]) (n := 6) (Nat.le_of_ble_eq_true rfl)
  rw [lg_entry_eq]
  generalize (lg_sl ([.ref (q 0), .int x, .int y, .int n, .ref qo]) ++ List.replicate (6 - (lg_sl ([.ref (q 0), .int x, .int y, .int n, .ref qo])).length) Slot.unset).toArray = ls at hl ⊢
  have hl : lv_has ls 6 [(0, .ref (q 0)), (1, .int x), (2, .int y), (3, .int n), (4, .ref qo)] := hl
  refine lv_aload hx hb d_L_bring_0 (lv_at hl 4 rfl) ?_
  refine lv_iconst (v := nI 0) hx hb d_L_bring_2 (by decide) ?_
  refine lv_aload_n hx hb d_L_bring_3 rfl (lv_at hl 0 rfl) ?_
  refine lv_iload_n hx hb d_L_bring_4 rfl (lv_at hl 1 rfl) ?_
  refine lv_iload_n hx hb d_L_bring_5 rfl (lv_at hl 2 rfl) ?_
  refine lv_iload_n hx hb d_L_bring_6 rfl (lv_at hl 3 rfl) ?_
  refine xo_go (vx_runV (As := [.int x, .int y, .int n]) (rest := [.int (nI 0), .ref qo]) ⟨hx, hb, hml, hown, hts⟩ (c_X_bring l hst dC dI A0 s.heap.size cI q S t hI x y n ) (cwV 3 hts (gi_V wd_279 wd_280 wd_281 wd_1 wd_282) rfl rfl rfl (by decide +kernel) ⟨Nat.le_of_ble_eq_true rfl, Nat.le_of_ble_eq_true rfl⟩) (xo_preV (hK.sub (tys' := [(cI, .int)]) [0] rfl) (P_l hP) (D_l hD) hG (ci := 0) (q0 := 0) rfl rfl) rfl rfl hl.1 rfl (lv_room (Nat.le_of_ble_eq_true rfl)) d_L_bring_7 ⟨Nat.le_of_ble_eq_true rfl, Nat.le_of_ble_eq_true rfl⟩) hP hD hS hA wX_adr (fun h9 E hE ce q9 H locs hP hS h3 h4 h5 => ?_) (fun h9 H locs hP hD hS => ?_)
  · have hle := ex_lt hE h9
    have hle : (op_bring S x y n).1 ≤ 3 := hle
    rcases (show (op_bring S x y n).1 = 1 ∨ (op_bring S x y n).1 = 2 ∨ (op_bring S x y n).1 = 3 by omega) with hk | hk | hk
    · obtain rfl : E_ia = E := by rw [hk] at hE; exact Option.some.inj hE
      refine vx_catch hown [] ⟨0, 12, 15, 19⟩ [⟨0, 12, 19, 21⟩, ⟨0, 12, 23, 13⟩] (htab.trans rfl) (fun z hz => nomatch hz) (by decide) (by decide) (hts _ wd_228) (hard_use rfl (hG.2.2.1 _ cs_ia rfl)) h3 h4 h5 ?_
      refine lv_astore (lv' := [(5, .ref q9), (0, .ref (q 0)), (1, .int x), (2, .int y), (3, .int n), (4, .ref qo)]) hx hb d_L_bring_15 hl (by decide) rfl (fun ls hl => ?_)
      refine lv_iconst (v := nI 1) hx hb d_L_bring_17 (by decide) ?_
      have hP9 : va_P (dC, dI) classes (wX q cI (op_bring S x y n).2.2 ++ [oC qo cJ (ov (op_bring S x y n) f)]) H := by rw [st_bring h9, ov_n h9]; exact hP
      refine nv_as (nI (op_bring S x y n).1) (by rw [hk]) ?_
      exact W.iret hx hb hr (fun t ht hW => ⟨rfl, by rw [ht]; exact hP9, hS.F ht⟩) hS.2.2 d_L_bring_18
    · obtain rfl : E_io = E := by rw [hk] at hE; exact Option.some.inj hE
      refine vx_catch hown [⟨0, 12, 15, 19⟩] ⟨0, 12, 19, 21⟩ [⟨0, 12, 23, 13⟩] (htab.trans rfl) (cp_1 (⟨by decide, E_ia, hts _ wd_228, hN _ (by decide) _ (by decide) (by decide)⟩)) (by decide) (by decide) (hts _ wd_229) (hard_use rfl (hG.2.2.1 _ cs_io rfl)) h3 h4 h5 ?_
      refine lv_astore (lv' := [(5, .ref q9), (0, .ref (q 0)), (1, .int x), (2, .int y), (3, .int n), (4, .ref qo)]) hx hb d_L_bring_19 hl (by decide) rfl (fun ls hl => ?_)
      refine lv_iconst (v := nI 2) hx hb d_L_bring_21 (by decide) ?_
      have hP9 : va_P (dC, dI) classes (wX q cI (op_bring S x y n).2.2 ++ [oC qo cJ (ov (op_bring S x y n) f)]) H := by rw [st_bring h9, ov_n h9]; exact hP
      refine nv_as (nI (op_bring S x y n).1) (by rw [hk]) ?_
      exact W.iret hx hb hr (fun t ht hW => ⟨rfl, by rw [ht]; exact hP9, hS.F ht⟩) hS.2.2 d_L_bring_22
    · obtain rfl : E_uo = E := by rw [hk] at hE; exact Option.some.inj hE
      refine vx_catch hown [⟨0, 12, 15, 19⟩, ⟨0, 12, 19, 21⟩] ⟨0, 12, 23, 13⟩ [] (htab.trans rfl) (cp_2 (⟨by decide, E_ia, hts _ wd_228, hN _ (by decide) _ (by decide) (by decide)⟩) (⟨by decide, E_io, hts _ wd_229, hN _ (by decide) _ (by decide) (by decide)⟩)) (by decide) (by decide) (hts _ wd_151) (hard_use rfl (hG.2.2.1 _ cs_uo rfl)) h3 h4 h5 ?_
      refine lv_astore (lv' := [(5, .ref q9), (0, .ref (q 0)), (1, .int x), (2, .int y), (3, .int n), (4, .ref qo)]) hx hb d_L_bring_23 hl (by decide) rfl (fun ls hl => ?_)
      refine lv_iconst (v := nI 3) hx hb d_L_bring_25 (by decide) ?_
      have hP9 : va_P (dC, dI) classes (wX q cI (op_bring S x y n).2.2 ++ [oC qo cJ (ov (op_bring S x y n) f)]) H := by rw [st_bring h9, ov_n h9]; exact hP
      refine nv_as (nI (op_bring S x y n).1) (by rw [hk]) ?_
      exact W.iret hx hb hr (fun t ht hW => ⟨rfl, by rw [ht]; exact hP9, hS.F ht⟩) hS.2.2 d_L_bring_26
  · refine W.eq (g2 := F0 m 10 ls [.int ((op_bring S x y n).2.1), .int (nI 0), .ref qo]) rfl ?_
    refine lv_i2l (v := ((op_bring S x y n).2.1).toInt64) hx hb d_L_bring_10 rfl ?_
    refine va_last (f := f) hx hb hK hP hD hS 18 1 rfl rfl (vp_in_nI (n := 0) (N := 1) (by decide) (by decide)) d_L_bring_11 (fun H locs hP hD hS => ?_)
    have hP : va_P (dC, dI) classes (wX q cI (op_bring S x y n).2.2 ++ [oC qo cJ (vp_updL f 0 (((op_bring S x y n).2.1).toInt64))]) H := hP
    refine lv_goto (tgt := 27) hx hb d_L_bring_12 (by decide) ?_
    refine lv_iconst (v := nI 0) hx hb d_L_bring_27 (by decide) ?_
    have hP9 : va_P (dC, dI) classes (wX q cI (op_bring S x y n).2.2 ++ [oC qo cJ (ov (op_bring S x y n) f)]) H := by rw [ov_y h9]; exact hP
    refine nv_as (nI (op_bring S x y n).1) (by rw [h9]) ?_
    exact W.iret hx hb hr (fun t ht hW => ⟨rfl, by rw [ht]; exact hP9, hS.F ht⟩) hS.2.2 d_L_bring_28
set_option maxHeartbeats 4000000 in
set_option maxRecDepth 100000 in
theorem c_L_move (l : Launch) (hst : l.stackTraces = false) (dC : Nat → ClassId) (dI : Nat → Nat → Nat) (A0 : Nat → Prop) (sz : Nat) (cI : ClassId) (q : Nat → Nat) (cJ : ClassId) (qo : Nat) (f : Nat → Int64) (S : St) (t : Nat) (hI : Bd t S) (x y w n d : Int32) : Met l y_L_move (.codeWith y_L_move b_L_move 8 (some .int) [(0, 16, 19, 19), (0, 16, 23, 21), (0, 16, 27, 31), (0, 16, 31, 13)] :: bg) { frames := 9, cells := 8, slots := 48, locals := 158 } (wl_P (dC, dI) classes [(cI, .int), (cJ, .long)] A0 (wX q cI S ++ [oC qo cJ f]) sz [.ref (q 0), .int x, .int y, .int w, .int n, .int d, .ref qo]) (wr_Q (some (.int (nI (op_move S x y w n d).1))) (dC, dI) classes (wX q cI (op_move S x y w n d).2.2 ++ [oC qo cJ (ov (op_move S x y w n d) f)]) (va_A (wX q cI S ++ [oC qo cJ f]) sz)) 8 48 (va_A (wX q cI S ++ [oC qo cJ f]) sz) := by
  refine va_MetW (cc := b_L_move) (maxL := 8) (ret := some .int) (hh := [(0, 16, 19, 19), (0, 16, 23, 21), (0, 16, 27, 31), (0, 16, 31, 13)]) (by decide) rfl ?_
  intro p e s m args below meth c s₁ B hml hv
  obtain ⟨rfl, hsz, hP, hK, hD0, hG, hN⟩ := hv
  subst hsz
  have hD := hD0.self (sz := s.heap.size)
  generalize hAe : va_A (wX q cI S ++ [oC qo cJ f]) s.heap.size = A at hD ⊢
  have hA : ∀ q : Nat, s.heap.size ≤ q → A q := fun q h => by rw [← hAe]; exact Or.inr h
  have hS : va_S A s.heap s.heap [] := va_S.rf
  have hx := B.exec
  have hb := B.bytes
  have hr := B.returns
  have hts := fun w (h : w ∈ bg) => atoms_spec (ws := .codeWith y_L_move b_L_move 8 (some .int) [(0, 16, 19, 19), (0, 16, 23, 21), (0, 16, 27, 31), (0, 16, 31, 13)] :: bg) B.pre w (List.mem_cons_of_mem _ h)
  have htab := vx_table (x := y_L_move) B (hts _ wd_311)
  have hown : s.vm.findClass R_L = some m.cls := findClass_of_methodNamed B.named
  have hl := lv_entry ([.ref (q 0), .int x, .int y, .int w, .int n, .int d, .ref qo]) (n := 8) (Nat.le_of_ble_eq_true rfl)
  rw [lg_entry_eq]
  generalize (lg_sl ([.ref (q 0), .int x, .int y, .int w, .int n, .int d, .ref qo]) ++ List.replicate (8 - (lg_sl ([.ref (q 0), .int x, .int y, .int w, .int n, .int d, .ref qo])).length) Slot.unset).toArray = ls at hl ⊢
  have hl : lv_has ls 8 [(0, .ref (q 0)), (1, .int x), (2, .int y), (3, .int w), (4, .int n), (5, .int d), (6, .ref qo)] := hl
  refine lv_aload hx hb d_L_move_0 (lv_at hl 6 rfl) ?_
  refine lv_iconst (v := nI 0) hx hb d_L_move_2 (by decide) ?_
  refine lv_aload_n hx hb d_L_move_3 rfl (lv_at hl 0 rfl) ?_
  refine lv_iload_n hx hb d_L_move_4 rfl (lv_at hl 1 rfl) ?_
  refine lv_iload_n hx hb d_L_move_5 rfl (lv_at hl 2 rfl) ?_
  refine lv_iload_n hx hb d_L_move_6 rfl (lv_at hl 3 rfl) ?_
  refine lv_iload hx hb d_L_move_7 (lv_at hl 4 rfl) ?_
  refine lv_iload hx hb d_L_move_9 (lv_at hl 5 rfl) ?_
  refine xo_go (vx_runV (As := [.int x, .int y, .int w, .int n, .int d]) (rest := [.int (nI 0), .ref qo]) ⟨hx, hb, hml, hown, hts⟩ (c_X_move l hst dC dI A0 s.heap.size cI q S t hI x y w n d ) (cwV 5 hts (gi_V wd_313 wd_314 wd_315 wd_1 wd_316) rfl rfl rfl (by decide +kernel) ⟨Nat.le_of_ble_eq_true rfl, Nat.le_of_ble_eq_true rfl⟩) (xo_preV (hK.sub (tys' := [(cI, .int)]) [0] rfl) (P_l hP) (D_l hD) hG (ci := 0) (q0 := 0) rfl rfl) rfl rfl hl.1 rfl (lv_room (Nat.le_of_ble_eq_true rfl)) d_L_move_11 ⟨Nat.le_of_ble_eq_true rfl, Nat.le_of_ble_eq_true rfl⟩) hP hD hS hA wX_adr (fun h9 E hE ce q9 H locs hP hS h3 h4 h5 => ?_) (fun h9 H locs hP hD hS => ?_)
  · have hle := ex_lt hE h9
    have hle : (op_move S x y w n d).1 ≤ 4 := hle
    rcases (show (op_move S x y w n d).1 = 1 ∨ (op_move S x y w n d).1 = 2 ∨ (op_move S x y w n d).1 = 3 ∨ (op_move S x y w n d).1 = 4 by omega) with hk | hk | hk | hk
    · obtain rfl : E_ia = E := by rw [hk] at hE; exact Option.some.inj hE
      refine vx_catch hown [] ⟨0, 16, 19, 19⟩ [⟨0, 16, 23, 21⟩, ⟨0, 16, 27, 31⟩, ⟨0, 16, 31, 13⟩] (htab.trans rfl) (fun z hz => nomatch hz) (by decide) (by decide) (hts _ wd_228) (hard_use rfl (hG.2.2.1 _ cs_ia rfl)) h3 h4 h5 ?_
      refine lv_astore (lv' := [(7, .ref q9), (0, .ref (q 0)), (1, .int x), (2, .int y), (3, .int w), (4, .int n), (5, .int d), (6, .ref qo)]) hx hb d_L_move_19 hl (by decide) rfl (fun ls hl => ?_)
      refine lv_iconst (v := nI 1) hx hb d_L_move_21 (by decide) ?_
      have hP9 : va_P (dC, dI) classes (wX q cI (op_move S x y w n d).2.2 ++ [oC qo cJ (ov (op_move S x y w n d) f)]) H := by rw [st_move h9, ov_n h9]; exact hP
      refine nv_as (nI (op_move S x y w n d).1) (by rw [hk]) ?_
      exact W.iret hx hb hr (fun t ht hW => ⟨rfl, by rw [ht]; exact hP9, hS.F ht⟩) hS.2.2 d_L_move_22
    · obtain rfl : E_io = E := by rw [hk] at hE; exact Option.some.inj hE
      refine vx_catch hown [⟨0, 16, 19, 19⟩] ⟨0, 16, 23, 21⟩ [⟨0, 16, 27, 31⟩, ⟨0, 16, 31, 13⟩] (htab.trans rfl) (cp_1 (⟨by decide, E_ia, hts _ wd_228, hN _ (by decide) _ (by decide) (by decide)⟩)) (by decide) (by decide) (hts _ wd_229) (hard_use rfl (hG.2.2.1 _ cs_io rfl)) h3 h4 h5 ?_
      refine lv_astore (lv' := [(7, .ref q9), (0, .ref (q 0)), (1, .int x), (2, .int y), (3, .int w), (4, .int n), (5, .int d), (6, .ref qo)]) hx hb d_L_move_23 hl (by decide) rfl (fun ls hl => ?_)
      refine lv_iconst (v := nI 2) hx hb d_L_move_25 (by decide) ?_
      have hP9 : va_P (dC, dI) classes (wX q cI (op_move S x y w n d).2.2 ++ [oC qo cJ (ov (op_move S x y w n d) f)]) H := by rw [st_move h9, ov_n h9]; exact hP
      refine nv_as (nI (op_move S x y w n d).1) (by rw [hk]) ?_
      exact W.iret hx hb hr (fun t ht hW => ⟨rfl, by rw [ht]; exact hP9, hS.F ht⟩) hS.2.2 d_L_move_26
    · obtain rfl : E_is = E := by rw [hk] at hE; exact Option.some.inj hE
      refine vx_catch hown [⟨0, 16, 19, 19⟩, ⟨0, 16, 23, 21⟩] ⟨0, 16, 27, 31⟩ [⟨0, 16, 31, 13⟩] (htab.trans rfl) (cp_2 (⟨by decide, E_ia, hts _ wd_228, hN _ (by decide) _ (by decide) (by decide)⟩) (⟨by decide, E_io, hts _ wd_229, hN _ (by decide) _ (by decide) (by decide)⟩)) (by decide) (by decide) (hts _ wd_312) (hard_use rfl (hG.2.2.1 _ cs_is rfl)) h3 h4 h5 ?_
      refine lv_astore (lv' := [(7, .ref q9), (0, .ref (q 0)), (1, .int x), (2, .int y), (3, .int w), (4, .int n), (5, .int d), (6, .ref qo)]) hx hb d_L_move_27 hl (by decide) rfl (fun ls hl => ?_)
      refine lv_iconst (v := nI 3) hx hb d_L_move_29 (by decide) ?_
      have hP9 : va_P (dC, dI) classes (wX q cI (op_move S x y w n d).2.2 ++ [oC qo cJ (ov (op_move S x y w n d) f)]) H := by rw [st_move h9, ov_n h9]; exact hP
      refine nv_as (nI (op_move S x y w n d).1) (by rw [hk]) ?_
      exact W.iret hx hb hr (fun t ht hW => ⟨rfl, by rw [ht]; exact hP9, hS.F ht⟩) hS.2.2 d_L_move_30
    · obtain rfl : E_uo = E := by rw [hk] at hE; exact Option.some.inj hE
      refine vx_catch hown [⟨0, 16, 19, 19⟩, ⟨0, 16, 23, 21⟩, ⟨0, 16, 27, 31⟩] ⟨0, 16, 31, 13⟩ [] (htab.trans rfl) (cp_3 (⟨by decide, E_ia, hts _ wd_228, hN _ (by decide) _ (by decide) (by decide)⟩) (⟨by decide, E_io, hts _ wd_229, hN _ (by decide) _ (by decide) (by decide)⟩) (⟨by decide, E_is, hts _ wd_312, hN _ (by decide) _ (by decide) (by decide)⟩)) (by decide) (by decide) (hts _ wd_151) (hard_use rfl (hG.2.2.1 _ cs_uo rfl)) h3 h4 h5 ?_
      refine lv_astore (lv' := [(7, .ref q9), (0, .ref (q 0)), (1, .int x), (2, .int y), (3, .int w), (4, .int n), (5, .int d), (6, .ref qo)]) hx hb d_L_move_31 hl (by decide) rfl (fun ls hl => ?_)
      refine lv_iconst (v := nI 4) hx hb d_L_move_33 (by decide) ?_
      have hP9 : va_P (dC, dI) classes (wX q cI (op_move S x y w n d).2.2 ++ [oC qo cJ (ov (op_move S x y w n d) f)]) H := by rw [st_move h9, ov_n h9]; exact hP
      refine nv_as (nI (op_move S x y w n d).1) (by rw [hk]) ?_
      exact W.iret hx hb hr (fun t ht hW => ⟨rfl, by rw [ht]; exact hP9, hS.F ht⟩) hS.2.2 d_L_move_34
  · refine W.eq (g2 := F0 m 14 ls [.int ((op_move S x y w n d).2.1), .int (nI 0), .ref qo]) rfl ?_
    refine lv_i2l (v := ((op_move S x y w n d).2.1).toInt64) hx hb d_L_move_14 rfl ?_
    refine va_last (f := f) hx hb hK hP hD hS 18 1 rfl rfl (vp_in_nI (n := 0) (N := 1) (by decide) (by decide)) d_L_move_15 (fun H locs hP hD hS => ?_)
    have hP : va_P (dC, dI) classes (wX q cI (op_move S x y w n d).2.2 ++ [oC qo cJ (vp_updL f 0 (((op_move S x y w n d).2.1).toInt64))]) H := hP
    refine lv_goto (tgt := 35) hx hb d_L_move_16 (by decide) ?_
    refine lv_iconst (v := nI 0) hx hb d_L_move_35 (by decide) ?_
    have hP9 : va_P (dC, dI) classes (wX q cI (op_move S x y w n d).2.2 ++ [oC qo cJ (ov (op_move S x y w n d) f)]) H := by rw [ov_y h9]; exact hP
    refine nv_as (nI (op_move S x y w n d).1) (by rw [h9]) ?_
    exact W.iret hx hb hr (fun t ht hW => ⟨rfl, by rw [ht]; exact hP9, hS.F ht⟩) hS.2.2 d_L_move_36
set_option maxHeartbeats 4000000 in
set_option maxRecDepth 100000 in
theorem c_L_use (l : Launch) (hst : l.stackTraces = false) (dC : Nat → ClassId) (dI : Nat → Nat → Nat) (A0 : Nat → Prop) (sz : Nat) (cI : ClassId) (q : Nat → Nat) (cJ : ClassId) (qo : Nat) (f : Nat → Int64) (S : St) (t : Nat) (hI : Bd t S) (x y n : Int32) (hou : ∀ j, S.1 2 j + 9999 ≤ 9999 * t) : Met l y_L_use (.codeWith y_L_use b_L_use 6 (some .int) [(0, 12, 15, 19), (0, 12, 19, 21), (0, 12, 23, 31)] :: bg) { frames := 9, cells := 4, slots := 24, locals := 156 } (wl_P (dC, dI) classes [(cI, .int), (cJ, .long)] A0 (wX q cI S ++ [oC qo cJ f]) sz [.ref (q 0), .int x, .int y, .int n, .ref qo]) (wr_Q (some (.int (nI (op_use S x y n).1))) (dC, dI) classes (wX q cI (op_use S x y n).2.2 ++ [oC qo cJ (ov (op_use S x y n) f)]) (va_A (wX q cI S ++ [oC qo cJ f]) sz)) 4 24 (va_A (wX q cI S ++ [oC qo cJ f]) sz) := by
  refine va_MetW (cc := b_L_use) (maxL := 6) (ret := some .int) (hh := [(0, 12, 15, 19), (0, 12, 19, 21), (0, 12, 23, 31)]) (by decide) rfl ?_
  intro p e s m args below meth c s₁ B hml hv
  obtain ⟨rfl, hsz, hP, hK, hD0, hG, hN⟩ := hv
  subst hsz
  have hD := hD0.self (sz := s.heap.size)
  generalize hAe : va_A (wX q cI S ++ [oC qo cJ f]) s.heap.size = A at hD ⊢
  have hA : ∀ q : Nat, s.heap.size ≤ q → A q := fun q h => by rw [← hAe]; exact Or.inr h
  have hS : va_S A s.heap s.heap [] := va_S.rf
  have hx := B.exec
  have hb := B.bytes
  have hr := B.returns
  have hts := fun w (h : w ∈ bg) => atoms_spec (ws := .codeWith y_L_use b_L_use 6 (some .int) [(0, 12, 15, 19), (0, 12, 19, 21), (0, 12, 23, 31)] :: bg) B.pre w (List.mem_cons_of_mem _ h)
  have htab := vx_table (x := y_L_use) B (hts _ wd_352)
  have hown : s.vm.findClass R_L = some m.cls := findClass_of_methodNamed B.named
  have hl := lv_entry ([.ref (q 0), .int x, .int y, .int n, .ref qo]) (n := 6) (Nat.le_of_ble_eq_true rfl)
  rw [lg_entry_eq]
  generalize (lg_sl ([.ref (q 0), .int x, .int y, .int n, .ref qo]) ++ List.replicate (6 - (lg_sl ([.ref (q 0), .int x, .int y, .int n, .ref qo])).length) Slot.unset).toArray = ls at hl ⊢
  have hl : lv_has ls 6 [(0, .ref (q 0)), (1, .int x), (2, .int y), (3, .int n), (4, .ref qo)] := hl
  refine lv_aload hx hb d_L_use_0 (lv_at hl 4 rfl) ?_
  refine lv_iconst (v := nI 0) hx hb d_L_use_2 (by decide) ?_
  refine lv_aload_n hx hb d_L_use_3 rfl (lv_at hl 0 rfl) ?_
  refine lv_iload_n hx hb d_L_use_4 rfl (lv_at hl 1 rfl) ?_
  refine lv_iload_n hx hb d_L_use_5 rfl (lv_at hl 2 rfl) ?_
  refine lv_iload_n hx hb d_L_use_6 rfl (lv_at hl 3 rfl) ?_
  refine xo_go (vx_runV (As := [.int x, .int y, .int n]) (rest := [.int (nI 0), .ref qo]) ⟨hx, hb, hml, hown, hts⟩ (c_X_use l hst dC dI A0 s.heap.size cI q S t hI x y n hou) (cwV 3 hts (gi_V wd_353 wd_354 wd_355 wd_1 wd_356) rfl rfl rfl (by decide +kernel) ⟨Nat.le_of_ble_eq_true rfl, Nat.le_of_ble_eq_true rfl⟩) (xo_preV (hK.sub (tys' := [(cI, .int)]) [0] rfl) (P_l hP) (D_l hD) hG (ci := 0) (q0 := 0) rfl rfl) rfl rfl hl.1 rfl (lv_room (Nat.le_of_ble_eq_true rfl)) d_L_use_7 ⟨Nat.le_of_ble_eq_true rfl, Nat.le_of_ble_eq_true rfl⟩) hP hD hS hA wX_adr (fun h9 E hE ce q9 H locs hP hS h3 h4 h5 => ?_) (fun h9 H locs hP hD hS => ?_)
  · have hle := ex_lt hE h9
    have hle : (op_use S x y n).1 ≤ 3 := hle
    rcases (show (op_use S x y n).1 = 1 ∨ (op_use S x y n).1 = 2 ∨ (op_use S x y n).1 = 3 by omega) with hk | hk | hk
    · obtain rfl : E_ia = E := by rw [hk] at hE; exact Option.some.inj hE
      refine vx_catch hown [] ⟨0, 12, 15, 19⟩ [⟨0, 12, 19, 21⟩, ⟨0, 12, 23, 31⟩] (htab.trans rfl) (fun z hz => nomatch hz) (by decide) (by decide) (hts _ wd_228) (hard_use rfl (hG.2.2.1 _ cs_ia rfl)) h3 h4 h5 ?_
      refine lv_astore (lv' := [(5, .ref q9), (0, .ref (q 0)), (1, .int x), (2, .int y), (3, .int n), (4, .ref qo)]) hx hb d_L_use_15 hl (by decide) rfl (fun ls hl => ?_)
      refine lv_iconst (v := nI 1) hx hb d_L_use_17 (by decide) ?_
      have hP9 : va_P (dC, dI) classes (wX q cI (op_use S x y n).2.2 ++ [oC qo cJ (ov (op_use S x y n) f)]) H := by rw [st_use h9, ov_n h9]; exact hP
      refine nv_as (nI (op_use S x y n).1) (by rw [hk]) ?_
      exact W.iret hx hb hr (fun t ht hW => ⟨rfl, by rw [ht]; exact hP9, hS.F ht⟩) hS.2.2 d_L_use_18
    · obtain rfl : E_io = E := by rw [hk] at hE; exact Option.some.inj hE
      refine vx_catch hown [⟨0, 12, 15, 19⟩] ⟨0, 12, 19, 21⟩ [⟨0, 12, 23, 31⟩] (htab.trans rfl) (cp_1 (⟨by decide, E_ia, hts _ wd_228, hN _ (by decide) _ (by decide) (by decide)⟩)) (by decide) (by decide) (hts _ wd_229) (hard_use rfl (hG.2.2.1 _ cs_io rfl)) h3 h4 h5 ?_
      refine lv_astore (lv' := [(5, .ref q9), (0, .ref (q 0)), (1, .int x), (2, .int y), (3, .int n), (4, .ref qo)]) hx hb d_L_use_19 hl (by decide) rfl (fun ls hl => ?_)
      refine lv_iconst (v := nI 2) hx hb d_L_use_21 (by decide) ?_
      have hP9 : va_P (dC, dI) classes (wX q cI (op_use S x y n).2.2 ++ [oC qo cJ (ov (op_use S x y n) f)]) H := by rw [st_use h9, ov_n h9]; exact hP
      refine nv_as (nI (op_use S x y n).1) (by rw [hk]) ?_
      exact W.iret hx hb hr (fun t ht hW => ⟨rfl, by rw [ht]; exact hP9, hS.F ht⟩) hS.2.2 d_L_use_22
    · obtain rfl : E_is = E := by rw [hk] at hE; exact Option.some.inj hE
      refine vx_catch hown [⟨0, 12, 15, 19⟩, ⟨0, 12, 19, 21⟩] ⟨0, 12, 23, 31⟩ [] (htab.trans rfl) (cp_2 (⟨by decide, E_ia, hts _ wd_228, hN _ (by decide) _ (by decide) (by decide)⟩) (⟨by decide, E_io, hts _ wd_229, hN _ (by decide) _ (by decide) (by decide)⟩)) (by decide) (by decide) (hts _ wd_312) (hard_use rfl (hG.2.2.1 _ cs_is rfl)) h3 h4 h5 ?_
      refine lv_astore (lv' := [(5, .ref q9), (0, .ref (q 0)), (1, .int x), (2, .int y), (3, .int n), (4, .ref qo)]) hx hb d_L_use_23 hl (by decide) rfl (fun ls hl => ?_)
      refine lv_iconst (v := nI 3) hx hb d_L_use_25 (by decide) ?_
      have hP9 : va_P (dC, dI) classes (wX q cI (op_use S x y n).2.2 ++ [oC qo cJ (ov (op_use S x y n) f)]) H := by rw [st_use h9, ov_n h9]; exact hP
      refine nv_as (nI (op_use S x y n).1) (by rw [hk]) ?_
      exact W.iret hx hb hr (fun t ht hW => ⟨rfl, by rw [ht]; exact hP9, hS.F ht⟩) hS.2.2 d_L_use_26
  · refine W.eq (g2 := F0 m 10 ls [.int ((op_use S x y n).2.1), .int (nI 0), .ref qo]) rfl ?_
    refine lv_i2l (v := ((op_use S x y n).2.1).toInt64) hx hb d_L_use_10 rfl ?_
    refine va_last (f := f) hx hb hK hP hD hS 18 1 rfl rfl (vp_in_nI (n := 0) (N := 1) (by decide) (by decide)) d_L_use_11 (fun H locs hP hD hS => ?_)
    have hP : va_P (dC, dI) classes (wX q cI (op_use S x y n).2.2 ++ [oC qo cJ (vp_updL f 0 (((op_use S x y n).2.1).toInt64))]) H := hP
    refine lv_goto (tgt := 27) hx hb d_L_use_12 (by decide) ?_
    refine lv_iconst (v := nI 0) hx hb d_L_use_27 (by decide) ?_
    have hP9 : va_P (dC, dI) classes (wX q cI (op_use S x y n).2.2 ++ [oC qo cJ (ov (op_use S x y n) f)]) H := by rw [ov_y h9]; exact hP
    refine nv_as (nI (op_use S x y n).1) (by rw [h9]) ?_
    exact W.iret hx hb hr (fun t ht hW => ⟨rfl, by rw [ht]; exact hP9, hS.F ht⟩) hS.2.2 d_L_use_28
set_option maxHeartbeats 4000000 in
set_option maxRecDepth 100000 in
theorem c_L_sum (l : Launch) (hst : l.stackTraces = false) (dC : Nat → ClassId) (dI : Nat → Nat → Nat) (A0 : Nat → Prop) (sz : Nat) (cI : ClassId) (q : Nat → Nat) (cJ : ClassId) (qo : Nat) (f : Nat → Int64) (S : St) (t : Nat) (hI : Bd t S) (x y w : Int32) : Met l y_L_sum (.codeWith y_L_sum b_L_sum 6 (some .int) [(0, 12, 15, 19)] :: bg) { frames := 9, cells := 3, slots := 18, locals := 155 } (wl_P (dC, dI) classes [(cI, .int), (cJ, .long)] A0 (wX q cI S ++ [oC qo cJ f]) sz [.ref (q 0), .int x, .int y, .int w, .ref qo]) (wr_Q (some (.int (nI (op_sum S x y w).1))) (dC, dI) classes (wX q cI (op_sum S x y w).2.2 ++ [oC qo cJ (ov (op_sum S x y w) f)]) (va_A (wX q cI S ++ [oC qo cJ f]) sz)) 3 18 (va_A (wX q cI S ++ [oC qo cJ f]) sz) := by
  refine va_MetW (cc := b_L_sum) (maxL := 6) (ret := some .int) (hh := [(0, 12, 15, 19)]) (by decide) rfl ?_
  intro p e s m args below meth c s₁ B hml hv
  obtain ⟨rfl, hsz, hP, hK, hD0, hG, hN⟩ := hv
  subst hsz
  have hD := hD0.self (sz := s.heap.size)
  generalize hAe : va_A (wX q cI S ++ [oC qo cJ f]) s.heap.size = A at hD ⊢
  have hA : ∀ q : Nat, s.heap.size ≤ q → A q := fun q h => by rw [← hAe]; exact Or.inr h
  have hS : va_S A s.heap s.heap [] := va_S.rf
  have hx := B.exec
  have hb := B.bytes
  have hr := B.returns
  have hts := fun w (h : w ∈ bg) => atoms_spec (ws := .codeWith y_L_sum b_L_sum 6 (some .int) [(0, 12, 15, 19)] :: bg) B.pre w (List.mem_cons_of_mem _ h)
  have htab := vx_table (x := y_L_sum) B (hts _ wd_372)
  have hown : s.vm.findClass R_L = some m.cls := findClass_of_methodNamed B.named
  have hl := lv_entry ([.ref (q 0), .int x, .int y, .int w, .ref qo]) (n := 6) (Nat.le_of_ble_eq_true rfl)
  rw [lg_entry_eq]
  generalize (lg_sl ([.ref (q 0), .int x, .int y, .int w, .ref qo]) ++ List.replicate (6 - (lg_sl ([.ref (q 0), .int x, .int y, .int w, .ref qo])).length) Slot.unset).toArray = ls at hl ⊢
  have hl : lv_has ls 6 [(0, .ref (q 0)), (1, .int x), (2, .int y), (3, .int w), (4, .ref qo)] := hl
  refine lv_aload hx hb d_L_sum_0 (lv_at hl 4 rfl) ?_
  refine lv_iconst (v := nI 0) hx hb d_L_sum_2 (by decide) ?_
  refine lv_aload_n hx hb d_L_sum_3 rfl (lv_at hl 0 rfl) ?_
  refine lv_iload_n hx hb d_L_sum_4 rfl (lv_at hl 1 rfl) ?_
  refine lv_iload_n hx hb d_L_sum_5 rfl (lv_at hl 2 rfl) ?_
  refine lv_iload_n hx hb d_L_sum_6 rfl (lv_at hl 3 rfl) ?_
  refine xo_go (vx_runV (As := [.int x, .int y, .int w]) (rest := [.int (nI 0), .ref qo]) ⟨hx, hb, hml, hown, hts⟩ (c_X_sum l hst dC dI A0 s.heap.size cI q S t hI x y w ) (cwV 3 hts (gi_V wd_373 wd_374 wd_375 wd_1 wd_376) rfl rfl rfl (by decide +kernel) ⟨Nat.le_of_ble_eq_true rfl, Nat.le_of_ble_eq_true rfl⟩) (xo_preV (hK.sub (tys' := [(cI, .int)]) [0] rfl) (P_l hP) (D_l hD) hG (ci := 0) (q0 := 0) rfl rfl) rfl rfl hl.1 rfl (lv_room (Nat.le_of_ble_eq_true rfl)) d_L_sum_7 ⟨Nat.le_of_ble_eq_true rfl, Nat.le_of_ble_eq_true rfl⟩) hP hD hS hA wX_adr (fun h9 E hE ce q9 H locs hP hS h3 h4 h5 => ?_) (fun h9 H locs hP hD hS => ?_)
  · have hle := ex_lt hE h9
    have hle : (op_sum S x y w).1 ≤ 1 := hle
    rcases (show (op_sum S x y w).1 = 1 by omega) with hk
    · obtain rfl : E_ia = E := by rw [hk] at hE; exact Option.some.inj hE
      refine vx_catch hown [] ⟨0, 12, 15, 19⟩ [] (htab.trans rfl) (fun z hz => nomatch hz) (by decide) (by decide) (hts _ wd_228) (hard_use rfl (hG.2.2.1 _ cs_ia rfl)) h3 h4 h5 ?_
      refine lv_astore (lv' := [(5, .ref q9), (0, .ref (q 0)), (1, .int x), (2, .int y), (3, .int w), (4, .ref qo)]) hx hb d_L_sum_15 hl (by decide) rfl (fun ls hl => ?_)
      refine lv_iconst (v := nI 1) hx hb d_L_sum_17 (by decide) ?_
      have hP9 : va_P (dC, dI) classes (wX q cI (op_sum S x y w).2.2 ++ [oC qo cJ (ov (op_sum S x y w) f)]) H := by rw [st_sum h9, ov_n h9]; exact hP
      refine nv_as (nI (op_sum S x y w).1) (by rw [hk]) ?_
      exact W.iret hx hb hr (fun t ht hW => ⟨rfl, by rw [ht]; exact hP9, hS.F ht⟩) hS.2.2 d_L_sum_18
  · refine W.eq (g2 := F0 m 10 ls [.int ((op_sum S x y w).2.1), .int (nI 0), .ref qo]) rfl ?_
    refine lv_i2l (v := ((op_sum S x y w).2.1).toInt64) hx hb d_L_sum_10 rfl ?_
    refine va_last (f := f) hx hb hK hP hD hS 18 1 rfl rfl (vp_in_nI (n := 0) (N := 1) (by decide) (by decide)) d_L_sum_11 (fun H locs hP hD hS => ?_)
    have hP : va_P (dC, dI) classes (wX q cI (op_sum S x y w).2.2 ++ [oC qo cJ (vp_updL f 0 (((op_sum S x y w).2.1).toInt64))]) H := hP
    refine lv_goto (tgt := 19) hx hb d_L_sum_12 (by decide) ?_
    refine lv_iconst (v := nI 0) hx hb d_L_sum_19 (by decide) ?_
    have hP9 : va_P (dC, dI) classes (wX q cI (op_sum S x y w).2.2 ++ [oC qo cJ (ov (op_sum S x y w) f)]) H := by rw [ov_y h9]; exact hP
    refine nv_as (nI (op_sum S x y w).1) (by rw [h9]) ?_
    exact W.iret hx hb hr (fun t ht hW => ⟨rfl, by rw [ht]; exact hP9, hS.F ht⟩) hS.2.2 d_L_sum_20
set_option maxHeartbeats 4000000 in
set_option maxRecDepth 100000 in
theorem c_L_has (l : Launch) (hst : l.stackTraces = false) (dC : Nat → ClassId) (dI : Nat → Nat → Nat) (A0 : Nat → Prop) (sz : Nat) (cI : ClassId) (q : Nat → Nat) (cJ : ClassId) (qo : Nat) (f : Nat → Int64) (S : St) (t : Nat) (hI : Bd t S) (x y : Int32) : Met l y_L_has (.codeWith y_L_has b_L_has 5 (some .int) [(0, 10, 13, 19)] :: bg) { frames := 9, cells := 2, slots := 12, locals := 154 } (wl_P (dC, dI) classes [(cI, .int), (cJ, .long)] A0 (wX q cI S ++ [oC qo cJ f]) sz [.ref (q 0), .int x, .int y, .ref qo]) (wr_Q (some (.int (nI (op_has S x y).1))) (dC, dI) classes (wX q cI (op_has S x y).2.2 ++ [oC qo cJ (ov (op_has S x y) f)]) (va_A (wX q cI S ++ [oC qo cJ f]) sz)) 2 12 (va_A (wX q cI S ++ [oC qo cJ f]) sz) := by
  refine va_MetW (cc := b_L_has) (maxL := 5) (ret := some .int) (hh := [(0, 10, 13, 19)]) (by decide) rfl ?_
  intro p e s m args below meth c s₁ B hml hv
  obtain ⟨rfl, hsz, hP, hK, hD0, hG, hN⟩ := hv
  subst hsz
  have hD := hD0.self (sz := s.heap.size)
  generalize hAe : va_A (wX q cI S ++ [oC qo cJ f]) s.heap.size = A at hD ⊢
  have hA : ∀ q : Nat, s.heap.size ≤ q → A q := fun q h => by rw [← hAe]; exact Or.inr h
  have hS : va_S A s.heap s.heap [] := va_S.rf
  have hx := B.exec
  have hb := B.bytes
  have hr := B.returns
  have hts := fun w (h : w ∈ bg) => atoms_spec (ws := .codeWith y_L_has b_L_has 5 (some .int) [(0, 10, 13, 19)] :: bg) B.pre w (List.mem_cons_of_mem _ h)
  have htab := vx_table (x := y_L_has) B (hts _ wd_380)
  have hown : s.vm.findClass R_L = some m.cls := findClass_of_methodNamed B.named
  have hl := lv_entry ([.ref (q 0), .int x, .int y, .ref qo]) (n := 5) (Nat.le_of_ble_eq_true rfl)
  rw [lg_entry_eq]
  generalize (lg_sl ([.ref (q 0), .int x, .int y, .ref qo]) ++ List.replicate (5 - (lg_sl ([.ref (q 0), .int x, .int y, .ref qo])).length) Slot.unset).toArray = ls at hl ⊢
  have hl : lv_has ls 5 [(0, .ref (q 0)), (1, .int x), (2, .int y), (3, .ref qo)] := hl
  refine lv_aload_n hx hb d_L_has_0 rfl (lv_at hl 3 rfl) ?_
  refine lv_iconst (v := nI 0) hx hb d_L_has_1 (by decide) ?_
  refine lv_aload_n hx hb d_L_has_2 rfl (lv_at hl 0 rfl) ?_
  refine lv_iload_n hx hb d_L_has_3 rfl (lv_at hl 1 rfl) ?_
  refine lv_iload_n hx hb d_L_has_4 rfl (lv_at hl 2 rfl) ?_
  refine xo_go (vx_runV (As := [.int x, .int y]) (rest := [.int (nI 0), .ref qo]) ⟨hx, hb, hml, hown, hts⟩ (c_X_has l hst dC dI A0 s.heap.size cI q S t hI x y ) (cwV 2 hts (gi_V wd_381 wd_382 wd_383 wd_1 wd_384) rfl rfl rfl (by decide +kernel) ⟨Nat.le_of_ble_eq_true rfl, Nat.le_of_ble_eq_true rfl⟩) (xo_preV (hK.sub (tys' := [(cI, .int)]) [0] rfl) (P_l hP) (D_l hD) hG (ci := 0) (q0 := 0) rfl rfl) rfl rfl hl.1 rfl (lv_room (Nat.le_of_ble_eq_true rfl)) d_L_has_5 ⟨Nat.le_of_ble_eq_true rfl, Nat.le_of_ble_eq_true rfl⟩) hP hD hS hA wX_adr (fun h9 E hE ce q9 H locs hP hS h3 h4 h5 => ?_) (fun h9 H locs hP hD hS => ?_)
  · have hle := ex_lt hE h9
    have hle : (op_has S x y).1 ≤ 1 := hle
    rcases (show (op_has S x y).1 = 1 by omega) with hk
    · obtain rfl : E_ia = E := by rw [hk] at hE; exact Option.some.inj hE
      refine vx_catch hown [] ⟨0, 10, 13, 19⟩ [] (htab.trans rfl) (fun z hz => nomatch hz) (by decide) (by decide) (hts _ wd_228) (hard_use rfl (hG.2.2.1 _ cs_ia rfl)) h3 h4 h5 ?_
      refine lv_astore (lv' := [(4, .ref q9), (0, .ref (q 0)), (1, .int x), (2, .int y), (3, .ref qo)]) hx hb d_L_has_13 hl (by decide) rfl (fun ls hl => ?_)
      refine lv_iconst (v := nI 1) hx hb d_L_has_15 (by decide) ?_
      have hP9 : va_P (dC, dI) classes (wX q cI (op_has S x y).2.2 ++ [oC qo cJ (ov (op_has S x y) f)]) H := by rw [st_has h9, ov_n h9]; exact hP
      refine nv_as (nI (op_has S x y).1) (by rw [hk]) ?_
      exact W.iret hx hb hr (fun t ht hW => ⟨rfl, by rw [ht]; exact hP9, hS.F ht⟩) hS.2.2 d_L_has_16
  · refine W.eq (g2 := F0 m 8 ls [.int ((op_has S x y).2.1), .int (nI 0), .ref qo]) rfl ?_
    refine lv_i2l (v := ((op_has S x y).2.1).toInt64) hx hb d_L_has_8 rfl ?_
    refine va_last (f := f) hx hb hK hP hD hS 18 1 rfl rfl (vp_in_nI (n := 0) (N := 1) (by decide) (by decide)) d_L_has_9 (fun H locs hP hD hS => ?_)
    have hP : va_P (dC, dI) classes (wX q cI (op_has S x y).2.2 ++ [oC qo cJ (vp_updL f 0 (((op_has S x y).2.1).toInt64))]) H := hP
    refine lv_goto (tgt := 17) hx hb d_L_has_10 (by decide) ?_
    refine lv_iconst (v := nI 0) hx hb d_L_has_17 (by decide) ?_
    have hP9 : va_P (dC, dI) classes (wX q cI (op_has S x y).2.2 ++ [oC qo cJ (ov (op_has S x y) f)]) H := by rw [ov_y h9]; exact hP
    refine nv_as (nI (op_has S x y).1) (by rw [h9]) ?_
    exact W.iret hx hb hr (fun t ht hW => ⟨rfl, by rw [ht]; exact hP9, hS.F ht⟩) hS.2.2 d_L_has_18
set_option maxHeartbeats 4000000 in
set_option maxRecDepth 100000 in
theorem c_L_level (l : Launch) (hst : l.stackTraces = false) (dC : Nat → ClassId) (dI : Nat → Nat → Nat) (A0 : Nat → Prop) (sz : Nat) (cI : ClassId) (q : Nat → Nat) (S : St) (t : Nat) (hI : Bd t S) (x y a b : Int32) : Met l y_L_level (.codeWith y_L_level b_L_level 6 (some .int) [(0, 9, 12, 19), (0, 9, 16, 21)] :: bg) { frames := 9, cells := 4, slots := 24, locals := 156 } (wl_P (dC, dI) classes [(cI, .int)] A0 (wX q cI S ++ []) sz [.ref (q 0), .int x, .int y, .int a, .int b]) (wr_Q (some (.int (nI (op_level S x y a b).1))) (dC, dI) classes (wX q cI (op_level S x y a b).2.2 ++ []) (va_A (wX q cI S ++ []) sz)) 4 24 (va_A (wX q cI S ++ []) sz) := by
  refine va_MetW (cc := b_L_level) (maxL := 6) (ret := some .int) (hh := [(0, 9, 12, 19), (0, 9, 16, 21)]) (by decide) rfl ?_
  intro p e s m args below meth c s₁ B hml hv
  obtain ⟨rfl, hsz, hP, hK, hD0, hG, hN⟩ := hv
  subst hsz
  have hD := hD0.self (sz := s.heap.size)
  generalize hAe : va_A (wX q cI S ++ []) s.heap.size = A at hD ⊢
  have hA : ∀ q : Nat, s.heap.size ≤ q → A q := fun q h => by rw [← hAe]; exact Or.inr h
  have hS : va_S A s.heap s.heap [] := va_S.rf
  have hx := B.exec
  have hb := B.bytes
  have hr := B.returns
  have hts := fun w (h : w ∈ bg) => atoms_spec (ws := .codeWith y_L_level b_L_level 6 (some .int) [(0, 9, 12, 19), (0, 9, 16, 21)] :: bg) B.pre w (List.mem_cons_of_mem _ h)
  have htab := vx_table (x := y_L_level) B (hts _ wd_387)
  have hown : s.vm.findClass R_L = some m.cls := findClass_of_methodNamed B.named
  have hl := lv_entry ([.ref (q 0), .int x, .int y, .int a, .int b]) (n := 6) (Nat.le_of_ble_eq_true rfl)
  rw [lg_entry_eq]
  generalize (lg_sl ([.ref (q 0), .int x, .int y, .int a, .int b]) ++ List.replicate (6 - (lg_sl ([.ref (q 0), .int x, .int y, .int a, .int b])).length) Slot.unset).toArray = ls at hl ⊢
  have hl : lv_has ls 6 [(0, .ref (q 0)), (1, .int x), (2, .int y), (3, .int a), (4, .int b)] := hl
  refine lv_aload_n hx hb d_L_level_0 rfl (lv_at hl 0 rfl) ?_
  refine lv_iload_n hx hb d_L_level_1 rfl (lv_at hl 1 rfl) ?_
  refine lv_iload_n hx hb d_L_level_2 rfl (lv_at hl 2 rfl) ?_
  refine lv_iload_n hx hb d_L_level_3 rfl (lv_at hl 3 rfl) ?_
  refine lv_iload hx hb d_L_level_4 (lv_at hl 4 rfl) ?_
  refine xo_go (vx_runV (As := [.int x, .int y, .int a, .int b]) (rest := []) ⟨hx, hb, hml, hown, hts⟩ (c_X_level l hst dC dI A0 s.heap.size cI q S t hI x y a b ) (cwV 4 hts (gi_V wd_388 wd_389 wd_390 wd_1 wd_391) rfl rfl rfl (by decide +kernel) ⟨Nat.le_of_ble_eq_true rfl, Nat.le_of_ble_eq_true rfl⟩) (xo_preV (hK.sub (tys' := [(cI, .int)]) [0] rfl) (P_l hP) (D_l hD) hG (ci := 0) (q0 := 0) rfl rfl) rfl rfl hl.1 rfl (lv_room (Nat.le_of_ble_eq_true rfl)) d_L_level_6 ⟨Nat.le_of_ble_eq_true rfl, Nat.le_of_ble_eq_true rfl⟩) hP hD hS hA wX_adr (fun h9 E hE ce q9 H locs hP hS h3 h4 h5 => ?_) (fun h9 H locs hP hD hS => ?_)
  · have hle := ex_lt hE h9
    have hle : (op_level S x y a b).1 ≤ 2 := hle
    rcases (show (op_level S x y a b).1 = 1 ∨ (op_level S x y a b).1 = 2 by omega) with hk | hk
    · obtain rfl : E_ia = E := by rw [hk] at hE; exact Option.some.inj hE
      refine vx_catch hown [] ⟨0, 9, 12, 19⟩ [⟨0, 9, 16, 21⟩] (htab.trans rfl) (fun z hz => nomatch hz) (by decide) (by decide) (hts _ wd_228) (hard_use rfl (hG.2.2.1 _ cs_ia rfl)) h3 h4 h5 ?_
      refine lv_astore (lv' := [(5, .ref q9), (0, .ref (q 0)), (1, .int x), (2, .int y), (3, .int a), (4, .int b)]) hx hb d_L_level_12 hl (by decide) rfl (fun ls hl => ?_)
      refine lv_iconst (v := nI 1) hx hb d_L_level_14 (by decide) ?_
      have hP9 : va_P (dC, dI) classes (wX q cI (op_level S x y a b).2.2 ++ []) H := by rw [st_level h9]; exact hP
      refine nv_as (nI (op_level S x y a b).1) (by rw [hk]) ?_
      exact W.iret hx hb hr (fun t ht hW => ⟨rfl, by rw [ht]; exact hP9, hS.F ht⟩) hS.2.2 d_L_level_15
    · obtain rfl : E_io = E := by rw [hk] at hE; exact Option.some.inj hE
      refine vx_catch hown [⟨0, 9, 12, 19⟩] ⟨0, 9, 16, 21⟩ [] (htab.trans rfl) (cp_1 (⟨by decide, E_ia, hts _ wd_228, hN _ (by decide) _ (by decide) (by decide)⟩)) (by decide) (by decide) (hts _ wd_229) (hard_use rfl (hG.2.2.1 _ cs_io rfl)) h3 h4 h5 ?_
      refine lv_astore (lv' := [(5, .ref q9), (0, .ref (q 0)), (1, .int x), (2, .int y), (3, .int a), (4, .int b)]) hx hb d_L_level_16 hl (by decide) rfl (fun ls hl => ?_)
      refine lv_iconst (v := nI 2) hx hb d_L_level_18 (by decide) ?_
      have hP9 : va_P (dC, dI) classes (wX q cI (op_level S x y a b).2.2 ++ []) H := by rw [st_level h9]; exact hP
      refine nv_as (nI (op_level S x y a b).1) (by rw [hk]) ?_
      exact W.iret hx hb hr (fun t ht hW => ⟨rfl, by rw [ht]; exact hP9, hS.F ht⟩) hS.2.2 d_L_level_19
  · refine W.eq (g2 := F0 m 9 ls []) rfl ?_
    refine lv_goto (tgt := 20) hx hb d_L_level_9 (by decide) ?_
    refine lv_iconst (v := nI 0) hx hb d_L_level_20 (by decide) ?_
    have hP9 : va_P (dC, dI) classes (wX q cI (op_level S x y a b).2.2 ++ []) H := hP
    refine nv_as (nI (op_level S x y a b).1) (by rw [h9]) ?_
    exact W.iret hx hb hr (fun t ht hW => ⟨rfl, by rw [ht]; exact hP9, hS.F ht⟩) hS.2.2 d_L_level_21
set_option maxHeartbeats 4000000 in
set_option maxRecDepth 100000 in
theorem c_L_order (l : Launch) (hst : l.stackTraces = false) (dC : Nat → ClassId) (dI : Nat → Nat → Nat) (A0 : Nat → Prop) (sz : Nat) (cI : ClassId) (q : Nat → Nat) (cJ : ClassId) (qo : Nat) (f : Nat → Int64) (S : St) (t : Nat) (hI : Bd t S) (x y : Int32) : Met l y_L_order (.codeWith y_L_order b_L_order 5 (some .int) [(0, 10, 13, 19)] :: bg) { frames := 9, cells := 2, slots := 12, locals := 155 } (wl_P (dC, dI) classes [(cI, .int), (cJ, .long)] A0 (wX q cI S ++ [oC qo cJ f]) sz [.ref (q 0), .int x, .int y, .ref qo]) (wr_Q (some (.int (nI (op_order S x y).1))) (dC, dI) classes (wX q cI (op_order S x y).2.2 ++ [oC qo cJ (ov (op_order S x y) f)]) (va_A (wX q cI S ++ [oC qo cJ f]) sz)) 2 12 (va_A (wX q cI S ++ [oC qo cJ f]) sz) := by
  refine va_MetW (cc := b_L_order) (maxL := 5) (ret := some .int) (hh := [(0, 10, 13, 19)]) (by decide) rfl ?_
  intro p e s m args below meth c s₁ B hml hv
  obtain ⟨rfl, hsz, hP, hK, hD0, hG, hN⟩ := hv
  subst hsz
  have hD := hD0.self (sz := s.heap.size)
  generalize hAe : va_A (wX q cI S ++ [oC qo cJ f]) s.heap.size = A at hD ⊢
  have hA : ∀ q : Nat, s.heap.size ≤ q → A q := fun q h => by rw [← hAe]; exact Or.inr h
  have hS : va_S A s.heap s.heap [] := va_S.rf
  have hx := B.exec
  have hb := B.bytes
  have hr := B.returns
  have hts := fun w (h : w ∈ bg) => atoms_spec (ws := .codeWith y_L_order b_L_order 5 (some .int) [(0, 10, 13, 19)] :: bg) B.pre w (List.mem_cons_of_mem _ h)
  have htab := vx_table (x := y_L_order) B (hts _ wd_394)
  have hown : s.vm.findClass R_L = some m.cls := findClass_of_methodNamed B.named
  have hl := lv_entry ([.ref (q 0), .int x, .int y, .ref qo]) (n := 5) (Nat.le_of_ble_eq_true rfl)
  rw [lg_entry_eq]
  generalize (lg_sl ([.ref (q 0), .int x, .int y, .ref qo]) ++ List.replicate (5 - (lg_sl ([.ref (q 0), .int x, .int y, .ref qo])).length) Slot.unset).toArray = ls at hl ⊢
  have hl : lv_has ls 5 [(0, .ref (q 0)), (1, .int x), (2, .int y), (3, .ref qo)] := hl
  refine lv_aload_n hx hb d_L_order_0 rfl (lv_at hl 3 rfl) ?_
  refine lv_iconst (v := nI 0) hx hb d_L_order_1 (by decide) ?_
  refine lv_aload_n hx hb d_L_order_2 rfl (lv_at hl 0 rfl) ?_
  refine lv_iload_n hx hb d_L_order_3 rfl (lv_at hl 1 rfl) ?_
  refine lv_iload_n hx hb d_L_order_4 rfl (lv_at hl 2 rfl) ?_
  refine xo_go (vx_runV (As := [.int x, .int y]) (rest := [.int (nI 0), .ref qo]) ⟨hx, hb, hml, hown, hts⟩ (c_X_order l hst dC dI A0 s.heap.size cI q S t hI x y ) (cwV 2 hts (gi_V wd_395 wd_396 wd_397 wd_1 wd_398) rfl rfl rfl (by decide +kernel) ⟨Nat.le_of_ble_eq_true rfl, Nat.le_of_ble_eq_true rfl⟩) (xo_preV (hK.sub (tys' := [(cI, .int)]) [0] rfl) (P_l hP) (D_l hD) hG (ci := 0) (q0 := 0) rfl rfl) rfl rfl hl.1 rfl (lv_room (Nat.le_of_ble_eq_true rfl)) d_L_order_5 ⟨Nat.le_of_ble_eq_true rfl, Nat.le_of_ble_eq_true rfl⟩) hP hD hS hA wX_adr (fun h9 E hE ce q9 H locs hP hS h3 h4 h5 => ?_) (fun h9 H locs hP hD hS => ?_)
  · have hle := ex_lt hE h9
    have hle : (op_order S x y).1 ≤ 1 := hle
    rcases (show (op_order S x y).1 = 1 by omega) with hk
    · obtain rfl : E_ia = E := by rw [hk] at hE; exact Option.some.inj hE
      refine vx_catch hown [] ⟨0, 10, 13, 19⟩ [] (htab.trans rfl) (fun z hz => nomatch hz) (by decide) (by decide) (hts _ wd_228) (hard_use rfl (hG.2.2.1 _ cs_ia rfl)) h3 h4 h5 ?_
      refine lv_astore (lv' := [(4, .ref q9), (0, .ref (q 0)), (1, .int x), (2, .int y), (3, .ref qo)]) hx hb d_L_order_13 hl (by decide) rfl (fun ls hl => ?_)
      refine lv_iconst (v := nI 1) hx hb d_L_order_15 (by decide) ?_
      have hP9 : va_P (dC, dI) classes (wX q cI (op_order S x y).2.2 ++ [oC qo cJ (ov (op_order S x y) f)]) H := by rw [st_order h9, ov_n h9]; exact hP
      refine nv_as (nI (op_order S x y).1) (by rw [hk]) ?_
      exact W.iret hx hb hr (fun t ht hW => ⟨rfl, by rw [ht]; exact hP9, hS.F ht⟩) hS.2.2 d_L_order_16
  · refine W.eq (g2 := F0 m 8 ls [.int ((op_order S x y).2.1), .int (nI 0), .ref qo]) rfl ?_
    refine lv_i2l (v := ((op_order S x y).2.1).toInt64) hx hb d_L_order_8 rfl ?_
    refine va_last (f := f) hx hb hK hP hD hS 18 1 rfl rfl (vp_in_nI (n := 0) (N := 1) (by decide) (by decide)) d_L_order_9 (fun H locs hP hD hS => ?_)
    have hP : va_P (dC, dI) classes (wX q cI (op_order S x y).2.2 ++ [oC qo cJ (vp_updL f 0 (((op_order S x y).2.1).toInt64))]) H := hP
    refine lv_goto (tgt := 17) hx hb d_L_order_10 (by decide) ?_
    refine lv_iconst (v := nI 0) hx hb d_L_order_17 (by decide) ?_
    have hP9 : va_P (dC, dI) classes (wX q cI (op_order S x y).2.2 ++ [oC qo cJ (ov (op_order S x y) f)]) H := by rw [ov_y h9]; exact hP
    refine nv_as (nI (op_order S x y).1) (by rw [h9]) ?_
    exact W.iret hx hb hr (fun t ht hW => ⟨rfl, by rw [ht]; exact hP9, hS.F ht⟩) hS.2.2 d_L_order_18
set_option maxHeartbeats 4000000 in
set_option maxRecDepth 100000 in
theorem c_L_deliver (l : Launch) (hst : l.stackTraces = false) (dC : Nat → ClassId) (dI : Nat → Nat → Nat) (A0 : Nat → Prop) (sz : Nat) (cI : ClassId) (q : Nat → Nat) (cJ : ClassId) (qo : Nat) (f : Nat → Int64) (S : St) (t : Nat) (hI : Bd t S) (x y : Int32) : Met l y_L_deliver (.codeWith y_L_deliver b_L_deliver 5 (some .int) [(0, 10, 13, 19), (0, 10, 17, 31)] :: bg) { frames := 9, cells := 3, slots := 18, locals := 155 } (wl_P (dC, dI) classes [(cI, .int), (cJ, .long)] A0 (wX q cI S ++ [oC qo cJ f]) sz [.ref (q 0), .int x, .int y, .ref qo]) (wr_Q (some (.int (nI (op_deliver S x y).1))) (dC, dI) classes (wX q cI (op_deliver S x y).2.2 ++ [oC qo cJ (ov (op_deliver S x y) f)]) (va_A (wX q cI S ++ [oC qo cJ f]) sz)) 3 18 (va_A (wX q cI S ++ [oC qo cJ f]) sz) := by
  refine va_MetW (cc := b_L_deliver) (maxL := 5) (ret := some .int) (hh := [(0, 10, 13, 19), (0, 10, 17, 31)]) (by decide) rfl ?_
  intro p e s m args below meth c s₁ B hml hv
  obtain ⟨rfl, hsz, hP, hK, hD0, hG, hN⟩ := hv
  subst hsz
  have hD := hD0.self (sz := s.heap.size)
  generalize hAe : va_A (wX q cI S ++ [oC qo cJ f]) s.heap.size = A at hD ⊢
  have hA : ∀ q : Nat, s.heap.size ≤ q → A q := fun q h => by rw [← hAe]; exact Or.inr h
  have hS : va_S A s.heap s.heap [] := va_S.rf
  have hx := B.exec
  have hb := B.bytes
  have hr := B.returns
  have hts := fun w (h : w ∈ bg) => atoms_spec (ws := .codeWith y_L_deliver b_L_deliver 5 (some .int) [(0, 10, 13, 19), (0, 10, 17, 31)] :: bg) B.pre w (List.mem_cons_of_mem _ h)
  have htab := vx_table (x := y_L_deliver) B (hts _ wd_408)
  have hown : s.vm.findClass R_L = some m.cls := findClass_of_methodNamed B.named
  have hl := lv_entry ([.ref (q 0), .int x, .int y, .ref qo]) (n := 5) (Nat.le_of_ble_eq_true rfl)
  rw [lg_entry_eq]
  generalize (lg_sl ([.ref (q 0), .int x, .int y, .ref qo]) ++ List.replicate (5 - (lg_sl ([.ref (q 0), .int x, .int y, .ref qo])).length) Slot.unset).toArray = ls at hl ⊢
  have hl : lv_has ls 5 [(0, .ref (q 0)), (1, .int x), (2, .int y), (3, .ref qo)] := hl
  refine lv_aload_n hx hb d_L_deliver_0 rfl (lv_at hl 3 rfl) ?_
  refine lv_iconst (v := nI 0) hx hb d_L_deliver_1 (by decide) ?_
  refine lv_aload_n hx hb d_L_deliver_2 rfl (lv_at hl 0 rfl) ?_
  refine lv_iload_n hx hb d_L_deliver_3 rfl (lv_at hl 1 rfl) ?_
  refine lv_iload_n hx hb d_L_deliver_4 rfl (lv_at hl 2 rfl) ?_
  refine xo_go (vx_runV (As := [.int x, .int y]) (rest := [.int (nI 0), .ref qo]) ⟨hx, hb, hml, hown, hts⟩ (c_X_deliver l hst dC dI A0 s.heap.size cI q S t hI x y ) (cwV 2 hts (gi_V wd_409 wd_410 wd_411 wd_1 wd_412) rfl rfl rfl (by decide +kernel) ⟨Nat.le_of_ble_eq_true rfl, Nat.le_of_ble_eq_true rfl⟩) (xo_preV (hK.sub (tys' := [(cI, .int)]) [0] rfl) (P_l hP) (D_l hD) hG (ci := 0) (q0 := 0) rfl rfl) rfl rfl hl.1 rfl (lv_room (Nat.le_of_ble_eq_true rfl)) d_L_deliver_5 ⟨Nat.le_of_ble_eq_true rfl, Nat.le_of_ble_eq_true rfl⟩) hP hD hS hA wX_adr (fun h9 E hE ce q9 H locs hP hS h3 h4 h5 => ?_) (fun h9 H locs hP hD hS => ?_)
  · have hle := ex_lt hE h9
    have hle : (op_deliver S x y).1 ≤ 2 := hle
    rcases (show (op_deliver S x y).1 = 1 ∨ (op_deliver S x y).1 = 2 by omega) with hk | hk
    · obtain rfl : E_ia = E := by rw [hk] at hE; exact Option.some.inj hE
      refine vx_catch hown [] ⟨0, 10, 13, 19⟩ [⟨0, 10, 17, 31⟩] (htab.trans rfl) (fun z hz => nomatch hz) (by decide) (by decide) (hts _ wd_228) (hard_use rfl (hG.2.2.1 _ cs_ia rfl)) h3 h4 h5 ?_
      refine lv_astore (lv' := [(4, .ref q9), (0, .ref (q 0)), (1, .int x), (2, .int y), (3, .ref qo)]) hx hb d_L_deliver_13 hl (by decide) rfl (fun ls hl => ?_)
      refine lv_iconst (v := nI 1) hx hb d_L_deliver_15 (by decide) ?_
      have hP9 : va_P (dC, dI) classes (wX q cI (op_deliver S x y).2.2 ++ [oC qo cJ (ov (op_deliver S x y) f)]) H := by rw [st_deliver h9, ov_n h9]; exact hP
      refine nv_as (nI (op_deliver S x y).1) (by rw [hk]) ?_
      exact W.iret hx hb hr (fun t ht hW => ⟨rfl, by rw [ht]; exact hP9, hS.F ht⟩) hS.2.2 d_L_deliver_16
    · obtain rfl : E_is = E := by rw [hk] at hE; exact Option.some.inj hE
      refine vx_catch hown [⟨0, 10, 13, 19⟩] ⟨0, 10, 17, 31⟩ [] (htab.trans rfl) (cp_1 (⟨by decide, E_ia, hts _ wd_228, hN _ (by decide) _ (by decide) (by decide)⟩)) (by decide) (by decide) (hts _ wd_312) (hard_use rfl (hG.2.2.1 _ cs_is rfl)) h3 h4 h5 ?_
      refine lv_astore (lv' := [(4, .ref q9), (0, .ref (q 0)), (1, .int x), (2, .int y), (3, .ref qo)]) hx hb d_L_deliver_17 hl (by decide) rfl (fun ls hl => ?_)
      refine lv_iconst (v := nI 2) hx hb d_L_deliver_19 (by decide) ?_
      have hP9 : va_P (dC, dI) classes (wX q cI (op_deliver S x y).2.2 ++ [oC qo cJ (ov (op_deliver S x y) f)]) H := by rw [st_deliver h9, ov_n h9]; exact hP
      refine nv_as (nI (op_deliver S x y).1) (by rw [hk]) ?_
      exact W.iret hx hb hr (fun t ht hW => ⟨rfl, by rw [ht]; exact hP9, hS.F ht⟩) hS.2.2 d_L_deliver_20
  · refine W.eq (g2 := F0 m 8 ls [.int ((op_deliver S x y).2.1), .int (nI 0), .ref qo]) rfl ?_
    refine lv_i2l (v := ((op_deliver S x y).2.1).toInt64) hx hb d_L_deliver_8 rfl ?_
    refine va_last (f := f) hx hb hK hP hD hS 18 1 rfl rfl (vp_in_nI (n := 0) (N := 1) (by decide) (by decide)) d_L_deliver_9 (fun H locs hP hD hS => ?_)
    have hP : va_P (dC, dI) classes (wX q cI (op_deliver S x y).2.2 ++ [oC qo cJ (vp_updL f 0 (((op_deliver S x y).2.1).toInt64))]) H := hP
    refine lv_goto (tgt := 21) hx hb d_L_deliver_10 (by decide) ?_
    refine lv_iconst (v := nI 0) hx hb d_L_deliver_21 (by decide) ?_
    have hP9 : va_P (dC, dI) classes (wX q cI (op_deliver S x y).2.2 ++ [oC qo cJ (ov (op_deliver S x y) f)]) H := by rw [ov_y h9]; exact hP
    refine nv_as (nI (op_deliver S x y).1) (by rw [h9]) ?_
    exact W.iret hx hb hr (fun t ht hW => ⟨rfl, by rw [ht]; exact hP9, hS.F ht⟩) hS.2.2 d_L_deliver_22
set_option maxHeartbeats 4000000 in
set_option maxRecDepth 100000 in
theorem c_L_emergency (l : Launch) (hst : l.stackTraces = false) (dC : Nat → ClassId) (dI : Nat → Nat → Nat) (A0 : Nat → Prop) (sz : Nat) (cI : ClassId) (q : Nat → Nat) (cJ : ClassId) (qo : Nat) (f : Nat → Int64) (S : St) (t : Nat) (hI : Bd t S) (x y n w : Int32) : Met l y_L_emergency (.codeWith y_L_emergency b_L_emergency 7 (some .int) [(0, 14, 17, 19), (0, 14, 21, 21), (0, 14, 25, 13)] :: bg) { frames := 9, cells := 5, slots := 30, locals := 156 } (wl_P (dC, dI) classes [(cI, .int), (cJ, .long)] A0 (wX q cI S ++ [oC qo cJ f]) sz [.ref (q 0), .int x, .int y, .int n, .int w, .ref qo]) (wr_Q (some (.int (nI (op_emergency S x y n w).1))) (dC, dI) classes (wX q cI (op_emergency S x y n w).2.2 ++ [oC qo cJ (ov (op_emergency S x y n w) f)]) (va_A (wX q cI S ++ [oC qo cJ f]) sz)) 5 30 (va_A (wX q cI S ++ [oC qo cJ f]) sz) := by
  refine va_MetW (cc := b_L_emergency) (maxL := 7) (ret := some .int) (hh := [(0, 14, 17, 19), (0, 14, 21, 21), (0, 14, 25, 13)]) (by decide) rfl ?_
  intro p e s m args below meth c s₁ B hml hv
  obtain ⟨rfl, hsz, hP, hK, hD0, hG, hN⟩ := hv
  subst hsz
  have hD := hD0.self (sz := s.heap.size)
  generalize hAe : va_A (wX q cI S ++ [oC qo cJ f]) s.heap.size = A at hD ⊢
  have hA : ∀ q : Nat, s.heap.size ≤ q → A q := fun q h => by rw [← hAe]; exact Or.inr h
  have hS : va_S A s.heap s.heap [] := va_S.rf
  have hx := B.exec
  have hb := B.bytes
  have hr := B.returns
  have hts := fun w (h : w ∈ bg) => atoms_spec (ws := .codeWith y_L_emergency b_L_emergency 7 (some .int) [(0, 14, 17, 19), (0, 14, 21, 21), (0, 14, 25, 13)] :: bg) B.pre w (List.mem_cons_of_mem _ h)
  have htab := vx_table (x := y_L_emergency) B (hts _ wd_417)
  have hown : s.vm.findClass R_L = some m.cls := findClass_of_methodNamed B.named
  have hl := lv_entry ([.ref (q 0), .int x, .int y, .int n, .int w, .ref qo]) (n := 7) (Nat.le_of_ble_eq_true rfl)
  rw [lg_entry_eq]
  generalize (lg_sl ([.ref (q 0), .int x, .int y, .int n, .int w, .ref qo]) ++ List.replicate (7 - (lg_sl ([.ref (q 0), .int x, .int y, .int n, .int w, .ref qo])).length) Slot.unset).toArray = ls at hl ⊢
  have hl : lv_has ls 7 [(0, .ref (q 0)), (1, .int x), (2, .int y), (3, .int n), (4, .int w), (5, .ref qo)] := hl
  refine lv_aload hx hb d_L_emergency_0 (lv_at hl 5 rfl) ?_
  refine lv_iconst (v := nI 0) hx hb d_L_emergency_2 (by decide) ?_
  refine lv_aload_n hx hb d_L_emergency_3 rfl (lv_at hl 0 rfl) ?_
  refine lv_iload_n hx hb d_L_emergency_4 rfl (lv_at hl 1 rfl) ?_
  refine lv_iload_n hx hb d_L_emergency_5 rfl (lv_at hl 2 rfl) ?_
  refine lv_iload_n hx hb d_L_emergency_6 rfl (lv_at hl 3 rfl) ?_
  refine lv_iload hx hb d_L_emergency_7 (lv_at hl 4 rfl) ?_
  refine xo_go (vx_runV (As := [.int x, .int y, .int n, .int w]) (rest := [.int (nI 0), .ref qo]) ⟨hx, hb, hml, hown, hts⟩ (c_X_emergency l hst dC dI A0 s.heap.size cI q S t hI x y n w ) (cwV 4 hts (gi_V wd_418 wd_419 wd_420 wd_1 wd_421) rfl rfl rfl (by decide +kernel) ⟨Nat.le_of_ble_eq_true rfl, Nat.le_of_ble_eq_true rfl⟩) (xo_preV (hK.sub (tys' := [(cI, .int)]) [0] rfl) (P_l hP) (D_l hD) hG (ci := 0) (q0 := 0) rfl rfl) rfl rfl hl.1 rfl (lv_room (Nat.le_of_ble_eq_true rfl)) d_L_emergency_9 ⟨Nat.le_of_ble_eq_true rfl, Nat.le_of_ble_eq_true rfl⟩) hP hD hS hA wX_adr (fun h9 E hE ce q9 H locs hP hS h3 h4 h5 => ?_) (fun h9 H locs hP hD hS => ?_)
  · have hle := ex_lt hE h9
    have hle : (op_emergency S x y n w).1 ≤ 3 := hle
    rcases (show (op_emergency S x y n w).1 = 1 ∨ (op_emergency S x y n w).1 = 2 ∨ (op_emergency S x y n w).1 = 3 by omega) with hk | hk | hk
    · obtain rfl : E_ia = E := by rw [hk] at hE; exact Option.some.inj hE
      refine vx_catch hown [] ⟨0, 14, 17, 19⟩ [⟨0, 14, 21, 21⟩, ⟨0, 14, 25, 13⟩] (htab.trans rfl) (fun z hz => nomatch hz) (by decide) (by decide) (hts _ wd_228) (hard_use rfl (hG.2.2.1 _ cs_ia rfl)) h3 h4 h5 ?_
      refine lv_astore (lv' := [(6, .ref q9), (0, .ref (q 0)), (1, .int x), (2, .int y), (3, .int n), (4, .int w), (5, .ref qo)]) hx hb d_L_emergency_17 hl (by decide) rfl (fun ls hl => ?_)
      refine lv_iconst (v := nI 1) hx hb d_L_emergency_19 (by decide) ?_
      have hP9 : va_P (dC, dI) classes (wX q cI (op_emergency S x y n w).2.2 ++ [oC qo cJ (ov (op_emergency S x y n w) f)]) H := by rw [st_emergency h9, ov_n h9]; exact hP
      refine nv_as (nI (op_emergency S x y n w).1) (by rw [hk]) ?_
      exact W.iret hx hb hr (fun t ht hW => ⟨rfl, by rw [ht]; exact hP9, hS.F ht⟩) hS.2.2 d_L_emergency_20
    · obtain rfl : E_io = E := by rw [hk] at hE; exact Option.some.inj hE
      refine vx_catch hown [⟨0, 14, 17, 19⟩] ⟨0, 14, 21, 21⟩ [⟨0, 14, 25, 13⟩] (htab.trans rfl) (cp_1 (⟨by decide, E_ia, hts _ wd_228, hN _ (by decide) _ (by decide) (by decide)⟩)) (by decide) (by decide) (hts _ wd_229) (hard_use rfl (hG.2.2.1 _ cs_io rfl)) h3 h4 h5 ?_
      refine lv_astore (lv' := [(6, .ref q9), (0, .ref (q 0)), (1, .int x), (2, .int y), (3, .int n), (4, .int w), (5, .ref qo)]) hx hb d_L_emergency_21 hl (by decide) rfl (fun ls hl => ?_)
      refine lv_iconst (v := nI 2) hx hb d_L_emergency_23 (by decide) ?_
      have hP9 : va_P (dC, dI) classes (wX q cI (op_emergency S x y n w).2.2 ++ [oC qo cJ (ov (op_emergency S x y n w) f)]) H := by rw [st_emergency h9, ov_n h9]; exact hP
      refine nv_as (nI (op_emergency S x y n w).1) (by rw [hk]) ?_
      exact W.iret hx hb hr (fun t ht hW => ⟨rfl, by rw [ht]; exact hP9, hS.F ht⟩) hS.2.2 d_L_emergency_24
    · obtain rfl : E_uo = E := by rw [hk] at hE; exact Option.some.inj hE
      refine vx_catch hown [⟨0, 14, 17, 19⟩, ⟨0, 14, 21, 21⟩] ⟨0, 14, 25, 13⟩ [] (htab.trans rfl) (cp_2 (⟨by decide, E_ia, hts _ wd_228, hN _ (by decide) _ (by decide) (by decide)⟩) (⟨by decide, E_io, hts _ wd_229, hN _ (by decide) _ (by decide) (by decide)⟩)) (by decide) (by decide) (hts _ wd_151) (hard_use rfl (hG.2.2.1 _ cs_uo rfl)) h3 h4 h5 ?_
      refine lv_astore (lv' := [(6, .ref q9), (0, .ref (q 0)), (1, .int x), (2, .int y), (3, .int n), (4, .int w), (5, .ref qo)]) hx hb d_L_emergency_25 hl (by decide) rfl (fun ls hl => ?_)
      refine lv_iconst (v := nI 3) hx hb d_L_emergency_27 (by decide) ?_
      have hP9 : va_P (dC, dI) classes (wX q cI (op_emergency S x y n w).2.2 ++ [oC qo cJ (ov (op_emergency S x y n w) f)]) H := by rw [st_emergency h9, ov_n h9]; exact hP
      refine nv_as (nI (op_emergency S x y n w).1) (by rw [hk]) ?_
      exact W.iret hx hb hr (fun t ht hW => ⟨rfl, by rw [ht]; exact hP9, hS.F ht⟩) hS.2.2 d_L_emergency_28
  · refine W.eq (g2 := F0 m 12 ls [.int ((op_emergency S x y n w).2.1), .int (nI 0), .ref qo]) rfl ?_
    refine lv_i2l (v := ((op_emergency S x y n w).2.1).toInt64) hx hb d_L_emergency_12 rfl ?_
    refine va_last (f := f) hx hb hK hP hD hS 18 1 rfl rfl (vp_in_nI (n := 0) (N := 1) (by decide) (by decide)) d_L_emergency_13 (fun H locs hP hD hS => ?_)
    have hP : va_P (dC, dI) classes (wX q cI (op_emergency S x y n w).2.2 ++ [oC qo cJ (vp_updL f 0 (((op_emergency S x y n w).2.1).toInt64))]) H := hP
    refine lv_goto (tgt := 29) hx hb d_L_emergency_14 (by decide) ?_
    refine lv_iconst (v := nI 0) hx hb d_L_emergency_29 (by decide) ?_
    have hP9 : va_P (dC, dI) classes (wX q cI (op_emergency S x y n w).2.2 ++ [oC qo cJ (ov (op_emergency S x y n w) f)]) H := by rw [ov_y h9]; exact hP
    refine nv_as (nI (op_emergency S x y n w).1) (by rw [h9]) ?_
    exact W.iret hx hb hr (fun t ht hW => ⟨rfl, by rw [ht]; exact hP9, hS.F ht⟩) hS.2.2 d_L_emergency_30
set_option maxHeartbeats 4000000 in
set_option maxRecDepth 100000 in
theorem c_L_second (l : Launch) (hst : l.stackTraces = false) (dC : Nat → ClassId) (dI : Nat → Nat → Nat) (A0 : Nat → Prop) (sz : Nat) (cI : ClassId) (q : Nat → Nat) (cJ : ClassId) (qo : Nat) (f : Nat → Int64) (S : St) (t : Nat) (hI : Bd t S) (x y : Int32) : Met l y_L_second (.codeWith y_L_second b_L_second 5 (some .int) [(0, 10, 13, 19), (0, 10, 17, 31), (0, 10, 21, 13)] :: bg) { frames := 9, cells := 4, slots := 24, locals := 154 } (wl_P (dC, dI) classes [(cI, .int), (cJ, .long)] A0 (wX q cI S ++ [oC qo cJ f]) sz [.ref (q 0), .int x, .int y, .ref qo]) (wr_Q (some (.int (nI (op_second S x y).1))) (dC, dI) classes (wX q cI (op_second S x y).2.2 ++ [oC qo cJ (ov (op_second S x y) f)]) (va_A (wX q cI S ++ [oC qo cJ f]) sz)) 4 24 (va_A (wX q cI S ++ [oC qo cJ f]) sz) := by
  refine va_MetW (cc := b_L_second) (maxL := 5) (ret := some .int) (hh := [(0, 10, 13, 19), (0, 10, 17, 31), (0, 10, 21, 13)]) (by decide) rfl ?_
  intro p e s m args below meth c s₁ B hml hv
  obtain ⟨rfl, hsz, hP, hK, hD0, hG, hN⟩ := hv
  subst hsz
  have hD := hD0.self (sz := s.heap.size)
  generalize hAe : va_A (wX q cI S ++ [oC qo cJ f]) s.heap.size = A at hD ⊢
  have hA : ∀ q : Nat, s.heap.size ≤ q → A q := fun q h => by rw [← hAe]; exact Or.inr h
  have hS : va_S A s.heap s.heap [] := va_S.rf
  have hx := B.exec
  have hb := B.bytes
  have hr := B.returns
  have hts := fun w (h : w ∈ bg) => atoms_spec (ws := .codeWith y_L_second b_L_second 5 (some .int) [(0, 10, 13, 19), (0, 10, 17, 31), (0, 10, 21, 13)] :: bg) B.pre w (List.mem_cons_of_mem _ h)
  have htab := vx_table (x := y_L_second) B (hts _ wd_428)
  have hown : s.vm.findClass R_L = some m.cls := findClass_of_methodNamed B.named
  have hl := lv_entry ([.ref (q 0), .int x, .int y, .ref qo]) (n := 5) (Nat.le_of_ble_eq_true rfl)
  rw [lg_entry_eq]
  generalize (lg_sl ([.ref (q 0), .int x, .int y, .ref qo]) ++ List.replicate (5 - (lg_sl ([.ref (q 0), .int x, .int y, .ref qo])).length) Slot.unset).toArray = ls at hl ⊢
  have hl : lv_has ls 5 [(0, .ref (q 0)), (1, .int x), (2, .int y), (3, .ref qo)] := hl
  refine lv_aload_n hx hb d_L_second_0 rfl (lv_at hl 3 rfl) ?_
  refine lv_iconst (v := nI 0) hx hb d_L_second_1 (by decide) ?_
  refine lv_aload_n hx hb d_L_second_2 rfl (lv_at hl 0 rfl) ?_
  refine lv_iload_n hx hb d_L_second_3 rfl (lv_at hl 1 rfl) ?_
  refine lv_iload_n hx hb d_L_second_4 rfl (lv_at hl 2 rfl) ?_
  refine xo_go (vx_runV (As := [.int x, .int y]) (rest := [.int (nI 0), .ref qo]) ⟨hx, hb, hml, hown, hts⟩ (c_X_second l hst dC dI A0 s.heap.size cI q S t hI x y ) (cwV 2 hts (gi_V wd_429 wd_430 wd_431 wd_1 wd_432) rfl rfl rfl (by decide +kernel) ⟨Nat.le_of_ble_eq_true rfl, Nat.le_of_ble_eq_true rfl⟩) (xo_preV (hK.sub (tys' := [(cI, .int)]) [0] rfl) (P_l hP) (D_l hD) hG (ci := 0) (q0 := 0) rfl rfl) rfl rfl hl.1 rfl (lv_room (Nat.le_of_ble_eq_true rfl)) d_L_second_5 ⟨Nat.le_of_ble_eq_true rfl, Nat.le_of_ble_eq_true rfl⟩) hP hD hS hA wX_adr (fun h9 E hE ce q9 H locs hP hS h3 h4 h5 => ?_) (fun h9 H locs hP hD hS => ?_)
  · have hle := ex_lt hE h9
    have hle : (op_second S x y).1 ≤ 3 := hle
    rcases (show (op_second S x y).1 = 1 ∨ (op_second S x y).1 = 2 ∨ (op_second S x y).1 = 3 by omega) with hk | hk | hk
    · obtain rfl : E_ia = E := by rw [hk] at hE; exact Option.some.inj hE
      refine vx_catch hown [] ⟨0, 10, 13, 19⟩ [⟨0, 10, 17, 31⟩, ⟨0, 10, 21, 13⟩] (htab.trans rfl) (fun z hz => nomatch hz) (by decide) (by decide) (hts _ wd_228) (hard_use rfl (hG.2.2.1 _ cs_ia rfl)) h3 h4 h5 ?_
      refine lv_astore (lv' := [(4, .ref q9), (0, .ref (q 0)), (1, .int x), (2, .int y), (3, .ref qo)]) hx hb d_L_second_13 hl (by decide) rfl (fun ls hl => ?_)
      refine lv_iconst (v := nI 1) hx hb d_L_second_15 (by decide) ?_
      have hP9 : va_P (dC, dI) classes (wX q cI (op_second S x y).2.2 ++ [oC qo cJ (ov (op_second S x y) f)]) H := by rw [st_second h9, ov_n h9]; exact hP
      refine nv_as (nI (op_second S x y).1) (by rw [hk]) ?_
      exact W.iret hx hb hr (fun t ht hW => ⟨rfl, by rw [ht]; exact hP9, hS.F ht⟩) hS.2.2 d_L_second_16
    · obtain rfl : E_is = E := by rw [hk] at hE; exact Option.some.inj hE
      refine vx_catch hown [⟨0, 10, 13, 19⟩] ⟨0, 10, 17, 31⟩ [⟨0, 10, 21, 13⟩] (htab.trans rfl) (cp_1 (⟨by decide, E_ia, hts _ wd_228, hN _ (by decide) _ (by decide) (by decide)⟩)) (by decide) (by decide) (hts _ wd_312) (hard_use rfl (hG.2.2.1 _ cs_is rfl)) h3 h4 h5 ?_
      refine lv_astore (lv' := [(4, .ref q9), (0, .ref (q 0)), (1, .int x), (2, .int y), (3, .ref qo)]) hx hb d_L_second_17 hl (by decide) rfl (fun ls hl => ?_)
      refine lv_iconst (v := nI 2) hx hb d_L_second_19 (by decide) ?_
      have hP9 : va_P (dC, dI) classes (wX q cI (op_second S x y).2.2 ++ [oC qo cJ (ov (op_second S x y) f)]) H := by rw [st_second h9, ov_n h9]; exact hP
      refine nv_as (nI (op_second S x y).1) (by rw [hk]) ?_
      exact W.iret hx hb hr (fun t ht hW => ⟨rfl, by rw [ht]; exact hP9, hS.F ht⟩) hS.2.2 d_L_second_20
    · obtain rfl : E_uo = E := by rw [hk] at hE; exact Option.some.inj hE
      refine vx_catch hown [⟨0, 10, 13, 19⟩, ⟨0, 10, 17, 31⟩] ⟨0, 10, 21, 13⟩ [] (htab.trans rfl) (cp_2 (⟨by decide, E_ia, hts _ wd_228, hN _ (by decide) _ (by decide) (by decide)⟩) (⟨by decide, E_is, hts _ wd_312, hN _ (by decide) _ (by decide) (by decide)⟩)) (by decide) (by decide) (hts _ wd_151) (hard_use rfl (hG.2.2.1 _ cs_uo rfl)) h3 h4 h5 ?_
      refine lv_astore (lv' := [(4, .ref q9), (0, .ref (q 0)), (1, .int x), (2, .int y), (3, .ref qo)]) hx hb d_L_second_21 hl (by decide) rfl (fun ls hl => ?_)
      refine lv_iconst (v := nI 3) hx hb d_L_second_23 (by decide) ?_
      have hP9 : va_P (dC, dI) classes (wX q cI (op_second S x y).2.2 ++ [oC qo cJ (ov (op_second S x y) f)]) H := by rw [st_second h9, ov_n h9]; exact hP
      refine nv_as (nI (op_second S x y).1) (by rw [hk]) ?_
      exact W.iret hx hb hr (fun t ht hW => ⟨rfl, by rw [ht]; exact hP9, hS.F ht⟩) hS.2.2 d_L_second_24
  · refine W.eq (g2 := F0 m 8 ls [.int ((op_second S x y).2.1), .int (nI 0), .ref qo]) rfl ?_
    refine lv_i2l (v := ((op_second S x y).2.1).toInt64) hx hb d_L_second_8 rfl ?_
    refine va_last (f := f) hx hb hK hP hD hS 18 1 rfl rfl (vp_in_nI (n := 0) (N := 1) (by decide) (by decide)) d_L_second_9 (fun H locs hP hD hS => ?_)
    have hP : va_P (dC, dI) classes (wX q cI (op_second S x y).2.2 ++ [oC qo cJ (vp_updL f 0 (((op_second S x y).2.1).toInt64))]) H := hP
    refine lv_goto (tgt := 25) hx hb d_L_second_10 (by decide) ?_
    refine lv_iconst (v := nI 0) hx hb d_L_second_25 (by decide) ?_
    have hP9 : va_P (dC, dI) classes (wX q cI (op_second S x y).2.2 ++ [oC qo cJ (ov (op_second S x y) f)]) H := by rw [ov_y h9]; exact hP
    refine nv_as (nI (op_second S x y).1) (by rw [h9]) ?_
    exact W.iret hx hb hr (fun t ht hW => ⟨rfl, by rw [ht]; exact hP9, hS.F ht⟩) hS.2.2 d_L_second_26
set_option maxHeartbeats 4000000 in
set_option maxRecDepth 100000 in
theorem c_L_count (l : Launch) (hst : l.stackTraces = false) (dC : Nat → ClassId) (dI : Nat → Nat → Nat) (A0 : Nat → Prop) (sz : Nat) (cI : ClassId) (q : Nat → Nat) (cJ : ClassId) (qo : Nat) (f : Nat → Int64) (S : St) (t : Nat) (hI : Bd t S) (x y n w : Int32) : Met l y_L_count (.codeWith y_L_count b_L_count 7 (some .int) [(0, 14, 17, 19), (0, 14, 21, 21), (0, 14, 25, 13)] :: bg) { frames := 9, cells := 5, slots := 30, locals := 157 } (wl_P (dC, dI) classes [(cI, .int), (cJ, .long)] A0 (wX q cI S ++ [oC qo cJ f]) sz [.ref (q 0), .int x, .int y, .int n, .int w, .ref qo]) (wr_Q (some (.int (nI (op_count S x y n w).1))) (dC, dI) classes (wX q cI (op_count S x y n w).2.2 ++ [oC qo cJ (ov (op_count S x y n w) f)]) (va_A (wX q cI S ++ [oC qo cJ f]) sz)) 5 30 (va_A (wX q cI S ++ [oC qo cJ f]) sz) := by
  refine va_MetW (cc := b_L_count) (maxL := 7) (ret := some .int) (hh := [(0, 14, 17, 19), (0, 14, 21, 21), (0, 14, 25, 13)]) (by decide) rfl ?_
  intro p e s m args below meth c s₁ B hml hv
  obtain ⟨rfl, hsz, hP, hK, hD0, hG, hN⟩ := hv
  subst hsz
  have hD := hD0.self (sz := s.heap.size)
  generalize hAe : va_A (wX q cI S ++ [oC qo cJ f]) s.heap.size = A at hD ⊢
  have hA : ∀ q : Nat, s.heap.size ≤ q → A q := fun q h => by rw [← hAe]; exact Or.inr h
  have hS : va_S A s.heap s.heap [] := va_S.rf
  have hx := B.exec
  have hb := B.bytes
  have hr := B.returns
  have hts := fun w (h : w ∈ bg) => atoms_spec (ws := .codeWith y_L_count b_L_count 7 (some .int) [(0, 14, 17, 19), (0, 14, 21, 21), (0, 14, 25, 13)] :: bg) B.pre w (List.mem_cons_of_mem _ h)
  have htab := vx_table (x := y_L_count) B (hts _ wd_437)
  have hown : s.vm.findClass R_L = some m.cls := findClass_of_methodNamed B.named
  have hl := lv_entry ([.ref (q 0), .int x, .int y, .int n, .int w, .ref qo]) (n := 7) (Nat.le_of_ble_eq_true rfl)
  rw [lg_entry_eq]
  generalize (lg_sl ([.ref (q 0), .int x, .int y, .int n, .int w, .ref qo]) ++ List.replicate (7 - (lg_sl ([.ref (q 0), .int x, .int y, .int n, .int w, .ref qo])).length) Slot.unset).toArray = ls at hl ⊢
  have hl : lv_has ls 7 [(0, .ref (q 0)), (1, .int x), (2, .int y), (3, .int n), (4, .int w), (5, .ref qo)] := hl
  refine lv_aload hx hb d_L_count_0 (lv_at hl 5 rfl) ?_
  refine lv_iconst (v := nI 0) hx hb d_L_count_2 (by decide) ?_
  refine lv_aload_n hx hb d_L_count_3 rfl (lv_at hl 0 rfl) ?_
  refine lv_iload_n hx hb d_L_count_4 rfl (lv_at hl 1 rfl) ?_
  refine lv_iload_n hx hb d_L_count_5 rfl (lv_at hl 2 rfl) ?_
  refine lv_iload_n hx hb d_L_count_6 rfl (lv_at hl 3 rfl) ?_
  refine lv_iload hx hb d_L_count_7 (lv_at hl 4 rfl) ?_
  refine xo_go (vx_runV (As := [.int x, .int y, .int n, .int w]) (rest := [.int (nI 0), .ref qo]) ⟨hx, hb, hml, hown, hts⟩ (c_X_count l hst dC dI A0 s.heap.size cI q S t hI x y n w ) (cwV 4 hts (gi_V wd_438 wd_439 wd_440 wd_1 wd_441) rfl rfl rfl (by decide +kernel) ⟨Nat.le_of_ble_eq_true rfl, Nat.le_of_ble_eq_true rfl⟩) (xo_preV (hK.sub (tys' := [(cI, .int)]) [0] rfl) (P_l hP) (D_l hD) hG (ci := 0) (q0 := 0) rfl rfl) rfl rfl hl.1 rfl (lv_room (Nat.le_of_ble_eq_true rfl)) d_L_count_9 ⟨Nat.le_of_ble_eq_true rfl, Nat.le_of_ble_eq_true rfl⟩) hP hD hS hA wX_adr (fun h9 E hE ce q9 H locs hP hS h3 h4 h5 => ?_) (fun h9 H locs hP hD hS => ?_)
  · have hle := ex_lt hE h9
    have hle : (op_count S x y n w).1 ≤ 3 := hle
    rcases (show (op_count S x y n w).1 = 1 ∨ (op_count S x y n w).1 = 2 ∨ (op_count S x y n w).1 = 3 by omega) with hk | hk | hk
    · obtain rfl : E_ia = E := by rw [hk] at hE; exact Option.some.inj hE
      refine vx_catch hown [] ⟨0, 14, 17, 19⟩ [⟨0, 14, 21, 21⟩, ⟨0, 14, 25, 13⟩] (htab.trans rfl) (fun z hz => nomatch hz) (by decide) (by decide) (hts _ wd_228) (hard_use rfl (hG.2.2.1 _ cs_ia rfl)) h3 h4 h5 ?_
      refine lv_astore (lv' := [(6, .ref q9), (0, .ref (q 0)), (1, .int x), (2, .int y), (3, .int n), (4, .int w), (5, .ref qo)]) hx hb d_L_count_17 hl (by decide) rfl (fun ls hl => ?_)
      refine lv_iconst (v := nI 1) hx hb d_L_count_19 (by decide) ?_
      have hP9 : va_P (dC, dI) classes (wX q cI (op_count S x y n w).2.2 ++ [oC qo cJ (ov (op_count S x y n w) f)]) H := by rw [st_count h9, ov_n h9]; exact hP
      refine nv_as (nI (op_count S x y n w).1) (by rw [hk]) ?_
      exact W.iret hx hb hr (fun t ht hW => ⟨rfl, by rw [ht]; exact hP9, hS.F ht⟩) hS.2.2 d_L_count_20
    · obtain rfl : E_io = E := by rw [hk] at hE; exact Option.some.inj hE
      refine vx_catch hown [⟨0, 14, 17, 19⟩] ⟨0, 14, 21, 21⟩ [⟨0, 14, 25, 13⟩] (htab.trans rfl) (cp_1 (⟨by decide, E_ia, hts _ wd_228, hN _ (by decide) _ (by decide) (by decide)⟩)) (by decide) (by decide) (hts _ wd_229) (hard_use rfl (hG.2.2.1 _ cs_io rfl)) h3 h4 h5 ?_
      refine lv_astore (lv' := [(6, .ref q9), (0, .ref (q 0)), (1, .int x), (2, .int y), (3, .int n), (4, .int w), (5, .ref qo)]) hx hb d_L_count_21 hl (by decide) rfl (fun ls hl => ?_)
      refine lv_iconst (v := nI 2) hx hb d_L_count_23 (by decide) ?_
      have hP9 : va_P (dC, dI) classes (wX q cI (op_count S x y n w).2.2 ++ [oC qo cJ (ov (op_count S x y n w) f)]) H := by rw [st_count h9, ov_n h9]; exact hP
      refine nv_as (nI (op_count S x y n w).1) (by rw [hk]) ?_
      exact W.iret hx hb hr (fun t ht hW => ⟨rfl, by rw [ht]; exact hP9, hS.F ht⟩) hS.2.2 d_L_count_24
    · obtain rfl : E_uo = E := by rw [hk] at hE; exact Option.some.inj hE
      refine vx_catch hown [⟨0, 14, 17, 19⟩, ⟨0, 14, 21, 21⟩] ⟨0, 14, 25, 13⟩ [] (htab.trans rfl) (cp_2 (⟨by decide, E_ia, hts _ wd_228, hN _ (by decide) _ (by decide) (by decide)⟩) (⟨by decide, E_io, hts _ wd_229, hN _ (by decide) _ (by decide) (by decide)⟩)) (by decide) (by decide) (hts _ wd_151) (hard_use rfl (hG.2.2.1 _ cs_uo rfl)) h3 h4 h5 ?_
      refine lv_astore (lv' := [(6, .ref q9), (0, .ref (q 0)), (1, .int x), (2, .int y), (3, .int n), (4, .int w), (5, .ref qo)]) hx hb d_L_count_25 hl (by decide) rfl (fun ls hl => ?_)
      refine lv_iconst (v := nI 3) hx hb d_L_count_27 (by decide) ?_
      have hP9 : va_P (dC, dI) classes (wX q cI (op_count S x y n w).2.2 ++ [oC qo cJ (ov (op_count S x y n w) f)]) H := by rw [st_count h9, ov_n h9]; exact hP
      refine nv_as (nI (op_count S x y n w).1) (by rw [hk]) ?_
      exact W.iret hx hb hr (fun t ht hW => ⟨rfl, by rw [ht]; exact hP9, hS.F ht⟩) hS.2.2 d_L_count_28
  · refine W.eq (g2 := F0 m 12 ls [.int ((op_count S x y n w).2.1), .int (nI 0), .ref qo]) rfl ?_
    refine lv_i2l (v := ((op_count S x y n w).2.1).toInt64) hx hb d_L_count_12 rfl ?_
    refine va_last (f := f) hx hb hK hP hD hS 18 1 rfl rfl (vp_in_nI (n := 0) (N := 1) (by decide) (by decide)) d_L_count_13 (fun H locs hP hD hS => ?_)
    have hP : va_P (dC, dI) classes (wX q cI (op_count S x y n w).2.2 ++ [oC qo cJ (vp_updL f 0 (((op_count S x y n w).2.1).toInt64))]) H := hP
    refine lv_goto (tgt := 29) hx hb d_L_count_14 (by decide) ?_
    refine lv_iconst (v := nI 0) hx hb d_L_count_29 (by decide) ?_
    have hP9 : va_P (dC, dI) classes (wX q cI (op_count S x y n w).2.2 ++ [oC qo cJ (ov (op_count S x y n w) f)]) H := by rw [ov_y h9]; exact hP
    refine nv_as (nI (op_count S x y n w).1) (by rw [h9]) ?_
    exact W.iret hx hb hr (fun t ht hW => ⟨rfl, by rw [ht]; exact hP9, hS.F ht⟩) hS.2.2 d_L_count_30
set_option maxHeartbeats 4000000 in
set_option maxRecDepth 100000 in
theorem c_L_difference (l : Launch) (hst : l.stackTraces = false) (dC : Nat → ClassId) (dI : Nat → Nat → Nat) (A0 : Nat → Prop) (sz : Nat) (cI : ClassId) (q : Nat → Nat) (cJ : ClassId) (qo : Nat) (f : Nat → Int64) (S : St) (t : Nat) (hI : Bd t S) (x y : Int32) : Met l y_L_difference (.codeWith y_L_difference b_L_difference 5 (some .int) [(0, 10, 13, 19)] :: bg) { frames := 9, cells := 2, slots := 12, locals := 155 } (wl_P (dC, dI) classes [(cI, .int), (cJ, .long)] A0 (wX q cI S ++ [oC qo cJ f]) sz [.ref (q 0), .int x, .int y, .ref qo]) (wr_Q (some (.int (nI (op_difference S x y).1))) (dC, dI) classes (wX q cI (op_difference S x y).2.2 ++ [oC qo cJ (ov (op_difference S x y) f)]) (va_A (wX q cI S ++ [oC qo cJ f]) sz)) 2 12 (va_A (wX q cI S ++ [oC qo cJ f]) sz) := by
  refine va_MetW (cc := b_L_difference) (maxL := 5) (ret := some .int) (hh := [(0, 10, 13, 19)]) (by decide) rfl ?_
  intro p e s m args below meth c s₁ B hml hv
  obtain ⟨rfl, hsz, hP, hK, hD0, hG, hN⟩ := hv
  subst hsz
  have hD := hD0.self (sz := s.heap.size)
  generalize hAe : va_A (wX q cI S ++ [oC qo cJ f]) s.heap.size = A at hD ⊢
  have hA : ∀ q : Nat, s.heap.size ≤ q → A q := fun q h => by rw [← hAe]; exact Or.inr h
  have hS : va_S A s.heap s.heap [] := va_S.rf
  have hx := B.exec
  have hb := B.bytes
  have hr := B.returns
  have hts := fun w (h : w ∈ bg) => atoms_spec (ws := .codeWith y_L_difference b_L_difference 5 (some .int) [(0, 10, 13, 19)] :: bg) B.pre w (List.mem_cons_of_mem _ h)
  have htab := vx_table (x := y_L_difference) B (hts _ wd_444)
  have hown : s.vm.findClass R_L = some m.cls := findClass_of_methodNamed B.named
  have hl := lv_entry ([.ref (q 0), .int x, .int y, .ref qo]) (n := 5) (Nat.le_of_ble_eq_true rfl)
  rw [lg_entry_eq]
  generalize (lg_sl ([.ref (q 0), .int x, .int y, .ref qo]) ++ List.replicate (5 - (lg_sl ([.ref (q 0), .int x, .int y, .ref qo])).length) Slot.unset).toArray = ls at hl ⊢
  have hl : lv_has ls 5 [(0, .ref (q 0)), (1, .int x), (2, .int y), (3, .ref qo)] := hl
  refine lv_aload_n hx hb d_L_difference_0 rfl (lv_at hl 3 rfl) ?_
  refine lv_iconst (v := nI 0) hx hb d_L_difference_1 (by decide) ?_
  refine lv_aload_n hx hb d_L_difference_2 rfl (lv_at hl 0 rfl) ?_
  refine lv_iload_n hx hb d_L_difference_3 rfl (lv_at hl 1 rfl) ?_
  refine lv_iload_n hx hb d_L_difference_4 rfl (lv_at hl 2 rfl) ?_
  refine xo_go (vx_runV (As := [.int x, .int y]) (rest := [.int (nI 0), .ref qo]) ⟨hx, hb, hml, hown, hts⟩ (c_X_difference l hst dC dI A0 s.heap.size cI q S t hI x y ) (cwV 2 hts (gi_V wd_445 wd_446 wd_447 wd_1 wd_448) rfl rfl rfl (by decide +kernel) ⟨Nat.le_of_ble_eq_true rfl, Nat.le_of_ble_eq_true rfl⟩) (xo_preV (hK.sub (tys' := [(cI, .int)]) [0] rfl) (P_l hP) (D_l hD) hG (ci := 0) (q0 := 0) rfl rfl) rfl rfl hl.1 rfl (lv_room (Nat.le_of_ble_eq_true rfl)) d_L_difference_5 ⟨Nat.le_of_ble_eq_true rfl, Nat.le_of_ble_eq_true rfl⟩) hP hD hS hA wX_adr (fun h9 E hE ce q9 H locs hP hS h3 h4 h5 => ?_) (fun h9 H locs hP hD hS => ?_)
  · have hle := ex_lt hE h9
    have hle : (op_difference S x y).1 ≤ 1 := hle
    rcases (show (op_difference S x y).1 = 1 by omega) with hk
    · obtain rfl : E_ia = E := by rw [hk] at hE; exact Option.some.inj hE
      refine vx_catch hown [] ⟨0, 10, 13, 19⟩ [] (htab.trans rfl) (fun z hz => nomatch hz) (by decide) (by decide) (hts _ wd_228) (hard_use rfl (hG.2.2.1 _ cs_ia rfl)) h3 h4 h5 ?_
      refine lv_astore (lv' := [(4, .ref q9), (0, .ref (q 0)), (1, .int x), (2, .int y), (3, .ref qo)]) hx hb d_L_difference_13 hl (by decide) rfl (fun ls hl => ?_)
      refine lv_iconst (v := nI 1) hx hb d_L_difference_15 (by decide) ?_
      have hP9 : va_P (dC, dI) classes (wX q cI (op_difference S x y).2.2 ++ [oC qo cJ (ov (op_difference S x y) f)]) H := by rw [st_difference h9, ov_n h9]; exact hP
      refine nv_as (nI (op_difference S x y).1) (by rw [hk]) ?_
      exact W.iret hx hb hr (fun t ht hW => ⟨rfl, by rw [ht]; exact hP9, hS.F ht⟩) hS.2.2 d_L_difference_16
  · refine W.eq (g2 := F0 m 8 ls [.int ((op_difference S x y).2.1), .int (nI 0), .ref qo]) rfl ?_
    refine lv_i2l (v := ((op_difference S x y).2.1).toInt64) hx hb d_L_difference_8 rfl ?_
    refine va_last (f := f) hx hb hK hP hD hS 18 1 rfl rfl (vp_in_nI (n := 0) (N := 1) (by decide) (by decide)) d_L_difference_9 (fun H locs hP hD hS => ?_)
    have hP : va_P (dC, dI) classes (wX q cI (op_difference S x y).2.2 ++ [oC qo cJ (vp_updL f 0 (((op_difference S x y).2.1).toInt64))]) H := hP
    refine lv_goto (tgt := 17) hx hb d_L_difference_10 (by decide) ?_
    refine lv_iconst (v := nI 0) hx hb d_L_difference_17 (by decide) ?_
    have hP9 : va_P (dC, dI) classes (wX q cI (op_difference S x y).2.2 ++ [oC qo cJ (ov (op_difference S x y) f)]) H := by rw [ov_y h9]; exact hP
    refine nv_as (nI (op_difference S x y).1) (by rw [h9]) ?_
    exact W.iret hx hb hr (fun t ht hW => ⟨rfl, by rw [ht]; exact hP9, hS.F ht⟩) hS.2.2 d_L_difference_18
set_option maxHeartbeats 4000000 in
set_option maxRecDepth 100000 in
theorem c_L_kit (l : Launch) (hst : l.stackTraces = false) (dC : Nat → ClassId) (dI : Nat → Nat → Nat) (A0 : Nat → Prop) (sz : Nat) (cI : ClassId) (q : Nat → Nat) (S : St) (t : Nat) (hI : Bd t S) (x y n : Int32) : Met l y_L_kit (.codeWith y_L_kit b_L_kit 5 (some .int) [(0, 7, 10, 19), (0, 7, 14, 21)] :: bg) { frames := 9, cells := 3, slots := 18, locals := 155 } (wl_P (dC, dI) classes [(cI, .int)] A0 (wX q cI S ++ []) sz [.ref (q 0), .int x, .int y, .int n]) (wr_Q (some (.int (nI (op_kit S x y n).1))) (dC, dI) classes (wX q cI (op_kit S x y n).2.2 ++ []) (va_A (wX q cI S ++ []) sz)) 3 18 (va_A (wX q cI S ++ []) sz) := by
  refine va_MetW (cc := b_L_kit) (maxL := 5) (ret := some .int) (hh := [(0, 7, 10, 19), (0, 7, 14, 21)]) (by decide) rfl ?_
  intro p e s m args below meth c s₁ B hml hv
  obtain ⟨rfl, hsz, hP, hK, hD0, hG, hN⟩ := hv
  subst hsz
  have hD := hD0.self (sz := s.heap.size)
  generalize hAe : va_A (wX q cI S ++ []) s.heap.size = A at hD ⊢
  have hA : ∀ q : Nat, s.heap.size ≤ q → A q := fun q h => by rw [← hAe]; exact Or.inr h
  have hS : va_S A s.heap s.heap [] := va_S.rf
  have hx := B.exec
  have hb := B.bytes
  have hr := B.returns
  have hts := fun w (h : w ∈ bg) => atoms_spec (ws := .codeWith y_L_kit b_L_kit 5 (some .int) [(0, 7, 10, 19), (0, 7, 14, 21)] :: bg) B.pre w (List.mem_cons_of_mem _ h)
  have htab := vx_table (x := y_L_kit) B (hts _ wd_451)
  have hown : s.vm.findClass R_L = some m.cls := findClass_of_methodNamed B.named
  have hl := lv_entry ([.ref (q 0), .int x, .int y, .int n]) (n := 5) (Nat.le_of_ble_eq_true rfl)
  rw [lg_entry_eq]
  generalize (lg_sl ([.ref (q 0), .int x, .int y, .int n]) ++ List.replicate (5 - (lg_sl ([.ref (q 0), .int x, .int y, .int n])).length) Slot.unset).toArray = ls at hl ⊢
  have hl : lv_has ls 5 [(0, .ref (q 0)), (1, .int x), (2, .int y), (3, .int n)] := hl
  refine lv_aload_n hx hb d_L_kit_0 rfl (lv_at hl 0 rfl) ?_
  refine lv_iload_n hx hb d_L_kit_1 rfl (lv_at hl 1 rfl) ?_
  refine lv_iload_n hx hb d_L_kit_2 rfl (lv_at hl 2 rfl) ?_
  refine lv_iload_n hx hb d_L_kit_3 rfl (lv_at hl 3 rfl) ?_
  refine xo_go (vx_runV (As := [.int x, .int y, .int n]) (rest := []) ⟨hx, hb, hml, hown, hts⟩ (c_X_kit l hst dC dI A0 s.heap.size cI q S t hI x y n ) (cwV 3 hts (gi_V wd_452 wd_453 wd_454 wd_1 wd_455) rfl rfl rfl (by decide +kernel) ⟨Nat.le_of_ble_eq_true rfl, Nat.le_of_ble_eq_true rfl⟩) (xo_preV (hK.sub (tys' := [(cI, .int)]) [0] rfl) (P_l hP) (D_l hD) hG (ci := 0) (q0 := 0) rfl rfl) rfl rfl hl.1 rfl (lv_room (Nat.le_of_ble_eq_true rfl)) d_L_kit_4 ⟨Nat.le_of_ble_eq_true rfl, Nat.le_of_ble_eq_true rfl⟩) hP hD hS hA wX_adr (fun h9 E hE ce q9 H locs hP hS h3 h4 h5 => ?_) (fun h9 H locs hP hD hS => ?_)
  · have hle := ex_lt hE h9
    have hle : (op_kit S x y n).1 ≤ 2 := hle
    rcases (show (op_kit S x y n).1 = 1 ∨ (op_kit S x y n).1 = 2 by omega) with hk | hk
    · obtain rfl : E_ia = E := by rw [hk] at hE; exact Option.some.inj hE
      refine vx_catch hown [] ⟨0, 7, 10, 19⟩ [⟨0, 7, 14, 21⟩] (htab.trans rfl) (fun z hz => nomatch hz) (by decide) (by decide) (hts _ wd_228) (hard_use rfl (hG.2.2.1 _ cs_ia rfl)) h3 h4 h5 ?_
      refine lv_astore (lv' := [(4, .ref q9), (0, .ref (q 0)), (1, .int x), (2, .int y), (3, .int n)]) hx hb d_L_kit_10 hl (by decide) rfl (fun ls hl => ?_)
      refine lv_iconst (v := nI 1) hx hb d_L_kit_12 (by decide) ?_
      have hP9 : va_P (dC, dI) classes (wX q cI (op_kit S x y n).2.2 ++ []) H := by rw [st_kit h9]; exact hP
      refine nv_as (nI (op_kit S x y n).1) (by rw [hk]) ?_
      exact W.iret hx hb hr (fun t ht hW => ⟨rfl, by rw [ht]; exact hP9, hS.F ht⟩) hS.2.2 d_L_kit_13
    · obtain rfl : E_io = E := by rw [hk] at hE; exact Option.some.inj hE
      refine vx_catch hown [⟨0, 7, 10, 19⟩] ⟨0, 7, 14, 21⟩ [] (htab.trans rfl) (cp_1 (⟨by decide, E_ia, hts _ wd_228, hN _ (by decide) _ (by decide) (by decide)⟩)) (by decide) (by decide) (hts _ wd_229) (hard_use rfl (hG.2.2.1 _ cs_io rfl)) h3 h4 h5 ?_
      refine lv_astore (lv' := [(4, .ref q9), (0, .ref (q 0)), (1, .int x), (2, .int y), (3, .int n)]) hx hb d_L_kit_14 hl (by decide) rfl (fun ls hl => ?_)
      refine lv_iconst (v := nI 2) hx hb d_L_kit_16 (by decide) ?_
      have hP9 : va_P (dC, dI) classes (wX q cI (op_kit S x y n).2.2 ++ []) H := by rw [st_kit h9]; exact hP
      refine nv_as (nI (op_kit S x y n).1) (by rw [hk]) ?_
      exact W.iret hx hb hr (fun t ht hW => ⟨rfl, by rw [ht]; exact hP9, hS.F ht⟩) hS.2.2 d_L_kit_17
  · refine W.eq (g2 := F0 m 7 ls []) rfl ?_
    refine lv_goto (tgt := 18) hx hb d_L_kit_7 (by decide) ?_
    refine lv_iconst (v := nI 0) hx hb d_L_kit_18 (by decide) ?_
    have hP9 : va_P (dC, dI) classes (wX q cI (op_kit S x y n).2.2 ++ []) H := hP
    refine nv_as (nI (op_kit S x y n).1) (by rw [h9]) ?_
    exact W.iret hx hb hr (fun t ht hW => ⟨rfl, by rw [ht]; exact hP9, hS.F ht⟩) hS.2.2 d_L_kit_19
set_option maxHeartbeats 4000000 in
set_option maxRecDepth 100000 in
theorem c_L_give (l : Launch) (hst : l.stackTraces = false) (dC : Nat → ClassId) (dI : Nat → Nat → Nat) (A0 : Nat → Prop) (sz : Nat) (cI : ClassId) (q : Nat → Nat) (cJ : ClassId) (qo : Nat) (f : Nat → Int64) (S : St) (t : Nat) (hI : Bd t S) (x y : Int32) (hou : ∀ j, S.1 2 j + 9999 ≤ 9999 * t) : Met l y_L_give (.codeWith y_L_give b_L_give 5 (some .int) [(0, 10, 13, 19), (0, 10, 17, 31)] :: bg) { frames := 9, cells := 3, slots := 18, locals := 156 } (wl_P (dC, dI) classes [(cI, .int), (cJ, .long)] A0 (wX q cI S ++ [oC qo cJ f]) sz [.ref (q 0), .int x, .int y, .ref qo]) (wr_Q (some (.int (nI (op_give S x y).1))) (dC, dI) classes (wX q cI (op_give S x y).2.2 ++ [oC qo cJ (ov (op_give S x y) f)]) (va_A (wX q cI S ++ [oC qo cJ f]) sz)) 3 18 (va_A (wX q cI S ++ [oC qo cJ f]) sz) := by
  refine va_MetW (cc := b_L_give) (maxL := 5) (ret := some .int) (hh := [(0, 10, 13, 19), (0, 10, 17, 31)]) (by decide) rfl ?_
  intro p e s m args below meth c s₁ B hml hv
  obtain ⟨rfl, hsz, hP, hK, hD0, hG, hN⟩ := hv
  subst hsz
  have hD := hD0.self (sz := s.heap.size)
  generalize hAe : va_A (wX q cI S ++ [oC qo cJ f]) s.heap.size = A at hD ⊢
  have hA : ∀ q : Nat, s.heap.size ≤ q → A q := fun q h => by rw [← hAe]; exact Or.inr h
  have hS : va_S A s.heap s.heap [] := va_S.rf
  have hx := B.exec
  have hb := B.bytes
  have hr := B.returns
  have hts := fun w (h : w ∈ bg) => atoms_spec (ws := .codeWith y_L_give b_L_give 5 (some .int) [(0, 10, 13, 19), (0, 10, 17, 31)] :: bg) B.pre w (List.mem_cons_of_mem _ h)
  have htab := vx_table (x := y_L_give) B (hts _ wd_462)
  have hown : s.vm.findClass R_L = some m.cls := findClass_of_methodNamed B.named
  have hl := lv_entry ([.ref (q 0), .int x, .int y, .ref qo]) (n := 5) (Nat.le_of_ble_eq_true rfl)
  rw [lg_entry_eq]
  generalize (lg_sl ([.ref (q 0), .int x, .int y, .ref qo]) ++ List.replicate (5 - (lg_sl ([.ref (q 0), .int x, .int y, .ref qo])).length) Slot.unset).toArray = ls at hl ⊢
  have hl : lv_has ls 5 [(0, .ref (q 0)), (1, .int x), (2, .int y), (3, .ref qo)] := hl
  refine lv_aload_n hx hb d_L_give_0 rfl (lv_at hl 3 rfl) ?_
  refine lv_iconst (v := nI 0) hx hb d_L_give_1 (by decide) ?_
  refine lv_aload_n hx hb d_L_give_2 rfl (lv_at hl 0 rfl) ?_
  refine lv_iload_n hx hb d_L_give_3 rfl (lv_at hl 1 rfl) ?_
  refine lv_iload_n hx hb d_L_give_4 rfl (lv_at hl 2 rfl) ?_
  refine xo_go (vx_runV (As := [.int x, .int y]) (rest := [.int (nI 0), .ref qo]) ⟨hx, hb, hml, hown, hts⟩ (c_X_give l hst dC dI A0 s.heap.size cI q S t hI x y hou) (cwV 2 hts (gi_V wd_463 wd_464 wd_465 wd_1 wd_466) rfl rfl rfl (by decide +kernel) ⟨Nat.le_of_ble_eq_true rfl, Nat.le_of_ble_eq_true rfl⟩) (xo_preV (hK.sub (tys' := [(cI, .int)]) [0] rfl) (P_l hP) (D_l hD) hG (ci := 0) (q0 := 0) rfl rfl) rfl rfl hl.1 rfl (lv_room (Nat.le_of_ble_eq_true rfl)) d_L_give_5 ⟨Nat.le_of_ble_eq_true rfl, Nat.le_of_ble_eq_true rfl⟩) hP hD hS hA wX_adr (fun h9 E hE ce q9 H locs hP hS h3 h4 h5 => ?_) (fun h9 H locs hP hD hS => ?_)
  · have hle := ex_lt hE h9
    have hle : (op_give S x y).1 ≤ 2 := hle
    rcases (show (op_give S x y).1 = 1 ∨ (op_give S x y).1 = 2 by omega) with hk | hk
    · obtain rfl : E_ia = E := by rw [hk] at hE; exact Option.some.inj hE
      refine vx_catch hown [] ⟨0, 10, 13, 19⟩ [⟨0, 10, 17, 31⟩] (htab.trans rfl) (fun z hz => nomatch hz) (by decide) (by decide) (hts _ wd_228) (hard_use rfl (hG.2.2.1 _ cs_ia rfl)) h3 h4 h5 ?_
      refine lv_astore (lv' := [(4, .ref q9), (0, .ref (q 0)), (1, .int x), (2, .int y), (3, .ref qo)]) hx hb d_L_give_13 hl (by decide) rfl (fun ls hl => ?_)
      refine lv_iconst (v := nI 1) hx hb d_L_give_15 (by decide) ?_
      have hP9 : va_P (dC, dI) classes (wX q cI (op_give S x y).2.2 ++ [oC qo cJ (ov (op_give S x y) f)]) H := by rw [st_give h9, ov_n h9]; exact hP
      refine nv_as (nI (op_give S x y).1) (by rw [hk]) ?_
      exact W.iret hx hb hr (fun t ht hW => ⟨rfl, by rw [ht]; exact hP9, hS.F ht⟩) hS.2.2 d_L_give_16
    · obtain rfl : E_is = E := by rw [hk] at hE; exact Option.some.inj hE
      refine vx_catch hown [⟨0, 10, 13, 19⟩] ⟨0, 10, 17, 31⟩ [] (htab.trans rfl) (cp_1 (⟨by decide, E_ia, hts _ wd_228, hN _ (by decide) _ (by decide) (by decide)⟩)) (by decide) (by decide) (hts _ wd_312) (hard_use rfl (hG.2.2.1 _ cs_is rfl)) h3 h4 h5 ?_
      refine lv_astore (lv' := [(4, .ref q9), (0, .ref (q 0)), (1, .int x), (2, .int y), (3, .ref qo)]) hx hb d_L_give_17 hl (by decide) rfl (fun ls hl => ?_)
      refine lv_iconst (v := nI 2) hx hb d_L_give_19 (by decide) ?_
      have hP9 : va_P (dC, dI) classes (wX q cI (op_give S x y).2.2 ++ [oC qo cJ (ov (op_give S x y) f)]) H := by rw [st_give h9, ov_n h9]; exact hP
      refine nv_as (nI (op_give S x y).1) (by rw [hk]) ?_
      exact W.iret hx hb hr (fun t ht hW => ⟨rfl, by rw [ht]; exact hP9, hS.F ht⟩) hS.2.2 d_L_give_20
  · refine W.eq (g2 := F0 m 8 ls [.int ((op_give S x y).2.1), .int (nI 0), .ref qo]) rfl ?_
    refine lv_i2l (v := ((op_give S x y).2.1).toInt64) hx hb d_L_give_8 rfl ?_
    refine va_last (f := f) hx hb hK hP hD hS 18 1 rfl rfl (vp_in_nI (n := 0) (N := 1) (by decide) (by decide)) d_L_give_9 (fun H locs hP hD hS => ?_)
    have hP : va_P (dC, dI) classes (wX q cI (op_give S x y).2.2 ++ [oC qo cJ (vp_updL f 0 (((op_give S x y).2.1).toInt64))]) H := hP
    refine lv_goto (tgt := 21) hx hb d_L_give_10 (by decide) ?_
    refine lv_iconst (v := nI 0) hx hb d_L_give_21 (by decide) ?_
    have hP9 : va_P (dC, dI) classes (wX q cI (op_give S x y).2.2 ++ [oC qo cJ (ov (op_give S x y) f)]) H := by rw [ov_y h9]; exact hP
    refine nv_as (nI (op_give S x y).1) (by rw [h9]) ?_
    exact W.iret hx hb hr (fun t ht hW => ⟨rfl, by rw [ht]; exact hP9, hS.F ht⟩) hS.2.2 d_L_give_22
set_option maxHeartbeats 4000000 in
set_option maxRecDepth 100000 in
theorem c_L_back (l : Launch) (hst : l.stackTraces = false) (dC : Nat → ClassId) (dI : Nat → Nat → Nat) (A0 : Nat → Prop) (sz : Nat) (cI : ClassId) (q : Nat → Nat) (cJ : ClassId) (qo : Nat) (f : Nat → Int64) (S : St) (t : Nat) (hI : Bd t S) (x y n : Int32) : Met l y_L_back (.codeWith y_L_back b_L_back 6 (some .int) [(0, 19, 22, 19), (0, 19, 26, 21), (0, 19, 30, 13)] :: bg) { frames := 9, cells := 4, slots := 24, locals := 155 } (wl_P (dC, dI) classes [(cI, .int), (cJ, .long)] A0 (wX q cI S ++ [oC qo cJ f]) sz [.ref (q 0), .int x, .int y, .int n, .ref qo]) (wr_Q (some (.int (nI (op_back S x y n).1))) (dC, dI) classes (wX q cI (op_back S x y n).2.2 ++ [oC qo cJ (ov (op_back S x y n) f)]) (va_A (wX q cI S ++ [oC qo cJ f]) sz)) 4 24 (va_A (wX q cI S ++ [oC qo cJ f]) sz) := by
  refine va_MetW (cc := b_L_back) (maxL := 6) (ret := some .int) (hh := [(0, 19, 22, 19), (0, 19, 26, 21), (0, 19, 30, 13)]) (by decide) rfl ?_
  intro p e s m args below meth c s₁ B hml hv
  obtain ⟨rfl, hsz, hP, hK, hD0, hG, hN⟩ := hv
  subst hsz
  have hD := hD0.self (sz := s.heap.size)
  generalize hAe : va_A (wX q cI S ++ [oC qo cJ f]) s.heap.size = A at hD ⊢
  have hA : ∀ q : Nat, s.heap.size ≤ q → A q := fun q h => by rw [← hAe]; exact Or.inr h
  have hS : va_S A s.heap s.heap [] := va_S.rf
  have hx := B.exec
  have hb := B.bytes
  have hr := B.returns
  have hts := fun w (h : w ∈ bg) => atoms_spec (ws := .codeWith y_L_back b_L_back 6 (some .int) [(0, 19, 22, 19), (0, 19, 26, 21), (0, 19, 30, 13)] :: bg) B.pre w (List.mem_cons_of_mem _ h)
  have htab := vx_table (x := y_L_back) B (hts _ wd_478)
  have hown : s.vm.findClass R_L = some m.cls := findClass_of_methodNamed B.named
  have hl := lv_entry ([.ref (q 0), .int x, .int y, .int n, .ref qo]) (n := 6) (Nat.le_of_ble_eq_true rfl)
  rw [lg_entry_eq]
  generalize (lg_sl ([.ref (q 0), .int x, .int y, .int n, .ref qo]) ++ List.replicate (6 - (lg_sl ([.ref (q 0), .int x, .int y, .int n, .ref qo])).length) Slot.unset).toArray = ls at hl ⊢
  have hl : lv_has ls 6 [(0, .ref (q 0)), (1, .int x), (2, .int y), (3, .int n), (4, .ref qo)] := hl
  refine lv_aload hx hb d_L_back_0 (lv_at hl 4 rfl) ?_
  refine lv_iconst (v := nI 0) hx hb d_L_back_2 (by decide) ?_
  refine lv_aload_n hx hb d_L_back_3 rfl (lv_at hl 0 rfl) ?_
  refine lv_iload_n hx hb d_L_back_4 rfl (lv_at hl 1 rfl) ?_
  refine lv_iload_n hx hb d_L_back_5 rfl (lv_at hl 2 rfl) ?_
  refine lv_iload_n hx hb d_L_back_6 rfl (lv_at hl 3 rfl) ?_
  refine xo_go (vx_runV (As := [.int x, .int y, .int n]) (rest := [.int (nI 0), .ref qo]) ⟨hx, hb, hml, hown, hts⟩ (c_X_back l hst dC dI A0 s.heap.size cI q S t hI x y n ) (cwV 3 hts (gi_V wd_479 wd_480 wd_481 wd_1 wd_482) rfl rfl rfl (by decide +kernel) ⟨Nat.le_of_ble_eq_true rfl, Nat.le_of_ble_eq_true rfl⟩) (xo_preV (hK.sub (tys' := [(cI, .int)]) [0] rfl) (P_l hP) (D_l hD) hG (ci := 0) (q0 := 0) rfl rfl) rfl rfl hl.1 rfl (lv_room (Nat.le_of_ble_eq_true rfl)) d_L_back_7 ⟨Nat.le_of_ble_eq_true rfl, Nat.le_of_ble_eq_true rfl⟩) hP hD hS hA wX_adr (fun h9 E hE ce q9 H locs hP hS h3 h4 h5 => ?_) (fun h9 H locs hP hD hS => ?_)
  · have hle := ex_lt hE h9
    have hle : (op_back S x y n).1 ≤ 3 := hle
    rcases (show (op_back S x y n).1 = 1 ∨ (op_back S x y n).1 = 2 ∨ (op_back S x y n).1 = 3 by omega) with hk | hk | hk
    · obtain rfl : E_ia = E := by rw [hk] at hE; exact Option.some.inj hE
      refine vx_catch hown [] ⟨0, 19, 22, 19⟩ [⟨0, 19, 26, 21⟩, ⟨0, 19, 30, 13⟩] (htab.trans rfl) (fun z hz => nomatch hz) (by decide) (by decide) (hts _ wd_228) (hard_use rfl (hG.2.2.1 _ cs_ia rfl)) h3 h4 h5 ?_
      refine lv_astore (lv' := [(5, .ref q9), (0, .ref (q 0)), (1, .int x), (2, .int y), (3, .int n), (4, .ref qo)]) hx hb d_L_back_22 hl (by decide) rfl (fun ls hl => ?_)
      refine lv_iconst (v := nI 1) hx hb d_L_back_24 (by decide) ?_
      have hP9 : va_P (dC, dI) classes (wX q cI (op_back S x y n).2.2 ++ [oC qo cJ (ov (op_back S x y n) f)]) H := by rw [st_back h9, ov_n h9]; exact hP
      refine nv_as (nI (op_back S x y n).1) (by rw [hk]) ?_
      exact W.iret hx hb hr (fun t ht hW => ⟨rfl, by rw [ht]; exact hP9, hS.F ht⟩) hS.2.2 d_L_back_25
    · obtain rfl : E_io = E := by rw [hk] at hE; exact Option.some.inj hE
      refine vx_catch hown [⟨0, 19, 22, 19⟩] ⟨0, 19, 26, 21⟩ [⟨0, 19, 30, 13⟩] (htab.trans rfl) (cp_1 (⟨by decide, E_ia, hts _ wd_228, hN _ (by decide) _ (by decide) (by decide)⟩)) (by decide) (by decide) (hts _ wd_229) (hard_use rfl (hG.2.2.1 _ cs_io rfl)) h3 h4 h5 ?_
      refine lv_astore (lv' := [(5, .ref q9), (0, .ref (q 0)), (1, .int x), (2, .int y), (3, .int n), (4, .ref qo)]) hx hb d_L_back_26 hl (by decide) rfl (fun ls hl => ?_)
      refine lv_iconst (v := nI 2) hx hb d_L_back_28 (by decide) ?_
      have hP9 : va_P (dC, dI) classes (wX q cI (op_back S x y n).2.2 ++ [oC qo cJ (ov (op_back S x y n) f)]) H := by rw [st_back h9, ov_n h9]; exact hP
      refine nv_as (nI (op_back S x y n).1) (by rw [hk]) ?_
      exact W.iret hx hb hr (fun t ht hW => ⟨rfl, by rw [ht]; exact hP9, hS.F ht⟩) hS.2.2 d_L_back_29
    · obtain rfl : E_uo = E := by rw [hk] at hE; exact Option.some.inj hE
      refine vx_catch hown [⟨0, 19, 22, 19⟩, ⟨0, 19, 26, 21⟩] ⟨0, 19, 30, 13⟩ [] (htab.trans rfl) (cp_2 (⟨by decide, E_ia, hts _ wd_228, hN _ (by decide) _ (by decide) (by decide)⟩) (⟨by decide, E_io, hts _ wd_229, hN _ (by decide) _ (by decide) (by decide)⟩)) (by decide) (by decide) (hts _ wd_151) (hard_use rfl (hG.2.2.1 _ cs_uo rfl)) h3 h4 h5 ?_
      refine lv_astore (lv' := [(5, .ref q9), (0, .ref (q 0)), (1, .int x), (2, .int y), (3, .int n), (4, .ref qo)]) hx hb d_L_back_30 hl (by decide) rfl (fun ls hl => ?_)
      refine lv_iconst (v := nI 3) hx hb d_L_back_32 (by decide) ?_
      have hP9 : va_P (dC, dI) classes (wX q cI (op_back S x y n).2.2 ++ [oC qo cJ (ov (op_back S x y n) f)]) H := by rw [st_back h9, ov_n h9]; exact hP
      refine nv_as (nI (op_back S x y n).1) (by rw [hk]) ?_
      exact W.iret hx hb hr (fun t ht hW => ⟨rfl, by rw [ht]; exact hP9, hS.F ht⟩) hS.2.2 d_L_back_33
  · refine W.eq (g2 := F0 m 10 ls [.int ((op_back S x y n).2.1), .int (nI 0), .ref qo]) rfl ?_
    refine lv_if_eq (tgt := 17) hx hb d_L_back_10 (by decide) (fun c10 => ?_) (fun c10 => ?_)
    · refine lv_lconst (v := 0) hx hb d_L_back_17 (by decide) ?_
      refine va_last (f := f) hx hb hK hP hD hS 18 1 rfl rfl (vp_in_nI (n := 0) (N := 1) (by decide) (by decide)) d_L_back_18 (fun H locs hP hD hS => ?_)
      have hP : va_P (dC, dI) classes (wX q cI (op_back S x y n).2.2 ++ [oC qo cJ (vp_updL f 0 0)]) H := hP
      refine lv_goto (tgt := 34) hx hb d_L_back_19 (by decide) ?_
      refine lv_iconst (v := nI 0) hx hb d_L_back_34 (by decide) ?_
      have hP9 : va_P (dC, dI) classes (wX q cI (op_back S x y n).2.2 ++ [oC qo cJ (ov (op_back S x y n) f)]) H := by rw [ov_y h9, c10]; exact hP
      refine nv_as (nI (op_back S x y n).1) (by rw [h9]) ?_
      exact W.iret hx hb hr (fun t ht hW => ⟨rfl, by rw [ht]; exact hP9, hS.F ht⟩) hS.2.2 d_L_back_35
    · refine lv_lconst (v := 1) hx hb d_L_back_13 (by decide) ?_
      refine lv_goto (tgt := 18) hx hb d_L_back_14 (by decide) ?_
      refine va_last (f := f) hx hb hK hP hD hS 18 1 rfl rfl (vp_in_nI (n := 0) (N := 1) (by decide) (by decide)) d_L_back_18 (fun H locs hP hD hS => ?_)
      have hP : va_P (dC, dI) classes (wX q cI (op_back S x y n).2.2 ++ [oC qo cJ (vp_updL f 0 1)]) H := hP
      refine lv_goto (tgt := 34) hx hb d_L_back_19 (by decide) ?_
      refine lv_iconst (v := nI 0) hx hb d_L_back_34 (by decide) ?_
      have hP9 : va_P (dC, dI) classes (wX q cI (op_back S x y n).2.2 ++ [oC qo cJ (ov (op_back S x y n) f)]) H := by rw [ov_y h9, bk01.resolve_left c10]; exact hP
      refine nv_as (nI (op_back S x y n).1) (by rw [h9]) ?_
      exact W.iret hx hb hr (fun t ht hW => ⟨rfl, by rw [ht]; exact hP9, hS.F ht⟩) hS.2.2 d_L_back_35
set_option maxHeartbeats 4000000 in
set_option maxRecDepth 100000 in
theorem c_L_waste (l : Launch) (hst : l.stackTraces = false) (dC : Nat → ClassId) (dI : Nat → Nat → Nat) (A0 : Nat → Prop) (sz : Nat) (cI : ClassId) (q : Nat → Nat) (cJ : ClassId) (qo : Nat) (f : Nat → Int64) (S : St) (t : Nat) (hI : Bd t S) (x y n w : Int32) (hwa : ∀ j, S.1 3 j + 9999 ≤ 9999 * t) : Met l y_L_waste (.codeWith y_L_waste b_L_waste 7 (some .int) [(0, 14, 17, 19), (0, 14, 21, 21), (0, 14, 25, 31)] :: bg) { frames := 9, cells := 5, slots := 30, locals := 156 } (wl_P (dC, dI) classes [(cI, .int), (cJ, .long)] A0 (wX q cI S ++ [oC qo cJ f]) sz [.ref (q 0), .int x, .int y, .int n, .int w, .ref qo]) (wr_Q (some (.int (nI (op_waste S x y n w).1))) (dC, dI) classes (wX q cI (op_waste S x y n w).2.2 ++ [oC qo cJ (ov (op_waste S x y n w) f)]) (va_A (wX q cI S ++ [oC qo cJ f]) sz)) 5 30 (va_A (wX q cI S ++ [oC qo cJ f]) sz) := by
  refine va_MetW (cc := b_L_waste) (maxL := 7) (ret := some .int) (hh := [(0, 14, 17, 19), (0, 14, 21, 21), (0, 14, 25, 31)]) (by decide) rfl ?_
  intro p e s m args below meth c s₁ B hml hv
  obtain ⟨rfl, hsz, hP, hK, hD0, hG, hN⟩ := hv
  subst hsz
  have hD := hD0.self (sz := s.heap.size)
  generalize hAe : va_A (wX q cI S ++ [oC qo cJ f]) s.heap.size = A at hD ⊢
  have hA : ∀ q : Nat, s.heap.size ≤ q → A q := fun q h => by rw [← hAe]; exact Or.inr h
  have hS : va_S A s.heap s.heap [] := va_S.rf
  have hx := B.exec
  have hb := B.bytes
  have hr := B.returns
  have hts := fun w (h : w ∈ bg) => atoms_spec (ws := .codeWith y_L_waste b_L_waste 7 (some .int) [(0, 14, 17, 19), (0, 14, 21, 21), (0, 14, 25, 31)] :: bg) B.pre w (List.mem_cons_of_mem _ h)
  have htab := vx_table (x := y_L_waste) B (hts _ wd_485)
  have hown : s.vm.findClass R_L = some m.cls := findClass_of_methodNamed B.named
  have hl := lv_entry ([.ref (q 0), .int x, .int y, .int n, .int w, .ref qo]) (n := 7) (Nat.le_of_ble_eq_true rfl)
  rw [lg_entry_eq]
  generalize (lg_sl ([.ref (q 0), .int x, .int y, .int n, .int w, .ref qo]) ++ List.replicate (7 - (lg_sl ([.ref (q 0), .int x, .int y, .int n, .int w, .ref qo])).length) Slot.unset).toArray = ls at hl ⊢
  have hl : lv_has ls 7 [(0, .ref (q 0)), (1, .int x), (2, .int y), (3, .int n), (4, .int w), (5, .ref qo)] := hl
  refine lv_aload hx hb d_L_waste_0 (lv_at hl 5 rfl) ?_
  refine lv_iconst (v := nI 0) hx hb d_L_waste_2 (by decide) ?_
  refine lv_aload_n hx hb d_L_waste_3 rfl (lv_at hl 0 rfl) ?_
  refine lv_iload_n hx hb d_L_waste_4 rfl (lv_at hl 1 rfl) ?_
  refine lv_iload_n hx hb d_L_waste_5 rfl (lv_at hl 2 rfl) ?_
  refine lv_iload_n hx hb d_L_waste_6 rfl (lv_at hl 3 rfl) ?_
  refine lv_iload hx hb d_L_waste_7 (lv_at hl 4 rfl) ?_
  refine xo_go (vx_runV (As := [.int x, .int y, .int n, .int w]) (rest := [.int (nI 0), .ref qo]) ⟨hx, hb, hml, hown, hts⟩ (c_X_waste l hst dC dI A0 s.heap.size cI q S t hI x y n w hwa) (cwV 4 hts (gi_V wd_486 wd_487 wd_488 wd_1 wd_489) rfl rfl rfl (by decide +kernel) ⟨Nat.le_of_ble_eq_true rfl, Nat.le_of_ble_eq_true rfl⟩) (xo_preV (hK.sub (tys' := [(cI, .int)]) [0] rfl) (P_l hP) (D_l hD) hG (ci := 0) (q0 := 0) rfl rfl) rfl rfl hl.1 rfl (lv_room (Nat.le_of_ble_eq_true rfl)) d_L_waste_9 ⟨Nat.le_of_ble_eq_true rfl, Nat.le_of_ble_eq_true rfl⟩) hP hD hS hA wX_adr (fun h9 E hE ce q9 H locs hP hS h3 h4 h5 => ?_) (fun h9 H locs hP hD hS => ?_)
  · have hle := ex_lt hE h9
    have hle : (op_waste S x y n w).1 ≤ 3 := hle
    rcases (show (op_waste S x y n w).1 = 1 ∨ (op_waste S x y n w).1 = 2 ∨ (op_waste S x y n w).1 = 3 by omega) with hk | hk | hk
    · obtain rfl : E_ia = E := by rw [hk] at hE; exact Option.some.inj hE
      refine vx_catch hown [] ⟨0, 14, 17, 19⟩ [⟨0, 14, 21, 21⟩, ⟨0, 14, 25, 31⟩] (htab.trans rfl) (fun z hz => nomatch hz) (by decide) (by decide) (hts _ wd_228) (hard_use rfl (hG.2.2.1 _ cs_ia rfl)) h3 h4 h5 ?_
      refine lv_astore (lv' := [(6, .ref q9), (0, .ref (q 0)), (1, .int x), (2, .int y), (3, .int n), (4, .int w), (5, .ref qo)]) hx hb d_L_waste_17 hl (by decide) rfl (fun ls hl => ?_)
      refine lv_iconst (v := nI 1) hx hb d_L_waste_19 (by decide) ?_
      have hP9 : va_P (dC, dI) classes (wX q cI (op_waste S x y n w).2.2 ++ [oC qo cJ (ov (op_waste S x y n w) f)]) H := by rw [st_waste h9, ov_n h9]; exact hP
      refine nv_as (nI (op_waste S x y n w).1) (by rw [hk]) ?_
      exact W.iret hx hb hr (fun t ht hW => ⟨rfl, by rw [ht]; exact hP9, hS.F ht⟩) hS.2.2 d_L_waste_20
    · obtain rfl : E_io = E := by rw [hk] at hE; exact Option.some.inj hE
      refine vx_catch hown [⟨0, 14, 17, 19⟩] ⟨0, 14, 21, 21⟩ [⟨0, 14, 25, 31⟩] (htab.trans rfl) (cp_1 (⟨by decide, E_ia, hts _ wd_228, hN _ (by decide) _ (by decide) (by decide)⟩)) (by decide) (by decide) (hts _ wd_229) (hard_use rfl (hG.2.2.1 _ cs_io rfl)) h3 h4 h5 ?_
      refine lv_astore (lv' := [(6, .ref q9), (0, .ref (q 0)), (1, .int x), (2, .int y), (3, .int n), (4, .int w), (5, .ref qo)]) hx hb d_L_waste_21 hl (by decide) rfl (fun ls hl => ?_)
      refine lv_iconst (v := nI 2) hx hb d_L_waste_23 (by decide) ?_
      have hP9 : va_P (dC, dI) classes (wX q cI (op_waste S x y n w).2.2 ++ [oC qo cJ (ov (op_waste S x y n w) f)]) H := by rw [st_waste h9, ov_n h9]; exact hP
      refine nv_as (nI (op_waste S x y n w).1) (by rw [hk]) ?_
      exact W.iret hx hb hr (fun t ht hW => ⟨rfl, by rw [ht]; exact hP9, hS.F ht⟩) hS.2.2 d_L_waste_24
    · obtain rfl : E_is = E := by rw [hk] at hE; exact Option.some.inj hE
      refine vx_catch hown [⟨0, 14, 17, 19⟩, ⟨0, 14, 21, 21⟩] ⟨0, 14, 25, 31⟩ [] (htab.trans rfl) (cp_2 (⟨by decide, E_ia, hts _ wd_228, hN _ (by decide) _ (by decide) (by decide)⟩) (⟨by decide, E_io, hts _ wd_229, hN _ (by decide) _ (by decide) (by decide)⟩)) (by decide) (by decide) (hts _ wd_312) (hard_use rfl (hG.2.2.1 _ cs_is rfl)) h3 h4 h5 ?_
      refine lv_astore (lv' := [(6, .ref q9), (0, .ref (q 0)), (1, .int x), (2, .int y), (3, .int n), (4, .int w), (5, .ref qo)]) hx hb d_L_waste_25 hl (by decide) rfl (fun ls hl => ?_)
      refine lv_iconst (v := nI 3) hx hb d_L_waste_27 (by decide) ?_
      have hP9 : va_P (dC, dI) classes (wX q cI (op_waste S x y n w).2.2 ++ [oC qo cJ (ov (op_waste S x y n w) f)]) H := by rw [st_waste h9, ov_n h9]; exact hP
      refine nv_as (nI (op_waste S x y n w).1) (by rw [hk]) ?_
      exact W.iret hx hb hr (fun t ht hW => ⟨rfl, by rw [ht]; exact hP9, hS.F ht⟩) hS.2.2 d_L_waste_28
  · refine W.eq (g2 := F0 m 12 ls [.int ((op_waste S x y n w).2.1), .int (nI 0), .ref qo]) rfl ?_
    refine lv_i2l (v := ((op_waste S x y n w).2.1).toInt64) hx hb d_L_waste_12 rfl ?_
    refine va_last (f := f) hx hb hK hP hD hS 18 1 rfl rfl (vp_in_nI (n := 0) (N := 1) (by decide) (by decide)) d_L_waste_13 (fun H locs hP hD hS => ?_)
    have hP : va_P (dC, dI) classes (wX q cI (op_waste S x y n w).2.2 ++ [oC qo cJ (vp_updL f 0 (((op_waste S x y n w).2.1).toInt64))]) H := hP
    refine lv_goto (tgt := 29) hx hb d_L_waste_14 (by decide) ?_
    refine lv_iconst (v := nI 0) hx hb d_L_waste_29 (by decide) ?_
    have hP9 : va_P (dC, dI) classes (wX q cI (op_waste S x y n w).2.2 ++ [oC qo cJ (ov (op_waste S x y n w) f)]) H := by rw [ov_y h9]; exact hP
    refine nv_as (nI (op_waste S x y n w).1) (by rw [h9]) ?_
    exact W.iret hx hb hr (fun t ht hW => ⟨rfl, by rw [ht]; exact hP9, hS.F ht⟩) hS.2.2 d_L_waste_30
set_option maxHeartbeats 4000000 in
set_option maxRecDepth 100000 in
theorem c_L_lotAt (l : Launch) (hst : l.stackTraces = false) (dC : Nat → ClassId) (dI : Nat → Nat → Nat) (A0 : Nat → Prop) (sz : Nat) (cI : ClassId) (q : Nat → Nat) (cJ : ClassId) (qo : Nat) (f : Nat → Int64) (S : St) (t : Nat) (hI : Bd t S) (x y : Int32) : Met l y_L_lotAt (.codeWith y_L_lotAt b_L_lotAt 5 (some .int) [(0, 10, 13, 19)] :: bg) { frames := 9, cells := 3, slots := 18, locals := 155 } (wl_P (dC, dI) classes [(cI, .int), (cJ, .long)] A0 (wX q cI S ++ [oC qo cJ f]) sz [.ref (q 0), .int x, .int y, .ref qo]) (wr_Q (some (.int (nI (op_lotAt S x y).1))) (dC, dI) classes (wX q cI (op_lotAt S x y).2.2 ++ [oC qo cJ (ov (op_lotAt S x y) f)]) (va_A (wX q cI S ++ [oC qo cJ f]) sz)) 3 18 (va_A (wX q cI S ++ [oC qo cJ f]) sz) := by
  refine va_MetW (cc := b_L_lotAt) (maxL := 5) (ret := some .int) (hh := [(0, 10, 13, 19)]) (by decide) rfl ?_
  intro p e s m args below meth c s₁ B hml hv
  obtain ⟨rfl, hsz, hP, hK, hD0, hG, hN⟩ := hv
  subst hsz
  have hD := hD0.self (sz := s.heap.size)
  generalize hAe : va_A (wX q cI S ++ [oC qo cJ f]) s.heap.size = A at hD ⊢
  have hA : ∀ q : Nat, s.heap.size ≤ q → A q := fun q h => by rw [← hAe]; exact Or.inr h
  have hS : va_S A s.heap s.heap [] := va_S.rf
  have hx := B.exec
  have hb := B.bytes
  have hr := B.returns
  have hts := fun w (h : w ∈ bg) => atoms_spec (ws := .codeWith y_L_lotAt b_L_lotAt 5 (some .int) [(0, 10, 13, 19)] :: bg) B.pre w (List.mem_cons_of_mem _ h)
  have htab := vx_table (x := y_L_lotAt) B (hts _ wd_492)
  have hown : s.vm.findClass R_L = some m.cls := findClass_of_methodNamed B.named
  have hl := lv_entry ([.ref (q 0), .int x, .int y, .ref qo]) (n := 5) (Nat.le_of_ble_eq_true rfl)
  rw [lg_entry_eq]
  generalize (lg_sl ([.ref (q 0), .int x, .int y, .ref qo]) ++ List.replicate (5 - (lg_sl ([.ref (q 0), .int x, .int y, .ref qo])).length) Slot.unset).toArray = ls at hl ⊢
  have hl : lv_has ls 5 [(0, .ref (q 0)), (1, .int x), (2, .int y), (3, .ref qo)] := hl
  refine lv_aload_n hx hb d_L_lotAt_0 rfl (lv_at hl 3 rfl) ?_
  refine lv_iconst (v := nI 0) hx hb d_L_lotAt_1 (by decide) ?_
  refine lv_aload_n hx hb d_L_lotAt_2 rfl (lv_at hl 0 rfl) ?_
  refine lv_iload_n hx hb d_L_lotAt_3 rfl (lv_at hl 1 rfl) ?_
  refine lv_iload_n hx hb d_L_lotAt_4 rfl (lv_at hl 2 rfl) ?_
  refine xo_go (vx_runV (As := [.int x, .int y]) (rest := [.int (nI 0), .ref qo]) ⟨hx, hb, hml, hown, hts⟩ (c_X_lotAt l hst dC dI A0 s.heap.size cI q S t hI x y ) (cwV 2 hts (gi_V wd_493 wd_494 wd_495 wd_1 wd_496) rfl rfl rfl (by decide +kernel) ⟨Nat.le_of_ble_eq_true rfl, Nat.le_of_ble_eq_true rfl⟩) (xo_preV (hK.sub (tys' := [(cI, .int)]) [0] rfl) (P_l hP) (D_l hD) hG (ci := 0) (q0 := 0) rfl rfl) rfl rfl hl.1 rfl (lv_room (Nat.le_of_ble_eq_true rfl)) d_L_lotAt_5 ⟨Nat.le_of_ble_eq_true rfl, Nat.le_of_ble_eq_true rfl⟩) hP hD hS hA wX_adr (fun h9 E hE ce q9 H locs hP hS h3 h4 h5 => ?_) (fun h9 H locs hP hD hS => ?_)
  · have hle := ex_lt hE h9
    have hle : (op_lotAt S x y).1 ≤ 1 := hle
    rcases (show (op_lotAt S x y).1 = 1 by omega) with hk
    · obtain rfl : E_ia = E := by rw [hk] at hE; exact Option.some.inj hE
      refine vx_catch hown [] ⟨0, 10, 13, 19⟩ [] (htab.trans rfl) (fun z hz => nomatch hz) (by decide) (by decide) (hts _ wd_228) (hard_use rfl (hG.2.2.1 _ cs_ia rfl)) h3 h4 h5 ?_
      refine lv_astore (lv' := [(4, .ref q9), (0, .ref (q 0)), (1, .int x), (2, .int y), (3, .ref qo)]) hx hb d_L_lotAt_13 hl (by decide) rfl (fun ls hl => ?_)
      refine lv_iconst (v := nI 1) hx hb d_L_lotAt_15 (by decide) ?_
      have hP9 : va_P (dC, dI) classes (wX q cI (op_lotAt S x y).2.2 ++ [oC qo cJ (ov (op_lotAt S x y) f)]) H := by rw [st_lotAt h9, ov_n h9]; exact hP
      refine nv_as (nI (op_lotAt S x y).1) (by rw [hk]) ?_
      exact W.iret hx hb hr (fun t ht hW => ⟨rfl, by rw [ht]; exact hP9, hS.F ht⟩) hS.2.2 d_L_lotAt_16
  · refine W.eq (g2 := F0 m 8 ls [.int ((op_lotAt S x y).2.1), .int (nI 0), .ref qo]) rfl ?_
    refine lv_i2l (v := ((op_lotAt S x y).2.1).toInt64) hx hb d_L_lotAt_8 rfl ?_
    refine va_last (f := f) hx hb hK hP hD hS 18 1 rfl rfl (vp_in_nI (n := 0) (N := 1) (by decide) (by decide)) d_L_lotAt_9 (fun H locs hP hD hS => ?_)
    have hP : va_P (dC, dI) classes (wX q cI (op_lotAt S x y).2.2 ++ [oC qo cJ (vp_updL f 0 (((op_lotAt S x y).2.1).toInt64))]) H := hP
    refine lv_goto (tgt := 17) hx hb d_L_lotAt_10 (by decide) ?_
    refine lv_iconst (v := nI 0) hx hb d_L_lotAt_17 (by decide) ?_
    have hP9 : va_P (dC, dI) classes (wX q cI (op_lotAt S x y).2.2 ++ [oC qo cJ (ov (op_lotAt S x y) f)]) H := by rw [ov_y h9]; exact hP
    refine nv_as (nI (op_lotAt S x y).1) (by rw [h9]) ?_
    exact W.iret hx hb hr (fun t ht hW => ⟨rfl, by rw [ht]; exact hP9, hS.F ht⟩) hS.2.2 d_L_lotAt_18
set_option maxHeartbeats 4000000 in
set_option maxRecDepth 100000 in
theorem c_L_row (l : Launch) (hst : l.stackTraces = false) (dC : Nat → ClassId) (dI : Nat → Nat → Nat) (A0 : Nat → Prop) (sz : Nat) (cI : ClassId) (q : Nat → Nat) (cJ : ClassId) (qo : Nat) (f : Nat → Int64) (S : St) (t : Nat) (hI : Bd t S) (x y : Int32) : Met l y_L_row (.codeWith y_L_row b_L_row 5 (some .int) [(0, 10, 13, 21), (0, 10, 17, 31), (0, 10, 21, 13)] :: bg) { frames := 9, cells := 3, slots := 18, locals := 154 } (wl_P (dC, dI) classes [(cI, .int), (cJ, .long)] A0 (wX q cI S ++ [oC qo cJ f]) sz [.ref (q 0), .int x, .int y, .ref qo]) (wr_Q (some (.int (nI (op_row S x y).1))) (dC, dI) classes (wX q cI (op_row S x y).2.2 ++ [oC qo cJ (ov (op_row S x y) f)]) (va_A (wX q cI S ++ [oC qo cJ f]) sz)) 3 18 (va_A (wX q cI S ++ [oC qo cJ f]) sz) := by
  refine va_MetW (cc := b_L_row) (maxL := 5) (ret := some .int) (hh := [(0, 10, 13, 21), (0, 10, 17, 31), (0, 10, 21, 13)]) (by decide) rfl ?_
  intro p e s m args below meth c s₁ B hml hv
  obtain ⟨rfl, hsz, hP, hK, hD0, hG, hN⟩ := hv
  subst hsz
  have hD := hD0.self (sz := s.heap.size)
  generalize hAe : va_A (wX q cI S ++ [oC qo cJ f]) s.heap.size = A at hD ⊢
  have hA : ∀ q : Nat, s.heap.size ≤ q → A q := fun q h => by rw [← hAe]; exact Or.inr h
  have hS : va_S A s.heap s.heap [] := va_S.rf
  have hx := B.exec
  have hb := B.bytes
  have hr := B.returns
  have hts := fun w (h : w ∈ bg) => atoms_spec (ws := .codeWith y_L_row b_L_row 5 (some .int) [(0, 10, 13, 21), (0, 10, 17, 31), (0, 10, 21, 13)] :: bg) B.pre w (List.mem_cons_of_mem _ h)
  have htab := vx_table (x := y_L_row) B (hts _ wd_503)
  have hown : s.vm.findClass R_L = some m.cls := findClass_of_methodNamed B.named
  have hl := lv_entry ([.ref (q 0), .int x, .int y, .ref qo]) (n := 5) (Nat.le_of_ble_eq_true rfl)
  rw [lg_entry_eq]
  generalize (lg_sl ([.ref (q 0), .int x, .int y, .ref qo]) ++ List.replicate (5 - (lg_sl ([.ref (q 0), .int x, .int y, .ref qo])).length) Slot.unset).toArray = ls at hl ⊢
  have hl : lv_has ls 5 [(0, .ref (q 0)), (1, .int x), (2, .int y), (3, .ref qo)] := hl
  refine lv_aload_n hx hb d_L_row_0 rfl (lv_at hl 3 rfl) ?_
  refine lv_iconst (v := nI 0) hx hb d_L_row_1 (by decide) ?_
  refine lv_aload_n hx hb d_L_row_2 rfl (lv_at hl 0 rfl) ?_
  refine lv_iload_n hx hb d_L_row_3 rfl (lv_at hl 1 rfl) ?_
  refine lv_iload_n hx hb d_L_row_4 rfl (lv_at hl 2 rfl) ?_
  refine xo_go (vx_runV (As := [.int x, .int y]) (rest := [.int (nI 0), .ref qo]) ⟨hx, hb, hml, hown, hts⟩ (c_X_row l hst dC dI A0 s.heap.size cI q S t hI x y ) (cwV 2 hts (gi_V wd_504 wd_505 wd_506 wd_1 wd_507) rfl rfl rfl (by decide +kernel) ⟨Nat.le_of_ble_eq_true rfl, Nat.le_of_ble_eq_true rfl⟩) (xo_preV (hK.sub (tys' := [(cI, .int)]) [0] rfl) (P_l hP) (D_l hD) hG (ci := 0) (q0 := 0) rfl rfl) rfl rfl hl.1 rfl (lv_room (Nat.le_of_ble_eq_true rfl)) d_L_row_5 ⟨Nat.le_of_ble_eq_true rfl, Nat.le_of_ble_eq_true rfl⟩) hP hD hS hA wX_adr (fun h9 E hE ce q9 H locs hP hS h3 h4 h5 => ?_) (fun h9 H locs hP hD hS => ?_)
  · have hle := ex_lt hE h9
    have hle : (op_row S x y).1 ≤ 3 := hle
    rcases (show (op_row S x y).1 = 1 ∨ (op_row S x y).1 = 2 ∨ (op_row S x y).1 = 3 by omega) with hk | hk | hk
    · obtain rfl : E_io = E := by rw [hk] at hE; exact Option.some.inj hE
      refine vx_catch hown [] ⟨0, 10, 13, 21⟩ [⟨0, 10, 17, 31⟩, ⟨0, 10, 21, 13⟩] (htab.trans rfl) (fun z hz => nomatch hz) (by decide) (by decide) (hts _ wd_229) (hard_use rfl (hG.2.2.1 _ cs_io rfl)) h3 h4 h5 ?_
      refine lv_astore (lv' := [(4, .ref q9), (0, .ref (q 0)), (1, .int x), (2, .int y), (3, .ref qo)]) hx hb d_L_row_13 hl (by decide) rfl (fun ls hl => ?_)
      refine lv_iconst (v := nI 1) hx hb d_L_row_15 (by decide) ?_
      have hP9 : va_P (dC, dI) classes (wX q cI (op_row S x y).2.2 ++ [oC qo cJ (ov (op_row S x y) f)]) H := by rw [st_row h9, ov_n h9]; exact hP
      refine nv_as (nI (op_row S x y).1) (by rw [hk]) ?_
      exact W.iret hx hb hr (fun t ht hW => ⟨rfl, by rw [ht]; exact hP9, hS.F ht⟩) hS.2.2 d_L_row_16
    · obtain rfl : E_is = E := by rw [hk] at hE; exact Option.some.inj hE
      refine vx_catch hown [⟨0, 10, 13, 21⟩] ⟨0, 10, 17, 31⟩ [⟨0, 10, 21, 13⟩] (htab.trans rfl) (cp_1 (⟨by decide, E_io, hts _ wd_229, hN _ (by decide) _ (by decide) (by decide)⟩)) (by decide) (by decide) (hts _ wd_312) (hard_use rfl (hG.2.2.1 _ cs_is rfl)) h3 h4 h5 ?_
      refine lv_astore (lv' := [(4, .ref q9), (0, .ref (q 0)), (1, .int x), (2, .int y), (3, .ref qo)]) hx hb d_L_row_17 hl (by decide) rfl (fun ls hl => ?_)
      refine lv_iconst (v := nI 2) hx hb d_L_row_19 (by decide) ?_
      have hP9 : va_P (dC, dI) classes (wX q cI (op_row S x y).2.2 ++ [oC qo cJ (ov (op_row S x y) f)]) H := by rw [st_row h9, ov_n h9]; exact hP
      refine nv_as (nI (op_row S x y).1) (by rw [hk]) ?_
      exact W.iret hx hb hr (fun t ht hW => ⟨rfl, by rw [ht]; exact hP9, hS.F ht⟩) hS.2.2 d_L_row_20
    · obtain rfl : E_uo = E := by rw [hk] at hE; exact Option.some.inj hE
      refine vx_catch hown [⟨0, 10, 13, 21⟩, ⟨0, 10, 17, 31⟩] ⟨0, 10, 21, 13⟩ [] (htab.trans rfl) (cp_2 (⟨by decide, E_io, hts _ wd_229, hN _ (by decide) _ (by decide) (by decide)⟩) (⟨by decide, E_is, hts _ wd_312, hN _ (by decide) _ (by decide) (by decide)⟩)) (by decide) (by decide) (hts _ wd_151) (hard_use rfl (hG.2.2.1 _ cs_uo rfl)) h3 h4 h5 ?_
      refine lv_astore (lv' := [(4, .ref q9), (0, .ref (q 0)), (1, .int x), (2, .int y), (3, .ref qo)]) hx hb d_L_row_21 hl (by decide) rfl (fun ls hl => ?_)
      refine lv_iconst (v := nI 3) hx hb d_L_row_23 (by decide) ?_
      have hP9 : va_P (dC, dI) classes (wX q cI (op_row S x y).2.2 ++ [oC qo cJ (ov (op_row S x y) f)]) H := by rw [st_row h9, ov_n h9]; exact hP
      refine nv_as (nI (op_row S x y).1) (by rw [hk]) ?_
      exact W.iret hx hb hr (fun t ht hW => ⟨rfl, by rw [ht]; exact hP9, hS.F ht⟩) hS.2.2 d_L_row_24
  · refine W.eq (g2 := F0 m 8 ls [.int ((op_row S x y).2.1), .int (nI 0), .ref qo]) rfl ?_
    refine lv_i2l (v := ((op_row S x y).2.1).toInt64) hx hb d_L_row_8 rfl ?_
    refine va_last (f := f) hx hb hK hP hD hS 18 1 rfl rfl (vp_in_nI (n := 0) (N := 1) (by decide) (by decide)) d_L_row_9 (fun H locs hP hD hS => ?_)
    have hP : va_P (dC, dI) classes (wX q cI (op_row S x y).2.2 ++ [oC qo cJ (vp_updL f 0 (((op_row S x y).2.1).toInt64))]) H := hP
    refine lv_goto (tgt := 25) hx hb d_L_row_10 (by decide) ?_
    refine lv_iconst (v := nI 0) hx hb d_L_row_25 (by decide) ?_
    have hP9 : va_P (dC, dI) classes (wX q cI (op_row S x y).2.2 ++ [oC qo cJ (ov (op_row S x y) f)]) H := by rw [ov_y h9]; exact hP
    refine nv_as (nI (op_row S x y).1) (by rw [h9]) ?_
    exact W.iret hx hb hr (fun t ht hW => ⟨rfl, by rw [ht]; exact hP9, hS.F ht⟩) hS.2.2 d_L_row_26
set_option maxHeartbeats 4000000 in
set_option maxRecDepth 100000 in
theorem c_L_dip (l : Launch) (hst : l.stackTraces = false) (dC : Nat → ClassId) (dI : Nat → Nat → Nat) (A0 : Nat → Prop) (sz : Nat) (cI : ClassId) (q : Nat → Nat) (cJ : ClassId) (qo : Nat) (f : Nat → Int64) (S : St) (t : Nat) (hI : Bd t S) (x : Int32) (hso : ∀ i j, i < j → j < S.2.1 7 → S.1 29 i < S.1 29 j ∧ S.1 30 i < S.1 30 j) : Met l y_L_dip (.codeWith y_L_dip b_L_dip 4 (some .int) [(0, 9, 12, 21)] :: bg) { frames := 9, cells := 1, slots := 6, locals := 153 } (wl_P (dC, dI) classes [(cI, .int), (cJ, .long)] A0 (wX q cI S ++ [oC qo cJ f]) sz [.ref (q 0), .int x, .ref qo]) (wr_Q (some (.int (nI (op_dip S x).1))) (dC, dI) classes (wX q cI (op_dip S x).2.2 ++ [oC qo cJ (ov (op_dip S x) f)]) (va_A (wX q cI S ++ [oC qo cJ f]) sz)) 1 6 (va_A (wX q cI S ++ [oC qo cJ f]) sz) := by
  refine va_MetW (cc := b_L_dip) (maxL := 4) (ret := some .int) (hh := [(0, 9, 12, 21)]) (by decide) rfl ?_
  intro p e s m args below meth c s₁ B hml hv
  obtain ⟨rfl, hsz, hP, hK, hD0, hG, hN⟩ := hv
  subst hsz
  have hD := hD0.self (sz := s.heap.size)
  generalize hAe : va_A (wX q cI S ++ [oC qo cJ f]) s.heap.size = A at hD ⊢
  have hA : ∀ q : Nat, s.heap.size ≤ q → A q := fun q h => by rw [← hAe]; exact Or.inr h
  have hS : va_S A s.heap s.heap [] := va_S.rf
  have hx := B.exec
  have hb := B.bytes
  have hr := B.returns
  have hts := fun w (h : w ∈ bg) => atoms_spec (ws := .codeWith y_L_dip b_L_dip 4 (some .int) [(0, 9, 12, 21)] :: bg) B.pre w (List.mem_cons_of_mem _ h)
  have htab := vx_table (x := y_L_dip) B (hts _ wd_525)
  have hown : s.vm.findClass R_L = some m.cls := findClass_of_methodNamed B.named
  have hl := lv_entry ([.ref (q 0), .int x, .ref qo]) (n := 4) (Nat.le_of_ble_eq_true rfl)
  rw [lg_entry_eq]
  generalize (lg_sl ([.ref (q 0), .int x, .ref qo]) ++ List.replicate (4 - (lg_sl ([.ref (q 0), .int x, .ref qo])).length) Slot.unset).toArray = ls at hl ⊢
  have hl : lv_has ls 4 [(0, .ref (q 0)), (1, .int x), (2, .ref qo)] := hl
  refine lv_aload_n hx hb d_L_dip_0 rfl (lv_at hl 2 rfl) ?_
  refine lv_iconst (v := nI 0) hx hb d_L_dip_1 (by decide) ?_
  refine lv_aload_n hx hb d_L_dip_2 rfl (lv_at hl 0 rfl) ?_
  refine lv_iload_n hx hb d_L_dip_3 rfl (lv_at hl 1 rfl) ?_
  refine xo_go (vx_runV (As := [.int x]) (rest := [.int (nI 0), .ref qo]) ⟨hx, hb, hml, hown, hts⟩ (c_X_dip l hst dC dI A0 s.heap.size cI q S t hI x (fun b hb => hso b (b + 1) (Nat.lt_succ_self _) hb)) (cwV 1 hts (gi_V wd_526 wd_527 wd_528 wd_1 wd_529) rfl rfl rfl (by decide +kernel) ⟨Nat.le_of_ble_eq_true rfl, Nat.le_of_ble_eq_true rfl⟩) (xo_preV (hK.sub (tys' := [(cI, .int)]) [0] rfl) (P_l hP) (D_l hD) hG (ci := 0) (q0 := 0) rfl rfl) rfl rfl hl.1 rfl (lv_room (Nat.le_of_ble_eq_true rfl)) d_L_dip_4 ⟨Nat.le_of_ble_eq_true rfl, Nat.le_of_ble_eq_true rfl⟩) hP hD hS hA wX_adr (fun h9 E hE ce q9 H locs hP hS h3 h4 h5 => ?_) (fun h9 H locs hP hD hS => ?_)
  · have hle := ex_lt hE h9
    have hle : (op_dip S x).1 ≤ 1 := hle
    rcases (show (op_dip S x).1 = 1 by omega) with hk
    · obtain rfl : E_io = E := by rw [hk] at hE; exact Option.some.inj hE
      refine vx_catch hown [] ⟨0, 9, 12, 21⟩ [] (htab.trans rfl) (fun z hz => nomatch hz) (by decide) (by decide) (hts _ wd_229) (hard_use rfl (hG.2.2.1 _ cs_io rfl)) h3 h4 h5 ?_
      refine lv_astore_n (lv' := [(3, .ref q9), (0, .ref (q 0)), (1, .int x), (2, .ref qo)]) hx hb d_L_dip_12 rfl hl (by decide) rfl (fun ls hl => ?_)
      refine lv_iconst (v := nI 1) hx hb d_L_dip_13 (by decide) ?_
      have hP9 : va_P (dC, dI) classes (wX q cI (op_dip S x).2.2 ++ [oC qo cJ (ov (op_dip S x) f)]) H := by rw [st_dip h9, ov_n h9]; exact hP
      refine nv_as (nI (op_dip S x).1) (by rw [hk]) ?_
      exact W.iret hx hb hr (fun t ht hW => ⟨rfl, by rw [ht]; exact hP9, hS.F ht⟩) hS.2.2 d_L_dip_14
  · refine W.eq (g2 := F0 m 7 ls [.int ((op_dip S x).2.1), .int (nI 0), .ref qo]) rfl ?_
    refine lv_i2l (v := ((op_dip S x).2.1).toInt64) hx hb d_L_dip_7 rfl ?_
    refine va_last (f := f) hx hb hK hP hD hS 18 1 rfl rfl (vp_in_nI (n := 0) (N := 1) (by decide) (by decide)) d_L_dip_8 (fun H locs hP hD hS => ?_)
    have hP : va_P (dC, dI) classes (wX q cI (op_dip S x).2.2 ++ [oC qo cJ (vp_updL f 0 (((op_dip S x).2.1).toInt64))]) H := hP
    refine lv_goto (tgt := 15) hx hb d_L_dip_9 (by decide) ?_
    refine lv_iconst (v := nI 0) hx hb d_L_dip_15 (by decide) ?_
    have hP9 : va_P (dC, dI) classes (wX q cI (op_dip S x).2.2 ++ [oC qo cJ (ov (op_dip S x) f)]) H := by rw [ov_y h9]; exact hP
    refine nv_as (nI (op_dip S x).1) (by rw [h9]) ?_
    exact W.iret hx hb hr (fun t ht hW => ⟨rfl, by rw [ht]; exact hP9, hS.F ht⟩) hS.2.2 d_L_dip_16
set_option maxHeartbeats 4000000 in
set_option maxRecDepth 100000 in
theorem c_L_tick (l : Launch) (hst : l.stackTraces = false) (dC : Nat → ClassId) (dI : Nat → Nat → Nat) (A0 : Nat → Prop) (sz : Nat) (cI : ClassId) (q : Nat → Nat) (cJ : ClassId) (qo : Nat) (f : Nat → Int64) (S : St) (t : Nat) (hI : Bd t S) (x : Int32) : Met l y_L_tick (.codeWith y_L_tick b_L_tick 4 (some .int) [(0, 9, 12, 21)] :: bg) { frames := 9, cells := 2, slots := 12, locals := 155 } (wl_P (dC, dI) classes [(cI, .int), (cJ, .long)] A0 (wX q cI S ++ [oC qo cJ f]) sz [.ref (q 0), .int x, .ref qo]) (wr_Q (some (.int (nI (op_tick S x).1))) (dC, dI) classes (wX q cI (op_tick S x).2.2 ++ [oC qo cJ (ov (op_tick S x) f)]) (va_A (wX q cI S ++ [oC qo cJ f]) sz)) 2 12 (va_A (wX q cI S ++ [oC qo cJ f]) sz) := by
  refine va_MetW (cc := b_L_tick) (maxL := 4) (ret := some .int) (hh := [(0, 9, 12, 21)]) (by decide) rfl ?_
  intro p e s m args below meth c s₁ B hml hv
  obtain ⟨rfl, hsz, hP, hK, hD0, hG, hN⟩ := hv
  subst hsz
  have hD := hD0.self (sz := s.heap.size)
  generalize hAe : va_A (wX q cI S ++ [oC qo cJ f]) s.heap.size = A at hD ⊢
  have hA : ∀ q : Nat, s.heap.size ≤ q → A q := fun q h => by rw [← hAe]; exact Or.inr h
  have hS : va_S A s.heap s.heap [] := va_S.rf
  have hx := B.exec
  have hb := B.bytes
  have hr := B.returns
  have hts := fun w (h : w ∈ bg) => atoms_spec (ws := .codeWith y_L_tick b_L_tick 4 (some .int) [(0, 9, 12, 21)] :: bg) B.pre w (List.mem_cons_of_mem _ h)
  have htab := vx_table (x := y_L_tick) B (hts _ wd_544)
  have hown : s.vm.findClass R_L = some m.cls := findClass_of_methodNamed B.named
  have hl := lv_entry ([.ref (q 0), .int x, .ref qo]) (n := 4) (Nat.le_of_ble_eq_true rfl)
  rw [lg_entry_eq]
  generalize (lg_sl ([.ref (q 0), .int x, .ref qo]) ++ List.replicate (4 - (lg_sl ([.ref (q 0), .int x, .ref qo])).length) Slot.unset).toArray = ls at hl ⊢
  have hl : lv_has ls 4 [(0, .ref (q 0)), (1, .int x), (2, .ref qo)] := hl
  refine lv_aload_n hx hb d_L_tick_0 rfl (lv_at hl 2 rfl) ?_
  refine lv_iconst (v := nI 0) hx hb d_L_tick_1 (by decide) ?_
  refine lv_aload_n hx hb d_L_tick_2 rfl (lv_at hl 0 rfl) ?_
  refine lv_iload_n hx hb d_L_tick_3 rfl (lv_at hl 1 rfl) ?_
  refine xo_go (vx_runV (As := [.int x]) (rest := [.int (nI 0), .ref qo]) ⟨hx, hb, hml, hown, hts⟩ (c_X_tick l hst dC dI A0 s.heap.size cI q S t hI x ) (cwV 1 hts (gi_V wd_545 wd_546 wd_547 wd_1 wd_548) rfl rfl rfl (by decide +kernel) ⟨Nat.le_of_ble_eq_true rfl, Nat.le_of_ble_eq_true rfl⟩) (xo_preV (hK.sub (tys' := [(cI, .int)]) [0] rfl) (P_l hP) (D_l hD) hG (ci := 0) (q0 := 0) rfl rfl) rfl rfl hl.1 rfl (lv_room (Nat.le_of_ble_eq_true rfl)) d_L_tick_4 ⟨Nat.le_of_ble_eq_true rfl, Nat.le_of_ble_eq_true rfl⟩) hP hD hS hA wX_adr (fun h9 E hE ce q9 H locs hP hS h3 h4 h5 => ?_) (fun h9 H locs hP hD hS => ?_)
  · have hle := ex_lt hE h9
    have hle : (op_tick S x).1 ≤ 1 := hle
    rcases (show (op_tick S x).1 = 1 by omega) with hk
    · obtain rfl : E_io = E := by rw [hk] at hE; exact Option.some.inj hE
      refine vx_catch hown [] ⟨0, 9, 12, 21⟩ [] (htab.trans rfl) (fun z hz => nomatch hz) (by decide) (by decide) (hts _ wd_229) (hard_use rfl (hG.2.2.1 _ cs_io rfl)) h3 h4 h5 ?_
      refine lv_astore_n (lv' := [(3, .ref q9), (0, .ref (q 0)), (1, .int x), (2, .ref qo)]) hx hb d_L_tick_12 rfl hl (by decide) rfl (fun ls hl => ?_)
      refine lv_iconst (v := nI 1) hx hb d_L_tick_13 (by decide) ?_
      have hP9 : va_P (dC, dI) classes (wX q cI (op_tick S x).2.2 ++ [oC qo cJ (ov (op_tick S x) f)]) H := by rw [st_tick h9, ov_n h9]; exact hP
      refine nv_as (nI (op_tick S x).1) (by rw [hk]) ?_
      exact W.iret hx hb hr (fun t ht hW => ⟨rfl, by rw [ht]; exact hP9, hS.F ht⟩) hS.2.2 d_L_tick_14
  · refine W.eq (g2 := F0 m 7 ls [.int ((op_tick S x).2.1), .int (nI 0), .ref qo]) rfl ?_
    refine lv_i2l (v := ((op_tick S x).2.1).toInt64) hx hb d_L_tick_7 rfl ?_
    refine va_last (f := f) hx hb hK hP hD hS 18 1 rfl rfl (vp_in_nI (n := 0) (N := 1) (by decide) (by decide)) d_L_tick_8 (fun H locs hP hD hS => ?_)
    have hP : va_P (dC, dI) classes (wX q cI (op_tick S x).2.2 ++ [oC qo cJ (vp_updL f 0 (((op_tick S x).2.1).toInt64))]) H := hP
    refine lv_goto (tgt := 15) hx hb d_L_tick_9 (by decide) ?_
    refine lv_iconst (v := nI 0) hx hb d_L_tick_15 (by decide) ?_
    have hP9 : va_P (dC, dI) classes (wX q cI (op_tick S x).2.2 ++ [oC qo cJ (ov (op_tick S x) f)]) H := by rw [ov_y h9]; exact hP
    refine nv_as (nI (op_tick S x).1) (by rw [h9]) ?_
    exact W.iret hx hb hr (fun t ht hW => ⟨rfl, by rw [ht]; exact hP9, hS.F ht⟩) hS.2.2 d_L_tick_16
