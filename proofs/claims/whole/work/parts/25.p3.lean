set_option maxHeartbeats 4000000 in
set_option maxRecDepth 100000 in
theorem c_X_cell (l : Launch) (hst : l.stackTraces = false) (dC : Nat → ClassId) (dI : Nat → Nat → Nat) (A : Nat → Prop) (cI : ClassId) (r ca rm md n : Nat) (f : Nat → Int32) (x v : Int32) (h2 : md * 5 ≤ n) (hn : n < 2 ^ 31) : vx_Met l y_X_cell (.code y_X_cell b_X_cell 3 (some .int) :: bg) { frames := 7, cells := 2, slots := 12, locals := 111 } (nd_P (dC, dI) classes [(r, .inr (1, [.int (nI rm), .ref ca, .int (nI md)])), (ca, .inl (cI, n, .inl f))] [(cI, .int)] A [.ref r, .int x, .int v]) (nv_Q (ok x md = true ∧ ok v 5 = true) (.int (f (nn x * 5 + nn v)))) (nd_X (ok x md = true ∧ ok v 5 = true) E_ia) 2 12 (fun _ => False) := by
  refine vx_ofW (cc := b_X_cell) (maxL := 3) (ret := (some .int)) (by decide) rfl ?_
  intro p e s m args below meth c s₁ B hml hnt hv
  obtain ⟨rfl, hP, hK, hG⟩ := hv
  have hx := B.exec
  have hb := B.bytes
  have hr := B.returns
  have hts := fun w (h : w ∈ bg) => atoms_spec (ws := .code y_X_cell b_X_cell 3 (some .int) :: bg) B.pre w (List.mem_cons_of_mem _ h)
  have hown : s.vm.findClass R_X = some m.cls := findClass_of_methodNamed B.named
  have hlocks := B.notSynchronized
  have hl := lv_entry ([.ref r, .int x, .int v]) (n := 3) (Nat.le_of_ble_eq_true rfl)
  rw [lg_entry_eq]
  generalize (lg_sl ([.ref r, .int x, .int v]) ++ List.replicate (3 - (lg_sl ([.ref r, .int x, .int v])).length) Slot.unset).toArray = ls at hl ⊢
  have hl : lv_has ls 3 [(0, .ref r), (1, .int x), (2, .int v)] := hl
  refine lv_aload_n hx hb d_X_cell_0 rfl (lv_at hl 0 rfl) ?_
  refine lv_iload_n hx hb d_X_cell_1 rfl (lv_at hl 1 rfl) ?_
  refine nd_go (vx_runS (As := [.ref r, .int x]) (rest := []) ⟨hx, hb, hml, hown, hts⟩ (c_X_needRow l hst dC dI A cI r ca rm md n f x (by omega)) (cwS 2 hts (gi_S wd_292 wd_293 wd_1 wd_294) rfl rfl rfl (by decide +kernel) ⟨Nat.le_of_ble_eq_true rfl, Nat.le_of_ble_eq_true rfl⟩) (nd_preS hK hP hG) rfl rfl hl.1 rfl (lv_room (Nat.le_of_ble_eq_true rfl)) d_X_cell_2 ⟨Nat.le_of_ble_eq_true rfl, Nat.le_of_ble_eq_true rfl⟩) (fun p2 ce q9 H1 h1 h2 h3 h4 h5 => vx_out (fun x hx => (hnt x hx).elim) hlocks h3 h4 h5 (fun t ht hv => ⟨(fun h => p2 h.1), rfl, by rw [ht]; exact h1, fun z hz => by rw [ht]; exact h2 z hz⟩) (fun q h => nomatch h) (Nat.le_of_ble_eq_true rfl) (Nat.le_of_ble_eq_true rfl)) (fun p2 => ?_)
  refine lv_aload_n hx hb d_X_cell_5 rfl (lv_at hl 0 rfl) ?_
  refine lv_iload_n hx hb d_X_cell_6 rfl (lv_at hl 2 rfl) ?_
  refine pu_go (va_runV (As := [.int v]) (rest := []) ⟨hx, hb, hml, hown, hts⟩ (c_W_isColumn l dC dI cI r ca rm md n f v) (cwV 1 hts (gi_V wd_402 wd_403 wd_404 wd_2 wd_405) rfl rfl rfl (by decide +kernel) ⟨Nat.le_of_ble_eq_true rfl, Nat.le_of_ble_eq_true rfl⟩) (pu_preV hK hP (ci := 1) (q0 := 0) rfl rfl) rfl rfl hl.1 rfl (lv_room (Nat.le_of_ble_eq_true rfl)) d_X_cell_7 ⟨Nat.le_of_ble_eq_true rfl, Nat.le_of_ble_eq_true rfl⟩) ?_
  refine nv_bn (tgt := 23) hx hb d_X_cell_10 (by decide) (fun c10 => ?_) (fun c10 => ?_)
  · have hx5 := ok_of c10
    have hxm := ok_of p2
    refine lv_aload_n hx hb d_X_cell_23 rfl (lv_at hl 0 rfl) ?_
    refine lv_iload_n hx hb d_X_cell_24 rfl (lv_at hl 1 rfl) ?_
    refine lv_iload_n hx hb d_X_cell_25 rfl (lv_at hl 2 rfl) ?_
    refine W.eq (g2 := F0 m 26 ls [.int (nI (nn v)), .int (nI (nn x)), .ref r]) (by rw [← hx5.1, ← hxm.1]) ?_
    refine pu_go (va_runV (As := [.int (nI (nn x)), .int (nI (nn v))]) (rest := []) ⟨hx, hb, hml, hown, hts⟩ (c_W_at l dC dI cI r ca rm md n f (nn x) (nn v) (by omega) (by omega)) (cwV 2 hts (gi_V wd_117 wd_118 wd_119 wd_2 wd_120) rfl rfl rfl (by decide +kernel) ⟨Nat.le_of_ble_eq_true rfl, Nat.le_of_ble_eq_true rfl⟩) (pu_preV hK hP (ci := 1) (q0 := 0) rfl rfl) rfl rfl hl.1 rfl (lv_room (Nat.le_of_ble_eq_true rfl)) d_X_cell_26 ⟨Nat.le_of_ble_eq_true rfl, Nat.le_of_ble_eq_true rfl⟩) ?_
    refine W.widen (k := 2) (n := 12) (Nat.le_of_ble_eq_true rfl) (Nat.le_of_ble_eq_true rfl) ?_
    exact vx_ret (W.iret hx hb hr (fun t ht hW => ⟨⟨p2, c10⟩, rfl, ht⟩) (fun q h => nomatch h) d_X_cell_29)
  · exact x_throw (A := A) hx hb hst hown hts hG ex_ia sx_121 hnt (hl.1.trans hml.symm) hlocks d_X_cell_13 d_X_cell_16 d_X_cell_17 d_X_cell_19 d_X_cell_22 (Nat.le_of_ble_eq_true rfl) (Nat.le_of_ble_eq_true rfl) (Nat.le_of_ble_eq_true rfl) (Nat.le_of_ble_eq_true rfl) (Nat.le_of_ble_eq_true rfl) (Nat.le_of_ble_eq_true rfl) (fun t h1 h2 => ⟨fun h => by rw [c10] at h; exact absurd h.2 (by decide), rfl, h1, h2⟩)
set_option maxHeartbeats 4000000 in
set_option maxRecDepth 100000 in
theorem c_X_order (l : Launch) (hst : l.stackTraces = false) (dC : Nat → ClassId) (dI : Nat → Nat → Nat) (A0 : Nat → Prop) (sz : Nat) (cI : ClassId) (q : Nat → Nat) (S : St) (t : Nat) (hI : Bd t S) (x v : Int32) : vx_Met l y_X_order (.code y_X_order b_X_order 3 (some .int) :: bg) { frames := 8, cells := 2, slots := 12, locals := 133 } (xo_P (dC, dI) classes [(cI, .int)] A0 (wX q cI S) sz [.ref (q 0), .int x, .int v]) (xo_Q (op_order S x v) (some (.int (op_order S x v).2.1)) (dC, dI) classes (wX q cI (op_order S x v).2.2) (va_A (wX q cI S) sz)) (xo_X (op_order S x v) [E_ia]) 2 12 (va_A (wX q cI S) sz) := by
  refine vx_ofW (cc := b_X_order) (maxL := 3) (ret := (some .int)) (by decide) rfl ?_
  intro p e s m args below meth c s₁ B hml hnt hv
  obtain ⟨rfl, hsz, hP, hK, hD0, hG⟩ := hv
  subst hsz
  have hD := hD0.self (sz := s.heap.size)
  generalize hAe : va_A (wX q cI S) s.heap.size = A at hD ⊢
  have hA : ∀ q : Nat, s.heap.size ≤ q → A q := fun q h => by rw [← hAe]; exact Or.inr h
  have hS : va_S A s.heap s.heap [] := va_S.rf
  have hx := B.exec
  have hb := B.bytes
  have hr := B.returns
  have hts := fun w (h : w ∈ bg) => atoms_spec (ws := .code y_X_order b_X_order 3 (some .int) :: bg) B.pre w (List.mem_cons_of_mem _ h)
  have hown : s.vm.findClass R_X = some m.cls := findClass_of_methodNamed B.named
  have hlocks := B.notSynchronized
  have hl := lv_entry ([.ref (q 0), .int x, .int v]) (n := 3) (Nat.le_of_ble_eq_true rfl)
  rw [lg_entry_eq]
  generalize (lg_sl ([.ref (q 0), .int x, .int v]) ++ List.replicate (3 - (lg_sl ([.ref (q 0), .int x, .int v])).length) Slot.unset).toArray = ls at hl ⊢
  have hl : lv_has ls 3 [(0, .ref (q 0)), (1, .int x), (2, .int v)] := hl
  have hB := hI.1
  have hg0 : S.2.1 0 ≤ 8 := hI.2.1 0
  have hg1 : S.2.1 1 ≤ 9999 := hI.2.1 1
  have hg2 : S.2.1 2 ≤ 60 := hI.2.1 2
  have hg3 : S.2.1 3 ≤ 60 := hI.2.1 3
  have hg4 : S.2.1 4 ≤ 80 := hI.2.1 4
  have hg5 : S.2.1 5 ≤ 20 := hI.2.1 5
  have hg6 : S.2.1 6 ≤ 80 := hI.2.1 6
  have hg7 : S.2.1 7 ≤ 10 := hI.2.1 7
  have hg8 : t ≤ 512 := hI.2.2
  refine lv_aload_n hx hb d_X_order_0 rfl (lv_at hl 0 rfl) ?_
  refine va_get (D := (dC, dI)) (ci := 0) (v := .ref (q 3)) (C := R_X) (T := F_X) (N := 12) hx hb hts i_X hown hK hP 0 rfl rfl 2 (by decide) (hts _ wd_59) (fun _ h9 => h9) rfl d_X_order_1 ?_
  refine lv_iload_n hx hb d_X_order_4 rfl (lv_at hl 1 rfl) ?_
  refine lv_iload_n hx hb d_X_order_5 rfl (lv_at hl 2 rfl) ?_
  refine nv_go (vx_runS (As := [.ref (q 3), .int x, .int v]) (rest := []) ⟨hx, hb, hml, hown, hts⟩ (c_X_cell l hst dC dI A0 cI (q 3) (q 13) 80 (S.2.1 4) 400 (rowf S.1 10) x v (by omega) (by decide)) (cwS 3 hts (gi_S wd_399 wd_400 wd_1 wd_401) rfl rfl rfl (by decide +kernel) ⟨Nat.le_of_ble_eq_true rfl, Nat.le_of_ble_eq_true rfl⟩) (nd_preS hK (hP.sub [3, 13] rfl) hG) rfl rfl hl.1 rfl (lv_room (Nat.le_of_ble_eq_true rfl)) d_X_order_6 ⟨Nat.le_of_ble_eq_true rfl, Nat.le_of_ble_eq_true rfl⟩) (fun p6 ce q9 H1 h1 h2 h3 h4 h5 => vx_out (fun x hx => (hnt x hx).elim) hlocks h3 h4 h5 (fun t ht hv => ⟨by unfold op_order; split <;> first | exact Nat.zero_lt_one | (split <;> first | exact Nat.zero_lt_one | exact absurd ⟨by assumption, by assumption⟩ p6), by unfold op_order; split <;> first | rfl | (split <;> first | rfl | exact absurd ⟨by assumption, by assumption⟩ p6), by rw [ht]; exact h1, fun z hz => by rw [ht]; exact h2 z hz⟩) (fun q h => nomatch h) (Nat.le_of_ble_eq_true rfl) (Nat.le_of_ble_eq_true rfl)) (fun p6 => ?_)
  have h5 := (ok_of p6.2).2
  have ho : op_order S x v = (0, nI (S.1 (10 + nn v) (nn x)), S) := by simp only [op_order, if_pos p6.1, if_pos p6.2]
  rw [ho]
  refine nv_as (nI (S.1 (10 + nn v) (nn x))) (rowf_at h5) ?_
  refine W.widen (k := 2) (n := 12) (Nat.le_of_ble_eq_true rfl) (Nat.le_of_ble_eq_true rfl) ?_
  have hP9 : va_P (dC, dI) classes (wX q cI (S)) s.heap := hP
  exact vx_ret (W.iret hx hb hr (fun t ht hW => ⟨rfl, rfl, by rw [ht]; exact hP9, hS.F ht⟩) hS.2.2 d_X_order_9)
set_option maxHeartbeats 4000000 in
set_option maxRecDepth 100000 in
theorem c_X_difference (l : Launch) (hst : l.stackTraces = false) (dC : Nat → ClassId) (dI : Nat → Nat → Nat) (A0 : Nat → Prop) (sz : Nat) (cI : ClassId) (q : Nat → Nat) (S : St) (t : Nat) (hI : Bd t S) (x v : Int32) : vx_Met l y_X_difference (.code y_X_difference b_X_difference 3 (some .int) :: bg) { frames := 8, cells := 2, slots := 12, locals := 133 } (xo_P (dC, dI) classes [(cI, .int)] A0 (wX q cI S) sz [.ref (q 0), .int x, .int v]) (xo_Q (op_difference S x v) (some (.int (op_difference S x v).2.1)) (dC, dI) classes (wX q cI (op_difference S x v).2.2) (va_A (wX q cI S) sz)) (xo_X (op_difference S x v) [E_ia]) 2 12 (va_A (wX q cI S) sz) := by
  refine vx_ofW (cc := b_X_difference) (maxL := 3) (ret := (some .int)) (by decide) rfl ?_
  intro p e s m args below meth c s₁ B hml hnt hv
  obtain ⟨rfl, hsz, hP, hK, hD0, hG⟩ := hv
  subst hsz
  have hD := hD0.self (sz := s.heap.size)
  generalize hAe : va_A (wX q cI S) s.heap.size = A at hD ⊢
  have hA : ∀ q : Nat, s.heap.size ≤ q → A q := fun q h => by rw [← hAe]; exact Or.inr h
  have hS : va_S A s.heap s.heap [] := va_S.rf
  have hx := B.exec
  have hb := B.bytes
  have hr := B.returns
  have hts := fun w (h : w ∈ bg) => atoms_spec (ws := .code y_X_difference b_X_difference 3 (some .int) :: bg) B.pre w (List.mem_cons_of_mem _ h)
  have hown : s.vm.findClass R_X = some m.cls := findClass_of_methodNamed B.named
  have hlocks := B.notSynchronized
  have hl := lv_entry ([.ref (q 0), .int x, .int v]) (n := 3) (Nat.le_of_ble_eq_true rfl)
  rw [lg_entry_eq]
  generalize (lg_sl ([.ref (q 0), .int x, .int v]) ++ List.replicate (3 - (lg_sl ([.ref (q 0), .int x, .int v])).length) Slot.unset).toArray = ls at hl ⊢
  have hl : lv_has ls 3 [(0, .ref (q 0)), (1, .int x), (2, .int v)] := hl
  have hB := hI.1
  have hg0 : S.2.1 0 ≤ 8 := hI.2.1 0
  have hg1 : S.2.1 1 ≤ 9999 := hI.2.1 1
  have hg2 : S.2.1 2 ≤ 60 := hI.2.1 2
  have hg3 : S.2.1 3 ≤ 60 := hI.2.1 3
  have hg4 : S.2.1 4 ≤ 80 := hI.2.1 4
  have hg5 : S.2.1 5 ≤ 20 := hI.2.1 5
  have hg6 : S.2.1 6 ≤ 80 := hI.2.1 6
  have hg7 : S.2.1 7 ≤ 10 := hI.2.1 7
  have hg8 : t ≤ 512 := hI.2.2
  refine lv_aload_n hx hb d_X_difference_0 rfl (lv_at hl 0 rfl) ?_
  refine va_get (D := (dC, dI)) (ci := 0) (v := .ref (q 5)) (C := R_X) (T := F_X) (N := 12) hx hb hts i_X hown hK hP 0 rfl rfl 4 (by decide) (hts _ wd_61) (fun _ h9 => h9) rfl d_X_difference_1 ?_
  refine lv_iload_n hx hb d_X_difference_4 rfl (lv_at hl 1 rfl) ?_
  refine lv_iload_n hx hb d_X_difference_5 rfl (lv_at hl 2 rfl) ?_
  refine nv_go (vx_runS (As := [.ref (q 5), .int x, .int v]) (rest := []) ⟨hx, hb, hml, hown, hts⟩ (c_X_cell l hst dC dI A0 cI (q 5) (q 15) 80 (S.2.1 6) 400 (rowd S.1 S.2.2) x v (by omega) (by decide)) (cwS 3 hts (gi_S wd_399 wd_400 wd_1 wd_401) rfl rfl rfl (by decide +kernel) ⟨Nat.le_of_ble_eq_true rfl, Nat.le_of_ble_eq_true rfl⟩) (nd_preS hK (hP.sub [5, 15] rfl) hG) rfl rfl hl.1 rfl (lv_room (Nat.le_of_ble_eq_true rfl)) d_X_difference_6 ⟨Nat.le_of_ble_eq_true rfl, Nat.le_of_ble_eq_true rfl⟩) (fun p6 ce q9 H1 h1 h2 h3 h4 h5 => vx_out (fun x hx => (hnt x hx).elim) hlocks h3 h4 h5 (fun t ht hv => ⟨by unfold op_difference; split <;> first | exact Nat.zero_lt_one | (split <;> first | exact Nat.zero_lt_one | exact absurd ⟨by assumption, by assumption⟩ p6), by unfold op_difference; split <;> first | rfl | (split <;> first | rfl | exact absurd ⟨by assumption, by assumption⟩ p6), by rw [ht]; exact h1, fun z hz => by rw [ht]; exact h2 z hz⟩) (fun q h => nomatch h) (Nat.le_of_ble_eq_true rfl) (Nat.le_of_ble_eq_true rfl)) (fun p6 => ?_)
  have h5 := (ok_of p6.2).2
  have ho : op_difference S x v = (0, if nn v = 2 then S.2.2 (nn x) else nI (S.1 (20 + nn v) (nn x)), S) := by simp only [op_difference, if_pos p6.1, if_pos p6.2]
  rw [ho]
  refine nv_as (if nn v = 2 then S.2.2 (nn x) else nI (S.1 (20 + nn v) (nn x))) (by by_cases hv2 : nn v = 2; rw [if_pos hv2, hv2]; exact rowd_at2; rw [if_neg hv2]; exact rowd_at h5 hv2) ?_
  refine W.widen (k := 2) (n := 12) (Nat.le_of_ble_eq_true rfl) (Nat.le_of_ble_eq_true rfl) ?_
  have hP9 : va_P (dC, dI) classes (wX q cI (S)) s.heap := hP
  exact vx_ret (W.iret hx hb hr (fun t ht hW => ⟨rfl, rfl, by rw [ht]; exact hP9, hS.F ht⟩) hS.2.2 d_X_difference_9)
set_option maxHeartbeats 4000000 in
set_option maxRecDepth 100000 in
theorem c_X_lotAt (l : Launch) (hst : l.stackTraces = false) (dC : Nat → ClassId) (dI : Nat → Nat → Nat) (A0 : Nat → Prop) (sz : Nat) (cI : ClassId) (q : Nat → Nat) (S : St) (t : Nat) (hI : Bd t S) (x v : Int32) : vx_Met l y_X_lotAt (.code y_X_lotAt b_X_lotAt 3 (some .int) :: bg) { frames := 8, cells := 3, slots := 18, locals := 133 } (xo_P (dC, dI) classes [(cI, .int)] A0 (wX q cI S) sz [.ref (q 0), .int x, .int v]) (xo_Q (op_lotAt S x v) (some (.int (op_lotAt S x v).2.1)) (dC, dI) classes (wX q cI (op_lotAt S x v).2.2) (va_A (wX q cI S) sz)) (xo_X (op_lotAt S x v) [E_ia]) 3 18 (va_A (wX q cI S) sz) := by
  refine vx_ofW (cc := b_X_lotAt) (maxL := 3) (ret := (some .int)) (by decide) rfl ?_
  intro p e s m args below meth c s₁ B hml hnt hv
  obtain ⟨rfl, hsz, hP, hK, hD0, hG⟩ := hv
  subst hsz
  have hD := hD0.self (sz := s.heap.size)
  generalize hAe : va_A (wX q cI S) s.heap.size = A at hD ⊢
  have hA : ∀ q : Nat, s.heap.size ≤ q → A q := fun q h => by rw [← hAe]; exact Or.inr h
  have hS : va_S A s.heap s.heap [] := va_S.rf
  have hx := B.exec
  have hb := B.bytes
  have hr := B.returns
  have hts := fun w (h : w ∈ bg) => atoms_spec (ws := .code y_X_lotAt b_X_lotAt 3 (some .int) :: bg) B.pre w (List.mem_cons_of_mem _ h)
  have hown : s.vm.findClass R_X = some m.cls := findClass_of_methodNamed B.named
  have hlocks := B.notSynchronized
  have hl := lv_entry ([.ref (q 0), .int x, .int v]) (n := 3) (Nat.le_of_ble_eq_true rfl)
  rw [lg_entry_eq]
  generalize (lg_sl ([.ref (q 0), .int x, .int v]) ++ List.replicate (3 - (lg_sl ([.ref (q 0), .int x, .int v])).length) Slot.unset).toArray = ls at hl ⊢
  have hl : lv_has ls 3 [(0, .ref (q 0)), (1, .int x), (2, .int v)] := hl
  have hB := hI.1
  have hg0 : S.2.1 0 ≤ 8 := hI.2.1 0
  have hg1 : S.2.1 1 ≤ 9999 := hI.2.1 1
  have hg2 : S.2.1 2 ≤ 60 := hI.2.1 2
  have hg3 : S.2.1 3 ≤ 60 := hI.2.1 3
  have hg4 : S.2.1 4 ≤ 80 := hI.2.1 4
  have hg5 : S.2.1 5 ≤ 20 := hI.2.1 5
  have hg6 : S.2.1 6 ≤ 80 := hI.2.1 6
  have hg7 : S.2.1 7 ≤ 10 := hI.2.1 7
  have hg8 : t ≤ 512 := hI.2.2
  refine lv_aload_n hx hb d_X_lotAt_0 rfl (lv_at hl 0 rfl) ?_
  refine lv_iload_n hx hb d_X_lotAt_1 rfl (lv_at hl 1 rfl) ?_
  refine nd_go (vx_runV (As := [.int x]) (rest := []) ⟨hx, hb, hml, hown, hts⟩ (c_X_needLot l hst dC dI A0 cI q S t hI x) (cwV 1 hts (gi_V wd_288 wd_290 wp_8 wd_1 wd_291) rfl rfl rfl (by decide +kernel) ⟨Nat.le_of_ble_eq_true rfl, Nat.le_of_ble_eq_true rfl⟩) (nd_preV hK hP hG (ci := 0) (q0 := 0) rfl rfl) rfl rfl hl.1 rfl (lv_room (Nat.le_of_ble_eq_true rfl)) d_X_lotAt_2 ⟨Nat.le_of_ble_eq_true rfl, Nat.le_of_ble_eq_true rfl⟩) (fun p2 ce q9 H1 h1 h2 h3 h4 h5 => vx_out (fun x hx => (hnt x hx).elim) hlocks h3 h4 h5 (fun t ht hv => ⟨by simp only [op_lotAt, if_neg p2]; decide, by simp only [op_lotAt, if_neg p2]; rfl, by rw [ht]; exact h1, fun z hz => by rw [ht]; exact h2 z hz⟩) (fun q h => nomatch h) (Nat.le_of_ble_eq_true rfl) (Nat.le_of_ble_eq_true rfl)) (fun p2 => ?_)
  obtain ⟨a1, ha1, rfl⟩ := ok_ex p2
  have ma1 : nn (nI a1) = a1 := nn_of (by omega)
  refine lv_iload_n hx hb d_X_lotAt_5 rfl (lv_at hl 2 rfl) ?_
  refine lv_iconst (v := nI 5) hx hb d_X_lotAt_6 (by decide) ?_
  refine lv_icmp_ne (tgt := 16) hx hb d_X_lotAt_7 (by decide) (fun c7 => ?_) (fun c7 => ?_)
  · have q7 : ¬ v = 5 := fun h => c7 (h.trans (by decide))
    refine lv_aload_n hx hb d_X_lotAt_16 rfl (lv_at hl 0 rfl) ?_
    refine va_get (D := (dC, dI)) (ci := 0) (v := .ref (q 1)) (C := R_X) (T := F_X) (N := 12) hx hb hts i_X hown hK hP 0 rfl rfl 0 (by decide) (hts _ wd_57) (fun _ h9 => h9) rfl d_X_lotAt_17 ?_
    refine lv_iload_n hx hb d_X_lotAt_20 rfl (lv_at hl 1 rfl) ?_
    refine lv_iload_n hx hb d_X_lotAt_21 rfl (lv_at hl 2 rfl) ?_
    refine nv_go (vx_runS (As := [.ref (q 1), .int (nI a1), .int v]) (rest := []) ⟨hx, hb, hml, hown, hts⟩ (c_X_cell l hst dC dI A0 cI (q 1) (q 11) 60 (S.2.1 2) 300 (rowf S.1 0) (nI a1) v (by omega) (by decide)) (cwS 3 hts (gi_S wd_399 wd_400 wd_1 wd_401) rfl rfl rfl (by decide +kernel) ⟨Nat.le_of_ble_eq_true rfl, Nat.le_of_ble_eq_true rfl⟩) (nd_preS hK (hP.sub [1, 11] rfl) hG) rfl rfl hl.1 rfl (lv_room (Nat.le_of_ble_eq_true rfl)) d_X_lotAt_22 ⟨Nat.le_of_ble_eq_true rfl, Nat.le_of_ble_eq_true rfl⟩) (fun p22 ce q9 H1 h1 h2 h3 h4 h5 => vx_out (fun x hx => (hnt x hx).elim) hlocks h3 h4 h5 (fun t ht hv => ⟨by simp only [op_lotAt, if_pos p2, if_neg q7, if_neg (show ¬ ok v 5 = true from fun h => p22 ⟨p2, h⟩)]; decide, by simp only [op_lotAt, if_pos p2, if_neg q7, if_neg (show ¬ ok v 5 = true from fun h => p22 ⟨p2, h⟩)]; rfl, by rw [ht]; exact h1, fun z hz => by rw [ht]; exact h2 z hz⟩) (fun q h => nomatch h) (Nat.le_of_ble_eq_true rfl) (Nat.le_of_ble_eq_true rfl)) (fun p22 => ?_)
    have h5 := (ok_of p22.2).2
    have ho : op_lotAt S (nI a1) v = (0, nI (S.1 (nn v) a1), S) := by simp only [op_lotAt, ma1, if_pos p2, if_neg q7, if_pos p22.2]
    rw [ho]
    refine nv_as (nI (S.1 (nn v) a1)) (by rw [ma1]; exact (rowf_at h5).trans (by rw [Nat.zero_add])) ?_
    refine W.widen (k := 3) (n := 18) (Nat.le_of_ble_eq_true rfl) (Nat.le_of_ble_eq_true rfl) ?_
    have hP9 : va_P (dC, dI) classes (wX q cI (S)) s.heap := hP
    exact vx_ret (W.iret hx hb hr (fun t ht hW => ⟨rfl, rfl, by rw [ht]; exact hP9, hS.F ht⟩) hS.2.2 d_X_lotAt_25)
  · have q7 : v = 5 := c7.trans (by decide)
    refine lv_aload_n hx hb d_X_lotAt_10 rfl (lv_at hl 0 rfl) ?_
    refine lv_iload_n hx hb d_X_lotAt_11 rfl (lv_at hl 1 rfl) ?_
    refine pu_go (va_runV (As := [.int (nI a1)]) (rest := []) ⟨hx, hb, hml, hown, hts⟩ (c_X_inAllStores l dC dI cI q S t hI a1 (by omega)) (cwV 1 hts (gi_V wd_497 wd_499 wp_19 wd_1 wd_500) rfl rfl rfl (by decide +kernel) ⟨Nat.le_of_ble_eq_true rfl, Nat.le_of_ble_eq_true rfl⟩) (pu_preV hK hP (ci := 0) (q0 := 0) rfl rfl) rfl rfl hl.1 rfl (lv_room (Nat.le_of_ble_eq_true rfl)) d_X_lotAt_12 ⟨Nat.le_of_ble_eq_true rfl, Nat.le_of_ble_eq_true rfl⟩) ?_
    have ho : op_lotAt S (nI a1) v = (0, nI (allIn S a1), S) := by simp only [op_lotAt, ma1, if_pos p2, if_pos q7]
    rw [ho]
    refine W.widen (k := 3) (n := 18) (Nat.le_of_ble_eq_true rfl) (Nat.le_of_ble_eq_true rfl) ?_
    have hP9 : va_P (dC, dI) classes (wX q cI (S)) s.heap := hP
    exact vx_ret (W.iret hx hb hr (fun t ht hW => ⟨rfl, rfl, by rw [ht]; exact hP9, hS.F ht⟩) hS.2.2 d_X_lotAt_15)
set_option maxHeartbeats 4000000 in
set_option maxRecDepth 100000 in
theorem c_X_count (l : Launch) (hst : l.stackTraces = false) (dC : Nat → ClassId) (dI : Nat → Nat → Nat) (A0 : Nat → Prop) (sz : Nat) (cI : ClassId) (q : Nat → Nat) (S : St) (t : Nat) (hI : Bd t S) (x y n v : Int32) : vx_Met l y_X_count (.code y_X_count b_X_count 6 (some .int) :: bg) { frames := 8, cells := 5, slots := 30, locals := 132 } (xo_P (dC, dI) classes [(cI, .int)] A0 (wX q cI S) sz [.ref (q 0), .int x, .int y, .int n, .int v]) (xo_Q (op_count S x y n v) (some (.int (op_count S x y n v).2.1)) (dC, dI) classes (wX q cI (op_count S x y n v).2.2) (va_A (wX q cI S) sz)) (xo_X (op_count S x y n v) [E_ia, E_io, E_uo]) 5 30 (va_A (wX q cI S) sz) := by
  refine vx_ofW (cc := b_X_count) (maxL := 6) (ret := (some .int)) (by decide) rfl ?_
  intro p e s m args below meth c s₁ B hml hnt hv
  obtain ⟨rfl, hsz, hP, hK, hD0, hG⟩ := hv
  subst hsz
  have hD := hD0.self (sz := s.heap.size)
  generalize hAe : va_A (wX q cI S) s.heap.size = A at hD ⊢
  have hA : ∀ q : Nat, s.heap.size ≤ q → A q := fun q h => by rw [← hAe]; exact Or.inr h
  have hS : va_S A s.heap s.heap [] := va_S.rf
  have hx := B.exec
  have hb := B.bytes
  have hr := B.returns
  have hts := fun w (h : w ∈ bg) => atoms_spec (ws := .code y_X_count b_X_count 6 (some .int) :: bg) B.pre w (List.mem_cons_of_mem _ h)
  have hown : s.vm.findClass R_X = some m.cls := findClass_of_methodNamed B.named
  have hlocks := B.notSynchronized
  have hl := lv_entry ([.ref (q 0), .int x, .int y, .int n, .int v]) (n := 6) (Nat.le_of_ble_eq_true rfl)
  rw [lg_entry_eq]
  generalize (lg_sl ([.ref (q 0), .int x, .int y, .int n, .int v]) ++ List.replicate (6 - (lg_sl ([.ref (q 0), .int x, .int y, .int n, .int v])).length) Slot.unset).toArray = ls at hl ⊢
  have hl : lv_has ls 6 [(0, .ref (q 0)), (1, .int x), (2, .int y), (3, .int n), (4, .int v)] := hl
  have hB := hI.1
  have hg0 : S.2.1 0 ≤ 8 := hI.2.1 0
  have hg1 : S.2.1 1 ≤ 9999 := hI.2.1 1
  have hg2 : S.2.1 2 ≤ 60 := hI.2.1 2
  have hg3 : S.2.1 3 ≤ 60 := hI.2.1 3
  have hg4 : S.2.1 4 ≤ 80 := hI.2.1 4
  have hg5 : S.2.1 5 ≤ 20 := hI.2.1 5
  have hg6 : S.2.1 6 ≤ 80 := hI.2.1 6
  have hg7 : S.2.1 7 ≤ 10 := hI.2.1 7
  have hg8 : t ≤ 512 := hI.2.2
  refine lv_aload_n hx hb d_X_count_0 rfl (lv_at hl 0 rfl) ?_
  refine lv_iload_n hx hb d_X_count_1 rfl (lv_at hl 1 rfl) ?_
  refine nd_go (vx_runV (As := [.int x]) (rest := []) ⟨hx, hb, hml, hown, hts⟩ (c_X_needStore l hst dC dI A0 cI q S t hI x) (cwV 1 hts (gi_V wd_283 wd_285 wp_7 wd_1 wd_286) rfl rfl rfl (by decide +kernel) ⟨Nat.le_of_ble_eq_true rfl, Nat.le_of_ble_eq_true rfl⟩) (nd_preV hK hP hG (ci := 0) (q0 := 0) rfl rfl) rfl rfl hl.1 rfl (lv_room (Nat.le_of_ble_eq_true rfl)) d_X_count_2 ⟨Nat.le_of_ble_eq_true rfl, Nat.le_of_ble_eq_true rfl⟩) (fun p2 ce q9 H1 h1 h2 h3 h4 h5 => vx_out (fun x hx => (hnt x hx).elim) hlocks h3 h4 h5 (fun t ht hv => ⟨by simp only [op_count, if_neg p2]; decide, by simp only [op_count, if_neg p2]; rfl, by rw [ht]; exact h1, fun z hz => by rw [ht]; exact h2 z hz⟩) (fun q h => nomatch h) (Nat.le_of_ble_eq_true rfl) (Nat.le_of_ble_eq_true rfl)) (fun p2 => ?_)
  obtain ⟨a1, ha1, rfl⟩ := ok_ex p2
  have ma1 : nn (nI a1) = a1 := nn_of (by omega)
  refine lv_aload_n hx hb d_X_count_5 rfl (lv_at hl 0 rfl) ?_
  refine lv_iload_n hx hb d_X_count_6 rfl (lv_at hl 2 rfl) ?_
  refine nd_go (vx_runV (As := [.int y]) (rest := []) ⟨hx, hb, hml, hown, hts⟩ (c_X_needLot l hst dC dI A0 cI q S t hI y) (cwV 1 hts (gi_V wd_288 wd_290 wp_8 wd_1 wd_291) rfl rfl rfl (by decide +kernel) ⟨Nat.le_of_ble_eq_true rfl, Nat.le_of_ble_eq_true rfl⟩) (nd_preV hK hP hG (ci := 0) (q0 := 0) rfl rfl) rfl rfl hl.1 rfl (lv_room (Nat.le_of_ble_eq_true rfl)) d_X_count_7 ⟨Nat.le_of_ble_eq_true rfl, Nat.le_of_ble_eq_true rfl⟩) (fun p7 ce q9 H1 h1 h2 h3 h4 h5 => vx_out (fun x hx => (hnt x hx).elim) hlocks h3 h4 h5 (fun t ht hv => ⟨by simp only [op_count, ma1, if_pos p2, if_neg p7]; decide, by simp only [op_count, ma1, if_pos p2, if_neg p7]; rfl, by rw [ht]; exact h1, fun z hz => by rw [ht]; exact h2 z hz⟩) (fun q h => nomatch h) (Nat.le_of_ble_eq_true rfl) (Nat.le_of_ble_eq_true rfl)) (fun p7 => ?_)
  obtain ⟨a2, ha2, rfl⟩ := ok_ex p7
  have ma2 : nn (nI a2) = a2 := nn_of (by omega)
  refine lv_iload_n hx hb d_X_count_10 rfl (lv_at hl 3 rfl) ?_
  refine lv_iconst (v := nI 0) hx hb d_X_count_11 (by decide) ?_
  refine lv_sipush (v := nI 9999) hx hb d_X_count_12 (by decide) ?_
  refine nd_go (vx_runS (As := [.int n, .int (nI 0), .int (nI 9999)]) (rest := []) ⟨hx, hb, hml, hown, hts⟩ (c_X_needRange l hst dC dI A0 n 0 9999 (by omega) (by omega)) (cwS 3 hts (gi_S wd_253 wd_254 wd_1 wd_255) rfl rfl rfl (by decide +kernel) ⟨Nat.le_of_ble_eq_true rfl, Nat.le_of_ble_eq_true rfl⟩) (nd_preS (hK.sub (tys' := []) [] rfl) (fun k q h => by simp at h) hG) rfl rfl hl.1 rfl (lv_room (Nat.le_of_ble_eq_true rfl)) d_X_count_15 ⟨Nat.le_of_ble_eq_true rfl, Nat.le_of_ble_eq_true rfl⟩) (fun p15 ce q9 H1 h1 h2 h3 h4 h5 => vx_out (fun x hx => (hnt x hx).elim) hlocks h3 h4 h5 (fun t ht hv => ⟨by simp only [op_count, ma1, if_pos p2, ma2, if_pos p7, if_neg p15]; decide, by simp only [op_count, ma1, if_pos p2, ma2, if_pos p7, if_neg p15]; rfl, by rw [ht]; exact h1, fun z hz => by rw [ht]; exact h2 z hz⟩) (fun q h => nomatch h) (Nat.le_of_ble_eq_true rfl) (Nat.le_of_ble_eq_true rfl)) (fun p15 => ?_)
  obtain ⟨a3, ga3, ha3, rfl⟩ := rg_ex p15
  have ma3 : nn (nI a3) = a3 := nn_of (by omega)
  refine lv_iload hx hb d_X_count_18 (lv_at hl 4 rfl) ?_
  refine lv_iconst (v := nI 1) hx hb d_X_count_20 (by decide) ?_
  refine lv_bipush (v := nI 99) hx hb d_X_count_21 (by decide) ?_
  refine nd_go (vx_runS (As := [.int v, .int (nI 1), .int (nI 99)]) (rest := []) ⟨hx, hb, hml, hown, hts⟩ (c_X_needRange l hst dC dI A0 v 1 99 (by omega) (by omega)) (cwS 3 hts (gi_S wd_253 wd_254 wd_1 wd_255) rfl rfl rfl (by decide +kernel) ⟨Nat.le_of_ble_eq_true rfl, Nat.le_of_ble_eq_true rfl⟩) (nd_preS (hK.sub (tys' := []) [] rfl) (fun k q h => by simp at h) hG) rfl rfl hl.1 rfl (lv_room (Nat.le_of_ble_eq_true rfl)) d_X_count_23 ⟨Nat.le_of_ble_eq_true rfl, Nat.le_of_ble_eq_true rfl⟩) (fun p23 ce q9 H1 h1 h2 h3 h4 h5 => vx_out (fun x hx => (hnt x hx).elim) hlocks h3 h4 h5 (fun t ht hv => ⟨by simp only [op_count, ma1, if_pos p2, ma2, if_pos p7, ma3, if_pos p15, if_neg p23]; decide, by simp only [op_count, ma1, if_pos p2, ma2, if_pos p7, ma3, if_pos p15, if_neg p23]; rfl, by rw [ht]; exact h1, fun z hz => by rw [ht]; exact h2 z hz⟩) (fun q h => nomatch h) (Nat.le_of_ble_eq_true rfl) (Nat.le_of_ble_eq_true rfl)) (fun p23 => ?_)
  obtain ⟨a4, ga4, ha4, rfl⟩ := rg_ex p23
  have ma4 : nn (nI a4) = a4 := nn_of (by omega)
  refine lv_iload_n hx hb d_X_count_26 rfl (lv_at hl 3 rfl) ?_
  refine lv_aload_n hx hb d_X_count_27 rfl (lv_at hl 0 rfl) ?_
  refine va_get (D := (dC, dI)) (ci := 0) (v := .ref (q 7)) (C := R_X) (T := F_X) (N := 12) hx hb hts i_X hown hK hP 0 rfl rfl 6 (by decide) (hts _ wd_63) (fun _ h9 => h9) rfl d_X_count_28 ?_
  refine lv_iload_n hx hb d_X_count_31 rfl (lv_at hl 1 rfl) ?_
  refine lv_iload_n hx hb d_X_count_32 rfl (lv_at hl 2 rfl) ?_
  refine pu_go (va_runS (As := [.int (nI a1), .int (nI a2)]) (rest := [.ref (q 7), .int (nI a3)]) ⟨hx, hb, hml, hown, hts⟩ (c_X_place l dC dI a1 a2) (cwS 2 hts (gi_S wd_125 wd_126 wd_1 wd_127) rfl rfl rfl (by decide +kernel) ⟨Nat.le_of_ble_eq_true rfl, Nat.le_of_ble_eq_true rfl⟩) (pu_preS (hK.sub (tys' := []) [] rfl) (fun k q h => by simp at h)) rfl rfl hl.1 rfl (lv_room (Nat.le_of_ble_eq_true rfl)) d_X_count_33 ⟨Nat.le_of_ble_eq_true rfl, Nat.le_of_ble_eq_true rfl⟩) ?_
  refine nv_iald (v := nI (S.1 25 (a1 * 60 + a2))) hx hb hK hP 7 0 rfl rfl (by omega) (by decide) rfl d_X_count_36 ?_
  have hb36 : S.1 25 (a1 * 60 + a2) ≤ 9999 := hB 25 _
  refine lv_isub hx hb d_X_count_37 ?_
  refine lv_istore (lv' := [(5, .int ((nI a3) - (nI (S.1 25 (a1 * 60 + a2))))), (0, .ref (q 0)), (1, .int (nI a1)), (2, .int (nI a2)), (3, .int (nI a3)), (4, .int (nI a4))]) hx hb d_X_count_38 hl (by decide) rfl (fun ls hl => ?_)
  refine lv_iload hx hb d_X_count_40 (lv_at hl 0 rfl) ?_
  refine lv_if_ne (tgt := 47) hx hb d_X_count_42 (by decide) (fun c42 => ?_) (fun c42 => ?_)
  · have q42 : ¬ a3 = S.1 25 (a1 * 60 + a2) := sub_n0 c42
    refine lv_aload_n hx hb d_X_count_47 rfl (lv_at hl 1 rfl) ?_
    refine va_get (D := (dC, dI)) (ci := 0) (v := .ref (q 5)) (C := R_X) (T := F_X) (N := 12) hx hb hts i_X hown hK hP 0 rfl rfl 4 (by decide) (hts _ wd_61) (fun _ h9 => h9) rfl d_X_count_48 ?_
    refine nd_go (vx_runS (As := [.ref (q 5)]) (rest := []) ⟨hx, hb, hml, hown, hts⟩ (c_X_needRoom l hst dC dI A0 cI (q 5) (q 15) 80 (S.2.1 6) 400 (rowd S.1 S.2.2) (by omega) (by omega)) (cwS 1 hts (gi_S wd_272 wd_273 wd_1 wd_274) rfl rfl rfl (by decide +kernel) ⟨Nat.le_of_ble_eq_true rfl, Nat.le_of_ble_eq_true rfl⟩) (nd_preS hK (hP.sub [5, 15] rfl) hG) rfl rfl hl.1 rfl (lv_room (Nat.le_of_ble_eq_true rfl)) d_X_count_51 ⟨Nat.le_of_ble_eq_true rfl, Nat.le_of_ble_eq_true rfl⟩) (fun p51 ce q9 H1 h1 h2 h3 h4 h5 => vx_out (fun x hx => (hnt x hx).elim) hlocks h3 h4 h5 (fun t ht hv => ⟨by simp only [op_count, ma1, if_pos p2, ma2, if_pos p7, ma3, if_pos p15, ma4, if_pos p23, if_neg q42, if_neg p51]; decide, by simp only [op_count, ma1, if_pos p2, ma2, if_pos p7, ma3, if_pos p15, ma4, if_pos p23, if_neg q42, if_neg p51]; rfl, by rw [ht]; exact h1, fun z hz => by rw [ht]; exact h2 z hz⟩) (fun q h => nomatch h) (Nat.le_of_ble_eq_true rfl) (Nat.le_of_ble_eq_true rfl)) (fun p51 => ?_)
    refine lv_aload_n hx hb d_X_count_54 rfl (lv_at hl 1 rfl) ?_
    refine lv_iload_n hx hb d_X_count_55 rfl (lv_at hl 2 rfl) ?_
    refine lv_iload_n hx hb d_X_count_56 rfl (lv_at hl 3 rfl) ?_
    refine lv_iload hx hb d_X_count_57 (lv_at hl 0 rfl) ?_
    refine wr_goA (va_runV (As := [.int (nI a1), .int (nI a2), .int ((nI a3) - (nI (S.1 25 (a1 * 60 + a2))))]) (rest := []) ⟨hx, hb, hml, hown, hts⟩ (c_X_change l dC dI s.heap.size cI q S t hI a1 a2 a3 ((nI a3) - (nI (S.1 25 (a1 * 60 + a2)))) (by omega) (by omega) add_sub) (cwV 3 hts (gi_V wd_305 wd_307 wp_10 wd_1 wd_308) rfl rfl rfl (by decide +kernel) ⟨Nat.le_of_ble_eq_true rfl, Nat.le_of_ble_eq_true rfl⟩) (wr_preV hK hP hD (ci := 0) (q0 := 0) rfl rfl) rfl rfl hl.1 rfl (lv_room (Nat.le_of_ble_eq_true rfl)) d_X_count_59 ⟨Nat.le_of_ble_eq_true rfl, Nat.le_of_ble_eq_true rfl⟩) hD hS hA wX_adr (fun H locs hP hD hS => ?_)
    refine W.eq (g2 := F0 m 62 ls []) rfl ?_
    obtain ⟨S1, hS1⟩ : ∃ z : St, z = S_a S 25 (a1 * 60 + a2) a3 := ⟨_, rfl⟩
    rw [← hS1] at hP hD
    have hIS1 : Bd t S1 := by rw [hS1]; exact Bd_a hI (show _ ≤ 9999 by omega)
    have hBS1 := hIS1.1
    have hg0 : S1.2.1 0 ≤ 8 := hIS1.2.1 0
    have hg1 : S1.2.1 1 ≤ 9999 := hIS1.2.1 1
    have hg2 : S1.2.1 2 ≤ 60 := hIS1.2.1 2
    have hg3 : S1.2.1 3 ≤ 60 := hIS1.2.1 3
    have hg4 : S1.2.1 4 ≤ 80 := hIS1.2.1 4
    have hg5 : S1.2.1 5 ≤ 20 := hIS1.2.1 5
    have hg6 : S1.2.1 6 ≤ 80 := hIS1.2.1 6
    have hg7 : S1.2.1 7 ≤ 10 := hIS1.2.1 7
    have hg8 : t ≤ 512 := hIS1.2.2
    have r6 : S1.2.1 6 = S.2.1 6 := by rw [hS1]; rfl
    refine lv_aload_n hx hb d_X_count_62 rfl (lv_at hl 1 rfl) ?_
    refine va_get (D := (dC, dI)) (ci := 0) (v := .ref (q 5)) (C := R_X) (T := F_X) (N := 12) hx hb hts i_X hown hK hP 0 rfl rfl 4 (by decide) (hts _ wd_61) (fun _ h9 => h9) rfl d_X_count_63 ?_
    refine lv_iload_n hx hb d_X_count_66 rfl (lv_at hl 2 rfl) ?_
    refine lv_iload_n hx hb d_X_count_67 rfl (lv_at hl 3 rfl) ?_
    refine lv_iload hx hb d_X_count_68 (lv_at hl 0 rfl) ?_
    refine lv_iload hx hb d_X_count_70 (lv_at hl 5 rfl) ?_
    refine lv_aload_n hx hb d_X_count_72 rfl (lv_at hl 1 rfl) ?_
    refine va_get (D := (dC, dI)) (ci := 0) (v := .int (nI (S1.2.1 1))) (C := R_X) (T := F_X) (N := 12) hx hb hts i_X hown hK hP 0 rfl rfl 11 (by decide) (hts _ wd_68) (fun _ h9 => h9) rfl d_X_count_73 ?_
    refine wr_go (va_runV (As := [.int (nI a1), .int (nI a2), .int ((nI a3) - (nI (S.1 25 (a1 * 60 + a2)))), .int (nI a4), .int (nI (S1.2.1 1))]) (rest := []) ⟨hx, hb, hml, hown, hts⟩ (c_W_add l dC dI H.size cI (q 5) (q 15) 80 (S1.2.1 6) 400 (rowd S1.1 S1.2.2) (nI a1) (nI a2) ((nI a3) - (nI (S.1 25 (a1 * 60 + a2)))) (nI a4) (nI (S1.2.1 1)) (by omega) (by decide)) (cwV 5 hts (gi_V wd_140 wd_141 wd_142 wd_2 wd_143) rfl rfl rfl (by decide +kernel) ⟨Nat.le_of_ble_eq_true rfl, Nat.le_of_ble_eq_true rfl⟩) (wr_preV hK (hP.sub [5, 15] rfl) (hD.sub [5, 15] (by decide) rfl) (ci := 1) (q0 := 0) rfl rfl) rfl rfl hl.1 rfl (lv_room (Nat.le_of_ble_eq_true rfl)) d_X_count_76 ⟨Nat.le_of_ble_eq_true rfl, Nat.le_of_ble_eq_true rfl⟩) hP hD hS hA [5, 15] rfl rfl (wX q cI (addDif S1 a1 a2 (nI a3 - nI (S.1 25 (a1 * 60 + a2))) a4)) wX_add20 rfl (fun H locs hP hD hS => ?_)
    refine W.eq (g2 := F0 m 79 ls [.int (nI (S1.2.1 6))]) rfl ?_
    obtain ⟨S2, hS2⟩ : ∃ z : St, z = addDif S1 a1 a2 (nI a3 - nI (S.1 25 (a1 * 60 + a2))) a4 := ⟨_, rfl⟩
    rw [← hS2] at hP hD
    refine lv_pop hx hb d_X_count_79 rfl ?_
    refine lv_iload hx hb d_X_count_80 (lv_at hl 0 rfl) ?_
    have ho : op_count S (nI a1) (nI a2) (nI a3) (nI a4) = (0, nI a3 - nI (S.1 25 (a1 * 60 + a2)), addDif (S_a S 25 (a1 * 60 + a2) a3) a1 a2 (nI a3 - nI (S.1 25 (a1 * 60 + a2))) a4) := by simp only [op_count, ma1, if_pos p2, ma2, if_pos p7, ma3, if_pos p15, ma4, if_pos p23, if_neg q42, if_pos p51]
    rw [ho]
    refine nv_as (nI a3 - nI (S.1 25 (a1 * 60 + a2))) (by rfl) ?_
    refine W.widen (k := 5) (n := 30) (Nat.le_of_ble_eq_true rfl) (Nat.le_of_ble_eq_true rfl) ?_
    have hP9 : va_P (dC, dI) classes (wX q cI (addDif (S_a S 25 (a1 * 60 + a2) a3) a1 a2 (nI a3 - nI (S.1 25 (a1 * 60 + a2))) a4)) H := by rw [hS2, hS1] at hP; exact hP
    exact vx_ret (W.iret hx hb hr (fun t ht hW => ⟨rfl, rfl, by rw [ht]; exact hP9, hS.F ht⟩) hS.2.2 d_X_count_82)
  · have q42 : a3 = S.1 25 (a1 * 60 + a2) := sub_0 (by omega) (by omega) c42
    refine lv_iconst (v := nI 0) hx hb d_X_count_45 (by decide) ?_
    have ho : op_count S (nI a1) (nI a2) (nI a3) (nI a4) = (0, 0, S) := by simp only [op_count, ma1, if_pos p2, ma2, if_pos p7, ma3, if_pos p15, ma4, if_pos p23, if_pos q42]
    rw [ho]
    refine nv_as (0) (by decide) ?_
    refine W.widen (k := 5) (n := 30) (Nat.le_of_ble_eq_true rfl) (Nat.le_of_ble_eq_true rfl) ?_
    have hP9 : va_P (dC, dI) classes (wX q cI (S)) s.heap := hP
    exact vx_ret (W.iret hx hb hr (fun t ht hW => ⟨rfl, rfl, by rw [ht]; exact hP9, hS.F ht⟩) hS.2.2 d_X_count_46)
set_option maxHeartbeats 4000000 in
set_option maxRecDepth 100000 in
theorem c_H_add (l : Launch) (dC : Nat → ClassId) (dI : Nat → Nat → Nat) (sz : Nat) (cI : ClassId) (q : Nat → Nat) (S : St) (t : Nat) (hI : Bd t S) (h v : Nat) (h7 : S.2.1 7 < 10) : Met l y_H_add (.code y_H_add b_H_add 3 (some .int) :: bg) { frames := 0, cells := 0, slots := 0, locals := 0 } (wr_P (dC, dI) classes [(q 6, .inr (2, [.ref (q 16), .ref (q 17), .int (nI (S.2.1 7))])), (q 16, .inl (cI, 10, .inl (colf S.1 29))), (q 17, .inl (cI, 10, .inl (colf S.1 30)))] [(cI, .int)] sz [.ref (q 6), .int (nI h), .int (nI v)]) (wr_Q (some (.int (nI (S.2.1 7 + 1)))) (dC, dI) classes [(q 6, .inr (2, [.ref (q 16), .ref (q 17), .int (nI (S.2.1 7 + 1))])), (q 16, .inl (cI, 10, .inl (upd (colf S.1 29) (S.2.1 7) (nI h)))), (q 17, .inl (cI, 10, .inl (upd (colf S.1 30) (S.2.1 7) (nI v))))] (va_A [(q 6, .inr (2, [.ref (q 16), .ref (q 17), .int (nI (S.2.1 7))])), (q 16, .inl (cI, 10, .inl (colf S.1 29))), (q 17, .inl (cI, 10, .inl (colf S.1 30)))] sz)) 0 0 (va_A [(q 6, .inr (2, [.ref (q 16), .ref (q 17), .int (nI (S.2.1 7))])), (q 16, .inl (cI, 10, .inl (colf S.1 29))), (q 17, .inl (cI, 10, .inl (colf S.1 30)))] sz) := by
  refine Met.ofW (cc := b_H_add) (maxL := 3) (ret := (some .int)) (by decide) rfl ?_
  intro p e s m args below meth c s₁ B hml hv
  obtain ⟨rfl, hsz, hP, hK, hD0⟩ := hv
  subst hsz
  have hD := hD0.self (sz := s.heap.size)
  generalize hAe : va_A [(q 6, .inr (2, [.ref (q 16), .ref (q 17), .int (nI (S.2.1 7))])), (q 16, .inl (cI, 10, .inl (colf S.1 29))), (q 17, .inl (cI, 10, .inl (colf S.1 30)))] s.heap.size = A at hD ⊢
  have hA : ∀ q : Nat, s.heap.size ≤ q → A q := fun q h => by rw [← hAe]; exact Or.inr h
  have hS : va_S A s.heap s.heap [] := va_S.rf
  have hx := B.exec
  have hb := B.bytes
  have hr := B.returns
  have hts := fun w (h : w ∈ bg) => atoms_spec (ws := .code y_H_add b_H_add 3 (some .int) :: bg) B.pre w (List.mem_cons_of_mem _ h)
  have hown : s.vm.findClass R_H = some m.cls := findClass_of_methodNamed B.named
  have hlocks := B.notSynchronized
  have hl := lv_entry ([.ref (q 6), .int (nI h), .int (nI v)]) (n := 3) (Nat.le_of_ble_eq_true rfl)
  rw [lg_entry_eq]
  generalize (lg_sl ([.ref (q 6), .int (nI h), .int (nI v)]) ++ List.replicate (3 - (lg_sl ([.ref (q 6), .int (nI h), .int (nI v)])).length) Slot.unset).toArray = ls at hl ⊢
  have hl : lv_has ls 3 [(0, .ref (q 6)), (1, .int (nI h)), (2, .int (nI v))] := hl
  have hB := hI.1
  have hg0 : S.2.1 0 ≤ 8 := hI.2.1 0
  have hg1 : S.2.1 1 ≤ 9999 := hI.2.1 1
  have hg2 : S.2.1 2 ≤ 60 := hI.2.1 2
  have hg3 : S.2.1 3 ≤ 60 := hI.2.1 3
  have hg4 : S.2.1 4 ≤ 80 := hI.2.1 4
  have hg5 : S.2.1 5 ≤ 20 := hI.2.1 5
  have hg6 : S.2.1 6 ≤ 80 := hI.2.1 6
  have hg7 : S.2.1 7 ≤ 10 := hI.2.1 7
  have hg8 : t ≤ 512 := hI.2.2
  refine lv_aload_n hx hb d_H_add_0 rfl (lv_at hl 0 rfl) ?_
  refine va_get (D := (dC, dI)) (ci := 2) (v := .ref (q 16)) (C := R_H) (T := F_H) (N := 3) hx hb hts i_H hown hK hP 0 rfl rfl 0 (by decide) (hts _ wd_47) (fun _ h9 => h9) rfl d_H_add_1 ?_
  refine lv_aload_n hx hb d_H_add_4 rfl (lv_at hl 0 rfl) ?_
  refine va_get (D := (dC, dI)) (ci := 2) (v := .int (nI (S.2.1 7))) (C := R_H) (T := F_H) (N := 3) hx hb hts i_H hown hK hP 0 rfl rfl 2 (by decide) (hts _ wd_49) (fun _ h9 => h9) rfl d_H_add_5 ?_
  refine lv_iload_n hx hb d_H_add_8 rfl (lv_at hl 1 rfl) ?_
  refine nv_iast (f' := upd (colf S.1 29) (S.2.1 7) (nI h)) hx hb hK hP hD hS 1 0 rfl rfl (by omega) (by decide) rfl ([(q 6, .inr (2, [.ref (q 16), .ref (q 17), .int (nI (S.2.1 7))])), (q 16, .inl (cI, 10, .inl (upd (colf S.1 29) (S.2.1 7) (nI h)))), (q 17, .inl (cI, 10, .inl (colf S.1 30)))]) rfl d_H_add_9 (fun H locs hP hD hS => ?_)
  refine lv_aload_n hx hb d_H_add_10 rfl (lv_at hl 0 rfl) ?_
  refine va_get (D := (dC, dI)) (ci := 2) (v := .ref (q 17)) (C := R_H) (T := F_H) (N := 3) hx hb hts i_H hown hK hP 0 rfl rfl 1 (by decide) (hts _ wd_48) (fun _ h9 => h9) rfl d_H_add_11 ?_
  refine lv_aload_n hx hb d_H_add_14 rfl (lv_at hl 0 rfl) ?_
  refine va_get (D := (dC, dI)) (ci := 2) (v := .int (nI (S.2.1 7))) (C := R_H) (T := F_H) (N := 3) hx hb hts i_H hown hK hP 0 rfl rfl 2 (by decide) (hts _ wd_49) (fun _ h9 => h9) rfl d_H_add_15 ?_
  refine lv_iload_n hx hb d_H_add_18 rfl (lv_at hl 2 rfl) ?_
  refine nv_iast (f' := upd (colf S.1 30) (S.2.1 7) (nI v)) hx hb hK hP hD hS 2 0 rfl rfl (by omega) (by decide) rfl ([(q 6, .inr (2, [.ref (q 16), .ref (q 17), .int (nI (S.2.1 7))])), (q 16, .inl (cI, 10, .inl (upd (colf S.1 29) (S.2.1 7) (nI h)))), (q 17, .inl (cI, 10, .inl (upd (colf S.1 30) (S.2.1 7) (nI v))))]) rfl d_H_add_19 (fun H locs hP hD hS => ?_)
  refine lv_aload_n hx hb d_H_add_20 rfl (lv_at hl 0 rfl) ?_
  refine lv_dup hx hb d_H_add_21 rfl ?_
  refine va_get (D := (dC, dI)) (ci := 2) (v := .int (nI (S.2.1 7))) (C := R_H) (T := F_H) (N := 3) hx hb hts i_H hown hK hP 0 rfl rfl 2 (by decide) (hts _ wd_49) (fun _ h9 => h9) rfl d_H_add_22 ?_
  refine lv_iconst (v := nI 1) hx hb d_H_add_25 (by decide) ?_
  refine nv_add hx hb d_H_add_26 ?_
  refine va_put (D := (dC, dI)) (ci := 2) (v := .int (nI ((S.2.1 7) + 1))) (ty := .int) (C := R_H) (T := F_H) (N := 3) hx hb hts i_H ty_H ty_H_ok n_H hown hK hP hD hS 0 rfl rfl 2 (by decide) (hts _ wd_49) (fun _ h9 => h9) rfl (by decide +kernel) rfl rfl (Nat.le_of_ble_eq_true rfl) d_H_add_27 (fun H locs hP hD hS => ?_)
  have hP : va_P (dC, dI) classes [(q 6, .inr (2, [.ref (q 16), .ref (q 17), .int (nI ((S.2.1 7) + 1))])), (q 16, .inl (cI, 10, .inl (upd (colf S.1 29) (S.2.1 7) (nI h)))), (q 17, .inl (cI, 10, .inl (upd (colf S.1 30) (S.2.1 7) (nI v))))] H := hP
  have hD : va_D A [(q 6, .inr (2, [.ref (q 16), .ref (q 17), .int (nI ((S.2.1 7) + 1))])), (q 16, .inl (cI, 10, .inl (upd (colf S.1 29) (S.2.1 7) (nI h)))), (q 17, .inl (cI, 10, .inl (upd (colf S.1 30) (S.2.1 7) (nI v))))] := hD
  refine lv_aload_n hx hb d_H_add_30 rfl (lv_at hl 0 rfl) ?_
  refine va_get (D := (dC, dI)) (ci := 2) (v := .int (nI ((S.2.1 7) + 1))) (C := R_H) (T := F_H) (N := 3) hx hb hts i_H hown hK hP 0 rfl rfl 2 (by decide) (hts _ wd_49) (fun _ h9 => h9) rfl d_H_add_31 ?_
  refine nv_as (nI (S.2.1 7 + 1)) (by rfl) ?_
  have hP9 : va_P (dC, dI) classes [(q 6, .inr (2, [.ref (q 16), .ref (q 17), .int (nI (S.2.1 7 + 1))])), (q 16, .inl (cI, 10, .inl (upd (colf S.1 29) (S.2.1 7) (nI h)))), (q 17, .inl (cI, 10, .inl (upd (colf S.1 30) (S.2.1 7) (nI v))))] H := hP
  exact W.iret hx hb hr (fun t ht hW => ⟨rfl, by rw [ht]; exact hP9, hS.F ht⟩) hS.2.2 d_H_add_34
set_option maxHeartbeats 4000000 in
set_option maxRecDepth 100000 in
theorem c_X_row (l : Launch) (hst : l.stackTraces = false) (dC : Nat → ClassId) (dI : Nat → Nat → Nat) (A0 : Nat → Prop) (sz : Nat) (cI : ClassId) (q : Nat → Nat) (S : St) (t : Nat) (hI : Bd t S) (x y : Int32) : vx_Met l y_X_row (.code y_X_row b_X_row 3 (some .int) :: bg) { frames := 8, cells := 3, slots := 18, locals := 132 } (xo_P (dC, dI) classes [(cI, .int)] A0 (wX q cI S) sz [.ref (q 0), .int x, .int y]) (xo_Q (op_row S x y) (some (.int (op_row S x y).2.1)) (dC, dI) classes (wX q cI (op_row S x y).2.2) (va_A (wX q cI S) sz)) (xo_X (op_row S x y) [E_io, E_is, E_uo]) 3 18 (va_A (wX q cI S) sz) := by
  refine vx_ofW (cc := b_X_row) (maxL := 3) (ret := (some .int)) (by decide) rfl ?_
  intro p e s m args below meth c s₁ B hml hnt hv
  obtain ⟨rfl, hsz, hP, hK, hD0, hG⟩ := hv
  subst hsz
  have hD := hD0.self (sz := s.heap.size)
  generalize hAe : va_A (wX q cI S) s.heap.size = A at hD ⊢
  have hA : ∀ q : Nat, s.heap.size ≤ q → A q := fun q h => by rw [← hAe]; exact Or.inr h
  have hS : va_S A s.heap s.heap [] := va_S.rf
  have hx := B.exec
  have hb := B.bytes
  have hr := B.returns
  have hts := fun w (h : w ∈ bg) => atoms_spec (ws := .code y_X_row b_X_row 3 (some .int) :: bg) B.pre w (List.mem_cons_of_mem _ h)
  have hown : s.vm.findClass R_X = some m.cls := findClass_of_methodNamed B.named
  have hlocks := B.notSynchronized
  have hl := lv_entry ([.ref (q 0), .int x, .int y]) (n := 3) (Nat.le_of_ble_eq_true rfl)
  rw [lg_entry_eq]
  generalize (lg_sl ([.ref (q 0), .int x, .int y]) ++ List.replicate (3 - (lg_sl ([.ref (q 0), .int x, .int y])).length) Slot.unset).toArray = ls at hl ⊢
  have hl : lv_has ls 3 [(0, .ref (q 0)), (1, .int x), (2, .int y)] := hl
  have hB := hI.1
  have hg0 : S.2.1 0 ≤ 8 := hI.2.1 0
  have hg1 : S.2.1 1 ≤ 9999 := hI.2.1 1
  have hg2 : S.2.1 2 ≤ 60 := hI.2.1 2
  have hg3 : S.2.1 3 ≤ 60 := hI.2.1 3
  have hg4 : S.2.1 4 ≤ 80 := hI.2.1 4
  have hg5 : S.2.1 5 ≤ 20 := hI.2.1 5
  have hg6 : S.2.1 6 ≤ 80 := hI.2.1 6
  have hg7 : S.2.1 7 ≤ 10 := hI.2.1 7
  have hg8 : t ≤ 512 := hI.2.2
  refine lv_iload_n hx hb d_X_row_0 rfl (lv_at hl 1 rfl) ?_
  refine lv_iconst (v := nI 0) hx hb d_X_row_1 (by decide) ?_
  refine lv_ldc hx hb hown (hts _ wd_508) d_X_row_2 ?_
  refine nv_as (nI 99999) (by decide) ?_
  refine nd_go (vx_runS (As := [.int x, .int (nI 0), .int (nI 99999)]) (rest := []) ⟨hx, hb, hml, hown, hts⟩ (c_X_needRange l hst dC dI A0 x 0 99999 (by omega) (by omega)) (cwS 3 hts (gi_S wd_253 wd_254 wd_1 wd_255) rfl rfl rfl (by decide +kernel) ⟨Nat.le_of_ble_eq_true rfl, Nat.le_of_ble_eq_true rfl⟩) (nd_preS (hK.sub (tys' := []) [] rfl) (fun k q h => by simp at h) hG) rfl rfl hl.1 rfl (lv_room (Nat.le_of_ble_eq_true rfl)) d_X_row_4 ⟨Nat.le_of_ble_eq_true rfl, Nat.le_of_ble_eq_true rfl⟩) (fun p4 ce q9 H1 h1 h2 h3 h4 h5 => vx_out (fun x hx => (hnt x hx).elim) hlocks h3 h4 h5 (fun t ht hv => ⟨by simp only [op_row, if_neg p4]; decide, by simp only [op_row, if_neg p4]; rfl, by rw [ht]; exact h1, fun z hz => by rw [ht]; exact h2 z hz⟩) (fun q h => nomatch h) (Nat.le_of_ble_eq_true rfl) (Nat.le_of_ble_eq_true rfl)) (fun p4 => ?_)
  obtain ⟨a1, ga1, ha1, rfl⟩ := rg_ex p4
  have ma1 : nn (nI a1) = a1 := nn_of (by omega)
  refine lv_iload_n hx hb d_X_row_7 rfl (lv_at hl 2 rfl) ?_
  refine lv_iconst (v := nI 0) hx hb d_X_row_8 (by decide) ?_
  refine lv_ldc hx hb hown (hts _ wd_508) d_X_row_9 ?_
  refine nv_as (nI 99999) (by decide) ?_
  refine nd_go (vx_runS (As := [.int y, .int (nI 0), .int (nI 99999)]) (rest := []) ⟨hx, hb, hml, hown, hts⟩ (c_X_needRange l hst dC dI A0 y 0 99999 (by omega) (by omega)) (cwS 3 hts (gi_S wd_253 wd_254 wd_1 wd_255) rfl rfl rfl (by decide +kernel) ⟨Nat.le_of_ble_eq_true rfl, Nat.le_of_ble_eq_true rfl⟩) (nd_preS (hK.sub (tys' := []) [] rfl) (fun k q h => by simp at h) hG) rfl rfl hl.1 rfl (lv_room (Nat.le_of_ble_eq_true rfl)) d_X_row_11 ⟨Nat.le_of_ble_eq_true rfl, Nat.le_of_ble_eq_true rfl⟩) (fun p11 ce q9 H1 h1 h2 h3 h4 h5 => vx_out (fun x hx => (hnt x hx).elim) hlocks h3 h4 h5 (fun t ht hv => ⟨by simp only [op_row, ma1, if_pos p4, if_neg p11]; decide, by simp only [op_row, ma1, if_pos p4, if_neg p11]; rfl, by rw [ht]; exact h1, fun z hz => by rw [ht]; exact h2 z hz⟩) (fun q h => nomatch h) (Nat.le_of_ble_eq_true rfl) (Nat.le_of_ble_eq_true rfl)) (fun p11 => ?_)
  obtain ⟨a2, ga2, ha2, rfl⟩ := rg_ex p11
  have ma2 : nn (nI a2) = a2 := nn_of (by omega)
  refine lv_aload_n hx hb d_X_row_14 rfl (lv_at hl 0 rfl) ?_
  refine va_get (D := (dC, dI)) (ci := 0) (v := .ref (q 6)) (C := R_X) (T := F_X) (N := 12) hx hb hts i_X hown hK hP 0 rfl rfl 5 (by decide) (hts _ wd_62) (fun _ h9 => h9) rfl d_X_row_15 ?_
  refine lv_iload_n hx hb d_X_row_18 rfl (lv_at hl 1 rfl) ?_
  refine lv_iload_n hx hb d_X_row_19 rfl (lv_at hl 2 rfl) ?_
  refine pu_go (va_runV (As := [.int (nI a1), .int (nI a2)]) (rest := []) ⟨hx, hb, hml, hown, hts⟩ (c_H_isBelow l dC dI cI q S t hI a1 a2 (by omega) (by omega)) (cwV 2 hts (gi_V wd_509 wd_510 wd_511 wd_4 wd_512) rfl rfl rfl (by decide +kernel) ⟨Nat.le_of_ble_eq_true rfl, Nat.le_of_ble_eq_true rfl⟩) (pu_preV hK (hP.sub [6, 16, 17] rfl) (ci := 2) (q0 := 0) rfl rfl) rfl rfl hl.1 rfl (lv_room (Nat.le_of_ble_eq_true rfl)) d_X_row_20 ⟨Nat.le_of_ble_eq_true rfl, Nat.le_of_ble_eq_true rfl⟩) ?_
  refine nv_bn (tgt := 36) hx hb d_X_row_23 (by decide) (fun c23 => ?_) (fun c23 => ?_)
  · have q23 := of_decide_eq_true c23
    refine lv_aload_n hx hb d_X_row_36 rfl (lv_at hl 0 rfl) ?_
    refine va_get (D := (dC, dI)) (ci := 0) (v := .ref (q 6)) (C := R_X) (T := F_X) (N := 12) hx hb hts i_X hown hK hP 0 rfl rfl 5 (by decide) (hts _ wd_62) (fun _ h9 => h9) rfl d_X_row_37 ?_
    refine pu_go (va_runV (As := []) (rest := []) ⟨hx, hb, hml, hown, hts⟩ (c_H_isFull l dC dI cI q S t hI ) (cwV 0 hts (gi_V wd_514 wd_515 wd_516 wd_4 wd_517) rfl rfl rfl (by decide +kernel) ⟨Nat.le_of_ble_eq_true rfl, Nat.le_of_ble_eq_true rfl⟩) (pu_preV hK (hP.sub [6, 16, 17] rfl) (ci := 2) (q0 := 0) rfl rfl) rfl rfl hl.1 rfl (lv_room (Nat.le_of_ble_eq_true rfl)) d_X_row_40 ⟨Nat.le_of_ble_eq_true rfl, Nat.le_of_ble_eq_true rfl⟩) ?_
    refine nv_bz (tgt := 56) hx hb d_X_row_43 (by decide) (fun c43 => ?_) (fun c43 => ?_)
    · have q43 := of_decide_eq_false c43
      refine lv_aload_n hx hb d_X_row_56 rfl (lv_at hl 0 rfl) ?_
      refine va_get (D := (dC, dI)) (ci := 0) (v := .ref (q 6)) (C := R_X) (T := F_X) (N := 12) hx hb hts i_X hown hK hP 0 rfl rfl 5 (by decide) (hts _ wd_62) (fun _ h9 => h9) rfl d_X_row_57 ?_
      refine lv_iload_n hx hb d_X_row_60 rfl (lv_at hl 1 rfl) ?_
      refine lv_iload_n hx hb d_X_row_61 rfl (lv_at hl 2 rfl) ?_
      refine wr_go (va_runV (As := [.int (nI a1), .int (nI a2)]) (rest := []) ⟨hx, hb, hml, hown, hts⟩ (c_H_add l dC dI s.heap.size cI q S t hI a1 a2 (by omega)) (cwV 2 hts (gi_V wd_519 wd_520 wd_521 wd_4 wd_522) rfl rfl rfl (by decide +kernel) ⟨Nat.le_of_ble_eq_true rfl, Nat.le_of_ble_eq_true rfl⟩) (wr_preV hK (hP.sub [6, 16, 17] rfl) (hD.sub [6, 16, 17] (by decide) rfl) (ci := 2) (q0 := 0) rfl rfl) rfl rfl hl.1 rfl (lv_room (Nat.le_of_ble_eq_true rfl)) d_X_row_62 ⟨Nat.le_of_ble_eq_true rfl, Nat.le_of_ble_eq_true rfl⟩) hP hD hS hA [6, 16, 17] rfl rfl (wX q cI (S_g (S_a (S_a S 29 (S.2.1 7) a1) 30 (S.2.1 7) a2) 7 (S.2.1 7 + 1))) wX_hadd rfl (fun H locs hP hD hS => ?_)
      refine W.eq (g2 := F0 m 65 ls [.int (nI (S.2.1 7 + 1))]) rfl ?_
      obtain ⟨S1, hS1⟩ : ∃ z : St, z = S_g (S_a (S_a S 29 (S.2.1 7) a1) 30 (S.2.1 7) a2) 7 (S.2.1 7 + 1) := ⟨_, rfl⟩
      rw [← hS1] at hP hD
      have ho : op_row S (nI a1) (nI a2) = (0, nI (S.2.1 7 + 1), S_g (S_a (S_a S 29 (S.2.1 7) a1) 30 (S.2.1 7) a2) 7 (S.2.1 7 + 1)) := by simp only [op_row, ma1, if_pos p4, ma2, if_pos p11, if_pos q23, if_pos (show S.2.1 7 < 10 by omega)]
      rw [ho]
      refine W.widen (k := 3) (n := 18) (Nat.le_of_ble_eq_true rfl) (Nat.le_of_ble_eq_true rfl) ?_
      have hP9 : va_P (dC, dI) classes (wX q cI (S_g (S_a (S_a S 29 (S.2.1 7) a1) 30 (S.2.1 7) a2) 7 (S.2.1 7 + 1))) H := by rw [hS1] at hP; exact hP
      exact vx_ret (W.iret hx hb hr (fun t ht hW => ⟨rfl, rfl, by rw [ht]; exact hP9, hS.F ht⟩) hS.2.2 d_X_row_65)
    · have q43 := of_decide_eq_true c43
      exact x_throw (A := A0) hx hb hst hown hts hG ex_uo sx_193 hnt (hl.1.trans hml.symm) hlocks d_X_row_46 d_X_row_49 d_X_row_50 d_X_row_52 d_X_row_55 (Nat.le_of_ble_eq_true rfl) (Nat.le_of_ble_eq_true rfl) (Nat.le_of_ble_eq_true rfl) (Nat.le_of_ble_eq_true rfl) (Nat.le_of_ble_eq_true rfl) (Nat.le_of_ble_eq_true rfl) (fun t h1 h2 => ⟨by simp only [op_row, ma1, if_pos p4, ma2, if_pos p11, if_pos q23, if_neg (show ¬ S.2.1 7 < 10 by omega)]; decide, by simp only [op_row, ma1, if_pos p4, ma2, if_pos p11, if_pos q23, if_neg (show ¬ S.2.1 7 < 10 by omega)]; rfl, h1, h2⟩)
  · have q23 := of_decide_eq_false c23
    exact x_throw (A := A0) hx hb hst hown hts hG ex_is sx_187 hnt (hl.1.trans hml.symm) hlocks d_X_row_26 d_X_row_29 d_X_row_30 d_X_row_32 d_X_row_35 (Nat.le_of_ble_eq_true rfl) (Nat.le_of_ble_eq_true rfl) (Nat.le_of_ble_eq_true rfl) (Nat.le_of_ble_eq_true rfl) (Nat.le_of_ble_eq_true rfl) (Nat.le_of_ble_eq_true rfl) (fun t h1 h2 => ⟨by simp only [op_row, ma1, if_pos p4, ma2, if_pos p11, if_neg q23]; decide, by simp only [op_row, ma1, if_pos p4, ma2, if_pos p11, if_neg q23]; rfl, h1, h2⟩)
set_option maxHeartbeats 4000000 in
set_option maxRecDepth 100000 in
theorem c_X_dip (l : Launch) (hst : l.stackTraces = false) (dC : Nat → ClassId) (dI : Nat → Nat → Nat) (A0 : Nat → Prop) (sz : Nat) (cI : ClassId) (q : Nat → Nat) (S : St) (t : Nat) (hI : Bd t S) (x : Int32) (hso : ∀ b, b + 1 < S.2.1 7 → S.1 29 b < S.1 29 (b + 1) ∧ S.1 30 b < S.1 30 (b + 1)) : vx_Met l y_X_dip (.code y_X_dip b_X_dip 2 (some .int) :: bg) { frames := 8, cells := 1, slots := 6, locals := 132 } (xo_P (dC, dI) classes [(cI, .int)] A0 (wX q cI S) sz [.ref (q 0), .int x]) (xo_Q (op_dip S x) (some (.int (op_dip S x).2.1)) (dC, dI) classes (wX q cI (op_dip S x).2.2) (va_A (wX q cI S) sz)) (xo_X (op_dip S x) [E_io]) 1 6 (va_A (wX q cI S) sz) := by
  refine vx_ofW (cc := b_X_dip) (maxL := 2) (ret := (some .int)) (by decide) rfl ?_
  intro p e s m args below meth c s₁ B hml hnt hv
  obtain ⟨rfl, hsz, hP, hK, hD0, hG⟩ := hv
  subst hsz
  have hD := hD0.self (sz := s.heap.size)
  generalize hAe : va_A (wX q cI S) s.heap.size = A at hD ⊢
  have hA : ∀ q : Nat, s.heap.size ≤ q → A q := fun q h => by rw [← hAe]; exact Or.inr h
  have hS : va_S A s.heap s.heap [] := va_S.rf
  have hx := B.exec
  have hb := B.bytes
  have hr := B.returns
  have hts := fun w (h : w ∈ bg) => atoms_spec (ws := .code y_X_dip b_X_dip 2 (some .int) :: bg) B.pre w (List.mem_cons_of_mem _ h)
  have hown : s.vm.findClass R_X = some m.cls := findClass_of_methodNamed B.named
  have hlocks := B.notSynchronized
  have hl := lv_entry ([.ref (q 0), .int x]) (n := 2) (Nat.le_of_ble_eq_true rfl)
  rw [lg_entry_eq]
  generalize (lg_sl ([.ref (q 0), .int x]) ++ List.replicate (2 - (lg_sl ([.ref (q 0), .int x])).length) Slot.unset).toArray = ls at hl ⊢
  have hl : lv_has ls 2 [(0, .ref (q 0)), (1, .int x)] := hl
  have hB := hI.1
  have hg0 : S.2.1 0 ≤ 8 := hI.2.1 0
  have hg1 : S.2.1 1 ≤ 9999 := hI.2.1 1
  have hg2 : S.2.1 2 ≤ 60 := hI.2.1 2
  have hg3 : S.2.1 3 ≤ 60 := hI.2.1 3
  have hg4 : S.2.1 4 ≤ 80 := hI.2.1 4
  have hg5 : S.2.1 5 ≤ 20 := hI.2.1 5
  have hg6 : S.2.1 6 ≤ 80 := hI.2.1 6
  have hg7 : S.2.1 7 ≤ 10 := hI.2.1 7
  have hg8 : t ≤ 512 := hI.2.2
  refine lv_iload_n hx hb d_X_dip_0 rfl (lv_at hl 1 rfl) ?_
  refine lv_iconst (v := nI 0) hx hb d_X_dip_1 (by decide) ?_
  refine lv_ldc hx hb hown (hts _ wd_508) d_X_dip_2 ?_
  refine nv_as (nI 99999) (by decide) ?_
  refine nd_go (vx_runS (As := [.int x, .int (nI 0), .int (nI 99999)]) (rest := []) ⟨hx, hb, hml, hown, hts⟩ (c_X_needRange l hst dC dI A0 x 0 99999 (by omega) (by omega)) (cwS 3 hts (gi_S wd_253 wd_254 wd_1 wd_255) rfl rfl rfl (by decide +kernel) ⟨Nat.le_of_ble_eq_true rfl, Nat.le_of_ble_eq_true rfl⟩) (nd_preS (hK.sub (tys' := []) [] rfl) (fun k q h => by simp at h) hG) rfl rfl hl.1 rfl (lv_room (Nat.le_of_ble_eq_true rfl)) d_X_dip_4 ⟨Nat.le_of_ble_eq_true rfl, Nat.le_of_ble_eq_true rfl⟩) (fun p4 ce q9 H1 h1 h2 h3 h4 h5 => vx_out (fun x hx => (hnt x hx).elim) hlocks h3 h4 h5 (fun t ht hv => ⟨by simp only [op_dip, if_neg p4]; decide, by simp only [op_dip, if_neg p4]; rfl, by rw [ht]; exact h1, fun z hz => by rw [ht]; exact h2 z hz⟩) (fun q h => nomatch h) (Nat.le_of_ble_eq_true rfl) (Nat.le_of_ble_eq_true rfl)) (fun p4 => ?_)
  obtain ⟨a1, ga1, ha1, rfl⟩ := rg_ex p4
  have ma1 : nn (nI a1) = a1 := nn_of (by omega)
  refine lv_aload_n hx hb d_X_dip_7 rfl (lv_at hl 0 rfl) ?_
  refine va_get (D := (dC, dI)) (ci := 0) (v := .ref (q 6)) (C := R_X) (T := F_X) (N := 12) hx hb hts i_X hown hK hP 0 rfl rfl 5 (by decide) (hts _ wd_62) (fun _ h9 => h9) rfl d_X_dip_8 ?_
  refine lv_iload_n hx hb d_X_dip_11 rfl (lv_at hl 1 rfl) ?_
  refine pu_go (va_runV (As := [.int (nI a1)]) (rest := []) ⟨hx, hb, hml, hown, hts⟩ (c_H_litresAt l dC dI cI q S t hI a1 (by omega) hso) (cwV 1 hts (gi_V wd_530 wd_531 wd_532 wd_4 wd_533) rfl rfl rfl (by decide +kernel) ⟨Nat.le_of_ble_eq_true rfl, Nat.le_of_ble_eq_true rfl⟩) (pu_preV hK (hP.sub [6, 16, 17] rfl) (ci := 2) (q0 := 0) rfl rfl) rfl rfl hl.1 rfl (lv_room (Nat.le_of_ble_eq_true rfl)) d_X_dip_12 ⟨Nat.le_of_ble_eq_true rfl, Nat.le_of_ble_eq_true rfl⟩) ?_
  have ho : op_dip S (nI a1) = (0, dipv S a1, S) := by simp only [op_dip, ma1, if_pos p4]
  rw [ho]
  refine W.widen (k := 1) (n := 6) (Nat.le_of_ble_eq_true rfl) (Nat.le_of_ble_eq_true rfl) ?_
  have hP9 : va_P (dC, dI) classes (wX q cI (S)) s.heap := hP
  exact vx_ret (W.iret hx hb hr (fun t ht hW => ⟨rfl, rfl, by rw [ht]; exact hP9, hS.F ht⟩) hS.2.2 d_X_dip_15)
