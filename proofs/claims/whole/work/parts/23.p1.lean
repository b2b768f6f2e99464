set_option maxHeartbeats 4000000 in
set_option maxRecDepth 100000 in
theorem c_X_store (l : Launch) (hst : l.stackTraces = false) (dC : Nat → ClassId) (dI : Nat → Nat → Nat) (A0 : Nat → Prop) (sz : Nat) (cI : ClassId) (q : Nat → Nat) (S : St) (t : Nat) (hI : Bd t S) : vx_Met l y_X_store (.code y_X_store b_X_store 1 (some .int) :: bg) { frames := 8, cells := 1, slots := 6, locals := 132 } (xo_P (dC, dI) classes [(cI, .int)] A0 (wX q cI S) sz [.ref (q 0)]) (xo_Q (op_store S) (some (.int (op_store S).2.1)) (dC, dI) classes (wX q cI (op_store S).2.2) (va_A (wX q cI S) sz)) (xo_X (op_store S) [E_uo]) 1 6 (va_A (wX q cI S) sz) := by
  refine vx_ofW (cc := b_X_store) (maxL := 1) (ret := (some .int)) (by decide) rfl ?_
  intro p e s m args below meth c s₁ B hml hnt hv
  obtain ⟨rfl, hsz, hP, hK, hD0, hG⟩ := hv
  subst hsz
  have hD := hD0.self (sz := s.heap.size)
  generalize hAe : va_A (wX q cI S) s.heap.size = A at hD ⊢
  have hA : ∀ q : Nat, s.heap.size ≤ q → A q := fun q h => by rw [← hAe]; exact Or.inr h
  have hS : va_S A s.heap s.heap [] := va_S.rf
  have hx := B.exec
  have hb := B.bytes
  have hr := B.returns
  have hts := fun w (h : w ∈ bg) => atoms_spec (ws := .code y_X_store b_X_store 1 (some .int) :: bg) B.pre w (List.mem_cons_of_mem _ h)
  have hown : s.vm.findClass R_X = some m.cls := findClass_of_methodNamed B.named
  have hlocks := B.notSynchronized
  have hl := lv_entry ([.ref (q 0)]) (n := 1) (Nat.le_of_ble_eq_true rfl)
  rw [lg_entry_eq]
  generalize (lg_sl ([.ref (q 0)]) ++ List.replicate (1 - (lg_sl ([.ref (q 0)])).length) Slot.unset).toArray = ls at hl ⊢
  have hl : lv_has ls 1 [(0, .ref (q 0))] := hl
  have hB := hI.1
  have hg0 : S.2.1 0 ≤ 8 := hI.2.1 0
  have hg1 : S.2.1 1 ≤ 9999 := hI.2.1 1
  have hg2 : S.2.1 2 ≤ 60 := hI.2.1 2
  have hg3 : S.2.1 3 ≤ 60 := hI.2.1 3
  have hg4 : S.2.1 4 ≤ 80 := hI.2.1 4
  have hg5 : S.2.1 5 ≤ 20 := hI.2.1 5
  have hg6 : S.2.1 6 ≤ 80 := hI.2.1 6
  have hg7 : S.2.1 7 ≤ 10 := hI.2.1 7
  have hg8 : t ≤ 512 := hI.2.2
  refine lv_aload_n hx hb d_X_store_0 rfl (lv_at hl 0 rfl) ?_
  refine va_get (D := (dC, dI)) (ci := 0) (v := .int (nI (S.2.1 0))) (C := R_X) (T := F_X) (N := 12) hx hb hts i_X hown hK hP 0 rfl rfl 10 (by decide) (hts _ wd_67) (fun _ h9 => h9) rfl d_X_store_1 ?_
  refine lv_bipush (v := nI 8) hx hb d_X_store_4 (by decide) ?_
  refine nv_clt (tgt := 19) hx hb (by omega) (by omega) d_X_store_6 (by decide) (fun c6 => ?_) (fun c6 => ?_)
  · refine lv_aload_n hx hb d_X_store_19 rfl (lv_at hl 0 rfl) ?_
    refine lv_dup hx hb d_X_store_20 rfl ?_
    refine va_get (D := (dC, dI)) (ci := 0) (v := .int (nI (S.2.1 0))) (C := R_X) (T := F_X) (N := 12) hx hb hts i_X hown hK hP 0 rfl rfl 10 (by decide) (hts _ wd_67) (fun _ h9 => h9) rfl d_X_store_21 ?_
    refine lv_iconst (v := nI 1) hx hb d_X_store_24 (by decide) ?_
    refine nv_add hx hb d_X_store_25 ?_
    refine va_put (D := (dC, dI)) (ci := 0) (v := .int (nI ((S.2.1 0) + 1))) (ty := .int) (C := R_X) (T := F_X) (N := 12) hx hb hts i_X ty_X ty_X_ok n_X hown hK hP hD hS 0 rfl rfl 10 (by decide) (hts _ wd_67) (fun _ h9 => h9) rfl (by decide +kernel) rfl rfl (Nat.le_of_ble_eq_true rfl) d_X_store_26 (fun H locs hP hD hS => ?_)
    have hP : va_P (dC, dI) classes (wX q cI (S_g S 0 ((S.2.1 0) + 1))) H := by rw [← wX_g0]; exact hP
    have hD : va_D A (wX q cI (S_g S 0 ((S.2.1 0) + 1))) := by rw [← wX_g0]; exact hD
    obtain ⟨S1, hS1⟩ : ∃ z : St, z = S_g S 0 ((S.2.1 0) + 1) := ⟨_, rfl⟩
    rw [← hS1] at hP hD
    refine lv_aload_n hx hb d_X_store_29 rfl (lv_at hl 0 rfl) ?_
    refine va_get (D := (dC, dI)) (ci := 0) (v := .int (nI (S1.2.1 0))) (C := R_X) (T := F_X) (N := 12) hx hb hts i_X hown hK hP 0 rfl rfl 10 (by decide) (hts _ wd_67) (fun _ h9 => h9) rfl d_X_store_30 ?_
    have hq : S1.2.1 0 = S.2.1 0 + 1 := by rw [hS1]; rfl
    refine lv_iconst (v := nI 1) hx hb d_X_store_33 (by decide) ?_
    refine nv_sub hx hb (by omega) d_X_store_34 ?_
    have ho : op_store S = (0, nI (S.2.1 0), S_g S 0 (S.2.1 0 + 1)) := by simp only [op_store, if_pos c6]
    rw [ho]
    refine nv_as (nI (S.2.1 0)) (by rw [hS1]; rfl) ?_
    refine W.widen (k := 1) (n := 6) (Nat.le_of_ble_eq_true rfl) (Nat.le_of_ble_eq_true rfl) ?_
    have hP9 : va_P (dC, dI) classes (wX q cI (S_g S 0 (S.2.1 0 + 1))) H := by rw [hS1] at hP; exact hP
    exact vx_ret (W.iret hx hb hr (fun t ht hW => ⟨rfl, rfl, by rw [ht]; exact hP9, hS.F ht⟩) hS.2.2 d_X_store_35)
  · exact x_throw (A := A0) hx hb hst hown hts hG ex_uo sx_56 hnt (hl.1.trans hml.symm) hlocks d_X_store_9 d_X_store_12 d_X_store_13 d_X_store_15 d_X_store_18 (Nat.le_of_ble_eq_true rfl) (Nat.le_of_ble_eq_true rfl) (Nat.le_of_ble_eq_true rfl) (Nat.le_of_ble_eq_true rfl) (Nat.le_of_ble_eq_true rfl) (Nat.le_of_ble_eq_true rfl) (fun t h1 h2 => ⟨by simp only [op_store, if_neg (Nat.not_lt.mpr c6)]; decide, by simp only [op_store, if_neg (Nat.not_lt.mpr c6)]; rfl, h1, h2⟩)
set_option maxHeartbeats 4000000 in
set_option maxRecDepth 100000 in
theorem c_X_lot (l : Launch) (hst : l.stackTraces = false) (dC : Nat → ClassId) (dI : Nat → Nat → Nat) (A0 : Nat → Prop) (sz : Nat) (cI : ClassId) (q : Nat → Nat) (S : St) (t : Nat) (hI : Bd t S) (x y : Int32) : vx_Met l y_X_lot (.code y_X_lot b_X_lot 3 (some .int) :: bg) { frames := 8, cells := 3, slots := 18, locals := 132 } (xo_P (dC, dI) classes [(cI, .int)] A0 (wX q cI S) sz [.ref (q 0), .int x, .int y]) (xo_Q (op_lot S x y) (some (.int (op_lot S x y).2.1)) (dC, dI) classes (wX q cI (op_lot S x y).2.2) (va_A (wX q cI S) sz)) (xo_X (op_lot S x y) [E_ia, E_io, E_uo]) 3 18 (va_A (wX q cI S) sz) := by
  refine vx_ofW (cc := b_X_lot) (maxL := 3) (ret := (some .int)) (by decide) rfl ?_
  intro p e s m args below meth c s₁ B hml hnt hv
  obtain ⟨rfl, hsz, hP, hK, hD0, hG⟩ := hv
  subst hsz
  have hD := hD0.self (sz := s.heap.size)
  generalize hAe : va_A (wX q cI S) s.heap.size = A at hD ⊢
  have hA : ∀ q : Nat, s.heap.size ≤ q → A q := fun q h => by rw [← hAe]; exact Or.inr h
  have hS : va_S A s.heap s.heap [] := va_S.rf
  have hx := B.exec
  have hb := B.bytes
  have hr := B.returns
  have hts := fun w (h : w ∈ bg) => atoms_spec (ws := .code y_X_lot b_X_lot 3 (some .int) :: bg) B.pre w (List.mem_cons_of_mem _ h)
  have hown : s.vm.findClass R_X = some m.cls := findClass_of_methodNamed B.named
  have hlocks := B.notSynchronized
  have hl := lv_entry ([.ref (q 0), .int x, .int y]) (n := 3) (Nat.le_of_ble_eq_true rfl)
  rw [lg_entry_eq]
  generalize (lg_sl ([.ref (q 0), .int x, .int y]) ++ List.replicate (3 - (lg_sl ([.ref (q 0), .int x, .int y])).length) Slot.unset).toArray = ls at hl ⊢
  have hl : lv_has ls 3 [(0, .ref (q 0)), (1, .int x), (2, .int y)] := hl
  have hB := hI.1
  have hg0 : S.2.1 0 ≤ 8 := hI.2.1 0
  have hg1 : S.2.1 1 ≤ 9999 := hI.2.1 1
  have hg2 : S.2.1 2 ≤ 60 := hI.2.1 2
  have hg3 : S.2.1 3 ≤ 60 := hI.2.1 3
  have hg4 : S.2.1 4 ≤ 80 := hI.2.1 4
  have hg5 : S.2.1 5 ≤ 20 := hI.2.1 5
  have hg6 : S.2.1 6 ≤ 80 := hI.2.1 6
  have hg7 : S.2.1 7 ≤ 10 := hI.2.1 7
  have hg8 : t ≤ 512 := hI.2.2
  refine lv_iload_n hx hb d_X_lot_0 rfl (lv_at hl 1 rfl) ?_
  refine nd_go (vx_runS (As := [.int x]) (rest := []) ⟨hx, hb, hml, hown, hts⟩ (c_X_needKind l hst dC dI A0 x) (cwS 1 hts (gi_S wd_234 wd_235 wd_1 wd_236) rfl rfl rfl (by decide +kernel) ⟨Nat.le_of_ble_eq_true rfl, Nat.le_of_ble_eq_true rfl⟩) (nd_preS (hK.sub (tys' := []) [] rfl) (fun k q h => by simp at h) hG) rfl rfl hl.1 rfl (lv_room (Nat.le_of_ble_eq_true rfl)) d_X_lot_1 ⟨Nat.le_of_ble_eq_true rfl, Nat.le_of_ble_eq_true rfl⟩) (fun p1 ce q9 H1 h1 h2 h3 h4 h5 => vx_out (fun x hx => (hnt x hx).elim) hlocks h3 h4 h5 (fun t ht hv => ⟨by simp only [op_lot, if_neg p1]; decide, by simp only [op_lot, if_neg p1]; rfl, by rw [ht]; exact h1, fun z hz => by rw [ht]; exact h2 z hz⟩) (fun q h => nomatch h) (Nat.le_of_ble_eq_true rfl) (Nat.le_of_ble_eq_true rfl)) (fun p1 => ?_)
  obtain ⟨a1, ha1, rfl⟩ := ok_ex p1
  have ma1 : nn (nI a1) = a1 := nn_of (by omega)
  refine lv_iload_n hx hb d_X_lot_4 rfl (lv_at hl 2 rfl) ?_
  refine lv_iconst (v := nI 0) hx hb d_X_lot_5 (by decide) ?_
  refine lv_sipush (v := nI 9999) hx hb d_X_lot_6 (by decide) ?_
  refine nd_go (vx_runS (As := [.int y, .int (nI 0), .int (nI 9999)]) (rest := []) ⟨hx, hb, hml, hown, hts⟩ (c_X_needRange l hst dC dI A0 y 0 9999 (by omega) (by omega)) (cwS 3 hts (gi_S wd_253 wd_254 wd_1 wd_255) rfl rfl rfl (by decide +kernel) ⟨Nat.le_of_ble_eq_true rfl, Nat.le_of_ble_eq_true rfl⟩) (nd_preS (hK.sub (tys' := []) [] rfl) (fun k q h => by simp at h) hG) rfl rfl hl.1 rfl (lv_room (Nat.le_of_ble_eq_true rfl)) d_X_lot_9 ⟨Nat.le_of_ble_eq_true rfl, Nat.le_of_ble_eq_true rfl⟩) (fun p9 ce q9 H1 h1 h2 h3 h4 h5 => vx_out (fun x hx => (hnt x hx).elim) hlocks h3 h4 h5 (fun t ht hv => ⟨by simp only [op_lot, ma1, if_pos p1, if_neg p9]; decide, by simp only [op_lot, ma1, if_pos p1, if_neg p9]; rfl, by rw [ht]; exact h1, fun z hz => by rw [ht]; exact h2 z hz⟩) (fun q h => nomatch h) (Nat.le_of_ble_eq_true rfl) (Nat.le_of_ble_eq_true rfl)) (fun p9 => ?_)
  obtain ⟨a2, ga2, ha2, rfl⟩ := rg_ex p9
  have ma2 : nn (nI a2) = a2 := nn_of (by omega)
  refine lv_aload_n hx hb d_X_lot_12 rfl (lv_at hl 0 rfl) ?_
  refine va_get (D := (dC, dI)) (ci := 0) (v := .ref (q 1)) (C := R_X) (T := F_X) (N := 12) hx hb hts i_X hown hK hP 0 rfl rfl 0 (by decide) (hts _ wd_57) (fun _ h9 => h9) rfl d_X_lot_13 ?_
  refine nd_go (vx_runS (As := [.ref (q 1)]) (rest := []) ⟨hx, hb, hml, hown, hts⟩ (c_X_needRoom l hst dC dI A0 cI (q 1) (q 11) 60 (S.2.1 2) 300 (rowf S.1 0) (by omega) (by omega)) (cwS 1 hts (gi_S wd_272 wd_273 wd_1 wd_274) rfl rfl rfl (by decide +kernel) ⟨Nat.le_of_ble_eq_true rfl, Nat.le_of_ble_eq_true rfl⟩) (nd_preS hK (hP.sub [1, 11] rfl) hG) rfl rfl hl.1 rfl (lv_room (Nat.le_of_ble_eq_true rfl)) d_X_lot_16 ⟨Nat.le_of_ble_eq_true rfl, Nat.le_of_ble_eq_true rfl⟩) (fun p16 ce q9 H1 h1 h2 h3 h4 h5 => vx_out (fun x hx => (hnt x hx).elim) hlocks h3 h4 h5 (fun t ht hv => ⟨by simp only [op_lot, ma1, if_pos p1, ma2, if_pos p9, if_neg p16]; decide, by simp only [op_lot, ma1, if_pos p1, ma2, if_pos p9, if_neg p16]; rfl, by rw [ht]; exact h1, fun z hz => by rw [ht]; exact h2 z hz⟩) (fun q h => nomatch h) (Nat.le_of_ble_eq_true rfl) (Nat.le_of_ble_eq_true rfl)) (fun p16 => ?_)
  refine lv_aload_n hx hb d_X_lot_19 rfl (lv_at hl 0 rfl) ?_
  refine va_get (D := (dC, dI)) (ci := 0) (v := .ref (q 1)) (C := R_X) (T := F_X) (N := 12) hx hb hts i_X hown hK hP 0 rfl rfl 0 (by decide) (hts _ wd_57) (fun _ h9 => h9) rfl d_X_lot_20 ?_
  refine lv_iload_n hx hb d_X_lot_23 rfl (lv_at hl 1 rfl) ?_
  refine lv_iload_n hx hb d_X_lot_24 rfl (lv_at hl 2 rfl) ?_
  refine lv_iconst (v := nI 0) hx hb d_X_lot_25 (by decide) ?_
  refine lv_iconst (v := nI 0) hx hb d_X_lot_26 (by decide) ?_
  refine lv_iconst (v := nI 0) hx hb d_X_lot_27 (by decide) ?_
  refine wr_go (va_runV (As := [.int (nI a1), .int (nI a2), .int (nI 0), .int (nI 0), .int (nI 0)]) (rest := []) ⟨hx, hb, hml, hown, hts⟩ (c_W_add l dC dI s.heap.size cI (q 1) (q 11) 60 (S.2.1 2) 300 (rowf S.1 0) (nI a1) (nI a2) (nI 0) (nI 0) (nI 0) (by omega) (by decide)) (cwV 5 hts (gi_V wd_140 wd_141 wd_142 wd_2 wd_143) rfl rfl rfl (by decide +kernel) ⟨Nat.le_of_ble_eq_true rfl, Nat.le_of_ble_eq_true rfl⟩) (wr_preV hK (hP.sub [1, 11] rfl) (hD.sub [1, 11] (by decide) rfl) (ci := 1) (q0 := 0) rfl rfl) rfl rfl hl.1 rfl (lv_room (Nat.le_of_ble_eq_true rfl)) d_X_lot_28 ⟨Nat.le_of_ble_eq_true rfl, Nat.le_of_ble_eq_true rfl⟩) hP hD hS hA [1, 11] rfl rfl (wX q cI (S_g (S_row S 0 (S.2.1 2) a1 a2 0 0 0) 2 (S.2.1 2 + 1))) wX_add0 rfl (fun H locs hP hD hS => ?_)
  refine W.eq (g2 := F0 m 31 ls [.int (nI (S.2.1 2))]) rfl ?_
  obtain ⟨S1, hS1⟩ : ∃ z : St, z = S_g (S_row S 0 (S.2.1 2) a1 a2 0 0 0) 2 (S.2.1 2 + 1) := ⟨_, rfl⟩
  rw [← hS1] at hP hD
  have ho : op_lot S (nI a1) (nI a2) = (0, nI (S.2.1 2), S_g (S_row S 0 (S.2.1 2) a1 a2 0 0 0) 2 (S.2.1 2 + 1)) := by simp only [op_lot, ma1, if_pos p1, ma2, if_pos p9, if_pos p16]
  rw [ho]
  refine W.widen (k := 3) (n := 18) (Nat.le_of_ble_eq_true rfl) (Nat.le_of_ble_eq_true rfl) ?_
  have hP9 : va_P (dC, dI) classes (wX q cI (S_g (S_row S 0 (S.2.1 2) a1 a2 0 0 0) 2 (S.2.1 2 + 1))) H := by rw [hS1] at hP; exact hP
  exact vx_ret (W.iret hx hb hr (fun t ht hW => ⟨rfl, rfl, by rw [ht]; exact hP9, hS.F ht⟩) hS.2.2 d_X_lot_31)
set_option maxHeartbeats 4000000 in
set_option maxRecDepth 100000 in
theorem c_X_bring (l : Launch) (hst : l.stackTraces = false) (dC : Nat → ClassId) (dI : Nat → Nat → Nat) (A0 : Nat → Prop) (sz : Nat) (cI : ClassId) (q : Nat → Nat) (S : St) (t : Nat) (hI : Bd t S) (x y n : Int32) : vx_Met l y_X_bring (.code y_X_bring b_X_bring 4 (some .int) :: bg) { frames := 8, cells := 4, slots := 24, locals := 132 } (xo_P (dC, dI) classes [(cI, .int)] A0 (wX q cI S) sz [.ref (q 0), .int x, .int y, .int n]) (xo_Q (op_bring S x y n) (some (.int (op_bring S x y n).2.1)) (dC, dI) classes (wX q cI (op_bring S x y n).2.2) (va_A (wX q cI S) sz)) (xo_X (op_bring S x y n) [E_ia, E_io, E_uo]) 4 24 (va_A (wX q cI S) sz) := by
  refine vx_ofW (cc := b_X_bring) (maxL := 4) (ret := (some .int)) (by decide) rfl ?_
  intro p e s m args below meth c s₁ B hml hnt hv
  obtain ⟨rfl, hsz, hP, hK, hD0, hG⟩ := hv
  subst hsz
  have hD := hD0.self (sz := s.heap.size)
  generalize hAe : va_A (wX q cI S) s.heap.size = A at hD ⊢
  have hA : ∀ q : Nat, s.heap.size ≤ q → A q := fun q h => by rw [← hAe]; exact Or.inr h
  have hS : va_S A s.heap s.heap [] := va_S.rf
  have hx := B.exec
  have hb := B.bytes
  have hr := B.returns
  have hts := fun w (h : w ∈ bg) => atoms_spec (ws := .code y_X_bring b_X_bring 4 (some .int) :: bg) B.pre w (List.mem_cons_of_mem _ h)
  have hown : s.vm.findClass R_X = some m.cls := findClass_of_methodNamed B.named
  have hlocks := B.notSynchronized
  have hl := lv_entry ([.ref (q 0), .int x, .int y, .int n]) (n := 4) (Nat.le_of_ble_eq_true rfl)
  rw [lg_entry_eq]
  generalize (lg_sl ([.ref (q 0), .int x, .int y, .int n]) ++ List.replicate (4 - (lg_sl ([.ref (q 0), .int x, .int y, .int n])).length) Slot.unset).toArray = ls at hl ⊢
  have hl : lv_has ls 4 [(0, .ref (q 0)), (1, .int x), (2, .int y), (3, .int n)] := hl
  have hB := hI.1
  have hg0 : S.2.1 0 ≤ 8 := hI.2.1 0
  have hg1 : S.2.1 1 ≤ 9999 := hI.2.1 1
  have hg2 : S.2.1 2 ≤ 60 := hI.2.1 2
  have hg3 : S.2.1 3 ≤ 60 := hI.2.1 3
  have hg4 : S.2.1 4 ≤ 80 := hI.2.1 4
  have hg5 : S.2.1 5 ≤ 20 := hI.2.1 5
  have hg6 : S.2.1 6 ≤ 80 := hI.2.1 6
  have hg7 : S.2.1 7 ≤ 10 := hI.2.1 7
  have hg8 : t ≤ 512 := hI.2.2
  refine lv_aload_n hx hb d_X_bring_0 rfl (lv_at hl 0 rfl) ?_
  refine lv_iload_n hx hb d_X_bring_1 rfl (lv_at hl 1 rfl) ?_
  refine nd_go (vx_runV (As := [.int x]) (rest := []) ⟨hx, hb, hml, hown, hts⟩ (c_X_needStore l hst dC dI A0 cI q S t hI x) (cwV 1 hts (gi_V wd_283 wd_285 wp_7 wd_1 wd_286) rfl rfl rfl (by decide +kernel) ⟨Nat.le_of_ble_eq_true rfl, Nat.le_of_ble_eq_true rfl⟩) (nd_preV hK hP hG (ci := 0) (q0 := 0) rfl rfl) rfl rfl hl.1 rfl (lv_room (Nat.le_of_ble_eq_true rfl)) d_X_bring_2 ⟨Nat.le_of_ble_eq_true rfl, Nat.le_of_ble_eq_true rfl⟩) (fun p2 ce q9 H1 h1 h2 h3 h4 h5 => vx_out (fun x hx => (hnt x hx).elim) hlocks h3 h4 h5 (fun t ht hv => ⟨by simp only [op_bring, if_neg p2]; decide, by simp only [op_bring, if_neg p2]; rfl, by rw [ht]; exact h1, fun z hz => by rw [ht]; exact h2 z hz⟩) (fun q h => nomatch h) (Nat.le_of_ble_eq_true rfl) (Nat.le_of_ble_eq_true rfl)) (fun p2 => ?_)
  obtain ⟨a1, ha1, rfl⟩ := ok_ex p2
  have ma1 : nn (nI a1) = a1 := nn_of (by omega)
  refine lv_aload_n hx hb d_X_bring_5 rfl (lv_at hl 0 rfl) ?_
  refine lv_iload_n hx hb d_X_bring_6 rfl (lv_at hl 2 rfl) ?_
  refine nd_go (vx_runV (As := [.int y]) (rest := []) ⟨hx, hb, hml, hown, hts⟩ (c_X_needLot l hst dC dI A0 cI q S t hI y) (cwV 1 hts (gi_V wd_288 wd_290 wp_8 wd_1 wd_291) rfl rfl rfl (by decide +kernel) ⟨Nat.le_of_ble_eq_true rfl, Nat.le_of_ble_eq_true rfl⟩) (nd_preV hK hP hG (ci := 0) (q0 := 0) rfl rfl) rfl rfl hl.1 rfl (lv_room (Nat.le_of_ble_eq_true rfl)) d_X_bring_7 ⟨Nat.le_of_ble_eq_true rfl, Nat.le_of_ble_eq_true rfl⟩) (fun p7 ce q9 H1 h1 h2 h3 h4 h5 => vx_out (fun x hx => (hnt x hx).elim) hlocks h3 h4 h5 (fun t ht hv => ⟨by simp only [op_bring, ma1, if_pos p2, if_neg p7]; decide, by simp only [op_bring, ma1, if_pos p2, if_neg p7]; rfl, by rw [ht]; exact h1, fun z hz => by rw [ht]; exact h2 z hz⟩) (fun q h => nomatch h) (Nat.le_of_ble_eq_true rfl) (Nat.le_of_ble_eq_true rfl)) (fun p7 => ?_)
  obtain ⟨a2, ha2, rfl⟩ := ok_ex p7
  have ma2 : nn (nI a2) = a2 := nn_of (by omega)
  refine lv_iload_n hx hb d_X_bring_10 rfl (lv_at hl 3 rfl) ?_
  refine lv_iconst (v := nI 1) hx hb d_X_bring_11 (by decide) ?_
  refine lv_sipush (v := nI 9999) hx hb d_X_bring_12 (by decide) ?_
  refine nd_go (vx_runS (As := [.int n, .int (nI 1), .int (nI 9999)]) (rest := []) ⟨hx, hb, hml, hown, hts⟩ (c_X_needRange l hst dC dI A0 n 1 9999 (by omega) (by omega)) (cwS 3 hts (gi_S wd_253 wd_254 wd_1 wd_255) rfl rfl rfl (by decide +kernel) ⟨Nat.le_of_ble_eq_true rfl, Nat.le_of_ble_eq_true rfl⟩) (nd_preS (hK.sub (tys' := []) [] rfl) (fun k q h => by simp at h) hG) rfl rfl hl.1 rfl (lv_room (Nat.le_of_ble_eq_true rfl)) d_X_bring_15 ⟨Nat.le_of_ble_eq_true rfl, Nat.le_of_ble_eq_true rfl⟩) (fun p15 ce q9 H1 h1 h2 h3 h4 h5 => vx_out (fun x hx => (hnt x hx).elim) hlocks h3 h4 h5 (fun t ht hv => ⟨by simp only [op_bring, ma1, if_pos p2, ma2, if_pos p7, if_neg p15]; decide, by simp only [op_bring, ma1, if_pos p2, ma2, if_pos p7, if_neg p15]; rfl, by rw [ht]; exact h1, fun z hz => by rw [ht]; exact h2 z hz⟩) (fun q h => nomatch h) (Nat.le_of_ble_eq_true rfl) (Nat.le_of_ble_eq_true rfl)) (fun p15 => ?_)
  obtain ⟨a3, ga3, ha3, rfl⟩ := rg_ex p15
  have ma3 : nn (nI a3) = a3 := nn_of (by omega)
  refine lv_aload_n hx hb d_X_bring_18 rfl (lv_at hl 0 rfl) ?_
  refine lv_iload_n hx hb d_X_bring_19 rfl (lv_at hl 1 rfl) ?_
  refine lv_iload_n hx hb d_X_bring_20 rfl (lv_at hl 2 rfl) ?_
  refine lv_iload_n hx hb d_X_bring_21 rfl (lv_at hl 3 rfl) ?_
  refine nd_go (vx_runV (As := [.int (nI a1), .int (nI a2), .int (nI a3)]) (rest := []) ⟨hx, hb, hml, hown, hts⟩ (c_X_needPlace l hst dC dI A0 cI q S t hI a1 a2 a3 (by omega) (by omega) (by omega)) (cwV 3 hts (gi_V wd_300 wd_302 wp_9 wd_1 wd_303) rfl rfl rfl (by decide +kernel) ⟨Nat.le_of_ble_eq_true rfl, Nat.le_of_ble_eq_true rfl⟩) (nd_preV hK hP hG (ci := 0) (q0 := 0) rfl rfl) rfl rfl hl.1 rfl (lv_room (Nat.le_of_ble_eq_true rfl)) d_X_bring_22 ⟨Nat.le_of_ble_eq_true rfl, Nat.le_of_ble_eq_true rfl⟩) (fun p22 ce q9 H1 h1 h2 h3 h4 h5 => vx_out (fun x hx => (hnt x hx).elim) hlocks h3 h4 h5 (fun t ht hv => ⟨by simp only [op_bring, ma1, if_pos p2, ma2, if_pos p7, ma3, if_pos p15, if_neg p22]; decide, by simp only [op_bring, ma1, if_pos p2, ma2, if_pos p7, ma3, if_pos p15, if_neg p22]; rfl, by rw [ht]; exact h1, fun z hz => by rw [ht]; exact h2 z hz⟩) (fun q h => nomatch h) (Nat.le_of_ble_eq_true rfl) (Nat.le_of_ble_eq_true rfl)) (fun p22 => ?_)
  refine lv_aload_n hx hb d_X_bring_25 rfl (lv_at hl 0 rfl) ?_
  refine lv_iload_n hx hb d_X_bring_26 rfl (lv_at hl 1 rfl) ?_
  refine lv_iload_n hx hb d_X_bring_27 rfl (lv_at hl 2 rfl) ?_
  refine lv_iload_n hx hb d_X_bring_28 rfl (lv_at hl 3 rfl) ?_
  refine wr_goA (va_runV (As := [.int (nI a1), .int (nI a2), .int (nI a3)]) (rest := []) ⟨hx, hb, hml, hown, hts⟩ (c_X_change l dC dI s.heap.size cI q S t hI a1 a2 (S.1 25 (a1 * 60 + a2) + a3) (nI a3) (by omega) (by omega) (nI_add _ _)) (cwV 3 hts (gi_V wd_305 wd_307 wp_10 wd_1 wd_308) rfl rfl rfl (by decide +kernel) ⟨Nat.le_of_ble_eq_true rfl, Nat.le_of_ble_eq_true rfl⟩) (wr_preV hK hP hD (ci := 0) (q0 := 0) rfl rfl) rfl rfl hl.1 rfl (lv_room (Nat.le_of_ble_eq_true rfl)) d_X_bring_29 ⟨Nat.le_of_ble_eq_true rfl, Nat.le_of_ble_eq_true rfl⟩) hD hS hA wX_adr (fun H locs hP hD hS => ?_)
  refine W.eq (g2 := F0 m 32 ls []) rfl ?_
  obtain ⟨S1, hS1⟩ : ∃ z : St, z = S_a S 25 (a1 * 60 + a2) (S.1 25 (a1 * 60 + a2) + a3) := ⟨_, rfl⟩
  rw [← hS1] at hP hD
  refine lv_aload_n hx hb d_X_bring_32 rfl (lv_at hl 0 rfl) ?_
  refine va_get (D := (dC, dI)) (ci := 0) (v := .ref (q 7)) (C := R_X) (T := F_X) (N := 12) hx hb hts i_X hown hK hP 0 rfl rfl 6 (by decide) (hts _ wd_63) (fun _ h9 => h9) rfl d_X_bring_33 ?_
  refine lv_iload_n hx hb d_X_bring_36 rfl (lv_at hl 1 rfl) ?_
  refine lv_iload_n hx hb d_X_bring_37 rfl (lv_at hl 2 rfl) ?_
  refine pu_go (va_runS (As := [.int (nI a1), .int (nI a2)]) (rest := [.ref (q 7)]) ⟨hx, hb, hml, hown, hts⟩ (c_X_place l dC dI a1 a2) (cwS 2 hts (gi_S wd_125 wd_126 wd_1 wd_127) rfl rfl rfl (by decide +kernel) ⟨Nat.le_of_ble_eq_true rfl, Nat.le_of_ble_eq_true rfl⟩) (pu_preS (hK.sub (tys' := []) [] rfl) (fun k q h => by simp at h)) rfl rfl hl.1 rfl (lv_room (Nat.le_of_ble_eq_true rfl)) d_X_bring_38 ⟨Nat.le_of_ble_eq_true rfl, Nat.le_of_ble_eq_true rfl⟩) ?_
  refine nv_iald (v := nI (S1.1 25 (a1 * 60 + a2))) hx hb hK hP 7 0 rfl rfl (by omega) (by decide) rfl d_X_bring_41 ?_
  have ho : op_bring S (nI a1) (nI a2) (nI a3) = (0, nI (S.1 25 (a1 * 60 + a2) + a3), S_a S 25 (a1 * 60 + a2) (S.1 25 (a1 * 60 + a2) + a3)) := by simp only [op_bring, ma1, if_pos p2, ma2, if_pos p7, ma3, if_pos p15, if_pos p22]
  rw [ho]
  refine nv_as (nI (S.1 25 (a1 * 60 + a2) + a3)) (by rw [hS1]; exact congrArg nI Sa_s) ?_
  refine W.widen (k := 4) (n := 24) (Nat.le_of_ble_eq_true rfl) (Nat.le_of_ble_eq_true rfl) ?_
  have hP9 : va_P (dC, dI) classes (wX q cI (S_a S 25 (a1 * 60 + a2) (S.1 25 (a1 * 60 + a2) + a3))) H := by rw [hS1] at hP; exact hP
  exact vx_ret (W.iret hx hb hr (fun t ht hW => ⟨rfl, rfl, by rw [ht]; exact hP9, hS.F ht⟩) hS.2.2 d_X_bring_42)
set_option maxHeartbeats 4000000 in
set_option maxRecDepth 100000 in
theorem c_X_has (l : Launch) (hst : l.stackTraces = false) (dC : Nat → ClassId) (dI : Nat → Nat → Nat) (A0 : Nat → Prop) (sz : Nat) (cI : ClassId) (q : Nat → Nat) (S : St) (t : Nat) (hI : Bd t S) (x y : Int32) : vx_Met l y_X_has (.code y_X_has b_X_has 3 (some .int) :: bg) { frames := 8, cells := 2, slots := 12, locals := 132 } (xo_P (dC, dI) classes [(cI, .int)] A0 (wX q cI S) sz [.ref (q 0), .int x, .int y]) (xo_Q (op_has S x y) (some (.int (op_has S x y).2.1)) (dC, dI) classes (wX q cI (op_has S x y).2.2) (va_A (wX q cI S) sz)) (xo_X (op_has S x y) [E_ia]) 2 12 (va_A (wX q cI S) sz) := by
  refine vx_ofW (cc := b_X_has) (maxL := 3) (ret := (some .int)) (by decide) rfl ?_
  intro p e s m args below meth c s₁ B hml hnt hv
  obtain ⟨rfl, hsz, hP, hK, hD0, hG⟩ := hv
  subst hsz
  have hD := hD0.self (sz := s.heap.size)
  generalize hAe : va_A (wX q cI S) s.heap.size = A at hD ⊢
  have hA : ∀ q : Nat, s.heap.size ≤ q → A q := fun q h => by rw [← hAe]; exact Or.inr h
  have hS : va_S A s.heap s.heap [] := va_S.rf
  have hx := B.exec
  have hb := B.bytes
  have hr := B.returns
  have hts := fun w (h : w ∈ bg) => atoms_spec (ws := .code y_X_has b_X_has 3 (some .int) :: bg) B.pre w (List.mem_cons_of_mem _ h)
  have hown : s.vm.findClass R_X = some m.cls := findClass_of_methodNamed B.named
  have hlocks := B.notSynchronized
  have hl := lv_entry ([.ref (q 0), .int x, .int y]) (n := 3) (Nat.le_of_ble_eq_true rfl)
  rw [lg_entry_eq]
  generalize (lg_sl ([.ref (q 0), .int x, .int y]) ++ List.replicate (3 - (lg_sl ([.ref (q 0), .int x, .int y])).length) Slot.unset).toArray = ls at hl ⊢
  have hl : lv_has ls 3 [(0, .ref (q 0)), (1, .int x), (2, .int y)] := hl
  have hB := hI.1
  have hg0 : S.2.1 0 ≤ 8 := hI.2.1 0
  have hg1 : S.2.1 1 ≤ 9999 := hI.2.1 1
  have hg2 : S.2.1 2 ≤ 60 := hI.2.1 2
  have hg3 : S.2.1 3 ≤ 60 := hI.2.1 3
  have hg4 : S.2.1 4 ≤ 80 := hI.2.1 4
  have hg5 : S.2.1 5 ≤ 20 := hI.2.1 5
  have hg6 : S.2.1 6 ≤ 80 := hI.2.1 6
  have hg7 : S.2.1 7 ≤ 10 := hI.2.1 7
  have hg8 : t ≤ 512 := hI.2.2
  refine lv_aload_n hx hb d_X_has_0 rfl (lv_at hl 0 rfl) ?_
  refine lv_iload_n hx hb d_X_has_1 rfl (lv_at hl 1 rfl) ?_
  refine nd_go (vx_runV (As := [.int x]) (rest := []) ⟨hx, hb, hml, hown, hts⟩ (c_X_needStore l hst dC dI A0 cI q S t hI x) (cwV 1 hts (gi_V wd_283 wd_285 wp_7 wd_1 wd_286) rfl rfl rfl (by decide +kernel) ⟨Nat.le_of_ble_eq_true rfl, Nat.le_of_ble_eq_true rfl⟩) (nd_preV hK hP hG (ci := 0) (q0 := 0) rfl rfl) rfl rfl hl.1 rfl (lv_room (Nat.le_of_ble_eq_true rfl)) d_X_has_2 ⟨Nat.le_of_ble_eq_true rfl, Nat.le_of_ble_eq_true rfl⟩) (fun p2 ce q9 H1 h1 h2 h3 h4 h5 => vx_out (fun x hx => (hnt x hx).elim) hlocks h3 h4 h5 (fun t ht hv => ⟨by simp only [op_has, if_neg p2]; decide, by simp only [op_has, if_neg p2]; rfl, by rw [ht]; exact h1, fun z hz => by rw [ht]; exact h2 z hz⟩) (fun q h => nomatch h) (Nat.le_of_ble_eq_true rfl) (Nat.le_of_ble_eq_true rfl)) (fun p2 => ?_)
  obtain ⟨a1, ha1, rfl⟩ := ok_ex p2
  have ma1 : nn (nI a1) = a1 := nn_of (by omega)
  refine lv_aload_n hx hb d_X_has_5 rfl (lv_at hl 0 rfl) ?_
  refine lv_iload_n hx hb d_X_has_6 rfl (lv_at hl 2 rfl) ?_
  refine nd_go (vx_runV (As := [.int y]) (rest := []) ⟨hx, hb, hml, hown, hts⟩ (c_X_needLot l hst dC dI A0 cI q S t hI y) (cwV 1 hts (gi_V wd_288 wd_290 wp_8 wd_1 wd_291) rfl rfl rfl (by decide +kernel) ⟨Nat.le_of_ble_eq_true rfl, Nat.le_of_ble_eq_true rfl⟩) (nd_preV hK hP hG (ci := 0) (q0 := 0) rfl rfl) rfl rfl hl.1 rfl (lv_room (Nat.le_of_ble_eq_true rfl)) d_X_has_7 ⟨Nat.le_of_ble_eq_true rfl, Nat.le_of_ble_eq_true rfl⟩) (fun p7 ce q9 H1 h1 h2 h3 h4 h5 => vx_out (fun x hx => (hnt x hx).elim) hlocks h3 h4 h5 (fun t ht hv => ⟨by simp only [op_has, ma1, if_pos p2, if_neg p7]; decide, by simp only [op_has, ma1, if_pos p2, if_neg p7]; rfl, by rw [ht]; exact h1, fun z hz => by rw [ht]; exact h2 z hz⟩) (fun q h => nomatch h) (Nat.le_of_ble_eq_true rfl) (Nat.le_of_ble_eq_true rfl)) (fun p7 => ?_)
  obtain ⟨a2, ha2, rfl⟩ := ok_ex p7
  have ma2 : nn (nI a2) = a2 := nn_of (by omega)
  refine lv_aload_n hx hb d_X_has_10 rfl (lv_at hl 0 rfl) ?_
  refine va_get (D := (dC, dI)) (ci := 0) (v := .ref (q 7)) (C := R_X) (T := F_X) (N := 12) hx hb hts i_X hown hK hP 0 rfl rfl 6 (by decide) (hts _ wd_63) (fun _ h9 => h9) rfl d_X_has_11 ?_
  refine lv_iload_n hx hb d_X_has_14 rfl (lv_at hl 1 rfl) ?_
  refine lv_iload_n hx hb d_X_has_15 rfl (lv_at hl 2 rfl) ?_
  refine pu_go (va_runS (As := [.int (nI a1), .int (nI a2)]) (rest := [.ref (q 7)]) ⟨hx, hb, hml, hown, hts⟩ (c_X_place l dC dI a1 a2) (cwS 2 hts (gi_S wd_125 wd_126 wd_1 wd_127) rfl rfl rfl (by decide +kernel) ⟨Nat.le_of_ble_eq_true rfl, Nat.le_of_ble_eq_true rfl⟩) (pu_preS (hK.sub (tys' := []) [] rfl) (fun k q h => by simp at h)) rfl rfl hl.1 rfl (lv_room (Nat.le_of_ble_eq_true rfl)) d_X_has_16 ⟨Nat.le_of_ble_eq_true rfl, Nat.le_of_ble_eq_true rfl⟩) ?_
  refine nv_iald (v := nI (S.1 25 (a1 * 60 + a2))) hx hb hK hP 7 0 rfl rfl (by omega) (by decide) rfl d_X_has_19 ?_
  have ho : op_has S (nI a1) (nI a2) = (0, nI (S.1 25 (a1 * 60 + a2)), S) := by simp only [op_has, ma1, if_pos p2, ma2, if_pos p7]
  rw [ho]
  refine W.widen (k := 2) (n := 12) (Nat.le_of_ble_eq_true rfl) (Nat.le_of_ble_eq_true rfl) ?_
  have hP9 : va_P (dC, dI) classes (wX q cI (S)) s.heap := hP
  exact vx_ret (W.iret hx hb hr (fun t ht hW => ⟨rfl, rfl, by rw [ht]; exact hP9, hS.F ht⟩) hS.2.2 d_X_has_20)
set_option maxHeartbeats 4000000 in
set_option maxRecDepth 100000 in
theorem c_X_kit (l : Launch) (hst : l.stackTraces = false) (dC : Nat → ClassId) (dI : Nat → Nat → Nat) (A0 : Nat → Prop) (sz : Nat) (cI : ClassId) (q : Nat → Nat) (S : St) (t : Nat) (hI : Bd t S) (x y n : Int32) : vx_Met l y_X_kit (.code y_X_kit b_X_kit 4 none :: bg) { frames := 8, cells := 3, slots := 18, locals := 132 } (xo_P (dC, dI) classes [(cI, .int)] A0 (wX q cI S) sz [.ref (q 0), .int x, .int y, .int n]) (xo_Q (op_kit S x y n) none (dC, dI) classes (wX q cI (op_kit S x y n).2.2) (va_A (wX q cI S) sz)) (xo_X (op_kit S x y n) [E_ia, E_io]) 3 18 (va_A (wX q cI S) sz) := by
  refine vx_ofW (cc := b_X_kit) (maxL := 4) (ret := none) (by decide) rfl ?_
  intro p e s m args below meth c s₁ B hml hnt hv
  obtain ⟨rfl, hsz, hP, hK, hD0, hG⟩ := hv
  subst hsz
  have hD := hD0.self (sz := s.heap.size)
  generalize hAe : va_A (wX q cI S) s.heap.size = A at hD ⊢
  have hA : ∀ q : Nat, s.heap.size ≤ q → A q := fun q h => by rw [← hAe]; exact Or.inr h
  have hS : va_S A s.heap s.heap [] := va_S.rf
  have hx := B.exec
  have hb := B.bytes
  have hr := B.returns
  have hts := fun w (h : w ∈ bg) => atoms_spec (ws := .code y_X_kit b_X_kit 4 none :: bg) B.pre w (List.mem_cons_of_mem _ h)
  have hown : s.vm.findClass R_X = some m.cls := findClass_of_methodNamed B.named
  have hlocks := B.notSynchronized
  have hl := lv_entry ([.ref (q 0), .int x, .int y, .int n]) (n := 4) (Nat.le_of_ble_eq_true rfl)
  rw [lg_entry_eq]
  generalize (lg_sl ([.ref (q 0), .int x, .int y, .int n]) ++ List.replicate (4 - (lg_sl ([.ref (q 0), .int x, .int y, .int n])).length) Slot.unset).toArray = ls at hl ⊢
  have hl : lv_has ls 4 [(0, .ref (q 0)), (1, .int x), (2, .int y), (3, .int n)] := hl
  have hB := hI.1
  have hg0 : S.2.1 0 ≤ 8 := hI.2.1 0
  have hg1 : S.2.1 1 ≤ 9999 := hI.2.1 1
  have hg2 : S.2.1 2 ≤ 60 := hI.2.1 2
  have hg3 : S.2.1 3 ≤ 60 := hI.2.1 3
  have hg4 : S.2.1 4 ≤ 80 := hI.2.1 4
  have hg5 : S.2.1 5 ≤ 20 := hI.2.1 5
  have hg6 : S.2.1 6 ≤ 80 := hI.2.1 6
  have hg7 : S.2.1 7 ≤ 10 := hI.2.1 7
  have hg8 : t ≤ 512 := hI.2.2
  refine lv_iload_n hx hb d_X_kit_0 rfl (lv_at hl 1 rfl) ?_
  refine nd_go (vx_runS (As := [.int x]) (rest := []) ⟨hx, hb, hml, hown, hts⟩ (c_X_needKit l hst dC dI A0 x) (cwS 1 hts (gi_S wd_456 wd_457 wd_1 wd_458) rfl rfl rfl (by decide +kernel) ⟨Nat.le_of_ble_eq_true rfl, Nat.le_of_ble_eq_true rfl⟩) (nd_preS (hK.sub (tys' := []) [] rfl) (fun k q h => by simp at h) hG) rfl rfl hl.1 rfl (lv_room (Nat.le_of_ble_eq_true rfl)) d_X_kit_1 ⟨Nat.le_of_ble_eq_true rfl, Nat.le_of_ble_eq_true rfl⟩) (fun p1 ce q9 H1 h1 h2 h3 h4 h5 => vx_out (fun x hx => (hnt x hx).elim) hlocks h3 h4 h5 (fun t ht hv => ⟨by simp only [op_kit, if_neg p1]; decide, by simp only [op_kit, if_neg p1]; rfl, by rw [ht]; exact h1, fun z hz => by rw [ht]; exact h2 z hz⟩) (fun q h => nomatch h) (Nat.le_of_ble_eq_true rfl) (Nat.le_of_ble_eq_true rfl)) (fun p1 => ?_)
  obtain ⟨a1, ha1, rfl⟩ := ok_ex p1
  have ma1 : nn (nI a1) = a1 := nn_of (by omega)
  refine lv_iload_n hx hb d_X_kit_4 rfl (lv_at hl 2 rfl) ?_
  refine nd_go (vx_runS (As := [.int y]) (rest := []) ⟨hx, hb, hml, hown, hts⟩ (c_X_needKind l hst dC dI A0 y) (cwS 1 hts (gi_S wd_234 wd_235 wd_1 wd_236) rfl rfl rfl (by decide +kernel) ⟨Nat.le_of_ble_eq_true rfl, Nat.le_of_ble_eq_true rfl⟩) (nd_preS (hK.sub (tys' := []) [] rfl) (fun k q h => by simp at h) hG) rfl rfl hl.1 rfl (lv_room (Nat.le_of_ble_eq_true rfl)) d_X_kit_5 ⟨Nat.le_of_ble_eq_true rfl, Nat.le_of_ble_eq_true rfl⟩) (fun p5 ce q9 H1 h1 h2 h3 h4 h5 => vx_out (fun x hx => (hnt x hx).elim) hlocks h3 h4 h5 (fun t ht hv => ⟨by simp only [op_kit, ma1, if_pos p1, if_neg p5]; decide, by simp only [op_kit, ma1, if_pos p1, if_neg p5]; rfl, by rw [ht]; exact h1, fun z hz => by rw [ht]; exact h2 z hz⟩) (fun q h => nomatch h) (Nat.le_of_ble_eq_true rfl) (Nat.le_of_ble_eq_true rfl)) (fun p5 => ?_)
  obtain ⟨a2, ha2, rfl⟩ := ok_ex p5
  have ma2 : nn (nI a2) = a2 := nn_of (by omega)
  refine lv_iload_n hx hb d_X_kit_8 rfl (lv_at hl 3 rfl) ?_
  refine lv_iconst (v := nI 0) hx hb d_X_kit_9 (by decide) ?_
  refine lv_bipush (v := nI 20) hx hb d_X_kit_10 (by decide) ?_
  refine nd_go (vx_runS (As := [.int n, .int (nI 0), .int (nI 20)]) (rest := []) ⟨hx, hb, hml, hown, hts⟩ (c_X_needRange l hst dC dI A0 n 0 20 (by omega) (by omega)) (cwS 3 hts (gi_S wd_253 wd_254 wd_1 wd_255) rfl rfl rfl (by decide +kernel) ⟨Nat.le_of_ble_eq_true rfl, Nat.le_of_ble_eq_true rfl⟩) (nd_preS (hK.sub (tys' := []) [] rfl) (fun k q h => by simp at h) hG) rfl rfl hl.1 rfl (lv_room (Nat.le_of_ble_eq_true rfl)) d_X_kit_12 ⟨Nat.le_of_ble_eq_true rfl, Nat.le_of_ble_eq_true rfl⟩) (fun p12 ce q9 H1 h1 h2 h3 h4 h5 => vx_out (fun x hx => (hnt x hx).elim) hlocks h3 h4 h5 (fun t ht hv => ⟨by simp only [op_kit, ma1, if_pos p1, ma2, if_pos p5, if_neg p12]; decide, by simp only [op_kit, ma1, if_pos p1, ma2, if_pos p5, if_neg p12]; rfl, by rw [ht]; exact h1, fun z hz => by rw [ht]; exact h2 z hz⟩) (fun q h => nomatch h) (Nat.le_of_ble_eq_true rfl) (Nat.le_of_ble_eq_true rfl)) (fun p12 => ?_)
  obtain ⟨a3, ga3, ha3, rfl⟩ := rg_ex p12
  have ma3 : nn (nI a3) = a3 := nn_of (by omega)
  refine lv_aload_n hx hb d_X_kit_15 rfl (lv_at hl 0 rfl) ?_
  refine va_get (D := (dC, dI)) (ci := 0) (v := .ref (q 10)) (C := R_X) (T := F_X) (N := 12) hx hb hts i_X hown hK hP 0 rfl rfl 9 (by decide) (hts _ wd_66) (fun _ h9 => h9) rfl d_X_kit_16 ?_
  refine lv_iload_n hx hb d_X_kit_19 rfl (lv_at hl 1 rfl) ?_
  refine lv_iload_n hx hb d_X_kit_20 rfl (lv_at hl 2 rfl) ?_
  refine pu_go (va_runS (As := [.int (nI a1), .int (nI a2)]) (rest := [.ref (q 10)]) ⟨hx, hb, hml, hown, hts⟩ (c_X_pair l dC dI a1 a2) (cwS 2 hts (gi_S wd_106 wd_107 wd_1 wd_108) rfl rfl rfl (by decide +kernel) ⟨Nat.le_of_ble_eq_true rfl, Nat.le_of_ble_eq_true rfl⟩) (pu_preS (hK.sub (tys' := []) [] rfl) (fun k q h => by simp at h)) rfl rfl hl.1 rfl (lv_room (Nat.le_of_ble_eq_true rfl)) d_X_kit_21 ⟨Nat.le_of_ble_eq_true rfl, Nat.le_of_ble_eq_true rfl⟩) ?_
  refine lv_iload_n hx hb d_X_kit_24 rfl (lv_at hl 3 rfl) ?_
  refine nv_iast (f' := upd (colf S.1 28) (a1 * 10 + a2) (nI a3)) hx hb hK hP hD hS 10 0 rfl rfl (by omega) (by decide) rfl (wX q cI (S_a S 28 (a1 * 10 + a2) a3)) wX_c28 d_X_kit_25 (fun H locs hP hD hS => ?_)
  obtain ⟨S1, hS1⟩ : ∃ z : St, z = S_a S 28 (a1 * 10 + a2) a3 := ⟨_, rfl⟩
  rw [← hS1] at hP hD
  have ho : op_kit S (nI a1) (nI a2) (nI a3) = (0, 0, S_a S 28 (a1 * 10 + a2) a3) := by simp only [op_kit, ma1, if_pos p1, ma2, if_pos p5, ma3, if_pos p12]
  rw [ho]
  refine W.widen (k := 3) (n := 18) (Nat.le_of_ble_eq_true rfl) (Nat.le_of_ble_eq_true rfl) ?_
  have hP9 : va_P (dC, dI) classes (wX q cI (S_a S 28 (a1 * 10 + a2) a3)) H := by rw [hS1] at hP; exact hP
  exact vx_ret (W.vret hx hb hr (fun t ht hW => ⟨rfl, rfl, by rw [ht]; exact hP9, hS.F ht⟩) hS.2.2 d_X_kit_26)
set_option maxHeartbeats 4000000 in
set_option maxRecDepth 100000 in
theorem c_X_level (l : Launch) (hst : l.stackTraces = false) (dC : Nat → ClassId) (dI : Nat → Nat → Nat) (A0 : Nat → Prop) (sz : Nat) (cI : ClassId) (q : Nat → Nat) (S : St) (t : Nat) (hI : Bd t S) (x y a b : Int32) : vx_Met l y_X_level (.code y_X_level b_X_level 5 none :: bg) { frames := 8, cells := 4, slots := 24, locals := 132 } (xo_P (dC, dI) classes [(cI, .int)] A0 (wX q cI S) sz [.ref (q 0), .int x, .int y, .int a, .int b]) (xo_Q (op_level S x y a b) none (dC, dI) classes (wX q cI (op_level S x y a b).2.2) (va_A (wX q cI S) sz)) (xo_X (op_level S x y a b) [E_ia, E_io]) 4 24 (va_A (wX q cI S) sz) := by
  refine vx_ofW (cc := b_X_level) (maxL := 5) (ret := none) (by decide) rfl ?_
  intro p e s m args below meth c s₁ B hml hnt hv
  obtain ⟨rfl, hsz, hP, hK, hD0, hG⟩ := hv
  subst hsz
  have hD := hD0.self (sz := s.heap.size)
  generalize hAe : va_A (wX q cI S) s.heap.size = A at hD ⊢
  have hA : ∀ q : Nat, s.heap.size ≤ q → A q := fun q h => by rw [← hAe]; exact Or.inr h
  have hS : va_S A s.heap s.heap [] := va_S.rf
  have hx := B.exec
  have hb := B.bytes
  have hr := B.returns
  have hts := fun w (h : w ∈ bg) => atoms_spec (ws := .code y_X_level b_X_level 5 none :: bg) B.pre w (List.mem_cons_of_mem _ h)
  have hown : s.vm.findClass R_X = some m.cls := findClass_of_methodNamed B.named
  have hlocks := B.notSynchronized
  have hl := lv_entry ([.ref (q 0), .int x, .int y, .int a, .int b]) (n := 5) (Nat.le_of_ble_eq_true rfl)
  rw [lg_entry_eq]
  generalize (lg_sl ([.ref (q 0), .int x, .int y, .int a, .int b]) ++ List.replicate (5 - (lg_sl ([.ref (q 0), .int x, .int y, .int a, .int b])).length) Slot.unset).toArray = ls at hl ⊢
  have hl : lv_has ls 5 [(0, .ref (q 0)), (1, .int x), (2, .int y), (3, .int a), (4, .int b)] := hl
  have hB := hI.1
  have hg0 : S.2.1 0 ≤ 8 := hI.2.1 0
  have hg1 : S.2.1 1 ≤ 9999 := hI.2.1 1
  have hg2 : S.2.1 2 ≤ 60 := hI.2.1 2
  have hg3 : S.2.1 3 ≤ 60 := hI.2.1 3
  have hg4 : S.2.1 4 ≤ 80 := hI.2.1 4
  have hg5 : S.2.1 5 ≤ 20 := hI.2.1 5
  have hg6 : S.2.1 6 ≤ 80 := hI.2.1 6
  have hg7 : S.2.1 7 ≤ 10 := hI.2.1 7
  have hg8 : t ≤ 512 := hI.2.2
  refine lv_aload_n hx hb d_X_level_0 rfl (lv_at hl 0 rfl) ?_
  refine lv_iload_n hx hb d_X_level_1 rfl (lv_at hl 1 rfl) ?_
  refine nd_go (vx_runV (As := [.int x]) (rest := []) ⟨hx, hb, hml, hown, hts⟩ (c_X_needStore l hst dC dI A0 cI q S t hI x) (cwV 1 hts (gi_V wd_283 wd_285 wp_7 wd_1 wd_286) rfl rfl rfl (by decide +kernel) ⟨Nat.le_of_ble_eq_true rfl, Nat.le_of_ble_eq_true rfl⟩) (nd_preV hK hP hG (ci := 0) (q0 := 0) rfl rfl) rfl rfl hl.1 rfl (lv_room (Nat.le_of_ble_eq_true rfl)) d_X_level_2 ⟨Nat.le_of_ble_eq_true rfl, Nat.le_of_ble_eq_true rfl⟩) (fun p2 ce q9 H1 h1 h2 h3 h4 h5 => vx_out (fun x hx => (hnt x hx).elim) hlocks h3 h4 h5 (fun t ht hv => ⟨by simp only [op_level, if_neg p2]; decide, by simp only [op_level, if_neg p2]; rfl, by rw [ht]; exact h1, fun z hz => by rw [ht]; exact h2 z hz⟩) (fun q h => nomatch h) (Nat.le_of_ble_eq_true rfl) (Nat.le_of_ble_eq_true rfl)) (fun p2 => ?_)
  obtain ⟨a1, ha1, rfl⟩ := ok_ex p2
  have ma1 : nn (nI a1) = a1 := nn_of (by omega)
  refine lv_iload_n hx hb d_X_level_5 rfl (lv_at hl 2 rfl) ?_
  refine nd_go (vx_runS (As := [.int y]) (rest := []) ⟨hx, hb, hml, hown, hts⟩ (c_X_needKind l hst dC dI A0 y) (cwS 1 hts (gi_S wd_234 wd_235 wd_1 wd_236) rfl rfl rfl (by decide +kernel) ⟨Nat.le_of_ble_eq_true rfl, Nat.le_of_ble_eq_true rfl⟩) (nd_preS (hK.sub (tys' := []) [] rfl) (fun k q h => by simp at h) hG) rfl rfl hl.1 rfl (lv_room (Nat.le_of_ble_eq_true rfl)) d_X_level_6 ⟨Nat.le_of_ble_eq_true rfl, Nat.le_of_ble_eq_true rfl⟩) (fun p6 ce q9 H1 h1 h2 h3 h4 h5 => vx_out (fun x hx => (hnt x hx).elim) hlocks h3 h4 h5 (fun t ht hv => ⟨by simp only [op_level, ma1, if_pos p2, if_neg p6]; decide, by simp only [op_level, ma1, if_pos p2, if_neg p6]; rfl, by rw [ht]; exact h1, fun z hz => by rw [ht]; exact h2 z hz⟩) (fun q h => nomatch h) (Nat.le_of_ble_eq_true rfl) (Nat.le_of_ble_eq_true rfl)) (fun p6 => ?_)
  obtain ⟨a2, ha2, rfl⟩ := ok_ex p6
  have ma2 : nn (nI a2) = a2 := nn_of (by omega)
  refine lv_iload hx hb d_X_level_9 (lv_at hl 4 rfl) ?_
  refine lv_iconst (v := nI 0) hx hb d_X_level_11 (by decide) ?_
  refine lv_sipush (v := nI 9999) hx hb d_X_level_12 (by decide) ?_
  refine nd_go (vx_runS (As := [.int b, .int (nI 0), .int (nI 9999)]) (rest := []) ⟨hx, hb, hml, hown, hts⟩ (c_X_needRange l hst dC dI A0 b 0 9999 (by omega) (by omega)) (cwS 3 hts (gi_S wd_253 wd_254 wd_1 wd_255) rfl rfl rfl (by decide +kernel) ⟨Nat.le_of_ble_eq_true rfl, Nat.le_of_ble_eq_true rfl⟩) (nd_preS (hK.sub (tys' := []) [] rfl) (fun k q h => by simp at h) hG) rfl rfl hl.1 rfl (lv_room (Nat.le_of_ble_eq_true rfl)) d_X_level_15 ⟨Nat.le_of_ble_eq_true rfl, Nat.le_of_ble_eq_true rfl⟩) (fun p15 ce q9 H1 h1 h2 h3 h4 h5 => vx_out (fun x hx => (hnt x hx).elim) hlocks h3 h4 h5 (fun t ht hv => ⟨by simp only [op_level, ma1, if_pos p2, ma2, if_pos p6, if_neg p15]; decide, by simp only [op_level, ma1, if_pos p2, ma2, if_pos p6, if_neg p15]; rfl, by rw [ht]; exact h1, fun z hz => by rw [ht]; exact h2 z hz⟩) (fun q h => nomatch h) (Nat.le_of_ble_eq_true rfl) (Nat.le_of_ble_eq_true rfl)) (fun p15 => ?_)
  obtain ⟨a3, ga3, ha3, rfl⟩ := rg_ex p15
  have ma3 : nn (nI a3) = a3 := nn_of (by omega)
  refine lv_iload_n hx hb d_X_level_18 rfl (lv_at hl 3 rfl) ?_
  refine lv_iconst (v := nI 0) hx hb d_X_level_19 (by decide) ?_
  refine lv_iload hx hb d_X_level_20 (lv_at hl 4 rfl) ?_
  refine nd_go (vx_runS (As := [.int a, .int (nI 0), .int (nI a3)]) (rest := []) ⟨hx, hb, hml, hown, hts⟩ (c_X_needRange l hst dC dI A0 a 0 a3 (by omega) (by omega)) (cwS 3 hts (gi_S wd_253 wd_254 wd_1 wd_255) rfl rfl rfl (by decide +kernel) ⟨Nat.le_of_ble_eq_true rfl, Nat.le_of_ble_eq_true rfl⟩) (nd_preS (hK.sub (tys' := []) [] rfl) (fun k q h => by simp at h) hG) rfl rfl hl.1 rfl (lv_room (Nat.le_of_ble_eq_true rfl)) d_X_level_22 ⟨Nat.le_of_ble_eq_true rfl, Nat.le_of_ble_eq_true rfl⟩) (fun p22 ce q9 H1 h1 h2 h3 h4 h5 => vx_out (fun x hx => (hnt x hx).elim) hlocks h3 h4 h5 (fun t ht hv => ⟨by simp only [op_level, ma1, if_pos p2, ma2, if_pos p6, ma3, if_pos p15, if_neg p22]; decide, by simp only [op_level, ma1, if_pos p2, ma2, if_pos p6, ma3, if_pos p15, if_neg p22]; rfl, by rw [ht]; exact h1, fun z hz => by rw [ht]; exact h2 z hz⟩) (fun q h => nomatch h) (Nat.le_of_ble_eq_true rfl) (Nat.le_of_ble_eq_true rfl)) (fun p22 => ?_)
  obtain ⟨a4, ga4, ha4, rfl⟩ := rg_ex p22
  have ma4 : nn (nI a4) = a4 := nn_of (by omega)
  refine lv_aload_n hx hb d_X_level_25 rfl (lv_at hl 0 rfl) ?_
  refine va_get (D := (dC, dI)) (ci := 0) (v := .ref (q 8)) (C := R_X) (T := F_X) (N := 12) hx hb hts i_X hown hK hP 0 rfl rfl 7 (by decide) (hts _ wd_64) (fun _ h9 => h9) rfl d_X_level_26 ?_
  refine lv_iload_n hx hb d_X_level_29 rfl (lv_at hl 1 rfl) ?_
  refine lv_iload_n hx hb d_X_level_30 rfl (lv_at hl 2 rfl) ?_
  refine pu_go (va_runS (As := [.int (nI a1), .int (nI a2)]) (rest := [.ref (q 8)]) ⟨hx, hb, hml, hown, hts⟩ (c_X_pair l dC dI a1 a2) (cwS 2 hts (gi_S wd_106 wd_107 wd_1 wd_108) rfl rfl rfl (by decide +kernel) ⟨Nat.le_of_ble_eq_true rfl, Nat.le_of_ble_eq_true rfl⟩) (pu_preS (hK.sub (tys' := []) [] rfl) (fun k q h => by simp at h)) rfl rfl hl.1 rfl (lv_room (Nat.le_of_ble_eq_true rfl)) d_X_level_31 ⟨Nat.le_of_ble_eq_true rfl, Nat.le_of_ble_eq_true rfl⟩) ?_
  refine lv_iload_n hx hb d_X_level_34 rfl (lv_at hl 3 rfl) ?_
  refine nv_iast (f' := upd (colf S.1 26) (a1 * 10 + a2) (nI a4)) hx hb hK hP hD hS 8 0 rfl rfl (by omega) (by decide) rfl (wX q cI (S_a S 26 (a1 * 10 + a2) a4)) wX_c26 d_X_level_35 (fun H locs hP hD hS => ?_)
  obtain ⟨S1, hS1⟩ : ∃ z : St, z = S_a S 26 (a1 * 10 + a2) a4 := ⟨_, rfl⟩
  rw [← hS1] at hP hD
  refine lv_aload_n hx hb d_X_level_36 rfl (lv_at hl 0 rfl) ?_
  refine va_get (D := (dC, dI)) (ci := 0) (v := .ref (q 9)) (C := R_X) (T := F_X) (N := 12) hx hb hts i_X hown hK hP 0 rfl rfl 8 (by decide) (hts _ wd_65) (fun _ h9 => h9) rfl d_X_level_37 ?_
  refine lv_iload_n hx hb d_X_level_40 rfl (lv_at hl 1 rfl) ?_
  refine lv_iload_n hx hb d_X_level_41 rfl (lv_at hl 2 rfl) ?_
  refine pu_go (va_runS (As := [.int (nI a1), .int (nI a2)]) (rest := [.ref (q 9)]) ⟨hx, hb, hml, hown, hts⟩ (c_X_pair l dC dI a1 a2) (cwS 2 hts (gi_S wd_106 wd_107 wd_1 wd_108) rfl rfl rfl (by decide +kernel) ⟨Nat.le_of_ble_eq_true rfl, Nat.le_of_ble_eq_true rfl⟩) (pu_preS (hK.sub (tys' := []) [] rfl) (fun k q h => by simp at h)) rfl rfl hl.1 rfl (lv_room (Nat.le_of_ble_eq_true rfl)) d_X_level_42 ⟨Nat.le_of_ble_eq_true rfl, Nat.le_of_ble_eq_true rfl⟩) ?_
  refine lv_iload hx hb d_X_level_45 (lv_at hl 4 rfl) ?_
  refine nv_iast (f' := upd (colf S1.1 27) (a1 * 10 + a2) (nI a3)) hx hb hK hP hD hS 9 0 rfl rfl (by omega) (by decide) rfl (wX q cI (S_a S1 27 (a1 * 10 + a2) a3)) wX_c27 d_X_level_47 (fun H locs hP hD hS => ?_)
  obtain ⟨S2, hS2⟩ : ∃ z : St, z = S_a S1 27 (a1 * 10 + a2) a3 := ⟨_, rfl⟩
  rw [← hS2] at hP hD
  have ho : op_level S (nI a1) (nI a2) (nI a4) (nI a3) = (0, 0, S_a (S_a (S_a S 26 (a1 * 10 + a2) a4) 27 (a1 * 10 + a2) a3) 31 (a1 * 10 + a2) 1) := by simp only [op_level, ma1, if_pos p2, ma2, if_pos p6, ma3, if_pos p15, ma4, if_pos p22]
  rw [ho]
  refine W.widen (k := 4) (n := 24) (Nat.le_of_ble_eq_true rfl) (Nat.le_of_ble_eq_true rfl) ?_
  have hP9 : va_P (dC, dI) classes (wX q cI (S_a (S_a (S_a S 26 (a1 * 10 + a2) a4) 27 (a1 * 10 + a2) a3) 31 (a1 * 10 + a2) 1)) H := by rw [hS2, hS1] at hP; rw [wX_31]; exact hP
  exact vx_ret (W.vret hx hb hr (fun t ht hW => ⟨rfl, rfl, by rw [ht]; exact hP9, hS.F ht⟩) hS.2.2 d_X_level_48)
set_option maxHeartbeats 4000000 in
set_option maxRecDepth 100000 in
theorem c_X_emergency (l : Launch) (hst : l.stackTraces = false) (dC : Nat → ClassId) (dI : Nat → Nat → Nat) (A0 : Nat → Prop) (sz : Nat) (cI : ClassId) (q : Nat → Nat) (S : St) (t : Nat) (hI : Bd t S) (x y n w : Int32) : vx_Met l y_X_emergency (.code y_X_emergency b_X_emergency 5 (some .int) :: bg) { frames := 8, cells := 5, slots := 30, locals := 132 } (xo_P (dC, dI) classes [(cI, .int)] A0 (wX q cI S) sz [.ref (q 0), .int x, .int y, .int n, .int w]) (xo_Q (op_emergency S x y n w) (some (.int (op_emergency S x y n w).2.1)) (dC, dI) classes (wX q cI (op_emergency S x y n w).2.2) (va_A (wX q cI S) sz)) (xo_X (op_emergency S x y n w) [E_ia, E_io, E_uo]) 5 30 (va_A (wX q cI S) sz) := by
  refine vx_ofW (cc := b_X_emergency) (maxL := 5) (ret := (some .int)) (by decide) rfl ?_
  intro p e s m args below meth c s₁ B hml hnt hv
  obtain ⟨rfl, hsz, hP, hK, hD0, hG⟩ := hv
  subst hsz
  have hD := hD0.self (sz := s.heap.size)
  generalize hAe : va_A (wX q cI S) s.heap.size = A at hD ⊢
  have hA : ∀ q : Nat, s.heap.size ≤ q → A q := fun q h => by rw [← hAe]; exact Or.inr h
  have hS : va_S A s.heap s.heap [] := va_S.rf
  have hx := B.exec
  have hb := B.bytes
  have hr := B.returns
  have hts := fun w (h : w ∈ bg) => atoms_spec (ws := .code y_X_emergency b_X_emergency 5 (some .int) :: bg) B.pre w (List.mem_cons_of_mem _ h)
  have hown : s.vm.findClass R_X = some m.cls := findClass_of_methodNamed B.named
  have hlocks := B.notSynchronized
  have hl := lv_entry ([.ref (q 0), .int x, .int y, .int n, .int w]) (n := 5) (Nat.le_of_ble_eq_true rfl)
  rw [lg_entry_eq]
  generalize (lg_sl ([.ref (q 0), .int x, .int y, .int n, .int w]) ++ List.replicate (5 - (lg_sl ([.ref (q 0), .int x, .int y, .int n, .int w])).length) Slot.unset).toArray = ls at hl ⊢
  have hl : lv_has ls 5 [(0, .ref (q 0)), (1, .int x), (2, .int y), (3, .int n), (4, .int w)] := hl
  have hB := hI.1
  have hg0 : S.2.1 0 ≤ 8 := hI.2.1 0
  have hg1 : S.2.1 1 ≤ 9999 := hI.2.1 1
  have hg2 : S.2.1 2 ≤ 60 := hI.2.1 2
  have hg3 : S.2.1 3 ≤ 60 := hI.2.1 3
  have hg4 : S.2.1 4 ≤ 80 := hI.2.1 4
  have hg5 : S.2.1 5 ≤ 20 := hI.2.1 5
  have hg6 : S.2.1 6 ≤ 80 := hI.2.1 6
  have hg7 : S.2.1 7 ≤ 10 := hI.2.1 7
  have hg8 : t ≤ 512 := hI.2.2
  refine lv_aload_n hx hb d_X_emergency_0 rfl (lv_at hl 0 rfl) ?_
  refine lv_iload_n hx hb d_X_emergency_1 rfl (lv_at hl 1 rfl) ?_
  refine nd_go (vx_runV (As := [.int x]) (rest := []) ⟨hx, hb, hml, hown, hts⟩ (c_X_needStore l hst dC dI A0 cI q S t hI x) (cwV 1 hts (gi_V wd_283 wd_285 wp_7 wd_1 wd_286) rfl rfl rfl (by decide +kernel) ⟨Nat.le_of_ble_eq_true rfl, Nat.le_of_ble_eq_true rfl⟩) (nd_preV hK hP hG (ci := 0) (q0 := 0) rfl rfl) rfl rfl hl.1 rfl (lv_room (Nat.le_of_ble_eq_true rfl)) d_X_emergency_2 ⟨Nat.le_of_ble_eq_true rfl, Nat.le_of_ble_eq_true rfl⟩) (fun p2 ce q9 H1 h1 h2 h3 h4 h5 => vx_out (fun x hx => (hnt x hx).elim) hlocks h3 h4 h5 (fun t ht hv => ⟨by simp only [op_emergency, if_neg p2]; decide, by simp only [op_emergency, if_neg p2]; rfl, by rw [ht]; exact h1, fun z hz => by rw [ht]; exact h2 z hz⟩) (fun q h => nomatch h) (Nat.le_of_ble_eq_true rfl) (Nat.le_of_ble_eq_true rfl)) (fun p2 => ?_)
  obtain ⟨a1, ha1, rfl⟩ := ok_ex p2
  have ma1 : nn (nI a1) = a1 := nn_of (by omega)
  refine lv_iload_n hx hb d_X_emergency_5 rfl (lv_at hl 2 rfl) ?_
  refine nd_go (vx_runS (As := [.int y]) (rest := []) ⟨hx, hb, hml, hown, hts⟩ (c_X_needKind l hst dC dI A0 y) (cwS 1 hts (gi_S wd_234 wd_235 wd_1 wd_236) rfl rfl rfl (by decide +kernel) ⟨Nat.le_of_ble_eq_true rfl, Nat.le_of_ble_eq_true rfl⟩) (nd_preS (hK.sub (tys' := []) [] rfl) (fun k q h => by simp at h) hG) rfl rfl hl.1 rfl (lv_room (Nat.le_of_ble_eq_true rfl)) d_X_emergency_6 ⟨Nat.le_of_ble_eq_true rfl, Nat.le_of_ble_eq_true rfl⟩) (fun p6 ce q9 H1 h1 h2 h3 h4 h5 => vx_out (fun x hx => (hnt x hx).elim) hlocks h3 h4 h5 (fun t ht hv => ⟨by simp only [op_emergency, ma1, if_pos p2, if_neg p6]; decide, by simp only [op_emergency, ma1, if_pos p2, if_neg p6]; rfl, by rw [ht]; exact h1, fun z hz => by rw [ht]; exact h2 z hz⟩) (fun q h => nomatch h) (Nat.le_of_ble_eq_true rfl) (Nat.le_of_ble_eq_true rfl)) (fun p6 => ?_)
  obtain ⟨a2, ha2, rfl⟩ := ok_ex p6
  have ma2 : nn (nI a2) = a2 := nn_of (by omega)
  refine lv_iload hx hb d_X_emergency_9 (lv_at hl 4 rfl) ?_
  refine nd_go (vx_runS (As := [.int w]) (rest := []) ⟨hx, hb, hml, hown, hts⟩ (c_X_needPerson l hst dC dI A0 w) (cwS 1 hts (gi_S wd_422 wd_423 wd_1 wd_424) rfl rfl rfl (by decide +kernel) ⟨Nat.le_of_ble_eq_true rfl, Nat.le_of_ble_eq_true rfl⟩) (nd_preS (hK.sub (tys' := []) [] rfl) (fun k q h => by simp at h) hG) rfl rfl hl.1 rfl (lv_room (Nat.le_of_ble_eq_true rfl)) d_X_emergency_11 ⟨Nat.le_of_ble_eq_true rfl, Nat.le_of_ble_eq_true rfl⟩) (fun p11 ce q9 H1 h1 h2 h3 h4 h5 => vx_out (fun x hx => (hnt x hx).elim) hlocks h3 h4 h5 (fun t ht hv => ⟨by simp only [op_emergency, ma1, if_pos p2, ma2, if_pos p6, if_neg p11]; decide, by simp only [op_emergency, ma1, if_pos p2, ma2, if_pos p6, if_neg p11]; rfl, by rw [ht]; exact h1, fun z hz => by rw [ht]; exact h2 z hz⟩) (fun q h => nomatch h) (Nat.le_of_ble_eq_true rfl) (Nat.le_of_ble_eq_true rfl)) (fun p11 => ?_)
  obtain ⟨a3, ha3, rfl⟩ := ok_ex p11
  have ma3 : nn (nI a3) = a3 := nn_of (by omega)
  refine lv_iload_n hx hb d_X_emergency_14 rfl (lv_at hl 3 rfl) ?_
  refine lv_iconst (v := nI 1) hx hb d_X_emergency_15 (by decide) ?_
  refine lv_sipush (v := nI 9999) hx hb d_X_emergency_16 (by decide) ?_
  refine nd_go (vx_runS (As := [.int n, .int (nI 1), .int (nI 9999)]) (rest := []) ⟨hx, hb, hml, hown, hts⟩ (c_X_needRange l hst dC dI A0 n 1 9999 (by omega) (by omega)) (cwS 3 hts (gi_S wd_253 wd_254 wd_1 wd_255) rfl rfl rfl (by decide +kernel) ⟨Nat.le_of_ble_eq_true rfl, Nat.le_of_ble_eq_true rfl⟩) (nd_preS (hK.sub (tys' := []) [] rfl) (fun k q h => by simp at h) hG) rfl rfl hl.1 rfl (lv_room (Nat.le_of_ble_eq_true rfl)) d_X_emergency_19 ⟨Nat.le_of_ble_eq_true rfl, Nat.le_of_ble_eq_true rfl⟩) (fun p19 ce q9 H1 h1 h2 h3 h4 h5 => vx_out (fun x hx => (hnt x hx).elim) hlocks h3 h4 h5 (fun t ht hv => ⟨by simp only [op_emergency, ma1, if_pos p2, ma2, if_pos p6, ma3, if_pos p11, if_neg p19]; decide, by simp only [op_emergency, ma1, if_pos p2, ma2, if_pos p6, ma3, if_pos p11, if_neg p19]; rfl, by rw [ht]; exact h1, fun z hz => by rw [ht]; exact h2 z hz⟩) (fun q h => nomatch h) (Nat.le_of_ble_eq_true rfl) (Nat.le_of_ble_eq_true rfl)) (fun p19 => ?_)
  obtain ⟨a4, ga4, ha4, rfl⟩ := rg_ex p19
  have ma4 : nn (nI a4) = a4 := nn_of (by omega)
  refine lv_aload_n hx hb d_X_emergency_22 rfl (lv_at hl 0 rfl) ?_
  refine va_get (D := (dC, dI)) (ci := 0) (v := .ref (q 4)) (C := R_X) (T := F_X) (N := 12) hx hb hts i_X hown hK hP 0 rfl rfl 3 (by decide) (hts _ wd_60) (fun _ h9 => h9) rfl d_X_emergency_23 ?_
  refine nd_go (vx_runS (As := [.ref (q 4)]) (rest := []) ⟨hx, hb, hml, hown, hts⟩ (c_X_needRoom l hst dC dI A0 cI (q 4) (q 14) 20 (S.2.1 5) 100 (rowf S.1 15) (by omega) (by omega)) (cwS 1 hts (gi_S wd_272 wd_273 wd_1 wd_274) rfl rfl rfl (by decide +kernel) ⟨Nat.le_of_ble_eq_true rfl, Nat.le_of_ble_eq_true rfl⟩) (nd_preS hK (hP.sub [4, 14] rfl) hG) rfl rfl hl.1 rfl (lv_room (Nat.le_of_ble_eq_true rfl)) d_X_emergency_26 ⟨Nat.le_of_ble_eq_true rfl, Nat.le_of_ble_eq_true rfl⟩) (fun p26 ce q9 H1 h1 h2 h3 h4 h5 => vx_out (fun x hx => (hnt x hx).elim) hlocks h3 h4 h5 (fun t ht hv => ⟨by simp only [op_emergency, ma1, if_pos p2, ma2, if_pos p6, ma3, if_pos p11, ma4, if_pos p19, if_neg p26]; decide, by simp only [op_emergency, ma1, if_pos p2, ma2, if_pos p6, ma3, if_pos p11, ma4, if_pos p19, if_neg p26]; rfl, by rw [ht]; exact h1, fun z hz => by rw [ht]; exact h2 z hz⟩) (fun q h => nomatch h) (Nat.le_of_ble_eq_true rfl) (Nat.le_of_ble_eq_true rfl)) (fun p26 => ?_)
  refine lv_aload_n hx hb d_X_emergency_29 rfl (lv_at hl 0 rfl) ?_
  refine va_get (D := (dC, dI)) (ci := 0) (v := .ref (q 4)) (C := R_X) (T := F_X) (N := 12) hx hb hts i_X hown hK hP 0 rfl rfl 3 (by decide) (hts _ wd_60) (fun _ h9 => h9) rfl d_X_emergency_30 ?_
  refine lv_iload_n hx hb d_X_emergency_33 rfl (lv_at hl 1 rfl) ?_
  refine lv_iload_n hx hb d_X_emergency_34 rfl (lv_at hl 2 rfl) ?_
  refine lv_iload_n hx hb d_X_emergency_35 rfl (lv_at hl 3 rfl) ?_
  refine lv_iload hx hb d_X_emergency_36 (lv_at hl 4 rfl) ?_
  refine lv_iconst (v := nI 1) hx hb d_X_emergency_38 (by decide) ?_
  refine wr_go (va_runV (As := [.int (nI a1), .int (nI a2), .int (nI a4), .int (nI a3), .int (nI 1)]) (rest := []) ⟨hx, hb, hml, hown, hts⟩ (c_W_add l dC dI s.heap.size cI (q 4) (q 14) 20 (S.2.1 5) 100 (rowf S.1 15) (nI a1) (nI a2) (nI a4) (nI a3) (nI 1) (by omega) (by decide)) (cwV 5 hts (gi_V wd_140 wd_141 wd_142 wd_2 wd_143) rfl rfl rfl (by decide +kernel) ⟨Nat.le_of_ble_eq_true rfl, Nat.le_of_ble_eq_true rfl⟩) (wr_preV hK (hP.sub [4, 14] rfl) (hD.sub [4, 14] (by decide) rfl) (ci := 1) (q0 := 0) rfl rfl) rfl rfl hl.1 rfl (lv_room (Nat.le_of_ble_eq_true rfl)) d_X_emergency_39 ⟨Nat.le_of_ble_eq_true rfl, Nat.le_of_ble_eq_true rfl⟩) hP hD hS hA [4, 14] rfl rfl (wX q cI (S_g (S_row S 15 (S.2.1 5) a1 a2 a4 a3 1) 5 (S.2.1 5 + 1))) wX_add15 rfl (fun H locs hP hD hS => ?_)
  refine W.eq (g2 := F0 m 42 ls [.int (nI (S.2.1 5))]) rfl ?_
  obtain ⟨S1, hS1⟩ : ∃ z : St, z = S_g (S_row S 15 (S.2.1 5) a1 a2 a4 a3 1) 5 (S.2.1 5 + 1) := ⟨_, rfl⟩
  rw [← hS1] at hP hD
  have ho : op_emergency S (nI a1) (nI a2) (nI a4) (nI a3) = (0, nI (S.2.1 5), S_g (S_row S 15 (S.2.1 5) a1 a2 a4 a3 1) 5 (S.2.1 5 + 1)) := by simp only [op_emergency, ma1, if_pos p2, ma2, if_pos p6, ma3, if_pos p11, ma4, if_pos p19, if_pos p26]
  rw [ho]
  refine W.widen (k := 5) (n := 30) (Nat.le_of_ble_eq_true rfl) (Nat.le_of_ble_eq_true rfl) ?_
  have hP9 : va_P (dC, dI) classes (wX q cI (S_g (S_row S 15 (S.2.1 5) a1 a2 a4 a3 1) 5 (S.2.1 5 + 1))) H := by rw [hS1] at hP; exact hP
  exact vx_ret (W.iret hx hb hr (fun t ht hW => ⟨rfl, rfl, by rw [ht]; exact hP9, hS.F ht⟩) hS.2.2 d_X_emergency_42)
