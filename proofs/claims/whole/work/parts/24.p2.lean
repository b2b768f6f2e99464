theorem sw3 {v : Int32} (h0 : ¬ v = 0) (h1 : ¬ v = 1) (h2 : ¬ v = 2) : v.toInt < 0 ∨ 2 < v.toInt := by
  have e0 : ¬ v.toInt = 0 := fun h => h0 (Int32.toInt_inj.mp h)
  have e1 : ¬ v.toInt = 1 := fun h => h1 (Int32.toInt_inj.mp h)
  have e2 : ¬ v.toInt = 2 := fun h => h2 (Int32.toInt_inj.mp h)
  omega
set_option maxHeartbeats 4000000 in
set_option maxRecDepth 100000 in
theorem c_X_use (l : Launch) (hst : l.stackTraces = false) (dC : Nat → ClassId) (dI : Nat → Nat → Nat) (A0 : Nat → Prop) (sz : Nat) (cI : ClassId) (q : Nat → Nat) (S : St) (t : Nat) (hI : Bd t S) (x y n : Int32) (hou : ∀ j, S.1 2 j + 9999 ≤ 9999 * t) : vx_Met l y_X_use (.code y_X_use b_X_use 5 (some .int) :: bg) { frames := 8, cells := 4, slots := 24, locals := 132 } (xo_P (dC, dI) classes [(cI, .int)] A0 (wX q cI S) sz [.ref (q 0), .int x, .int y, .int n]) (xo_Q (op_use S x y n) (some (.int (op_use S x y n).2.1)) (dC, dI) classes (wX q cI (op_use S x y n).2.2) (va_A (wX q cI S) sz)) (xo_X (op_use S x y n) [E_ia, E_io, E_is]) 4 24 (va_A (wX q cI S) sz) := by
  refine vx_ofW (cc := b_X_use) (maxL := 5) (ret := (some .int)) (by decide) rfl ?_
  intro p e s m args below meth c s₁ B hml hnt hv
  obtain ⟨rfl, hsz, hP, hK, hD0, hG⟩ := hv
  subst hsz
  have hD := hD0.self (sz := s.heap.size)
  generalize hAe : va_A (wX q cI S) s.heap.size = A at hD ⊢
  have hA : ∀ q : Nat, s.heap.size ≤ q → A q := fun q h => by rw [← hAe]; exact Or.inr h
  have hS : va_S A s.heap s.heap [] := va_S.rf
  have hx := B.exec
  have hb := B.bytes
  have hr := B.returns
  have hts := fun w (h : w ∈ bg) => atoms_spec (ws := .code y_X_use b_X_use 5 (some .int) :: bg) B.pre w (List.mem_cons_of_mem _ h)
  have hown : s.vm.findClass R_X = some m.cls := findClass_of_methodNamed B.named
  have hlocks := B.notSynchronized
  have hl := lv_entry ([.ref (q 0), .int x, .int y, .int n]) (n := 5) (Nat.le_of_ble_eq_true rfl)
  rw [lg_entry_eq]
  generalize (lg_sl ([.ref (q 0), .int x, .int y, .int n]) ++ List.replicate (5 - (lg_sl ([.ref (q 0), .int x, .int y, .int n])).length) Slot.unset).toArray = ls at hl ⊢
  have hl : lv_has ls 5 [(0, .ref (q 0)), (1, .int x), (2, .int y), (3, .int n)] := hl
  have hB := hI.1
  have hg0 : S.2.1 0 ≤ 8 := hI.2.1 0
  have hg1 : S.2.1 1 ≤ 9999 := hI.2.1 1
  have hg2 : S.2.1 2 ≤ 60 := hI.2.1 2
  have hg3 : S.2.1 3 ≤ 60 := hI.2.1 3
  have hg4 : S.2.1 4 ≤ 80 := hI.2.1 4
  have hg5 : S.2.1 5 ≤ 20 := hI.2.1 5
  have hg6 : S.2.1 6 ≤ 80 := hI.2.1 6
  have hg7 : S.2.1 7 ≤ 10 := hI.2.1 7
  have hg8 : t ≤ 512 := hI.2.2
  refine lv_aload_n hx hb d_X_use_0 rfl (lv_at hl 0 rfl) ?_
  refine lv_iload_n hx hb d_X_use_1 rfl (lv_at hl 1 rfl) ?_
  refine nd_go (vx_runV (As := [.int x]) (rest := []) ⟨hx, hb, hml, hown, hts⟩ (c_X_needStore l hst dC dI A0 cI q S t hI x) (cwV 1 hts (gi_V wd_283 wd_285 wp_7 wd_1 wd_286) rfl rfl rfl (by decide +kernel) ⟨Nat.le_of_ble_eq_true rfl, Nat.le_of_ble_eq_true rfl⟩) (nd_preV hK hP hG (ci := 0) (q0 := 0) rfl rfl) rfl rfl hl.1 rfl (lv_room (Nat.le_of_ble_eq_true rfl)) d_X_use_2 ⟨Nat.le_of_ble_eq_true rfl, Nat.le_of_ble_eq_true rfl⟩) (fun p2 ce q9 H1 h1 h2 h3 h4 h5 => vx_out (fun x hx => (hnt x hx).elim) hlocks h3 h4 h5 (fun t ht hv => ⟨by simp only [op_use, if_neg p2]; decide, by simp only [op_use, if_neg p2]; rfl, by rw [ht]; exact h1, fun z hz => by rw [ht]; exact h2 z hz⟩) (fun q h => nomatch h) (Nat.le_of_ble_eq_true rfl) (Nat.le_of_ble_eq_true rfl)) (fun p2 => ?_)
  obtain ⟨a1, ha1, rfl⟩ := ok_ex p2
  have ma1 : nn (nI a1) = a1 := nn_of (by omega)
  refine lv_iload_n hx hb d_X_use_5 rfl (lv_at hl 2 rfl) ?_
  refine nd_go (vx_runS (As := [.int y]) (rest := []) ⟨hx, hb, hml, hown, hts⟩ (c_X_needKind l hst dC dI A0 y) (cwS 1 hts (gi_S wd_234 wd_235 wd_1 wd_236) rfl rfl rfl (by decide +kernel) ⟨Nat.le_of_ble_eq_true rfl, Nat.le_of_ble_eq_true rfl⟩) (nd_preS (hK.sub (tys' := []) [] rfl) (fun k q h => by simp at h) hG) rfl rfl hl.1 rfl (lv_room (Nat.le_of_ble_eq_true rfl)) d_X_use_6 ⟨Nat.le_of_ble_eq_true rfl, Nat.le_of_ble_eq_true rfl⟩) (fun p6 ce q9 H1 h1 h2 h3 h4 h5 => vx_out (fun x hx => (hnt x hx).elim) hlocks h3 h4 h5 (fun t ht hv => ⟨by simp only [op_use, ma1, if_pos p2, if_neg p6]; decide, by simp only [op_use, ma1, if_pos p2, if_neg p6]; rfl, by rw [ht]; exact h1, fun z hz => by rw [ht]; exact h2 z hz⟩) (fun q h => nomatch h) (Nat.le_of_ble_eq_true rfl) (Nat.le_of_ble_eq_true rfl)) (fun p6 => ?_)
  obtain ⟨a2, ha2, rfl⟩ := ok_ex p6
  have ma2 : nn (nI a2) = a2 := nn_of (by omega)
  refine lv_iload_n hx hb d_X_use_9 rfl (lv_at hl 3 rfl) ?_
  refine lv_iconst (v := nI 1) hx hb d_X_use_10 (by decide) ?_
  refine lv_sipush (v := nI 9999) hx hb d_X_use_11 (by decide) ?_
  refine nd_go (vx_runS (As := [.int n, .int (nI 1), .int (nI 9999)]) (rest := []) ⟨hx, hb, hml, hown, hts⟩ (c_X_needRange l hst dC dI A0 n 1 9999 (by omega) (by omega)) (cwS 3 hts (gi_S wd_253 wd_254 wd_1 wd_255) rfl rfl rfl (by decide +kernel) ⟨Nat.le_of_ble_eq_true rfl, Nat.le_of_ble_eq_true rfl⟩) (nd_preS (hK.sub (tys' := []) [] rfl) (fun k q h => by simp at h) hG) rfl rfl hl.1 rfl (lv_room (Nat.le_of_ble_eq_true rfl)) d_X_use_14 ⟨Nat.le_of_ble_eq_true rfl, Nat.le_of_ble_eq_true rfl⟩) (fun p14 ce q9 H1 h1 h2 h3 h4 h5 => vx_out (fun x hx => (hnt x hx).elim) hlocks h3 h4 h5 (fun t ht hv => ⟨by simp only [op_use, ma1, if_pos p2, ma2, if_pos p6, if_neg p14]; decide, by simp only [op_use, ma1, if_pos p2, ma2, if_pos p6, if_neg p14]; rfl, by rw [ht]; exact h1, fun z hz => by rw [ht]; exact h2 z hz⟩) (fun q h => nomatch h) (Nat.le_of_ble_eq_true rfl) (Nat.le_of_ble_eq_true rfl)) (fun p14 => ?_)
  obtain ⟨a3, ga3, ha3, rfl⟩ := rg_ex p14
  have ma3 : nn (nI a3) = a3 := nn_of (by omega)
  refine lv_aload_n hx hb d_X_use_17 rfl (lv_at hl 0 rfl) ?_
  refine lv_iload_n hx hb d_X_use_18 rfl (lv_at hl 1 rfl) ?_
  refine lv_iload_n hx hb d_X_use_19 rfl (lv_at hl 2 rfl) ?_
  refine lv_iconst (v := b2 true) hx hb d_X_use_20 (by decide) ?_
  refine pu_go (va_runV (As := [.int (nI a1), .int (nI a2), .int (b2 true)]) (rest := []) ⟨hx, hb, hml, hown, hts⟩ (c_X_inStore l dC dI cI q S t hI a1 a2 true (by omega) (by omega)) (cwV 3 hts (gi_V wd_113 wd_115 wp_1 wd_1 wd_116) rfl rfl rfl (by decide +kernel) ⟨Nat.le_of_ble_eq_true rfl, Nat.le_of_ble_eq_true rfl⟩) (pu_preV hK hP (ci := 0) (q0 := 0) rfl rfl) rfl rfl hl.1 rfl (lv_room (Nat.le_of_ble_eq_true rfl)) d_X_use_21 ⟨Nat.le_of_ble_eq_true rfl, Nat.le_of_ble_eq_true rfl⟩) ?_
  have hb1 := inst_le hI a1 a2 true
  refine lv_istore (lv' := [(4, .int (nI (inst S a1 a2 true))), (0, .ref (q 0)), (1, .int (nI a1)), (2, .int (nI a2)), (3, .int (nI a3))]) hx hb d_X_use_24 hl (by decide) rfl (fun ls hl => ?_)
  refine lv_iload hx hb d_X_use_26 (lv_at hl 0 rfl) ?_
  refine lv_iload_n hx hb d_X_use_28 rfl (lv_at hl 4 rfl) ?_
  refine nv_cge (tgt := 42) hx hb (by omega) (by omega) d_X_use_29 (by decide) (fun c29 => ?_) (fun c29 => ?_)
  · rw [inst_t] at c29
    refine lv_aload_n hx hb d_X_use_42 rfl (lv_at hl 1 rfl) ?_
    refine lv_iload_n hx hb d_X_use_43 rfl (lv_at hl 2 rfl) ?_
    refine lv_iload_n hx hb d_X_use_44 rfl (lv_at hl 3 rfl) ?_
    refine lv_iload_n hx hb d_X_use_45 rfl (lv_at hl 4 rfl) ?_
    refine wr_goA (va_runV (As := [.int (nI a1), .int (nI a2), .int (nI a3)]) (rest := []) ⟨hx, hb, hml, hown, hts⟩ (c_X_take l dC dI s.heap.size cI q S t hI a1 a2 a3 (by omega) (by omega) (by omega) (fun j => by have := hou j; omega)) (cwV 3 hts (gi_V wd_358 wd_360 wp_14 wd_1 wd_361) rfl rfl rfl (by decide +kernel) ⟨Nat.le_of_ble_eq_true rfl, Nat.le_of_ble_eq_true rfl⟩) (wr_preV hK hP hD (ci := 0) (q0 := 0) rfl rfl) rfl rfl hl.1 rfl (lv_room (Nat.le_of_ble_eq_true rfl)) d_X_use_46 ⟨Nat.le_of_ble_eq_true rfl, Nat.le_of_ble_eq_true rfl⟩) hD hS hA wX_adr (fun H locs hP hD hS => ?_)
    refine W.eq (g2 := F0 m 49 ls []) rfl ?_
    obtain ⟨S1, hS1⟩ : ∃ z : St, z = tk a1 a2 60 S a3 := ⟨_, rfl⟩
    rw [← hS1] at hP hD
    refine lv_iload hx hb d_X_use_49 (lv_at hl 0 rfl) ?_
    refine lv_iload_n hx hb d_X_use_51 rfl (lv_at hl 4 rfl) ?_
    have hin := inst_t (S := S) (s := a1) (k := a2)
    refine nv_sub hx hb (by omega) d_X_use_52 ?_
    have ho : op_use S (nI a1) (nI a2) (nI a3) = (0, nI (good S a1 a2 - a3), tk a1 a2 60 S a3) := by simp only [op_use, ma1, if_pos p2, ma2, if_pos p6, ma3, if_pos p14, if_pos c29]
    rw [ho]
    refine nv_as (nI (good S a1 a2 - a3)) (by rw [hin]) ?_
    refine W.widen (k := 4) (n := 24) (Nat.le_of_ble_eq_true rfl) (Nat.le_of_ble_eq_true rfl) ?_
    have hP9 : va_P (dC, dI) classes (wX q cI (tk a1 a2 60 S a3)) H := by rw [hS1] at hP; exact hP
    exact vx_ret (W.iret hx hb hr (fun t ht hW => ⟨rfl, rfl, by rw [ht]; exact hP9, hS.F ht⟩) hS.2.2 d_X_use_53)
  · rw [inst_t] at c29
    exact x_throw (A := A0) hx hb hst hown hts hG ex_is sx_112 hnt (hl.1.trans hml.symm) hlocks d_X_use_32 d_X_use_35 d_X_use_36 d_X_use_38 d_X_use_41 (Nat.le_of_ble_eq_true rfl) (Nat.le_of_ble_eq_true rfl) (Nat.le_of_ble_eq_true rfl) (Nat.le_of_ble_eq_true rfl) (Nat.le_of_ble_eq_true rfl) (Nat.le_of_ble_eq_true rfl) (fun t h1 h2 => ⟨by simp only [op_use, ma1, if_pos p2, ma2, if_pos p6, ma3, if_pos p14, if_neg (Nat.not_le.mpr c29)]; decide, by simp only [op_use, ma1, if_pos p2, ma2, if_pos p6, ma3, if_pos p14, if_neg (Nat.not_le.mpr c29)]; rfl, h1, h2⟩)
set_option maxHeartbeats 4000000 in
set_option maxRecDepth 100000 in
theorem c_X_move (l : Launch) (hst : l.stackTraces = false) (dC : Nat → ClassId) (dI : Nat → Nat → Nat) (A0 : Nat → Prop) (sz : Nat) (cI : ClassId) (q : Nat → Nat) (S : St) (t : Nat) (hI : Bd t S) (x y u n d : Int32) : vx_Met l y_X_move (.code y_X_move b_X_move 7 (some .int) :: bg) { frames := 8, cells := 8, slots := 48, locals := 132 } (xo_P (dC, dI) classes [(cI, .int)] A0 (wX q cI S) sz [.ref (q 0), .int x, .int y, .int u, .int n, .int d]) (xo_Q (op_move S x y u n d) (some (.int (op_move S x y u n d).2.1)) (dC, dI) classes (wX q cI (op_move S x y u n d).2.2) (va_A (wX q cI S) sz)) (xo_X (op_move S x y u n d) [E_ia, E_io, E_is, E_uo]) 8 48 (va_A (wX q cI S) sz) := by
  refine vx_ofW (cc := b_X_move) (maxL := 7) (ret := (some .int)) (by decide) rfl ?_
  intro p e s m args below meth c s₁ B hml hnt hv
  obtain ⟨rfl, hsz, hP, hK, hD0, hG⟩ := hv
  subst hsz
  have hD := hD0.self (sz := s.heap.size)
  generalize hAe : va_A (wX q cI S) s.heap.size = A at hD ⊢
  have hA : ∀ q : Nat, s.heap.size ≤ q → A q := fun q h => by rw [← hAe]; exact Or.inr h
  have hS : va_S A s.heap s.heap [] := va_S.rf
  have hx := B.exec
  have hb := B.bytes
  have hr := B.returns
  have hts := fun w (h : w ∈ bg) => atoms_spec (ws := .code y_X_move b_X_move 7 (some .int) :: bg) B.pre w (List.mem_cons_of_mem _ h)
  have hown : s.vm.findClass R_X = some m.cls := findClass_of_methodNamed B.named
  have hlocks := B.notSynchronized
  have hl := lv_entry ([.ref (q 0), .int x, .int y, .int u, .int n, .int d]) (n := 7) (Nat.le_of_ble_eq_true rfl)
  rw [lg_entry_eq]
  generalize (lg_sl ([.ref (q 0), .int x, .int y, .int u, .int n, .int d]) ++ List.replicate (7 - (lg_sl ([.ref (q 0), .int x, .int y, .int u, .int n, .int d])).length) Slot.unset).toArray = ls at hl ⊢
  have hl : lv_has ls 7 [(0, .ref (q 0)), (1, .int x), (2, .int y), (3, .int u), (4, .int n), (5, .int d)] := hl
  have hB := hI.1
  have hg0 : S.2.1 0 ≤ 8 := hI.2.1 0
  have hg1 : S.2.1 1 ≤ 9999 := hI.2.1 1
  have hg2 : S.2.1 2 ≤ 60 := hI.2.1 2
  have hg3 : S.2.1 3 ≤ 60 := hI.2.1 3
  have hg4 : S.2.1 4 ≤ 80 := hI.2.1 4
  have hg5 : S.2.1 5 ≤ 20 := hI.2.1 5
  have hg6 : S.2.1 6 ≤ 80 := hI.2.1 6
  have hg7 : S.2.1 7 ≤ 10 := hI.2.1 7
  have hg8 : t ≤ 512 := hI.2.2
  refine lv_aload_n hx hb d_X_move_0 rfl (lv_at hl 0 rfl) ?_
  refine lv_iload_n hx hb d_X_move_1 rfl (lv_at hl 1 rfl) ?_
  refine nd_go (vx_runV (As := [.int x]) (rest := []) ⟨hx, hb, hml, hown, hts⟩ (c_X_needStore l hst dC dI A0 cI q S t hI x) (cwV 1 hts (gi_V wd_283 wd_285 wp_7 wd_1 wd_286) rfl rfl rfl (by decide +kernel) ⟨Nat.le_of_ble_eq_true rfl, Nat.le_of_ble_eq_true rfl⟩) (nd_preV hK hP hG (ci := 0) (q0 := 0) rfl rfl) rfl rfl hl.1 rfl (lv_room (Nat.le_of_ble_eq_true rfl)) d_X_move_2 ⟨Nat.le_of_ble_eq_true rfl, Nat.le_of_ble_eq_true rfl⟩) (fun p2 ce q9 H1 h1 h2 h3 h4 h5 => vx_out (fun x hx => (hnt x hx).elim) hlocks h3 h4 h5 (fun t ht hv => ⟨by simp only [op_move, if_neg p2]; decide, by simp only [op_move, if_neg p2]; rfl, by rw [ht]; exact h1, fun z hz => by rw [ht]; exact h2 z hz⟩) (fun q h => nomatch h) (Nat.le_of_ble_eq_true rfl) (Nat.le_of_ble_eq_true rfl)) (fun p2 => ?_)
  obtain ⟨a1, ha1, rfl⟩ := ok_ex p2
  have ma1 : nn (nI a1) = a1 := nn_of (by omega)
  refine lv_aload_n hx hb d_X_move_5 rfl (lv_at hl 0 rfl) ?_
  refine lv_iload_n hx hb d_X_move_6 rfl (lv_at hl 2 rfl) ?_
  refine nd_go (vx_runV (As := [.int y]) (rest := []) ⟨hx, hb, hml, hown, hts⟩ (c_X_needStore l hst dC dI A0 cI q S t hI y) (cwV 1 hts (gi_V wd_283 wd_285 wp_7 wd_1 wd_286) rfl rfl rfl (by decide +kernel) ⟨Nat.le_of_ble_eq_true rfl, Nat.le_of_ble_eq_true rfl⟩) (nd_preV hK hP hG (ci := 0) (q0 := 0) rfl rfl) rfl rfl hl.1 rfl (lv_room (Nat.le_of_ble_eq_true rfl)) d_X_move_7 ⟨Nat.le_of_ble_eq_true rfl, Nat.le_of_ble_eq_true rfl⟩) (fun p7 ce q9 H1 h1 h2 h3 h4 h5 => vx_out (fun x hx => (hnt x hx).elim) hlocks h3 h4 h5 (fun t ht hv => ⟨by simp only [op_move, ma1, if_pos p2, if_neg p7]; decide, by simp only [op_move, ma1, if_pos p2, if_neg p7]; rfl, by rw [ht]; exact h1, fun z hz => by rw [ht]; exact h2 z hz⟩) (fun q h => nomatch h) (Nat.le_of_ble_eq_true rfl) (Nat.le_of_ble_eq_true rfl)) (fun p7 => ?_)
  obtain ⟨a2, ha2, rfl⟩ := ok_ex p7
  have ma2 : nn (nI a2) = a2 := nn_of (by omega)
  refine lv_iload_n hx hb d_X_move_10 rfl (lv_at hl 1 rfl) ?_
  refine lv_iload_n hx hb d_X_move_11 rfl (lv_at hl 2 rfl) ?_
  refine nv_cne (tgt := 25) hx hb (by omega) (by omega) d_X_move_12 (by decide) (fun c12 => ?_) (fun c12 => ?_)
  · have q12 : nI a1 ≠ nI a2 := fun h => c12 ((nI_eq (by omega) (by omega)).mp h)
    refine lv_aload_n hx hb d_X_move_25 rfl (lv_at hl 0 rfl) ?_
    refine lv_iload_n hx hb d_X_move_26 rfl (lv_at hl 3 rfl) ?_
    refine nd_go (vx_runV (As := [.int u]) (rest := []) ⟨hx, hb, hml, hown, hts⟩ (c_X_needLot l hst dC dI A0 cI q S t hI u) (cwV 1 hts (gi_V wd_288 wd_290 wp_8 wd_1 wd_291) rfl rfl rfl (by decide +kernel) ⟨Nat.le_of_ble_eq_true rfl, Nat.le_of_ble_eq_true rfl⟩) (nd_preV hK hP hG (ci := 0) (q0 := 0) rfl rfl) rfl rfl hl.1 rfl (lv_room (Nat.le_of_ble_eq_true rfl)) d_X_move_27 ⟨Nat.le_of_ble_eq_true rfl, Nat.le_of_ble_eq_true rfl⟩) (fun p27 ce q9 H1 h1 h2 h3 h4 h5 => vx_out (fun x hx => (hnt x hx).elim) hlocks h3 h4 h5 (fun t ht hv => ⟨by simp only [op_move, ma1, if_pos p2, ma2, if_pos p7, if_pos q12, if_neg p27]; decide, by simp only [op_move, ma1, if_pos p2, ma2, if_pos p7, if_pos q12, if_neg p27]; rfl, by rw [ht]; exact h1, fun z hz => by rw [ht]; exact h2 z hz⟩) (fun q h => nomatch h) (Nat.le_of_ble_eq_true rfl) (Nat.le_of_ble_eq_true rfl)) (fun p27 => ?_)
    obtain ⟨a3, ha3, rfl⟩ := ok_ex p27
    have ma3 : nn (nI a3) = a3 := nn_of (by omega)
    refine lv_iload hx hb d_X_move_30 (lv_at hl 4 rfl) ?_
    refine lv_iconst (v := nI 1) hx hb d_X_move_32 (by decide) ?_
    refine lv_sipush (v := nI 9999) hx hb d_X_move_33 (by decide) ?_
    refine nd_go (vx_runS (As := [.int n, .int (nI 1), .int (nI 9999)]) (rest := []) ⟨hx, hb, hml, hown, hts⟩ (c_X_needRange l hst dC dI A0 n 1 9999 (by omega) (by omega)) (cwS 3 hts (gi_S wd_253 wd_254 wd_1 wd_255) rfl rfl rfl (by decide +kernel) ⟨Nat.le_of_ble_eq_true rfl, Nat.le_of_ble_eq_true rfl⟩) (nd_preS (hK.sub (tys' := []) [] rfl) (fun k q h => by simp at h) hG) rfl rfl hl.1 rfl (lv_room (Nat.le_of_ble_eq_true rfl)) d_X_move_36 ⟨Nat.le_of_ble_eq_true rfl, Nat.le_of_ble_eq_true rfl⟩) (fun p36 ce q9 H1 h1 h2 h3 h4 h5 => vx_out (fun x hx => (hnt x hx).elim) hlocks h3 h4 h5 (fun t ht hv => ⟨by simp only [op_move, ma1, if_pos p2, ma2, if_pos p7, if_pos q12, ma3, if_pos p27, if_neg p36]; decide, by simp only [op_move, ma1, if_pos p2, ma2, if_pos p7, if_pos q12, ma3, if_pos p27, if_neg p36]; rfl, by rw [ht]; exact h1, fun z hz => by rw [ht]; exact h2 z hz⟩) (fun q h => nomatch h) (Nat.le_of_ble_eq_true rfl) (Nat.le_of_ble_eq_true rfl)) (fun p36 => ?_)
    obtain ⟨a4, ga4, ha4, rfl⟩ := rg_ex p36
    have ma4 : nn (nI a4) = a4 := nn_of (by omega)
    refine lv_iload hx hb d_X_move_39 (lv_at hl 5 rfl) ?_
    refine lv_iconst (v := nI 0) hx hb d_X_move_41 (by decide) ?_
    refine lv_bipush (v := nI 30) hx hb d_X_move_42 (by decide) ?_
    refine nd_go (vx_runS (As := [.int d, .int (nI 0), .int (nI 30)]) (rest := []) ⟨hx, hb, hml, hown, hts⟩ (c_X_needRange l hst dC dI A0 d 0 30 (by omega) (by omega)) (cwS 3 hts (gi_S wd_253 wd_254 wd_1 wd_255) rfl rfl rfl (by decide +kernel) ⟨Nat.le_of_ble_eq_true rfl, Nat.le_of_ble_eq_true rfl⟩) (nd_preS (hK.sub (tys' := []) [] rfl) (fun k q h => by simp at h) hG) rfl rfl hl.1 rfl (lv_room (Nat.le_of_ble_eq_true rfl)) d_X_move_44 ⟨Nat.le_of_ble_eq_true rfl, Nat.le_of_ble_eq_true rfl⟩) (fun p44 ce q9 H1 h1 h2 h3 h4 h5 => vx_out (fun x hx => (hnt x hx).elim) hlocks h3 h4 h5 (fun t ht hv => ⟨by simp only [op_move, ma1, if_pos p2, ma2, if_pos p7, if_pos q12, ma3, if_pos p27, ma4, if_pos p36, if_neg p44]; decide, by simp only [op_move, ma1, if_pos p2, ma2, if_pos p7, if_pos q12, ma3, if_pos p27, ma4, if_pos p36, if_neg p44]; rfl, by rw [ht]; exact h1, fun z hz => by rw [ht]; exact h2 z hz⟩) (fun q h => nomatch h) (Nat.le_of_ble_eq_true rfl) (Nat.le_of_ble_eq_true rfl)) (fun p44 => ?_)
    obtain ⟨a5, ga5, ha5, rfl⟩ := rg_ex p44
    have ma5 : nn (nI a5) = a5 := nn_of (by omega)
    refine lv_aload_n hx hb d_X_move_47 rfl (lv_at hl 0 rfl) ?_
    refine lv_iload_n hx hb d_X_move_48 rfl (lv_at hl 1 rfl) ?_
    refine lv_iload_n hx hb d_X_move_49 rfl (lv_at hl 3 rfl) ?_
    refine lv_iload hx hb d_X_move_50 (lv_at hl 4 rfl) ?_
    refine nd_go (vx_runV (As := [.int (nI a1), .int (nI a3), .int (nI a4)]) (rest := []) ⟨hx, hb, hml, hown, hts⟩ (c_X_needThere l hst dC dI A0 cI q S t hI a1 a3 a4 (by omega) (by omega) (by omega)) (cwV 3 hts (gi_V wd_318 wd_320 wp_11 wd_1 wd_321) rfl rfl rfl (by decide +kernel) ⟨Nat.le_of_ble_eq_true rfl, Nat.le_of_ble_eq_true rfl⟩) (nd_preV hK hP hG (ci := 0) (q0 := 0) rfl rfl) rfl rfl hl.1 rfl (lv_room (Nat.le_of_ble_eq_true rfl)) d_X_move_52 ⟨Nat.le_of_ble_eq_true rfl, Nat.le_of_ble_eq_true rfl⟩) (fun p52 ce q9 H1 h1 h2 h3 h4 h5 => vx_out (fun x hx => (hnt x hx).elim) hlocks h3 h4 h5 (fun t ht hv => ⟨by simp only [op_move, ma1, if_pos p2, ma2, if_pos p7, if_pos q12, ma3, if_pos p27, ma4, if_pos p36, ma5, if_pos p44, if_neg p52]; decide, by simp only [op_move, ma1, if_pos p2, ma2, if_pos p7, if_pos q12, ma3, if_pos p27, ma4, if_pos p36, ma5, if_pos p44, if_neg p52]; rfl, by rw [ht]; exact h1, fun z hz => by rw [ht]; exact h2 z hz⟩) (fun q h => nomatch h) (Nat.le_of_ble_eq_true rfl) (Nat.le_of_ble_eq_true rfl)) (fun p52 => ?_)
    refine lv_aload_n hx hb d_X_move_55 rfl (lv_at hl 0 rfl) ?_
    refine va_get (D := (dC, dI)) (ci := 0) (v := .ref (q 2)) (C := R_X) (T := F_X) (N := 12) hx hb hts i_X hown hK hP 0 rfl rfl 1 (by decide) (hts _ wd_58) (fun _ h9 => h9) rfl d_X_move_56 ?_
    refine nd_go (vx_runS (As := [.ref (q 2)]) (rest := []) ⟨hx, hb, hml, hown, hts⟩ (c_X_needRoom l hst dC dI A0 cI (q 2) (q 12) 60 (S.2.1 3) 300 (rowf S.1 5) (by omega) (by omega)) (cwS 1 hts (gi_S wd_272 wd_273 wd_1 wd_274) rfl rfl rfl (by decide +kernel) ⟨Nat.le_of_ble_eq_true rfl, Nat.le_of_ble_eq_true rfl⟩) (nd_preS hK (hP.sub [2, 12] rfl) hG) rfl rfl hl.1 rfl (lv_room (Nat.le_of_ble_eq_true rfl)) d_X_move_59 ⟨Nat.le_of_ble_eq_true rfl, Nat.le_of_ble_eq_true rfl⟩) (fun p59 ce q9 H1 h1 h2 h3 h4 h5 => vx_out (fun x hx => (hnt x hx).elim) hlocks h3 h4 h5 (fun t ht hv => ⟨by simp only [op_move, ma1, if_pos p2, ma2, if_pos p7, if_pos q12, ma3, if_pos p27, ma4, if_pos p36, ma5, if_pos p44, if_pos p52, if_neg p59]; decide, by simp only [op_move, ma1, if_pos p2, ma2, if_pos p7, if_pos q12, ma3, if_pos p27, ma4, if_pos p36, ma5, if_pos p44, if_pos p52, if_neg p59]; rfl, by rw [ht]; exact h1, fun z hz => by rw [ht]; exact h2 z hz⟩) (fun q h => nomatch h) (Nat.le_of_ble_eq_true rfl) (Nat.le_of_ble_eq_true rfl)) (fun p59 => ?_)
    refine lv_aload_n hx hb d_X_move_62 rfl (lv_at hl 0 rfl) ?_
    refine lv_iload_n hx hb d_X_move_63 rfl (lv_at hl 1 rfl) ?_
    refine lv_iload_n hx hb d_X_move_64 rfl (lv_at hl 3 rfl) ?_
    refine lv_iload hx hb d_X_move_65 (lv_at hl 4 rfl) ?_
    refine lv_ineg hx hb d_X_move_67 ?_
    refine wr_goA (va_runV (As := [.int (nI a1), .int (nI a3), .int (-(nI a4))]) (rest := []) ⟨hx, hb, hml, hown, hts⟩ (c_X_change l dC dI s.heap.size cI q S t hI a1 a3 (S.1 25 (a1 * 60 + a3) - a4) (-(nI a4)) (by omega) (by omega) (by rw [← Int32.sub_eq_add_neg]; exact pk_sub (by omega))) (cwV 3 hts (gi_V wd_305 wd_307 wp_10 wd_1 wd_308) rfl rfl rfl (by decide +kernel) ⟨Nat.le_of_ble_eq_true rfl, Nat.le_of_ble_eq_true rfl⟩) (wr_preV hK hP hD (ci := 0) (q0 := 0) rfl rfl) rfl rfl hl.1 rfl (lv_room (Nat.le_of_ble_eq_true rfl)) d_X_move_68 ⟨Nat.le_of_ble_eq_true rfl, Nat.le_of_ble_eq_true rfl⟩) hD hS hA wX_adr (fun H locs hP hD hS => ?_)
    refine W.eq (g2 := F0 m 71 ls []) rfl ?_
    obtain ⟨S1, hS1⟩ : ∃ z : St, z = S_a S 25 (a1 * 60 + a3) (S.1 25 (a1 * 60 + a3) - a4) := ⟨_, rfl⟩
    rw [← hS1] at hP hD
    have hIS1 : Bd t S1 := by rw [hS1]; exact Bd_a hI (show _ ≤ 9999 from Nat.le_trans (Nat.sub_le _ _) (hI.1 25 _))
    have hBS1 := hIS1.1
    have hg0 : S1.2.1 0 ≤ 8 := hIS1.2.1 0
    have hg1 : S1.2.1 1 ≤ 9999 := hIS1.2.1 1
    have hg2 : S1.2.1 2 ≤ 60 := hIS1.2.1 2
    have hg3 : S1.2.1 3 ≤ 60 := hIS1.2.1 3
    have hg4 : S1.2.1 4 ≤ 80 := hIS1.2.1 4
    have hg5 : S1.2.1 5 ≤ 20 := hIS1.2.1 5
    have hg6 : S1.2.1 6 ≤ 80 := hIS1.2.1 6
    have hg7 : S1.2.1 7 ≤ 10 := hIS1.2.1 7
    have hg8 : t ≤ 512 := hIS1.2.2
    have r3 : S1.2.1 3 = S.2.1 3 := by rw [hS1]; rfl
    have r1 : S1.2.1 1 = S.2.1 1 := by rw [hS1]; rfl
    refine lv_aload_n hx hb d_X_move_71 rfl (lv_at hl 0 rfl) ?_
    refine va_get (D := (dC, dI)) (ci := 0) (v := .ref (q 2)) (C := R_X) (T := F_X) (N := 12) hx hb hts i_X hown hK hP 0 rfl rfl 1 (by decide) (hts _ wd_58) (fun _ h9 => h9) rfl d_X_move_72 ?_
    refine lv_iload_n hx hb d_X_move_75 rfl (lv_at hl 2 rfl) ?_
    refine lv_iload_n hx hb d_X_move_76 rfl (lv_at hl 3 rfl) ?_
    refine lv_iload hx hb d_X_move_77 (lv_at hl 4 rfl) ?_
    refine lv_aload_n hx hb d_X_move_79 rfl (lv_at hl 0 rfl) ?_
    refine va_get (D := (dC, dI)) (ci := 0) (v := .int (nI (S1.2.1 1))) (C := R_X) (T := F_X) (N := 12) hx hb hts i_X hown hK hP 0 rfl rfl 11 (by decide) (hts _ wd_68) (fun _ h9 => h9) rfl d_X_move_80 ?_
    refine lv_iload hx hb d_X_move_83 (lv_at hl 5 rfl) ?_
    refine nv_add hx hb d_X_move_85 ?_
    refine lv_iconst (v := nI 1) hx hb d_X_move_86 (by decide) ?_
    refine wr_go (va_runV (As := [.int (nI a2), .int (nI a3), .int (nI a4), .int (nI ((S1.2.1 1) + a5)), .int (nI 1)]) (rest := []) ⟨hx, hb, hml, hown, hts⟩ (c_W_add l dC dI H.size cI (q 2) (q 12) 60 (S1.2.1 3) 300 (rowf S1.1 5) (nI a2) (nI a3) (nI a4) (nI ((S1.2.1 1) + a5)) (nI 1) (by omega) (by decide)) (cwV 5 hts (gi_V wd_140 wd_141 wd_142 wd_2 wd_143) rfl rfl rfl (by decide +kernel) ⟨Nat.le_of_ble_eq_true rfl, Nat.le_of_ble_eq_true rfl⟩) (wr_preV hK (hP.sub [2, 12] rfl) (hD.sub [2, 12] (by decide) rfl) (ci := 1) (q0 := 0) rfl rfl) rfl rfl hl.1 rfl (lv_room (Nat.le_of_ble_eq_true rfl)) d_X_move_87 ⟨Nat.le_of_ble_eq_true rfl, Nat.le_of_ble_eq_true rfl⟩) hP hD hS hA [2, 12] rfl rfl (wX q cI (S_g (S_row S1 5 (S1.2.1 3) a2 a3 a4 ((S1.2.1 1) + a5) 1) 3 (S1.2.1 3 + 1))) wX_add5 rfl (fun H locs hP hD hS => ?_)
    refine W.eq (g2 := F0 m 90 ls [.int (nI (S1.2.1 3))]) rfl ?_
    obtain ⟨S2, hS2⟩ : ∃ z : St, z = S_g (S_row S1 5 (S1.2.1 3) a2 a3 a4 ((S1.2.1 1) + a5) 1) 3 (S1.2.1 3 + 1) := ⟨_, rfl⟩
    rw [← hS2] at hP hD
    have hIS2 : Bd t S2 := by rw [hS2]; exact Bd_g (Bd_row hIS1 (show _ ≤ 7 by omega) (show _ ≤ 59 by omega) (show _ ≤ 9999 by omega) (show _ ≤ 10029 by omega) (Nat.le_refl 1)) (show _ ≤ 60 by omega)
    have hBS2 := hIS2.1
    have hg0 : S2.2.1 0 ≤ 8 := hIS2.2.1 0
    have hg1 : S2.2.1 1 ≤ 9999 := hIS2.2.1 1
    have hg2 : S2.2.1 2 ≤ 60 := hIS2.2.1 2
    have hg3 : S2.2.1 3 ≤ 60 := hIS2.2.1 3
    have hg4 : S2.2.1 4 ≤ 80 := hIS2.2.1 4
    have hg5 : S2.2.1 5 ≤ 20 := hIS2.2.1 5
    have hg6 : S2.2.1 6 ≤ 80 := hIS2.2.1 6
    have hg7 : S2.2.1 7 ≤ 10 := hIS2.2.1 7
    have hg8 : t ≤ 512 := hIS2.2.2
    have r32 : S2.2.1 3 = S1.2.1 3 + 1 := by rw [hS2]; rfl
    refine lv_istore (lv' := [(6, .int (nI (S1.2.1 3))), (0, .ref (q 0)), (1, .int (nI a1)), (2, .int (nI a2)), (3, .int (nI a3)), (4, .int (nI a4)), (5, .int (nI a5))]) hx hb d_X_move_90 hl (by decide) rfl (fun ls hl => ?_)
    refine lv_iload hx hb d_X_move_92 (lv_at hl 6 rfl) ?_
    refine nv_zne (tgt := 103) hx hb (by omega) d_X_move_94 (by decide) (fun c94 => ?_) (fun c94 => ?_)
    · refine lv_iload hx hb d_X_move_103 (lv_at hl 0 rfl) ?_
      have ho : op_move S (nI a1) (nI a2) (nI a3) (nI a4) (nI a5) = (0, nI (S.2.1 3), S_g (S_row (S_a S 25 (a1 * 60 + a3) (S.1 25 (a1 * 60 + a3) - a4)) 5 (S.2.1 3) a2 a3 a4 (S.2.1 1 + a5) 1) 3 (S.2.1 3 + 1)) := by simp only [op_move, ma1, if_pos p2, ma2, if_pos p7, if_pos q12, ma3, if_pos p27, ma4, if_pos p36, ma5, if_pos p44, if_pos p52, if_pos p59, if_neg c94]
      rw [ho]
      refine nv_as (nI (S.2.1 3)) (by rw [hS1]; rfl) ?_
      refine W.widen (k := 8) (n := 48) (Nat.le_of_ble_eq_true rfl) (Nat.le_of_ble_eq_true rfl) ?_
      have hP9 : va_P (dC, dI) classes (wX q cI (S_g (S_row (S_a S 25 (a1 * 60 + a3) (S.1 25 (a1 * 60 + a3) - a4)) 5 (S.2.1 3) a2 a3 a4 (S.2.1 1 + a5) 1) 3 (S.2.1 3 + 1))) H := by rw [hS2, hS1] at hP; exact hP
      exact vx_ret (W.iret hx hb hr (fun t ht hW => ⟨rfl, rfl, by rw [ht]; exact hP9, hS.F ht⟩) hS.2.2 d_X_move_105)
    · refine lv_aload_n hx hb d_X_move_97 rfl (lv_at hl 1 rfl) ?_
      refine lv_iload hx hb d_X_move_98 (lv_at hl 0 rfl) ?_
      refine wr_goA (va_runV (As := [.int (nI (S1.2.1 3))]) (rest := []) ⟨hx, hb, hml, hown, hts⟩ (c_X_arrive l dC dI H.size cI q S2 t hIS2 (S1.2.1 3) (by omega)) (cwV 1 hts (gi_V wd_338 wd_340 wp_12 wd_1 wd_341) rfl rfl rfl (by decide +kernel) ⟨Nat.le_of_ble_eq_true rfl, Nat.le_of_ble_eq_true rfl⟩) (wr_preV hK hP hD (ci := 0) (q0 := 0) rfl rfl) rfl rfl hl.1 rfl (lv_room (Nat.le_of_ble_eq_true rfl)) d_X_move_100 ⟨Nat.le_of_ble_eq_true rfl, Nat.le_of_ble_eq_true rfl⟩) hD hS hA wX_adr (fun H locs hP hD hS => ?_)
      refine W.eq (g2 := F0 m 103 ls []) rfl ?_
      obtain ⟨S3, hS3⟩ : ∃ z : St, z = come S2 (S1.2.1 3) := ⟨_, rfl⟩
      rw [← hS3] at hP hD
      refine lv_iload hx hb d_X_move_103 (lv_at hl 0 rfl) ?_
      have ho : op_move S (nI a1) (nI a2) (nI a3) (nI a4) (nI a5) = (0, nI (S.2.1 3), come (S_g (S_row (S_a S 25 (a1 * 60 + a3) (S.1 25 (a1 * 60 + a3) - a4)) 5 (S.2.1 3) a2 a3 a4 (S.2.1 1 + a5) 1) 3 (S.2.1 3 + 1)) (S.2.1 3)) := by simp only [op_move, ma1, if_pos p2, ma2, if_pos p7, if_pos q12, ma3, if_pos p27, ma4, if_pos p36, ma5, if_pos p44, if_pos p52, if_pos p59, if_pos c94]
      rw [ho]
      refine nv_as (nI (S.2.1 3)) (by rw [hS1]; rfl) ?_
      refine W.widen (k := 8) (n := 48) (Nat.le_of_ble_eq_true rfl) (Nat.le_of_ble_eq_true rfl) ?_
      have hP9 : va_P (dC, dI) classes (wX q cI (come (S_g (S_row (S_a S 25 (a1 * 60 + a3) (S.1 25 (a1 * 60 + a3) - a4)) 5 (S.2.1 3) a2 a3 a4 (S.2.1 1 + a5) 1) 3 (S.2.1 3 + 1)) (S.2.1 3))) H := by rw [hS3, hS2, hS1] at hP; exact hP
      exact vx_ret (W.iret hx hb hr (fun t ht hW => ⟨rfl, rfl, by rw [ht]; exact hP9, hS.F ht⟩) hS.2.2 d_X_move_105)
  · have q12 : ¬ nI a1 ≠ nI a2 := fun h => h (by rw [c12])
    exact x_throw (A := A0) hx hb hst hown hts hG ex_ia sx_94 hnt (hl.1.trans hml.symm) hlocks d_X_move_15 d_X_move_18 d_X_move_19 d_X_move_21 d_X_move_24 (Nat.le_of_ble_eq_true rfl) (Nat.le_of_ble_eq_true rfl) (Nat.le_of_ble_eq_true rfl) (Nat.le_of_ble_eq_true rfl) (Nat.le_of_ble_eq_true rfl) (Nat.le_of_ble_eq_true rfl) (fun t h1 h2 => ⟨by simp only [op_move, ma1, if_pos p2, ma2, if_pos p7, if_neg q12]; decide, by simp only [op_move, ma1, if_pos p2, ma2, if_pos p7, if_neg q12]; rfl, h1, h2⟩)
set_option maxHeartbeats 4000000 in
set_option maxRecDepth 100000 in
theorem c_X_sum (l : Launch) (hst : l.stackTraces = false) (dC : Nat → ClassId) (dI : Nat → Nat → Nat) (A0 : Nat → Prop) (sz : Nat) (cI : ClassId) (q : Nat → Nat) (S : St) (t : Nat) (hI : Bd t S) (x y v : Int32) : vx_Met l y_X_sum (.code y_X_sum b_X_sum 4 (some .int) :: bg) { frames := 8, cells := 3, slots := 18, locals := 132 } (xo_P (dC, dI) classes [(cI, .int)] A0 (wX q cI S) sz [.ref (q 0), .int x, .int y, .int v]) (xo_Q (op_sum S x y v) (some (.int (op_sum S x y v).2.1)) (dC, dI) classes (wX q cI (op_sum S x y v).2.2) (va_A (wX q cI S) sz)) (xo_X (op_sum S x y v) [E_ia]) 3 18 (va_A (wX q cI S) sz) := by
  refine vx_ofW (cc := b_X_sum) (maxL := 4) (ret := (some .int)) (by decide) rfl ?_
  intro p e s m args below meth c s₁ B hml hnt hv
  obtain ⟨rfl, hsz, hP, hK, hD0, hG⟩ := hv
  subst hsz
  have hD := hD0.self (sz := s.heap.size)
  generalize hAe : va_A (wX q cI S) s.heap.size = A at hD ⊢
  have hA : ∀ q : Nat, s.heap.size ≤ q → A q := fun q h => by rw [← hAe]; exact Or.inr h
  have hS : va_S A s.heap s.heap [] := va_S.rf
  have hx := B.exec
  have hb := B.bytes
  have hr := B.returns
  have hts := fun w (h : w ∈ bg) => atoms_spec (ws := .code y_X_sum b_X_sum 4 (some .int) :: bg) B.pre w (List.mem_cons_of_mem _ h)
  have hown : s.vm.findClass R_X = some m.cls := findClass_of_methodNamed B.named
  have hlocks := B.notSynchronized
  have hl := lv_entry ([.ref (q 0), .int x, .int y, .int v]) (n := 4) (Nat.le_of_ble_eq_true rfl)
  rw [lg_entry_eq]
  generalize (lg_sl ([.ref (q 0), .int x, .int y, .int v]) ++ List.replicate (4 - (lg_sl ([.ref (q 0), .int x, .int y, .int v])).length) Slot.unset).toArray = ls at hl ⊢
  have hl : lv_has ls 4 [(0, .ref (q 0)), (1, .int x), (2, .int y), (3, .int v)] := hl
  have hB := hI.1
  have hg0 : S.2.1 0 ≤ 8 := hI.2.1 0
  have hg1 : S.2.1 1 ≤ 9999 := hI.2.1 1
  have hg2 : S.2.1 2 ≤ 60 := hI.2.1 2
  have hg3 : S.2.1 3 ≤ 60 := hI.2.1 3
  have hg4 : S.2.1 4 ≤ 80 := hI.2.1 4
  have hg5 : S.2.1 5 ≤ 20 := hI.2.1 5
  have hg6 : S.2.1 6 ≤ 80 := hI.2.1 6
  have hg7 : S.2.1 7 ≤ 10 := hI.2.1 7
  have hg8 : t ≤ 512 := hI.2.2
  refine lv_aload_n hx hb d_X_sum_0 rfl (lv_at hl 0 rfl) ?_
  refine lv_iload_n hx hb d_X_sum_1 rfl (lv_at hl 1 rfl) ?_
  refine nd_go (vx_runV (As := [.int x]) (rest := []) ⟨hx, hb, hml, hown, hts⟩ (c_X_needStore l hst dC dI A0 cI q S t hI x) (cwV 1 hts (gi_V wd_283 wd_285 wp_7 wd_1 wd_286) rfl rfl rfl (by decide +kernel) ⟨Nat.le_of_ble_eq_true rfl, Nat.le_of_ble_eq_true rfl⟩) (nd_preV hK hP hG (ci := 0) (q0 := 0) rfl rfl) rfl rfl hl.1 rfl (lv_room (Nat.le_of_ble_eq_true rfl)) d_X_sum_2 ⟨Nat.le_of_ble_eq_true rfl, Nat.le_of_ble_eq_true rfl⟩) (fun p2 ce q9 H1 h1 h2 h3 h4 h5 => vx_out (fun x hx => (hnt x hx).elim) hlocks h3 h4 h5 (fun t ht hv => ⟨by simp only [op_sum, if_neg p2]; decide, by simp only [op_sum, if_neg p2]; rfl, by rw [ht]; exact h1, fun z hz => by rw [ht]; exact h2 z hz⟩) (fun q h => nomatch h) (Nat.le_of_ble_eq_true rfl) (Nat.le_of_ble_eq_true rfl)) (fun p2 => ?_)
  obtain ⟨a1, ha1, rfl⟩ := ok_ex p2
  have ma1 : nn (nI a1) = a1 := nn_of (by omega)
  refine lv_iload_n hx hb d_X_sum_5 rfl (lv_at hl 2 rfl) ?_
  refine nd_go (vx_runS (As := [.int y]) (rest := []) ⟨hx, hb, hml, hown, hts⟩ (c_X_needKind l hst dC dI A0 y) (cwS 1 hts (gi_S wd_234 wd_235 wd_1 wd_236) rfl rfl rfl (by decide +kernel) ⟨Nat.le_of_ble_eq_true rfl, Nat.le_of_ble_eq_true rfl⟩) (nd_preS (hK.sub (tys' := []) [] rfl) (fun k q h => by simp at h) hG) rfl rfl hl.1 rfl (lv_room (Nat.le_of_ble_eq_true rfl)) d_X_sum_6 ⟨Nat.le_of_ble_eq_true rfl, Nat.le_of_ble_eq_true rfl⟩) (fun p6 ce q9 H1 h1 h2 h3 h4 h5 => vx_out (fun x hx => (hnt x hx).elim) hlocks h3 h4 h5 (fun t ht hv => ⟨by simp only [op_sum, ma1, if_pos p2, if_neg p6]; decide, by simp only [op_sum, ma1, if_pos p2, if_neg p6]; rfl, by rw [ht]; exact h1, fun z hz => by rw [ht]; exact h2 z hz⟩) (fun q h => nomatch h) (Nat.le_of_ble_eq_true rfl) (Nat.le_of_ble_eq_true rfl)) (fun p6 => ?_)
  obtain ⟨a2, ha2, rfl⟩ := ok_ex p6
  have ma2 : nn (nI a2) = a2 := nn_of (by omega)
  refine lv_iload_n hx hb d_X_sum_9 rfl (lv_at hl 3 rfl) ?_
  by_cases k0 : v = 0
  · subst k0
    refine lv_tableIn (tgt := 36) hx hb d_X_sum_10 (by decide) (by decide) (off := 26) rfl (by decide) ?_
    refine lv_aload_n hx hb d_X_sum_36 rfl (lv_at hl 0 rfl) ?_
    refine lv_iload_n hx hb d_X_sum_37 rfl (lv_at hl 1 rfl) ?_
    refine lv_iload_n hx hb d_X_sum_38 rfl (lv_at hl 2 rfl) ?_
    refine lv_iconst (v := b2 true) hx hb d_X_sum_39 (by decide) ?_
    refine pu_go (va_runV (As := [.int (nI a1), .int (nI a2), .int (b2 true)]) (rest := []) ⟨hx, hb, hml, hown, hts⟩ (c_X_inStore l dC dI cI q S t hI a1 a2 true (by omega) (by omega)) (cwV 3 hts (gi_V wd_113 wd_115 wp_1 wd_1 wd_116) rfl rfl rfl (by decide +kernel) ⟨Nat.le_of_ble_eq_true rfl, Nat.le_of_ble_eq_true rfl⟩) (pu_preV hK hP (ci := 0) (q0 := 0) rfl rfl) rfl rfl hl.1 rfl (lv_room (Nat.le_of_ble_eq_true rfl)) d_X_sum_40 ⟨Nat.le_of_ble_eq_true rfl, Nat.le_of_ble_eq_true rfl⟩) ?_
    have hb1 := inst_le hI a1 a2 true
    have ho : op_sum S (nI a1) (nI a2) 0 = (0, nI (good S a1 a2), S) := by simp only [op_sum, ma1, if_pos p2, ma2, if_pos p6, if_true]
    rw [ho]
    refine nv_as (nI (good S a1 a2)) (by rw [inst_t]) ?_
    refine W.widen (k := 3) (n := 18) (Nat.le_of_ble_eq_true rfl) (Nat.le_of_ble_eq_true rfl) ?_
    have hP9 : va_P (dC, dI) classes (wX q cI (S)) s.heap := hP
    exact vx_ret (W.iret hx hb hr (fun t ht hW => ⟨rfl, rfl, by rw [ht]; exact hP9, hS.F ht⟩) hS.2.2 d_X_sum_43)
  by_cases k1 : v = 1
  · subst k1
    refine lv_tableIn (tgt := 44) hx hb d_X_sum_10 (by decide) (by decide) (off := 34) rfl (by decide) ?_
    refine lv_aload_n hx hb d_X_sum_44 rfl (lv_at hl 0 rfl) ?_
    refine lv_iload_n hx hb d_X_sum_45 rfl (lv_at hl 1 rfl) ?_
    refine lv_iload_n hx hb d_X_sum_46 rfl (lv_at hl 2 rfl) ?_
    refine lv_iconst (v := b2 false) hx hb d_X_sum_47 (by decide) ?_
    refine pu_go (va_runV (As := [.int (nI a1), .int (nI a2), .int (b2 false)]) (rest := []) ⟨hx, hb, hml, hown, hts⟩ (c_X_inStore l dC dI cI q S t hI a1 a2 false (by omega) (by omega)) (cwV 3 hts (gi_V wd_113 wd_115 wp_1 wd_1 wd_116) rfl rfl rfl (by decide +kernel) ⟨Nat.le_of_ble_eq_true rfl, Nat.le_of_ble_eq_true rfl⟩) (pu_preV hK hP (ci := 0) (q0 := 0) rfl rfl) rfl rfl hl.1 rfl (lv_room (Nat.le_of_ble_eq_true rfl)) d_X_sum_48 ⟨Nat.le_of_ble_eq_true rfl, Nat.le_of_ble_eq_true rfl⟩) ?_
    have hb2 := inst_le hI a1 a2 false
    have ho : op_sum S (nI a1) (nI a2) 1 = (0, nI (bad S a1 a2), S) := by simp only [op_sum, ma1, if_pos p2, ma2, if_pos p6, if_neg (show ¬ (1 : Int32) = 0 by decide), if_true]
    rw [ho]
    refine nv_as (nI (bad S a1 a2)) (by rw [inst_f]) ?_
    refine W.widen (k := 3) (n := 18) (Nat.le_of_ble_eq_true rfl) (Nat.le_of_ble_eq_true rfl) ?_
    have hP9 : va_P (dC, dI) classes (wX q cI (S)) s.heap := hP
    exact vx_ret (W.iret hx hb hr (fun t ht hW => ⟨rfl, rfl, by rw [ht]; exact hP9, hS.F ht⟩) hS.2.2 d_X_sum_51)
  by_cases k2 : v = 2
  · subst k2
    refine lv_tableIn (tgt := 52) hx hb d_X_sum_10 (by decide) (by decide) (off := 42) rfl (by decide) ?_
    refine lv_aload_n hx hb d_X_sum_52 rfl (lv_at hl 0 rfl) ?_
    refine lv_iload_n hx hb d_X_sum_53 rfl (lv_at hl 1 rfl) ?_
    refine lv_iload_n hx hb d_X_sum_54 rfl (lv_at hl 2 rfl) ?_
    refine lv_iconst (v := b2 false) hx hb d_X_sum_55 (by decide) ?_
    refine pu_go (va_runV (As := [.int (nI a1), .int (nI a2), .int (b2 false)]) (rest := []) ⟨hx, hb, hml, hown, hts⟩ (c_X_onTheWay l dC dI cI q S t hI a1 a2 false (by omega) (by omega)) (cwV 3 hts (gi_V wd_128 wd_130 wp_3 wd_1 wd_131) rfl rfl rfl (by decide +kernel) ⟨Nat.le_of_ble_eq_true rfl, Nat.le_of_ble_eq_true rfl⟩) (pu_preV hK hP (ci := 0) (q0 := 0) rfl rfl) rfl rfl hl.1 rfl (lv_room (Nat.le_of_ble_eq_true rfl)) d_X_sum_56 ⟨Nat.le_of_ble_eq_true rfl, Nat.le_of_ble_eq_true rfl⟩) ?_
    have hb3 := way_le hI false a1 a2
    have ho : op_sum S (nI a1) (nI a2) 2 = (0, nI (way S false a1 a2), S) := by simp only [op_sum, ma1, if_pos p2, ma2, if_pos p6, if_neg (show ¬ (2 : Int32) = 0 by decide), if_neg (show ¬ (2 : Int32) = 1 by decide), if_true]
    rw [ho]
    refine W.widen (k := 3) (n := 18) (Nat.le_of_ble_eq_true rfl) (Nat.le_of_ble_eq_true rfl) ?_
    have hP9 : va_P (dC, dI) classes (wX q cI (S)) s.heap := hP
    exact vx_ret (W.iret hx hb hr (fun t ht hW => ⟨rfl, rfl, by rw [ht]; exact hP9, hS.F ht⟩) hS.2.2 d_X_sum_59)
  refine lv_tableOut (tgt := 60) hx hb d_X_sum_10 (sw3 k0 k1 k2) (by decide) ?_
  exact x_throw (A := A0) hx hb hst hown hts hG ex_ia sx_121 hnt (hl.1.trans hml.symm) hlocks d_X_sum_60 d_X_sum_63 d_X_sum_64 d_X_sum_66 d_X_sum_69 (Nat.le_of_ble_eq_true rfl) (Nat.le_of_ble_eq_true rfl) (Nat.le_of_ble_eq_true rfl) (Nat.le_of_ble_eq_true rfl) (Nat.le_of_ble_eq_true rfl) (Nat.le_of_ble_eq_true rfl) (fun t h1 h2 => ⟨by simp only [op_sum, ma1, if_pos p2, ma2, if_pos p6, if_neg k0, if_neg k1, if_neg k2]; decide, by simp only [op_sum, ma1, if_pos p2, ma2, if_pos p6, if_neg k0, if_neg k1, if_neg k2]; rfl, h1, h2⟩)
set_option maxHeartbeats 4000000 in
set_option maxRecDepth 100000 in
theorem c_X_deliver (l : Launch) (hst : l.stackTraces = false) (dC : Nat → ClassId) (dI : Nat → Nat → Nat) (A0 : Nat → Prop) (sz : Nat) (cI : ClassId) (q : Nat → Nat) (S : St) (t : Nat) (hI : Bd t S) (x y : Int32) : vx_Met l y_X_deliver (.code y_X_deliver b_X_deliver 4 (some .int) :: bg) { frames := 8, cells := 3, slots := 18, locals := 132 } (xo_P (dC, dI) classes [(cI, .int)] A0 (wX q cI S) sz [.ref (q 0), .int x, .int y]) (xo_Q (op_deliver S x y) (some (.int (op_deliver S x y).2.1)) (dC, dI) classes (wX q cI (op_deliver S x y).2.2) (va_A (wX q cI S) sz)) (xo_X (op_deliver S x y) [E_ia, E_is]) 3 18 (va_A (wX q cI S) sz) := by
  refine vx_ofW (cc := b_X_deliver) (maxL := 4) (ret := (some .int)) (by decide) rfl ?_
  intro p e s m args below meth c s₁ B hml hnt hv
  obtain ⟨rfl, hsz, hP, hK, hD0, hG⟩ := hv
  subst hsz
  have hD := hD0.self (sz := s.heap.size)
  generalize hAe : va_A (wX q cI S) s.heap.size = A at hD ⊢
  have hA : ∀ q : Nat, s.heap.size ≤ q → A q := fun q h => by rw [← hAe]; exact Or.inr h
  have hS : va_S A s.heap s.heap [] := va_S.rf
  have hx := B.exec
  have hb := B.bytes
  have hr := B.returns
  have hts := fun w (h : w ∈ bg) => atoms_spec (ws := .code y_X_deliver b_X_deliver 4 (some .int) :: bg) B.pre w (List.mem_cons_of_mem _ h)
  have hown : s.vm.findClass R_X = some m.cls := findClass_of_methodNamed B.named
  have hlocks := B.notSynchronized
  have hl := lv_entry ([.ref (q 0), .int x, .int y]) (n := 4) (Nat.le_of_ble_eq_true rfl)
  rw [lg_entry_eq]
  generalize (lg_sl ([.ref (q 0), .int x, .int y]) ++ List.replicate (4 - (lg_sl ([.ref (q 0), .int x, .int y])).length) Slot.unset).toArray = ls at hl ⊢
  have hl : lv_has ls 4 [(0, .ref (q 0)), (1, .int x), (2, .int y)] := hl
  have hB := hI.1
  have hg0 : S.2.1 0 ≤ 8 := hI.2.1 0
  have hg1 : S.2.1 1 ≤ 9999 := hI.2.1 1
  have hg2 : S.2.1 2 ≤ 60 := hI.2.1 2
  have hg3 : S.2.1 3 ≤ 60 := hI.2.1 3
  have hg4 : S.2.1 4 ≤ 80 := hI.2.1 4
  have hg5 : S.2.1 5 ≤ 20 := hI.2.1 5
  have hg6 : S.2.1 6 ≤ 80 := hI.2.1 6
  have hg7 : S.2.1 7 ≤ 10 := hI.2.1 7
  have hg8 : t ≤ 512 := hI.2.2
  refine lv_aload_n hx hb d_X_deliver_0 rfl (lv_at hl 0 rfl) ?_
  refine va_get (D := (dC, dI)) (ci := 0) (v := .ref (q 3)) (C := R_X) (T := F_X) (N := 12) hx hb hts i_X hown hK hP 0 rfl rfl 2 (by decide) (hts _ wd_59) (fun _ h9 => h9) rfl d_X_deliver_1 ?_
  refine lv_iload_n hx hb d_X_deliver_4 rfl (lv_at hl 1 rfl) ?_
  refine nd_go (vx_runS (As := [.ref (q 3), .int x]) (rest := []) ⟨hx, hb, hml, hown, hts⟩ (c_X_needRow l hst dC dI A0 cI (q 3) (q 13) 80 (S.2.1 4) 400 (rowf S.1 10) x (by omega)) (cwS 2 hts (gi_S wd_292 wd_293 wd_1 wd_294) rfl rfl rfl (by decide +kernel) ⟨Nat.le_of_ble_eq_true rfl, Nat.le_of_ble_eq_true rfl⟩) (nd_preS hK (hP.sub [3, 13] rfl) hG) rfl rfl hl.1 rfl (lv_room (Nat.le_of_ble_eq_true rfl)) d_X_deliver_5 ⟨Nat.le_of_ble_eq_true rfl, Nat.le_of_ble_eq_true rfl⟩) (fun p5 ce q9 H1 h1 h2 h3 h4 h5 => vx_out (fun x hx => (hnt x hx).elim) hlocks h3 h4 h5 (fun t ht hv => ⟨by simp only [op_deliver, if_neg p5]; decide, by simp only [op_deliver, if_neg p5]; rfl, by rw [ht]; exact h1, fun z hz => by rw [ht]; exact h2 z hz⟩) (fun q h => nomatch h) (Nat.le_of_ble_eq_true rfl) (Nat.le_of_ble_eq_true rfl)) (fun p5 => ?_)
  obtain ⟨a1, ha1, rfl⟩ := ok_ex p5
  have ma1 : nn (nI a1) = a1 := nn_of (by omega)
  refine lv_aload_n hx hb d_X_deliver_8 rfl (lv_at hl 0 rfl) ?_
  refine lv_iload_n hx hb d_X_deliver_9 rfl (lv_at hl 2 rfl) ?_
  refine nd_go (vx_runV (As := [.int y]) (rest := []) ⟨hx, hb, hml, hown, hts⟩ (c_X_needLot l hst dC dI A0 cI q S t hI y) (cwV 1 hts (gi_V wd_288 wd_290 wp_8 wd_1 wd_291) rfl rfl rfl (by decide +kernel) ⟨Nat.le_of_ble_eq_true rfl, Nat.le_of_ble_eq_true rfl⟩) (nd_preV hK hP hG (ci := 0) (q0 := 0) rfl rfl) rfl rfl hl.1 rfl (lv_room (Nat.le_of_ble_eq_true rfl)) d_X_deliver_10 ⟨Nat.le_of_ble_eq_true rfl, Nat.le_of_ble_eq_true rfl⟩) (fun p10 ce q9 H1 h1 h2 h3 h4 h5 => vx_out (fun x hx => (hnt x hx).elim) hlocks h3 h4 h5 (fun t ht hv => ⟨by simp only [op_deliver, ma1, if_pos p5, if_neg p10]; decide, by simp only [op_deliver, ma1, if_pos p5, if_neg p10]; rfl, by rw [ht]; exact h1, fun z hz => by rw [ht]; exact h2 z hz⟩) (fun q h => nomatch h) (Nat.le_of_ble_eq_true rfl) (Nat.le_of_ble_eq_true rfl)) (fun p10 => ?_)
  obtain ⟨a2, ha2, rfl⟩ := ok_ex p10
  have ma2 : nn (nI a2) = a2 := nn_of (by omega)
  refine lv_aload_n hx hb d_X_deliver_13 rfl (lv_at hl 0 rfl) ?_
  refine va_get (D := (dC, dI)) (ci := 0) (v := .ref (q 3)) (C := R_X) (T := F_X) (N := 12) hx hb hts i_X hown hK hP 0 rfl rfl 2 (by decide) (hts _ wd_59) (fun _ h9 => h9) rfl d_X_deliver_14 ?_
  refine lv_iload_n hx hb d_X_deliver_17 rfl (lv_at hl 1 rfl) ?_
  refine lv_iconst (v := nI 4) hx hb d_X_deliver_18 (by decide) ?_
  refine pu_go (va_runV (As := [.int (nI a1), .int (nI 4)]) (rest := []) ⟨hx, hb, hml, hown, hts⟩ (c_W_at l dC dI cI (q 3) (q 13) 80 (S.2.1 4) 400 (rowf S.1 10) a1 4 (by omega) (by decide)) (cwV 2 hts (gi_V wd_117 wd_118 wd_119 wd_2 wd_120) rfl rfl rfl (by decide +kernel) ⟨Nat.le_of_ble_eq_true rfl, Nat.le_of_ble_eq_true rfl⟩) (pu_preV hK (hP.sub [3, 13] rfl) (ci := 1) (q0 := 0) rfl rfl) rfl rfl hl.1 rfl (lv_room (Nat.le_of_ble_eq_true rfl)) d_X_deliver_19 ⟨Nat.le_of_ble_eq_true rfl, Nat.le_of_ble_eq_true rfl⟩) ?_
  refine nv_as (nI (S.1 14 a1)) (rowf_at (by decide)) ?_
  have hb1 : S.1 14 a1 ≤ 1 := hB 14 _
  refine lv_iconst (v := nI 1) hx hb d_X_deliver_22 (by decide) ?_
  refine nv_ceq (tgt := 36) hx hb (by omega) (by omega) d_X_deliver_23 (by decide) (fun c23 => ?_) (fun c23 => ?_)
  · refine lv_aload_n hx hb d_X_deliver_36 rfl (lv_at hl 0 rfl) ?_
    refine va_get (D := (dC, dI)) (ci := 0) (v := .ref (q 3)) (C := R_X) (T := F_X) (N := 12) hx hb hts i_X hown hK hP 0 rfl rfl 2 (by decide) (hts _ wd_59) (fun _ h9 => h9) rfl d_X_deliver_37 ?_
    refine lv_iload_n hx hb d_X_deliver_40 rfl (lv_at hl 1 rfl) ?_
    refine lv_iconst (v := nI 1) hx hb d_X_deliver_41 (by decide) ?_
    refine pu_go (va_runV (As := [.int (nI a1), .int (nI 1)]) (rest := []) ⟨hx, hb, hml, hown, hts⟩ (c_W_at l dC dI cI (q 3) (q 13) 80 (S.2.1 4) 400 (rowf S.1 10) a1 1 (by omega) (by decide)) (cwV 2 hts (gi_V wd_117 wd_118 wd_119 wd_2 wd_120) rfl rfl rfl (by decide +kernel) ⟨Nat.le_of_ble_eq_true rfl, Nat.le_of_ble_eq_true rfl⟩) (pu_preV hK (hP.sub [3, 13] rfl) (ci := 1) (q0 := 0) rfl rfl) rfl rfl hl.1 rfl (lv_room (Nat.le_of_ble_eq_true rfl)) d_X_deliver_42 ⟨Nat.le_of_ble_eq_true rfl, Nat.le_of_ble_eq_true rfl⟩) ?_
    refine nv_as (nI (S.1 11 a1)) (rowf_at (by decide)) ?_
    have hb2 : S.1 11 a1 ≤ 9 := hB 11 _
    refine lv_aload_n hx hb d_X_deliver_45 rfl (lv_at hl 0 rfl) ?_
    refine va_get (D := (dC, dI)) (ci := 0) (v := .ref (q 1)) (C := R_X) (T := F_X) (N := 12) hx hb hts i_X hown hK hP 0 rfl rfl 0 (by decide) (hts _ wd_57) (fun _ h9 => h9) rfl d_X_deliver_46 ?_
    refine lv_iload_n hx hb d_X_deliver_49 rfl (lv_at hl 2 rfl) ?_
    refine lv_iconst (v := nI 0) hx hb d_X_deliver_50 (by decide) ?_
    refine pu_go (va_runV (As := [.int (nI a2), .int (nI 0)]) (rest := [.int (nI (S.1 11 a1))]) ⟨hx, hb, hml, hown, hts⟩ (c_W_at l dC dI cI (q 1) (q 11) 60 (S.2.1 2) 300 (rowf S.1 0) a2 0 (by omega) (by decide)) (cwV 2 hts (gi_V wd_117 wd_118 wd_119 wd_2 wd_120) rfl rfl rfl (by decide +kernel) ⟨Nat.le_of_ble_eq_true rfl, Nat.le_of_ble_eq_true rfl⟩) (pu_preV hK (hP.sub [1, 11] rfl) (ci := 1) (q0 := 0) rfl rfl) rfl rfl hl.1 rfl (lv_room (Nat.le_of_ble_eq_true rfl)) d_X_deliver_51 ⟨Nat.le_of_ble_eq_true rfl, Nat.le_of_ble_eq_true rfl⟩) ?_
    refine nv_as (nI (S.1 0 a2)) (rowf_at (by decide)) ?_
    have hb3 : S.1 0 a2 ≤ 9 := hB 0 _
    refine nv_ceq (tgt := 67) hx hb (by omega) (by omega) d_X_deliver_54 (by decide) (fun c54 => ?_) (fun c54 => ?_)
    · refine lv_aload_n hx hb d_X_deliver_67 rfl (lv_at hl 0 rfl) ?_
      refine va_get (D := (dC, dI)) (ci := 0) (v := .ref (q 3)) (C := R_X) (T := F_X) (N := 12) hx hb hts i_X hown hK hP 0 rfl rfl 2 (by decide) (hts _ wd_59) (fun _ h9 => h9) rfl d_X_deliver_68 ?_
      refine lv_iload_n hx hb d_X_deliver_71 rfl (lv_at hl 1 rfl) ?_
      refine lv_iconst (v := nI 0) hx hb d_X_deliver_72 (by decide) ?_
      refine pu_go (va_runV (As := [.int (nI a1), .int (nI 0)]) (rest := []) ⟨hx, hb, hml, hown, hts⟩ (c_W_at l dC dI cI (q 3) (q 13) 80 (S.2.1 4) 400 (rowf S.1 10) a1 0 (by omega) (by decide)) (cwV 2 hts (gi_V wd_117 wd_118 wd_119 wd_2 wd_120) rfl rfl rfl (by decide +kernel) ⟨Nat.le_of_ble_eq_true rfl, Nat.le_of_ble_eq_true rfl⟩) (pu_preV hK (hP.sub [3, 13] rfl) (ci := 1) (q0 := 0) rfl rfl) rfl rfl hl.1 rfl (lv_room (Nat.le_of_ble_eq_true rfl)) d_X_deliver_73 ⟨Nat.le_of_ble_eq_true rfl, Nat.le_of_ble_eq_true rfl⟩) ?_
      refine nv_as (nI (S.1 10 a1)) (rowf_at (by decide)) ?_
      have hb4 : S.1 10 a1 ≤ 7 := hB 10 _
      refine lv_istore_n (lv' := [(3, .int (nI (S.1 10 a1))), (0, .ref (q 0)), (1, .int (nI a1)), (2, .int (nI a2))]) hx hb d_X_deliver_76 rfl hl (by decide) rfl (fun ls hl => ?_)
      refine lv_aload_n hx hb d_X_deliver_77 rfl (lv_at hl 1 rfl) ?_
      refine va_get (D := (dC, dI)) (ci := 0) (v := .ref (q 3)) (C := R_X) (T := F_X) (N := 12) hx hb hts i_X hown hK hP 0 rfl rfl 2 (by decide) (hts _ wd_59) (fun _ h9 => h9) rfl d_X_deliver_78 ?_
      refine lv_iload_n hx hb d_X_deliver_81 rfl (lv_at hl 2 rfl) ?_
      refine lv_iconst (v := nI 4) hx hb d_X_deliver_82 (by decide) ?_
      refine lv_iconst (v := nI 0) hx hb d_X_deliver_83 (by decide) ?_
      refine wr_go (va_runV (As := [.int (nI a1), .int (nI 4), .int (nI 0)]) (rest := []) ⟨hx, hb, hml, hown, hts⟩ (c_W_put l dC dI s.heap.size cI (q 3) (q 13) 80 (S.2.1 4) 400 (rowf S.1 10) a1 4 (nI 0) (by omega) (by decide)) (cwV 3 hts (gi_V wd_342 wd_145 wd_146 wd_2 wd_147) rfl rfl rfl (by decide +kernel) ⟨Nat.le_of_ble_eq_true rfl, Nat.le_of_ble_eq_true rfl⟩) (wr_preV hK (hP.sub [3, 13] rfl) (hD.sub [3, 13] (by decide) rfl) (ci := 1) (q0 := 0) rfl rfl) rfl rfl hl.1 rfl (lv_room (Nat.le_of_ble_eq_true rfl)) d_X_deliver_84 ⟨Nat.le_of_ble_eq_true rfl, Nat.le_of_ble_eq_true rfl⟩) hP hD hS hA [3, 13] rfl rfl (wX q cI (S_a S (10 + 4) a1 0)) (wX_r10 (by decide)) rfl (fun H locs hP hD hS => ?_)
      refine W.eq (g2 := F0 m 87 ls []) rfl ?_
      obtain ⟨S1, hS1⟩ : ∃ z : St, z = S_a S (10 + 4) a1 0 := ⟨_, rfl⟩
      rw [← hS1] at hP hD
      have hIS1 : Bd t S1 := by rw [hS1]; exact Bd_a hI (Nat.zero_le _)
      have hBS1 := hIS1.1
      have hg0 : S1.2.1 0 ≤ 8 := hIS1.2.1 0
      have hg1 : S1.2.1 1 ≤ 9999 := hIS1.2.1 1
      have hg2 : S1.2.1 2 ≤ 60 := hIS1.2.1 2
      have hg3 : S1.2.1 3 ≤ 60 := hIS1.2.1 3
      have hg4 : S1.2.1 4 ≤ 80 := hIS1.2.1 4
      have hg5 : S1.2.1 5 ≤ 20 := hIS1.2.1 5
      have hg6 : S1.2.1 6 ≤ 80 := hIS1.2.1 6
      have hg7 : S1.2.1 7 ≤ 10 := hIS1.2.1 7
      have hg8 : t ≤ 512 := hIS1.2.2
      refine lv_aload_n hx hb d_X_deliver_87 rfl (lv_at hl 1 rfl) ?_
      refine lv_iload_n hx hb d_X_deliver_88 rfl (lv_at hl 0 rfl) ?_
      refine lv_iload_n hx hb d_X_deliver_89 rfl (lv_at hl 3 rfl) ?_
      refine lv_aload_n hx hb d_X_deliver_90 rfl (lv_at hl 1 rfl) ?_
      refine va_get (D := (dC, dI)) (ci := 0) (v := .ref (q 3)) (C := R_X) (T := F_X) (N := 12) hx hb hts i_X hown hK hP 0 rfl rfl 2 (by decide) (hts _ wd_59) (fun _ h9 => h9) rfl d_X_deliver_91 ?_
      refine lv_iload_n hx hb d_X_deliver_94 rfl (lv_at hl 2 rfl) ?_
      refine lv_iconst (v := nI 2) hx hb d_X_deliver_95 (by decide) ?_
      refine pu_go (va_runV (As := [.int (nI a1), .int (nI 2)]) (rest := [.int (nI a2), .int (nI (S.1 10 a1)), .ref (q 0)]) ⟨hx, hb, hml, hown, hts⟩ (c_W_at l dC dI cI (q 3) (q 13) 80 (S1.2.1 4) 400 (rowf S1.1 10) a1 2 (by omega) (by decide)) (cwV 2 hts (gi_V wd_117 wd_118 wd_119 wd_2 wd_120) rfl rfl rfl (by decide +kernel) ⟨Nat.le_of_ble_eq_true rfl, Nat.le_of_ble_eq_true rfl⟩) (pu_preV hK (hP.sub [3, 13] rfl) (ci := 1) (q0 := 0) rfl rfl) rfl rfl hl.1 rfl (lv_room (Nat.le_of_ble_eq_true rfl)) d_X_deliver_96 ⟨Nat.le_of_ble_eq_true rfl, Nat.le_of_ble_eq_true rfl⟩) ?_
      refine nv_as (nI (S1.1 12 a1)) (rowf_at (by decide)) ?_
      have hb5 : S1.1 12 a1 ≤ 9999 := hBS1 12 _
      have r12 : S1.1 12 a1 = S.1 12 a1 := by rw [hS1]; rfl
      refine wr_goA (va_runV (As := [.int (nI (S.1 10 a1)), .int (nI a2), .int (nI (S1.1 12 a1))]) (rest := []) ⟨hx, hb, hml, hown, hts⟩ (c_X_addUpToMost l dC dI H.size cI q S1 t hIS1 (S.1 10 a1) a2 (S1.1 12 a1) (by omega) (by omega) (by omega)) (cwV 3 hts (gi_V wd_343 wd_345 wp_13 wd_1 wd_346) rfl rfl rfl (by decide +kernel) ⟨Nat.le_of_ble_eq_true rfl, Nat.le_of_ble_eq_true rfl⟩) (wr_preV hK hP hD (ci := 0) (q0 := 0) rfl rfl) rfl rfl hl.1 rfl (lv_room (Nat.le_of_ble_eq_true rfl)) d_X_deliver_99 ⟨Nat.le_of_ble_eq_true rfl, Nat.le_of_ble_eq_true rfl⟩) hD hS hA wX_adr (fun H locs hP hD hS => ?_)
      refine W.eq (g2 := F0 m 102 ls []) rfl ?_
      obtain ⟨S2, hS2⟩ : ∃ z : St, z = addUp S1 (S.1 10 a1) a2 (S1.1 12 a1) := ⟨_, rfl⟩
      rw [← hS2] at hP hD
      refine lv_aload_n hx hb d_X_deliver_102 rfl (lv_at hl 1 rfl) ?_
      refine va_get (D := (dC, dI)) (ci := 0) (v := .ref (q 7)) (C := R_X) (T := F_X) (N := 12) hx hb hts i_X hown hK hP 0 rfl rfl 6 (by decide) (hts _ wd_63) (fun _ h9 => h9) rfl d_X_deliver_103 ?_
      refine lv_iload_n hx hb d_X_deliver_106 rfl (lv_at hl 0 rfl) ?_
      refine lv_iload_n hx hb d_X_deliver_107 rfl (lv_at hl 3 rfl) ?_
      refine pu_go (va_runS (As := [.int (nI (S.1 10 a1)), .int (nI a2)]) (rest := [.ref (q 7)]) ⟨hx, hb, hml, hown, hts⟩ (c_X_place l dC dI (S.1 10 a1) a2) (cwS 2 hts (gi_S wd_125 wd_126 wd_1 wd_127) rfl rfl rfl (by decide +kernel) ⟨Nat.le_of_ble_eq_true rfl, Nat.le_of_ble_eq_true rfl⟩) (pu_preS (hK.sub (tys' := []) [] rfl) (fun k q h => by simp at h)) rfl rfl hl.1 rfl (lv_room (Nat.le_of_ble_eq_true rfl)) d_X_deliver_108 ⟨Nat.le_of_ble_eq_true rfl, Nat.le_of_ble_eq_true rfl⟩) ?_
      refine nv_iald (v := nI (S2.1 25 ((S.1 10 a1) * 60 + a2))) hx hb hK hP 7 0 rfl rfl (by omega) (by decide) rfl d_X_deliver_111 ?_
      have ho : op_deliver S (nI a1) (nI a2) = (0, nI (min 9999 (S.1 25 (S.1 10 a1 * 60 + a2) + S.1 12 a1)), addUp (S_a S 14 a1 0) (S.1 10 a1) a2 (S.1 12 a1)) := by simp only [op_deliver, ma1, if_pos p5, ma2, if_pos p10, if_pos c23, if_pos c54]
      rw [ho]
      refine nv_as (nI (min 9999 (S.1 25 (S.1 10 a1 * 60 + a2) + S.1 12 a1))) (by rw [hS2, hS1]; exact congrArg nI Sa_s) ?_
      refine W.widen (k := 3) (n := 18) (Nat.le_of_ble_eq_true rfl) (Nat.le_of_ble_eq_true rfl) ?_
      have hP9 : va_P (dC, dI) classes (wX q cI (addUp (S_a S 14 a1 0) (S.1 10 a1) a2 (S.1 12 a1))) H := by rw [hS2, hS1] at hP; exact hP
      exact vx_ret (W.iret hx hb hr (fun t ht hW => ⟨rfl, rfl, by rw [ht]; exact hP9, hS.F ht⟩) hS.2.2 d_X_deliver_112)
    · exact x_throw (A := A0) hx hb hst hown hts hG ex_is sx_147 hnt (hl.1.trans hml.symm) hlocks d_X_deliver_57 d_X_deliver_60 d_X_deliver_61 d_X_deliver_63 d_X_deliver_66 (Nat.le_of_ble_eq_true rfl) (Nat.le_of_ble_eq_true rfl) (Nat.le_of_ble_eq_true rfl) (Nat.le_of_ble_eq_true rfl) (Nat.le_of_ble_eq_true rfl) (Nat.le_of_ble_eq_true rfl) (fun t h1 h2 => ⟨by simp only [op_deliver, ma1, if_pos p5, ma2, if_pos p10, if_pos c23, if_neg c54]; decide, by simp only [op_deliver, ma1, if_pos p5, ma2, if_pos p10, if_pos c23, if_neg c54]; rfl, h1, h2⟩)
  · exact x_throw (A := A0) hx hb hst hown hts hG ex_is sx_145 hnt (hl.1.trans hml.symm) hlocks d_X_deliver_26 d_X_deliver_29 d_X_deliver_30 d_X_deliver_32 d_X_deliver_35 (Nat.le_of_ble_eq_true rfl) (Nat.le_of_ble_eq_true rfl) (Nat.le_of_ble_eq_true rfl) (Nat.le_of_ble_eq_true rfl) (Nat.le_of_ble_eq_true rfl) (Nat.le_of_ble_eq_true rfl) (fun t h1 h2 => ⟨by simp only [op_deliver, ma1, if_pos p5, ma2, if_pos p10, if_neg c23]; decide, by simp only [op_deliver, ma1, if_pos p5, ma2, if_pos p10, if_neg c23]; rfl, h1, h2⟩)
set_option maxHeartbeats 4000000 in
set_option maxRecDepth 100000 in
theorem c_X_second (l : Launch) (hst : l.stackTraces = false) (dC : Nat → ClassId) (dI : Nat → Nat → Nat) (A0 : Nat → Prop) (sz : Nat) (cI : ClassId) (q : Nat → Nat) (S : St) (t : Nat) (hI : Bd t S) (x y : Int32) : vx_Met l y_X_second (.code y_X_second b_X_second 3 (some .int) :: bg) { frames := 8, cells := 4, slots := 24, locals := 132 } (xo_P (dC, dI) classes [(cI, .int)] A0 (wX q cI S) sz [.ref (q 0), .int x, .int y]) (xo_Q (op_second S x y) (some (.int (op_second S x y).2.1)) (dC, dI) classes (wX q cI (op_second S x y).2.2) (va_A (wX q cI S) sz)) (xo_X (op_second S x y) [E_ia, E_is, E_uo]) 4 24 (va_A (wX q cI S) sz) := by
  refine vx_ofW (cc := b_X_second) (maxL := 3) (ret := (some .int)) (by decide) rfl ?_
  intro p e s m args below meth c s₁ B hml hnt hv
  obtain ⟨rfl, hsz, hP, hK, hD0, hG⟩ := hv
  subst hsz
  have hD := hD0.self (sz := s.heap.size)
  generalize hAe : va_A (wX q cI S) s.heap.size = A at hD ⊢
  have hA : ∀ q : Nat, s.heap.size ≤ q → A q := fun q h => by rw [← hAe]; exact Or.inr h
  have hS : va_S A s.heap s.heap [] := va_S.rf
  have hx := B.exec
  have hb := B.bytes
  have hr := B.returns
  have hts := fun w (h : w ∈ bg) => atoms_spec (ws := .code y_X_second b_X_second 3 (some .int) :: bg) B.pre w (List.mem_cons_of_mem _ h)
  have hown : s.vm.findClass R_X = some m.cls := findClass_of_methodNamed B.named
  have hlocks := B.notSynchronized
  have hl := lv_entry ([.ref (q 0), .int x, .int y]) (n := 3) (Nat.le_of_ble_eq_true rfl)
  rw [lg_entry_eq]
  generalize (lg_sl ([.ref (q 0), .int x, .int y]) ++ List.replicate (3 - (lg_sl ([.ref (q 0), .int x, .int y])).length) Slot.unset).toArray = ls at hl ⊢
  have hl : lv_has ls 3 [(0, .ref (q 0)), (1, .int x), (2, .int y)] := hl
  have hB := hI.1
  have hg0 : S.2.1 0 ≤ 8 := hI.2.1 0
  have hg1 : S.2.1 1 ≤ 9999 := hI.2.1 1
  have hg2 : S.2.1 2 ≤ 60 := hI.2.1 2
  have hg3 : S.2.1 3 ≤ 60 := hI.2.1 3
  have hg4 : S.2.1 4 ≤ 80 := hI.2.1 4
  have hg5 : S.2.1 5 ≤ 20 := hI.2.1 5
  have hg6 : S.2.1 6 ≤ 80 := hI.2.1 6
  have hg7 : S.2.1 7 ≤ 10 := hI.2.1 7
  have hg8 : t ≤ 512 := hI.2.2
  refine lv_aload_n hx hb d_X_second_0 rfl (lv_at hl 0 rfl) ?_
  refine va_get (D := (dC, dI)) (ci := 0) (v := .ref (q 4)) (C := R_X) (T := F_X) (N := 12) hx hb hts i_X hown hK hP 0 rfl rfl 3 (by decide) (hts _ wd_60) (fun _ h9 => h9) rfl d_X_second_1 ?_
  refine lv_iload_n hx hb d_X_second_4 rfl (lv_at hl 1 rfl) ?_
  refine nd_go (vx_runS (As := [.ref (q 4), .int x]) (rest := []) ⟨hx, hb, hml, hown, hts⟩ (c_X_needRow l hst dC dI A0 cI (q 4) (q 14) 20 (S.2.1 5) 100 (rowf S.1 15) x (by omega)) (cwS 2 hts (gi_S wd_292 wd_293 wd_1 wd_294) rfl rfl rfl (by decide +kernel) ⟨Nat.le_of_ble_eq_true rfl, Nat.le_of_ble_eq_true rfl⟩) (nd_preS hK (hP.sub [4, 14] rfl) hG) rfl rfl hl.1 rfl (lv_room (Nat.le_of_ble_eq_true rfl)) d_X_second_5 ⟨Nat.le_of_ble_eq_true rfl, Nat.le_of_ble_eq_true rfl⟩) (fun p5 ce q9 H1 h1 h2 h3 h4 h5 => vx_out (fun x hx => (hnt x hx).elim) hlocks h3 h4 h5 (fun t ht hv => ⟨by simp only [op_second, if_neg p5]; decide, by simp only [op_second, if_neg p5]; rfl, by rw [ht]; exact h1, fun z hz => by rw [ht]; exact h2 z hz⟩) (fun q h => nomatch h) (Nat.le_of_ble_eq_true rfl) (Nat.le_of_ble_eq_true rfl)) (fun p5 => ?_)
  obtain ⟨a1, ha1, rfl⟩ := ok_ex p5
  have ma1 : nn (nI a1) = a1 := nn_of (by omega)
  refine lv_iload_n hx hb d_X_second_8 rfl (lv_at hl 2 rfl) ?_
  refine nd_go (vx_runS (As := [.int y]) (rest := []) ⟨hx, hb, hml, hown, hts⟩ (c_X_needPerson l hst dC dI A0 y) (cwS 1 hts (gi_S wd_422 wd_423 wd_1 wd_424) rfl rfl rfl (by decide +kernel) ⟨Nat.le_of_ble_eq_true rfl, Nat.le_of_ble_eq_true rfl⟩) (nd_preS (hK.sub (tys' := []) [] rfl) (fun k q h => by simp at h) hG) rfl rfl hl.1 rfl (lv_room (Nat.le_of_ble_eq_true rfl)) d_X_second_9 ⟨Nat.le_of_ble_eq_true rfl, Nat.le_of_ble_eq_true rfl⟩) (fun p9 ce q9 H1 h1 h2 h3 h4 h5 => vx_out (fun x hx => (hnt x hx).elim) hlocks h3 h4 h5 (fun t ht hv => ⟨by simp only [op_second, ma1, if_pos p5, if_neg p9]; decide, by simp only [op_second, ma1, if_pos p5, if_neg p9]; rfl, by rw [ht]; exact h1, fun z hz => by rw [ht]; exact h2 z hz⟩) (fun q h => nomatch h) (Nat.le_of_ble_eq_true rfl) (Nat.le_of_ble_eq_true rfl)) (fun p9 => ?_)
  obtain ⟨a2, ha2, rfl⟩ := ok_ex p9
  have ma2 : nn (nI a2) = a2 := nn_of (by omega)
  refine lv_aload_n hx hb d_X_second_12 rfl (lv_at hl 0 rfl) ?_
  refine va_get (D := (dC, dI)) (ci := 0) (v := .ref (q 4)) (C := R_X) (T := F_X) (N := 12) hx hb hts i_X hown hK hP 0 rfl rfl 3 (by decide) (hts _ wd_60) (fun _ h9 => h9) rfl d_X_second_13 ?_
  refine lv_iload_n hx hb d_X_second_16 rfl (lv_at hl 1 rfl) ?_
  refine lv_iconst (v := nI 4) hx hb d_X_second_17 (by decide) ?_
  refine pu_go (va_runV (As := [.int (nI a1), .int (nI 4)]) (rest := []) ⟨hx, hb, hml, hown, hts⟩ (c_W_at l dC dI cI (q 4) (q 14) 20 (S.2.1 5) 100 (rowf S.1 15) a1 4 (by omega) (by decide)) (cwV 2 hts (gi_V wd_117 wd_118 wd_119 wd_2 wd_120) rfl rfl rfl (by decide +kernel) ⟨Nat.le_of_ble_eq_true rfl, Nat.le_of_ble_eq_true rfl⟩) (pu_preV hK (hP.sub [4, 14] rfl) (ci := 1) (q0 := 0) rfl rfl) rfl rfl hl.1 rfl (lv_room (Nat.le_of_ble_eq_true rfl)) d_X_second_18 ⟨Nat.le_of_ble_eq_true rfl, Nat.le_of_ble_eq_true rfl⟩) ?_
  refine nv_as (nI (S.1 19 a1)) (rowf_at (by decide)) ?_
  have hb1 : S.1 19 a1 ≤ 1 := hB 19 _
  refine lv_iconst (v := nI 1) hx hb d_X_second_21 (by decide) ?_
  refine nv_ceq (tgt := 35) hx hb (by omega) (by omega) d_X_second_22 (by decide) (fun c22 => ?_) (fun c22 => ?_)
  · refine lv_aload_n hx hb d_X_second_35 rfl (lv_at hl 0 rfl) ?_
    refine va_get (D := (dC, dI)) (ci := 0) (v := .ref (q 4)) (C := R_X) (T := F_X) (N := 12) hx hb hts i_X hown hK hP 0 rfl rfl 3 (by decide) (hts _ wd_60) (fun _ h9 => h9) rfl d_X_second_36 ?_
    refine lv_iload_n hx hb d_X_second_39 rfl (lv_at hl 1 rfl) ?_
    refine lv_iconst (v := nI 3) hx hb d_X_second_40 (by decide) ?_
    refine pu_go (va_runV (As := [.int (nI a1), .int (nI 3)]) (rest := []) ⟨hx, hb, hml, hown, hts⟩ (c_W_at l dC dI cI (q 4) (q 14) 20 (S.2.1 5) 100 (rowf S.1 15) a1 3 (by omega) (by decide)) (cwV 2 hts (gi_V wd_117 wd_118 wd_119 wd_2 wd_120) rfl rfl rfl (by decide +kernel) ⟨Nat.le_of_ble_eq_true rfl, Nat.le_of_ble_eq_true rfl⟩) (pu_preV hK (hP.sub [4, 14] rfl) (ci := 1) (q0 := 0) rfl rfl) rfl rfl hl.1 rfl (lv_room (Nat.le_of_ble_eq_true rfl)) d_X_second_41 ⟨Nat.le_of_ble_eq_true rfl, Nat.le_of_ble_eq_true rfl⟩) ?_
    refine nv_as (nI (S.1 18 a1)) (rowf_at (by decide)) ?_
    have hb2 : S.1 18 a1 ≤ 19 := hB 18 _
    refine lv_iload_n hx hb d_X_second_44 rfl (lv_at hl 2 rfl) ?_
    refine nv_cne (tgt := 58) hx hb (by omega) (by omega) d_X_second_45 (by decide) (fun c45 => ?_) (fun c45 => ?_)
    · refine lv_aload_n hx hb d_X_second_58 rfl (lv_at hl 0 rfl) ?_
      refine va_get (D := (dC, dI)) (ci := 0) (v := .ref (q 3)) (C := R_X) (T := F_X) (N := 12) hx hb hts i_X hown hK hP 0 rfl rfl 2 (by decide) (hts _ wd_59) (fun _ h9 => h9) rfl d_X_second_59 ?_
      refine nd_go (vx_runS (As := [.ref (q 3)]) (rest := []) ⟨hx, hb, hml, hown, hts⟩ (c_X_needRoom l hst dC dI A0 cI (q 3) (q 13) 80 (S.2.1 4) 400 (rowf S.1 10) (by omega) (by omega)) (cwS 1 hts (gi_S wd_272 wd_273 wd_1 wd_274) rfl rfl rfl (by decide +kernel) ⟨Nat.le_of_ble_eq_true rfl, Nat.le_of_ble_eq_true rfl⟩) (nd_preS hK (hP.sub [3, 13] rfl) hG) rfl rfl hl.1 rfl (lv_room (Nat.le_of_ble_eq_true rfl)) d_X_second_62 ⟨Nat.le_of_ble_eq_true rfl, Nat.le_of_ble_eq_true rfl⟩) (fun p62 ce q9 H1 h1 h2 h3 h4 h5 => vx_out (fun x hx => (hnt x hx).elim) hlocks h3 h4 h5 (fun t ht hv => ⟨by simp only [op_second, ma1, if_pos p5, ma2, if_pos p9, if_pos c22, if_pos c45, if_neg p62]; decide, by simp only [op_second, ma1, if_pos p5, ma2, if_pos p9, if_pos c22, if_pos c45, if_neg p62]; rfl, by rw [ht]; exact h1, fun z hz => by rw [ht]; exact h2 z hz⟩) (fun q h => nomatch h) (Nat.le_of_ble_eq_true rfl) (Nat.le_of_ble_eq_true rfl)) (fun p62 => ?_)
      refine lv_aload_n hx hb d_X_second_65 rfl (lv_at hl 0 rfl) ?_
      refine va_get (D := (dC, dI)) (ci := 0) (v := .ref (q 4)) (C := R_X) (T := F_X) (N := 12) hx hb hts i_X hown hK hP 0 rfl rfl 3 (by decide) (hts _ wd_60) (fun _ h9 => h9) rfl d_X_second_66 ?_
      refine lv_iload_n hx hb d_X_second_69 rfl (lv_at hl 1 rfl) ?_
      refine lv_iconst (v := nI 4) hx hb d_X_second_70 (by decide) ?_
      refine lv_iconst (v := nI 0) hx hb d_X_second_71 (by decide) ?_
      refine wr_go (va_runV (As := [.int (nI a1), .int (nI 4), .int (nI 0)]) (rest := []) ⟨hx, hb, hml, hown, hts⟩ (c_W_put l dC dI s.heap.size cI (q 4) (q 14) 20 (S.2.1 5) 100 (rowf S.1 15) a1 4 (nI 0) (by omega) (by decide)) (cwV 3 hts (gi_V wd_342 wd_145 wd_146 wd_2 wd_147) rfl rfl rfl (by decide +kernel) ⟨Nat.le_of_ble_eq_true rfl, Nat.le_of_ble_eq_true rfl⟩) (wr_preV hK (hP.sub [4, 14] rfl) (hD.sub [4, 14] (by decide) rfl) (ci := 1) (q0 := 0) rfl rfl) rfl rfl hl.1 rfl (lv_room (Nat.le_of_ble_eq_true rfl)) d_X_second_72 ⟨Nat.le_of_ble_eq_true rfl, Nat.le_of_ble_eq_true rfl⟩) hP hD hS hA [4, 14] rfl rfl (wX q cI (S_a S (15 + 4) a1 0)) (wX_r15 (by decide)) rfl (fun H locs hP hD hS => ?_)
      refine W.eq (g2 := F0 m 75 ls []) rfl ?_
      obtain ⟨S1, hS1⟩ : ∃ z : St, z = S_a S (15 + 4) a1 0 := ⟨_, rfl⟩
      rw [← hS1] at hP hD
      have hIS1 : Bd t S1 := by rw [hS1]; exact Bd_a hI (Nat.zero_le _)
      have hBS1 := hIS1.1
      have hg0 : S1.2.1 0 ≤ 8 := hIS1.2.1 0
      have hg1 : S1.2.1 1 ≤ 9999 := hIS1.2.1 1
      have hg2 : S1.2.1 2 ≤ 60 := hIS1.2.1 2
      have hg3 : S1.2.1 3 ≤ 60 := hIS1.2.1 3
      have hg4 : S1.2.1 4 ≤ 80 := hIS1.2.1 4
      have hg5 : S1.2.1 5 ≤ 20 := hIS1.2.1 5
      have hg6 : S1.2.1 6 ≤ 80 := hIS1.2.1 6
      have hg7 : S1.2.1 7 ≤ 10 := hIS1.2.1 7
      have hg8 : t ≤ 512 := hIS1.2.2
      have r4 : S1.2.1 4 = S.2.1 4 := by rw [hS1]; rfl
      refine lv_aload_n hx hb d_X_second_75 rfl (lv_at hl 0 rfl) ?_
      refine lv_aload_n hx hb d_X_second_76 rfl (lv_at hl 0 rfl) ?_
      refine va_get (D := (dC, dI)) (ci := 0) (v := .ref (q 4)) (C := R_X) (T := F_X) (N := 12) hx hb hts i_X hown hK hP 0 rfl rfl 3 (by decide) (hts _ wd_60) (fun _ h9 => h9) rfl d_X_second_77 ?_
      refine lv_iload_n hx hb d_X_second_80 rfl (lv_at hl 1 rfl) ?_
      refine lv_iconst (v := nI 0) hx hb d_X_second_81 (by decide) ?_
      refine pu_go (va_runV (As := [.int (nI a1), .int (nI 0)]) (rest := [.ref (q 0)]) ⟨hx, hb, hml, hown, hts⟩ (c_W_at l dC dI cI (q 4) (q 14) 20 (S1.2.1 5) 100 (rowf S1.1 15) a1 0 (by omega) (by decide)) (cwV 2 hts (gi_V wd_117 wd_118 wd_119 wd_2 wd_120) rfl rfl rfl (by decide +kernel) ⟨Nat.le_of_ble_eq_true rfl, Nat.le_of_ble_eq_true rfl⟩) (pu_preV hK (hP.sub [4, 14] rfl) (ci := 1) (q0 := 0) rfl rfl) rfl rfl hl.1 rfl (lv_room (Nat.le_of_ble_eq_true rfl)) d_X_second_82 ⟨Nat.le_of_ble_eq_true rfl, Nat.le_of_ble_eq_true rfl⟩) ?_
      refine nv_as (nI (S1.1 15 a1)) (rowf_at (by decide)) ?_
      have hb3 : S1.1 15 a1 ≤ 7 := hBS1 15 _
      refine lv_aload_n hx hb d_X_second_85 rfl (lv_at hl 0 rfl) ?_
      refine va_get (D := (dC, dI)) (ci := 0) (v := .ref (q 4)) (C := R_X) (T := F_X) (N := 12) hx hb hts i_X hown hK hP 0 rfl rfl 3 (by decide) (hts _ wd_60) (fun _ h9 => h9) rfl d_X_second_86 ?_
      refine lv_iload_n hx hb d_X_second_89 rfl (lv_at hl 1 rfl) ?_
      refine lv_iconst (v := nI 1) hx hb d_X_second_90 (by decide) ?_
      refine pu_go (va_runV (As := [.int (nI a1), .int (nI 1)]) (rest := [.int (nI (S1.1 15 a1)), .ref (q 0)]) ⟨hx, hb, hml, hown, hts⟩ (c_W_at l dC dI cI (q 4) (q 14) 20 (S1.2.1 5) 100 (rowf S1.1 15) a1 1 (by omega) (by decide)) (cwV 2 hts (gi_V wd_117 wd_118 wd_119 wd_2 wd_120) rfl rfl rfl (by decide +kernel) ⟨Nat.le_of_ble_eq_true rfl, Nat.le_of_ble_eq_true rfl⟩) (pu_preV hK (hP.sub [4, 14] rfl) (ci := 1) (q0 := 0) rfl rfl) rfl rfl hl.1 rfl (lv_room (Nat.le_of_ble_eq_true rfl)) d_X_second_91 ⟨Nat.le_of_ble_eq_true rfl, Nat.le_of_ble_eq_true rfl⟩) ?_
      refine nv_as (nI (S1.1 16 a1)) (rowf_at (by decide)) ?_
      have hb4 : S1.1 16 a1 ≤ 9 := hBS1 16 _
      refine lv_aload_n hx hb d_X_second_94 rfl (lv_at hl 0 rfl) ?_
      refine va_get (D := (dC, dI)) (ci := 0) (v := .ref (q 4)) (C := R_X) (T := F_X) (N := 12) hx hb hts i_X hown hK hP 0 rfl rfl 3 (by decide) (hts _ wd_60) (fun _ h9 => h9) rfl d_X_second_95 ?_
      refine lv_iload_n hx hb d_X_second_98 rfl (lv_at hl 1 rfl) ?_
      refine lv_iconst (v := nI 2) hx hb d_X_second_99 (by decide) ?_
      refine pu_go (va_runV (As := [.int (nI a1), .int (nI 2)]) (rest := [.int (nI (S1.1 16 a1)), .int (nI (S1.1 15 a1)), .ref (q 0)]) ⟨hx, hb, hml, hown, hts⟩ (c_W_at l dC dI cI (q 4) (q 14) 20 (S1.2.1 5) 100 (rowf S1.1 15) a1 2 (by omega) (by decide)) (cwV 2 hts (gi_V wd_117 wd_118 wd_119 wd_2 wd_120) rfl rfl rfl (by decide +kernel) ⟨Nat.le_of_ble_eq_true rfl, Nat.le_of_ble_eq_true rfl⟩) (pu_preV hK (hP.sub [4, 14] rfl) (ci := 1) (q0 := 0) rfl rfl) rfl rfl hl.1 rfl (lv_room (Nat.le_of_ble_eq_true rfl)) d_X_second_100 ⟨Nat.le_of_ble_eq_true rfl, Nat.le_of_ble_eq_true rfl⟩) ?_
      refine nv_as (nI (S1.1 17 a1)) (rowf_at (by decide)) ?_
      have hb5 : S1.1 17 a1 ≤ 9999 := hBS1 17 _
      refine wr_goA (va_runV (As := [.int (nI (S1.1 15 a1)), .int (nI (S1.1 16 a1)), .int (nI (S1.1 17 a1))]) (rest := []) ⟨hx, hb, hml, hown, hts⟩ (c_X_addOrder l dC dI H.size cI q S1 t hIS1 (S1.1 15 a1) (S1.1 16 a1) (S1.1 17 a1) (by omega)) (cwV 3 hts (gi_V wd_136 wd_138 wp_5 wd_1 wd_139) rfl rfl rfl (by decide +kernel) ⟨Nat.le_of_ble_eq_true rfl, Nat.le_of_ble_eq_true rfl⟩) (wr_preV hK hP hD (ci := 0) (q0 := 0) rfl rfl) rfl rfl hl.1 rfl (lv_room (Nat.le_of_ble_eq_true rfl)) d_X_second_103 ⟨Nat.le_of_ble_eq_true rfl, Nat.le_of_ble_eq_true rfl⟩) hD hS hA wX_adr (fun H locs hP hD hS => ?_)
      refine W.eq (g2 := F0 m 106 ls [.int (nI (S1.2.1 4))]) rfl ?_
      obtain ⟨S2, hS2⟩ : ∃ z : St, z = addOrd S1 (S1.1 15 a1) (S1.1 16 a1) (S1.1 17 a1) := ⟨_, rfl⟩
      rw [← hS2] at hP hD
      have ho : op_second S (nI a1) (nI a2) = (0, nI (S.2.1 4), addOrd (S_a S 19 a1 0) (S.1 15 a1) (S.1 16 a1) (S.1 17 a1)) := by simp only [op_second, ma1, if_pos p5, ma2, if_pos p9, if_pos c22, if_pos c45, if_pos p62]
      rw [ho]
      refine nv_as (nI (S.2.1 4)) (by rw [r4]) ?_
      refine W.widen (k := 4) (n := 24) (Nat.le_of_ble_eq_true rfl) (Nat.le_of_ble_eq_true rfl) ?_
      have hP9 : va_P (dC, dI) classes (wX q cI (addOrd (S_a S 19 a1 0) (S.1 15 a1) (S.1 16 a1) (S.1 17 a1))) H := by rw [hS2, hS1] at hP; exact hP
      exact vx_ret (W.iret hx hb hr (fun t ht hW => ⟨rfl, rfl, by rw [ht]; exact hP9, hS.F ht⟩) hS.2.2 d_X_second_106)
    · exact x_throw (A := A0) hx hb hst hown hts hG ex_is sx_160 hnt (hl.1.trans hml.symm) hlocks d_X_second_48 d_X_second_51 d_X_second_52 d_X_second_54 d_X_second_57 (Nat.le_of_ble_eq_true rfl) (Nat.le_of_ble_eq_true rfl) (Nat.le_of_ble_eq_true rfl) (Nat.le_of_ble_eq_true rfl) (Nat.le_of_ble_eq_true rfl) (Nat.le_of_ble_eq_true rfl) (fun t h1 h2 => ⟨by simp only [op_second, ma1, if_pos p5, ma2, if_pos p9, if_pos c22, if_neg (show ¬ S.1 18 a1 ≠ a2 from fun h => h c45)]; decide, by simp only [op_second, ma1, if_pos p5, ma2, if_pos p9, if_pos c22, if_neg (show ¬ S.1 18 a1 ≠ a2 from fun h => h c45)]; rfl, h1, h2⟩)
  · exact x_throw (A := A0) hx hb hst hown hts hG ex_is sx_158 hnt (hl.1.trans hml.symm) hlocks d_X_second_25 d_X_second_28 d_X_second_29 d_X_second_31 d_X_second_34 (Nat.le_of_ble_eq_true rfl) (Nat.le_of_ble_eq_true rfl) (Nat.le_of_ble_eq_true rfl) (Nat.le_of_ble_eq_true rfl) (Nat.le_of_ble_eq_true rfl) (Nat.le_of_ble_eq_true rfl) (fun t h1 h2 => ⟨by simp only [op_second, ma1, if_pos p5, ma2, if_pos p9, if_neg c22]; decide, by simp only [op_second, ma1, if_pos p5, ma2, if_pos p9, if_neg c22]; rfl, h1, h2⟩)
set_option maxHeartbeats 4000000 in
set_option maxRecDepth 100000 in
theorem c_X_back (l : Launch) (hst : l.stackTraces = false) (dC : Nat → ClassId) (dI : Nat → Nat → Nat) (A0 : Nat → Prop) (sz : Nat) (cI : ClassId) (q : Nat → Nat) (S : St) (t : Nat) (hI : Bd t S) (x y n : Int32) : vx_Met l y_X_back (.code y_X_back b_X_back 4 (some .boolean) :: bg) { frames := 8, cells := 4, slots := 24, locals := 132 } (xo_P (dC, dI) classes [(cI, .int)] A0 (wX q cI S) sz [.ref (q 0), .int x, .int y, .int n]) (xo_Q (op_back S x y n) (some (.int (op_back S x y n).2.1)) (dC, dI) classes (wX q cI (op_back S x y n).2.2) (va_A (wX q cI S) sz)) (xo_X (op_back S x y n) [E_ia, E_io, E_uo]) 4 24 (va_A (wX q cI S) sz) := by
  refine vx_ofW (cc := b_X_back) (maxL := 4) (ret := (some .boolean)) (by decide) rfl ?_
  intro p e s m args below meth c s₁ B hml hnt hv
  obtain ⟨rfl, hsz, hP, hK, hD0, hG⟩ := hv
  subst hsz
  have hD := hD0.self (sz := s.heap.size)
  generalize hAe : va_A (wX q cI S) s.heap.size = A at hD ⊢
  have hA : ∀ q : Nat, s.heap.size ≤ q → A q := fun q h => by rw [← hAe]; exact Or.inr h
  have hS : va_S A s.heap s.heap [] := va_S.rf
  have hx := B.exec
  have hb := B.bytes
  have hr := B.returns
  have hts := fun w (h : w ∈ bg) => atoms_spec (ws := .code y_X_back b_X_back 4 (some .boolean) :: bg) B.pre w (List.mem_cons_of_mem _ h)
  have hown : s.vm.findClass R_X = some m.cls := findClass_of_methodNamed B.named
  have hlocks := B.notSynchronized
  have hl := lv_entry ([.ref (q 0), .int x, .int y, .int n]) (n := 4) (Nat.le_of_ble_eq_true rfl)
  rw [lg_entry_eq]
  generalize (lg_sl ([.ref (q 0), .int x, .int y, .int n]) ++ List.replicate (4 - (lg_sl ([.ref (q 0), .int x, .int y, .int n])).length) Slot.unset).toArray = ls at hl ⊢
  have hl : lv_has ls 4 [(0, .ref (q 0)), (1, .int x), (2, .int y), (3, .int n)] := hl
  have hB := hI.1
  have hg0 : S.2.1 0 ≤ 8 := hI.2.1 0
  have hg1 : S.2.1 1 ≤ 9999 := hI.2.1 1
  have hg2 : S.2.1 2 ≤ 60 := hI.2.1 2
  have hg3 : S.2.1 3 ≤ 60 := hI.2.1 3
  have hg4 : S.2.1 4 ≤ 80 := hI.2.1 4
  have hg5 : S.2.1 5 ≤ 20 := hI.2.1 5
  have hg6 : S.2.1 6 ≤ 80 := hI.2.1 6
  have hg7 : S.2.1 7 ≤ 10 := hI.2.1 7
  have hg8 : t ≤ 512 := hI.2.2
  refine lv_aload_n hx hb d_X_back_0 rfl (lv_at hl 0 rfl) ?_
  refine lv_iload_n hx hb d_X_back_1 rfl (lv_at hl 1 rfl) ?_
  refine nd_go (vx_runV (As := [.int x]) (rest := []) ⟨hx, hb, hml, hown, hts⟩ (c_X_needStore l hst dC dI A0 cI q S t hI x) (cwV 1 hts (gi_V wd_283 wd_285 wp_7 wd_1 wd_286) rfl rfl rfl (by decide +kernel) ⟨Nat.le_of_ble_eq_true rfl, Nat.le_of_ble_eq_true rfl⟩) (nd_preV hK hP hG (ci := 0) (q0 := 0) rfl rfl) rfl rfl hl.1 rfl (lv_room (Nat.le_of_ble_eq_true rfl)) d_X_back_2 ⟨Nat.le_of_ble_eq_true rfl, Nat.le_of_ble_eq_true rfl⟩) (fun p2 ce q9 H1 h1 h2 h3 h4 h5 => vx_out (fun x hx => (hnt x hx).elim) hlocks h3 h4 h5 (fun t ht hv => ⟨by simp only [op_back, if_neg p2]; decide, by simp only [op_back, if_neg p2]; rfl, by rw [ht]; exact h1, fun z hz => by rw [ht]; exact h2 z hz⟩) (fun q h => nomatch h) (Nat.le_of_ble_eq_true rfl) (Nat.le_of_ble_eq_true rfl)) (fun p2 => ?_)
  obtain ⟨a1, ha1, rfl⟩ := ok_ex p2
  have ma1 : nn (nI a1) = a1 := nn_of (by omega)
  refine lv_aload_n hx hb d_X_back_5 rfl (lv_at hl 0 rfl) ?_
  refine lv_iload_n hx hb d_X_back_6 rfl (lv_at hl 2 rfl) ?_
  refine nd_go (vx_runV (As := [.int y]) (rest := []) ⟨hx, hb, hml, hown, hts⟩ (c_X_needLot l hst dC dI A0 cI q S t hI y) (cwV 1 hts (gi_V wd_288 wd_290 wp_8 wd_1 wd_291) rfl rfl rfl (by decide +kernel) ⟨Nat.le_of_ble_eq_true rfl, Nat.le_of_ble_eq_true rfl⟩) (nd_preV hK hP hG (ci := 0) (q0 := 0) rfl rfl) rfl rfl hl.1 rfl (lv_room (Nat.le_of_ble_eq_true rfl)) d_X_back_7 ⟨Nat.le_of_ble_eq_true rfl, Nat.le_of_ble_eq_true rfl⟩) (fun p7 ce q9 H1 h1 h2 h3 h4 h5 => vx_out (fun x hx => (hnt x hx).elim) hlocks h3 h4 h5 (fun t ht hv => ⟨by simp only [op_back, ma1, if_pos p2, if_neg p7]; decide, by simp only [op_back, ma1, if_pos p2, if_neg p7]; rfl, by rw [ht]; exact h1, fun z hz => by rw [ht]; exact h2 z hz⟩) (fun q h => nomatch h) (Nat.le_of_ble_eq_true rfl) (Nat.le_of_ble_eq_true rfl)) (fun p7 => ?_)
  obtain ⟨a2, ha2, rfl⟩ := ok_ex p7
  have ma2 : nn (nI a2) = a2 := nn_of (by omega)
  refine lv_iload_n hx hb d_X_back_10 rfl (lv_at hl 3 rfl) ?_
  refine lv_iconst (v := nI 1) hx hb d_X_back_11 (by decide) ?_
  refine lv_sipush (v := nI 9999) hx hb d_X_back_12 (by decide) ?_
  refine nd_go (vx_runS (As := [.int n, .int (nI 1), .int (nI 9999)]) (rest := []) ⟨hx, hb, hml, hown, hts⟩ (c_X_needRange l hst dC dI A0 n 1 9999 (by omega) (by omega)) (cwS 3 hts (gi_S wd_253 wd_254 wd_1 wd_255) rfl rfl rfl (by decide +kernel) ⟨Nat.le_of_ble_eq_true rfl, Nat.le_of_ble_eq_true rfl⟩) (nd_preS (hK.sub (tys' := []) [] rfl) (fun k q h => by simp at h) hG) rfl rfl hl.1 rfl (lv_room (Nat.le_of_ble_eq_true rfl)) d_X_back_15 ⟨Nat.le_of_ble_eq_true rfl, Nat.le_of_ble_eq_true rfl⟩) (fun p15 ce q9 H1 h1 h2 h3 h4 h5 => vx_out (fun x hx => (hnt x hx).elim) hlocks h3 h4 h5 (fun t ht hv => ⟨by simp only [op_back, ma1, if_pos p2, ma2, if_pos p7, if_neg p15]; decide, by simp only [op_back, ma1, if_pos p2, ma2, if_pos p7, if_neg p15]; rfl, by rw [ht]; exact h1, fun z hz => by rw [ht]; exact h2 z hz⟩) (fun q h => nomatch h) (Nat.le_of_ble_eq_true rfl) (Nat.le_of_ble_eq_true rfl)) (fun p15 => ?_)
  obtain ⟨a3, ga3, ha3, rfl⟩ := rg_ex p15
  have ma3 : nn (nI a3) = a3 := nn_of (by omega)
  refine lv_aload_n hx hb d_X_back_18 rfl (lv_at hl 0 rfl) ?_
  refine va_get (D := (dC, dI)) (ci := 0) (v := .ref (q 1)) (C := R_X) (T := F_X) (N := 12) hx hb hts i_X hown hK hP 0 rfl rfl 0 (by decide) (hts _ wd_57) (fun _ h9 => h9) rfl d_X_back_19 ?_
  refine lv_iload_n hx hb d_X_back_22 rfl (lv_at hl 2 rfl) ?_
  refine lv_iconst (v := nI 2) hx hb d_X_back_23 (by decide) ?_
  refine pu_go (va_runV (As := [.int (nI a2), .int (nI 2)]) (rest := []) ⟨hx, hb, hml, hown, hts⟩ (c_W_at l dC dI cI (q 1) (q 11) 60 (S.2.1 2) 300 (rowf S.1 0) a2 2 (by omega) (by decide)) (cwV 2 hts (gi_V wd_117 wd_118 wd_119 wd_2 wd_120) rfl rfl rfl (by decide +kernel) ⟨Nat.le_of_ble_eq_true rfl, Nat.le_of_ble_eq_true rfl⟩) (pu_preV hK (hP.sub [1, 11] rfl) (ci := 1) (q0 := 0) rfl rfl) rfl rfl hl.1 rfl (lv_room (Nat.le_of_ble_eq_true rfl)) d_X_back_24 ⟨Nat.le_of_ble_eq_true rfl, Nat.le_of_ble_eq_true rfl⟩) ?_
  refine nv_as (nI (S.1 2 a2)) (rowf_at (by decide)) ?_
  have hb1 : S.1 2 a2 ≤ 9999 * t := hB 2 _
  refine lv_iload_n hx hb d_X_back_27 rfl (lv_at hl 3 rfl) ?_
  refine nv_cge (tgt := 33) hx hb (by omega) (by omega) d_X_back_28 (by decide) (fun c28 => ?_) (fun c28 => ?_)
  · refine lv_aload_n hx hb d_X_back_33 rfl (lv_at hl 0 rfl) ?_
    refine lv_iload_n hx hb d_X_back_34 rfl (lv_at hl 1 rfl) ?_
    refine lv_iload_n hx hb d_X_back_35 rfl (lv_at hl 2 rfl) ?_
    refine lv_iload_n hx hb d_X_back_36 rfl (lv_at hl 3 rfl) ?_
    refine nd_go (vx_runV (As := [.int (nI a1), .int (nI a2), .int (nI a3)]) (rest := []) ⟨hx, hb, hml, hown, hts⟩ (c_X_needPlace l hst dC dI A0 cI q S t hI a1 a2 a3 (by omega) (by omega) (by omega)) (cwV 3 hts (gi_V wd_300 wd_302 wp_9 wd_1 wd_303) rfl rfl rfl (by decide +kernel) ⟨Nat.le_of_ble_eq_true rfl, Nat.le_of_ble_eq_true rfl⟩) (nd_preV hK hP hG (ci := 0) (q0 := 0) rfl rfl) rfl rfl hl.1 rfl (lv_room (Nat.le_of_ble_eq_true rfl)) d_X_back_37 ⟨Nat.le_of_ble_eq_true rfl, Nat.le_of_ble_eq_true rfl⟩) (fun p37 ce q9 H1 h1 h2 h3 h4 h5 => vx_out (fun x hx => (hnt x hx).elim) hlocks h3 h4 h5 (fun t ht hv => ⟨by simp only [op_back, ma1, if_pos p2, ma2, if_pos p7, ma3, if_pos p15, if_neg (Nat.not_lt.mpr c28), if_neg p37]; decide, by simp only [op_back, ma1, if_pos p2, ma2, if_pos p7, ma3, if_pos p15, if_neg (Nat.not_lt.mpr c28), if_neg p37]; rfl, by rw [ht]; exact h1, fun z hz => by rw [ht]; exact h2 z hz⟩) (fun q h => nomatch h) (Nat.le_of_ble_eq_true rfl) (Nat.le_of_ble_eq_true rfl)) (fun p37 => ?_)
    refine lv_aload_n hx hb d_X_back_40 rfl (lv_at hl 0 rfl) ?_
    refine va_get (D := (dC, dI)) (ci := 0) (v := .ref (q 1)) (C := R_X) (T := F_X) (N := 12) hx hb hts i_X hown hK hP 0 rfl rfl 0 (by decide) (hts _ wd_57) (fun _ h9 => h9) rfl d_X_back_41 ?_
    refine lv_iload_n hx hb d_X_back_44 rfl (lv_at hl 2 rfl) ?_
    refine lv_iconst (v := nI 2) hx hb d_X_back_45 (by decide) ?_
    refine lv_aload_n hx hb d_X_back_46 rfl (lv_at hl 0 rfl) ?_
    refine va_get (D := (dC, dI)) (ci := 0) (v := .ref (q 1)) (C := R_X) (T := F_X) (N := 12) hx hb hts i_X hown hK hP 0 rfl rfl 0 (by decide) (hts _ wd_57) (fun _ h9 => h9) rfl d_X_back_47 ?_
    refine lv_iload_n hx hb d_X_back_50 rfl (lv_at hl 2 rfl) ?_
    refine lv_iconst (v := nI 2) hx hb d_X_back_51 (by decide) ?_
    refine pu_go (va_runV (As := [.int (nI a2), .int (nI 2)]) (rest := [.int (nI 2), .int (nI a2), .ref (q 1)]) ⟨hx, hb, hml, hown, hts⟩ (c_W_at l dC dI cI (q 1) (q 11) 60 (S.2.1 2) 300 (rowf S.1 0) a2 2 (by omega) (by decide)) (cwV 2 hts (gi_V wd_117 wd_118 wd_119 wd_2 wd_120) rfl rfl rfl (by decide +kernel) ⟨Nat.le_of_ble_eq_true rfl, Nat.le_of_ble_eq_true rfl⟩) (pu_preV hK (hP.sub [1, 11] rfl) (ci := 1) (q0 := 0) rfl rfl) rfl rfl hl.1 rfl (lv_room (Nat.le_of_ble_eq_true rfl)) d_X_back_52 ⟨Nat.le_of_ble_eq_true rfl, Nat.le_of_ble_eq_true rfl⟩) ?_
    refine nv_as (nI (S.1 2 a2)) (rowf_at (by decide)) ?_
    have hb2 : S.1 2 a2 ≤ 9999 * t := hB 2 _
    refine lv_iload_n hx hb d_X_back_55 rfl (lv_at hl 3 rfl) ?_
    refine nv_sub hx hb (by omega) d_X_back_56 ?_
    refine wr_go (va_runV (As := [.int (nI a2), .int (nI 2), .int (nI ((S.1 2 a2) - a3))]) (rest := []) ⟨hx, hb, hml, hown, hts⟩ (c_W_put l dC dI s.heap.size cI (q 1) (q 11) 60 (S.2.1 2) 300 (rowf S.1 0) a2 2 (nI ((S.1 2 a2) - a3)) (by omega) (by decide)) (cwV 3 hts (gi_V wd_342 wd_145 wd_146 wd_2 wd_147) rfl rfl rfl (by decide +kernel) ⟨Nat.le_of_ble_eq_true rfl, Nat.le_of_ble_eq_true rfl⟩) (wr_preV hK (hP.sub [1, 11] rfl) (hD.sub [1, 11] (by decide) rfl) (ci := 1) (q0 := 0) rfl rfl) rfl rfl hl.1 rfl (lv_room (Nat.le_of_ble_eq_true rfl)) d_X_back_57 ⟨Nat.le_of_ble_eq_true rfl, Nat.le_of_ble_eq_true rfl⟩) hP hD hS hA [1, 11] rfl rfl (wX q cI (S_a S (0 + 2) a2 ((S.1 2 a2) - a3))) (wX_r0 (by decide)) rfl (fun H locs hP hD hS => ?_)
    refine W.eq (g2 := F0 m 60 ls []) rfl ?_
    obtain ⟨S1, hS1⟩ : ∃ z : St, z = S_a S (0 + 2) a2 ((S.1 2 a2) - a3) := ⟨_, rfl⟩
    rw [← hS1] at hP hD
    have hIS1 : Bd t S1 := by rw [hS1]; exact Bd_a hI (show _ ≤ 9999 * t by omega)
    have hBS1 := hIS1.1
    have hg0 : S1.2.1 0 ≤ 8 := hIS1.2.1 0
    have hg1 : S1.2.1 1 ≤ 9999 := hIS1.2.1 1
    have hg2 : S1.2.1 2 ≤ 60 := hIS1.2.1 2
    have hg3 : S1.2.1 3 ≤ 60 := hIS1.2.1 3
    have hg4 : S1.2.1 4 ≤ 80 := hIS1.2.1 4
    have hg5 : S1.2.1 5 ≤ 20 := hIS1.2.1 5
    have hg6 : S1.2.1 6 ≤ 80 := hIS1.2.1 6
    have hg7 : S1.2.1 7 ≤ 10 := hIS1.2.1 7
    have hg8 : t ≤ 512 := hIS1.2.2
    refine lv_aload_n hx hb d_X_back_60 rfl (lv_at hl 0 rfl) ?_
    refine lv_iload_n hx hb d_X_back_61 rfl (lv_at hl 1 rfl) ?_
    refine lv_iload_n hx hb d_X_back_62 rfl (lv_at hl 2 rfl) ?_
    refine lv_iload_n hx hb d_X_back_63 rfl (lv_at hl 3 rfl) ?_
    refine wr_goA (va_runV (As := [.int (nI a1), .int (nI a2), .int (nI a3)]) (rest := []) ⟨hx, hb, hml, hown, hts⟩ (c_X_change l dC dI H.size cI q S1 t hIS1 a1 a2 (S1.1 25 (a1 * 60 + a2) + a3) (nI a3) (by omega) (by omega) (nI_add _ _)) (cwV 3 hts (gi_V wd_305 wd_307 wp_10 wd_1 wd_308) rfl rfl rfl (by decide +kernel) ⟨Nat.le_of_ble_eq_true rfl, Nat.le_of_ble_eq_true rfl⟩) (wr_preV hK hP hD (ci := 0) (q0 := 0) rfl rfl) rfl rfl hl.1 rfl (lv_room (Nat.le_of_ble_eq_true rfl)) d_X_back_64 ⟨Nat.le_of_ble_eq_true rfl, Nat.le_of_ble_eq_true rfl⟩) hD hS hA wX_adr (fun H locs hP hD hS => ?_)
    refine W.eq (g2 := F0 m 67 ls []) rfl ?_
    obtain ⟨S2, hS2⟩ : ∃ z : St, z = S_a S1 25 (a1 * 60 + a2) (S1.1 25 (a1 * 60 + a2) + a3) := ⟨_, rfl⟩
    rw [← hS2] at hP hD
    refine lv_iconst (v := nI 1) hx hb d_X_back_67 (by decide) ?_
    have ho : op_back S (nI a1) (nI a2) (nI a3) = (0, 1, S_a (S_a S 2 a2 (S.1 2 a2 - a3)) 25 (a1 * 60 + a2) (S.1 25 (a1 * 60 + a2) + a3)) := by simp only [op_back, ma1, if_pos p2, ma2, if_pos p7, ma3, if_pos p15, if_neg (Nat.not_lt.mpr c28), if_pos p37]
    rw [ho]
    refine nv_as (1) (by decide) ?_
    refine W.widen (k := 4) (n := 24) (Nat.le_of_ble_eq_true rfl) (Nat.le_of_ble_eq_true rfl) ?_
    have hP9 : va_P (dC, dI) classes (wX q cI (S_a (S_a S 2 a2 (S.1 2 a2 - a3)) 25 (a1 * 60 + a2) (S.1 25 (a1 * 60 + a2) + a3))) H := by rw [hS2, hS1] at hP; exact hP
    exact vx_ret (W.zret hx hb hr (by decide) (fun t ht hW => ⟨rfl, rfl, by rw [ht]; exact hP9, hS.F ht⟩) hS.2.2 d_X_back_68)
  · refine lv_iconst (v := nI 0) hx hb d_X_back_31 (by decide) ?_
    have ho : op_back S (nI a1) (nI a2) (nI a3) = (0, 0, S) := by simp only [op_back, ma1, if_pos p2, ma2, if_pos p7, ma3, if_pos p15, if_pos c28]
    rw [ho]
    refine nv_as (0) (by decide) ?_
    refine W.widen (k := 4) (n := 24) (Nat.le_of_ble_eq_true rfl) (Nat.le_of_ble_eq_true rfl) ?_
    have hP9 : va_P (dC, dI) classes (wX q cI (S)) s.heap := hP
    exact vx_ret (W.zret hx hb hr (by decide) (fun t ht hW => ⟨rfl, rfl, by rw [ht]; exact hP9, hS.F ht⟩) hS.2.2 d_X_back_32)
set_option maxHeartbeats 4000000 in
set_option maxRecDepth 100000 in
theorem c_X_waste (l : Launch) (hst : l.stackTraces = false) (dC : Nat → ClassId) (dI : Nat → Nat → Nat) (A0 : Nat → Prop) (sz : Nat) (cI : ClassId) (q : Nat → Nat) (S : St) (t : Nat) (hI : Bd t S) (x y n v : Int32) (hwa : ∀ j, S.1 3 j + 9999 ≤ 9999 * t) : vx_Met l y_X_waste (.code y_X_waste b_X_waste 5 (some .int) :: bg) { frames := 8, cells := 5, slots := 30, locals := 132 } (xo_P (dC, dI) classes [(cI, .int)] A0 (wX q cI S) sz [.ref (q 0), .int x, .int y, .int n, .int v]) (xo_Q (op_waste S x y n v) (some (.int (op_waste S x y n v).2.1)) (dC, dI) classes (wX q cI (op_waste S x y n v).2.2) (va_A (wX q cI S) sz)) (xo_X (op_waste S x y n v) [E_ia, E_io, E_is]) 5 30 (va_A (wX q cI S) sz) := by
  refine vx_ofW (cc := b_X_waste) (maxL := 5) (ret := (some .int)) (by decide) rfl ?_
  intro p e s m args below meth c s₁ B hml hnt hv
  obtain ⟨rfl, hsz, hP, hK, hD0, hG⟩ := hv
  subst hsz
  have hD := hD0.self (sz := s.heap.size)
  generalize hAe : va_A (wX q cI S) s.heap.size = A at hD ⊢
  have hA : ∀ q : Nat, s.heap.size ≤ q → A q := fun q h => by rw [← hAe]; exact Or.inr h
  have hS : va_S A s.heap s.heap [] := va_S.rf
  have hx := B.exec
  have hb := B.bytes
  have hr := B.returns
  have hts := fun w (h : w ∈ bg) => atoms_spec (ws := .code y_X_waste b_X_waste 5 (some .int) :: bg) B.pre w (List.mem_cons_of_mem _ h)
  have hown : s.vm.findClass R_X = some m.cls := findClass_of_methodNamed B.named
  have hlocks := B.notSynchronized
  have hl := lv_entry ([.ref (q 0), .int x, .int y, .int n, .int v]) (n := 5) (Nat.le_of_ble_eq_true rfl)
  rw [lg_entry_eq]
  generalize (lg_sl ([.ref (q 0), .int x, .int y, .int n, .int v]) ++ List.replicate (5 - (lg_sl ([.ref (q 0), .int x, .int y, .int n, .int v])).length) Slot.unset).toArray = ls at hl ⊢
  have hl : lv_has ls 5 [(0, .ref (q 0)), (1, .int x), (2, .int y), (3, .int n), (4, .int v)] := hl
  have hB := hI.1
  have hg0 : S.2.1 0 ≤ 8 := hI.2.1 0
  have hg1 : S.2.1 1 ≤ 9999 := hI.2.1 1
  have hg2 : S.2.1 2 ≤ 60 := hI.2.1 2
  have hg3 : S.2.1 3 ≤ 60 := hI.2.1 3
  have hg4 : S.2.1 4 ≤ 80 := hI.2.1 4
  have hg5 : S.2.1 5 ≤ 20 := hI.2.1 5
  have hg6 : S.2.1 6 ≤ 80 := hI.2.1 6
  have hg7 : S.2.1 7 ≤ 10 := hI.2.1 7
  have hg8 : t ≤ 512 := hI.2.2
  refine lv_aload_n hx hb d_X_waste_0 rfl (lv_at hl 0 rfl) ?_
  refine lv_iload_n hx hb d_X_waste_1 rfl (lv_at hl 1 rfl) ?_
  refine nd_go (vx_runV (As := [.int x]) (rest := []) ⟨hx, hb, hml, hown, hts⟩ (c_X_needStore l hst dC dI A0 cI q S t hI x) (cwV 1 hts (gi_V wd_283 wd_285 wp_7 wd_1 wd_286) rfl rfl rfl (by decide +kernel) ⟨Nat.le_of_ble_eq_true rfl, Nat.le_of_ble_eq_true rfl⟩) (nd_preV hK hP hG (ci := 0) (q0 := 0) rfl rfl) rfl rfl hl.1 rfl (lv_room (Nat.le_of_ble_eq_true rfl)) d_X_waste_2 ⟨Nat.le_of_ble_eq_true rfl, Nat.le_of_ble_eq_true rfl⟩) (fun p2 ce q9 H1 h1 h2 h3 h4 h5 => vx_out (fun x hx => (hnt x hx).elim) hlocks h3 h4 h5 (fun t ht hv => ⟨by simp only [op_waste, if_neg p2]; decide, by simp only [op_waste, if_neg p2]; rfl, by rw [ht]; exact h1, fun z hz => by rw [ht]; exact h2 z hz⟩) (fun q h => nomatch h) (Nat.le_of_ble_eq_true rfl) (Nat.le_of_ble_eq_true rfl)) (fun p2 => ?_)
  obtain ⟨a1, ha1, rfl⟩ := ok_ex p2
  have ma1 : nn (nI a1) = a1 := nn_of (by omega)
  refine lv_aload_n hx hb d_X_waste_5 rfl (lv_at hl 0 rfl) ?_
  refine lv_iload_n hx hb d_X_waste_6 rfl (lv_at hl 2 rfl) ?_
  refine nd_go (vx_runV (As := [.int y]) (rest := []) ⟨hx, hb, hml, hown, hts⟩ (c_X_needLot l hst dC dI A0 cI q S t hI y) (cwV 1 hts (gi_V wd_288 wd_290 wp_8 wd_1 wd_291) rfl rfl rfl (by decide +kernel) ⟨Nat.le_of_ble_eq_true rfl, Nat.le_of_ble_eq_true rfl⟩) (nd_preV hK hP hG (ci := 0) (q0 := 0) rfl rfl) rfl rfl hl.1 rfl (lv_room (Nat.le_of_ble_eq_true rfl)) d_X_waste_7 ⟨Nat.le_of_ble_eq_true rfl, Nat.le_of_ble_eq_true rfl⟩) (fun p7 ce q9 H1 h1 h2 h3 h4 h5 => vx_out (fun x hx => (hnt x hx).elim) hlocks h3 h4 h5 (fun t ht hv => ⟨by simp only [op_waste, ma1, if_pos p2, if_neg p7]; decide, by simp only [op_waste, ma1, if_pos p2, if_neg p7]; rfl, by rw [ht]; exact h1, fun z hz => by rw [ht]; exact h2 z hz⟩) (fun q h => nomatch h) (Nat.le_of_ble_eq_true rfl) (Nat.le_of_ble_eq_true rfl)) (fun p7 => ?_)
  obtain ⟨a2, ha2, rfl⟩ := ok_ex p7
  have ma2 : nn (nI a2) = a2 := nn_of (by omega)
  refine lv_iload_n hx hb d_X_waste_10 rfl (lv_at hl 3 rfl) ?_
  refine lv_iconst (v := nI 1) hx hb d_X_waste_11 (by decide) ?_
  refine lv_sipush (v := nI 9999) hx hb d_X_waste_12 (by decide) ?_
  refine nd_go (vx_runS (As := [.int n, .int (nI 1), .int (nI 9999)]) (rest := []) ⟨hx, hb, hml, hown, hts⟩ (c_X_needRange l hst dC dI A0 n 1 9999 (by omega) (by omega)) (cwS 3 hts (gi_S wd_253 wd_254 wd_1 wd_255) rfl rfl rfl (by decide +kernel) ⟨Nat.le_of_ble_eq_true rfl, Nat.le_of_ble_eq_true rfl⟩) (nd_preS (hK.sub (tys' := []) [] rfl) (fun k q h => by simp at h) hG) rfl rfl hl.1 rfl (lv_room (Nat.le_of_ble_eq_true rfl)) d_X_waste_15 ⟨Nat.le_of_ble_eq_true rfl, Nat.le_of_ble_eq_true rfl⟩) (fun p15 ce q9 H1 h1 h2 h3 h4 h5 => vx_out (fun x hx => (hnt x hx).elim) hlocks h3 h4 h5 (fun t ht hv => ⟨by simp only [op_waste, ma1, if_pos p2, ma2, if_pos p7, if_neg p15]; decide, by simp only [op_waste, ma1, if_pos p2, ma2, if_pos p7, if_neg p15]; rfl, by rw [ht]; exact h1, fun z hz => by rw [ht]; exact h2 z hz⟩) (fun q h => nomatch h) (Nat.le_of_ble_eq_true rfl) (Nat.le_of_ble_eq_true rfl)) (fun p15 => ?_)
  obtain ⟨a3, ga3, ha3, rfl⟩ := rg_ex p15
  have ma3 : nn (nI a3) = a3 := nn_of (by omega)
  refine lv_iload hx hb d_X_waste_18 (lv_at hl 4 rfl) ?_
  refine lv_iconst (v := nI 1) hx hb d_X_waste_20 (by decide) ?_
  refine lv_sipush (v := nI 9999) hx hb d_X_waste_21 (by decide) ?_
  refine nd_go (vx_runS (As := [.int v, .int (nI 1), .int (nI 9999)]) (rest := []) ⟨hx, hb, hml, hown, hts⟩ (c_X_needRange l hst dC dI A0 v 1 9999 (by omega) (by omega)) (cwS 3 hts (gi_S wd_253 wd_254 wd_1 wd_255) rfl rfl rfl (by decide +kernel) ⟨Nat.le_of_ble_eq_true rfl, Nat.le_of_ble_eq_true rfl⟩) (nd_preS (hK.sub (tys' := []) [] rfl) (fun k q h => by simp at h) hG) rfl rfl hl.1 rfl (lv_room (Nat.le_of_ble_eq_true rfl)) d_X_waste_24 ⟨Nat.le_of_ble_eq_true rfl, Nat.le_of_ble_eq_true rfl⟩) (fun p24 ce q9 H1 h1 h2 h3 h4 h5 => vx_out (fun x hx => (hnt x hx).elim) hlocks h3 h4 h5 (fun t ht hv => ⟨by simp only [op_waste, ma1, if_pos p2, ma2, if_pos p7, ma3, if_pos p15, if_neg p24]; decide, by simp only [op_waste, ma1, if_pos p2, ma2, if_pos p7, ma3, if_pos p15, if_neg p24]; rfl, by rw [ht]; exact h1, fun z hz => by rw [ht]; exact h2 z hz⟩) (fun q h => nomatch h) (Nat.le_of_ble_eq_true rfl) (Nat.le_of_ble_eq_true rfl)) (fun p24 => ?_)
  obtain ⟨a4, ga4, ha4, rfl⟩ := rg_ex p24
  have ma4 : nn (nI a4) = a4 := nn_of (by omega)
  refine lv_aload_n hx hb d_X_waste_27 rfl (lv_at hl 0 rfl) ?_
  refine lv_iload_n hx hb d_X_waste_28 rfl (lv_at hl 1 rfl) ?_
  refine lv_iload_n hx hb d_X_waste_29 rfl (lv_at hl 2 rfl) ?_
  refine lv_iload_n hx hb d_X_waste_30 rfl (lv_at hl 3 rfl) ?_
  refine nd_go (vx_runV (As := [.int (nI a1), .int (nI a2), .int (nI a3)]) (rest := []) ⟨hx, hb, hml, hown, hts⟩ (c_X_needThere l hst dC dI A0 cI q S t hI a1 a2 a3 (by omega) (by omega) (by omega)) (cwV 3 hts (gi_V wd_318 wd_320 wp_11 wd_1 wd_321) rfl rfl rfl (by decide +kernel) ⟨Nat.le_of_ble_eq_true rfl, Nat.le_of_ble_eq_true rfl⟩) (nd_preV hK hP hG (ci := 0) (q0 := 0) rfl rfl) rfl rfl hl.1 rfl (lv_room (Nat.le_of_ble_eq_true rfl)) d_X_waste_31 ⟨Nat.le_of_ble_eq_true rfl, Nat.le_of_ble_eq_true rfl⟩) (fun p31 ce q9 H1 h1 h2 h3 h4 h5 => vx_out (fun x hx => (hnt x hx).elim) hlocks h3 h4 h5 (fun t ht hv => ⟨by simp only [op_waste, ma1, if_pos p2, ma2, if_pos p7, ma3, if_pos p15, ma4, if_pos p24, if_neg p31]; decide, by simp only [op_waste, ma1, if_pos p2, ma2, if_pos p7, ma3, if_pos p15, ma4, if_pos p24, if_neg p31]; rfl, by rw [ht]; exact h1, fun z hz => by rw [ht]; exact h2 z hz⟩) (fun q h => nomatch h) (Nat.le_of_ble_eq_true rfl) (Nat.le_of_ble_eq_true rfl)) (fun p31 => ?_)
  refine lv_aload_n hx hb d_X_waste_34 rfl (lv_at hl 0 rfl) ?_
  refine lv_iload_n hx hb d_X_waste_35 rfl (lv_at hl 1 rfl) ?_
  refine lv_iload_n hx hb d_X_waste_36 rfl (lv_at hl 2 rfl) ?_
  refine lv_iload_n hx hb d_X_waste_37 rfl (lv_at hl 3 rfl) ?_
  refine lv_ineg hx hb d_X_waste_38 ?_
  refine wr_goA (va_runV (As := [.int (nI a1), .int (nI a2), .int (-(nI a3))]) (rest := []) ⟨hx, hb, hml, hown, hts⟩ (c_X_change l dC dI s.heap.size cI q S t hI a1 a2 (S.1 25 (a1 * 60 + a2) - a3) (-(nI a3)) (by omega) (by omega) (by rw [← Int32.sub_eq_add_neg]; exact pk_sub (by omega))) (cwV 3 hts (gi_V wd_305 wd_307 wp_10 wd_1 wd_308) rfl rfl rfl (by decide +kernel) ⟨Nat.le_of_ble_eq_true rfl, Nat.le_of_ble_eq_true rfl⟩) (wr_preV hK hP hD (ci := 0) (q0 := 0) rfl rfl) rfl rfl hl.1 rfl (lv_room (Nat.le_of_ble_eq_true rfl)) d_X_waste_39 ⟨Nat.le_of_ble_eq_true rfl, Nat.le_of_ble_eq_true rfl⟩) hD hS hA wX_adr (fun H locs hP hD hS => ?_)
  refine W.eq (g2 := F0 m 42 ls []) rfl ?_
  obtain ⟨S1, hS1⟩ : ∃ z : St, z = S_a S 25 (a1 * 60 + a2) (S.1 25 (a1 * 60 + a2) - a3) := ⟨_, rfl⟩
  rw [← hS1] at hP hD
  have hIS1 : Bd t S1 := by rw [hS1]; exact Bd_a hI (show _ ≤ 9999 from Nat.le_trans (Nat.sub_le _ _) (hI.1 25 _))
  have hBS1 := hIS1.1
  have hg0 : S1.2.1 0 ≤ 8 := hIS1.2.1 0
  have hg1 : S1.2.1 1 ≤ 9999 := hIS1.2.1 1
  have hg2 : S1.2.1 2 ≤ 60 := hIS1.2.1 2
  have hg3 : S1.2.1 3 ≤ 60 := hIS1.2.1 3
  have hg4 : S1.2.1 4 ≤ 80 := hIS1.2.1 4
  have hg5 : S1.2.1 5 ≤ 20 := hIS1.2.1 5
  have hg6 : S1.2.1 6 ≤ 80 := hIS1.2.1 6
  have hg7 : S1.2.1 7 ≤ 10 := hIS1.2.1 7
  have hg8 : t ≤ 512 := hIS1.2.2
  refine lv_aload_n hx hb d_X_waste_42 rfl (lv_at hl 0 rfl) ?_
  refine va_get (D := (dC, dI)) (ci := 0) (v := .ref (q 1)) (C := R_X) (T := F_X) (N := 12) hx hb hts i_X hown hK hP 0 rfl rfl 0 (by decide) (hts _ wd_57) (fun _ h9 => h9) rfl d_X_waste_43 ?_
  refine lv_iload_n hx hb d_X_waste_46 rfl (lv_at hl 2 rfl) ?_
  refine lv_iconst (v := nI 3) hx hb d_X_waste_47 (by decide) ?_
  refine lv_aload_n hx hb d_X_waste_48 rfl (lv_at hl 0 rfl) ?_
  refine va_get (D := (dC, dI)) (ci := 0) (v := .ref (q 1)) (C := R_X) (T := F_X) (N := 12) hx hb hts i_X hown hK hP 0 rfl rfl 0 (by decide) (hts _ wd_57) (fun _ h9 => h9) rfl d_X_waste_49 ?_
  refine lv_iload_n hx hb d_X_waste_52 rfl (lv_at hl 2 rfl) ?_
  refine lv_iconst (v := nI 3) hx hb d_X_waste_53 (by decide) ?_
  refine pu_go (va_runV (As := [.int (nI a2), .int (nI 3)]) (rest := [.int (nI 3), .int (nI a2), .ref (q 1)]) ⟨hx, hb, hml, hown, hts⟩ (c_W_at l dC dI cI (q 1) (q 11) 60 (S1.2.1 2) 300 (rowf S1.1 0) a2 3 (by omega) (by decide)) (cwV 2 hts (gi_V wd_117 wd_118 wd_119 wd_2 wd_120) rfl rfl rfl (by decide +kernel) ⟨Nat.le_of_ble_eq_true rfl, Nat.le_of_ble_eq_true rfl⟩) (pu_preV hK (hP.sub [1, 11] rfl) (ci := 1) (q0 := 0) rfl rfl) rfl rfl hl.1 rfl (lv_room (Nat.le_of_ble_eq_true rfl)) d_X_waste_54 ⟨Nat.le_of_ble_eq_true rfl, Nat.le_of_ble_eq_true rfl⟩) ?_
  refine nv_as (nI (S1.1 3 a2)) (rowf_at (by decide)) ?_
  have hb1 : S1.1 3 a2 ≤ 9999 * t := hBS1 3 _
  have r3 : S1.1 3 a2 = S.1 3 a2 := by rw [hS1]; rfl
  refine lv_iload_n hx hb d_X_waste_57 rfl (lv_at hl 3 rfl) ?_
  refine nv_add hx hb d_X_waste_58 ?_
  refine wr_go (va_runV (As := [.int (nI a2), .int (nI 3), .int (nI ((S1.1 3 a2) + a3))]) (rest := []) ⟨hx, hb, hml, hown, hts⟩ (c_W_put l dC dI H.size cI (q 1) (q 11) 60 (S1.2.1 2) 300 (rowf S1.1 0) a2 3 (nI ((S1.1 3 a2) + a3)) (by omega) (by decide)) (cwV 3 hts (gi_V wd_342 wd_145 wd_146 wd_2 wd_147) rfl rfl rfl (by decide +kernel) ⟨Nat.le_of_ble_eq_true rfl, Nat.le_of_ble_eq_true rfl⟩) (wr_preV hK (hP.sub [1, 11] rfl) (hD.sub [1, 11] (by decide) rfl) (ci := 1) (q0 := 0) rfl rfl) rfl rfl hl.1 rfl (lv_room (Nat.le_of_ble_eq_true rfl)) d_X_waste_59 ⟨Nat.le_of_ble_eq_true rfl, Nat.le_of_ble_eq_true rfl⟩) hP hD hS hA [1, 11] rfl rfl (wX q cI (S_a S1 (0 + 3) a2 ((S1.1 3 a2) + a3))) (wX_r0 (by decide)) rfl (fun H locs hP hD hS => ?_)
  refine W.eq (g2 := F0 m 62 ls []) rfl ?_
  obtain ⟨S2, hS2⟩ : ∃ z : St, z = S_a S1 (0 + 3) a2 ((S1.1 3 a2) + a3) := ⟨_, rfl⟩
  rw [← hS2] at hP hD
  have hIS2 : Bd t S2 := by rw [hS2]; exact Bd_a hIS1 (show _ ≤ 9999 * t by have := hwa a2; omega)
  have hBS2 := hIS2.1
  have hg0 : S2.2.1 0 ≤ 8 := hIS2.2.1 0
  have hg1 : S2.2.1 1 ≤ 9999 := hIS2.2.1 1
  have hg2 : S2.2.1 2 ≤ 60 := hIS2.2.1 2
  have hg3 : S2.2.1 3 ≤ 60 := hIS2.2.1 3
  have hg4 : S2.2.1 4 ≤ 80 := hIS2.2.1 4
  have hg5 : S2.2.1 5 ≤ 20 := hIS2.2.1 5
  have hg6 : S2.2.1 6 ≤ 80 := hIS2.2.1 6
  have hg7 : S2.2.1 7 ≤ 10 := hIS2.2.1 7
  have hg8 : t ≤ 512 := hIS2.2.2
  refine lv_aload_n hx hb d_X_waste_62 rfl (lv_at hl 0 rfl) ?_
  refine va_get (D := (dC, dI)) (ci := 0) (v := .ref (q 1)) (C := R_X) (T := F_X) (N := 12) hx hb hts i_X hown hK hP 0 rfl rfl 0 (by decide) (hts _ wd_57) (fun _ h9 => h9) rfl d_X_waste_63 ?_
  refine lv_iload_n hx hb d_X_waste_66 rfl (lv_at hl 2 rfl) ?_
  refine lv_iconst (v := nI 4) hx hb d_X_waste_67 (by decide) ?_
  refine lv_iload hx hb d_X_waste_68 (lv_at hl 4 rfl) ?_
  refine wr_go (va_runV (As := [.int (nI a2), .int (nI 4), .int (nI a4)]) (rest := []) ⟨hx, hb, hml, hown, hts⟩ (c_W_put l dC dI H.size cI (q 1) (q 11) 60 (S2.2.1 2) 300 (rowf S2.1 0) a2 4 (nI a4) (by omega) (by decide)) (cwV 3 hts (gi_V wd_342 wd_145 wd_146 wd_2 wd_147) rfl rfl rfl (by decide +kernel) ⟨Nat.le_of_ble_eq_true rfl, Nat.le_of_ble_eq_true rfl⟩) (wr_preV hK (hP.sub [1, 11] rfl) (hD.sub [1, 11] (by decide) rfl) (ci := 1) (q0 := 0) rfl rfl) rfl rfl hl.1 rfl (lv_room (Nat.le_of_ble_eq_true rfl)) d_X_waste_70 ⟨Nat.le_of_ble_eq_true rfl, Nat.le_of_ble_eq_true rfl⟩) hP hD hS hA [1, 11] rfl rfl (wX q cI (S_a S2 (0 + 4) a2 a4)) (wX_r0 (by decide)) rfl (fun H locs hP hD hS => ?_)
  refine W.eq (g2 := F0 m 73 ls []) rfl ?_
  obtain ⟨S3, hS3⟩ : ∃ z : St, z = S_a S2 (0 + 4) a2 a4 := ⟨_, rfl⟩
  rw [← hS3] at hP hD
  have hIS3 : Bd t S3 := by rw [hS3]; exact Bd_a hIS2 (show _ ≤ 9999 by omega)
  have hBS3 := hIS3.1
  have hg0 : S3.2.1 0 ≤ 8 := hIS3.2.1 0
  have hg1 : S3.2.1 1 ≤ 9999 := hIS3.2.1 1
  have hg2 : S3.2.1 2 ≤ 60 := hIS3.2.1 2
  have hg3 : S3.2.1 3 ≤ 60 := hIS3.2.1 3
  have hg4 : S3.2.1 4 ≤ 80 := hIS3.2.1 4
  have hg5 : S3.2.1 5 ≤ 20 := hIS3.2.1 5
  have hg6 : S3.2.1 6 ≤ 80 := hIS3.2.1 6
  have hg7 : S3.2.1 7 ≤ 10 := hIS3.2.1 7
  have hg8 : t ≤ 512 := hIS3.2.2
  refine lv_aload_n hx hb d_X_waste_73 rfl (lv_at hl 0 rfl) ?_
  refine va_get (D := (dC, dI)) (ci := 0) (v := .ref (q 1)) (C := R_X) (T := F_X) (N := 12) hx hb hts i_X hown hK hP 0 rfl rfl 0 (by decide) (hts _ wd_57) (fun _ h9 => h9) rfl d_X_waste_74 ?_
  refine lv_iload_n hx hb d_X_waste_77 rfl (lv_at hl 2 rfl) ?_
  refine lv_iconst (v := nI 3) hx hb d_X_waste_78 (by decide) ?_
  refine pu_go (va_runV (As := [.int (nI a2), .int (nI 3)]) (rest := []) ⟨hx, hb, hml, hown, hts⟩ (c_W_at l dC dI cI (q 1) (q 11) 60 (S3.2.1 2) 300 (rowf S3.1 0) a2 3 (by omega) (by decide)) (cwV 2 hts (gi_V wd_117 wd_118 wd_119 wd_2 wd_120) rfl rfl rfl (by decide +kernel) ⟨Nat.le_of_ble_eq_true rfl, Nat.le_of_ble_eq_true rfl⟩) (pu_preV hK (hP.sub [1, 11] rfl) (ci := 1) (q0 := 0) rfl rfl) rfl rfl hl.1 rfl (lv_room (Nat.le_of_ble_eq_true rfl)) d_X_waste_79 ⟨Nat.le_of_ble_eq_true rfl, Nat.le_of_ble_eq_true rfl⟩) ?_
  refine nv_as (nI (S3.1 3 a2)) (rowf_at (by decide)) ?_
  have hb2 : S3.1 3 a2 ≤ 9999 * t := hBS3 3 _
  have ho : op_waste S (nI a1) (nI a2) (nI a3) (nI a4) = (0, nI (S.1 3 a2 + a3), S_a (S_a (S_a S 25 (a1 * 60 + a2) (S.1 25 (a1 * 60 + a2) - a3)) 3 a2 (S.1 3 a2 + a3)) 4 a2 a4) := by simp only [op_waste, ma1, if_pos p2, ma2, if_pos p7, ma3, if_pos p15, ma4, if_pos p24, if_pos p31]
  rw [ho]
  refine nv_as (nI (S.1 3 a2 + a3)) (by rw [hS3, hS2, hS1]; exact congrArg nI ((congrFun (Sa_n (by decide)) a2).trans Sa_s)) ?_
  refine W.widen (k := 5) (n := 30) (Nat.le_of_ble_eq_true rfl) (Nat.le_of_ble_eq_true rfl) ?_
  have hP9 : va_P (dC, dI) classes (wX q cI (S_a (S_a (S_a S 25 (a1 * 60 + a2) (S.1 25 (a1 * 60 + a2) - a3)) 3 a2 (S.1 3 a2 + a3)) 4 a2 a4)) H := by rw [hS3, hS2, hS1] at hP; exact hP
  exact vx_ret (W.iret hx hb hr (fun t ht hW => ⟨rfl, rfl, by rw [ht]; exact hP9, hS.F ht⟩) hS.2.2 d_X_waste_82)
