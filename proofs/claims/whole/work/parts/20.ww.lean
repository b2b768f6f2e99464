theorem min_nI {x y : Nat} (hx : x < 2 ^ 31) (hy : y < 2 ^ 31) : (if nI y < nI x then nI y else nI x) = nI (min x y) := by
  by_cases h : y < x
  · rw [if_pos ((nI_ltI hy hx).mpr h), Nat.min_eq_right (Nat.le_of_lt h)]
  · rw [if_neg (fun z => h ((nI_ltI hy hx).mp z)), Nat.min_eq_left (Nat.not_lt.mp h)]
set_option maxHeartbeats 4000000 in
set_option maxRecDepth 100000 in
theorem c_W_put (l : Launch) (dC : Nat → ClassId) (dI : Nat → Nat → Nat) (sz : Nat) (cI : ClassId) (r ca rm md n : Nat) (f : Nat → Int32) (i co : Nat) (v : Int32) (hi : i * 5 + co < n) (hn : n < 2 ^ 31) : Met l y_W_put (.code y_W_put b_W_put 4 none :: bg) { frames := 0, cells := 0, slots := 0, locals := 0 } (wr_P (dC, dI) classes [(r, .inr (1, [.int (nI rm), .ref ca, .int (nI md)])), (ca, .inl (cI, n, .inl f))] [(cI, .int)] sz [.ref r, .int (nI i), .int (nI co), .int v]) (wr_Q (none) (dC, dI) classes [(r, .inr (1, [.int (nI rm), .ref ca, .int (nI md)])), (ca, .inl (cI, n, .inl (upd f (i * 5 + co) v)))] (va_A [(r, .inr (1, [.int (nI rm), .ref ca, .int (nI md)])), (ca, .inl (cI, n, .inl f))] sz)) 0 0 (va_A [(r, .inr (1, [.int (nI rm), .ref ca, .int (nI md)])), (ca, .inl (cI, n, .inl f))] sz) := by
  refine Met.ofW (cc := b_W_put) (maxL := 4) (ret := none) (by decide) rfl ?_
  intro p e s m args below meth c s₁ B hml hv
  obtain ⟨rfl, hsz, hP, hK, hD0⟩ := hv
  subst hsz
  have hD := hD0.self (sz := s.heap.size)
  generalize hAe : va_A [(r, .inr (1, [.int (nI rm), .ref ca, .int (nI md)])), (ca, .inl (cI, n, .inl f))] s.heap.size = A at hD ⊢
  have hA : ∀ q : Nat, s.heap.size ≤ q → A q := fun q h => by rw [← hAe]; exact Or.inr h
  have hS : va_S A s.heap s.heap [] := va_S.rf
  have hx := B.exec
  have hb := B.bytes
  have hr := B.returns
  have hts := fun w (h : w ∈ bg) => atoms_spec (ws := .code y_W_put b_W_put 4 none :: bg) B.pre w (List.mem_cons_of_mem _ h)
  have hown : s.vm.findClass R_W = some m.cls := findClass_of_methodNamed B.named
  have hlocks := B.notSynchronized
  have hl := lv_entry ([.ref r, .int (nI i), .int (nI co), .int v]) (n := 4) (Nat.le_of_ble_eq_true rfl)
  rw [lg_entry_eq]
  generalize (lg_sl ([.ref r, .int (nI i), .int (nI co), .int v]) ++ List.replicate (4 - (lg_sl ([.ref r, .int (nI i), .int (nI co), .int v])).length) Slot.unset).toArray = ls at hl ⊢
  have hl : lv_has ls 4 [(0, .ref r), (1, .int (nI i)), (2, .int (nI co)), (3, .int v)] := hl
  refine lv_aload_n hx hb d_W_put_0 rfl (lv_at hl 0 rfl) ?_
  refine va_get (D := (dC, dI)) (ci := 1) (v := .ref ca) (C := R_W) (T := F_W) (N := 3) hx hb hts i_W hown hK hP 0 rfl rfl 1 (by decide) (hts _ wd_31) (fun _ h9 => h9) rfl d_W_put_1 ?_
  refine lv_iload_n hx hb d_W_put_4 rfl (lv_at hl 1 rfl) ?_
  refine lv_iconst (v := nI 5) hx hb d_W_put_5 (by decide) ?_
  refine nv_mul hx hb d_W_put_6 ?_
  refine lv_iload_n hx hb d_W_put_7 rfl (lv_at hl 2 rfl) ?_
  refine nv_add hx hb d_W_put_8 ?_
  refine lv_iload_n hx hb d_W_put_9 rfl (lv_at hl 3 rfl) ?_
  refine nv_iast (f' := upd f ((i * 5) + co) v) hx hb hK hP hD hS 1 0 rfl rfl (by omega) (by omega) rfl ([(r, .inr (1, [.int (nI rm), .ref ca, .int (nI md)])), (ca, .inl (cI, n, .inl (upd f ((i * 5) + co) v)))]) rfl d_W_put_10 (fun H locs hP hD hS => ?_)
  have hP9 : va_P (dC, dI) classes [(r, .inr (1, [.int (nI rm), .ref ca, .int (nI md)])), (ca, .inl (cI, n, .inl (upd f (i * 5 + co) v)))] _ := hP
  exact W.vret hx hb hr (fun t ht hW => ⟨rfl, by rw [ht]; exact hP9, hS.F ht⟩) hS.2.2 d_W_put_11
set_option maxHeartbeats 4000000 in
set_option maxRecDepth 100000 in
theorem c_W_add (l : Launch) (dC : Nat → ClassId) (dI : Nat → Nat → Nat) (sz : Nat) (cI : ClassId) (r ca rm md n : Nat) (f : Nat → Int32) (v0 v1 v2 v3 v4 : Int32) (hi : md * 5 + 4 < n) (hn : n < 2 ^ 31) : Met l y_W_add (.code y_W_add b_W_add 7 (some .int) :: bg) { frames := 1, cells := 0, slots := 0, locals := 23 } (wr_P (dC, dI) classes [(r, .inr (1, [.int (nI rm), .ref ca, .int (nI md)])), (ca, .inl (cI, n, .inl f))] [(cI, .int)] sz [.ref r, .int v0, .int v1, .int v2, .int v3, .int v4]) (wr_Q (some (.int (nI md))) (dC, dI) classes [(r, .inr (1, [.int (nI rm), .ref ca, .int (nI (md + 1))])), (ca, .inl (cI, n, .inl (upd (upd (upd (upd (upd f (md * 5 + 0) v0) (md * 5 + 1) v1) (md * 5 + 2) v2) (md * 5 + 3) v3) (md * 5 + 4) v4)))] (va_A [(r, .inr (1, [.int (nI rm), .ref ca, .int (nI md)])), (ca, .inl (cI, n, .inl f))] sz)) 0 0 (va_A [(r, .inr (1, [.int (nI rm), .ref ca, .int (nI md)])), (ca, .inl (cI, n, .inl f))] sz) := by
  refine Met.ofW (cc := b_W_add) (maxL := 7) (ret := (some .int)) (by decide) rfl ?_
  intro p e s m args below meth c s₁ B hml hv
  obtain ⟨rfl, hsz, hP, hK, hD0⟩ := hv
  subst hsz
  have hD := hD0.self (sz := s.heap.size)
  generalize hAe : va_A [(r, .inr (1, [.int (nI rm), .ref ca, .int (nI md)])), (ca, .inl (cI, n, .inl f))] s.heap.size = A at hD ⊢
  have hA : ∀ q : Nat, s.heap.size ≤ q → A q := fun q h => by rw [← hAe]; exact Or.inr h
  have hS : va_S A s.heap s.heap [] := va_S.rf
  have hx := B.exec
  have hb := B.bytes
  have hr := B.returns
  have hts := fun w (h : w ∈ bg) => atoms_spec (ws := .code y_W_add b_W_add 7 (some .int) :: bg) B.pre w (List.mem_cons_of_mem _ h)
  have hown : s.vm.findClass R_W = some m.cls := findClass_of_methodNamed B.named
  have hlocks := B.notSynchronized
  have hl := lv_entry ([.ref r, .int v0, .int v1, .int v2, .int v3, .int v4]) (n := 7) (Nat.le_of_ble_eq_true rfl)
  rw [lg_entry_eq]
  generalize (lg_sl ([.ref r, .int v0, .int v1, .int v2, .int v3, .int v4]) ++ List.replicate (7 - (lg_sl ([.ref r, .int v0, .int v1, .int v2, .int v3, .int v4])).length) Slot.unset).toArray = ls at hl ⊢
  have hl : lv_has ls 7 [(0, .ref r), (1, .int v0), (2, .int v1), (3, .int v2), (4, .int v3), (5, .int v4)] := hl
  refine lv_aload_n hx hb d_W_add_0 rfl (lv_at hl 0 rfl) ?_
  refine va_get (D := (dC, dI)) (ci := 1) (v := .int (nI md)) (C := R_W) (T := F_W) (N := 3) hx hb hts i_W hown hK hP 0 rfl rfl 2 (by decide) (hts _ wd_32) (fun _ h9 => h9) rfl d_W_add_1 ?_
  refine lv_istore (lv' := [(6, .int (nI md)), (0, .ref r), (1, .int v0), (2, .int v1), (3, .int v2), (4, .int v3), (5, .int v4)]) hx hb d_W_add_4 hl (by decide) rfl (fun ls hl => ?_)
  refine lv_aload_n hx hb d_W_add_6 rfl (lv_at hl 1 rfl) ?_
  refine lv_iload hx hb d_W_add_7 (lv_at hl 0 rfl) ?_
  refine lv_iconst (v := nI 0) hx hb d_W_add_9 (by decide) ?_
  refine lv_iload_n hx hb d_W_add_10 rfl (lv_at hl 2 rfl) ?_
  refine wr_go (va_runV (As := [.int (nI md), .int (nI 0), .int v0]) (rest := []) ⟨hx, hb, hml, hown, hts⟩ (c_W_put l dC dI s.heap.size cI r ca rm md n f md 0 v0 (by omega) (by omega)) (cwV 3 hts (gi_V wd_144 wd_145 wd_146 wd_2 wd_147) rfl rfl rfl (by decide +kernel) ⟨Nat.le_of_ble_eq_true rfl, Nat.le_of_ble_eq_true rfl⟩) (wr_preV hK (hP.sub [0, 1] rfl) (hD.sub [0, 1] (by decide) rfl) (ci := 1) (q0 := 0) rfl rfl) rfl rfl hl.1 rfl (lv_room (Nat.le_of_ble_eq_true rfl)) d_W_add_11 ⟨Nat.le_of_ble_eq_true rfl, Nat.le_of_ble_eq_true rfl⟩) hP hD hS hA [0, 1] rfl rfl ([(r, .inr (1, [.int (nI rm), .ref ca, .int (nI md)])), (ca, .inl (cI, n, .inl (upd f (md * 5 + 0) v0)))]) rfl rfl (fun H locs hP hD hS => ?_)
  refine W.eq (g2 := F0 m 14 ls []) rfl ?_
  refine lv_aload_n hx hb d_W_add_14 rfl (lv_at hl 1 rfl) ?_
  refine lv_iload hx hb d_W_add_15 (lv_at hl 0 rfl) ?_
  refine lv_iconst (v := nI 1) hx hb d_W_add_17 (by decide) ?_
  refine lv_iload_n hx hb d_W_add_18 rfl (lv_at hl 3 rfl) ?_
  refine wr_go (va_runV (As := [.int (nI md), .int (nI 1), .int v1]) (rest := []) ⟨hx, hb, hml, hown, hts⟩ (c_W_put l dC dI H.size cI r ca rm md n (upd f (md * 5 + 0) v0) md 1 v1 (by omega) (by omega)) (cwV 3 hts (gi_V wd_144 wd_145 wd_146 wd_2 wd_147) rfl rfl rfl (by decide +kernel) ⟨Nat.le_of_ble_eq_true rfl, Nat.le_of_ble_eq_true rfl⟩) (wr_preV hK (hP.sub [0, 1] rfl) (hD.sub [0, 1] (by decide) rfl) (ci := 1) (q0 := 0) rfl rfl) rfl rfl hl.1 rfl (lv_room (Nat.le_of_ble_eq_true rfl)) d_W_add_19 ⟨Nat.le_of_ble_eq_true rfl, Nat.le_of_ble_eq_true rfl⟩) hP hD hS hA [0, 1] rfl rfl ([(r, .inr (1, [.int (nI rm), .ref ca, .int (nI md)])), (ca, .inl (cI, n, .inl (upd (upd f (md * 5 + 0) v0) (md * 5 + 1) v1)))]) rfl rfl (fun H locs hP hD hS => ?_)
  refine W.eq (g2 := F0 m 22 ls []) rfl ?_
  refine lv_aload_n hx hb d_W_add_22 rfl (lv_at hl 1 rfl) ?_
  refine lv_iload hx hb d_W_add_23 (lv_at hl 0 rfl) ?_
  refine lv_iconst (v := nI 2) hx hb d_W_add_25 (by decide) ?_
  refine lv_iload_n hx hb d_W_add_26 rfl (lv_at hl 4 rfl) ?_
  refine wr_go (va_runV (As := [.int (nI md), .int (nI 2), .int v2]) (rest := []) ⟨hx, hb, hml, hown, hts⟩ (c_W_put l dC dI H.size cI r ca rm md n (upd (upd f (md * 5 + 0) v0) (md * 5 + 1) v1) md 2 v2 (by omega) (by omega)) (cwV 3 hts (gi_V wd_144 wd_145 wd_146 wd_2 wd_147) rfl rfl rfl (by decide +kernel) ⟨Nat.le_of_ble_eq_true rfl, Nat.le_of_ble_eq_true rfl⟩) (wr_preV hK (hP.sub [0, 1] rfl) (hD.sub [0, 1] (by decide) rfl) (ci := 1) (q0 := 0) rfl rfl) rfl rfl hl.1 rfl (lv_room (Nat.le_of_ble_eq_true rfl)) d_W_add_27 ⟨Nat.le_of_ble_eq_true rfl, Nat.le_of_ble_eq_true rfl⟩) hP hD hS hA [0, 1] rfl rfl ([(r, .inr (1, [.int (nI rm), .ref ca, .int (nI md)])), (ca, .inl (cI, n, .inl (upd (upd (upd f (md * 5 + 0) v0) (md * 5 + 1) v1) (md * 5 + 2) v2)))]) rfl rfl (fun H locs hP hD hS => ?_)
  refine W.eq (g2 := F0 m 30 ls []) rfl ?_
  refine lv_aload_n hx hb d_W_add_30 rfl (lv_at hl 1 rfl) ?_
  refine lv_iload hx hb d_W_add_31 (lv_at hl 0 rfl) ?_
  refine lv_iconst (v := nI 3) hx hb d_W_add_33 (by decide) ?_
  refine lv_iload hx hb d_W_add_34 (lv_at hl 5 rfl) ?_
  refine wr_go (va_runV (As := [.int (nI md), .int (nI 3), .int v3]) (rest := []) ⟨hx, hb, hml, hown, hts⟩ (c_W_put l dC dI H.size cI r ca rm md n (upd (upd (upd f (md * 5 + 0) v0) (md * 5 + 1) v1) (md * 5 + 2) v2) md 3 v3 (by omega) (by omega)) (cwV 3 hts (gi_V wd_144 wd_145 wd_146 wd_2 wd_147) rfl rfl rfl (by decide +kernel) ⟨Nat.le_of_ble_eq_true rfl, Nat.le_of_ble_eq_true rfl⟩) (wr_preV hK (hP.sub [0, 1] rfl) (hD.sub [0, 1] (by decide) rfl) (ci := 1) (q0 := 0) rfl rfl) rfl rfl hl.1 rfl (lv_room (Nat.le_of_ble_eq_true rfl)) d_W_add_36 ⟨Nat.le_of_ble_eq_true rfl, Nat.le_of_ble_eq_true rfl⟩) hP hD hS hA [0, 1] rfl rfl ([(r, .inr (1, [.int (nI rm), .ref ca, .int (nI md)])), (ca, .inl (cI, n, .inl (upd (upd (upd (upd f (md * 5 + 0) v0) (md * 5 + 1) v1) (md * 5 + 2) v2) (md * 5 + 3) v3)))]) rfl rfl (fun H locs hP hD hS => ?_)
  refine W.eq (g2 := F0 m 39 ls []) rfl ?_
  refine lv_aload_n hx hb d_W_add_39 rfl (lv_at hl 1 rfl) ?_
  refine lv_iload hx hb d_W_add_40 (lv_at hl 0 rfl) ?_
  refine lv_iconst (v := nI 4) hx hb d_W_add_42 (by decide) ?_
  refine lv_iload hx hb d_W_add_43 (lv_at hl 6 rfl) ?_
  refine wr_go (va_runV (As := [.int (nI md), .int (nI 4), .int v4]) (rest := []) ⟨hx, hb, hml, hown, hts⟩ (c_W_put l dC dI H.size cI r ca rm md n (upd (upd (upd (upd f (md * 5 + 0) v0) (md * 5 + 1) v1) (md * 5 + 2) v2) (md * 5 + 3) v3) md 4 v4 (by omega) (by omega)) (cwV 3 hts (gi_V wd_144 wd_145 wd_146 wd_2 wd_147) rfl rfl rfl (by decide +kernel) ⟨Nat.le_of_ble_eq_true rfl, Nat.le_of_ble_eq_true rfl⟩) (wr_preV hK (hP.sub [0, 1] rfl) (hD.sub [0, 1] (by decide) rfl) (ci := 1) (q0 := 0) rfl rfl) rfl rfl hl.1 rfl (lv_room (Nat.le_of_ble_eq_true rfl)) d_W_add_45 ⟨Nat.le_of_ble_eq_true rfl, Nat.le_of_ble_eq_true rfl⟩) hP hD hS hA [0, 1] rfl rfl ([(r, .inr (1, [.int (nI rm), .ref ca, .int (nI md)])), (ca, .inl (cI, n, .inl (upd (upd (upd (upd (upd f (md * 5 + 0) v0) (md * 5 + 1) v1) (md * 5 + 2) v2) (md * 5 + 3) v3) (md * 5 + 4) v4)))]) rfl rfl (fun H locs hP hD hS => ?_)
  refine W.eq (g2 := F0 m 48 ls []) rfl ?_
  refine lv_aload_n hx hb d_W_add_48 rfl (lv_at hl 1 rfl) ?_
  refine lv_dup hx hb d_W_add_49 rfl ?_
  refine va_get (D := (dC, dI)) (ci := 1) (v := .int (nI md)) (C := R_W) (T := F_W) (N := 3) hx hb hts i_W hown hK hP 0 rfl rfl 2 (by decide) (hts _ wd_32) (fun _ h9 => h9) rfl d_W_add_50 ?_
  refine lv_iconst (v := nI 1) hx hb d_W_add_53 (by decide) ?_
  refine nv_add hx hb d_W_add_54 ?_
  refine va_put (D := (dC, dI)) (ci := 1) (v := .int (nI (md + 1))) (ty := .int) (C := R_W) (T := F_W) (N := 3) hx hb hts i_W ty_W ty_W_ok n_W hown hK hP hD hS 0 rfl rfl 2 (by decide) (hts _ wd_32) (fun _ h9 => h9) rfl (by decide +kernel) rfl rfl (Nat.le_of_ble_eq_true rfl) d_W_add_55 (fun H locs hP hD hS => ?_)
  have hP : va_P (dC, dI) classes [(r, .inr (1, [.int (nI rm), .ref ca, .int (nI (md + 1))])), (ca, .inl (cI, n, .inl (upd (upd (upd (upd (upd f (md * 5 + 0) v0) (md * 5 + 1) v1) (md * 5 + 2) v2) (md * 5 + 3) v3) (md * 5 + 4) v4)))] H := hP
  have hD : va_D A [(r, .inr (1, [.int (nI rm), .ref ca, .int (nI (md + 1))])), (ca, .inl (cI, n, .inl (upd (upd (upd (upd (upd f (md * 5 + 0) v0) (md * 5 + 1) v1) (md * 5 + 2) v2) (md * 5 + 3) v3) (md * 5 + 4) v4)))] := hD
  refine lv_iload hx hb d_W_add_58 (lv_at hl 0 rfl) ?_
  have hP9 : va_P (dC, dI) classes [(r, .inr (1, [.int (nI rm), .ref ca, .int (nI (md + 1))])), (ca, .inl (cI, n, .inl (upd (upd (upd (upd (upd f (md * 5 + 0) v0) (md * 5 + 1) v1) (md * 5 + 2) v2) (md * 5 + 3) v3) (md * 5 + 4) v4)))] _ := hP
  exact W.iret hx hb hr (fun t ht hW => ⟨rfl, by rw [ht]; exact hP9, hS.F ht⟩) hS.2.2 d_W_add_60
