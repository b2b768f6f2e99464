set_option maxHeartbeats 4000000 in
set_option maxRecDepth 100000 in
theorem c_X_change (l : Launch) (dC : Nat → ClassId) (dI : Nat → Nat → Nat) (sz : Nat) (cI : ClassId) (q : Nat → Nat) (S : St) (t : Nat) (hI : Bd t S) (st y v : Nat) (x : Int32) (hs : st < 8) (hy : y < 60) (hv : nI (S.1 25 (st * 60 + y)) + x = nI v) : Met l y_X_change (.code y_X_change b_X_change 4 none :: bg) { frames := 1, cells := 0, slots := 0, locals := 21 } (wr_P (dC, dI) classes (wX q cI S) [(cI, .int)] sz [.ref (q 0), .int (nI st), .int (nI y), .int x]) (wr_Q (none) (dC, dI) classes (wX q cI (S_a S 25 (st * 60 + y) v)) (va_A (wX q cI S) sz)) 0 0 (va_A (wX q cI S) sz) := by
  refine Met.ofW (cc := b_X_change) (maxL := 4) (ret := none) (by decide) rfl ?_
  intro p e s m args below meth c s₁ B hml hv
  obtain ⟨rfl, hsz, hP, hK, hD0⟩ := hv
  subst hsz
  have hD := hD0.self (sz := s.heap.size)
  generalize hAe : va_A (wX q cI S) s.heap.size = A at hD ⊢
  have hA : ∀ q : Nat, s.heap.size ≤ q → A q := fun q h => by rw [← hAe]; exact Or.inr h
  have hS : va_S A s.heap s.heap [] := va_S.rf
  have hx := B.exec
  have hb := B.bytes
  have hr := B.returns
  have hts := fun w (h : w ∈ bg) => atoms_spec (ws := .code y_X_change b_X_change 4 none :: bg) B.pre w (List.mem_cons_of_mem _ h)
  have hown : s.vm.findClass R_X = some m.cls := findClass_of_methodNamed B.named
  have hlocks := B.notSynchronized
  have hl := lv_entry ([.ref (q 0), .int (nI st), .int (nI y), .int x]) (n := 4) (Nat.le_of_ble_eq_true rfl)
  rw [lg_entry_eq]
  generalize (lg_sl ([.ref (q 0), .int (nI st), .int (nI y), .int x]) ++ List.replicate (4 - (lg_sl ([.ref (q 0), .int (nI st), .int (nI y), .int x])).length) Slot.unset).toArray = ls at hl ⊢
  have hl : lv_has ls 4 [(0, .ref (q 0)), (1, .int (nI st)), (2, .int (nI y)), (3, .int x)] := hl
  have hB := hI.1
  have hg0 : S.2.1 0 ≤ 8 := hI.2.1 0
  have hg1 : S.2.1 1 ≤ 9999 := hI.2.1 1
  have hg2 : S.2.1 2 ≤ 60 := hI.2.1 2
  have hg3 : S.2.1 3 ≤ 60 := hI.2.1 3
  have hg4 : S.2.1 4 ≤ 80 := hI.2.1 4
  have hg5 : S.2.1 5 ≤ 20 := hI.2.1 5
  have hg6 : S.2.1 6 ≤ 80 := hI.2.1 6
  have hg7 : S.2.1 7 ≤ 10 := hI.2.1 7
  have hg8 : t ≤ 512 := hI.2.2
  refine lv_aload_n hx hb d_X_change_0 rfl (lv_at hl 0 rfl) ?_
  refine va_get (D := (dC, dI)) (ci := 0) (v := .ref (q 7)) (C := R_X) (T := F_X) (N := 12) hx hb hts i_X hown hK hP 0 rfl rfl 6 (by decide) (hts _ wd_63) (fun _ h9 => h9) rfl d_X_change_1 ?_
  refine lv_iload_n hx hb d_X_change_4 rfl (lv_at hl 1 rfl) ?_
  refine lv_iload_n hx hb d_X_change_5 rfl (lv_at hl 2 rfl) ?_
  refine pu_go (va_runS (As := [.int (nI st), .int (nI y)]) (rest := [.ref (q 7)]) ⟨hx, hb, hml, hown, hts⟩ (c_X_place l dC dI st y) (cwS 2 hts (gi_S wd_125 wd_126 wd_1 wd_127) rfl rfl rfl (by decide +kernel) ⟨Nat.le_of_ble_eq_true rfl, Nat.le_of_ble_eq_true rfl⟩) (pu_preS (hK.sub (tys' := []) [] rfl) (fun k q h => by simp at h)) rfl rfl hl.1 rfl (lv_room (Nat.le_of_ble_eq_true rfl)) d_X_change_6 ⟨Nat.le_of_ble_eq_true rfl, Nat.le_of_ble_eq_true rfl⟩) ?_
  refine lv_dup2_11 hx hb d_X_change_9 rfl rfl ?_
  refine nv_iald (v := nI (S.1 25 (st * 60 + y))) hx hb hK hP 7 0 rfl rfl (by omega) (by decide) rfl d_X_change_10 ?_
  refine lv_iload_n hx hb d_X_change_11 rfl (lv_at hl 3 rfl) ?_
  refine lv_iadd hx hb d_X_change_12 ?_
  refine nv_as (nI v) hv ?_
  refine nv_iast (f' := upd (colf S.1 25) (st * 60 + y) (nI v)) hx hb hK hP hD hS 7 0 rfl rfl (by omega) (by decide) rfl (wX q cI (S_a S 25 (st * 60 + y) v)) wX_c25 d_X_change_13 (fun H locs hP hD hS => ?_)
  have hP9 : va_P (dC, dI) classes (wX q cI (S_a S 25 (st * 60 + y) v)) H := hP
  exact W.vret hx hb hr (fun t ht hW => ⟨rfl, by rw [ht]; exact hP9, hS.F ht⟩) hS.2.2 d_X_change_14
set_option maxHeartbeats 4000000 in
set_option maxRecDepth 100000 in
theorem c_X_addUpToMost (l : Launch) (dC : Nat → ClassId) (dI : Nat → Nat → Nat) (sz : Nat) (cI : ClassId) (q : Nat → Nat) (S : St) (t : Nat) (hI : Bd t S) (st y n : Nat) (hs : st < 8) (hy : y < 60) (hn : n ≤ 9999) : Met l y_X_addUpToMost (.code y_X_addUpToMost b_X_addUpToMost 5 none :: bg) { frames := 1, cells := 0, slots := 0, locals := 40 } (wr_P (dC, dI) classes (wX q cI S) [(cI, .int)] sz [.ref (q 0), .int (nI st), .int (nI y), .int (nI n)]) (wr_Q (none) (dC, dI) classes (wX q cI (addUp S st y n)) (va_A (wX q cI S) sz)) 0 0 (va_A (wX q cI S) sz) := by
  refine Met.ofW (cc := b_X_addUpToMost) (maxL := 5) (ret := none) (by decide) rfl ?_
  intro p e s m args below meth c s₁ B hml hv
  obtain ⟨rfl, hsz, hP, hK, hD0⟩ := hv
  subst hsz
  have hD := hD0.self (sz := s.heap.size)
  generalize hAe : va_A (wX q cI S) s.heap.size = A at hD ⊢
  have hA : ∀ q : Nat, s.heap.size ≤ q → A q := fun q h => by rw [← hAe]; exact Or.inr h
  have hS : va_S A s.heap s.heap [] := va_S.rf
  have hx := B.exec
  have hb := B.bytes
  have hr := B.returns
  have hts := fun w (h : w ∈ bg) => atoms_spec (ws := .code y_X_addUpToMost b_X_addUpToMost 5 none :: bg) B.pre w (List.mem_cons_of_mem _ h)
  have hown : s.vm.findClass R_X = some m.cls := findClass_of_methodNamed B.named
  have hlocks := B.notSynchronized
  have hl := lv_entry ([.ref (q 0), .int (nI st), .int (nI y), .int (nI n)]) (n := 5) (Nat.le_of_ble_eq_true rfl)
  rw [lg_entry_eq]
  generalize (lg_sl ([.ref (q 0), .int (nI st), .int (nI y), .int (nI n)]) ++ List.replicate (5 - (lg_sl ([.ref (q 0), .int (nI st), .int (nI y), .int (nI n)])).length) Slot.unset).toArray = ls at hl ⊢
  have hl : lv_has ls 5 [(0, .ref (q 0)), (1, .int (nI st)), (2, .int (nI y)), (3, .int (nI n))] := hl
  have hB := hI.1
  have hg0 : S.2.1 0 ≤ 8 := hI.2.1 0
  have hg1 : S.2.1 1 ≤ 9999 := hI.2.1 1
  have hg2 : S.2.1 2 ≤ 60 := hI.2.1 2
  have hg3 : S.2.1 3 ≤ 60 := hI.2.1 3
  have hg4 : S.2.1 4 ≤ 80 := hI.2.1 4
  have hg5 : S.2.1 5 ≤ 20 := hI.2.1 5
  have hg6 : S.2.1 6 ≤ 80 := hI.2.1 6
  have hg7 : S.2.1 7 ≤ 10 := hI.2.1 7
  have hg8 : t ≤ 512 := hI.2.2
  refine lv_iload_n hx hb d_X_addUpToMost_0 rfl (lv_at hl 1 rfl) ?_
  refine lv_iload_n hx hb d_X_addUpToMost_1 rfl (lv_at hl 2 rfl) ?_
  refine pu_go (va_runS (As := [.int (nI st), .int (nI y)]) (rest := []) ⟨hx, hb, hml, hown, hts⟩ (c_X_place l dC dI st y) (cwS 2 hts (gi_S wd_125 wd_126 wd_1 wd_127) rfl rfl rfl (by decide +kernel) ⟨Nat.le_of_ble_eq_true rfl, Nat.le_of_ble_eq_true rfl⟩) (pu_preS (hK.sub (tys' := []) [] rfl) (fun k q h => by simp at h)) rfl rfl hl.1 rfl (lv_room (Nat.le_of_ble_eq_true rfl)) d_X_addUpToMost_2 ⟨Nat.le_of_ble_eq_true rfl, Nat.le_of_ble_eq_true rfl⟩) ?_
  refine lv_istore (lv' := [(4, .int (nI (st * 60 + y))), (0, .ref (q 0)), (1, .int (nI st)), (2, .int (nI y)), (3, .int (nI n))]) hx hb d_X_addUpToMost_5 hl (by decide) rfl (fun ls hl => ?_)
  refine lv_aload_n hx hb d_X_addUpToMost_7 rfl (lv_at hl 1 rfl) ?_
  refine va_get (D := (dC, dI)) (ci := 0) (v := .ref (q 7)) (C := R_X) (T := F_X) (N := 12) hx hb hts i_X hown hK hP 0 rfl rfl 6 (by decide) (hts _ wd_63) (fun _ h9 => h9) rfl d_X_addUpToMost_8 ?_
  refine lv_iload hx hb d_X_addUpToMost_11 (lv_at hl 0 rfl) ?_
  refine lv_sipush (v := nI 9999) hx hb d_X_addUpToMost_13 (by decide) ?_
  refine lv_aload_n hx hb d_X_addUpToMost_16 rfl (lv_at hl 1 rfl) ?_
  refine va_get (D := (dC, dI)) (ci := 0) (v := .ref (q 7)) (C := R_X) (T := F_X) (N := 12) hx hb hts i_X hown hK hP 0 rfl rfl 6 (by decide) (hts _ wd_63) (fun _ h9 => h9) rfl d_X_addUpToMost_17 ?_
  refine lv_iload hx hb d_X_addUpToMost_20 (lv_at hl 0 rfl) ?_
  refine nv_iald (v := nI (S.1 25 (st * 60 + y))) hx hb hK hP 7 0 rfl rfl (by omega) (by decide) rfl d_X_addUpToMost_22 ?_
  have hb9 : S.1 25 (st * 60 + y) ≤ 9999 := hB 25 _
  refine lv_iload_n hx hb d_X_addUpToMost_23 rfl (lv_at hl 4 rfl) ?_
  refine nv_add hx hb d_X_addUpToMost_24 ?_
  refine va_mmin hx hb (hml.trans hl.1.symm) hown (hts _ wd_347) (hts _ wd_348) (hts _ wd_3) (hts _ wm_min) (Nat.le_of_ble_eq_true rfl) (Nat.le_of_ble_eq_true rfl) (Nat.le_of_ble_eq_true rfl) (Nat.le_of_ble_eq_true rfl) d_X_addUpToMost_25 ?_
  refine nv_as (nI (min 9999 ((S.1 25 (st * 60 + y)) + n))) (min_nI (by omega) (by omega)) ?_
  refine nv_iast (f' := upd (colf S.1 25) (st * 60 + y) (nI (min 9999 ((S.1 25 (st * 60 + y)) + n)))) hx hb hK hP hD hS 7 0 rfl rfl (by omega) (by decide) rfl (wX q cI (S_a S 25 (st * 60 + y) (min 9999 ((S.1 25 (st * 60 + y)) + n)))) wX_c25 d_X_addUpToMost_28 (fun H locs hP hD hS => ?_)
  have hP9 : va_P (dC, dI) classes (wX q cI (addUp S st y n)) H := hP
  exact W.vret hx hb hr (fun t ht hW => ⟨rfl, by rw [ht]; exact hP9, hS.F ht⟩) hS.2.2 d_X_addUpToMost_29
set_option maxHeartbeats 4000000 in
set_option maxRecDepth 100000 in
theorem c_X_arrive (l : Launch) (dC : Nat → ClassId) (dI : Nat → Nat → Nat) (sz : Nat) (cI : ClassId) (q : Nat → Nat) (S : St) (t : Nat) (hI : Bd t S) (i : Nat) (hi : i < 60) : Met l y_X_arrive (.code y_X_arrive b_X_arrive 2 none :: bg) { frames := 2, cells := 0, slots := 0, locals := 64 } (wr_P (dC, dI) classes (wX q cI S) [(cI, .int)] sz [.ref (q 0), .int (nI i)]) (wr_Q (none) (dC, dI) classes (wX q cI (come S i)) (va_A (wX q cI S) sz)) 0 0 (va_A (wX q cI S) sz) := by
  refine Met.ofW (cc := b_X_arrive) (maxL := 2) (ret := none) (by decide) rfl ?_
  intro p e s m args below meth c s₁ B hml hv
  obtain ⟨rfl, hsz, hP, hK, hD0⟩ := hv
  subst hsz
  have hD := hD0.self (sz := s.heap.size)
  generalize hAe : va_A (wX q cI S) s.heap.size = A at hD ⊢
  have hA : ∀ q : Nat, s.heap.size ≤ q → A q := fun q h => by rw [← hAe]; exact Or.inr h
  have hS : va_S A s.heap s.heap [] := va_S.rf
  have hx := B.exec
  have hb := B.bytes
  have hr := B.returns
  have hts := fun w (h : w ∈ bg) => atoms_spec (ws := .code y_X_arrive b_X_arrive 2 none :: bg) B.pre w (List.mem_cons_of_mem _ h)
  have hown : s.vm.findClass R_X = some m.cls := findClass_of_methodNamed B.named
  have hlocks := B.notSynchronized
  have hl := lv_entry ([.ref (q 0), .int (nI i)]) (n := 2) (Nat.le_of_ble_eq_true rfl)
  rw [lg_entry_eq]
  generalize (lg_sl ([.ref (q 0), .int (nI i)]) ++ List.replicate (2 - (lg_sl ([.ref (q 0), .int (nI i)])).length) Slot.unset).toArray = ls at hl ⊢
  have hl : lv_has ls 2 [(0, .ref (q 0)), (1, .int (nI i))] := hl
  have hB := hI.1
  have hg0 : S.2.1 0 ≤ 8 := hI.2.1 0
  have hg1 : S.2.1 1 ≤ 9999 := hI.2.1 1
  have hg2 : S.2.1 2 ≤ 60 := hI.2.1 2
  have hg3 : S.2.1 3 ≤ 60 := hI.2.1 3
  have hg4 : S.2.1 4 ≤ 80 := hI.2.1 4
  have hg5 : S.2.1 5 ≤ 20 := hI.2.1 5
  have hg6 : S.2.1 6 ≤ 80 := hI.2.1 6
  have hg7 : S.2.1 7 ≤ 10 := hI.2.1 7
  have hg8 : t ≤ 512 := hI.2.2
  refine lv_aload_n hx hb d_X_arrive_0 rfl (lv_at hl 0 rfl) ?_
  refine va_get (D := (dC, dI)) (ci := 0) (v := .ref (q 2)) (C := R_X) (T := F_X) (N := 12) hx hb hts i_X hown hK hP 0 rfl rfl 1 (by decide) (hts _ wd_58) (fun _ h9 => h9) rfl d_X_arrive_1 ?_
  refine lv_iload_n hx hb d_X_arrive_4 rfl (lv_at hl 1 rfl) ?_
  refine lv_iconst (v := nI 4) hx hb d_X_arrive_5 (by decide) ?_
  refine lv_iconst (v := nI 0) hx hb d_X_arrive_6 (by decide) ?_
  refine wr_go (va_runV (As := [.int (nI i), .int (nI 4), .int (nI 0)]) (rest := []) ⟨hx, hb, hml, hown, hts⟩ (c_W_put l dC dI s.heap.size cI (q 2) (q 12) 60 (S.2.1 3) 300 (rowf S.1 5) i 4 (nI 0) (by omega) (by decide)) (cwV 3 hts (gi_V wd_342 wd_145 wd_146 wd_2 wd_147) rfl rfl rfl (by decide +kernel) ⟨Nat.le_of_ble_eq_true rfl, Nat.le_of_ble_eq_true rfl⟩) (wr_preV hK (hP.sub [2, 12] rfl) (hD.sub [2, 12] (by decide) rfl) (ci := 1) (q0 := 0) rfl rfl) rfl rfl hl.1 rfl (lv_room (Nat.le_of_ble_eq_true rfl)) d_X_arrive_7 ⟨Nat.le_of_ble_eq_true rfl, Nat.le_of_ble_eq_true rfl⟩) hP hD hS hA [2, 12] rfl rfl (wX q cI (S_a S (5 + 4) i 0)) (wX_r5 (by decide)) rfl (fun H locs hP hD hS => ?_)
  refine W.eq (g2 := F0 m 10 ls []) rfl ?_
  obtain ⟨S1, hS1⟩ : ∃ z : St, z = S_a S (5 + 4) i 0 := ⟨_, rfl⟩
  rw [← hS1] at hP hD
  have hIS1 : Bd t S1 := by rw [hS1]; exact Bd_a hI (Nat.zero_le _)
  have hBS1 := hIS1.1
  have hg0 : S1.2.1 0 ≤ 8 := hIS1.2.1 0
  have hg1 : S1.2.1 1 ≤ 9999 := hIS1.2.1 1
  have hg2 : S1.2.1 2 ≤ 60 := hIS1.2.1 2
  have hg3 : S1.2.1 3 ≤ 60 := hIS1.2.1 3
  have hg4 : S1.2.1 4 ≤ 80 := hIS1.2.1 4
  have hg5 : S1.2.1 5 ≤ 20 := hIS1.2.1 5
  have hg6 : S1.2.1 6 ≤ 80 := hIS1.2.1 6
  have hg7 : S1.2.1 7 ≤ 10 := hIS1.2.1 7
  have hg8 : t ≤ 512 := hIS1.2.2
  refine lv_aload_n hx hb d_X_arrive_10 rfl (lv_at hl 0 rfl) ?_
  refine lv_aload_n hx hb d_X_arrive_11 rfl (lv_at hl 0 rfl) ?_
  refine va_get (D := (dC, dI)) (ci := 0) (v := .ref (q 2)) (C := R_X) (T := F_X) (N := 12) hx hb hts i_X hown hK hP 0 rfl rfl 1 (by decide) (hts _ wd_58) (fun _ h9 => h9) rfl d_X_arrive_12 ?_
  refine lv_iload_n hx hb d_X_arrive_15 rfl (lv_at hl 1 rfl) ?_
  refine lv_iconst (v := nI 0) hx hb d_X_arrive_16 (by decide) ?_
  refine pu_go (va_runV (As := [.int (nI i), .int (nI 0)]) (rest := [.ref (q 0)]) ⟨hx, hb, hml, hown, hts⟩ (c_W_at l dC dI cI (q 2) (q 12) 60 (S1.2.1 3) 300 (rowf S1.1 5) i 0 (by omega) (by decide)) (cwV 2 hts (gi_V wd_117 wd_118 wd_119 wd_2 wd_120) rfl rfl rfl (by decide +kernel) ⟨Nat.le_of_ble_eq_true rfl, Nat.le_of_ble_eq_true rfl⟩) (pu_preV hK (hP.sub [2, 12] rfl) (ci := 1) (q0 := 0) rfl rfl) rfl rfl hl.1 rfl (lv_room (Nat.le_of_ble_eq_true rfl)) d_X_arrive_17 ⟨Nat.le_of_ble_eq_true rfl, Nat.le_of_ble_eq_true rfl⟩) ?_
  refine nv_as (nI (S1.1 5 i)) (rowf_at (by decide)) ?_
  have hb1 : S1.1 5 i ≤ 7 := hBS1 5 _
  refine lv_aload_n hx hb d_X_arrive_20 rfl (lv_at hl 0 rfl) ?_
  refine va_get (D := (dC, dI)) (ci := 0) (v := .ref (q 2)) (C := R_X) (T := F_X) (N := 12) hx hb hts i_X hown hK hP 0 rfl rfl 1 (by decide) (hts _ wd_58) (fun _ h9 => h9) rfl d_X_arrive_21 ?_
  refine lv_iload_n hx hb d_X_arrive_24 rfl (lv_at hl 1 rfl) ?_
  refine lv_iconst (v := nI 1) hx hb d_X_arrive_25 (by decide) ?_
  refine pu_go (va_runV (As := [.int (nI i), .int (nI 1)]) (rest := [.int (nI (S1.1 5 i)), .ref (q 0)]) ⟨hx, hb, hml, hown, hts⟩ (c_W_at l dC dI cI (q 2) (q 12) 60 (S1.2.1 3) 300 (rowf S1.1 5) i 1 (by omega) (by decide)) (cwV 2 hts (gi_V wd_117 wd_118 wd_119 wd_2 wd_120) rfl rfl rfl (by decide +kernel) ⟨Nat.le_of_ble_eq_true rfl, Nat.le_of_ble_eq_true rfl⟩) (pu_preV hK (hP.sub [2, 12] rfl) (ci := 1) (q0 := 0) rfl rfl) rfl rfl hl.1 rfl (lv_room (Nat.le_of_ble_eq_true rfl)) d_X_arrive_26 ⟨Nat.le_of_ble_eq_true rfl, Nat.le_of_ble_eq_true rfl⟩) ?_
  refine nv_as (nI (S1.1 6 i)) (rowf_at (by decide)) ?_
  have hb2 : S1.1 6 i ≤ 59 := hBS1 6 _
  refine lv_aload_n hx hb d_X_arrive_29 rfl (lv_at hl 0 rfl) ?_
  refine va_get (D := (dC, dI)) (ci := 0) (v := .ref (q 2)) (C := R_X) (T := F_X) (N := 12) hx hb hts i_X hown hK hP 0 rfl rfl 1 (by decide) (hts _ wd_58) (fun _ h9 => h9) rfl d_X_arrive_30 ?_
  refine lv_iload_n hx hb d_X_arrive_33 rfl (lv_at hl 1 rfl) ?_
  refine lv_iconst (v := nI 2) hx hb d_X_arrive_34 (by decide) ?_
  refine pu_go (va_runV (As := [.int (nI i), .int (nI 2)]) (rest := [.int (nI (S1.1 6 i)), .int (nI (S1.1 5 i)), .ref (q 0)]) ⟨hx, hb, hml, hown, hts⟩ (c_W_at l dC dI cI (q 2) (q 12) 60 (S1.2.1 3) 300 (rowf S1.1 5) i 2 (by omega) (by decide)) (cwV 2 hts (gi_V wd_117 wd_118 wd_119 wd_2 wd_120) rfl rfl rfl (by decide +kernel) ⟨Nat.le_of_ble_eq_true rfl, Nat.le_of_ble_eq_true rfl⟩) (pu_preV hK (hP.sub [2, 12] rfl) (ci := 1) (q0 := 0) rfl rfl) rfl rfl hl.1 rfl (lv_room (Nat.le_of_ble_eq_true rfl)) d_X_arrive_35 ⟨Nat.le_of_ble_eq_true rfl, Nat.le_of_ble_eq_true rfl⟩) ?_
  refine nv_as (nI (S1.1 7 i)) (rowf_at (by decide)) ?_
  have hb3 : S1.1 7 i ≤ 9999 := hBS1 7 _
  refine wr_goA (va_runV (As := [.int (nI (S1.1 5 i)), .int (nI (S1.1 6 i)), .int (nI (S1.1 7 i))]) (rest := []) ⟨hx, hb, hml, hown, hts⟩ (c_X_addUpToMost l dC dI H.size cI q S1 t hIS1 (S1.1 5 i) (S1.1 6 i) (S1.1 7 i) (by omega) (by omega) (by omega)) (cwV 3 hts (gi_V wd_343 wd_345 wp_13 wd_1 wd_346) rfl rfl rfl (by decide +kernel) ⟨Nat.le_of_ble_eq_true rfl, Nat.le_of_ble_eq_true rfl⟩) (wr_preV hK hP hD (ci := 0) (q0 := 0) rfl rfl) rfl rfl hl.1 rfl (lv_room (Nat.le_of_ble_eq_true rfl)) d_X_arrive_38 ⟨Nat.le_of_ble_eq_true rfl, Nat.le_of_ble_eq_true rfl⟩) hD hS hA wX_adr (fun H locs hP hD hS => ?_)
  refine W.eq (g2 := F0 m 41 ls []) rfl ?_
  have hP9 : va_P (dC, dI) classes (wX q cI (come S i)) H := by rw [hS1] at hP; exact hP
  exact W.vret hx hb hr (fun t ht hW => ⟨rfl, by rw [ht]; exact hP9, hS.F ht⟩) hS.2.2 d_X_arrive_41
set_option maxHeartbeats 4000000 in
set_option maxRecDepth 100000 in
theorem c_X_addOrder (l : Launch) (dC : Nat → ClassId) (dI : Nat → Nat → Nat) (sz : Nat) (cI : ClassId) (q : Nat → Nat) (S : St) (t : Nat) (hI : Bd t S) (st kd n : Nat) (ho : S.2.1 4 < 80) : Met l y_X_addOrder (.code y_X_addOrder b_X_addOrder 4 (some .int) :: bg) { frames := 2, cells := 0, slots := 0, locals := 49 } (wr_P (dC, dI) classes (wX q cI S) [(cI, .int)] sz [.ref (q 0), .int (nI st), .int (nI kd), .int (nI n)]) (wr_Q (some (.int (nI (S.2.1 4)))) (dC, dI) classes (wX q cI (addOrd S st kd n)) (va_A (wX q cI S) sz)) 0 0 (va_A (wX q cI S) sz) := by
  refine Met.ofW (cc := b_X_addOrder) (maxL := 4) (ret := (some .int)) (by decide) rfl ?_
  intro p e s m args below meth c s₁ B hml hv
  obtain ⟨rfl, hsz, hP, hK, hD0⟩ := hv
  subst hsz
  have hD := hD0.self (sz := s.heap.size)
  generalize hAe : va_A (wX q cI S) s.heap.size = A at hD ⊢
  have hA : ∀ q : Nat, s.heap.size ≤ q → A q := fun q h => by rw [← hAe]; exact Or.inr h
  have hS : va_S A s.heap s.heap [] := va_S.rf
  have hx := B.exec
  have hb := B.bytes
  have hr := B.returns
  have hts := fun w (h : w ∈ bg) => atoms_spec (ws := .code y_X_addOrder b_X_addOrder 4 (some .int) :: bg) B.pre w (List.mem_cons_of_mem _ h)
  have hown : s.vm.findClass R_X = some m.cls := findClass_of_methodNamed B.named
  have hlocks := B.notSynchronized
  have hl := lv_entry ([.ref (q 0), .int (nI st), .int (nI kd), .int (nI n)]) (n := 4) (Nat.le_of_ble_eq_true rfl)
  rw [lg_entry_eq]
  generalize (lg_sl ([.ref (q 0), .int (nI st), .int (nI kd), .int (nI n)]) ++ List.replicate (4 - (lg_sl ([.ref (q 0), .int (nI st), .int (nI kd), .int (nI n)])).length) Slot.unset).toArray = ls at hl ⊢
  have hl : lv_has ls 4 [(0, .ref (q 0)), (1, .int (nI st)), (2, .int (nI kd)), (3, .int (nI n))] := hl
  have hB := hI.1
  have hg0 : S.2.1 0 ≤ 8 := hI.2.1 0
  have hg1 : S.2.1 1 ≤ 9999 := hI.2.1 1
  have hg2 : S.2.1 2 ≤ 60 := hI.2.1 2
  have hg3 : S.2.1 3 ≤ 60 := hI.2.1 3
  have hg4 : S.2.1 4 ≤ 80 := hI.2.1 4
  have hg5 : S.2.1 5 ≤ 20 := hI.2.1 5
  have hg6 : S.2.1 6 ≤ 80 := hI.2.1 6
  have hg7 : S.2.1 7 ≤ 10 := hI.2.1 7
  have hg8 : t ≤ 512 := hI.2.2
  refine lv_aload_n hx hb d_X_addOrder_0 rfl (lv_at hl 0 rfl) ?_
  refine va_get (D := (dC, dI)) (ci := 0) (v := .ref (q 3)) (C := R_X) (T := F_X) (N := 12) hx hb hts i_X hown hK hP 0 rfl rfl 2 (by decide) (hts _ wd_59) (fun _ h9 => h9) rfl d_X_addOrder_1 ?_
  refine lv_iload_n hx hb d_X_addOrder_4 rfl (lv_at hl 1 rfl) ?_
  refine lv_iload_n hx hb d_X_addOrder_5 rfl (lv_at hl 2 rfl) ?_
  refine lv_iload_n hx hb d_X_addOrder_6 rfl (lv_at hl 3 rfl) ?_
  refine lv_aload_n hx hb d_X_addOrder_7 rfl (lv_at hl 0 rfl) ?_
  refine va_get (D := (dC, dI)) (ci := 0) (v := .int (nI (S.2.1 1))) (C := R_X) (T := F_X) (N := 12) hx hb hts i_X hown hK hP 0 rfl rfl 11 (by decide) (hts _ wd_68) (fun _ h9 => h9) rfl d_X_addOrder_8 ?_
  refine lv_iconst (v := nI 1) hx hb d_X_addOrder_11 (by decide) ?_
  refine wr_go (va_runV (As := [.int (nI st), .int (nI kd), .int (nI n), .int (nI (S.2.1 1)), .int (nI 1)]) (rest := []) ⟨hx, hb, hml, hown, hts⟩ (c_W_add l dC dI s.heap.size cI (q 3) (q 13) 80 (S.2.1 4) 400 (rowf S.1 10) (nI st) (nI kd) (nI n) (nI (S.2.1 1)) (nI 1) (by omega) (by decide)) (cwV 5 hts (gi_V wd_140 wd_141 wd_142 wd_2 wd_143) rfl rfl rfl (by decide +kernel) ⟨Nat.le_of_ble_eq_true rfl, Nat.le_of_ble_eq_true rfl⟩) (wr_preV hK (hP.sub [3, 13] rfl) (hD.sub [3, 13] (by decide) rfl) (ci := 1) (q0 := 0) rfl rfl) rfl rfl hl.1 rfl (lv_room (Nat.le_of_ble_eq_true rfl)) d_X_addOrder_12 ⟨Nat.le_of_ble_eq_true rfl, Nat.le_of_ble_eq_true rfl⟩) hP hD hS hA [3, 13] rfl rfl (wX q cI (S_g (S_row S 10 (S.2.1 4) st kd n (S.2.1 1) 1) 4 (S.2.1 4 + 1))) wX_add10 rfl (fun H locs hP hD hS => ?_)
  refine W.eq (g2 := F0 m 15 ls [.int (nI (S.2.1 4))]) rfl ?_
  have hP9 : va_P (dC, dI) classes (wX q cI (addOrd S st kd n)) H := hP
  exact W.iret hx hb hr (fun t ht hW => ⟨rfl, by rw [ht]; exact hP9, hS.F ht⟩) hS.2.2 d_X_addOrder_15
set_option maxHeartbeats 4000000 in
set_option maxRecDepth 100000 in
theorem c_X_orderByLevel (l : Launch) (dC : Nat → ClassId) (dI : Nat → Nat → Nat) (sz : Nat) (cI : ClassId) (q : Nat → Nat) (S : St) (t : Nat) (hI : Bd t S) (st kd : Nat) (hs : st < 8) (hk : kd < 10) (hlm : ∀ j, S.1 26 j ≤ S.1 27 j) : Met l y_X_orderByLevel (.code y_X_orderByLevel b_X_orderByLevel 5 none :: bg) { frames := 3, cells := 0, slots := 0, locals := 72 } (wr_P (dC, dI) classes (wX q cI S) [(cI, .int)] sz [.ref (q 0), .int (nI st), .int (nI kd)]) (wr_Q (none) (dC, dI) classes (wX q cI (ordK S st kd)) (va_A (wX q cI S) sz)) 0 0 (va_A (wX q cI S) sz) := by
  refine Met.ofW (cc := b_X_orderByLevel) (maxL := 5) (ret := none) (by decide) rfl ?_
  intro p e s m args below meth c s₁ B hml hv
  obtain ⟨rfl, hsz, hP, hK, hD0⟩ := hv
  subst hsz
  have hD := hD0.self (sz := s.heap.size)
  generalize hAe : va_A (wX q cI S) s.heap.size = A at hD ⊢
  have hA : ∀ q : Nat, s.heap.size ≤ q → A q := fun q h => by rw [← hAe]; exact Or.inr h
  have hS : va_S A s.heap s.heap [] := va_S.rf
  have hx := B.exec
  have hb := B.bytes
  have hr := B.returns
  have hts := fun w (h : w ∈ bg) => atoms_spec (ws := .code y_X_orderByLevel b_X_orderByLevel 5 none :: bg) B.pre w (List.mem_cons_of_mem _ h)
  have hown : s.vm.findClass R_X = some m.cls := findClass_of_methodNamed B.named
  have hlocks := B.notSynchronized
  have hl := lv_entry ([.ref (q 0), .int (nI st), .int (nI kd)]) (n := 5) (Nat.le_of_ble_eq_true rfl)
  rw [lg_entry_eq]
  generalize (lg_sl ([.ref (q 0), .int (nI st), .int (nI kd)]) ++ List.replicate (5 - (lg_sl ([.ref (q 0), .int (nI st), .int (nI kd)])).length) Slot.unset).toArray = ls at hl ⊢
  have hl : lv_has ls 5 [(0, .ref (q 0)), (1, .int (nI st)), (2, .int (nI kd))] := hl
  have hB := hI.1
  have hg0 : S.2.1 0 ≤ 8 := hI.2.1 0
  have hg1 : S.2.1 1 ≤ 9999 := hI.2.1 1
  have hg2 : S.2.1 2 ≤ 60 := hI.2.1 2
  have hg3 : S.2.1 3 ≤ 60 := hI.2.1 3
  have hg4 : S.2.1 4 ≤ 80 := hI.2.1 4
  have hg5 : S.2.1 5 ≤ 20 := hI.2.1 5
  have hg6 : S.2.1 6 ≤ 80 := hI.2.1 6
  have hg7 : S.2.1 7 ≤ 10 := hI.2.1 7
  have hg8 : t ≤ 512 := hI.2.2
  refine lv_iload_n hx hb d_X_orderByLevel_0 rfl (lv_at hl 1 rfl) ?_
  refine lv_iload_n hx hb d_X_orderByLevel_1 rfl (lv_at hl 2 rfl) ?_
  refine pu_go (va_runS (As := [.int (nI st), .int (nI kd)]) (rest := []) ⟨hx, hb, hml, hown, hts⟩ (c_X_pair l dC dI st kd) (cwS 2 hts (gi_S wd_106 wd_107 wd_1 wd_108) rfl rfl rfl (by decide +kernel) ⟨Nat.le_of_ble_eq_true rfl, Nat.le_of_ble_eq_true rfl⟩) (pu_preS (hK.sub (tys' := []) [] rfl) (fun k q h => by simp at h)) rfl rfl hl.1 rfl (lv_room (Nat.le_of_ble_eq_true rfl)) d_X_orderByLevel_2 ⟨Nat.le_of_ble_eq_true rfl, Nat.le_of_ble_eq_true rfl⟩) ?_
  refine lv_istore_n (lv' := [(3, .int (nI (st * 10 + kd))), (0, .ref (q 0)), (1, .int (nI st)), (2, .int (nI kd))]) hx hb d_X_orderByLevel_5 rfl hl (by decide) rfl (fun ls hl => ?_)
  refine lv_aload_n hx hb d_X_orderByLevel_6 rfl (lv_at hl 1 rfl) ?_
  refine va_get (D := (dC, dI)) (ci := 0) (v := .ref (q 8)) (C := R_X) (T := F_X) (N := 12) hx hb hts i_X hown hK hP 0 rfl rfl 7 (by decide) (hts _ wd_64) (fun _ h9 => h9) rfl d_X_orderByLevel_7 ?_
  refine lv_iload_n hx hb d_X_orderByLevel_10 rfl (lv_at hl 0 rfl) ?_
  refine nv_iald (v := nI (S.1 26 (st * 10 + kd))) hx hb hK hP 8 0 rfl rfl (by omega) (by decide) rfl d_X_orderByLevel_11 ?_
  have hb11 : S.1 26 (st * 10 + kd) ≤ 9999 := hB 26 _
  refine nv_zeq (tgt := 25) hx hb (by omega) d_X_orderByLevel_12 (by decide) (fun c12 => ?_) (fun c12 => ?_)
  · have hP9 : va_P (dC, dI) classes (wX q cI (ordK S st kd)) s.heap := by unfold ordK; rw [if_pos c12]; exact hP
    exact W.vret hx hb hr (fun t ht hW => ⟨rfl, by rw [ht]; exact hP9, hS.F ht⟩) hS.2.2 d_X_orderByLevel_25
  · refine lv_aload_n hx hb d_X_orderByLevel_15 rfl (lv_at hl 1 rfl) ?_
    refine va_get (D := (dC, dI)) (ci := 0) (v := .ref (q 3)) (C := R_X) (T := F_X) (N := 12) hx hb hts i_X hown hK hP 0 rfl rfl 2 (by decide) (hts _ wd_59) (fun _ h9 => h9) rfl d_X_orderByLevel_16 ?_
    refine pu_go (va_runV (As := []) (rest := []) ⟨hx, hb, hml, hown, hts⟩ (c_W_isFull l dC dI cI (q 3) (q 13) 80 (S.2.1 4) 400 (rowf S.1 10) (by omega) (by omega)) (cwV 0 hts (gi_V wd_109 wd_110 wd_111 wd_2 wd_112) rfl rfl rfl (by decide +kernel) ⟨Nat.le_of_ble_eq_true rfl, Nat.le_of_ble_eq_true rfl⟩) (pu_preV hK (hP.sub [3, 13] rfl) (ci := 1) (q0 := 0) rfl rfl) rfl rfl hl.1 rfl (lv_room (Nat.le_of_ble_eq_true rfl)) d_X_orderByLevel_19 ⟨Nat.le_of_ble_eq_true rfl, Nat.le_of_ble_eq_true rfl⟩) ?_
    refine nv_bz (tgt := 26) hx hb d_X_orderByLevel_22 (by decide) (fun c22 => ?_) (fun c22 => ?_)
    · refine lv_aload_n hx hb d_X_orderByLevel_26 rfl (lv_at hl 1 rfl) ?_
      refine lv_iload_n hx hb d_X_orderByLevel_27 rfl (lv_at hl 2 rfl) ?_
      refine lv_iload_n hx hb d_X_orderByLevel_28 rfl (lv_at hl 3 rfl) ?_
      refine lv_iconst (v := b2 true) hx hb d_X_orderByLevel_29 (by decide) ?_
      refine pu_go (va_runV (As := [.int (nI st), .int (nI kd), .int (b2 true)]) (rest := []) ⟨hx, hb, hml, hown, hts⟩ (c_X_inStore l dC dI cI q S t hI st kd true (by omega) (by omega)) (cwV 3 hts (gi_V wd_113 wd_115 wp_1 wd_1 wd_116) rfl rfl rfl (by decide +kernel) ⟨Nat.le_of_ble_eq_true rfl, Nat.le_of_ble_eq_true rfl⟩) (pu_preV hK hP (ci := 0) (q0 := 0) rfl rfl) rfl rfl hl.1 rfl (lv_room (Nat.le_of_ble_eq_true rfl)) d_X_orderByLevel_30 ⟨Nat.le_of_ble_eq_true rfl, Nat.le_of_ble_eq_true rfl⟩) ?_
      have hb1 := inst_le hI st kd true
      refine lv_aload_n hx hb d_X_orderByLevel_33 rfl (lv_at hl 1 rfl) ?_
      refine lv_iload_n hx hb d_X_orderByLevel_34 rfl (lv_at hl 2 rfl) ?_
      refine lv_iload_n hx hb d_X_orderByLevel_35 rfl (lv_at hl 3 rfl) ?_
      refine lv_iconst (v := b2 true) hx hb d_X_orderByLevel_36 (by decide) ?_
      refine pu_go (va_runV (As := [.int (nI st), .int (nI kd), .int (b2 true)]) (rest := [.int (nI (inst S st kd true))]) ⟨hx, hb, hml, hown, hts⟩ (c_X_onTheWay l dC dI cI q S t hI st kd true (by omega) (by omega)) (cwV 3 hts (gi_V wd_128 wd_130 wp_3 wd_1 wd_131) rfl rfl rfl (by decide +kernel) ⟨Nat.le_of_ble_eq_true rfl, Nat.le_of_ble_eq_true rfl⟩) (pu_preV hK hP (ci := 0) (q0 := 0) rfl rfl) rfl rfl hl.1 rfl (lv_room (Nat.le_of_ble_eq_true rfl)) d_X_orderByLevel_37 ⟨Nat.le_of_ble_eq_true rfl, Nat.le_of_ble_eq_true rfl⟩) ?_
      have hb2 := way_le hI true st kd
      refine nv_add hx hb d_X_orderByLevel_40 ?_
      refine lv_aload_n hx hb d_X_orderByLevel_41 rfl (lv_at hl 1 rfl) ?_
      refine lv_iload_n hx hb d_X_orderByLevel_42 rfl (lv_at hl 2 rfl) ?_
      refine lv_iload_n hx hb d_X_orderByLevel_43 rfl (lv_at hl 3 rfl) ?_
      refine pu_go (va_runV (As := [.int (nI st), .int (nI kd)]) (rest := [.int (nI ((inst S st kd true) + (way S true st kd)))]) ⟨hx, hb, hml, hown, hts⟩ (c_X_inOpenOrders l dC dI cI q S t hI st kd (by omega) (by omega)) (cwV 2 hts (gi_V wd_132 wd_134 wp_4 wd_1 wd_135) rfl rfl rfl (by decide +kernel) ⟨Nat.le_of_ble_eq_true rfl, Nat.le_of_ble_eq_true rfl⟩) (pu_preV hK hP (ci := 0) (q0 := 0) rfl rfl) rfl rfl hl.1 rfl (lv_room (Nat.le_of_ble_eq_true rfl)) d_X_orderByLevel_44 ⟨Nat.le_of_ble_eq_true rfl, Nat.le_of_ble_eq_true rfl⟩) ?_
      have hb3 := opn_le hI st kd
      refine nv_add hx hb d_X_orderByLevel_47 ?_
      refine lv_istore (lv' := [(4, .int (nI (((inst S st kd true) + (way S true st kd)) + (opn S st kd)))), (3, .int (nI (st * 10 + kd))), (0, .ref (q 0)), (1, .int (nI st)), (2, .int (nI kd))]) hx hb d_X_orderByLevel_48 hl (by decide) rfl (fun ls hl => ?_)
      refine lv_iload hx hb d_X_orderByLevel_50 (lv_at hl 0 rfl) ?_
      refine lv_aload_n hx hb d_X_orderByLevel_52 rfl (lv_at hl 2 rfl) ?_
      refine va_get (D := (dC, dI)) (ci := 0) (v := .ref (q 8)) (C := R_X) (T := F_X) (N := 12) hx hb hts i_X hown hK hP 0 rfl rfl 7 (by decide) (hts _ wd_64) (fun _ h9 => h9) rfl d_X_orderByLevel_53 ?_
      refine lv_iload_n hx hb d_X_orderByLevel_56 rfl (lv_at hl 1 rfl) ?_
      refine nv_iald (v := nI (S.1 26 (st * 10 + kd))) hx hb hK hP 8 0 rfl rfl (by omega) (by decide) rfl d_X_orderByLevel_57 ?_
      refine nv_cge (tgt := 77) hx hb (by omega) (by omega) d_X_orderByLevel_58 (by decide) (fun c58 => ?_) (fun c58 => ?_)
      · have he : expd S st kd = inst S st kd true + way S true st kd + opn S st kd := by unfold expd; rw [inst_t]
        have hP9 : va_P (dC, dI) classes (wX q cI (ordK S st kd)) s.heap := by unfold ordK; rw [if_neg c12, if_neg (of_decide_eq_false c22), if_neg (by omega)]; exact hP
        exact W.vret hx hb hr (fun t ht hW => ⟨rfl, by rw [ht]; exact hP9, hS.F ht⟩) hS.2.2 d_X_orderByLevel_77
      · have c22 := of_decide_eq_false c22
        have he : expd S st kd = inst S st kd true + way S true st kd + opn S st kd := by unfold expd; rw [inst_t]
        refine lv_aload_n hx hb d_X_orderByLevel_61 rfl (lv_at hl 2 rfl) ?_
        refine lv_iload_n hx hb d_X_orderByLevel_62 rfl (lv_at hl 3 rfl) ?_
        refine lv_iload_n hx hb d_X_orderByLevel_63 rfl (lv_at hl 4 rfl) ?_
        refine lv_aload_n hx hb d_X_orderByLevel_64 rfl (lv_at hl 2 rfl) ?_
        refine va_get (D := (dC, dI)) (ci := 0) (v := .ref (q 9)) (C := R_X) (T := F_X) (N := 12) hx hb hts i_X hown hK hP 0 rfl rfl 8 (by decide) (hts _ wd_65) (fun _ h9 => h9) rfl d_X_orderByLevel_65 ?_
        refine lv_iload_n hx hb d_X_orderByLevel_68 rfl (lv_at hl 1 rfl) ?_
        refine nv_iald (v := nI (S.1 27 (st * 10 + kd))) hx hb hK hP 9 0 rfl rfl (by omega) (by decide) rfl d_X_orderByLevel_69 ?_
        have hb69 : S.1 27 (st * 10 + kd) ≤ 9999 := hB 27 _
        have hb68 := hlm (st * 10 + kd)
        refine lv_iload hx hb d_X_orderByLevel_70 (lv_at hl 0 rfl) ?_
        refine nv_sub hx hb (by omega) d_X_orderByLevel_72 ?_
        refine wr_goA (va_runV (As := [.int (nI st), .int (nI kd), .int (nI ((S.1 27 (st * 10 + kd)) - (((inst S st kd true) + (way S true st kd)) + (opn S st kd))))]) (rest := []) ⟨hx, hb, hml, hown, hts⟩ (c_X_addOrder l dC dI s.heap.size cI q S t hI st kd ((S.1 27 (st * 10 + kd)) - (((inst S st kd true) + (way S true st kd)) + (opn S st kd))) (by omega)) (cwV 3 hts (gi_V wd_136 wd_138 wp_5 wd_1 wd_139) rfl rfl rfl (by decide +kernel) ⟨Nat.le_of_ble_eq_true rfl, Nat.le_of_ble_eq_true rfl⟩) (wr_preV hK hP hD (ci := 0) (q0 := 0) rfl rfl) rfl rfl hl.1 rfl (lv_room (Nat.le_of_ble_eq_true rfl)) d_X_orderByLevel_73 ⟨Nat.le_of_ble_eq_true rfl, Nat.le_of_ble_eq_true rfl⟩) hD hS hA wX_adr (fun H locs hP hD hS => ?_)
        refine W.eq (g2 := F0 m 76 ls [.int (nI (S.2.1 4))]) rfl ?_
        refine lv_pop hx hb d_X_orderByLevel_76 rfl ?_
        have hP9 : va_P (dC, dI) classes (wX q cI (ordK S st kd)) H := by unfold ordK; rw [if_neg c12, if_neg c22, if_pos (by omega), he]; exact hP
        exact W.vret hx hb hr (fun t ht hW => ⟨rfl, by rw [ht]; exact hP9, hS.F ht⟩) hS.2.2 d_X_orderByLevel_77
    · have hP9 : va_P (dC, dI) classes (wX q cI (ordK S st kd)) s.heap := by unfold ordK; rw [if_neg c12, if_pos (of_decide_eq_true c22)]; exact hP
      exact W.vret hx hb hr (fun t ht hW => ⟨rfl, by rw [ht]; exact hP9, hS.F ht⟩) hS.2.2 d_X_orderByLevel_25
set_option maxHeartbeats 4000000 in
set_option maxRecDepth 100000 in
theorem c_X_take (l : Launch) (dC : Nat → ClassId) (dI : Nat → Nat → Nat) (sz : Nat) (cI : ClassId) (q : Nat → Nat) (S : St) (t : Nat) (hI : Bd t S) (st kd n : Nat) (hs : st < 8) (hk : kd < 10) (hn : n ≤ 9999) (hou : ∀ j, S.1 2 j + n ≤ 9999 * t) : Met l y_X_take (.code y_X_take b_X_take 8 none :: bg) { frames := 3, cells := 0, slots := 0, locals := 71 } (wr_P (dC, dI) classes (wX q cI S) [(cI, .int)] sz [.ref (q 0), .int (nI st), .int (nI kd), .int (nI n)]) (wr_Q (none) (dC, dI) classes (wX q cI (tk st kd 60 S n)) (va_A (wX q cI S) sz)) 0 0 (va_A (wX q cI S) sz) := by
  refine Met.ofW (cc := b_X_take) (maxL := 8) (ret := none) (by decide) rfl ?_
  intro p e s m args below meth c s₁ B hml hv
  obtain ⟨rfl, hsz, hP, hK, hD0⟩ := hv
  subst hsz
  have hD := hD0.self (sz := s.heap.size)
  generalize hAe : va_A (wX q cI S) s.heap.size = A at hD ⊢
  have hA : ∀ q : Nat, s.heap.size ≤ q → A q := fun q h => by rw [← hAe]; exact Or.inr h
  have hS : va_S A s.heap s.heap [] := va_S.rf
  have hx := B.exec
  have hb := B.bytes
  have hr := B.returns
  have hts := fun w (h : w ∈ bg) => atoms_spec (ws := .code y_X_take b_X_take 8 none :: bg) B.pre w (List.mem_cons_of_mem _ h)
  have hown : s.vm.findClass R_X = some m.cls := findClass_of_methodNamed B.named
  have hlocks := B.notSynchronized
  have hl := lv_entry ([.ref (q 0), .int (nI st), .int (nI kd), .int (nI n)]) (n := 8) (Nat.le_of_ble_eq_true rfl)
  rw [lg_entry_eq]
  generalize (lg_sl ([.ref (q 0), .int (nI st), .int (nI kd), .int (nI n)]) ++ List.replicate (8 - (lg_sl ([.ref (q 0), .int (nI st), .int (nI kd), .int (nI n)])).length) Slot.unset).toArray = ls at hl ⊢
  have hl : lv_has ls 8 [(0, .ref (q 0)), (1, .int (nI st)), (2, .int (nI kd)), (3, .int (nI n))] := hl
  have hB := hI.1
  have hg0 : S.2.1 0 ≤ 8 := hI.2.1 0
  have hg1 : S.2.1 1 ≤ 9999 := hI.2.1 1
  have hg2 : S.2.1 2 ≤ 60 := hI.2.1 2
  have hg3 : S.2.1 3 ≤ 60 := hI.2.1 3
  have hg4 : S.2.1 4 ≤ 80 := hI.2.1 4
  have hg5 : S.2.1 5 ≤ 20 := hI.2.1 5
  have hg6 : S.2.1 6 ≤ 80 := hI.2.1 6
  have hg7 : S.2.1 7 ≤ 10 := hI.2.1 7
  have hg8 : t ≤ 512 := hI.2.2
  refine lv_iload_n hx hb d_X_take_0 rfl (lv_at hl 3 rfl) ?_
  refine lv_istore (lv' := [(4, .int (nI n)), (0, .ref (q 0)), (1, .int (nI st)), (2, .int (nI kd)), (3, .int (nI n))]) hx hb d_X_take_1 hl (by decide) rfl (fun ls hl => ?_)
  refine lv_iconst (v := nI 0) hx hb d_X_take_3 (by decide) ?_
  refine lv_istore (lv' := [(5, .int (nI 0)), (4, .int (nI n)), (0, .ref (q 0)), (1, .int (nI st)), (2, .int (nI kd)), (3, .int (nI n))]) hx hb d_X_take_4 hl (by decide) rfl (fun ls hl => ?_)
  have LP6 : ∀ (fu : Nat) (i : Nat) (nd : Nat) (T : St) (H : Heap) (locs : List Loc), 60 - i < fu → (i ≤ 60) → (tk st kd (60 - i) T nd = tk st kd 60 S n) → (Bd t T) → (∀ j, T.1 2 j + nd ≤ 9999 * t) → (nd ≤ n) → va_P (dC, dI) classes (wX q cI T) H → va_D A (wX q cI T) → va_S A s.heap H locs → ∀ ls : Array Slot, lv_has ls 8 [(5, .int (nI i)), (4, .int (nI nd)), (0, .ref (q 0)), (1, .int (nI st)), (2, .int (nI kd)), (3, .int (nI n))] → W p l e (headSpec (.code y_X_take b_X_take 8 none :: bg) { frames := 3, cells := 0, slots := 0, locals := 71 }).room s m (List.toArray [.ref (q 0), .int (nI st), .int (nI kd), .int (nI n)]) below meth c H locs 0 0 (MQ below (wr_Q (none) (dC, dI) classes (wX q cI (tk st kd 60 S n)) A) (List.toArray [.ref (q 0), .int (nI st), .int (nI kd), .int (nI n)]) s 0 0 A) (F0 m 6 ls []) := by
    intro fu
    induction fu with
    | zero => intro i nd T H locs h; exact absurd h (Nat.not_lt_zero _)
    | succ fu ih =>
      intro i nd T H locs hfu hh0 hh1 hh2 hh3 hh4 hP hD hS ls hl
      have hIT := hh2
      have hBT := hIT.1
      have hg0 : T.2.1 0 ≤ 8 := hIT.2.1 0
      have hg1 : T.2.1 1 ≤ 9999 := hIT.2.1 1
      have hg2 : T.2.1 2 ≤ 60 := hIT.2.1 2
      have hg3 : T.2.1 3 ≤ 60 := hIT.2.1 3
      have hg4 : T.2.1 4 ≤ 80 := hIT.2.1 4
      have hg5 : T.2.1 5 ≤ 20 := hIT.2.1 5
      have hg6 : T.2.1 6 ≤ 80 := hIT.2.1 6
      have hg7 : T.2.1 7 ≤ 10 := hIT.2.1 7
      have hg8 : t ≤ 512 := hIT.2.2
      refine lv_iload hx hb d_X_take_6 (lv_at hl 0 rfl) ?_
      refine lv_bipush (v := nI 60) hx hb d_X_take_8 (by decide) ?_
      refine nv_cge (tgt := 96) hx hb (by omega) (by omega) d_X_take_10 (by decide) (fun c10 => ?_) (fun c10 => ?_)
      · have hP9 : va_P (dC, dI) classes (wX q cI (tk st kd 60 S n)) H := by rw [show 60 - i = 0 by omega] at hh1; rw [← hh1]; exact hP
        exact W.vret hx hb hr (fun t ht hW => ⟨rfl, by rw [ht]; exact hP9, hS.F ht⟩) hS.2.2 d_X_take_96
      · refine lv_iload hx hb d_X_take_13 (lv_at hl 1 rfl) ?_
        refine nv_zle (tgt := 96) hx hb (by omega) d_X_take_15 (by decide) (fun c15 => ?_) (fun c15 => ?_)
        · have hP9 : va_P (dC, dI) classes (wX q cI (tk st kd 60 S n)) H := by rw [c15, tk_0] at hh1; rw [← hh1]; exact hP
          exact W.vret hx hb hr (fun t ht hW => ⟨rfl, by rw [ht]; exact hP9, hS.F ht⟩) hS.2.2 d_X_take_96
        · refine lv_aload_n hx hb d_X_take_18 rfl (lv_at hl 2 rfl) ?_
          refine lv_iload_n hx hb d_X_take_19 rfl (lv_at hl 3 rfl) ?_
          refine lv_iload_n hx hb d_X_take_20 rfl (lv_at hl 4 rfl) ?_
          refine pu_go (va_runV (As := [.int (nI st), .int (nI kd)]) (rest := []) ⟨hx, hb, hml, hown, hts⟩ (c_X_firstToTake l dC dI cI q T t hIT st kd (by omega) (by omega)) (cwV 2 hts (gi_V wd_362 wd_364 wp_15 wd_1 wd_365) rfl rfl rfl (by decide +kernel) ⟨Nat.le_of_ble_eq_true rfl, Nat.le_of_ble_eq_true rfl⟩) (pu_preV hK hP (ci := 0) (q0 := 0) rfl rfl) rfl rfl hl.1 rfl (lv_room (Nat.le_of_ble_eq_true rfl)) d_X_take_21 ⟨Nat.le_of_ble_eq_true rfl, Nat.le_of_ble_eq_true rfl⟩) ?_
          refine lv_istore (lv' := [(6, .int (o2 (bst T st kd (T.2.1 2)))), (5, .int (nI i)), (4, .int (nI nd)), (0, .ref (q 0)), (1, .int (nI st)), (2, .int (nI kd)), (3, .int (nI n))]) hx hb d_X_take_24 hl (by decide) rfl (fun ls hl => ?_)
          refine lv_iload hx hb d_X_take_26 (lv_at hl 0 rfl) ?_
          refine lv_if_ge (tgt := 32) hx hb d_X_take_28 (by decide) (fun c28 => ?_) (fun c28 => ?_)
          · obtain ⟨b, hbb⟩ := o2_some (Int32.not_lt.mpr c28)
            have hlb := bst_lt hbb
            have hl : lv_has ls 8 [(6, .int (nI b)), (5, .int (nI i)), (4, .int (nI nd)), (0, .ref (q 0)), (1, .int (nI st)), (2, .int (nI kd)), (3, .int (nI n))] := by rw [hbb] at hl; exact hl
            refine lv_iload hx hb d_X_take_32 (lv_at hl 2 rfl) ?_
            refine lv_aload_n hx hb d_X_take_34 rfl (lv_at hl 3 rfl) ?_
            refine va_get (D := (dC, dI)) (ci := 0) (v := .ref (q 7)) (C := R_X) (T := F_X) (N := 12) hx hb hts i_X hown hK hP 0 rfl rfl 6 (by decide) (hts _ wd_63) (fun _ h9 => h9) rfl d_X_take_35 ?_
            refine lv_iload_n hx hb d_X_take_38 rfl (lv_at hl 4 rfl) ?_
            refine lv_iload hx hb d_X_take_39 (lv_at hl 0 rfl) ?_
            refine pu_go (va_runS (As := [.int (nI st), .int (nI b)]) (rest := [.ref (q 7), .int (nI nd)]) ⟨hx, hb, hml, hown, hts⟩ (c_X_place l dC dI st b) (cwS 2 hts (gi_S wd_125 wd_126 wd_1 wd_127) rfl rfl rfl (by decide +kernel) ⟨Nat.le_of_ble_eq_true rfl, Nat.le_of_ble_eq_true rfl⟩) (pu_preS (hK.sub (tys' := []) [] rfl) (fun k q h => by simp at h)) rfl rfl hl.1 rfl (lv_room (Nat.le_of_ble_eq_true rfl)) d_X_take_41 ⟨Nat.le_of_ble_eq_true rfl, Nat.le_of_ble_eq_true rfl⟩) ?_
            refine nv_iald (v := nI (T.1 25 (st * 60 + b))) hx hb hK hP 7 0 rfl rfl (by omega) (by decide) rfl d_X_take_44 ?_
            have hb44 : T.1 25 (st * 60 + b) ≤ 9999 := hBT 25 _
            refine va_mmin hx hb (hml.trans hl.1.symm) hown (hts _ wd_347) (hts _ wd_348) (hts _ wd_3) (hts _ wm_min) (Nat.le_of_ble_eq_true rfl) (Nat.le_of_ble_eq_true rfl) (Nat.le_of_ble_eq_true rfl) (Nat.le_of_ble_eq_true rfl) d_X_take_45 ?_
            refine nv_as (nI (min nd (T.1 25 (st * 60 + b)))) (min_nI (by omega) (by omega)) ?_
            obtain ⟨p, hp⟩ : ∃ z : Nat, z = min nd (T.1 25 (st * 60 + b)) := ⟨_, rfl⟩
            have hp1 : p ≤ nd := by rw [hp]; exact Nat.min_le_left _ _
            have hp2 : p ≤ T.1 25 (st * 60 + b) := by rw [hp]; exact Nat.min_le_right _ _
            rw [← hp]
            refine lv_istore (lv' := [(7, .int (nI p)), (6, .int (nI b)), (5, .int (nI i)), (4, .int (nI nd)), (0, .ref (q 0)), (1, .int (nI st)), (2, .int (nI kd)), (3, .int (nI n))]) hx hb d_X_take_48 hl (by decide) rfl (fun ls hl => ?_)
            refine lv_aload_n hx hb d_X_take_50 rfl (lv_at hl 4 rfl) ?_
            refine lv_iload_n hx hb d_X_take_51 rfl (lv_at hl 5 rfl) ?_
            refine lv_iload hx hb d_X_take_52 (lv_at hl 1 rfl) ?_
            refine lv_iload hx hb d_X_take_54 (lv_at hl 0 rfl) ?_
            refine lv_ineg hx hb d_X_take_56 ?_
            refine wr_goA (va_runV (As := [.int (nI st), .int (nI b), .int (-(nI p))]) (rest := []) ⟨hx, hb, hml, hown, hts⟩ (c_X_change l dC dI H.size cI q T t hIT st b (T.1 25 (st * 60 + b) - p) (-(nI p)) (by omega) (by omega) (by rw [← Int32.sub_eq_add_neg]; exact pk_sub hp2)) (cwV 3 hts (gi_V wd_305 wd_307 wp_10 wd_1 wd_308) rfl rfl rfl (by decide +kernel) ⟨Nat.le_of_ble_eq_true rfl, Nat.le_of_ble_eq_true rfl⟩) (wr_preV hK hP hD (ci := 0) (q0 := 0) rfl rfl) rfl rfl hl.1 rfl (lv_room (Nat.le_of_ble_eq_true rfl)) d_X_take_57 ⟨Nat.le_of_ble_eq_true rfl, Nat.le_of_ble_eq_true rfl⟩) hD hS hA wX_adr (fun H locs hP hD hS => ?_)
            refine W.eq (g2 := F0 m 60 ls []) rfl ?_
            obtain ⟨T1, hT1⟩ : ∃ z : St, z = S_a T 25 (st * 60 + b) (T.1 25 (st * 60 + b) - p) := ⟨_, rfl⟩
            rw [← hT1] at hP hD
            have hIT1 : Bd t T1 := by rw [hT1]; exact Bd_a hIT (show _ ≤ 9999 by omega)
            have hBT1 := hIT1.1
            have hg0 : T1.2.1 0 ≤ 8 := hIT1.2.1 0
            have hg1 : T1.2.1 1 ≤ 9999 := hIT1.2.1 1
            have hg2 : T1.2.1 2 ≤ 60 := hIT1.2.1 2
            have hg3 : T1.2.1 3 ≤ 60 := hIT1.2.1 3
            have hg4 : T1.2.1 4 ≤ 80 := hIT1.2.1 4
            have hg5 : T1.2.1 5 ≤ 20 := hIT1.2.1 5
            have hg6 : T1.2.1 6 ≤ 80 := hIT1.2.1 6
            have hg7 : T1.2.1 7 ≤ 10 := hIT1.2.1 7
            have hg8 : t ≤ 512 := hIT1.2.2
            have hou1 : T1.1 2 b = T.1 2 b := by rw [hT1]; rfl
            refine lv_aload_n hx hb d_X_take_60 rfl (lv_at hl 4 rfl) ?_
            refine va_get (D := (dC, dI)) (ci := 0) (v := .ref (q 1)) (C := R_X) (T := F_X) (N := 12) hx hb hts i_X hown hK hP 0 rfl rfl 0 (by decide) (hts _ wd_57) (fun _ h9 => h9) rfl d_X_take_61 ?_
            refine lv_iload hx hb d_X_take_64 (lv_at hl 1 rfl) ?_
            refine lv_iconst (v := nI 2) hx hb d_X_take_66 (by decide) ?_
            refine lv_aload_n hx hb d_X_take_67 rfl (lv_at hl 4 rfl) ?_
            refine va_get (D := (dC, dI)) (ci := 0) (v := .ref (q 1)) (C := R_X) (T := F_X) (N := 12) hx hb hts i_X hown hK hP 0 rfl rfl 0 (by decide) (hts _ wd_57) (fun _ h9 => h9) rfl d_X_take_68 ?_
            refine lv_iload hx hb d_X_take_71 (lv_at hl 1 rfl) ?_
            refine lv_iconst (v := nI 2) hx hb d_X_take_73 (by decide) ?_
            refine pu_go (va_runV (As := [.int (nI b), .int (nI 2)]) (rest := [.int (nI 2), .int (nI b), .ref (q 1)]) ⟨hx, hb, hml, hown, hts⟩ (c_W_at l dC dI cI (q 1) (q 11) 60 (T1.2.1 2) 300 (rowf T1.1 0) b 2 (by omega) (by decide)) (cwV 2 hts (gi_V wd_117 wd_118 wd_119 wd_2 wd_120) rfl rfl rfl (by decide +kernel) ⟨Nat.le_of_ble_eq_true rfl, Nat.le_of_ble_eq_true rfl⟩) (pu_preV hK (hP.sub [1, 11] rfl) (ci := 1) (q0 := 0) rfl rfl) rfl rfl hl.1 rfl (lv_room (Nat.le_of_ble_eq_true rfl)) d_X_take_74 ⟨Nat.le_of_ble_eq_true rfl, Nat.le_of_ble_eq_true rfl⟩) ?_
            refine nv_as (nI (T1.1 2 b)) (rowf_at (by decide)) ?_
            have hb1 : T1.1 2 b ≤ 9999 * t := hBT1 2 _
            refine lv_iload hx hb d_X_take_77 (lv_at hl 0 rfl) ?_
            refine nv_add hx hb d_X_take_79 ?_
            refine wr_go (va_runV (As := [.int (nI b), .int (nI 2), .int (nI ((T1.1 2 b) + p))]) (rest := []) ⟨hx, hb, hml, hown, hts⟩ (c_W_put l dC dI H.size cI (q 1) (q 11) 60 (T1.2.1 2) 300 (rowf T1.1 0) b 2 (nI ((T1.1 2 b) + p)) (by omega) (by decide)) (cwV 3 hts (gi_V wd_342 wd_145 wd_146 wd_2 wd_147) rfl rfl rfl (by decide +kernel) ⟨Nat.le_of_ble_eq_true rfl, Nat.le_of_ble_eq_true rfl⟩) (wr_preV hK (hP.sub [1, 11] rfl) (hD.sub [1, 11] (by decide) rfl) (ci := 1) (q0 := 0) rfl rfl) rfl rfl hl.1 rfl (lv_room (Nat.le_of_ble_eq_true rfl)) d_X_take_80 ⟨Nat.le_of_ble_eq_true rfl, Nat.le_of_ble_eq_true rfl⟩) hP hD hS hA [1, 11] rfl rfl (wX q cI (S_a T1 (0 + 2) b ((T1.1 2 b) + p))) (wX_r0 (by decide)) rfl (fun H locs hP hD hS => ?_)
            refine W.eq (g2 := F0 m 83 ls []) rfl ?_
            obtain ⟨T2, hT2⟩ : ∃ z : St, z = S_a T1 (0 + 2) b ((T1.1 2 b) + p) := ⟨_, rfl⟩
            rw [← hT2] at hP hD
            have hIT2 : Bd t T2 := by rw [hT2]; exact Bd_a hIT1 (show _ ≤ 9999 * t by have := hh3 b; omega)
            have hBT2 := hIT2.1
            have hg0 : T2.2.1 0 ≤ 8 := hIT2.2.1 0
            have hg1 : T2.2.1 1 ≤ 9999 := hIT2.2.1 1
            have hg2 : T2.2.1 2 ≤ 60 := hIT2.2.1 2
            have hg3 : T2.2.1 3 ≤ 60 := hIT2.2.1 3
            have hg4 : T2.2.1 4 ≤ 80 := hIT2.2.1 4
            have hg5 : T2.2.1 5 ≤ 20 := hIT2.2.1 5
            have hg6 : T2.2.1 6 ≤ 80 := hIT2.2.1 6
            have hg7 : T2.2.1 7 ≤ 10 := hIT2.2.1 7
            have hg8 : t ≤ 512 := hIT2.2.2
            have hTT : T2 = takeOf T st b p := by rw [hT2, hT1]; rfl
            refine lv_iload hx hb d_X_take_83 (lv_at hl 3 rfl) ?_
            refine lv_iload hx hb d_X_take_85 (lv_at hl 0 rfl) ?_
            refine nv_sub hx hb (by omega) d_X_take_87 ?_
            refine lv_istore (lv' := [(4, .int (nI (nd - p))), (7, .int (nI p)), (6, .int (nI b)), (5, .int (nI i)), (0, .ref (q 0)), (1, .int (nI st)), (2, .int (nI kd)), (3, .int (nI n))]) hx hb d_X_take_88 hl (by decide) rfl (fun ls hl => ?_)
            refine lv_iinc (v := nI (i + 1)) (lv' := [(5, .int (nI (i + 1))), (4, .int (nI (nd - p))), (7, .int (nI p)), (6, .int (nI b)), (0, .ref (q 0)), (1, .int (nI st)), (2, .int (nI kd)), (3, .int (nI n))]) hx hb d_X_take_90 hl (k := 3) rfl (nI_1 _) (by decide) rfl (fun ls hl => ?_)
            refine lv_goto (tgt := 6) hx hb d_X_take_93 (by decide) ?_
            exact ih (i + 1) (nd - p) T2 _ _ (by omega) (by omega) (by rw [← hh1, show 60 - i = 60 - (i + 1) + 1 by omega, tk_s c15 hbb, ← hp, ← hTT]) hIT2 (by rw [hTT]; exact out_takeOf hh3 hp1) (by omega) hP hD hS ls (lv_sub hl [0, 1, 4, 5, 6, 7] (rfl))
          · have hP9 : va_P (dC, dI) classes (wX q cI (tk st kd 60 S n)) H := by rw [tk_n (o2_none (Int32.not_le.mp c28) (fun b hb => by have := bst_lt hb; omega))] at hh1; rw [← hh1]; exact hP
            exact W.vret hx hb hr (fun t ht hW => ⟨rfl, by rw [ht]; exact hP9, hS.F ht⟩) hS.2.2 d_X_take_31
  exact LP6 ((60 - 0) + 1) 0 n S _ _ (Nat.lt_succ_self _) (by omega) rfl hI hou (Nat.le_refl _) hP hD hS ls (lv_sub hl [0, 1, 2, 3, 4, 5] (rfl))
