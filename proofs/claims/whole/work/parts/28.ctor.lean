def S0 : St := (fun _ _ => 0, fun _ => 0, fun _ => 0)
theorem wo_code : Cond.code objectInit ⟨#[0xb1]⟩ 1 none ∈ bg := bg1 20 rfl rfl
theorem zr_r {b : Nat} : rowf S0.1 b = fun _ => 0 := rfl
theorem zr_c {cA : ClassId} {n k : Nat} : vp_cell cA (n, .inl (colf S0.1 k)) = arrV cA n (fun _ => defaultValue .int) := rfl
theorem zr_11 : (rowf S0.1 0) = fun _ => 0 := rfl
theorem zr_24 : (rowf S0.1 5) = fun _ => 0 := rfl
theorem zr_37 : (rowf S0.1 10) = fun _ => 0 := rfl
theorem zr_50 : (rowf S0.1 15) = fun _ => 0 := rfl
theorem zr_63 : (rowd S0.1 S0.2.2) = fun _ => 0 := by funext j; show (if j % 5 = 2 then (0 : Int32) else nI 0) = 0; split <;> rfl
theorem zr_29 : (colf S0.1 29) = fun _ => 0 := rfl
theorem zr_30 : (colf S0.1 30) = fun _ => 0 := rfl
theorem wn_H : Cond.methodLinkNest R_X 32 y_H_init "StockRows2" ∈ tables_1 := List.mem_append_left _ (List.mem_of_getElem? (i := 43) rfl)
theorem K_one {D : va_G} {cl : List vw_C} {tys : List (ClassId × FieldType)} {U : State} (hK : va_K D cl tys U) (i j : Nat) {c1 c2 : ClassId} (h1 : tys[i]? = some (c1, .int)) (h2 : tys[j]? = some (c2, .int)) : c1 = c2 := by
  have e1 := (hK.2 i _ h1).2
  have e2 := (hK.2 j _ h2).2
  exact Option.some.inj (e1.symm.trans e2)
set_option maxHeartbeats 8000000 in
set_option maxRecDepth 100000 in
theorem c_W_init60 (l : Launch) (dC : Nat → ClassId) (dI : Nat → Nat → Nat) (h0 sz : Nat) (f : Nat → Int32) (hf : f = fun _ => 0) : Met l y_W_init (.code y_W_init b_W_init 2 none :: bg) { frames := 1, cells := 1, slots := 300, locals := 14 } (va_Pc [.ref h0, .int (nI 60)] (fun U => U.heap.size = sz ∧ va_P (dC, dI) classes [(h0, .inr (1, [.int 0, .null, .int 0]))] U.heap ∧ va_K (dC, dI) classes [] U ∧ va_D (fun _ => True) [(h0, .inr (1, [.int 0, .null, .int 0]))])) (va_Qv (fun _ : Nat × ClassId => True) (fun u t => va_P (dC, dI) classes [(h0, .inr (1, [.int (nI 60), .ref u.1, .int 0])), (u.1, .inl (u.2, 300, .inl f))] t.heap ∧ va_K (dC, dI) classes [(u.2, .int)] t ∧ va_D (va_A [(h0, .inr (1, [.int 0, .null, .int 0]))] sz) [(h0, .inr (1, [.int (nI 60), .ref u.1, .int 0])), (u.1, .inl (u.2, 300, .inl f))]) (va_A [(h0, .inr (1, [.int 0, .null, .int 0]))] sz)) 1 300 (va_A [(h0, .inr (1, [.int 0, .null, .int 0]))] sz) := by
  refine Met.ofW (cc := b_W_init) (maxL := 2) (ret := none) (by decide) rfl ?_
  intro p e s m args below meth c s₁ B hml hv
  obtain ⟨rfl, hsz, hP, hK, hD0⟩ := hv
  subst hsz
  have hin : meth.name = "<init>" := (name_of_methodNamed B.named B.method).1
  have hD := hD0.self (sz := s.heap.size)
  generalize hAe : va_A [(h0, .inr (1, [.int 0, .null, .int 0]))] s.heap.size = A at hD ⊢
  have hA : ∀ q : Nat, s.heap.size ≤ q → A q := fun q h => by rw [← hAe]; exact Or.inr h
  have hS : va_S A s.heap s.heap [] := va_S.rf
  have hx := B.exec
  have hb := B.bytes
  have hr := B.returns
  have hts := fun w (h : w ∈ bg) => atoms_spec (ws := .code y_W_init b_W_init 2 none :: bg) B.pre w (List.mem_cons_of_mem _ h)
  have hown : s.vm.findClass R_W = some m.cls := findClass_of_methodNamed B.named
  have hlocks := B.notSynchronized
  have hl := lv_entry ([.ref h0, .int (nI 60)]) (n := 2) (Nat.le_of_ble_eq_true rfl)
  rw [lg_entry_eq]
  generalize (lg_sl ([.ref h0, .int (nI 60)]) ++ List.replicate (2 - (lg_sl ([.ref h0, .int (nI 60)])).length) Slot.unset).toArray = ls at hl ⊢
  have hl : lv_has ls 2 [(0, .ref h0), (1, .int (nI 60))] := hl
  refine lv_aload_n hx hb d_W_init_0 rfl (lv_at hl 0 rfl) ?_
  refine W.objInit hx hb hown (hts (.methodLink R_W 1 objectInit) wd_26) (hts (.instanceMethod objectInit) wd_19) (hts _ wo_code) rfl (by rw [hml]; exact hl.1) rfl d_W_init_1 (Nat.le_of_ble_eq_true rfl) (Nat.le_of_ble_eq_true rfl) ?_
  refine W.eq (g2 := F0 m 4 ls []) rfl ?_
  refine lv_aload_n hx hb d_W_init_4 rfl (lv_at hl 0 rfl) ?_
  refine lv_iconst (v := nI 0) hx hb d_W_init_5 (by decide) ?_
  refine lv_iload_n hx hb d_W_init_6 rfl (lv_at hl 1 rfl) ?_
  refine va_mmax hx hb (hml.trans hl.1.symm) hown (hts _ wd_27) (hts _ wd_28) (hts _ wd_3) (hts _ wm_max) (Nat.le_of_ble_eq_true rfl) (Nat.le_of_ble_eq_true rfl) (Nat.le_of_ble_eq_true rfl) (Nat.le_of_ble_eq_true rfl) d_W_init_7 ?_
  refine nv_as (nI 60) (by decide) ?_
  refine va_putF (D := (dC, dI)) (ci := 1) (v := .int (nI 60)) (ty := .int) (C := R_W) (T := F_W) (N := 3) hx hb hts i_W ty_W ty_W_ok n_W hown hK hP hD hS 0 rfl rfl 0 (by decide) (hts _ wd_30) (fun _ h9 => h9) rfl hin rfl (by decide +kernel) rfl rfl (Nat.le_of_ble_eq_true rfl) d_W_init_10 (fun H locs hP hD hS => ?_)
  have hP : va_P (dC, dI) classes [(h0, .inr (1, [.int (nI 60), .null, .int 0]))] H := hP
  have hD : va_D A [(h0, .inr (1, [.int (nI 60), .null, .int 0]))] := hD
  have hK : va_K (dC, dI) classes [] s := hK
  refine lv_aload_n hx hb d_W_init_13 rfl (lv_at hl 0 rfl) ?_
  refine lv_aload_n hx hb d_W_init_14 rfl (lv_at hl 0 rfl) ?_
  refine va_get (D := (dC, dI)) (ci := 1) (v := .int (nI 60)) (C := R_W) (T := F_W) (N := 3) hx hb hts i_W hown hK hP 0 rfl rfl 0 (by decide) (hts _ wd_30) (fun _ h9 => h9) rfl d_W_init_15 ?_
  refine lv_iconst (v := nI 5) hx hb d_W_init_18 (by decide) ?_
  refine nv_mul hx hb d_W_init_19 ?_
  refine nv_as (nI 300) (by decide) ?_
  refine va_newa (atype := .int) (ty := .int) (N' := 300) (a0 := (300, .inl f)) hx hb (hts _ wd_40) rfl hK hP hD hS hA (fun cA => by rw [hf]; rfl) (by decide) (by decide) (by decide) (Nat.le_of_ble_eq_true rfl) (Nat.le_of_ble_eq_true rfl) d_W_init_20 (fun q20 ca20 H hK hP hD hS => ?_)
  have hP : va_P (dC, dI) classes [(h0, .inr (1, [.int (nI 60), .null, .int 0])), (q20, .inl (ca20, 300, .inl f))] H := hP
  have hD : va_D A [(h0, .inr (1, [.int (nI 60), .null, .int 0])), (q20, .inl (ca20, 300, .inl f))] := hD
  have hK : va_K (dC, dI) classes [(ca20, .int)] s := hK
  refine W.widen (k := 1) (n := 300) (Nat.le_of_ble_eq_true rfl) (Nat.le_of_ble_eq_true rfl) ?_
  refine va_putF (D := (dC, dI)) (ci := 1) (v := .ref q20) (ty := .array .int) (C := R_W) (T := F_W) (N := 3) hx hb hts i_W ty_W ty_W_ok n_W hown hK hP hD hS 0 rfl rfl 1 (by decide) (hts _ wd_31) (fun _ h9 => h9) rfl hin rfl (by decide +kernel) rfl rfl (Nat.le_of_ble_eq_true rfl) d_W_init_22 (fun H locs hP hD hS => ?_)
  have hP : va_P (dC, dI) classes [(h0, .inr (1, [.int (nI 60), .ref q20, .int 0])), (q20, .inl (ca20, 300, .inl f))] H := hP
  have hD : va_D A [(h0, .inr (1, [.int (nI 60), .ref q20, .int 0])), (q20, .inl (ca20, 300, .inl f))] := hD
  have hK : va_K (dC, dI) classes [(ca20, .int)] s := hK
  exact W.vret hx hb hr (fun t ht hW => ⟨⟨(q20, ca20), rfl, trivial, by rw [ht]; exact hP, va_K.moved hW.alike hK, hD⟩, hS.F ht⟩) hS.2.2 d_W_init_25
set_option maxHeartbeats 8000000 in
set_option maxRecDepth 100000 in
theorem c_W_init80 (l : Launch) (dC : Nat → ClassId) (dI : Nat → Nat → Nat) (h0 sz : Nat) (f : Nat → Int32) (hf : f = fun _ => 0) : Met l y_W_init (.code y_W_init b_W_init 2 none :: bg) { frames := 1, cells := 1, slots := 400, locals := 14 } (va_Pc [.ref h0, .int (nI 80)] (fun U => U.heap.size = sz ∧ va_P (dC, dI) classes [(h0, .inr (1, [.int 0, .null, .int 0]))] U.heap ∧ va_K (dC, dI) classes [] U ∧ va_D (fun _ => True) [(h0, .inr (1, [.int 0, .null, .int 0]))])) (va_Qv (fun _ : Nat × ClassId => True) (fun u t => va_P (dC, dI) classes [(h0, .inr (1, [.int (nI 80), .ref u.1, .int 0])), (u.1, .inl (u.2, 400, .inl f))] t.heap ∧ va_K (dC, dI) classes [(u.2, .int)] t ∧ va_D (va_A [(h0, .inr (1, [.int 0, .null, .int 0]))] sz) [(h0, .inr (1, [.int (nI 80), .ref u.1, .int 0])), (u.1, .inl (u.2, 400, .inl f))]) (va_A [(h0, .inr (1, [.int 0, .null, .int 0]))] sz)) 1 400 (va_A [(h0, .inr (1, [.int 0, .null, .int 0]))] sz) := by
  refine Met.ofW (cc := b_W_init) (maxL := 2) (ret := none) (by decide) rfl ?_
  intro p e s m args below meth c s₁ B hml hv
  obtain ⟨rfl, hsz, hP, hK, hD0⟩ := hv
  subst hsz
  have hin : meth.name = "<init>" := (name_of_methodNamed B.named B.method).1
  have hD := hD0.self (sz := s.heap.size)
  generalize hAe : va_A [(h0, .inr (1, [.int 0, .null, .int 0]))] s.heap.size = A at hD ⊢
  have hA : ∀ q : Nat, s.heap.size ≤ q → A q := fun q h => by rw [← hAe]; exact Or.inr h
  have hS : va_S A s.heap s.heap [] := va_S.rf
  have hx := B.exec
  have hb := B.bytes
  have hr := B.returns
  have hts := fun w (h : w ∈ bg) => atoms_spec (ws := .code y_W_init b_W_init 2 none :: bg) B.pre w (List.mem_cons_of_mem _ h)
  have hown : s.vm.findClass R_W = some m.cls := findClass_of_methodNamed B.named
  have hlocks := B.notSynchronized
  have hl := lv_entry ([.ref h0, .int (nI 80)]) (n := 2) (Nat.le_of_ble_eq_true rfl)
  rw [lg_entry_eq]
  generalize (lg_sl ([.ref h0, .int (nI 80)]) ++ List.replicate (2 - (lg_sl ([.ref h0, .int (nI 80)])).length) Slot.unset).toArray = ls at hl ⊢
  have hl : lv_has ls 2 [(0, .ref h0), (1, .int (nI 80))] := hl
  refine lv_aload_n hx hb d_W_init_0 rfl (lv_at hl 0 rfl) ?_
  refine W.objInit hx hb hown (hts (.methodLink R_W 1 objectInit) wd_26) (hts (.instanceMethod objectInit) wd_19) (hts _ wo_code) rfl (by rw [hml]; exact hl.1) rfl d_W_init_1 (Nat.le_of_ble_eq_true rfl) (Nat.le_of_ble_eq_true rfl) ?_
  refine W.eq (g2 := F0 m 4 ls []) rfl ?_
  refine lv_aload_n hx hb d_W_init_4 rfl (lv_at hl 0 rfl) ?_
  refine lv_iconst (v := nI 0) hx hb d_W_init_5 (by decide) ?_
  refine lv_iload_n hx hb d_W_init_6 rfl (lv_at hl 1 rfl) ?_
  refine va_mmax hx hb (hml.trans hl.1.symm) hown (hts _ wd_27) (hts _ wd_28) (hts _ wd_3) (hts _ wm_max) (Nat.le_of_ble_eq_true rfl) (Nat.le_of_ble_eq_true rfl) (Nat.le_of_ble_eq_true rfl) (Nat.le_of_ble_eq_true rfl) d_W_init_7 ?_
  refine nv_as (nI 80) (by decide) ?_
  refine va_putF (D := (dC, dI)) (ci := 1) (v := .int (nI 80)) (ty := .int) (C := R_W) (T := F_W) (N := 3) hx hb hts i_W ty_W ty_W_ok n_W hown hK hP hD hS 0 rfl rfl 0 (by decide) (hts _ wd_30) (fun _ h9 => h9) rfl hin rfl (by decide +kernel) rfl rfl (Nat.le_of_ble_eq_true rfl) d_W_init_10 (fun H locs hP hD hS => ?_)
  have hP : va_P (dC, dI) classes [(h0, .inr (1, [.int (nI 80), .null, .int 0]))] H := hP
  have hD : va_D A [(h0, .inr (1, [.int (nI 80), .null, .int 0]))] := hD
  have hK : va_K (dC, dI) classes [] s := hK
  refine lv_aload_n hx hb d_W_init_13 rfl (lv_at hl 0 rfl) ?_
  refine lv_aload_n hx hb d_W_init_14 rfl (lv_at hl 0 rfl) ?_
  refine va_get (D := (dC, dI)) (ci := 1) (v := .int (nI 80)) (C := R_W) (T := F_W) (N := 3) hx hb hts i_W hown hK hP 0 rfl rfl 0 (by decide) (hts _ wd_30) (fun _ h9 => h9) rfl d_W_init_15 ?_
  refine lv_iconst (v := nI 5) hx hb d_W_init_18 (by decide) ?_
  refine nv_mul hx hb d_W_init_19 ?_
  refine nv_as (nI 400) (by decide) ?_
  refine va_newa (atype := .int) (ty := .int) (N' := 400) (a0 := (400, .inl f)) hx hb (hts _ wd_40) rfl hK hP hD hS hA (fun cA => by rw [hf]; rfl) (by decide) (by decide) (by decide) (Nat.le_of_ble_eq_true rfl) (Nat.le_of_ble_eq_true rfl) d_W_init_20 (fun q20 ca20 H hK hP hD hS => ?_)
  have hP : va_P (dC, dI) classes [(h0, .inr (1, [.int (nI 80), .null, .int 0])), (q20, .inl (ca20, 400, .inl f))] H := hP
  have hD : va_D A [(h0, .inr (1, [.int (nI 80), .null, .int 0])), (q20, .inl (ca20, 400, .inl f))] := hD
  have hK : va_K (dC, dI) classes [(ca20, .int)] s := hK
  refine W.widen (k := 1) (n := 400) (Nat.le_of_ble_eq_true rfl) (Nat.le_of_ble_eq_true rfl) ?_
  refine va_putF (D := (dC, dI)) (ci := 1) (v := .ref q20) (ty := .array .int) (C := R_W) (T := F_W) (N := 3) hx hb hts i_W ty_W ty_W_ok n_W hown hK hP hD hS 0 rfl rfl 1 (by decide) (hts _ wd_31) (fun _ h9 => h9) rfl hin rfl (by decide +kernel) rfl rfl (Nat.le_of_ble_eq_true rfl) d_W_init_22 (fun H locs hP hD hS => ?_)
  have hP : va_P (dC, dI) classes [(h0, .inr (1, [.int (nI 80), .ref q20, .int 0])), (q20, .inl (ca20, 400, .inl f))] H := hP
  have hD : va_D A [(h0, .inr (1, [.int (nI 80), .ref q20, .int 0])), (q20, .inl (ca20, 400, .inl f))] := hD
  have hK : va_K (dC, dI) classes [(ca20, .int)] s := hK
  exact W.vret hx hb hr (fun t ht hW => ⟨⟨(q20, ca20), rfl, trivial, by rw [ht]; exact hP, va_K.moved hW.alike hK, hD⟩, hS.F ht⟩) hS.2.2 d_W_init_25
set_option maxHeartbeats 8000000 in
set_option maxRecDepth 100000 in
theorem c_W_init20 (l : Launch) (dC : Nat → ClassId) (dI : Nat → Nat → Nat) (h0 sz : Nat) (f : Nat → Int32) (hf : f = fun _ => 0) : Met l y_W_init (.code y_W_init b_W_init 2 none :: bg) { frames := 1, cells := 1, slots := 100, locals := 14 } (va_Pc [.ref h0, .int (nI 20)] (fun U => U.heap.size = sz ∧ va_P (dC, dI) classes [(h0, .inr (1, [.int 0, .null, .int 0]))] U.heap ∧ va_K (dC, dI) classes [] U ∧ va_D (fun _ => True) [(h0, .inr (1, [.int 0, .null, .int 0]))])) (va_Qv (fun _ : Nat × ClassId => True) (fun u t => va_P (dC, dI) classes [(h0, .inr (1, [.int (nI 20), .ref u.1, .int 0])), (u.1, .inl (u.2, 100, .inl f))] t.heap ∧ va_K (dC, dI) classes [(u.2, .int)] t ∧ va_D (va_A [(h0, .inr (1, [.int 0, .null, .int 0]))] sz) [(h0, .inr (1, [.int (nI 20), .ref u.1, .int 0])), (u.1, .inl (u.2, 100, .inl f))]) (va_A [(h0, .inr (1, [.int 0, .null, .int 0]))] sz)) 1 100 (va_A [(h0, .inr (1, [.int 0, .null, .int 0]))] sz) := by
  refine Met.ofW (cc := b_W_init) (maxL := 2) (ret := none) (by decide) rfl ?_
  intro p e s m args below meth c s₁ B hml hv
  obtain ⟨rfl, hsz, hP, hK, hD0⟩ := hv
  subst hsz
  have hin : meth.name = "<init>" := (name_of_methodNamed B.named B.method).1
  have hD := hD0.self (sz := s.heap.size)
  generalize hAe : va_A [(h0, .inr (1, [.int 0, .null, .int 0]))] s.heap.size = A at hD ⊢
  have hA : ∀ q : Nat, s.heap.size ≤ q → A q := fun q h => by rw [← hAe]; exact Or.inr h
  have hS : va_S A s.heap s.heap [] := va_S.rf
  have hx := B.exec
  have hb := B.bytes
  have hr := B.returns
  have hts := fun w (h : w ∈ bg) => atoms_spec (ws := .code y_W_init b_W_init 2 none :: bg) B.pre w (List.mem_cons_of_mem _ h)
  have hown : s.vm.findClass R_W = some m.cls := findClass_of_methodNamed B.named
  have hlocks := B.notSynchronized
  have hl := lv_entry ([.ref h0, .int (nI 20)]) (n := 2) (Nat.le_of_ble_eq_true rfl)
  rw [lg_entry_eq]
  generalize (lg_sl ([.ref h0, .int (nI 20)]) ++ List.replicate (2 - (lg_sl ([.ref h0, .int (nI 20)])).length) Slot.unset).toArray = ls at hl ⊢
  have hl : lv_has ls 2 [(0, .ref h0), (1, .int (nI 20))] := hl
  refine lv_aload_n hx hb d_W_init_0 rfl (lv_at hl 0 rfl) ?_
  refine W.objInit hx hb hown (hts (.methodLink R_W 1 objectInit) wd_26) (hts (.instanceMethod objectInit) wd_19) (hts _ wo_code) rfl (by rw [hml]; exact hl.1) rfl d_W_init_1 (Nat.le_of_ble_eq_true rfl) (Nat.le_of_ble_eq_true rfl) ?_
  refine W.eq (g2 := F0 m 4 ls []) rfl ?_
  refine lv_aload_n hx hb d_W_init_4 rfl (lv_at hl 0 rfl) ?_
  refine lv_iconst (v := nI 0) hx hb d_W_init_5 (by decide) ?_
  refine lv_iload_n hx hb d_W_init_6 rfl (lv_at hl 1 rfl) ?_
  refine va_mmax hx hb (hml.trans hl.1.symm) hown (hts _ wd_27) (hts _ wd_28) (hts _ wd_3) (hts _ wm_max) (Nat.le_of_ble_eq_true rfl) (Nat.le_of_ble_eq_true rfl) (Nat.le_of_ble_eq_true rfl) (Nat.le_of_ble_eq_true rfl) d_W_init_7 ?_
  refine nv_as (nI 20) (by decide) ?_
  refine va_putF (D := (dC, dI)) (ci := 1) (v := .int (nI 20)) (ty := .int) (C := R_W) (T := F_W) (N := 3) hx hb hts i_W ty_W ty_W_ok n_W hown hK hP hD hS 0 rfl rfl 0 (by decide) (hts _ wd_30) (fun _ h9 => h9) rfl hin rfl (by decide +kernel) rfl rfl (Nat.le_of_ble_eq_true rfl) d_W_init_10 (fun H locs hP hD hS => ?_)
  have hP : va_P (dC, dI) classes [(h0, .inr (1, [.int (nI 20), .null, .int 0]))] H := hP
  have hD : va_D A [(h0, .inr (1, [.int (nI 20), .null, .int 0]))] := hD
  have hK : va_K (dC, dI) classes [] s := hK
  refine lv_aload_n hx hb d_W_init_13 rfl (lv_at hl 0 rfl) ?_
  refine lv_aload_n hx hb d_W_init_14 rfl (lv_at hl 0 rfl) ?_
  refine va_get (D := (dC, dI)) (ci := 1) (v := .int (nI 20)) (C := R_W) (T := F_W) (N := 3) hx hb hts i_W hown hK hP 0 rfl rfl 0 (by decide) (hts _ wd_30) (fun _ h9 => h9) rfl d_W_init_15 ?_
  refine lv_iconst (v := nI 5) hx hb d_W_init_18 (by decide) ?_
  refine nv_mul hx hb d_W_init_19 ?_
  refine nv_as (nI 100) (by decide) ?_
  refine va_newa (atype := .int) (ty := .int) (N' := 100) (a0 := (100, .inl f)) hx hb (hts _ wd_40) rfl hK hP hD hS hA (fun cA => by rw [hf]; rfl) (by decide) (by decide) (by decide) (Nat.le_of_ble_eq_true rfl) (Nat.le_of_ble_eq_true rfl) d_W_init_20 (fun q20 ca20 H hK hP hD hS => ?_)
  have hP : va_P (dC, dI) classes [(h0, .inr (1, [.int (nI 20), .null, .int 0])), (q20, .inl (ca20, 100, .inl f))] H := hP
  have hD : va_D A [(h0, .inr (1, [.int (nI 20), .null, .int 0])), (q20, .inl (ca20, 100, .inl f))] := hD
  have hK : va_K (dC, dI) classes [(ca20, .int)] s := hK
  refine W.widen (k := 1) (n := 100) (Nat.le_of_ble_eq_true rfl) (Nat.le_of_ble_eq_true rfl) ?_
  refine va_putF (D := (dC, dI)) (ci := 1) (v := .ref q20) (ty := .array .int) (C := R_W) (T := F_W) (N := 3) hx hb hts i_W ty_W ty_W_ok n_W hown hK hP hD hS 0 rfl rfl 1 (by decide) (hts _ wd_31) (fun _ h9 => h9) rfl hin rfl (by decide +kernel) rfl rfl (Nat.le_of_ble_eq_true rfl) d_W_init_22 (fun H locs hP hD hS => ?_)
  have hP : va_P (dC, dI) classes [(h0, .inr (1, [.int (nI 20), .ref q20, .int 0])), (q20, .inl (ca20, 100, .inl f))] H := hP
  have hD : va_D A [(h0, .inr (1, [.int (nI 20), .ref q20, .int 0])), (q20, .inl (ca20, 100, .inl f))] := hD
  have hK : va_K (dC, dI) classes [(ca20, .int)] s := hK
  exact W.vret hx hb hr (fun t ht hW => ⟨⟨(q20, ca20), rfl, trivial, by rw [ht]; exact hP, va_K.moved hW.alike hK, hD⟩, hS.F ht⟩) hS.2.2 d_W_init_25
set_option maxHeartbeats 8000000 in
set_option maxRecDepth 100000 in
theorem c_H_init (l : Launch) (dC : Nat → ClassId) (dI : Nat → Nat → Nat) (h0 sz : Nat) (f g : Nat → Int32) (hf : f = fun _ => 0) (hg : g = fun _ => 0) : Met l y_H_init (.code y_H_init b_H_init 1 none :: bg) { frames := 1, cells := 2, slots := 20, locals := 14 } (va_Pc [.ref h0] (fun U => U.heap.size = sz ∧ va_P (dC, dI) classes [(h0, .inr (2, [.null, .null, .int 0]))] U.heap ∧ va_K (dC, dI) classes [] U ∧ va_D (fun _ => True) [(h0, .inr (2, [.null, .null, .int 0]))])) (va_Qv (fun _ : Nat × Nat × ClassId × ClassId => True) (fun u t => va_P (dC, dI) classes [(h0, .inr (2, [.ref u.1, .ref u.2.1, .int 0])), (u.1, .inl (u.2.2.1, 10, .inl f)), (u.2.1, .inl (u.2.2.2, 10, .inl g))] t.heap ∧ va_K (dC, dI) classes [(u.2.2.1, .int), (u.2.2.2, .int)] t ∧ va_D (va_A [(h0, .inr (2, [.null, .null, .int 0]))] sz) [(h0, .inr (2, [.ref u.1, .ref u.2.1, .int 0])), (u.1, .inl (u.2.2.1, 10, .inl f)), (u.2.1, .inl (u.2.2.2, 10, .inl g))]) (va_A [(h0, .inr (2, [.null, .null, .int 0]))] sz)) 2 20 (va_A [(h0, .inr (2, [.null, .null, .int 0]))] sz) := by
  refine Met.ofW (cc := b_H_init) (maxL := 1) (ret := none) (by decide) rfl ?_
  intro p e s m args below meth c s₁ B hml hv
  obtain ⟨rfl, hsz, hP, hK, hD0⟩ := hv
  subst hsz
  have hin : meth.name = "<init>" := (name_of_methodNamed B.named B.method).1
  have hD := hD0.self (sz := s.heap.size)
  generalize hAe : va_A [(h0, .inr (2, [.null, .null, .int 0]))] s.heap.size = A at hD ⊢
  have hA : ∀ q : Nat, s.heap.size ≤ q → A q := fun q h => by rw [← hAe]; exact Or.inr h
  have hS : va_S A s.heap s.heap [] := va_S.rf
  have hx := B.exec
  have hb := B.bytes
  have hr := B.returns
  have hts := fun w (h : w ∈ bg) => atoms_spec (ws := .code y_H_init b_H_init 1 none :: bg) B.pre w (List.mem_cons_of_mem _ h)
  have hown : s.vm.findClass R_H = some m.cls := findClass_of_methodNamed B.named
  have hlocks := B.notSynchronized
  have hl := lv_entry ([.ref h0]) (n := 1) (Nat.le_of_ble_eq_true rfl)
  rw [lg_entry_eq]
  generalize (lg_sl ([.ref h0]) ++ List.replicate (1 - (lg_sl ([.ref h0])).length) Slot.unset).toArray = ls at hl ⊢
  have hl : lv_has ls 1 [(0, .ref h0)] := hl
  refine lv_aload_n hx hb d_H_init_0 rfl (lv_at hl 0 rfl) ?_
  refine W.objInit hx hb hown (hts (.methodLink R_H 3 objectInit) wd_46) (hts (.instanceMethod objectInit) wd_19) (hts _ wo_code) rfl (by rw [hml]; exact hl.1) rfl d_H_init_1 (Nat.le_of_ble_eq_true rfl) (Nat.le_of_ble_eq_true rfl) ?_
  refine W.eq (g2 := F0 m 4 ls []) rfl ?_
  refine lv_aload_n hx hb d_H_init_4 rfl (lv_at hl 0 rfl) ?_
  refine lv_bipush (v := nI 10) hx hb d_H_init_5 (by decide) ?_
  refine va_newa (atype := .int) (ty := .int) (N' := 10) (a0 := (10, .inl f)) hx hb (hts _ wd_40) rfl hK hP hD hS hA (fun cA => by rw [hf]; rfl) (by decide) (by decide) (by decide) (Nat.le_of_ble_eq_true rfl) (Nat.le_of_ble_eq_true rfl) d_H_init_7 (fun q7 ca7 H hK hP hD hS => ?_)
  have hP : va_P (dC, dI) classes [(h0, .inr (2, [.null, .null, .int 0])), (q7, .inl (ca7, 10, .inl f))] H := hP
  have hD : va_D A [(h0, .inr (2, [.null, .null, .int 0])), (q7, .inl (ca7, 10, .inl f))] := hD
  have hK : va_K (dC, dI) classes [(ca7, .int)] s := hK
  refine W.widen (k := 1) (n := 10) (Nat.le_of_ble_eq_true rfl) (Nat.le_of_ble_eq_true rfl) ?_
  refine va_putF (D := (dC, dI)) (ci := 2) (v := .ref q7) (ty := .array .int) (C := R_H) (T := F_H) (N := 3) hx hb hts i_H ty_H ty_H_ok n_H hown hK hP hD hS 0 rfl rfl 0 (by decide) (hts _ wd_47) (fun _ h9 => h9) rfl hin rfl (by decide +kernel) rfl rfl (Nat.le_of_ble_eq_true rfl) d_H_init_9 (fun H locs hP hD hS => ?_)
  have hP : va_P (dC, dI) classes [(h0, .inr (2, [.ref q7, .null, .int 0])), (q7, .inl (ca7, 10, .inl f))] H := hP
  have hD : va_D A [(h0, .inr (2, [.ref q7, .null, .int 0])), (q7, .inl (ca7, 10, .inl f))] := hD
  have hK : va_K (dC, dI) classes [(ca7, .int)] s := hK
  refine lv_aload_n hx hb d_H_init_12 rfl (lv_at hl 0 rfl) ?_
  refine lv_bipush (v := nI 10) hx hb d_H_init_13 (by decide) ?_
  refine va_newa (atype := .int) (ty := .int) (N' := 10) (a0 := (10, .inl g)) hx hb (hts _ wd_40) rfl hK hP hD hS hA (fun cA => by rw [hg]; rfl) (by decide) (by decide) (by decide) (Nat.le_of_ble_eq_true rfl) (Nat.le_of_ble_eq_true rfl) d_H_init_15 (fun q15 ca15 H hK hP hD hS => ?_)
  have hP : va_P (dC, dI) classes [(h0, .inr (2, [.ref q7, .null, .int 0])), (q7, .inl (ca7, 10, .inl f)), (q15, .inl (ca15, 10, .inl g))] H := hP
  have hD : va_D A [(h0, .inr (2, [.ref q7, .null, .int 0])), (q7, .inl (ca7, 10, .inl f)), (q15, .inl (ca15, 10, .inl g))] := hD
  have hK : va_K (dC, dI) classes [(ca7, .int), (ca15, .int)] s := hK
  refine W.widen (k := 2) (n := 20) (Nat.le_of_ble_eq_true rfl) (Nat.le_of_ble_eq_true rfl) ?_
  refine va_putF (D := (dC, dI)) (ci := 2) (v := .ref q15) (ty := .array .int) (C := R_H) (T := F_H) (N := 3) hx hb hts i_H ty_H ty_H_ok n_H hown hK hP hD hS 0 rfl rfl 1 (by decide) (hts _ wd_48) (fun _ h9 => h9) rfl hin rfl (by decide +kernel) rfl rfl (Nat.le_of_ble_eq_true rfl) d_H_init_17 (fun H locs hP hD hS => ?_)
  have hP : va_P (dC, dI) classes [(h0, .inr (2, [.ref q7, .ref q15, .int 0])), (q7, .inl (ca7, 10, .inl f)), (q15, .inl (ca15, 10, .inl g))] H := hP
  have hD : va_D A [(h0, .inr (2, [.ref q7, .ref q15, .int 0])), (q7, .inl (ca7, 10, .inl f)), (q15, .inl (ca15, 10, .inl g))] := hD
  have hK : va_K (dC, dI) classes [(ca7, .int), (ca15, .int)] s := hK
  exact W.vret hx hb hr (fun t ht hW => ⟨⟨(q7, q15, ca7, ca15), rfl, trivial, by rw [ht]; exact hP, va_K.moved hW.alike hK, hD⟩, hS.F ht⟩) hS.2.2 d_H_init_20
set_option maxHeartbeats 8000000 in
set_option maxRecDepth 100000 in
theorem c_X_init (l : Launch) (dC : Nat → ClassId) (dI : Nat → Nat → Nat) (A0 : Nat → Prop) (h0 sz : Nat) : Met l y_X_init (.code y_X_init b_X_init 1 none :: bg) { frames := 2, cells := 17, slots := 2228, locals := 35 } (va_Pc [.ref h0] (fun U => U.heap.size = sz ∧ va_P (dC, dI) classes [(h0, .inr (0, [.null, .null, .null, .null, .null, .null, .null, .null, .null, .null, .int 0, .int 0]))] U.heap ∧ va_K (dC, dI) classes [] U ∧ va_D (fun _ => True) [(h0, .inr (0, [.null, .null, .null, .null, .null, .null, .null, .null, .null, .null, .int 0, .int 0]))] ∧ gG A0 U U.heap)) (va_Qv (fun _ : (Nat → Nat) × ClassId => True) (fun u t => u.1 0 = h0 ∧ va_P (dC, dI) classes (wX u.1 u.2 S0) t.heap ∧ va_K (dC, dI) classes [(u.2, .int)] t ∧ va_D (va_A [(h0, .inr (0, [.null, .null, .null, .null, .null, .null, .null, .null, .null, .null, .int 0, .int 0]))] sz) (wX u.1 u.2 S0)) (va_A [(h0, .inr (0, [.null, .null, .null, .null, .null, .null, .null, .null, .null, .null, .int 0, .int 0]))] sz)) 17 2228 (va_A [(h0, .inr (0, [.null, .null, .null, .null, .null, .null, .null, .null, .null, .null, .int 0, .int 0]))] sz) := by
  refine Met.ofW (cc := b_X_init) (maxL := 1) (ret := none) (by decide) rfl ?_
  intro p e s m args below meth c s₁ B hml hv
  obtain ⟨rfl, hsz, hP, hK, hD0, hG⟩ := hv
  subst hsz
  have hin : meth.name = "<init>" := (name_of_methodNamed B.named B.method).1
  have hD := hD0.self (sz := s.heap.size)
  generalize hAe : va_A [(h0, .inr (0, [.null, .null, .null, .null, .null, .null, .null, .null, .null, .null, .int 0, .int 0]))] s.heap.size = A at hD ⊢
  have hA : ∀ q : Nat, s.heap.size ≤ q → A q := fun q h => by rw [← hAe]; exact Or.inr h
  have hS : va_S A s.heap s.heap [] := va_S.rf
  have hx := B.exec
  have hb := B.bytes
  have hr := B.returns
  have hts := fun w (h : w ∈ bg) => atoms_spec (ws := .code y_X_init b_X_init 1 none :: bg) B.pre w (List.mem_cons_of_mem _ h)
  have hown : s.vm.findClass R_X = some m.cls := findClass_of_methodNamed B.named
  have hlocks := B.notSynchronized
  have hl := lv_entry ([.ref h0]) (n := 1) (Nat.le_of_ble_eq_true rfl)
  rw [lg_entry_eq]
  generalize (lg_sl ([.ref h0]) ++ List.replicate (1 - (lg_sl ([.ref h0])).length) Slot.unset).toArray = ls at hl ⊢
  have hl : lv_has ls 1 [(0, .ref h0)] := hl
  refine lv_aload_n hx hb d_X_init_0 rfl (lv_at hl 0 rfl) ?_
  refine W.objInit hx hb hown (hts (.methodLink R_X 1 objectInit) wd_18) (hts (.instanceMethod objectInit) wd_19) (hts _ wo_code) rfl (by rw [hml]; exact hl.1) rfl d_X_init_1 (Nat.le_of_ble_eq_true rfl) (Nat.le_of_ble_eq_true rfl) ?_
  refine W.eq (g2 := F0 m 4 ls []) rfl ?_
  refine lv_aload_n hx hb d_X_init_4 rfl (lv_at hl 0 rfl) ?_
  refine va_new (ci := 1) (fs := [.int 0, .null, .int 0]) (C := R_W) (T := F_W) (N := 3) hx hb hts i_W ty_W ty_W_ok hown (hts _ wd_21) (hts _ wd_22) (hts _ wd_2) hK hP hD hS hA rfl (fun j hj => by rcases (show j = 0 ∨ j = 1 ∨ j = 2 by omega) with rfl | rfl | rfl <;> rfl) (Nat.le_of_ble_eq_true rfl) (Nat.le_of_ble_eq_true rfl) d_X_init_5 (fun q5 H hP hD hS => ?_)
  have hP : va_P (dC, dI) classes [(h0, .inr (0, [.null, .null, .null, .null, .null, .null, .null, .null, .null, .null, .int 0, .int 0])), (q5, .inr (1, [.int 0, .null, .int 0]))] H := hP
  have hD : va_D A [(h0, .inr (0, [.null, .null, .null, .null, .null, .null, .null, .null, .null, .null, .int 0, .int 0])), (q5, .inr (1, [.int 0, .null, .int 0]))] := hD
  have hK : va_K (dC, dI) classes [] s := hK
  refine W.widen (k := 1) (n := 3) (Nat.le_of_ble_eq_true rfl) (Nat.le_of_ble_eq_true rfl) ?_
  refine lv_dup hx hb d_X_init_8 rfl ?_
  refine lv_bipush (v := nI 60) hx hb d_X_init_9 (by decide) ?_
  have hPc := hP.sub (ws' := [(q5, .inr (1, [.int 0, .null, .int 0]))]) [1] rfl
  have hDc := hD.sub (ws' := [(q5, .inr (1, [.int 0, .null, .int 0]))]) [1] (by decide) rfl
  have hKc := hK.sub (tys' := []) [] rfl
  have hFc := va_free (wc := [(q5, .inr (1, [.int 0, .null, .int 0]))]) hD hS hA [1] rfl
  refine va_callv (va_runI (As := [.int (nI 60)]) (rest := [.ref q5, .ref h0]) ⟨hx, hb, hml, hown, hts⟩ (c_W_init60 l dC dI q5 H.size (rowf S0.1 0) zr_11) (cwI 1 hts (gi_I wd_25) rfl rfl rfl (hts _ wd_2) (hts _ wd_23) (hts _ wd_24) rfl (by decide +kernel) ⟨Nat.le_of_ble_eq_true rfl, Nat.le_of_ble_eq_true rfl⟩) ⟨fun a U g mk q => by obtain ⟨q0, q1, qP, qK, qD⟩ := q; exact ⟨q0, q1, qP, va_K.moved (u := U) (U := U.calling g mk a) (Vm.Alike.refl U.vm) qK, qD⟩, fun U hU hW => ⟨rfl, by rw [hU], by rw [hU]; exact hPc, va_K.moved hW.alike hKc, hDc.weaken (fun _ _ _ _ => trivial)⟩⟩ rfl rfl hl.1 rfl (lv_room (Nat.le_of_ble_eq_true rfl)) d_X_init_11 ⟨Nat.le_of_ble_eq_true rfl, Nat.le_of_ble_eq_true rfl⟩) hS (fun q _ h => hFc q h) hFc (fun u t H1 locs ht hvm hw hB hz1 hk1 hS => ?_)
  obtain ⟨r11, ca11⟩ := u
  obtain ⟨hP1, hK1, hD1⟩ := hB
  rw [ht] at hP1
  have hK1 := va_K.moved hvm.symm hK1
  obtain ⟨hP, hD⟩ := va_join (wr := [(h0, .inr (0, [.null, .null, .null, .null, .null, .null, .null, .null, .null, .null, .int 0, .int 0]))]) (w1 := [(q5, .inr (1, [.int (nI 60), .ref r11, .int 0])), (r11, .inl (ca11, 300, .inl (rowf S0.1 0)))]) hP hD [1] [0] rfl rfl (by decide) (by decide) hk1 hFc hP1 hD1
  have hK := (hK.sub (tys' := []) [] rfl).app hK1
  generalize H1 = H at hP hS ⊢
  have hP : va_P (dC, dI) classes [(h0, .inr (0, [.null, .null, .null, .null, .null, .null, .null, .null, .null, .null, .int 0, .int 0])), (q5, .inr (1, [.int (nI 60), .ref r11, .int 0])), (r11, .inl (ca11, 300, .inl (rowf S0.1 0)))] H := hP
  have hD : va_D A [(h0, .inr (0, [.null, .null, .null, .null, .null, .null, .null, .null, .null, .null, .int 0, .int 0])), (q5, .inr (1, [.int (nI 60), .ref r11, .int 0])), (r11, .inl (ca11, 300, .inl (rowf S0.1 0)))] := hD
  have hK : va_K (dC, dI) classes [(ca11, .int)] s := hK
  refine W.widen (k := 2) (n := 303) (Nat.le_of_ble_eq_true rfl) (Nat.le_of_ble_eq_true rfl) ?_
  refine W.eq (g2 := F0 m 14 ls [.ref q5, .ref h0]) rfl ?_
  refine va_putF (D := (dC, dI)) (ci := 0) (v := .ref q5) (ty := .object "StockRows2$Rows") (C := R_X) (T := F_X) (N := 12) hx hb hts i_X ty_X ty_X_ok n_X hown hK hP hD hS 0 rfl rfl 0 (by decide) (hts _ wd_57) (fun _ h9 => h9) rfl hin rfl (by decide +kernel) rfl rfl (Nat.le_of_ble_eq_true rfl) d_X_init_14 (fun H locs hP hD hS => ?_)
  have hP : va_P (dC, dI) classes [(h0, .inr (0, [.ref q5, .null, .null, .null, .null, .null, .null, .null, .null, .null, .int 0, .int 0])), (q5, .inr (1, [.int (nI 60), .ref r11, .int 0])), (r11, .inl (ca11, 300, .inl (rowf S0.1 0)))] H := hP
  have hD : va_D A [(h0, .inr (0, [.ref q5, .null, .null, .null, .null, .null, .null, .null, .null, .null, .int 0, .int 0])), (q5, .inr (1, [.int (nI 60), .ref r11, .int 0])), (r11, .inl (ca11, 300, .inl (rowf S0.1 0)))] := hD
  have hK : va_K (dC, dI) classes [(ca11, .int)] s := hK
  refine lv_aload_n hx hb d_X_init_17 rfl (lv_at hl 0 rfl) ?_
  refine va_new (ci := 1) (fs := [.int 0, .null, .int 0]) (C := R_W) (T := F_W) (N := 3) hx hb hts i_W ty_W ty_W_ok hown (hts _ wd_21) (hts _ wd_22) (hts _ wd_2) hK hP hD hS hA rfl (fun j hj => by rcases (show j = 0 ∨ j = 1 ∨ j = 2 by omega) with rfl | rfl | rfl <;> rfl) (Nat.le_of_ble_eq_true rfl) (Nat.le_of_ble_eq_true rfl) d_X_init_18 (fun q18 H hP hD hS => ?_)
  have hP : va_P (dC, dI) classes [(h0, .inr (0, [.ref q5, .null, .null, .null, .null, .null, .null, .null, .null, .null, .int 0, .int 0])), (q5, .inr (1, [.int (nI 60), .ref r11, .int 0])), (r11, .inl (ca11, 300, .inl (rowf S0.1 0))), (q18, .inr (1, [.int 0, .null, .int 0]))] H := hP
  have hD : va_D A [(h0, .inr (0, [.ref q5, .null, .null, .null, .null, .null, .null, .null, .null, .null, .int 0, .int 0])), (q5, .inr (1, [.int (nI 60), .ref r11, .int 0])), (r11, .inl (ca11, 300, .inl (rowf S0.1 0))), (q18, .inr (1, [.int 0, .null, .int 0]))] := hD
  have hK : va_K (dC, dI) classes [(ca11, .int)] s := hK
  refine W.widen (k := 3) (n := 306) (Nat.le_of_ble_eq_true rfl) (Nat.le_of_ble_eq_true rfl) ?_
  refine lv_dup hx hb d_X_init_21 rfl ?_
  refine lv_bipush (v := nI 60) hx hb d_X_init_22 (by decide) ?_
  have hPc := hP.sub (ws' := [(q18, .inr (1, [.int 0, .null, .int 0]))]) [3] rfl
  have hDc := hD.sub (ws' := [(q18, .inr (1, [.int 0, .null, .int 0]))]) [3] (by decide) rfl
  have hKc := hK.sub (tys' := []) [] rfl
  have hFc := va_free (wc := [(q18, .inr (1, [.int 0, .null, .int 0]))]) hD hS hA [3] rfl
  refine va_callv (va_runI (As := [.int (nI 60)]) (rest := [.ref q18, .ref h0]) ⟨hx, hb, hml, hown, hts⟩ (c_W_init60 l dC dI q18 H.size (rowf S0.1 5) zr_24) (cwI 1 hts (gi_I wd_25) rfl rfl rfl (hts _ wd_2) (hts _ wd_23) (hts _ wd_24) rfl (by decide +kernel) ⟨Nat.le_of_ble_eq_true rfl, Nat.le_of_ble_eq_true rfl⟩) ⟨fun a U g mk q => by obtain ⟨q0, q1, qP, qK, qD⟩ := q; exact ⟨q0, q1, qP, va_K.moved (u := U) (U := U.calling g mk a) (Vm.Alike.refl U.vm) qK, qD⟩, fun U hU hW => ⟨rfl, by rw [hU], by rw [hU]; exact hPc, va_K.moved hW.alike hKc, hDc.weaken (fun _ _ _ _ => trivial)⟩⟩ rfl rfl hl.1 rfl (lv_room (Nat.le_of_ble_eq_true rfl)) d_X_init_24 ⟨Nat.le_of_ble_eq_true rfl, Nat.le_of_ble_eq_true rfl⟩) hS (fun q _ h => hFc q h) hFc (fun u t H1 locs ht hvm hw hB hz1 hk1 hS => ?_)
  obtain ⟨r24, ca24⟩ := u
  obtain ⟨hP1, hK1, hD1⟩ := hB
  rw [ht] at hP1
  have hK1 := va_K.moved hvm.symm hK1
  obtain ⟨hP, hD⟩ := va_join (wr := [(h0, .inr (0, [.ref q5, .null, .null, .null, .null, .null, .null, .null, .null, .null, .int 0, .int 0])), (q5, .inr (1, [.int (nI 60), .ref r11, .int 0])), (r11, .inl (ca11, 300, .inl (rowf S0.1 0)))]) (w1 := [(q18, .inr (1, [.int (nI 60), .ref r24, .int 0])), (r24, .inl (ca24, 300, .inl (rowf S0.1 5)))]) hP hD [3] [0, 1, 2] rfl rfl (by decide) (by decide) hk1 hFc hP1 hD1
  have hK := (hK.sub (tys' := [(ca11, .int)]) [0] rfl).app hK1
  generalize H1 = H at hP hS ⊢
  have hP : va_P (dC, dI) classes [(h0, .inr (0, [.ref q5, .null, .null, .null, .null, .null, .null, .null, .null, .null, .int 0, .int 0])), (q5, .inr (1, [.int (nI 60), .ref r11, .int 0])), (r11, .inl (ca11, 300, .inl (rowf S0.1 0))), (q18, .inr (1, [.int (nI 60), .ref r24, .int 0])), (r24, .inl (ca24, 300, .inl (rowf S0.1 5)))] H := hP
  have hD : va_D A [(h0, .inr (0, [.ref q5, .null, .null, .null, .null, .null, .null, .null, .null, .null, .int 0, .int 0])), (q5, .inr (1, [.int (nI 60), .ref r11, .int 0])), (r11, .inl (ca11, 300, .inl (rowf S0.1 0))), (q18, .inr (1, [.int (nI 60), .ref r24, .int 0])), (r24, .inl (ca24, 300, .inl (rowf S0.1 5)))] := hD
  have hK : va_K (dC, dI) classes [(ca11, .int), (ca24, .int)] s := hK
  refine W.widen (k := 4) (n := 606) (Nat.le_of_ble_eq_true rfl) (Nat.le_of_ble_eq_true rfl) ?_
  refine W.eq (g2 := F0 m 27 ls [.ref q18, .ref h0]) rfl ?_
  refine va_putF (D := (dC, dI)) (ci := 0) (v := .ref q18) (ty := .object "StockRows2$Rows") (C := R_X) (T := F_X) (N := 12) hx hb hts i_X ty_X ty_X_ok n_X hown hK hP hD hS 0 rfl rfl 1 (by decide) (hts _ wd_58) (fun _ h9 => h9) rfl hin rfl (by decide +kernel) rfl rfl (Nat.le_of_ble_eq_true rfl) d_X_init_27 (fun H locs hP hD hS => ?_)
  have hP : va_P (dC, dI) classes [(h0, .inr (0, [.ref q5, .ref q18, .null, .null, .null, .null, .null, .null, .null, .null, .int 0, .int 0])), (q5, .inr (1, [.int (nI 60), .ref r11, .int 0])), (r11, .inl (ca11, 300, .inl (rowf S0.1 0))), (q18, .inr (1, [.int (nI 60), .ref r24, .int 0])), (r24, .inl (ca24, 300, .inl (rowf S0.1 5)))] H := hP
  have hD : va_D A [(h0, .inr (0, [.ref q5, .ref q18, .null, .null, .null, .null, .null, .null, .null, .null, .int 0, .int 0])), (q5, .inr (1, [.int (nI 60), .ref r11, .int 0])), (r11, .inl (ca11, 300, .inl (rowf S0.1 0))), (q18, .inr (1, [.int (nI 60), .ref r24, .int 0])), (r24, .inl (ca24, 300, .inl (rowf S0.1 5)))] := hD
  have hK : va_K (dC, dI) classes [(ca11, .int), (ca24, .int)] s := hK
  refine lv_aload_n hx hb d_X_init_30 rfl (lv_at hl 0 rfl) ?_
  refine va_new (ci := 1) (fs := [.int 0, .null, .int 0]) (C := R_W) (T := F_W) (N := 3) hx hb hts i_W ty_W ty_W_ok hown (hts _ wd_21) (hts _ wd_22) (hts _ wd_2) hK hP hD hS hA rfl (fun j hj => by rcases (show j = 0 ∨ j = 1 ∨ j = 2 by omega) with rfl | rfl | rfl <;> rfl) (Nat.le_of_ble_eq_true rfl) (Nat.le_of_ble_eq_true rfl) d_X_init_31 (fun q31 H hP hD hS => ?_)
  have hP : va_P (dC, dI) classes [(h0, .inr (0, [.ref q5, .ref q18, .null, .null, .null, .null, .null, .null, .null, .null, .int 0, .int 0])), (q5, .inr (1, [.int (nI 60), .ref r11, .int 0])), (r11, .inl (ca11, 300, .inl (rowf S0.1 0))), (q18, .inr (1, [.int (nI 60), .ref r24, .int 0])), (r24, .inl (ca24, 300, .inl (rowf S0.1 5))), (q31, .inr (1, [.int 0, .null, .int 0]))] H := hP
  have hD : va_D A [(h0, .inr (0, [.ref q5, .ref q18, .null, .null, .null, .null, .null, .null, .null, .null, .int 0, .int 0])), (q5, .inr (1, [.int (nI 60), .ref r11, .int 0])), (r11, .inl (ca11, 300, .inl (rowf S0.1 0))), (q18, .inr (1, [.int (nI 60), .ref r24, .int 0])), (r24, .inl (ca24, 300, .inl (rowf S0.1 5))), (q31, .inr (1, [.int 0, .null, .int 0]))] := hD
  have hK : va_K (dC, dI) classes [(ca11, .int), (ca24, .int)] s := hK
  refine W.widen (k := 5) (n := 609) (Nat.le_of_ble_eq_true rfl) (Nat.le_of_ble_eq_true rfl) ?_
  refine lv_dup hx hb d_X_init_34 rfl ?_
  refine lv_bipush (v := nI 80) hx hb d_X_init_35 (by decide) ?_
  have hPc := hP.sub (ws' := [(q31, .inr (1, [.int 0, .null, .int 0]))]) [5] rfl
  have hDc := hD.sub (ws' := [(q31, .inr (1, [.int 0, .null, .int 0]))]) [5] (by decide) rfl
  have hKc := hK.sub (tys' := []) [] rfl
  have hFc := va_free (wc := [(q31, .inr (1, [.int 0, .null, .int 0]))]) hD hS hA [5] rfl
  refine va_callv (va_runI (As := [.int (nI 80)]) (rest := [.ref q31, .ref h0]) ⟨hx, hb, hml, hown, hts⟩ (c_W_init80 l dC dI q31 H.size (rowf S0.1 10) zr_37) (cwI 1 hts (gi_I wd_25) rfl rfl rfl (hts _ wd_2) (hts _ wd_23) (hts _ wd_24) rfl (by decide +kernel) ⟨Nat.le_of_ble_eq_true rfl, Nat.le_of_ble_eq_true rfl⟩) ⟨fun a U g mk q => by obtain ⟨q0, q1, qP, qK, qD⟩ := q; exact ⟨q0, q1, qP, va_K.moved (u := U) (U := U.calling g mk a) (Vm.Alike.refl U.vm) qK, qD⟩, fun U hU hW => ⟨rfl, by rw [hU], by rw [hU]; exact hPc, va_K.moved hW.alike hKc, hDc.weaken (fun _ _ _ _ => trivial)⟩⟩ rfl rfl hl.1 rfl (lv_room (Nat.le_of_ble_eq_true rfl)) d_X_init_37 ⟨Nat.le_of_ble_eq_true rfl, Nat.le_of_ble_eq_true rfl⟩) hS (fun q _ h => hFc q h) hFc (fun u t H1 locs ht hvm hw hB hz1 hk1 hS => ?_)
  obtain ⟨r37, ca37⟩ := u
  obtain ⟨hP1, hK1, hD1⟩ := hB
  rw [ht] at hP1
  have hK1 := va_K.moved hvm.symm hK1
  obtain ⟨hP, hD⟩ := va_join (wr := [(h0, .inr (0, [.ref q5, .ref q18, .null, .null, .null, .null, .null, .null, .null, .null, .int 0, .int 0])), (q5, .inr (1, [.int (nI 60), .ref r11, .int 0])), (r11, .inl (ca11, 300, .inl (rowf S0.1 0))), (q18, .inr (1, [.int (nI 60), .ref r24, .int 0])), (r24, .inl (ca24, 300, .inl (rowf S0.1 5)))]) (w1 := [(q31, .inr (1, [.int (nI 80), .ref r37, .int 0])), (r37, .inl (ca37, 400, .inl (rowf S0.1 10)))]) hP hD [5] [0, 1, 2, 3, 4] rfl rfl (by decide) (by decide) hk1 hFc hP1 hD1
  have hK := (hK.sub (tys' := [(ca11, .int), (ca24, .int)]) [0, 1] rfl).app hK1
  generalize H1 = H at hP hS ⊢
  have hP : va_P (dC, dI) classes [(h0, .inr (0, [.ref q5, .ref q18, .null, .null, .null, .null, .null, .null, .null, .null, .int 0, .int 0])), (q5, .inr (1, [.int (nI 60), .ref r11, .int 0])), (r11, .inl (ca11, 300, .inl (rowf S0.1 0))), (q18, .inr (1, [.int (nI 60), .ref r24, .int 0])), (r24, .inl (ca24, 300, .inl (rowf S0.1 5))), (q31, .inr (1, [.int (nI 80), .ref r37, .int 0])), (r37, .inl (ca37, 400, .inl (rowf S0.1 10)))] H := hP
  have hD : va_D A [(h0, .inr (0, [.ref q5, .ref q18, .null, .null, .null, .null, .null, .null, .null, .null, .int 0, .int 0])), (q5, .inr (1, [.int (nI 60), .ref r11, .int 0])), (r11, .inl (ca11, 300, .inl (rowf S0.1 0))), (q18, .inr (1, [.int (nI 60), .ref r24, .int 0])), (r24, .inl (ca24, 300, .inl (rowf S0.1 5))), (q31, .inr (1, [.int (nI 80), .ref r37, .int 0])), (r37, .inl (ca37, 400, .inl (rowf S0.1 10)))] := hD
  have hK : va_K (dC, dI) classes [(ca11, .int), (ca24, .int), (ca37, .int)] s := hK
  refine W.widen (k := 6) (n := 1009) (Nat.le_of_ble_eq_true rfl) (Nat.le_of_ble_eq_true rfl) ?_
  refine W.eq (g2 := F0 m 40 ls [.ref q31, .ref h0]) rfl ?_
  refine va_putF (D := (dC, dI)) (ci := 0) (v := .ref q31) (ty := .object "StockRows2$Rows") (C := R_X) (T := F_X) (N := 12) hx hb hts i_X ty_X ty_X_ok n_X hown hK hP hD hS 0 rfl rfl 2 (by decide) (hts _ wd_59) (fun _ h9 => h9) rfl hin rfl (by decide +kernel) rfl rfl (Nat.le_of_ble_eq_true rfl) d_X_init_40 (fun H locs hP hD hS => ?_)
  have hP : va_P (dC, dI) classes [(h0, .inr (0, [.ref q5, .ref q18, .ref q31, .null, .null, .null, .null, .null, .null, .null, .int 0, .int 0])), (q5, .inr (1, [.int (nI 60), .ref r11, .int 0])), (r11, .inl (ca11, 300, .inl (rowf S0.1 0))), (q18, .inr (1, [.int (nI 60), .ref r24, .int 0])), (r24, .inl (ca24, 300, .inl (rowf S0.1 5))), (q31, .inr (1, [.int (nI 80), .ref r37, .int 0])), (r37, .inl (ca37, 400, .inl (rowf S0.1 10)))] H := hP
  have hD : va_D A [(h0, .inr (0, [.ref q5, .ref q18, .ref q31, .null, .null, .null, .null, .null, .null, .null, .int 0, .int 0])), (q5, .inr (1, [.int (nI 60), .ref r11, .int 0])), (r11, .inl (ca11, 300, .inl (rowf S0.1 0))), (q18, .inr (1, [.int (nI 60), .ref r24, .int 0])), (r24, .inl (ca24, 300, .inl (rowf S0.1 5))), (q31, .inr (1, [.int (nI 80), .ref r37, .int 0])), (r37, .inl (ca37, 400, .inl (rowf S0.1 10)))] := hD
  have hK : va_K (dC, dI) classes [(ca11, .int), (ca24, .int), (ca37, .int)] s := hK
  refine lv_aload_n hx hb d_X_init_43 rfl (lv_at hl 0 rfl) ?_
  refine va_new (ci := 1) (fs := [.int 0, .null, .int 0]) (C := R_W) (T := F_W) (N := 3) hx hb hts i_W ty_W ty_W_ok hown (hts _ wd_21) (hts _ wd_22) (hts _ wd_2) hK hP hD hS hA rfl (fun j hj => by rcases (show j = 0 ∨ j = 1 ∨ j = 2 by omega) with rfl | rfl | rfl <;> rfl) (Nat.le_of_ble_eq_true rfl) (Nat.le_of_ble_eq_true rfl) d_X_init_44 (fun q44 H hP hD hS => ?_)
  have hP : va_P (dC, dI) classes [(h0, .inr (0, [.ref q5, .ref q18, .ref q31, .null, .null, .null, .null, .null, .null, .null, .int 0, .int 0])), (q5, .inr (1, [.int (nI 60), .ref r11, .int 0])), (r11, .inl (ca11, 300, .inl (rowf S0.1 0))), (q18, .inr (1, [.int (nI 60), .ref r24, .int 0])), (r24, .inl (ca24, 300, .inl (rowf S0.1 5))), (q31, .inr (1, [.int (nI 80), .ref r37, .int 0])), (r37, .inl (ca37, 400, .inl (rowf S0.1 10))), (q44, .inr (1, [.int 0, .null, .int 0]))] H := hP
  have hD : va_D A [(h0, .inr (0, [.ref q5, .ref q18, .ref q31, .null, .null, .null, .null, .null, .null, .null, .int 0, .int 0])), (q5, .inr (1, [.int (nI 60), .ref r11, .int 0])), (r11, .inl (ca11, 300, .inl (rowf S0.1 0))), (q18, .inr (1, [.int (nI 60), .ref r24, .int 0])), (r24, .inl (ca24, 300, .inl (rowf S0.1 5))), (q31, .inr (1, [.int (nI 80), .ref r37, .int 0])), (r37, .inl (ca37, 400, .inl (rowf S0.1 10))), (q44, .inr (1, [.int 0, .null, .int 0]))] := hD
  have hK : va_K (dC, dI) classes [(ca11, .int), (ca24, .int), (ca37, .int)] s := hK
  refine W.widen (k := 7) (n := 1012) (Nat.le_of_ble_eq_true rfl) (Nat.le_of_ble_eq_true rfl) ?_
  refine lv_dup hx hb d_X_init_47 rfl ?_
  refine lv_bipush (v := nI 20) hx hb d_X_init_48 (by decide) ?_
  have hPc := hP.sub (ws' := [(q44, .inr (1, [.int 0, .null, .int 0]))]) [7] rfl
  have hDc := hD.sub (ws' := [(q44, .inr (1, [.int 0, .null, .int 0]))]) [7] (by decide) rfl
  have hKc := hK.sub (tys' := []) [] rfl
  have hFc := va_free (wc := [(q44, .inr (1, [.int 0, .null, .int 0]))]) hD hS hA [7] rfl
  refine va_callv (va_runI (As := [.int (nI 20)]) (rest := [.ref q44, .ref h0]) ⟨hx, hb, hml, hown, hts⟩ (c_W_init20 l dC dI q44 H.size (rowf S0.1 15) zr_50) (cwI 1 hts (gi_I wd_25) rfl rfl rfl (hts _ wd_2) (hts _ wd_23) (hts _ wd_24) rfl (by decide +kernel) ⟨Nat.le_of_ble_eq_true rfl, Nat.le_of_ble_eq_true rfl⟩) ⟨fun a U g mk q => by obtain ⟨q0, q1, qP, qK, qD⟩ := q; exact ⟨q0, q1, qP, va_K.moved (u := U) (U := U.calling g mk a) (Vm.Alike.refl U.vm) qK, qD⟩, fun U hU hW => ⟨rfl, by rw [hU], by rw [hU]; exact hPc, va_K.moved hW.alike hKc, hDc.weaken (fun _ _ _ _ => trivial)⟩⟩ rfl rfl hl.1 rfl (lv_room (Nat.le_of_ble_eq_true rfl)) d_X_init_50 ⟨Nat.le_of_ble_eq_true rfl, Nat.le_of_ble_eq_true rfl⟩) hS (fun q _ h => hFc q h) hFc (fun u t H1 locs ht hvm hw hB hz1 hk1 hS => ?_)
  obtain ⟨r50, ca50⟩ := u
  obtain ⟨hP1, hK1, hD1⟩ := hB
  rw [ht] at hP1
  have hK1 := va_K.moved hvm.symm hK1
  obtain ⟨hP, hD⟩ := va_join (wr := [(h0, .inr (0, [.ref q5, .ref q18, .ref q31, .null, .null, .null, .null, .null, .null, .null, .int 0, .int 0])), (q5, .inr (1, [.int (nI 60), .ref r11, .int 0])), (r11, .inl (ca11, 300, .inl (rowf S0.1 0))), (q18, .inr (1, [.int (nI 60), .ref r24, .int 0])), (r24, .inl (ca24, 300, .inl (rowf S0.1 5))), (q31, .inr (1, [.int (nI 80), .ref r37, .int 0])), (r37, .inl (ca37, 400, .inl (rowf S0.1 10)))]) (w1 := [(q44, .inr (1, [.int (nI 20), .ref r50, .int 0])), (r50, .inl (ca50, 100, .inl (rowf S0.1 15)))]) hP hD [7] [0, 1, 2, 3, 4, 5, 6] rfl rfl (by decide) (by decide) hk1 hFc hP1 hD1
  have hK := (hK.sub (tys' := [(ca11, .int), (ca24, .int), (ca37, .int)]) [0, 1, 2] rfl).app hK1
  generalize H1 = H at hP hS ⊢
  have hP : va_P (dC, dI) classes [(h0, .inr (0, [.ref q5, .ref q18, .ref q31, .null, .null, .null, .null, .null, .null, .null, .int 0, .int 0])), (q5, .inr (1, [.int (nI 60), .ref r11, .int 0])), (r11, .inl (ca11, 300, .inl (rowf S0.1 0))), (q18, .inr (1, [.int (nI 60), .ref r24, .int 0])), (r24, .inl (ca24, 300, .inl (rowf S0.1 5))), (q31, .inr (1, [.int (nI 80), .ref r37, .int 0])), (r37, .inl (ca37, 400, .inl (rowf S0.1 10))), (q44, .inr (1, [.int (nI 20), .ref r50, .int 0])), (r50, .inl (ca50, 100, .inl (rowf S0.1 15)))] H := hP
  have hD : va_D A [(h0, .inr (0, [.ref q5, .ref q18, .ref q31, .null, .null, .null, .null, .null, .null, .null, .int 0, .int 0])), (q5, .inr (1, [.int (nI 60), .ref r11, .int 0])), (r11, .inl (ca11, 300, .inl (rowf S0.1 0))), (q18, .inr (1, [.int (nI 60), .ref r24, .int 0])), (r24, .inl (ca24, 300, .inl (rowf S0.1 5))), (q31, .inr (1, [.int (nI 80), .ref r37, .int 0])), (r37, .inl (ca37, 400, .inl (rowf S0.1 10))), (q44, .inr (1, [.int (nI 20), .ref r50, .int 0])), (r50, .inl (ca50, 100, .inl (rowf S0.1 15)))] := hD
  have hK : va_K (dC, dI) classes [(ca11, .int), (ca24, .int), (ca37, .int), (ca50, .int)] s := hK
  refine W.widen (k := 8) (n := 1112) (Nat.le_of_ble_eq_true rfl) (Nat.le_of_ble_eq_true rfl) ?_
  refine W.eq (g2 := F0 m 53 ls [.ref q44, .ref h0]) rfl ?_
  refine va_putF (D := (dC, dI)) (ci := 0) (v := .ref q44) (ty := .object "StockRows2$Rows") (C := R_X) (T := F_X) (N := 12) hx hb hts i_X ty_X ty_X_ok n_X hown hK hP hD hS 0 rfl rfl 3 (by decide) (hts _ wd_60) (fun _ h9 => h9) rfl hin rfl (by decide +kernel) rfl rfl (Nat.le_of_ble_eq_true rfl) d_X_init_53 (fun H locs hP hD hS => ?_)
  have hP : va_P (dC, dI) classes [(h0, .inr (0, [.ref q5, .ref q18, .ref q31, .ref q44, .null, .null, .null, .null, .null, .null, .int 0, .int 0])), (q5, .inr (1, [.int (nI 60), .ref r11, .int 0])), (r11, .inl (ca11, 300, .inl (rowf S0.1 0))), (q18, .inr (1, [.int (nI 60), .ref r24, .int 0])), (r24, .inl (ca24, 300, .inl (rowf S0.1 5))), (q31, .inr (1, [.int (nI 80), .ref r37, .int 0])), (r37, .inl (ca37, 400, .inl (rowf S0.1 10))), (q44, .inr (1, [.int (nI 20), .ref r50, .int 0])), (r50, .inl (ca50, 100, .inl (rowf S0.1 15)))] H := hP
  have hD : va_D A [(h0, .inr (0, [.ref q5, .ref q18, .ref q31, .ref q44, .null, .null, .null, .null, .null, .null, .int 0, .int 0])), (q5, .inr (1, [.int (nI 60), .ref r11, .int 0])), (r11, .inl (ca11, 300, .inl (rowf S0.1 0))), (q18, .inr (1, [.int (nI 60), .ref r24, .int 0])), (r24, .inl (ca24, 300, .inl (rowf S0.1 5))), (q31, .inr (1, [.int (nI 80), .ref r37, .int 0])), (r37, .inl (ca37, 400, .inl (rowf S0.1 10))), (q44, .inr (1, [.int (nI 20), .ref r50, .int 0])), (r50, .inl (ca50, 100, .inl (rowf S0.1 15)))] := hD
  have hK : va_K (dC, dI) classes [(ca11, .int), (ca24, .int), (ca37, .int), (ca50, .int)] s := hK
  refine lv_aload_n hx hb d_X_init_56 rfl (lv_at hl 0 rfl) ?_
  refine va_new (ci := 1) (fs := [.int 0, .null, .int 0]) (C := R_W) (T := F_W) (N := 3) hx hb hts i_W ty_W ty_W_ok hown (hts _ wd_21) (hts _ wd_22) (hts _ wd_2) hK hP hD hS hA rfl (fun j hj => by rcases (show j = 0 ∨ j = 1 ∨ j = 2 by omega) with rfl | rfl | rfl <;> rfl) (Nat.le_of_ble_eq_true rfl) (Nat.le_of_ble_eq_true rfl) d_X_init_57 (fun q57 H hP hD hS => ?_)
  have hP : va_P (dC, dI) classes [(h0, .inr (0, [.ref q5, .ref q18, .ref q31, .ref q44, .null, .null, .null, .null, .null, .null, .int 0, .int 0])), (q5, .inr (1, [.int (nI 60), .ref r11, .int 0])), (r11, .inl (ca11, 300, .inl (rowf S0.1 0))), (q18, .inr (1, [.int (nI 60), .ref r24, .int 0])), (r24, .inl (ca24, 300, .inl (rowf S0.1 5))), (q31, .inr (1, [.int (nI 80), .ref r37, .int 0])), (r37, .inl (ca37, 400, .inl (rowf S0.1 10))), (q44, .inr (1, [.int (nI 20), .ref r50, .int 0])), (r50, .inl (ca50, 100, .inl (rowf S0.1 15))), (q57, .inr (1, [.int 0, .null, .int 0]))] H := hP
  have hD : va_D A [(h0, .inr (0, [.ref q5, .ref q18, .ref q31, .ref q44, .null, .null, .null, .null, .null, .null, .int 0, .int 0])), (q5, .inr (1, [.int (nI 60), .ref r11, .int 0])), (r11, .inl (ca11, 300, .inl (rowf S0.1 0))), (q18, .inr (1, [.int (nI 60), .ref r24, .int 0])), (r24, .inl (ca24, 300, .inl (rowf S0.1 5))), (q31, .inr (1, [.int (nI 80), .ref r37, .int 0])), (r37, .inl (ca37, 400, .inl (rowf S0.1 10))), (q44, .inr (1, [.int (nI 20), .ref r50, .int 0])), (r50, .inl (ca50, 100, .inl (rowf S0.1 15))), (q57, .inr (1, [.int 0, .null, .int 0]))] := hD
  have hK : va_K (dC, dI) classes [(ca11, .int), (ca24, .int), (ca37, .int), (ca50, .int)] s := hK
  refine W.widen (k := 9) (n := 1115) (Nat.le_of_ble_eq_true rfl) (Nat.le_of_ble_eq_true rfl) ?_
  refine lv_dup hx hb d_X_init_60 rfl ?_
  refine lv_bipush (v := nI 80) hx hb d_X_init_61 (by decide) ?_
  have hPc := hP.sub (ws' := [(q57, .inr (1, [.int 0, .null, .int 0]))]) [9] rfl
  have hDc := hD.sub (ws' := [(q57, .inr (1, [.int 0, .null, .int 0]))]) [9] (by decide) rfl
  have hKc := hK.sub (tys' := []) [] rfl
  have hFc := va_free (wc := [(q57, .inr (1, [.int 0, .null, .int 0]))]) hD hS hA [9] rfl
  refine va_callv (va_runI (As := [.int (nI 80)]) (rest := [.ref q57, .ref h0]) ⟨hx, hb, hml, hown, hts⟩ (c_W_init80 l dC dI q57 H.size (rowd S0.1 S0.2.2) zr_63) (cwI 1 hts (gi_I wd_25) rfl rfl rfl (hts _ wd_2) (hts _ wd_23) (hts _ wd_24) rfl (by decide +kernel) ⟨Nat.le_of_ble_eq_true rfl, Nat.le_of_ble_eq_true rfl⟩) ⟨fun a U g mk q => by obtain ⟨q0, q1, qP, qK, qD⟩ := q; exact ⟨q0, q1, qP, va_K.moved (u := U) (U := U.calling g mk a) (Vm.Alike.refl U.vm) qK, qD⟩, fun U hU hW => ⟨rfl, by rw [hU], by rw [hU]; exact hPc, va_K.moved hW.alike hKc, hDc.weaken (fun _ _ _ _ => trivial)⟩⟩ rfl rfl hl.1 rfl (lv_room (Nat.le_of_ble_eq_true rfl)) d_X_init_63 ⟨Nat.le_of_ble_eq_true rfl, Nat.le_of_ble_eq_true rfl⟩) hS (fun q _ h => hFc q h) hFc (fun u t H1 locs ht hvm hw hB hz1 hk1 hS => ?_)
  obtain ⟨r63, ca63⟩ := u
  obtain ⟨hP1, hK1, hD1⟩ := hB
  rw [ht] at hP1
  have hK1 := va_K.moved hvm.symm hK1
  obtain ⟨hP, hD⟩ := va_join (wr := [(h0, .inr (0, [.ref q5, .ref q18, .ref q31, .ref q44, .null, .null, .null, .null, .null, .null, .int 0, .int 0])), (q5, .inr (1, [.int (nI 60), .ref r11, .int 0])), (r11, .inl (ca11, 300, .inl (rowf S0.1 0))), (q18, .inr (1, [.int (nI 60), .ref r24, .int 0])), (r24, .inl (ca24, 300, .inl (rowf S0.1 5))), (q31, .inr (1, [.int (nI 80), .ref r37, .int 0])), (r37, .inl (ca37, 400, .inl (rowf S0.1 10))), (q44, .inr (1, [.int (nI 20), .ref r50, .int 0])), (r50, .inl (ca50, 100, .inl (rowf S0.1 15)))]) (w1 := [(q57, .inr (1, [.int (nI 80), .ref r63, .int 0])), (r63, .inl (ca63, 400, .inl (rowd S0.1 S0.2.2)))]) hP hD [9] [0, 1, 2, 3, 4, 5, 6, 7, 8] rfl rfl (by decide) (by decide) hk1 hFc hP1 hD1
  have hK := (hK.sub (tys' := [(ca11, .int), (ca24, .int), (ca37, .int), (ca50, .int)]) [0, 1, 2, 3] rfl).app hK1
  generalize H1 = H at hP hS ⊢
  have hP : va_P (dC, dI) classes [(h0, .inr (0, [.ref q5, .ref q18, .ref q31, .ref q44, .null, .null, .null, .null, .null, .null, .int 0, .int 0])), (q5, .inr (1, [.int (nI 60), .ref r11, .int 0])), (r11, .inl (ca11, 300, .inl (rowf S0.1 0))), (q18, .inr (1, [.int (nI 60), .ref r24, .int 0])), (r24, .inl (ca24, 300, .inl (rowf S0.1 5))), (q31, .inr (1, [.int (nI 80), .ref r37, .int 0])), (r37, .inl (ca37, 400, .inl (rowf S0.1 10))), (q44, .inr (1, [.int (nI 20), .ref r50, .int 0])), (r50, .inl (ca50, 100, .inl (rowf S0.1 15))), (q57, .inr (1, [.int (nI 80), .ref r63, .int 0])), (r63, .inl (ca63, 400, .inl (rowd S0.1 S0.2.2)))] H := hP
  have hD : va_D A [(h0, .inr (0, [.ref q5, .ref q18, .ref q31, .ref q44, .null, .null, .null, .null, .null, .null, .int 0, .int 0])), (q5, .inr (1, [.int (nI 60), .ref r11, .int 0])), (r11, .inl (ca11, 300, .inl (rowf S0.1 0))), (q18, .inr (1, [.int (nI 60), .ref r24, .int 0])), (r24, .inl (ca24, 300, .inl (rowf S0.1 5))), (q31, .inr (1, [.int (nI 80), .ref r37, .int 0])), (r37, .inl (ca37, 400, .inl (rowf S0.1 10))), (q44, .inr (1, [.int (nI 20), .ref r50, .int 0])), (r50, .inl (ca50, 100, .inl (rowf S0.1 15))), (q57, .inr (1, [.int (nI 80), .ref r63, .int 0])), (r63, .inl (ca63, 400, .inl (rowd S0.1 S0.2.2)))] := hD
  have hK : va_K (dC, dI) classes [(ca11, .int), (ca24, .int), (ca37, .int), (ca50, .int), (ca63, .int)] s := hK
  refine W.widen (k := 10) (n := 1515) (Nat.le_of_ble_eq_true rfl) (Nat.le_of_ble_eq_true rfl) ?_
  refine W.eq (g2 := F0 m 66 ls [.ref q57, .ref h0]) rfl ?_
  refine va_putF (D := (dC, dI)) (ci := 0) (v := .ref q57) (ty := .object "StockRows2$Rows") (C := R_X) (T := F_X) (N := 12) hx hb hts i_X ty_X ty_X_ok n_X hown hK hP hD hS 0 rfl rfl 4 (by decide) (hts _ wd_61) (fun _ h9 => h9) rfl hin rfl (by decide +kernel) rfl rfl (Nat.le_of_ble_eq_true rfl) d_X_init_66 (fun H locs hP hD hS => ?_)
  have hP : va_P (dC, dI) classes [(h0, .inr (0, [.ref q5, .ref q18, .ref q31, .ref q44, .ref q57, .null, .null, .null, .null, .null, .int 0, .int 0])), (q5, .inr (1, [.int (nI 60), .ref r11, .int 0])), (r11, .inl (ca11, 300, .inl (rowf S0.1 0))), (q18, .inr (1, [.int (nI 60), .ref r24, .int 0])), (r24, .inl (ca24, 300, .inl (rowf S0.1 5))), (q31, .inr (1, [.int (nI 80), .ref r37, .int 0])), (r37, .inl (ca37, 400, .inl (rowf S0.1 10))), (q44, .inr (1, [.int (nI 20), .ref r50, .int 0])), (r50, .inl (ca50, 100, .inl (rowf S0.1 15))), (q57, .inr (1, [.int (nI 80), .ref r63, .int 0])), (r63, .inl (ca63, 400, .inl (rowd S0.1 S0.2.2)))] H := hP
  have hD : va_D A [(h0, .inr (0, [.ref q5, .ref q18, .ref q31, .ref q44, .ref q57, .null, .null, .null, .null, .null, .int 0, .int 0])), (q5, .inr (1, [.int (nI 60), .ref r11, .int 0])), (r11, .inl (ca11, 300, .inl (rowf S0.1 0))), (q18, .inr (1, [.int (nI 60), .ref r24, .int 0])), (r24, .inl (ca24, 300, .inl (rowf S0.1 5))), (q31, .inr (1, [.int (nI 80), .ref r37, .int 0])), (r37, .inl (ca37, 400, .inl (rowf S0.1 10))), (q44, .inr (1, [.int (nI 20), .ref r50, .int 0])), (r50, .inl (ca50, 100, .inl (rowf S0.1 15))), (q57, .inr (1, [.int (nI 80), .ref r63, .int 0])), (r63, .inl (ca63, 400, .inl (rowd S0.1 S0.2.2)))] := hD
  have hK : va_K (dC, dI) classes [(ca11, .int), (ca24, .int), (ca37, .int), (ca50, .int), (ca63, .int)] s := hK
  refine lv_aload_n hx hb d_X_init_69 rfl (lv_at hl 0 rfl) ?_
  refine va_new (ci := 2) (fs := [.null, .null, .int 0]) (C := R_H) (T := F_H) (N := 3) hx hb hts i_H ty_H ty_H_ok hown (hts _ wd_41) (hts _ wd_42) (hts _ wd_4) hK hP hD hS hA rfl (fun j hj => by rcases (show j = 0 ∨ j = 1 ∨ j = 2 by omega) with rfl | rfl | rfl <;> rfl) (Nat.le_of_ble_eq_true rfl) (Nat.le_of_ble_eq_true rfl) d_X_init_70 (fun q70 H hP hD hS => ?_)
  have hP : va_P (dC, dI) classes [(h0, .inr (0, [.ref q5, .ref q18, .ref q31, .ref q44, .ref q57, .null, .null, .null, .null, .null, .int 0, .int 0])), (q5, .inr (1, [.int (nI 60), .ref r11, .int 0])), (r11, .inl (ca11, 300, .inl (rowf S0.1 0))), (q18, .inr (1, [.int (nI 60), .ref r24, .int 0])), (r24, .inl (ca24, 300, .inl (rowf S0.1 5))), (q31, .inr (1, [.int (nI 80), .ref r37, .int 0])), (r37, .inl (ca37, 400, .inl (rowf S0.1 10))), (q44, .inr (1, [.int (nI 20), .ref r50, .int 0])), (r50, .inl (ca50, 100, .inl (rowf S0.1 15))), (q57, .inr (1, [.int (nI 80), .ref r63, .int 0])), (r63, .inl (ca63, 400, .inl (rowd S0.1 S0.2.2))), (q70, .inr (2, [.null, .null, .int 0]))] H := hP
  have hD : va_D A [(h0, .inr (0, [.ref q5, .ref q18, .ref q31, .ref q44, .ref q57, .null, .null, .null, .null, .null, .int 0, .int 0])), (q5, .inr (1, [.int (nI 60), .ref r11, .int 0])), (r11, .inl (ca11, 300, .inl (rowf S0.1 0))), (q18, .inr (1, [.int (nI 60), .ref r24, .int 0])), (r24, .inl (ca24, 300, .inl (rowf S0.1 5))), (q31, .inr (1, [.int (nI 80), .ref r37, .int 0])), (r37, .inl (ca37, 400, .inl (rowf S0.1 10))), (q44, .inr (1, [.int (nI 20), .ref r50, .int 0])), (r50, .inl (ca50, 100, .inl (rowf S0.1 15))), (q57, .inr (1, [.int (nI 80), .ref r63, .int 0])), (r63, .inl (ca63, 400, .inl (rowd S0.1 S0.2.2))), (q70, .inr (2, [.null, .null, .int 0]))] := hD
  have hK : va_K (dC, dI) classes [(ca11, .int), (ca24, .int), (ca37, .int), (ca50, .int), (ca63, .int)] s := hK
  refine W.widen (k := 11) (n := 1518) (Nat.le_of_ble_eq_true rfl) (Nat.le_of_ble_eq_true rfl) ?_
  refine lv_dup hx hb d_X_init_73 rfl ?_
  have hPc := hP.sub (ws' := [(q70, .inr (2, [.null, .null, .int 0]))]) [11] rfl
  have hDc := hD.sub (ws' := [(q70, .inr (2, [.null, .null, .int 0]))]) [11] (by decide) rfl
  have hKc := hK.sub (tys' := []) [] rfl
  have hFc := va_free (wc := [(q70, .inr (2, [.null, .null, .int 0]))]) hD hS hA [11] rfl
  refine va_callv (va_runIN (As := []) (rest := [.ref q70, .ref h0]) ⟨hx, hb, hml, hown, hts⟩ (c_H_init l dC dI q70 H.size (colf S0.1 29) (colf S0.1 30) zr_29 zr_30) (⟨va_cnB (host := "StockRows2") 0 hts (gi_I wd_45) rfl rfl rfl (hG.2.2.1 _ wn_H rfl) (hts _ wd_4) (by decide +kernel) ⟨Nat.le_of_ble_eq_true rfl, Nat.le_of_ble_eq_true rfl⟩, rfl, (hts _ wd_44)⟩) ⟨fun a U g mk q => by obtain ⟨q0, q1, qP, qK, qD⟩ := q; exact ⟨q0, q1, qP, va_K.moved (u := U) (U := U.calling g mk a) (Vm.Alike.refl U.vm) qK, qD⟩, fun U hU hW => ⟨rfl, by rw [hU], by rw [hU]; exact hPc, va_K.moved hW.alike hKc, hDc.weaken (fun _ _ _ _ => trivial)⟩⟩ rfl rfl hl.1 rfl (lv_room (Nat.le_of_ble_eq_true rfl)) d_X_init_74 ⟨Nat.le_of_ble_eq_true rfl, Nat.le_of_ble_eq_true rfl⟩) hS (fun q _ h => hFc q h) hFc (fun u t H1 locs ht hvm hw hB hz1 hk1 hS => ?_)
  obtain ⟨ra, rb, cra, crb⟩ := u
  obtain ⟨hP1, hK1, hD1⟩ := hB
  rw [ht] at hP1
  have hK1 := va_K.moved hvm.symm hK1
  obtain ⟨hP, hD⟩ := va_join (wr := [(h0, .inr (0, [.ref q5, .ref q18, .ref q31, .ref q44, .ref q57, .null, .null, .null, .null, .null, .int 0, .int 0])), (q5, .inr (1, [.int (nI 60), .ref r11, .int 0])), (r11, .inl (ca11, 300, .inl (rowf S0.1 0))), (q18, .inr (1, [.int (nI 60), .ref r24, .int 0])), (r24, .inl (ca24, 300, .inl (rowf S0.1 5))), (q31, .inr (1, [.int (nI 80), .ref r37, .int 0])), (r37, .inl (ca37, 400, .inl (rowf S0.1 10))), (q44, .inr (1, [.int (nI 20), .ref r50, .int 0])), (r50, .inl (ca50, 100, .inl (rowf S0.1 15))), (q57, .inr (1, [.int (nI 80), .ref r63, .int 0])), (r63, .inl (ca63, 400, .inl (rowd S0.1 S0.2.2)))]) (w1 := [(q70, .inr (2, [.ref ra, .ref rb, .int 0])), (ra, .inl (cra, 10, .inl (colf S0.1 29))), (rb, .inl (crb, 10, .inl (colf S0.1 30)))]) hP hD [11] [0, 1, 2, 3, 4, 5, 6, 7, 8, 9, 10] rfl rfl (by decide) (by decide) hk1 hFc hP1 hD1
  have hK := (hK.sub (tys' := [(ca11, .int), (ca24, .int), (ca37, .int), (ca50, .int), (ca63, .int)]) [0, 1, 2, 3, 4] rfl).app hK1
  generalize H1 = H at hP hS ⊢
  have hP : va_P (dC, dI) classes [(h0, .inr (0, [.ref q5, .ref q18, .ref q31, .ref q44, .ref q57, .null, .null, .null, .null, .null, .int 0, .int 0])), (q5, .inr (1, [.int (nI 60), .ref r11, .int 0])), (r11, .inl (ca11, 300, .inl (rowf S0.1 0))), (q18, .inr (1, [.int (nI 60), .ref r24, .int 0])), (r24, .inl (ca24, 300, .inl (rowf S0.1 5))), (q31, .inr (1, [.int (nI 80), .ref r37, .int 0])), (r37, .inl (ca37, 400, .inl (rowf S0.1 10))), (q44, .inr (1, [.int (nI 20), .ref r50, .int 0])), (r50, .inl (ca50, 100, .inl (rowf S0.1 15))), (q57, .inr (1, [.int (nI 80), .ref r63, .int 0])), (r63, .inl (ca63, 400, .inl (rowd S0.1 S0.2.2))), (q70, .inr (2, [.ref ra, .ref rb, .int 0])), (ra, .inl (cra, 10, .inl (colf S0.1 29))), (rb, .inl (crb, 10, .inl (colf S0.1 30)))] H := hP
  have hD : va_D A [(h0, .inr (0, [.ref q5, .ref q18, .ref q31, .ref q44, .ref q57, .null, .null, .null, .null, .null, .int 0, .int 0])), (q5, .inr (1, [.int (nI 60), .ref r11, .int 0])), (r11, .inl (ca11, 300, .inl (rowf S0.1 0))), (q18, .inr (1, [.int (nI 60), .ref r24, .int 0])), (r24, .inl (ca24, 300, .inl (rowf S0.1 5))), (q31, .inr (1, [.int (nI 80), .ref r37, .int 0])), (r37, .inl (ca37, 400, .inl (rowf S0.1 10))), (q44, .inr (1, [.int (nI 20), .ref r50, .int 0])), (r50, .inl (ca50, 100, .inl (rowf S0.1 15))), (q57, .inr (1, [.int (nI 80), .ref r63, .int 0])), (r63, .inl (ca63, 400, .inl (rowd S0.1 S0.2.2))), (q70, .inr (2, [.ref ra, .ref rb, .int 0])), (ra, .inl (cra, 10, .inl (colf S0.1 29))), (rb, .inl (crb, 10, .inl (colf S0.1 30)))] := hD
  have hK : va_K (dC, dI) classes [(ca11, .int), (ca24, .int), (ca37, .int), (ca50, .int), (ca63, .int), (cra, .int), (crb, .int)] s := hK
  refine W.widen (k := 13) (n := 1538) (Nat.le_of_ble_eq_true rfl) (Nat.le_of_ble_eq_true rfl) ?_
  refine W.eq (g2 := F0 m 77 ls [.ref q70, .ref h0]) rfl ?_
  refine va_putF (D := (dC, dI)) (ci := 0) (v := .ref q70) (ty := .object "StockRows2$Table") (C := R_X) (T := F_X) (N := 12) hx hb hts i_X ty_X ty_X_ok n_X hown hK hP hD hS 0 rfl rfl 5 (by decide) (hts _ wd_62) (fun _ h9 => h9) rfl hin rfl (by decide +kernel) rfl rfl (Nat.le_of_ble_eq_true rfl) d_X_init_77 (fun H locs hP hD hS => ?_)
  have hP : va_P (dC, dI) classes [(h0, .inr (0, [.ref q5, .ref q18, .ref q31, .ref q44, .ref q57, .ref q70, .null, .null, .null, .null, .int 0, .int 0])), (q5, .inr (1, [.int (nI 60), .ref r11, .int 0])), (r11, .inl (ca11, 300, .inl (rowf S0.1 0))), (q18, .inr (1, [.int (nI 60), .ref r24, .int 0])), (r24, .inl (ca24, 300, .inl (rowf S0.1 5))), (q31, .inr (1, [.int (nI 80), .ref r37, .int 0])), (r37, .inl (ca37, 400, .inl (rowf S0.1 10))), (q44, .inr (1, [.int (nI 20), .ref r50, .int 0])), (r50, .inl (ca50, 100, .inl (rowf S0.1 15))), (q57, .inr (1, [.int (nI 80), .ref r63, .int 0])), (r63, .inl (ca63, 400, .inl (rowd S0.1 S0.2.2))), (q70, .inr (2, [.ref ra, .ref rb, .int 0])), (ra, .inl (cra, 10, .inl (colf S0.1 29))), (rb, .inl (crb, 10, .inl (colf S0.1 30)))] H := hP
  have hD : va_D A [(h0, .inr (0, [.ref q5, .ref q18, .ref q31, .ref q44, .ref q57, .ref q70, .null, .null, .null, .null, .int 0, .int 0])), (q5, .inr (1, [.int (nI 60), .ref r11, .int 0])), (r11, .inl (ca11, 300, .inl (rowf S0.1 0))), (q18, .inr (1, [.int (nI 60), .ref r24, .int 0])), (r24, .inl (ca24, 300, .inl (rowf S0.1 5))), (q31, .inr (1, [.int (nI 80), .ref r37, .int 0])), (r37, .inl (ca37, 400, .inl (rowf S0.1 10))), (q44, .inr (1, [.int (nI 20), .ref r50, .int 0])), (r50, .inl (ca50, 100, .inl (rowf S0.1 15))), (q57, .inr (1, [.int (nI 80), .ref r63, .int 0])), (r63, .inl (ca63, 400, .inl (rowd S0.1 S0.2.2))), (q70, .inr (2, [.ref ra, .ref rb, .int 0])), (ra, .inl (cra, 10, .inl (colf S0.1 29))), (rb, .inl (crb, 10, .inl (colf S0.1 30)))] := hD
  have hK : va_K (dC, dI) classes [(ca11, .int), (ca24, .int), (ca37, .int), (ca50, .int), (ca63, .int), (cra, .int), (crb, .int)] s := hK
  refine lv_aload_n hx hb d_X_init_80 rfl (lv_at hl 0 rfl) ?_
  refine lv_sipush (v := nI 480) hx hb d_X_init_81 (by decide) ?_
  refine va_newa (atype := .int) (ty := .int) (N' := 480) (a0 := (480, .inl (colf S0.1 25))) hx hb (hts _ wd_40) rfl hK hP hD hS hA (fun cA => zr_c) (by decide) (by decide) (by decide) (Nat.le_of_ble_eq_true rfl) (Nat.le_of_ble_eq_true rfl) d_X_init_84 (fun q84 ca84 H hK hP hD hS => ?_)
  have hP : va_P (dC, dI) classes [(h0, .inr (0, [.ref q5, .ref q18, .ref q31, .ref q44, .ref q57, .ref q70, .null, .null, .null, .null, .int 0, .int 0])), (q5, .inr (1, [.int (nI 60), .ref r11, .int 0])), (r11, .inl (ca11, 300, .inl (rowf S0.1 0))), (q18, .inr (1, [.int (nI 60), .ref r24, .int 0])), (r24, .inl (ca24, 300, .inl (rowf S0.1 5))), (q31, .inr (1, [.int (nI 80), .ref r37, .int 0])), (r37, .inl (ca37, 400, .inl (rowf S0.1 10))), (q44, .inr (1, [.int (nI 20), .ref r50, .int 0])), (r50, .inl (ca50, 100, .inl (rowf S0.1 15))), (q57, .inr (1, [.int (nI 80), .ref r63, .int 0])), (r63, .inl (ca63, 400, .inl (rowd S0.1 S0.2.2))), (q70, .inr (2, [.ref ra, .ref rb, .int 0])), (ra, .inl (cra, 10, .inl (colf S0.1 29))), (rb, .inl (crb, 10, .inl (colf S0.1 30))), (q84, .inl (ca84, 480, .inl (colf S0.1 25)))] H := hP
  have hD : va_D A [(h0, .inr (0, [.ref q5, .ref q18, .ref q31, .ref q44, .ref q57, .ref q70, .null, .null, .null, .null, .int 0, .int 0])), (q5, .inr (1, [.int (nI 60), .ref r11, .int 0])), (r11, .inl (ca11, 300, .inl (rowf S0.1 0))), (q18, .inr (1, [.int (nI 60), .ref r24, .int 0])), (r24, .inl (ca24, 300, .inl (rowf S0.1 5))), (q31, .inr (1, [.int (nI 80), .ref r37, .int 0])), (r37, .inl (ca37, 400, .inl (rowf S0.1 10))), (q44, .inr (1, [.int (nI 20), .ref r50, .int 0])), (r50, .inl (ca50, 100, .inl (rowf S0.1 15))), (q57, .inr (1, [.int (nI 80), .ref r63, .int 0])), (r63, .inl (ca63, 400, .inl (rowd S0.1 S0.2.2))), (q70, .inr (2, [.ref ra, .ref rb, .int 0])), (ra, .inl (cra, 10, .inl (colf S0.1 29))), (rb, .inl (crb, 10, .inl (colf S0.1 30))), (q84, .inl (ca84, 480, .inl (colf S0.1 25)))] := hD
  have hK : va_K (dC, dI) classes [(ca11, .int), (ca24, .int), (ca37, .int), (ca50, .int), (ca63, .int), (cra, .int), (crb, .int), (ca84, .int)] s := hK
  refine W.widen (k := 14) (n := 2018) (Nat.le_of_ble_eq_true rfl) (Nat.le_of_ble_eq_true rfl) ?_
  refine va_putF (D := (dC, dI)) (ci := 0) (v := .ref q84) (ty := .array .int) (C := R_X) (T := F_X) (N := 12) hx hb hts i_X ty_X ty_X_ok n_X hown hK hP hD hS 0 rfl rfl 6 (by decide) (hts _ wd_63) (fun _ h9 => h9) rfl hin rfl (by decide +kernel) rfl rfl (Nat.le_of_ble_eq_true rfl) d_X_init_86 (fun H locs hP hD hS => ?_)
  have hP : va_P (dC, dI) classes [(h0, .inr (0, [.ref q5, .ref q18, .ref q31, .ref q44, .ref q57, .ref q70, .ref q84, .null, .null, .null, .int 0, .int 0])), (q5, .inr (1, [.int (nI 60), .ref r11, .int 0])), (r11, .inl (ca11, 300, .inl (rowf S0.1 0))), (q18, .inr (1, [.int (nI 60), .ref r24, .int 0])), (r24, .inl (ca24, 300, .inl (rowf S0.1 5))), (q31, .inr (1, [.int (nI 80), .ref r37, .int 0])), (r37, .inl (ca37, 400, .inl (rowf S0.1 10))), (q44, .inr (1, [.int (nI 20), .ref r50, .int 0])), (r50, .inl (ca50, 100, .inl (rowf S0.1 15))), (q57, .inr (1, [.int (nI 80), .ref r63, .int 0])), (r63, .inl (ca63, 400, .inl (rowd S0.1 S0.2.2))), (q70, .inr (2, [.ref ra, .ref rb, .int 0])), (ra, .inl (cra, 10, .inl (colf S0.1 29))), (rb, .inl (crb, 10, .inl (colf S0.1 30))), (q84, .inl (ca84, 480, .inl (colf S0.1 25)))] H := hP
  have hD : va_D A [(h0, .inr (0, [.ref q5, .ref q18, .ref q31, .ref q44, .ref q57, .ref q70, .ref q84, .null, .null, .null, .int 0, .int 0])), (q5, .inr (1, [.int (nI 60), .ref r11, .int 0])), (r11, .inl (ca11, 300, .inl (rowf S0.1 0))), (q18, .inr (1, [.int (nI 60), .ref r24, .int 0])), (r24, .inl (ca24, 300, .inl (rowf S0.1 5))), (q31, .inr (1, [.int (nI 80), .ref r37, .int 0])), (r37, .inl (ca37, 400, .inl (rowf S0.1 10))), (q44, .inr (1, [.int (nI 20), .ref r50, .int 0])), (r50, .inl (ca50, 100, .inl (rowf S0.1 15))), (q57, .inr (1, [.int (nI 80), .ref r63, .int 0])), (r63, .inl (ca63, 400, .inl (rowd S0.1 S0.2.2))), (q70, .inr (2, [.ref ra, .ref rb, .int 0])), (ra, .inl (cra, 10, .inl (colf S0.1 29))), (rb, .inl (crb, 10, .inl (colf S0.1 30))), (q84, .inl (ca84, 480, .inl (colf S0.1 25)))] := hD
  have hK : va_K (dC, dI) classes [(ca11, .int), (ca24, .int), (ca37, .int), (ca50, .int), (ca63, .int), (cra, .int), (crb, .int), (ca84, .int)] s := hK
  refine lv_aload_n hx hb d_X_init_89 rfl (lv_at hl 0 rfl) ?_
  refine lv_bipush (v := nI 80) hx hb d_X_init_90 (by decide) ?_
  refine va_newa (atype := .int) (ty := .int) (N' := 80) (a0 := (80, .inl (colf S0.1 26))) hx hb (hts _ wd_40) rfl hK hP hD hS hA (fun cA => zr_c) (by decide) (by decide) (by decide) (Nat.le_of_ble_eq_true rfl) (Nat.le_of_ble_eq_true rfl) d_X_init_92 (fun q92 ca92 H hK hP hD hS => ?_)
  have hP : va_P (dC, dI) classes [(h0, .inr (0, [.ref q5, .ref q18, .ref q31, .ref q44, .ref q57, .ref q70, .ref q84, .null, .null, .null, .int 0, .int 0])), (q5, .inr (1, [.int (nI 60), .ref r11, .int 0])), (r11, .inl (ca11, 300, .inl (rowf S0.1 0))), (q18, .inr (1, [.int (nI 60), .ref r24, .int 0])), (r24, .inl (ca24, 300, .inl (rowf S0.1 5))), (q31, .inr (1, [.int (nI 80), .ref r37, .int 0])), (r37, .inl (ca37, 400, .inl (rowf S0.1 10))), (q44, .inr (1, [.int (nI 20), .ref r50, .int 0])), (r50, .inl (ca50, 100, .inl (rowf S0.1 15))), (q57, .inr (1, [.int (nI 80), .ref r63, .int 0])), (r63, .inl (ca63, 400, .inl (rowd S0.1 S0.2.2))), (q70, .inr (2, [.ref ra, .ref rb, .int 0])), (ra, .inl (cra, 10, .inl (colf S0.1 29))), (rb, .inl (crb, 10, .inl (colf S0.1 30))), (q84, .inl (ca84, 480, .inl (colf S0.1 25))), (q92, .inl (ca92, 80, .inl (colf S0.1 26)))] H := hP
  have hD : va_D A [(h0, .inr (0, [.ref q5, .ref q18, .ref q31, .ref q44, .ref q57, .ref q70, .ref q84, .null, .null, .null, .int 0, .int 0])), (q5, .inr (1, [.int (nI 60), .ref r11, .int 0])), (r11, .inl (ca11, 300, .inl (rowf S0.1 0))), (q18, .inr (1, [.int (nI 60), .ref r24, .int 0])), (r24, .inl (ca24, 300, .inl (rowf S0.1 5))), (q31, .inr (1, [.int (nI 80), .ref r37, .int 0])), (r37, .inl (ca37, 400, .inl (rowf S0.1 10))), (q44, .inr (1, [.int (nI 20), .ref r50, .int 0])), (r50, .inl (ca50, 100, .inl (rowf S0.1 15))), (q57, .inr (1, [.int (nI 80), .ref r63, .int 0])), (r63, .inl (ca63, 400, .inl (rowd S0.1 S0.2.2))), (q70, .inr (2, [.ref ra, .ref rb, .int 0])), (ra, .inl (cra, 10, .inl (colf S0.1 29))), (rb, .inl (crb, 10, .inl (colf S0.1 30))), (q84, .inl (ca84, 480, .inl (colf S0.1 25))), (q92, .inl (ca92, 80, .inl (colf S0.1 26)))] := hD
  have hK : va_K (dC, dI) classes [(ca11, .int), (ca24, .int), (ca37, .int), (ca50, .int), (ca63, .int), (cra, .int), (crb, .int), (ca84, .int), (ca92, .int)] s := hK
  refine W.widen (k := 15) (n := 2098) (Nat.le_of_ble_eq_true rfl) (Nat.le_of_ble_eq_true rfl) ?_
  refine va_putF (D := (dC, dI)) (ci := 0) (v := .ref q92) (ty := .array .int) (C := R_X) (T := F_X) (N := 12) hx hb hts i_X ty_X ty_X_ok n_X hown hK hP hD hS 0 rfl rfl 7 (by decide) (hts _ wd_64) (fun _ h9 => h9) rfl hin rfl (by decide +kernel) rfl rfl (Nat.le_of_ble_eq_true rfl) d_X_init_94 (fun H locs hP hD hS => ?_)
  have hP : va_P (dC, dI) classes [(h0, .inr (0, [.ref q5, .ref q18, .ref q31, .ref q44, .ref q57, .ref q70, .ref q84, .ref q92, .null, .null, .int 0, .int 0])), (q5, .inr (1, [.int (nI 60), .ref r11, .int 0])), (r11, .inl (ca11, 300, .inl (rowf S0.1 0))), (q18, .inr (1, [.int (nI 60), .ref r24, .int 0])), (r24, .inl (ca24, 300, .inl (rowf S0.1 5))), (q31, .inr (1, [.int (nI 80), .ref r37, .int 0])), (r37, .inl (ca37, 400, .inl (rowf S0.1 10))), (q44, .inr (1, [.int (nI 20), .ref r50, .int 0])), (r50, .inl (ca50, 100, .inl (rowf S0.1 15))), (q57, .inr (1, [.int (nI 80), .ref r63, .int 0])), (r63, .inl (ca63, 400, .inl (rowd S0.1 S0.2.2))), (q70, .inr (2, [.ref ra, .ref rb, .int 0])), (ra, .inl (cra, 10, .inl (colf S0.1 29))), (rb, .inl (crb, 10, .inl (colf S0.1 30))), (q84, .inl (ca84, 480, .inl (colf S0.1 25))), (q92, .inl (ca92, 80, .inl (colf S0.1 26)))] H := hP
  have hD : va_D A [(h0, .inr (0, [.ref q5, .ref q18, .ref q31, .ref q44, .ref q57, .ref q70, .ref q84, .ref q92, .null, .null, .int 0, .int 0])), (q5, .inr (1, [.int (nI 60), .ref r11, .int 0])), (r11, .inl (ca11, 300, .inl (rowf S0.1 0))), (q18, .inr (1, [.int (nI 60), .ref r24, .int 0])), (r24, .inl (ca24, 300, .inl (rowf S0.1 5))), (q31, .inr (1, [.int (nI 80), .ref r37, .int 0])), (r37, .inl (ca37, 400, .inl (rowf S0.1 10))), (q44, .inr (1, [.int (nI 20), .ref r50, .int 0])), (r50, .inl (ca50, 100, .inl (rowf S0.1 15))), (q57, .inr (1, [.int (nI 80), .ref r63, .int 0])), (r63, .inl (ca63, 400, .inl (rowd S0.1 S0.2.2))), (q70, .inr (2, [.ref ra, .ref rb, .int 0])), (ra, .inl (cra, 10, .inl (colf S0.1 29))), (rb, .inl (crb, 10, .inl (colf S0.1 30))), (q84, .inl (ca84, 480, .inl (colf S0.1 25))), (q92, .inl (ca92, 80, .inl (colf S0.1 26)))] := hD
  have hK : va_K (dC, dI) classes [(ca11, .int), (ca24, .int), (ca37, .int), (ca50, .int), (ca63, .int), (cra, .int), (crb, .int), (ca84, .int), (ca92, .int)] s := hK
  refine lv_aload_n hx hb d_X_init_97 rfl (lv_at hl 0 rfl) ?_
  refine lv_bipush (v := nI 80) hx hb d_X_init_98 (by decide) ?_
  refine va_newa (atype := .int) (ty := .int) (N' := 80) (a0 := (80, .inl (colf S0.1 27))) hx hb (hts _ wd_40) rfl hK hP hD hS hA (fun cA => zr_c) (by decide) (by decide) (by decide) (Nat.le_of_ble_eq_true rfl) (Nat.le_of_ble_eq_true rfl) d_X_init_100 (fun q100 ca100 H hK hP hD hS => ?_)
  have hP : va_P (dC, dI) classes [(h0, .inr (0, [.ref q5, .ref q18, .ref q31, .ref q44, .ref q57, .ref q70, .ref q84, .ref q92, .null, .null, .int 0, .int 0])), (q5, .inr (1, [.int (nI 60), .ref r11, .int 0])), (r11, .inl (ca11, 300, .inl (rowf S0.1 0))), (q18, .inr (1, [.int (nI 60), .ref r24, .int 0])), (r24, .inl (ca24, 300, .inl (rowf S0.1 5))), (q31, .inr (1, [.int (nI 80), .ref r37, .int 0])), (r37, .inl (ca37, 400, .inl (rowf S0.1 10))), (q44, .inr (1, [.int (nI 20), .ref r50, .int 0])), (r50, .inl (ca50, 100, .inl (rowf S0.1 15))), (q57, .inr (1, [.int (nI 80), .ref r63, .int 0])), (r63, .inl (ca63, 400, .inl (rowd S0.1 S0.2.2))), (q70, .inr (2, [.ref ra, .ref rb, .int 0])), (ra, .inl (cra, 10, .inl (colf S0.1 29))), (rb, .inl (crb, 10, .inl (colf S0.1 30))), (q84, .inl (ca84, 480, .inl (colf S0.1 25))), (q92, .inl (ca92, 80, .inl (colf S0.1 26))), (q100, .inl (ca100, 80, .inl (colf S0.1 27)))] H := hP
  have hD : va_D A [(h0, .inr (0, [.ref q5, .ref q18, .ref q31, .ref q44, .ref q57, .ref q70, .ref q84, .ref q92, .null, .null, .int 0, .int 0])), (q5, .inr (1, [.int (nI 60), .ref r11, .int 0])), (r11, .inl (ca11, 300, .inl (rowf S0.1 0))), (q18, .inr (1, [.int (nI 60), .ref r24, .int 0])), (r24, .inl (ca24, 300, .inl (rowf S0.1 5))), (q31, .inr (1, [.int (nI 80), .ref r37, .int 0])), (r37, .inl (ca37, 400, .inl (rowf S0.1 10))), (q44, .inr (1, [.int (nI 20), .ref r50, .int 0])), (r50, .inl (ca50, 100, .inl (rowf S0.1 15))), (q57, .inr (1, [.int (nI 80), .ref r63, .int 0])), (r63, .inl (ca63, 400, .inl (rowd S0.1 S0.2.2))), (q70, .inr (2, [.ref ra, .ref rb, .int 0])), (ra, .inl (cra, 10, .inl (colf S0.1 29))), (rb, .inl (crb, 10, .inl (colf S0.1 30))), (q84, .inl (ca84, 480, .inl (colf S0.1 25))), (q92, .inl (ca92, 80, .inl (colf S0.1 26))), (q100, .inl (ca100, 80, .inl (colf S0.1 27)))] := hD
  have hK : va_K (dC, dI) classes [(ca11, .int), (ca24, .int), (ca37, .int), (ca50, .int), (ca63, .int), (cra, .int), (crb, .int), (ca84, .int), (ca92, .int), (ca100, .int)] s := hK
  refine W.widen (k := 16) (n := 2178) (Nat.le_of_ble_eq_true rfl) (Nat.le_of_ble_eq_true rfl) ?_
  refine va_putF (D := (dC, dI)) (ci := 0) (v := .ref q100) (ty := .array .int) (C := R_X) (T := F_X) (N := 12) hx hb hts i_X ty_X ty_X_ok n_X hown hK hP hD hS 0 rfl rfl 8 (by decide) (hts _ wd_65) (fun _ h9 => h9) rfl hin rfl (by decide +kernel) rfl rfl (Nat.le_of_ble_eq_true rfl) d_X_init_102 (fun H locs hP hD hS => ?_)
  have hP : va_P (dC, dI) classes [(h0, .inr (0, [.ref q5, .ref q18, .ref q31, .ref q44, .ref q57, .ref q70, .ref q84, .ref q92, .ref q100, .null, .int 0, .int 0])), (q5, .inr (1, [.int (nI 60), .ref r11, .int 0])), (r11, .inl (ca11, 300, .inl (rowf S0.1 0))), (q18, .inr (1, [.int (nI 60), .ref r24, .int 0])), (r24, .inl (ca24, 300, .inl (rowf S0.1 5))), (q31, .inr (1, [.int (nI 80), .ref r37, .int 0])), (r37, .inl (ca37, 400, .inl (rowf S0.1 10))), (q44, .inr (1, [.int (nI 20), .ref r50, .int 0])), (r50, .inl (ca50, 100, .inl (rowf S0.1 15))), (q57, .inr (1, [.int (nI 80), .ref r63, .int 0])), (r63, .inl (ca63, 400, .inl (rowd S0.1 S0.2.2))), (q70, .inr (2, [.ref ra, .ref rb, .int 0])), (ra, .inl (cra, 10, .inl (colf S0.1 29))), (rb, .inl (crb, 10, .inl (colf S0.1 30))), (q84, .inl (ca84, 480, .inl (colf S0.1 25))), (q92, .inl (ca92, 80, .inl (colf S0.1 26))), (q100, .inl (ca100, 80, .inl (colf S0.1 27)))] H := hP
  have hD : va_D A [(h0, .inr (0, [.ref q5, .ref q18, .ref q31, .ref q44, .ref q57, .ref q70, .ref q84, .ref q92, .ref q100, .null, .int 0, .int 0])), (q5, .inr (1, [.int (nI 60), .ref r11, .int 0])), (r11, .inl (ca11, 300, .inl (rowf S0.1 0))), (q18, .inr (1, [.int (nI 60), .ref r24, .int 0])), (r24, .inl (ca24, 300, .inl (rowf S0.1 5))), (q31, .inr (1, [.int (nI 80), .ref r37, .int 0])), (r37, .inl (ca37, 400, .inl (rowf S0.1 10))), (q44, .inr (1, [.int (nI 20), .ref r50, .int 0])), (r50, .inl (ca50, 100, .inl (rowf S0.1 15))), (q57, .inr (1, [.int (nI 80), .ref r63, .int 0])), (r63, .inl (ca63, 400, .inl (rowd S0.1 S0.2.2))), (q70, .inr (2, [.ref ra, .ref rb, .int 0])), (ra, .inl (cra, 10, .inl (colf S0.1 29))), (rb, .inl (crb, 10, .inl (colf S0.1 30))), (q84, .inl (ca84, 480, .inl (colf S0.1 25))), (q92, .inl (ca92, 80, .inl (colf S0.1 26))), (q100, .inl (ca100, 80, .inl (colf S0.1 27)))] := hD
  have hK : va_K (dC, dI) classes [(ca11, .int), (ca24, .int), (ca37, .int), (ca50, .int), (ca63, .int), (cra, .int), (crb, .int), (ca84, .int), (ca92, .int), (ca100, .int)] s := hK
  refine lv_aload_n hx hb d_X_init_105 rfl (lv_at hl 0 rfl) ?_
  refine lv_bipush (v := nI 50) hx hb d_X_init_106 (by decide) ?_
  refine va_newa (atype := .int) (ty := .int) (N' := 50) (a0 := (50, .inl (colf S0.1 28))) hx hb (hts _ wd_40) rfl hK hP hD hS hA (fun cA => zr_c) (by decide) (by decide) (by decide) (Nat.le_of_ble_eq_true rfl) (Nat.le_of_ble_eq_true rfl) d_X_init_108 (fun q108 ca108 H hK hP hD hS => ?_)
  have hP : va_P (dC, dI) classes [(h0, .inr (0, [.ref q5, .ref q18, .ref q31, .ref q44, .ref q57, .ref q70, .ref q84, .ref q92, .ref q100, .null, .int 0, .int 0])), (q5, .inr (1, [.int (nI 60), .ref r11, .int 0])), (r11, .inl (ca11, 300, .inl (rowf S0.1 0))), (q18, .inr (1, [.int (nI 60), .ref r24, .int 0])), (r24, .inl (ca24, 300, .inl (rowf S0.1 5))), (q31, .inr (1, [.int (nI 80), .ref r37, .int 0])), (r37, .inl (ca37, 400, .inl (rowf S0.1 10))), (q44, .inr (1, [.int (nI 20), .ref r50, .int 0])), (r50, .inl (ca50, 100, .inl (rowf S0.1 15))), (q57, .inr (1, [.int (nI 80), .ref r63, .int 0])), (r63, .inl (ca63, 400, .inl (rowd S0.1 S0.2.2))), (q70, .inr (2, [.ref ra, .ref rb, .int 0])), (ra, .inl (cra, 10, .inl (colf S0.1 29))), (rb, .inl (crb, 10, .inl (colf S0.1 30))), (q84, .inl (ca84, 480, .inl (colf S0.1 25))), (q92, .inl (ca92, 80, .inl (colf S0.1 26))), (q100, .inl (ca100, 80, .inl (colf S0.1 27))), (q108, .inl (ca108, 50, .inl (colf S0.1 28)))] H := hP
  have hD : va_D A [(h0, .inr (0, [.ref q5, .ref q18, .ref q31, .ref q44, .ref q57, .ref q70, .ref q84, .ref q92, .ref q100, .null, .int 0, .int 0])), (q5, .inr (1, [.int (nI 60), .ref r11, .int 0])), (r11, .inl (ca11, 300, .inl (rowf S0.1 0))), (q18, .inr (1, [.int (nI 60), .ref r24, .int 0])), (r24, .inl (ca24, 300, .inl (rowf S0.1 5))), (q31, .inr (1, [.int (nI 80), .ref r37, .int 0])), (r37, .inl (ca37, 400, .inl (rowf S0.1 10))), (q44, .inr (1, [.int (nI 20), .ref r50, .int 0])), (r50, .inl (ca50, 100, .inl (rowf S0.1 15))), (q57, .inr (1, [.int (nI 80), .ref r63, .int 0])), (r63, .inl (ca63, 400, .inl (rowd S0.1 S0.2.2))), (q70, .inr (2, [.ref ra, .ref rb, .int 0])), (ra, .inl (cra, 10, .inl (colf S0.1 29))), (rb, .inl (crb, 10, .inl (colf S0.1 30))), (q84, .inl (ca84, 480, .inl (colf S0.1 25))), (q92, .inl (ca92, 80, .inl (colf S0.1 26))), (q100, .inl (ca100, 80, .inl (colf S0.1 27))), (q108, .inl (ca108, 50, .inl (colf S0.1 28)))] := hD
  have hK : va_K (dC, dI) classes [(ca11, .int), (ca24, .int), (ca37, .int), (ca50, .int), (ca63, .int), (cra, .int), (crb, .int), (ca84, .int), (ca92, .int), (ca100, .int), (ca108, .int)] s := hK
  refine W.widen (k := 17) (n := 2228) (Nat.le_of_ble_eq_true rfl) (Nat.le_of_ble_eq_true rfl) ?_
  refine va_putF (D := (dC, dI)) (ci := 0) (v := .ref q108) (ty := .array .int) (C := R_X) (T := F_X) (N := 12) hx hb hts i_X ty_X ty_X_ok n_X hown hK hP hD hS 0 rfl rfl 9 (by decide) (hts _ wd_66) (fun _ h9 => h9) rfl hin rfl (by decide +kernel) rfl rfl (Nat.le_of_ble_eq_true rfl) d_X_init_110 (fun H locs hP hD hS => ?_)
  have hP : va_P (dC, dI) classes [(h0, .inr (0, [.ref q5, .ref q18, .ref q31, .ref q44, .ref q57, .ref q70, .ref q84, .ref q92, .ref q100, .ref q108, .int 0, .int 0])), (q5, .inr (1, [.int (nI 60), .ref r11, .int 0])), (r11, .inl (ca11, 300, .inl (rowf S0.1 0))), (q18, .inr (1, [.int (nI 60), .ref r24, .int 0])), (r24, .inl (ca24, 300, .inl (rowf S0.1 5))), (q31, .inr (1, [.int (nI 80), .ref r37, .int 0])), (r37, .inl (ca37, 400, .inl (rowf S0.1 10))), (q44, .inr (1, [.int (nI 20), .ref r50, .int 0])), (r50, .inl (ca50, 100, .inl (rowf S0.1 15))), (q57, .inr (1, [.int (nI 80), .ref r63, .int 0])), (r63, .inl (ca63, 400, .inl (rowd S0.1 S0.2.2))), (q70, .inr (2, [.ref ra, .ref rb, .int 0])), (ra, .inl (cra, 10, .inl (colf S0.1 29))), (rb, .inl (crb, 10, .inl (colf S0.1 30))), (q84, .inl (ca84, 480, .inl (colf S0.1 25))), (q92, .inl (ca92, 80, .inl (colf S0.1 26))), (q100, .inl (ca100, 80, .inl (colf S0.1 27))), (q108, .inl (ca108, 50, .inl (colf S0.1 28)))] H := hP
  have hD : va_D A [(h0, .inr (0, [.ref q5, .ref q18, .ref q31, .ref q44, .ref q57, .ref q70, .ref q84, .ref q92, .ref q100, .ref q108, .int 0, .int 0])), (q5, .inr (1, [.int (nI 60), .ref r11, .int 0])), (r11, .inl (ca11, 300, .inl (rowf S0.1 0))), (q18, .inr (1, [.int (nI 60), .ref r24, .int 0])), (r24, .inl (ca24, 300, .inl (rowf S0.1 5))), (q31, .inr (1, [.int (nI 80), .ref r37, .int 0])), (r37, .inl (ca37, 400, .inl (rowf S0.1 10))), (q44, .inr (1, [.int (nI 20), .ref r50, .int 0])), (r50, .inl (ca50, 100, .inl (rowf S0.1 15))), (q57, .inr (1, [.int (nI 80), .ref r63, .int 0])), (r63, .inl (ca63, 400, .inl (rowd S0.1 S0.2.2))), (q70, .inr (2, [.ref ra, .ref rb, .int 0])), (ra, .inl (cra, 10, .inl (colf S0.1 29))), (rb, .inl (crb, 10, .inl (colf S0.1 30))), (q84, .inl (ca84, 480, .inl (colf S0.1 25))), (q92, .inl (ca92, 80, .inl (colf S0.1 26))), (q100, .inl (ca100, 80, .inl (colf S0.1 27))), (q108, .inl (ca108, 50, .inl (colf S0.1 28)))] := hD
  have hK : va_K (dC, dI) classes [(ca11, .int), (ca24, .int), (ca37, .int), (ca50, .int), (ca63, .int), (cra, .int), (crb, .int), (ca84, .int), (ca92, .int), (ca100, .int), (ca108, .int)] s := hK
  obtain rfl := K_one hK 1 0 rfl rfl
  obtain rfl := K_one hK 2 0 rfl rfl
  obtain rfl := K_one hK 3 0 rfl rfl
  obtain rfl := K_one hK 4 0 rfl rfl
  obtain rfl := K_one hK 5 0 rfl rfl
  obtain rfl := K_one hK 6 0 rfl rfl
  obtain rfl := K_one hK 7 0 rfl rfl
  obtain rfl := K_one hK 8 0 rfl rfl
  obtain rfl := K_one hK 9 0 rfl rfl
  obtain rfl := K_one hK 10 0 rfl rfl
  have hK9 := hK.sub (tys' := [(ca108, .int)]) [0] rfl
  have hP9 := hP.sub (ws' := wX (fun k => [h0, q5, q18, q31, q44, q57, q70, q84, q92, q100, q108, r11, r24, r37, r50, r63, ra, rb].getD k 0) ca108 S0) [0, 1, 3, 5, 7, 9, 11, 14, 15, 16, 17, 2, 4, 6, 8, 10, 12, 13] rfl
  have hD9 := hD.sub (ws' := wX (fun k => [h0, q5, q18, q31, q44, q57, q70, q84, q92, q100, q108, r11, r24, r37, r50, r63, ra, rb].getD k 0) ca108 S0) [0, 1, 3, 5, 7, 9, 11, 14, 15, 16, 17, 2, 4, 6, 8, 10, 12, 13] (by decide) rfl
  exact W.vret hx hb hr (fun t ht hW => ⟨⟨(fun k => [h0, q5, q18, q31, q44, q57, q70, q84, q92, q100, q108, r11, r24, r37, r50, r63, ra, rb].getD k 0, ca108), rfl, trivial, rfl, by rw [ht]; exact hP9, va_K.moved hW.alike hK9, hD9⟩, hS.F ht⟩) hS.2.2 d_X_init_113
