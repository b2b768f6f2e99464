set_option maxHeartbeats 4000000 in
set_option maxRecDepth 100000 in
theorem c_X_needStore (l : Launch) (hst : l.stackTraces = false) (dC : Nat → ClassId) (dI : Nat → Nat → Nat) (A : Nat → Prop) (cI : ClassId) (q : Nat → Nat) (S : St) (t : Nat) (hI : Bd t S) (x : Int32) : vx_Met l y_X_needStore (.code y_X_needStore b_X_needStore 2 none :: bg) { frames := 6, cells := 1, slots := 6, locals := 90 } (nd_P (dC, dI) classes (wX q cI S) [(cI, .int)] A [.ref (q 0), .int x]) (nd_Q (ok x (S.2.1 0) = true)) (nd_X (ok x (S.2.1 0) = true) E_ia) 1 6 (fun _ => False) := by
  refine vx_ofW (cc := b_X_needStore) (maxL := 2) (ret := none) (by decide) rfl ?_
  intro p e s m args below meth c s₁ B hml hnt hv
  obtain ⟨rfl, hP, hK, hG⟩ := hv
  have hx := B.exec
  have hb := B.bytes
  have hr := B.returns
  have hts := fun w (h : w ∈ bg) => atoms_spec (ws := .code y_X_needStore b_X_needStore 2 none :: bg) B.pre w (List.mem_cons_of_mem _ h)
  have hown : s.vm.findClass R_X = some m.cls := findClass_of_methodNamed B.named
  have hlocks := B.notSynchronized
  have hl := lv_entry ([.ref (q 0), .int x]) (n := 2) (Nat.le_of_ble_eq_true rfl)
  rw [lg_entry_eq]
  generalize (lg_sl ([.ref (q 0), .int x]) ++ List.replicate (2 - (lg_sl ([.ref (q 0), .int x])).length) Slot.unset).toArray = ls at hl ⊢
  have hl : lv_has ls 2 [(0, .ref (q 0)), (1, .int x)] := hl
  have hB := hI.1
  have hg0 : S.2.1 0 ≤ 8 := hI.2.1 0
  have hg1 : S.2.1 1 ≤ 9999 := hI.2.1 1
  have hg2 : S.2.1 2 ≤ 60 := hI.2.1 2
  have hg3 : S.2.1 3 ≤ 60 := hI.2.1 3
  have hg4 : S.2.1 4 ≤ 80 := hI.2.1 4
  have hg5 : S.2.1 5 ≤ 20 := hI.2.1 5
  have hg6 : S.2.1 6 ≤ 80 := hI.2.1 6
  have hg7 : S.2.1 7 ≤ 10 := hI.2.1 7
  have hg8 : t ≤ 512 := hI.2.2
  refine lv_iload_n hx hb d_X_needStore_0 rfl (lv_at hl 1 rfl) ?_
  refine lv_if_lt (tgt := 12) hx hb d_X_needStore_1 (by decide) (fun c1 => ?_) (fun c1 => ?_)
  · exact x_throw (A := A) hx hb hst hown hts hG ex_ia sx_200 hnt (hl.1.trans hml.symm) hlocks d_X_needStore_12 d_X_needStore_15 d_X_needStore_16 d_X_needStore_18 d_X_needStore_21 (Nat.le_of_ble_eq_true rfl) (Nat.le_of_ble_eq_true rfl) (Nat.le_of_ble_eq_true rfl) (Nat.le_of_ble_eq_true rfl) (Nat.le_of_ble_eq_true rfl) (Nat.le_of_ble_eq_true rfl) (fun t h1 h2 => ⟨by rw [ok_neg c1]; decide, rfl, h1, h2⟩)
  · refine lv_iload_n hx hb d_X_needStore_4 rfl (lv_at hl 1 rfl) ?_
    refine lv_aload_n hx hb d_X_needStore_5 rfl (lv_at hl 0 rfl) ?_
    refine va_get (D := (dC, dI)) (ci := 0) (v := .int (nI (S.2.1 0))) (C := R_X) (T := F_X) (N := 12) hx hb hts i_X hown hK hP 0 rfl rfl 10 (by decide) (hts _ wd_67) (fun _ h9 => h9) rfl d_X_needStore_6 ?_
    refine lv_icmp_lt (tgt := 22) hx hb d_X_needStore_9 (by decide) (fun c9 => ?_) (fun c9 => ?_)
    · refine W.widen (k := 1) (n := 6) (Nat.le_of_ble_eq_true rfl) (Nat.le_of_ble_eq_true rfl) ?_
      exact vx_ret (W.vret hx hb hr (fun t ht hW => ⟨ok_yes (by omega) c1 (Int32.not_le.mpr c9), rfl, ht⟩) (fun q h => nomatch h) d_X_needStore_22)
    · exact x_throw (A := A) hx hb hst hown hts hG ex_ia sx_200 hnt (hl.1.trans hml.symm) hlocks d_X_needStore_12 d_X_needStore_15 d_X_needStore_16 d_X_needStore_18 d_X_needStore_21 (Nat.le_of_ble_eq_true rfl) (Nat.le_of_ble_eq_true rfl) (Nat.le_of_ble_eq_true rfl) (Nat.le_of_ble_eq_true rfl) (Nat.le_of_ble_eq_true rfl) (Nat.le_of_ble_eq_true rfl) (fun t h1 h2 => ⟨by rw [ok_ge (by omega) (Int32.not_lt.mp c9)]; decide, rfl, h1, h2⟩)
set_option maxHeartbeats 4000000 in
set_option maxRecDepth 100000 in
theorem c_X_needKind (l : Launch) (hst : l.stackTraces = false) (dC : Nat → ClassId) (dI : Nat → Nat → Nat) (A : Nat → Prop) (x : Int32) : vx_Met l y_X_needKind (.code y_X_needKind b_X_needKind 1 none :: bg) { frames := 6, cells := 1, slots := 6, locals := 90 } (nd_P (dC, dI) classes [] [] A [.int x]) (nd_Q (ok x 10 = true)) (nd_X (ok x 10 = true) E_ia) 1 6 (fun _ => False) := by
  refine vx_ofW (cc := b_X_needKind) (maxL := 1) (ret := none) (by decide) rfl ?_
  intro p e s m args below meth c s₁ B hml hnt hv
  obtain ⟨rfl, hP, hK, hG⟩ := hv
  have hx := B.exec
  have hb := B.bytes
  have hr := B.returns
  have hts := fun w (h : w ∈ bg) => atoms_spec (ws := .code y_X_needKind b_X_needKind 1 none :: bg) B.pre w (List.mem_cons_of_mem _ h)
  have hown : s.vm.findClass R_X = some m.cls := findClass_of_methodNamed B.named
  have hlocks := B.notSynchronized
  have hl := lv_entry ([.int x]) (n := 1) (Nat.le_of_ble_eq_true rfl)
  rw [lg_entry_eq]
  generalize (lg_sl ([.int x]) ++ List.replicate (1 - (lg_sl ([.int x])).length) Slot.unset).toArray = ls at hl ⊢
  have hl : lv_has ls 1 [(0, .int x)] := hl
  refine lv_iload_n hx hb d_X_needKind_0 rfl (lv_at hl 0 rfl) ?_
  refine lv_if_lt (tgt := 10) hx hb d_X_needKind_1 (by decide) (fun c1 => ?_) (fun c1 => ?_)
  · exact x_throw (A := A) hx hb hst hown hts hG ex_ia sx_207 hnt (hl.1.trans hml.symm) hlocks d_X_needKind_10 d_X_needKind_13 d_X_needKind_14 d_X_needKind_16 d_X_needKind_19 (Nat.le_of_ble_eq_true rfl) (Nat.le_of_ble_eq_true rfl) (Nat.le_of_ble_eq_true rfl) (Nat.le_of_ble_eq_true rfl) (Nat.le_of_ble_eq_true rfl) (Nat.le_of_ble_eq_true rfl) (fun t h1 h2 => ⟨by rw [ok_neg c1]; decide, rfl, h1, h2⟩)
  · refine lv_iload_n hx hb d_X_needKind_4 rfl (lv_at hl 0 rfl) ?_
    refine lv_bipush (v := nI 10) hx hb d_X_needKind_5 (by decide) ?_
    refine lv_icmp_lt (tgt := 20) hx hb d_X_needKind_7 (by decide) (fun c7 => ?_) (fun c7 => ?_)
    · refine W.widen (k := 1) (n := 6) (Nat.le_of_ble_eq_true rfl) (Nat.le_of_ble_eq_true rfl) ?_
      exact vx_ret (W.vret hx hb hr (fun t ht hW => ⟨ok_yes (by decide) c1 (Int32.not_le.mpr c7), rfl, ht⟩) (fun q h => nomatch h) d_X_needKind_20)
    · exact x_throw (A := A) hx hb hst hown hts hG ex_ia sx_207 hnt (hl.1.trans hml.symm) hlocks d_X_needKind_10 d_X_needKind_13 d_X_needKind_14 d_X_needKind_16 d_X_needKind_19 (Nat.le_of_ble_eq_true rfl) (Nat.le_of_ble_eq_true rfl) (Nat.le_of_ble_eq_true rfl) (Nat.le_of_ble_eq_true rfl) (Nat.le_of_ble_eq_true rfl) (Nat.le_of_ble_eq_true rfl) (fun t h1 h2 => ⟨by rw [ok_ge (by decide) (Int32.not_lt.mp c7)]; decide, rfl, h1, h2⟩)
set_option maxHeartbeats 4000000 in
set_option maxRecDepth 100000 in
theorem c_X_needPerson (l : Launch) (hst : l.stackTraces = false) (dC : Nat → ClassId) (dI : Nat → Nat → Nat) (A : Nat → Prop) (x : Int32) : vx_Met l y_X_needPerson (.code y_X_needPerson b_X_needPerson 1 none :: bg) { frames := 6, cells := 1, slots := 6, locals := 90 } (nd_P (dC, dI) classes [] [] A [.int x]) (nd_Q (ok x 20 = true)) (nd_X (ok x 20 = true) E_ia) 1 6 (fun _ => False) := by
  refine vx_ofW (cc := b_X_needPerson) (maxL := 1) (ret := none) (by decide) rfl ?_
  intro p e s m args below meth c s₁ B hml hnt hv
  obtain ⟨rfl, hP, hK, hG⟩ := hv
  have hx := B.exec
  have hb := B.bytes
  have hr := B.returns
  have hts := fun w (h : w ∈ bg) => atoms_spec (ws := .code y_X_needPerson b_X_needPerson 1 none :: bg) B.pre w (List.mem_cons_of_mem _ h)
  have hown : s.vm.findClass R_X = some m.cls := findClass_of_methodNamed B.named
  have hlocks := B.notSynchronized
  have hl := lv_entry ([.int x]) (n := 1) (Nat.le_of_ble_eq_true rfl)
  rw [lg_entry_eq]
  generalize (lg_sl ([.int x]) ++ List.replicate (1 - (lg_sl ([.int x])).length) Slot.unset).toArray = ls at hl ⊢
  have hl : lv_has ls 1 [(0, .int x)] := hl
  refine lv_iload_n hx hb d_X_needPerson_0 rfl (lv_at hl 0 rfl) ?_
  refine lv_if_lt (tgt := 10) hx hb d_X_needPerson_1 (by decide) (fun c1 => ?_) (fun c1 => ?_)
  · exact x_throw (A := A) hx hb hst hown hts hG ex_ia sx_209 hnt (hl.1.trans hml.symm) hlocks d_X_needPerson_10 d_X_needPerson_13 d_X_needPerson_14 d_X_needPerson_16 d_X_needPerson_19 (Nat.le_of_ble_eq_true rfl) (Nat.le_of_ble_eq_true rfl) (Nat.le_of_ble_eq_true rfl) (Nat.le_of_ble_eq_true rfl) (Nat.le_of_ble_eq_true rfl) (Nat.le_of_ble_eq_true rfl) (fun t h1 h2 => ⟨by rw [ok_neg c1]; decide, rfl, h1, h2⟩)
  · refine lv_iload_n hx hb d_X_needPerson_4 rfl (lv_at hl 0 rfl) ?_
    refine lv_bipush (v := nI 20) hx hb d_X_needPerson_5 (by decide) ?_
    refine lv_icmp_lt (tgt := 20) hx hb d_X_needPerson_7 (by decide) (fun c7 => ?_) (fun c7 => ?_)
    · refine W.widen (k := 1) (n := 6) (Nat.le_of_ble_eq_true rfl) (Nat.le_of_ble_eq_true rfl) ?_
      exact vx_ret (W.vret hx hb hr (fun t ht hW => ⟨ok_yes (by decide) c1 (Int32.not_le.mpr c7), rfl, ht⟩) (fun q h => nomatch h) d_X_needPerson_20)
    · exact x_throw (A := A) hx hb hst hown hts hG ex_ia sx_209 hnt (hl.1.trans hml.symm) hlocks d_X_needPerson_10 d_X_needPerson_13 d_X_needPerson_14 d_X_needPerson_16 d_X_needPerson_19 (Nat.le_of_ble_eq_true rfl) (Nat.le_of_ble_eq_true rfl) (Nat.le_of_ble_eq_true rfl) (Nat.le_of_ble_eq_true rfl) (Nat.le_of_ble_eq_true rfl) (Nat.le_of_ble_eq_true rfl) (fun t h1 h2 => ⟨by rw [ok_ge (by decide) (Int32.not_lt.mp c7)]; decide, rfl, h1, h2⟩)
set_option maxHeartbeats 4000000 in
set_option maxRecDepth 100000 in
theorem c_X_needKit (l : Launch) (hst : l.stackTraces = false) (dC : Nat → ClassId) (dI : Nat → Nat → Nat) (A : Nat → Prop) (x : Int32) : vx_Met l y_X_needKit (.code y_X_needKit b_X_needKit 1 none :: bg) { frames := 6, cells := 1, slots := 6, locals := 90 } (nd_P (dC, dI) classes [] [] A [.int x]) (nd_Q (ok x 5 = true)) (nd_X (ok x 5 = true) E_ia) 1 6 (fun _ => False) := by
  refine vx_ofW (cc := b_X_needKit) (maxL := 1) (ret := none) (by decide) rfl ?_
  intro p e s m args below meth c s₁ B hml hnt hv
  obtain ⟨rfl, hP, hK, hG⟩ := hv
  have hx := B.exec
  have hb := B.bytes
  have hr := B.returns
  have hts := fun w (h : w ∈ bg) => atoms_spec (ws := .code y_X_needKit b_X_needKit 1 none :: bg) B.pre w (List.mem_cons_of_mem _ h)
  have hown : s.vm.findClass R_X = some m.cls := findClass_of_methodNamed B.named
  have hlocks := B.notSynchronized
  have hl := lv_entry ([.int x]) (n := 1) (Nat.le_of_ble_eq_true rfl)
  rw [lg_entry_eq]
  generalize (lg_sl ([.int x]) ++ List.replicate (1 - (lg_sl ([.int x])).length) Slot.unset).toArray = ls at hl ⊢
  have hl : lv_has ls 1 [(0, .int x)] := hl
  refine lv_iload_n hx hb d_X_needKit_0 rfl (lv_at hl 0 rfl) ?_
  refine lv_if_lt (tgt := 9) hx hb d_X_needKit_1 (by decide) (fun c1 => ?_) (fun c1 => ?_)
  · exact x_throw (A := A) hx hb hst hown hts hG ex_ia sx_211 hnt (hl.1.trans hml.symm) hlocks d_X_needKit_9 d_X_needKit_12 d_X_needKit_13 d_X_needKit_15 d_X_needKit_18 (Nat.le_of_ble_eq_true rfl) (Nat.le_of_ble_eq_true rfl) (Nat.le_of_ble_eq_true rfl) (Nat.le_of_ble_eq_true rfl) (Nat.le_of_ble_eq_true rfl) (Nat.le_of_ble_eq_true rfl) (fun t h1 h2 => ⟨by rw [ok_neg c1]; decide, rfl, h1, h2⟩)
  · refine lv_iload_n hx hb d_X_needKit_4 rfl (lv_at hl 0 rfl) ?_
    refine lv_iconst (v := nI 5) hx hb d_X_needKit_5 (by decide) ?_
    refine lv_icmp_lt (tgt := 19) hx hb d_X_needKit_6 (by decide) (fun c6 => ?_) (fun c6 => ?_)
    · refine W.widen (k := 1) (n := 6) (Nat.le_of_ble_eq_true rfl) (Nat.le_of_ble_eq_true rfl) ?_
      exact vx_ret (W.vret hx hb hr (fun t ht hW => ⟨ok_yes (by decide) c1 (Int32.not_le.mpr c6), rfl, ht⟩) (fun q h => nomatch h) d_X_needKit_19)
    · exact x_throw (A := A) hx hb hst hown hts hG ex_ia sx_211 hnt (hl.1.trans hml.symm) hlocks d_X_needKit_9 d_X_needKit_12 d_X_needKit_13 d_X_needKit_15 d_X_needKit_18 (Nat.le_of_ble_eq_true rfl) (Nat.le_of_ble_eq_true rfl) (Nat.le_of_ble_eq_true rfl) (Nat.le_of_ble_eq_true rfl) (Nat.le_of_ble_eq_true rfl) (Nat.le_of_ble_eq_true rfl) (fun t h1 h2 => ⟨by rw [ok_ge (by decide) (Int32.not_lt.mp c6)]; decide, rfl, h1, h2⟩)
set_option maxHeartbeats 4000000 in
set_option maxRecDepth 100000 in
theorem c_X_needRange (l : Launch) (hst : l.stackTraces = false) (dC : Nat → ClassId) (dI : Nat → Nat → Nat) (A : Nat → Prop) (x : Int32) (lo hi : Nat) (hlo : lo < 2 ^ 31) (hhi : hi < 2 ^ 31) : vx_Met l y_X_needRange (.code y_X_needRange b_X_needRange 3 none :: bg) { frames := 6, cells := 1, slots := 6, locals := 90 } (nd_P (dC, dI) classes [] [] A [.int x, .int (nI lo), .int (nI hi)]) (nd_Q (rg x lo hi = true)) (nd_X (rg x lo hi = true) E_io) 1 6 (fun _ => False) := by
  refine vx_ofW (cc := b_X_needRange) (maxL := 3) (ret := none) (by decide) rfl ?_
  intro p e s m args below meth c s₁ B hml hnt hv
  obtain ⟨rfl, hP, hK, hG⟩ := hv
  have hx := B.exec
  have hb := B.bytes
  have hr := B.returns
  have hts := fun w (h : w ∈ bg) => atoms_spec (ws := .code y_X_needRange b_X_needRange 3 none :: bg) B.pre w (List.mem_cons_of_mem _ h)
  have hown : s.vm.findClass R_X = some m.cls := findClass_of_methodNamed B.named
  have hlocks := B.notSynchronized
  have hl := lv_entry ([.int x, .int (nI lo), .int (nI hi)]) (n := 3) (Nat.le_of_ble_eq_true rfl)
  rw [lg_entry_eq]
  generalize (lg_sl ([.int x, .int (nI lo), .int (nI hi)]) ++ List.replicate (3 - (lg_sl ([.int x, .int (nI lo), .int (nI hi)])).length) Slot.unset).toArray = ls at hl ⊢
  have hl : lv_has ls 3 [(0, .int x), (1, .int (nI lo)), (2, .int (nI hi))] := hl
  refine lv_iload_n hx hb d_X_needRange_0 rfl (lv_at hl 0 rfl) ?_
  refine lv_iload_n hx hb d_X_needRange_1 rfl (lv_at hl 1 rfl) ?_
  refine lv_icmp_lt (tgt := 10) hx hb d_X_needRange_2 (by decide) (fun c2 => ?_) (fun c2 => ?_)
  · exact x_throw (A := A) hx hb hst hown hts hG ex_io sx_215 hnt (hl.1.trans hml.symm) hlocks d_X_needRange_10 d_X_needRange_13 d_X_needRange_14 d_X_needRange_16 d_X_needRange_19 (Nat.le_of_ble_eq_true rfl) (Nat.le_of_ble_eq_true rfl) (Nat.le_of_ble_eq_true rfl) (Nat.le_of_ble_eq_true rfl) (Nat.le_of_ble_eq_true rfl) (Nat.le_of_ble_eq_true rfl) (fun t h1 h2 => ⟨by rw [rg_lo hlo c2]; decide, rfl, h1, h2⟩)
  · refine lv_iload_n hx hb d_X_needRange_5 rfl (lv_at hl 0 rfl) ?_
    refine lv_iload_n hx hb d_X_needRange_6 rfl (lv_at hl 2 rfl) ?_
    refine lv_icmp_le (tgt := 20) hx hb d_X_needRange_7 (by decide) (fun c7 => ?_) (fun c7 => ?_)
    · refine W.widen (k := 1) (n := 6) (Nat.le_of_ble_eq_true rfl) (Nat.le_of_ble_eq_true rfl) ?_
      exact vx_ret (W.vret hx hb hr (fun t ht hW => ⟨rg_yes hlo hhi c2 (Int32.not_lt.mpr c7), rfl, ht⟩) (fun q h => nomatch h) d_X_needRange_20)
    · exact x_throw (A := A) hx hb hst hown hts hG ex_io sx_215 hnt (hl.1.trans hml.symm) hlocks d_X_needRange_10 d_X_needRange_13 d_X_needRange_14 d_X_needRange_16 d_X_needRange_19 (Nat.le_of_ble_eq_true rfl) (Nat.le_of_ble_eq_true rfl) (Nat.le_of_ble_eq_true rfl) (Nat.le_of_ble_eq_true rfl) (Nat.le_of_ble_eq_true rfl) (Nat.le_of_ble_eq_true rfl) (fun t h1 h2 => ⟨by rw [rg_hi hhi (Int32.not_le.mp c7)]; decide, rfl, h1, h2⟩)
set_option maxHeartbeats 4000000 in
set_option maxRecDepth 100000 in
theorem c_X_needRow (l : Launch) (hst : l.stackTraces = false) (dC : Nat → ClassId) (dI : Nat → Nat → Nat) (A : Nat → Prop) (cI : ClassId) (r ca rm md n : Nat) (f : Nat → Int32) (x : Int32) (h2 : md < 2 ^ 31) : vx_Met l y_X_needRow (.code y_X_needRow b_X_needRow 2 none :: bg) { frames := 6, cells := 1, slots := 6, locals := 90 } (nd_P (dC, dI) classes [(r, .inr (1, [.int (nI rm), .ref ca, .int (nI md)])), (ca, .inl (cI, n, .inl f))] [(cI, .int)] A [.ref r, .int x]) (nd_Q (ok x md = true)) (nd_X (ok x md = true) E_ia) 1 6 (fun _ => False) := by
  refine vx_ofW (cc := b_X_needRow) (maxL := 2) (ret := none) (by decide) rfl ?_
  intro p e s m args below meth c s₁ B hml hnt hv
  obtain ⟨rfl, hP, hK, hG⟩ := hv
  have hx := B.exec
  have hb := B.bytes
  have hr := B.returns
  have hts := fun w (h : w ∈ bg) => atoms_spec (ws := .code y_X_needRow b_X_needRow 2 none :: bg) B.pre w (List.mem_cons_of_mem _ h)
  have hown : s.vm.findClass R_X = some m.cls := findClass_of_methodNamed B.named
  have hlocks := B.notSynchronized
  have hl := lv_entry ([.ref r, .int x]) (n := 2) (Nat.le_of_ble_eq_true rfl)
  rw [lg_entry_eq]
  generalize (lg_sl ([.ref r, .int x]) ++ List.replicate (2 - (lg_sl ([.ref r, .int x])).length) Slot.unset).toArray = ls at hl ⊢
  have hl : lv_has ls 2 [(0, .ref r), (1, .int x)] := hl
  refine lv_aload_n hx hb d_X_needRow_0 rfl (lv_at hl 0 rfl) ?_
  refine lv_iload_n hx hb d_X_needRow_1 rfl (lv_at hl 1 rfl) ?_
  refine pu_go (va_runV (As := [.int x]) (rest := []) ⟨hx, hb, hml, hown, hts⟩ (c_W_isMade l dC dI cI r ca rm md n f x h2) (cwV 1 hts (gi_V wd_295 wd_296 wd_297 wd_2 wd_298) rfl rfl rfl (by decide +kernel) ⟨Nat.le_of_ble_eq_true rfl, Nat.le_of_ble_eq_true rfl⟩) (pu_preV hK hP (ci := 1) (q0 := 0) rfl rfl) rfl rfl hl.1 rfl (lv_room (Nat.le_of_ble_eq_true rfl)) d_X_needRow_2 ⟨Nat.le_of_ble_eq_true rfl, Nat.le_of_ble_eq_true rfl⟩) ?_
  refine nv_bn (tgt := 18) hx hb d_X_needRow_5 (by decide) (fun c5 => ?_) (fun c5 => ?_)
  · refine W.widen (k := 1) (n := 6) (Nat.le_of_ble_eq_true rfl) (Nat.le_of_ble_eq_true rfl) ?_
    exact vx_ret (W.vret hx hb hr (fun t ht hW => ⟨c5, rfl, ht⟩) (fun q h => nomatch h) d_X_needRow_18)
  · exact x_throw (A := A) hx hb hst hown hts hG ex_ia sx_205 hnt (hl.1.trans hml.symm) hlocks d_X_needRow_8 d_X_needRow_11 d_X_needRow_12 d_X_needRow_14 d_X_needRow_17 (Nat.le_of_ble_eq_true rfl) (Nat.le_of_ble_eq_true rfl) (Nat.le_of_ble_eq_true rfl) (Nat.le_of_ble_eq_true rfl) (Nat.le_of_ble_eq_true rfl) (Nat.le_of_ble_eq_true rfl) (fun t h1 h2 => ⟨by rw [c5]; decide, rfl, h1, h2⟩)
set_option maxHeartbeats 4000000 in
set_option maxRecDepth 100000 in
theorem c_X_needRoom (l : Launch) (hst : l.stackTraces = false) (dC : Nat → ClassId) (dI : Nat → Nat → Nat) (A : Nat → Prop) (cI : ClassId) (r ca rm md n : Nat) (f : Nat → Int32) (h1 : rm < 2 ^ 31) (h2 : md < 2 ^ 31) : vx_Met l y_X_needRoom (.code y_X_needRoom b_X_needRoom 1 none :: bg) { frames := 6, cells := 1, slots := 6, locals := 90 } (nd_P (dC, dI) classes [(r, .inr (1, [.int (nI rm), .ref ca, .int (nI md)])), (ca, .inl (cI, n, .inl f))] [(cI, .int)] A [.ref r]) (nd_Q (md < rm)) (nd_X (md < rm) E_uo) 1 6 (fun _ => False) := by
  refine vx_ofW (cc := b_X_needRoom) (maxL := 1) (ret := none) (by decide) rfl ?_
  intro p e s m args below meth c s₁ B hml hnt hv
  obtain ⟨rfl, hP, hK, hG⟩ := hv
  have hx := B.exec
  have hb := B.bytes
  have hr := B.returns
  have hts := fun w (h : w ∈ bg) => atoms_spec (ws := .code y_X_needRoom b_X_needRoom 1 none :: bg) B.pre w (List.mem_cons_of_mem _ h)
  have hown : s.vm.findClass R_X = some m.cls := findClass_of_methodNamed B.named
  have hlocks := B.notSynchronized
  have hl := lv_entry ([.ref r]) (n := 1) (Nat.le_of_ble_eq_true rfl)
  rw [lg_entry_eq]
  generalize (lg_sl ([.ref r]) ++ List.replicate (1 - (lg_sl ([.ref r])).length) Slot.unset).toArray = ls at hl ⊢
  have hl : lv_has ls 1 [(0, .ref r)] := hl
  refine lv_aload_n hx hb d_X_needRoom_0 rfl (lv_at hl 0 rfl) ?_
  refine pu_go (va_runV (As := []) (rest := []) ⟨hx, hb, hml, hown, hts⟩ (c_W_isFull l dC dI cI r ca rm md n f h1 h2) (cwV 0 hts (gi_V wd_109 wd_110 wd_111 wd_2 wd_112) rfl rfl rfl (by decide +kernel) ⟨Nat.le_of_ble_eq_true rfl, Nat.le_of_ble_eq_true rfl⟩) (pu_preV hK hP (ci := 1) (q0 := 0) rfl rfl) rfl rfl hl.1 rfl (lv_room (Nat.le_of_ble_eq_true rfl)) d_X_needRoom_1 ⟨Nat.le_of_ble_eq_true rfl, Nat.le_of_ble_eq_true rfl⟩) ?_
  refine nv_bz (tgt := 17) hx hb d_X_needRoom_4 (by decide) (fun c4 => ?_) (fun c4 => ?_)
  · refine W.widen (k := 1) (n := 6) (Nat.le_of_ble_eq_true rfl) (Nat.le_of_ble_eq_true rfl) ?_
    exact vx_ret (W.vret hx hb hr (fun t ht hW => ⟨by have := of_decide_eq_false c4; omega, rfl, ht⟩) (fun q h => nomatch h) d_X_needRoom_17)
  · exact x_throw (A := A) hx hb hst hown hts hG ex_uo sx_223 hnt (hl.1.trans hml.symm) hlocks d_X_needRoom_7 d_X_needRoom_10 d_X_needRoom_11 d_X_needRoom_13 d_X_needRoom_16 (Nat.le_of_ble_eq_true rfl) (Nat.le_of_ble_eq_true rfl) (Nat.le_of_ble_eq_true rfl) (Nat.le_of_ble_eq_true rfl) (Nat.le_of_ble_eq_true rfl) (Nat.le_of_ble_eq_true rfl) (fun t h1 h2 => ⟨by have := of_decide_eq_true c4; omega, rfl, h1, h2⟩)
set_option maxHeartbeats 4000000 in
set_option maxRecDepth 100000 in
theorem c_X_needLot (l : Launch) (hst : l.stackTraces = false) (dC : Nat → ClassId) (dI : Nat → Nat → Nat) (A : Nat → Prop) (cI : ClassId) (q : Nat → Nat) (S : St) (t : Nat) (hI : Bd t S) (x : Int32) : vx_Met l y_X_needLot (.code y_X_needLot b_X_needLot 2 none :: bg) { frames := 7, cells := 1, slots := 6, locals := 111 } (nd_P (dC, dI) classes (wX q cI S) [(cI, .int)] A [.ref (q 0), .int x]) (nd_Q (ok x (S.2.1 2) = true)) (nd_X (ok x (S.2.1 2) = true) E_ia) 1 6 (fun _ => False) := by
  refine vx_ofW (cc := b_X_needLot) (maxL := 2) (ret := none) (by decide) rfl ?_
  intro p e s m args below meth c s₁ B hml hnt hv
  obtain ⟨rfl, hP, hK, hG⟩ := hv
  have hx := B.exec
  have hb := B.bytes
  have hr := B.returns
  have hts := fun w (h : w ∈ bg) => atoms_spec (ws := .code y_X_needLot b_X_needLot 2 none :: bg) B.pre w (List.mem_cons_of_mem _ h)
  have hown : s.vm.findClass R_X = some m.cls := findClass_of_methodNamed B.named
  have hlocks := B.notSynchronized
  have hl := lv_entry ([.ref (q 0), .int x]) (n := 2) (Nat.le_of_ble_eq_true rfl)
  rw [lg_entry_eq]
  generalize (lg_sl ([.ref (q 0), .int x]) ++ List.replicate (2 - (lg_sl ([.ref (q 0), .int x])).length) Slot.unset).toArray = ls at hl ⊢
  have hl : lv_has ls 2 [(0, .ref (q 0)), (1, .int x)] := hl
  have hB := hI.1
  have hg0 : S.2.1 0 ≤ 8 := hI.2.1 0
  have hg1 : S.2.1 1 ≤ 9999 := hI.2.1 1
  have hg2 : S.2.1 2 ≤ 60 := hI.2.1 2
  have hg3 : S.2.1 3 ≤ 60 := hI.2.1 3
  have hg4 : S.2.1 4 ≤ 80 := hI.2.1 4
  have hg5 : S.2.1 5 ≤ 20 := hI.2.1 5
  have hg6 : S.2.1 6 ≤ 80 := hI.2.1 6
  have hg7 : S.2.1 7 ≤ 10 := hI.2.1 7
  have hg8 : t ≤ 512 := hI.2.2
  refine lv_aload_n hx hb d_X_needLot_0 rfl (lv_at hl 0 rfl) ?_
  refine va_get (D := (dC, dI)) (ci := 0) (v := .ref (q 1)) (C := R_X) (T := F_X) (N := 12) hx hb hts i_X hown hK hP 0 rfl rfl 0 (by decide) (hts _ wd_57) (fun _ h9 => h9) rfl d_X_needLot_1 ?_
  refine lv_iload_n hx hb d_X_needLot_4 rfl (lv_at hl 1 rfl) ?_
  refine nd_go (vx_runS (As := [.ref (q 1), .int x]) (rest := []) ⟨hx, hb, hml, hown, hts⟩ (c_X_needRow l hst dC dI A cI (q 1) (q 11) 60 (S.2.1 2) 300 (rowf S.1 0) x (by omega)) (cwS 2 hts (gi_S wd_292 wd_293 wd_1 wd_294) rfl rfl rfl (by decide +kernel) ⟨Nat.le_of_ble_eq_true rfl, Nat.le_of_ble_eq_true rfl⟩) (nd_preS hK (hP.sub [1, 11] rfl) hG) rfl rfl hl.1 rfl (lv_room (Nat.le_of_ble_eq_true rfl)) d_X_needLot_5 ⟨Nat.le_of_ble_eq_true rfl, Nat.le_of_ble_eq_true rfl⟩) (fun p5 ce q9 H1 h1 h2 h3 h4 h5 => vx_out (fun x hx => (hnt x hx).elim) hlocks h3 h4 h5 (fun t ht hv => ⟨p5, rfl, by rw [ht]; exact h1, fun z hz => by rw [ht]; exact h2 z hz⟩) (fun q h => nomatch h) (Nat.le_of_ble_eq_true rfl) (Nat.le_of_ble_eq_true rfl)) (fun p5 => ?_)
  refine W.widen (k := 1) (n := 6) (Nat.le_of_ble_eq_true rfl) (Nat.le_of_ble_eq_true rfl) ?_
  exact vx_ret (W.vret hx hb hr (fun t ht hW => ⟨p5, rfl, ht⟩) (fun q h => nomatch h) d_X_needLot_8)
set_option maxHeartbeats 4000000 in
set_option maxRecDepth 100000 in
theorem c_X_needThere (l : Launch) (hst : l.stackTraces = false) (dC : Nat → ClassId) (dI : Nat → Nat → Nat) (A : Nat → Prop) (cI : ClassId) (q : Nat → Nat) (S : St) (t : Nat) (hI : Bd t S) (st y n : Nat) (hs : st < 8) (hy : y < 60) (hn : n ≤ 9999) : vx_Met l y_X_needThere (.code y_X_needThere b_X_needThere 4 none :: bg) { frames := 6, cells := 1, slots := 6, locals := 90 } (nd_P (dC, dI) classes (wX q cI S) [(cI, .int)] A [.ref (q 0), .int (nI st), .int (nI y), .int (nI n)]) (nd_Q (n ≤ S.1 25 (st * 60 + y))) (nd_X (n ≤ S.1 25 (st * 60 + y)) E_is) 1 6 (fun _ => False) := by
  refine vx_ofW (cc := b_X_needThere) (maxL := 4) (ret := none) (by decide) rfl ?_
  intro p e s m args below meth c s₁ B hml hnt hv
  obtain ⟨rfl, hP, hK, hG⟩ := hv
  have hx := B.exec
  have hb := B.bytes
  have hr := B.returns
  have hts := fun w (h : w ∈ bg) => atoms_spec (ws := .code y_X_needThere b_X_needThere 4 none :: bg) B.pre w (List.mem_cons_of_mem _ h)
  have hown : s.vm.findClass R_X = some m.cls := findClass_of_methodNamed B.named
  have hlocks := B.notSynchronized
  have hl := lv_entry ([.ref (q 0), .int (nI st), .int (nI y), .int (nI n)]) (n := 4) (Nat.le_of_ble_eq_true rfl)
  rw [lg_entry_eq]
  generalize (lg_sl ([.ref (q 0), .int (nI st), .int (nI y), .int (nI n)]) ++ List.replicate (4 - (lg_sl ([.ref (q 0), .int (nI st), .int (nI y), .int (nI n)])).length) Slot.unset).toArray = ls at hl ⊢
  have hl : lv_has ls 4 [(0, .ref (q 0)), (1, .int (nI st)), (2, .int (nI y)), (3, .int (nI n))] := hl
  have hB := hI.1
  have hg0 : S.2.1 0 ≤ 8 := hI.2.1 0
  have hg1 : S.2.1 1 ≤ 9999 := hI.2.1 1
  have hg2 : S.2.1 2 ≤ 60 := hI.2.1 2
  have hg3 : S.2.1 3 ≤ 60 := hI.2.1 3
  have hg4 : S.2.1 4 ≤ 80 := hI.2.1 4
  have hg5 : S.2.1 5 ≤ 20 := hI.2.1 5
  have hg6 : S.2.1 6 ≤ 80 := hI.2.1 6
  have hg7 : S.2.1 7 ≤ 10 := hI.2.1 7
  have hg8 : t ≤ 512 := hI.2.2
  refine lv_aload_n hx hb d_X_needThere_0 rfl (lv_at hl 0 rfl) ?_
  refine va_get (D := (dC, dI)) (ci := 0) (v := .ref (q 7)) (C := R_X) (T := F_X) (N := 12) hx hb hts i_X hown hK hP 0 rfl rfl 6 (by decide) (hts _ wd_63) (fun _ h9 => h9) rfl d_X_needThere_1 ?_
  refine lv_iload_n hx hb d_X_needThere_4 rfl (lv_at hl 1 rfl) ?_
  refine lv_iload_n hx hb d_X_needThere_5 rfl (lv_at hl 2 rfl) ?_
  refine pu_go (va_runS (As := [.int (nI st), .int (nI y)]) (rest := [.ref (q 7)]) ⟨hx, hb, hml, hown, hts⟩ (c_X_place l dC dI st y) (cwS 2 hts (gi_S wd_125 wd_126 wd_1 wd_127) rfl rfl rfl (by decide +kernel) ⟨Nat.le_of_ble_eq_true rfl, Nat.le_of_ble_eq_true rfl⟩) (pu_preS (hK.sub (tys' := []) [] rfl) (fun k q h => by simp at h)) rfl rfl hl.1 rfl (lv_room (Nat.le_of_ble_eq_true rfl)) d_X_needThere_6 ⟨Nat.le_of_ble_eq_true rfl, Nat.le_of_ble_eq_true rfl⟩) ?_
  refine nv_iald (v := nI (S.1 25 (st * 60 + y))) hx hb hK hP 7 0 rfl rfl (by omega) (by decide) rfl d_X_needThere_9 ?_
  have hb9 : S.1 25 (st * 60 + y) ≤ 9999 := hB 25 _
  refine lv_iload_n hx hb d_X_needThere_10 rfl (lv_at hl 3 rfl) ?_
  refine nv_cge (tgt := 24) hx hb (by omega) (by omega) d_X_needThere_11 (by decide) (fun c11 => ?_) (fun c11 => ?_)
  · refine W.widen (k := 1) (n := 6) (Nat.le_of_ble_eq_true rfl) (Nat.le_of_ble_eq_true rfl) ?_
    exact vx_ret (W.vret hx hb hr (fun t ht hW => ⟨by omega, rfl, ht⟩) (fun q h => nomatch h) d_X_needThere_24)
  · exact x_throw (A := A) hx hb hst hown hts hG ex_is sx_218 hnt (hl.1.trans hml.symm) hlocks d_X_needThere_14 d_X_needThere_17 d_X_needThere_18 d_X_needThere_20 d_X_needThere_23 (Nat.le_of_ble_eq_true rfl) (Nat.le_of_ble_eq_true rfl) (Nat.le_of_ble_eq_true rfl) (Nat.le_of_ble_eq_true rfl) (Nat.le_of_ble_eq_true rfl) (Nat.le_of_ble_eq_true rfl) (fun t h1 h2 => ⟨by omega, rfl, h1, h2⟩)
set_option maxHeartbeats 4000000 in
set_option maxRecDepth 100000 in
theorem c_X_needPlace (l : Launch) (hst : l.stackTraces = false) (dC : Nat → ClassId) (dI : Nat → Nat → Nat) (A : Nat → Prop) (cI : ClassId) (q : Nat → Nat) (S : St) (t : Nat) (hI : Bd t S) (st y n : Nat) (hs : st < 8) (hy : y < 60) (hn : n ≤ 9999) : vx_Met l y_X_needPlace (.code y_X_needPlace b_X_needPlace 4 none :: bg) { frames := 6, cells := 1, slots := 6, locals := 90 } (nd_P (dC, dI) classes (wX q cI S) [(cI, .int)] A [.ref (q 0), .int (nI st), .int (nI y), .int (nI n)]) (nd_Q (S.1 25 (st * 60 + y) + n ≤ 9999)) (nd_X (S.1 25 (st * 60 + y) + n ≤ 9999) E_uo) 1 6 (fun _ => False) := by
  refine vx_ofW (cc := b_X_needPlace) (maxL := 4) (ret := none) (by decide) rfl ?_
  intro p e s m args below meth c s₁ B hml hnt hv
  obtain ⟨rfl, hP, hK, hG⟩ := hv
  have hx := B.exec
  have hb := B.bytes
  have hr := B.returns
  have hts := fun w (h : w ∈ bg) => atoms_spec (ws := .code y_X_needPlace b_X_needPlace 4 none :: bg) B.pre w (List.mem_cons_of_mem _ h)
  have hown : s.vm.findClass R_X = some m.cls := findClass_of_methodNamed B.named
  have hlocks := B.notSynchronized
  have hl := lv_entry ([.ref (q 0), .int (nI st), .int (nI y), .int (nI n)]) (n := 4) (Nat.le_of_ble_eq_true rfl)
  rw [lg_entry_eq]
  generalize (lg_sl ([.ref (q 0), .int (nI st), .int (nI y), .int (nI n)]) ++ List.replicate (4 - (lg_sl ([.ref (q 0), .int (nI st), .int (nI y), .int (nI n)])).length) Slot.unset).toArray = ls at hl ⊢
  have hl : lv_has ls 4 [(0, .ref (q 0)), (1, .int (nI st)), (2, .int (nI y)), (3, .int (nI n))] := hl
  have hB := hI.1
  have hg0 : S.2.1 0 ≤ 8 := hI.2.1 0
  have hg1 : S.2.1 1 ≤ 9999 := hI.2.1 1
  have hg2 : S.2.1 2 ≤ 60 := hI.2.1 2
  have hg3 : S.2.1 3 ≤ 60 := hI.2.1 3
  have hg4 : S.2.1 4 ≤ 80 := hI.2.1 4
  have hg5 : S.2.1 5 ≤ 20 := hI.2.1 5
  have hg6 : S.2.1 6 ≤ 80 := hI.2.1 6
  have hg7 : S.2.1 7 ≤ 10 := hI.2.1 7
  have hg8 : t ≤ 512 := hI.2.2
  refine lv_aload_n hx hb d_X_needPlace_0 rfl (lv_at hl 0 rfl) ?_
  refine va_get (D := (dC, dI)) (ci := 0) (v := .ref (q 7)) (C := R_X) (T := F_X) (N := 12) hx hb hts i_X hown hK hP 0 rfl rfl 6 (by decide) (hts _ wd_63) (fun _ h9 => h9) rfl d_X_needPlace_1 ?_
  refine lv_iload_n hx hb d_X_needPlace_4 rfl (lv_at hl 1 rfl) ?_
  refine lv_iload_n hx hb d_X_needPlace_5 rfl (lv_at hl 2 rfl) ?_
  refine pu_go (va_runS (As := [.int (nI st), .int (nI y)]) (rest := [.ref (q 7)]) ⟨hx, hb, hml, hown, hts⟩ (c_X_place l dC dI st y) (cwS 2 hts (gi_S wd_125 wd_126 wd_1 wd_127) rfl rfl rfl (by decide +kernel) ⟨Nat.le_of_ble_eq_true rfl, Nat.le_of_ble_eq_true rfl⟩) (pu_preS (hK.sub (tys' := []) [] rfl) (fun k q h => by simp at h)) rfl rfl hl.1 rfl (lv_room (Nat.le_of_ble_eq_true rfl)) d_X_needPlace_6 ⟨Nat.le_of_ble_eq_true rfl, Nat.le_of_ble_eq_true rfl⟩) ?_
  refine nv_iald (v := nI (S.1 25 (st * 60 + y))) hx hb hK hP 7 0 rfl rfl (by omega) (by decide) rfl d_X_needPlace_9 ?_
  have hb9 : S.1 25 (st * 60 + y) ≤ 9999 := hB 25 _
  refine lv_iload_n hx hb d_X_needPlace_10 rfl (lv_at hl 3 rfl) ?_
  refine nv_add hx hb d_X_needPlace_11 ?_
  refine lv_sipush (v := nI 9999) hx hb d_X_needPlace_12 (by decide) ?_
  refine nv_cle (tgt := 28) hx hb (by omega) (by omega) d_X_needPlace_15 (by decide) (fun c15 => ?_) (fun c15 => ?_)
  · refine W.widen (k := 1) (n := 6) (Nat.le_of_ble_eq_true rfl) (Nat.le_of_ble_eq_true rfl) ?_
    exact vx_ret (W.vret hx hb hr (fun t ht hW => ⟨by omega, rfl, ht⟩) (fun q h => nomatch h) d_X_needPlace_28)
  · exact x_throw (A := A) hx hb hst hown hts hG ex_uo sx_220 hnt (hl.1.trans hml.symm) hlocks d_X_needPlace_18 d_X_needPlace_21 d_X_needPlace_22 d_X_needPlace_24 d_X_needPlace_27 (Nat.le_of_ble_eq_true rfl) (Nat.le_of_ble_eq_true rfl) (Nat.le_of_ble_eq_true rfl) (Nat.le_of_ble_eq_true rfl) (Nat.le_of_ble_eq_true rfl) (Nat.le_of_ble_eq_true rfl) (fun t h1 h2 => ⟨by omega, rfl, h1, h2⟩)
