set_option maxHeartbeats 4000000 in
set_option maxRecDepth 100000 in
theorem c_W_made (l : Launch) (dC : Nat → ClassId) (dI : Nat → Nat → Nat) (cI : ClassId) (r ca rm md n : Nat) (f : Nat → Int32)  : Met l y_W_made (.code y_W_made b_W_made 1 (some .int) :: bg) { frames := 0, cells := 0, slots := 0, locals := 0 } (pu_P (dC, dI) classes [(r, .inr (1, [.int (nI rm), .ref ca, .int (nI md)])), (ca, .inl (cI, n, .inl f))] [(cI, .int)] [.ref r]) (pu_Q (.int (nI md))) 0 0 (fun _ => False) := by
  refine Met.ofW (cc := b_W_made) (maxL := 1) (ret := (some .int)) (by decide) rfl ?_
  intro p e s m args below meth c s₁ B hml hv
  obtain ⟨rfl, hP, hK⟩ := hv
  have hx := B.exec
  have hb := B.bytes
  have hr := B.returns
  have hts := fun w (h : w ∈ bg) => atoms_spec (ws := .code y_W_made b_W_made 1 (some .int) :: bg) B.pre w (List.mem_cons_of_mem _ h)
  have hown : s.vm.findClass R_W = some m.cls := findClass_of_methodNamed B.named
  have hlocks := B.notSynchronized
  have hl := lv_entry ([.ref r]) (n := 1) (Nat.le_of_ble_eq_true rfl)
  rw [lg_entry_eq]
  generalize (lg_sl ([.ref r]) ++ List.replicate (1 - (lg_sl ([.ref r])).length) Slot.unset).toArray = ls at hl ⊢
  have hl : lv_has ls 1 [(0, .ref r)] := hl
  refine lv_aload_n hx hb d_W_made_0 rfl (lv_at hl 0 rfl) ?_
  refine va_get (D := (dC, dI)) (ci := 1) (v := .int (nI md)) (C := R_W) (T := F_W) (N := 3) hx hb hts i_W hown hK hP 0 rfl rfl 2 (by decide) (hts _ wd_32) (fun _ h9 => h9) rfl d_W_made_1 ?_
  exact W.iret hx hb hr (fun t ht hW => ⟨rfl, ht⟩) (fun q h => nomatch h) d_W_made_4
set_option maxHeartbeats 4000000 in
set_option maxRecDepth 100000 in
theorem c_W_isFull (l : Launch) (dC : Nat → ClassId) (dI : Nat → Nat → Nat) (cI : ClassId) (r ca rm md n : Nat) (f : Nat → Int32) (h1 : rm < 2 ^ 31) (h2 : md < 2 ^ 31) : Met l y_W_isFull (.code y_W_isFull b_W_isFull 1 (some .boolean) :: bg) { frames := 0, cells := 0, slots := 0, locals := 0 } (pu_P (dC, dI) classes [(r, .inr (1, [.int (nI rm), .ref ca, .int (nI md)])), (ca, .inl (cI, n, .inl f))] [(cI, .int)] [.ref r]) (pu_Q (.int (b2 (decide (rm ≤ md))))) 0 0 (fun _ => False) := by
  refine Met.ofW (cc := b_W_isFull) (maxL := 1) (ret := (some .boolean)) (by decide) rfl ?_
  intro p e s m args below meth c s₁ B hml hv
  obtain ⟨rfl, hP, hK⟩ := hv
  have hx := B.exec
  have hb := B.bytes
  have hr := B.returns
  have hts := fun w (h : w ∈ bg) => atoms_spec (ws := .code y_W_isFull b_W_isFull 1 (some .boolean) :: bg) B.pre w (List.mem_cons_of_mem _ h)
  have hown : s.vm.findClass R_W = some m.cls := findClass_of_methodNamed B.named
  have hlocks := B.notSynchronized
  have hl := lv_entry ([.ref r]) (n := 1) (Nat.le_of_ble_eq_true rfl)
  rw [lg_entry_eq]
  generalize (lg_sl ([.ref r]) ++ List.replicate (1 - (lg_sl ([.ref r])).length) Slot.unset).toArray = ls at hl ⊢
  have hl : lv_has ls 1 [(0, .ref r)] := hl
  refine lv_aload_n hx hb d_W_isFull_0 rfl (lv_at hl 0 rfl) ?_
  refine va_get (D := (dC, dI)) (ci := 1) (v := .int (nI md)) (C := R_W) (T := F_W) (N := 3) hx hb hts i_W hown hK hP 0 rfl rfl 2 (by decide) (hts _ wd_32) (fun _ h9 => h9) rfl d_W_isFull_1 ?_
  refine lv_aload_n hx hb d_W_isFull_4 rfl (lv_at hl 0 rfl) ?_
  refine va_get (D := (dC, dI)) (ci := 1) (v := .int (nI rm)) (C := R_W) (T := F_W) (N := 3) hx hb hts i_W hown hK hP 0 rfl rfl 0 (by decide) (hts _ wd_30) (fun _ h9 => h9) rfl d_W_isFull_5 ?_
  refine nv_clt (tgt := 15) hx hb (by omega) (by omega) d_W_isFull_8 (by decide) (fun c8 => ?_) (fun c8 => ?_)
  · refine lv_iconst (v := nI 0) hx hb d_W_isFull_15 (by decide) ?_
    refine nv_as (b2 (decide (rm ≤ md))) (by first | (rw [decide_eq_true (by omega)]; rfl) | (rw [decide_eq_false (by omega)]; rfl)) ?_
    exact W.zret hx hb hr (b2_nar _) (fun t ht hW => ⟨rfl, ht⟩) (fun q h => nomatch h) d_W_isFull_16
  · refine lv_iconst (v := nI 1) hx hb d_W_isFull_11 (by decide) ?_
    refine lv_goto (tgt := 16) hx hb d_W_isFull_12 (by decide) ?_
    refine nv_as (b2 (decide (rm ≤ md))) (by first | (rw [decide_eq_true (by omega)]; rfl) | (rw [decide_eq_false (by omega)]; rfl)) ?_
    exact W.zret hx hb hr (b2_nar _) (fun t ht hW => ⟨rfl, ht⟩) (fun q h => nomatch h) d_W_isFull_16
set_option maxHeartbeats 4000000 in
set_option maxRecDepth 100000 in
theorem c_W_isMade (l : Launch) (dC : Nat → ClassId) (dI : Nat → Nat → Nat) (cI : ClassId) (r ca rm md n : Nat) (f : Nat → Int32) (x : Int32) (h2 : md < 2 ^ 31) : Met l y_W_isMade (.code y_W_isMade b_W_isMade 2 (some .boolean) :: bg) { frames := 0, cells := 0, slots := 0, locals := 0 } (pu_P (dC, dI) classes [(r, .inr (1, [.int (nI rm), .ref ca, .int (nI md)])), (ca, .inl (cI, n, .inl f))] [(cI, .int)] [.ref r, .int x]) (pu_Q (.int (b2 (ok x md)))) 0 0 (fun _ => False) := by
  refine Met.ofW (cc := b_W_isMade) (maxL := 2) (ret := (some .boolean)) (by decide) rfl ?_
  intro p e s m args below meth c s₁ B hml hv
  obtain ⟨rfl, hP, hK⟩ := hv
  have hx := B.exec
  have hb := B.bytes
  have hr := B.returns
  have hts := fun w (h : w ∈ bg) => atoms_spec (ws := .code y_W_isMade b_W_isMade 2 (some .boolean) :: bg) B.pre w (List.mem_cons_of_mem _ h)
  have hown : s.vm.findClass R_W = some m.cls := findClass_of_methodNamed B.named
  have hlocks := B.notSynchronized
  have hl := lv_entry ([.ref r, .int x]) (n := 2) (Nat.le_of_ble_eq_true rfl)
  rw [lg_entry_eq]
  generalize (lg_sl ([.ref r, .int x]) ++ List.replicate (2 - (lg_sl ([.ref r, .int x])).length) Slot.unset).toArray = ls at hl ⊢
  have hl : lv_has ls 2 [(0, .ref r), (1, .int x)] := hl
  refine lv_iload_n hx hb d_W_isMade_0 rfl (lv_at hl 1 rfl) ?_
  refine lv_if_lt (tgt := 16) hx hb d_W_isMade_1 (by decide) (fun c1 => ?_) (fun c1 => ?_)
  · refine lv_iconst (v := nI 0) hx hb d_W_isMade_16 (by decide) ?_
    refine nv_as (b2 (ok x md)) (by rw [ok_neg c1]; rfl) ?_
    exact W.zret hx hb hr (b2_nar _) (fun t ht hW => ⟨rfl, ht⟩) (fun q h => nomatch h) d_W_isMade_17
  · refine lv_iload_n hx hb d_W_isMade_4 rfl (lv_at hl 1 rfl) ?_
    refine lv_aload_n hx hb d_W_isMade_5 rfl (lv_at hl 0 rfl) ?_
    refine va_get (D := (dC, dI)) (ci := 1) (v := .int (nI md)) (C := R_W) (T := F_W) (N := 3) hx hb hts i_W hown hK hP 0 rfl rfl 2 (by decide) (hts _ wd_32) (fun _ h9 => h9) rfl d_W_isMade_6 ?_
    refine lv_icmp_ge (tgt := 16) hx hb d_W_isMade_9 (by decide) (fun c9 => ?_) (fun c9 => ?_)
    · refine lv_iconst (v := nI 0) hx hb d_W_isMade_16 (by decide) ?_
      refine nv_as (b2 (ok x md)) (by rw [ok_ge h2 c9]; rfl) ?_
      exact W.zret hx hb hr (b2_nar _) (fun t ht hW => ⟨rfl, ht⟩) (fun q h => nomatch h) d_W_isMade_17
    · refine lv_iconst (v := nI 1) hx hb d_W_isMade_12 (by decide) ?_
      refine lv_goto (tgt := 17) hx hb d_W_isMade_13 (by decide) ?_
      refine nv_as (b2 (ok x md)) (by rw [ok_yes h2 c1 c9]; rfl) ?_
      exact W.zret hx hb hr (b2_nar _) (fun t ht hW => ⟨rfl, ht⟩) (fun q h => nomatch h) d_W_isMade_17
set_option maxHeartbeats 4000000 in
set_option maxRecDepth 100000 in
theorem c_W_isColumn (l : Launch) (dC : Nat → ClassId) (dI : Nat → Nat → Nat) (cI : ClassId) (r ca rm md n : Nat) (f : Nat → Int32) (x : Int32) : Met l y_W_isColumn (.code y_W_isColumn b_W_isColumn 2 (some .boolean) :: bg) { frames := 0, cells := 0, slots := 0, locals := 0 } (pu_P (dC, dI) classes [(r, .inr (1, [.int (nI rm), .ref ca, .int (nI md)])), (ca, .inl (cI, n, .inl f))] [(cI, .int)] [.ref r, .int x]) (pu_Q (.int (b2 (ok x 5)))) 0 0 (fun _ => False) := by
  refine Met.ofW (cc := b_W_isColumn) (maxL := 2) (ret := (some .boolean)) (by decide) rfl ?_
  intro p e s m args below meth c s₁ B hml hv
  obtain ⟨rfl, hP, hK⟩ := hv
  have hx := B.exec
  have hb := B.bytes
  have hr := B.returns
  have hts := fun w (h : w ∈ bg) => atoms_spec (ws := .code y_W_isColumn b_W_isColumn 2 (some .boolean) :: bg) B.pre w (List.mem_cons_of_mem _ h)
  have hown : s.vm.findClass R_W = some m.cls := findClass_of_methodNamed B.named
  have hlocks := B.notSynchronized
  have hl := lv_entry ([.ref r, .int x]) (n := 2) (Nat.le_of_ble_eq_true rfl)
  rw [lg_entry_eq]
  generalize (lg_sl ([.ref r, .int x]) ++ List.replicate (2 - (lg_sl ([.ref r, .int x])).length) Slot.unset).toArray = ls at hl ⊢
  have hl : lv_has ls 2 [(0, .ref r), (1, .int x)] := hl
  refine lv_iload_n hx hb d_W_isColumn_0 rfl (lv_at hl 1 rfl) ?_
  refine lv_if_lt (tgt := 13) hx hb d_W_isColumn_1 (by decide) (fun c1 => ?_) (fun c1 => ?_)
  · refine lv_iconst (v := nI 0) hx hb d_W_isColumn_13 (by decide) ?_
    refine nv_as (b2 (ok x 5)) (by rw [ok_neg c1]; rfl) ?_
    exact W.zret hx hb hr (b2_nar _) (fun t ht hW => ⟨rfl, ht⟩) (fun q h => nomatch h) d_W_isColumn_14
  · refine lv_iload_n hx hb d_W_isColumn_4 rfl (lv_at hl 1 rfl) ?_
    refine lv_iconst (v := nI 5) hx hb d_W_isColumn_5 (by decide) ?_
    refine lv_icmp_ge (tgt := 13) hx hb d_W_isColumn_6 (by decide) (fun c6 => ?_) (fun c6 => ?_)
    · refine lv_iconst (v := nI 0) hx hb d_W_isColumn_13 (by decide) ?_
      refine nv_as (b2 (ok x 5)) (by rw [ok_ge (by decide) c6]; rfl) ?_
      exact W.zret hx hb hr (b2_nar _) (fun t ht hW => ⟨rfl, ht⟩) (fun q h => nomatch h) d_W_isColumn_14
    · refine lv_iconst (v := nI 1) hx hb d_W_isColumn_9 (by decide) ?_
      refine lv_goto (tgt := 14) hx hb d_W_isColumn_10 (by decide) ?_
      refine nv_as (b2 (ok x 5)) (by rw [ok_yes (by decide) c1 c6]; rfl) ?_
      exact W.zret hx hb hr (b2_nar _) (fun t ht hW => ⟨rfl, ht⟩) (fun q h => nomatch h) d_W_isColumn_14
set_option maxHeartbeats 4000000 in
set_option maxRecDepth 100000 in
theorem c_W_at (l : Launch) (dC : Nat → ClassId) (dI : Nat → Nat → Nat) (cI : ClassId) (r ca rm md n : Nat) (f : Nat → Int32) (i co : Nat) (hi : i * 5 + co < n) (hn : n < 2 ^ 31) : Met l y_W_at (.code y_W_at b_W_at 3 (some .int) :: bg) { frames := 0, cells := 0, slots := 0, locals := 0 } (pu_P (dC, dI) classes [(r, .inr (1, [.int (nI rm), .ref ca, .int (nI md)])), (ca, .inl (cI, n, .inl f))] [(cI, .int)] [.ref r, .int (nI i), .int (nI co)]) (pu_Q (.int (f (i * 5 + co)))) 0 0 (fun _ => False) := by
  refine Met.ofW (cc := b_W_at) (maxL := 3) (ret := (some .int)) (by decide) rfl ?_
  intro p e s m args below meth c s₁ B hml hv
  obtain ⟨rfl, hP, hK⟩ := hv
  have hx := B.exec
  have hb := B.bytes
  have hr := B.returns
  have hts := fun w (h : w ∈ bg) => atoms_spec (ws := .code y_W_at b_W_at 3 (some .int) :: bg) B.pre w (List.mem_cons_of_mem _ h)
  have hown : s.vm.findClass R_W = some m.cls := findClass_of_methodNamed B.named
  have hlocks := B.notSynchronized
  have hl := lv_entry ([.ref r, .int (nI i), .int (nI co)]) (n := 3) (Nat.le_of_ble_eq_true rfl)
  rw [lg_entry_eq]
  generalize (lg_sl ([.ref r, .int (nI i), .int (nI co)]) ++ List.replicate (3 - (lg_sl ([.ref r, .int (nI i), .int (nI co)])).length) Slot.unset).toArray = ls at hl ⊢
  have hl : lv_has ls 3 [(0, .ref r), (1, .int (nI i)), (2, .int (nI co))] := hl
  refine lv_aload_n hx hb d_W_at_0 rfl (lv_at hl 0 rfl) ?_
  refine va_get (D := (dC, dI)) (ci := 1) (v := .ref ca) (C := R_W) (T := F_W) (N := 3) hx hb hts i_W hown hK hP 0 rfl rfl 1 (by decide) (hts _ wd_31) (fun _ h9 => h9) rfl d_W_at_1 ?_
  refine lv_iload_n hx hb d_W_at_4 rfl (lv_at hl 1 rfl) ?_
  refine lv_iconst (v := nI 5) hx hb d_W_at_5 (by decide) ?_
  refine nv_mul hx hb d_W_at_6 ?_
  refine lv_iload_n hx hb d_W_at_7 rfl (lv_at hl 2 rfl) ?_
  refine nv_add hx hb d_W_at_8 ?_
  refine nv_iald (v := f ((i * 5) + co)) hx hb hK hP 1 0 rfl rfl (by omega) (by omega) rfl d_W_at_9 ?_
  refine nv_as (f (i * 5 + co)) (by rfl) ?_
  exact W.iret hx hb hr (fun t ht hW => ⟨rfl, ht⟩) (fun q h => nomatch h) d_W_at_10
