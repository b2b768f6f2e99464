theorem expd_le {t : Nat} {S : St} (hI : Bd t S) (s k : Nat) : expd S s k ≤ 1999800 := by
  have h1 := good_le hI s k
  have h2 := way_le hI true s k
  have h3 := opn_le hI s k
  unfold expd
  omega
set_option maxHeartbeats 4000000 in
set_option maxRecDepth 100000 in
theorem c_M_thrown (l : Launch) (dC : Nat → ClassId) (dI : Nat → Nat → Nat) (cI cZ : ClassId) (q : Nat → Nat) (S : St) (th : Int32) (t : Nat) (hI : Bd t S)  : Met l y_M_thrown (.code y_M_thrown b_M_thrown 1 (some .int) :: bg) { frames := 0, cells := 0, slots := 0, locals := 0 } (pu_P (dC, dI) classes (wM q cI cZ S th) [(cI, .int), (cZ, .boolean)] [.ref (q 0)]) (pu_Q (.int th)) 0 0 (fun _ => False) := by
  refine Met.ofW (cc := b_M_thrown) (maxL := 1) (ret := (some .int)) (by decide) rfl ?_
  intro p e s m args below meth c s₁ B hml hv
  obtain ⟨rfl, hP, hK⟩ := hv
  have hx := B.exec
  have hb := B.bytes
  have hr := B.returns
  have hts := fun w (h : w ∈ bg) => atoms_spec (ws := .code y_M_thrown b_M_thrown 1 (some .int) :: bg) B.pre w (List.mem_cons_of_mem _ h)
  have hown : s.vm.findClass R_M = some m.cls := findClass_of_methodNamed B.named
  have hlocks := B.notSynchronized
  have hl := lv_entry ([.ref (q 0)]) (n := 1) (Nat.le_of_ble_eq_true rfl)
  rw [lg_entry_eq]
  generalize (lg_sl ([.ref (q 0)]) ++ List.replicate (1 - (lg_sl ([.ref (q 0)])).length) Slot.unset).toArray = ls at hl ⊢
  have hl : lv_has ls 1 [(0, .ref (q 0))] := hl
  have hB := hI.1
  have hg0 : S.2.1 0 ≤ 8 := hI.2.1 0
  have hg1 : S.2.1 1 ≤ 9999 := hI.2.1 1
  have hg2 : S.2.1 2 ≤ 60 := hI.2.1 2
  have hg3 : S.2.1 3 ≤ 60 := hI.2.1 3
  have hg4 : S.2.1 4 ≤ 80 := hI.2.1 4
  have hg5 : S.2.1 5 ≤ 20 := hI.2.1 5
  have hg6 : S.2.1 6 ≤ 80 := hI.2.1 6
  have hg7 : S.2.1 7 ≤ 10 := hI.2.1 7
  have hg8 : t ≤ 512 := hI.2.2
  refine lv_aload_n hx hb d_M_thrown_0 rfl (lv_at hl 0 rfl) ?_
  refine va_get (D := (dC, dI)) (ci := 3) (v := .int th) (C := R_M) (T := F_M) (N := 37) hx hb hts i_M hown hK hP 0 rfl rfl 0 (by decide) (hts _ wd_555) (fun _ h9 => h9) rfl d_M_thrown_1 ?_
  exact W.iret hx hb hr (fun t ht hW => ⟨rfl, ht⟩) (fun q h => nomatch h) d_M_thrown_4
set_option maxHeartbeats 4000000 in
set_option maxRecDepth 100000 in
theorem c_M_in (l : Launch) (dC : Nat → ClassId) (dI : Nat → Nat → Nat) (x a b : Int32) : Met l y_M_in (.code y_M_in b_M_in 3 (some .boolean) :: bg) { frames := 0, cells := 0, slots := 0, locals := 0 } (pu_P (dC, dI) classes [] [] [.int x, .int a, .int b]) (pu_Q (.int (b2 (!decide (x < a) && !decide (b < x))))) 0 0 (fun _ => False) := by
  refine Met.ofW (cc := b_M_in) (maxL := 3) (ret := (some .boolean)) (by decide) rfl ?_
  intro p e s m args below meth c s₁ B hml hv
  obtain ⟨rfl, hP, hK⟩ := hv
  have hx := B.exec
  have hb := B.bytes
  have hr := B.returns
  have hts := fun w (h : w ∈ bg) => atoms_spec (ws := .code y_M_in b_M_in 3 (some .boolean) :: bg) B.pre w (List.mem_cons_of_mem _ h)
  have hown : s.vm.findClass R_M = some m.cls := findClass_of_methodNamed B.named
  have hlocks := B.notSynchronized
  have hl := lv_entry ([.int x, .int a, .int b]) (n := 3) (Nat.le_of_ble_eq_true rfl)
  rw [lg_entry_eq]
  generalize (lg_sl ([.int x, .int a, .int b]) ++ List.replicate (3 - (lg_sl ([.int x, .int a, .int b])).length) Slot.unset).toArray = ls at hl ⊢
  have hl : lv_has ls 3 [(0, .int x), (1, .int a), (2, .int b)] := hl
  refine lv_iload_n hx hb d_M_in_0 rfl (lv_at hl 0 rfl) ?_
  refine lv_iload_n hx hb d_M_in_1 rfl (lv_at hl 1 rfl) ?_
  refine lv_icmp_lt (tgt := 14) hx hb d_M_in_2 (by decide) (fun c2 => ?_) (fun c2 => ?_)
  · refine lv_iconst (v := nI 0) hx hb d_M_in_14 (by decide) ?_
    refine nv_as (b2 (!decide (x < a) && !decide (b < x))) (b2_of0 (by simp [c2])) ?_
    exact W.zret hx hb hr (b2_nar _) (fun t ht hW => ⟨rfl, ht⟩) (fun q h => nomatch h) d_M_in_15
  · refine lv_iload_n hx hb d_M_in_5 rfl (lv_at hl 0 rfl) ?_
    refine lv_iload_n hx hb d_M_in_6 rfl (lv_at hl 2 rfl) ?_
    refine lv_icmp_gt (tgt := 14) hx hb d_M_in_7 (by decide) (fun c7 => ?_) (fun c7 => ?_)
    · refine lv_iconst (v := nI 0) hx hb d_M_in_14 (by decide) ?_
      refine nv_as (b2 (!decide (x < a) && !decide (b < x))) (b2_of0 (by simp [c7])) ?_
      exact W.zret hx hb hr (b2_nar _) (fun t ht hW => ⟨rfl, ht⟩) (fun q h => nomatch h) d_M_in_15
    · refine lv_iconst (v := nI 1) hx hb d_M_in_10 (by decide) ?_
      refine lv_goto (tgt := 15) hx hb d_M_in_11 (by decide) ?_
      refine nv_as (b2 (!decide (x < a) && !decide (b < x))) (b2_of1 (by simp [c2, c7])) ?_
      exact W.zret hx hb hr (b2_nar _) (fun t ht hW => ⟨rfl, ht⟩) (fun q h => nomatch h) d_M_in_15
set_option maxHeartbeats 4000000 in
set_option maxRecDepth 100000 in
theorem c_M_isStore (l : Launch) (dC : Nat → ClassId) (dI : Nat → Nat → Nat) (cI cZ : ClassId) (q : Nat → Nat) (S : St) (th : Int32) (t : Nat) (hI : Bd t S) (x : Int32) : Met l y_M_isStore (.code y_M_isStore b_M_isStore 2 (some .boolean) :: bg) { frames := 1, cells := 0, slots := 0, locals := 22 } (pu_P (dC, dI) classes (wM q cI cZ S th) [(cI, .int), (cZ, .boolean)] [.ref (q 0), .int x]) (pu_Q (.int (b2 (ok x (S.2.1 0))))) 0 0 (fun _ => False) := by
  refine Met.ofW (cc := b_M_isStore) (maxL := 2) (ret := (some .boolean)) (by decide) rfl ?_
  intro p e s m args below meth c s₁ B hml hv
  obtain ⟨rfl, hP, hK⟩ := hv
  have hx := B.exec
  have hb := B.bytes
  have hr := B.returns
  have hts := fun w (h : w ∈ bg) => atoms_spec (ws := .code y_M_isStore b_M_isStore 2 (some .boolean) :: bg) B.pre w (List.mem_cons_of_mem _ h)
  have hown : s.vm.findClass R_M = some m.cls := findClass_of_methodNamed B.named
  have hlocks := B.notSynchronized
  have hl := lv_entry ([.ref (q 0), .int x]) (n := 2) (Nat.le_of_ble_eq_true rfl)
  rw [lg_entry_eq]
  generalize (lg_sl ([.ref (q 0), .int x]) ++ List.replicate (2 - (lg_sl ([.ref (q 0), .int x])).length) Slot.unset).toArray = ls at hl ⊢
  have hl : lv_has ls 2 [(0, .ref (q 0)), (1, .int x)] := hl
  have hB := hI.1
  have hg0 : S.2.1 0 ≤ 8 := hI.2.1 0
  have hg1 : S.2.1 1 ≤ 9999 := hI.2.1 1
  have hg2 : S.2.1 2 ≤ 60 := hI.2.1 2
  have hg3 : S.2.1 3 ≤ 60 := hI.2.1 3
  have hg4 : S.2.1 4 ≤ 80 := hI.2.1 4
  have hg5 : S.2.1 5 ≤ 20 := hI.2.1 5
  have hg6 : S.2.1 6 ≤ 80 := hI.2.1 6
  have hg7 : S.2.1 7 ≤ 10 := hI.2.1 7
  have hg8 : t ≤ 512 := hI.2.2
  refine lv_iload_n hx hb d_M_isStore_0 rfl (lv_at hl 1 rfl) ?_
  refine lv_iconst (v := nI 0) hx hb d_M_isStore_1 (by decide) ?_
  refine lv_aload_n hx hb d_M_isStore_2 rfl (lv_at hl 0 rfl) ?_
  refine va_get (D := (dC, dI)) (ci := 3) (v := .int (nI (S.2.1 0))) (C := R_M) (T := F_M) (N := 37) hx hb hts i_M hown hK hP 0 rfl rfl 2 (by decide) (hts _ wd_557) (fun _ h9 => h9) rfl d_M_isStore_3 ?_
  refine lv_iconst (v := nI 1) hx hb d_M_isStore_6 (by decide) ?_
  refine lv_isub hx hb d_M_isStore_7 ?_
  refine pu_go (va_runS (As := [.int x, .int (nI 0), .int ((nI (S.2.1 0)) - (nI 1))]) (rest := []) ⟨hx, hb, hml, hown, hts⟩ (c_M_in l dC dI x (nI 0) ((nI (S.2.1 0)) - (nI 1))) (cwS 3 hts (gi_S wd_687 wd_688 wd_5 wd_689) rfl rfl rfl (by decide +kernel) ⟨Nat.le_of_ble_eq_true rfl, Nat.le_of_ble_eq_true rfl⟩) (pu_preS (hK.sub (tys' := []) [] rfl) (fun k q h => by simp at h)) rfl rfl hl.1 rfl (lv_room (Nat.le_of_ble_eq_true rfl)) d_M_isStore_8 ⟨Nat.le_of_ble_eq_true rfl, Nat.le_of_ble_eq_true rfl⟩) ?_
  refine nv_as (b2 (ok x (S.2.1 0))) (congrArg b2 (in_ok (by omega))) ?_
  exact W.zret hx hb hr (b2_nar _) (fun t ht hW => ⟨rfl, ht⟩) (fun q h => nomatch h) d_M_isStore_11
set_option maxHeartbeats 4000000 in
set_option maxRecDepth 100000 in
theorem c_M_isLot (l : Launch) (dC : Nat → ClassId) (dI : Nat → Nat → Nat) (cI cZ : ClassId) (q : Nat → Nat) (S : St) (th : Int32) (t : Nat) (hI : Bd t S) (x : Int32) : Met l y_M_isLot (.code y_M_isLot b_M_isLot 2 (some .boolean) :: bg) { frames := 1, cells := 0, slots := 0, locals := 22 } (pu_P (dC, dI) classes (wM q cI cZ S th) [(cI, .int), (cZ, .boolean)] [.ref (q 0), .int x]) (pu_Q (.int (b2 (ok x (S.2.1 2))))) 0 0 (fun _ => False) := by
  refine Met.ofW (cc := b_M_isLot) (maxL := 2) (ret := (some .boolean)) (by decide) rfl ?_
  intro p e s m args below meth c s₁ B hml hv
  obtain ⟨rfl, hP, hK⟩ := hv
  have hx := B.exec
  have hb := B.bytes
  have hr := B.returns
  have hts := fun w (h : w ∈ bg) => atoms_spec (ws := .code y_M_isLot b_M_isLot 2 (some .boolean) :: bg) B.pre w (List.mem_cons_of_mem _ h)
  have hown : s.vm.findClass R_M = some m.cls := findClass_of_methodNamed B.named
  have hlocks := B.notSynchronized
  have hl := lv_entry ([.ref (q 0), .int x]) (n := 2) (Nat.le_of_ble_eq_true rfl)
  rw [lg_entry_eq]
  generalize (lg_sl ([.ref (q 0), .int x]) ++ List.replicate (2 - (lg_sl ([.ref (q 0), .int x])).length) Slot.unset).toArray = ls at hl ⊢
  have hl : lv_has ls 2 [(0, .ref (q 0)), (1, .int x)] := hl
  have hB := hI.1
  have hg0 : S.2.1 0 ≤ 8 := hI.2.1 0
  have hg1 : S.2.1 1 ≤ 9999 := hI.2.1 1
  have hg2 : S.2.1 2 ≤ 60 := hI.2.1 2
  have hg3 : S.2.1 3 ≤ 60 := hI.2.1 3
  have hg4 : S.2.1 4 ≤ 80 := hI.2.1 4
  have hg5 : S.2.1 5 ≤ 20 := hI.2.1 5
  have hg6 : S.2.1 6 ≤ 80 := hI.2.1 6
  have hg7 : S.2.1 7 ≤ 10 := hI.2.1 7
  have hg8 : t ≤ 512 := hI.2.2
  refine lv_iload_n hx hb d_M_isLot_0 rfl (lv_at hl 1 rfl) ?_
  refine lv_iconst (v := nI 0) hx hb d_M_isLot_1 (by decide) ?_
  refine lv_aload_n hx hb d_M_isLot_2 rfl (lv_at hl 0 rfl) ?_
  refine va_get (D := (dC, dI)) (ci := 3) (v := .int (nI (S.2.1 2))) (C := R_M) (T := F_M) (N := 37) hx hb hts i_M hown hK hP 0 rfl rfl 3 (by decide) (hts _ wd_558) (fun _ h9 => h9) rfl d_M_isLot_3 ?_
  refine lv_iconst (v := nI 1) hx hb d_M_isLot_6 (by decide) ?_
  refine lv_isub hx hb d_M_isLot_7 ?_
  refine pu_go (va_runS (As := [.int x, .int (nI 0), .int ((nI (S.2.1 2)) - (nI 1))]) (rest := []) ⟨hx, hb, hml, hown, hts⟩ (c_M_in l dC dI x (nI 0) ((nI (S.2.1 2)) - (nI 1))) (cwS 3 hts (gi_S wd_687 wd_688 wd_5 wd_689) rfl rfl rfl (by decide +kernel) ⟨Nat.le_of_ble_eq_true rfl, Nat.le_of_ble_eq_true rfl⟩) (pu_preS (hK.sub (tys' := []) [] rfl) (fun k q h => by simp at h)) rfl rfl hl.1 rfl (lv_room (Nat.le_of_ble_eq_true rfl)) d_M_isLot_8 ⟨Nat.le_of_ble_eq_true rfl, Nat.le_of_ble_eq_true rfl⟩) ?_
  refine nv_as (b2 (ok x (S.2.1 2))) (congrArg b2 (in_ok (by omega))) ?_
  exact W.zret hx hb hr (b2_nar _) (fun t ht hW => ⟨rfl, ht⟩) (fun q h => nomatch h) d_M_isLot_11
set_option maxHeartbeats 4000000 in
set_option maxRecDepth 100000 in
theorem c_M_isKind (l : Launch) (dC : Nat → ClassId) (dI : Nat → Nat → Nat) (x : Int32) : Met l y_M_isKind (.code y_M_isKind b_M_isKind 1 (some .boolean) :: bg) { frames := 1, cells := 0, slots := 0, locals := 22 } (pu_P (dC, dI) classes [] [] [.int x]) (pu_Q (.int (b2 (ok x 10)))) 0 0 (fun _ => False) := by
  refine Met.ofW (cc := b_M_isKind) (maxL := 1) (ret := (some .boolean)) (by decide) rfl ?_
  intro p e s m args below meth c s₁ B hml hv
  obtain ⟨rfl, hP, hK⟩ := hv
  have hx := B.exec
  have hb := B.bytes
  have hr := B.returns
  have hts := fun w (h : w ∈ bg) => atoms_spec (ws := .code y_M_isKind b_M_isKind 1 (some .boolean) :: bg) B.pre w (List.mem_cons_of_mem _ h)
  have hown : s.vm.findClass R_M = some m.cls := findClass_of_methodNamed B.named
  have hlocks := B.notSynchronized
  have hl := lv_entry ([.int x]) (n := 1) (Nat.le_of_ble_eq_true rfl)
  rw [lg_entry_eq]
  generalize (lg_sl ([.int x]) ++ List.replicate (1 - (lg_sl ([.int x])).length) Slot.unset).toArray = ls at hl ⊢
  have hl : lv_has ls 1 [(0, .int x)] := hl
  refine lv_iload_n hx hb d_M_isKind_0 rfl (lv_at hl 0 rfl) ?_
  refine lv_iconst (v := nI 0) hx hb d_M_isKind_1 (by decide) ?_
  refine lv_bipush (v := nI 9) hx hb d_M_isKind_2 (by decide) ?_
  refine pu_go (va_runS (As := [.int x, .int (nI 0), .int (nI 9)]) (rest := []) ⟨hx, hb, hml, hown, hts⟩ (c_M_in l dC dI x (nI 0) (nI 9)) (cwS 3 hts (gi_S wd_687 wd_688 wd_5 wd_689) rfl rfl rfl (by decide +kernel) ⟨Nat.le_of_ble_eq_true rfl, Nat.le_of_ble_eq_true rfl⟩) (pu_preS (hK.sub (tys' := []) [] rfl) (fun k q h => by simp at h)) rfl rfl hl.1 rfl (lv_room (Nat.le_of_ble_eq_true rfl)) d_M_isKind_4 ⟨Nat.le_of_ble_eq_true rfl, Nat.le_of_ble_eq_true rfl⟩) ?_
  refine nv_as (b2 (rg x 0 9)) (congrArg b2 (in_rg (by decide) (by decide))) ?_
  refine nv_as (b2 (ok x 10)) (congrArg b2 (rg_ok (n := 10) (by decide))) ?_
  exact W.zret hx hb hr (b2_nar _) (fun t ht hW => ⟨rfl, ht⟩) (fun q h => nomatch h) d_M_isKind_7
set_option maxHeartbeats 4000000 in
set_option maxRecDepth 100000 in
theorem c_M_isMany (l : Launch) (dC : Nat → ClassId) (dI : Nat → Nat → Nat) (x : Int32) : Met l y_M_isMany (.code y_M_isMany b_M_isMany 1 (some .boolean) :: bg) { frames := 1, cells := 0, slots := 0, locals := 22 } (pu_P (dC, dI) classes [] [] [.int x]) (pu_Q (.int (b2 (rg x 1 9999)))) 0 0 (fun _ => False) := by
  refine Met.ofW (cc := b_M_isMany) (maxL := 1) (ret := (some .boolean)) (by decide) rfl ?_
  intro p e s m args below meth c s₁ B hml hv
  obtain ⟨rfl, hP, hK⟩ := hv
  have hx := B.exec
  have hb := B.bytes
  have hr := B.returns
  have hts := fun w (h : w ∈ bg) => atoms_spec (ws := .code y_M_isMany b_M_isMany 1 (some .boolean) :: bg) B.pre w (List.mem_cons_of_mem _ h)
  have hown : s.vm.findClass R_M = some m.cls := findClass_of_methodNamed B.named
  have hlocks := B.notSynchronized
  have hl := lv_entry ([.int x]) (n := 1) (Nat.le_of_ble_eq_true rfl)
  rw [lg_entry_eq]
  generalize (lg_sl ([.int x]) ++ List.replicate (1 - (lg_sl ([.int x])).length) Slot.unset).toArray = ls at hl ⊢
  have hl : lv_has ls 1 [(0, .int x)] := hl
  refine lv_iload_n hx hb d_M_isMany_0 rfl (lv_at hl 0 rfl) ?_
  refine lv_iconst (v := nI 1) hx hb d_M_isMany_1 (by decide) ?_
  refine lv_sipush (v := nI 9999) hx hb d_M_isMany_2 (by decide) ?_
  refine pu_go (va_runS (As := [.int x, .int (nI 1), .int (nI 9999)]) (rest := []) ⟨hx, hb, hml, hown, hts⟩ (c_M_in l dC dI x (nI 1) (nI 9999)) (cwS 3 hts (gi_S wd_687 wd_688 wd_5 wd_689) rfl rfl rfl (by decide +kernel) ⟨Nat.le_of_ble_eq_true rfl, Nat.le_of_ble_eq_true rfl⟩) (pu_preS (hK.sub (tys' := []) [] rfl) (fun k q h => by simp at h)) rfl rfl hl.1 rfl (lv_room (Nat.le_of_ble_eq_true rfl)) d_M_isMany_5 ⟨Nat.le_of_ble_eq_true rfl, Nat.le_of_ble_eq_true rfl⟩) ?_
  refine nv_as (b2 (rg x 1 9999)) (congrArg b2 (in_rg (by decide) (by decide))) ?_
  exact W.zret hx hb hr (b2_nar _) (fun t ht hW => ⟨rfl, ht⟩) (fun q h => nomatch h) d_M_isMany_8
set_option maxHeartbeats 4000000 in
set_option maxRecDepth 100000 in
theorem c_M_at (l : Launch) (dC : Nat → ClassId) (dI : Nat → Nat → Nat) (cI cZ : ClassId) (q : Nat → Nat) (S : St) (th : Int32) (t : Nat) (hI : Bd t S) (x y : Int32) : Met l y_M_at (.code y_M_at b_M_at 3 (some .int) :: bg) { frames := 2, cells := 0, slots := 0, locals := 43 } (pu_P (dC, dI) classes (wM q cI cZ S th) [(cI, .int), (cZ, .boolean)] [.ref (q 0), .int x, .int y]) (pu_Q (.int (atv S x y))) 0 0 (fun _ => False) := by
  refine Met.ofW (cc := b_M_at) (maxL := 3) (ret := (some .int)) (by decide) rfl ?_
  intro p e s m args below meth c s₁ B hml hv
  obtain ⟨rfl, hP, hK⟩ := hv
  have hx := B.exec
  have hb := B.bytes
  have hr := B.returns
  have hts := fun w (h : w ∈ bg) => atoms_spec (ws := .code y_M_at b_M_at 3 (some .int) :: bg) B.pre w (List.mem_cons_of_mem _ h)
  have hown : s.vm.findClass R_M = some m.cls := findClass_of_methodNamed B.named
  have hlocks := B.notSynchronized
  have hl := lv_entry ([.ref (q 0), .int x, .int y]) (n := 3) (Nat.le_of_ble_eq_true rfl)
  rw [lg_entry_eq]
  generalize (lg_sl ([.ref (q 0), .int x, .int y]) ++ List.replicate (3 - (lg_sl ([.ref (q 0), .int x, .int y])).length) Slot.unset).toArray = ls at hl ⊢
  have hl : lv_has ls 3 [(0, .ref (q 0)), (1, .int x), (2, .int y)] := hl
  have hB := hI.1
  have hg0 : S.2.1 0 ≤ 8 := hI.2.1 0
  have hg1 : S.2.1 1 ≤ 9999 := hI.2.1 1
  have hg2 : S.2.1 2 ≤ 60 := hI.2.1 2
  have hg3 : S.2.1 3 ≤ 60 := hI.2.1 3
  have hg4 : S.2.1 4 ≤ 80 := hI.2.1 4
  have hg5 : S.2.1 5 ≤ 20 := hI.2.1 5
  have hg6 : S.2.1 6 ≤ 80 := hI.2.1 6
  have hg7 : S.2.1 7 ≤ 10 := hI.2.1 7
  have hg8 : t ≤ 512 := hI.2.2
  refine lv_aload_n hx hb d_M_at_0 rfl (lv_at hl 0 rfl) ?_
  refine lv_iload_n hx hb d_M_at_1 rfl (lv_at hl 1 rfl) ?_
  refine pu_go (va_runV (As := [.int x]) (rest := []) ⟨hx, hb, hml, hown, hts⟩ (c_M_isStore l dC dI cI cZ q S th t hI x) (cwV 1 hts (gi_V wd_694 wd_696 wp_23 wd_5 wd_697) rfl rfl rfl (by decide +kernel) ⟨Nat.le_of_ble_eq_true rfl, Nat.le_of_ble_eq_true rfl⟩) (pu_preV hK hP (ci := 3) (q0 := 0) rfl rfl) rfl rfl hl.1 rfl (lv_room (Nat.le_of_ble_eq_true rfl)) d_M_at_2 ⟨Nat.le_of_ble_eq_true rfl, Nat.le_of_ble_eq_true rfl⟩) ?_
  refine nv_bz (tgt := 30) hx hb d_M_at_5 (by decide) (fun c5 => ?_) (fun c5 => ?_)
  · refine lv_iconst (v := nI 0) hx hb d_M_at_30 (by decide) ?_
    refine nv_as (atv S x y) (by simp [atv, c5]; rfl) ?_
    exact W.iret hx hb hr (fun t ht hW => ⟨rfl, ht⟩) (fun q h => nomatch h) d_M_at_31
  · refine lv_aload_n hx hb d_M_at_8 rfl (lv_at hl 0 rfl) ?_
    refine lv_iload_n hx hb d_M_at_9 rfl (lv_at hl 2 rfl) ?_
    refine pu_go (va_runV (As := [.int y]) (rest := []) ⟨hx, hb, hml, hown, hts⟩ (c_M_isLot l dC dI cI cZ q S th t hI y) (cwV 1 hts (gi_V wd_698 wd_700 wp_24 wd_5 wd_701) rfl rfl rfl (by decide +kernel) ⟨Nat.le_of_ble_eq_true rfl, Nat.le_of_ble_eq_true rfl⟩) (pu_preV hK hP (ci := 3) (q0 := 0) rfl rfl) rfl rfl hl.1 rfl (lv_room (Nat.le_of_ble_eq_true rfl)) d_M_at_10 ⟨Nat.le_of_ble_eq_true rfl, Nat.le_of_ble_eq_true rfl⟩) ?_
    refine nv_bz (tgt := 30) hx hb d_M_at_13 (by decide) (fun c13 => ?_) (fun c13 => ?_)
    · refine lv_iconst (v := nI 0) hx hb d_M_at_30 (by decide) ?_
      refine nv_as (atv S x y) (by simp [atv, c13]; rfl) ?_
      exact W.iret hx hb hr (fun t ht hW => ⟨rfl, ht⟩) (fun q h => nomatch h) d_M_at_31
    · have c5_ := c5
      have c13_ := c13
      obtain ⟨a1, ha1, rfl⟩ := ok_ex c5
      have ma1 : nn (nI a1) = a1 := nn_of (by omega)
      obtain ⟨a2, ha2, rfl⟩ := ok_ex c13
      have ma2 : nn (nI a2) = a2 := nn_of (by omega)
      refine lv_aload_n hx hb d_M_at_16 rfl (lv_at hl 0 rfl) ?_
      refine va_get (D := (dC, dI)) (ci := 3) (v := .ref (q 6)) (C := R_M) (T := F_M) (N := 37) hx hb hts i_M hown hK hP 0 rfl rfl 9 (by decide) (hts _ wd_564) (fun _ h9 => h9) rfl d_M_at_17 ?_
      refine lv_iload_n hx hb d_M_at_20 rfl (lv_at hl 1 rfl) ?_
      refine lv_bipush (v := nI 60) hx hb d_M_at_21 (by decide) ?_
      refine nv_mul hx hb d_M_at_23 ?_
      refine lv_iload_n hx hb d_M_at_24 rfl (lv_at hl 2 rfl) ?_
      refine nv_add hx hb d_M_at_25 ?_
      refine nv_iald (v := nI (S.1 25 ((a1 * 60) + a2))) hx hb hK hP 6 0 rfl rfl (by omega) (by decide) rfl d_M_at_26 ?_
      have hb1 : S.1 25 ((a1 * 60) + a2) ≤ 9999 := hB 25 _
      refine lv_goto (tgt := 31) hx hb d_M_at_27 (by decide) ?_
      refine nv_as (atv S (nI a1) (nI a2)) (by simp [atv, c5_, c13_, ma1, ma2]) ?_
      exact W.iret hx hb hr (fun t ht hW => ⟨rfl, ht⟩) (fun q h => nomatch h) d_M_at_31
set_option maxHeartbeats 4000000 in
set_option maxRecDepth 100000 in
theorem c_M_lesser (l : Launch) (dC : Nat → ClassId) (dI : Nat → Nat → Nat) (a b : Nat) (ha : a < 2 ^ 31) (hb : b < 2 ^ 31) : Met l y_M_lesser (.code y_M_lesser b_M_lesser 2 (some .int) :: bg) { frames := 0, cells := 0, slots := 0, locals := 0 } (pu_P (dC, dI) classes [] [] [.int (nI a), .int (nI b)]) (pu_Q (.int (nI (min a b)))) 0 0 (fun _ => False) := by
  refine Met.ofW (cc := b_M_lesser) (maxL := 2) (ret := (some .int)) (by decide) rfl ?_
  intro p e s m args below meth c s₁ B hml hv
  obtain ⟨rfl, hP, hK⟩ := hv
  have hx := B.exec
  have hb := B.bytes
  have hr := B.returns
  have hts := fun w (h : w ∈ bg) => atoms_spec (ws := .code y_M_lesser b_M_lesser 2 (some .int) :: bg) B.pre w (List.mem_cons_of_mem _ h)
  have hown : s.vm.findClass R_M = some m.cls := findClass_of_methodNamed B.named
  have hlocks := B.notSynchronized
  have hl := lv_entry ([.int (nI a), .int (nI b)]) (n := 2) (Nat.le_of_ble_eq_true rfl)
  rw [lg_entry_eq]
  generalize (lg_sl ([.int (nI a), .int (nI b)]) ++ List.replicate (2 - (lg_sl ([.int (nI a), .int (nI b)])).length) Slot.unset).toArray = ls at hl ⊢
  have hl : lv_has ls 2 [(0, .int (nI a)), (1, .int (nI b))] := hl
  refine lv_iload_n hx hb d_M_lesser_0 rfl (lv_at hl 0 rfl) ?_
  refine lv_iload_n hx hb d_M_lesser_1 rfl (lv_at hl 1 rfl) ?_
  refine nv_cge (tgt := 9) hx hb (by omega) (by omega) d_M_lesser_2 (by decide) (fun c2 => ?_) (fun c2 => ?_)
  · refine lv_iload_n hx hb d_M_lesser_9 rfl (lv_at hl 1 rfl) ?_
    refine nv_as (nI (min a b)) (by rw [Nat.min_eq_right (by omega)]) ?_
    exact W.iret hx hb hr (fun t ht hW => ⟨rfl, ht⟩) (fun q h => nomatch h) d_M_lesser_10
  · refine lv_iload_n hx hb d_M_lesser_5 rfl (lv_at hl 0 rfl) ?_
    refine lv_goto (tgt := 10) hx hb d_M_lesser_6 (by decide) ?_
    refine nv_as (nI (min a b)) (by rw [Nat.min_eq_left (by omega)]) ?_
    exact W.iret hx hb hr (fun t ht hW => ⟨rfl, ht⟩) (fun q h => nomatch h) d_M_lesser_10
set_option maxHeartbeats 4000000 in
set_option maxRecDepth 100000 in
theorem c_M_isGood (l : Launch) (dC : Nat → ClassId) (dI : Nat → Nat → Nat) (cI cZ : ClassId) (q : Nat → Nat) (S : St) (th : Int32) (t : Nat) (hI : Bd t S) (j : Nat) (hj : j < 60) : Met l y_M_isGood (.code y_M_isGood b_M_isGood 2 (some .boolean) :: bg) { frames := 0, cells := 0, slots := 0, locals := 0 } (pu_P (dC, dI) classes (wM q cI cZ S th) [(cI, .int), (cZ, .boolean)] [.ref (q 0), .int (nI j)]) (pu_Q (.int (b2 (decide (S.2.1 1 ≤ S.1 1 j))))) 0 0 (fun _ => False) := by
  refine Met.ofW (cc := b_M_isGood) (maxL := 2) (ret := (some .boolean)) (by decide) rfl ?_
  intro p e s m args below meth c s₁ B hml hv
  obtain ⟨rfl, hP, hK⟩ := hv
  have hx := B.exec
  have hb := B.bytes
  have hr := B.returns
  have hts := fun w (h : w ∈ bg) => atoms_spec (ws := .code y_M_isGood b_M_isGood 2 (some .boolean) :: bg) B.pre w (List.mem_cons_of_mem _ h)
  have hown : s.vm.findClass R_M = some m.cls := findClass_of_methodNamed B.named
  have hlocks := B.notSynchronized
  have hl := lv_entry ([.ref (q 0), .int (nI j)]) (n := 2) (Nat.le_of_ble_eq_true rfl)
  rw [lg_entry_eq]
  generalize (lg_sl ([.ref (q 0), .int (nI j)]) ++ List.replicate (2 - (lg_sl ([.ref (q 0), .int (nI j)])).length) Slot.unset).toArray = ls at hl ⊢
  have hl : lv_has ls 2 [(0, .ref (q 0)), (1, .int (nI j))] := hl
  have hB := hI.1
  have hg0 : S.2.1 0 ≤ 8 := hI.2.1 0
  have hg1 : S.2.1 1 ≤ 9999 := hI.2.1 1
  have hg2 : S.2.1 2 ≤ 60 := hI.2.1 2
  have hg3 : S.2.1 3 ≤ 60 := hI.2.1 3
  have hg4 : S.2.1 4 ≤ 80 := hI.2.1 4
  have hg5 : S.2.1 5 ≤ 20 := hI.2.1 5
  have hg6 : S.2.1 6 ≤ 80 := hI.2.1 6
  have hg7 : S.2.1 7 ≤ 10 := hI.2.1 7
  have hg8 : t ≤ 512 := hI.2.2
  refine lv_aload_n hx hb d_M_isGood_0 rfl (lv_at hl 0 rfl) ?_
  refine va_get (D := (dC, dI)) (ci := 3) (v := .ref (q 2)) (C := R_M) (T := F_M) (N := 37) hx hb hts i_M hown hK hP 0 rfl rfl 5 (by decide) (hts _ wd_560) (fun _ h9 => h9) rfl d_M_isGood_1 ?_
  refine lv_iload_n hx hb d_M_isGood_4 rfl (lv_at hl 1 rfl) ?_
  refine nv_iald (v := nI (S.1 1 j)) hx hb hK hP 2 0 rfl rfl (by omega) (by decide) rfl d_M_isGood_5 ?_
  have hb1 : S.1 1 j ≤ 9999 := hB 1 _
  refine lv_aload_n hx hb d_M_isGood_6 rfl (lv_at hl 0 rfl) ?_
  refine va_get (D := (dC, dI)) (ci := 3) (v := .int (nI (S.2.1 1))) (C := R_M) (T := F_M) (N := 37) hx hb hts i_M hown hK hP 0 rfl rfl 1 (by decide) (hts _ wd_556) (fun _ h9 => h9) rfl d_M_isGood_7 ?_
  refine nv_clt (tgt := 17) hx hb (by omega) (by omega) d_M_isGood_10 (by decide) (fun c10 => ?_) (fun c10 => ?_)
  · refine lv_iconst (v := nI 0) hx hb d_M_isGood_17 (by decide) ?_
    refine nv_as (b2 (decide (S.2.1 1 ≤ S.1 1 j))) (by first | (rw [decide_eq_true (by omega)]; rfl) | (rw [decide_eq_false (by omega)]; rfl)) ?_
    exact W.zret hx hb hr (b2_nar _) (fun t ht hW => ⟨rfl, ht⟩) (fun q h => nomatch h) d_M_isGood_18
  · refine lv_iconst (v := nI 1) hx hb d_M_isGood_13 (by decide) ?_
    refine lv_goto (tgt := 18) hx hb d_M_isGood_14 (by decide) ?_
    refine nv_as (b2 (decide (S.2.1 1 ≤ S.1 1 j))) (by first | (rw [decide_eq_true (by omega)]; rfl) | (rw [decide_eq_false (by omega)]; rfl)) ?_
    exact W.zret hx hb hr (b2_nar _) (fun t ht hW => ⟨rfl, ht⟩) (fun q h => nomatch h) d_M_isGood_18
set_option maxHeartbeats 4000000 in
set_option maxRecDepth 100000 in
theorem c_M_good (l : Launch) (dC : Nat → ClassId) (dI : Nat → Nat → Nat) (cI cZ : ClassId) (q : Nat → Nat) (S : St) (th : Int32) (t : Nat) (hI : Bd t S) (st kd : Nat) (hs : st < S.2.1 0) (hk : kd < 10) : Met l y_M_good (.code y_M_good b_M_good 5 (some .int) :: bg) { frames := 3, cells := 0, slots := 0, locals := 65 } (pu_P (dC, dI) classes (wM q cI cZ S th) [(cI, .int), (cZ, .boolean)] [.ref (q 0), .int (nI st), .int (nI kd)]) (pu_Q (.int (nI (good S st kd)))) 0 0 (fun _ => False) := by
  refine Met.ofW (cc := b_M_good) (maxL := 5) (ret := (some .int)) (by decide) rfl ?_
  intro p e s m args below meth c s₁ B hml hv
  obtain ⟨rfl, hP, hK⟩ := hv
  have hx := B.exec
  have hb := B.bytes
  have hr := B.returns
  have hts := fun w (h : w ∈ bg) => atoms_spec (ws := .code y_M_good b_M_good 5 (some .int) :: bg) B.pre w (List.mem_cons_of_mem _ h)
  have hown : s.vm.findClass R_M = some m.cls := findClass_of_methodNamed B.named
  have hlocks := B.notSynchronized
  have hl := lv_entry ([.ref (q 0), .int (nI st), .int (nI kd)]) (n := 5) (Nat.le_of_ble_eq_true rfl)
  rw [lg_entry_eq]
  generalize (lg_sl ([.ref (q 0), .int (nI st), .int (nI kd)]) ++ List.replicate (5 - (lg_sl ([.ref (q 0), .int (nI st), .int (nI kd)])).length) Slot.unset).toArray = ls at hl ⊢
  have hl : lv_has ls 5 [(0, .ref (q 0)), (1, .int (nI st)), (2, .int (nI kd))] := hl
  have hB := hI.1
  have hg0 : S.2.1 0 ≤ 8 := hI.2.1 0
  have hg1 : S.2.1 1 ≤ 9999 := hI.2.1 1
  have hg2 : S.2.1 2 ≤ 60 := hI.2.1 2
  have hg3 : S.2.1 3 ≤ 60 := hI.2.1 3
  have hg4 : S.2.1 4 ≤ 80 := hI.2.1 4
  have hg5 : S.2.1 5 ≤ 20 := hI.2.1 5
  have hg6 : S.2.1 6 ≤ 80 := hI.2.1 6
  have hg7 : S.2.1 7 ≤ 10 := hI.2.1 7
  have hg8 : t ≤ 512 := hI.2.2
  refine lv_iconst (v := nI 0) hx hb d_M_good_0 (by decide) ?_
  refine lv_istore_n (lv' := [(3, .int (nI 0)), (0, .ref (q 0)), (1, .int (nI st)), (2, .int (nI kd))]) hx hb d_M_good_1 rfl hl (by decide) rfl (fun ls hl => ?_)
  refine lv_iconst (v := nI 0) hx hb d_M_good_2 (by decide) ?_
  refine lv_istore (lv' := [(4, .int (nI 0)), (3, .int (nI 0)), (0, .ref (q 0)), (1, .int (nI st)), (2, .int (nI kd))]) hx hb d_M_good_3 hl (by decide) rfl (fun ls hl => ?_)
  have LP5 : ∀ (fu i : Nat), S.2.1 2 - i < fu → i ≤ S.2.1 2 → ∀ ls : Array Slot, lv_has ls 5 [(4, .int (nI i)), (3, .int (nI (sIf (fun j => decide (S.1 0 j = kd) && decide (S.2.1 1 ≤ S.1 1 j)) (fun j => S.1 25 (st * 60 + j)) i))), (0, .ref (q 0)), (1, .int (nI st)), (2, .int (nI kd))] → W p l e (headSpec (.code y_M_good b_M_good 5 (some .int) :: bg) { frames := 3, cells := 0, slots := 0, locals := 65 }).room s m (List.toArray [.ref (q 0), .int (nI st), .int (nI kd)]) below meth c s.heap [] 0 0 (MQ below (pu_Q (.int (nI (good S st kd)))) (List.toArray [.ref (q 0), .int (nI st), .int (nI kd)]) s 0 0 (fun _ => False)) (F0 m 5 ls []) := by
    intro fu
    induction fu with
    | zero => intro i h; exact absurd h (Nat.not_lt_zero _)
    | succ fu ih =>
      intro i hfu hi ls hl
      refine lv_iload hx hb d_M_good_5 (lv_at hl 0 rfl) ?_
      refine lv_aload_n hx hb d_M_good_7 rfl (lv_at hl 2 rfl) ?_
      refine va_get (D := (dC, dI)) (ci := 3) (v := .int (nI (S.2.1 2))) (C := R_M) (T := F_M) (N := 37) hx hb hts i_M hown hK hP 0 rfl rfl 3 (by decide) (hts _ wd_558) (fun _ h9 => h9) rfl d_M_good_8 ?_
      refine nv_cge (tgt := 50) hx hb (by omega) (by omega) d_M_good_11 (by decide) (fun c11 => ?_) (fun c11 => ?_)
      · obtain rfl : i = S.2.1 2 := by omega
        refine lv_iload_n hx hb d_M_good_50 rfl (lv_at hl 1 rfl) ?_
        refine nv_as (nI (good S st kd)) (by rfl) ?_
        exact W.iret hx hb hr (fun t ht hW => ⟨rfl, ht⟩) (fun q h => nomatch h) d_M_good_51
      · refine lv_aload_n hx hb d_M_good_14 rfl (lv_at hl 2 rfl) ?_
        refine va_get (D := (dC, dI)) (ci := 3) (v := .ref (q 1)) (C := R_M) (T := F_M) (N := 37) hx hb hts i_M hown hK hP 0 rfl rfl 4 (by decide) (hts _ wd_559) (fun _ h9 => h9) rfl d_M_good_15 ?_
        refine lv_iload hx hb d_M_good_18 (lv_at hl 0 rfl) ?_
        refine nv_iald (v := nI (S.1 0 i)) hx hb hK hP 1 0 rfl rfl (by omega) (by decide) rfl d_M_good_20 ?_
        have hb1 : S.1 0 i ≤ 9 := hB 0 _
        refine lv_iload_n hx hb d_M_good_21 rfl (lv_at hl 4 rfl) ?_
        refine nv_cne (tgt := 44) hx hb (by omega) (by omega) d_M_good_22 (by decide) (fun c22 => ?_) (fun c22 => ?_)
        · refine lv_iinc (v := nI (i + 1)) (lv' := [(4, .int (nI (i + 1))), (3, .int (nI (sIf (fun j => decide (S.1 0 j = kd) && decide (S.2.1 1 ≤ S.1 1 j)) (fun j => S.1 25 (st * 60 + j)) i))), (0, .ref (q 0)), (1, .int (nI st)), (2, .int (nI kd))]) hx hb d_M_good_44 hl (k := 0) rfl (nI_1 _) (by decide) rfl (fun ls hl => ?_)
          refine lv_goto (tgt := 5) hx hb d_M_good_47 (by decide) ?_
          exact ih (i + 1) (by omega) (by omega) ls (lv_sub hl [0, 1, 2, 3, 4] (by rw [sIf_f (by simp [c22])]; rfl))
        · refine lv_aload_n hx hb d_M_good_25 rfl (lv_at hl 2 rfl) ?_
          refine lv_iload hx hb d_M_good_26 (lv_at hl 0 rfl) ?_
          refine pu_go (va_runV (As := [.int (nI i)]) (rest := []) ⟨hx, hb, hml, hown, hts⟩ (c_M_isGood l dC dI cI cZ q S th t hI i (by omega)) (cwV 1 hts (gi_V wd_728 wd_730 wp_28 wd_5 wd_731) rfl rfl rfl (by decide +kernel) ⟨Nat.le_of_ble_eq_true rfl, Nat.le_of_ble_eq_true rfl⟩) (pu_preV hK hP (ci := 3) (q0 := 0) rfl rfl) rfl rfl hl.1 rfl (lv_room (Nat.le_of_ble_eq_true rfl)) d_M_good_28 ⟨Nat.le_of_ble_eq_true rfl, Nat.le_of_ble_eq_true rfl⟩) ?_
          refine nv_bz (tgt := 44) hx hb d_M_good_31 (by decide) (fun c31 => ?_) (fun c31 => ?_)
          · refine lv_iinc (v := nI (i + 1)) (lv' := [(4, .int (nI (i + 1))), (3, .int (nI (sIf (fun j => decide (S.1 0 j = kd) && decide (S.2.1 1 ≤ S.1 1 j)) (fun j => S.1 25 (st * 60 + j)) i))), (0, .ref (q 0)), (1, .int (nI st)), (2, .int (nI kd))]) hx hb d_M_good_44 hl (k := 0) rfl (nI_1 _) (by decide) rfl (fun ls hl => ?_)
            refine lv_goto (tgt := 5) hx hb d_M_good_47 (by decide) ?_
            exact ih (i + 1) (by omega) (by omega) ls (lv_sub hl [0, 1, 2, 3, 4] (by rw [sIf_f (by simp only [Bool.and_eq_false_iff]; exact Or.inr c31)]; rfl))
          · refine lv_iload_n hx hb d_M_good_34 rfl (lv_at hl 1 rfl) ?_
            refine lv_aload_n hx hb d_M_good_35 rfl (lv_at hl 2 rfl) ?_
            refine lv_iload_n hx hb d_M_good_36 rfl (lv_at hl 3 rfl) ?_
            refine lv_iload hx hb d_M_good_37 (lv_at hl 0 rfl) ?_
            refine pu_go (va_runV (As := [.int (nI st), .int (nI i)]) (rest := [.int (nI (sIf (fun j => decide (S.1 0 j = kd) && decide (S.2.1 1 ≤ S.1 1 j)) (fun j => S.1 25 (st * 60 + j)) i))]) ⟨hx, hb, hml, hown, hts⟩ (c_M_at l dC dI cI cZ q S th t hI (nI st) (nI i)) (cwV 2 hts (gi_V wd_705 wd_707 wp_25 wd_5 wd_708) rfl rfl rfl (by decide +kernel) ⟨Nat.le_of_ble_eq_true rfl, Nat.le_of_ble_eq_true rfl⟩) (pu_preV hK hP (ci := 3) (q0 := 0) rfl rfl) rfl rfl hl.1 rfl (lv_room (Nat.le_of_ble_eq_true rfl)) d_M_good_39 ⟨Nat.le_of_ble_eq_true rfl, Nat.le_of_ble_eq_true rfl⟩) ?_
            refine nv_as (nI (S.1 25 (st * 60 + i))) (atv_n (by omega) (by omega) (by omega) (by omega)) ?_
            have hb2 : S.1 25 (st * 60 + i) ≤ 9999 := hB 25 _
            refine nv_add hx hb d_M_good_42 ?_
            refine lv_istore_n (lv' := [(3, .int (nI ((sIf (fun j => decide (S.1 0 j = kd) && decide (S.2.1 1 ≤ S.1 1 j)) (fun j => S.1 25 (st * 60 + j)) i) + (S.1 25 (st * 60 + i))))), (4, .int (nI i)), (0, .ref (q 0)), (1, .int (nI st)), (2, .int (nI kd))]) hx hb d_M_good_43 rfl hl (by decide) rfl (fun ls hl => ?_)
            refine lv_iinc (v := nI (i + 1)) (lv' := [(4, .int (nI (i + 1))), (3, .int (nI ((sIf (fun j => decide (S.1 0 j = kd) && decide (S.2.1 1 ≤ S.1 1 j)) (fun j => S.1 25 (st * 60 + j)) i) + (S.1 25 (st * 60 + i))))), (0, .ref (q 0)), (1, .int (nI st)), (2, .int (nI kd))]) hx hb d_M_good_44 hl (k := 1) rfl (nI_1 _) (by decide) rfl (fun ls hl => ?_)
            refine lv_goto (tgt := 5) hx hb d_M_good_47 (by decide) ?_
            exact ih (i + 1) (by omega) (by omega) ls (lv_sub hl [0, 1, 2, 3, 4] (by rw [sIf_t (by simp only [Bool.and_eq_true, decide_eq_true_eq]; exact ⟨c22, of_decide_eq_true c31⟩)]; rfl))
  exact LP5 (S.2.1 2 + 1) 0 (by omega) (by omega) ls (lv_sub hl [0, 1, 2, 3, 4] rfl)
set_option maxHeartbeats 4000000 in
set_option maxRecDepth 100000 in
theorem c_M_expected (l : Launch) (dC : Nat → ClassId) (dI : Nat → Nat → Nat) (cI cZ : ClassId) (q : Nat → Nat) (S : St) (th : Int32) (t : Nat) (hI : Bd t S) (st kd : Nat) (hs : st < S.2.1 0) (hk : kd < 10) : Met l y_M_expected (.code y_M_expected b_M_expected 5 (some .int) :: bg) { frames := 4, cells := 0, slots := 0, locals := 89 } (pu_P (dC, dI) classes (wM q cI cZ S th) [(cI, .int), (cZ, .boolean)] [.ref (q 0), .int (nI st), .int (nI kd)]) (pu_Q (.int (nI (expd S st kd)))) 0 0 (fun _ => False) := by
  refine Met.ofW (cc := b_M_expected) (maxL := 5) (ret := (some .int)) (by decide) rfl ?_
  intro p e s m args below meth c s₁ B hml hv
  obtain ⟨rfl, hP, hK⟩ := hv
  have hx := B.exec
  have hb := B.bytes
  have hr := B.returns
  have hts := fun w (h : w ∈ bg) => atoms_spec (ws := .code y_M_expected b_M_expected 5 (some .int) :: bg) B.pre w (List.mem_cons_of_mem _ h)
  have hown : s.vm.findClass R_M = some m.cls := findClass_of_methodNamed B.named
  have hlocks := B.notSynchronized
  have hl := lv_entry ([.ref (q 0), .int (nI st), .int (nI kd)]) (n := 5) (Nat.le_of_ble_eq_true rfl)
  rw [lg_entry_eq]
  generalize (lg_sl ([.ref (q 0), .int (nI st), .int (nI kd)]) ++ List.replicate (5 - (lg_sl ([.ref (q 0), .int (nI st), .int (nI kd)])).length) Slot.unset).toArray = ls at hl ⊢
  have hl : lv_has ls 5 [(0, .ref (q 0)), (1, .int (nI st)), (2, .int (nI kd))] := hl
  have hB := hI.1
  have hg0 : S.2.1 0 ≤ 8 := hI.2.1 0
  have hg1 : S.2.1 1 ≤ 9999 := hI.2.1 1
  have hg2 : S.2.1 2 ≤ 60 := hI.2.1 2
  have hg3 : S.2.1 3 ≤ 60 := hI.2.1 3
  have hg4 : S.2.1 4 ≤ 80 := hI.2.1 4
  have hg5 : S.2.1 5 ≤ 20 := hI.2.1 5
  have hg6 : S.2.1 6 ≤ 80 := hI.2.1 6
  have hg7 : S.2.1 7 ≤ 10 := hI.2.1 7
  have hg8 : t ≤ 512 := hI.2.2
  refine lv_aload_n hx hb d_M_expected_0 rfl (lv_at hl 0 rfl) ?_
  refine lv_iload_n hx hb d_M_expected_1 rfl (lv_at hl 1 rfl) ?_
  refine lv_iload_n hx hb d_M_expected_2 rfl (lv_at hl 2 rfl) ?_
  refine pu_go (va_runV (As := [.int (nI st), .int (nI kd)]) (rest := []) ⟨hx, hb, hml, hown, hts⟩ (c_M_good l dC dI cI cZ q S th t hI st kd (by omega) (by omega)) (cwV 2 hts (gi_V wd_724 wd_726 wp_27 wd_5 wd_727) rfl rfl rfl (by decide +kernel) ⟨Nat.le_of_ble_eq_true rfl, Nat.le_of_ble_eq_true rfl⟩) (pu_preV hK hP (ci := 3) (q0 := 0) rfl rfl) rfl rfl hl.1 rfl (lv_room (Nat.le_of_ble_eq_true rfl)) d_M_expected_3 ⟨Nat.le_of_ble_eq_true rfl, Nat.le_of_ble_eq_true rfl⟩) ?_
  have hb1 := good_le hI st kd
  refine lv_istore_n (lv' := [(3, .int (nI (good S st kd))), (0, .ref (q 0)), (1, .int (nI st)), (2, .int (nI kd))]) hx hb d_M_expected_6 rfl hl (by decide) rfl (fun ls hl => ?_)
  refine lv_iconst (v := nI 0) hx hb d_M_expected_7 (by decide) ?_
  refine lv_istore (lv' := [(4, .int (nI 0)), (3, .int (nI (good S st kd))), (0, .ref (q 0)), (1, .int (nI st)), (2, .int (nI kd))]) hx hb d_M_expected_8 hl (by decide) rfl (fun ls hl => ?_)
  have LP10 : ∀ (fu i : Nat), S.2.1 3 - i < fu → i ≤ S.2.1 3 → ∀ ls : Array Slot, lv_has ls 5 [(4, .int (nI i)), (3, .int (nI (good S st kd + sIf (fun j => decide (S.1 9 j = 1) && (decide (S.1 5 j = st) && (decide (S.1 0 (S.1 6 j) = kd) && (!true || decide (S.1 8 j ≤ S.1 1 (S.1 6 j)))))) (fun j => S.1 7 j) i))), (0, .ref (q 0)), (1, .int (nI st)), (2, .int (nI kd))] → W p l e (headSpec (.code y_M_expected b_M_expected 5 (some .int) :: bg) { frames := 4, cells := 0, slots := 0, locals := 89 }).room s m (List.toArray [.ref (q 0), .int (nI st), .int (nI kd)]) below meth c s.heap [] 0 0 (MQ below (pu_Q (.int (nI (expd S st kd)))) (List.toArray [.ref (q 0), .int (nI st), .int (nI kd)]) s 0 0 (fun _ => False)) (F0 m 10 ls []) := by
    intro fu
    induction fu with
    | zero => intro i h; exact absurd h (Nat.not_lt_zero _)
    | succ fu ih =>
      intro i hfu hi ls hl
      refine lv_iload hx hb d_M_expected_10 (lv_at hl 0 rfl) ?_
      refine lv_aload_n hx hb d_M_expected_12 rfl (lv_at hl 2 rfl) ?_
      refine va_get (D := (dC, dI)) (ci := 3) (v := .int (nI (S.2.1 3))) (C := R_M) (T := F_M) (N := 37) hx hb hts i_M hown hK hP 0 rfl rfl 10 (by decide) (hts _ wd_565) (fun _ h9 => h9) rfl d_M_expected_13 ?_
      refine nv_cge (tgt := 94) hx hb (by omega) (by omega) d_M_expected_16 (by decide) (fun c16 => ?_) (fun c16 => ?_)
      · obtain rfl : i = S.2.1 3 := by omega
        refine lv_iconst (v := nI 0) hx hb d_M_expected_94 (by decide) ?_
        refine lv_istore (lv' := [(4, .int (nI 0)), (3, .int (nI (good S st kd + sIf (fun j => decide (S.1 9 j = 1) && (decide (S.1 5 j = st) && (decide (S.1 0 (S.1 6 j) = kd) && (!true || decide (S.1 8 j ≤ S.1 1 (S.1 6 j)))))) (fun j => S.1 7 j) (S.2.1 3)))), (0, .ref (q 0)), (1, .int (nI st)), (2, .int (nI kd))]) hx hb d_M_expected_95 hl (by decide) rfl (fun ls hl => ?_)
        have LP97 : ∀ (fu i : Nat), S.2.1 4 - i < fu → i ≤ S.2.1 4 → ∀ ls : Array Slot, lv_has ls 5 [(4, .int (nI i)), (3, .int (nI (good S st kd + way S true st kd + sIf (fun j => decide (S.1 14 j = 1) && (decide (S.1 10 j = st) && decide (S.1 11 j = kd))) (fun j => S.1 12 j) i))), (0, .ref (q 0)), (1, .int (nI st)), (2, .int (nI kd))] → W p l e (headSpec (.code y_M_expected b_M_expected 5 (some .int) :: bg) { frames := 4, cells := 0, slots := 0, locals := 89 }).room s m (List.toArray [.ref (q 0), .int (nI st), .int (nI kd)]) below meth c s.heap [] 0 0 (MQ below (pu_Q (.int (nI (expd S st kd)))) (List.toArray [.ref (q 0), .int (nI st), .int (nI kd)]) s 0 0 (fun _ => False)) (F0 m 97 ls []) := by
          intro fu
          induction fu with
          | zero => intro i h; exact absurd h (Nat.not_lt_zero _)
          | succ fu ih =>
            intro i hfu hi ls hl
            refine lv_iload hx hb d_M_expected_97 (lv_at hl 0 rfl) ?_
            refine lv_aload_n hx hb d_M_expected_99 rfl (lv_at hl 2 rfl) ?_
            refine va_get (D := (dC, dI)) (ci := 3) (v := .int (nI (S.2.1 4))) (C := R_M) (T := F_M) (N := 37) hx hb hts i_M hown hK hP 0 rfl rfl 19 (by decide) (hts _ wd_574) (fun _ h9 => h9) rfl d_M_expected_100 ?_
            refine nv_cge (tgt := 154) hx hb (by omega) (by omega) d_M_expected_103 (by decide) (fun c103 => ?_) (fun c103 => ?_)
            · obtain rfl : i = S.2.1 4 := by omega
              refine lv_iload_n hx hb d_M_expected_154 rfl (lv_at hl 1 rfl) ?_
              refine nv_as (nI (expd S st kd)) (by rfl) ?_
              exact W.iret hx hb hr (fun t ht hW => ⟨rfl, ht⟩) (fun q h => nomatch h) d_M_expected_155
            · refine lv_aload_n hx hb d_M_expected_106 rfl (lv_at hl 2 rfl) ?_
              refine va_get (D := (dC, dI)) (ci := 3) (v := .ref (q 19)) (C := R_M) (T := F_M) (N := 37) hx hb hts i_M hown hK hP 0 rfl rfl 24 (by decide) (hts _ wd_579) (fun _ h9 => h9) rfl d_M_expected_107 ?_
              refine lv_iload hx hb d_M_expected_110 (lv_at hl 0 rfl) ?_
              refine nv_zald (v := nI (S.1 14 i)) hx hb hK hP 19 1 rfl rfl (by omega) (by decide) rfl d_M_expected_112 ?_
              have hb2 : S.1 14 i ≤ 1 := hB 14 _
              refine nv_zeq (tgt := 148) hx hb (by omega) d_M_expected_113 (by decide) (fun c113 => ?_) (fun c113 => ?_)
              · refine lv_iinc (v := nI (i + 1)) (lv' := [(4, .int (nI (i + 1))), (3, .int (nI (good S st kd + way S true st kd + sIf (fun j => decide (S.1 14 j = 1) && (decide (S.1 10 j = st) && decide (S.1 11 j = kd))) (fun j => S.1 12 j) i))), (0, .ref (q 0)), (1, .int (nI st)), (2, .int (nI kd))]) hx hb d_M_expected_148 hl (k := 0) rfl (nI_1 _) (by decide) rfl (fun ls hl => ?_)
                refine lv_goto (tgt := 97) hx hb d_M_expected_151 (by decide) ?_
                exact ih (i + 1) (by omega) (by omega) ls (lv_sub hl [0, 1, 2, 3, 4] (by rw [sIf_f (by simp [c113])]; rfl))
              · refine lv_aload_n hx hb d_M_expected_116 rfl (lv_at hl 2 rfl) ?_
                refine va_get (D := (dC, dI)) (ci := 3) (v := .ref (q 15)) (C := R_M) (T := F_M) (N := 37) hx hb hts i_M hown hK hP 0 rfl rfl 20 (by decide) (hts _ wd_575) (fun _ h9 => h9) rfl d_M_expected_117 ?_
                refine lv_iload hx hb d_M_expected_120 (lv_at hl 0 rfl) ?_
                refine nv_iald (v := nI (S.1 10 i)) hx hb hK hP 15 0 rfl rfl (by omega) (by decide) rfl d_M_expected_122 ?_
                have hb3 : S.1 10 i ≤ 7 := hB 10 _
                refine lv_iload_n hx hb d_M_expected_123 rfl (lv_at hl 3 rfl) ?_
                refine nv_cne (tgt := 148) hx hb (by omega) (by omega) d_M_expected_124 (by decide) (fun c124 => ?_) (fun c124 => ?_)
                · refine lv_iinc (v := nI (i + 1)) (lv' := [(4, .int (nI (i + 1))), (3, .int (nI (good S st kd + way S true st kd + sIf (fun j => decide (S.1 14 j = 1) && (decide (S.1 10 j = st) && decide (S.1 11 j = kd))) (fun j => S.1 12 j) i))), (0, .ref (q 0)), (1, .int (nI st)), (2, .int (nI kd))]) hx hb d_M_expected_148 hl (k := 0) rfl (nI_1 _) (by decide) rfl (fun ls hl => ?_)
                  refine lv_goto (tgt := 97) hx hb d_M_expected_151 (by decide) ?_
                  exact ih (i + 1) (by omega) (by omega) ls (lv_sub hl [0, 1, 2, 3, 4] (by rw [sIf_f (by simp [c124])]; rfl))
                · refine lv_aload_n hx hb d_M_expected_127 rfl (lv_at hl 2 rfl) ?_
                  refine va_get (D := (dC, dI)) (ci := 3) (v := .ref (q 16)) (C := R_M) (T := F_M) (N := 37) hx hb hts i_M hown hK hP 0 rfl rfl 21 (by decide) (hts _ wd_576) (fun _ h9 => h9) rfl d_M_expected_128 ?_
                  refine lv_iload hx hb d_M_expected_131 (lv_at hl 0 rfl) ?_
                  refine nv_iald (v := nI (S.1 11 i)) hx hb hK hP 16 0 rfl rfl (by omega) (by decide) rfl d_M_expected_133 ?_
                  have hb4 : S.1 11 i ≤ 9 := hB 11 _
                  refine lv_iload_n hx hb d_M_expected_134 rfl (lv_at hl 4 rfl) ?_
                  refine nv_cne (tgt := 148) hx hb (by omega) (by omega) d_M_expected_135 (by decide) (fun c135 => ?_) (fun c135 => ?_)
                  · refine lv_iinc (v := nI (i + 1)) (lv' := [(4, .int (nI (i + 1))), (3, .int (nI (good S st kd + way S true st kd + sIf (fun j => decide (S.1 14 j = 1) && (decide (S.1 10 j = st) && decide (S.1 11 j = kd))) (fun j => S.1 12 j) i))), (0, .ref (q 0)), (1, .int (nI st)), (2, .int (nI kd))]) hx hb d_M_expected_148 hl (k := 0) rfl (nI_1 _) (by decide) rfl (fun ls hl => ?_)
                    refine lv_goto (tgt := 97) hx hb d_M_expected_151 (by decide) ?_
                    exact ih (i + 1) (by omega) (by omega) ls (lv_sub hl [0, 1, 2, 3, 4] (by rw [sIf_f (by simp [c135])]; rfl))
                  · refine lv_iload_n hx hb d_M_expected_138 rfl (lv_at hl 1 rfl) ?_
                    refine lv_aload_n hx hb d_M_expected_139 rfl (lv_at hl 2 rfl) ?_
                    refine va_get (D := (dC, dI)) (ci := 3) (v := .ref (q 17)) (C := R_M) (T := F_M) (N := 37) hx hb hts i_M hown hK hP 0 rfl rfl 22 (by decide) (hts _ wd_577) (fun _ h9 => h9) rfl d_M_expected_140 ?_
                    refine lv_iload hx hb d_M_expected_143 (lv_at hl 0 rfl) ?_
                    refine nv_iald (v := nI (S.1 12 i)) hx hb hK hP 17 0 rfl rfl (by omega) (by decide) rfl d_M_expected_145 ?_
                    have hb5 : S.1 12 i ≤ 9999 := hB 12 _
                    refine nv_add hx hb d_M_expected_146 ?_
                    refine lv_istore_n (lv' := [(3, .int (nI ((good S st kd + way S true st kd + sIf (fun j => decide (S.1 14 j = 1) && (decide (S.1 10 j = st) && decide (S.1 11 j = kd))) (fun j => S.1 12 j) i) + (S.1 12 i)))), (4, .int (nI i)), (0, .ref (q 0)), (1, .int (nI st)), (2, .int (nI kd))]) hx hb d_M_expected_147 rfl hl (by decide) rfl (fun ls hl => ?_)
                    refine lv_iinc (v := nI (i + 1)) (lv' := [(4, .int (nI (i + 1))), (3, .int (nI ((good S st kd + way S true st kd + sIf (fun j => decide (S.1 14 j = 1) && (decide (S.1 10 j = st) && decide (S.1 11 j = kd))) (fun j => S.1 12 j) i) + (S.1 12 i)))), (0, .ref (q 0)), (1, .int (nI st)), (2, .int (nI kd))]) hx hb d_M_expected_148 hl (k := 1) rfl (nI_1 _) (by decide) rfl (fun ls hl => ?_)
                    refine lv_goto (tgt := 97) hx hb d_M_expected_151 (by decide) ?_
                    exact ih (i + 1) (by omega) (by omega) ls (lv_sub hl [0, 1, 2, 3, 4] (by rw [sIf_t (by simp [c124, c135]; omega), ← Nat.add_assoc]; rfl))
        exact LP97 (S.2.1 4 + 1) 0 (by omega) (by omega) ls (lv_sub hl [0, 1, 2, 3, 4] rfl)
      · refine lv_aload_n hx hb d_M_expected_19 rfl (lv_at hl 2 rfl) ?_
        refine va_get (D := (dC, dI)) (ci := 3) (v := .ref (q 11)) (C := R_M) (T := F_M) (N := 37) hx hb hts i_M hown hK hP 0 rfl rfl 15 (by decide) (hts _ wd_570) (fun _ h9 => h9) rfl d_M_expected_20 ?_
        refine lv_iload hx hb d_M_expected_23 (lv_at hl 0 rfl) ?_
        refine nv_zald (v := nI (S.1 9 i)) hx hb hK hP 11 1 rfl rfl (by omega) (by decide) rfl d_M_expected_25 ?_
        have hb6 : S.1 9 i ≤ 1 := hB 9 _
        refine nv_zeq (tgt := 88) hx hb (by omega) d_M_expected_26 (by decide) (fun c26 => ?_) (fun c26 => ?_)
        · refine lv_iinc (v := nI (i + 1)) (lv' := [(4, .int (nI (i + 1))), (3, .int (nI (good S st kd + sIf (fun j => decide (S.1 9 j = 1) && (decide (S.1 5 j = st) && (decide (S.1 0 (S.1 6 j) = kd) && (!true || decide (S.1 8 j ≤ S.1 1 (S.1 6 j)))))) (fun j => S.1 7 j) i))), (0, .ref (q 0)), (1, .int (nI st)), (2, .int (nI kd))]) hx hb d_M_expected_88 hl (k := 0) rfl (nI_1 _) (by decide) rfl (fun ls hl => ?_)
          refine lv_goto (tgt := 10) hx hb d_M_expected_91 (by decide) ?_
          exact ih (i + 1) (by omega) (by omega) ls (lv_sub hl [0, 1, 2, 3, 4] (by rw [sIf_f (by simp [c26])]; rfl))
        · refine lv_aload_n hx hb d_M_expected_29 rfl (lv_at hl 2 rfl) ?_
          refine va_get (D := (dC, dI)) (ci := 3) (v := .ref (q 7)) (C := R_M) (T := F_M) (N := 37) hx hb hts i_M hown hK hP 0 rfl rfl 11 (by decide) (hts _ wd_566) (fun _ h9 => h9) rfl d_M_expected_30 ?_
          refine lv_iload hx hb d_M_expected_33 (lv_at hl 0 rfl) ?_
          refine nv_iald (v := nI (S.1 5 i)) hx hb hK hP 7 0 rfl rfl (by omega) (by decide) rfl d_M_expected_35 ?_
          have hb7 : S.1 5 i ≤ 7 := hB 5 _
          refine lv_iload_n hx hb d_M_expected_36 rfl (lv_at hl 3 rfl) ?_
          refine nv_cne (tgt := 88) hx hb (by omega) (by omega) d_M_expected_37 (by decide) (fun c37 => ?_) (fun c37 => ?_)
          · refine lv_iinc (v := nI (i + 1)) (lv' := [(4, .int (nI (i + 1))), (3, .int (nI (good S st kd + sIf (fun j => decide (S.1 9 j = 1) && (decide (S.1 5 j = st) && (decide (S.1 0 (S.1 6 j) = kd) && (!true || decide (S.1 8 j ≤ S.1 1 (S.1 6 j)))))) (fun j => S.1 7 j) i))), (0, .ref (q 0)), (1, .int (nI st)), (2, .int (nI kd))]) hx hb d_M_expected_88 hl (k := 0) rfl (nI_1 _) (by decide) rfl (fun ls hl => ?_)
            refine lv_goto (tgt := 10) hx hb d_M_expected_91 (by decide) ?_
            exact ih (i + 1) (by omega) (by omega) ls (lv_sub hl [0, 1, 2, 3, 4] (by rw [sIf_f (by simp [c37])]; rfl))
          · refine lv_aload_n hx hb d_M_expected_40 rfl (lv_at hl 2 rfl) ?_
            refine va_get (D := (dC, dI)) (ci := 3) (v := .ref (q 1)) (C := R_M) (T := F_M) (N := 37) hx hb hts i_M hown hK hP 0 rfl rfl 4 (by decide) (hts _ wd_559) (fun _ h9 => h9) rfl d_M_expected_41 ?_
            refine lv_aload_n hx hb d_M_expected_44 rfl (lv_at hl 2 rfl) ?_
            refine va_get (D := (dC, dI)) (ci := 3) (v := .ref (q 8)) (C := R_M) (T := F_M) (N := 37) hx hb hts i_M hown hK hP 0 rfl rfl 12 (by decide) (hts _ wd_567) (fun _ h9 => h9) rfl d_M_expected_45 ?_
            refine lv_iload hx hb d_M_expected_48 (lv_at hl 0 rfl) ?_
            refine nv_iald (v := nI (S.1 6 i)) hx hb hK hP 8 0 rfl rfl (by omega) (by decide) rfl d_M_expected_50 ?_
            have hb8 : S.1 6 i ≤ 59 := hB 6 _
            refine nv_iald (v := nI (S.1 0 (S.1 6 i))) hx hb hK hP 1 0 rfl rfl (by omega) (by decide) rfl d_M_expected_51 ?_
            have hb9 : S.1 0 (S.1 6 i) ≤ 9 := hB 0 _
            refine lv_iload_n hx hb d_M_expected_52 rfl (lv_at hl 4 rfl) ?_
            refine nv_cne (tgt := 88) hx hb (by omega) (by omega) d_M_expected_53 (by decide) (fun c53 => ?_) (fun c53 => ?_)
            · refine lv_iinc (v := nI (i + 1)) (lv' := [(4, .int (nI (i + 1))), (3, .int (nI (good S st kd + sIf (fun j => decide (S.1 9 j = 1) && (decide (S.1 5 j = st) && (decide (S.1 0 (S.1 6 j) = kd) && (!true || decide (S.1 8 j ≤ S.1 1 (S.1 6 j)))))) (fun j => S.1 7 j) i))), (0, .ref (q 0)), (1, .int (nI st)), (2, .int (nI kd))]) hx hb d_M_expected_88 hl (k := 0) rfl (nI_1 _) (by decide) rfl (fun ls hl => ?_)
              refine lv_goto (tgt := 10) hx hb d_M_expected_91 (by decide) ?_
              exact ih (i + 1) (by omega) (by omega) ls (lv_sub hl [0, 1, 2, 3, 4] (by rw [sIf_f (by simp [c53])]; rfl))
            · refine lv_aload_n hx hb d_M_expected_56 rfl (lv_at hl 2 rfl) ?_
              refine va_get (D := (dC, dI)) (ci := 3) (v := .ref (q 2)) (C := R_M) (T := F_M) (N := 37) hx hb hts i_M hown hK hP 0 rfl rfl 5 (by decide) (hts _ wd_560) (fun _ h9 => h9) rfl d_M_expected_57 ?_
              refine lv_aload_n hx hb d_M_expected_60 rfl (lv_at hl 2 rfl) ?_
              refine va_get (D := (dC, dI)) (ci := 3) (v := .ref (q 8)) (C := R_M) (T := F_M) (N := 37) hx hb hts i_M hown hK hP 0 rfl rfl 12 (by decide) (hts _ wd_567) (fun _ h9 => h9) rfl d_M_expected_61 ?_
              refine lv_iload hx hb d_M_expected_64 (lv_at hl 0 rfl) ?_
              refine nv_iald (v := nI (S.1 6 i)) hx hb hK hP 8 0 rfl rfl (by omega) (by decide) rfl d_M_expected_66 ?_
              have hb10 : S.1 6 i ≤ 59 := hB 6 _
              refine nv_iald (v := nI (S.1 1 (S.1 6 i))) hx hb hK hP 2 0 rfl rfl (by omega) (by decide) rfl d_M_expected_67 ?_
              have hb11 : S.1 1 (S.1 6 i) ≤ 9999 := hB 1 _
              refine lv_aload_n hx hb d_M_expected_68 rfl (lv_at hl 2 rfl) ?_
              refine va_get (D := (dC, dI)) (ci := 3) (v := .ref (q 10)) (C := R_M) (T := F_M) (N := 37) hx hb hts i_M hown hK hP 0 rfl rfl 14 (by decide) (hts _ wd_569) (fun _ h9 => h9) rfl d_M_expected_69 ?_
              refine lv_iload hx hb d_M_expected_72 (lv_at hl 0 rfl) ?_
              refine nv_iald (v := nI (S.1 8 i)) hx hb hK hP 10 0 rfl rfl (by omega) (by decide) rfl d_M_expected_74 ?_
              have hb12 : S.1 8 i ≤ 10029 := hB 8 _
              refine nv_clt (tgt := 88) hx hb (by omega) (by omega) d_M_expected_75 (by decide) (fun c75 => ?_) (fun c75 => ?_)
              · refine lv_iinc (v := nI (i + 1)) (lv' := [(4, .int (nI (i + 1))), (3, .int (nI (good S st kd + sIf (fun j => decide (S.1 9 j = 1) && (decide (S.1 5 j = st) && (decide (S.1 0 (S.1 6 j) = kd) && (!true || decide (S.1 8 j ≤ S.1 1 (S.1 6 j)))))) (fun j => S.1 7 j) i))), (0, .ref (q 0)), (1, .int (nI st)), (2, .int (nI kd))]) hx hb d_M_expected_88 hl (k := 0) rfl (nI_1 _) (by decide) rfl (fun ls hl => ?_)
                refine lv_goto (tgt := 10) hx hb d_M_expected_91 (by decide) ?_
                exact ih (i + 1) (by omega) (by omega) ls (lv_sub hl [0, 1, 2, 3, 4] (by rw [sIf_f (by simp [Nat.not_le.mpr c75])]; rfl))
              · refine lv_iload_n hx hb d_M_expected_78 rfl (lv_at hl 1 rfl) ?_
                refine lv_aload_n hx hb d_M_expected_79 rfl (lv_at hl 2 rfl) ?_
                refine va_get (D := (dC, dI)) (ci := 3) (v := .ref (q 9)) (C := R_M) (T := F_M) (N := 37) hx hb hts i_M hown hK hP 0 rfl rfl 13 (by decide) (hts _ wd_568) (fun _ h9 => h9) rfl d_M_expected_80 ?_
                refine lv_iload hx hb d_M_expected_83 (lv_at hl 0 rfl) ?_
                refine nv_iald (v := nI (S.1 7 i)) hx hb hK hP 9 0 rfl rfl (by omega) (by decide) rfl d_M_expected_85 ?_
                have hb13 : S.1 7 i ≤ 9999 := hB 7 _
                refine nv_add hx hb d_M_expected_86 ?_
                refine lv_istore_n (lv' := [(3, .int (nI ((good S st kd + sIf (fun j => decide (S.1 9 j = 1) && (decide (S.1 5 j = st) && (decide (S.1 0 (S.1 6 j) = kd) && (!true || decide (S.1 8 j ≤ S.1 1 (S.1 6 j)))))) (fun j => S.1 7 j) i) + (S.1 7 i)))), (4, .int (nI i)), (0, .ref (q 0)), (1, .int (nI st)), (2, .int (nI kd))]) hx hb d_M_expected_87 rfl hl (by decide) rfl (fun ls hl => ?_)
                refine lv_iinc (v := nI (i + 1)) (lv' := [(4, .int (nI (i + 1))), (3, .int (nI ((good S st kd + sIf (fun j => decide (S.1 9 j = 1) && (decide (S.1 5 j = st) && (decide (S.1 0 (S.1 6 j) = kd) && (!true || decide (S.1 8 j ≤ S.1 1 (S.1 6 j)))))) (fun j => S.1 7 j) i) + (S.1 7 i)))), (0, .ref (q 0)), (1, .int (nI st)), (2, .int (nI kd))]) hx hb d_M_expected_88 hl (k := 1) rfl (nI_1 _) (by decide) rfl (fun ls hl => ?_)
                refine lv_goto (tgt := 10) hx hb d_M_expected_91 (by decide) ?_
                exact ih (i + 1) (by omega) (by omega) ls (lv_sub hl [0, 1, 2, 3, 4] (by rw [sIf_t (by simp [c37, c53, c75]; omega), ← Nat.add_assoc]; rfl))
  exact LP10 (S.2.1 3 + 1) 0 (by omega) (by omega) ls (lv_sub hl [0, 1, 2, 3, 4] rfl)
