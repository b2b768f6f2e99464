set_option maxHeartbeats 4000000 in
set_option maxRecDepth 100000 in
theorem c_H_isFull (l : Launch) (dC : Nat → ClassId) (dI : Nat → Nat → Nat) (cI : ClassId) (q : Nat → Nat) (S : St) (t : Nat) (hI : Bd t S)  : Met l y_H_isFull (.code y_H_isFull b_H_isFull 1 (some .boolean) :: bg) { frames := 0, cells := 0, slots := 0, locals := 0 } (pu_P (dC, dI) classes [(q 6, .inr (2, [.ref (q 16), .ref (q 17), .int (nI (S.2.1 7))])), (q 16, .inl (cI, 10, .inl (colf S.1 29))), (q 17, .inl (cI, 10, .inl (colf S.1 30)))] [(cI, .int)] [.ref (q 6)]) (pu_Q (.int (b2 (decide (10 ≤ S.2.1 7))))) 0 0 (fun _ => False) := by
  refine Met.ofW (cc := b_H_isFull) (maxL := 1) (ret := (some .boolean)) (by decide) rfl ?_
  intro p e s m args below meth c s₁ B hml hv
  obtain ⟨rfl, hP, hK⟩ := hv
  have hx := B.exec
  have hb := B.bytes
  have hr := B.returns
  have hts := fun w (h : w ∈ bg) => atoms_spec (ws := .code y_H_isFull b_H_isFull 1 (some .boolean) :: bg) B.pre w (List.mem_cons_of_mem _ h)
  have hown : s.vm.findClass R_H = some m.cls := findClass_of_methodNamed B.named
  have hlocks := B.notSynchronized
  have hl := lv_entry ([.ref (q 6)]) (n := 1) (Nat.le_of_ble_eq_true rfl)
  rw [lg_entry_eq]
  generalize (lg_sl ([.ref (q 6)]) ++ List.replicate (1 - (lg_sl ([.ref (q 6)])).length) Slot.unset).toArray = ls at hl ⊢
  have hl : lv_has ls 1 [(0, .ref (q 6))] := hl
  have hB := hI.1
  have hg0 : S.2.1 0 ≤ 8 := hI.2.1 0
  have hg1 : S.2.1 1 ≤ 9999 := hI.2.1 1
  have hg2 : S.2.1 2 ≤ 60 := hI.2.1 2
  have hg3 : S.2.1 3 ≤ 60 := hI.2.1 3
  have hg4 : S.2.1 4 ≤ 80 := hI.2.1 4
  have hg5 : S.2.1 5 ≤ 20 := hI.2.1 5
  have hg6 : S.2.1 6 ≤ 80 := hI.2.1 6
  have hg7 : S.2.1 7 ≤ 10 := hI.2.1 7
  have hg8 : t ≤ 512 := hI.2.2
  refine lv_aload_n hx hb d_H_isFull_0 rfl (lv_at hl 0 rfl) ?_
  refine va_get (D := (dC, dI)) (ci := 2) (v := .int (nI (S.2.1 7))) (C := R_H) (T := F_H) (N := 3) hx hb hts i_H hown hK hP 0 rfl rfl 2 (by decide) (hts _ wd_49) (fun _ h9 => h9) rfl d_H_isFull_1 ?_
  refine lv_bipush (v := nI 10) hx hb d_H_isFull_4 (by decide) ?_
  refine nv_clt (tgt := 13) hx hb (by omega) (by omega) d_H_isFull_6 (by decide) (fun c6 => ?_) (fun c6 => ?_)
  · refine lv_iconst (v := nI 0) hx hb d_H_isFull_13 (by decide) ?_
    refine nv_as (b2 (decide (10 ≤ S.2.1 7))) (by first | (rw [decide_eq_true (by omega)]; rfl) | (rw [decide_eq_false (by omega)]; rfl)) ?_
    exact W.zret hx hb hr (b2_nar _) (fun t ht hW => ⟨rfl, ht⟩) (fun q h => nomatch h) d_H_isFull_14
  · refine lv_iconst (v := nI 1) hx hb d_H_isFull_9 (by decide) ?_
    refine lv_goto (tgt := 14) hx hb d_H_isFull_10 (by decide) ?_
    refine nv_as (b2 (decide (10 ≤ S.2.1 7))) (by first | (rw [decide_eq_true (by omega)]; rfl) | (rw [decide_eq_false (by omega)]; rfl)) ?_
    exact W.zret hx hb hr (b2_nar _) (fun t ht hW => ⟨rfl, ht⟩) (fun q h => nomatch h) d_H_isFull_14
set_option maxHeartbeats 4000000 in
set_option maxRecDepth 100000 in
theorem c_H_isBelow (l : Launch) (dC : Nat → ClassId) (dI : Nat → Nat → Nat) (cI : ClassId) (q : Nat → Nat) (S : St) (t : Nat) (hI : Bd t S) (h v : Nat) (hh : h < 2 ^ 31) (hv0 : v < 2 ^ 31) : Met l y_H_isBelow (.code y_H_isBelow b_H_isBelow 3 (some .boolean) :: bg) { frames := 0, cells := 0, slots := 0, locals := 0 } (pu_P (dC, dI) classes [(q 6, .inr (2, [.ref (q 16), .ref (q 17), .int (nI (S.2.1 7))])), (q 16, .inl (cI, 10, .inl (colf S.1 29))), (q 17, .inl (cI, 10, .inl (colf S.1 30)))] [(cI, .int)] [.ref (q 6), .int (nI h), .int (nI v)]) (pu_Q (.int (b2 (decide (S.2.1 7 = 0 ∨ (S.1 29 (S.2.1 7 - 1) < h ∧ S.1 30 (S.2.1 7 - 1) < v)))))) 0 0 (fun _ => False) := by
  refine Met.ofW (cc := b_H_isBelow) (maxL := 3) (ret := (some .boolean)) (by decide) rfl ?_
  intro p e s m args below meth c s₁ B hml hv
  obtain ⟨rfl, hP, hK⟩ := hv
  have hx := B.exec
  have hb := B.bytes
  have hr := B.returns
  have hts := fun w (h : w ∈ bg) => atoms_spec (ws := .code y_H_isBelow b_H_isBelow 3 (some .boolean) :: bg) B.pre w (List.mem_cons_of_mem _ h)
  have hown : s.vm.findClass R_H = some m.cls := findClass_of_methodNamed B.named
  have hlocks := B.notSynchronized
  have hl := lv_entry ([.ref (q 6), .int (nI h), .int (nI v)]) (n := 3) (Nat.le_of_ble_eq_true rfl)
  rw [lg_entry_eq]
  generalize (lg_sl ([.ref (q 6), .int (nI h), .int (nI v)]) ++ List.replicate (3 - (lg_sl ([.ref (q 6), .int (nI h), .int (nI v)])).length) Slot.unset).toArray = ls at hl ⊢
  have hl : lv_has ls 3 [(0, .ref (q 6)), (1, .int (nI h)), (2, .int (nI v))] := hl
  have hB := hI.1
  have hg0 : S.2.1 0 ≤ 8 := hI.2.1 0
  have hg1 : S.2.1 1 ≤ 9999 := hI.2.1 1
  have hg2 : S.2.1 2 ≤ 60 := hI.2.1 2
  have hg3 : S.2.1 3 ≤ 60 := hI.2.1 3
  have hg4 : S.2.1 4 ≤ 80 := hI.2.1 4
  have hg5 : S.2.1 5 ≤ 20 := hI.2.1 5
  have hg6 : S.2.1 6 ≤ 80 := hI.2.1 6
  have hg7 : S.2.1 7 ≤ 10 := hI.2.1 7
  have hg8 : t ≤ 512 := hI.2.2
  refine lv_aload_n hx hb d_H_isBelow_0 rfl (lv_at hl 0 rfl) ?_
  refine va_get (D := (dC, dI)) (ci := 2) (v := .int (nI (S.2.1 7))) (C := R_H) (T := F_H) (N := 3) hx hb hts i_H hown hK hP 0 rfl rfl 2 (by decide) (hts _ wd_49) (fun _ h9 => h9) rfl d_H_isBelow_1 ?_
  refine nv_zeq (tgt := 37) hx hb (by omega) d_H_isBelow_4 (by decide) (fun c4 => ?_) (fun c4 => ?_)
  · refine lv_iconst (v := nI 1) hx hb d_H_isBelow_37 (by decide) ?_
    refine lv_goto (tgt := 42) hx hb d_H_isBelow_38 (by decide) ?_
    refine nv_as (b2 (decide (S.2.1 7 = 0 ∨ (S.1 29 (S.2.1 7 - 1) < h ∧ S.1 30 (S.2.1 7 - 1) < v)))) (by first | (rw [decide_eq_true (by omega)]; rfl) | (rw [decide_eq_false (by omega)]; rfl)) ?_
    exact W.zret hx hb hr (b2_nar _) (fun t ht hW => ⟨rfl, ht⟩) (fun q h => nomatch h) d_H_isBelow_42
  · refine lv_aload_n hx hb d_H_isBelow_7 rfl (lv_at hl 0 rfl) ?_
    refine va_get (D := (dC, dI)) (ci := 2) (v := .ref (q 16)) (C := R_H) (T := F_H) (N := 3) hx hb hts i_H hown hK hP 0 rfl rfl 0 (by decide) (hts _ wd_47) (fun _ h9 => h9) rfl d_H_isBelow_8 ?_
    refine lv_aload_n hx hb d_H_isBelow_11 rfl (lv_at hl 0 rfl) ?_
    refine va_get (D := (dC, dI)) (ci := 2) (v := .int (nI (S.2.1 7))) (C := R_H) (T := F_H) (N := 3) hx hb hts i_H hown hK hP 0 rfl rfl 2 (by decide) (hts _ wd_49) (fun _ h9 => h9) rfl d_H_isBelow_12 ?_
    refine lv_iconst (v := nI 1) hx hb d_H_isBelow_15 (by decide) ?_
    refine nv_sub hx hb (by omega) d_H_isBelow_16 ?_
    refine nv_iald (v := nI (S.1 29 ((S.2.1 7) - 1))) hx hb hK hP 1 0 rfl rfl (by omega) (by decide) rfl d_H_isBelow_17 ?_
    have hb17 : S.1 29 (S.2.1 7 - 1) ≤ 99999 := hB 29 _
    refine lv_iload_n hx hb d_H_isBelow_18 rfl (lv_at hl 1 rfl) ?_
    refine nv_cge (tgt := 41) hx hb (by omega) (by omega) d_H_isBelow_19 (by decide) (fun c19 => ?_) (fun c19 => ?_)
    · refine lv_iconst (v := nI 0) hx hb d_H_isBelow_41 (by decide) ?_
      refine nv_as (b2 (decide (S.2.1 7 = 0 ∨ (S.1 29 (S.2.1 7 - 1) < h ∧ S.1 30 (S.2.1 7 - 1) < v)))) (by first | (rw [decide_eq_true (by omega)]; rfl) | (rw [decide_eq_false (by omega)]; rfl)) ?_
      exact W.zret hx hb hr (b2_nar _) (fun t ht hW => ⟨rfl, ht⟩) (fun q h => nomatch h) d_H_isBelow_42
    · refine lv_aload_n hx hb d_H_isBelow_22 rfl (lv_at hl 0 rfl) ?_
      refine va_get (D := (dC, dI)) (ci := 2) (v := .ref (q 17)) (C := R_H) (T := F_H) (N := 3) hx hb hts i_H hown hK hP 0 rfl rfl 1 (by decide) (hts _ wd_48) (fun _ h9 => h9) rfl d_H_isBelow_23 ?_
      refine lv_aload_n hx hb d_H_isBelow_26 rfl (lv_at hl 0 rfl) ?_
      refine va_get (D := (dC, dI)) (ci := 2) (v := .int (nI (S.2.1 7))) (C := R_H) (T := F_H) (N := 3) hx hb hts i_H hown hK hP 0 rfl rfl 2 (by decide) (hts _ wd_49) (fun _ h9 => h9) rfl d_H_isBelow_27 ?_
      refine lv_iconst (v := nI 1) hx hb d_H_isBelow_30 (by decide) ?_
      refine nv_sub hx hb (by omega) d_H_isBelow_31 ?_
      refine nv_iald (v := nI (S.1 30 ((S.2.1 7) - 1))) hx hb hK hP 2 0 rfl rfl (by omega) (by decide) rfl d_H_isBelow_32 ?_
      have hb32 : S.1 30 (S.2.1 7 - 1) ≤ 99999 := hB 30 _
      refine lv_iload_n hx hb d_H_isBelow_33 rfl (lv_at hl 2 rfl) ?_
      refine nv_cge (tgt := 41) hx hb (by omega) (by omega) d_H_isBelow_34 (by decide) (fun c34 => ?_) (fun c34 => ?_)
      · refine lv_iconst (v := nI 0) hx hb d_H_isBelow_41 (by decide) ?_
        refine nv_as (b2 (decide (S.2.1 7 = 0 ∨ (S.1 29 (S.2.1 7 - 1) < h ∧ S.1 30 (S.2.1 7 - 1) < v)))) (by first | (rw [decide_eq_true (by omega)]; rfl) | (rw [decide_eq_false (by omega)]; rfl)) ?_
        exact W.zret hx hb hr (b2_nar _) (fun t ht hW => ⟨rfl, ht⟩) (fun q h => nomatch h) d_H_isBelow_42
      · refine lv_iconst (v := nI 1) hx hb d_H_isBelow_37 (by decide) ?_
        refine lv_goto (tgt := 42) hx hb d_H_isBelow_38 (by decide) ?_
        refine nv_as (b2 (decide (S.2.1 7 = 0 ∨ (S.1 29 (S.2.1 7 - 1) < h ∧ S.1 30 (S.2.1 7 - 1) < v)))) (by first | (rw [decide_eq_true (by omega)]; rfl) | (rw [decide_eq_false (by omega)]; rfl)) ?_
        exact W.zret hx hb hr (b2_nar _) (fun t ht hW => ⟨rfl, ht⟩) (fun q h => nomatch h) d_H_isBelow_42
set_option maxHeartbeats 4000000 in
set_option maxRecDepth 100000 in
theorem c_H_lastNotAbove (l : Launch) (dC : Nat → ClassId) (dI : Nat → Nat → Nat) (cI : ClassId) (q : Nat → Nat) (S : St) (t : Nat) (hI : Bd t S) (h : Nat) (hh : h < 2 ^ 31) : Met l y_H_lastNotAbove (.code y_H_lastNotAbove b_H_lastNotAbove 4 (some .int) :: bg) { frames := 0, cells := 0, slots := 0, locals := 0 } (pu_P (dC, dI) classes [(q 6, .inr (2, [.ref (q 16), .ref (q 17), .int (nI (S.2.1 7))])), (q 16, .inl (cI, 10, .inl (colf S.1 29))), (q 17, .inl (cI, 10, .inl (colf S.1 30)))] [(cI, .int)] [.ref (q 6), .int (nI h)]) (pu_Q (.int (o2 (lna S h (S.2.1 7))))) 0 0 (fun _ => False) := by
  refine Met.ofW (cc := b_H_lastNotAbove) (maxL := 4) (ret := (some .int)) (by decide) rfl ?_
  intro p e s m args below meth c s₁ B hml hv
  obtain ⟨rfl, hP, hK⟩ := hv
  have hx := B.exec
  have hb := B.bytes
  have hr := B.returns
  have hts := fun w (h : w ∈ bg) => atoms_spec (ws := .code y_H_lastNotAbove b_H_lastNotAbove 4 (some .int) :: bg) B.pre w (List.mem_cons_of_mem _ h)
  have hown : s.vm.findClass R_H = some m.cls := findClass_of_methodNamed B.named
  have hlocks := B.notSynchronized
  have hl := lv_entry ([.ref (q 6), .int (nI h)]) (n := 4) (Nat.le_of_ble_eq_true rfl)
  rw [lg_entry_eq]
  generalize (lg_sl ([.ref (q 6), .int (nI h)]) ++ List.replicate (4 - (lg_sl ([.ref (q 6), .int (nI h)])).length) Slot.unset).toArray = ls at hl ⊢
  have hl : lv_has ls 4 [(0, .ref (q 6)), (1, .int (nI h))] := hl
  have hB := hI.1
  have hg0 : S.2.1 0 ≤ 8 := hI.2.1 0
  have hg1 : S.2.1 1 ≤ 9999 := hI.2.1 1
  have hg2 : S.2.1 2 ≤ 60 := hI.2.1 2
  have hg3 : S.2.1 3 ≤ 60 := hI.2.1 3
  have hg4 : S.2.1 4 ≤ 80 := hI.2.1 4
  have hg5 : S.2.1 5 ≤ 20 := hI.2.1 5
  have hg6 : S.2.1 6 ≤ 80 := hI.2.1 6
  have hg7 : S.2.1 7 ≤ 10 := hI.2.1 7
  have hg8 : t ≤ 512 := hI.2.2
  refine lv_iconst (v := (-1)) hx hb d_H_lastNotAbove_0 (by decide) ?_
  refine lv_istore_n (lv' := [(2, .int (-1)), (0, .ref (q 6)), (1, .int (nI h))]) hx hb d_H_lastNotAbove_1 rfl hl (by decide) rfl (fun ls hl => ?_)
  refine lv_iconst (v := nI 0) hx hb d_H_lastNotAbove_2 (by decide) ?_
  refine lv_istore_n (lv' := [(3, .int (nI 0)), (2, .int (-1)), (0, .ref (q 6)), (1, .int (nI h))]) hx hb d_H_lastNotAbove_3 rfl hl (by decide) rfl (fun ls hl => ?_)
  have LP4 : ∀ (fu i : Nat), S.2.1 7 - i < fu → i ≤ S.2.1 7 → ∀ ls : Array Slot, lv_has ls 4 [(3, .int (nI i)), (2, .int (o2 (lna S h i))), (0, .ref (q 6)), (1, .int (nI h))] → W p l e (headSpec (.code y_H_lastNotAbove b_H_lastNotAbove 4 (some .int) :: bg) { frames := 0, cells := 0, slots := 0, locals := 0 }).room s m (List.toArray [.ref (q 6), .int (nI h)]) below meth c s.heap [] 0 0 (MQ below (pu_Q (.int (o2 (lna S h (S.2.1 7))))) (List.toArray [.ref (q 6), .int (nI h)]) s 0 0 (fun _ => False)) (F0 m 4 ls []) := by
    intro fu
    induction fu with
    | zero => intro i h; exact absurd h (Nat.not_lt_zero _)
    | succ fu ih =>
      intro i hfu hi ls hl
      refine lv_iload_n hx hb d_H_lastNotAbove_4 rfl (lv_at hl 0 rfl) ?_
      refine lv_aload_n hx hb d_H_lastNotAbove_5 rfl (lv_at hl 2 rfl) ?_
      refine va_get (D := (dC, dI)) (ci := 2) (v := .int (nI (S.2.1 7))) (C := R_H) (T := F_H) (N := 3) hx hb hts i_H hown hK hP 0 rfl rfl 2 (by decide) (hts _ wd_49) (fun _ h9 => h9) rfl d_H_lastNotAbove_6 ?_
      refine nv_cge (tgt := 30) hx hb (by omega) (by omega) d_H_lastNotAbove_9 (by decide) (fun c9 => ?_) (fun c9 => ?_)
      · obtain rfl : i = S.2.1 7 := by omega
        refine lv_iload_n hx hb d_H_lastNotAbove_30 rfl (lv_at hl 1 rfl) ?_
        refine nv_as (o2 (lna S h (S.2.1 7))) (by rfl) ?_
        exact W.iret hx hb hr (fun t ht hW => ⟨rfl, ht⟩) (fun q h => nomatch h) d_H_lastNotAbove_31
      · refine lv_aload_n hx hb d_H_lastNotAbove_12 rfl (lv_at hl 2 rfl) ?_
        refine va_get (D := (dC, dI)) (ci := 2) (v := .ref (q 16)) (C := R_H) (T := F_H) (N := 3) hx hb hts i_H hown hK hP 0 rfl rfl 0 (by decide) (hts _ wd_47) (fun _ h9 => h9) rfl d_H_lastNotAbove_13 ?_
        refine lv_iload_n hx hb d_H_lastNotAbove_16 rfl (lv_at hl 0 rfl) ?_
        refine nv_iald (v := nI (S.1 29 i)) hx hb hK hP 1 0 rfl rfl (by omega) (by decide) rfl d_H_lastNotAbove_17 ?_
        have hb17 : S.1 29 i ≤ 99999 := hB 29 _
        refine lv_iload_n hx hb d_H_lastNotAbove_18 rfl (lv_at hl 3 rfl) ?_
        refine nv_cgt (tgt := 24) hx hb (by omega) (by omega) d_H_lastNotAbove_19 (by decide) (fun c19 => ?_) (fun c19 => ?_)
        · refine lv_iinc (v := nI (i + 1)) (lv' := [(3, .int (nI (i + 1))), (2, .int (o2 (lna S h i))), (0, .ref (q 6)), (1, .int (nI h))]) hx hb d_H_lastNotAbove_24 hl (k := 0) rfl (nI_1 _) (by decide) rfl (fun ls hl => ?_)
          refine lv_goto (tgt := 4) hx hb d_H_lastNotAbove_27 (by decide) ?_
          exact ih (i + 1) (by omega) (by omega) ls (lv_sub hl [0, 1, 2, 3] (by rw [lna_n c19]; rfl))
        · refine lv_iload_n hx hb d_H_lastNotAbove_22 rfl (lv_at hl 0 rfl) ?_
          refine lv_istore_n (lv' := [(2, .int (nI i)), (3, .int (nI i)), (0, .ref (q 6)), (1, .int (nI h))]) hx hb d_H_lastNotAbove_23 rfl hl (by decide) rfl (fun ls hl => ?_)
          refine lv_iinc (v := nI (i + 1)) (lv' := [(3, .int (nI (i + 1))), (2, .int (nI i)), (0, .ref (q 6)), (1, .int (nI h))]) hx hb d_H_lastNotAbove_24 hl (k := 1) rfl (nI_1 _) (by decide) rfl (fun ls hl => ?_)
          refine lv_goto (tgt := 4) hx hb d_H_lastNotAbove_27 (by decide) ?_
          exact ih (i + 1) (by omega) (by omega) ls (lv_sub hl [0, 1, 2, 3] (by rw [lna_y c19]; rfl))
  exact LP4 (S.2.1 7 + 1) 0 (by omega) (by omega) ls (lv_sub hl [0, 1, 2, 3] rfl)
set_option maxHeartbeats 4000000 in
set_option maxRecDepth 100000 in
theorem c_H_litresBetween (l : Launch) (dC : Nat → ClassId) (dI : Nat → Nat → Nat) (cI : ClassId) (q : Nat → Nat) (S : St) (t : Nat) (hI : Bd t S) (b h : Nat) (hb0 : b + 1 < S.2.1 7) (h1 : S.1 29 b < S.1 29 (b + 1)) (h2 : S.1 30 b < S.1 30 (b + 1)) (h3 : S.1 29 b ≤ h) (hh : h ≤ 99999) : Met l y_H_litresBetween (.code y_H_litresBetween b_H_litresBetween 7 (some .int) :: bg) { frames := 0, cells := 0, slots := 0, locals := 0 } (pu_P (dC, dI) classes [(q 6, .inr (2, [.ref (q 16), .ref (q 17), .int (nI (S.2.1 7))])), (q 16, .inl (cI, 10, .inl (colf S.1 29))), (q 17, .inl (cI, 10, .inl (colf S.1 30)))] [(cI, .int)] [.ref (q 6), .int (nI b), .int (nI (b + 1)), .int (nI h)]) (pu_Q (.int (nI (S.1 30 b + (S.1 30 (b + 1) - S.1 30 b) * (h - S.1 29 b) / (S.1 29 (b + 1) - S.1 29 b))))) 0 0 (fun _ => False) := by
  refine Met.ofW (cc := b_H_litresBetween) (maxL := 7) (ret := (some .int)) (by decide) rfl ?_
  intro p e s m args below meth c s₁ B hml hv
  obtain ⟨rfl, hP, hK⟩ := hv
  have hx := B.exec
  have hb := B.bytes
  have hr := B.returns
  have hts := fun w (h : w ∈ bg) => atoms_spec (ws := .code y_H_litresBetween b_H_litresBetween 7 (some .int) :: bg) B.pre w (List.mem_cons_of_mem _ h)
  have hown : s.vm.findClass R_H = some m.cls := findClass_of_methodNamed B.named
  have hlocks := B.notSynchronized
  have hl := lv_entry ([.ref (q 6), .int (nI b), .int (nI (b + 1)), .int (nI h)]) (n := 7) (Nat.le_of_ble_eq_true rfl)
  rw [lg_entry_eq]
  generalize (lg_sl ([.ref (q 6), .int (nI b), .int (nI (b + 1)), .int (nI h)]) ++ List.replicate (7 - (lg_sl ([.ref (q 6), .int (nI b), .int (nI (b + 1)), .int (nI h)])).length) Slot.unset).toArray = ls at hl ⊢
  have hl : lv_has ls 7 [(0, .ref (q 6)), (1, .int (nI b)), (2, .int (nI (b + 1))), (3, .int (nI h))] := hl
  have hB := hI.1
  have hg0 : S.2.1 0 ≤ 8 := hI.2.1 0
  have hg1 : S.2.1 1 ≤ 9999 := hI.2.1 1
  have hg2 : S.2.1 2 ≤ 60 := hI.2.1 2
  have hg3 : S.2.1 3 ≤ 60 := hI.2.1 3
  have hg4 : S.2.1 4 ≤ 80 := hI.2.1 4
  have hg5 : S.2.1 5 ≤ 20 := hI.2.1 5
  have hg6 : S.2.1 6 ≤ 80 := hI.2.1 6
  have hg7 : S.2.1 7 ≤ 10 := hI.2.1 7
  have hg8 : t ≤ 512 := hI.2.2
  refine lv_aload_n hx hb d_H_litresBetween_0 rfl (lv_at hl 0 rfl) ?_
  refine va_get (D := (dC, dI)) (ci := 2) (v := .ref (q 16)) (C := R_H) (T := F_H) (N := 3) hx hb hts i_H hown hK hP 0 rfl rfl 0 (by decide) (hts _ wd_47) (fun _ h9 => h9) rfl d_H_litresBetween_1 ?_
  refine lv_iload_n hx hb d_H_litresBetween_4 rfl (lv_at hl 2 rfl) ?_
  refine nv_iald (v := nI (S.1 29 (b + 1))) hx hb hK hP 1 0 rfl rfl (by omega) (by decide) rfl d_H_litresBetween_5 ?_
  have hb5 : S.1 29 (b + 1) ≤ 99999 := hB 29 _
  refine lv_aload_n hx hb d_H_litresBetween_6 rfl (lv_at hl 0 rfl) ?_
  refine va_get (D := (dC, dI)) (ci := 2) (v := .ref (q 16)) (C := R_H) (T := F_H) (N := 3) hx hb hts i_H hown hK hP 0 rfl rfl 0 (by decide) (hts _ wd_47) (fun _ h9 => h9) rfl d_H_litresBetween_7 ?_
  refine lv_iload_n hx hb d_H_litresBetween_10 rfl (lv_at hl 1 rfl) ?_
  refine nv_iald (v := nI (S.1 29 b)) hx hb hK hP 1 0 rfl rfl (by omega) (by decide) rfl d_H_litresBetween_11 ?_
  refine nv_sub hx hb (by omega) d_H_litresBetween_12 ?_
  refine lv_istore (lv' := [(4, .int (nI ((S.1 29 (b + 1)) - (S.1 29 b)))), (0, .ref (q 6)), (1, .int (nI b)), (2, .int (nI (b + 1))), (3, .int (nI h))]) hx hb d_H_litresBetween_13 hl (by decide) rfl (fun ls hl => ?_)
  refine lv_iload hx hb d_H_litresBetween_15 (lv_at hl 0 rfl) ?_
  refine nv_zgt (tgt := 27) hx hb (by omega) d_H_litresBetween_17 (by decide) (fun c17 => ?_) (fun c17 => ?_)
  · refine lv_aload_n hx hb d_H_litresBetween_27 rfl (lv_at hl 1 rfl) ?_
    refine va_get (D := (dC, dI)) (ci := 2) (v := .ref (q 17)) (C := R_H) (T := F_H) (N := 3) hx hb hts i_H hown hK hP 0 rfl rfl 1 (by decide) (hts _ wd_48) (fun _ h9 => h9) rfl d_H_litresBetween_28 ?_
    refine lv_iload_n hx hb d_H_litresBetween_31 rfl (lv_at hl 3 rfl) ?_
    refine nv_iald (v := nI (S.1 30 (b + 1))) hx hb hK hP 2 0 rfl rfl (by omega) (by decide) rfl d_H_litresBetween_32 ?_
    have hb32 : S.1 30 (b + 1) ≤ 99999 := hB 30 _
    refine lv_aload_n hx hb d_H_litresBetween_33 rfl (lv_at hl 1 rfl) ?_
    refine va_get (D := (dC, dI)) (ci := 2) (v := .ref (q 17)) (C := R_H) (T := F_H) (N := 3) hx hb hts i_H hown hK hP 0 rfl rfl 1 (by decide) (hts _ wd_48) (fun _ h9 => h9) rfl d_H_litresBetween_34 ?_
    refine lv_iload_n hx hb d_H_litresBetween_37 rfl (lv_at hl 2 rfl) ?_
    refine nv_iald (v := nI (S.1 30 b)) hx hb hK hP 2 0 rfl rfl (by omega) (by decide) rfl d_H_litresBetween_38 ?_
    refine nv_sub hx hb (by omega) d_H_litresBetween_39 ?_
    refine lv_i2l (v := lN ((S.1 30 (b + 1)) - (S.1 30 b))) hx hb d_H_litresBetween_40 (nI_l (by omega)) ?_
    refine lv_iload_n hx hb d_H_litresBetween_41 rfl (lv_at hl 4 rfl) ?_
    refine lv_aload_n hx hb d_H_litresBetween_42 rfl (lv_at hl 1 rfl) ?_
    refine va_get (D := (dC, dI)) (ci := 2) (v := .ref (q 16)) (C := R_H) (T := F_H) (N := 3) hx hb hts i_H hown hK hP 0 rfl rfl 0 (by decide) (hts _ wd_47) (fun _ h9 => h9) rfl d_H_litresBetween_43 ?_
    refine lv_iload_n hx hb d_H_litresBetween_46 rfl (lv_at hl 2 rfl) ?_
    refine nv_iald (v := nI (S.1 29 b)) hx hb hK hP 1 0 rfl rfl (by omega) (by decide) rfl d_H_litresBetween_47 ?_
    refine nv_sub hx hb (by omega) d_H_litresBetween_48 ?_
    refine lv_i2l (v := lN (h - (S.1 29 b))) hx hb d_H_litresBetween_49 (nI_l (by omega)) ?_
    refine nv_lmul hx hb d_H_litresBetween_50 ?_
    refine lv_iload hx hb d_H_litresBetween_51 (lv_at hl 0 rfl) ?_
    refine lv_i2l (v := lN ((S.1 29 (b + 1)) - (S.1 29 b))) hx hb d_H_litresBetween_53 (nI_l (by omega)) ?_
    refine nv_ldiv hx hb (Nat.lt_of_le_of_lt (Nat.mul_le_mul (show _ ≤ 99999 by omega) (show _ ≤ 99999 by omega)) (by decide)) (by omega) (by omega) d_H_litresBetween_54 ?_
    refine lv_lstore (lv' := [(5, .long (lN ((((S.1 30 (b + 1)) - (S.1 30 b)) * (h - (S.1 29 b))) / ((S.1 29 (b + 1)) - (S.1 29 b))))), (4, .int (nI ((S.1 29 (b + 1)) - (S.1 29 b)))), (0, .ref (q 6)), (1, .int (nI b)), (2, .int (nI (b + 1))), (3, .int (nI h))]) hx hb d_H_litresBetween_55 hl (by decide) rfl (fun ls hl => ?_)
    refine lv_aload_n hx hb d_H_litresBetween_57 rfl (lv_at hl 2 rfl) ?_
    refine va_get (D := (dC, dI)) (ci := 2) (v := .ref (q 17)) (C := R_H) (T := F_H) (N := 3) hx hb hts i_H hown hK hP 0 rfl rfl 1 (by decide) (hts _ wd_48) (fun _ h9 => h9) rfl d_H_litresBetween_58 ?_
    refine lv_iload_n hx hb d_H_litresBetween_61 rfl (lv_at hl 3 rfl) ?_
    refine nv_iald (v := nI (S.1 30 b)) hx hb hK hP 2 0 rfl rfl (by omega) (by decide) rfl d_H_litresBetween_62 ?_
    refine lv_lload hx hb d_H_litresBetween_63 (lv_at hl 0 rfl) ?_
    refine lv_l2i (v := nI ((((S.1 30 (b + 1)) - (S.1 30 b)) * (h - (S.1 29 b))) / ((S.1 29 (b + 1)) - (S.1 29 b)))) hx hb d_H_litresBetween_65 (lN_i _) ?_
    refine nv_add hx hb d_H_litresBetween_66 ?_
    refine nv_as (nI (S.1 30 b + (S.1 30 (b + 1) - S.1 30 b) * (h - S.1 29 b) / (S.1 29 (b + 1) - S.1 29 b))) (by rfl) ?_
    exact W.iret hx hb hr (fun t ht hW => ⟨rfl, ht⟩) (fun q h => nomatch h) d_H_litresBetween_67
  · exact absurd c17 (by omega)
set_option maxHeartbeats 4000000 in
set_option maxRecDepth 100000 in
theorem c_H_litresAt (l : Launch) (dC : Nat → ClassId) (dI : Nat → Nat → Nat) (cI : ClassId) (q : Nat → Nat) (S : St) (t : Nat) (hI : Bd t S) (h : Nat) (hh : h ≤ 99999) (hso : ∀ b, b + 1 < S.2.1 7 → S.1 29 b < S.1 29 (b + 1) ∧ S.1 30 b < S.1 30 (b + 1)) : Met l y_H_litresAt (.code y_H_litresAt b_H_litresAt 3 (some .int) :: bg) { frames := 1, cells := 0, slots := 0, locals := 26 } (pu_P (dC, dI) classes [(q 6, .inr (2, [.ref (q 16), .ref (q 17), .int (nI (S.2.1 7))])), (q 16, .inl (cI, 10, .inl (colf S.1 29))), (q 17, .inl (cI, 10, .inl (colf S.1 30)))] [(cI, .int)] [.ref (q 6), .int (nI h)]) (pu_Q (.int (dipv S h))) 0 0 (fun _ => False) := by
  refine Met.ofW (cc := b_H_litresAt) (maxL := 3) (ret := (some .int)) (by decide) rfl ?_
  intro p e s m args below meth c s₁ B hml hv
  obtain ⟨rfl, hP, hK⟩ := hv
  have hx := B.exec
  have hb := B.bytes
  have hr := B.returns
  have hts := fun w (h : w ∈ bg) => atoms_spec (ws := .code y_H_litresAt b_H_litresAt 3 (some .int) :: bg) B.pre w (List.mem_cons_of_mem _ h)
  have hown : s.vm.findClass R_H = some m.cls := findClass_of_methodNamed B.named
  have hlocks := B.notSynchronized
  have hl := lv_entry ([.ref (q 6), .int (nI h)]) (n := 3) (Nat.le_of_ble_eq_true rfl)
  rw [lg_entry_eq]
  generalize (lg_sl ([.ref (q 6), .int (nI h)]) ++ List.replicate (3 - (lg_sl ([.ref (q 6), .int (nI h)])).length) Slot.unset).toArray = ls at hl ⊢
  have hl : lv_has ls 3 [(0, .ref (q 6)), (1, .int (nI h))] := hl
  have hB := hI.1
  have hg0 : S.2.1 0 ≤ 8 := hI.2.1 0
  have hg1 : S.2.1 1 ≤ 9999 := hI.2.1 1
  have hg2 : S.2.1 2 ≤ 60 := hI.2.1 2
  have hg3 : S.2.1 3 ≤ 60 := hI.2.1 3
  have hg4 : S.2.1 4 ≤ 80 := hI.2.1 4
  have hg5 : S.2.1 5 ≤ 20 := hI.2.1 5
  have hg6 : S.2.1 6 ≤ 80 := hI.2.1 6
  have hg7 : S.2.1 7 ≤ 10 := hI.2.1 7
  have hg8 : t ≤ 512 := hI.2.2
  refine lv_aload_n hx hb d_H_litresAt_0 rfl (lv_at hl 0 rfl) ?_
  refine lv_iload_n hx hb d_H_litresAt_1 rfl (lv_at hl 1 rfl) ?_
  refine pu_go (va_runV (As := [.int (nI h)]) (rest := []) ⟨hx, hb, hml, hown, hts⟩ (c_H_lastNotAbove l dC dI cI q S t hI h (by omega)) (cwV 1 hts (gi_V wd_534 wd_536 wp_20 wd_4 wd_537) rfl rfl rfl (by decide +kernel) ⟨Nat.le_of_ble_eq_true rfl, Nat.le_of_ble_eq_true rfl⟩) (pu_preV hK hP (ci := 2) (q0 := 0) rfl rfl) rfl rfl hl.1 rfl (lv_room (Nat.le_of_ble_eq_true rfl)) d_H_litresAt_2 ⟨Nat.le_of_ble_eq_true rfl, Nat.le_of_ble_eq_true rfl⟩) ?_
  refine lv_istore_n (lv' := [(2, .int (o2 (lna S h (S.2.1 7)))), (0, .ref (q 6)), (1, .int (nI h))]) hx hb d_H_litresAt_5 rfl hl (by decide) rfl (fun ls hl => ?_)
  refine lv_iload_n hx hb d_H_litresAt_6 rfl (lv_at hl 0 rfl) ?_
  refine lv_if_ge (tgt := 12) hx hb d_H_litresAt_7 (by decide) (fun c7 => ?_) (fun c7 => ?_)
  · obtain ⟨b, hbb⟩ := o2_some (Int32.not_lt.mpr c7)
    have hlb := (lna_lt hbb).1
    have hl : lv_has ls 3 [(2, .int (nI b)), (0, .ref (q 6)), (1, .int (nI h))] := by rw [hbb] at hl; exact hl
    refine lv_aload_n hx hb d_H_litresAt_12 rfl (lv_at hl 1 rfl) ?_
    refine va_get (D := (dC, dI)) (ci := 2) (v := .ref (q 16)) (C := R_H) (T := F_H) (N := 3) hx hb hts i_H hown hK hP 0 rfl rfl 0 (by decide) (hts _ wd_47) (fun _ h9 => h9) rfl d_H_litresAt_13 ?_
    refine lv_iload_n hx hb d_H_litresAt_16 rfl (lv_at hl 0 rfl) ?_
    refine nv_iald (v := nI (S.1 29 b)) hx hb hK hP 1 0 rfl rfl (by omega) (by decide) rfl d_H_litresAt_17 ?_
    have hb17 : S.1 29 b ≤ 99999 := hB 29 _
    refine lv_iload_n hx hb d_H_litresAt_18 rfl (lv_at hl 2 rfl) ?_
    refine nv_cne (tgt := 29) hx hb (by omega) (by omega) d_H_litresAt_19 (by decide) (fun c19 => ?_) (fun c19 => ?_)
    · refine lv_iload_n hx hb d_H_litresAt_29 rfl (lv_at hl 0 rfl) ?_
      refine lv_iconst (v := nI 1) hx hb d_H_litresAt_30 (by decide) ?_
      refine nv_add hx hb d_H_litresAt_31 ?_
      refine lv_aload_n hx hb d_H_litresAt_32 rfl (lv_at hl 1 rfl) ?_
      refine va_get (D := (dC, dI)) (ci := 2) (v := .int (nI (S.2.1 7))) (C := R_H) (T := F_H) (N := 3) hx hb hts i_H hown hK hP 0 rfl rfl 2 (by decide) (hts _ wd_49) (fun _ h9 => h9) rfl d_H_litresAt_33 ?_
      refine nv_cge (tgt := 51) hx hb (by omega) (by omega) d_H_litresAt_36 (by decide) (fun c36 => ?_) (fun c36 => ?_)
      · refine lv_iconst (v := (-1)) hx hb d_H_litresAt_51 (by decide) ?_
        refine nv_as (dipv S h) (by unfold dipv; rw [hbb]; simp only [c19, if_false, Nat.not_lt.mpr c36]) ?_
        exact W.iret hx hb hr (fun t ht hW => ⟨rfl, ht⟩) (fun q h => nomatch h) d_H_litresAt_52
      · refine lv_aload_n hx hb d_H_litresAt_39 rfl (lv_at hl 1 rfl) ?_
        refine lv_iload_n hx hb d_H_litresAt_40 rfl (lv_at hl 0 rfl) ?_
        refine lv_iload_n hx hb d_H_litresAt_41 rfl (lv_at hl 0 rfl) ?_
        refine lv_iconst (v := nI 1) hx hb d_H_litresAt_42 (by decide) ?_
        refine nv_add hx hb d_H_litresAt_43 ?_
        refine lv_iload_n hx hb d_H_litresAt_44 rfl (lv_at hl 2 rfl) ?_
        refine pu_go (va_runV (As := [.int (nI b), .int (nI (b + 1)), .int (nI h)]) (rest := []) ⟨hx, hb, hml, hown, hts⟩ (c_H_litresBetween l dC dI cI q S t hI b h (by omega) (hso b (by omega)).1 (hso b (by omega)).2 (lna_lt hbb).2 hh) (cwV 3 hts (gi_V wd_538 wd_540 wp_21 wd_4 wd_541) rfl rfl rfl (by decide +kernel) ⟨Nat.le_of_ble_eq_true rfl, Nat.le_of_ble_eq_true rfl⟩) (pu_preV hK hP (ci := 2) (q0 := 0) rfl rfl) rfl rfl hl.1 rfl (lv_room (Nat.le_of_ble_eq_true rfl)) d_H_litresAt_45 ⟨Nat.le_of_ble_eq_true rfl, Nat.le_of_ble_eq_true rfl⟩) ?_
        refine lv_goto (tgt := 52) hx hb d_H_litresAt_48 (by decide) ?_
        refine nv_as (dipv S h) (by unfold dipv; rw [hbb]; simp only [c19, if_false, c36, if_true]) ?_
        exact W.iret hx hb hr (fun t ht hW => ⟨rfl, ht⟩) (fun q h => nomatch h) d_H_litresAt_52
    · refine lv_aload_n hx hb d_H_litresAt_22 rfl (lv_at hl 1 rfl) ?_
      refine va_get (D := (dC, dI)) (ci := 2) (v := .ref (q 17)) (C := R_H) (T := F_H) (N := 3) hx hb hts i_H hown hK hP 0 rfl rfl 1 (by decide) (hts _ wd_48) (fun _ h9 => h9) rfl d_H_litresAt_23 ?_
      refine lv_iload_n hx hb d_H_litresAt_26 rfl (lv_at hl 0 rfl) ?_
      refine nv_iald (v := nI (S.1 30 b)) hx hb hK hP 2 0 rfl rfl (by omega) (by decide) rfl d_H_litresAt_27 ?_
      refine nv_as (dipv S h) (by unfold dipv; rw [hbb]; simp only [c19, if_true]) ?_
      exact W.iret hx hb hr (fun t ht hW => ⟨rfl, ht⟩) (fun q h => nomatch h) d_H_litresAt_28
  · refine lv_iconst (v := (-1)) hx hb d_H_litresAt_10 (by decide) ?_
    refine nv_as (dipv S h) (by unfold dipv; rw [o2_none (Int32.not_le.mp c7) (fun b hb => by have := (lna_lt hb).1; omega)]) ?_
    exact W.iret hx hb hr (fun t ht hW => ⟨rfl, ht⟩) (fun q h => nomatch h) d_H_litresAt_11
