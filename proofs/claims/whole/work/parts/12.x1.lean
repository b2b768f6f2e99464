set_option maxHeartbeats 4000000 in
set_option maxRecDepth 100000 in
theorem c_X_place (l : Launch) (dC : Nat → ClassId) (dI : Nat → Nat → Nat) (a b : Nat) : Met l y_X_place (.code y_X_place b_X_place 2 (some .int) :: bg) { frames := 0, cells := 0, slots := 0, locals := 0 } (pu_P (dC, dI) classes [] [] [.int (nI a), .int (nI b)]) (pu_Q (.int (nI (a * 60 + b)))) 0 0 (fun _ => False) := by
  refine Met.ofW (cc := b_X_place) (maxL := 2) (ret := (some .int)) (by decide) rfl ?_
  intro p e s m args below meth c s₁ B hml hv
  obtain ⟨rfl, hP, hK⟩ := hv
  have hx := B.exec
  have hb := B.bytes
  have hr := B.returns
  have hts := fun w (h : w ∈ bg) => atoms_spec (ws := .code y_X_place b_X_place 2 (some .int) :: bg) B.pre w (List.mem_cons_of_mem _ h)
  have hown : s.vm.findClass R_X = some m.cls := findClass_of_methodNamed B.named
  have hlocks := B.notSynchronized
  have hl := lv_entry ([.int (nI a), .int (nI b)]) (n := 2) (Nat.le_of_ble_eq_true rfl)
  rw [lg_entry_eq]
  generalize (lg_sl ([.int (nI a), .int (nI b)]) ++ List.replicate (2 - (lg_sl ([.int (nI a), .int (nI b)])).length) Slot.unset).toArray = ls at hl ⊢
  have hl : lv_has ls 2 [(0, .int (nI a)), (1, .int (nI b))] := hl
  refine lv_iload_n hx hb d_X_place_0 rfl (lv_at hl 0 rfl) ?_
  refine lv_bipush (v := nI 60) hx hb d_X_place_1 (by decide) ?_
  refine nv_mul hx hb d_X_place_3 ?_
  refine lv_iload_n hx hb d_X_place_4 rfl (lv_at hl 1 rfl) ?_
  refine nv_add hx hb d_X_place_5 ?_
  refine nv_as (nI (a * 60 + b)) (by rfl) ?_
  exact W.iret hx hb hr (fun t ht hW => ⟨rfl, ht⟩) (fun q h => nomatch h) d_X_place_6
set_option maxHeartbeats 4000000 in
set_option maxRecDepth 100000 in
theorem c_X_pair (l : Launch) (dC : Nat → ClassId) (dI : Nat → Nat → Nat) (a b : Nat) : Met l y_X_pair (.code y_X_pair b_X_pair 2 (some .int) :: bg) { frames := 0, cells := 0, slots := 0, locals := 0 } (pu_P (dC, dI) classes [] [] [.int (nI a), .int (nI b)]) (pu_Q (.int (nI (a * 10 + b)))) 0 0 (fun _ => False) := by
  refine Met.ofW (cc := b_X_pair) (maxL := 2) (ret := (some .int)) (by decide) rfl ?_
  intro p e s m args below meth c s₁ B hml hv
  obtain ⟨rfl, hP, hK⟩ := hv
  have hx := B.exec
  have hb := B.bytes
  have hr := B.returns
  have hts := fun w (h : w ∈ bg) => atoms_spec (ws := .code y_X_pair b_X_pair 2 (some .int) :: bg) B.pre w (List.mem_cons_of_mem _ h)
  have hown : s.vm.findClass R_X = some m.cls := findClass_of_methodNamed B.named
  have hlocks := B.notSynchronized
  have hl := lv_entry ([.int (nI a), .int (nI b)]) (n := 2) (Nat.le_of_ble_eq_true rfl)
  rw [lg_entry_eq]
  generalize (lg_sl ([.int (nI a), .int (nI b)]) ++ List.replicate (2 - (lg_sl ([.int (nI a), .int (nI b)])).length) Slot.unset).toArray = ls at hl ⊢
  have hl : lv_has ls 2 [(0, .int (nI a)), (1, .int (nI b))] := hl
  refine lv_iload_n hx hb d_X_pair_0 rfl (lv_at hl 0 rfl) ?_
  refine lv_bipush (v := nI 10) hx hb d_X_pair_1 (by decide) ?_
  refine nv_mul hx hb d_X_pair_3 ?_
  refine lv_iload_n hx hb d_X_pair_4 rfl (lv_at hl 1 rfl) ?_
  refine nv_add hx hb d_X_pair_5 ?_
  refine nv_as (nI (a * 10 + b)) (by rfl) ?_
  exact W.iret hx hb hr (fun t ht hW => ⟨rfl, ht⟩) (fun q h => nomatch h) d_X_pair_6
set_option maxHeartbeats 4000000 in
set_option maxRecDepth 100000 in
theorem c_X_isGoodOn (l : Launch) (dC : Nat → ClassId) (dI : Nat → Nat → Nat) (cI : ClassId) (q : Nat → Nat) (S : St) (t : Nat) (hI : Bd t S) (j d : Nat) (hj : j < 60) (hd : d < 2 ^ 31) : Met l y_X_isGoodOn (.code y_X_isGoodOn b_X_isGoodOn 3 (some .boolean) :: bg) { frames := 1, cells := 0, slots := 0, locals := 22 } (pu_P (dC, dI) classes (wX q cI S) [(cI, .int)] [.ref (q 0), .int (nI j), .int (nI d)]) (pu_Q (.int (b2 (decide (d ≤ S.1 1 j))))) 0 0 (fun _ => False) := by
  refine Met.ofW (cc := b_X_isGoodOn) (maxL := 3) (ret := (some .boolean)) (by decide) rfl ?_
  intro p e s m args below meth c s₁ B hml hv
  obtain ⟨rfl, hP, hK⟩ := hv
  have hx := B.exec
  have hb := B.bytes
  have hr := B.returns
  have hts := fun w (h : w ∈ bg) => atoms_spec (ws := .code y_X_isGoodOn b_X_isGoodOn 3 (some .boolean) :: bg) B.pre w (List.mem_cons_of_mem _ h)
  have hown : s.vm.findClass R_X = some m.cls := findClass_of_methodNamed B.named
  have hlocks := B.notSynchronized
  have hl := lv_entry ([.ref (q 0), .int (nI j), .int (nI d)]) (n := 3) (Nat.le_of_ble_eq_true rfl)
  rw [lg_entry_eq]
  generalize (lg_sl ([.ref (q 0), .int (nI j), .int (nI d)]) ++ List.replicate (3 - (lg_sl ([.ref (q 0), .int (nI j), .int (nI d)])).length) Slot.unset).toArray = ls at hl ⊢
  have hl : lv_has ls 3 [(0, .ref (q 0)), (1, .int (nI j)), (2, .int (nI d))] := hl
  have hB := hI.1
  have hg0 : S.2.1 0 ≤ 8 := hI.2.1 0
  have hg1 : S.2.1 1 ≤ 9999 := hI.2.1 1
  have hg2 : S.2.1 2 ≤ 60 := hI.2.1 2
  have hg3 : S.2.1 3 ≤ 60 := hI.2.1 3
  have hg4 : S.2.1 4 ≤ 80 := hI.2.1 4
  have hg5 : S.2.1 5 ≤ 20 := hI.2.1 5
  have hg6 : S.2.1 6 ≤ 80 := hI.2.1 6
  have hg7 : S.2.1 7 ≤ 10 := hI.2.1 7
  have hg8 : t ≤ 512 := hI.2.2
  refine lv_iload_n hx hb d_X_isGoodOn_0 rfl (lv_at hl 2 rfl) ?_
  refine lv_aload_n hx hb d_X_isGoodOn_1 rfl (lv_at hl 0 rfl) ?_
  refine va_get (D := (dC, dI)) (ci := 0) (v := .ref (q 1)) (C := R_X) (T := F_X) (N := 12) hx hb hts i_X hown hK hP 0 rfl rfl 0 (by decide) (hts _ wd_57) (fun _ h9 => h9) rfl d_X_isGoodOn_2 ?_
  refine lv_iload_n hx hb d_X_isGoodOn_5 rfl (lv_at hl 1 rfl) ?_
  refine lv_iconst (v := nI 1) hx hb d_X_isGoodOn_6 (by decide) ?_
  refine pu_go (va_runV (As := [.int (nI j), .int (nI 1)]) (rest := [.int (nI d)]) ⟨hx, hb, hml, hown, hts⟩ (c_W_at l dC dI cI (q 1) (q 11) 60 (S.2.1 2) 300 (rowf S.1 0) j 1 (by omega) (by decide)) (cwV 2 hts (gi_V wd_117 wd_118 wd_119 wd_2 wd_120) rfl rfl rfl (by decide +kernel) ⟨Nat.le_of_ble_eq_true rfl, Nat.le_of_ble_eq_true rfl⟩) (pu_preV hK (hP.sub [1, 11] rfl) (ci := 1) (q0 := 0) rfl rfl) rfl rfl hl.1 rfl (lv_room (Nat.le_of_ble_eq_true rfl)) d_X_isGoodOn_7 ⟨Nat.le_of_ble_eq_true rfl, Nat.le_of_ble_eq_true rfl⟩) ?_
  refine nv_as (nI (S.1 1 j)) (rowf_at (by decide)) ?_
  have hb1 : S.1 1 j ≤ 9999 := hB 1 _
  refine nv_cgt (tgt := 17) hx hb (by omega) (by omega) d_X_isGoodOn_10 (by decide) (fun c10 => ?_) (fun c10 => ?_)
  · refine lv_iconst (v := nI 0) hx hb d_X_isGoodOn_17 (by decide) ?_
    refine nv_as (b2 (decide (d ≤ S.1 1 j))) (by first | (rw [decide_eq_true (by omega)]; rfl) | (rw [decide_eq_false (by omega)]; rfl)) ?_
    exact W.zret hx hb hr (b2_nar _) (fun t ht hW => ⟨rfl, ht⟩) (fun q h => nomatch h) d_X_isGoodOn_18
  · refine lv_iconst (v := nI 1) hx hb d_X_isGoodOn_13 (by decide) ?_
    refine lv_goto (tgt := 18) hx hb d_X_isGoodOn_14 (by decide) ?_
    refine nv_as (b2 (decide (d ≤ S.1 1 j))) (by first | (rw [decide_eq_true (by omega)]; rfl) | (rw [decide_eq_false (by omega)]; rfl)) ?_
    exact W.zret hx hb hr (b2_nar _) (fun t ht hW => ⟨rfl, ht⟩) (fun q h => nomatch h) d_X_isGoodOn_18
set_option maxHeartbeats 4000000 in
set_option maxRecDepth 100000 in
theorem c_X_inStore (l : Launch) (dC : Nat → ClassId) (dI : Nat → Nat → Nat) (cI : ClassId) (q : Nat → Nat) (S : St) (t : Nat) (hI : Bd t S) (st kd : Nat) (g : Bool) (hs : st < 8) (hk : kd < 10) : Met l y_X_inStore (.code y_X_inStore b_X_inStore 6 (some .int) :: bg) { frames := 2, cells := 0, slots := 0, locals := 44 } (pu_P (dC, dI) classes (wX q cI S) [(cI, .int)] [.ref (q 0), .int (nI st), .int (nI kd), .int (b2 g)]) (pu_Q (.int (nI (inst S st kd g)))) 0 0 (fun _ => False) := by
  refine Met.ofW (cc := b_X_inStore) (maxL := 6) (ret := (some .int)) (by decide) rfl ?_
  intro p e s m args below meth c s₁ B hml hv
  obtain ⟨rfl, hP, hK⟩ := hv
  have hx := B.exec
  have hb := B.bytes
  have hr := B.returns
  have hts := fun w (h : w ∈ bg) => atoms_spec (ws := .code y_X_inStore b_X_inStore 6 (some .int) :: bg) B.pre w (List.mem_cons_of_mem _ h)
  have hown : s.vm.findClass R_X = some m.cls := findClass_of_methodNamed B.named
  have hlocks := B.notSynchronized
  have hl := lv_entry ([.ref (q 0), .int (nI st), .int (nI kd), .int (b2 g)]) (n := 6) (Nat.le_of_ble_eq_true rfl)
  rw [lg_entry_eq]
  generalize (lg_sl ([.ref (q 0), .int (nI st), .int (nI kd), .int (b2 g)]) ++ List.replicate (6 - (lg_sl ([.ref (q 0), .int (nI st), .int (nI kd), .int (b2 g)])).length) Slot.unset).toArray = ls at hl ⊢
  have hl : lv_has ls 6 [(0, .ref (q 0)), (1, .int (nI st)), (2, .int (nI kd)), (3, .int (b2 g))] := hl
  have hB := hI.1
  have hg0 : S.2.1 0 ≤ 8 := hI.2.1 0
  have hg1 : S.2.1 1 ≤ 9999 := hI.2.1 1
  have hg2 : S.2.1 2 ≤ 60 := hI.2.1 2
  have hg3 : S.2.1 3 ≤ 60 := hI.2.1 3
  have hg4 : S.2.1 4 ≤ 80 := hI.2.1 4
  have hg5 : S.2.1 5 ≤ 20 := hI.2.1 5
  have hg6 : S.2.1 6 ≤ 80 := hI.2.1 6
  have hg7 : S.2.1 7 ≤ 10 := hI.2.1 7
  have hg8 : t ≤ 512 := hI.2.2
  refine lv_iconst (v := nI 0) hx hb d_X_inStore_0 (by decide) ?_
  refine lv_istore (lv' := [(4, .int (nI 0)), (0, .ref (q 0)), (1, .int (nI st)), (2, .int (nI kd)), (3, .int (b2 g))]) hx hb d_X_inStore_1 hl (by decide) rfl (fun ls hl => ?_)
  refine lv_iconst (v := nI 0) hx hb d_X_inStore_3 (by decide) ?_
  refine lv_istore (lv' := [(5, .int (nI 0)), (4, .int (nI 0)), (0, .ref (q 0)), (1, .int (nI st)), (2, .int (nI kd)), (3, .int (b2 g))]) hx hb d_X_inStore_4 hl (by decide) rfl (fun ls hl => ?_)
  have LP6 : ∀ (fu i : Nat), S.2.1 2 - i < fu → i ≤ S.2.1 2 → ∀ ls : Array Slot, lv_has ls 6 [(5, .int (nI i)), (4, .int (nI (sIf (fun j => decide (S.1 0 j = kd) && (decide (S.2.1 1 ≤ S.1 1 j) == g)) (fun j => S.1 25 (st * 60 + j)) i))), (0, .ref (q 0)), (1, .int (nI st)), (2, .int (nI kd)), (3, .int (b2 g))] → W p l e (headSpec (.code y_X_inStore b_X_inStore 6 (some .int) :: bg) { frames := 2, cells := 0, slots := 0, locals := 44 }).room s m (List.toArray [.ref (q 0), .int (nI st), .int (nI kd), .int (b2 g)]) below meth c s.heap [] 0 0 (MQ below (pu_Q (.int (nI (inst S st kd g)))) (List.toArray [.ref (q 0), .int (nI st), .int (nI kd), .int (b2 g)]) s 0 0 (fun _ => False)) (F0 m 6 ls []) := by
    intro fu
    induction fu with
    | zero => intro i h; exact absurd h (Nat.not_lt_zero _)
    | succ fu ih =>
      intro i hfu hi ls hl
      refine lv_iload hx hb d_X_inStore_6 (lv_at hl 0 rfl) ?_
      refine lv_aload_n hx hb d_X_inStore_8 rfl (lv_at hl 2 rfl) ?_
      refine va_get (D := (dC, dI)) (ci := 0) (v := .ref (q 1)) (C := R_X) (T := F_X) (N := 12) hx hb hts i_X hown hK hP 0 rfl rfl 0 (by decide) (hts _ wd_57) (fun _ h9 => h9) rfl d_X_inStore_9 ?_
      refine pu_go (va_runV (As := []) (rest := [.int (nI i)]) ⟨hx, hb, hml, hown, hts⟩ (c_W_made l dC dI cI (q 1) (q 11) 60 (S.2.1 2) 300 (rowf S.1 0)) (cwV 0 hts (gi_V wd_98 wd_99 wd_100 wd_2 wd_101) rfl rfl rfl (by decide +kernel) ⟨Nat.le_of_ble_eq_true rfl, Nat.le_of_ble_eq_true rfl⟩) (pu_preV hK (hP.sub [1, 11] rfl) (ci := 1) (q0 := 0) rfl rfl) rfl rfl hl.1 rfl (lv_room (Nat.le_of_ble_eq_true rfl)) d_X_inStore_12 ⟨Nat.le_of_ble_eq_true rfl, Nat.le_of_ble_eq_true rfl⟩) ?_
      refine nv_cge (tgt := 68) hx hb (by omega) (by omega) d_X_inStore_15 (by decide) (fun c15 => ?_) (fun c15 => ?_)
      · obtain rfl : i = S.2.1 2 := by omega
        refine lv_iload hx hb d_X_inStore_68 (lv_at hl 1 rfl) ?_
        refine nv_as (nI (inst S st kd g)) (by rfl) ?_
        exact W.iret hx hb hr (fun t ht hW => ⟨rfl, ht⟩) (fun q h => nomatch h) d_X_inStore_70
      · refine lv_aload_n hx hb d_X_inStore_18 rfl (lv_at hl 2 rfl) ?_
        refine va_get (D := (dC, dI)) (ci := 0) (v := .ref (q 1)) (C := R_X) (T := F_X) (N := 12) hx hb hts i_X hown hK hP 0 rfl rfl 0 (by decide) (hts _ wd_57) (fun _ h9 => h9) rfl d_X_inStore_19 ?_
        refine lv_iload hx hb d_X_inStore_22 (lv_at hl 0 rfl) ?_
        refine lv_iconst (v := nI 0) hx hb d_X_inStore_24 (by decide) ?_
        refine pu_go (va_runV (As := [.int (nI i), .int (nI 0)]) (rest := []) ⟨hx, hb, hml, hown, hts⟩ (c_W_at l dC dI cI (q 1) (q 11) 60 (S.2.1 2) 300 (rowf S.1 0) i 0 (by omega) (by decide)) (cwV 2 hts (gi_V wd_117 wd_118 wd_119 wd_2 wd_120) rfl rfl rfl (by decide +kernel) ⟨Nat.le_of_ble_eq_true rfl, Nat.le_of_ble_eq_true rfl⟩) (pu_preV hK (hP.sub [1, 11] rfl) (ci := 1) (q0 := 0) rfl rfl) rfl rfl hl.1 rfl (lv_room (Nat.le_of_ble_eq_true rfl)) d_X_inStore_25 ⟨Nat.le_of_ble_eq_true rfl, Nat.le_of_ble_eq_true rfl⟩) ?_
        refine nv_as (nI (S.1 0 i)) (rowf_at (by decide)) ?_
        have hb1 : S.1 0 i ≤ 9 := hB 0 _
        refine lv_iload_n hx hb d_X_inStore_28 rfl (lv_at hl 4 rfl) ?_
        refine nv_cne (tgt := 62) hx hb (by omega) (by omega) d_X_inStore_29 (by decide) (fun c29 => ?_) (fun c29 => ?_)
        · refine lv_iinc (v := nI (i + 1)) (lv' := [(5, .int (nI (i + 1))), (4, .int (nI (sIf (fun j => decide (S.1 0 j = kd) && (decide (S.2.1 1 ≤ S.1 1 j) == g)) (fun j => S.1 25 (st * 60 + j)) i))), (0, .ref (q 0)), (1, .int (nI st)), (2, .int (nI kd)), (3, .int (b2 g))]) hx hb d_X_inStore_62 hl (k := 0) rfl (nI_1 _) (by decide) rfl (fun ls hl => ?_)
          refine lv_goto (tgt := 6) hx hb d_X_inStore_65 (by decide) ?_
          exact ih (i + 1) (by omega) (by omega) ls (lv_sub hl [0, 1, 2, 3, 4, 5] (by rw [sIf_f (by simp [c29])]; rfl))
        · refine lv_aload_n hx hb d_X_inStore_32 rfl (lv_at hl 2 rfl) ?_
          refine lv_iload hx hb d_X_inStore_33 (lv_at hl 0 rfl) ?_
          refine lv_aload_n hx hb d_X_inStore_35 rfl (lv_at hl 2 rfl) ?_
          refine va_get (D := (dC, dI)) (ci := 0) (v := .int (nI (S.2.1 1))) (C := R_X) (T := F_X) (N := 12) hx hb hts i_X hown hK hP 0 rfl rfl 11 (by decide) (hts _ wd_68) (fun _ h9 => h9) rfl d_X_inStore_36 ?_
          refine pu_go (va_runV (As := [.int (nI i), .int (nI (S.2.1 1))]) (rest := []) ⟨hx, hb, hml, hown, hts⟩ (c_X_isGoodOn l dC dI cI q S t hI i (S.2.1 1) (by omega) (by omega)) (cwV 2 hts (gi_V wd_121 wd_123 wp_2 wd_1 wd_124) rfl rfl rfl (by decide +kernel) ⟨Nat.le_of_ble_eq_true rfl, Nat.le_of_ble_eq_true rfl⟩) (pu_preV hK hP (ci := 0) (q0 := 0) rfl rfl) rfl rfl hl.1 rfl (lv_room (Nat.le_of_ble_eq_true rfl)) d_X_inStore_39 ⟨Nat.le_of_ble_eq_true rfl, Nat.le_of_ble_eq_true rfl⟩) ?_
          refine lv_iload_n hx hb d_X_inStore_42 rfl (lv_at hl 5 rfl) ?_
          refine lv_icmp_ne (tgt := 62) hx hb d_X_inStore_43 (by decide) (fun c43 => ?_) (fun c43 => ?_)
          · refine lv_iinc (v := nI (i + 1)) (lv' := [(5, .int (nI (i + 1))), (4, .int (nI (sIf (fun j => decide (S.1 0 j = kd) && (decide (S.2.1 1 ≤ S.1 1 j) == g)) (fun j => S.1 25 (st * 60 + j)) i))), (0, .ref (q 0)), (1, .int (nI st)), (2, .int (nI kd)), (3, .int (b2 g))]) hx hb d_X_inStore_62 hl (k := 0) rfl (nI_1 _) (by decide) rfl (fun ls hl => ?_)
            refine lv_goto (tgt := 6) hx hb d_X_inStore_65 (by decide) ?_
            exact ih (i + 1) (by omega) (by omega) ls (lv_sub hl [0, 1, 2, 3, 4, 5] (by rw [sIf_f (by simp only [Bool.and_eq_false_iff, beq_eq_false_iff_ne]; exact Or.inr (fun h => c43 (congrArg b2 h)))]; rfl))
          · refine lv_iload hx hb d_X_inStore_46 (lv_at hl 1 rfl) ?_
            refine lv_aload_n hx hb d_X_inStore_48 rfl (lv_at hl 2 rfl) ?_
            refine va_get (D := (dC, dI)) (ci := 0) (v := .ref (q 7)) (C := R_X) (T := F_X) (N := 12) hx hb hts i_X hown hK hP 0 rfl rfl 6 (by decide) (hts _ wd_63) (fun _ h9 => h9) rfl d_X_inStore_49 ?_
            refine lv_iload_n hx hb d_X_inStore_52 rfl (lv_at hl 3 rfl) ?_
            refine lv_iload hx hb d_X_inStore_53 (lv_at hl 0 rfl) ?_
            refine pu_go (va_runS (As := [.int (nI st), .int (nI i)]) (rest := [.ref (q 7), .int (nI (sIf (fun j => decide (S.1 0 j = kd) && (decide (S.2.1 1 ≤ S.1 1 j) == g)) (fun j => S.1 25 (st * 60 + j)) i))]) ⟨hx, hb, hml, hown, hts⟩ (c_X_place l dC dI st i) (cwS 2 hts (gi_S wd_125 wd_126 wd_1 wd_127) rfl rfl rfl (by decide +kernel) ⟨Nat.le_of_ble_eq_true rfl, Nat.le_of_ble_eq_true rfl⟩) (pu_preS (hK.sub (tys' := []) [] rfl) (fun k q h => by simp at h)) rfl rfl hl.1 rfl (lv_room (Nat.le_of_ble_eq_true rfl)) d_X_inStore_55 ⟨Nat.le_of_ble_eq_true rfl, Nat.le_of_ble_eq_true rfl⟩) ?_
            refine nv_iald (v := nI (S.1 25 (st * 60 + i))) hx hb hK hP 7 0 rfl rfl (by omega) (by decide) rfl d_X_inStore_58 ?_
            have hb9 : S.1 25 (st * 60 + i) ≤ 9999 := hB 25 _
            refine nv_add hx hb d_X_inStore_59 ?_
            refine lv_istore (lv' := [(4, .int (nI ((sIf (fun j => decide (S.1 0 j = kd) && (decide (S.2.1 1 ≤ S.1 1 j) == g)) (fun j => S.1 25 (st * 60 + j)) i) + (S.1 25 (st * 60 + i))))), (5, .int (nI i)), (0, .ref (q 0)), (1, .int (nI st)), (2, .int (nI kd)), (3, .int (b2 g))]) hx hb d_X_inStore_60 hl (by decide) rfl (fun ls hl => ?_)
            refine lv_iinc (v := nI (i + 1)) (lv' := [(5, .int (nI (i + 1))), (4, .int (nI ((sIf (fun j => decide (S.1 0 j = kd) && (decide (S.2.1 1 ≤ S.1 1 j) == g)) (fun j => S.1 25 (st * 60 + j)) i) + (S.1 25 (st * 60 + i))))), (0, .ref (q 0)), (1, .int (nI st)), (2, .int (nI kd)), (3, .int (b2 g))]) hx hb d_X_inStore_62 hl (k := 1) rfl (nI_1 _) (by decide) rfl (fun ls hl => ?_)
            refine lv_goto (tgt := 6) hx hb d_X_inStore_65 (by decide) ?_
            exact ih (i + 1) (by omega) (by omega) ls (lv_sub hl [0, 1, 2, 3, 4, 5] (by rw [sIf_t (by simp only [Bool.and_eq_true, decide_eq_true_eq, beq_iff_eq]; exact ⟨c29, b2_inj c43⟩)]; rfl))
  exact LP6 (S.2.1 2 + 1) 0 (by omega) (by omega) ls (lv_sub hl [0, 1, 2, 3, 4, 5] rfl)
