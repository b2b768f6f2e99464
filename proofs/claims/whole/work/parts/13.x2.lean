set_option maxHeartbeats 4000000 in
set_option maxRecDepth 100000 in
theorem c_X_inAllStores (l : Launch) (dC : Nat → ClassId) (dI : Nat → Nat → Nat) (cI : ClassId) (q : Nat → Nat) (S : St) (t : Nat) (hI : Bd t S) (y : Nat) (hy : y < 60) : Met l y_X_inAllStores (.code y_X_inAllStores b_X_inAllStores 4 (some .int) :: bg) { frames := 1, cells := 0, slots := 0, locals := 21 } (pu_P (dC, dI) classes (wX q cI S) [(cI, .int)] [.ref (q 0), .int (nI y)]) (pu_Q (.int (nI (allIn S y)))) 0 0 (fun _ => False) := by
  refine Met.ofW (cc := b_X_inAllStores) (maxL := 4) (ret := (some .int)) (by decide) rfl ?_
  intro p e s m args below meth c s₁ B hml hv
  obtain ⟨rfl, hP, hK⟩ := hv
  have hx := B.exec
  have hb := B.bytes
  have hr := B.returns
  have hts := fun w (h : w ∈ bg) => atoms_spec (ws := .code y_X_inAllStores b_X_inAllStores 4 (some .int) :: bg) B.pre w (List.mem_cons_of_mem _ h)
  have hown : s.vm.findClass R_X = some m.cls := findClass_of_methodNamed B.named
  have hlocks := B.notSynchronized
  have hl := lv_entry ([.ref (q 0), .int (nI y)]) (n := 4) (Nat.le_of_ble_eq_true rfl)
  rw [lg_entry_eq]
  generalize (lg_sl ([.ref (q 0), .int (nI y)]) ++ List.replicate (4 - (lg_sl ([.ref (q 0), .int (nI y)])).length) Slot.unset).toArray = ls at hl ⊢
  have hl : lv_has ls 4 [(0, .ref (q 0)), (1, .int (nI y))] := hl
  have hB := hI.1
  have hg0 : S.2.1 0 ≤ 8 := hI.2.1 0
  have hg1 : S.2.1 1 ≤ 9999 := hI.2.1 1
  have hg2 : S.2.1 2 ≤ 60 := hI.2.1 2
  have hg3 : S.2.1 3 ≤ 60 := hI.2.1 3
  have hg4 : S.2.1 4 ≤ 80 := hI.2.1 4
  have hg5 : S.2.1 5 ≤ 20 := hI.2.1 5
  have hg6 : S.2.1 6 ≤ 80 := hI.2.1 6
  have hg7 : S.2.1 7 ≤ 10 := hI.2.1 7
  have hg8 : t ≤ 512 := hI.2.2
  refine lv_iconst (v := nI 0) hx hb d_X_inAllStores_0 (by decide) ?_
  refine lv_istore_n (lv' := [(2, .int (nI 0)), (0, .ref (q 0)), (1, .int (nI y))]) hx hb d_X_inAllStores_1 rfl hl (by decide) rfl (fun ls hl => ?_)
  refine lv_iconst (v := nI 0) hx hb d_X_inAllStores_2 (by decide) ?_
  refine lv_istore_n (lv' := [(3, .int (nI 0)), (2, .int (nI 0)), (0, .ref (q 0)), (1, .int (nI y))]) hx hb d_X_inAllStores_3 rfl hl (by decide) rfl (fun ls hl => ?_)
  have LP4 : ∀ (fu i : Nat), S.2.1 0 - i < fu → i ≤ S.2.1 0 → ∀ ls : Array Slot, lv_has ls 4 [(3, .int (nI i)), (2, .int (nI (sIf (fun _ => true) (fun s => S.1 25 (s * 60 + y)) i))), (0, .ref (q 0)), (1, .int (nI y))] → W p l e (headSpec (.code y_X_inAllStores b_X_inAllStores 4 (some .int) :: bg) { frames := 1, cells := 0, slots := 0, locals := 21 }).room s m (List.toArray [.ref (q 0), .int (nI y)]) below meth c s.heap [] 0 0 (MQ below (pu_Q (.int (nI (allIn S y)))) (List.toArray [.ref (q 0), .int (nI y)]) s 0 0 (fun _ => False)) (F0 m 4 ls []) := by
    intro fu
    induction fu with
    | zero => intro i h; exact absurd h (Nat.not_lt_zero _)
    | succ fu ih =>
      intro i hfu hi ls hl
      refine lv_iload_n hx hb d_X_inAllStores_4 rfl (lv_at hl 0 rfl) ?_
      refine lv_aload_n hx hb d_X_inAllStores_5 rfl (lv_at hl 2 rfl) ?_
      refine va_get (D := (dC, dI)) (ci := 0) (v := .int (nI (S.2.1 0))) (C := R_X) (T := F_X) (N := 12) hx hb hts i_X hown hK hP 0 rfl rfl 10 (by decide) (hts _ wd_67) (fun _ h9 => h9) rfl d_X_inAllStores_6 ?_
      refine nv_cge (tgt := 31) hx hb (by omega) (by omega) d_X_inAllStores_9 (by decide) (fun c9 => ?_) (fun c9 => ?_)
      · obtain rfl : i = S.2.1 0 := by omega
        refine lv_iload_n hx hb d_X_inAllStores_31 rfl (lv_at hl 1 rfl) ?_
        refine nv_as (nI (allIn S y)) (by rfl) ?_
        exact W.iret hx hb hr (fun t ht hW => ⟨rfl, ht⟩) (fun q h => nomatch h) d_X_inAllStores_32
      · refine lv_iload_n hx hb d_X_inAllStores_12 rfl (lv_at hl 1 rfl) ?_
        refine lv_aload_n hx hb d_X_inAllStores_13 rfl (lv_at hl 2 rfl) ?_
        refine va_get (D := (dC, dI)) (ci := 0) (v := .ref (q 7)) (C := R_X) (T := F_X) (N := 12) hx hb hts i_X hown hK hP 0 rfl rfl 6 (by decide) (hts _ wd_63) (fun _ h9 => h9) rfl d_X_inAllStores_14 ?_
        refine lv_iload_n hx hb d_X_inAllStores_17 rfl (lv_at hl 0 rfl) ?_
        refine lv_iload_n hx hb d_X_inAllStores_18 rfl (lv_at hl 3 rfl) ?_
        refine pu_go (va_runS (As := [.int (nI i), .int (nI y)]) (rest := [.ref (q 7), .int (nI (sIf (fun _ => true) (fun s => S.1 25 (s * 60 + y)) i))]) ⟨hx, hb, hml, hown, hts⟩ (c_X_place l dC dI i y) (cwS 2 hts (gi_S wd_125 wd_126 wd_1 wd_127) rfl rfl rfl (by decide +kernel) ⟨Nat.le_of_ble_eq_true rfl, Nat.le_of_ble_eq_true rfl⟩) (pu_preS (hK.sub (tys' := []) [] rfl) (fun k q h => by simp at h)) rfl rfl hl.1 rfl (lv_room (Nat.le_of_ble_eq_true rfl)) d_X_inAllStores_19 ⟨Nat.le_of_ble_eq_true rfl, Nat.le_of_ble_eq_true rfl⟩) ?_
        refine nv_iald (v := nI (S.1 25 (i * 60 + y))) hx hb hK hP 7 0 rfl rfl (by omega) (by decide) rfl d_X_inAllStores_22 ?_
        have hb9 : S.1 25 (i * 60 + y) ≤ 9999 := hB 25 _
        refine nv_add hx hb d_X_inAllStores_23 ?_
        refine lv_istore_n (lv' := [(2, .int (nI ((sIf (fun _ => true) (fun s => S.1 25 (s * 60 + y)) i) + (S.1 25 (i * 60 + y))))), (3, .int (nI i)), (0, .ref (q 0)), (1, .int (nI y))]) hx hb d_X_inAllStores_24 rfl hl (by decide) rfl (fun ls hl => ?_)
        refine lv_iinc (v := nI (i + 1)) (lv' := [(3, .int (nI (i + 1))), (2, .int (nI ((sIf (fun _ => true) (fun s => S.1 25 (s * 60 + y)) i) + (S.1 25 (i * 60 + y))))), (0, .ref (q 0)), (1, .int (nI y))]) hx hb d_X_inAllStores_25 hl (k := 1) rfl (nI_1 _) (by decide) rfl (fun ls hl => ?_)
        refine lv_goto (tgt := 4) hx hb d_X_inAllStores_28 (by decide) ?_
        exact ih (i + 1) (by omega) (by omega) ls (lv_sub hl [0, 1, 2, 3] (by rw [sIf_t rfl]; rfl))
  exact LP4 (S.2.1 0 + 1) 0 (by omega) (by omega) ls (lv_sub hl [0, 1, 2, 3] rfl)
set_option maxHeartbeats 4000000 in
set_option maxRecDepth 100000 in
theorem c_X_onTheWay (l : Launch) (dC : Nat → ClassId) (dI : Nat → Nat → Nat) (cI : ClassId) (q : Nat → Nat) (S : St) (t : Nat) (hI : Bd t S) (st kd : Nat) (g : Bool) (hs : st < 8) (hk : kd < 10) : Met l y_X_onTheWay (.code y_X_onTheWay b_X_onTheWay 7 (some .int) :: bg) { frames := 2, cells := 0, slots := 0, locals := 44 } (pu_P (dC, dI) classes (wX q cI S) [(cI, .int)] [.ref (q 0), .int (nI st), .int (nI kd), .int (b2 g)]) (pu_Q (.int (nI (way S g st kd)))) 0 0 (fun _ => False) := by
  refine Met.ofW (cc := b_X_onTheWay) (maxL := 7) (ret := (some .int)) (by decide) rfl ?_
  intro p e s m args below meth c s₁ B hml hv
  obtain ⟨rfl, hP, hK⟩ := hv
  have hx := B.exec
  have hb := B.bytes
  have hr := B.returns
  have hts := fun w (h : w ∈ bg) => atoms_spec (ws := .code y_X_onTheWay b_X_onTheWay 7 (some .int) :: bg) B.pre w (List.mem_cons_of_mem _ h)
  have hown : s.vm.findClass R_X = some m.cls := findClass_of_methodNamed B.named
  have hlocks := B.notSynchronized
  have hl := lv_entry ([.ref (q 0), .int (nI st), .int (nI kd), .int (b2 g)]) (n := 7) (Nat.le_of_ble_eq_true rfl)
  rw [lg_entry_eq]
  generalize (lg_sl ([.ref (q 0), .int (nI st), .int (nI kd), .int (b2 g)]) ++ List.replicate (7 - (lg_sl ([.ref (q 0), .int (nI st), .int (nI kd), .int (b2 g)])).length) Slot.unset).toArray = ls at hl ⊢
  have hl : lv_has ls 7 [(0, .ref (q 0)), (1, .int (nI st)), (2, .int (nI kd)), (3, .int (b2 g))] := hl
  have hB := hI.1
  have hg0 : S.2.1 0 ≤ 8 := hI.2.1 0
  have hg1 : S.2.1 1 ≤ 9999 := hI.2.1 1
  have hg2 : S.2.1 2 ≤ 60 := hI.2.1 2
  have hg3 : S.2.1 3 ≤ 60 := hI.2.1 3
  have hg4 : S.2.1 4 ≤ 80 := hI.2.1 4
  have hg5 : S.2.1 5 ≤ 20 := hI.2.1 5
  have hg6 : S.2.1 6 ≤ 80 := hI.2.1 6
  have hg7 : S.2.1 7 ≤ 10 := hI.2.1 7
  have hg8 : t ≤ 512 := hI.2.2
  refine lv_iconst (v := nI 0) hx hb d_X_onTheWay_0 (by decide) ?_
  refine lv_istore (lv' := [(4, .int (nI 0)), (0, .ref (q 0)), (1, .int (nI st)), (2, .int (nI kd)), (3, .int (b2 g))]) hx hb d_X_onTheWay_1 hl (by decide) rfl (fun ls hl => ?_)
  refine lv_iconst (v := nI 0) hx hb d_X_onTheWay_3 (by decide) ?_
  refine lv_istore (lv' := [(5, .int (nI 0)), (4, .int (nI 0)), (0, .ref (q 0)), (1, .int (nI st)), (2, .int (nI kd)), (3, .int (b2 g))]) hx hb d_X_onTheWay_4 hl (by decide) rfl (fun ls hl => ?_)
  have LP6 : ∀ (fu i : Nat), S.2.1 3 - i < fu → i ≤ S.2.1 3 → ∀ ls : Array Slot, lv_has ls 7 [(5, .int (nI i)), (4, .int (nI (sIf (fun j => decide (S.1 9 j = 1) && (decide (S.1 5 j = st) && (decide (S.1 0 (S.1 6 j) = kd) && (!g || decide (S.1 8 j ≤ S.1 1 (S.1 6 j)))))) (fun j => S.1 7 j) i))), (0, .ref (q 0)), (1, .int (nI st)), (2, .int (nI kd)), (3, .int (b2 g))] → W p l e (headSpec (.code y_X_onTheWay b_X_onTheWay 7 (some .int) :: bg) { frames := 2, cells := 0, slots := 0, locals := 44 }).room s m (List.toArray [.ref (q 0), .int (nI st), .int (nI kd), .int (b2 g)]) below meth c s.heap [] 0 0 (MQ below (pu_Q (.int (nI (way S g st kd)))) (List.toArray [.ref (q 0), .int (nI st), .int (nI kd), .int (b2 g)]) s 0 0 (fun _ => False)) (F0 m 6 ls []) := by
    intro fu
    induction fu with
    | zero => intro i h; exact absurd h (Nat.not_lt_zero _)
    | succ fu ih =>
      intro i hfu hi ls hl
      refine lv_iload hx hb d_X_onTheWay_6 (lv_at hl 0 rfl) ?_
      refine lv_aload_n hx hb d_X_onTheWay_8 rfl (lv_at hl 2 rfl) ?_
      refine va_get (D := (dC, dI)) (ci := 0) (v := .ref (q 2)) (C := R_X) (T := F_X) (N := 12) hx hb hts i_X hown hK hP 0 rfl rfl 1 (by decide) (hts _ wd_58) (fun _ h9 => h9) rfl d_X_onTheWay_9 ?_
      refine pu_go (va_runV (As := []) (rest := [.int (nI i)]) ⟨hx, hb, hml, hown, hts⟩ (c_W_made l dC dI cI (q 2) (q 12) 60 (S.2.1 3) 300 (rowf S.1 5)) (cwV 0 hts (gi_V wd_98 wd_99 wd_100 wd_2 wd_101) rfl rfl rfl (by decide +kernel) ⟨Nat.le_of_ble_eq_true rfl, Nat.le_of_ble_eq_true rfl⟩) (pu_preV hK (hP.sub [2, 12] rfl) (ci := 1) (q0 := 0) rfl rfl) rfl rfl hl.1 rfl (lv_room (Nat.le_of_ble_eq_true rfl)) d_X_onTheWay_12 ⟨Nat.le_of_ble_eq_true rfl, Nat.le_of_ble_eq_true rfl⟩) ?_
      refine nv_cge (tgt := 116) hx hb (by omega) (by omega) d_X_onTheWay_15 (by decide) (fun c15 => ?_) (fun c15 => ?_)
      · obtain rfl : i = S.2.1 3 := by omega
        refine lv_iload hx hb d_X_onTheWay_116 (lv_at hl 1 rfl) ?_
        refine nv_as (nI (way S g st kd)) (by rfl) ?_
        exact W.iret hx hb hr (fun t ht hW => ⟨rfl, ht⟩) (fun q h => nomatch h) d_X_onTheWay_118
      · refine lv_aload_n hx hb d_X_onTheWay_18 rfl (lv_at hl 2 rfl) ?_
        refine va_get (D := (dC, dI)) (ci := 0) (v := .ref (q 2)) (C := R_X) (T := F_X) (N := 12) hx hb hts i_X hown hK hP 0 rfl rfl 1 (by decide) (hts _ wd_58) (fun _ h9 => h9) rfl d_X_onTheWay_19 ?_
        refine lv_iload hx hb d_X_onTheWay_22 (lv_at hl 0 rfl) ?_
        refine lv_iconst (v := nI 1) hx hb d_X_onTheWay_24 (by decide) ?_
        refine pu_go (va_runV (As := [.int (nI i), .int (nI 1)]) (rest := []) ⟨hx, hb, hml, hown, hts⟩ (c_W_at l dC dI cI (q 2) (q 12) 60 (S.2.1 3) 300 (rowf S.1 5) i 1 (by omega) (by decide)) (cwV 2 hts (gi_V wd_117 wd_118 wd_119 wd_2 wd_120) rfl rfl rfl (by decide +kernel) ⟨Nat.le_of_ble_eq_true rfl, Nat.le_of_ble_eq_true rfl⟩) (pu_preV hK (hP.sub [2, 12] rfl) (ci := 1) (q0 := 0) rfl rfl) rfl rfl hl.1 rfl (lv_room (Nat.le_of_ble_eq_true rfl)) d_X_onTheWay_25 ⟨Nat.le_of_ble_eq_true rfl, Nat.le_of_ble_eq_true rfl⟩) ?_
        refine nv_as (nI (S.1 6 i)) (rowf_at (by decide)) ?_
        have hb1 : S.1 6 i ≤ 59 := hB 6 _
        refine lv_istore (lv' := [(6, .int (nI (S.1 6 i))), (5, .int (nI i)), (4, .int (nI (sIf (fun j => decide (S.1 9 j = 1) && (decide (S.1 5 j = st) && (decide (S.1 0 (S.1 6 j) = kd) && (!g || decide (S.1 8 j ≤ S.1 1 (S.1 6 j)))))) (fun j => S.1 7 j) i))), (0, .ref (q 0)), (1, .int (nI st)), (2, .int (nI kd)), (3, .int (b2 g))]) hx hb d_X_onTheWay_28 hl (by decide) rfl (fun ls hl => ?_)
        refine lv_aload_n hx hb d_X_onTheWay_30 rfl (lv_at hl 3 rfl) ?_
        refine va_get (D := (dC, dI)) (ci := 0) (v := .ref (q 2)) (C := R_X) (T := F_X) (N := 12) hx hb hts i_X hown hK hP 0 rfl rfl 1 (by decide) (hts _ wd_58) (fun _ h9 => h9) rfl d_X_onTheWay_31 ?_
        refine lv_iload hx hb d_X_onTheWay_34 (lv_at hl 1 rfl) ?_
        refine lv_iconst (v := nI 4) hx hb d_X_onTheWay_36 (by decide) ?_
        refine pu_go (va_runV (As := [.int (nI i), .int (nI 4)]) (rest := []) ⟨hx, hb, hml, hown, hts⟩ (c_W_at l dC dI cI (q 2) (q 12) 60 (S.2.1 3) 300 (rowf S.1 5) i 4 (by omega) (by decide)) (cwV 2 hts (gi_V wd_117 wd_118 wd_119 wd_2 wd_120) rfl rfl rfl (by decide +kernel) ⟨Nat.le_of_ble_eq_true rfl, Nat.le_of_ble_eq_true rfl⟩) (pu_preV hK (hP.sub [2, 12] rfl) (ci := 1) (q0 := 0) rfl rfl) rfl rfl hl.1 rfl (lv_room (Nat.le_of_ble_eq_true rfl)) d_X_onTheWay_37 ⟨Nat.le_of_ble_eq_true rfl, Nat.le_of_ble_eq_true rfl⟩) ?_
        refine nv_as (nI (S.1 9 i)) (rowf_at (by decide)) ?_
        have hb2 : S.1 9 i ≤ 1 := hB 9 _
        refine lv_iconst (v := nI 1) hx hb d_X_onTheWay_40 (by decide) ?_
        refine nv_cne (tgt := 110) hx hb (by omega) (by omega) d_X_onTheWay_41 (by decide) (fun c41 => ?_) (fun c41 => ?_)
        · refine lv_iinc (v := nI (i + 1)) (lv' := [(5, .int (nI (i + 1))), (6, .int (nI (S.1 6 i))), (4, .int (nI (sIf (fun j => decide (S.1 9 j = 1) && (decide (S.1 5 j = st) && (decide (S.1 0 (S.1 6 j) = kd) && (!g || decide (S.1 8 j ≤ S.1 1 (S.1 6 j)))))) (fun j => S.1 7 j) i))), (0, .ref (q 0)), (1, .int (nI st)), (2, .int (nI kd)), (3, .int (b2 g))]) hx hb d_X_onTheWay_110 hl (k := 1) rfl (nI_1 _) (by decide) rfl (fun ls hl => ?_)
          refine lv_goto (tgt := 6) hx hb d_X_onTheWay_113 (by decide) ?_
          exact ih (i + 1) (by omega) (by omega) ls (lv_sub hl [0, 2, 3, 4, 5, 6] (by rw [sIf_f (by simp [c41])]; rfl))
        · refine lv_aload_n hx hb d_X_onTheWay_44 rfl (lv_at hl 3 rfl) ?_
          refine va_get (D := (dC, dI)) (ci := 0) (v := .ref (q 2)) (C := R_X) (T := F_X) (N := 12) hx hb hts i_X hown hK hP 0 rfl rfl 1 (by decide) (hts _ wd_58) (fun _ h9 => h9) rfl d_X_onTheWay_45 ?_
          refine lv_iload hx hb d_X_onTheWay_48 (lv_at hl 1 rfl) ?_
          refine lv_iconst (v := nI 0) hx hb d_X_onTheWay_50 (by decide) ?_
          refine pu_go (va_runV (As := [.int (nI i), .int (nI 0)]) (rest := []) ⟨hx, hb, hml, hown, hts⟩ (c_W_at l dC dI cI (q 2) (q 12) 60 (S.2.1 3) 300 (rowf S.1 5) i 0 (by omega) (by decide)) (cwV 2 hts (gi_V wd_117 wd_118 wd_119 wd_2 wd_120) rfl rfl rfl (by decide +kernel) ⟨Nat.le_of_ble_eq_true rfl, Nat.le_of_ble_eq_true rfl⟩) (pu_preV hK (hP.sub [2, 12] rfl) (ci := 1) (q0 := 0) rfl rfl) rfl rfl hl.1 rfl (lv_room (Nat.le_of_ble_eq_true rfl)) d_X_onTheWay_51 ⟨Nat.le_of_ble_eq_true rfl, Nat.le_of_ble_eq_true rfl⟩) ?_
          refine nv_as (nI (S.1 5 i)) (rowf_at (by decide)) ?_
          have hb3 : S.1 5 i ≤ 7 := hB 5 _
          refine lv_iload_n hx hb d_X_onTheWay_54 rfl (lv_at hl 4 rfl) ?_
          refine nv_cne (tgt := 110) hx hb (by omega) (by omega) d_X_onTheWay_55 (by decide) (fun c55 => ?_) (fun c55 => ?_)
          · refine lv_iinc (v := nI (i + 1)) (lv' := [(5, .int (nI (i + 1))), (6, .int (nI (S.1 6 i))), (4, .int (nI (sIf (fun j => decide (S.1 9 j = 1) && (decide (S.1 5 j = st) && (decide (S.1 0 (S.1 6 j) = kd) && (!g || decide (S.1 8 j ≤ S.1 1 (S.1 6 j)))))) (fun j => S.1 7 j) i))), (0, .ref (q 0)), (1, .int (nI st)), (2, .int (nI kd)), (3, .int (b2 g))]) hx hb d_X_onTheWay_110 hl (k := 1) rfl (nI_1 _) (by decide) rfl (fun ls hl => ?_)
            refine lv_goto (tgt := 6) hx hb d_X_onTheWay_113 (by decide) ?_
            exact ih (i + 1) (by omega) (by omega) ls (lv_sub hl [0, 2, 3, 4, 5, 6] (by rw [sIf_f (by simp [c55])]; rfl))
          · refine lv_aload_n hx hb d_X_onTheWay_58 rfl (lv_at hl 3 rfl) ?_
            refine va_get (D := (dC, dI)) (ci := 0) (v := .ref (q 1)) (C := R_X) (T := F_X) (N := 12) hx hb hts i_X hown hK hP 0 rfl rfl 0 (by decide) (hts _ wd_57) (fun _ h9 => h9) rfl d_X_onTheWay_59 ?_
            refine lv_iload hx hb d_X_onTheWay_62 (lv_at hl 0 rfl) ?_
            refine lv_iconst (v := nI 0) hx hb d_X_onTheWay_64 (by decide) ?_
            refine pu_go (va_runV (As := [.int (nI (S.1 6 i)), .int (nI 0)]) (rest := []) ⟨hx, hb, hml, hown, hts⟩ (c_W_at l dC dI cI (q 1) (q 11) 60 (S.2.1 2) 300 (rowf S.1 0) (S.1 6 i) 0 (by omega) (by decide)) (cwV 2 hts (gi_V wd_117 wd_118 wd_119 wd_2 wd_120) rfl rfl rfl (by decide +kernel) ⟨Nat.le_of_ble_eq_true rfl, Nat.le_of_ble_eq_true rfl⟩) (pu_preV hK (hP.sub [1, 11] rfl) (ci := 1) (q0 := 0) rfl rfl) rfl rfl hl.1 rfl (lv_room (Nat.le_of_ble_eq_true rfl)) d_X_onTheWay_65 ⟨Nat.le_of_ble_eq_true rfl, Nat.le_of_ble_eq_true rfl⟩) ?_
            refine nv_as (nI (S.1 0 (S.1 6 i))) (rowf_at (by decide)) ?_
            have hb4 : S.1 0 (S.1 6 i) ≤ 9 := hB 0 _
            refine lv_iload_n hx hb d_X_onTheWay_68 rfl (lv_at hl 5 rfl) ?_
            refine nv_cne (tgt := 110) hx hb (by omega) (by omega) d_X_onTheWay_69 (by decide) (fun c69 => ?_) (fun c69 => ?_)
            · refine lv_iinc (v := nI (i + 1)) (lv' := [(5, .int (nI (i + 1))), (6, .int (nI (S.1 6 i))), (4, .int (nI (sIf (fun j => decide (S.1 9 j = 1) && (decide (S.1 5 j = st) && (decide (S.1 0 (S.1 6 j) = kd) && (!g || decide (S.1 8 j ≤ S.1 1 (S.1 6 j)))))) (fun j => S.1 7 j) i))), (0, .ref (q 0)), (1, .int (nI st)), (2, .int (nI kd)), (3, .int (b2 g))]) hx hb d_X_onTheWay_110 hl (k := 1) rfl (nI_1 _) (by decide) rfl (fun ls hl => ?_)
              refine lv_goto (tgt := 6) hx hb d_X_onTheWay_113 (by decide) ?_
              exact ih (i + 1) (by omega) (by omega) ls (lv_sub hl [0, 2, 3, 4, 5, 6] (by rw [sIf_f (by simp [c69])]; rfl))
            · refine lv_iload_n hx hb d_X_onTheWay_72 rfl (lv_at hl 6 rfl) ?_
              refine nv_bz (tgt := 95) hx hb d_X_onTheWay_73 (by decide) (fun c73 => ?_) (fun c73 => ?_)
              · refine lv_iload hx hb d_X_onTheWay_95 (lv_at hl 2 rfl) ?_
                refine lv_aload_n hx hb d_X_onTheWay_97 rfl (lv_at hl 3 rfl) ?_
                refine va_get (D := (dC, dI)) (ci := 0) (v := .ref (q 2)) (C := R_X) (T := F_X) (N := 12) hx hb hts i_X hown hK hP 0 rfl rfl 1 (by decide) (hts _ wd_58) (fun _ h9 => h9) rfl d_X_onTheWay_98 ?_
                refine lv_iload hx hb d_X_onTheWay_101 (lv_at hl 1 rfl) ?_
                refine lv_iconst (v := nI 2) hx hb d_X_onTheWay_103 (by decide) ?_
                refine pu_go (va_runV (As := [.int (nI i), .int (nI 2)]) (rest := [.int (nI (sIf (fun j => decide (S.1 9 j = 1) && (decide (S.1 5 j = st) && (decide (S.1 0 (S.1 6 j) = kd) && (!g || decide (S.1 8 j ≤ S.1 1 (S.1 6 j)))))) (fun j => S.1 7 j) i))]) ⟨hx, hb, hml, hown, hts⟩ (c_W_at l dC dI cI (q 2) (q 12) 60 (S.2.1 3) 300 (rowf S.1 5) i 2 (by omega) (by decide)) (cwV 2 hts (gi_V wd_117 wd_118 wd_119 wd_2 wd_120) rfl rfl rfl (by decide +kernel) ⟨Nat.le_of_ble_eq_true rfl, Nat.le_of_ble_eq_true rfl⟩) (pu_preV hK (hP.sub [2, 12] rfl) (ci := 1) (q0 := 0) rfl rfl) rfl rfl hl.1 rfl (lv_room (Nat.le_of_ble_eq_true rfl)) d_X_onTheWay_104 ⟨Nat.le_of_ble_eq_true rfl, Nat.le_of_ble_eq_true rfl⟩) ?_
                refine nv_as (nI (S.1 7 i)) (rowf_at (by decide)) ?_
                have hb5 : S.1 7 i ≤ 9999 := hB 7 _
                refine nv_add hx hb d_X_onTheWay_107 ?_
                refine lv_istore (lv' := [(4, .int (nI ((sIf (fun j => decide (S.1 9 j = 1) && (decide (S.1 5 j = st) && (decide (S.1 0 (S.1 6 j) = kd) && (!g || decide (S.1 8 j ≤ S.1 1 (S.1 6 j)))))) (fun j => S.1 7 j) i) + (S.1 7 i)))), (6, .int (nI (S.1 6 i))), (5, .int (nI i)), (0, .ref (q 0)), (1, .int (nI st)), (2, .int (nI kd)), (3, .int (b2 g))]) hx hb d_X_onTheWay_108 hl (by decide) rfl (fun ls hl => ?_)
                refine lv_iinc (v := nI (i + 1)) (lv' := [(5, .int (nI (i + 1))), (4, .int (nI ((sIf (fun j => decide (S.1 9 j = 1) && (decide (S.1 5 j = st) && (decide (S.1 0 (S.1 6 j) = kd) && (!g || decide (S.1 8 j ≤ S.1 1 (S.1 6 j)))))) (fun j => S.1 7 j) i) + (S.1 7 i)))), (6, .int (nI (S.1 6 i))), (0, .ref (q 0)), (1, .int (nI st)), (2, .int (nI kd)), (3, .int (b2 g))]) hx hb d_X_onTheWay_110 hl (k := 2) rfl (nI_1 _) (by decide) rfl (fun ls hl => ?_)
                refine lv_goto (tgt := 6) hx hb d_X_onTheWay_113 (by decide) ?_
                exact ih (i + 1) (by omega) (by omega) ls (lv_sub hl [0, 1, 3, 4, 5, 6] (by rw [sIf_t (by simp [c41, c55, c69, c73])]; rfl))
              · refine lv_aload_n hx hb d_X_onTheWay_76 rfl (lv_at hl 3 rfl) ?_
                refine lv_iload hx hb d_X_onTheWay_77 (lv_at hl 0 rfl) ?_
                refine lv_aload_n hx hb d_X_onTheWay_79 rfl (lv_at hl 3 rfl) ?_
                refine va_get (D := (dC, dI)) (ci := 0) (v := .ref (q 2)) (C := R_X) (T := F_X) (N := 12) hx hb hts i_X hown hK hP 0 rfl rfl 1 (by decide) (hts _ wd_58) (fun _ h9 => h9) rfl d_X_onTheWay_80 ?_
                refine lv_iload hx hb d_X_onTheWay_83 (lv_at hl 1 rfl) ?_
                refine lv_iconst (v := nI 3) hx hb d_X_onTheWay_85 (by decide) ?_
                refine pu_go (va_runV (As := [.int (nI i), .int (nI 3)]) (rest := [.int (nI (S.1 6 i)), .ref (q 0)]) ⟨hx, hb, hml, hown, hts⟩ (c_W_at l dC dI cI (q 2) (q 12) 60 (S.2.1 3) 300 (rowf S.1 5) i 3 (by omega) (by decide)) (cwV 2 hts (gi_V wd_117 wd_118 wd_119 wd_2 wd_120) rfl rfl rfl (by decide +kernel) ⟨Nat.le_of_ble_eq_true rfl, Nat.le_of_ble_eq_true rfl⟩) (pu_preV hK (hP.sub [2, 12] rfl) (ci := 1) (q0 := 0) rfl rfl) rfl rfl hl.1 rfl (lv_room (Nat.le_of_ble_eq_true rfl)) d_X_onTheWay_86 ⟨Nat.le_of_ble_eq_true rfl, Nat.le_of_ble_eq_true rfl⟩) ?_
                refine nv_as (nI (S.1 8 i)) (rowf_at (by decide)) ?_
                have hb6 : S.1 8 i ≤ 10029 := hB 8 _
                refine pu_go (va_runV (As := [.int (nI (S.1 6 i)), .int (nI (S.1 8 i))]) (rest := []) ⟨hx, hb, hml, hown, hts⟩ (c_X_isGoodOn l dC dI cI q S t hI (S.1 6 i) (S.1 8 i) (by omega) (by omega)) (cwV 2 hts (gi_V wd_121 wd_123 wp_2 wd_1 wd_124) rfl rfl rfl (by decide +kernel) ⟨Nat.le_of_ble_eq_true rfl, Nat.le_of_ble_eq_true rfl⟩) (pu_preV hK hP (ci := 0) (q0 := 0) rfl rfl) rfl rfl hl.1 rfl (lv_room (Nat.le_of_ble_eq_true rfl)) d_X_onTheWay_89 ⟨Nat.le_of_ble_eq_true rfl, Nat.le_of_ble_eq_true rfl⟩) ?_
                refine nv_bz (tgt := 110) hx hb d_X_onTheWay_92 (by decide) (fun c92 => ?_) (fun c92 => ?_)
                · refine lv_iinc (v := nI (i + 1)) (lv' := [(5, .int (nI (i + 1))), (6, .int (nI (S.1 6 i))), (4, .int (nI (sIf (fun j => decide (S.1 9 j = 1) && (decide (S.1 5 j = st) && (decide (S.1 0 (S.1 6 j) = kd) && (!g || decide (S.1 8 j ≤ S.1 1 (S.1 6 j)))))) (fun j => S.1 7 j) i))), (0, .ref (q 0)), (1, .int (nI st)), (2, .int (nI kd)), (3, .int (b2 g))]) hx hb d_X_onTheWay_110 hl (k := 1) rfl (nI_1 _) (by decide) rfl (fun ls hl => ?_)
                  refine lv_goto (tgt := 6) hx hb d_X_onTheWay_113 (by decide) ?_
                  exact ih (i + 1) (by omega) (by omega) ls (lv_sub hl [0, 2, 3, 4, 5, 6] (by rw [sIf_f (by simp [c73, of_decide_eq_false c92])]; rfl))
                · refine lv_iload hx hb d_X_onTheWay_95 (lv_at hl 2 rfl) ?_
                  refine lv_aload_n hx hb d_X_onTheWay_97 rfl (lv_at hl 3 rfl) ?_
                  refine va_get (D := (dC, dI)) (ci := 0) (v := .ref (q 2)) (C := R_X) (T := F_X) (N := 12) hx hb hts i_X hown hK hP 0 rfl rfl 1 (by decide) (hts _ wd_58) (fun _ h9 => h9) rfl d_X_onTheWay_98 ?_
                  refine lv_iload hx hb d_X_onTheWay_101 (lv_at hl 1 rfl) ?_
                  refine lv_iconst (v := nI 2) hx hb d_X_onTheWay_103 (by decide) ?_
                  refine pu_go (va_runV (As := [.int (nI i), .int (nI 2)]) (rest := [.int (nI (sIf (fun j => decide (S.1 9 j = 1) && (decide (S.1 5 j = st) && (decide (S.1 0 (S.1 6 j) = kd) && (!g || decide (S.1 8 j ≤ S.1 1 (S.1 6 j)))))) (fun j => S.1 7 j) i))]) ⟨hx, hb, hml, hown, hts⟩ (c_W_at l dC dI cI (q 2) (q 12) 60 (S.2.1 3) 300 (rowf S.1 5) i 2 (by omega) (by decide)) (cwV 2 hts (gi_V wd_117 wd_118 wd_119 wd_2 wd_120) rfl rfl rfl (by decide +kernel) ⟨Nat.le_of_ble_eq_true rfl, Nat.le_of_ble_eq_true rfl⟩) (pu_preV hK (hP.sub [2, 12] rfl) (ci := 1) (q0 := 0) rfl rfl) rfl rfl hl.1 rfl (lv_room (Nat.le_of_ble_eq_true rfl)) d_X_onTheWay_104 ⟨Nat.le_of_ble_eq_true rfl, Nat.le_of_ble_eq_true rfl⟩) ?_
                  refine nv_as (nI (S.1 7 i)) (rowf_at (by decide)) ?_
                  have hb7 : S.1 7 i ≤ 9999 := hB 7 _
                  refine nv_add hx hb d_X_onTheWay_107 ?_
                  refine lv_istore (lv' := [(4, .int (nI ((sIf (fun j => decide (S.1 9 j = 1) && (decide (S.1 5 j = st) && (decide (S.1 0 (S.1 6 j) = kd) && (!g || decide (S.1 8 j ≤ S.1 1 (S.1 6 j)))))) (fun j => S.1 7 j) i) + (S.1 7 i)))), (6, .int (nI (S.1 6 i))), (5, .int (nI i)), (0, .ref (q 0)), (1, .int (nI st)), (2, .int (nI kd)), (3, .int (b2 g))]) hx hb d_X_onTheWay_108 hl (by decide) rfl (fun ls hl => ?_)
                  refine lv_iinc (v := nI (i + 1)) (lv' := [(5, .int (nI (i + 1))), (4, .int (nI ((sIf (fun j => decide (S.1 9 j = 1) && (decide (S.1 5 j = st) && (decide (S.1 0 (S.1 6 j) = kd) && (!g || decide (S.1 8 j ≤ S.1 1 (S.1 6 j)))))) (fun j => S.1 7 j) i) + (S.1 7 i)))), (6, .int (nI (S.1 6 i))), (0, .ref (q 0)), (1, .int (nI st)), (2, .int (nI kd)), (3, .int (b2 g))]) hx hb d_X_onTheWay_110 hl (k := 2) rfl (nI_1 _) (by decide) rfl (fun ls hl => ?_)
                  refine lv_goto (tgt := 6) hx hb d_X_onTheWay_113 (by decide) ?_
                  exact ih (i + 1) (by omega) (by omega) ls (lv_sub hl [0, 1, 3, 4, 5, 6] (by rw [sIf_t (by simp [c41, c55, c69, c73, of_decide_eq_true c92])]; rfl))
  exact LP6 (S.2.1 3 + 1) 0 (by omega) (by omega) ls (lv_sub hl [0, 1, 2, 3, 4, 5] rfl)
set_option maxHeartbeats 4000000 in
set_option maxRecDepth 100000 in
theorem c_X_inOpenOrders (l : Launch) (dC : Nat → ClassId) (dI : Nat → Nat → Nat) (cI : ClassId) (q : Nat → Nat) (S : St) (t : Nat) (hI : Bd t S) (st kd : Nat) (hs : st < 8) (hk : kd < 10) : Met l y_X_inOpenOrders (.code y_X_inOpenOrders b_X_inOpenOrders 5 (some .int) :: bg) { frames := 1, cells := 0, slots := 0, locals := 22 } (pu_P (dC, dI) classes (wX q cI S) [(cI, .int)] [.ref (q 0), .int (nI st), .int (nI kd)]) (pu_Q (.int (nI (opn S st kd)))) 0 0 (fun _ => False) := by
  refine Met.ofW (cc := b_X_inOpenOrders) (maxL := 5) (ret := (some .int)) (by decide) rfl ?_
  intro p e s m args below meth c s₁ B hml hv
  obtain ⟨rfl, hP, hK⟩ := hv
  have hx := B.exec
  have hb := B.bytes
  have hr := B.returns
  have hts := fun w (h : w ∈ bg) => atoms_spec (ws := .code y_X_inOpenOrders b_X_inOpenOrders 5 (some .int) :: bg) B.pre w (List.mem_cons_of_mem _ h)
  have hown : s.vm.findClass R_X = some m.cls := findClass_of_methodNamed B.named
  have hlocks := B.notSynchronized
  have hl := lv_entry ([.ref (q 0), .int (nI st), .int (nI kd)]) (n := 5) (Nat.le_of_ble_eq_true rfl)
  rw [lg_entry_eq]
  generalize (lg_sl ([.ref (q 0), .int (nI st), .int (nI kd)]) ++ List.replicate (5 - (lg_sl ([.ref (q 0), .int (nI st), .int (nI kd)])).length) Slot.unset).toArray = ls at hl ⊢
  have hl : lv_has ls 5 [(0, .ref (q 0)), (1, .int (nI st)), (2, .int (nI kd))] := hl
  have hB := hI.1
  have hg0 : S.2.1 0 ≤ 8 := hI.2.1 0
  have hg1 : S.2.1 1 ≤ 9999 := hI.2.1 1
  have hg2 : S.2.1 2 ≤ 60 := hI.2.1 2
  have hg3 : S.2.1 3 ≤ 60 := hI.2.1 3
  have hg4 : S.2.1 4 ≤ 80 := hI.2.1 4
  have hg5 : S.2.1 5 ≤ 20 := hI.2.1 5
  have hg6 : S.2.1 6 ≤ 80 := hI.2.1 6
  have hg7 : S.2.1 7 ≤ 10 := hI.2.1 7
  have hg8 : t ≤ 512 := hI.2.2
  refine lv_iconst (v := nI 0) hx hb d_X_inOpenOrders_0 (by decide) ?_
  refine lv_istore_n (lv' := [(3, .int (nI 0)), (0, .ref (q 0)), (1, .int (nI st)), (2, .int (nI kd))]) hx hb d_X_inOpenOrders_1 rfl hl (by decide) rfl (fun ls hl => ?_)
  refine lv_iconst (v := nI 0) hx hb d_X_inOpenOrders_2 (by decide) ?_
  refine lv_istore (lv' := [(4, .int (nI 0)), (3, .int (nI 0)), (0, .ref (q 0)), (1, .int (nI st)), (2, .int (nI kd))]) hx hb d_X_inOpenOrders_3 hl (by decide) rfl (fun ls hl => ?_)
  have LP5 : ∀ (fu i : Nat), S.2.1 4 - i < fu → i ≤ S.2.1 4 → ∀ ls : Array Slot, lv_has ls 5 [(4, .int (nI i)), (3, .int (nI (sIf (fun j => decide (S.1 14 j = 1) && (decide (S.1 10 j = st) && decide (S.1 11 j = kd))) (fun j => S.1 12 j) i))), (0, .ref (q 0)), (1, .int (nI st)), (2, .int (nI kd))] → W p l e (headSpec (.code y_X_inOpenOrders b_X_inOpenOrders 5 (some .int) :: bg) { frames := 1, cells := 0, slots := 0, locals := 22 }).room s m (List.toArray [.ref (q 0), .int (nI st), .int (nI kd)]) below meth c s.heap [] 0 0 (MQ below (pu_Q (.int (nI (opn S st kd)))) (List.toArray [.ref (q 0), .int (nI st), .int (nI kd)]) s 0 0 (fun _ => False)) (F0 m 5 ls []) := by
    intro fu
    induction fu with
    | zero => intro i h; exact absurd h (Nat.not_lt_zero _)
    | succ fu ih =>
      intro i hfu hi ls hl
      refine lv_iload hx hb d_X_inOpenOrders_5 (lv_at hl 0 rfl) ?_
      refine lv_aload_n hx hb d_X_inOpenOrders_7 rfl (lv_at hl 2 rfl) ?_
      refine va_get (D := (dC, dI)) (ci := 0) (v := .ref (q 3)) (C := R_X) (T := F_X) (N := 12) hx hb hts i_X hown hK hP 0 rfl rfl 2 (by decide) (hts _ wd_59) (fun _ h9 => h9) rfl d_X_inOpenOrders_8 ?_
      refine pu_go (va_runV (As := []) (rest := [.int (nI i)]) ⟨hx, hb, hml, hown, hts⟩ (c_W_made l dC dI cI (q 3) (q 13) 80 (S.2.1 4) 400 (rowf S.1 10)) (cwV 0 hts (gi_V wd_98 wd_99 wd_100 wd_2 wd_101) rfl rfl rfl (by decide +kernel) ⟨Nat.le_of_ble_eq_true rfl, Nat.le_of_ble_eq_true rfl⟩) (pu_preV hK (hP.sub [3, 13] rfl) (ci := 1) (q0 := 0) rfl rfl) rfl rfl hl.1 rfl (lv_room (Nat.le_of_ble_eq_true rfl)) d_X_inOpenOrders_11 ⟨Nat.le_of_ble_eq_true rfl, Nat.le_of_ble_eq_true rfl⟩) ?_
      refine nv_cge (tgt := 78) hx hb (by omega) (by omega) d_X_inOpenOrders_14 (by decide) (fun c14 => ?_) (fun c14 => ?_)
      · obtain rfl : i = S.2.1 4 := by omega
        refine lv_iload_n hx hb d_X_inOpenOrders_78 rfl (lv_at hl 1 rfl) ?_
        refine nv_as (nI (opn S st kd)) (by rfl) ?_
        exact W.iret hx hb hr (fun t ht hW => ⟨rfl, ht⟩) (fun q h => nomatch h) d_X_inOpenOrders_79
      · refine lv_aload_n hx hb d_X_inOpenOrders_17 rfl (lv_at hl 2 rfl) ?_
        refine va_get (D := (dC, dI)) (ci := 0) (v := .ref (q 3)) (C := R_X) (T := F_X) (N := 12) hx hb hts i_X hown hK hP 0 rfl rfl 2 (by decide) (hts _ wd_59) (fun _ h9 => h9) rfl d_X_inOpenOrders_18 ?_
        refine lv_iload hx hb d_X_inOpenOrders_21 (lv_at hl 0 rfl) ?_
        refine lv_iconst (v := nI 4) hx hb d_X_inOpenOrders_23 (by decide) ?_
        refine pu_go (va_runV (As := [.int (nI i), .int (nI 4)]) (rest := []) ⟨hx, hb, hml, hown, hts⟩ (c_W_at l dC dI cI (q 3) (q 13) 80 (S.2.1 4) 400 (rowf S.1 10) i 4 (by omega) (by decide)) (cwV 2 hts (gi_V wd_117 wd_118 wd_119 wd_2 wd_120) rfl rfl rfl (by decide +kernel) ⟨Nat.le_of_ble_eq_true rfl, Nat.le_of_ble_eq_true rfl⟩) (pu_preV hK (hP.sub [3, 13] rfl) (ci := 1) (q0 := 0) rfl rfl) rfl rfl hl.1 rfl (lv_room (Nat.le_of_ble_eq_true rfl)) d_X_inOpenOrders_24 ⟨Nat.le_of_ble_eq_true rfl, Nat.le_of_ble_eq_true rfl⟩) ?_
        refine nv_as (nI (S.1 14 i)) (rowf_at (by decide)) ?_
        have hb1 : S.1 14 i ≤ 1 := hB 14 _
        refine lv_iconst (v := nI 1) hx hb d_X_inOpenOrders_27 (by decide) ?_
        refine nv_cne (tgt := 72) hx hb (by omega) (by omega) d_X_inOpenOrders_28 (by decide) (fun c28 => ?_) (fun c28 => ?_)
        · refine lv_iinc (v := nI (i + 1)) (lv' := [(4, .int (nI (i + 1))), (3, .int (nI (sIf (fun j => decide (S.1 14 j = 1) && (decide (S.1 10 j = st) && decide (S.1 11 j = kd))) (fun j => S.1 12 j) i))), (0, .ref (q 0)), (1, .int (nI st)), (2, .int (nI kd))]) hx hb d_X_inOpenOrders_72 hl (k := 0) rfl (nI_1 _) (by decide) rfl (fun ls hl => ?_)
          refine lv_goto (tgt := 5) hx hb d_X_inOpenOrders_75 (by decide) ?_
          exact ih (i + 1) (by omega) (by omega) ls (lv_sub hl [0, 1, 2, 3, 4] (by rw [sIf_f (by simp [c28])]; rfl))
        · refine lv_aload_n hx hb d_X_inOpenOrders_31 rfl (lv_at hl 2 rfl) ?_
          refine va_get (D := (dC, dI)) (ci := 0) (v := .ref (q 3)) (C := R_X) (T := F_X) (N := 12) hx hb hts i_X hown hK hP 0 rfl rfl 2 (by decide) (hts _ wd_59) (fun _ h9 => h9) rfl d_X_inOpenOrders_32 ?_
          refine lv_iload hx hb d_X_inOpenOrders_35 (lv_at hl 0 rfl) ?_
          refine lv_iconst (v := nI 0) hx hb d_X_inOpenOrders_37 (by decide) ?_
          refine pu_go (va_runV (As := [.int (nI i), .int (nI 0)]) (rest := []) ⟨hx, hb, hml, hown, hts⟩ (c_W_at l dC dI cI (q 3) (q 13) 80 (S.2.1 4) 400 (rowf S.1 10) i 0 (by omega) (by decide)) (cwV 2 hts (gi_V wd_117 wd_118 wd_119 wd_2 wd_120) rfl rfl rfl (by decide +kernel) ⟨Nat.le_of_ble_eq_true rfl, Nat.le_of_ble_eq_true rfl⟩) (pu_preV hK (hP.sub [3, 13] rfl) (ci := 1) (q0 := 0) rfl rfl) rfl rfl hl.1 rfl (lv_room (Nat.le_of_ble_eq_true rfl)) d_X_inOpenOrders_38 ⟨Nat.le_of_ble_eq_true rfl, Nat.le_of_ble_eq_true rfl⟩) ?_
          refine nv_as (nI (S.1 10 i)) (rowf_at (by decide)) ?_
          have hb2 : S.1 10 i ≤ 7 := hB 10 _
          refine lv_iload_n hx hb d_X_inOpenOrders_41 rfl (lv_at hl 3 rfl) ?_
          refine nv_cne (tgt := 72) hx hb (by omega) (by omega) d_X_inOpenOrders_42 (by decide) (fun c42 => ?_) (fun c42 => ?_)
          · refine lv_iinc (v := nI (i + 1)) (lv' := [(4, .int (nI (i + 1))), (3, .int (nI (sIf (fun j => decide (S.1 14 j = 1) && (decide (S.1 10 j = st) && decide (S.1 11 j = kd))) (fun j => S.1 12 j) i))), (0, .ref (q 0)), (1, .int (nI st)), (2, .int (nI kd))]) hx hb d_X_inOpenOrders_72 hl (k := 0) rfl (nI_1 _) (by decide) rfl (fun ls hl => ?_)
            refine lv_goto (tgt := 5) hx hb d_X_inOpenOrders_75 (by decide) ?_
            exact ih (i + 1) (by omega) (by omega) ls (lv_sub hl [0, 1, 2, 3, 4] (by rw [sIf_f (by simp [c42])]; rfl))
          · refine lv_aload_n hx hb d_X_inOpenOrders_45 rfl (lv_at hl 2 rfl) ?_
            refine va_get (D := (dC, dI)) (ci := 0) (v := .ref (q 3)) (C := R_X) (T := F_X) (N := 12) hx hb hts i_X hown hK hP 0 rfl rfl 2 (by decide) (hts _ wd_59) (fun _ h9 => h9) rfl d_X_inOpenOrders_46 ?_
            refine lv_iload hx hb d_X_inOpenOrders_49 (lv_at hl 0 rfl) ?_
            refine lv_iconst (v := nI 1) hx hb d_X_inOpenOrders_51 (by decide) ?_
            refine pu_go (va_runV (As := [.int (nI i), .int (nI 1)]) (rest := []) ⟨hx, hb, hml, hown, hts⟩ (c_W_at l dC dI cI (q 3) (q 13) 80 (S.2.1 4) 400 (rowf S.1 10) i 1 (by omega) (by decide)) (cwV 2 hts (gi_V wd_117 wd_118 wd_119 wd_2 wd_120) rfl rfl rfl (by decide +kernel) ⟨Nat.le_of_ble_eq_true rfl, Nat.le_of_ble_eq_true rfl⟩) (pu_preV hK (hP.sub [3, 13] rfl) (ci := 1) (q0 := 0) rfl rfl) rfl rfl hl.1 rfl (lv_room (Nat.le_of_ble_eq_true rfl)) d_X_inOpenOrders_52 ⟨Nat.le_of_ble_eq_true rfl, Nat.le_of_ble_eq_true rfl⟩) ?_
            refine nv_as (nI (S.1 11 i)) (rowf_at (by decide)) ?_
            have hb3 : S.1 11 i ≤ 9 := hB 11 _
            refine lv_iload_n hx hb d_X_inOpenOrders_55 rfl (lv_at hl 4 rfl) ?_
            refine nv_cne (tgt := 72) hx hb (by omega) (by omega) d_X_inOpenOrders_56 (by decide) (fun c56 => ?_) (fun c56 => ?_)
            · refine lv_iinc (v := nI (i + 1)) (lv' := [(4, .int (nI (i + 1))), (3, .int (nI (sIf (fun j => decide (S.1 14 j = 1) && (decide (S.1 10 j = st) && decide (S.1 11 j = kd))) (fun j => S.1 12 j) i))), (0, .ref (q 0)), (1, .int (nI st)), (2, .int (nI kd))]) hx hb d_X_inOpenOrders_72 hl (k := 0) rfl (nI_1 _) (by decide) rfl (fun ls hl => ?_)
              refine lv_goto (tgt := 5) hx hb d_X_inOpenOrders_75 (by decide) ?_
              exact ih (i + 1) (by omega) (by omega) ls (lv_sub hl [0, 1, 2, 3, 4] (by rw [sIf_f (by simp [c56])]; rfl))
            · refine lv_iload_n hx hb d_X_inOpenOrders_59 rfl (lv_at hl 1 rfl) ?_
              refine lv_aload_n hx hb d_X_inOpenOrders_60 rfl (lv_at hl 2 rfl) ?_
              refine va_get (D := (dC, dI)) (ci := 0) (v := .ref (q 3)) (C := R_X) (T := F_X) (N := 12) hx hb hts i_X hown hK hP 0 rfl rfl 2 (by decide) (hts _ wd_59) (fun _ h9 => h9) rfl d_X_inOpenOrders_61 ?_
              refine lv_iload hx hb d_X_inOpenOrders_64 (lv_at hl 0 rfl) ?_
              refine lv_iconst (v := nI 2) hx hb d_X_inOpenOrders_66 (by decide) ?_
              refine pu_go (va_runV (As := [.int (nI i), .int (nI 2)]) (rest := [.int (nI (sIf (fun j => decide (S.1 14 j = 1) && (decide (S.1 10 j = st) && decide (S.1 11 j = kd))) (fun j => S.1 12 j) i))]) ⟨hx, hb, hml, hown, hts⟩ (c_W_at l dC dI cI (q 3) (q 13) 80 (S.2.1 4) 400 (rowf S.1 10) i 2 (by omega) (by decide)) (cwV 2 hts (gi_V wd_117 wd_118 wd_119 wd_2 wd_120) rfl rfl rfl (by decide +kernel) ⟨Nat.le_of_ble_eq_true rfl, Nat.le_of_ble_eq_true rfl⟩) (pu_preV hK (hP.sub [3, 13] rfl) (ci := 1) (q0 := 0) rfl rfl) rfl rfl hl.1 rfl (lv_room (Nat.le_of_ble_eq_true rfl)) d_X_inOpenOrders_67 ⟨Nat.le_of_ble_eq_true rfl, Nat.le_of_ble_eq_true rfl⟩) ?_
              refine nv_as (nI (S.1 12 i)) (rowf_at (by decide)) ?_
              have hb4 : S.1 12 i ≤ 9999 := hB 12 _
              refine nv_add hx hb d_X_inOpenOrders_70 ?_
              refine lv_istore_n (lv' := [(3, .int (nI ((sIf (fun j => decide (S.1 14 j = 1) && (decide (S.1 10 j = st) && decide (S.1 11 j = kd))) (fun j => S.1 12 j) i) + (S.1 12 i)))), (4, .int (nI i)), (0, .ref (q 0)), (1, .int (nI st)), (2, .int (nI kd))]) hx hb d_X_inOpenOrders_71 rfl hl (by decide) rfl (fun ls hl => ?_)
              refine lv_iinc (v := nI (i + 1)) (lv' := [(4, .int (nI (i + 1))), (3, .int (nI ((sIf (fun j => decide (S.1 14 j = 1) && (decide (S.1 10 j = st) && decide (S.1 11 j = kd))) (fun j => S.1 12 j) i) + (S.1 12 i)))), (0, .ref (q 0)), (1, .int (nI st)), (2, .int (nI kd))]) hx hb d_X_inOpenOrders_72 hl (k := 1) rfl (nI_1 _) (by decide) rfl (fun ls hl => ?_)
              refine lv_goto (tgt := 5) hx hb d_X_inOpenOrders_75 (by decide) ?_
              exact ih (i + 1) (by omega) (by omega) ls (lv_sub hl [0, 1, 2, 3, 4] (by rw [sIf_t (by simp [c28, c42, c56])]; rfl))
  exact LP5 (S.2.1 4 + 1) 0 (by omega) (by omega) ls (lv_sub hl [0, 1, 2, 3, 4] rfl)
set_option maxHeartbeats 4000000 in
set_option maxRecDepth 100000 in
theorem c_X_isTakenBefore (l : Launch) (dC : Nat → ClassId) (dI : Nat → Nat → Nat) (cI : ClassId) (q : Nat → Nat) (S : St) (t : Nat) (hI : Bd t S) (st j b : Nat) (hs : st < 8) (hj : j < 60) (hb0 : b < 60) : Met l y_X_isTakenBefore (.code y_X_isTakenBefore b_X_isTakenBefore 6 (some .boolean) :: bg) { frames := 1, cells := 0, slots := 0, locals := 22 } (pu_P (dC, dI) classes (wX q cI S) [(cI, .int)] [.ref (q 0), .int (nI st), .int (nI j), .int (nI b)]) (pu_Q (.int (b2 (before S st j b)))) 0 0 (fun _ => False) := by
  refine Met.ofW (cc := b_X_isTakenBefore) (maxL := 6) (ret := (some .boolean)) (by decide) rfl ?_
  intro p e s m args below meth c s₁ B hml hv
  obtain ⟨rfl, hP, hK⟩ := hv
  have hx := B.exec
  have hb := B.bytes
  have hr := B.returns
  have hts := fun w (h : w ∈ bg) => atoms_spec (ws := .code y_X_isTakenBefore b_X_isTakenBefore 6 (some .boolean) :: bg) B.pre w (List.mem_cons_of_mem _ h)
  have hown : s.vm.findClass R_X = some m.cls := findClass_of_methodNamed B.named
  have hlocks := B.notSynchronized
  have hl := lv_entry ([.ref (q 0), .int (nI st), .int (nI j), .int (nI b)]) (n := 6) (Nat.le_of_ble_eq_true rfl)
  rw [lg_entry_eq]
  generalize (lg_sl ([.ref (q 0), .int (nI st), .int (nI j), .int (nI b)]) ++ List.replicate (6 - (lg_sl ([.ref (q 0), .int (nI st), .int (nI j), .int (nI b)])).length) Slot.unset).toArray = ls at hl ⊢
  have hl : lv_has ls 6 [(0, .ref (q 0)), (1, .int (nI st)), (2, .int (nI j)), (3, .int (nI b))] := hl
  have hB := hI.1
  have hg0 : S.2.1 0 ≤ 8 := hI.2.1 0
  have hg1 : S.2.1 1 ≤ 9999 := hI.2.1 1
  have hg2 : S.2.1 2 ≤ 60 := hI.2.1 2
  have hg3 : S.2.1 3 ≤ 60 := hI.2.1 3
  have hg4 : S.2.1 4 ≤ 80 := hI.2.1 4
  have hg5 : S.2.1 5 ≤ 20 := hI.2.1 5
  have hg6 : S.2.1 6 ≤ 80 := hI.2.1 6
  have hg7 : S.2.1 7 ≤ 10 := hI.2.1 7
  have hg8 : t ≤ 512 := hI.2.2
  refine lv_aload_n hx hb d_X_isTakenBefore_0 rfl (lv_at hl 0 rfl) ?_
  refine va_get (D := (dC, dI)) (ci := 0) (v := .ref (q 1)) (C := R_X) (T := F_X) (N := 12) hx hb hts i_X hown hK hP 0 rfl rfl 0 (by decide) (hts _ wd_57) (fun _ h9 => h9) rfl d_X_isTakenBefore_1 ?_
  refine lv_iload_n hx hb d_X_isTakenBefore_4 rfl (lv_at hl 2 rfl) ?_
  refine lv_iconst (v := nI 1) hx hb d_X_isTakenBefore_5 (by decide) ?_
  refine pu_go (va_runV (As := [.int (nI j), .int (nI 1)]) (rest := []) ⟨hx, hb, hml, hown, hts⟩ (c_W_at l dC dI cI (q 1) (q 11) 60 (S.2.1 2) 300 (rowf S.1 0) j 1 (by omega) (by decide)) (cwV 2 hts (gi_V wd_117 wd_118 wd_119 wd_2 wd_120) rfl rfl rfl (by decide +kernel) ⟨Nat.le_of_ble_eq_true rfl, Nat.le_of_ble_eq_true rfl⟩) (pu_preV hK (hP.sub [1, 11] rfl) (ci := 1) (q0 := 0) rfl rfl) rfl rfl hl.1 rfl (lv_room (Nat.le_of_ble_eq_true rfl)) d_X_isTakenBefore_6 ⟨Nat.le_of_ble_eq_true rfl, Nat.le_of_ble_eq_true rfl⟩) ?_
  refine nv_as (nI (S.1 1 j)) (rowf_at (by decide)) ?_
  have hb1 : S.1 1 j ≤ 9999 := hB 1 _
  refine lv_istore (lv' := [(4, .int (nI (S.1 1 j))), (0, .ref (q 0)), (1, .int (nI st)), (2, .int (nI j)), (3, .int (nI b))]) hx hb d_X_isTakenBefore_9 hl (by decide) rfl (fun ls hl => ?_)
  refine lv_aload_n hx hb d_X_isTakenBefore_11 rfl (lv_at hl 1 rfl) ?_
  refine va_get (D := (dC, dI)) (ci := 0) (v := .ref (q 1)) (C := R_X) (T := F_X) (N := 12) hx hb hts i_X hown hK hP 0 rfl rfl 0 (by decide) (hts _ wd_57) (fun _ h9 => h9) rfl d_X_isTakenBefore_12 ?_
  refine lv_iload_n hx hb d_X_isTakenBefore_15 rfl (lv_at hl 4 rfl) ?_
  refine lv_iconst (v := nI 1) hx hb d_X_isTakenBefore_16 (by decide) ?_
  refine pu_go (va_runV (As := [.int (nI b), .int (nI 1)]) (rest := []) ⟨hx, hb, hml, hown, hts⟩ (c_W_at l dC dI cI (q 1) (q 11) 60 (S.2.1 2) 300 (rowf S.1 0) b 1 (by omega) (by decide)) (cwV 2 hts (gi_V wd_117 wd_118 wd_119 wd_2 wd_120) rfl rfl rfl (by decide +kernel) ⟨Nat.le_of_ble_eq_true rfl, Nat.le_of_ble_eq_true rfl⟩) (pu_preV hK (hP.sub [1, 11] rfl) (ci := 1) (q0 := 0) rfl rfl) rfl rfl hl.1 rfl (lv_room (Nat.le_of_ble_eq_true rfl)) d_X_isTakenBefore_17 ⟨Nat.le_of_ble_eq_true rfl, Nat.le_of_ble_eq_true rfl⟩) ?_
  refine nv_as (nI (S.1 1 b)) (rowf_at (by decide)) ?_
  have hb2 : S.1 1 b ≤ 9999 := hB 1 _
  refine lv_istore (lv' := [(5, .int (nI (S.1 1 b))), (4, .int (nI (S.1 1 j))), (0, .ref (q 0)), (1, .int (nI st)), (2, .int (nI j)), (3, .int (nI b))]) hx hb d_X_isTakenBefore_20 hl (by decide) rfl (fun ls hl => ?_)
  refine lv_iload hx hb d_X_isTakenBefore_22 (lv_at hl 1 rfl) ?_
  refine lv_iload hx hb d_X_isTakenBefore_24 (lv_at hl 0 rfl) ?_
  refine nv_ceq (tgt := 42) hx hb (by omega) (by omega) d_X_isTakenBefore_26 (by decide) (fun c26 => ?_) (fun c26 => ?_)
  · refine lv_aload_n hx hb d_X_isTakenBefore_42 rfl (lv_at hl 2 rfl) ?_
    refine va_get (D := (dC, dI)) (ci := 0) (v := .ref (q 7)) (C := R_X) (T := F_X) (N := 12) hx hb hts i_X hown hK hP 0 rfl rfl 6 (by decide) (hts _ wd_63) (fun _ h9 => h9) rfl d_X_isTakenBefore_43 ?_
    refine lv_iload_n hx hb d_X_isTakenBefore_46 rfl (lv_at hl 3 rfl) ?_
    refine lv_iload_n hx hb d_X_isTakenBefore_47 rfl (lv_at hl 4 rfl) ?_
    refine pu_go (va_runS (As := [.int (nI st), .int (nI j)]) (rest := [.ref (q 7)]) ⟨hx, hb, hml, hown, hts⟩ (c_X_place l dC dI st j) (cwS 2 hts (gi_S wd_125 wd_126 wd_1 wd_127) rfl rfl rfl (by decide +kernel) ⟨Nat.le_of_ble_eq_true rfl, Nat.le_of_ble_eq_true rfl⟩) (pu_preS (hK.sub (tys' := []) [] rfl) (fun k q h => by simp at h)) rfl rfl hl.1 rfl (lv_room (Nat.le_of_ble_eq_true rfl)) d_X_isTakenBefore_48 ⟨Nat.le_of_ble_eq_true rfl, Nat.le_of_ble_eq_true rfl⟩) ?_
    refine nv_iald (v := nI (S.1 25 (st * 60 + j))) hx hb hK hP 7 0 rfl rfl (by omega) (by decide) rfl d_X_isTakenBefore_51 ?_
    have hb51 : S.1 25 (st * 60 + j) ≤ 9999 := hB 25 _
    refine lv_aload_n hx hb d_X_isTakenBefore_52 rfl (lv_at hl 2 rfl) ?_
    refine va_get (D := (dC, dI)) (ci := 0) (v := .ref (q 7)) (C := R_X) (T := F_X) (N := 12) hx hb hts i_X hown hK hP 0 rfl rfl 6 (by decide) (hts _ wd_63) (fun _ h9 => h9) rfl d_X_isTakenBefore_53 ?_
    refine lv_iload_n hx hb d_X_isTakenBefore_56 rfl (lv_at hl 3 rfl) ?_
    refine lv_iload_n hx hb d_X_isTakenBefore_57 rfl (lv_at hl 5 rfl) ?_
    refine pu_go (va_runS (As := [.int (nI st), .int (nI b)]) (rest := [.ref (q 7), .int (nI (S.1 25 (st * 60 + j)))]) ⟨hx, hb, hml, hown, hts⟩ (c_X_place l dC dI st b) (cwS 2 hts (gi_S wd_125 wd_126 wd_1 wd_127) rfl rfl rfl (by decide +kernel) ⟨Nat.le_of_ble_eq_true rfl, Nat.le_of_ble_eq_true rfl⟩) (pu_preS (hK.sub (tys' := []) [] rfl) (fun k q h => by simp at h)) rfl rfl hl.1 rfl (lv_room (Nat.le_of_ble_eq_true rfl)) d_X_isTakenBefore_58 ⟨Nat.le_of_ble_eq_true rfl, Nat.le_of_ble_eq_true rfl⟩) ?_
    refine nv_iald (v := nI (S.1 25 (st * 60 + b))) hx hb hK hP 7 0 rfl rfl (by omega) (by decide) rfl d_X_isTakenBefore_61 ?_
    have hb61 : S.1 25 (st * 60 + b) ≤ 9999 := hB 25 _
    refine nv_cge (tgt := 69) hx hb (by omega) (by omega) d_X_isTakenBefore_62 (by decide) (fun c62 => ?_) (fun c62 => ?_)
    · refine lv_iconst (v := nI 0) hx hb d_X_isTakenBefore_69 (by decide) ?_
      refine nv_as (b2 (before S st j b)) (by unfold before; rw [if_neg (fun h => h c26), decide_eq_false (by omega)]; rfl) ?_
      exact W.zret hx hb hr (b2_nar _) (fun t ht hW => ⟨rfl, ht⟩) (fun q h => nomatch h) d_X_isTakenBefore_70
    · refine lv_iconst (v := nI 1) hx hb d_X_isTakenBefore_65 (by decide) ?_
      refine lv_goto (tgt := 70) hx hb d_X_isTakenBefore_66 (by decide) ?_
      refine nv_as (b2 (before S st j b)) (by unfold before; rw [if_neg (fun h => h c26), decide_eq_true (by omega)]; rfl) ?_
      exact W.zret hx hb hr (b2_nar _) (fun t ht hW => ⟨rfl, ht⟩) (fun q h => nomatch h) d_X_isTakenBefore_70
  · refine lv_iload hx hb d_X_isTakenBefore_29 (lv_at hl 1 rfl) ?_
    refine lv_iload hx hb d_X_isTakenBefore_31 (lv_at hl 0 rfl) ?_
    refine nv_cge (tgt := 40) hx hb (by omega) (by omega) d_X_isTakenBefore_33 (by decide) (fun c33 => ?_) (fun c33 => ?_)
    · refine lv_iconst (v := nI 0) hx hb d_X_isTakenBefore_40 (by decide) ?_
      refine nv_as (b2 (before S st j b)) (by unfold before; rw [if_pos c26, decide_eq_false (by omega)]; rfl) ?_
      exact W.zret hx hb hr (b2_nar _) (fun t ht hW => ⟨rfl, ht⟩) (fun q h => nomatch h) d_X_isTakenBefore_41
    · refine lv_iconst (v := nI 1) hx hb d_X_isTakenBefore_36 (by decide) ?_
      refine lv_goto (tgt := 41) hx hb d_X_isTakenBefore_37 (by decide) ?_
      refine nv_as (b2 (before S st j b)) (by unfold before; rw [if_pos c26, decide_eq_true (by omega)]; rfl) ?_
      exact W.zret hx hb hr (b2_nar _) (fun t ht hW => ⟨rfl, ht⟩) (fun q h => nomatch h) d_X_isTakenBefore_41
set_option maxHeartbeats 4000000 in
set_option maxRecDepth 100000 in
theorem c_X_firstToTake (l : Launch) (dC : Nat → ClassId) (dI : Nat → Nat → Nat) (cI : ClassId) (q : Nat → Nat) (S : St) (t : Nat) (hI : Bd t S) (st kd : Nat) (hs : st < 8) (hk : kd < 10) : Met l y_X_firstToTake (.code y_X_firstToTake b_X_firstToTake 5 (some .int) :: bg) { frames := 2, cells := 0, slots := 0, locals := 47 } (pu_P (dC, dI) classes (wX q cI S) [(cI, .int)] [.ref (q 0), .int (nI st), .int (nI kd)]) (pu_Q (.int (o2 (bst S st kd (S.2.1 2))))) 0 0 (fun _ => False) := by
  refine Met.ofW (cc := b_X_firstToTake) (maxL := 5) (ret := (some .int)) (by decide) rfl ?_
  intro p e s m args below meth c s₁ B hml hv
  obtain ⟨rfl, hP, hK⟩ := hv
  have hx := B.exec
  have hb := B.bytes
  have hr := B.returns
  have hts := fun w (h : w ∈ bg) => atoms_spec (ws := .code y_X_firstToTake b_X_firstToTake 5 (some .int) :: bg) B.pre w (List.mem_cons_of_mem _ h)
  have hown : s.vm.findClass R_X = some m.cls := findClass_of_methodNamed B.named
  have hlocks := B.notSynchronized
  have hl := lv_entry ([.ref (q 0), .int (nI st), .int (nI kd)]) (n := 5) (Nat.le_of_ble_eq_true rfl)
  rw [lg_entry_eq]
  generalize (lg_sl ([.ref (q 0), .int (nI st), .int (nI kd)]) ++ List.replicate (5 - (lg_sl ([.ref (q 0), .int (nI st), .int (nI kd)])).length) Slot.unset).toArray = ls at hl ⊢
  have hl : lv_has ls 5 [(0, .ref (q 0)), (1, .int (nI st)), (2, .int (nI kd))] := hl
  have hB := hI.1
  have hg0 : S.2.1 0 ≤ 8 := hI.2.1 0
  have hg1 : S.2.1 1 ≤ 9999 := hI.2.1 1
  have hg2 : S.2.1 2 ≤ 60 := hI.2.1 2
  have hg3 : S.2.1 3 ≤ 60 := hI.2.1 3
  have hg4 : S.2.1 4 ≤ 80 := hI.2.1 4
  have hg5 : S.2.1 5 ≤ 20 := hI.2.1 5
  have hg6 : S.2.1 6 ≤ 80 := hI.2.1 6
  have hg7 : S.2.1 7 ≤ 10 := hI.2.1 7
  have hg8 : t ≤ 512 := hI.2.2
  refine lv_iconst (v := (-1)) hx hb d_X_firstToTake_0 (by decide) ?_
  refine lv_istore_n (lv' := [(3, .int (-1)), (0, .ref (q 0)), (1, .int (nI st)), (2, .int (nI kd))]) hx hb d_X_firstToTake_1 rfl hl (by decide) rfl (fun ls hl => ?_)
  refine lv_iconst (v := nI 0) hx hb d_X_firstToTake_2 (by decide) ?_
  refine lv_istore (lv' := [(4, .int (nI 0)), (3, .int (-1)), (0, .ref (q 0)), (1, .int (nI st)), (2, .int (nI kd))]) hx hb d_X_firstToTake_3 hl (by decide) rfl (fun ls hl => ?_)
  have LP5 : ∀ (fu i : Nat), S.2.1 2 - i < fu → i ≤ S.2.1 2 → ∀ ls : Array Slot, lv_has ls 5 [(4, .int (nI i)), (3, .int (o2 (bst S st kd i))), (0, .ref (q 0)), (1, .int (nI st)), (2, .int (nI kd))] → W p l e (headSpec (.code y_X_firstToTake b_X_firstToTake 5 (some .int) :: bg) { frames := 2, cells := 0, slots := 0, locals := 47 }).room s m (List.toArray [.ref (q 0), .int (nI st), .int (nI kd)]) below meth c s.heap [] 0 0 (MQ below (pu_Q (.int (o2 (bst S st kd (S.2.1 2))))) (List.toArray [.ref (q 0), .int (nI st), .int (nI kd)]) s 0 0 (fun _ => False)) (F0 m 5 ls []) := by
    intro fu
    induction fu with
    | zero => intro i h; exact absurd h (Nat.not_lt_zero _)
    | succ fu ih =>
      intro i hfu hi ls hl
      refine lv_iload hx hb d_X_firstToTake_5 (lv_at hl 0 rfl) ?_
      refine lv_aload_n hx hb d_X_firstToTake_7 rfl (lv_at hl 2 rfl) ?_
      refine va_get (D := (dC, dI)) (ci := 0) (v := .ref (q 1)) (C := R_X) (T := F_X) (N := 12) hx hb hts i_X hown hK hP 0 rfl rfl 0 (by decide) (hts _ wd_57) (fun _ h9 => h9) rfl d_X_firstToTake_8 ?_
      refine pu_go (va_runV (As := []) (rest := [.int (nI i)]) ⟨hx, hb, hml, hown, hts⟩ (c_W_made l dC dI cI (q 1) (q 11) 60 (S.2.1 2) 300 (rowf S.1 0)) (cwV 0 hts (gi_V wd_98 wd_99 wd_100 wd_2 wd_101) rfl rfl rfl (by decide +kernel) ⟨Nat.le_of_ble_eq_true rfl, Nat.le_of_ble_eq_true rfl⟩) (pu_preV hK (hP.sub [1, 11] rfl) (ci := 1) (q0 := 0) rfl rfl) rfl rfl hl.1 rfl (lv_room (Nat.le_of_ble_eq_true rfl)) d_X_firstToTake_11 ⟨Nat.le_of_ble_eq_true rfl, Nat.le_of_ble_eq_true rfl⟩) ?_
      refine nv_cge (tgt := 82) hx hb (by omega) (by omega) d_X_firstToTake_14 (by decide) (fun c14 => ?_) (fun c14 => ?_)
      · obtain rfl : i = S.2.1 2 := by omega
        refine lv_iload_n hx hb d_X_firstToTake_82 rfl (lv_at hl 1 rfl) ?_
        refine nv_as (o2 (bst S st kd (S.2.1 2))) (by rfl) ?_
        exact W.iret hx hb hr (fun t ht hW => ⟨rfl, ht⟩) (fun q h => nomatch h) d_X_firstToTake_83
      · refine lv_aload_n hx hb d_X_firstToTake_17 rfl (lv_at hl 2 rfl) ?_
        refine va_get (D := (dC, dI)) (ci := 0) (v := .ref (q 1)) (C := R_X) (T := F_X) (N := 12) hx hb hts i_X hown hK hP 0 rfl rfl 0 (by decide) (hts _ wd_57) (fun _ h9 => h9) rfl d_X_firstToTake_18 ?_
        refine lv_iload hx hb d_X_firstToTake_21 (lv_at hl 0 rfl) ?_
        refine lv_iconst (v := nI 0) hx hb d_X_firstToTake_23 (by decide) ?_
        refine pu_go (va_runV (As := [.int (nI i), .int (nI 0)]) (rest := []) ⟨hx, hb, hml, hown, hts⟩ (c_W_at l dC dI cI (q 1) (q 11) 60 (S.2.1 2) 300 (rowf S.1 0) i 0 (by omega) (by decide)) (cwV 2 hts (gi_V wd_117 wd_118 wd_119 wd_2 wd_120) rfl rfl rfl (by decide +kernel) ⟨Nat.le_of_ble_eq_true rfl, Nat.le_of_ble_eq_true rfl⟩) (pu_preV hK (hP.sub [1, 11] rfl) (ci := 1) (q0 := 0) rfl rfl) rfl rfl hl.1 rfl (lv_room (Nat.le_of_ble_eq_true rfl)) d_X_firstToTake_24 ⟨Nat.le_of_ble_eq_true rfl, Nat.le_of_ble_eq_true rfl⟩) ?_
        refine nv_as (nI (S.1 0 i)) (rowf_at (by decide)) ?_
        have hb1 : S.1 0 i ≤ 9 := hB 0 _
        refine lv_iload_n hx hb d_X_firstToTake_27 rfl (lv_at hl 4 rfl) ?_
        refine nv_cne (tgt := 76) hx hb (by omega) (by omega) d_X_firstToTake_28 (by decide) (fun c28 => ?_) (fun c28 => ?_)
        · refine lv_iinc (v := nI (i + 1)) (lv' := [(4, .int (nI (i + 1))), (3, .int (o2 (bst S st kd i))), (0, .ref (q 0)), (1, .int (nI st)), (2, .int (nI kd))]) hx hb d_X_firstToTake_76 hl (k := 0) rfl (nI_1 _) (by decide) rfl (fun ls hl => ?_)
          refine lv_goto (tgt := 5) hx hb d_X_firstToTake_79 (by decide) ?_
          exact ih (i + 1) (by omega) (by omega) ls (lv_sub hl [0, 1, 2, 3, 4] (by rw [bst_no (by simp [takeable, c28])]; rfl))
        · refine lv_aload_n hx hb d_X_firstToTake_31 rfl (lv_at hl 2 rfl) ?_
          refine lv_iload hx hb d_X_firstToTake_32 (lv_at hl 0 rfl) ?_
          refine lv_aload_n hx hb d_X_firstToTake_34 rfl (lv_at hl 2 rfl) ?_
          refine va_get (D := (dC, dI)) (ci := 0) (v := .int (nI (S.2.1 1))) (C := R_X) (T := F_X) (N := 12) hx hb hts i_X hown hK hP 0 rfl rfl 11 (by decide) (hts _ wd_68) (fun _ h9 => h9) rfl d_X_firstToTake_35 ?_
          refine pu_go (va_runV (As := [.int (nI i), .int (nI (S.2.1 1))]) (rest := []) ⟨hx, hb, hml, hown, hts⟩ (c_X_isGoodOn l dC dI cI q S t hI i (S.2.1 1) (by omega) (by omega)) (cwV 2 hts (gi_V wd_121 wd_123 wp_2 wd_1 wd_124) rfl rfl rfl (by decide +kernel) ⟨Nat.le_of_ble_eq_true rfl, Nat.le_of_ble_eq_true rfl⟩) (pu_preV hK hP (ci := 0) (q0 := 0) rfl rfl) rfl rfl hl.1 rfl (lv_room (Nat.le_of_ble_eq_true rfl)) d_X_firstToTake_38 ⟨Nat.le_of_ble_eq_true rfl, Nat.le_of_ble_eq_true rfl⟩) ?_
          refine nv_bz (tgt := 76) hx hb d_X_firstToTake_41 (by decide) (fun c41 => ?_) (fun c41 => ?_)
          · refine lv_iinc (v := nI (i + 1)) (lv' := [(4, .int (nI (i + 1))), (3, .int (o2 (bst S st kd i))), (0, .ref (q 0)), (1, .int (nI st)), (2, .int (nI kd))]) hx hb d_X_firstToTake_76 hl (k := 0) rfl (nI_1 _) (by decide) rfl (fun ls hl => ?_)
            refine lv_goto (tgt := 5) hx hb d_X_firstToTake_79 (by decide) ?_
            exact ih (i + 1) (by omega) (by omega) ls (lv_sub hl [0, 1, 2, 3, 4] (by rw [bst_no (by simp [takeable, of_decide_eq_false c41])]; rfl))
          · refine lv_aload_n hx hb d_X_firstToTake_44 rfl (lv_at hl 2 rfl) ?_
            refine va_get (D := (dC, dI)) (ci := 0) (v := .ref (q 7)) (C := R_X) (T := F_X) (N := 12) hx hb hts i_X hown hK hP 0 rfl rfl 6 (by decide) (hts _ wd_63) (fun _ h9 => h9) rfl d_X_firstToTake_45 ?_
            refine lv_iload_n hx hb d_X_firstToTake_48 rfl (lv_at hl 3 rfl) ?_
            refine lv_iload hx hb d_X_firstToTake_49 (lv_at hl 0 rfl) ?_
            refine pu_go (va_runS (As := [.int (nI st), .int (nI i)]) (rest := [.ref (q 7)]) ⟨hx, hb, hml, hown, hts⟩ (c_X_place l dC dI st i) (cwS 2 hts (gi_S wd_125 wd_126 wd_1 wd_127) rfl rfl rfl (by decide +kernel) ⟨Nat.le_of_ble_eq_true rfl, Nat.le_of_ble_eq_true rfl⟩) (pu_preS (hK.sub (tys' := []) [] rfl) (fun k q h => by simp at h)) rfl rfl hl.1 rfl (lv_room (Nat.le_of_ble_eq_true rfl)) d_X_firstToTake_51 ⟨Nat.le_of_ble_eq_true rfl, Nat.le_of_ble_eq_true rfl⟩) ?_
            refine nv_iald (v := nI (S.1 25 (st * 60 + i))) hx hb hK hP 7 0 rfl rfl (by omega) (by decide) rfl d_X_firstToTake_54 ?_
            have hb54 : S.1 25 (st * 60 + i) ≤ 9999 := hB 25 _
            refine nv_zle (tgt := 76) hx hb (by omega) d_X_firstToTake_55 (by decide) (fun c55 => ?_) (fun c55 => ?_)
            · refine lv_iinc (v := nI (i + 1)) (lv' := [(4, .int (nI (i + 1))), (3, .int (o2 (bst S st kd i))), (0, .ref (q 0)), (1, .int (nI st)), (2, .int (nI kd))]) hx hb d_X_firstToTake_76 hl (k := 0) rfl (nI_1 _) (by decide) rfl (fun ls hl => ?_)
              refine lv_goto (tgt := 5) hx hb d_X_firstToTake_79 (by decide) ?_
              exact ih (i + 1) (by omega) (by omega) ls (lv_sub hl [0, 1, 2, 3, 4] (by rw [bst_no (by simp [takeable, c55])]; rfl))
            · refine lv_iload_n hx hb d_X_firstToTake_58 rfl (lv_at hl 1 rfl) ?_
              refine lv_if_lt (tgt := 73) hx hb d_X_firstToTake_59 (by decide) (fun c59 => ?_) (fun c59 => ?_)
              · refine lv_iload hx hb d_X_firstToTake_73 (lv_at hl 0 rfl) ?_
                refine lv_istore_n (lv' := [(3, .int (nI i)), (4, .int (nI i)), (0, .ref (q 0)), (1, .int (nI st)), (2, .int (nI kd))]) hx hb d_X_firstToTake_75 rfl hl (by decide) rfl (fun ls hl => ?_)
                refine lv_iinc (v := nI (i + 1)) (lv' := [(4, .int (nI (i + 1))), (3, .int (nI i)), (0, .ref (q 0)), (1, .int (nI st)), (2, .int (nI kd))]) hx hb d_X_firstToTake_76 hl (k := 1) rfl (nI_1 _) (by decide) rfl (fun ls hl => ?_)
                refine lv_goto (tgt := 5) hx hb d_X_firstToTake_79 (by decide) ?_
                exact ih (i + 1) (by omega) (by omega) ls (lv_sub hl [0, 1, 2, 3, 4] (by rw [bst_first (by simp [takeable, c28, of_decide_eq_true c41, c55]) (o2_none c59 (fun b hb => by have := bst_lt hb; omega))]; rfl))
              · obtain ⟨b, hbb⟩ := o2_some c59
                have hlb := bst_lt hbb
                have hl : lv_has ls 5 [(4, .int (nI i)), (3, .int (nI b)), (0, .ref (q 0)), (1, .int (nI st)), (2, .int (nI kd))] := by rw [hbb] at hl; exact hl
                refine lv_aload_n hx hb d_X_firstToTake_62 rfl (lv_at hl 2 rfl) ?_
                refine lv_iload_n hx hb d_X_firstToTake_63 rfl (lv_at hl 3 rfl) ?_
                refine lv_iload hx hb d_X_firstToTake_64 (lv_at hl 0 rfl) ?_
                refine lv_iload_n hx hb d_X_firstToTake_66 rfl (lv_at hl 1 rfl) ?_
                refine pu_go (va_runV (As := [.int (nI st), .int (nI i), .int (nI b)]) (rest := []) ⟨hx, hb, hml, hown, hts⟩ (c_X_isTakenBefore l dC dI cI q S t hI st i b (by omega) (by omega) (by omega)) (cwV 3 hts (gi_V wd_366 wd_368 wp_16 wd_1 wd_369) rfl rfl rfl (by decide +kernel) ⟨Nat.le_of_ble_eq_true rfl, Nat.le_of_ble_eq_true rfl⟩) (pu_preV hK hP (ci := 0) (q0 := 0) rfl rfl) rfl rfl hl.1 rfl (lv_room (Nat.le_of_ble_eq_true rfl)) d_X_firstToTake_67 ⟨Nat.le_of_ble_eq_true rfl, Nat.le_of_ble_eq_true rfl⟩) ?_
                refine nv_bz (tgt := 76) hx hb d_X_firstToTake_70 (by decide) (fun c70 => ?_) (fun c70 => ?_)
                · refine lv_iinc (v := nI (i + 1)) (lv' := [(4, .int (nI (i + 1))), (3, .int (nI b)), (0, .ref (q 0)), (1, .int (nI st)), (2, .int (nI kd))]) hx hb d_X_firstToTake_76 hl (k := 0) rfl (nI_1 _) (by decide) rfl (fun ls hl => ?_)
                  refine lv_goto (tgt := 5) hx hb d_X_firstToTake_79 (by decide) ?_
                  exact ih (i + 1) (by omega) (by omega) ls (lv_sub hl [0, 1, 2, 3, 4] (by rw [bst_keep (by simp [takeable, c28, of_decide_eq_true c41, c55]) hbb c70]; rfl))
                · refine lv_iload hx hb d_X_firstToTake_73 (lv_at hl 0 rfl) ?_
                  refine lv_istore_n (lv' := [(3, .int (nI i)), (4, .int (nI i)), (0, .ref (q 0)), (1, .int (nI st)), (2, .int (nI kd))]) hx hb d_X_firstToTake_75 rfl hl (by decide) rfl (fun ls hl => ?_)
                  refine lv_iinc (v := nI (i + 1)) (lv' := [(4, .int (nI (i + 1))), (3, .int (nI i)), (0, .ref (q 0)), (1, .int (nI st)), (2, .int (nI kd))]) hx hb d_X_firstToTake_76 hl (k := 1) rfl (nI_1 _) (by decide) rfl (fun ls hl => ?_)
                  refine lv_goto (tgt := 5) hx hb d_X_firstToTake_79 (by decide) ?_
                  exact ih (i + 1) (by omega) (by omega) ls (lv_sub hl [0, 1, 2, 3, 4] (by rw [bst_new (by simp [takeable, c28, of_decide_eq_true c41, c55]) hbb c70]; rfl))
  exact LP5 (S.2.1 2 + 1) 0 (by omega) (by omega) ls (lv_sub hl [0, 1, 2, 3, 4] rfl)
set_option maxHeartbeats 4000000 in
set_option maxRecDepth 100000 in
theorem c_X_hasParts (l : Launch) (dC : Nat → ClassId) (dI : Nat → Nat → Nat) (cI : ClassId) (q : Nat → Nat) (S : St) (t : Nat) (hI : Bd t S) (kt : Nat) (hk : kt < 5) : Met l y_X_hasParts (.code y_X_hasParts b_X_hasParts 3 (some .boolean) :: bg) { frames := 1, cells := 0, slots := 0, locals := 21 } (pu_P (dC, dI) classes (wX q cI S) [(cI, .int)] [.ref (q 0), .int (nI kt)]) (pu_Q (.int (b2 (anyPart S kt)))) 0 0 (fun _ => False) := by
  refine Met.ofW (cc := b_X_hasParts) (maxL := 3) (ret := (some .boolean)) (by decide) rfl ?_
  intro p e s m args below meth c s₁ B hml hv
  obtain ⟨rfl, hP, hK⟩ := hv
  have hx := B.exec
  have hb := B.bytes
  have hr := B.returns
  have hts := fun w (h : w ∈ bg) => atoms_spec (ws := .code y_X_hasParts b_X_hasParts 3 (some .boolean) :: bg) B.pre w (List.mem_cons_of_mem _ h)
  have hown : s.vm.findClass R_X = some m.cls := findClass_of_methodNamed B.named
  have hlocks := B.notSynchronized
  have hl := lv_entry ([.ref (q 0), .int (nI kt)]) (n := 3) (Nat.le_of_ble_eq_true rfl)
  rw [lg_entry_eq]
  generalize (lg_sl ([.ref (q 0), .int (nI kt)]) ++ List.replicate (3 - (lg_sl ([.ref (q 0), .int (nI kt)])).length) Slot.unset).toArray = ls at hl ⊢
  have hl : lv_has ls 3 [(0, .ref (q 0)), (1, .int (nI kt))] := hl
  have hB := hI.1
  have hg0 : S.2.1 0 ≤ 8 := hI.2.1 0
  have hg1 : S.2.1 1 ≤ 9999 := hI.2.1 1
  have hg2 : S.2.1 2 ≤ 60 := hI.2.1 2
  have hg3 : S.2.1 3 ≤ 60 := hI.2.1 3
  have hg4 : S.2.1 4 ≤ 80 := hI.2.1 4
  have hg5 : S.2.1 5 ≤ 20 := hI.2.1 5
  have hg6 : S.2.1 6 ≤ 80 := hI.2.1 6
  have hg7 : S.2.1 7 ≤ 10 := hI.2.1 7
  have hg8 : t ≤ 512 := hI.2.2
  refine lv_iconst (v := nI 0) hx hb d_X_hasParts_0 (by decide) ?_
  refine lv_istore_n (lv' := [(2, .int (nI 0)), (0, .ref (q 0)), (1, .int (nI kt))]) hx hb d_X_hasParts_1 rfl hl (by decide) rfl (fun ls hl => ?_)
  have LP2 : ∀ (fu i : Nat), 10 - i < fu → i ≤ 10 → (∀ j, j < i → S.1 28 (kt * 10 + j) = 0) → ∀ ls : Array Slot, lv_has ls 3 [(2, .int (nI i)), (0, .ref (q 0)), (1, .int (nI kt))] → W p l e (headSpec (.code y_X_hasParts b_X_hasParts 3 (some .boolean) :: bg) { frames := 1, cells := 0, slots := 0, locals := 21 }).room s m (List.toArray [.ref (q 0), .int (nI kt)]) below meth c s.heap [] 0 0 (MQ below (pu_Q (.int (b2 (anyPart S kt)))) (List.toArray [.ref (q 0), .int (nI kt)]) s 0 0 (fun _ => False)) (F0 m 2 ls []) := by
    intro fu
    induction fu with
    | zero => intro i h; exact absurd h (Nat.not_lt_zero _)
    | succ fu ih =>
      intro i hfu hi hh0 ls hl
      refine lv_iload_n hx hb d_X_hasParts_2 rfl (lv_at hl 0 rfl) ?_
      refine lv_bipush (v := nI 10) hx hb d_X_hasParts_3 (by decide) ?_
      refine nv_cge (tgt := 29) hx hb (by omega) (by omega) d_X_hasParts_5 (by decide) (fun c5 => ?_) (fun c5 => ?_)
      · refine lv_iconst (v := nI 0) hx hb d_X_hasParts_29 (by decide) ?_
        refine nv_as (b2 (anyPart S kt)) (by rw [anyPart_f (fun j h => hh0 j (by omega))]; rfl) ?_
        exact W.zret hx hb hr (b2_nar _) (fun t ht hW => ⟨rfl, ht⟩) (fun q h => nomatch h) d_X_hasParts_30
      · refine lv_aload_n hx hb d_X_hasParts_8 rfl (lv_at hl 1 rfl) ?_
        refine va_get (D := (dC, dI)) (ci := 0) (v := .ref (q 10)) (C := R_X) (T := F_X) (N := 12) hx hb hts i_X hown hK hP 0 rfl rfl 9 (by decide) (hts _ wd_66) (fun _ h9 => h9) rfl d_X_hasParts_9 ?_
        refine lv_iload_n hx hb d_X_hasParts_12 rfl (lv_at hl 2 rfl) ?_
        refine lv_iload_n hx hb d_X_hasParts_13 rfl (lv_at hl 0 rfl) ?_
        refine pu_go (va_runS (As := [.int (nI kt), .int (nI i)]) (rest := [.ref (q 10)]) ⟨hx, hb, hml, hown, hts⟩ (c_X_pair l dC dI kt i) (cwS 2 hts (gi_S wd_106 wd_107 wd_1 wd_108) rfl rfl rfl (by decide +kernel) ⟨Nat.le_of_ble_eq_true rfl, Nat.le_of_ble_eq_true rfl⟩) (pu_preS (hK.sub (tys' := []) [] rfl) (fun k q h => by simp at h)) rfl rfl hl.1 rfl (lv_room (Nat.le_of_ble_eq_true rfl)) d_X_hasParts_14 ⟨Nat.le_of_ble_eq_true rfl, Nat.le_of_ble_eq_true rfl⟩) ?_
        refine nv_iald (v := nI (S.1 28 (kt * 10 + i))) hx hb hK hP 10 0 rfl rfl (by omega) (by decide) rfl d_X_hasParts_17 ?_
        have hb17 : S.1 28 (kt * 10 + i) ≤ 20 := hB 28 _
        refine nv_zle (tgt := 23) hx hb (by omega) d_X_hasParts_18 (by decide) (fun c18 => ?_) (fun c18 => ?_)
        · refine lv_iinc (v := nI (i + 1)) (lv' := [(2, .int (nI (i + 1))), (0, .ref (q 0)), (1, .int (nI kt))]) hx hb d_X_hasParts_23 hl (k := 0) rfl (nI_1 _) (by decide) rfl (fun ls hl => ?_)
          refine lv_goto (tgt := 2) hx hb d_X_hasParts_26 (by decide) ?_
          exact ih (i + 1) (by omega) (by omega) (fun j h => by rcases Nat.lt_succ_iff_lt_or_eq.mp h with h | rfl; exact hh0 j h; exact c18) ls (lv_sub hl [0, 1, 2] (rfl))
        · refine lv_iconst (v := nI 1) hx hb d_X_hasParts_21 (by decide) ?_
          refine nv_as (b2 (anyPart S kt)) (by rw [anyPart_t c5 c18]; rfl) ?_
          exact W.zret hx hb hr (b2_nar _) (fun t ht hW => ⟨rfl, ht⟩) (fun q h => nomatch h) d_X_hasParts_22
  exact LP2 (10 + 1) 0 (by omega) (by omega) (fun j h => absurd h (Nat.not_lt_zero _)) ls (lv_sub hl [0, 1, 2] rfl)
set_option maxHeartbeats 4000000 in
set_option maxRecDepth 100000 in
theorem c_X_lackingKind (l : Launch) (dC : Nat → ClassId) (dI : Nat → Nat → Nat) (cI : ClassId) (q : Nat → Nat) (S : St) (t : Nat) (hI : Bd t S) (st kt : Nat) (hs : st < 8) (hk : kt < 5) : Met l y_X_lackingKind (.code y_X_lackingKind b_X_lackingKind 5 (some .int) :: bg) { frames := 3, cells := 0, slots := 0, locals := 69 } (pu_P (dC, dI) classes (wX q cI S) [(cI, .int)] [.ref (q 0), .int (nI st), .int (nI kt)]) (pu_Q (.int (o2 (lack S st kt)))) 0 0 (fun _ => False) := by
  refine Met.ofW (cc := b_X_lackingKind) (maxL := 5) (ret := (some .int)) (by decide) rfl ?_
  intro p e s m args below meth c s₁ B hml hv
  obtain ⟨rfl, hP, hK⟩ := hv
  have hx := B.exec
  have hb := B.bytes
  have hr := B.returns
  have hts := fun w (h : w ∈ bg) => atoms_spec (ws := .code y_X_lackingKind b_X_lackingKind 5 (some .int) :: bg) B.pre w (List.mem_cons_of_mem _ h)
  have hown : s.vm.findClass R_X = some m.cls := findClass_of_methodNamed B.named
  have hlocks := B.notSynchronized
  have hl := lv_entry ([.ref (q 0), .int (nI st), .int (nI kt)]) (n := 5) (Nat.le_of_ble_eq_true rfl)
  rw [lg_entry_eq]
  generalize (lg_sl ([.ref (q 0), .int (nI st), .int (nI kt)]) ++ List.replicate (5 - (lg_sl ([.ref (q 0), .int (nI st), .int (nI kt)])).length) Slot.unset).toArray = ls at hl ⊢
  have hl : lv_has ls 5 [(0, .ref (q 0)), (1, .int (nI st)), (2, .int (nI kt))] := hl
  have hB := hI.1
  have hg0 : S.2.1 0 ≤ 8 := hI.2.1 0
  have hg1 : S.2.1 1 ≤ 9999 := hI.2.1 1
  have hg2 : S.2.1 2 ≤ 60 := hI.2.1 2
  have hg3 : S.2.1 3 ≤ 60 := hI.2.1 3
  have hg4 : S.2.1 4 ≤ 80 := hI.2.1 4
  have hg5 : S.2.1 5 ≤ 20 := hI.2.1 5
  have hg6 : S.2.1 6 ≤ 80 := hI.2.1 6
  have hg7 : S.2.1 7 ≤ 10 := hI.2.1 7
  have hg8 : t ≤ 512 := hI.2.2
  refine lv_iconst (v := nI 0) hx hb d_X_lackingKind_0 (by decide) ?_
  refine lv_istore_n (lv' := [(3, .int (nI 0)), (0, .ref (q 0)), (1, .int (nI st)), (2, .int (nI kt))]) hx hb d_X_lackingKind_1 rfl hl (by decide) rfl (fun ls hl => ?_)
  have LP2 : ∀ (fu i : Nat), 10 - i < fu → i ≤ 10 → (∀ j, j < i → S.1 28 (kt * 10 + j) ≤ good S st j) → ∀ ls : Array Slot, lv_has ls 5 [(3, .int (nI i)), (0, .ref (q 0)), (1, .int (nI st)), (2, .int (nI kt))] → W p l e (headSpec (.code y_X_lackingKind b_X_lackingKind 5 (some .int) :: bg) { frames := 3, cells := 0, slots := 0, locals := 69 }).room s m (List.toArray [.ref (q 0), .int (nI st), .int (nI kt)]) below meth c s.heap [] 0 0 (MQ below (pu_Q (.int (o2 (lack S st kt)))) (List.toArray [.ref (q 0), .int (nI st), .int (nI kt)]) s 0 0 (fun _ => False)) (F0 m 2 ls []) := by
    intro fu
    induction fu with
    | zero => intro i h; exact absurd h (Nat.not_lt_zero _)
    | succ fu ih =>
      intro i hfu hi hh0 ls hl
      refine lv_iload_n hx hb d_X_lackingKind_2 rfl (lv_at hl 0 rfl) ?_
      refine lv_bipush (v := nI 10) hx hb d_X_lackingKind_3 (by decide) ?_
      refine nv_cge (tgt := 45) hx hb (by omega) (by omega) d_X_lackingKind_5 (by decide) (fun c5 => ?_) (fun c5 => ?_)
      · refine lv_iconst (v := (-1)) hx hb d_X_lackingKind_45 (by decide) ?_
        refine nv_as (o2 (lack S st kt)) (by rw [lack_none (fun j h => hh0 j (by omega))]; rfl) ?_
        exact W.iret hx hb hr (fun t ht hW => ⟨rfl, ht⟩) (fun q h => nomatch h) d_X_lackingKind_46
      · refine lv_aload_n hx hb d_X_lackingKind_8 rfl (lv_at hl 1 rfl) ?_
        refine va_get (D := (dC, dI)) (ci := 0) (v := .ref (q 10)) (C := R_X) (T := F_X) (N := 12) hx hb hts i_X hown hK hP 0 rfl rfl 9 (by decide) (hts _ wd_66) (fun _ h9 => h9) rfl d_X_lackingKind_9 ?_
        refine lv_iload_n hx hb d_X_lackingKind_12 rfl (lv_at hl 3 rfl) ?_
        refine lv_iload_n hx hb d_X_lackingKind_13 rfl (lv_at hl 0 rfl) ?_
        refine pu_go (va_runS (As := [.int (nI kt), .int (nI i)]) (rest := [.ref (q 10)]) ⟨hx, hb, hml, hown, hts⟩ (c_X_pair l dC dI kt i) (cwS 2 hts (gi_S wd_106 wd_107 wd_1 wd_108) rfl rfl rfl (by decide +kernel) ⟨Nat.le_of_ble_eq_true rfl, Nat.le_of_ble_eq_true rfl⟩) (pu_preS (hK.sub (tys' := []) [] rfl) (fun k q h => by simp at h)) rfl rfl hl.1 rfl (lv_room (Nat.le_of_ble_eq_true rfl)) d_X_lackingKind_14 ⟨Nat.le_of_ble_eq_true rfl, Nat.le_of_ble_eq_true rfl⟩) ?_
        refine nv_iald (v := nI (S.1 28 (kt * 10 + i))) hx hb hK hP 10 0 rfl rfl (by omega) (by decide) rfl d_X_lackingKind_17 ?_
        have hb17 : S.1 28 (kt * 10 + i) ≤ 20 := hB 28 _
        refine lv_istore (lv' := [(4, .int (nI (S.1 28 (kt * 10 + i)))), (3, .int (nI i)), (0, .ref (q 0)), (1, .int (nI st)), (2, .int (nI kt))]) hx hb d_X_lackingKind_18 hl (by decide) rfl (fun ls hl => ?_)
        refine lv_iload hx hb d_X_lackingKind_20 (lv_at hl 0 rfl) ?_
        refine nv_zle (tgt := 39) hx hb (by omega) d_X_lackingKind_22 (by decide) (fun c22 => ?_) (fun c22 => ?_)
        · refine lv_iinc (v := nI (i + 1)) (lv' := [(3, .int (nI (i + 1))), (4, .int (nI (S.1 28 (kt * 10 + i)))), (0, .ref (q 0)), (1, .int (nI st)), (2, .int (nI kt))]) hx hb d_X_lackingKind_39 hl (k := 1) rfl (nI_1 _) (by decide) rfl (fun ls hl => ?_)
          refine lv_goto (tgt := 2) hx hb d_X_lackingKind_42 (by decide) ?_
          exact ih (i + 1) (by omega) (by omega) (fun j h => by rcases Nat.lt_succ_iff_lt_or_eq.mp h with h | rfl; exact hh0 j h; omega) ls (lv_sub hl [0, 2, 3, 4] (rfl))
        · refine lv_aload_n hx hb d_X_lackingKind_25 rfl (lv_at hl 2 rfl) ?_
          refine lv_iload_n hx hb d_X_lackingKind_26 rfl (lv_at hl 3 rfl) ?_
          refine lv_iload_n hx hb d_X_lackingKind_27 rfl (lv_at hl 1 rfl) ?_
          refine lv_iconst (v := b2 true) hx hb d_X_lackingKind_28 (by decide) ?_
          refine pu_go (va_runV (As := [.int (nI st), .int (nI i), .int (b2 true)]) (rest := []) ⟨hx, hb, hml, hown, hts⟩ (c_X_inStore l dC dI cI q S t hI st i true (by omega) (by omega)) (cwV 3 hts (gi_V wd_113 wd_115 wp_1 wd_1 wd_116) rfl rfl rfl (by decide +kernel) ⟨Nat.le_of_ble_eq_true rfl, Nat.le_of_ble_eq_true rfl⟩) (pu_preV hK hP (ci := 0) (q0 := 0) rfl rfl) rfl rfl hl.1 rfl (lv_room (Nat.le_of_ble_eq_true rfl)) d_X_lackingKind_29 ⟨Nat.le_of_ble_eq_true rfl, Nat.le_of_ble_eq_true rfl⟩) ?_
          have hb1 := inst_le hI st i true
          refine lv_iload hx hb d_X_lackingKind_32 (lv_at hl 0 rfl) ?_
          refine nv_cge (tgt := 39) hx hb (by omega) (by omega) d_X_lackingKind_34 (by decide) (fun c34 => ?_) (fun c34 => ?_)
          · rw [inst_t] at c34
            refine lv_iinc (v := nI (i + 1)) (lv' := [(3, .int (nI (i + 1))), (4, .int (nI (S.1 28 (kt * 10 + i)))), (0, .ref (q 0)), (1, .int (nI st)), (2, .int (nI kt))]) hx hb d_X_lackingKind_39 hl (k := 1) rfl (nI_1 _) (by decide) rfl (fun ls hl => ?_)
            refine lv_goto (tgt := 2) hx hb d_X_lackingKind_42 (by decide) ?_
            exact ih (i + 1) (by omega) (by omega) (fun j h => by rcases Nat.lt_succ_iff_lt_or_eq.mp h with h | rfl; exact hh0 j h; omega) ls (lv_sub hl [0, 2, 3, 4] (rfl))
          · rw [inst_t] at c34
            refine lv_iload_n hx hb d_X_lackingKind_37 rfl (lv_at hl 1 rfl) ?_
            refine nv_as (o2 (lack S st kt)) (by rw [lack_some (by omega) c34 hh0]; rfl) ?_
            exact W.iret hx hb hr (fun t ht hW => ⟨rfl, ht⟩) (fun q h => nomatch h) d_X_lackingKind_38
  exact LP2 (10 + 1) 0 (by omega) (by omega) (fun j h => absurd h (Nat.not_lt_zero _)) ls (lv_sub hl [0, 1, 2, 3] rfl)
