theorem hdue {S T : St} {D i : Nat} (h : T = arr S D i) (h1 : T.1 9 i = 1) (h2 : T.1 8 i ≤ D) : due (arr S D i) D i = true := by
  rw [← h]; simp [due, h1, h2]
theorem hndue {S T : St} {D i : Nat} (h : T = arr S D i) (h1 : ¬ (T.1 9 i = 1 ∧ T.1 8 i ≤ D)) : due (arr S D i) D i = false := by
  rw [← h]
  simp only [due, Bool.and_eq_false_iff, decide_eq_false_iff_not]
  omega
set_option maxHeartbeats 4000000 in
set_option maxRecDepth 100000 in
theorem c_X_orders (l : Launch) (dC : Nat → ClassId) (dI : Nat → Nat → Nat) (sz : Nat) (cI : ClassId) (q : Nat → Nat) (S : St) (t : Nat) (hI : Bd t S) (hlm : ∀ j, S.1 26 j ≤ S.1 27 j) : Met l y_X_orders (.code y_X_orders b_X_orders 4 (some .int) :: bg) { frames := 4, cells := 0, slots := 0, locals := 96 } (wr_P (dC, dI) classes (wX q cI S) [(cI, .int)] sz [.ref (q 0)]) (wr_Q (some (.int ((op_orders S).2.1))) (dC, dI) classes (wX q cI ((op_orders S).2.2)) (va_A (wX q cI S) sz)) 0 0 (va_A (wX q cI S) sz) := by
  refine Met.ofW (cc := b_X_orders) (maxL := 4) (ret := (some .int)) (by decide) rfl ?_
  intro p e s m args below meth c s₁ B hml hv
  obtain ⟨rfl, hsz, hP, hK, hD0⟩ := hv
  subst hsz
  have hD := hD0.self (sz := s.heap.size)
  generalize hAe : va_A (wX q cI S) s.heap.size = A at hD ⊢
  have hA : ∀ q : Nat, s.heap.size ≤ q → A q := fun q h => by rw [← hAe]; exact Or.inr h
  have hS : va_S A s.heap s.heap [] := va_S.rf
  have hx := B.exec
  have hb := B.bytes
  have hr := B.returns
  have hts := fun w (h : w ∈ bg) => atoms_spec (ws := .code y_X_orders b_X_orders 4 (some .int) :: bg) B.pre w (List.mem_cons_of_mem _ h)
  have hown : s.vm.findClass R_X = some m.cls := findClass_of_methodNamed B.named
  have hlocks := B.notSynchronized
  have hl := lv_entry ([.ref (q 0)]) (n := 4) (Nat.le_of_ble_eq_true rfl)
  rw [lg_entry_eq]
  generalize (lg_sl ([.ref (q 0)]) ++ List.replicate (4 - (lg_sl ([.ref (q 0)])).length) Slot.unset).toArray = ls at hl ⊢
  have hl : lv_has ls 4 [(0, .ref (q 0))] := hl
  have hB := hI.1
  have hg0 : S.2.1 0 ≤ 8 := hI.2.1 0
  have hg1 : S.2.1 1 ≤ 9999 := hI.2.1 1
  have hg2 : S.2.1 2 ≤ 60 := hI.2.1 2
  have hg3 : S.2.1 3 ≤ 60 := hI.2.1 3
  have hg4 : S.2.1 4 ≤ 80 := hI.2.1 4
  have hg5 : S.2.1 5 ≤ 20 := hI.2.1 5
  have hg6 : S.2.1 6 ≤ 80 := hI.2.1 6
  have hg7 : S.2.1 7 ≤ 10 := hI.2.1 7
  have hg8 : t ≤ 512 := hI.2.2
  refine lv_aload_n hx hb d_X_orders_0 rfl (lv_at hl 0 rfl) ?_
  refine va_get (D := (dC, dI)) (ci := 0) (v := .ref (q 3)) (C := R_X) (T := F_X) (N := 12) hx hb hts i_X hown hK hP 0 rfl rfl 2 (by decide) (hts _ wd_59) (fun _ h9 => h9) rfl d_X_orders_1 ?_
  refine pu_go (va_runV (As := []) (rest := []) ⟨hx, hb, hml, hown, hts⟩ (c_W_made l dC dI cI (q 3) (q 13) 80 (S.2.1 4) 400 (rowf S.1 10)) (cwV 0 hts (gi_V wd_98 wd_99 wd_100 wd_2 wd_101) rfl rfl rfl (by decide +kernel) ⟨Nat.le_of_ble_eq_true rfl, Nat.le_of_ble_eq_true rfl⟩) (pu_preV hK (hP.sub [3, 13] rfl) (ci := 1) (q0 := 0) rfl rfl) rfl rfl hl.1 rfl (lv_room (Nat.le_of_ble_eq_true rfl)) d_X_orders_4 ⟨Nat.le_of_ble_eq_true rfl, Nat.le_of_ble_eq_true rfl⟩) ?_
  refine lv_istore_n (lv' := [(1, .int (nI (S.2.1 4))), (0, .ref (q 0))]) hx hb d_X_orders_7 rfl hl (by decide) rfl (fun ls hl => ?_)
  refine lv_iconst (v := nI 0) hx hb d_X_orders_8 (by decide) ?_
  refine lv_istore_n (lv' := [(2, .int (nI 0)), (1, .int (nI (S.2.1 4))), (0, .ref (q 0))]) hx hb d_X_orders_9 rfl hl (by decide) rfl (fun ls hl => ?_)
  have LP10 : ∀ (fua : Nat) (i : Nat) (T : St) (H : Heap) (locs : List Loc), S.2.1 0 - i < fua → (i ≤ S.2.1 0) → (T = ordN S i) → va_P (dC, dI) classes (wX q cI T) H → va_D A (wX q cI T) → va_S A s.heap H locs → ∀ ls : Array Slot, lv_has ls 4 [(2, .int (nI i)), (1, .int (nI (S.2.1 4))), (0, .ref (q 0))] → W p l e (headSpec (.code y_X_orders b_X_orders 4 (some .int) :: bg) { frames := 4, cells := 0, slots := 0, locals := 96 }).room s m (List.toArray [.ref (q 0)]) below meth c H locs 0 0 (MQ below (wr_Q (some (.int ((op_orders S).2.1))) (dC, dI) classes (wX q cI ((op_orders S).2.2)) A) (List.toArray [.ref (q 0)]) s 0 0 A) (F0 m 10 ls []) := by
    intro fua
    induction fua with
    | zero => intro i T H locs h; exact absurd h (Nat.not_lt_zero _)
    | succ fua iha =>
      intro i T H locs hfua hha0 hha1 hP hD hS ls hl
      obtain ⟨hIT, hT2, hT3, hT4, hT5⟩ := ordN_all (t := t) hI i (by omega)
      rw [← hha1] at hIT hT2 hT3 hT4 hT5
      have hBT := hIT.1
      have hg0 : T.2.1 0 ≤ 8 := hIT.2.1 0
      have hg1 : T.2.1 1 ≤ 9999 := hIT.2.1 1
      have hg2 : T.2.1 2 ≤ 60 := hIT.2.1 2
      have hg3 : T.2.1 3 ≤ 60 := hIT.2.1 3
      have hg4 : T.2.1 4 ≤ 80 := hIT.2.1 4
      have hg5 : T.2.1 5 ≤ 20 := hIT.2.1 5
      have hg6 : T.2.1 6 ≤ 80 := hIT.2.1 6
      have hg7 : T.2.1 7 ≤ 10 := hIT.2.1 7
      have hg8 : t ≤ 512 := hIT.2.2
      refine lv_iload_n hx hb d_X_orders_10 rfl (lv_at hl 0 rfl) ?_
      refine lv_aload_n hx hb d_X_orders_11 rfl (lv_at hl 2 rfl) ?_
      refine va_get (D := (dC, dI)) (ci := 0) (v := .int (nI (T.2.1 0))) (C := R_X) (T := F_X) (N := 12) hx hb hts i_X hown hK hP 0 rfl rfl 10 (by decide) (hts _ wd_67) (fun _ h9 => h9) rfl d_X_orders_12 ?_
      refine nv_cge (tgt := 44) hx hb (by omega) (by omega) d_X_orders_15 (by decide) (fun c15 => ?_) (fun c15 => ?_)
      · obtain rfl : i = S.2.1 0 := by omega
        refine lv_aload_n hx hb d_X_orders_44 rfl (lv_at hl 2 rfl) ?_
        refine va_get (D := (dC, dI)) (ci := 0) (v := .ref (q 3)) (C := R_X) (T := F_X) (N := 12) hx hb hts i_X hown hK hP 0 rfl rfl 2 (by decide) (hts _ wd_59) (fun _ h9 => h9) rfl d_X_orders_45 ?_
        refine pu_go (va_runV (As := []) (rest := []) ⟨hx, hb, hml, hown, hts⟩ (c_W_made l dC dI cI (q 3) (q 13) 80 (T.2.1 4) 400 (rowf T.1 10)) (cwV 0 hts (gi_V wd_98 wd_99 wd_100 wd_2 wd_101) rfl rfl rfl (by decide +kernel) ⟨Nat.le_of_ble_eq_true rfl, Nat.le_of_ble_eq_true rfl⟩) (pu_preV hK (hP.sub [3, 13] rfl) (ci := 1) (q0 := 0) rfl rfl) rfl rfl hl.1 rfl (lv_room (Nat.le_of_ble_eq_true rfl)) d_X_orders_48 ⟨Nat.le_of_ble_eq_true rfl, Nat.le_of_ble_eq_true rfl⟩) ?_
        refine lv_iload_n hx hb d_X_orders_51 rfl (lv_at hl 1 rfl) ?_
        refine nv_sub hx hb (by omega) d_X_orders_52 ?_
        refine nv_as ((op_orders S).2.1) (by rw [hha1]; rfl) ?_
        have hP9 : va_P (dC, dI) classes (wX q cI ((op_orders S).2.2)) H := by rw [hha1] at hP; exact hP
        exact W.iret hx hb hr (fun t ht hW => ⟨rfl, by rw [ht]; exact hP9, hS.F ht⟩) hS.2.2 d_X_orders_53
      · refine lv_iconst (v := nI 0) hx hb d_X_orders_18 (by decide) ?_
        refine lv_istore_n (lv' := [(3, .int (nI 0)), (2, .int (nI i)), (1, .int (nI (S.2.1 4))), (0, .ref (q 0))]) hx hb d_X_orders_19 rfl hl (by decide) rfl (fun ls hl => ?_)
        have LP20 : ∀ (fub : Nat) (k : Nat) (U : St) (H : Heap) (locs : List Loc), 10 - k < fub → (k ≤ 10) → (U = ordR T i k) → va_P (dC, dI) classes (wX q cI U) H → va_D A (wX q cI U) → va_S A s.heap H locs → ∀ ls : Array Slot, lv_has ls 4 [(3, .int (nI k)), (2, .int (nI i)), (1, .int (nI (S.2.1 4))), (0, .ref (q 0))] → W p l e (headSpec (.code y_X_orders b_X_orders 4 (some .int) :: bg) { frames := 4, cells := 0, slots := 0, locals := 96 }).room s m (List.toArray [.ref (q 0)]) below meth c H locs 0 0 (MQ below (wr_Q (some (.int ((op_orders S).2.1))) (dC, dI) classes (wX q cI ((op_orders S).2.2)) A) (List.toArray [.ref (q 0)]) s 0 0 A) (F0 m 20 ls []) := by
          intro fub
          induction fub with
          | zero => intro k U H locs h; exact absurd h (Nat.not_lt_zero _)
          | succ fub ihb =>
            intro k U H locs hfub hhb0 hhb1 hP hD hS ls hl
            obtain ⟨hIU, hU2, hU3, hU4, hU5⟩ := ordR_all (t := t) hIT (s := i) (by omega) k hhb0
            rw [← hhb1] at hIU hU2 hU3 hU4 hU5
            rw [hT4] at hU4
            rw [hT5] at hU5
            have hBU := hIU.1
            have hg0 : U.2.1 0 ≤ 8 := hIU.2.1 0
            have hg1 : U.2.1 1 ≤ 9999 := hIU.2.1 1
            have hg2 : U.2.1 2 ≤ 60 := hIU.2.1 2
            have hg3 : U.2.1 3 ≤ 60 := hIU.2.1 3
            have hg4 : U.2.1 4 ≤ 80 := hIU.2.1 4
            have hg5 : U.2.1 5 ≤ 20 := hIU.2.1 5
            have hg6 : U.2.1 6 ≤ 80 := hIU.2.1 6
            have hg7 : U.2.1 7 ≤ 10 := hIU.2.1 7
            have hg8 : t ≤ 512 := hIU.2.2
            refine lv_iload_n hx hb d_X_orders_20 rfl (lv_at hl 0 rfl) ?_
            refine lv_bipush (v := nI 10) hx hb d_X_orders_21 (by decide) ?_
            refine nv_cge (tgt := 38) hx hb (by omega) (by omega) d_X_orders_23 (by decide) (fun c23 => ?_) (fun c23 => ?_)
            · refine lv_iinc (v := nI (i + 1)) (lv' := [(2, .int (nI (i + 1))), (3, .int (nI k)), (1, .int (nI (S.2.1 4))), (0, .ref (q 0))]) hx hb d_X_orders_38 hl (k := 1) rfl (nI_1 _) (by decide) rfl (fun ls hl => ?_)
              refine lv_goto (tgt := 10) hx hb d_X_orders_41 (by decide) ?_
              exact iha (i + 1) U _ _ (by omega) (by omega) (by rw [ordN_s, ← hha1, hhb1, show k = 10 by omega]) hP hD hS ls (lv_sub hl [0, 2, 3] (rfl))
            · refine lv_aload_n hx hb d_X_orders_26 rfl (lv_at hl 3 rfl) ?_
              refine lv_iload_n hx hb d_X_orders_27 rfl (lv_at hl 1 rfl) ?_
              refine lv_iload_n hx hb d_X_orders_28 rfl (lv_at hl 0 rfl) ?_
              refine wr_goA (va_runV (As := [.int (nI i), .int (nI k)]) (rest := []) ⟨hx, hb, hml, hown, hts⟩ (c_X_orderByLevel l dC dI H.size cI q U t hIU i k (by omega) (by omega) (fun j => by rw [hU4, hU5]; exact hlm j)) (cwV 2 hts (gi_V wd_102 wd_104 wp_0 wd_1 wd_105) rfl rfl rfl (by decide +kernel) ⟨Nat.le_of_ble_eq_true rfl, Nat.le_of_ble_eq_true rfl⟩) (wr_preV hK hP hD (ci := 0) (q0 := 0) rfl rfl) rfl rfl hl.1 rfl (lv_room (Nat.le_of_ble_eq_true rfl)) d_X_orders_29 ⟨Nat.le_of_ble_eq_true rfl, Nat.le_of_ble_eq_true rfl⟩) hD hS hA wX_adr (fun H locs hP hD hS => ?_)
              refine W.eq (g2 := F0 m 32 ls []) rfl ?_
              refine lv_iinc (v := nI (k + 1)) (lv' := [(3, .int (nI (k + 1))), (2, .int (nI i)), (1, .int (nI (S.2.1 4))), (0, .ref (q 0))]) hx hb d_X_orders_32 hl (k := 0) rfl (nI_1 _) (by decide) rfl (fun ls hl => ?_)
              refine lv_goto (tgt := 20) hx hb d_X_orders_35 (by decide) ?_
              exact ihb (k + 1) (ordK U i k) _ _ (by omega) (by omega) (by rw [hhb1]; rfl) hP hD hS ls (lv_sub hl [0, 1, 2, 3] (rfl))
        exact LP20 ((10 - 0) + 1) 0 T _ _ (Nat.lt_succ_self _) (Nat.zero_le _) rfl hP hD hS ls (lv_sub hl [0, 1, 2, 3] (rfl))
  exact LP10 ((S.2.1 0 - 0) + 1) 0 S _ _ (Nat.lt_succ_self _) (Nat.zero_le _) rfl hP hD hS ls (lv_sub hl [0, 1, 2] (rfl))
set_option maxHeartbeats 4000000 in
set_option maxRecDepth 100000 in
theorem c_X_give (l : Launch) (hst : l.stackTraces = false) (dC : Nat → ClassId) (dI : Nat → Nat → Nat) (A0 : Nat → Prop) (sz : Nat) (cI : ClassId) (q : Nat → Nat) (S : St) (t : Nat) (hI : Bd t S) (x y : Int32) (hou : ∀ j, S.1 2 j + 9999 ≤ 9999 * t) : vx_Met l y_X_give (.code y_X_give b_X_give 5 (some .int) :: bg) { frames := 8, cells := 3, slots := 18, locals := 132 } (xo_P (dC, dI) classes [(cI, .int)] A0 (wX q cI S) sz [.ref (q 0), .int x, .int y]) (xo_Q (op_give S x y) (some (.int (op_give S x y).2.1)) (dC, dI) classes (wX q cI (op_give S x y).2.2) (va_A (wX q cI S) sz)) (xo_X (op_give S x y) [E_ia, E_is]) 3 18 (va_A (wX q cI S) sz) := by
  refine vx_ofW (cc := b_X_give) (maxL := 5) (ret := (some .int)) (by decide) rfl ?_
  intro p e s m args below meth c s₁ B hml hnt hv
  obtain ⟨rfl, hsz, hP, hK, hD0, hG⟩ := hv
  subst hsz
  have hD := hD0.self (sz := s.heap.size)
  generalize hAe : va_A (wX q cI S) s.heap.size = A at hD ⊢
  have hA : ∀ q : Nat, s.heap.size ≤ q → A q := fun q h => by rw [← hAe]; exact Or.inr h
  have hS : va_S A s.heap s.heap [] := va_S.rf
  have hx := B.exec
  have hb := B.bytes
  have hr := B.returns
  have hts := fun w (h : w ∈ bg) => atoms_spec (ws := .code y_X_give b_X_give 5 (some .int) :: bg) B.pre w (List.mem_cons_of_mem _ h)
  have hown : s.vm.findClass R_X = some m.cls := findClass_of_methodNamed B.named
  have hlocks := B.notSynchronized
  have hl := lv_entry ([.ref (q 0), .int x, .int y]) (n := 5) (Nat.le_of_ble_eq_true rfl)
  rw [lg_entry_eq]
  generalize (lg_sl ([.ref (q 0), .int x, .int y]) ++ List.replicate (5 - (lg_sl ([.ref (q 0), .int x, .int y])).length) Slot.unset).toArray = ls at hl ⊢
  have hl : lv_has ls 5 [(0, .ref (q 0)), (1, .int x), (2, .int y)] := hl
  have hB := hI.1
  have hg0 : S.2.1 0 ≤ 8 := hI.2.1 0
  have hg1 : S.2.1 1 ≤ 9999 := hI.2.1 1
  have hg2 : S.2.1 2 ≤ 60 := hI.2.1 2
  have hg3 : S.2.1 3 ≤ 60 := hI.2.1 3
  have hg4 : S.2.1 4 ≤ 80 := hI.2.1 4
  have hg5 : S.2.1 5 ≤ 20 := hI.2.1 5
  have hg6 : S.2.1 6 ≤ 80 := hI.2.1 6
  have hg7 : S.2.1 7 ≤ 10 := hI.2.1 7
  have hg8 : t ≤ 512 := hI.2.2
  refine lv_aload_n hx hb d_X_give_0 rfl (lv_at hl 0 rfl) ?_
  refine lv_iload_n hx hb d_X_give_1 rfl (lv_at hl 1 rfl) ?_
  refine nd_go (vx_runV (As := [.int x]) (rest := []) ⟨hx, hb, hml, hown, hts⟩ (c_X_needStore l hst dC dI A0 cI q S t hI x) (cwV 1 hts (gi_V wd_283 wd_285 wp_7 wd_1 wd_286) rfl rfl rfl (by decide +kernel) ⟨Nat.le_of_ble_eq_true rfl, Nat.le_of_ble_eq_true rfl⟩) (nd_preV hK hP hG (ci := 0) (q0 := 0) rfl rfl) rfl rfl hl.1 rfl (lv_room (Nat.le_of_ble_eq_true rfl)) d_X_give_2 ⟨Nat.le_of_ble_eq_true rfl, Nat.le_of_ble_eq_true rfl⟩) (fun p2 ce q9 H1 h1 h2 h3 h4 h5 => vx_out (fun x hx => (hnt x hx).elim) hlocks h3 h4 h5 (fun t ht hv => ⟨by simp only [op_give, if_neg p2]; decide, by simp only [op_give, if_neg p2]; rfl, by rw [ht]; exact h1, fun z hz => by rw [ht]; exact h2 z hz⟩) (fun q h => nomatch h) (Nat.le_of_ble_eq_true rfl) (Nat.le_of_ble_eq_true rfl)) (fun p2 => ?_)
  obtain ⟨a1, ha1, rfl⟩ := ok_ex p2
  have ma1 : nn (nI a1) = a1 := nn_of (by omega)
  refine lv_iload_n hx hb d_X_give_5 rfl (lv_at hl 2 rfl) ?_
  refine nd_go (vx_runS (As := [.int y]) (rest := []) ⟨hx, hb, hml, hown, hts⟩ (c_X_needKit l hst dC dI A0 y) (cwS 1 hts (gi_S wd_456 wd_457 wd_1 wd_458) rfl rfl rfl (by decide +kernel) ⟨Nat.le_of_ble_eq_true rfl, Nat.le_of_ble_eq_true rfl⟩) (nd_preS (hK.sub (tys' := []) [] rfl) (fun k q h => by simp at h) hG) rfl rfl hl.1 rfl (lv_room (Nat.le_of_ble_eq_true rfl)) d_X_give_6 ⟨Nat.le_of_ble_eq_true rfl, Nat.le_of_ble_eq_true rfl⟩) (fun p6 ce q9 H1 h1 h2 h3 h4 h5 => vx_out (fun x hx => (hnt x hx).elim) hlocks h3 h4 h5 (fun t ht hv => ⟨by simp only [op_give, ma1, if_pos p2, if_neg p6]; decide, by simp only [op_give, ma1, if_pos p2, if_neg p6]; rfl, by rw [ht]; exact h1, fun z hz => by rw [ht]; exact h2 z hz⟩) (fun q h => nomatch h) (Nat.le_of_ble_eq_true rfl) (Nat.le_of_ble_eq_true rfl)) (fun p6 => ?_)
  obtain ⟨a2, ha2, rfl⟩ := ok_ex p6
  have ma2 : nn (nI a2) = a2 := nn_of (by omega)
  refine lv_aload_n hx hb d_X_give_9 rfl (lv_at hl 0 rfl) ?_
  refine lv_iload_n hx hb d_X_give_10 rfl (lv_at hl 2 rfl) ?_
  refine pu_go (va_runV (As := [.int (nI a2)]) (rest := []) ⟨hx, hb, hml, hown, hts⟩ (c_X_hasParts l dC dI cI q S t hI a2 (by omega)) (cwV 1 hts (gi_V wd_467 wd_469 wp_17 wd_1 wd_470) rfl rfl rfl (by decide +kernel) ⟨Nat.le_of_ble_eq_true rfl, Nat.le_of_ble_eq_true rfl⟩) (pu_preV hK hP (ci := 0) (q0 := 0) rfl rfl) rfl rfl hl.1 rfl (lv_room (Nat.le_of_ble_eq_true rfl)) d_X_give_11 ⟨Nat.le_of_ble_eq_true rfl, Nat.le_of_ble_eq_true rfl⟩) ?_
  refine nv_bn (tgt := 27) hx hb d_X_give_14 (by decide) (fun c14 => ?_) (fun c14 => ?_)
  · refine lv_aload_n hx hb d_X_give_27 rfl (lv_at hl 0 rfl) ?_
    refine lv_iload_n hx hb d_X_give_28 rfl (lv_at hl 1 rfl) ?_
    refine lv_iload_n hx hb d_X_give_29 rfl (lv_at hl 2 rfl) ?_
    refine pu_go (va_runV (As := [.int (nI a1), .int (nI a2)]) (rest := []) ⟨hx, hb, hml, hown, hts⟩ (c_X_lackingKind l dC dI cI q S t hI a1 a2 (by omega) (by omega)) (cwV 2 hts (gi_V wd_472 wd_474 wp_18 wd_1 wd_475) rfl rfl rfl (by decide +kernel) ⟨Nat.le_of_ble_eq_true rfl, Nat.le_of_ble_eq_true rfl⟩) (pu_preV hK hP (ci := 0) (q0 := 0) rfl rfl) rfl rfl hl.1 rfl (lv_room (Nat.le_of_ble_eq_true rfl)) d_X_give_30 ⟨Nat.le_of_ble_eq_true rfl, Nat.le_of_ble_eq_true rfl⟩) ?_
    refine lv_istore_n (lv' := [(3, .int (o2 (lack S a1 a2))), (0, .ref (q 0)), (1, .int (nI a1)), (2, .int (nI a2))]) hx hb d_X_give_33 rfl hl (by decide) rfl (fun ls hl => ?_)
    refine lv_iload_n hx hb d_X_give_34 rfl (lv_at hl 0 rfl) ?_
    refine lv_if_lt (tgt := 40) hx hb d_X_give_35 (by decide) (fun c35 => ?_) (fun c35 => ?_)
    · have hno : lack S a1 a2 = none := o2_none c35 (fun b hb => by have := List.mem_range.mp (List.mem_of_find?_eq_some hb); omega)
      refine lv_iconst (v := nI 0) hx hb d_X_give_40 (by decide) ?_
      refine lv_istore (lv' := [(4, .int (nI 0)), (3, .int (o2 (lack S a1 a2))), (0, .ref (q 0)), (1, .int (nI a1)), (2, .int (nI a2))]) hx hb d_X_give_41 hl (by decide) rfl (fun ls hl => ?_)
      have LP43 : ∀ (fu : Nat) (i : Nat) (T : St) (H : Heap) (locs : List Loc), 10 - i < fu → (i ≤ 10) → (T = gvN S a1 a2 i) → va_P (dC, dI) classes (wX q cI T) H → va_D A (wX q cI T) → va_S A s.heap H locs → ∀ ls : Array Slot, lv_has ls 5 [(4, .int (nI i)), (3, .int (o2 (lack S a1 a2))), (0, .ref (q 0)), (1, .int (nI a1)), (2, .int (nI a2))] → W p l e (headSpec (.code y_X_give b_X_give 5 (some .int) :: bg) { frames := 8, cells := 3, slots := 18, locals := 132 }).room s m (List.toArray [.ref (q 0), .int (nI a1), .int (nI a2)]) below meth c H locs 2 12 (vx_MQ below (xo_Q (op_give S (nI a1) (nI a2)) (some (.int (op_give S (nI a1) (nI a2)).2.1)) (dC, dI) classes (wX q cI (op_give S (nI a1) (nI a2)).2.2) A) (xo_X (op_give S (nI a1) (nI a2)) [E_ia, E_is]) (List.toArray [.ref (q 0), .int (nI a1), .int (nI a2)]) s 3 18 A) (F0 m 43 ls []) := by
        intro fu
        induction fu with
        | zero => intro i T H locs h; exact absurd h (Nat.not_lt_zero _)
        | succ fu ih =>
          intro i T H locs hfu hh0 hh1 hP hD hS ls hl
          obtain ⟨hIT, hT2, hT3, hT4⟩ := gvN_all (t := t) (s := a1) (kt := a2) hI (fun j => by have := hou j; omega) i hh0
          rw [← hh1] at hIT hT2 hT3 hT4
          have hBT := hIT.1
          have hg0 : T.2.1 0 ≤ 8 := hIT.2.1 0
          have hg1 : T.2.1 1 ≤ 9999 := hIT.2.1 1
          have hg2 : T.2.1 2 ≤ 60 := hIT.2.1 2
          have hg3 : T.2.1 3 ≤ 60 := hIT.2.1 3
          have hg4 : T.2.1 4 ≤ 80 := hIT.2.1 4
          have hg5 : T.2.1 5 ≤ 20 := hIT.2.1 5
          have hg6 : T.2.1 6 ≤ 80 := hIT.2.1 6
          have hg7 : T.2.1 7 ≤ 10 := hIT.2.1 7
          have hg8 : t ≤ 512 := hIT.2.2
          refine lv_iload hx hb d_X_give_43 (lv_at hl 0 rfl) ?_
          refine lv_bipush (v := nI 10) hx hb d_X_give_45 (by decide) ?_
          refine nv_cge (tgt := 74) hx hb (by omega) (by omega) d_X_give_47 (by decide) (fun c47 => ?_) (fun c47 => ?_)
          · obtain rfl : i = 10 := by omega
            refine lv_iconst (v := (-1)) hx hb d_X_give_74 (by decide) ?_
            have ho : op_give S (nI a1) (nI a2) = (0, (-1), gvN S a1 a2 10) := by simp only [op_give, ma1, if_pos p2, ma2, if_pos p6, if_pos c14, hno]
            rw [ho]
            refine W.widen (k := 3) (n := 18) (Nat.le_of_ble_eq_true rfl) (Nat.le_of_ble_eq_true rfl) ?_
            have hP9 : va_P (dC, dI) classes (wX q cI (gvN S a1 a2 10)) H := by rw [hh1] at hP; exact hP
            exact vx_ret (W.iret hx hb hr (fun t ht hW => ⟨rfl, rfl, by rw [ht]; exact hP9, hS.F ht⟩) hS.2.2 d_X_give_75)
          · refine lv_aload_n hx hb d_X_give_50 rfl (lv_at hl 2 rfl) ?_
            refine lv_iload_n hx hb d_X_give_51 rfl (lv_at hl 3 rfl) ?_
            refine lv_iload hx hb d_X_give_52 (lv_at hl 0 rfl) ?_
            refine lv_aload_n hx hb d_X_give_54 rfl (lv_at hl 2 rfl) ?_
            refine va_get (D := (dC, dI)) (ci := 0) (v := .ref (q 10)) (C := R_X) (T := F_X) (N := 12) hx hb hts i_X hown hK hP 0 rfl rfl 9 (by decide) (hts _ wd_66) (fun _ h9 => h9) rfl d_X_give_55 ?_
            refine lv_iload_n hx hb d_X_give_58 rfl (lv_at hl 4 rfl) ?_
            refine lv_iload hx hb d_X_give_59 (lv_at hl 0 rfl) ?_
            refine pu_go (va_runS (As := [.int (nI a2), .int (nI i)]) (rest := [.ref (q 10), .int (nI i), .int (nI a1), .ref (q 0)]) ⟨hx, hb, hml, hown, hts⟩ (c_X_pair l dC dI a2 i) (cwS 2 hts (gi_S wd_106 wd_107 wd_1 wd_108) rfl rfl rfl (by decide +kernel) ⟨Nat.le_of_ble_eq_true rfl, Nat.le_of_ble_eq_true rfl⟩) (pu_preS (hK.sub (tys' := []) [] rfl) (fun k q h => by simp at h)) rfl rfl hl.1 rfl (lv_room (Nat.le_of_ble_eq_true rfl)) d_X_give_61 ⟨Nat.le_of_ble_eq_true rfl, Nat.le_of_ble_eq_true rfl⟩) ?_
            refine nv_iald (v := nI (T.1 28 (a2 * 10 + i))) hx hb hK hP 10 0 rfl rfl (by omega) (by decide) rfl d_X_give_64 ?_
            have h28 : T.1 28 (a2 * 10 + i) = S.1 28 (a2 * 10 + i) := by rw [hT4 28 (by decide) (by decide)]
            have hb28 : T.1 28 (a2 * 10 + i) ≤ 20 := hBT 28 _
            refine wr_goA (va_runV (As := [.int (nI a1), .int (nI i), .int (nI (T.1 28 (a2 * 10 + i)))]) (rest := []) ⟨hx, hb, hml, hown, hts⟩ (c_X_take l dC dI H.size cI q T t hIT a1 i (T.1 28 (a2 * 10 + i)) (by omega) (by omega) (by omega) (fun j => by have := hT2 j; omega)) (cwV 3 hts (gi_V wd_358 wd_360 wp_14 wd_1 wd_361) rfl rfl rfl (by decide +kernel) ⟨Nat.le_of_ble_eq_true rfl, Nat.le_of_ble_eq_true rfl⟩) (wr_preV hK hP hD (ci := 0) (q0 := 0) rfl rfl) rfl rfl hl.1 rfl (lv_room (Nat.le_of_ble_eq_true rfl)) d_X_give_65 ⟨Nat.le_of_ble_eq_true rfl, Nat.le_of_ble_eq_true rfl⟩) hD hS hA wX_adr (fun H locs hP hD hS => ?_)
            refine W.eq (g2 := F0 m 68 ls []) rfl ?_
            obtain ⟨T1, hT1⟩ : ∃ z : St, z = tk a1 i 60 T (T.1 28 (a2 * 10 + i)) := ⟨_, rfl⟩
            rw [← hT1] at hP hD
            refine lv_iinc (v := nI (i + 1)) (lv' := [(4, .int (nI (i + 1))), (3, .int (o2 (lack S a1 a2))), (0, .ref (q 0)), (1, .int (nI a1)), (2, .int (nI a2))]) hx hb d_X_give_68 hl (k := 0) rfl (nI_1 _) (by decide) rfl (fun ls hl => ?_)
            refine lv_goto (tgt := 43) hx hb d_X_give_71 (by decide) ?_
            exact ih (i + 1) T1 _ _ (by omega) (by omega) (by rw [hT1, h28, hh1]; rfl) hP hD hS ls (lv_sub hl [0, 1, 2, 3, 4] (rfl))
      exact LP43 ((10 - 0) + 1) 0 S _ _ (Nat.lt_succ_self _) (Nat.zero_le _) rfl hP hD hS ls (lv_sub hl [0, 1, 2, 3, 4] (rfl))
    · obtain ⟨b, hbb⟩ := o2_some c35
      refine lv_iload_n hx hb d_X_give_38 rfl (lv_at hl 0 rfl) ?_
      have ho : op_give S (nI a1) (nI a2) = (0, nI b, S) := by simp only [op_give, ma1, if_pos p2, ma2, if_pos p6, if_pos c14, hbb]
      rw [ho]
      refine nv_as (nI b) (by rw [hbb]; rfl) ?_
      refine W.widen (k := 3) (n := 18) (Nat.le_of_ble_eq_true rfl) (Nat.le_of_ble_eq_true rfl) ?_
      have hP9 : va_P (dC, dI) classes (wX q cI (S)) s.heap := hP
      exact vx_ret (W.iret hx hb hr (fun t ht hW => ⟨rfl, rfl, by rw [ht]; exact hP9, hS.F ht⟩) hS.2.2 d_X_give_39)
  · exact x_throw (A := A0) hx hb hst hown hts hG ex_is sx_173 hnt (hl.1.trans hml.symm) hlocks d_X_give_17 d_X_give_20 d_X_give_21 d_X_give_23 d_X_give_26 (Nat.le_of_ble_eq_true rfl) (Nat.le_of_ble_eq_true rfl) (Nat.le_of_ble_eq_true rfl) (Nat.le_of_ble_eq_true rfl) (Nat.le_of_ble_eq_true rfl) (Nat.le_of_ble_eq_true rfl) (fun t h1 h2 => ⟨by simp only [op_give, ma1, if_pos p2, ma2, if_pos p6, if_neg (show ¬ anyPart S a2 = true by rw [c14]; decide)]; decide, by simp only [op_give, ma1, if_pos p2, ma2, if_pos p6, if_neg (show ¬ anyPart S a2 = true by rw [c14]; decide)]; rfl, h1, h2⟩)
set_option maxHeartbeats 4000000 in
set_option maxRecDepth 100000 in
theorem c_X_tick (l : Launch) (hst : l.stackTraces = false) (dC : Nat → ClassId) (dI : Nat → Nat → Nat) (A0 : Nat → Prop) (sz : Nat) (cI : ClassId) (q : Nat → Nat) (S : St) (t : Nat) (hI : Bd t S) (x : Int32) : vx_Met l y_X_tick (.code y_X_tick b_X_tick 4 (some .int) :: bg) { frames := 8, cells := 2, slots := 12, locals := 132 } (xo_P (dC, dI) classes [(cI, .int)] A0 (wX q cI S) sz [.ref (q 0), .int x]) (xo_Q (op_tick S x) (some (.int (op_tick S x).2.1)) (dC, dI) classes (wX q cI (op_tick S x).2.2) (va_A (wX q cI S) sz)) (xo_X (op_tick S x) [E_io]) 2 12 (va_A (wX q cI S) sz) := by
  refine vx_ofW (cc := b_X_tick) (maxL := 4) (ret := (some .int)) (by decide) rfl ?_
  intro p e s m args below meth c s₁ B hml hnt hv
  obtain ⟨rfl, hsz, hP, hK, hD0, hG⟩ := hv
  subst hsz
  have hD := hD0.self (sz := s.heap.size)
  generalize hAe : va_A (wX q cI S) s.heap.size = A at hD ⊢
  have hA : ∀ q : Nat, s.heap.size ≤ q → A q := fun q h => by rw [← hAe]; exact Or.inr h
  have hS : va_S A s.heap s.heap [] := va_S.rf
  have hx := B.exec
  have hb := B.bytes
  have hr := B.returns
  have hts := fun w (h : w ∈ bg) => atoms_spec (ws := .code y_X_tick b_X_tick 4 (some .int) :: bg) B.pre w (List.mem_cons_of_mem _ h)
  have hown : s.vm.findClass R_X = some m.cls := findClass_of_methodNamed B.named
  have hlocks := B.notSynchronized
  have hl := lv_entry ([.ref (q 0), .int x]) (n := 4) (Nat.le_of_ble_eq_true rfl)
  rw [lg_entry_eq]
  generalize (lg_sl ([.ref (q 0), .int x]) ++ List.replicate (4 - (lg_sl ([.ref (q 0), .int x])).length) Slot.unset).toArray = ls at hl ⊢
  have hl : lv_has ls 4 [(0, .ref (q 0)), (1, .int x)] := hl
  have hB := hI.1
  have hg0 : S.2.1 0 ≤ 8 := hI.2.1 0
  have hg1 : S.2.1 1 ≤ 9999 := hI.2.1 1
  have hg2 : S.2.1 2 ≤ 60 := hI.2.1 2
  have hg3 : S.2.1 3 ≤ 60 := hI.2.1 3
  have hg4 : S.2.1 4 ≤ 80 := hI.2.1 4
  have hg5 : S.2.1 5 ≤ 20 := hI.2.1 5
  have hg6 : S.2.1 6 ≤ 80 := hI.2.1 6
  have hg7 : S.2.1 7 ≤ 10 := hI.2.1 7
  have hg8 : t ≤ 512 := hI.2.2
  refine lv_iload_n hx hb d_X_tick_0 rfl (lv_at hl 1 rfl) ?_
  refine lv_iconst (v := nI 1) hx hb d_X_tick_1 (by decide) ?_
  refine lv_sipush (v := nI 1000) hx hb d_X_tick_2 (by decide) ?_
  refine nd_go (vx_runS (As := [.int x, .int (nI 1), .int (nI 1000)]) (rest := []) ⟨hx, hb, hml, hown, hts⟩ (c_X_needRange l hst dC dI A0 x 1 1000 (by omega) (by omega)) (cwS 3 hts (gi_S wd_253 wd_254 wd_1 wd_255) rfl rfl rfl (by decide +kernel) ⟨Nat.le_of_ble_eq_true rfl, Nat.le_of_ble_eq_true rfl⟩) (nd_preS (hK.sub (tys' := []) [] rfl) (fun k q h => by simp at h) hG) rfl rfl hl.1 rfl (lv_room (Nat.le_of_ble_eq_true rfl)) d_X_tick_5 ⟨Nat.le_of_ble_eq_true rfl, Nat.le_of_ble_eq_true rfl⟩) (fun p5 ce q9 H1 h1 h2 h3 h4 h5 => vx_out (fun x hx => (hnt x hx).elim) hlocks h3 h4 h5 (fun t ht hv => ⟨by simp only [op_tick, if_neg p5]; decide, by simp only [op_tick, if_neg p5]; rfl, by rw [ht]; exact h1, fun z hz => by rw [ht]; exact h2 z hz⟩) (fun q h => nomatch h) (Nat.le_of_ble_eq_true rfl) (Nat.le_of_ble_eq_true rfl)) (fun p5 => ?_)
  obtain ⟨a1, ga1, ha1, rfl⟩ := rg_ex p5
  have ma1 : nn (nI a1) = a1 := nn_of (by omega)
  refine lv_aload_n hx hb d_X_tick_8 rfl (lv_at hl 0 rfl) ?_
  refine va_get (D := (dC, dI)) (ci := 0) (v := .int (nI (S.2.1 1))) (C := R_X) (T := F_X) (N := 12) hx hb hts i_X hown hK hP 0 rfl rfl 11 (by decide) (hts _ wd_68) (fun _ h9 => h9) rfl d_X_tick_9 ?_
  refine lv_iload_n hx hb d_X_tick_12 rfl (lv_at hl 1 rfl) ?_
  refine nv_add hx hb d_X_tick_13 ?_
  refine lv_iconst (v := nI 0) hx hb d_X_tick_14 (by decide) ?_
  refine lv_sipush (v := nI 9999) hx hb d_X_tick_15 (by decide) ?_
  refine nd_go (vx_runS (As := [.int (nI ((S.2.1 1) + a1)), .int (nI 0), .int (nI 9999)]) (rest := []) ⟨hx, hb, hml, hown, hts⟩ (c_X_needRange l hst dC dI A0 (nI ((S.2.1 1) + a1)) 0 9999 (by omega) (by omega)) (cwS 3 hts (gi_S wd_253 wd_254 wd_1 wd_255) rfl rfl rfl (by decide +kernel) ⟨Nat.le_of_ble_eq_true rfl, Nat.le_of_ble_eq_true rfl⟩) (nd_preS (hK.sub (tys' := []) [] rfl) (fun k q h => by simp at h) hG) rfl rfl hl.1 rfl (lv_room (Nat.le_of_ble_eq_true rfl)) d_X_tick_18 ⟨Nat.le_of_ble_eq_true rfl, Nat.le_of_ble_eq_true rfl⟩) (fun p18 ce q9 H1 h1 h2 h3 h4 h5 => vx_out (fun x hx => (hnt x hx).elim) hlocks h3 h4 h5 (fun t ht hv => ⟨by simp only [op_tick, ma1, if_pos p5, if_neg (show ¬ S.2.1 1 + a1 ≤ 9999 from fun h => p18 (by rw [rg_nI (by omega)]; simpa using h))]; decide, by simp only [op_tick, ma1, if_pos p5, if_neg (show ¬ S.2.1 1 + a1 ≤ 9999 from fun h => p18 (by rw [rg_nI (by omega)]; simpa using h))]; rfl, by rw [ht]; exact h1, fun z hz => by rw [ht]; exact h2 z hz⟩) (fun q h => nomatch h) (Nat.le_of_ble_eq_true rfl) (Nat.le_of_ble_eq_true rfl)) (fun p18 => ?_)
  have q18 : S.2.1 1 + a1 ≤ 9999 := by rw [rg_nI (by omega)] at p18; simpa using p18
  refine lv_aload_n hx hb d_X_tick_21 rfl (lv_at hl 0 rfl) ?_
  refine lv_dup hx hb d_X_tick_22 rfl ?_
  refine va_get (D := (dC, dI)) (ci := 0) (v := .int (nI (S.2.1 1))) (C := R_X) (T := F_X) (N := 12) hx hb hts i_X hown hK hP 0 rfl rfl 11 (by decide) (hts _ wd_68) (fun _ h9 => h9) rfl d_X_tick_23 ?_
  refine lv_iload_n hx hb d_X_tick_26 rfl (lv_at hl 1 rfl) ?_
  refine nv_add hx hb d_X_tick_27 ?_
  refine va_put (D := (dC, dI)) (ci := 0) (v := .int (nI ((S.2.1 1) + a1))) (ty := .int) (C := R_X) (T := F_X) (N := 12) hx hb hts i_X ty_X ty_X_ok n_X hown hK hP hD hS 0 rfl rfl 11 (by decide) (hts _ wd_68) (fun _ h9 => h9) rfl (by decide +kernel) rfl rfl (Nat.le_of_ble_eq_true rfl) d_X_tick_28 (fun H locs hP hD hS => ?_)
  have hP : va_P (dC, dI) classes (wX q cI (S_g S 1 ((S.2.1 1) + a1))) H := by rw [← wX_g1]; exact hP
  have hD : va_D A (wX q cI (S_g S 1 ((S.2.1 1) + a1))) := by rw [← wX_g1]; exact hD
  obtain ⟨S1, hS1⟩ : ∃ z : St, z = S_g S 1 ((S.2.1 1) + a1) := ⟨_, rfl⟩
  rw [← hS1] at hP hD
  have hIS1 : Bd t S1 := by rw [hS1]; exact Bd_g hI (show _ ≤ 9999 from q18)
  have hBS1 := hIS1.1
  have hg0 : S1.2.1 0 ≤ 8 := hIS1.2.1 0
  have hg1 : S1.2.1 1 ≤ 9999 := hIS1.2.1 1
  have hg2 : S1.2.1 2 ≤ 60 := hIS1.2.1 2
  have hg3 : S1.2.1 3 ≤ 60 := hIS1.2.1 3
  have hg4 : S1.2.1 4 ≤ 80 := hIS1.2.1 4
  have hg5 : S1.2.1 5 ≤ 20 := hIS1.2.1 5
  have hg6 : S1.2.1 6 ≤ 80 := hIS1.2.1 6
  have hg7 : S1.2.1 7 ≤ 10 := hIS1.2.1 7
  have hg8 : t ≤ 512 := hIS1.2.2
  refine lv_iconst (v := nI 0) hx hb d_X_tick_31 (by decide) ?_
  refine lv_istore_n (lv' := [(2, .int (nI 0)), (0, .ref (q 0)), (1, .int (nI a1))]) hx hb d_X_tick_32 rfl hl (by decide) rfl (fun ls hl => ?_)
  refine lv_iconst (v := nI 0) hx hb d_X_tick_33 (by decide) ?_
  refine lv_istore_n (lv' := [(3, .int (nI 0)), (2, .int (nI 0)), (0, .ref (q 0)), (1, .int (nI a1))]) hx hb d_X_tick_34 rfl hl (by decide) rfl (fun ls hl => ?_)
  have LP35 : ∀ (fu : Nat) (i : Nat) (T : St) (H : Heap) (locs : List Loc), S.2.1 3 - i < fu → (i ≤ S.2.1 3) → (T = arr S1 (S.2.1 1 + a1) i) → va_P (dC, dI) classes (wX q cI T) H → va_D A (wX q cI T) → va_S A s.heap H locs → ∀ ls : Array Slot, lv_has ls 4 [(3, .int (nI i)), (2, .int (nI (arrC S1 (S.2.1 1 + a1) i))), (0, .ref (q 0)), (1, .int (nI a1))] → W p l e (headSpec (.code y_X_tick b_X_tick 4 (some .int) :: bg) { frames := 8, cells := 2, slots := 12, locals := 132 }).room s m (List.toArray [.ref (q 0), .int (nI a1)]) below meth c H locs 2 12 (vx_MQ below (xo_Q (op_tick S (nI a1)) (some (.int (op_tick S (nI a1)).2.1)) (dC, dI) classes (wX q cI (op_tick S (nI a1)).2.2) A) (xo_X (op_tick S (nI a1)) [E_io]) (List.toArray [.ref (q 0), .int (nI a1)]) s 2 12 A) (F0 m 35 ls []) := by
    intro fu
    induction fu with
    | zero => intro i T H locs h; exact absurd h (Nat.not_lt_zero _)
    | succ fu ih =>
      intro i T H locs hfu hh0 hh1 hP hD hS ls hl
      obtain ⟨hIT, hT2⟩ := arr_all (t := t) (D := S.2.1 1 + a1) hIS1 i
      rw [← hh1] at hIT hT2
      have hBT := hIT.1
      have hg0 : T.2.1 0 ≤ 8 := hIT.2.1 0
      have hg1 : T.2.1 1 ≤ 9999 := hIT.2.1 1
      have hg2 : T.2.1 2 ≤ 60 := hIT.2.1 2
      have hg3 : T.2.1 3 ≤ 60 := hIT.2.1 3
      have hg4 : T.2.1 4 ≤ 80 := hIT.2.1 4
      have hg5 : T.2.1 5 ≤ 20 := hIT.2.1 5
      have hg6 : T.2.1 6 ≤ 80 := hIT.2.1 6
      have hg7 : T.2.1 7 ≤ 10 := hIT.2.1 7
      have hg8 : t ≤ 512 := hIT.2.2
      have r3 : T.2.1 3 = S.2.1 3 := by rw [hT2, hS1]; rfl
      have r1 : T.2.1 1 = S.2.1 1 + a1 := by rw [hT2, hS1]; rfl
      have hcl := arrC_le (S := S1) (D := S.2.1 1 + a1) i
      refine lv_iload_n hx hb d_X_tick_35 rfl (lv_at hl 0 rfl) ?_
      refine lv_aload_n hx hb d_X_tick_36 rfl (lv_at hl 2 rfl) ?_
      refine va_get (D := (dC, dI)) (ci := 0) (v := .ref (q 2)) (C := R_X) (T := F_X) (N := 12) hx hb hts i_X hown hK hP 0 rfl rfl 1 (by decide) (hts _ wd_58) (fun _ h9 => h9) rfl d_X_tick_37 ?_
      refine pu_go (va_runV (As := []) (rest := [.int (nI i)]) ⟨hx, hb, hml, hown, hts⟩ (c_W_made l dC dI cI (q 2) (q 12) 60 (T.2.1 3) 300 (rowf T.1 5)) (cwV 0 hts (gi_V wd_98 wd_99 wd_100 wd_2 wd_101) rfl rfl rfl (by decide +kernel) ⟨Nat.le_of_ble_eq_true rfl, Nat.le_of_ble_eq_true rfl⟩) (pu_preV hK (hP.sub [2, 12] rfl) (ci := 1) (q0 := 0) rfl rfl) rfl rfl hl.1 rfl (lv_room (Nat.le_of_ble_eq_true rfl)) d_X_tick_40 ⟨Nat.le_of_ble_eq_true rfl, Nat.le_of_ble_eq_true rfl⟩) ?_
      refine nv_cge (tgt := 89) hx hb (by omega) (by omega) d_X_tick_43 (by decide) (fun c43 => ?_) (fun c43 => ?_)
      · obtain rfl : i = S.2.1 3 := by omega
        refine lv_iload_n hx hb d_X_tick_89 rfl (lv_at hl 1 rfl) ?_
        have ho : op_tick S (nI a1) = (0, nI (arrC (S_g S 1 (S.2.1 1 + a1)) (S.2.1 1 + a1) (S.2.1 3)), arr (S_g S 1 (S.2.1 1 + a1)) (S.2.1 1 + a1) (S.2.1 3)) := by simp only [op_tick, ma1, if_pos p5, if_pos q18]
        rw [ho]
        refine nv_as (nI (arrC (S_g S 1 (S.2.1 1 + a1)) (S.2.1 1 + a1) (S.2.1 3))) (by rw [hS1]) ?_
        refine W.widen (k := 2) (n := 12) (Nat.le_of_ble_eq_true rfl) (Nat.le_of_ble_eq_true rfl) ?_
        have hP9 : va_P (dC, dI) classes (wX q cI (arr (S_g S 1 (S.2.1 1 + a1)) (S.2.1 1 + a1) (S.2.1 3))) H := by rw [hh1, hS1] at hP; exact hP
        exact vx_ret (W.iret hx hb hr (fun t ht hW => ⟨rfl, rfl, by rw [ht]; exact hP9, hS.F ht⟩) hS.2.2 d_X_tick_90)
      · refine lv_aload_n hx hb d_X_tick_46 rfl (lv_at hl 2 rfl) ?_
        refine va_get (D := (dC, dI)) (ci := 0) (v := .ref (q 2)) (C := R_X) (T := F_X) (N := 12) hx hb hts i_X hown hK hP 0 rfl rfl 1 (by decide) (hts _ wd_58) (fun _ h9 => h9) rfl d_X_tick_47 ?_
        refine lv_iload_n hx hb d_X_tick_50 rfl (lv_at hl 0 rfl) ?_
        refine lv_iconst (v := nI 4) hx hb d_X_tick_51 (by decide) ?_
        refine pu_go (va_runV (As := [.int (nI i), .int (nI 4)]) (rest := []) ⟨hx, hb, hml, hown, hts⟩ (c_W_at l dC dI cI (q 2) (q 12) 60 (T.2.1 3) 300 (rowf T.1 5) i 4 (by omega) (by decide)) (cwV 2 hts (gi_V wd_117 wd_118 wd_119 wd_2 wd_120) rfl rfl rfl (by decide +kernel) ⟨Nat.le_of_ble_eq_true rfl, Nat.le_of_ble_eq_true rfl⟩) (pu_preV hK (hP.sub [2, 12] rfl) (ci := 1) (q0 := 0) rfl rfl) rfl rfl hl.1 rfl (lv_room (Nat.le_of_ble_eq_true rfl)) d_X_tick_52 ⟨Nat.le_of_ble_eq_true rfl, Nat.le_of_ble_eq_true rfl⟩) ?_
        refine nv_as (nI (T.1 9 i)) (rowf_at (by decide)) ?_
        have hb1 : T.1 9 i ≤ 1 := hBT 9 _
        refine lv_iconst (v := nI 1) hx hb d_X_tick_55 (by decide) ?_
        refine nv_cne (tgt := 83) hx hb (by omega) (by omega) d_X_tick_56 (by decide) (fun c56 => ?_) (fun c56 => ?_)
        · refine lv_iinc (v := nI (i + 1)) (lv' := [(3, .int (nI (i + 1))), (2, .int (nI (arrC S1 (S.2.1 1 + a1) i))), (0, .ref (q 0)), (1, .int (nI a1))]) hx hb d_X_tick_83 hl (k := 0) rfl (nI_1 _) (by decide) rfl (fun ls hl => ?_)
          refine lv_goto (tgt := 35) hx hb d_X_tick_86 (by decide) ?_
          exact ih (i + 1) T _ _ (by omega) (by omega) (by rw [(arr_n (hndue hh1 (by omega))).1]; exact hh1) hP hD hS ls (lv_sub hl [0, 1, 2, 3] (by rw [(arr_n (hndue hh1 (by omega))).2]; rfl))
        · refine lv_aload_n hx hb d_X_tick_59 rfl (lv_at hl 2 rfl) ?_
          refine va_get (D := (dC, dI)) (ci := 0) (v := .ref (q 2)) (C := R_X) (T := F_X) (N := 12) hx hb hts i_X hown hK hP 0 rfl rfl 1 (by decide) (hts _ wd_58) (fun _ h9 => h9) rfl d_X_tick_60 ?_
          refine lv_iload_n hx hb d_X_tick_63 rfl (lv_at hl 0 rfl) ?_
          refine lv_iconst (v := nI 3) hx hb d_X_tick_64 (by decide) ?_
          refine pu_go (va_runV (As := [.int (nI i), .int (nI 3)]) (rest := []) ⟨hx, hb, hml, hown, hts⟩ (c_W_at l dC dI cI (q 2) (q 12) 60 (T.2.1 3) 300 (rowf T.1 5) i 3 (by omega) (by decide)) (cwV 2 hts (gi_V wd_117 wd_118 wd_119 wd_2 wd_120) rfl rfl rfl (by decide +kernel) ⟨Nat.le_of_ble_eq_true rfl, Nat.le_of_ble_eq_true rfl⟩) (pu_preV hK (hP.sub [2, 12] rfl) (ci := 1) (q0 := 0) rfl rfl) rfl rfl hl.1 rfl (lv_room (Nat.le_of_ble_eq_true rfl)) d_X_tick_65 ⟨Nat.le_of_ble_eq_true rfl, Nat.le_of_ble_eq_true rfl⟩) ?_
          refine nv_as (nI (T.1 8 i)) (rowf_at (by decide)) ?_
          have hb2 : T.1 8 i ≤ 10029 := hBT 8 _
          refine lv_aload_n hx hb d_X_tick_68 rfl (lv_at hl 2 rfl) ?_
          refine va_get (D := (dC, dI)) (ci := 0) (v := .int (nI (T.2.1 1))) (C := R_X) (T := F_X) (N := 12) hx hb hts i_X hown hK hP 0 rfl rfl 11 (by decide) (hts _ wd_68) (fun _ h9 => h9) rfl d_X_tick_69 ?_
          refine nv_cgt (tgt := 83) hx hb (by omega) (by omega) d_X_tick_72 (by decide) (fun c72 => ?_) (fun c72 => ?_)
          · refine lv_iinc (v := nI (i + 1)) (lv' := [(3, .int (nI (i + 1))), (2, .int (nI (arrC S1 (S.2.1 1 + a1) i))), (0, .ref (q 0)), (1, .int (nI a1))]) hx hb d_X_tick_83 hl (k := 0) rfl (nI_1 _) (by decide) rfl (fun ls hl => ?_)
            refine lv_goto (tgt := 35) hx hb d_X_tick_86 (by decide) ?_
            exact ih (i + 1) T _ _ (by omega) (by omega) (by rw [(arr_n (hndue hh1 (by omega))).1]; exact hh1) hP hD hS ls (lv_sub hl [0, 1, 2, 3] (by rw [(arr_n (hndue hh1 (by omega))).2]; rfl))
          · refine lv_aload_n hx hb d_X_tick_75 rfl (lv_at hl 2 rfl) ?_
            refine lv_iload_n hx hb d_X_tick_76 rfl (lv_at hl 0 rfl) ?_
            refine wr_goA (va_runV (As := [.int (nI i)]) (rest := []) ⟨hx, hb, hml, hown, hts⟩ (c_X_arrive l dC dI H.size cI q T t hIT i (by omega)) (cwV 1 hts (gi_V wd_338 wd_340 wp_12 wd_1 wd_341) rfl rfl rfl (by decide +kernel) ⟨Nat.le_of_ble_eq_true rfl, Nat.le_of_ble_eq_true rfl⟩) (wr_preV hK hP hD (ci := 0) (q0 := 0) rfl rfl) rfl rfl hl.1 rfl (lv_room (Nat.le_of_ble_eq_true rfl)) d_X_tick_77 ⟨Nat.le_of_ble_eq_true rfl, Nat.le_of_ble_eq_true rfl⟩) hD hS hA wX_adr (fun H locs hP hD hS => ?_)
            refine W.eq (g2 := F0 m 80 ls []) rfl ?_
            obtain ⟨T2, hT2_⟩ : ∃ z : St, z = come T i := ⟨_, rfl⟩
            rw [← hT2_] at hP hD
            refine lv_iinc (v := nI ((arrC S1 (S.2.1 1 + a1) i) + 1)) (lv' := [(2, .int (nI ((arrC S1 (S.2.1 1 + a1) i) + 1))), (3, .int (nI i)), (0, .ref (q 0)), (1, .int (nI a1))]) hx hb d_X_tick_80 hl (k := 1) rfl (nI_1 _) (by decide) rfl (fun ls hl => ?_)
            refine lv_iinc (v := nI (i + 1)) (lv' := [(3, .int (nI (i + 1))), (2, .int (nI ((arrC S1 (S.2.1 1 + a1) i) + 1))), (0, .ref (q 0)), (1, .int (nI a1))]) hx hb d_X_tick_83 hl (k := 1) rfl (nI_1 _) (by decide) rfl (fun ls hl => ?_)
            refine lv_goto (tgt := 35) hx hb d_X_tick_86 (by decide) ?_
            exact ih (i + 1) T2 _ _ (by omega) (by omega) (by rw [(arr_y (hdue hh1 (by omega) (by omega))).1, hT2_, hh1]) hP hD hS ls (lv_sub hl [0, 1, 2, 3] (by rw [(arr_y (hdue hh1 (by omega) (by omega))).2]; rfl))
  exact LP35 ((S.2.1 3 - 0) + 1) 0 S1 _ _ (Nat.lt_succ_self _) (Nat.zero_le _) rfl hP hD hS ls (lv_sub hl [0, 1, 2, 3] (rfl))
