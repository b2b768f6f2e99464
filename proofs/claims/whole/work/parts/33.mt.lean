set_option maxHeartbeats 4000000 in
set_option maxRecDepth 100000 in
theorem c_M_goes (l : Launch) (dC : Nat → ClassId) (dI : Nat → Nat → Nat) (sz : Nat) (cI cZ : ClassId) (q : Nat → Nat) (S : St) (th : Int32) (t : Nat) (hI : Bd t S) (x : Int32) (K R T O : Bool) : Met l y_M_goes (.code y_M_goes b_M_goes 8 (some .boolean) :: bg) { frames := 0, cells := 0, slots := 0, locals := 0 } (wr_P (dC, dI) classes (wM q cI cZ S th) [(cI, .int), (cZ, .boolean)] sz [.ref (q 0), .int x, .int (b2 K), .int (b2 R), .int (b2 T), .int (b2 O)]) (wr_Q (some (.int (b2 (K && (R && (T && O)))))) (dC, dI) classes (wM q cI cZ (S) (nI (gth x (gbit K R T O)))) (va_A (wM q cI cZ S th) sz)) 0 0 (va_A (wM q cI cZ S th) sz) := by
  refine Met.ofW (cc := b_M_goes) (maxL := 8) (ret := (some .boolean)) (by decide) rfl ?_
  intro p e s m args below meth c s₁ B hml hv
  obtain ⟨rfl, hsz, hP, hK, hD0⟩ := hv
  subst hsz
  have hD := hD0.self (sz := s.heap.size)
  generalize hAe : va_A (wM q cI cZ S th) s.heap.size = A at hD ⊢
  have hA : ∀ q : Nat, s.heap.size ≤ q → A q := fun q h => by rw [← hAe]; exact Or.inr h
  have hS : va_S A s.heap s.heap [] := va_S.rf
  have hx := B.exec
  have hb := B.bytes
  have hr := B.returns
  have hts := fun w (h : w ∈ bg) => atoms_spec (ws := .code y_M_goes b_M_goes 8 (some .boolean) :: bg) B.pre w (List.mem_cons_of_mem _ h)
  have hown : s.vm.findClass R_M = some m.cls := findClass_of_methodNamed B.named
  have hlocks := B.notSynchronized
  have hl := lv_entry ([.ref (q 0), .int x, .int (b2 K), .int (b2 R), .int (b2 T), .int (b2 O)]) (n := 8) (Nat.le_of_ble_eq_true rfl)
  rw [lg_entry_eq]
  generalize (lg_sl ([.ref (q 0), .int x, .int (b2 K), .int (b2 R), .int (b2 T), .int (b2 O)]) ++ List.replicate (8 - (lg_sl ([.ref (q 0), .int x, .int (b2 K), .int (b2 R), .int (b2 T), .int (b2 O)])).length) Slot.unset).toArray = ls at hl ⊢
  have hl : lv_has ls 8 [(0, .ref (q 0)), (1, .int x), (2, .int (b2 K)), (3, .int (b2 R)), (4, .int (b2 T)), (5, .int (b2 O))] := hl
  have hB := hI.1
  have hg0 : S.2.1 0 ≤ 8 := hI.2.1 0
  have hg1 : S.2.1 1 ≤ 9999 := hI.2.1 1
  have hg2 : S.2.1 2 ≤ 60 := hI.2.1 2
  have hg3 : S.2.1 3 ≤ 60 := hI.2.1 3
  have hg4 : S.2.1 4 ≤ 80 := hI.2.1 4
  have hg5 : S.2.1 5 ≤ 20 := hI.2.1 5
  have hg6 : S.2.1 6 ≤ 80 := hI.2.1 6
  have hg7 : S.2.1 7 ≤ 10 := hI.2.1 7
  have hg8 : t ≤ 512 := hI.2.2
  have J36 : W p l e (headSpec (.code y_M_goes b_M_goes 8 (some .boolean) :: bg) { frames := 0, cells := 0, slots := 0, locals := 0 }).room s m (List.toArray [.ref (q 0), .int x, .int (b2 K), .int (b2 R), .int (b2 T), .int (b2 O)]) below meth c s.heap [] 0 0 (MQ below (wr_Q (some (.int (b2 (K && (R && (T && O)))))) (dC, dI) classes (wM q cI cZ (S) (nI (gth x (gbit K R T O)))) A) (List.toArray [.ref (q 0), .int x, .int (b2 K), .int (b2 R), .int (b2 T), .int (b2 O)]) s 0 0 A) (F0 m 36 ls [.int (nI (gbit K R T O))]) := by
    refine lv_istore (lv' := [(6, .int (nI (gbit K R T O))), (0, .ref (q 0)), (1, .int x), (2, .int (b2 K)), (3, .int (b2 R)), (4, .int (b2 T)), (5, .int (b2 O))]) hx hb d_M_goes_36 hl (by decide) rfl (fun ls hl => ?_)
    refine lv_aload_n hx hb d_M_goes_38 rfl (lv_at hl 1 rfl) ?_
    refine lv_iconst (v := nI 0) hx hb d_M_goes_39 (by decide) ?_
    refine va_put (D := (dC, dI)) (ci := 3) (v := .int (nI 0)) (ty := .int) (C := R_M) (T := F_M) (N := 37) hx hb hts i_M ty_M ty_M_ok n_M hown hK hP hD hS 0 rfl rfl 0 (by decide) (hts _ wd_555) (fun _ h9 => h9) rfl (by decide +kernel) rfl rfl (Nat.le_of_ble_eq_true rfl) d_M_goes_40 (fun H locs hP hD hS => ?_)
    have hP : va_P (dC, dI) classes (wM q cI cZ S (nI 0)) H := hP
    have hD : va_D A (wM q cI cZ S (nI 0)) := hD
    refine lv_iconst (v := nI 1) hx hb d_M_goes_43 (by decide) ?_
    refine lv_istore (lv' := [(7, .int (nI 1)), (6, .int (nI (gbit K R T O))), (0, .ref (q 0)), (1, .int x), (2, .int (b2 K)), (3, .int (b2 R)), (4, .int (b2 T)), (5, .int (b2 O))]) hx hb d_M_goes_44 hl (by decide) rfl (fun ls hl => ?_)
    have LP46 : ∀ (fu : Nat) (j : Nat) (H : Heap) (locs : List Loc), 5 - j < fu → (j ≤ 4) → (∀ i, i < j → 2 ^ i ≤ gbit K R T O) → va_P (dC, dI) classes (wM q cI cZ S (nI (cnt x j))) H → va_D A (wM q cI cZ S (nI (cnt x j))) → va_S A s.heap H locs → ∀ ls : Array Slot, lv_has ls 8 [(7, .int (nI (2 ^ j))), (6, .int (nI (gbit K R T O))), (0, .ref (q 0)), (1, .int x), (2, .int (b2 K)), (3, .int (b2 R)), (4, .int (b2 T)), (5, .int (b2 O))] → W p l e (headSpec (.code y_M_goes b_M_goes 8 (some .boolean) :: bg) { frames := 0, cells := 0, slots := 0, locals := 0 }).room s m (List.toArray [.ref (q 0), .int x, .int (b2 K), .int (b2 R), .int (b2 T), .int (b2 O)]) below meth c H locs 0 0 (MQ below (wr_Q (some (.int (b2 (K && (R && (T && O)))))) (dC, dI) classes (wM q cI cZ (S) (nI (gth x (gbit K R T O)))) A) (List.toArray [.ref (q 0), .int x, .int (b2 K), .int (b2 R), .int (b2 T), .int (b2 O)]) s 0 0 A) (F0 m 46 ls []) := by
      intro fu
      induction fu with
      | zero => intro j H locs h; exact absurd h (Nat.not_lt_zero _)
      | succ fu ih =>
        intro j H locs hfu hh0 hh1 hP hD hS ls hl
        have h2j : 2 ^ j ≤ 2 ^ 4 := Nat.pow_le_pow_right (by decide) hh0
        have h24 : (2 : Nat) ^ 4 = 16 := rfl
        have hgb := gbit_le (K := K) (R := R) (T := T) (O := O)
        refine lv_iload hx hb d_M_goes_46 (lv_at hl 0 rfl) ?_
        refine lv_iload hx hb d_M_goes_48 (lv_at hl 1 rfl) ?_
        refine nv_cgt (tgt := 79) hx hb (by omega) (by omega) d_M_goes_50 (by decide) (fun c50 => ?_) (fun c50 => ?_)
        · refine lv_iload hx hb d_M_goes_79 (lv_at hl 1 rfl) ?_
          refine nv_zne (tgt := 88) hx hb (by omega) d_M_goes_81 (by decide) (fun c81 => ?_) (fun c81 => ?_)
          · refine lv_iconst (v := b2 false) hx hb d_M_goes_88 (by decide) ?_
            refine nv_as (b2 (K && (R && (T && O)))) (by rw [← gbit_0, decide_eq_false c81]) ?_
            have hP9 : va_P (dC, dI) classes (wM q cI cZ S (nI (gth x (gbit K R T O)))) H := by rw [cnt_fin hh1 c50 hh0] at hP; exact hP
            exact W.zret hx hb hr (b2_nar _) (fun t ht hW => ⟨rfl, by rw [ht]; exact hP9, hS.F ht⟩) hS.2.2 d_M_goes_89
          · refine lv_iconst (v := b2 true) hx hb d_M_goes_84 (by decide) ?_
            refine lv_goto (tgt := 89) hx hb d_M_goes_85 (by decide) ?_
            refine nv_as (b2 (K && (R && (T && O)))) (by rw [← gbit_0, decide_eq_true c81]) ?_
            have hP9 : va_P (dC, dI) classes (wM q cI cZ S (nI (gth x (gbit K R T O)))) H := by rw [cnt_fin hh1 c50 hh0] at hP; exact hP
            exact W.zret hx hb hr (b2_nar _) (fun t ht hW => ⟨rfl, by rw [ht]; exact hP9, hS.F ht⟩) hS.2.2 d_M_goes_89
        · refine lv_iload_n hx hb d_M_goes_53 rfl (lv_at hl 3 rfl) ?_
          refine lv_iload hx hb d_M_goes_54 (lv_at hl 0 rfl) ?_
          refine lv_iand hx hb d_M_goes_56 ?_
          refine lv_if_le (tgt := 70) hx hb d_M_goes_57 (by decide) (fun c57 => ?_) (fun c57 => ?_)
          · refine lv_iconst (v := nI 2) hx hb d_M_goes_70 (by decide) ?_
            refine lv_iload hx hb d_M_goes_71 (lv_at hl 0 rfl) ?_
            refine nv_mul hx hb d_M_goes_73 ?_
            refine lv_istore (lv' := [(7, .int (nI (2 * (2 ^ j)))), (6, .int (nI (gbit K R T O))), (0, .ref (q 0)), (1, .int x), (2, .int (b2 K)), (3, .int (b2 R)), (4, .int (b2 T)), (5, .int (b2 O))]) hx hb d_M_goes_74 hl (by decide) rfl (fun ls hl => ?_)
            refine lv_goto (tgt := 46) hx hb d_M_goes_76 (by decide) ?_
            rw [show nI (cnt x j) = nI (cnt x (j + 1)) from congrArg nI (cnt_y c57).symm] at hP hD
            have hj4 : j ≠ 4 := fun h => by rw [h] at c50; omega
            have hnx : ∀ i, i < j + 1 → 2 ^ i ≤ gbit K R T O := fun i hi => (Nat.lt_succ_iff_lt_or_eq.mp hi).elim (hh1 i) (fun h => by rw [h]; omega)
            exact ih (j + 1) _ _ (by omega) (by omega) hnx hP hD hS ls (lv_sub hl [0, 1, 2, 3, 4, 5, 6, 7] (by rw [Nat.pow_succ, Nat.mul_comm]; rfl))
          · refine lv_aload_n hx hb d_M_goes_60 rfl (lv_at hl 2 rfl) ?_
            refine lv_dup hx hb d_M_goes_61 rfl ?_
            refine va_get (D := (dC, dI)) (ci := 3) (v := .int (nI (cnt x j))) (C := R_M) (T := F_M) (N := 37) hx hb hts i_M hown hK hP 0 rfl rfl 0 (by decide) (hts _ wd_555) (fun _ h9 => h9) rfl d_M_goes_62 ?_
            refine lv_iconst (v := nI 1) hx hb d_M_goes_65 (by decide) ?_
            refine nv_add hx hb d_M_goes_66 ?_
            refine va_put (D := (dC, dI)) (ci := 3) (v := .int (nI ((cnt x j) + 1))) (ty := .int) (C := R_M) (T := F_M) (N := 37) hx hb hts i_M ty_M ty_M_ok n_M hown hK hP hD hS 0 rfl rfl 0 (by decide) (hts _ wd_555) (fun _ h9 => h9) rfl (by decide +kernel) rfl rfl (Nat.le_of_ble_eq_true rfl) d_M_goes_67 (fun H locs hP hD hS => ?_)
            have hP : va_P (dC, dI) classes (wM q cI cZ S (nI ((cnt x j) + 1))) H := hP
            have hD : va_D A (wM q cI cZ S (nI ((cnt x j) + 1))) := hD
            refine lv_iconst (v := nI 2) hx hb d_M_goes_70 (by decide) ?_
            refine lv_iload hx hb d_M_goes_71 (lv_at hl 0 rfl) ?_
            refine nv_mul hx hb d_M_goes_73 ?_
            refine lv_istore (lv' := [(7, .int (nI (2 * (2 ^ j)))), (6, .int (nI (gbit K R T O))), (0, .ref (q 0)), (1, .int x), (2, .int (b2 K)), (3, .int (b2 R)), (4, .int (b2 T)), (5, .int (b2 O))]) hx hb d_M_goes_74 hl (by decide) rfl (fun ls hl => ?_)
            refine lv_goto (tgt := 46) hx hb d_M_goes_76 (by decide) ?_
            rw [show nI (cnt x j + 1) = nI (cnt x (j + 1)) from congrArg nI (cnt_n c57).symm] at hP hD
            have hj4 : j ≠ 4 := fun h => by rw [h] at c50; omega
            have hnx : ∀ i, i < j + 1 → 2 ^ i ≤ gbit K R T O := fun i hi => (Nat.lt_succ_iff_lt_or_eq.mp hi).elim (hh1 i) (fun h => by rw [h]; omega)
            exact ih (j + 1) _ _ (by omega) (by omega) hnx hP hD hS ls (lv_sub hl [0, 1, 2, 3, 4, 5, 6, 7] (by rw [Nat.pow_succ, Nat.mul_comm]; rfl))
    exact LP46 ((5 - 0) + 1) 0 _ _ (Nat.lt_succ_self _) (by omega) (fun i hi => absurd hi (Nat.not_lt_zero _)) hP hD hS ls (lv_sub hl [0, 1, 2, 3, 4, 5, 6, 7] (rfl))
  refine lv_iload_n hx hb d_M_goes_0 rfl (lv_at hl 2 rfl) ?_
  refine nv_bn (tgt := 8) hx hb d_M_goes_1 (by decide) (fun c1 => ?_) (fun c1 => ?_)
  · refine lv_iload_n hx hb d_M_goes_8 rfl (lv_at hl 3 rfl) ?_
    refine nv_bn (tgt := 16) hx hb d_M_goes_9 (by decide) (fun c9 => ?_) (fun c9 => ?_)
    · refine lv_iload hx hb d_M_goes_16 (lv_at hl 4 rfl) ?_
      refine nv_bn (tgt := 25) hx hb d_M_goes_18 (by decide) (fun c18 => ?_) (fun c18 => ?_)
      · refine lv_iload hx hb d_M_goes_25 (lv_at hl 5 rfl) ?_
        refine nv_bn (tgt := 35) hx hb d_M_goes_27 (by decide) (fun c27 => ?_) (fun c27 => ?_)
        · refine lv_iconst (v := nI 0) hx hb d_M_goes_35 (by decide) ?_
          refine nv_as (nI (gbit K R T O)) (by simp [gbit, c1, c9, c18, c27]) ?_
          exact J36
        · refine lv_bipush (v := nI 8) hx hb d_M_goes_30 (by decide) ?_
          refine lv_goto (tgt := 36) hx hb d_M_goes_32 (by decide) ?_
          refine nv_as (nI (gbit K R T O)) (by simp [gbit, c1, c9, c18, c27]) ?_
          exact J36
      · refine lv_iconst (v := nI 4) hx hb d_M_goes_21 (by decide) ?_
        refine lv_goto (tgt := 36) hx hb d_M_goes_22 (by decide) ?_
        refine nv_as (nI (gbit K R T O)) (by simp [gbit, c1, c9, c18]) ?_
        exact J36
    · refine lv_iconst (v := nI 2) hx hb d_M_goes_12 (by decide) ?_
      refine lv_goto (tgt := 36) hx hb d_M_goes_13 (by decide) ?_
      refine nv_as (nI (gbit K R T O)) (by simp [gbit, c1, c9]) ?_
      exact J36
  · refine lv_iconst (v := nI 1) hx hb d_M_goes_4 (by decide) ?_
    refine lv_goto (tgt := 36) hx hb d_M_goes_5 (by decide) ?_
    refine nv_as (nI (gbit K R T O)) (by simp [gbit, c1]) ?_
    exact J36
set_option maxHeartbeats 4000000 in
set_option maxRecDepth 100000 in
theorem c_M_comes (l : Launch) (dC : Nat → ClassId) (dI : Nat → Nat → Nat) (sz : Nat) (cI cZ : ClassId) (q : Nat → Nat) (S : St) (th : Int32) (t : Nat) (hI : Bd t S) (st y n : Nat) (hs : st < 8) (hy : y < 60) (hn : n ≤ 9999) : Met l y_M_comes (.code y_M_comes b_M_comes 4 none :: bg) { frames := 1, cells := 0, slots := 0, locals := 21 } (wr_P (dC, dI) classes (wM q cI cZ S th) [(cI, .int), (cZ, .boolean)] sz [.ref (q 0), .int (nI st), .int (nI y), .int (nI n)]) (wr_Q (none) (dC, dI) classes (wM q cI cZ (addUp S st y n) th) (va_A (wM q cI cZ S th) sz)) 0 0 (va_A (wM q cI cZ S th) sz) := by
  refine Met.ofW (cc := b_M_comes) (maxL := 4) (ret := none) (by decide) rfl ?_
  intro p e s m args below meth c s₁ B hml hv
  obtain ⟨rfl, hsz, hP, hK, hD0⟩ := hv
  subst hsz
  have hD := hD0.self (sz := s.heap.size)
  generalize hAe : va_A (wM q cI cZ S th) s.heap.size = A at hD ⊢
  have hA : ∀ q : Nat, s.heap.size ≤ q → A q := fun q h => by rw [← hAe]; exact Or.inr h
  have hS : va_S A s.heap s.heap [] := va_S.rf
  have hx := B.exec
  have hb := B.bytes
  have hr := B.returns
  have hts := fun w (h : w ∈ bg) => atoms_spec (ws := .code y_M_comes b_M_comes 4 none :: bg) B.pre w (List.mem_cons_of_mem _ h)
  have hown : s.vm.findClass R_M = some m.cls := findClass_of_methodNamed B.named
  have hlocks := B.notSynchronized
  have hl := lv_entry ([.ref (q 0), .int (nI st), .int (nI y), .int (nI n)]) (n := 4) (Nat.le_of_ble_eq_true rfl)
  rw [lg_entry_eq]
  generalize (lg_sl ([.ref (q 0), .int (nI st), .int (nI y), .int (nI n)]) ++ List.replicate (4 - (lg_sl ([.ref (q 0), .int (nI st), .int (nI y), .int (nI n)])).length) Slot.unset).toArray = ls at hl ⊢
  have hl : lv_has ls 4 [(0, .ref (q 0)), (1, .int (nI st)), (2, .int (nI y)), (3, .int (nI n))] := hl
  have hB := hI.1
  have hg0 : S.2.1 0 ≤ 8 := hI.2.1 0
  have hg1 : S.2.1 1 ≤ 9999 := hI.2.1 1
  have hg2 : S.2.1 2 ≤ 60 := hI.2.1 2
  have hg3 : S.2.1 3 ≤ 60 := hI.2.1 3
  have hg4 : S.2.1 4 ≤ 80 := hI.2.1 4
  have hg5 : S.2.1 5 ≤ 20 := hI.2.1 5
  have hg6 : S.2.1 6 ≤ 80 := hI.2.1 6
  have hg7 : S.2.1 7 ≤ 10 := hI.2.1 7
  have hg8 : t ≤ 512 := hI.2.2
  refine lv_aload_n hx hb d_M_comes_0 rfl (lv_at hl 0 rfl) ?_
  refine va_get (D := (dC, dI)) (ci := 3) (v := .ref (q 6)) (C := R_M) (T := F_M) (N := 37) hx hb hts i_M hown hK hP 0 rfl rfl 9 (by decide) (hts _ wd_564) (fun _ h9 => h9) rfl d_M_comes_1 ?_
  refine lv_iload_n hx hb d_M_comes_4 rfl (lv_at hl 1 rfl) ?_
  refine lv_bipush (v := nI 60) hx hb d_M_comes_5 (by decide) ?_
  refine nv_mul hx hb d_M_comes_7 ?_
  refine lv_iload_n hx hb d_M_comes_8 rfl (lv_at hl 2 rfl) ?_
  refine nv_add hx hb d_M_comes_9 ?_
  refine lv_aload_n hx hb d_M_comes_10 rfl (lv_at hl 0 rfl) ?_
  refine va_get (D := (dC, dI)) (ci := 3) (v := .ref (q 6)) (C := R_M) (T := F_M) (N := 37) hx hb hts i_M hown hK hP 0 rfl rfl 9 (by decide) (hts _ wd_564) (fun _ h9 => h9) rfl d_M_comes_11 ?_
  refine lv_iload_n hx hb d_M_comes_14 rfl (lv_at hl 1 rfl) ?_
  refine lv_bipush (v := nI 60) hx hb d_M_comes_15 (by decide) ?_
  refine nv_mul hx hb d_M_comes_17 ?_
  refine lv_iload_n hx hb d_M_comes_18 rfl (lv_at hl 2 rfl) ?_
  refine nv_add hx hb d_M_comes_19 ?_
  refine nv_iald (v := nI (S.1 25 ((st * 60) + y))) hx hb hK hP 6 0 rfl rfl (by omega) (by decide) rfl d_M_comes_20 ?_
  have hb1 : S.1 25 ((st * 60) + y) ≤ 9999 := hB 25 _
  refine lv_iload_n hx hb d_M_comes_21 rfl (lv_at hl 3 rfl) ?_
  refine nv_add hx hb d_M_comes_22 ?_
  refine lv_sipush (v := nI 9999) hx hb d_M_comes_23 (by decide) ?_
  refine pu_go (va_runS (As := [.int (nI ((S.1 25 ((st * 60) + y)) + n)), .int (nI 9999)]) (rest := [.int (nI ((st * 60) + y)), .ref (q 6)]) ⟨hx, hb, hml, hown, hts⟩ (c_M_lesser l dC dI ((S.1 25 ((st * 60) + y)) + n) 9999 (by omega) (by omega)) (cwS 2 hts (gi_S wd_717 wd_718 wd_5 wd_719) rfl rfl rfl (by decide +kernel) ⟨Nat.le_of_ble_eq_true rfl, Nat.le_of_ble_eq_true rfl⟩) (pu_preS (hK.sub (tys' := []) [] rfl) (fun k q h => by simp at h)) rfl rfl hl.1 rfl (lv_room (Nat.le_of_ble_eq_true rfl)) d_M_comes_26 ⟨Nat.le_of_ble_eq_true rfl, Nat.le_of_ble_eq_true rfl⟩) ?_
  refine nv_iast (f' := upd (colf S.1 25) ((st * 60) + y) (nI (min ((S.1 25 ((st * 60) + y)) + n) 9999))) hx hb hK hP hD hS 6 0 rfl rfl (by omega) (by decide) rfl (wM q cI cZ (S_a S 25 ((st * 60) + y) (min ((S.1 25 ((st * 60) + y)) + n) 9999)) th) wM_c25 d_M_comes_29 (fun H locs hP hD hS => ?_)
  have hP9 : va_P (dC, dI) classes (wM q cI cZ (addUp S st y n) th) H := by unfold addUp; rw [Nat.min_comm]; exact hP
  exact W.vret hx hb hr (fun t ht hW => ⟨rfl, by rw [ht]; exact hP9, hS.F ht⟩) hS.2.2 d_M_comes_30
set_option maxHeartbeats 4000000 in
set_option maxRecDepth 100000 in
theorem c_M_makes (l : Launch) (dC : Nat → ClassId) (dI : Nat → Nat → Nat) (sz : Nat) (cI cZ : ClassId) (q : Nat → Nat) (S : St) (th : Int32) (t : Nat) (hI : Bd t S) (st kd n : Nat) (ho : S.2.1 4 < 80) : Met l y_M_makes (.code y_M_makes b_M_makes 4 none :: bg) { frames := 0, cells := 0, slots := 0, locals := 0 } (wr_P (dC, dI) classes (wM q cI cZ S th) [(cI, .int), (cZ, .boolean)] sz [.ref (q 0), .int (nI st), .int (nI kd), .int (nI n)]) (wr_Q (none) (dC, dI) classes (wM q cI cZ (addOrd S st kd n) th) (va_A (wM q cI cZ S th) sz)) 0 0 (va_A (wM q cI cZ S th) sz) := by
  refine Met.ofW (cc := b_M_makes) (maxL := 4) (ret := none) (by decide) rfl ?_
  intro p e s m args below meth c s₁ B hml hv
  obtain ⟨rfl, hsz, hP, hK, hD0⟩ := hv
  subst hsz
  have hD := hD0.self (sz := s.heap.size)
  generalize hAe : va_A (wM q cI cZ S th) s.heap.size = A at hD ⊢
  have hA : ∀ q : Nat, s.heap.size ≤ q → A q := fun q h => by rw [← hAe]; exact Or.inr h
  have hS : va_S A s.heap s.heap [] := va_S.rf
  have hx := B.exec
  have hb := B.bytes
  have hr := B.returns
  have hts := fun w (h : w ∈ bg) => atoms_spec (ws := .code y_M_makes b_M_makes 4 none :: bg) B.pre w (List.mem_cons_of_mem _ h)
  have hown : s.vm.findClass R_M = some m.cls := findClass_of_methodNamed B.named
  have hlocks := B.notSynchronized
  have hl := lv_entry ([.ref (q 0), .int (nI st), .int (nI kd), .int (nI n)]) (n := 4) (Nat.le_of_ble_eq_true rfl)
  rw [lg_entry_eq]
  generalize (lg_sl ([.ref (q 0), .int (nI st), .int (nI kd), .int (nI n)]) ++ List.replicate (4 - (lg_sl ([.ref (q 0), .int (nI st), .int (nI kd), .int (nI n)])).length) Slot.unset).toArray = ls at hl ⊢
  have hl : lv_has ls 4 [(0, .ref (q 0)), (1, .int (nI st)), (2, .int (nI kd)), (3, .int (nI n))] := hl
  have hB := hI.1
  have hg0 : S.2.1 0 ≤ 8 := hI.2.1 0
  have hg1 : S.2.1 1 ≤ 9999 := hI.2.1 1
  have hg2 : S.2.1 2 ≤ 60 := hI.2.1 2
  have hg3 : S.2.1 3 ≤ 60 := hI.2.1 3
  have hg4 : S.2.1 4 ≤ 80 := hI.2.1 4
  have hg5 : S.2.1 5 ≤ 20 := hI.2.1 5
  have hg6 : S.2.1 6 ≤ 80 := hI.2.1 6
  have hg7 : S.2.1 7 ≤ 10 := hI.2.1 7
  have hg8 : t ≤ 512 := hI.2.2
  refine lv_aload_n hx hb d_M_makes_0 rfl (lv_at hl 0 rfl) ?_
  refine va_get (D := (dC, dI)) (ci := 3) (v := .ref (q 15)) (C := R_M) (T := F_M) (N := 37) hx hb hts i_M hown hK hP 0 rfl rfl 20 (by decide) (hts _ wd_575) (fun _ h9 => h9) rfl d_M_makes_1 ?_
  refine lv_aload_n hx hb d_M_makes_4 rfl (lv_at hl 0 rfl) ?_
  refine va_get (D := (dC, dI)) (ci := 3) (v := .int (nI (S.2.1 4))) (C := R_M) (T := F_M) (N := 37) hx hb hts i_M hown hK hP 0 rfl rfl 19 (by decide) (hts _ wd_574) (fun _ h9 => h9) rfl d_M_makes_5 ?_
  refine lv_iload_n hx hb d_M_makes_8 rfl (lv_at hl 1 rfl) ?_
  refine nv_iast (f' := upd (colf S.1 10) (S.2.1 4) (nI st)) hx hb hK hP hD hS 15 0 rfl rfl (by omega) (by decide) rfl (wM q cI cZ (S_a S 10 (S.2.1 4) st) th) wM_c10 d_M_makes_9 (fun H locs hP hD hS => ?_)
  refine lv_aload_n hx hb d_M_makes_10 rfl (lv_at hl 0 rfl) ?_
  refine va_get (D := (dC, dI)) (ci := 3) (v := .ref (q 16)) (C := R_M) (T := F_M) (N := 37) hx hb hts i_M hown hK hP 0 rfl rfl 21 (by decide) (hts _ wd_576) (fun _ h9 => h9) rfl d_M_makes_11 ?_
  refine lv_aload_n hx hb d_M_makes_14 rfl (lv_at hl 0 rfl) ?_
  refine va_get (D := (dC, dI)) (ci := 3) (v := .int (nI (S.2.1 4))) (C := R_M) (T := F_M) (N := 37) hx hb hts i_M hown hK hP 0 rfl rfl 19 (by decide) (hts _ wd_574) (fun _ h9 => h9) rfl d_M_makes_15 ?_
  refine lv_iload_n hx hb d_M_makes_18 rfl (lv_at hl 2 rfl) ?_
  refine nv_iast (f' := upd (colf (S_a S 10 (S.2.1 4) st).1 11) (S.2.1 4) (nI kd)) hx hb hK hP hD hS 16 0 rfl rfl (by omega) (by decide) rfl (wM q cI cZ (S_a (S_a S 10 (S.2.1 4) st) 11 (S.2.1 4) kd) th) wM_c11 d_M_makes_19 (fun H locs hP hD hS => ?_)
  refine lv_aload_n hx hb d_M_makes_20 rfl (lv_at hl 0 rfl) ?_
  refine va_get (D := (dC, dI)) (ci := 3) (v := .ref (q 17)) (C := R_M) (T := F_M) (N := 37) hx hb hts i_M hown hK hP 0 rfl rfl 22 (by decide) (hts _ wd_577) (fun _ h9 => h9) rfl d_M_makes_21 ?_
  refine lv_aload_n hx hb d_M_makes_24 rfl (lv_at hl 0 rfl) ?_
  refine va_get (D := (dC, dI)) (ci := 3) (v := .int (nI (S.2.1 4))) (C := R_M) (T := F_M) (N := 37) hx hb hts i_M hown hK hP 0 rfl rfl 19 (by decide) (hts _ wd_574) (fun _ h9 => h9) rfl d_M_makes_25 ?_
  refine lv_iload_n hx hb d_M_makes_28 rfl (lv_at hl 3 rfl) ?_
  refine nv_iast (f' := upd (colf (S_a (S_a S 10 (S.2.1 4) st) 11 (S.2.1 4) kd).1 12) (S.2.1 4) (nI n)) hx hb hK hP hD hS 17 0 rfl rfl (by omega) (by decide) rfl (wM q cI cZ (S_a (S_a (S_a S 10 (S.2.1 4) st) 11 (S.2.1 4) kd) 12 (S.2.1 4) n) th) wM_c12 d_M_makes_29 (fun H locs hP hD hS => ?_)
  refine lv_aload_n hx hb d_M_makes_30 rfl (lv_at hl 0 rfl) ?_
  refine va_get (D := (dC, dI)) (ci := 3) (v := .ref (q 18)) (C := R_M) (T := F_M) (N := 37) hx hb hts i_M hown hK hP 0 rfl rfl 23 (by decide) (hts _ wd_578) (fun _ h9 => h9) rfl d_M_makes_31 ?_
  refine lv_aload_n hx hb d_M_makes_34 rfl (lv_at hl 0 rfl) ?_
  refine va_get (D := (dC, dI)) (ci := 3) (v := .int (nI (S.2.1 4))) (C := R_M) (T := F_M) (N := 37) hx hb hts i_M hown hK hP 0 rfl rfl 19 (by decide) (hts _ wd_574) (fun _ h9 => h9) rfl d_M_makes_35 ?_
  refine lv_aload_n hx hb d_M_makes_38 rfl (lv_at hl 0 rfl) ?_
  refine va_get (D := (dC, dI)) (ci := 3) (v := .int (nI (S.2.1 1))) (C := R_M) (T := F_M) (N := 37) hx hb hts i_M hown hK hP 0 rfl rfl 1 (by decide) (hts _ wd_556) (fun _ h9 => h9) rfl d_M_makes_39 ?_
  refine nv_iast (f' := upd (colf (S_a (S_a (S_a S 10 (S.2.1 4) st) 11 (S.2.1 4) kd) 12 (S.2.1 4) n).1 13) (S.2.1 4) (nI (S.2.1 1))) hx hb hK hP hD hS 18 0 rfl rfl (by omega) (by decide) rfl (wM q cI cZ (S_a (S_a (S_a (S_a S 10 (S.2.1 4) st) 11 (S.2.1 4) kd) 12 (S.2.1 4) n) 13 (S.2.1 4) (S.2.1 1)) th) wM_c13 d_M_makes_42 (fun H locs hP hD hS => ?_)
  refine lv_aload_n hx hb d_M_makes_43 rfl (lv_at hl 0 rfl) ?_
  refine va_get (D := (dC, dI)) (ci := 3) (v := .ref (q 19)) (C := R_M) (T := F_M) (N := 37) hx hb hts i_M hown hK hP 0 rfl rfl 24 (by decide) (hts _ wd_579) (fun _ h9 => h9) rfl d_M_makes_44 ?_
  refine lv_aload_n hx hb d_M_makes_47 rfl (lv_at hl 0 rfl) ?_
  refine va_get (D := (dC, dI)) (ci := 3) (v := .int (nI (S.2.1 4))) (C := R_M) (T := F_M) (N := 37) hx hb hts i_M hown hK hP 0 rfl rfl 19 (by decide) (hts _ wd_574) (fun _ h9 => h9) rfl d_M_makes_48 ?_
  refine lv_iconst (v := nI 1) hx hb d_M_makes_51 (by decide) ?_
  refine nv_zast (f' := upd (colf (S_a (S_a (S_a (S_a S 10 (S.2.1 4) st) 11 (S.2.1 4) kd) 12 (S.2.1 4) n) 13 (S.2.1 4) (S.2.1 1)).1 14) (S.2.1 4) (nI 1)) hx hb hK hP hD hS 19 1 rfl rfl (by omega) (by decide) (by decide) rfl (wM q cI cZ (S_a (S_a (S_a (S_a (S_a S 10 (S.2.1 4) st) 11 (S.2.1 4) kd) 12 (S.2.1 4) n) 13 (S.2.1 4) (S.2.1 1)) 14 (S.2.1 4) 1) th) wM_c14 d_M_makes_52 (fun H locs hP hD hS => ?_)
  refine lv_aload_n hx hb d_M_makes_53 rfl (lv_at hl 0 rfl) ?_
  refine lv_dup hx hb d_M_makes_54 rfl ?_
  refine va_get (D := (dC, dI)) (ci := 3) (v := .int (nI (S.2.1 4))) (C := R_M) (T := F_M) (N := 37) hx hb hts i_M hown hK hP 0 rfl rfl 19 (by decide) (hts _ wd_574) (fun _ h9 => h9) rfl d_M_makes_55 ?_
  refine lv_iconst (v := nI 1) hx hb d_M_makes_58 (by decide) ?_
  refine nv_add hx hb d_M_makes_59 ?_
  refine va_put (D := (dC, dI)) (ci := 3) (v := .int (nI ((S.2.1 4) + 1))) (ty := .int) (C := R_M) (T := F_M) (N := 37) hx hb hts i_M ty_M ty_M_ok n_M hown hK hP hD hS 0 rfl rfl 19 (by decide) (hts _ wd_574) (fun _ h9 => h9) rfl (by decide +kernel) rfl rfl (Nat.le_of_ble_eq_true rfl) d_M_makes_60 (fun H locs hP hD hS => ?_)
  have hP : va_P (dC, dI) classes (wM q cI cZ (S_g (S_a (S_a (S_a (S_a (S_a S 10 (S.2.1 4) st) 11 (S.2.1 4) kd) 12 (S.2.1 4) n) 13 (S.2.1 4) (S.2.1 1)) 14 (S.2.1 4) 1) 4 ((S.2.1 4) + 1)) th) H := by rw [← wM_g4]; exact hP
  have hD : va_D A (wM q cI cZ (S_g (S_a (S_a (S_a (S_a (S_a S 10 (S.2.1 4) st) 11 (S.2.1 4) kd) 12 (S.2.1 4) n) 13 (S.2.1 4) (S.2.1 1)) 14 (S.2.1 4) 1) 4 ((S.2.1 4) + 1)) th) := by rw [← wM_g4]; exact hD
  have hP9 : va_P (dC, dI) classes (wM q cI cZ (addOrd S st kd n) th) H := hP
  exact W.vret hx hb hr (fun t ht hW => ⟨rfl, by rw [ht]; exact hP9, hS.F ht⟩) hS.2.2 d_M_makes_63
set_option maxHeartbeats 4000000 in
set_option maxRecDepth 100000 in
theorem c_M_takes (l : Launch) (dC : Nat → ClassId) (dI : Nat → Nat → Nat) (sz : Nat) (cI cZ : ClassId) (q : Nat → Nat) (S : St) (th : Int32) (t : Nat) (hI : Bd t S) (st kd n : Nat) (hs : st < S.2.1 0) (hk : kd < 10) (hn : n ≤ 9999) (hou : ∀ j, S.1 2 j + n ≤ 9999 * t) (hgd : n ≤ good S st kd) : Met l y_M_takes (.code y_M_takes b_M_takes 7 none :: bg) { frames := 3, cells := 0, slots := 0, locals := 65 } (wr_P (dC, dI) classes (wM q cI cZ S th) [(cI, .int), (cZ, .boolean)] sz [.ref (q 0), .int (nI st), .int (nI kd), .int (nI n)]) (wr_Q (none) (dC, dI) classes (wM q cI cZ (tk st kd 60 S n) th) (va_A (wM q cI cZ S th) sz)) 0 0 (va_A (wM q cI cZ S th) sz) := by
  refine Met.ofW (cc := b_M_takes) (maxL := 7) (ret := none) (by decide) rfl ?_
  intro p e s m args below meth c s₁ B hml hv
  obtain ⟨rfl, hsz, hP, hK, hD0⟩ := hv
  subst hsz
  have hD := hD0.self (sz := s.heap.size)
  generalize hAe : va_A (wM q cI cZ S th) s.heap.size = A at hD ⊢
  have hA : ∀ q : Nat, s.heap.size ≤ q → A q := fun q h => by rw [← hAe]; exact Or.inr h
  have hS : va_S A s.heap s.heap [] := va_S.rf
  have hx := B.exec
  have hb := B.bytes
  have hr := B.returns
  have hts := fun w (h : w ∈ bg) => atoms_spec (ws := .code y_M_takes b_M_takes 7 none :: bg) B.pre w (List.mem_cons_of_mem _ h)
  have hown : s.vm.findClass R_M = some m.cls := findClass_of_methodNamed B.named
  have hlocks := B.notSynchronized
  have hl := lv_entry ([.ref (q 0), .int (nI st), .int (nI kd), .int (nI n)]) (n := 7) (Nat.le_of_ble_eq_true rfl)
  rw [lg_entry_eq]
  generalize (lg_sl ([.ref (q 0), .int (nI st), .int (nI kd), .int (nI n)]) ++ List.replicate (7 - (lg_sl ([.ref (q 0), .int (nI st), .int (nI kd), .int (nI n)])).length) Slot.unset).toArray = ls at hl ⊢
  have hl : lv_has ls 7 [(0, .ref (q 0)), (1, .int (nI st)), (2, .int (nI kd)), (3, .int (nI n))] := hl
  have hB := hI.1
  have hg0 : S.2.1 0 ≤ 8 := hI.2.1 0
  have hg1 : S.2.1 1 ≤ 9999 := hI.2.1 1
  have hg2 : S.2.1 2 ≤ 60 := hI.2.1 2
  have hg3 : S.2.1 3 ≤ 60 := hI.2.1 3
  have hg4 : S.2.1 4 ≤ 80 := hI.2.1 4
  have hg5 : S.2.1 5 ≤ 20 := hI.2.1 5
  have hg6 : S.2.1 6 ≤ 80 := hI.2.1 6
  have hg7 : S.2.1 7 ≤ 10 := hI.2.1 7
  have hg8 : t ≤ 512 := hI.2.2
  refine lv_iload_n hx hb d_M_takes_0 rfl (lv_at hl 3 rfl) ?_
  refine lv_istore (lv' := [(4, .int (nI n)), (0, .ref (q 0)), (1, .int (nI st)), (2, .int (nI kd)), (3, .int (nI n))]) hx hb d_M_takes_1 hl (by decide) rfl (fun ls hl => ?_)
  have LP3 : ∀ (fua : Nat) (nd : Nat) (f : Nat) (T : St) (H : Heap) (locs : List Loc), nd < fua → (tk st kd f T nd = tk st kd 60 S n) → (Bd t T) → (∀ j, T.1 2 j + nd ≤ 9999 * t) → (nd ≤ n) → (nd ≤ good T st kd) → (nd = 0 ∨ cntT T st kd ≤ f) → (T.2 = S.2) → va_P (dC, dI) classes (wM q cI cZ T th) H → va_D A (wM q cI cZ T th) → va_S A s.heap H locs → ∀ ls : Array Slot, lv_has ls 7 [(4, .int (nI nd)), (0, .ref (q 0)), (1, .int (nI st)), (2, .int (nI kd)), (3, .int (nI n))] → W p l e (headSpec (.code y_M_takes b_M_takes 7 none :: bg) { frames := 3, cells := 0, slots := 0, locals := 65 }).room s m (List.toArray [.ref (q 0), .int (nI st), .int (nI kd), .int (nI n)]) below meth c H locs 0 0 (MQ below (wr_Q (none) (dC, dI) classes (wM q cI cZ (tk st kd 60 S n) th) A) (List.toArray [.ref (q 0), .int (nI st), .int (nI kd), .int (nI n)]) s 0 0 A) (F0 m 3 ls []) := by
    intro fua
    induction fua with
    | zero => intro nd f T H locs h; exact absurd h (Nat.not_lt_zero _)
    | succ fua iha =>
      intro nd f T H locs hfua hha0 hha1 hha2 hha3 hha4 hha5 hha6 hP hD hS ls hl
      have hIT := hha1
      have hBT := hIT.1
      have hg0 : T.2.1 0 ≤ 8 := hIT.2.1 0
      have hg1 : T.2.1 1 ≤ 9999 := hIT.2.1 1
      have hg2 : T.2.1 2 ≤ 60 := hIT.2.1 2
      have hg3 : T.2.1 3 ≤ 60 := hIT.2.1 3
      have hg4 : T.2.1 4 ≤ 80 := hIT.2.1 4
      have hg5 : T.2.1 5 ≤ 20 := hIT.2.1 5
      have hg6 : T.2.1 6 ≤ 80 := hIT.2.1 6
      have hg7 : T.2.1 7 ≤ 10 := hIT.2.1 7
      have hg8 : t ≤ 512 := hIT.2.2
      have hst : st < T.2.1 0 := by rw [hha6]; exact hs
      refine lv_iload hx hb d_M_takes_3 (lv_at hl 0 rfl) ?_
      refine nv_zle (tgt := 185) hx hb (by omega) d_M_takes_5 (by decide) (fun c5 => ?_) (fun c5 => ?_)
      · have hP9 : va_P (dC, dI) classes (wM q cI cZ (tk st kd 60 S n) th) H := by rw [c5, tk_0] at hha0; rw [← hha0]; exact hP
        exact W.vret hx hb hr (fun t ht hW => ⟨rfl, by rw [ht]; exact hP9, hS.F ht⟩) hS.2.2 d_M_takes_185
      · refine lv_iconst (v := (-1)) hx hb d_M_takes_8 (by decide) ?_
        refine lv_istore (lv' := [(5, .int (-1)), (4, .int (nI nd)), (0, .ref (q 0)), (1, .int (nI st)), (2, .int (nI kd)), (3, .int (nI n))]) hx hb d_M_takes_9 hl (by decide) rfl (fun ls hl => ?_)
        refine lv_iconst (v := nI 0) hx hb d_M_takes_11 (by decide) ?_
        refine lv_istore (lv' := [(6, .int (nI 0)), (5, .int (-1)), (4, .int (nI nd)), (0, .ref (q 0)), (1, .int (nI st)), (2, .int (nI kd)), (3, .int (nI n))]) hx hb d_M_takes_12 hl (by decide) rfl (fun ls hl => ?_)
        have LP14 : ∀ (fub i : Nat), T.2.1 2 - i < fub → i ≤ T.2.1 2 → ∀ ls : Array Slot, lv_has ls 7 [(6, .int (nI i)), (5, .int (o2 (bst T st kd i))), (4, .int (nI nd)), (0, .ref (q 0)), (1, .int (nI st)), (2, .int (nI kd)), (3, .int (nI n))] → W p l e (headSpec (.code y_M_takes b_M_takes 7 none :: bg) { frames := 3, cells := 0, slots := 0, locals := 65 }).room s m (List.toArray [.ref (q 0), .int (nI st), .int (nI kd), .int (nI n)]) below meth c H locs 0 0 (MQ below (wr_Q (none) (dC, dI) classes (wM q cI cZ (tk st kd 60 S n) th) A) (List.toArray [.ref (q 0), .int (nI st), .int (nI kd), .int (nI n)]) s 0 0 A) (F0 m 14 ls []) := by
          intro fub
          induction fub with
          | zero => intro i h; exact absurd h (Nat.not_lt_zero _)
          | succ fub ihb =>
            intro i hfub hib ls hl
            refine lv_iload hx hb d_M_takes_14 (lv_at hl 0 rfl) ?_
            refine lv_aload_n hx hb d_M_takes_16 rfl (lv_at hl 3 rfl) ?_
            refine va_get (D := (dC, dI)) (ci := 3) (v := .int (nI (T.2.1 2))) (C := R_M) (T := F_M) (N := 37) hx hb hts i_M hown hK hP 0 rfl rfl 3 (by decide) (hts _ wd_558) (fun _ h9 => h9) rfl d_M_takes_17 ?_
            refine nv_cge (tgt := 122) hx hb (by omega) (by omega) d_M_takes_20 (by decide) (fun c20 => ?_) (fun c20 => ?_)
            · obtain rfl : i = T.2.1 2 := by omega
              obtain ⟨b, hbb⟩ := good_some (Nat.lt_of_lt_of_le c5 hha4)
              have hlb := bst_lt hbb
              have hl : lv_has ls 7 [(6, .int (nI (T.2.1 2))), (5, .int (nI b)), (4, .int (nI nd)), (0, .ref (q 0)), (1, .int (nI st)), (2, .int (nI kd)), (3, .int (nI n))] := by rw [hbb] at hl; exact hl
              refine lv_iload hx hb d_M_takes_122 (lv_at hl 2 rfl) ?_
              refine lv_aload_n hx hb d_M_takes_124 rfl (lv_at hl 3 rfl) ?_
              refine lv_iload_n hx hb d_M_takes_125 rfl (lv_at hl 4 rfl) ?_
              refine lv_iload hx hb d_M_takes_126 (lv_at hl 1 rfl) ?_
              refine pu_go (va_runV (As := [.int (nI st), .int (nI b)]) (rest := [.int (nI nd)]) ⟨hx, hb, hml, hown, hts⟩ (c_M_at l dC dI cI cZ q T th t hIT (nI st) (nI b)) (cwV 2 hts (gi_V wd_705 wd_707 wp_25 wd_5 wd_708) rfl rfl rfl (by decide +kernel) ⟨Nat.le_of_ble_eq_true rfl, Nat.le_of_ble_eq_true rfl⟩) (pu_preV hK hP (ci := 3) (q0 := 0) rfl rfl) rfl rfl hl.1 rfl (lv_room (Nat.le_of_ble_eq_true rfl)) d_M_takes_128 ⟨Nat.le_of_ble_eq_true rfl, Nat.le_of_ble_eq_true rfl⟩) ?_
              refine nv_as (nI (T.1 25 (st * 60 + b))) (atv_n (by omega) (by omega) (by omega) (by omega)) ?_
              have hb1 : T.1 25 (st * 60 + b) ≤ 9999 := hBT 25 _
              refine pu_go (va_runS (As := [.int (nI nd), .int (nI (T.1 25 (st * 60 + b)))]) (rest := []) ⟨hx, hb, hml, hown, hts⟩ (c_M_lesser l dC dI nd (T.1 25 (st * 60 + b)) (by omega) (by omega)) (cwS 2 hts (gi_S wd_717 wd_718 wd_5 wd_719) rfl rfl rfl (by decide +kernel) ⟨Nat.le_of_ble_eq_true rfl, Nat.le_of_ble_eq_true rfl⟩) (pu_preS (hK.sub (tys' := []) [] rfl) (fun k q h => by simp at h)) rfl rfl hl.1 rfl (lv_room (Nat.le_of_ble_eq_true rfl)) d_M_takes_131 ⟨Nat.le_of_ble_eq_true rfl, Nat.le_of_ble_eq_true rfl⟩) ?_
              obtain ⟨p, hp⟩ : ∃ z : Nat, z = min nd (T.1 25 (st * 60 + b)) := ⟨_, rfl⟩
              have hp1 : p ≤ nd := by rw [hp]; exact Nat.min_le_left _ _
              have hp2 : p ≤ T.1 25 (st * 60 + b) := by rw [hp]; exact Nat.min_le_right _ _
              have hp3 : 0 < p := by rw [hp]; exact Nat.lt_min.mpr ⟨c5, (tkb_of (bst_tk hbb)).2.2⟩
              obtain ⟨f', hf', hgq, hcq⟩ := tk_turn hbb hp hha4 hha5 c5
              rw [← hp]
              refine lv_istore (lv' := [(6, .int (nI p)), (5, .int (nI b)), (4, .int (nI nd)), (0, .ref (q 0)), (1, .int (nI st)), (2, .int (nI kd)), (3, .int (nI n))]) hx hb d_M_takes_134 hl (by decide) rfl (fun ls hl => ?_)
              refine lv_aload_n hx hb d_M_takes_136 rfl (lv_at hl 3 rfl) ?_
              refine va_get (D := (dC, dI)) (ci := 3) (v := .ref (q 6)) (C := R_M) (T := F_M) (N := 37) hx hb hts i_M hown hK hP 0 rfl rfl 9 (by decide) (hts _ wd_564) (fun _ h9 => h9) rfl d_M_takes_137 ?_
              refine lv_iload_n hx hb d_M_takes_140 rfl (lv_at hl 4 rfl) ?_
              refine lv_bipush (v := nI 60) hx hb d_M_takes_141 (by decide) ?_
              refine nv_mul hx hb d_M_takes_143 ?_
              refine lv_iload hx hb d_M_takes_144 (lv_at hl 1 rfl) ?_
              refine nv_add hx hb d_M_takes_146 ?_
              refine lv_aload_n hx hb d_M_takes_147 rfl (lv_at hl 3 rfl) ?_
              refine lv_iload_n hx hb d_M_takes_148 rfl (lv_at hl 4 rfl) ?_
              refine lv_iload hx hb d_M_takes_149 (lv_at hl 1 rfl) ?_
              refine pu_go (va_runV (As := [.int (nI st), .int (nI b)]) (rest := [.int (nI ((st * 60) + b)), .ref (q 6)]) ⟨hx, hb, hml, hown, hts⟩ (c_M_at l dC dI cI cZ q T th t hIT (nI st) (nI b)) (cwV 2 hts (gi_V wd_705 wd_707 wp_25 wd_5 wd_708) rfl rfl rfl (by decide +kernel) ⟨Nat.le_of_ble_eq_true rfl, Nat.le_of_ble_eq_true rfl⟩) (pu_preV hK hP (ci := 3) (q0 := 0) rfl rfl) rfl rfl hl.1 rfl (lv_room (Nat.le_of_ble_eq_true rfl)) d_M_takes_151 ⟨Nat.le_of_ble_eq_true rfl, Nat.le_of_ble_eq_true rfl⟩) ?_
              refine nv_as (nI (T.1 25 (st * 60 + b))) (atv_n (by omega) (by omega) (by omega) (by omega)) ?_
              have hb2 : T.1 25 (st * 60 + b) ≤ 9999 := hBT 25 _
              refine lv_iload hx hb d_M_takes_154 (lv_at hl 0 rfl) ?_
              refine nv_sub hx hb (by omega) d_M_takes_156 ?_
              refine nv_iast (f' := upd (colf T.1 25) ((st * 60) + b) (nI ((T.1 25 (st * 60 + b)) - p))) hx hb hK hP hD hS 6 0 rfl rfl (by omega) (by decide) rfl (wM q cI cZ (S_a T 25 ((st * 60) + b) ((T.1 25 (st * 60 + b)) - p)) th) wM_c25 d_M_takes_157 (fun H locs hP hD hS => ?_)
              obtain ⟨T1, hT1⟩ : ∃ z : St, z = S_a T 25 ((st * 60) + b) ((T.1 25 (st * 60 + b)) - p) := ⟨_, rfl⟩
              rw [← hT1] at hP hD
              have hIT1 : Bd t T1 := by rw [hT1]; exact Bd_a hIT (show _ ≤ 9999 by omega)
              have hBT1 := hIT1.1
              have hg0 : T1.2.1 0 ≤ 8 := hIT1.2.1 0
              have hg1 : T1.2.1 1 ≤ 9999 := hIT1.2.1 1
              have hg2 : T1.2.1 2 ≤ 60 := hIT1.2.1 2
              have hg3 : T1.2.1 3 ≤ 60 := hIT1.2.1 3
              have hg4 : T1.2.1 4 ≤ 80 := hIT1.2.1 4
              have hg5 : T1.2.1 5 ≤ 20 := hIT1.2.1 5
              have hg6 : T1.2.1 6 ≤ 80 := hIT1.2.1 6
              have hg7 : T1.2.1 7 ≤ 10 := hIT1.2.1 7
              have hg8 : t ≤ 512 := hIT1.2.2
              have hou1 : T1.1 2 b = T.1 2 b := by rw [hT1]; rfl
              refine lv_aload_n hx hb d_M_takes_158 rfl (lv_at hl 3 rfl) ?_
              refine va_get (D := (dC, dI)) (ci := 3) (v := .ref (q 3)) (C := R_M) (T := F_M) (N := 37) hx hb hts i_M hown hK hP 0 rfl rfl 6 (by decide) (hts _ wd_561) (fun _ h9 => h9) rfl d_M_takes_159 ?_
              refine lv_iload hx hb d_M_takes_162 (lv_at hl 1 rfl) ?_
              refine lv_aload_n hx hb d_M_takes_164 rfl (lv_at hl 3 rfl) ?_
              refine va_get (D := (dC, dI)) (ci := 3) (v := .ref (q 3)) (C := R_M) (T := F_M) (N := 37) hx hb hts i_M hown hK hP 0 rfl rfl 6 (by decide) (hts _ wd_561) (fun _ h9 => h9) rfl d_M_takes_165 ?_
              refine lv_iload hx hb d_M_takes_168 (lv_at hl 1 rfl) ?_
              refine nv_iald (v := nI (T1.1 2 b)) hx hb hK hP 3 0 rfl rfl (by omega) (by decide) rfl d_M_takes_170 ?_
              have hb3 : T1.1 2 b ≤ 9999 * t := hBT1 2 _
              refine lv_iload hx hb d_M_takes_171 (lv_at hl 0 rfl) ?_
              refine nv_add hx hb d_M_takes_173 ?_
              refine nv_iast (f' := upd (colf T1.1 2) b (nI ((T1.1 2 b) + p))) hx hb hK hP hD hS 3 0 rfl rfl (by omega) (by decide) rfl (wM q cI cZ (S_a T1 2 b ((T1.1 2 b) + p)) th) wM_c2 d_M_takes_174 (fun H locs hP hD hS => ?_)
              obtain ⟨T2, hT2⟩ : ∃ z : St, z = S_a T1 2 b ((T1.1 2 b) + p) := ⟨_, rfl⟩
              rw [← hT2] at hP hD
              have hIT2 : Bd t T2 := by rw [hT2]; exact Bd_a hIT1 (show _ ≤ 9999 * t by have := hha2 b; omega)
              have hBT2 := hIT2.1
              have hg0 : T2.2.1 0 ≤ 8 := hIT2.2.1 0
              have hg1 : T2.2.1 1 ≤ 9999 := hIT2.2.1 1
              have hg2 : T2.2.1 2 ≤ 60 := hIT2.2.1 2
              have hg3 : T2.2.1 3 ≤ 60 := hIT2.2.1 3
              have hg4 : T2.2.1 4 ≤ 80 := hIT2.2.1 4
              have hg5 : T2.2.1 5 ≤ 20 := hIT2.2.1 5
              have hg6 : T2.2.1 6 ≤ 80 := hIT2.2.1 6
              have hg7 : T2.2.1 7 ≤ 10 := hIT2.2.1 7
              have hg8 : t ≤ 512 := hIT2.2.2
              have hTT : T2 = takeOf T st b p := by rw [hT2, hT1]; rw [← hT1, hou1, hT1]; rfl
              refine lv_iload hx hb d_M_takes_175 (lv_at hl 2 rfl) ?_
              refine lv_iload hx hb d_M_takes_177 (lv_at hl 0 rfl) ?_
              refine nv_sub hx hb (by omega) d_M_takes_179 ?_
              refine lv_istore (lv' := [(4, .int (nI (nd - p))), (6, .int (nI p)), (5, .int (nI b)), (0, .ref (q 0)), (1, .int (nI st)), (2, .int (nI kd)), (3, .int (nI n))]) hx hb d_M_takes_180 hl (by decide) rfl (fun ls hl => ?_)
              refine lv_goto (tgt := 3) hx hb d_M_takes_182 (by decide) ?_
              exact iha (nd - p) f' T2 _ _ (by omega) (by rw [← hha0, hf', tk_s c5 hbb, ← hp, ← hTT]) hIT2 (by rw [hTT]; exact out_takeOf hha2 hp1) (by omega) (by rw [hTT]; exact hgq) (by rw [hTT]; exact hcq) (by rw [hTT]; exact hha6) hP hD hS ls (lv_sub hl [0, 3, 4, 5, 6] (rfl))
            · refine lv_aload_n hx hb d_M_takes_23 rfl (lv_at hl 3 rfl) ?_
              refine va_get (D := (dC, dI)) (ci := 3) (v := .ref (q 1)) (C := R_M) (T := F_M) (N := 37) hx hb hts i_M hown hK hP 0 rfl rfl 4 (by decide) (hts _ wd_559) (fun _ h9 => h9) rfl d_M_takes_24 ?_
              refine lv_iload hx hb d_M_takes_27 (lv_at hl 0 rfl) ?_
              refine nv_iald (v := nI (T.1 0 i)) hx hb hK hP 1 0 rfl rfl (by omega) (by decide) rfl d_M_takes_29 ?_
              have hb4 : T.1 0 i ≤ 9 := hBT 0 _
              refine lv_iload_n hx hb d_M_takes_30 rfl (lv_at hl 5 rfl) ?_
              refine nv_cne (tgt := 116) hx hb (by omega) (by omega) d_M_takes_31 (by decide) (fun c31 => ?_) (fun c31 => ?_)
              · refine lv_iinc (v := nI (i + 1)) (lv' := [(6, .int (nI (i + 1))), (5, .int (o2 (bst T st kd i))), (4, .int (nI nd)), (0, .ref (q 0)), (1, .int (nI st)), (2, .int (nI kd)), (3, .int (nI n))]) hx hb d_M_takes_116 hl (k := 0) rfl (nI_1 _) (by decide) rfl (fun ls hl => ?_)
                refine lv_goto (tgt := 14) hx hb d_M_takes_119 (by decide) ?_
                exact ihb (i + 1) (by omega) (by omega) ls (lv_sub hl [0, 1, 2, 3, 4, 5, 6] (by rw [bst_no (tkb_n (fun h => c31 h.1))]; rfl))
              · refine lv_aload_n hx hb d_M_takes_34 rfl (lv_at hl 3 rfl) ?_
                refine lv_iload hx hb d_M_takes_35 (lv_at hl 0 rfl) ?_
                refine pu_go (va_runV (As := [.int (nI i)]) (rest := []) ⟨hx, hb, hml, hown, hts⟩ (c_M_isGood l dC dI cI cZ q T th t hIT i (by omega)) (cwV 1 hts (gi_V wd_728 wd_730 wp_28 wd_5 wd_731) rfl rfl rfl (by decide +kernel) ⟨Nat.le_of_ble_eq_true rfl, Nat.le_of_ble_eq_true rfl⟩) (pu_preV hK hP (ci := 3) (q0 := 0) rfl rfl) rfl rfl hl.1 rfl (lv_room (Nat.le_of_ble_eq_true rfl)) d_M_takes_37 ⟨Nat.le_of_ble_eq_true rfl, Nat.le_of_ble_eq_true rfl⟩) ?_
                refine nv_bz (tgt := 116) hx hb d_M_takes_40 (by decide) (fun c40 => ?_) (fun c40 => ?_)
                · refine lv_iinc (v := nI (i + 1)) (lv' := [(6, .int (nI (i + 1))), (5, .int (o2 (bst T st kd i))), (4, .int (nI nd)), (0, .ref (q 0)), (1, .int (nI st)), (2, .int (nI kd)), (3, .int (nI n))]) hx hb d_M_takes_116 hl (k := 0) rfl (nI_1 _) (by decide) rfl (fun ls hl => ?_)
                  refine lv_goto (tgt := 14) hx hb d_M_takes_119 (by decide) ?_
                  exact ihb (i + 1) (by omega) (by omega) ls (lv_sub hl [0, 1, 2, 3, 4, 5, 6] (by rw [bst_no (tkb_n (fun h => (of_decide_eq_false c40) h.2.1))]; rfl))
                · refine lv_aload_n hx hb d_M_takes_43 rfl (lv_at hl 3 rfl) ?_
                  refine lv_iload_n hx hb d_M_takes_44 rfl (lv_at hl 4 rfl) ?_
                  refine lv_iload hx hb d_M_takes_45 (lv_at hl 0 rfl) ?_
                  refine pu_go (va_runV (As := [.int (nI st), .int (nI i)]) (rest := []) ⟨hx, hb, hml, hown, hts⟩ (c_M_at l dC dI cI cZ q T th t hIT (nI st) (nI i)) (cwV 2 hts (gi_V wd_705 wd_707 wp_25 wd_5 wd_708) rfl rfl rfl (by decide +kernel) ⟨Nat.le_of_ble_eq_true rfl, Nat.le_of_ble_eq_true rfl⟩) (pu_preV hK hP (ci := 3) (q0 := 0) rfl rfl) rfl rfl hl.1 rfl (lv_room (Nat.le_of_ble_eq_true rfl)) d_M_takes_47 ⟨Nat.le_of_ble_eq_true rfl, Nat.le_of_ble_eq_true rfl⟩) ?_
                  refine nv_as (nI (T.1 25 (st * 60 + i))) (atv_n (by omega) (by omega) (by omega) (by omega)) ?_
                  have hb5 : T.1 25 (st * 60 + i) ≤ 9999 := hBT 25 _
                  refine nv_zne (tgt := 56) hx hb (by omega) d_M_takes_50 (by decide) (fun c50 => ?_) (fun c50 => ?_)
                  · refine lv_iload hx hb d_M_takes_56 (lv_at hl 1 rfl) ?_
                    refine lv_if_lt (tgt := 112) hx hb d_M_takes_58 (by decide) (fun c58 => ?_) (fun c58 => ?_)
                    · have hno := o2_none c58 (fun b hb => by have := bst_lt hb; omega)
                      refine lv_iload hx hb d_M_takes_112 (lv_at hl 0 rfl) ?_
                      refine lv_istore (lv' := [(5, .int (nI i)), (6, .int (nI i)), (4, .int (nI nd)), (0, .ref (q 0)), (1, .int (nI st)), (2, .int (nI kd)), (3, .int (nI n))]) hx hb d_M_takes_114 hl (by decide) rfl (fun ls hl => ?_)
                      refine lv_iinc (v := nI (i + 1)) (lv' := [(6, .int (nI (i + 1))), (5, .int (nI i)), (4, .int (nI nd)), (0, .ref (q 0)), (1, .int (nI st)), (2, .int (nI kd)), (3, .int (nI n))]) hx hb d_M_takes_116 hl (k := 1) rfl (nI_1 _) (by decide) rfl (fun ls hl => ?_)
                      refine lv_goto (tgt := 14) hx hb d_M_takes_119 (by decide) ?_
                      exact ihb (i + 1) (by omega) (by omega) ls (lv_sub hl [0, 1, 2, 3, 4, 5, 6] (by rw [bst_first (tkb_y c31 (of_decide_eq_true c40) c50) hno]; rfl))
                    · obtain ⟨b, hbb⟩ := o2_some c58
                      have hlb := bst_lt hbb
                      have hl : lv_has ls 7 [(6, .int (nI i)), (5, .int (nI b)), (4, .int (nI nd)), (0, .ref (q 0)), (1, .int (nI st)), (2, .int (nI kd)), (3, .int (nI n))] := by rw [hbb] at hl; exact hl
                      refine lv_aload_n hx hb d_M_takes_61 rfl (lv_at hl 3 rfl) ?_
                      refine va_get (D := (dC, dI)) (ci := 3) (v := .ref (q 2)) (C := R_M) (T := F_M) (N := 37) hx hb hts i_M hown hK hP 0 rfl rfl 5 (by decide) (hts _ wd_560) (fun _ h9 => h9) rfl d_M_takes_62 ?_
                      refine lv_iload hx hb d_M_takes_65 (lv_at hl 0 rfl) ?_
                      refine nv_iald (v := nI (T.1 1 i)) hx hb hK hP 2 0 rfl rfl (by omega) (by decide) rfl d_M_takes_67 ?_
                      have hb6 : T.1 1 i ≤ 9999 := hBT 1 _
                      refine lv_aload_n hx hb d_M_takes_68 rfl (lv_at hl 3 rfl) ?_
                      refine va_get (D := (dC, dI)) (ci := 3) (v := .ref (q 2)) (C := R_M) (T := F_M) (N := 37) hx hb hts i_M hown hK hP 0 rfl rfl 5 (by decide) (hts _ wd_560) (fun _ h9 => h9) rfl d_M_takes_69 ?_
                      refine lv_iload hx hb d_M_takes_72 (lv_at hl 1 rfl) ?_
                      refine nv_iald (v := nI (T.1 1 b)) hx hb hK hP 2 0 rfl rfl (by omega) (by decide) rfl d_M_takes_74 ?_
                      have hb7 : T.1 1 b ≤ 9999 := hBT 1 _
                      refine nv_clt (tgt := 112) hx hb (by omega) (by omega) d_M_takes_75 (by decide) (fun c75 => ?_) (fun c75 => ?_)
                      · refine lv_iload hx hb d_M_takes_112 (lv_at hl 0 rfl) ?_
                        refine lv_istore (lv' := [(5, .int (nI i)), (6, .int (nI i)), (4, .int (nI nd)), (0, .ref (q 0)), (1, .int (nI st)), (2, .int (nI kd)), (3, .int (nI n))]) hx hb d_M_takes_114 hl (by decide) rfl (fun ls hl => ?_)
                        refine lv_iinc (v := nI (i + 1)) (lv' := [(6, .int (nI (i + 1))), (5, .int (nI i)), (4, .int (nI nd)), (0, .ref (q 0)), (1, .int (nI st)), (2, .int (nI kd)), (3, .int (nI n))]) hx hb d_M_takes_116 hl (k := 1) rfl (nI_1 _) (by decide) rfl (fun ls hl => ?_)
                        refine lv_goto (tgt := 14) hx hb d_M_takes_119 (by decide) ?_
                        exact ihb (i + 1) (by omega) (by omega) ls (lv_sub hl [0, 1, 2, 3, 4, 5, 6] (by rw [bst_new (tkb_y c31 (of_decide_eq_true c40) c50) hbb (by simp only [before, if_pos (Nat.ne_of_lt c75), decide_eq_true c75])]; rfl))
                      · refine lv_aload_n hx hb d_M_takes_78 rfl (lv_at hl 3 rfl) ?_
                        refine va_get (D := (dC, dI)) (ci := 3) (v := .ref (q 2)) (C := R_M) (T := F_M) (N := 37) hx hb hts i_M hown hK hP 0 rfl rfl 5 (by decide) (hts _ wd_560) (fun _ h9 => h9) rfl d_M_takes_79 ?_
                        refine lv_iload hx hb d_M_takes_82 (lv_at hl 0 rfl) ?_
                        refine nv_iald (v := nI (T.1 1 i)) hx hb hK hP 2 0 rfl rfl (by omega) (by decide) rfl d_M_takes_84 ?_
                        have hb8 : T.1 1 i ≤ 9999 := hBT 1 _
                        refine lv_aload_n hx hb d_M_takes_85 rfl (lv_at hl 3 rfl) ?_
                        refine va_get (D := (dC, dI)) (ci := 3) (v := .ref (q 2)) (C := R_M) (T := F_M) (N := 37) hx hb hts i_M hown hK hP 0 rfl rfl 5 (by decide) (hts _ wd_560) (fun _ h9 => h9) rfl d_M_takes_86 ?_
                        refine lv_iload hx hb d_M_takes_89 (lv_at hl 1 rfl) ?_
                        refine nv_iald (v := nI (T.1 1 b)) hx hb hK hP 2 0 rfl rfl (by omega) (by decide) rfl d_M_takes_91 ?_
                        have hb9 : T.1 1 b ≤ 9999 := hBT 1 _
                        refine nv_cne (tgt := 116) hx hb (by omega) (by omega) d_M_takes_92 (by decide) (fun c92 => ?_) (fun c92 => ?_)
                        · refine lv_iinc (v := nI (i + 1)) (lv' := [(6, .int (nI (i + 1))), (5, .int (nI b)), (4, .int (nI nd)), (0, .ref (q 0)), (1, .int (nI st)), (2, .int (nI kd)), (3, .int (nI n))]) hx hb d_M_takes_116 hl (k := 0) rfl (nI_1 _) (by decide) rfl (fun ls hl => ?_)
                          refine lv_goto (tgt := 14) hx hb d_M_takes_119 (by decide) ?_
                          exact ihb (i + 1) (by omega) (by omega) ls (lv_sub hl [0, 1, 2, 3, 4, 5, 6] (by rw [bst_keep (tkb_y c31 (of_decide_eq_true c40) c50) hbb (by simp only [before, if_pos c92, decide_eq_false (Nat.not_lt.mpr c75)])]; rfl))
                        · refine lv_aload_n hx hb d_M_takes_95 rfl (lv_at hl 3 rfl) ?_
                          refine lv_iload_n hx hb d_M_takes_96 rfl (lv_at hl 4 rfl) ?_
                          refine lv_iload hx hb d_M_takes_97 (lv_at hl 0 rfl) ?_
                          refine pu_go (va_runV (As := [.int (nI st), .int (nI i)]) (rest := []) ⟨hx, hb, hml, hown, hts⟩ (c_M_at l dC dI cI cZ q T th t hIT (nI st) (nI i)) (cwV 2 hts (gi_V wd_705 wd_707 wp_25 wd_5 wd_708) rfl rfl rfl (by decide +kernel) ⟨Nat.le_of_ble_eq_true rfl, Nat.le_of_ble_eq_true rfl⟩) (pu_preV hK hP (ci := 3) (q0 := 0) rfl rfl) rfl rfl hl.1 rfl (lv_room (Nat.le_of_ble_eq_true rfl)) d_M_takes_99 ⟨Nat.le_of_ble_eq_true rfl, Nat.le_of_ble_eq_true rfl⟩) ?_
                          refine nv_as (nI (T.1 25 (st * 60 + i))) (atv_n (by omega) (by omega) (by omega) (by omega)) ?_
                          have hb10 : T.1 25 (st * 60 + i) ≤ 9999 := hBT 25 _
                          refine lv_aload_n hx hb d_M_takes_102 rfl (lv_at hl 3 rfl) ?_
                          refine lv_iload_n hx hb d_M_takes_103 rfl (lv_at hl 4 rfl) ?_
                          refine lv_iload hx hb d_M_takes_104 (lv_at hl 1 rfl) ?_
                          refine pu_go (va_runV (As := [.int (nI st), .int (nI b)]) (rest := [.int (nI (T.1 25 (st * 60 + i)))]) ⟨hx, hb, hml, hown, hts⟩ (c_M_at l dC dI cI cZ q T th t hIT (nI st) (nI b)) (cwV 2 hts (gi_V wd_705 wd_707 wp_25 wd_5 wd_708) rfl rfl rfl (by decide +kernel) ⟨Nat.le_of_ble_eq_true rfl, Nat.le_of_ble_eq_true rfl⟩) (pu_preV hK hP (ci := 3) (q0 := 0) rfl rfl) rfl rfl hl.1 rfl (lv_room (Nat.le_of_ble_eq_true rfl)) d_M_takes_106 ⟨Nat.le_of_ble_eq_true rfl, Nat.le_of_ble_eq_true rfl⟩) ?_
                          refine nv_as (nI (T.1 25 (st * 60 + b))) (atv_n (by omega) (by omega) (by omega) (by omega)) ?_
                          have hb11 : T.1 25 (st * 60 + b) ≤ 9999 := hBT 25 _
                          refine nv_cge (tgt := 116) hx hb (by omega) (by omega) d_M_takes_109 (by decide) (fun c109 => ?_) (fun c109 => ?_)
                          · refine lv_iinc (v := nI (i + 1)) (lv' := [(6, .int (nI (i + 1))), (5, .int (nI b)), (4, .int (nI nd)), (0, .ref (q 0)), (1, .int (nI st)), (2, .int (nI kd)), (3, .int (nI n))]) hx hb d_M_takes_116 hl (k := 0) rfl (nI_1 _) (by decide) rfl (fun ls hl => ?_)
                            refine lv_goto (tgt := 14) hx hb d_M_takes_119 (by decide) ?_
                            exact ihb (i + 1) (by omega) (by omega) ls (lv_sub hl [0, 1, 2, 3, 4, 5, 6] (by rw [bst_keep (tkb_y c31 (of_decide_eq_true c40) c50) hbb (by simp only [before, if_neg (show ¬ T.1 1 i ≠ T.1 1 b from fun h => h c92), decide_eq_false (Nat.not_lt.mpr c109)])]; rfl))
                          · refine lv_iload hx hb d_M_takes_112 (lv_at hl 0 rfl) ?_
                            refine lv_istore (lv' := [(5, .int (nI i)), (6, .int (nI i)), (4, .int (nI nd)), (0, .ref (q 0)), (1, .int (nI st)), (2, .int (nI kd)), (3, .int (nI n))]) hx hb d_M_takes_114 hl (by decide) rfl (fun ls hl => ?_)
                            refine lv_iinc (v := nI (i + 1)) (lv' := [(6, .int (nI (i + 1))), (5, .int (nI i)), (4, .int (nI nd)), (0, .ref (q 0)), (1, .int (nI st)), (2, .int (nI kd)), (3, .int (nI n))]) hx hb d_M_takes_116 hl (k := 1) rfl (nI_1 _) (by decide) rfl (fun ls hl => ?_)
                            refine lv_goto (tgt := 14) hx hb d_M_takes_119 (by decide) ?_
                            exact ihb (i + 1) (by omega) (by omega) ls (lv_sub hl [0, 1, 2, 3, 4, 5, 6] (by rw [bst_new (tkb_y c31 (of_decide_eq_true c40) c50) hbb (by simp only [before, if_neg (show ¬ T.1 1 i ≠ T.1 1 b from fun h => h c92), decide_eq_true c109])]; rfl))
                  · refine lv_goto (tgt := 116) hx hb d_M_takes_53 (by decide) ?_
                    refine lv_iinc (v := nI (i + 1)) (lv' := [(6, .int (nI (i + 1))), (5, .int (o2 (bst T st kd i))), (4, .int (nI nd)), (0, .ref (q 0)), (1, .int (nI st)), (2, .int (nI kd)), (3, .int (nI n))]) hx hb d_M_takes_116 hl (k := 0) rfl (nI_1 _) (by decide) rfl (fun ls hl => ?_)
                    refine lv_goto (tgt := 14) hx hb d_M_takes_119 (by decide) ?_
                    exact ihb (i + 1) (by omega) (by omega) ls (lv_sub hl [0, 1, 2, 3, 4, 5, 6] (by rw [bst_no (tkb_n (fun h => h.2.2 c50))]; rfl))
        exact LP14 (T.2.1 2 + 1) 0 (by omega) (by omega) ls (lv_sub hl [0, 1, 2, 3, 4, 5, 6] rfl)
  exact LP3 (n + 1) n 60 S _ _ (Nat.lt_succ_self _) rfl hI hou (Nat.le_refl _) hgd (Or.inr (cntT_le hI _ _)) rfl hP hD hS ls (lv_sub hl [0, 1, 2, 3, 4] (rfl))
