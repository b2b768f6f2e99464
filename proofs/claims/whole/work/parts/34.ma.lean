theorem and2 {a b : Bool} (h : (a && b) = true) : a = true ∧ b = true := by cases a <;> cases b <;> first | exact ⟨rfl, rfl⟩ | exact absurd h (by decide)
theorem of_f {a b : Nat} {S : St} (h : a = b) : ((a, 0, S) : Op) = (b, 0, S) := by rw [h]
theorem S_a_id {S : St} {k j v : Nat} (h : S.1 k j = v) : S_a S k j v = S := by
  refine Prod.ext (funext fun k1 => funext fun j1 => ?_) rfl
  show aU S.1 k j v k1 j1 = S.1 k1 j1
  by_cases hk : k1 = k
  · subst hk
    by_cases hj : j1 = j
    · subst hj; rw [aU_s, h]
    · rw [aU_e hj]
  · rw [aU_n hk]
theorem S_a_comm {S : St} {k j v k1 j1 v1 : Nat} (h : k ≠ k1) : S_a (S_a S k j v) k1 j1 v1 = S_a (S_a S k1 j1 v1) k j v := by
  refine Prod.ext (funext fun k2 => funext fun j2 => ?_) rfl
  show aU (aU S.1 k j v) k1 j1 v1 k2 j2 = aU (aU S.1 k1 j1 v1) k j v k2 j2
  simp only [aU, va_up]
  by_cases h1 : k2 = k
  · by_cases h2 : k2 = k1
    · exact absurd (h1.symm.trans h2) h
    · simp [h1, h]
  · by_cases h2 : k2 = k1
    · simp [h2, Ne.symm h]
    · simp [h1, h2]
theorem S_a_two {S : St} {k j v v1 : Nat} : S_a (S_a S k j v) k j v1 = S_a S k j v1 := by
  refine Prod.ext (funext fun k2 => funext fun j2 => ?_) rfl
  show aU (aU S.1 k j v) k j v1 k2 j2 = aU S.1 k j v1 k2 j2
  simp only [aU, va_up]
  by_cases h1 : k2 = k
  · by_cases h2 : j2 = j <;> simp [h1, h2, va_up]
  · simp [h1]
theorem g8 : gth (nI 8) 1 = 0 ∧ gth (nI 8) 2 = 0 ∧ gth (nI 8) 4 = 0 ∧ gth (nI 8) 8 = 1 := by decide
theorem g11 : gth (nI 11) 1 = 1 ∧ gth (nI 11) 2 = 2 ∧ gth (nI 11) 4 = 2 ∧ gth (nI 11) 8 = 3 := by decide
theorem g15 : gth (nI 15) 1 = 1 ∧ gth (nI 15) 2 = 2 ∧ gth (nI 15) 4 = 3 ∧ gth (nI 15) 8 = 4 := by decide
theorem g7 : gth (nI 7) 1 = 1 ∧ gth (nI 7) 2 = 2 ∧ gth (nI 7) 4 = 3 ∧ gth (nI 7) 8 = 3 := by decide
theorem g1 : gth (nI 1) 1 = 1 ∧ gth (nI 1) 2 = 1 ∧ gth (nI 1) 4 = 1 ∧ gth (nI 1) 8 = 1 := by decide
theorem g3 : gth (nI 3) 1 = 1 ∧ gth (nI 3) 2 = 2 ∧ gth (nI 3) 4 = 2 ∧ gth (nI 3) 8 = 2 := by decide
theorem g5 : gth (nI 5) 1 = 1 ∧ gth (nI 5) 2 = 1 ∧ gth (nI 5) 4 = 2 ∧ gth (nI 5) 8 = 2 := by decide
theorem g13 : gth (nI 13) 1 = 1 ∧ gth (nI 13) 2 = 1 ∧ gth (nI 13) 4 = 2 ∧ gth (nI 13) 8 = 3 := by decide
theorem g14 : gth (nI 14) 1 = 0 ∧ gth (nI 14) 2 = 1 ∧ gth (nI 14) 4 = 2 ∧ gth (nI 14) 8 = 3 := by decide
theorem g2 : gth (nI 2) 1 = 0 ∧ gth (nI 2) 2 = 1 ∧ gth (nI 2) 4 = 1 ∧ gth (nI 2) 8 = 1 := by decide
theorem bring_o {S : St} {t : Nat} (hI : Bd t S) {x y n : Int32} (h1 : ok x (S.2.1 0) = true) (h2 : ok y (S.2.1 2) = true) (h3 : rg n 1 9999 = true) : (!decide (nI 9999 < atv S x y + n)) = decide (S.1 25 (nn x * 60 + nn y) + nn n ≤ 9999) := by
  obtain ⟨e, l1, l2⟩ := rg_of h3
  have hb : S.1 25 (nn x * 60 + nn y) ≤ 9999 := hI.1 25 _
  have h4 : atv S x y + n = nI (S.1 25 (nn x * 60 + nn y) + nn n) := by
    rw [← nI_add, ← e]
    simp only [atv, h1, h2]
    rfl
  rw [h4]
  by_cases h : S.1 25 (nn x * 60 + nn y) + nn n ≤ 9999
  · rw [decide_eq_true h, decide_eq_false (fun z => absurd ((nI_ltI (by decide) (by omega)).mp z) (Nat.not_lt.mpr h))]; rfl
  · rw [decide_eq_false h, decide_eq_true ((nI_ltI (by decide) (by omega)).mpr (Nat.not_le.mp h))]; rfl
theorem at_o {S : St} {t : Nat} (hI : Bd t S) {x y n : Int32} {hi : Nat} (h1 : ok x (S.2.1 0) = true) (h2 : ok y (S.2.1 2) = true) (h3 : rg n 1 9999 = true) : (!decide (atv S x y < n)) = decide (nn n ≤ S.1 25 (nn x * 60 + nn y)) := by
  obtain ⟨e, l1, l2⟩ := rg_of h3
  have hb : S.1 25 (nn x * 60 + nn y) ≤ 9999 := hI.1 25 _
  have h4 : atv S x y = nI (S.1 25 (nn x * 60 + nn y)) := by
    simp only [atv, h1, h2]
    rfl
  rw [h4]
  by_cases h : nn n ≤ S.1 25 (nn x * 60 + nn y)
  · rw [decide_eq_true h, decide_eq_false (fun z => absurd ((nI_ltI (by omega) (by omega)).mp (e ▸ z)) (Nat.not_lt.mpr h))]; rfl
  · rw [decide_eq_false h, decide_eq_true (by rw [e]; exact (nI_ltI (by omega) (by omega)).mpr (Nat.not_le.mp h))]; rfl
theorem atv_t {S : St} {x y : Int32} (h1 : ok x (S.2.1 0) = true) (h2 : ok y (S.2.1 2) = true) : atv S x y = nI (S.1 25 (nn x * 60 + nn y)) := by
  simp only [atv, h1, h2]
  rfl
theorem n_lt {a : Nat} {n : Int32} {lo hi : Nat} (h3 : rg n lo hi = true) (ha : a < 2 ^ 31) (hh : hi < 2 ^ 31) : (!decide (nI a < n)) = decide (nn n ≤ a) := by
  obtain ⟨e, l1, l2⟩ := rg_of h3
  by_cases h : nn n ≤ a
  · rw [decide_eq_true h, decide_eq_false (fun z => absurd ((nI_ltI ha (by omega)).mp (e ▸ z)) (Nat.not_lt.mpr h))]; rfl
  · rw [decide_eq_false h, decide_eq_true (by rw [e]; exact (nI_ltI ha (by omega)).mpr (Nat.not_le.mp h))]; rfl
theorem lot_row {S : St} {i a b : Nat} (h : S.1 2 i = 0 ∧ S.1 3 i = 0 ∧ S.1 4 i = 0) : S_row S 0 i a b 0 0 0 = S_a (S_a S 0 i a) 1 i b := by
  unfold S_row
  rw [S_a_id (k := 0 + 2) (j := i) (v := 0) (S := S_a (S_a S 0 i a) (0 + 1) i b) h.1, S_a_id (k := 0 + 3) (j := i) (v := 0) (S := S_a (S_a S 0 i a) (0 + 1) i b) h.2.1, S_a_id (k := 0 + 4) (j := i) (v := 0) (S := S_a (S_a S 0 i a) (0 + 1) i b) h.2.2]
theorem rowd_any {a : Nat → Nat → Nat} {z : Nat → Int32} {i c : Nat} (h : c < 5) : rowd a z (5 * i + c) = if c = 2 then z i else nI (a (20 + c) i) := by
  have h1 : (5 * i + c) % 5 = c := by omega
  have h3 : (5 * i + c) / 5 = i := by omega
  simp only [rowd, h1, h3]
theorem of_store {S : St} {t : Nat} (hI : Bd t S) (h : (true && (true && (true && (decide (S.2.1 0 < 8))))) = false) : op_store S = (gth (nI 8) (gbit true true true (decide (S.2.1 0 < 8))), 0, S) := by
  have h1 : ¬ S.2.1 0 < 8 := by simpa using h
  unfold op_store
  rw [if_neg h1, decide_eq_false h1]
  exact of_f g8.2.2.2.symm
theorem of_lot {S : St} {t : Nat} (hI : Bd t S) {x y : Int32} (h : ((ok x 10) && ((rg y 0 9999) && (true && (decide (S.2.1 2 < 60))))) = false) : op_lot S x y = (gth (nI 11) (gbit (ok x 10) (rg y 0 9999) true (decide (S.2.1 2 < 60))), 0, S) := by
  unfold op_lot
  cases h1 : ok x 10
  · exact of_f g11.1.symm
  cases h2 : rg y 0 9999
  · exact of_f g11.2.1.symm
  have h3 : ¬ S.2.1 2 < 60 := by simpa [h1, h2] using h
  rw [if_pos rfl, if_pos rfl, if_neg h3, decide_eq_false h3]
  exact of_f g11.2.2.2.symm
theorem of_bring {S : St} {t : Nat} (hI : Bd t S) {x y n : Int32} (h : ((ok x (S.2.1 0) && ok y (S.2.1 2)) && ((rg n 1 9999) && (true && (!decide (nI 9999 < atv S x y + n))))) = false) : op_bring S x y n = (gth (nI 11) (gbit (ok x (S.2.1 0) && ok y (S.2.1 2)) (rg n 1 9999) true (!decide (nI 9999 < atv S x y + n))), 0, S) := by
  unfold op_bring
  cases h1 : ok x (S.2.1 0)
  · exact of_f g11.1.symm
  cases h2 : ok y (S.2.1 2)
  · exact of_f g11.1.symm
  cases h3 : rg n 1 9999
  · exact of_f g11.2.1.symm
  rw [bring_o hI h1 h2 h3] at h ⊢
  have h4 : ¬ S.1 25 (nn x * 60 + nn y) + nn n ≤ 9999 := by simpa [h1, h2, h3] using h
  rw [if_pos rfl, if_pos rfl, if_pos rfl, if_neg h4, decide_eq_false h4]
  exact of_f g11.2.2.2.symm
theorem of_has {S : St} {t : Nat} (hI : Bd t S) {x y : Int32} (h : ((ok x (S.2.1 0) && ok y (S.2.1 2)) && (true && (true && true))) = false) : op_has S x y = (gth (nI 1) (gbit (ok x (S.2.1 0) && ok y (S.2.1 2)) true true true), 0, S) := by
  unfold op_has
  cases h1 : ok x (S.2.1 0)
  · exact of_f g1.1.symm
  cases h2 : ok y (S.2.1 2)
  · exact of_f g1.1.symm
  rw [h1, h2] at h; exact absurd h (by decide)
theorem of_kit {S : St} {t : Nat} (hI : Bd t S) {x y n : Int32} (h : ((rg x 0 4 && ok y 10) && ((rg n 0 20) && (true && true))) = false) : op_kit S x y n = (gth (nI 3) (gbit (rg x 0 4 && ok y 10) (rg n 0 20) true true), 0, S) := by
  rw [show rg x 0 4 = ok x 5 from rg_ok (n := 5) (by decide)] at h ⊢
  unfold op_kit
  cases h1 : ok x 5
  · exact of_f g3.1.symm
  cases h2 : ok y 10
  · exact of_f g3.1.symm
  cases h3 : rg n 0 20
  · exact of_f g3.2.1.symm
  rw [h1, h2, h3] at h; exact absurd h (by decide)
theorem of_order {S : St} {t : Nat} (hI : Bd t S) {x y : Int32} (h : ((ok x (S.2.1 4) && rg y 0 4) && (true && (true && true))) = false) : op_order S x y = (gth (nI 1) (gbit (ok x (S.2.1 4) && rg y 0 4) true true true), 0, S) := by
  rw [show rg y 0 4 = ok y 5 from rg_ok (n := 5) (by decide)] at h ⊢
  unfold op_order
  cases h1 : ok x (S.2.1 4)
  · exact of_f g1.1.symm
  cases h2 : ok y 5
  · exact of_f g1.1.symm
  rw [h1, h2] at h; exact absurd h (by decide)
theorem of_difference {S : St} {t : Nat} (hI : Bd t S) {x y : Int32} (h : ((ok x (S.2.1 6) && rg y 0 4) && (true && (true && true))) = false) : op_difference S x y = (gth (nI 1) (gbit (ok x (S.2.1 6) && rg y 0 4) true true true), 0, S) := by
  rw [show rg y 0 4 = ok y 5 from rg_ok (n := 5) (by decide)] at h ⊢
  unfold op_difference
  cases h1 : ok x (S.2.1 6)
  · exact of_f g1.1.symm
  cases h2 : ok y 5
  · exact of_f g1.1.symm
  rw [h1, h2] at h; exact absurd h (by decide)
set_option maxHeartbeats 4000000 in
set_option maxRecDepth 100000 in
theorem c_M_store (l : Launch) (dC : Nat → ClassId) (dI : Nat → Nat → Nat) (sz : Nat) (cI cZ : ClassId) (q : Nat → Nat) (S : St) (th : Int32) (t : Nat) (hI : Bd t S) (hV : Inv t S)  : Met l y_M_store (.code y_M_store b_M_store 1 (some .int) :: bg) { frames := 1, cells := 0, slots := 0, locals := 27 } (wr_P (dC, dI) classes (wM q cI cZ S th) [(cI, .int), (cZ, .boolean)] sz [.ref (q 0)]) (wr_Q (some (.int ((op_store S).2.1))) (dC, dI) classes (wM q cI cZ ((op_store S).2.2) (nI (op_store S).1)) (va_A (wM q cI cZ S th) sz)) 0 0 (va_A (wM q cI cZ S th) sz) := by
  refine Met.ofW (cc := b_M_store) (maxL := 1) (ret := (some .int)) (by decide) rfl ?_
  intro p e s m args below meth c s₁ B hml hv
  obtain ⟨rfl, hsz, hP, hK, hD0⟩ := hv
  subst hsz
  have hD := hD0.self (sz := s.heap.size)
  generalize hAe : va_A (wM q cI cZ S th) s.heap.size = A at hD ⊢
  have hA : ∀ q : Nat, s.heap.size ≤ q → A q := fun q h => by rw [← hAe]; exact Or.inr h
  have hS : va_S A s.heap s.heap [] := va_S.rf
  have hx := B.exec
  have hb := B.bytes
  have hr := B.returns
  have hts := fun w (h : w ∈ bg) => atoms_spec (ws := .code y_M_store b_M_store 1 (some .int) :: bg) B.pre w (List.mem_cons_of_mem _ h)
  have hown : s.vm.findClass R_M = some m.cls := findClass_of_methodNamed B.named
  have hlocks := B.notSynchronized
  have hl := lv_entry ([.ref (q 0)]) (n := 1) (Nat.le_of_ble_eq_true rfl)
  rw [lg_entry_eq]
  generalize (lg_sl ([.ref (q 0)]) ++ List.replicate (1 - (lg_sl ([.ref (q 0)])).length) Slot.unset).toArray = ls at hl ⊢
  have hl : lv_has ls 1 [(0, .ref (q 0))] := hl
  have hB := hI.1
  have hg0 : S.2.1 0 ≤ 8 := hI.2.1 0
  have hg1 : S.2.1 1 ≤ 9999 := hI.2.1 1
  have hg2 : S.2.1 2 ≤ 60 := hI.2.1 2
  have hg3 : S.2.1 3 ≤ 60 := hI.2.1 3
  have hg4 : S.2.1 4 ≤ 80 := hI.2.1 4
  have hg5 : S.2.1 5 ≤ 20 := hI.2.1 5
  have hg6 : S.2.1 6 ≤ 80 := hI.2.1 6
  have hg7 : S.2.1 7 ≤ 10 := hI.2.1 7
  have hg8 : t ≤ 512 := hI.2.2
  refine lv_aload_n hx hb d_M_store_0 rfl (lv_at hl 0 rfl) ?_
  refine lv_bipush (v := nI 8) hx hb d_M_store_1 (by decide) ?_
  refine lv_iconst (v := b2 true) hx hb d_M_store_3 (by decide) ?_
  refine lv_iconst (v := b2 true) hx hb d_M_store_4 (by decide) ?_
  refine lv_iconst (v := b2 true) hx hb d_M_store_5 (by decide) ?_
  have J20 : W p l e (headSpec (.code y_M_store b_M_store 1 (some .int) :: bg) { frames := 1, cells := 0, slots := 0, locals := 27 }).room s m (List.toArray [.ref (q 0)]) below meth c s.heap [] 0 0 (MQ below (wr_Q (some (.int ((op_store S).2.1))) (dC, dI) classes (wM q cI cZ ((op_store S).2.2) (nI (op_store S).1)) A) (List.toArray [.ref (q 0)]) s 0 0 A) (F0 m 20 ls [.int (b2 (decide (S.2.1 0 < 8))), .int (b2 true), .int (b2 true), .int (b2 true), .int (nI 8), .ref (q 0)]) := by
    refine wr_goA (va_runV (As := [.int (nI 8), .int (b2 true), .int (b2 true), .int (b2 true), .int (b2 (decide (S.2.1 0 < 8)))]) (rest := []) ⟨hx, hb, hml, hown, hts⟩ (c_M_goes l dC dI s.heap.size cI cZ q S th t hI (nI 8) true true true (decide (S.2.1 0 < 8))) (cwV 5 hts (gi_V wd_676 wd_678 wp_22 wd_5 wd_679) rfl rfl rfl (by decide +kernel) ⟨Nat.le_of_ble_eq_true rfl, Nat.le_of_ble_eq_true rfl⟩) (wr_preV hK hP hD (ci := 3) (q0 := 0) rfl rfl) rfl rfl hl.1 rfl (lv_room (Nat.le_of_ble_eq_true rfl)) d_M_store_20 ⟨Nat.le_of_ble_eq_true rfl, Nat.le_of_ble_eq_true rfl⟩) hD hS hA wM_adr (fun H locs hP hD hS => ?_)
    refine W.eq (g2 := F0 m 23 ls [.int (b2 (true && (true && (true && (decide (S.2.1 0 < 8))))))]) rfl ?_
    refine nv_bn (tgt := 28) hx hb d_M_store_23 (by decide) (fun c23 => ?_) (fun c23 => ?_)
    · obtain ⟨k0, r0, t0, o0⟩ := and4 c23
      have hP : va_P (dC, dI) classes (wM q cI cZ S (nI 0)) H := by rw [gz c23] at hP; exact hP
      have hD : va_D A (wM q cI cZ S (nI 0)) := by rw [gz c23] at hD; exact hD
      have o1 := of_decide_eq_true o0
      have hl : lv_has ls 1 [(0, .ref (q 0))] := by rw []; exact hl
      refine lv_aload_n hx hb d_M_store_28 rfl (lv_at hl 0 rfl) ?_
      refine lv_dup hx hb d_M_store_29 rfl ?_
      refine va_get (D := (dC, dI)) (ci := 3) (v := .int (nI (S.2.1 0))) (C := R_M) (T := F_M) (N := 37) hx hb hts i_M hown hK hP 0 rfl rfl 2 (by decide) (hts _ wd_557) (fun _ h9 => h9) rfl d_M_store_30 ?_
      refine lv_iconst (v := nI 1) hx hb d_M_store_33 (by decide) ?_
      refine nv_add hx hb d_M_store_34 ?_
      refine va_put (D := (dC, dI)) (ci := 3) (v := .int (nI ((S.2.1 0) + 1))) (ty := .int) (C := R_M) (T := F_M) (N := 37) hx hb hts i_M ty_M ty_M_ok n_M hown hK hP hD hS 0 rfl rfl 2 (by decide) (hts _ wd_557) (fun _ h9 => h9) rfl (by decide +kernel) rfl rfl (Nat.le_of_ble_eq_true rfl) d_M_store_35 (fun H locs hP hD hS => ?_)
      have hP : va_P (dC, dI) classes (wM q cI cZ (S_g S 0 ((S.2.1 0) + 1)) (nI 0)) H := by rw [← wM_g0]; exact hP
      have hD : va_D A (wM q cI cZ (S_g S 0 ((S.2.1 0) + 1)) (nI 0)) := by rw [← wM_g0]; exact hD
      refine lv_aload_n hx hb d_M_store_38 rfl (lv_at hl 0 rfl) ?_
      refine va_get (D := (dC, dI)) (ci := 3) (v := .int (nI ((S.2.1 0) + 1))) (C := R_M) (T := F_M) (N := 37) hx hb hts i_M hown hK hP 0 rfl rfl 2 (by decide) (hts _ wd_557) (fun _ h9 => h9) rfl d_M_store_39 ?_
      refine lv_iconst (v := nI 1) hx hb d_M_store_42 (by decide) ?_
      refine nv_sub hx hb (by omega) d_M_store_43 ?_
      have ho : op_store S = (0, nI (S.2.1 0), S_g S 0 ((S.2.1 0) + 1)) := by unfold op_store; rw [if_pos o1]
      rw [ho]
      refine nv_as (nI (S.2.1 0)) (by rw [Nat.add_sub_cancel]) ?_
      have hP9 : va_P (dC, dI) classes (wM q cI cZ (S_g S 0 ((S.2.1 0) + 1)) (nI 0)) H := hP
      exact W.iret hx hb hr (fun t ht hW => ⟨rfl, by rw [ht]; exact hP9, hS.F ht⟩) hS.2.2 d_M_store_44
    · refine lv_iconst (v := nI 0) hx hb d_M_store_26 (by decide) ?_
      have ho : op_store S = ((gth (nI 8) (gbit true true true (decide (S.2.1 0 < 8)))), 0, S) := of_store hI c23
      rw [ho]
      refine nv_as (0) (by rfl) ?_
      have hP9 : va_P (dC, dI) classes (wM q cI cZ (S) (nI (gth (nI 8) (gbit true true true (decide (S.2.1 0 < 8)))))) H := hP
      exact W.iret hx hb hr (fun t ht hW => ⟨rfl, by rw [ht]; exact hP9, hS.F ht⟩) hS.2.2 d_M_store_27
  refine lv_aload_n hx hb d_M_store_6 rfl (lv_at hl 0 rfl) ?_
  refine va_get (D := (dC, dI)) (ci := 3) (v := .int (nI (S.2.1 0))) (C := R_M) (T := F_M) (N := 37) hx hb hts i_M hown hK hP 0 rfl rfl 2 (by decide) (hts _ wd_557) (fun _ h9 => h9) rfl d_M_store_7 ?_
  refine lv_bipush (v := nI 8) hx hb d_M_store_10 (by decide) ?_
  refine nv_cge (tgt := 19) hx hb (by omega) (by omega) d_M_store_12 (by decide) (fun c12 => ?_) (fun c12 => ?_)
  · refine lv_iconst (v := nI 0) hx hb d_M_store_19 (by decide) ?_
    refine nv_as (b2 (decide (S.2.1 0 < 8))) (b2_of0 (by simp [c12])) ?_
    exact J20
  · refine lv_iconst (v := nI 1) hx hb d_M_store_15 (by decide) ?_
    refine lv_goto (tgt := 20) hx hb d_M_store_16 (by decide) ?_
    refine nv_as (b2 (decide (S.2.1 0 < 8))) (b2_of1 (by simp [c12])) ?_
    exact J20
set_option maxHeartbeats 4000000 in
set_option maxRecDepth 100000 in
theorem c_M_lot (l : Launch) (dC : Nat → ClassId) (dI : Nat → Nat → Nat) (sz : Nat) (cI cZ : ClassId) (q : Nat → Nat) (S : St) (th : Int32) (t : Nat) (hI : Bd t S) (x y : Int32) (hV : Inv t S)  : Met l y_M_lot (.code y_M_lot b_M_lot 3 (some .int) :: bg) { frames := 2, cells := 0, slots := 0, locals := 42 } (wr_P (dC, dI) classes (wM q cI cZ S th) [(cI, .int), (cZ, .boolean)] sz [.ref (q 0), .int x, .int y]) (wr_Q (some (.int ((op_lot S x y).2.1))) (dC, dI) classes (wM q cI cZ ((op_lot S x y).2.2) (nI (op_lot S x y).1)) (va_A (wM q cI cZ S th) sz)) 0 0 (va_A (wM q cI cZ S th) sz) := by
  refine Met.ofW (cc := b_M_lot) (maxL := 3) (ret := (some .int)) (by decide) rfl ?_
  intro p e s m args below meth c s₁ B hml hv
  obtain ⟨rfl, hsz, hP, hK, hD0⟩ := hv
  subst hsz
  have hD := hD0.self (sz := s.heap.size)
  generalize hAe : va_A (wM q cI cZ S th) s.heap.size = A at hD ⊢
  have hA : ∀ q : Nat, s.heap.size ≤ q → A q := fun q h => by rw [← hAe]; exact Or.inr h
  have hS : va_S A s.heap s.heap [] := va_S.rf
  have hx := B.exec
  have hb := B.bytes
  have hr := B.returns
  have hts := fun w (h : w ∈ bg) => atoms_spec (ws := .code y_M_lot b_M_lot 3 (some .int) :: bg) B.pre w (List.mem_cons_of_mem _ h)
  have hown : s.vm.findClass R_M = some m.cls := findClass_of_methodNamed B.named
  have hlocks := B.notSynchronized
  have hl := lv_entry ([.ref (q 0), .int x, .int y]) (n := 3) (Nat.le_of_ble_eq_true rfl)
  rw [lg_entry_eq]
  generalize (lg_sl ([.ref (q 0), .int x, .int y]) ++ List.replicate (3 - (lg_sl ([.ref (q 0), .int x, .int y])).length) Slot.unset).toArray = ls at hl ⊢
  have hl : lv_has ls 3 [(0, .ref (q 0)), (1, .int x), (2, .int y)] := hl
  have hB := hI.1
  have hg0 : S.2.1 0 ≤ 8 := hI.2.1 0
  have hg1 : S.2.1 1 ≤ 9999 := hI.2.1 1
  have hg2 : S.2.1 2 ≤ 60 := hI.2.1 2
  have hg3 : S.2.1 3 ≤ 60 := hI.2.1 3
  have hg4 : S.2.1 4 ≤ 80 := hI.2.1 4
  have hg5 : S.2.1 5 ≤ 20 := hI.2.1 5
  have hg6 : S.2.1 6 ≤ 80 := hI.2.1 6
  have hg7 : S.2.1 7 ≤ 10 := hI.2.1 7
  have hg8 : t ≤ 512 := hI.2.2
  refine lv_aload_n hx hb d_M_lot_0 rfl (lv_at hl 0 rfl) ?_
  refine lv_bipush (v := nI 11) hx hb d_M_lot_1 (by decide) ?_
  refine lv_iload_n hx hb d_M_lot_3 rfl (lv_at hl 1 rfl) ?_
  refine pu_go (va_runS (As := [.int x]) (rest := [.int (nI 11), .ref (q 0)]) ⟨hx, hb, hml, hown, hts⟩ (c_M_isKind l dC dI x) (cwS 1 hts (gi_S wd_684 wd_685 wd_5 wd_686) rfl rfl rfl (by decide +kernel) ⟨Nat.le_of_ble_eq_true rfl, Nat.le_of_ble_eq_true rfl⟩) (pu_preS (hK.sub (tys' := []) [] rfl) (fun k q h => by simp at h)) rfl rfl hl.1 rfl (lv_room (Nat.le_of_ble_eq_true rfl)) d_M_lot_4 ⟨Nat.le_of_ble_eq_true rfl, Nat.le_of_ble_eq_true rfl⟩) ?_
  refine lv_iload_n hx hb d_M_lot_7 rfl (lv_at hl 2 rfl) ?_
  refine lv_iconst (v := nI 0) hx hb d_M_lot_8 (by decide) ?_
  refine lv_sipush (v := nI 9999) hx hb d_M_lot_9 (by decide) ?_
  refine pu_go (va_runS (As := [.int y, .int (nI 0), .int (nI 9999)]) (rest := [.int (b2 (ok x 10)), .int (nI 11), .ref (q 0)]) ⟨hx, hb, hml, hown, hts⟩ (c_M_in l dC dI y (nI 0) (nI 9999)) (cwS 3 hts (gi_S wd_687 wd_688 wd_5 wd_689) rfl rfl rfl (by decide +kernel) ⟨Nat.le_of_ble_eq_true rfl, Nat.le_of_ble_eq_true rfl⟩) (pu_preS (hK.sub (tys' := []) [] rfl) (fun k q h => by simp at h)) rfl rfl hl.1 rfl (lv_room (Nat.le_of_ble_eq_true rfl)) d_M_lot_12 ⟨Nat.le_of_ble_eq_true rfl, Nat.le_of_ble_eq_true rfl⟩) ?_
  refine nv_as (b2 (rg y 0 9999)) (congrArg b2 (in_rg (by decide) (by decide))) ?_
  refine lv_iconst (v := b2 true) hx hb d_M_lot_15 (by decide) ?_
  have J30 : W p l e (headSpec (.code y_M_lot b_M_lot 3 (some .int) :: bg) { frames := 2, cells := 0, slots := 0, locals := 42 }).room s m (List.toArray [.ref (q 0), .int x, .int y]) below meth c s.heap [] 0 0 (MQ below (wr_Q (some (.int ((op_lot S x y).2.1))) (dC, dI) classes (wM q cI cZ ((op_lot S x y).2.2) (nI (op_lot S x y).1)) A) (List.toArray [.ref (q 0), .int x, .int y]) s 0 0 A) (F0 m 30 ls [.int (b2 (decide (S.2.1 2 < 60))), .int (b2 true), .int (b2 (rg y 0 9999)), .int (b2 (ok x 10)), .int (nI 11), .ref (q 0)]) := by
    refine wr_goA (va_runV (As := [.int (nI 11), .int (b2 (ok x 10)), .int (b2 (rg y 0 9999)), .int (b2 true), .int (b2 (decide (S.2.1 2 < 60)))]) (rest := []) ⟨hx, hb, hml, hown, hts⟩ (c_M_goes l dC dI s.heap.size cI cZ q S th t hI (nI 11) (ok x 10) (rg y 0 9999) true (decide (S.2.1 2 < 60))) (cwV 5 hts (gi_V wd_676 wd_678 wp_22 wd_5 wd_679) rfl rfl rfl (by decide +kernel) ⟨Nat.le_of_ble_eq_true rfl, Nat.le_of_ble_eq_true rfl⟩) (wr_preV hK hP hD (ci := 3) (q0 := 0) rfl rfl) rfl rfl hl.1 rfl (lv_room (Nat.le_of_ble_eq_true rfl)) d_M_lot_30 ⟨Nat.le_of_ble_eq_true rfl, Nat.le_of_ble_eq_true rfl⟩) hD hS hA wM_adr (fun H locs hP hD hS => ?_)
    refine W.eq (g2 := F0 m 33 ls [.int (b2 ((ok x 10) && ((rg y 0 9999) && (true && (decide (S.2.1 2 < 60))))))]) rfl ?_
    refine nv_bn (tgt := 38) hx hb d_M_lot_33 (by decide) (fun c33 => ?_) (fun c33 => ?_)
    · obtain ⟨k0, r0, t0, o0⟩ := and4 c33
      have hP : va_P (dC, dI) classes (wM q cI cZ S (nI 0)) H := by rw [gz c33] at hP; exact hP
      have hD : va_D A (wM q cI cZ S (nI 0)) := by rw [gz c33] at hD; exact hD
      have o1 := of_decide_eq_true o0
      obtain ⟨e_x, b_x⟩ := ok_of k0
      obtain ⟨e_y, l_y, b_y⟩ := rg_of r0
      have hl : lv_has ls 3 [(0, .ref (q 0)), (1, .int (nI (nn x))), (2, .int (nI (nn y)))] := by rw [← e_x, ← e_y]; exact hl
      refine lv_aload_n hx hb d_M_lot_38 rfl (lv_at hl 0 rfl) ?_
      refine va_get (D := (dC, dI)) (ci := 3) (v := .ref (q 1)) (C := R_M) (T := F_M) (N := 37) hx hb hts i_M hown hK hP 0 rfl rfl 4 (by decide) (hts _ wd_559) (fun _ h9 => h9) rfl d_M_lot_39 ?_
      refine lv_aload_n hx hb d_M_lot_42 rfl (lv_at hl 0 rfl) ?_
      refine va_get (D := (dC, dI)) (ci := 3) (v := .int (nI (S.2.1 2))) (C := R_M) (T := F_M) (N := 37) hx hb hts i_M hown hK hP 0 rfl rfl 3 (by decide) (hts _ wd_558) (fun _ h9 => h9) rfl d_M_lot_43 ?_
      refine lv_iload_n hx hb d_M_lot_46 rfl (lv_at hl 1 rfl) ?_
      refine nv_iast (f' := upd (colf S.1 0) (S.2.1 2) (nI (nn x))) hx hb hK hP hD hS 1 0 rfl rfl (by omega) (by decide) rfl (wM q cI cZ (S_a S 0 (S.2.1 2) (nn x)) (nI 0)) wM_c0 d_M_lot_47 (fun H locs hP hD hS => ?_)
      refine lv_aload_n hx hb d_M_lot_48 rfl (lv_at hl 0 rfl) ?_
      refine va_get (D := (dC, dI)) (ci := 3) (v := .ref (q 2)) (C := R_M) (T := F_M) (N := 37) hx hb hts i_M hown hK hP 0 rfl rfl 5 (by decide) (hts _ wd_560) (fun _ h9 => h9) rfl d_M_lot_49 ?_
      refine lv_aload_n hx hb d_M_lot_52 rfl (lv_at hl 0 rfl) ?_
      refine va_get (D := (dC, dI)) (ci := 3) (v := .int (nI (S.2.1 2))) (C := R_M) (T := F_M) (N := 37) hx hb hts i_M hown hK hP 0 rfl rfl 3 (by decide) (hts _ wd_558) (fun _ h9 => h9) rfl d_M_lot_53 ?_
      refine lv_iload_n hx hb d_M_lot_56 rfl (lv_at hl 2 rfl) ?_
      refine nv_iast (f' := upd (colf (S_a S 0 (S.2.1 2) (nn x)).1 1) (S.2.1 2) (nI (nn y))) hx hb hK hP hD hS 2 0 rfl rfl (by omega) (by decide) rfl (wM q cI cZ (S_a (S_a S 0 (S.2.1 2) (nn x)) 1 (S.2.1 2) (nn y)) (nI 0)) wM_c1 d_M_lot_57 (fun H locs hP hD hS => ?_)
      refine lv_aload_n hx hb d_M_lot_58 rfl (lv_at hl 0 rfl) ?_
      refine lv_dup hx hb d_M_lot_59 rfl ?_
      refine va_get (D := (dC, dI)) (ci := 3) (v := .int (nI (S.2.1 2))) (C := R_M) (T := F_M) (N := 37) hx hb hts i_M hown hK hP 0 rfl rfl 3 (by decide) (hts _ wd_558) (fun _ h9 => h9) rfl d_M_lot_60 ?_
      refine lv_iconst (v := nI 1) hx hb d_M_lot_63 (by decide) ?_
      refine nv_add hx hb d_M_lot_64 ?_
      refine va_put (D := (dC, dI)) (ci := 3) (v := .int (nI ((S.2.1 2) + 1))) (ty := .int) (C := R_M) (T := F_M) (N := 37) hx hb hts i_M ty_M ty_M_ok n_M hown hK hP hD hS 0 rfl rfl 3 (by decide) (hts _ wd_558) (fun _ h9 => h9) rfl (by decide +kernel) rfl rfl (Nat.le_of_ble_eq_true rfl) d_M_lot_65 (fun H locs hP hD hS => ?_)
      have hP : va_P (dC, dI) classes (wM q cI cZ (S_g (S_a (S_a S 0 (S.2.1 2) (nn x)) 1 (S.2.1 2) (nn y)) 2 ((S.2.1 2) + 1)) (nI 0)) H := by rw [← wM_g2]; exact hP
      have hD : va_D A (wM q cI cZ (S_g (S_a (S_a S 0 (S.2.1 2) (nn x)) 1 (S.2.1 2) (nn y)) 2 ((S.2.1 2) + 1)) (nI 0)) := by rw [← wM_g2]; exact hD
      refine lv_aload_n hx hb d_M_lot_68 rfl (lv_at hl 0 rfl) ?_
      refine va_get (D := (dC, dI)) (ci := 3) (v := .int (nI ((S.2.1 2) + 1))) (C := R_M) (T := F_M) (N := 37) hx hb hts i_M hown hK hP 0 rfl rfl 3 (by decide) (hts _ wd_558) (fun _ h9 => h9) rfl d_M_lot_69 ?_
      refine lv_iconst (v := nI 1) hx hb d_M_lot_72 (by decide) ?_
      refine nv_sub hx hb (by omega) d_M_lot_73 ?_
      have ho : op_lot S x y = (0, nI (S.2.1 2), S_g (S_row S 0 (S.2.1 2) (nn x) (nn y) 0 0 0) 2 (S.2.1 2 + 1)) := by unfold op_lot; rw [if_pos k0, if_pos r0, if_pos o1]
      rw [ho]
      refine nv_as (nI (S.2.1 2)) (by rw [Nat.add_sub_cancel]) ?_
      have hP9 : va_P (dC, dI) classes (wM q cI cZ (S_g (S_row S 0 (S.2.1 2) (nn x) (nn y) 0 0 0) 2 (S.2.1 2 + 1)) (nI 0)) H := by rw [lot_row (hV.2.2.2.1 _ (Nat.le_refl _))]; exact hP
      exact W.iret hx hb hr (fun t ht hW => ⟨rfl, by rw [ht]; exact hP9, hS.F ht⟩) hS.2.2 d_M_lot_74
    · refine lv_iconst (v := nI 0) hx hb d_M_lot_36 (by decide) ?_
      have ho : op_lot S x y = ((gth (nI 11) (gbit (ok x 10) (rg y 0 9999) true (decide (S.2.1 2 < 60)))), 0, S) := of_lot hI c33
      rw [ho]
      refine nv_as (0) (by rfl) ?_
      have hP9 : va_P (dC, dI) classes (wM q cI cZ (S) (nI (gth (nI 11) (gbit (ok x 10) (rg y 0 9999) true (decide (S.2.1 2 < 60)))))) H := hP
      exact W.iret hx hb hr (fun t ht hW => ⟨rfl, by rw [ht]; exact hP9, hS.F ht⟩) hS.2.2 d_M_lot_37
  refine lv_aload_n hx hb d_M_lot_16 rfl (lv_at hl 0 rfl) ?_
  refine va_get (D := (dC, dI)) (ci := 3) (v := .int (nI (S.2.1 2))) (C := R_M) (T := F_M) (N := 37) hx hb hts i_M hown hK hP 0 rfl rfl 3 (by decide) (hts _ wd_558) (fun _ h9 => h9) rfl d_M_lot_17 ?_
  refine lv_bipush (v := nI 60) hx hb d_M_lot_20 (by decide) ?_
  refine nv_cge (tgt := 29) hx hb (by omega) (by omega) d_M_lot_22 (by decide) (fun c22 => ?_) (fun c22 => ?_)
  · refine lv_iconst (v := nI 0) hx hb d_M_lot_29 (by decide) ?_
    refine nv_as (b2 (decide (S.2.1 2 < 60))) (b2_of0 (by simp [c22])) ?_
    exact J30
  · refine lv_iconst (v := nI 1) hx hb d_M_lot_25 (by decide) ?_
    refine lv_goto (tgt := 30) hx hb d_M_lot_26 (by decide) ?_
    refine nv_as (b2 (decide (S.2.1 2 < 60))) (b2_of1 (by simp [c22])) ?_
    exact J30
set_option maxHeartbeats 4000000 in
set_option maxRecDepth 100000 in
theorem c_M_bring (l : Launch) (dC : Nat → ClassId) (dI : Nat → Nat → Nat) (sz : Nat) (cI cZ : ClassId) (q : Nat → Nat) (S : St) (th : Int32) (t : Nat) (hI : Bd t S) (x y n : Int32) (hV : Inv t S)  : Met l y_M_bring (.code y_M_bring b_M_bring 4 (some .int) :: bg) { frames := 3, cells := 0, slots := 0, locals := 65 } (wr_P (dC, dI) classes (wM q cI cZ S th) [(cI, .int), (cZ, .boolean)] sz [.ref (q 0), .int x, .int y, .int n]) (wr_Q (some (.int ((op_bring S x y n).2.1))) (dC, dI) classes (wM q cI cZ ((op_bring S x y n).2.2) (nI (op_bring S x y n).1)) (va_A (wM q cI cZ S th) sz)) 0 0 (va_A (wM q cI cZ S th) sz) := by
  refine Met.ofW (cc := b_M_bring) (maxL := 4) (ret := (some .int)) (by decide) rfl ?_
  intro p e s m args below meth c s₁ B hml hv
  obtain ⟨rfl, hsz, hP, hK, hD0⟩ := hv
  subst hsz
  have hD := hD0.self (sz := s.heap.size)
  generalize hAe : va_A (wM q cI cZ S th) s.heap.size = A at hD ⊢
  have hA : ∀ q : Nat, s.heap.size ≤ q → A q := fun q h => by rw [← hAe]; exact Or.inr h
  have hS : va_S A s.heap s.heap [] := va_S.rf
  have hx := B.exec
  have hb := B.bytes
  have hr := B.returns
  have hts := fun w (h : w ∈ bg) => atoms_spec (ws := .code y_M_bring b_M_bring 4 (some .int) :: bg) B.pre w (List.mem_cons_of_mem _ h)
  have hown : s.vm.findClass R_M = some m.cls := findClass_of_methodNamed B.named
  have hlocks := B.notSynchronized
  have hl := lv_entry ([.ref (q 0), .int x, .int y, .int n]) (n := 4) (Nat.le_of_ble_eq_true rfl)
  rw [lg_entry_eq]
  generalize (lg_sl ([.ref (q 0), .int x, .int y, .int n]) ++ List.replicate (4 - (lg_sl ([.ref (q 0), .int x, .int y, .int n])).length) Slot.unset).toArray = ls at hl ⊢
  have hl : lv_has ls 4 [(0, .ref (q 0)), (1, .int x), (2, .int y), (3, .int n)] := hl
  have hB := hI.1
  have hg0 : S.2.1 0 ≤ 8 := hI.2.1 0
  have hg1 : S.2.1 1 ≤ 9999 := hI.2.1 1
  have hg2 : S.2.1 2 ≤ 60 := hI.2.1 2
  have hg3 : S.2.1 3 ≤ 60 := hI.2.1 3
  have hg4 : S.2.1 4 ≤ 80 := hI.2.1 4
  have hg5 : S.2.1 5 ≤ 20 := hI.2.1 5
  have hg6 : S.2.1 6 ≤ 80 := hI.2.1 6
  have hg7 : S.2.1 7 ≤ 10 := hI.2.1 7
  have hg8 : t ≤ 512 := hI.2.2
  refine lv_aload_n hx hb d_M_bring_0 rfl (lv_at hl 0 rfl) ?_
  refine lv_bipush (v := nI 11) hx hb d_M_bring_1 (by decide) ?_
  have J24 : W p l e (headSpec (.code y_M_bring b_M_bring 4 (some .int) :: bg) { frames := 3, cells := 0, slots := 0, locals := 65 }).room s m (List.toArray [.ref (q 0), .int x, .int y, .int n]) below meth c s.heap [] 0 0 (MQ below (wr_Q (some (.int ((op_bring S x y n).2.1))) (dC, dI) classes (wM q cI cZ ((op_bring S x y n).2.2) (nI (op_bring S x y n).1)) A) (List.toArray [.ref (q 0), .int x, .int y, .int n]) s 0 0 A) (F0 m 24 ls [.int (b2 (ok x (S.2.1 0) && ok y (S.2.1 2))), .int (nI 11), .ref (q 0)]) := by
    refine lv_iload_n hx hb d_M_bring_24 rfl (lv_at hl 3 rfl) ?_
    refine pu_go (va_runS (As := [.int n]) (rest := [.int (b2 (ok x (S.2.1 0) && ok y (S.2.1 2))), .int (nI 11), .ref (q 0)]) ⟨hx, hb, hml, hown, hts⟩ (c_M_isMany l dC dI n) (cwS 1 hts (gi_S wd_702 wd_703 wd_5 wd_704) rfl rfl rfl (by decide +kernel) ⟨Nat.le_of_ble_eq_true rfl, Nat.le_of_ble_eq_true rfl⟩) (pu_preS (hK.sub (tys' := []) [] rfl) (fun k q h => by simp at h)) rfl rfl hl.1 rfl (lv_room (Nat.le_of_ble_eq_true rfl)) d_M_bring_25 ⟨Nat.le_of_ble_eq_true rfl, Nat.le_of_ble_eq_true rfl⟩) ?_
    refine lv_iconst (v := b2 true) hx hb d_M_bring_28 (by decide) ?_
    have J48 : W p l e (headSpec (.code y_M_bring b_M_bring 4 (some .int) :: bg) { frames := 3, cells := 0, slots := 0, locals := 65 }).room s m (List.toArray [.ref (q 0), .int x, .int y, .int n]) below meth c s.heap [] 0 0 (MQ below (wr_Q (some (.int ((op_bring S x y n).2.1))) (dC, dI) classes (wM q cI cZ ((op_bring S x y n).2.2) (nI (op_bring S x y n).1)) A) (List.toArray [.ref (q 0), .int x, .int y, .int n]) s 0 0 A) (F0 m 48 ls [.int (b2 (!decide (nI 9999 < atv S x y + n))), .int (b2 true), .int (b2 (rg n 1 9999)), .int (b2 (ok x (S.2.1 0) && ok y (S.2.1 2))), .int (nI 11), .ref (q 0)]) := by
      refine wr_goA (va_runV (As := [.int (nI 11), .int (b2 (ok x (S.2.1 0) && ok y (S.2.1 2))), .int (b2 (rg n 1 9999)), .int (b2 true), .int (b2 (!decide (nI 9999 < atv S x y + n)))]) (rest := []) ⟨hx, hb, hml, hown, hts⟩ (c_M_goes l dC dI s.heap.size cI cZ q S th t hI (nI 11) (ok x (S.2.1 0) && ok y (S.2.1 2)) (rg n 1 9999) true (!decide (nI 9999 < atv S x y + n))) (cwV 5 hts (gi_V wd_676 wd_678 wp_22 wd_5 wd_679) rfl rfl rfl (by decide +kernel) ⟨Nat.le_of_ble_eq_true rfl, Nat.le_of_ble_eq_true rfl⟩) (wr_preV hK hP hD (ci := 3) (q0 := 0) rfl rfl) rfl rfl hl.1 rfl (lv_room (Nat.le_of_ble_eq_true rfl)) d_M_bring_48 ⟨Nat.le_of_ble_eq_true rfl, Nat.le_of_ble_eq_true rfl⟩) hD hS hA wM_adr (fun H locs hP hD hS => ?_)
      refine W.eq (g2 := F0 m 51 ls [.int (b2 ((ok x (S.2.1 0) && ok y (S.2.1 2)) && ((rg n 1 9999) && (true && (!decide (nI 9999 < atv S x y + n))))))]) rfl ?_
      refine nv_bn (tgt := 56) hx hb d_M_bring_51 (by decide) (fun c51 => ?_) (fun c51 => ?_)
      · obtain ⟨k0, r0, t0, o0⟩ := and4 c51
        have hP : va_P (dC, dI) classes (wM q cI cZ S (nI 0)) H := by rw [gz c51] at hP; exact hP
        have hD : va_D A (wM q cI cZ S (nI 0)) := by rw [gz c51] at hD; exact hD
        obtain ⟨k1, k2⟩ := and2 k0
        rw [bring_o hI k1 k2 r0] at o0
        have o1 := of_decide_eq_true o0
        obtain ⟨e_x, b_x⟩ := ok_of k1
        obtain ⟨e_y, b_y⟩ := ok_of k2
        obtain ⟨e_n, l_n, b_n⟩ := rg_of r0
        have hl : lv_has ls 4 [(0, .ref (q 0)), (1, .int (nI (nn x))), (2, .int (nI (nn y))), (3, .int (nI (nn n)))] := by rw [← e_x, ← e_y, ← e_n]; exact hl
        refine lv_aload_n hx hb d_M_bring_56 rfl (lv_at hl 0 rfl) ?_
        refine va_get (D := (dC, dI)) (ci := 3) (v := .ref (q 6)) (C := R_M) (T := F_M) (N := 37) hx hb hts i_M hown hK hP 0 rfl rfl 9 (by decide) (hts _ wd_564) (fun _ h9 => h9) rfl d_M_bring_57 ?_
        refine lv_iload_n hx hb d_M_bring_60 rfl (lv_at hl 1 rfl) ?_
        refine lv_bipush (v := nI 60) hx hb d_M_bring_61 (by decide) ?_
        refine nv_mul hx hb d_M_bring_63 ?_
        refine lv_iload_n hx hb d_M_bring_64 rfl (lv_at hl 2 rfl) ?_
        refine nv_add hx hb d_M_bring_65 ?_
        refine lv_aload_n hx hb d_M_bring_66 rfl (lv_at hl 0 rfl) ?_
        refine lv_iload_n hx hb d_M_bring_67 rfl (lv_at hl 1 rfl) ?_
        refine lv_iload_n hx hb d_M_bring_68 rfl (lv_at hl 2 rfl) ?_
        refine pu_go (va_runV (As := [.int (nI (nn x)), .int (nI (nn y))]) (rest := [.int (nI (((nn x) * 60) + (nn y))), .ref (q 6)]) ⟨hx, hb, hml, hown, hts⟩ (c_M_at l dC dI cI cZ q S (nI 0) t hI (nI (nn x)) (nI (nn y))) (cwV 2 hts (gi_V wd_705 wd_707 wp_25 wd_5 wd_708) rfl rfl rfl (by decide +kernel) ⟨Nat.le_of_ble_eq_true rfl, Nat.le_of_ble_eq_true rfl⟩) (pu_preV hK hP (ci := 3) (q0 := 0) rfl rfl) rfl rfl hl.1 rfl (lv_room (Nat.le_of_ble_eq_true rfl)) d_M_bring_69 ⟨Nat.le_of_ble_eq_true rfl, Nat.le_of_ble_eq_true rfl⟩) ?_
        refine nv_as (nI (S.1 25 ((nn x) * 60 + (nn y)))) (atv_n (by omega) (by omega) (by omega) (by omega)) ?_
        have hb1 : S.1 25 ((nn x) * 60 + (nn y)) ≤ 9999 := hB 25 _
        refine lv_iload_n hx hb d_M_bring_72 rfl (lv_at hl 3 rfl) ?_
        refine nv_add hx hb d_M_bring_73 ?_
        refine nv_iast (f' := upd (colf S.1 25) (((nn x) * 60) + (nn y)) (nI ((S.1 25 ((nn x) * 60 + (nn y))) + (nn n)))) hx hb hK hP hD hS 6 0 rfl rfl (by omega) (by decide) rfl (wM q cI cZ (S_a S 25 (((nn x) * 60) + (nn y)) ((S.1 25 ((nn x) * 60 + (nn y))) + (nn n))) (nI 0)) wM_c25 d_M_bring_74 (fun H locs hP hD hS => ?_)
        obtain ⟨S1, hS1⟩ : ∃ z : St, z = S_a S 25 (((nn x) * 60) + (nn y)) ((S.1 25 ((nn x) * 60 + (nn y))) + (nn n)) := ⟨_, rfl⟩
        rw [← hS1] at hP hD
        have hIS1 : Bd t S1 := by rw [hS1]; exact Bd_a hI (show _ ≤ 9999 from o1)
        have hBS1 := hIS1.1
        have hg0 : S1.2.1 0 ≤ 8 := hIS1.2.1 0
        have hg1 : S1.2.1 1 ≤ 9999 := hIS1.2.1 1
        have hg2 : S1.2.1 2 ≤ 60 := hIS1.2.1 2
        have hg3 : S1.2.1 3 ≤ 60 := hIS1.2.1 3
        have hg4 : S1.2.1 4 ≤ 80 := hIS1.2.1 4
        have hg5 : S1.2.1 5 ≤ 20 := hIS1.2.1 5
        have hg6 : S1.2.1 6 ≤ 80 := hIS1.2.1 6
        have hg7 : S1.2.1 7 ≤ 10 := hIS1.2.1 7
        have hg8 : t ≤ 512 := hIS1.2.2
        have q0_ : S1.2.1 0 = S.2.1 0 := by rw [hS1]; rfl
        have q2_ : S1.2.1 2 = S.2.1 2 := by rw [hS1]; rfl
        refine lv_aload_n hx hb d_M_bring_75 rfl (lv_at hl 0 rfl) ?_
        refine lv_iload_n hx hb d_M_bring_76 rfl (lv_at hl 1 rfl) ?_
        refine lv_iload_n hx hb d_M_bring_77 rfl (lv_at hl 2 rfl) ?_
        refine pu_go (va_runV (As := [.int (nI (nn x)), .int (nI (nn y))]) (rest := []) ⟨hx, hb, hml, hown, hts⟩ (c_M_at l dC dI cI cZ q S1 (nI 0) t hIS1 (nI (nn x)) (nI (nn y))) (cwV 2 hts (gi_V wd_705 wd_707 wp_25 wd_5 wd_708) rfl rfl rfl (by decide +kernel) ⟨Nat.le_of_ble_eq_true rfl, Nat.le_of_ble_eq_true rfl⟩) (pu_preV hK hP (ci := 3) (q0 := 0) rfl rfl) rfl rfl hl.1 rfl (lv_room (Nat.le_of_ble_eq_true rfl)) d_M_bring_78 ⟨Nat.le_of_ble_eq_true rfl, Nat.le_of_ble_eq_true rfl⟩) ?_
        refine nv_as (nI (S1.1 25 ((nn x) * 60 + (nn y)))) (atv_n (by omega) (by omega) (by omega) (by omega)) ?_
        have hb2 : S1.1 25 ((nn x) * 60 + (nn y)) ≤ 9999 := hBS1 25 _
        have ho : op_bring S x y n = (0, nI (S.1 25 (nn x * 60 + nn y) + nn n), S_a S 25 (nn x * 60 + nn y) (S.1 25 (nn x * 60 + nn y) + nn n)) := by unfold op_bring; rw [if_pos k1, if_pos k2, if_pos r0, if_pos o1]
        rw [ho]
        refine nv_as (nI (S.1 25 (nn x * 60 + nn y) + nn n)) (by rw [hS1]; show nI (aU S.1 25 _ _ 25 _) = _; rw [aU_s]) ?_
        have hP9 : va_P (dC, dI) classes (wM q cI cZ (S_a S 25 (nn x * 60 + nn y) (S.1 25 (nn x * 60 + nn y) + nn n)) (nI 0)) H := by rw [hS1] at hP; exact hP
        exact W.iret hx hb hr (fun t ht hW => ⟨rfl, by rw [ht]; exact hP9, hS.F ht⟩) hS.2.2 d_M_bring_81
      · refine lv_iconst (v := nI 0) hx hb d_M_bring_54 (by decide) ?_
        have ho : op_bring S x y n = ((gth (nI 11) (gbit (ok x (S.2.1 0) && ok y (S.2.1 2)) (rg n 1 9999) true (!decide (nI 9999 < atv S x y + n)))), 0, S) := of_bring hI c51
        rw [ho]
        refine nv_as (0) (by rfl) ?_
        have hP9 : va_P (dC, dI) classes (wM q cI cZ (S) (nI (gth (nI 11) (gbit (ok x (S.2.1 0) && ok y (S.2.1 2)) (rg n 1 9999) true (!decide (nI 9999 < atv S x y + n)))))) H := hP
        exact W.iret hx hb hr (fun t ht hW => ⟨rfl, by rw [ht]; exact hP9, hS.F ht⟩) hS.2.2 d_M_bring_55
    refine lv_aload_n hx hb d_M_bring_29 rfl (lv_at hl 0 rfl) ?_
    refine lv_iload_n hx hb d_M_bring_30 rfl (lv_at hl 1 rfl) ?_
    refine lv_iload_n hx hb d_M_bring_31 rfl (lv_at hl 2 rfl) ?_
    refine pu_go (va_runV (As := [.int x, .int y]) (rest := [.int (b2 true), .int (b2 (rg n 1 9999)), .int (b2 (ok x (S.2.1 0) && ok y (S.2.1 2))), .int (nI 11), .ref (q 0)]) ⟨hx, hb, hml, hown, hts⟩ (c_M_at l dC dI cI cZ q S th t hI x y) (cwV 2 hts (gi_V wd_705 wd_707 wp_25 wd_5 wd_708) rfl rfl rfl (by decide +kernel) ⟨Nat.le_of_ble_eq_true rfl, Nat.le_of_ble_eq_true rfl⟩) (pu_preV hK hP (ci := 3) (q0 := 0) rfl rfl) rfl rfl hl.1 rfl (lv_room (Nat.le_of_ble_eq_true rfl)) d_M_bring_32 ⟨Nat.le_of_ble_eq_true rfl, Nat.le_of_ble_eq_true rfl⟩) ?_
    refine lv_iload_n hx hb d_M_bring_35 rfl (lv_at hl 3 rfl) ?_
    refine lv_iadd hx hb d_M_bring_36 ?_
    refine lv_sipush (v := nI 9999) hx hb d_M_bring_37 (by decide) ?_
    refine lv_icmp_gt (tgt := 47) hx hb d_M_bring_40 (by decide) (fun c40 => ?_) (fun c40 => ?_)
    · refine lv_iconst (v := nI 0) hx hb d_M_bring_47 (by decide) ?_
      refine nv_as (b2 (!decide (nI 9999 < atv S x y + n))) (b2_of0 (by simp [c40])) ?_
      exact J48
    · refine lv_iconst (v := nI 1) hx hb d_M_bring_43 (by decide) ?_
      refine lv_goto (tgt := 48) hx hb d_M_bring_44 (by decide) ?_
      refine nv_as (b2 (!decide (nI 9999 < atv S x y + n))) (b2_of1 (by simp [c40])) ?_
      exact J48
  refine lv_aload_n hx hb d_M_bring_3 rfl (lv_at hl 0 rfl) ?_
  refine lv_iload_n hx hb d_M_bring_4 rfl (lv_at hl 1 rfl) ?_
  refine pu_go (va_runV (As := [.int x]) (rest := [.int (nI 11), .ref (q 0)]) ⟨hx, hb, hml, hown, hts⟩ (c_M_isStore l dC dI cI cZ q S th t hI x) (cwV 1 hts (gi_V wd_694 wd_696 wp_23 wd_5 wd_697) rfl rfl rfl (by decide +kernel) ⟨Nat.le_of_ble_eq_true rfl, Nat.le_of_ble_eq_true rfl⟩) (pu_preV hK hP (ci := 3) (q0 := 0) rfl rfl) rfl rfl hl.1 rfl (lv_room (Nat.le_of_ble_eq_true rfl)) d_M_bring_5 ⟨Nat.le_of_ble_eq_true rfl, Nat.le_of_ble_eq_true rfl⟩) ?_
  refine nv_bz (tgt := 23) hx hb d_M_bring_8 (by decide) (fun c8 => ?_) (fun c8 => ?_)
  · refine lv_iconst (v := nI 0) hx hb d_M_bring_23 (by decide) ?_
    refine nv_as (b2 (ok x (S.2.1 0) && ok y (S.2.1 2))) (b2_of0 (by simp [c8])) ?_
    exact J24
  · refine lv_aload_n hx hb d_M_bring_11 rfl (lv_at hl 0 rfl) ?_
    refine lv_iload_n hx hb d_M_bring_12 rfl (lv_at hl 2 rfl) ?_
    refine pu_go (va_runV (As := [.int y]) (rest := [.int (nI 11), .ref (q 0)]) ⟨hx, hb, hml, hown, hts⟩ (c_M_isLot l dC dI cI cZ q S th t hI y) (cwV 1 hts (gi_V wd_698 wd_700 wp_24 wd_5 wd_701) rfl rfl rfl (by decide +kernel) ⟨Nat.le_of_ble_eq_true rfl, Nat.le_of_ble_eq_true rfl⟩) (pu_preV hK hP (ci := 3) (q0 := 0) rfl rfl) rfl rfl hl.1 rfl (lv_room (Nat.le_of_ble_eq_true rfl)) d_M_bring_13 ⟨Nat.le_of_ble_eq_true rfl, Nat.le_of_ble_eq_true rfl⟩) ?_
    refine nv_bz (tgt := 23) hx hb d_M_bring_16 (by decide) (fun c16 => ?_) (fun c16 => ?_)
    · refine lv_iconst (v := nI 0) hx hb d_M_bring_23 (by decide) ?_
      refine nv_as (b2 (ok x (S.2.1 0) && ok y (S.2.1 2))) (b2_of0 (by simp [c8, c16])) ?_
      exact J24
    · refine lv_iconst (v := nI 1) hx hb d_M_bring_19 (by decide) ?_
      refine lv_goto (tgt := 24) hx hb d_M_bring_20 (by decide) ?_
      refine nv_as (b2 (ok x (S.2.1 0) && ok y (S.2.1 2))) (b2_of1 (by simp [c8, c16])) ?_
      exact J24
set_option maxHeartbeats 4000000 in
set_option maxRecDepth 100000 in
theorem c_M_has (l : Launch) (dC : Nat → ClassId) (dI : Nat → Nat → Nat) (sz : Nat) (cI cZ : ClassId) (q : Nat → Nat) (S : St) (th : Int32) (t : Nat) (hI : Bd t S) (x y : Int32) (hV : Inv t S)  : Met l y_M_has (.code y_M_has b_M_has 3 (some .int) :: bg) { frames := 3, cells := 0, slots := 0, locals := 65 } (wr_P (dC, dI) classes (wM q cI cZ S th) [(cI, .int), (cZ, .boolean)] sz [.ref (q 0), .int x, .int y]) (wr_Q (some (.int ((op_has S x y).2.1))) (dC, dI) classes (wM q cI cZ ((op_has S x y).2.2) (nI (op_has S x y).1)) (va_A (wM q cI cZ S th) sz)) 0 0 (va_A (wM q cI cZ S th) sz) := by
  refine Met.ofW (cc := b_M_has) (maxL := 3) (ret := (some .int)) (by decide) rfl ?_
  intro p e s m args below meth c s₁ B hml hv
  obtain ⟨rfl, hsz, hP, hK, hD0⟩ := hv
  subst hsz
  have hD := hD0.self (sz := s.heap.size)
  generalize hAe : va_A (wM q cI cZ S th) s.heap.size = A at hD ⊢
  have hA : ∀ q : Nat, s.heap.size ≤ q → A q := fun q h => by rw [← hAe]; exact Or.inr h
  have hS : va_S A s.heap s.heap [] := va_S.rf
  have hx := B.exec
  have hb := B.bytes
  have hr := B.returns
  have hts := fun w (h : w ∈ bg) => atoms_spec (ws := .code y_M_has b_M_has 3 (some .int) :: bg) B.pre w (List.mem_cons_of_mem _ h)
  have hown : s.vm.findClass R_M = some m.cls := findClass_of_methodNamed B.named
  have hlocks := B.notSynchronized
  have hl := lv_entry ([.ref (q 0), .int x, .int y]) (n := 3) (Nat.le_of_ble_eq_true rfl)
  rw [lg_entry_eq]
  generalize (lg_sl ([.ref (q 0), .int x, .int y]) ++ List.replicate (3 - (lg_sl ([.ref (q 0), .int x, .int y])).length) Slot.unset).toArray = ls at hl ⊢
  have hl : lv_has ls 3 [(0, .ref (q 0)), (1, .int x), (2, .int y)] := hl
  have hB := hI.1
  have hg0 : S.2.1 0 ≤ 8 := hI.2.1 0
  have hg1 : S.2.1 1 ≤ 9999 := hI.2.1 1
  have hg2 : S.2.1 2 ≤ 60 := hI.2.1 2
  have hg3 : S.2.1 3 ≤ 60 := hI.2.1 3
  have hg4 : S.2.1 4 ≤ 80 := hI.2.1 4
  have hg5 : S.2.1 5 ≤ 20 := hI.2.1 5
  have hg6 : S.2.1 6 ≤ 80 := hI.2.1 6
  have hg7 : S.2.1 7 ≤ 10 := hI.2.1 7
  have hg8 : t ≤ 512 := hI.2.2
  refine lv_aload_n hx hb d_M_has_0 rfl (lv_at hl 0 rfl) ?_
  refine lv_iconst (v := nI 1) hx hb d_M_has_1 (by decide) ?_
  have J23 : W p l e (headSpec (.code y_M_has b_M_has 3 (some .int) :: bg) { frames := 3, cells := 0, slots := 0, locals := 65 }).room s m (List.toArray [.ref (q 0), .int x, .int y]) below meth c s.heap [] 0 0 (MQ below (wr_Q (some (.int ((op_has S x y).2.1))) (dC, dI) classes (wM q cI cZ ((op_has S x y).2.2) (nI (op_has S x y).1)) A) (List.toArray [.ref (q 0), .int x, .int y]) s 0 0 A) (F0 m 23 ls [.int (b2 (ok x (S.2.1 0) && ok y (S.2.1 2))), .int (nI 1), .ref (q 0)]) := by
    refine lv_iconst (v := b2 true) hx hb d_M_has_23 (by decide) ?_
    refine lv_iconst (v := b2 true) hx hb d_M_has_24 (by decide) ?_
    refine lv_iconst (v := b2 true) hx hb d_M_has_25 (by decide) ?_
    refine wr_goA (va_runV (As := [.int (nI 1), .int (b2 (ok x (S.2.1 0) && ok y (S.2.1 2))), .int (b2 true), .int (b2 true), .int (b2 true)]) (rest := []) ⟨hx, hb, hml, hown, hts⟩ (c_M_goes l dC dI s.heap.size cI cZ q S th t hI (nI 1) (ok x (S.2.1 0) && ok y (S.2.1 2)) true true true) (cwV 5 hts (gi_V wd_676 wd_678 wp_22 wd_5 wd_679) rfl rfl rfl (by decide +kernel) ⟨Nat.le_of_ble_eq_true rfl, Nat.le_of_ble_eq_true rfl⟩) (wr_preV hK hP hD (ci := 3) (q0 := 0) rfl rfl) rfl rfl hl.1 rfl (lv_room (Nat.le_of_ble_eq_true rfl)) d_M_has_26 ⟨Nat.le_of_ble_eq_true rfl, Nat.le_of_ble_eq_true rfl⟩) hD hS hA wM_adr (fun H locs hP hD hS => ?_)
    refine W.eq (g2 := F0 m 29 ls [.int (b2 ((ok x (S.2.1 0) && ok y (S.2.1 2)) && (true && (true && true))))]) rfl ?_
    refine nv_bn (tgt := 34) hx hb d_M_has_29 (by decide) (fun c29 => ?_) (fun c29 => ?_)
    · obtain ⟨k0, r0, t0, o0⟩ := and4 c29
      have hP : va_P (dC, dI) classes (wM q cI cZ S (nI 0)) H := by rw [gz c29] at hP; exact hP
      have hD : va_D A (wM q cI cZ S (nI 0)) := by rw [gz c29] at hD; exact hD
      obtain ⟨k1, k2⟩ := and2 k0
      obtain ⟨e_x, b_x⟩ := ok_of k1
      obtain ⟨e_y, b_y⟩ := ok_of k2
      have hl : lv_has ls 3 [(0, .ref (q 0)), (1, .int (nI (nn x))), (2, .int (nI (nn y)))] := by rw [← e_x, ← e_y]; exact hl
      refine lv_aload_n hx hb d_M_has_34 rfl (lv_at hl 0 rfl) ?_
      refine lv_iload_n hx hb d_M_has_35 rfl (lv_at hl 1 rfl) ?_
      refine lv_iload_n hx hb d_M_has_36 rfl (lv_at hl 2 rfl) ?_
      refine pu_go (va_runV (As := [.int (nI (nn x)), .int (nI (nn y))]) (rest := []) ⟨hx, hb, hml, hown, hts⟩ (c_M_at l dC dI cI cZ q S (nI 0) t hI (nI (nn x)) (nI (nn y))) (cwV 2 hts (gi_V wd_705 wd_707 wp_25 wd_5 wd_708) rfl rfl rfl (by decide +kernel) ⟨Nat.le_of_ble_eq_true rfl, Nat.le_of_ble_eq_true rfl⟩) (pu_preV hK hP (ci := 3) (q0 := 0) rfl rfl) rfl rfl hl.1 rfl (lv_room (Nat.le_of_ble_eq_true rfl)) d_M_has_37 ⟨Nat.le_of_ble_eq_true rfl, Nat.le_of_ble_eq_true rfl⟩) ?_
      refine nv_as (nI (S.1 25 ((nn x) * 60 + (nn y)))) (atv_n (by omega) (by omega) (by omega) (by omega)) ?_
      have hb1 : S.1 25 ((nn x) * 60 + (nn y)) ≤ 9999 := hB 25 _
      have ho : op_has S x y = (0, nI (S.1 25 ((nn x) * 60 + (nn y))), S) := by unfold op_has; rw [if_pos k1, if_pos k2]
      rw [ho]
      have hP9 : va_P (dC, dI) classes (wM q cI cZ (S) (nI 0)) H := hP
      exact W.iret hx hb hr (fun t ht hW => ⟨rfl, by rw [ht]; exact hP9, hS.F ht⟩) hS.2.2 d_M_has_40
    · refine lv_iconst (v := nI 0) hx hb d_M_has_32 (by decide) ?_
      have ho : op_has S x y = ((gth (nI 1) (gbit (ok x (S.2.1 0) && ok y (S.2.1 2)) true true true)), 0, S) := of_has hI c29
      rw [ho]
      refine nv_as (0) (by rfl) ?_
      have hP9 : va_P (dC, dI) classes (wM q cI cZ (S) (nI (gth (nI 1) (gbit (ok x (S.2.1 0) && ok y (S.2.1 2)) true true true)))) H := hP
      exact W.iret hx hb hr (fun t ht hW => ⟨rfl, by rw [ht]; exact hP9, hS.F ht⟩) hS.2.2 d_M_has_33
  refine lv_aload_n hx hb d_M_has_2 rfl (lv_at hl 0 rfl) ?_
  refine lv_iload_n hx hb d_M_has_3 rfl (lv_at hl 1 rfl) ?_
  refine pu_go (va_runV (As := [.int x]) (rest := [.int (nI 1), .ref (q 0)]) ⟨hx, hb, hml, hown, hts⟩ (c_M_isStore l dC dI cI cZ q S th t hI x) (cwV 1 hts (gi_V wd_694 wd_696 wp_23 wd_5 wd_697) rfl rfl rfl (by decide +kernel) ⟨Nat.le_of_ble_eq_true rfl, Nat.le_of_ble_eq_true rfl⟩) (pu_preV hK hP (ci := 3) (q0 := 0) rfl rfl) rfl rfl hl.1 rfl (lv_room (Nat.le_of_ble_eq_true rfl)) d_M_has_4 ⟨Nat.le_of_ble_eq_true rfl, Nat.le_of_ble_eq_true rfl⟩) ?_
  refine nv_bz (tgt := 22) hx hb d_M_has_7 (by decide) (fun c7 => ?_) (fun c7 => ?_)
  · refine lv_iconst (v := nI 0) hx hb d_M_has_22 (by decide) ?_
    refine nv_as (b2 (ok x (S.2.1 0) && ok y (S.2.1 2))) (b2_of0 (by simp [c7])) ?_
    exact J23
  · refine lv_aload_n hx hb d_M_has_10 rfl (lv_at hl 0 rfl) ?_
    refine lv_iload_n hx hb d_M_has_11 rfl (lv_at hl 2 rfl) ?_
    refine pu_go (va_runV (As := [.int y]) (rest := [.int (nI 1), .ref (q 0)]) ⟨hx, hb, hml, hown, hts⟩ (c_M_isLot l dC dI cI cZ q S th t hI y) (cwV 1 hts (gi_V wd_698 wd_700 wp_24 wd_5 wd_701) rfl rfl rfl (by decide +kernel) ⟨Nat.le_of_ble_eq_true rfl, Nat.le_of_ble_eq_true rfl⟩) (pu_preV hK hP (ci := 3) (q0 := 0) rfl rfl) rfl rfl hl.1 rfl (lv_room (Nat.le_of_ble_eq_true rfl)) d_M_has_12 ⟨Nat.le_of_ble_eq_true rfl, Nat.le_of_ble_eq_true rfl⟩) ?_
    refine nv_bz (tgt := 22) hx hb d_M_has_15 (by decide) (fun c15 => ?_) (fun c15 => ?_)
    · refine lv_iconst (v := nI 0) hx hb d_M_has_22 (by decide) ?_
      refine nv_as (b2 (ok x (S.2.1 0) && ok y (S.2.1 2))) (b2_of0 (by simp [c7, c15])) ?_
      exact J23
    · refine lv_iconst (v := nI 1) hx hb d_M_has_18 (by decide) ?_
      refine lv_goto (tgt := 23) hx hb d_M_has_19 (by decide) ?_
      refine nv_as (b2 (ok x (S.2.1 0) && ok y (S.2.1 2))) (b2_of1 (by simp [c7, c15])) ?_
      exact J23
set_option maxHeartbeats 4000000 in
set_option maxRecDepth 100000 in
theorem c_M_kit (l : Launch) (dC : Nat → ClassId) (dI : Nat → Nat → Nat) (sz : Nat) (cI cZ : ClassId) (q : Nat → Nat) (S : St) (th : Int32) (t : Nat) (hI : Bd t S) (x y n : Int32) (hV : Inv t S)  : Met l y_M_kit (.code y_M_kit b_M_kit 4 none :: bg) { frames := 2, cells := 0, slots := 0, locals := 42 } (wr_P (dC, dI) classes (wM q cI cZ S th) [(cI, .int), (cZ, .boolean)] sz [.ref (q 0), .int x, .int y, .int n]) (wr_Q (none) (dC, dI) classes (wM q cI cZ ((op_kit S x y n).2.2) (nI (op_kit S x y n).1)) (va_A (wM q cI cZ S th) sz)) 0 0 (va_A (wM q cI cZ S th) sz) := by
  refine Met.ofW (cc := b_M_kit) (maxL := 4) (ret := none) (by decide) rfl ?_
  intro p e s m args below meth c s₁ B hml hv
  obtain ⟨rfl, hsz, hP, hK, hD0⟩ := hv
  subst hsz
  have hD := hD0.self (sz := s.heap.size)
  generalize hAe : va_A (wM q cI cZ S th) s.heap.size = A at hD ⊢
  have hA : ∀ q : Nat, s.heap.size ≤ q → A q := fun q h => by rw [← hAe]; exact Or.inr h
  have hS : va_S A s.heap s.heap [] := va_S.rf
  have hx := B.exec
  have hb := B.bytes
  have hr := B.returns
  have hts := fun w (h : w ∈ bg) => atoms_spec (ws := .code y_M_kit b_M_kit 4 none :: bg) B.pre w (List.mem_cons_of_mem _ h)
  have hown : s.vm.findClass R_M = some m.cls := findClass_of_methodNamed B.named
  have hlocks := B.notSynchronized
  have hl := lv_entry ([.ref (q 0), .int x, .int y, .int n]) (n := 4) (Nat.le_of_ble_eq_true rfl)
  rw [lg_entry_eq]
  generalize (lg_sl ([.ref (q 0), .int x, .int y, .int n]) ++ List.replicate (4 - (lg_sl ([.ref (q 0), .int x, .int y, .int n])).length) Slot.unset).toArray = ls at hl ⊢
  have hl : lv_has ls 4 [(0, .ref (q 0)), (1, .int x), (2, .int y), (3, .int n)] := hl
  have hB := hI.1
  have hg0 : S.2.1 0 ≤ 8 := hI.2.1 0
  have hg1 : S.2.1 1 ≤ 9999 := hI.2.1 1
  have hg2 : S.2.1 2 ≤ 60 := hI.2.1 2
  have hg3 : S.2.1 3 ≤ 60 := hI.2.1 3
  have hg4 : S.2.1 4 ≤ 80 := hI.2.1 4
  have hg5 : S.2.1 5 ≤ 20 := hI.2.1 5
  have hg6 : S.2.1 6 ≤ 80 := hI.2.1 6
  have hg7 : S.2.1 7 ≤ 10 := hI.2.1 7
  have hg8 : t ≤ 512 := hI.2.2
  refine lv_aload_n hx hb d_M_kit_0 rfl (lv_at hl 0 rfl) ?_
  refine lv_iconst (v := nI 3) hx hb d_M_kit_1 (by decide) ?_
  have J23 : W p l e (headSpec (.code y_M_kit b_M_kit 4 none :: bg) { frames := 2, cells := 0, slots := 0, locals := 42 }).room s m (List.toArray [.ref (q 0), .int x, .int y, .int n]) below meth c s.heap [] 0 0 (MQ below (wr_Q (none) (dC, dI) classes (wM q cI cZ ((op_kit S x y n).2.2) (nI (op_kit S x y n).1)) A) (List.toArray [.ref (q 0), .int x, .int y, .int n]) s 0 0 A) (F0 m 23 ls [.int (b2 (rg x 0 4 && ok y 10)), .int (nI 3), .ref (q 0)]) := by
    refine lv_iload_n hx hb d_M_kit_23 rfl (lv_at hl 3 rfl) ?_
    refine lv_iconst (v := nI 0) hx hb d_M_kit_24 (by decide) ?_
    refine lv_bipush (v := nI 20) hx hb d_M_kit_25 (by decide) ?_
    refine pu_go (va_runS (As := [.int n, .int (nI 0), .int (nI 20)]) (rest := [.int (b2 (rg x 0 4 && ok y 10)), .int (nI 3), .ref (q 0)]) ⟨hx, hb, hml, hown, hts⟩ (c_M_in l dC dI n (nI 0) (nI 20)) (cwS 3 hts (gi_S wd_687 wd_688 wd_5 wd_689) rfl rfl rfl (by decide +kernel) ⟨Nat.le_of_ble_eq_true rfl, Nat.le_of_ble_eq_true rfl⟩) (pu_preS (hK.sub (tys' := []) [] rfl) (fun k q h => by simp at h)) rfl rfl hl.1 rfl (lv_room (Nat.le_of_ble_eq_true rfl)) d_M_kit_27 ⟨Nat.le_of_ble_eq_true rfl, Nat.le_of_ble_eq_true rfl⟩) ?_
    refine nv_as (b2 (rg n 0 20)) (congrArg b2 (in_rg (by decide) (by decide))) ?_
    refine lv_iconst (v := b2 true) hx hb d_M_kit_30 (by decide) ?_
    refine lv_iconst (v := b2 true) hx hb d_M_kit_31 (by decide) ?_
    refine wr_goA (va_runV (As := [.int (nI 3), .int (b2 (rg x 0 4 && ok y 10)), .int (b2 (rg n 0 20)), .int (b2 true), .int (b2 true)]) (rest := []) ⟨hx, hb, hml, hown, hts⟩ (c_M_goes l dC dI s.heap.size cI cZ q S th t hI (nI 3) (rg x 0 4 && ok y 10) (rg n 0 20) true true) (cwV 5 hts (gi_V wd_676 wd_678 wp_22 wd_5 wd_679) rfl rfl rfl (by decide +kernel) ⟨Nat.le_of_ble_eq_true rfl, Nat.le_of_ble_eq_true rfl⟩) (wr_preV hK hP hD (ci := 3) (q0 := 0) rfl rfl) rfl rfl hl.1 rfl (lv_room (Nat.le_of_ble_eq_true rfl)) d_M_kit_32 ⟨Nat.le_of_ble_eq_true rfl, Nat.le_of_ble_eq_true rfl⟩) hD hS hA wM_adr (fun H locs hP hD hS => ?_)
    refine W.eq (g2 := F0 m 35 ls [.int (b2 ((rg x 0 4 && ok y 10) && ((rg n 0 20) && (true && true))))]) rfl ?_
    refine nv_bz (tgt := 50) hx hb d_M_kit_35 (by decide) (fun c35 => ?_) (fun c35 => ?_)
    · have ho : op_kit S x y n = ((gth (nI 3) (gbit (rg x 0 4 && ok y 10) (rg n 0 20) true true)), 0, S) := of_kit hI c35
      rw [ho]
      have hP9 : va_P (dC, dI) classes (wM q cI cZ (S) (nI (gth (nI 3) (gbit (rg x 0 4 && ok y 10) (rg n 0 20) true true)))) H := hP
      exact W.vret hx hb hr (fun t ht hW => ⟨rfl, by rw [ht]; exact hP9, hS.F ht⟩) hS.2.2 d_M_kit_50
    · obtain ⟨k0, r0, t0, o0⟩ := and4 c35
      have hP : va_P (dC, dI) classes (wM q cI cZ S (nI 0)) H := by rw [gz c35] at hP; exact hP
      have hD : va_D A (wM q cI cZ S (nI 0)) := by rw [gz c35] at hD; exact hD
      obtain ⟨k1, k2⟩ := and2 k0
      rw [show rg x 0 4 = ok x 5 from rg_ok (n := 5) (by decide)] at k1
      obtain ⟨e_x, b_x⟩ := ok_of k1
      obtain ⟨e_y, b_y⟩ := ok_of k2
      obtain ⟨e_n, l_n, b_n⟩ := rg_of r0
      have hl : lv_has ls 4 [(0, .ref (q 0)), (1, .int (nI (nn x))), (2, .int (nI (nn y))), (3, .int (nI (nn n)))] := by rw [← e_x, ← e_y, ← e_n]; exact hl
      refine lv_aload_n hx hb d_M_kit_38 rfl (lv_at hl 0 rfl) ?_
      refine va_get (D := (dC, dI)) (ci := 3) (v := .ref (q 26)) (C := R_M) (T := F_M) (N := 37) hx hb hts i_M hown hK hP 0 rfl rfl 33 (by decide) (hts _ wd_588) (fun _ h9 => h9) rfl d_M_kit_39 ?_
      refine lv_iload_n hx hb d_M_kit_42 rfl (lv_at hl 1 rfl) ?_
      refine lv_bipush (v := nI 10) hx hb d_M_kit_43 (by decide) ?_
      refine nv_mul hx hb d_M_kit_45 ?_
      refine lv_iload_n hx hb d_M_kit_46 rfl (lv_at hl 2 rfl) ?_
      refine nv_add hx hb d_M_kit_47 ?_
      refine lv_iload_n hx hb d_M_kit_48 rfl (lv_at hl 3 rfl) ?_
      refine nv_iast (f' := upd (colf S.1 28) (((nn x) * 10) + (nn y)) (nI (nn n))) hx hb hK hP hD hS 26 0 rfl rfl (by omega) (by decide) rfl (wM q cI cZ (S_a S 28 (((nn x) * 10) + (nn y)) (nn n)) (nI 0)) wM_c28 d_M_kit_49 (fun H locs hP hD hS => ?_)
      have ho : op_kit S x y n = (0, 0, S_a S 28 (((nn x) * 10) + (nn y)) (nn n)) := by unfold op_kit; rw [if_pos k1, if_pos k2, if_pos r0]
      rw [ho]
      have hP9 : va_P (dC, dI) classes (wM q cI cZ (S_a S 28 (((nn x) * 10) + (nn y)) (nn n)) (nI 0)) H := hP
      exact W.vret hx hb hr (fun t ht hW => ⟨rfl, by rw [ht]; exact hP9, hS.F ht⟩) hS.2.2 d_M_kit_50
  refine lv_iload_n hx hb d_M_kit_2 rfl (lv_at hl 1 rfl) ?_
  refine lv_iconst (v := nI 0) hx hb d_M_kit_3 (by decide) ?_
  refine lv_iconst (v := nI 4) hx hb d_M_kit_4 (by decide) ?_
  refine pu_go (va_runS (As := [.int x, .int (nI 0), .int (nI 4)]) (rest := [.int (nI 3), .ref (q 0)]) ⟨hx, hb, hml, hown, hts⟩ (c_M_in l dC dI x (nI 0) (nI 4)) (cwS 3 hts (gi_S wd_687 wd_688 wd_5 wd_689) rfl rfl rfl (by decide +kernel) ⟨Nat.le_of_ble_eq_true rfl, Nat.le_of_ble_eq_true rfl⟩) (pu_preS (hK.sub (tys' := []) [] rfl) (fun k q h => by simp at h)) rfl rfl hl.1 rfl (lv_room (Nat.le_of_ble_eq_true rfl)) d_M_kit_5 ⟨Nat.le_of_ble_eq_true rfl, Nat.le_of_ble_eq_true rfl⟩) ?_
  refine nv_as (b2 (rg x 0 4)) (congrArg b2 (in_rg (by decide) (by decide))) ?_
  refine nv_bz (tgt := 22) hx hb d_M_kit_8 (by decide) (fun c8 => ?_) (fun c8 => ?_)
  · refine lv_iconst (v := nI 0) hx hb d_M_kit_22 (by decide) ?_
    refine nv_as (b2 (rg x 0 4 && ok y 10)) (b2_of0 (by simp [c8])) ?_
    exact J23
  · refine lv_iload_n hx hb d_M_kit_11 rfl (lv_at hl 2 rfl) ?_
    refine pu_go (va_runS (As := [.int y]) (rest := [.int (nI 3), .ref (q 0)]) ⟨hx, hb, hml, hown, hts⟩ (c_M_isKind l dC dI y) (cwS 1 hts (gi_S wd_684 wd_685 wd_5 wd_686) rfl rfl rfl (by decide +kernel) ⟨Nat.le_of_ble_eq_true rfl, Nat.le_of_ble_eq_true rfl⟩) (pu_preS (hK.sub (tys' := []) [] rfl) (fun k q h => by simp at h)) rfl rfl hl.1 rfl (lv_room (Nat.le_of_ble_eq_true rfl)) d_M_kit_12 ⟨Nat.le_of_ble_eq_true rfl, Nat.le_of_ble_eq_true rfl⟩) ?_
    refine nv_bz (tgt := 22) hx hb d_M_kit_15 (by decide) (fun c15 => ?_) (fun c15 => ?_)
    · refine lv_iconst (v := nI 0) hx hb d_M_kit_22 (by decide) ?_
      refine nv_as (b2 (rg x 0 4 && ok y 10)) (b2_of0 (by simp [c8, c15])) ?_
      exact J23
    · refine lv_iconst (v := nI 1) hx hb d_M_kit_18 (by decide) ?_
      refine lv_goto (tgt := 23) hx hb d_M_kit_19 (by decide) ?_
      refine nv_as (b2 (rg x 0 4 && ok y 10)) (b2_of1 (by simp [c8, c15])) ?_
      exact J23
set_option maxHeartbeats 4000000 in
set_option maxRecDepth 100000 in
theorem c_M_order (l : Launch) (dC : Nat → ClassId) (dI : Nat → Nat → Nat) (sz : Nat) (cI cZ : ClassId) (q : Nat → Nat) (S : St) (th : Int32) (t : Nat) (hI : Bd t S) (x y : Int32) (hV : Inv t S)  : Met l y_M_order (.code y_M_order b_M_order 3 (some .int) :: bg) { frames := 1, cells := 0, slots := 0, locals := 27 } (wr_P (dC, dI) classes (wM q cI cZ S th) [(cI, .int), (cZ, .boolean)] sz [.ref (q 0), .int x, .int y]) (wr_Q (some (.int ((op_order S x y).2.1))) (dC, dI) classes (wM q cI cZ ((op_order S x y).2.2) (nI (op_order S x y).1)) (va_A (wM q cI cZ S th) sz)) 0 0 (va_A (wM q cI cZ S th) sz) := by
  refine Met.ofW (cc := b_M_order) (maxL := 3) (ret := (some .int)) (by decide) rfl ?_
  intro p e s m args below meth c s₁ B hml hv
  obtain ⟨rfl, hsz, hP, hK, hD0⟩ := hv
  subst hsz
  have hD := hD0.self (sz := s.heap.size)
  generalize hAe : va_A (wM q cI cZ S th) s.heap.size = A at hD ⊢
  have hA : ∀ q : Nat, s.heap.size ≤ q → A q := fun q h => by rw [← hAe]; exact Or.inr h
  have hS : va_S A s.heap s.heap [] := va_S.rf
  have hx := B.exec
  have hb := B.bytes
  have hr := B.returns
  have hts := fun w (h : w ∈ bg) => atoms_spec (ws := .code y_M_order b_M_order 3 (some .int) :: bg) B.pre w (List.mem_cons_of_mem _ h)
  have hown : s.vm.findClass R_M = some m.cls := findClass_of_methodNamed B.named
  have hlocks := B.notSynchronized
  have hl := lv_entry ([.ref (q 0), .int x, .int y]) (n := 3) (Nat.le_of_ble_eq_true rfl)
  rw [lg_entry_eq]
  generalize (lg_sl ([.ref (q 0), .int x, .int y]) ++ List.replicate (3 - (lg_sl ([.ref (q 0), .int x, .int y])).length) Slot.unset).toArray = ls at hl ⊢
  have hl : lv_has ls 3 [(0, .ref (q 0)), (1, .int x), (2, .int y)] := hl
  have hB := hI.1
  have hg0 : S.2.1 0 ≤ 8 := hI.2.1 0
  have hg1 : S.2.1 1 ≤ 9999 := hI.2.1 1
  have hg2 : S.2.1 2 ≤ 60 := hI.2.1 2
  have hg3 : S.2.1 3 ≤ 60 := hI.2.1 3
  have hg4 : S.2.1 4 ≤ 80 := hI.2.1 4
  have hg5 : S.2.1 5 ≤ 20 := hI.2.1 5
  have hg6 : S.2.1 6 ≤ 80 := hI.2.1 6
  have hg7 : S.2.1 7 ≤ 10 := hI.2.1 7
  have hg8 : t ≤ 512 := hI.2.2
  refine lv_aload_n hx hb d_M_order_0 rfl (lv_at hl 0 rfl) ?_
  refine lv_iconst (v := nI 1) hx hb d_M_order_1 (by decide) ?_
  have J30 : W p l e (headSpec (.code y_M_order b_M_order 3 (some .int) :: bg) { frames := 1, cells := 0, slots := 0, locals := 27 }).room s m (List.toArray [.ref (q 0), .int x, .int y]) below meth c s.heap [] 0 0 (MQ below (wr_Q (some (.int ((op_order S x y).2.1))) (dC, dI) classes (wM q cI cZ ((op_order S x y).2.2) (nI (op_order S x y).1)) A) (List.toArray [.ref (q 0), .int x, .int y]) s 0 0 A) (F0 m 30 ls [.int (b2 (ok x (S.2.1 4) && rg y 0 4)), .int (nI 1), .ref (q 0)]) := by
    refine lv_iconst (v := b2 true) hx hb d_M_order_30 (by decide) ?_
    refine lv_iconst (v := b2 true) hx hb d_M_order_31 (by decide) ?_
    refine lv_iconst (v := b2 true) hx hb d_M_order_32 (by decide) ?_
    refine wr_goA (va_runV (As := [.int (nI 1), .int (b2 (ok x (S.2.1 4) && rg y 0 4)), .int (b2 true), .int (b2 true), .int (b2 true)]) (rest := []) ⟨hx, hb, hml, hown, hts⟩ (c_M_goes l dC dI s.heap.size cI cZ q S th t hI (nI 1) (ok x (S.2.1 4) && rg y 0 4) true true true) (cwV 5 hts (gi_V wd_676 wd_678 wp_22 wd_5 wd_679) rfl rfl rfl (by decide +kernel) ⟨Nat.le_of_ble_eq_true rfl, Nat.le_of_ble_eq_true rfl⟩) (wr_preV hK hP hD (ci := 3) (q0 := 0) rfl rfl) rfl rfl hl.1 rfl (lv_room (Nat.le_of_ble_eq_true rfl)) d_M_order_33 ⟨Nat.le_of_ble_eq_true rfl, Nat.le_of_ble_eq_true rfl⟩) hD hS hA wM_adr (fun H locs hP hD hS => ?_)
    refine W.eq (g2 := F0 m 36 ls [.int (b2 ((ok x (S.2.1 4) && rg y 0 4) && (true && (true && true))))]) rfl ?_
    refine nv_bn (tgt := 41) hx hb d_M_order_36 (by decide) (fun c36 => ?_) (fun c36 => ?_)
    · obtain ⟨k0, r0, t0, o0⟩ := and4 c36
      have hP : va_P (dC, dI) classes (wM q cI cZ S (nI 0)) H := by rw [gz c36] at hP; exact hP
      have hD : va_D A (wM q cI cZ S (nI 0)) := by rw [gz c36] at hD; exact hD
      obtain ⟨k1, k2⟩ := and2 k0
      rw [show rg y 0 4 = ok y 5 from rg_ok (n := 5) (by decide)] at k2
      obtain ⟨e_x, b_x⟩ := ok_of k1
      obtain ⟨e_y, b_y⟩ := ok_of k2
      have hl : lv_has ls 3 [(0, .ref (q 0)), (1, .int (nI (nn x))), (2, .int (nI (nn y)))] := by rw [← e_x, ← e_y]; exact hl
      refine lv_iload_n hx hb d_M_order_41 rfl (lv_at hl 2 rfl) ?_
      refine nv_zne (tgt := 54) hx hb (by omega) d_M_order_42 (by decide) (fun c42 => ?_) (fun c42 => ?_)
      · refine lv_iload_n hx hb d_M_order_54 rfl (lv_at hl 2 rfl) ?_
        refine lv_iconst (v := nI 1) hx hb d_M_order_55 (by decide) ?_
        refine nv_cne (tgt := 68) hx hb (by omega) (by omega) d_M_order_56 (by decide) (fun c56 => ?_) (fun c56 => ?_)
        · refine lv_iload_n hx hb d_M_order_68 rfl (lv_at hl 2 rfl) ?_
          refine lv_iconst (v := nI 2) hx hb d_M_order_69 (by decide) ?_
          refine nv_cne (tgt := 82) hx hb (by omega) (by omega) d_M_order_70 (by decide) (fun c70 => ?_) (fun c70 => ?_)
          · refine lv_iload_n hx hb d_M_order_82 rfl (lv_at hl 2 rfl) ?_
            refine lv_iconst (v := nI 3) hx hb d_M_order_83 (by decide) ?_
            refine nv_cne (tgt := 96) hx hb (by omega) (by omega) d_M_order_84 (by decide) (fun c84 => ?_) (fun c84 => ?_)
            · refine lv_aload_n hx hb d_M_order_96 rfl (lv_at hl 0 rfl) ?_
              refine va_get (D := (dC, dI)) (ci := 3) (v := .ref (q 19)) (C := R_M) (T := F_M) (N := 37) hx hb hts i_M hown hK hP 0 rfl rfl 24 (by decide) (hts _ wd_579) (fun _ h9 => h9) rfl d_M_order_97 ?_
              refine lv_iload_n hx hb d_M_order_100 rfl (lv_at hl 1 rfl) ?_
              refine nv_zald (v := nI (S.1 14 (nn x))) hx hb hK hP 19 1 rfl rfl (by omega) (by decide) rfl d_M_order_101 ?_
              have hb1 : S.1 14 (nn x) ≤ 1 := hB 14 _
              refine nv_zeq (tgt := 109) hx hb (by omega) d_M_order_102 (by decide) (fun c102 => ?_) (fun c102 => ?_)
              · refine lv_iconst (v := nI 0) hx hb d_M_order_109 (by decide) ?_
                have ho : op_order S x y = (0, nI (S.1 (10 + nn y) (nn x)), S) := by unfold op_order; rw [if_pos k1, if_pos k2]
                rw [ho]
                refine nv_as (nI (S.1 (10 + nn y) (nn x))) (by rw [show 10 + nn y = 14 by omega]; exact congrArg nI (by omega)) ?_
                have hP9 : va_P (dC, dI) classes (wM q cI cZ (S) (nI 0)) H := hP
                exact W.iret hx hb hr (fun t ht hW => ⟨rfl, by rw [ht]; exact hP9, hS.F ht⟩) hS.2.2 d_M_order_110
              · refine lv_iconst (v := nI 1) hx hb d_M_order_105 (by decide) ?_
                refine lv_goto (tgt := 110) hx hb d_M_order_106 (by decide) ?_
                have ho : op_order S x y = (0, nI (S.1 (10 + nn y) (nn x)), S) := by unfold op_order; rw [if_pos k1, if_pos k2]
                rw [ho]
                refine nv_as (nI (S.1 (10 + nn y) (nn x))) (by rw [show 10 + nn y = 14 by omega]; exact congrArg nI (by omega)) ?_
                have hP9 : va_P (dC, dI) classes (wM q cI cZ (S) (nI 0)) H := hP
                exact W.iret hx hb hr (fun t ht hW => ⟨rfl, by rw [ht]; exact hP9, hS.F ht⟩) hS.2.2 d_M_order_110
            · refine lv_aload_n hx hb d_M_order_87 rfl (lv_at hl 0 rfl) ?_
              refine va_get (D := (dC, dI)) (ci := 3) (v := .ref (q 18)) (C := R_M) (T := F_M) (N := 37) hx hb hts i_M hown hK hP 0 rfl rfl 23 (by decide) (hts _ wd_578) (fun _ h9 => h9) rfl d_M_order_88 ?_
              refine lv_iload_n hx hb d_M_order_91 rfl (lv_at hl 1 rfl) ?_
              refine nv_iald (v := nI (S.1 13 (nn x))) hx hb hK hP 18 0 rfl rfl (by omega) (by decide) rfl d_M_order_92 ?_
              have hb2 : S.1 13 (nn x) ≤ 9999 := hB 13 _
              refine lv_goto (tgt := 110) hx hb d_M_order_93 (by decide) ?_
              have ho : op_order S x y = (0, nI (S.1 (10 + nn y) (nn x)), S) := by unfold op_order; rw [if_pos k1, if_pos k2]
              rw [ho]
              refine nv_as (nI (S.1 (10 + nn y) (nn x))) (congrArg (fun k => nI (S.1 k (nn x))) (by omega)) ?_
              have hP9 : va_P (dC, dI) classes (wM q cI cZ (S) (nI 0)) H := hP
              exact W.iret hx hb hr (fun t ht hW => ⟨rfl, by rw [ht]; exact hP9, hS.F ht⟩) hS.2.2 d_M_order_110
          · refine lv_aload_n hx hb d_M_order_73 rfl (lv_at hl 0 rfl) ?_
            refine va_get (D := (dC, dI)) (ci := 3) (v := .ref (q 17)) (C := R_M) (T := F_M) (N := 37) hx hb hts i_M hown hK hP 0 rfl rfl 22 (by decide) (hts _ wd_577) (fun _ h9 => h9) rfl d_M_order_74 ?_
            refine lv_iload_n hx hb d_M_order_77 rfl (lv_at hl 1 rfl) ?_
            refine nv_iald (v := nI (S.1 12 (nn x))) hx hb hK hP 17 0 rfl rfl (by omega) (by decide) rfl d_M_order_78 ?_
            have hb3 : S.1 12 (nn x) ≤ 9999 := hB 12 _
            refine lv_goto (tgt := 110) hx hb d_M_order_79 (by decide) ?_
            have ho : op_order S x y = (0, nI (S.1 (10 + nn y) (nn x)), S) := by unfold op_order; rw [if_pos k1, if_pos k2]
            rw [ho]
            refine nv_as (nI (S.1 (10 + nn y) (nn x))) (congrArg (fun k => nI (S.1 k (nn x))) (by omega)) ?_
            have hP9 : va_P (dC, dI) classes (wM q cI cZ (S) (nI 0)) H := hP
            exact W.iret hx hb hr (fun t ht hW => ⟨rfl, by rw [ht]; exact hP9, hS.F ht⟩) hS.2.2 d_M_order_110
        · refine lv_aload_n hx hb d_M_order_59 rfl (lv_at hl 0 rfl) ?_
          refine va_get (D := (dC, dI)) (ci := 3) (v := .ref (q 16)) (C := R_M) (T := F_M) (N := 37) hx hb hts i_M hown hK hP 0 rfl rfl 21 (by decide) (hts _ wd_576) (fun _ h9 => h9) rfl d_M_order_60 ?_
          refine lv_iload_n hx hb d_M_order_63 rfl (lv_at hl 1 rfl) ?_
          refine nv_iald (v := nI (S.1 11 (nn x))) hx hb hK hP 16 0 rfl rfl (by omega) (by decide) rfl d_M_order_64 ?_
          have hb4 : S.1 11 (nn x) ≤ 9 := hB 11 _
          refine lv_goto (tgt := 110) hx hb d_M_order_65 (by decide) ?_
          have ho : op_order S x y = (0, nI (S.1 (10 + nn y) (nn x)), S) := by unfold op_order; rw [if_pos k1, if_pos k2]
          rw [ho]
          refine nv_as (nI (S.1 (10 + nn y) (nn x))) (congrArg (fun k => nI (S.1 k (nn x))) (by omega)) ?_
          have hP9 : va_P (dC, dI) classes (wM q cI cZ (S) (nI 0)) H := hP
          exact W.iret hx hb hr (fun t ht hW => ⟨rfl, by rw [ht]; exact hP9, hS.F ht⟩) hS.2.2 d_M_order_110
      · refine lv_aload_n hx hb d_M_order_45 rfl (lv_at hl 0 rfl) ?_
        refine va_get (D := (dC, dI)) (ci := 3) (v := .ref (q 15)) (C := R_M) (T := F_M) (N := 37) hx hb hts i_M hown hK hP 0 rfl rfl 20 (by decide) (hts _ wd_575) (fun _ h9 => h9) rfl d_M_order_46 ?_
        refine lv_iload_n hx hb d_M_order_49 rfl (lv_at hl 1 rfl) ?_
        refine nv_iald (v := nI (S.1 10 (nn x))) hx hb hK hP 15 0 rfl rfl (by omega) (by decide) rfl d_M_order_50 ?_
        have hb5 : S.1 10 (nn x) ≤ 7 := hB 10 _
        refine lv_goto (tgt := 110) hx hb d_M_order_51 (by decide) ?_
        have ho : op_order S x y = (0, nI (S.1 (10 + nn y) (nn x)), S) := by unfold op_order; rw [if_pos k1, if_pos k2]
        rw [ho]
        refine nv_as (nI (S.1 (10 + nn y) (nn x))) (congrArg (fun k => nI (S.1 k (nn x))) (by omega)) ?_
        have hP9 : va_P (dC, dI) classes (wM q cI cZ (S) (nI 0)) H := hP
        exact W.iret hx hb hr (fun t ht hW => ⟨rfl, by rw [ht]; exact hP9, hS.F ht⟩) hS.2.2 d_M_order_110
    · refine lv_iconst (v := nI 0) hx hb d_M_order_39 (by decide) ?_
      have ho : op_order S x y = ((gth (nI 1) (gbit (ok x (S.2.1 4) && rg y 0 4) true true true)), 0, S) := of_order hI c36
      rw [ho]
      refine nv_as (0) (by rfl) ?_
      have hP9 : va_P (dC, dI) classes (wM q cI cZ (S) (nI (gth (nI 1) (gbit (ok x (S.2.1 4) && rg y 0 4) true true true)))) H := hP
      exact W.iret hx hb hr (fun t ht hW => ⟨rfl, by rw [ht]; exact hP9, hS.F ht⟩) hS.2.2 d_M_order_40
  refine lv_iload_n hx hb d_M_order_2 rfl (lv_at hl 1 rfl) ?_
  refine lv_iconst (v := nI 0) hx hb d_M_order_3 (by decide) ?_
  refine lv_aload_n hx hb d_M_order_4 rfl (lv_at hl 0 rfl) ?_
  refine va_get (D := (dC, dI)) (ci := 3) (v := .int (nI (S.2.1 4))) (C := R_M) (T := F_M) (N := 37) hx hb hts i_M hown hK hP 0 rfl rfl 19 (by decide) (hts _ wd_574) (fun _ h9 => h9) rfl d_M_order_5 ?_
  refine lv_iconst (v := nI 1) hx hb d_M_order_8 (by decide) ?_
  refine lv_isub hx hb d_M_order_9 ?_
  refine pu_go (va_runS (As := [.int x, .int (nI 0), .int ((nI (S.2.1 4)) - (nI 1))]) (rest := [.int (nI 1), .ref (q 0)]) ⟨hx, hb, hml, hown, hts⟩ (c_M_in l dC dI x (nI 0) ((nI (S.2.1 4)) - (nI 1))) (cwS 3 hts (gi_S wd_687 wd_688 wd_5 wd_689) rfl rfl rfl (by decide +kernel) ⟨Nat.le_of_ble_eq_true rfl, Nat.le_of_ble_eq_true rfl⟩) (pu_preS (hK.sub (tys' := []) [] rfl) (fun k q h => by simp at h)) rfl rfl hl.1 rfl (lv_room (Nat.le_of_ble_eq_true rfl)) d_M_order_10 ⟨Nat.le_of_ble_eq_true rfl, Nat.le_of_ble_eq_true rfl⟩) ?_
  refine nv_as (b2 (ok x (S.2.1 4))) (congrArg b2 (in_ok (by omega))) ?_
  refine nv_bz (tgt := 29) hx hb d_M_order_13 (by decide) (fun c13 => ?_) (fun c13 => ?_)
  · refine lv_iconst (v := nI 0) hx hb d_M_order_29 (by decide) ?_
    refine nv_as (b2 (ok x (S.2.1 4) && rg y 0 4)) (b2_of0 (by simp [c13])) ?_
    exact J30
  · refine lv_iload_n hx hb d_M_order_16 rfl (lv_at hl 2 rfl) ?_
    refine lv_iconst (v := nI 0) hx hb d_M_order_17 (by decide) ?_
    refine lv_iconst (v := nI 4) hx hb d_M_order_18 (by decide) ?_
    refine pu_go (va_runS (As := [.int y, .int (nI 0), .int (nI 4)]) (rest := [.int (nI 1), .ref (q 0)]) ⟨hx, hb, hml, hown, hts⟩ (c_M_in l dC dI y (nI 0) (nI 4)) (cwS 3 hts (gi_S wd_687 wd_688 wd_5 wd_689) rfl rfl rfl (by decide +kernel) ⟨Nat.le_of_ble_eq_true rfl, Nat.le_of_ble_eq_true rfl⟩) (pu_preS (hK.sub (tys' := []) [] rfl) (fun k q h => by simp at h)) rfl rfl hl.1 rfl (lv_room (Nat.le_of_ble_eq_true rfl)) d_M_order_19 ⟨Nat.le_of_ble_eq_true rfl, Nat.le_of_ble_eq_true rfl⟩) ?_
    refine nv_as (b2 (rg y 0 4)) (congrArg b2 (in_rg (by decide) (by decide))) ?_
    refine nv_bz (tgt := 29) hx hb d_M_order_22 (by decide) (fun c22 => ?_) (fun c22 => ?_)
    · refine lv_iconst (v := nI 0) hx hb d_M_order_29 (by decide) ?_
      refine nv_as (b2 (ok x (S.2.1 4) && rg y 0 4)) (b2_of0 (by simp [c13, c22])) ?_
      exact J30
    · refine lv_iconst (v := nI 1) hx hb d_M_order_25 (by decide) ?_
      refine lv_goto (tgt := 30) hx hb d_M_order_26 (by decide) ?_
      refine nv_as (b2 (ok x (S.2.1 4) && rg y 0 4)) (b2_of1 (by simp [c13, c22])) ?_
      exact J30
set_option maxHeartbeats 4000000 in
set_option maxRecDepth 100000 in
theorem c_M_difference (l : Launch) (dC : Nat → ClassId) (dI : Nat → Nat → Nat) (sz : Nat) (cI cZ : ClassId) (q : Nat → Nat) (S : St) (th : Int32) (t : Nat) (hI : Bd t S) (x y : Int32) (hV : Inv t S)  : Met l y_M_difference (.code y_M_difference b_M_difference 3 (some .int) :: bg) { frames := 1, cells := 0, slots := 0, locals := 27 } (wr_P (dC, dI) classes (wM q cI cZ S th) [(cI, .int), (cZ, .boolean)] sz [.ref (q 0), .int x, .int y]) (wr_Q (some (.int ((op_difference S x y).2.1))) (dC, dI) classes (wM q cI cZ ((op_difference S x y).2.2) (nI (op_difference S x y).1)) (va_A (wM q cI cZ S th) sz)) 0 0 (va_A (wM q cI cZ S th) sz) := by
  refine Met.ofW (cc := b_M_difference) (maxL := 3) (ret := (some .int)) (by decide) rfl ?_
  intro p e s m args below meth c s₁ B hml hv
  obtain ⟨rfl, hsz, hP, hK, hD0⟩ := hv
  subst hsz
  have hD := hD0.self (sz := s.heap.size)
  generalize hAe : va_A (wM q cI cZ S th) s.heap.size = A at hD ⊢
  have hA : ∀ q : Nat, s.heap.size ≤ q → A q := fun q h => by rw [← hAe]; exact Or.inr h
  have hS : va_S A s.heap s.heap [] := va_S.rf
  have hx := B.exec
  have hb := B.bytes
  have hr := B.returns
  have hts := fun w (h : w ∈ bg) => atoms_spec (ws := .code y_M_difference b_M_difference 3 (some .int) :: bg) B.pre w (List.mem_cons_of_mem _ h)
  have hown : s.vm.findClass R_M = some m.cls := findClass_of_methodNamed B.named
  have hlocks := B.notSynchronized
  have hl := lv_entry ([.ref (q 0), .int x, .int y]) (n := 3) (Nat.le_of_ble_eq_true rfl)
  rw [lg_entry_eq]
  generalize (lg_sl ([.ref (q 0), .int x, .int y]) ++ List.replicate (3 - (lg_sl ([.ref (q 0), .int x, .int y])).length) Slot.unset).toArray = ls at hl ⊢
  have hl : lv_has ls 3 [(0, .ref (q 0)), (1, .int x), (2, .int y)] := hl
  have hB := hI.1
  have hg0 : S.2.1 0 ≤ 8 := hI.2.1 0
  have hg1 : S.2.1 1 ≤ 9999 := hI.2.1 1
  have hg2 : S.2.1 2 ≤ 60 := hI.2.1 2
  have hg3 : S.2.1 3 ≤ 60 := hI.2.1 3
  have hg4 : S.2.1 4 ≤ 80 := hI.2.1 4
  have hg5 : S.2.1 5 ≤ 20 := hI.2.1 5
  have hg6 : S.2.1 6 ≤ 80 := hI.2.1 6
  have hg7 : S.2.1 7 ≤ 10 := hI.2.1 7
  have hg8 : t ≤ 512 := hI.2.2
  refine lv_aload_n hx hb d_M_difference_0 rfl (lv_at hl 0 rfl) ?_
  refine lv_iconst (v := nI 1) hx hb d_M_difference_1 (by decide) ?_
  have J30 : W p l e (headSpec (.code y_M_difference b_M_difference 3 (some .int) :: bg) { frames := 1, cells := 0, slots := 0, locals := 27 }).room s m (List.toArray [.ref (q 0), .int x, .int y]) below meth c s.heap [] 0 0 (MQ below (wr_Q (some (.int ((op_difference S x y).2.1))) (dC, dI) classes (wM q cI cZ ((op_difference S x y).2.2) (nI (op_difference S x y).1)) A) (List.toArray [.ref (q 0), .int x, .int y]) s 0 0 A) (F0 m 30 ls [.int (b2 (ok x (S.2.1 6) && rg y 0 4)), .int (nI 1), .ref (q 0)]) := by
    refine lv_iconst (v := b2 true) hx hb d_M_difference_30 (by decide) ?_
    refine lv_iconst (v := b2 true) hx hb d_M_difference_31 (by decide) ?_
    refine lv_iconst (v := b2 true) hx hb d_M_difference_32 (by decide) ?_
    refine wr_goA (va_runV (As := [.int (nI 1), .int (b2 (ok x (S.2.1 6) && rg y 0 4)), .int (b2 true), .int (b2 true), .int (b2 true)]) (rest := []) ⟨hx, hb, hml, hown, hts⟩ (c_M_goes l dC dI s.heap.size cI cZ q S th t hI (nI 1) (ok x (S.2.1 6) && rg y 0 4) true true true) (cwV 5 hts (gi_V wd_676 wd_678 wp_22 wd_5 wd_679) rfl rfl rfl (by decide +kernel) ⟨Nat.le_of_ble_eq_true rfl, Nat.le_of_ble_eq_true rfl⟩) (wr_preV hK hP hD (ci := 3) (q0 := 0) rfl rfl) rfl rfl hl.1 rfl (lv_room (Nat.le_of_ble_eq_true rfl)) d_M_difference_33 ⟨Nat.le_of_ble_eq_true rfl, Nat.le_of_ble_eq_true rfl⟩) hD hS hA wM_adr (fun H locs hP hD hS => ?_)
    refine W.eq (g2 := F0 m 36 ls [.int (b2 ((ok x (S.2.1 6) && rg y 0 4) && (true && (true && true))))]) rfl ?_
    refine nv_bn (tgt := 41) hx hb d_M_difference_36 (by decide) (fun c36 => ?_) (fun c36 => ?_)
    · obtain ⟨k0, r0, t0, o0⟩ := and4 c36
      have hP : va_P (dC, dI) classes (wM q cI cZ S (nI 0)) H := by rw [gz c36] at hP; exact hP
      have hD : va_D A (wM q cI cZ S (nI 0)) := by rw [gz c36] at hD; exact hD
      obtain ⟨k1, k2⟩ := and2 k0
      rw [show rg y 0 4 = ok y 5 from rg_ok (n := 5) (by decide)] at k2
      obtain ⟨e_x, b_x⟩ := ok_of k1
      obtain ⟨e_y, b_y⟩ := ok_of k2
      have hl : lv_has ls 3 [(0, .ref (q 0)), (1, .int (nI (nn x))), (2, .int (nI (nn y)))] := by rw [← e_x, ← e_y]; exact hl
      refine lv_aload_n hx hb d_M_difference_41 rfl (lv_at hl 0 rfl) ?_
      refine va_get (D := (dC, dI)) (ci := 3) (v := .ref (q 25)) (C := R_M) (T := F_M) (N := 37) hx hb hts i_M hown hK hP 0 rfl rfl 32 (by decide) (hts _ wd_587) (fun _ h9 => h9) rfl d_M_difference_42 ?_
      refine lv_iconst (v := nI 5) hx hb d_M_difference_45 (by decide) ?_
      refine lv_iload_n hx hb d_M_difference_46 rfl (lv_at hl 1 rfl) ?_
      refine nv_mul hx hb d_M_difference_47 ?_
      refine lv_iload_n hx hb d_M_difference_48 rfl (lv_at hl 2 rfl) ?_
      refine nv_add hx hb d_M_difference_49 ?_
      refine nv_iald (v := rowd S.1 S.2.2 ((5 * (nn x)) + (nn y))) hx hb hK hP 25 0 rfl rfl (by omega) (by decide) rfl d_M_difference_50 ?_
      have ho : op_difference S x y = (0, if nn y = 2 then S.2.2 (nn x) else nI (S.1 (20 + nn y) (nn x)), S) := by unfold op_difference; rw [if_pos k1, if_pos k2]
      rw [ho]
      refine nv_as (if nn y = 2 then S.2.2 (nn x) else nI (S.1 (20 + nn y) (nn x))) (rowd_any (by omega)) ?_
      have hP9 : va_P (dC, dI) classes (wM q cI cZ (S) (nI 0)) H := hP
      exact W.iret hx hb hr (fun t ht hW => ⟨rfl, by rw [ht]; exact hP9, hS.F ht⟩) hS.2.2 d_M_difference_51
    · refine lv_iconst (v := nI 0) hx hb d_M_difference_39 (by decide) ?_
      have ho : op_difference S x y = ((gth (nI 1) (gbit (ok x (S.2.1 6) && rg y 0 4) true true true)), 0, S) := of_difference hI c36
      rw [ho]
      refine nv_as (0) (by rfl) ?_
      have hP9 : va_P (dC, dI) classes (wM q cI cZ (S) (nI (gth (nI 1) (gbit (ok x (S.2.1 6) && rg y 0 4) true true true)))) H := hP
      exact W.iret hx hb hr (fun t ht hW => ⟨rfl, by rw [ht]; exact hP9, hS.F ht⟩) hS.2.2 d_M_difference_40
  refine lv_iload_n hx hb d_M_difference_2 rfl (lv_at hl 1 rfl) ?_
  refine lv_iconst (v := nI 0) hx hb d_M_difference_3 (by decide) ?_
  refine lv_aload_n hx hb d_M_difference_4 rfl (lv_at hl 0 rfl) ?_
  refine va_get (D := (dC, dI)) (ci := 3) (v := .int (nI (S.2.1 6))) (C := R_M) (T := F_M) (N := 37) hx hb hts i_M hown hK hP 0 rfl rfl 31 (by decide) (hts _ wd_586) (fun _ h9 => h9) rfl d_M_difference_5 ?_
  refine lv_iconst (v := nI 1) hx hb d_M_difference_8 (by decide) ?_
  refine lv_isub hx hb d_M_difference_9 ?_
  refine pu_go (va_runS (As := [.int x, .int (nI 0), .int ((nI (S.2.1 6)) - (nI 1))]) (rest := [.int (nI 1), .ref (q 0)]) ⟨hx, hb, hml, hown, hts⟩ (c_M_in l dC dI x (nI 0) ((nI (S.2.1 6)) - (nI 1))) (cwS 3 hts (gi_S wd_687 wd_688 wd_5 wd_689) rfl rfl rfl (by decide +kernel) ⟨Nat.le_of_ble_eq_true rfl, Nat.le_of_ble_eq_true rfl⟩) (pu_preS (hK.sub (tys' := []) [] rfl) (fun k q h => by simp at h)) rfl rfl hl.1 rfl (lv_room (Nat.le_of_ble_eq_true rfl)) d_M_difference_10 ⟨Nat.le_of_ble_eq_true rfl, Nat.le_of_ble_eq_true rfl⟩) ?_
  refine nv_as (b2 (ok x (S.2.1 6))) (congrArg b2 (in_ok (by omega))) ?_
  refine nv_bz (tgt := 29) hx hb d_M_difference_13 (by decide) (fun c13 => ?_) (fun c13 => ?_)
  · refine lv_iconst (v := nI 0) hx hb d_M_difference_29 (by decide) ?_
    refine nv_as (b2 (ok x (S.2.1 6) && rg y 0 4)) (b2_of0 (by simp [c13])) ?_
    exact J30
  · refine lv_iload_n hx hb d_M_difference_16 rfl (lv_at hl 2 rfl) ?_
    refine lv_iconst (v := nI 0) hx hb d_M_difference_17 (by decide) ?_
    refine lv_iconst (v := nI 4) hx hb d_M_difference_18 (by decide) ?_
    refine pu_go (va_runS (As := [.int y, .int (nI 0), .int (nI 4)]) (rest := [.int (nI 1), .ref (q 0)]) ⟨hx, hb, hml, hown, hts⟩ (c_M_in l dC dI y (nI 0) (nI 4)) (cwS 3 hts (gi_S wd_687 wd_688 wd_5 wd_689) rfl rfl rfl (by decide +kernel) ⟨Nat.le_of_ble_eq_true rfl, Nat.le_of_ble_eq_true rfl⟩) (pu_preS (hK.sub (tys' := []) [] rfl) (fun k q h => by simp at h)) rfl rfl hl.1 rfl (lv_room (Nat.le_of_ble_eq_true rfl)) d_M_difference_19 ⟨Nat.le_of_ble_eq_true rfl, Nat.le_of_ble_eq_true rfl⟩) ?_
    refine nv_as (b2 (rg y 0 4)) (congrArg b2 (in_rg (by decide) (by decide))) ?_
    refine nv_bz (tgt := 29) hx hb d_M_difference_22 (by decide) (fun c22 => ?_) (fun c22 => ?_)
    · refine lv_iconst (v := nI 0) hx hb d_M_difference_29 (by decide) ?_
      refine nv_as (b2 (ok x (S.2.1 6) && rg y 0 4)) (b2_of0 (by simp [c13, c22])) ?_
      exact J30
    · refine lv_iconst (v := nI 1) hx hb d_M_difference_25 (by decide) ?_
      refine lv_goto (tgt := 30) hx hb d_M_difference_26 (by decide) ?_
      refine nv_as (b2 (ok x (S.2.1 6) && rg y 0 4)) (b2_of1 (by simp [c13, c22])) ?_
      exact J30
