theorem lev_r {a b : Int32} : (rg a 0 9999 && (!decide (b < a) && !decide (nI 9999 < b))) = (rg b 0 9999 && rg a 0 (nn b)) := by
  have h9 : (nI 9999).toInt = 9999 := by decide
  have hn : ((nn b : Nat) : Int) = max 0 b.toInt := by unfold nn; omega
  rw [Bool.eq_iff_iff]
  simp only [rg, Bool.and_eq_true, decide_eq_true_eq, Bool.not_eq_true', decide_eq_false_iff_not, Int32.lt_iff_toInt_lt, h9, hn]
  omega
theorem wM_rx {q : Nat → Nat} {cI cZ : ClassId} {S : St} {th : Int32} {i k v ix : Nat} (h : k < 5) (h2 : k ≠ 2) (hx : ix = i * 5 + k) : (wM q cI cZ S th).set 25 (q 25, .inl (cI, 400, .inl (upd (rowd S.1 S.2.2) ix (nI v)))) = wM q cI cZ (S_a S (20 + k) i v) th := by
  subst hx; exact wM_r20 h h2
theorem wM_rzx {q : Nat → Nat} {cI cZ : ClassId} {S : St} {th : Int32} {i ix : Nat} {v : Int32} (hx : ix = i * 5 + 2) : (wM q cI cZ S th).set 25 (q 25, .inl (cI, 400, .inl (upd (rowd S.1 S.2.2) ix v))) = wM q cI cZ (S_z S i v) th := by
  subst hx; exact wM_rz
theorem cnt_o {S : St} {t : Nat} (hI : Bd t S) {x y n : Int32} (h1 : ok x (S.2.1 0) = true) (h2 : ok y (S.2.1 2) = true) (h3 : rg n 0 9999 = true) : decide (n - atv S x y = 0) = decide (nn n = S.1 25 (nn x * 60 + nn y)) := by
  obtain ⟨e, l1, l2⟩ := rg_of h3
  have hb : S.1 25 (nn x * 60 + nn y) ≤ 9999 := hI.1 25 _
  rw [atv_t h1 h2]
  have h4 : (n - nI (S.1 25 (nn x * 60 + nn y)) = 0) ↔ nn n = S.1 25 (nn x * 60 + nn y) := by
    rw [Int32.sub_eq_iff_eq_add, Int32.zero_add]
    conv => lhs; lhs; rw [e]
    exact nI_eq (by omega) (by omega)
  simp only [h4]
theorem cmp_le {h : Int32} {a lo hi : Nat} (h3 : rg h lo hi = true) (ha : a < 2 ^ 31) (hh : hi < 2 ^ 31) : (!decide (h ≤ nI a)) = decide (a < nn h) := by
  obtain ⟨e, l1, l2⟩ := rg_of h3
  by_cases hx : a < nn h
  · rw [decide_eq_true hx, decide_eq_false (fun z => absurd ((nI_leI (by omega) ha).mp (e ▸ z)) (Nat.not_le.mpr hx))]; rfl
  · rw [decide_eq_false hx, decide_eq_true (by rw [e]; exact (nI_leI (by omega) ha).mpr (Nat.not_lt.mp hx))]; rfl
theorem emf_0 {a : Nat → Nat → Nat} {n i : Nat} (h : i < n) (hb : a 19 i ≤ 1) : decide (emf a n i = 0) = decide (a 19 i = 1) := by
  show decide (nI (if i < n ∧ a 19 i = 0 then 1 else 0) = 0) = _
  by_cases h1 : a 19 i = 1
  · rw [if_neg (by omega), decide_eq_true h1]; rfl
  · rw [if_pos ⟨h, by omega⟩, decide_eq_false h1]; rfl
theorem mv_eq {S : St} {i a b n r : Nat} : come (S_g (S_row S 5 i a b n r 1) 3 (i + 1)) i = S_g (addUp (S_a (S_a (S_a (S_a (S_a S 5 i a) 6 i b) 7 i n) 8 i r) 9 i 0) a b n) 3 (i + 1) := by
  have h5 : (S_g (S_row S 5 i a b n r 1) 3 (i + 1)).1 5 i = a := by
    show aU (aU (aU (aU (aU S.1 5 i a) 6 i b) 7 i n) 8 i r) 9 i 1 5 i = a
    rw [aU_n (by decide), aU_n (by decide), aU_n (by decide), aU_n (by decide), aU_s]
  have h6 : (S_g (S_row S 5 i a b n r 1) 3 (i + 1)).1 6 i = b := by
    show aU (aU (aU (aU (aU S.1 5 i a) 6 i b) 7 i n) 8 i r) 9 i 1 6 i = b
    rw [aU_n (by decide), aU_n (by decide), aU_n (by decide), aU_s]
  have h7 : (S_g (S_row S 5 i a b n r 1) 3 (i + 1)).1 7 i = n := by
    show aU (aU (aU (aU (aU S.1 5 i a) 6 i b) 7 i n) 8 i r) 9 i 1 7 i = n
    rw [aU_n (by decide), aU_n (by decide), aU_s]
  have h9 : S_a (S_g (S_row S 5 i a b n r 1) 3 (i + 1)) 9 i 0 = S_g (S_a (S_a (S_a (S_a (S_a S 5 i a) 6 i b) 7 i n) 8 i r) 9 i 0) 3 (i + 1) := by
    show S_g (S_a (S_a (S_a (S_a (S_a (S_a S 5 i a) 6 i b) 7 i n) 8 i r) 9 i 1) 9 i 0) 3 (i + 1) = _
    rw [S_a_two]
  unfold come
  rw [h5, h6, h7, h9]
  rfl
theorem bd_lt {t : Nat} {S : St} (h : Bd t S) : 9999 * t ≤ 5119488 := by have := h.2.2; omega
theorem of_level {S : St} {t : Nat} (hI : Bd t S) {x y a b : Int32} (h : ((ok x (S.2.1 0) && ok y 10) && ((rg a 0 9999 && (!decide (b < a) && !decide (nI 9999 < b))) && (true && true))) = false) : op_level S x y a b = (gth (nI 3) (gbit (ok x (S.2.1 0) && ok y 10) (rg a 0 9999 && (!decide (b < a) && !decide (nI 9999 < b))) true true), 0, S) := by
  rw [lev_r] at h ⊢
  unfold op_level
  cases h1 : ok x (S.2.1 0)
  · exact of_f g3.1.symm
  cases h2 : ok y 10
  · exact of_f g3.1.symm
  cases h3 : rg b 0 9999
  · exact of_f g3.2.1.symm
  cases h4 : rg a 0 (nn b)
  · exact of_f g3.2.1.symm
  rw [h1, h2, h3, h4] at h; exact absurd h (by decide)
theorem of_emergency {S : St} {t : Nat} (hI : Bd t S) {x y n w : Int32} (h : ((ok x (S.2.1 0) && (ok y 10 && rg w 0 19)) && ((rg n 1 9999) && (true && (decide (S.2.1 5 < 20))))) = false) : op_emergency S x y n w = (gth (nI 11) (gbit (ok x (S.2.1 0) && (ok y 10 && rg w 0 19)) (rg n 1 9999) true (decide (S.2.1 5 < 20))), 0, S) := by
  rw [show rg w 0 19 = ok w 20 from rg_ok (n := 20) (by decide)] at h ⊢
  unfold op_emergency
  cases h1 : ok x (S.2.1 0)
  · exact of_f g11.1.symm
  cases h2 : ok y 10
  · exact of_f g11.1.symm
  cases h3 : ok w 20
  · exact of_f g11.1.symm
  cases h4 : rg n 1 9999
  · exact of_f g11.2.1.symm
  have h5 : ¬ S.2.1 5 < 20 := by simpa [h1, h2, h3, h4] using h
  rw [if_pos rfl, if_pos rfl, if_pos rfl, if_pos rfl, if_neg h5, decide_eq_false h5]
  exact of_f g11.2.2.2.symm
theorem of_count {S : St} {t : Nat} (hI : Bd t S) {x y n w : Int32} (h : ((ok x (S.2.1 0) && ok y (S.2.1 2)) && ((rg n 0 9999 && rg w 1 99) && (true && (decide (n - atv S x y = 0) || decide (S.2.1 6 < 80))))) = false) : op_count S x y n w = (gth (nI 11) (gbit (ok x (S.2.1 0) && ok y (S.2.1 2)) (rg n 0 9999 && rg w 1 99) true (decide (n - atv S x y = 0) || decide (S.2.1 6 < 80))), 0, S) := by
  unfold op_count
  cases h1 : ok x (S.2.1 0)
  · exact of_f g11.1.symm
  cases h2 : ok y (S.2.1 2)
  · exact of_f g11.1.symm
  cases h3 : rg n 0 9999
  · exact of_f g11.2.1.symm
  cases h4 : rg w 1 99
  · exact of_f g11.2.1.symm
  rw [cnt_o hI h1 h2 h3] at h ⊢
  have h5 : ¬ nn n = S.1 25 (nn x * 60 + nn y) ∧ ¬ S.2.1 6 < 80 := by simpa [h1, h2, h3, h4] using h
  rw [if_pos rfl, if_pos rfl, if_pos rfl, if_pos rfl, if_neg h5.1, if_neg h5.2, decide_eq_false h5.1, decide_eq_false h5.2]
  exact of_f g11.2.2.2.symm
theorem of_back {S : St} {t : Nat} (hI : Bd t S) {x y n : Int32} (h : ((ok x (S.2.1 0) && ok y (S.2.1 2)) && ((rg n 1 9999) && (true && (!((ok x (S.2.1 0) && ok y (S.2.1 2)) && !decide (nI (S.1 2 (nn y)) < n)) || !decide (nI 9999 < atv S x y + n))))) = false) : op_back S x y n = (gth (nI 11) (gbit (ok x (S.2.1 0) && ok y (S.2.1 2)) (rg n 1 9999) true (!((ok x (S.2.1 0) && ok y (S.2.1 2)) && !decide (nI (S.1 2 (nn y)) < n)) || !decide (nI 9999 < atv S x y + n))), 0, S) := by
  unfold op_back
  cases h1 : ok x (S.2.1 0)
  · exact of_f g11.1.symm
  cases h2 : ok y (S.2.1 2)
  · exact of_f g11.1.symm
  cases h3 : rg n 1 9999
  · exact of_f g11.2.1.symm
  have hb2 : S.1 2 (nn y) ≤ 9999 * t := hI.1 2 _
  have := bd_lt hI
  rw [bring_o hI h1 h2 h3, n_lt h3 (by omega) (by decide)] at h ⊢
  have h5 : nn n ≤ S.1 2 (nn y) ∧ ¬ S.1 25 (nn x * 60 + nn y) + nn n ≤ 9999 := by simpa [h1, h2, h3] using h
  rw [if_pos rfl, if_pos rfl, if_pos rfl, if_neg (show ¬ S.1 2 (nn y) < nn n by omega), if_neg h5.2, decide_eq_false h5.2, decide_eq_true h5.1]
  exact of_f g11.2.2.2.symm
theorem of_waste {S : St} {t : Nat} (hI : Bd t S) {x y n w : Int32} (h : ((ok x (S.2.1 0) && ok y (S.2.1 2)) && ((rg n 1 9999 && rg w 1 9999) && (((ok x (S.2.1 0) && ok y (S.2.1 2)) && !decide (atv S x y < n)) && true))) = false) : op_waste S x y n w = (gth (nI 7) (gbit (ok x (S.2.1 0) && ok y (S.2.1 2)) (rg n 1 9999 && rg w 1 9999) ((ok x (S.2.1 0) && ok y (S.2.1 2)) && !decide (atv S x y < n)) true), 0, S) := by
  unfold op_waste
  cases h1 : ok x (S.2.1 0)
  · exact of_f g7.1.symm
  cases h2 : ok y (S.2.1 2)
  · exact of_f g7.1.symm
  cases h3 : rg n 1 9999
  · exact of_f g7.2.1.symm
  cases h4 : rg w 1 9999
  · exact of_f g7.2.1.symm
  rw [at_o (hi := 0) hI h1 h2 h3] at h ⊢
  have h5 : ¬ nn n ≤ S.1 25 (nn x * 60 + nn y) := by simpa [h1, h2, h3, h4] using h
  rw [if_pos rfl, if_pos rfl, if_pos rfl, if_pos rfl, if_neg h5, decide_eq_false h5]
  exact of_f g7.2.2.1.symm
theorem of_row {S : St} {t : Nat} (hI : Bd t S) {x y : Int32} (h : (true && ((rg x 0 99999 && rg y 0 99999) && ((decide (S.2.1 7 = 0) || (!decide (x ≤ nI (S.1 29 (S.2.1 7 - 1))) && !decide (y ≤ nI (S.1 30 (S.2.1 7 - 1))))) && (decide (S.2.1 7 < 10))))) = false) : op_row S x y = (gth (nI 14) (gbit true (rg x 0 99999 && rg y 0 99999) (decide (S.2.1 7 = 0) || (!decide (x ≤ nI (S.1 29 (S.2.1 7 - 1))) && !decide (y ≤ nI (S.1 30 (S.2.1 7 - 1))))) (decide (S.2.1 7 < 10))), 0, S) := by
  unfold op_row
  cases h1 : rg x 0 99999
  · exact of_f g14.2.1.symm
  cases h2 : rg y 0 99999
  · exact of_f g14.2.1.symm
  have b1 : S.1 29 (S.2.1 7 - 1) ≤ 99999 := hI.1 29 _
  have b2_ : S.1 30 (S.2.1 7 - 1) ≤ 99999 := hI.1 30 _
  rw [cmp_le h1 (by omega) (by decide), cmp_le h2 (by omega) (by decide)] at h ⊢
  rw [if_pos rfl, if_pos rfl]
  by_cases h3 : S.2.1 7 = 0 ∨ (S.1 29 (S.2.1 7 - 1) < nn x ∧ S.1 30 (S.2.1 7 - 1) < nn y)
  · have h4 : (decide (S.2.1 7 = 0) || (decide (S.1 29 (S.2.1 7 - 1) < nn x) && decide (S.1 30 (S.2.1 7 - 1) < nn y))) = true := by simpa using h3
    rw [h1, h2, h4] at h
    have h5 : ¬ S.2.1 7 < 10 := of_decide_eq_false h
    rw [if_pos h3, if_neg h5, h4, decide_eq_false h5]
    exact of_f g14.2.2.2.symm
  · have h4 : (decide (S.2.1 7 = 0) || (decide (S.1 29 (S.2.1 7 - 1) < nn x) && decide (S.1 30 (S.2.1 7 - 1) < nn y))) = false := by rw [← Bool.not_eq_true]; exact fun z => h3 (by simpa using z)
    rw [if_neg h3, h4]
    exact of_f g14.2.2.1.symm
set_option maxHeartbeats 4000000 in
set_option maxRecDepth 100000 in
theorem c_M_level (l : Launch) (dC : Nat → ClassId) (dI : Nat → Nat → Nat) (sz : Nat) (cI cZ : ClassId) (q : Nat → Nat) (S : St) (th : Int32) (t : Nat) (hI : Bd t S) (x y a b : Int32) (hV : Inv t S)  : Met l y_M_level (.code y_M_level b_M_level 5 none :: bg) { frames := 2, cells := 0, slots := 0, locals := 43 } (wr_P (dC, dI) classes (wM q cI cZ S th) [(cI, .int), (cZ, .boolean)] sz [.ref (q 0), .int x, .int y, .int a, .int b]) (wr_Q (none) (dC, dI) classes (wM q cI cZ ((op_level S x y a b).2.2) (nI (op_level S x y a b).1)) (va_A (wM q cI cZ S th) sz)) 0 0 (va_A (wM q cI cZ S th) sz) := by
  refine Met.ofW (cc := b_M_level) (maxL := 5) (ret := none) (by decide) rfl ?_
  intro p e s m args below meth c s₁ B hml hv
  obtain ⟨rfl, hsz, hP, hK, hD0⟩ := hv
  subst hsz
  have hD := hD0.self (sz := s.heap.size)
  generalize hAe : va_A (wM q cI cZ S th) s.heap.size = A at hD ⊢
  have hA : ∀ q : Nat, s.heap.size ≤ q → A q := fun q h => by rw [← hAe]; exact Or.inr h
  have hS : va_S A s.heap s.heap [] := va_S.rf
  have hx := B.exec
  have hb := B.bytes
  have hr := B.returns
  have hts := fun w (h : w ∈ bg) => atoms_spec (ws := .code y_M_level b_M_level 5 none :: bg) B.pre w (List.mem_cons_of_mem _ h)
  have hown : s.vm.findClass R_M = some m.cls := findClass_of_methodNamed B.named
  have hlocks := B.notSynchronized
  have hl := lv_entry ([.ref (q 0), .int x, .int y, .int a, .int b]) (n := 5) (Nat.le_of_ble_eq_true rfl)
  rw [lg_entry_eq]
  generalize (lg_sl ([.ref (q 0), .int x, .int y, .int a, .int b]) ++ List.replicate (5 - (lg_sl ([.ref (q 0), .int x, .int y, .int a, .int b])).length) Slot.unset).toArray = ls at hl ⊢
  have hl : lv_has ls 5 [(0, .ref (q 0)), (1, .int x), (2, .int y), (3, .int a), (4, .int b)] := hl
  have hB := hI.1
  have hg0 : S.2.1 0 ≤ 8 := hI.2.1 0
  have hg1 : S.2.1 1 ≤ 9999 := hI.2.1 1
  have hg2 : S.2.1 2 ≤ 60 := hI.2.1 2
  have hg3 : S.2.1 3 ≤ 60 := hI.2.1 3
  have hg4 : S.2.1 4 ≤ 80 := hI.2.1 4
  have hg5 : S.2.1 5 ≤ 20 := hI.2.1 5
  have hg6 : S.2.1 6 ≤ 80 := hI.2.1 6
  have hg7 : S.2.1 7 ≤ 10 := hI.2.1 7
  have hg8 : t ≤ 512 := hI.2.2
  refine lv_aload_n hx hb d_M_level_0 rfl (lv_at hl 0 rfl) ?_
  refine lv_iconst (v := nI 3) hx hb d_M_level_1 (by decide) ?_
  have J22 : W p l e (headSpec (.code y_M_level b_M_level 5 none :: bg) { frames := 2, cells := 0, slots := 0, locals := 43 }).room s m (List.toArray [.ref (q 0), .int x, .int y, .int a, .int b]) below meth c s.heap [] 0 0 (MQ below (wr_Q (none) (dC, dI) classes (wM q cI cZ ((op_level S x y a b).2.2) (nI (op_level S x y a b).1)) A) (List.toArray [.ref (q 0), .int x, .int y, .int a, .int b]) s 0 0 A) (F0 m 22 ls [.int (b2 (ok x (S.2.1 0) && ok y 10)), .int (nI 3), .ref (q 0)]) := by
    have J50 : W p l e (headSpec (.code y_M_level b_M_level 5 none :: bg) { frames := 2, cells := 0, slots := 0, locals := 43 }).room s m (List.toArray [.ref (q 0), .int x, .int y, .int a, .int b]) below meth c s.heap [] 0 0 (MQ below (wr_Q (none) (dC, dI) classes (wM q cI cZ ((op_level S x y a b).2.2) (nI (op_level S x y a b).1)) A) (List.toArray [.ref (q 0), .int x, .int y, .int a, .int b]) s 0 0 A) (F0 m 50 ls [.int (b2 (rg a 0 9999 && (!decide (b < a) && !decide (nI 9999 < b)))), .int (b2 (ok x (S.2.1 0) && ok y 10)), .int (nI 3), .ref (q 0)]) := by
      refine lv_iconst (v := b2 true) hx hb d_M_level_50 (by decide) ?_
      refine lv_iconst (v := b2 true) hx hb d_M_level_51 (by decide) ?_
      refine wr_goA (va_runV (As := [.int (nI 3), .int (b2 (ok x (S.2.1 0) && ok y 10)), .int (b2 (rg a 0 9999 && (!decide (b < a) && !decide (nI 9999 < b)))), .int (b2 true), .int (b2 true)]) (rest := []) ⟨hx, hb, hml, hown, hts⟩ (c_M_goes l dC dI s.heap.size cI cZ q S th t hI (nI 3) (ok x (S.2.1 0) && ok y 10) (rg a 0 9999 && (!decide (b < a) && !decide (nI 9999 < b))) true true) (cwV 5 hts (gi_V wd_676 wd_678 wp_22 wd_5 wd_679) rfl rfl rfl (by decide +kernel) ⟨Nat.le_of_ble_eq_true rfl, Nat.le_of_ble_eq_true rfl⟩) (wr_preV hK hP hD (ci := 3) (q0 := 0) rfl rfl) rfl rfl hl.1 rfl (lv_room (Nat.le_of_ble_eq_true rfl)) d_M_level_52 ⟨Nat.le_of_ble_eq_true rfl, Nat.le_of_ble_eq_true rfl⟩) hD hS hA wM_adr (fun H locs hP hD hS => ?_)
      refine W.eq (g2 := F0 m 55 ls [.int (b2 ((ok x (S.2.1 0) && ok y 10) && ((rg a 0 9999 && (!decide (b < a) && !decide (nI 9999 < b))) && (true && true))))]) rfl ?_
      refine nv_bn (tgt := 59) hx hb d_M_level_55 (by decide) (fun c55 => ?_) (fun c55 => ?_)
      · obtain ⟨k0, r0, t0, o0⟩ := and4 c55
        have hP : va_P (dC, dI) classes (wM q cI cZ S (nI 0)) H := by rw [gz c55] at hP; exact hP
        have hD : va_D A (wM q cI cZ S (nI 0)) := by rw [gz c55] at hD; exact hD
        obtain ⟨k1, k2⟩ := and2 k0
        rw [lev_r] at r0
        obtain ⟨r1, r2⟩ := and2 r0
        obtain ⟨e_x, b_x⟩ := ok_of k1
        obtain ⟨e_y, b_y⟩ := ok_of k2
        obtain ⟨e_b, l_b, b_b⟩ := rg_of r1
        obtain ⟨e_a, l_a, b_a⟩ := rg_of r2
        have hl : lv_has ls 5 [(0, .ref (q 0)), (1, .int (nI (nn x))), (2, .int (nI (nn y))), (3, .int (nI (nn a))), (4, .int (nI (nn b)))] := by rw [← e_x, ← e_y, ← e_b, ← e_a]; exact hl
        refine lv_aload_n hx hb d_M_level_59 rfl (lv_at hl 0 rfl) ?_
        refine va_get (D := (dC, dI)) (ci := 3) (v := .ref (q 12)) (C := R_M) (T := F_M) (N := 37) hx hb hts i_M hown hK hP 0 rfl rfl 16 (by decide) (hts _ wd_571) (fun _ h9 => h9) rfl d_M_level_60 ?_
        refine lv_iload_n hx hb d_M_level_63 rfl (lv_at hl 1 rfl) ?_
        refine lv_bipush (v := nI 10) hx hb d_M_level_64 (by decide) ?_
        refine nv_mul hx hb d_M_level_66 ?_
        refine lv_iload_n hx hb d_M_level_67 rfl (lv_at hl 2 rfl) ?_
        refine nv_add hx hb d_M_level_68 ?_
        refine lv_iconst (v := nI 1) hx hb d_M_level_69 (by decide) ?_
        refine nv_zast (f' := upd (colf S.1 31) (((nn x) * 10) + (nn y)) (nI 1)) hx hb hK hP hD hS 12 1 rfl rfl (by omega) (by decide) (by decide) rfl (wM q cI cZ (S_a S 31 (((nn x) * 10) + (nn y)) 1) (nI 0)) wM_c31 d_M_level_70 (fun H locs hP hD hS => ?_)
        refine lv_aload_n hx hb d_M_level_71 rfl (lv_at hl 0 rfl) ?_
        refine va_get (D := (dC, dI)) (ci := 3) (v := .ref (q 13)) (C := R_M) (T := F_M) (N := 37) hx hb hts i_M hown hK hP 0 rfl rfl 17 (by decide) (hts _ wd_572) (fun _ h9 => h9) rfl d_M_level_72 ?_
        refine lv_iload_n hx hb d_M_level_75 rfl (lv_at hl 1 rfl) ?_
        refine lv_bipush (v := nI 10) hx hb d_M_level_76 (by decide) ?_
        refine nv_mul hx hb d_M_level_78 ?_
        refine lv_iload_n hx hb d_M_level_79 rfl (lv_at hl 2 rfl) ?_
        refine nv_add hx hb d_M_level_80 ?_
        refine lv_iload_n hx hb d_M_level_81 rfl (lv_at hl 3 rfl) ?_
        refine nv_iast (f' := upd (colf (S_a S 31 (((nn x) * 10) + (nn y)) 1).1 26) (((nn x) * 10) + (nn y)) (nI (nn a))) hx hb hK hP hD hS 13 0 rfl rfl (by omega) (by decide) rfl (wM q cI cZ (S_a (S_a S 31 (((nn x) * 10) + (nn y)) 1) 26 (((nn x) * 10) + (nn y)) (nn a)) (nI 0)) wM_c26 d_M_level_82 (fun H locs hP hD hS => ?_)
        refine lv_aload_n hx hb d_M_level_83 rfl (lv_at hl 0 rfl) ?_
        refine va_get (D := (dC, dI)) (ci := 3) (v := .ref (q 14)) (C := R_M) (T := F_M) (N := 37) hx hb hts i_M hown hK hP 0 rfl rfl 18 (by decide) (hts _ wd_573) (fun _ h9 => h9) rfl d_M_level_84 ?_
        refine lv_iload_n hx hb d_M_level_87 rfl (lv_at hl 1 rfl) ?_
        refine lv_bipush (v := nI 10) hx hb d_M_level_88 (by decide) ?_
        refine nv_mul hx hb d_M_level_90 ?_
        refine lv_iload_n hx hb d_M_level_91 rfl (lv_at hl 2 rfl) ?_
        refine nv_add hx hb d_M_level_92 ?_
        refine lv_iload hx hb d_M_level_93 (lv_at hl 4 rfl) ?_
        refine nv_iast (f' := upd (colf (S_a (S_a S 31 (((nn x) * 10) + (nn y)) 1) 26 (((nn x) * 10) + (nn y)) (nn a)).1 27) (((nn x) * 10) + (nn y)) (nI (nn b))) hx hb hK hP hD hS 14 0 rfl rfl (by omega) (by decide) rfl (wM q cI cZ (S_a (S_a (S_a S 31 (((nn x) * 10) + (nn y)) 1) 26 (((nn x) * 10) + (nn y)) (nn a)) 27 (((nn x) * 10) + (nn y)) (nn b)) (nI 0)) wM_c27 d_M_level_95 (fun H locs hP hD hS => ?_)
        have ho : op_level S x y a b = (0, 0, S_a (S_a (S_a S 26 (nn x * 10 + nn y) (nn a)) 27 (nn x * 10 + nn y) (nn b)) 31 (nn x * 10 + nn y) 1) := by unfold op_level; rw [if_pos k1, if_pos k2, if_pos r1, if_pos r2]
        rw [ho]
        have hP9 : va_P (dC, dI) classes (wM q cI cZ (S_a (S_a (S_a S 26 (nn x * 10 + nn y) (nn a)) 27 (nn x * 10 + nn y) (nn b)) 31 (nn x * 10 + nn y) 1) (nI 0)) H := by rw [S_a_comm (k := 27) (k1 := 31) (by decide), S_a_comm (k := 26) (k1 := 31) (by decide)]; exact hP
        exact W.vret hx hb hr (fun t ht hW => ⟨rfl, by rw [ht]; exact hP9, hS.F ht⟩) hS.2.2 d_M_level_96
      · have ho : op_level S x y a b = ((gth (nI 3) (gbit (ok x (S.2.1 0) && ok y 10) (rg a 0 9999 && (!decide (b < a) && !decide (nI 9999 < b))) true true)), 0, S) := of_level hI c55
        rw [ho]
        have hP9 : va_P (dC, dI) classes (wM q cI cZ (S) (nI (gth (nI 3) (gbit (ok x (S.2.1 0) && ok y 10) (rg a 0 9999 && (!decide (b < a) && !decide (nI 9999 < b))) true true)))) H := hP
        exact W.vret hx hb hr (fun t ht hW => ⟨rfl, by rw [ht]; exact hP9, hS.F ht⟩) hS.2.2 d_M_level_58
    refine lv_iload_n hx hb d_M_level_22 rfl (lv_at hl 3 rfl) ?_
    refine lv_iconst (v := nI 0) hx hb d_M_level_23 (by decide) ?_
    refine lv_sipush (v := nI 9999) hx hb d_M_level_24 (by decide) ?_
    refine pu_go (va_runS (As := [.int a, .int (nI 0), .int (nI 9999)]) (rest := [.int (b2 (ok x (S.2.1 0) && ok y 10)), .int (nI 3), .ref (q 0)]) ⟨hx, hb, hml, hown, hts⟩ (c_M_in l dC dI a (nI 0) (nI 9999)) (cwS 3 hts (gi_S wd_687 wd_688 wd_5 wd_689) rfl rfl rfl (by decide +kernel) ⟨Nat.le_of_ble_eq_true rfl, Nat.le_of_ble_eq_true rfl⟩) (pu_preS (hK.sub (tys' := []) [] rfl) (fun k q h => by simp at h)) rfl rfl hl.1 rfl (lv_room (Nat.le_of_ble_eq_true rfl)) d_M_level_27 ⟨Nat.le_of_ble_eq_true rfl, Nat.le_of_ble_eq_true rfl⟩) ?_
    refine nv_as (b2 (rg a 0 9999)) (congrArg b2 (in_rg (by decide) (by decide))) ?_
    refine nv_bz (tgt := 49) hx hb d_M_level_30 (by decide) (fun c30 => ?_) (fun c30 => ?_)
    · refine lv_iconst (v := nI 0) hx hb d_M_level_49 (by decide) ?_
      refine nv_as (b2 (rg a 0 9999 && (!decide (b < a) && !decide (nI 9999 < b)))) (b2_of0 (by simp [c30])) ?_
      exact J50
    · refine lv_iload hx hb d_M_level_33 (lv_at hl 4 rfl) ?_
      refine lv_iload_n hx hb d_M_level_35 rfl (lv_at hl 3 rfl) ?_
      refine lv_sipush (v := nI 9999) hx hb d_M_level_36 (by decide) ?_
      refine pu_go (va_runS (As := [.int b, .int a, .int (nI 9999)]) (rest := [.int (b2 (ok x (S.2.1 0) && ok y 10)), .int (nI 3), .ref (q 0)]) ⟨hx, hb, hml, hown, hts⟩ (c_M_in l dC dI b a (nI 9999)) (cwS 3 hts (gi_S wd_687 wd_688 wd_5 wd_689) rfl rfl rfl (by decide +kernel) ⟨Nat.le_of_ble_eq_true rfl, Nat.le_of_ble_eq_true rfl⟩) (pu_preS (hK.sub (tys' := []) [] rfl) (fun k q h => by simp at h)) rfl rfl hl.1 rfl (lv_room (Nat.le_of_ble_eq_true rfl)) d_M_level_39 ⟨Nat.le_of_ble_eq_true rfl, Nat.le_of_ble_eq_true rfl⟩) ?_
      refine nv_bz (tgt := 49) hx hb d_M_level_42 (by decide) (fun c42 => ?_) (fun c42 => ?_)
      · refine lv_iconst (v := nI 0) hx hb d_M_level_49 (by decide) ?_
        refine nv_as (b2 (rg a 0 9999 && (!decide (b < a) && !decide (nI 9999 < b)))) (b2_of0 (by simp [c30, c42])) ?_
        exact J50
      · refine lv_iconst (v := nI 1) hx hb d_M_level_45 (by decide) ?_
        refine lv_goto (tgt := 50) hx hb d_M_level_46 (by decide) ?_
        refine nv_as (b2 (rg a 0 9999 && (!decide (b < a) && !decide (nI 9999 < b)))) (b2_of1 (by simp [c30, c42])) ?_
        exact J50
  refine lv_aload_n hx hb d_M_level_2 rfl (lv_at hl 0 rfl) ?_
  refine lv_iload_n hx hb d_M_level_3 rfl (lv_at hl 1 rfl) ?_
  refine pu_go (va_runV (As := [.int x]) (rest := [.int (nI 3), .ref (q 0)]) ⟨hx, hb, hml, hown, hts⟩ (c_M_isStore l dC dI cI cZ q S th t hI x) (cwV 1 hts (gi_V wd_694 wd_696 wp_23 wd_5 wd_697) rfl rfl rfl (by decide +kernel) ⟨Nat.le_of_ble_eq_true rfl, Nat.le_of_ble_eq_true rfl⟩) (pu_preV hK hP (ci := 3) (q0 := 0) rfl rfl) rfl rfl hl.1 rfl (lv_room (Nat.le_of_ble_eq_true rfl)) d_M_level_4 ⟨Nat.le_of_ble_eq_true rfl, Nat.le_of_ble_eq_true rfl⟩) ?_
  refine nv_bz (tgt := 21) hx hb d_M_level_7 (by decide) (fun c7 => ?_) (fun c7 => ?_)
  · refine lv_iconst (v := nI 0) hx hb d_M_level_21 (by decide) ?_
    refine nv_as (b2 (ok x (S.2.1 0) && ok y 10)) (b2_of0 (by simp [c7])) ?_
    exact J22
  · refine lv_iload_n hx hb d_M_level_10 rfl (lv_at hl 2 rfl) ?_
    refine pu_go (va_runS (As := [.int y]) (rest := [.int (nI 3), .ref (q 0)]) ⟨hx, hb, hml, hown, hts⟩ (c_M_isKind l dC dI y) (cwS 1 hts (gi_S wd_684 wd_685 wd_5 wd_686) rfl rfl rfl (by decide +kernel) ⟨Nat.le_of_ble_eq_true rfl, Nat.le_of_ble_eq_true rfl⟩) (pu_preS (hK.sub (tys' := []) [] rfl) (fun k q h => by simp at h)) rfl rfl hl.1 rfl (lv_room (Nat.le_of_ble_eq_true rfl)) d_M_level_11 ⟨Nat.le_of_ble_eq_true rfl, Nat.le_of_ble_eq_true rfl⟩) ?_
    refine nv_bz (tgt := 21) hx hb d_M_level_14 (by decide) (fun c14 => ?_) (fun c14 => ?_)
    · refine lv_iconst (v := nI 0) hx hb d_M_level_21 (by decide) ?_
      refine nv_as (b2 (ok x (S.2.1 0) && ok y 10)) (b2_of0 (by simp [c7, c14])) ?_
      exact J22
    · refine lv_iconst (v := nI 1) hx hb d_M_level_17 (by decide) ?_
      refine lv_goto (tgt := 22) hx hb d_M_level_18 (by decide) ?_
      refine nv_as (b2 (ok x (S.2.1 0) && ok y 10)) (b2_of1 (by simp [c7, c14])) ?_
      exact J22
set_option maxHeartbeats 4000000 in
set_option maxRecDepth 100000 in
theorem c_M_emergency (l : Launch) (dC : Nat → ClassId) (dI : Nat → Nat → Nat) (sz : Nat) (cI cZ : ClassId) (q : Nat → Nat) (S : St) (th : Int32) (t : Nat) (hI : Bd t S) (x y n w : Int32) (hV : Inv t S)  : Met l y_M_emergency (.code y_M_emergency b_M_emergency 5 (some .int) :: bg) { frames := 2, cells := 0, slots := 0, locals := 43 } (wr_P (dC, dI) classes (wM q cI cZ S th) [(cI, .int), (cZ, .boolean)] sz [.ref (q 0), .int x, .int y, .int n, .int w]) (wr_Q (some (.int ((op_emergency S x y n w).2.1))) (dC, dI) classes (wM q cI cZ ((op_emergency S x y n w).2.2) (nI (op_emergency S x y n w).1)) (va_A (wM q cI cZ S th) sz)) 0 0 (va_A (wM q cI cZ S th) sz) := by
  refine Met.ofW (cc := b_M_emergency) (maxL := 5) (ret := (some .int)) (by decide) rfl ?_
  intro p e s m args below meth c s₁ B hml hv
  obtain ⟨rfl, hsz, hP, hK, hD0⟩ := hv
  subst hsz
  have hD := hD0.self (sz := s.heap.size)
  generalize hAe : va_A (wM q cI cZ S th) s.heap.size = A at hD ⊢
  have hA : ∀ q : Nat, s.heap.size ≤ q → A q := fun q h => by rw [← hAe]; exact Or.inr h
  have hS : va_S A s.heap s.heap [] := va_S.rf
  have hx := B.exec
  have hb := B.bytes
  have hr := B.returns
  have hts := fun w (h : w ∈ bg) => atoms_spec (ws := .code y_M_emergency b_M_emergency 5 (some .int) :: bg) B.pre w (List.mem_cons_of_mem _ h)
  have hown : s.vm.findClass R_M = some m.cls := findClass_of_methodNamed B.named
  have hlocks := B.notSynchronized
  have hl := lv_entry ([.ref (q 0), .int x, .int y, .int n, .int w]) (n := 5) (Nat.le_of_ble_eq_true rfl)
  rw [lg_entry_eq]
  generalize (lg_sl ([.ref (q 0), .int x, .int y, .int n, .int w]) ++ List.replicate (5 - (lg_sl ([.ref (q 0), .int x, .int y, .int n, .int w])).length) Slot.unset).toArray = ls at hl ⊢
  have hl : lv_has ls 5 [(0, .ref (q 0)), (1, .int x), (2, .int y), (3, .int n), (4, .int w)] := hl
  have hB := hI.1
  have hg0 : S.2.1 0 ≤ 8 := hI.2.1 0
  have hg1 : S.2.1 1 ≤ 9999 := hI.2.1 1
  have hg2 : S.2.1 2 ≤ 60 := hI.2.1 2
  have hg3 : S.2.1 3 ≤ 60 := hI.2.1 3
  have hg4 : S.2.1 4 ≤ 80 := hI.2.1 4
  have hg5 : S.2.1 5 ≤ 20 := hI.2.1 5
  have hg6 : S.2.1 6 ≤ 80 := hI.2.1 6
  have hg7 : S.2.1 7 ≤ 10 := hI.2.1 7
  have hg8 : t ≤ 512 := hI.2.2
  refine lv_aload_n hx hb d_M_emergency_0 rfl (lv_at hl 0 rfl) ?_
  refine lv_bipush (v := nI 11) hx hb d_M_emergency_1 (by decide) ?_
  have J34 : W p l e (headSpec (.code y_M_emergency b_M_emergency 5 (some .int) :: bg) { frames := 2, cells := 0, slots := 0, locals := 43 }).room s m (List.toArray [.ref (q 0), .int x, .int y, .int n, .int w]) below meth c s.heap [] 0 0 (MQ below (wr_Q (some (.int ((op_emergency S x y n w).2.1))) (dC, dI) classes (wM q cI cZ ((op_emergency S x y n w).2.2) (nI (op_emergency S x y n w).1)) A) (List.toArray [.ref (q 0), .int x, .int y, .int n, .int w]) s 0 0 A) (F0 m 34 ls [.int (b2 (ok x (S.2.1 0) && (ok y 10 && rg w 0 19))), .int (nI 11), .ref (q 0)]) := by
    refine lv_iload_n hx hb d_M_emergency_34 rfl (lv_at hl 3 rfl) ?_
    refine pu_go (va_runS (As := [.int n]) (rest := [.int (b2 (ok x (S.2.1 0) && (ok y 10 && rg w 0 19))), .int (nI 11), .ref (q 0)]) ⟨hx, hb, hml, hown, hts⟩ (c_M_isMany l dC dI n) (cwS 1 hts (gi_S wd_702 wd_703 wd_5 wd_704) rfl rfl rfl (by decide +kernel) ⟨Nat.le_of_ble_eq_true rfl, Nat.le_of_ble_eq_true rfl⟩) (pu_preS (hK.sub (tys' := []) [] rfl) (fun k q h => by simp at h)) rfl rfl hl.1 rfl (lv_room (Nat.le_of_ble_eq_true rfl)) d_M_emergency_35 ⟨Nat.le_of_ble_eq_true rfl, Nat.le_of_ble_eq_true rfl⟩) ?_
    refine lv_iconst (v := b2 true) hx hb d_M_emergency_38 (by decide) ?_
    have J53 : W p l e (headSpec (.code y_M_emergency b_M_emergency 5 (some .int) :: bg) { frames := 2, cells := 0, slots := 0, locals := 43 }).room s m (List.toArray [.ref (q 0), .int x, .int y, .int n, .int w]) below meth c s.heap [] 0 0 (MQ below (wr_Q (some (.int ((op_emergency S x y n w).2.1))) (dC, dI) classes (wM q cI cZ ((op_emergency S x y n w).2.2) (nI (op_emergency S x y n w).1)) A) (List.toArray [.ref (q 0), .int x, .int y, .int n, .int w]) s 0 0 A) (F0 m 53 ls [.int (b2 (decide (S.2.1 5 < 20))), .int (b2 true), .int (b2 (rg n 1 9999)), .int (b2 (ok x (S.2.1 0) && (ok y 10 && rg w 0 19))), .int (nI 11), .ref (q 0)]) := by
      refine wr_goA (va_runV (As := [.int (nI 11), .int (b2 (ok x (S.2.1 0) && (ok y 10 && rg w 0 19))), .int (b2 (rg n 1 9999)), .int (b2 true), .int (b2 (decide (S.2.1 5 < 20)))]) (rest := []) ⟨hx, hb, hml, hown, hts⟩ (c_M_goes l dC dI s.heap.size cI cZ q S th t hI (nI 11) (ok x (S.2.1 0) && (ok y 10 && rg w 0 19)) (rg n 1 9999) true (decide (S.2.1 5 < 20))) (cwV 5 hts (gi_V wd_676 wd_678 wp_22 wd_5 wd_679) rfl rfl rfl (by decide +kernel) ⟨Nat.le_of_ble_eq_true rfl, Nat.le_of_ble_eq_true rfl⟩) (wr_preV hK hP hD (ci := 3) (q0 := 0) rfl rfl) rfl rfl hl.1 rfl (lv_room (Nat.le_of_ble_eq_true rfl)) d_M_emergency_53 ⟨Nat.le_of_ble_eq_true rfl, Nat.le_of_ble_eq_true rfl⟩) hD hS hA wM_adr (fun H locs hP hD hS => ?_)
      refine W.eq (g2 := F0 m 56 ls [.int (b2 ((ok x (S.2.1 0) && (ok y 10 && rg w 0 19)) && ((rg n 1 9999) && (true && (decide (S.2.1 5 < 20))))))]) rfl ?_
      refine nv_bn (tgt := 61) hx hb d_M_emergency_56 (by decide) (fun c56 => ?_) (fun c56 => ?_)
      · obtain ⟨k0, r0, t0, o0⟩ := and4 c56
        have hP : va_P (dC, dI) classes (wM q cI cZ S (nI 0)) H := by rw [gz c56] at hP; exact hP
        have hD : va_D A (wM q cI cZ S (nI 0)) := by rw [gz c56] at hD; exact hD
        obtain ⟨k1, k9⟩ := and2 k0
        obtain ⟨k2, k3⟩ := and2 k9
        rw [show rg w 0 19 = ok w 20 from rg_ok (n := 20) (by decide)] at k3
        have o1 := of_decide_eq_true o0
        obtain ⟨e_x, b_x⟩ := ok_of k1
        obtain ⟨e_y, b_y⟩ := ok_of k2
        obtain ⟨e_n, l_n, b_n⟩ := rg_of r0
        obtain ⟨e_w, b_w⟩ := ok_of k3
        have hl : lv_has ls 5 [(0, .ref (q 0)), (1, .int (nI (nn x))), (2, .int (nI (nn y))), (3, .int (nI (nn n))), (4, .int (nI (nn w)))] := by rw [← e_x, ← e_y, ← e_n, ← e_w]; exact hl
        refine lv_aload_n hx hb d_M_emergency_61 rfl (lv_at hl 0 rfl) ?_
        refine va_get (D := (dC, dI)) (ci := 3) (v := .ref (q 20)) (C := R_M) (T := F_M) (N := 37) hx hb hts i_M hown hK hP 0 rfl rfl 26 (by decide) (hts _ wd_581) (fun _ h9 => h9) rfl d_M_emergency_62 ?_
        refine lv_aload_n hx hb d_M_emergency_65 rfl (lv_at hl 0 rfl) ?_
        refine va_get (D := (dC, dI)) (ci := 3) (v := .int (nI (S.2.1 5))) (C := R_M) (T := F_M) (N := 37) hx hb hts i_M hown hK hP 0 rfl rfl 25 (by decide) (hts _ wd_580) (fun _ h9 => h9) rfl d_M_emergency_66 ?_
        refine lv_iload_n hx hb d_M_emergency_69 rfl (lv_at hl 1 rfl) ?_
        refine nv_iast (f' := upd (colf S.1 15) (S.2.1 5) (nI (nn x))) hx hb hK hP hD hS 20 0 rfl rfl (by omega) (by decide) rfl (wM q cI cZ (S_a S 15 (S.2.1 5) (nn x)) (nI 0)) wM_c15 d_M_emergency_70 (fun H locs hP hD hS => ?_)
        refine lv_aload_n hx hb d_M_emergency_71 rfl (lv_at hl 0 rfl) ?_
        refine va_get (D := (dC, dI)) (ci := 3) (v := .ref (q 21)) (C := R_M) (T := F_M) (N := 37) hx hb hts i_M hown hK hP 0 rfl rfl 27 (by decide) (hts _ wd_582) (fun _ h9 => h9) rfl d_M_emergency_72 ?_
        refine lv_aload_n hx hb d_M_emergency_75 rfl (lv_at hl 0 rfl) ?_
        refine va_get (D := (dC, dI)) (ci := 3) (v := .int (nI (S.2.1 5))) (C := R_M) (T := F_M) (N := 37) hx hb hts i_M hown hK hP 0 rfl rfl 25 (by decide) (hts _ wd_580) (fun _ h9 => h9) rfl d_M_emergency_76 ?_
        refine lv_iload_n hx hb d_M_emergency_79 rfl (lv_at hl 2 rfl) ?_
        refine nv_iast (f' := upd (colf (S_a S 15 (S.2.1 5) (nn x)).1 16) (S.2.1 5) (nI (nn y))) hx hb hK hP hD hS 21 0 rfl rfl (by omega) (by decide) rfl (wM q cI cZ (S_a (S_a S 15 (S.2.1 5) (nn x)) 16 (S.2.1 5) (nn y)) (nI 0)) wM_c16 d_M_emergency_80 (fun H locs hP hD hS => ?_)
        refine lv_aload_n hx hb d_M_emergency_81 rfl (lv_at hl 0 rfl) ?_
        refine va_get (D := (dC, dI)) (ci := 3) (v := .ref (q 22)) (C := R_M) (T := F_M) (N := 37) hx hb hts i_M hown hK hP 0 rfl rfl 28 (by decide) (hts _ wd_583) (fun _ h9 => h9) rfl d_M_emergency_82 ?_
        refine lv_aload_n hx hb d_M_emergency_85 rfl (lv_at hl 0 rfl) ?_
        refine va_get (D := (dC, dI)) (ci := 3) (v := .int (nI (S.2.1 5))) (C := R_M) (T := F_M) (N := 37) hx hb hts i_M hown hK hP 0 rfl rfl 25 (by decide) (hts _ wd_580) (fun _ h9 => h9) rfl d_M_emergency_86 ?_
        refine lv_iload_n hx hb d_M_emergency_89 rfl (lv_at hl 3 rfl) ?_
        refine nv_iast (f' := upd (colf (S_a (S_a S 15 (S.2.1 5) (nn x)) 16 (S.2.1 5) (nn y)).1 17) (S.2.1 5) (nI (nn n))) hx hb hK hP hD hS 22 0 rfl rfl (by omega) (by decide) rfl (wM q cI cZ (S_a (S_a (S_a S 15 (S.2.1 5) (nn x)) 16 (S.2.1 5) (nn y)) 17 (S.2.1 5) (nn n)) (nI 0)) wM_c17 d_M_emergency_90 (fun H locs hP hD hS => ?_)
        refine lv_aload_n hx hb d_M_emergency_91 rfl (lv_at hl 0 rfl) ?_
        refine va_get (D := (dC, dI)) (ci := 3) (v := .ref (q 23)) (C := R_M) (T := F_M) (N := 37) hx hb hts i_M hown hK hP 0 rfl rfl 29 (by decide) (hts _ wd_584) (fun _ h9 => h9) rfl d_M_emergency_92 ?_
        refine lv_aload_n hx hb d_M_emergency_95 rfl (lv_at hl 0 rfl) ?_
        refine va_get (D := (dC, dI)) (ci := 3) (v := .int (nI (S.2.1 5))) (C := R_M) (T := F_M) (N := 37) hx hb hts i_M hown hK hP 0 rfl rfl 25 (by decide) (hts _ wd_580) (fun _ h9 => h9) rfl d_M_emergency_96 ?_
        refine lv_iload hx hb d_M_emergency_99 (lv_at hl 4 rfl) ?_
        refine nv_iast (f' := upd (colf (S_a (S_a (S_a S 15 (S.2.1 5) (nn x)) 16 (S.2.1 5) (nn y)) 17 (S.2.1 5) (nn n)).1 18) (S.2.1 5) (nI (nn w))) hx hb hK hP hD hS 23 0 rfl rfl (by omega) (by decide) rfl (wM q cI cZ (S_a (S_a (S_a (S_a S 15 (S.2.1 5) (nn x)) 16 (S.2.1 5) (nn y)) 17 (S.2.1 5) (nn n)) 18 (S.2.1 5) (nn w)) (nI 0)) wM_c18 d_M_emergency_101 (fun H locs hP hD hS => ?_)
        refine lv_aload_n hx hb d_M_emergency_102 rfl (lv_at hl 0 rfl) ?_
        refine lv_dup hx hb d_M_emergency_103 rfl ?_
        refine va_get (D := (dC, dI)) (ci := 3) (v := .int (nI (S.2.1 5))) (C := R_M) (T := F_M) (N := 37) hx hb hts i_M hown hK hP 0 rfl rfl 25 (by decide) (hts _ wd_580) (fun _ h9 => h9) rfl d_M_emergency_104 ?_
        refine lv_iconst (v := nI 1) hx hb d_M_emergency_107 (by decide) ?_
        refine nv_add hx hb d_M_emergency_108 ?_
        refine va_put (D := (dC, dI)) (ci := 3) (v := .int (nI ((S.2.1 5) + 1))) (ty := .int) (C := R_M) (T := F_M) (N := 37) hx hb hts i_M ty_M ty_M_ok n_M hown hK hP hD hS 0 rfl rfl 25 (by decide) (hts _ wd_580) (fun _ h9 => h9) rfl (by decide +kernel) rfl rfl (Nat.le_of_ble_eq_true rfl) d_M_emergency_109 (fun H locs hP hD hS => ?_)
        have hP : va_P (dC, dI) classes (wM q cI cZ (S_g (S_a (S_a (S_a (S_a (S_a S 15 (S.2.1 5) (nn x)) 16 (S.2.1 5) (nn y)) 17 (S.2.1 5) (nn n)) 18 (S.2.1 5) (nn w)) 19 ((S_a (S_a (S_a (S_a S 15 (S.2.1 5) (nn x)) 16 (S.2.1 5) (nn y)) 17 (S.2.1 5) (nn n)) 18 (S.2.1 5) (nn w)).2.1 5) 1) 5 ((S_a (S_a (S_a (S_a S 15 (S.2.1 5) (nn x)) 16 (S.2.1 5) (nn y)) 17 (S.2.1 5) (nn n)) 18 (S.2.1 5) (nn w)).2.1 5 + 1)) (nI 0)) H := by rw [← wM_19]; exact hP
        have hD : va_D A (wM q cI cZ (S_g (S_a (S_a (S_a (S_a (S_a S 15 (S.2.1 5) (nn x)) 16 (S.2.1 5) (nn y)) 17 (S.2.1 5) (nn n)) 18 (S.2.1 5) (nn w)) 19 ((S_a (S_a (S_a (S_a S 15 (S.2.1 5) (nn x)) 16 (S.2.1 5) (nn y)) 17 (S.2.1 5) (nn n)) 18 (S.2.1 5) (nn w)).2.1 5) 1) 5 ((S_a (S_a (S_a (S_a S 15 (S.2.1 5) (nn x)) 16 (S.2.1 5) (nn y)) 17 (S.2.1 5) (nn n)) 18 (S.2.1 5) (nn w)).2.1 5 + 1)) (nI 0)) := by rw [← wM_19]; exact hD
        refine lv_aload_n hx hb d_M_emergency_112 rfl (lv_at hl 0 rfl) ?_
        refine va_get (D := (dC, dI)) (ci := 3) (v := .int (nI ((S.2.1 5) + 1))) (C := R_M) (T := F_M) (N := 37) hx hb hts i_M hown hK hP 0 rfl rfl 25 (by decide) (hts _ wd_580) (fun _ h9 => h9) rfl d_M_emergency_113 ?_
        refine lv_iconst (v := nI 1) hx hb d_M_emergency_116 (by decide) ?_
        refine nv_sub hx hb (by omega) d_M_emergency_117 ?_
        have ho : op_emergency S x y n w = (0, nI (S.2.1 5), S_g (S_row S 15 (S.2.1 5) (nn x) (nn y) (nn n) (nn w) 1) 5 (S.2.1 5 + 1)) := by unfold op_emergency; rw [if_pos k1, if_pos k2, if_pos k3, if_pos r0, if_pos o1]
        rw [ho]
        refine nv_as (nI (S.2.1 5)) (by rw [Nat.add_sub_cancel]) ?_
        have hP9 : va_P (dC, dI) classes (wM q cI cZ (S_g (S_row S 15 (S.2.1 5) (nn x) (nn y) (nn n) (nn w) 1) 5 (S.2.1 5 + 1)) (nI 0)) H := hP
        exact W.iret hx hb hr (fun t ht hW => ⟨rfl, by rw [ht]; exact hP9, hS.F ht⟩) hS.2.2 d_M_emergency_118
      · refine lv_iconst (v := nI 0) hx hb d_M_emergency_59 (by decide) ?_
        have ho : op_emergency S x y n w = ((gth (nI 11) (gbit (ok x (S.2.1 0) && (ok y 10 && rg w 0 19)) (rg n 1 9999) true (decide (S.2.1 5 < 20)))), 0, S) := of_emergency hI c56
        rw [ho]
        refine nv_as (0) (by rfl) ?_
        have hP9 : va_P (dC, dI) classes (wM q cI cZ (S) (nI (gth (nI 11) (gbit (ok x (S.2.1 0) && (ok y 10 && rg w 0 19)) (rg n 1 9999) true (decide (S.2.1 5 < 20)))))) H := hP
        exact W.iret hx hb hr (fun t ht hW => ⟨rfl, by rw [ht]; exact hP9, hS.F ht⟩) hS.2.2 d_M_emergency_60
    refine lv_aload_n hx hb d_M_emergency_39 rfl (lv_at hl 0 rfl) ?_
    refine va_get (D := (dC, dI)) (ci := 3) (v := .int (nI (S.2.1 5))) (C := R_M) (T := F_M) (N := 37) hx hb hts i_M hown hK hP 0 rfl rfl 25 (by decide) (hts _ wd_580) (fun _ h9 => h9) rfl d_M_emergency_40 ?_
    refine lv_bipush (v := nI 20) hx hb d_M_emergency_43 (by decide) ?_
    refine nv_cge (tgt := 52) hx hb (by omega) (by omega) d_M_emergency_45 (by decide) (fun c45 => ?_) (fun c45 => ?_)
    · refine lv_iconst (v := nI 0) hx hb d_M_emergency_52 (by decide) ?_
      refine nv_as (b2 (decide (S.2.1 5 < 20))) (b2_of0 (by simp [c45])) ?_
      exact J53
    · refine lv_iconst (v := nI 1) hx hb d_M_emergency_48 (by decide) ?_
      refine lv_goto (tgt := 53) hx hb d_M_emergency_49 (by decide) ?_
      refine nv_as (b2 (decide (S.2.1 5 < 20))) (b2_of1 (by simp [c45])) ?_
      exact J53
  refine lv_aload_n hx hb d_M_emergency_3 rfl (lv_at hl 0 rfl) ?_
  refine lv_iload_n hx hb d_M_emergency_4 rfl (lv_at hl 1 rfl) ?_
  refine pu_go (va_runV (As := [.int x]) (rest := [.int (nI 11), .ref (q 0)]) ⟨hx, hb, hml, hown, hts⟩ (c_M_isStore l dC dI cI cZ q S th t hI x) (cwV 1 hts (gi_V wd_694 wd_696 wp_23 wd_5 wd_697) rfl rfl rfl (by decide +kernel) ⟨Nat.le_of_ble_eq_true rfl, Nat.le_of_ble_eq_true rfl⟩) (pu_preV hK hP (ci := 3) (q0 := 0) rfl rfl) rfl rfl hl.1 rfl (lv_room (Nat.le_of_ble_eq_true rfl)) d_M_emergency_5 ⟨Nat.le_of_ble_eq_true rfl, Nat.le_of_ble_eq_true rfl⟩) ?_
  refine nv_bz (tgt := 33) hx hb d_M_emergency_8 (by decide) (fun c8 => ?_) (fun c8 => ?_)
  · refine lv_iconst (v := nI 0) hx hb d_M_emergency_33 (by decide) ?_
    refine nv_as (b2 (ok x (S.2.1 0) && (ok y 10 && rg w 0 19))) (b2_of0 (by simp [c8])) ?_
    exact J34
  · refine lv_iload_n hx hb d_M_emergency_11 rfl (lv_at hl 2 rfl) ?_
    refine pu_go (va_runS (As := [.int y]) (rest := [.int (nI 11), .ref (q 0)]) ⟨hx, hb, hml, hown, hts⟩ (c_M_isKind l dC dI y) (cwS 1 hts (gi_S wd_684 wd_685 wd_5 wd_686) rfl rfl rfl (by decide +kernel) ⟨Nat.le_of_ble_eq_true rfl, Nat.le_of_ble_eq_true rfl⟩) (pu_preS (hK.sub (tys' := []) [] rfl) (fun k q h => by simp at h)) rfl rfl hl.1 rfl (lv_room (Nat.le_of_ble_eq_true rfl)) d_M_emergency_12 ⟨Nat.le_of_ble_eq_true rfl, Nat.le_of_ble_eq_true rfl⟩) ?_
    refine nv_bz (tgt := 33) hx hb d_M_emergency_15 (by decide) (fun c15 => ?_) (fun c15 => ?_)
    · refine lv_iconst (v := nI 0) hx hb d_M_emergency_33 (by decide) ?_
      refine nv_as (b2 (ok x (S.2.1 0) && (ok y 10 && rg w 0 19))) (b2_of0 (by simp [c8, c15])) ?_
      exact J34
    · refine lv_iload hx hb d_M_emergency_18 (lv_at hl 4 rfl) ?_
      refine lv_iconst (v := nI 0) hx hb d_M_emergency_20 (by decide) ?_
      refine lv_bipush (v := nI 19) hx hb d_M_emergency_21 (by decide) ?_
      refine pu_go (va_runS (As := [.int w, .int (nI 0), .int (nI 19)]) (rest := [.int (nI 11), .ref (q 0)]) ⟨hx, hb, hml, hown, hts⟩ (c_M_in l dC dI w (nI 0) (nI 19)) (cwS 3 hts (gi_S wd_687 wd_688 wd_5 wd_689) rfl rfl rfl (by decide +kernel) ⟨Nat.le_of_ble_eq_true rfl, Nat.le_of_ble_eq_true rfl⟩) (pu_preS (hK.sub (tys' := []) [] rfl) (fun k q h => by simp at h)) rfl rfl hl.1 rfl (lv_room (Nat.le_of_ble_eq_true rfl)) d_M_emergency_23 ⟨Nat.le_of_ble_eq_true rfl, Nat.le_of_ble_eq_true rfl⟩) ?_
      refine nv_as (b2 (rg w 0 19)) (congrArg b2 (in_rg (by decide) (by decide))) ?_
      refine nv_bz (tgt := 33) hx hb d_M_emergency_26 (by decide) (fun c26 => ?_) (fun c26 => ?_)
      · refine lv_iconst (v := nI 0) hx hb d_M_emergency_33 (by decide) ?_
        refine nv_as (b2 (ok x (S.2.1 0) && (ok y 10 && rg w 0 19))) (b2_of0 (by simp [c8, c15, c26])) ?_
        exact J34
      · refine lv_iconst (v := nI 1) hx hb d_M_emergency_29 (by decide) ?_
        refine lv_goto (tgt := 34) hx hb d_M_emergency_30 (by decide) ?_
        refine nv_as (b2 (ok x (S.2.1 0) && (ok y 10 && rg w 0 19))) (b2_of1 (by simp [c8, c15, c26])) ?_
        exact J34
set_option maxHeartbeats 4000000 in
set_option maxRecDepth 100000 in
theorem c_M_count (l : Launch) (dC : Nat → ClassId) (dI : Nat → Nat → Nat) (sz : Nat) (cI cZ : ClassId) (q : Nat → Nat) (S : St) (th : Int32) (t : Nat) (hI : Bd t S) (x y n w : Int32) (hV : Inv t S)  : Met l y_M_count (.code y_M_count b_M_count 7 (some .int) :: bg) { frames := 3, cells := 0, slots := 0, locals := 65 } (wr_P (dC, dI) classes (wM q cI cZ S th) [(cI, .int), (cZ, .boolean)] sz [.ref (q 0), .int x, .int y, .int n, .int w]) (wr_Q (some (.int ((op_count S x y n w).2.1))) (dC, dI) classes (wM q cI cZ ((op_count S x y n w).2.2) (nI (op_count S x y n w).1)) (va_A (wM q cI cZ S th) sz)) 0 0 (va_A (wM q cI cZ S th) sz) := by
  refine Met.ofW (cc := b_M_count) (maxL := 7) (ret := (some .int)) (by decide) rfl ?_
  intro p e s m args below meth c s₁ B hml hv
  obtain ⟨rfl, hsz, hP, hK, hD0⟩ := hv
  subst hsz
  have hD := hD0.self (sz := s.heap.size)
  generalize hAe : va_A (wM q cI cZ S th) s.heap.size = A at hD ⊢
  have hA : ∀ q : Nat, s.heap.size ≤ q → A q := fun q h => by rw [← hAe]; exact Or.inr h
  have hS : va_S A s.heap s.heap [] := va_S.rf
  have hx := B.exec
  have hb := B.bytes
  have hr := B.returns
  have hts := fun w (h : w ∈ bg) => atoms_spec (ws := .code y_M_count b_M_count 7 (some .int) :: bg) B.pre w (List.mem_cons_of_mem _ h)
  have hown : s.vm.findClass R_M = some m.cls := findClass_of_methodNamed B.named
  have hlocks := B.notSynchronized
  have hl := lv_entry ([.ref (q 0), .int x, .int y, .int n, .int w]) (n := 7) (Nat.le_of_ble_eq_true rfl)
  rw [lg_entry_eq]
  generalize (lg_sl ([.ref (q 0), .int x, .int y, .int n, .int w]) ++ List.replicate (7 - (lg_sl ([.ref (q 0), .int x, .int y, .int n, .int w])).length) Slot.unset).toArray = ls at hl ⊢
  have hl : lv_has ls 7 [(0, .ref (q 0)), (1, .int x), (2, .int y), (3, .int n), (4, .int w)] := hl
  have hB := hI.1
  have hg0 : S.2.1 0 ≤ 8 := hI.2.1 0
  have hg1 : S.2.1 1 ≤ 9999 := hI.2.1 1
  have hg2 : S.2.1 2 ≤ 60 := hI.2.1 2
  have hg3 : S.2.1 3 ≤ 60 := hI.2.1 3
  have hg4 : S.2.1 4 ≤ 80 := hI.2.1 4
  have hg5 : S.2.1 5 ≤ 20 := hI.2.1 5
  have hg6 : S.2.1 6 ≤ 80 := hI.2.1 6
  have hg7 : S.2.1 7 ≤ 10 := hI.2.1 7
  have hg8 : t ≤ 512 := hI.2.2
  have J21 : W p l e (headSpec (.code y_M_count b_M_count 7 (some .int) :: bg) { frames := 3, cells := 0, slots := 0, locals := 65 }).room s m (List.toArray [.ref (q 0), .int x, .int y, .int n, .int w]) below meth c s.heap [] 0 0 (MQ below (wr_Q (some (.int ((op_count S x y n w).2.1))) (dC, dI) classes (wM q cI cZ ((op_count S x y n w).2.2) (nI (op_count S x y n w).1)) A) (List.toArray [.ref (q 0), .int x, .int y, .int n, .int w]) s 0 0 A) (F0 m 21 ls [.int (b2 (ok x (S.2.1 0) && ok y (S.2.1 2)))]) := by
    refine lv_istore (lv' := [(5, .int (b2 (ok x (S.2.1 0) && ok y (S.2.1 2)))), (0, .ref (q 0)), (1, .int x), (2, .int y), (3, .int n), (4, .int w)]) hx hb d_M_count_21 hl (by decide) rfl (fun ls hl => ?_)
    refine lv_iload_n hx hb d_M_count_23 rfl (lv_at hl 4 rfl) ?_
    refine lv_aload_n hx hb d_M_count_24 rfl (lv_at hl 1 rfl) ?_
    refine lv_iload_n hx hb d_M_count_25 rfl (lv_at hl 2 rfl) ?_
    refine lv_iload_n hx hb d_M_count_26 rfl (lv_at hl 3 rfl) ?_
    refine pu_go (va_runV (As := [.int x, .int y]) (rest := [.int n]) ⟨hx, hb, hml, hown, hts⟩ (c_M_at l dC dI cI cZ q S th t hI x y) (cwV 2 hts (gi_V wd_705 wd_707 wp_25 wd_5 wd_708) rfl rfl rfl (by decide +kernel) ⟨Nat.le_of_ble_eq_true rfl, Nat.le_of_ble_eq_true rfl⟩) (pu_preV hK hP (ci := 3) (q0 := 0) rfl rfl) rfl rfl hl.1 rfl (lv_room (Nat.le_of_ble_eq_true rfl)) d_M_count_27 ⟨Nat.le_of_ble_eq_true rfl, Nat.le_of_ble_eq_true rfl⟩) ?_
    refine lv_isub hx hb d_M_count_30 ?_
    refine lv_istore (lv' := [(6, .int (n - (atv S x y))), (5, .int (b2 (ok x (S.2.1 0) && ok y (S.2.1 2)))), (0, .ref (q 0)), (1, .int x), (2, .int y), (3, .int n), (4, .int w)]) hx hb d_M_count_31 hl (by decide) rfl (fun ls hl => ?_)
    refine lv_aload_n hx hb d_M_count_33 rfl (lv_at hl 2 rfl) ?_
    refine lv_bipush (v := nI 11) hx hb d_M_count_34 (by decide) ?_
    refine lv_iload hx hb d_M_count_36 (lv_at hl 1 rfl) ?_
    have J65 : W p l e (headSpec (.code y_M_count b_M_count 7 (some .int) :: bg) { frames := 3, cells := 0, slots := 0, locals := 65 }).room s m (List.toArray [.ref (q 0), .int x, .int y, .int n, .int w]) below meth c s.heap [] 0 0 (MQ below (wr_Q (some (.int ((op_count S x y n w).2.1))) (dC, dI) classes (wM q cI cZ ((op_count S x y n w).2.2) (nI (op_count S x y n w).1)) A) (List.toArray [.ref (q 0), .int x, .int y, .int n, .int w]) s 0 0 A) (F0 m 65 ls [.int (b2 (rg n 0 9999 && rg w 1 99)), .int (b2 (ok x (S.2.1 0) && ok y (S.2.1 2))), .int (nI 11), .ref (q 0)]) := by
      refine lv_iconst (v := b2 true) hx hb d_M_count_65 (by decide) ?_
      have J85 : W p l e (headSpec (.code y_M_count b_M_count 7 (some .int) :: bg) { frames := 3, cells := 0, slots := 0, locals := 65 }).room s m (List.toArray [.ref (q 0), .int x, .int y, .int n, .int w]) below meth c s.heap [] 0 0 (MQ below (wr_Q (some (.int ((op_count S x y n w).2.1))) (dC, dI) classes (wM q cI cZ ((op_count S x y n w).2.2) (nI (op_count S x y n w).1)) A) (List.toArray [.ref (q 0), .int x, .int y, .int n, .int w]) s 0 0 A) (F0 m 85 ls [.int (b2 (decide (n - atv S x y = 0) || decide (S.2.1 6 < 80))), .int (b2 true), .int (b2 (rg n 0 9999 && rg w 1 99)), .int (b2 (ok x (S.2.1 0) && ok y (S.2.1 2))), .int (nI 11), .ref (q 0)]) := by
        refine wr_goA (va_runV (As := [.int (nI 11), .int (b2 (ok x (S.2.1 0) && ok y (S.2.1 2))), .int (b2 (rg n 0 9999 && rg w 1 99)), .int (b2 true), .int (b2 (decide (n - atv S x y = 0) || decide (S.2.1 6 < 80)))]) (rest := []) ⟨hx, hb, hml, hown, hts⟩ (c_M_goes l dC dI s.heap.size cI cZ q S th t hI (nI 11) (ok x (S.2.1 0) && ok y (S.2.1 2)) (rg n 0 9999 && rg w 1 99) true (decide (n - atv S x y = 0) || decide (S.2.1 6 < 80))) (cwV 5 hts (gi_V wd_676 wd_678 wp_22 wd_5 wd_679) rfl rfl rfl (by decide +kernel) ⟨Nat.le_of_ble_eq_true rfl, Nat.le_of_ble_eq_true rfl⟩) (wr_preV hK hP hD (ci := 3) (q0 := 0) rfl rfl) rfl rfl hl.1 rfl (lv_room (Nat.le_of_ble_eq_true rfl)) d_M_count_85 ⟨Nat.le_of_ble_eq_true rfl, Nat.le_of_ble_eq_true rfl⟩) hD hS hA wM_adr (fun H locs hP hD hS => ?_)
        refine W.eq (g2 := F0 m 88 ls [.int (b2 ((ok x (S.2.1 0) && ok y (S.2.1 2)) && ((rg n 0 9999 && rg w 1 99) && (true && (decide (n - atv S x y = 0) || decide (S.2.1 6 < 80))))))]) rfl ?_
        refine nv_bn (tgt := 93) hx hb d_M_count_88 (by decide) (fun c88 => ?_) (fun c88 => ?_)
        · obtain ⟨k0, r0, t0, o0⟩ := and4 c88
          have hP : va_P (dC, dI) classes (wM q cI cZ S (nI 0)) H := by rw [gz c88] at hP; exact hP
          have hD : va_D A (wM q cI cZ S (nI 0)) := by rw [gz c88] at hD; exact hD
          obtain ⟨k1, k2⟩ := and2 k0
          obtain ⟨r1, r2⟩ := and2 r0
          have hat := atv_t k1 k2
          have hb25 : S.1 25 (nn x * 60 + nn y) ≤ 9999 := hB 25 _
          have hcq := cnt_o hI k1 k2 r1
          obtain ⟨e_x, b_x⟩ := ok_of k1
          obtain ⟨e_y, b_y⟩ := ok_of k2
          obtain ⟨e_n, l_n, b_n⟩ := rg_of r1
          obtain ⟨e_w, l_w, b_w⟩ := rg_of r2
          have hl : lv_has ls 7 [(6, .int (n - (atv S x y))), (5, .int (b2 (ok x (S.2.1 0) && ok y (S.2.1 2)))), (0, .ref (q 0)), (1, .int (nI (nn x))), (2, .int (nI (nn y))), (3, .int (nI (nn n))), (4, .int (nI (nn w)))] := by rw [← e_x, ← e_y, ← e_n, ← e_w]; exact hl
          refine lv_aload_n hx hb d_M_count_93 rfl (lv_at hl 2 rfl) ?_
          refine va_get (D := (dC, dI)) (ci := 3) (v := .ref (q 6)) (C := R_M) (T := F_M) (N := 37) hx hb hts i_M hown hK hP 0 rfl rfl 9 (by decide) (hts _ wd_564) (fun _ h9 => h9) rfl d_M_count_94 ?_
          refine lv_iload_n hx hb d_M_count_97 rfl (lv_at hl 3 rfl) ?_
          refine lv_bipush (v := nI 60) hx hb d_M_count_98 (by decide) ?_
          refine nv_mul hx hb d_M_count_100 ?_
          refine lv_iload_n hx hb d_M_count_101 rfl (lv_at hl 4 rfl) ?_
          refine nv_add hx hb d_M_count_102 ?_
          refine lv_iload_n hx hb d_M_count_103 rfl (lv_at hl 5 rfl) ?_
          refine nv_iast (f' := upd (colf S.1 25) (((nn x) * 60) + (nn y)) (nI (nn n))) hx hb hK hP hD hS 6 0 rfl rfl (by omega) (by decide) rfl (wM q cI cZ (S_a S 25 (((nn x) * 60) + (nn y)) (nn n)) (nI 0)) wM_c25 d_M_count_104 (fun H locs hP hD hS => ?_)
          refine lv_iload hx hb d_M_count_105 (lv_at hl 0 rfl) ?_
          refine lv_if_ne (tgt := 112) hx hb d_M_count_107 (by decide) (fun c107 => ?_) (fun c107 => ?_)
          · have d0 : ¬ nn n = S.1 25 (nn x * 60 + nn y) := of_decide_eq_false (by rw [← hcq]; exact decide_eq_false c107)
            have o1 : S.2.1 6 < 80 := by rw [hcq, decide_eq_false d0] at o0; exact of_decide_eq_true o0
            refine lv_aload_n hx hb d_M_count_112 rfl (lv_at hl 2 rfl) ?_
            refine va_get (D := (dC, dI)) (ci := 3) (v := .ref (q 25)) (C := R_M) (T := F_M) (N := 37) hx hb hts i_M hown hK hP 0 rfl rfl 32 (by decide) (hts _ wd_587) (fun _ h9 => h9) rfl d_M_count_113 ?_
            refine lv_iconst (v := nI 5) hx hb d_M_count_116 (by decide) ?_
            refine lv_aload_n hx hb d_M_count_117 rfl (lv_at hl 2 rfl) ?_
            refine va_get (D := (dC, dI)) (ci := 3) (v := .int (nI (S.2.1 6))) (C := R_M) (T := F_M) (N := 37) hx hb hts i_M hown hK hP 0 rfl rfl 31 (by decide) (hts _ wd_586) (fun _ h9 => h9) rfl d_M_count_118 ?_
            refine nv_mul hx hb d_M_count_121 ?_
            refine lv_iload_n hx hb d_M_count_122 rfl (lv_at hl 3 rfl) ?_
            refine nv_iast (f' := upd (rowd (S_a S 25 (((nn x) * 60) + (nn y)) (nn n)).1 (S_a S 25 (((nn x) * 60) + (nn y)) (nn n)).2.2) (5 * (S.2.1 6)) (nI (nn x))) hx hb hK hP hD hS 25 0 rfl rfl (by omega) (by decide) rfl (wM q cI cZ (S_a (S_a S 25 (((nn x) * 60) + (nn y)) (nn n)) 20 (S.2.1 6) (nn x)) (nI 0)) (wM_rx (i := (S.2.1 6)) (k := 0) (by decide) (by decide) (by omega)) d_M_count_123 (fun H locs hP hD hS => ?_)
            refine lv_aload_n hx hb d_M_count_124 rfl (lv_at hl 2 rfl) ?_
            refine va_get (D := (dC, dI)) (ci := 3) (v := .ref (q 25)) (C := R_M) (T := F_M) (N := 37) hx hb hts i_M hown hK hP 0 rfl rfl 32 (by decide) (hts _ wd_587) (fun _ h9 => h9) rfl d_M_count_125 ?_
            refine lv_iconst (v := nI 5) hx hb d_M_count_128 (by decide) ?_
            refine lv_aload_n hx hb d_M_count_129 rfl (lv_at hl 2 rfl) ?_
            refine va_get (D := (dC, dI)) (ci := 3) (v := .int (nI (S.2.1 6))) (C := R_M) (T := F_M) (N := 37) hx hb hts i_M hown hK hP 0 rfl rfl 31 (by decide) (hts _ wd_586) (fun _ h9 => h9) rfl d_M_count_130 ?_
            refine nv_mul hx hb d_M_count_133 ?_
            refine lv_iconst (v := nI 1) hx hb d_M_count_134 (by decide) ?_
            refine nv_add hx hb d_M_count_135 ?_
            refine lv_iload_n hx hb d_M_count_136 rfl (lv_at hl 4 rfl) ?_
            refine nv_iast (f' := upd (rowd (S_a (S_a S 25 (((nn x) * 60) + (nn y)) (nn n)) 20 (S.2.1 6) (nn x)).1 (S_a (S_a S 25 (((nn x) * 60) + (nn y)) (nn n)) 20 (S.2.1 6) (nn x)).2.2) ((5 * (S.2.1 6)) + 1) (nI (nn y))) hx hb hK hP hD hS 25 0 rfl rfl (by omega) (by decide) rfl (wM q cI cZ (S_a (S_a (S_a S 25 (((nn x) * 60) + (nn y)) (nn n)) 20 (S.2.1 6) (nn x)) 21 (S.2.1 6) (nn y)) (nI 0)) (wM_rx (i := (S.2.1 6)) (k := 1) (by decide) (by decide) (by omega)) d_M_count_137 (fun H locs hP hD hS => ?_)
            refine lv_aload_n hx hb d_M_count_138 rfl (lv_at hl 2 rfl) ?_
            refine va_get (D := (dC, dI)) (ci := 3) (v := .ref (q 25)) (C := R_M) (T := F_M) (N := 37) hx hb hts i_M hown hK hP 0 rfl rfl 32 (by decide) (hts _ wd_587) (fun _ h9 => h9) rfl d_M_count_139 ?_
            refine lv_iconst (v := nI 5) hx hb d_M_count_142 (by decide) ?_
            refine lv_aload_n hx hb d_M_count_143 rfl (lv_at hl 2 rfl) ?_
            refine va_get (D := (dC, dI)) (ci := 3) (v := .int (nI (S.2.1 6))) (C := R_M) (T := F_M) (N := 37) hx hb hts i_M hown hK hP 0 rfl rfl 31 (by decide) (hts _ wd_586) (fun _ h9 => h9) rfl d_M_count_144 ?_
            refine nv_mul hx hb d_M_count_147 ?_
            refine lv_iconst (v := nI 2) hx hb d_M_count_148 (by decide) ?_
            refine nv_add hx hb d_M_count_149 ?_
            refine lv_iload hx hb d_M_count_150 (lv_at hl 0 rfl) ?_
            refine nv_iast (f' := upd (rowd (S_a (S_a (S_a S 25 (((nn x) * 60) + (nn y)) (nn n)) 20 (S.2.1 6) (nn x)) 21 (S.2.1 6) (nn y)).1 (S_a (S_a (S_a S 25 (((nn x) * 60) + (nn y)) (nn n)) 20 (S.2.1 6) (nn x)) 21 (S.2.1 6) (nn y)).2.2) ((5 * (S.2.1 6)) + 2) (n - (atv S x y))) hx hb hK hP hD hS 25 0 rfl rfl (by omega) (by decide) rfl (wM q cI cZ (S_z (S_a (S_a (S_a S 25 (((nn x) * 60) + (nn y)) (nn n)) 20 (S.2.1 6) (nn x)) 21 (S.2.1 6) (nn y)) (S.2.1 6) (n - (atv S x y))) (nI 0)) (wM_rzx (i := (S.2.1 6)) (by omega)) d_M_count_152 (fun H locs hP hD hS => ?_)
            refine lv_aload_n hx hb d_M_count_153 rfl (lv_at hl 2 rfl) ?_
            refine va_get (D := (dC, dI)) (ci := 3) (v := .ref (q 25)) (C := R_M) (T := F_M) (N := 37) hx hb hts i_M hown hK hP 0 rfl rfl 32 (by decide) (hts _ wd_587) (fun _ h9 => h9) rfl d_M_count_154 ?_
            refine lv_iconst (v := nI 5) hx hb d_M_count_157 (by decide) ?_
            refine lv_aload_n hx hb d_M_count_158 rfl (lv_at hl 2 rfl) ?_
            refine va_get (D := (dC, dI)) (ci := 3) (v := .int (nI (S.2.1 6))) (C := R_M) (T := F_M) (N := 37) hx hb hts i_M hown hK hP 0 rfl rfl 31 (by decide) (hts _ wd_586) (fun _ h9 => h9) rfl d_M_count_159 ?_
            refine nv_mul hx hb d_M_count_162 ?_
            refine lv_iconst (v := nI 3) hx hb d_M_count_163 (by decide) ?_
            refine nv_add hx hb d_M_count_164 ?_
            refine lv_iload hx hb d_M_count_165 (lv_at hl 6 rfl) ?_
            refine nv_iast (f' := upd (rowd (S_z (S_a (S_a (S_a S 25 (((nn x) * 60) + (nn y)) (nn n)) 20 (S.2.1 6) (nn x)) 21 (S.2.1 6) (nn y)) (S.2.1 6) (n - (atv S x y))).1 (S_z (S_a (S_a (S_a S 25 (((nn x) * 60) + (nn y)) (nn n)) 20 (S.2.1 6) (nn x)) 21 (S.2.1 6) (nn y)) (S.2.1 6) (n - (atv S x y))).2.2) ((5 * (S.2.1 6)) + 3) (nI (nn w))) hx hb hK hP hD hS 25 0 rfl rfl (by omega) (by decide) rfl (wM q cI cZ (S_a (S_z (S_a (S_a (S_a S 25 (((nn x) * 60) + (nn y)) (nn n)) 20 (S.2.1 6) (nn x)) 21 (S.2.1 6) (nn y)) (S.2.1 6) (n - (atv S x y))) 23 (S.2.1 6) (nn w)) (nI 0)) (wM_rx (i := (S.2.1 6)) (k := 3) (by decide) (by decide) (by omega)) d_M_count_167 (fun H locs hP hD hS => ?_)
            refine lv_aload_n hx hb d_M_count_168 rfl (lv_at hl 2 rfl) ?_
            refine va_get (D := (dC, dI)) (ci := 3) (v := .ref (q 25)) (C := R_M) (T := F_M) (N := 37) hx hb hts i_M hown hK hP 0 rfl rfl 32 (by decide) (hts _ wd_587) (fun _ h9 => h9) rfl d_M_count_169 ?_
            refine lv_iconst (v := nI 5) hx hb d_M_count_172 (by decide) ?_
            refine lv_aload_n hx hb d_M_count_173 rfl (lv_at hl 2 rfl) ?_
            refine va_get (D := (dC, dI)) (ci := 3) (v := .int (nI (S.2.1 6))) (C := R_M) (T := F_M) (N := 37) hx hb hts i_M hown hK hP 0 rfl rfl 31 (by decide) (hts _ wd_586) (fun _ h9 => h9) rfl d_M_count_174 ?_
            refine nv_mul hx hb d_M_count_177 ?_
            refine lv_iconst (v := nI 4) hx hb d_M_count_178 (by decide) ?_
            refine nv_add hx hb d_M_count_179 ?_
            refine lv_aload_n hx hb d_M_count_180 rfl (lv_at hl 2 rfl) ?_
            refine va_get (D := (dC, dI)) (ci := 3) (v := .int (nI (S.2.1 1))) (C := R_M) (T := F_M) (N := 37) hx hb hts i_M hown hK hP 0 rfl rfl 1 (by decide) (hts _ wd_556) (fun _ h9 => h9) rfl d_M_count_181 ?_
            refine nv_iast (f' := upd (rowd (S_a (S_z (S_a (S_a (S_a S 25 (((nn x) * 60) + (nn y)) (nn n)) 20 (S.2.1 6) (nn x)) 21 (S.2.1 6) (nn y)) (S.2.1 6) (n - (atv S x y))) 23 (S.2.1 6) (nn w)).1 (S_a (S_z (S_a (S_a (S_a S 25 (((nn x) * 60) + (nn y)) (nn n)) 20 (S.2.1 6) (nn x)) 21 (S.2.1 6) (nn y)) (S.2.1 6) (n - (atv S x y))) 23 (S.2.1 6) (nn w)).2.2) ((5 * (S.2.1 6)) + 4) (nI (S.2.1 1))) hx hb hK hP hD hS 25 0 rfl rfl (by omega) (by decide) rfl (wM q cI cZ (S_a (S_a (S_z (S_a (S_a (S_a S 25 (((nn x) * 60) + (nn y)) (nn n)) 20 (S.2.1 6) (nn x)) 21 (S.2.1 6) (nn y)) (S.2.1 6) (n - (atv S x y))) 23 (S.2.1 6) (nn w)) 24 (S.2.1 6) (S.2.1 1)) (nI 0)) (wM_rx (i := (S.2.1 6)) (k := 4) (by decide) (by decide) (by omega)) d_M_count_184 (fun H locs hP hD hS => ?_)
            refine lv_aload_n hx hb d_M_count_185 rfl (lv_at hl 2 rfl) ?_
            refine lv_dup hx hb d_M_count_186 rfl ?_
            refine va_get (D := (dC, dI)) (ci := 3) (v := .int (nI (S.2.1 6))) (C := R_M) (T := F_M) (N := 37) hx hb hts i_M hown hK hP 0 rfl rfl 31 (by decide) (hts _ wd_586) (fun _ h9 => h9) rfl d_M_count_187 ?_
            refine lv_iconst (v := nI 1) hx hb d_M_count_190 (by decide) ?_
            refine nv_add hx hb d_M_count_191 ?_
            refine va_put (D := (dC, dI)) (ci := 3) (v := .int (nI ((S.2.1 6) + 1))) (ty := .int) (C := R_M) (T := F_M) (N := 37) hx hb hts i_M ty_M ty_M_ok n_M hown hK hP hD hS 0 rfl rfl 31 (by decide) (hts _ wd_586) (fun _ h9 => h9) rfl (by decide +kernel) rfl rfl (Nat.le_of_ble_eq_true rfl) d_M_count_192 (fun H locs hP hD hS => ?_)
            have hP : va_P (dC, dI) classes (wM q cI cZ (S_g (S_a (S_a (S_z (S_a (S_a (S_a S 25 (((nn x) * 60) + (nn y)) (nn n)) 20 (S.2.1 6) (nn x)) 21 (S.2.1 6) (nn y)) (S.2.1 6) (n - (atv S x y))) 23 (S.2.1 6) (nn w)) 24 (S.2.1 6) (S.2.1 1)) 6 ((S.2.1 6) + 1)) (nI 0)) H := by rw [← wM_g6]; exact hP
            have hD : va_D A (wM q cI cZ (S_g (S_a (S_a (S_z (S_a (S_a (S_a S 25 (((nn x) * 60) + (nn y)) (nn n)) 20 (S.2.1 6) (nn x)) 21 (S.2.1 6) (nn y)) (S.2.1 6) (n - (atv S x y))) 23 (S.2.1 6) (nn w)) 24 (S.2.1 6) (S.2.1 1)) 6 ((S.2.1 6) + 1)) (nI 0)) := by rw [← wM_g6]; exact hD
            refine lv_iload hx hb d_M_count_195 (lv_at hl 0 rfl) ?_
            have ho : op_count S x y n w = (0, n - nI (S.1 25 (nn x * 60 + nn y)), addDif (S_a S 25 (nn x * 60 + nn y) (nn n)) (nn x) (nn y) (n - nI (S.1 25 (nn x * 60 + nn y))) (nn w)) := by unfold op_count; rw [if_pos k1, if_pos k2, if_pos r1, if_pos r2, if_neg d0, if_pos o1]
            rw [ho]
            refine nv_as (n - nI (S.1 25 (nn x * 60 + nn y))) (by rw [hat]) ?_
            have hP9 : va_P (dC, dI) classes (wM q cI cZ (addDif (S_a S 25 (nn x * 60 + nn y) (nn n)) (nn x) (nn y) (n - nI (S.1 25 (nn x * 60 + nn y))) (nn w)) (nI 0)) H := by rw [hat] at hP; exact hP
            exact W.iret hx hb hr (fun t ht hW => ⟨rfl, by rw [ht]; exact hP9, hS.F ht⟩) hS.2.2 d_M_count_197
          · have d0 : nn n = S.1 25 (nn x * 60 + nn y) := of_decide_eq_true (by rw [← hcq]; exact decide_eq_true c107)
            refine lv_iconst (v := nI 0) hx hb d_M_count_110 (by decide) ?_
            have ho : op_count S x y n w = (0, 0, S) := by unfold op_count; rw [if_pos k1, if_pos k2, if_pos r1, if_pos r2, if_pos d0]
            rw [ho]
            refine nv_as (0) (by rfl) ?_
            have hP9 : va_P (dC, dI) classes (wM q cI cZ (S) (nI 0)) H := by rw [S_a_id d0.symm] at hP; exact hP
            exact W.iret hx hb hr (fun t ht hW => ⟨rfl, by rw [ht]; exact hP9, hS.F ht⟩) hS.2.2 d_M_count_111
        · refine lv_iconst (v := nI 0) hx hb d_M_count_91 (by decide) ?_
          have ho : op_count S x y n w = ((gth (nI 11) (gbit (ok x (S.2.1 0) && ok y (S.2.1 2)) (rg n 0 9999 && rg w 1 99) true (decide (n - atv S x y = 0) || decide (S.2.1 6 < 80)))), 0, S) := of_count hI c88
          rw [ho]
          refine nv_as (0) (by rfl) ?_
          have hP9 : va_P (dC, dI) classes (wM q cI cZ (S) (nI (gth (nI 11) (gbit (ok x (S.2.1 0) && ok y (S.2.1 2)) (rg n 0 9999 && rg w 1 99) true (decide (n - atv S x y = 0) || decide (S.2.1 6 < 80)))))) H := hP
          exact W.iret hx hb hr (fun t ht hW => ⟨rfl, by rw [ht]; exact hP9, hS.F ht⟩) hS.2.2 d_M_count_92
      refine lv_iload hx hb d_M_count_66 (lv_at hl 0 rfl) ?_
      refine lv_if_eq (tgt := 80) hx hb d_M_count_68 (by decide) (fun c68 => ?_) (fun c68 => ?_)
      · refine lv_iconst (v := nI 1) hx hb d_M_count_80 (by decide) ?_
        refine lv_goto (tgt := 85) hx hb d_M_count_81 (by decide) ?_
        refine nv_as (b2 (decide (n - atv S x y = 0) || decide (S.2.1 6 < 80))) (b2_of1 (by simp [c68])) ?_
        exact J85
      · refine lv_aload_n hx hb d_M_count_71 rfl (lv_at hl 2 rfl) ?_
        refine va_get (D := (dC, dI)) (ci := 3) (v := .int (nI (S.2.1 6))) (C := R_M) (T := F_M) (N := 37) hx hb hts i_M hown hK hP 0 rfl rfl 31 (by decide) (hts _ wd_586) (fun _ h9 => h9) rfl d_M_count_72 ?_
        refine lv_bipush (v := nI 80) hx hb d_M_count_75 (by decide) ?_
        refine nv_cge (tgt := 84) hx hb (by omega) (by omega) d_M_count_77 (by decide) (fun c77 => ?_) (fun c77 => ?_)
        · refine lv_iconst (v := nI 0) hx hb d_M_count_84 (by decide) ?_
          refine nv_as (b2 (decide (n - atv S x y = 0) || decide (S.2.1 6 < 80))) (b2_of0 (by simp [c68, c77])) ?_
          exact J85
        · refine lv_iconst (v := nI 1) hx hb d_M_count_80 (by decide) ?_
          refine lv_goto (tgt := 85) hx hb d_M_count_81 (by decide) ?_
          refine nv_as (b2 (decide (n - atv S x y = 0) || decide (S.2.1 6 < 80))) (b2_of1 (by simp [c68, c77])) ?_
          exact J85
    refine lv_iload_n hx hb d_M_count_38 rfl (lv_at hl 5 rfl) ?_
    refine lv_iconst (v := nI 0) hx hb d_M_count_39 (by decide) ?_
    refine lv_sipush (v := nI 9999) hx hb d_M_count_40 (by decide) ?_
    refine pu_go (va_runS (As := [.int n, .int (nI 0), .int (nI 9999)]) (rest := [.int (b2 (ok x (S.2.1 0) && ok y (S.2.1 2))), .int (nI 11), .ref (q 0)]) ⟨hx, hb, hml, hown, hts⟩ (c_M_in l dC dI n (nI 0) (nI 9999)) (cwS 3 hts (gi_S wd_687 wd_688 wd_5 wd_689) rfl rfl rfl (by decide +kernel) ⟨Nat.le_of_ble_eq_true rfl, Nat.le_of_ble_eq_true rfl⟩) (pu_preS (hK.sub (tys' := []) [] rfl) (fun k q h => by simp at h)) rfl rfl hl.1 rfl (lv_room (Nat.le_of_ble_eq_true rfl)) d_M_count_43 ⟨Nat.le_of_ble_eq_true rfl, Nat.le_of_ble_eq_true rfl⟩) ?_
    refine nv_as (b2 (rg n 0 9999)) (congrArg b2 (in_rg (by decide) (by decide))) ?_
    refine nv_bz (tgt := 64) hx hb d_M_count_46 (by decide) (fun c46 => ?_) (fun c46 => ?_)
    · refine lv_iconst (v := nI 0) hx hb d_M_count_64 (by decide) ?_
      refine nv_as (b2 (rg n 0 9999 && rg w 1 99)) (b2_of0 (by simp [c46])) ?_
      exact J65
    · refine lv_iload hx hb d_M_count_49 (lv_at hl 6 rfl) ?_
      refine lv_iconst (v := nI 1) hx hb d_M_count_51 (by decide) ?_
      refine lv_bipush (v := nI 99) hx hb d_M_count_52 (by decide) ?_
      refine pu_go (va_runS (As := [.int w, .int (nI 1), .int (nI 99)]) (rest := [.int (b2 (ok x (S.2.1 0) && ok y (S.2.1 2))), .int (nI 11), .ref (q 0)]) ⟨hx, hb, hml, hown, hts⟩ (c_M_in l dC dI w (nI 1) (nI 99)) (cwS 3 hts (gi_S wd_687 wd_688 wd_5 wd_689) rfl rfl rfl (by decide +kernel) ⟨Nat.le_of_ble_eq_true rfl, Nat.le_of_ble_eq_true rfl⟩) (pu_preS (hK.sub (tys' := []) [] rfl) (fun k q h => by simp at h)) rfl rfl hl.1 rfl (lv_room (Nat.le_of_ble_eq_true rfl)) d_M_count_54 ⟨Nat.le_of_ble_eq_true rfl, Nat.le_of_ble_eq_true rfl⟩) ?_
      refine nv_as (b2 (rg w 1 99)) (congrArg b2 (in_rg (by decide) (by decide))) ?_
      refine nv_bz (tgt := 64) hx hb d_M_count_57 (by decide) (fun c57 => ?_) (fun c57 => ?_)
      · refine lv_iconst (v := nI 0) hx hb d_M_count_64 (by decide) ?_
        refine nv_as (b2 (rg n 0 9999 && rg w 1 99)) (b2_of0 (by simp [c46, c57])) ?_
        exact J65
      · refine lv_iconst (v := nI 1) hx hb d_M_count_60 (by decide) ?_
        refine lv_goto (tgt := 65) hx hb d_M_count_61 (by decide) ?_
        refine nv_as (b2 (rg n 0 9999 && rg w 1 99)) (b2_of1 (by simp [c46, c57])) ?_
        exact J65
  refine lv_aload_n hx hb d_M_count_0 rfl (lv_at hl 0 rfl) ?_
  refine lv_iload_n hx hb d_M_count_1 rfl (lv_at hl 1 rfl) ?_
  refine pu_go (va_runV (As := [.int x]) (rest := []) ⟨hx, hb, hml, hown, hts⟩ (c_M_isStore l dC dI cI cZ q S th t hI x) (cwV 1 hts (gi_V wd_694 wd_696 wp_23 wd_5 wd_697) rfl rfl rfl (by decide +kernel) ⟨Nat.le_of_ble_eq_true rfl, Nat.le_of_ble_eq_true rfl⟩) (pu_preV hK hP (ci := 3) (q0 := 0) rfl rfl) rfl rfl hl.1 rfl (lv_room (Nat.le_of_ble_eq_true rfl)) d_M_count_2 ⟨Nat.le_of_ble_eq_true rfl, Nat.le_of_ble_eq_true rfl⟩) ?_
  refine nv_bz (tgt := 20) hx hb d_M_count_5 (by decide) (fun c5 => ?_) (fun c5 => ?_)
  · refine lv_iconst (v := nI 0) hx hb d_M_count_20 (by decide) ?_
    refine nv_as (b2 (ok x (S.2.1 0) && ok y (S.2.1 2))) (b2_of0 (by simp [c5])) ?_
    exact J21
  · refine lv_aload_n hx hb d_M_count_8 rfl (lv_at hl 0 rfl) ?_
    refine lv_iload_n hx hb d_M_count_9 rfl (lv_at hl 2 rfl) ?_
    refine pu_go (va_runV (As := [.int y]) (rest := []) ⟨hx, hb, hml, hown, hts⟩ (c_M_isLot l dC dI cI cZ q S th t hI y) (cwV 1 hts (gi_V wd_698 wd_700 wp_24 wd_5 wd_701) rfl rfl rfl (by decide +kernel) ⟨Nat.le_of_ble_eq_true rfl, Nat.le_of_ble_eq_true rfl⟩) (pu_preV hK hP (ci := 3) (q0 := 0) rfl rfl) rfl rfl hl.1 rfl (lv_room (Nat.le_of_ble_eq_true rfl)) d_M_count_10 ⟨Nat.le_of_ble_eq_true rfl, Nat.le_of_ble_eq_true rfl⟩) ?_
    refine nv_bz (tgt := 20) hx hb d_M_count_13 (by decide) (fun c13 => ?_) (fun c13 => ?_)
    · refine lv_iconst (v := nI 0) hx hb d_M_count_20 (by decide) ?_
      refine nv_as (b2 (ok x (S.2.1 0) && ok y (S.2.1 2))) (b2_of0 (by simp [c5, c13])) ?_
      exact J21
    · refine lv_iconst (v := nI 1) hx hb d_M_count_16 (by decide) ?_
      refine lv_goto (tgt := 21) hx hb d_M_count_17 (by decide) ?_
      refine nv_as (b2 (ok x (S.2.1 0) && ok y (S.2.1 2))) (b2_of1 (by simp [c5, c13])) ?_
      exact J21
set_option maxHeartbeats 4000000 in
set_option maxRecDepth 100000 in
theorem c_M_back (l : Launch) (dC : Nat → ClassId) (dI : Nat → Nat → Nat) (sz : Nat) (cI cZ : ClassId) (q : Nat → Nat) (S : St) (th : Int32) (t : Nat) (hI : Bd t S) (x y n : Int32) (hV : Inv t S)  : Met l y_M_back (.code y_M_back b_M_back 6 (some .boolean) :: bg) { frames := 3, cells := 0, slots := 0, locals := 65 } (wr_P (dC, dI) classes (wM q cI cZ S th) [(cI, .int), (cZ, .boolean)] sz [.ref (q 0), .int x, .int y, .int n]) (wr_Q (some (.int ((op_back S x y n).2.1))) (dC, dI) classes (wM q cI cZ ((op_back S x y n).2.2) (nI (op_back S x y n).1)) (va_A (wM q cI cZ S th) sz)) 0 0 (va_A (wM q cI cZ S th) sz) := by
  refine Met.ofW (cc := b_M_back) (maxL := 6) (ret := (some .boolean)) (by decide) rfl ?_
  intro p e s m args below meth c s₁ B hml hv
  obtain ⟨rfl, hsz, hP, hK, hD0⟩ := hv
  subst hsz
  have hD := hD0.self (sz := s.heap.size)
  generalize hAe : va_A (wM q cI cZ S th) s.heap.size = A at hD ⊢
  have hA : ∀ q : Nat, s.heap.size ≤ q → A q := fun q h => by rw [← hAe]; exact Or.inr h
  have hS : va_S A s.heap s.heap [] := va_S.rf
  have hx := B.exec
  have hb := B.bytes
  have hr := B.returns
  have hts := fun w (h : w ∈ bg) => atoms_spec (ws := .code y_M_back b_M_back 6 (some .boolean) :: bg) B.pre w (List.mem_cons_of_mem _ h)
  have hown : s.vm.findClass R_M = some m.cls := findClass_of_methodNamed B.named
  have hlocks := B.notSynchronized
  have hl := lv_entry ([.ref (q 0), .int x, .int y, .int n]) (n := 6) (Nat.le_of_ble_eq_true rfl)
  rw [lg_entry_eq]
  generalize (lg_sl ([.ref (q 0), .int x, .int y, .int n]) ++ List.replicate (6 - (lg_sl ([.ref (q 0), .int x, .int y, .int n])).length) Slot.unset).toArray = ls at hl ⊢
  have hl : lv_has ls 6 [(0, .ref (q 0)), (1, .int x), (2, .int y), (3, .int n)] := hl
  have hB := hI.1
  have hg0 : S.2.1 0 ≤ 8 := hI.2.1 0
  have hg1 : S.2.1 1 ≤ 9999 := hI.2.1 1
  have hg2 : S.2.1 2 ≤ 60 := hI.2.1 2
  have hg3 : S.2.1 3 ≤ 60 := hI.2.1 3
  have hg4 : S.2.1 4 ≤ 80 := hI.2.1 4
  have hg5 : S.2.1 5 ≤ 20 := hI.2.1 5
  have hg6 : S.2.1 6 ≤ 80 := hI.2.1 6
  have hg7 : S.2.1 7 ≤ 10 := hI.2.1 7
  have hg8 : t ≤ 512 := hI.2.2
  have J21 : W p l e (headSpec (.code y_M_back b_M_back 6 (some .boolean) :: bg) { frames := 3, cells := 0, slots := 0, locals := 65 }).room s m (List.toArray [.ref (q 0), .int x, .int y, .int n]) below meth c s.heap [] 0 0 (MQ below (wr_Q (some (.int ((op_back S x y n).2.1))) (dC, dI) classes (wM q cI cZ ((op_back S x y n).2.2) (nI (op_back S x y n).1)) A) (List.toArray [.ref (q 0), .int x, .int y, .int n]) s 0 0 A) (F0 m 21 ls [.int (b2 (ok x (S.2.1 0) && ok y (S.2.1 2)))]) := by
    refine lv_istore (lv' := [(4, .int (b2 (ok x (S.2.1 0) && ok y (S.2.1 2)))), (0, .ref (q 0)), (1, .int x), (2, .int y), (3, .int n)]) hx hb d_M_back_21 hl (by decide) rfl (fun ls hl => ?_)
    have J43 : W p l e (headSpec (.code y_M_back b_M_back 6 (some .boolean) :: bg) { frames := 3, cells := 0, slots := 0, locals := 65 }).room s m (List.toArray [.ref (q 0), .int x, .int y, .int n]) below meth c s.heap [] 0 0 (MQ below (wr_Q (some (.int ((op_back S x y n).2.1))) (dC, dI) classes (wM q cI cZ ((op_back S x y n).2.2) (nI (op_back S x y n).1)) A) (List.toArray [.ref (q 0), .int x, .int y, .int n]) s 0 0 A) (F0 m 43 ls [.int (b2 ((ok x (S.2.1 0) && ok y (S.2.1 2)) && !decide (nI (S.1 2 (nn y)) < n)))]) := by
      refine lv_istore (lv' := [(5, .int (b2 ((ok x (S.2.1 0) && ok y (S.2.1 2)) && !decide (nI (S.1 2 (nn y)) < n)))), (4, .int (b2 (ok x (S.2.1 0) && ok y (S.2.1 2)))), (0, .ref (q 0)), (1, .int x), (2, .int y), (3, .int n)]) hx hb d_M_back_43 hl (by decide) rfl (fun ls hl => ?_)
      refine lv_aload_n hx hb d_M_back_45 rfl (lv_at hl 2 rfl) ?_
      refine lv_bipush (v := nI 11) hx hb d_M_back_46 (by decide) ?_
      refine lv_iload hx hb d_M_back_48 (lv_at hl 1 rfl) ?_
      refine lv_iload_n hx hb d_M_back_50 rfl (lv_at hl 5 rfl) ?_
      refine pu_go (va_runS (As := [.int n]) (rest := [.int (b2 (ok x (S.2.1 0) && ok y (S.2.1 2))), .int (nI 11), .ref (q 0)]) ⟨hx, hb, hml, hown, hts⟩ (c_M_isMany l dC dI n) (cwS 1 hts (gi_S wd_702 wd_703 wd_5 wd_704) rfl rfl rfl (by decide +kernel) ⟨Nat.le_of_ble_eq_true rfl, Nat.le_of_ble_eq_true rfl⟩) (pu_preS (hK.sub (tys' := []) [] rfl) (fun k q h => by simp at h)) rfl rfl hl.1 rfl (lv_room (Nat.le_of_ble_eq_true rfl)) d_M_back_51 ⟨Nat.le_of_ble_eq_true rfl, Nat.le_of_ble_eq_true rfl⟩) ?_
      refine lv_iconst (v := b2 true) hx hb d_M_back_54 (by decide) ?_
      have J79 : W p l e (headSpec (.code y_M_back b_M_back 6 (some .boolean) :: bg) { frames := 3, cells := 0, slots := 0, locals := 65 }).room s m (List.toArray [.ref (q 0), .int x, .int y, .int n]) below meth c s.heap [] 0 0 (MQ below (wr_Q (some (.int ((op_back S x y n).2.1))) (dC, dI) classes (wM q cI cZ ((op_back S x y n).2.2) (nI (op_back S x y n).1)) A) (List.toArray [.ref (q 0), .int x, .int y, .int n]) s 0 0 A) (F0 m 79 ls [.int (b2 (!((ok x (S.2.1 0) && ok y (S.2.1 2)) && !decide (nI (S.1 2 (nn y)) < n)) || !decide (nI 9999 < atv S x y + n))), .int (b2 true), .int (b2 (rg n 1 9999)), .int (b2 (ok x (S.2.1 0) && ok y (S.2.1 2))), .int (nI 11), .ref (q 0)]) := by
        refine wr_goA (va_runV (As := [.int (nI 11), .int (b2 (ok x (S.2.1 0) && ok y (S.2.1 2))), .int (b2 (rg n 1 9999)), .int (b2 true), .int (b2 (!((ok x (S.2.1 0) && ok y (S.2.1 2)) && !decide (nI (S.1 2 (nn y)) < n)) || !decide (nI 9999 < atv S x y + n)))]) (rest := []) ⟨hx, hb, hml, hown, hts⟩ (c_M_goes l dC dI s.heap.size cI cZ q S th t hI (nI 11) (ok x (S.2.1 0) && ok y (S.2.1 2)) (rg n 1 9999) true (!((ok x (S.2.1 0) && ok y (S.2.1 2)) && !decide (nI (S.1 2 (nn y)) < n)) || !decide (nI 9999 < atv S x y + n))) (cwV 5 hts (gi_V wd_676 wd_678 wp_22 wd_5 wd_679) rfl rfl rfl (by decide +kernel) ⟨Nat.le_of_ble_eq_true rfl, Nat.le_of_ble_eq_true rfl⟩) (wr_preV hK hP hD (ci := 3) (q0 := 0) rfl rfl) rfl rfl hl.1 rfl (lv_room (Nat.le_of_ble_eq_true rfl)) d_M_back_79 ⟨Nat.le_of_ble_eq_true rfl, Nat.le_of_ble_eq_true rfl⟩) hD hS hA wM_adr (fun H locs hP hD hS => ?_)
        refine W.eq (g2 := F0 m 82 ls [.int (b2 ((ok x (S.2.1 0) && ok y (S.2.1 2)) && ((rg n 1 9999) && (true && (!((ok x (S.2.1 0) && ok y (S.2.1 2)) && !decide (nI (S.1 2 (nn y)) < n)) || !decide (nI 9999 < atv S x y + n))))))]) rfl ?_
        refine nv_bz (tgt := 90) hx hb d_M_back_82 (by decide) (fun c82 => ?_) (fun c82 => ?_)
        · refine lv_iconst (v := nI 0) hx hb d_M_back_90 (by decide) ?_
          have ho : op_back S x y n = ((gth (nI 11) (gbit (ok x (S.2.1 0) && ok y (S.2.1 2)) (rg n 1 9999) true (!((ok x (S.2.1 0) && ok y (S.2.1 2)) && !decide (nI (S.1 2 (nn y)) < n)) || !decide (nI 9999 < atv S x y + n)))), 0, S) := of_back hI c82
          rw [ho]
          refine nv_as (0) (by rfl) ?_
          have hP9 : va_P (dC, dI) classes (wM q cI cZ (S) (nI (gth (nI 11) (gbit (ok x (S.2.1 0) && ok y (S.2.1 2)) (rg n 1 9999) true (!((ok x (S.2.1 0) && ok y (S.2.1 2)) && !decide (nI (S.1 2 (nn y)) < n)) || !decide (nI 9999 < atv S x y + n)))))) H := hP
          exact W.zret hx hb hr (by decide) (fun t ht hW => ⟨rfl, by rw [ht]; exact hP9, hS.F ht⟩) hS.2.2 d_M_back_91
        · obtain ⟨k0, r0, t0, o0⟩ := and4 c82
          have hP : va_P (dC, dI) classes (wM q cI cZ S (nI 0)) H := by rw [gz c82] at hP; exact hP
          have hD : va_D A (wM q cI cZ S (nI 0)) := by rw [gz c82] at hD; exact hD
          obtain ⟨k1, k2⟩ := and2 k0
          have hb2 : S.1 2 (nn y) ≤ 9999 * t := hI.1 2 _
          have hbt := bd_lt hI
          have hbo := n_lt (a := S.1 2 (nn y)) r0 (by omega) (by decide)
          have hbr := bring_o hI k1 k2 r0
          obtain ⟨e_x, b_x⟩ := ok_of k1
          obtain ⟨e_y, b_y⟩ := ok_of k2
          obtain ⟨e_n, l_n, b_n⟩ := rg_of r0
          have hl : lv_has ls 6 [(5, .int (b2 ((ok x (S.2.1 0) && ok y (S.2.1 2)) && !decide (nI (S.1 2 (nn y)) < n)))), (4, .int (b2 (ok x (S.2.1 0) && ok y (S.2.1 2)))), (0, .ref (q 0)), (1, .int (nI (nn x))), (2, .int (nI (nn y))), (3, .int (nI (nn n)))] := by rw [← e_x, ← e_y, ← e_n]; exact hl
          refine lv_iload hx hb d_M_back_85 (lv_at hl 0 rfl) ?_
          refine nv_bn (tgt := 92) hx hb d_M_back_87 (by decide) (fun c87 => ?_) (fun c87 => ?_)
          · have q1 : nn n ≤ S.1 2 (nn y) := by rw [k0, hbo] at c87; exact of_decide_eq_true c87
            have o1 : S.1 25 (nn x * 60 + nn y) + nn n ≤ 9999 := by rw [c87, hbr] at o0; exact of_decide_eq_true o0
            refine lv_aload_n hx hb d_M_back_92 rfl (lv_at hl 2 rfl) ?_
            refine va_get (D := (dC, dI)) (ci := 3) (v := .ref (q 3)) (C := R_M) (T := F_M) (N := 37) hx hb hts i_M hown hK hP 0 rfl rfl 6 (by decide) (hts _ wd_561) (fun _ h9 => h9) rfl d_M_back_93 ?_
            refine lv_iload_n hx hb d_M_back_96 rfl (lv_at hl 4 rfl) ?_
            refine lv_aload_n hx hb d_M_back_97 rfl (lv_at hl 2 rfl) ?_
            refine va_get (D := (dC, dI)) (ci := 3) (v := .ref (q 3)) (C := R_M) (T := F_M) (N := 37) hx hb hts i_M hown hK hP 0 rfl rfl 6 (by decide) (hts _ wd_561) (fun _ h9 => h9) rfl d_M_back_98 ?_
            refine lv_iload_n hx hb d_M_back_101 rfl (lv_at hl 4 rfl) ?_
            refine nv_iald (v := nI (S.1 2 (nn y))) hx hb hK hP 3 0 rfl rfl (by omega) (by decide) rfl d_M_back_102 ?_
            have hb1 : S.1 2 (nn y) ≤ 9999 * t := hB 2 _
            refine lv_iload_n hx hb d_M_back_103 rfl (lv_at hl 5 rfl) ?_
            refine nv_sub hx hb (by omega) d_M_back_104 ?_
            refine nv_iast (f' := upd (colf S.1 2) (nn y) (nI ((S.1 2 (nn y)) - (nn n)))) hx hb hK hP hD hS 3 0 rfl rfl (by omega) (by decide) rfl (wM q cI cZ (S_a S 2 (nn y) ((S.1 2 (nn y)) - (nn n))) (nI 0)) wM_c2 d_M_back_105 (fun H locs hP hD hS => ?_)
            obtain ⟨S1, hS1⟩ : ∃ z : St, z = S_a S 2 (nn y) ((S.1 2 (nn y)) - (nn n)) := ⟨_, rfl⟩
            rw [← hS1] at hP hD
            have hIS1 : Bd t S1 := by rw [hS1]; exact Bd_a hI (show _ ≤ 9999 * t by omega)
            have hBS1 := hIS1.1
            have hg0 : S1.2.1 0 ≤ 8 := hIS1.2.1 0
            have hg1 : S1.2.1 1 ≤ 9999 := hIS1.2.1 1
            have hg2 : S1.2.1 2 ≤ 60 := hIS1.2.1 2
            have hg3 : S1.2.1 3 ≤ 60 := hIS1.2.1 3
            have hg4 : S1.2.1 4 ≤ 80 := hIS1.2.1 4
            have hg5 : S1.2.1 5 ≤ 20 := hIS1.2.1 5
            have hg6 : S1.2.1 6 ≤ 80 := hIS1.2.1 6
            have hg7 : S1.2.1 7 ≤ 10 := hIS1.2.1 7
            have hg8 : t ≤ 512 := hIS1.2.2
            have q0_ : S1.2.1 0 = S.2.1 0 := by rw [hS1]; rfl
            have q2_ : S1.2.1 2 = S.2.1 2 := by rw [hS1]; rfl
            have r25 : S1.1 25 (nn x * 60 + nn y) = S.1 25 (nn x * 60 + nn y) := by rw [hS1]; rfl
            refine lv_aload_n hx hb d_M_back_106 rfl (lv_at hl 2 rfl) ?_
            refine va_get (D := (dC, dI)) (ci := 3) (v := .ref (q 6)) (C := R_M) (T := F_M) (N := 37) hx hb hts i_M hown hK hP 0 rfl rfl 9 (by decide) (hts _ wd_564) (fun _ h9 => h9) rfl d_M_back_107 ?_
            refine lv_iload_n hx hb d_M_back_110 rfl (lv_at hl 3 rfl) ?_
            refine lv_bipush (v := nI 60) hx hb d_M_back_111 (by decide) ?_
            refine nv_mul hx hb d_M_back_113 ?_
            refine lv_iload_n hx hb d_M_back_114 rfl (lv_at hl 4 rfl) ?_
            refine nv_add hx hb d_M_back_115 ?_
            refine lv_aload_n hx hb d_M_back_116 rfl (lv_at hl 2 rfl) ?_
            refine lv_iload_n hx hb d_M_back_117 rfl (lv_at hl 3 rfl) ?_
            refine lv_iload_n hx hb d_M_back_118 rfl (lv_at hl 4 rfl) ?_
            refine pu_go (va_runV (As := [.int (nI (nn x)), .int (nI (nn y))]) (rest := [.int (nI (((nn x) * 60) + (nn y))), .ref (q 6)]) ⟨hx, hb, hml, hown, hts⟩ (c_M_at l dC dI cI cZ q S1 (nI 0) t hIS1 (nI (nn x)) (nI (nn y))) (cwV 2 hts (gi_V wd_705 wd_707 wp_25 wd_5 wd_708) rfl rfl rfl (by decide +kernel) ⟨Nat.le_of_ble_eq_true rfl, Nat.le_of_ble_eq_true rfl⟩) (pu_preV hK hP (ci := 3) (q0 := 0) rfl rfl) rfl rfl hl.1 rfl (lv_room (Nat.le_of_ble_eq_true rfl)) d_M_back_119 ⟨Nat.le_of_ble_eq_true rfl, Nat.le_of_ble_eq_true rfl⟩) ?_
            refine nv_as (nI (S1.1 25 ((nn x) * 60 + (nn y)))) (atv_n (by omega) (by omega) (by omega) (by omega)) ?_
            have hb2 : S1.1 25 ((nn x) * 60 + (nn y)) ≤ 9999 := hBS1 25 _
            refine lv_iload_n hx hb d_M_back_122 rfl (lv_at hl 5 rfl) ?_
            refine nv_add hx hb d_M_back_123 ?_
            refine nv_iast (f' := upd (colf S1.1 25) (((nn x) * 60) + (nn y)) (nI ((S1.1 25 ((nn x) * 60 + (nn y))) + (nn n)))) hx hb hK hP hD hS 6 0 rfl rfl (by omega) (by decide) rfl (wM q cI cZ (S_a S1 25 (((nn x) * 60) + (nn y)) ((S1.1 25 ((nn x) * 60 + (nn y))) + (nn n))) (nI 0)) wM_c25 d_M_back_124 (fun H locs hP hD hS => ?_)
            refine lv_iconst (v := nI 1) hx hb d_M_back_125 (by decide) ?_
            have ho : op_back S x y n = (0, 1, S_a (S_a S 2 (nn y) (S.1 2 (nn y) - nn n)) 25 (nn x * 60 + nn y) (S.1 25 (nn x * 60 + nn y) + nn n)) := by unfold op_back; rw [if_pos k1, if_pos k2, if_pos r0, if_neg (show ¬ S.1 2 (nn y) < nn n by omega), if_pos o1]
            rw [ho]
            refine nv_as (1) (by rfl) ?_
            have hP9 : va_P (dC, dI) classes (wM q cI cZ (S_a (S_a S 2 (nn y) (S.1 2 (nn y) - nn n)) 25 (nn x * 60 + nn y) (S.1 25 (nn x * 60 + nn y) + nn n)) (nI 0)) H := by rw [r25, hS1] at hP; exact hP
            exact W.zret hx hb hr (by decide) (fun t ht hW => ⟨rfl, by rw [ht]; exact hP9, hS.F ht⟩) hS.2.2 d_M_back_126
          · have q1 : S.1 2 (nn y) < nn n := by rw [k0, hbo] at c87; have h9 := of_decide_eq_false (show decide (nn n ≤ S.1 2 (nn y)) = false from c87); omega
            refine lv_iconst (v := nI 0) hx hb d_M_back_90 (by decide) ?_
            have ho : op_back S x y n = (0, 0, S) := by unfold op_back; rw [if_pos k1, if_pos k2, if_pos r0, if_pos q1]
            rw [ho]
            refine nv_as (0) (by rfl) ?_
            have hP9 : va_P (dC, dI) classes (wM q cI cZ (S) (nI 0)) H := hP
            exact W.zret hx hb hr (by decide) (fun t ht hW => ⟨rfl, by rw [ht]; exact hP9, hS.F ht⟩) hS.2.2 d_M_back_91
      refine lv_iload hx hb d_M_back_55 (lv_at hl 0 rfl) ?_
      refine nv_bz (tgt := 74) hx hb d_M_back_57 (by decide) (fun c57 => ?_) (fun c57 => ?_)
      · refine lv_iconst (v := nI 1) hx hb d_M_back_74 (by decide) ?_
        refine lv_goto (tgt := 79) hx hb d_M_back_75 (by decide) ?_
        refine nv_as (b2 (!((ok x (S.2.1 0) && ok y (S.2.1 2)) && !decide (nI (S.1 2 (nn y)) < n)) || !decide (nI 9999 < atv S x y + n))) (b2_of1 (by simp [c57])) ?_
        exact J79
      · refine lv_aload_n hx hb d_M_back_60 rfl (lv_at hl 2 rfl) ?_
        refine lv_iload_n hx hb d_M_back_61 rfl (lv_at hl 3 rfl) ?_
        refine lv_iload_n hx hb d_M_back_62 rfl (lv_at hl 4 rfl) ?_
        refine pu_go (va_runV (As := [.int x, .int y]) (rest := [.int (b2 true), .int (b2 (rg n 1 9999)), .int (b2 (ok x (S.2.1 0) && ok y (S.2.1 2))), .int (nI 11), .ref (q 0)]) ⟨hx, hb, hml, hown, hts⟩ (c_M_at l dC dI cI cZ q S th t hI x y) (cwV 2 hts (gi_V wd_705 wd_707 wp_25 wd_5 wd_708) rfl rfl rfl (by decide +kernel) ⟨Nat.le_of_ble_eq_true rfl, Nat.le_of_ble_eq_true rfl⟩) (pu_preV hK hP (ci := 3) (q0 := 0) rfl rfl) rfl rfl hl.1 rfl (lv_room (Nat.le_of_ble_eq_true rfl)) d_M_back_63 ⟨Nat.le_of_ble_eq_true rfl, Nat.le_of_ble_eq_true rfl⟩) ?_
        refine lv_iload_n hx hb d_M_back_66 rfl (lv_at hl 5 rfl) ?_
        refine lv_iadd hx hb d_M_back_67 ?_
        refine lv_sipush (v := nI 9999) hx hb d_M_back_68 (by decide) ?_
        refine lv_icmp_gt (tgt := 78) hx hb d_M_back_71 (by decide) (fun c71 => ?_) (fun c71 => ?_)
        · refine lv_iconst (v := nI 0) hx hb d_M_back_78 (by decide) ?_
          refine nv_as (b2 (!((ok x (S.2.1 0) && ok y (S.2.1 2)) && !decide (nI (S.1 2 (nn y)) < n)) || !decide (nI 9999 < atv S x y + n))) (b2_of0 (by simp [c57, c71])) ?_
          exact J79
        · refine lv_iconst (v := nI 1) hx hb d_M_back_74 (by decide) ?_
          refine lv_goto (tgt := 79) hx hb d_M_back_75 (by decide) ?_
          refine nv_as (b2 (!((ok x (S.2.1 0) && ok y (S.2.1 2)) && !decide (nI (S.1 2 (nn y)) < n)) || !decide (nI 9999 < atv S x y + n))) (b2_of1 (by simp [c57, c71])) ?_
          exact J79
    refine lv_iload hx hb d_M_back_23 (lv_at hl 0 rfl) ?_
    refine nv_bz (tgt := 42) hx hb d_M_back_25 (by decide) (fun c25 => ?_) (fun c25 => ?_)
    · refine lv_iconst (v := nI 0) hx hb d_M_back_42 (by decide) ?_
      refine nv_as (b2 ((ok x (S.2.1 0) && ok y (S.2.1 2)) && !decide (nI (S.1 2 (nn y)) < n))) (b2_of0 (by simp [c25])) ?_
      exact J43
    · obtain ⟨k1, k2⟩ := and2 c25
      obtain ⟨e_y, b_y⟩ := ok_of k2
      have hl : lv_has ls 6 [(4, .int (b2 (ok x (S.2.1 0) && ok y (S.2.1 2)))), (0, .ref (q 0)), (1, .int x), (2, .int (nI (nn y))), (3, .int n)] := by rw [← e_y]; exact hl
      refine lv_aload_n hx hb d_M_back_28 rfl (lv_at hl 1 rfl) ?_
      refine va_get (D := (dC, dI)) (ci := 3) (v := .ref (q 3)) (C := R_M) (T := F_M) (N := 37) hx hb hts i_M hown hK hP 0 rfl rfl 6 (by decide) (hts _ wd_561) (fun _ h9 => h9) rfl d_M_back_29 ?_
      refine lv_iload_n hx hb d_M_back_32 rfl (lv_at hl 3 rfl) ?_
      refine nv_iald (v := nI (S.1 2 (nn y))) hx hb hK hP 3 0 rfl rfl (by omega) (by decide) rfl d_M_back_33 ?_
      have hb3 : S.1 2 (nn y) ≤ 9999 * t := hB 2 _
      refine lv_iload_n hx hb d_M_back_34 rfl (lv_at hl 4 rfl) ?_
      refine lv_icmp_lt (tgt := 42) hx hb d_M_back_35 (by decide) (fun c35 => ?_) (fun c35 => ?_)
      · refine lv_iconst (v := nI 0) hx hb d_M_back_42 (by decide) ?_
        refine nv_as (b2 ((ok x (S.2.1 0) && ok y (S.2.1 2)) && !decide (nI (S.1 2 (nn y)) < n))) (b2_of0 (by simp [c25, c35])) ?_
        exact J43
      · refine lv_iconst (v := nI 1) hx hb d_M_back_38 (by decide) ?_
        refine lv_goto (tgt := 43) hx hb d_M_back_39 (by decide) ?_
        refine nv_as (b2 ((ok x (S.2.1 0) && ok y (S.2.1 2)) && !decide (nI (S.1 2 (nn y)) < n))) (b2_of1 (by simp [c25, c35])) ?_
        exact J43
  refine lv_aload_n hx hb d_M_back_0 rfl (lv_at hl 0 rfl) ?_
  refine lv_iload_n hx hb d_M_back_1 rfl (lv_at hl 1 rfl) ?_
  refine pu_go (va_runV (As := [.int x]) (rest := []) ⟨hx, hb, hml, hown, hts⟩ (c_M_isStore l dC dI cI cZ q S th t hI x) (cwV 1 hts (gi_V wd_694 wd_696 wp_23 wd_5 wd_697) rfl rfl rfl (by decide +kernel) ⟨Nat.le_of_ble_eq_true rfl, Nat.le_of_ble_eq_true rfl⟩) (pu_preV hK hP (ci := 3) (q0 := 0) rfl rfl) rfl rfl hl.1 rfl (lv_room (Nat.le_of_ble_eq_true rfl)) d_M_back_2 ⟨Nat.le_of_ble_eq_true rfl, Nat.le_of_ble_eq_true rfl⟩) ?_
  refine nv_bz (tgt := 20) hx hb d_M_back_5 (by decide) (fun c5 => ?_) (fun c5 => ?_)
  · refine lv_iconst (v := nI 0) hx hb d_M_back_20 (by decide) ?_
    refine nv_as (b2 (ok x (S.2.1 0) && ok y (S.2.1 2))) (b2_of0 (by simp [c5])) ?_
    exact J21
  · refine lv_aload_n hx hb d_M_back_8 rfl (lv_at hl 0 rfl) ?_
    refine lv_iload_n hx hb d_M_back_9 rfl (lv_at hl 2 rfl) ?_
    refine pu_go (va_runV (As := [.int y]) (rest := []) ⟨hx, hb, hml, hown, hts⟩ (c_M_isLot l dC dI cI cZ q S th t hI y) (cwV 1 hts (gi_V wd_698 wd_700 wp_24 wd_5 wd_701) rfl rfl rfl (by decide +kernel) ⟨Nat.le_of_ble_eq_true rfl, Nat.le_of_ble_eq_true rfl⟩) (pu_preV hK hP (ci := 3) (q0 := 0) rfl rfl) rfl rfl hl.1 rfl (lv_room (Nat.le_of_ble_eq_true rfl)) d_M_back_10 ⟨Nat.le_of_ble_eq_true rfl, Nat.le_of_ble_eq_true rfl⟩) ?_
    refine nv_bz (tgt := 20) hx hb d_M_back_13 (by decide) (fun c13 => ?_) (fun c13 => ?_)
    · refine lv_iconst (v := nI 0) hx hb d_M_back_20 (by decide) ?_
      refine nv_as (b2 (ok x (S.2.1 0) && ok y (S.2.1 2))) (b2_of0 (by simp [c5, c13])) ?_
      exact J21
    · refine lv_iconst (v := nI 1) hx hb d_M_back_16 (by decide) ?_
      refine lv_goto (tgt := 21) hx hb d_M_back_17 (by decide) ?_
      refine nv_as (b2 (ok x (S.2.1 0) && ok y (S.2.1 2))) (b2_of1 (by simp [c5, c13])) ?_
      exact J21
set_option maxHeartbeats 4000000 in
set_option maxRecDepth 100000 in
theorem c_M_waste (l : Launch) (dC : Nat → ClassId) (dI : Nat → Nat → Nat) (sz : Nat) (cI cZ : ClassId) (q : Nat → Nat) (S : St) (th : Int32) (t : Nat) (hI : Bd t S) (x y n w : Int32) (hV : Inv t S) (hwa : ∀ j, S.1 3 j + 9999 ≤ 9999 * t)  : Met l y_M_waste (.code y_M_waste b_M_waste 6 (some .int) :: bg) { frames := 3, cells := 0, slots := 0, locals := 65 } (wr_P (dC, dI) classes (wM q cI cZ S th) [(cI, .int), (cZ, .boolean)] sz [.ref (q 0), .int x, .int y, .int n, .int w]) (wr_Q (some (.int ((op_waste S x y n w).2.1))) (dC, dI) classes (wM q cI cZ ((op_waste S x y n w).2.2) (nI (op_waste S x y n w).1)) (va_A (wM q cI cZ S th) sz)) 0 0 (va_A (wM q cI cZ S th) sz) := by
  refine Met.ofW (cc := b_M_waste) (maxL := 6) (ret := (some .int)) (by decide) rfl ?_
  intro p e s m args below meth c s₁ B hml hv
  obtain ⟨rfl, hsz, hP, hK, hD0⟩ := hv
  subst hsz
  have hD := hD0.self (sz := s.heap.size)
  generalize hAe : va_A (wM q cI cZ S th) s.heap.size = A at hD ⊢
  have hA : ∀ q : Nat, s.heap.size ≤ q → A q := fun q h => by rw [← hAe]; exact Or.inr h
  have hS : va_S A s.heap s.heap [] := va_S.rf
  have hx := B.exec
  have hb := B.bytes
  have hr := B.returns
  have hts := fun w (h : w ∈ bg) => atoms_spec (ws := .code y_M_waste b_M_waste 6 (some .int) :: bg) B.pre w (List.mem_cons_of_mem _ h)
  have hown : s.vm.findClass R_M = some m.cls := findClass_of_methodNamed B.named
  have hlocks := B.notSynchronized
  have hl := lv_entry ([.ref (q 0), .int x, .int y, .int n, .int w]) (n := 6) (Nat.le_of_ble_eq_true rfl)
  rw [lg_entry_eq]
  generalize (lg_sl ([.ref (q 0), .int x, .int y, .int n, .int w]) ++ List.replicate (6 - (lg_sl ([.ref (q 0), .int x, .int y, .int n, .int w])).length) Slot.unset).toArray = ls at hl ⊢
  have hl : lv_has ls 6 [(0, .ref (q 0)), (1, .int x), (2, .int y), (3, .int n), (4, .int w)] := hl
  have hB := hI.1
  have hg0 : S.2.1 0 ≤ 8 := hI.2.1 0
  have hg1 : S.2.1 1 ≤ 9999 := hI.2.1 1
  have hg2 : S.2.1 2 ≤ 60 := hI.2.1 2
  have hg3 : S.2.1 3 ≤ 60 := hI.2.1 3
  have hg4 : S.2.1 4 ≤ 80 := hI.2.1 4
  have hg5 : S.2.1 5 ≤ 20 := hI.2.1 5
  have hg6 : S.2.1 6 ≤ 80 := hI.2.1 6
  have hg7 : S.2.1 7 ≤ 10 := hI.2.1 7
  have hg8 : t ≤ 512 := hI.2.2
  have J21 : W p l e (headSpec (.code y_M_waste b_M_waste 6 (some .int) :: bg) { frames := 3, cells := 0, slots := 0, locals := 65 }).room s m (List.toArray [.ref (q 0), .int x, .int y, .int n, .int w]) below meth c s.heap [] 0 0 (MQ below (wr_Q (some (.int ((op_waste S x y n w).2.1))) (dC, dI) classes (wM q cI cZ ((op_waste S x y n w).2.2) (nI (op_waste S x y n w).1)) A) (List.toArray [.ref (q 0), .int x, .int y, .int n, .int w]) s 0 0 A) (F0 m 21 ls [.int (b2 (ok x (S.2.1 0) && ok y (S.2.1 2)))]) := by
    refine lv_istore (lv' := [(5, .int (b2 (ok x (S.2.1 0) && ok y (S.2.1 2)))), (0, .ref (q 0)), (1, .int x), (2, .int y), (3, .int n), (4, .int w)]) hx hb d_M_waste_21 hl (by decide) rfl (fun ls hl => ?_)
    refine lv_aload_n hx hb d_M_waste_23 rfl (lv_at hl 1 rfl) ?_
    refine lv_bipush (v := nI 7) hx hb d_M_waste_24 (by decide) ?_
    refine lv_iload hx hb d_M_waste_26 (lv_at hl 0 rfl) ?_
    have J52 : W p l e (headSpec (.code y_M_waste b_M_waste 6 (some .int) :: bg) { frames := 3, cells := 0, slots := 0, locals := 65 }).room s m (List.toArray [.ref (q 0), .int x, .int y, .int n, .int w]) below meth c s.heap [] 0 0 (MQ below (wr_Q (some (.int ((op_waste S x y n w).2.1))) (dC, dI) classes (wM q cI cZ ((op_waste S x y n w).2.2) (nI (op_waste S x y n w).1)) A) (List.toArray [.ref (q 0), .int x, .int y, .int n, .int w]) s 0 0 A) (F0 m 52 ls [.int (b2 (rg n 1 9999 && rg w 1 9999)), .int (b2 (ok x (S.2.1 0) && ok y (S.2.1 2))), .int (nI 7), .ref (q 0)]) := by
      have J72 : W p l e (headSpec (.code y_M_waste b_M_waste 6 (some .int) :: bg) { frames := 3, cells := 0, slots := 0, locals := 65 }).room s m (List.toArray [.ref (q 0), .int x, .int y, .int n, .int w]) below meth c s.heap [] 0 0 (MQ below (wr_Q (some (.int ((op_waste S x y n w).2.1))) (dC, dI) classes (wM q cI cZ ((op_waste S x y n w).2.2) (nI (op_waste S x y n w).1)) A) (List.toArray [.ref (q 0), .int x, .int y, .int n, .int w]) s 0 0 A) (F0 m 72 ls [.int (b2 ((ok x (S.2.1 0) && ok y (S.2.1 2)) && !decide (atv S x y < n))), .int (b2 (rg n 1 9999 && rg w 1 9999)), .int (b2 (ok x (S.2.1 0) && ok y (S.2.1 2))), .int (nI 7), .ref (q 0)]) := by
        refine lv_iconst (v := b2 true) hx hb d_M_waste_72 (by decide) ?_
        refine wr_goA (va_runV (As := [.int (nI 7), .int (b2 (ok x (S.2.1 0) && ok y (S.2.1 2))), .int (b2 (rg n 1 9999 && rg w 1 9999)), .int (b2 ((ok x (S.2.1 0) && ok y (S.2.1 2)) && !decide (atv S x y < n))), .int (b2 true)]) (rest := []) ⟨hx, hb, hml, hown, hts⟩ (c_M_goes l dC dI s.heap.size cI cZ q S th t hI (nI 7) (ok x (S.2.1 0) && ok y (S.2.1 2)) (rg n 1 9999 && rg w 1 9999) ((ok x (S.2.1 0) && ok y (S.2.1 2)) && !decide (atv S x y < n)) true) (cwV 5 hts (gi_V wd_676 wd_678 wp_22 wd_5 wd_679) rfl rfl rfl (by decide +kernel) ⟨Nat.le_of_ble_eq_true rfl, Nat.le_of_ble_eq_true rfl⟩) (wr_preV hK hP hD (ci := 3) (q0 := 0) rfl rfl) rfl rfl hl.1 rfl (lv_room (Nat.le_of_ble_eq_true rfl)) d_M_waste_73 ⟨Nat.le_of_ble_eq_true rfl, Nat.le_of_ble_eq_true rfl⟩) hD hS hA wM_adr (fun H locs hP hD hS => ?_)
        refine W.eq (g2 := F0 m 76 ls [.int (b2 ((ok x (S.2.1 0) && ok y (S.2.1 2)) && ((rg n 1 9999 && rg w 1 9999) && (((ok x (S.2.1 0) && ok y (S.2.1 2)) && !decide (atv S x y < n)) && true))))]) rfl ?_
        refine nv_bn (tgt := 81) hx hb d_M_waste_76 (by decide) (fun c76 => ?_) (fun c76 => ?_)
        · obtain ⟨k0, r0, t0, o0⟩ := and4 c76
          have hP : va_P (dC, dI) classes (wM q cI cZ S (nI 0)) H := by rw [gz c76] at hP; exact hP
          have hD : va_D A (wM q cI cZ S (nI 0)) := by rw [gz c76] at hD; exact hD
          obtain ⟨k1, k2⟩ := and2 k0
          obtain ⟨r1, r2⟩ := and2 r0
          rw [k0, at_o (hi := 0) hI k1 k2 r1] at t0
          have o1 : nn n ≤ S.1 25 (nn x * 60 + nn y) := of_decide_eq_true t0
          have hbt := bd_lt hI
          obtain ⟨e_x, b_x⟩ := ok_of k1
          obtain ⟨e_y, b_y⟩ := ok_of k2
          obtain ⟨e_n, l_n, b_n⟩ := rg_of r1
          obtain ⟨e_w, l_w, b_w⟩ := rg_of r2
          have hl : lv_has ls 6 [(5, .int (b2 (ok x (S.2.1 0) && ok y (S.2.1 2)))), (0, .ref (q 0)), (1, .int (nI (nn x))), (2, .int (nI (nn y))), (3, .int (nI (nn n))), (4, .int (nI (nn w)))] := by rw [← e_x, ← e_y, ← e_n, ← e_w]; exact hl
          refine lv_aload_n hx hb d_M_waste_81 rfl (lv_at hl 1 rfl) ?_
          refine va_get (D := (dC, dI)) (ci := 3) (v := .ref (q 6)) (C := R_M) (T := F_M) (N := 37) hx hb hts i_M hown hK hP 0 rfl rfl 9 (by decide) (hts _ wd_564) (fun _ h9 => h9) rfl d_M_waste_82 ?_
          refine lv_iload_n hx hb d_M_waste_85 rfl (lv_at hl 2 rfl) ?_
          refine lv_bipush (v := nI 60) hx hb d_M_waste_86 (by decide) ?_
          refine nv_mul hx hb d_M_waste_88 ?_
          refine lv_iload_n hx hb d_M_waste_89 rfl (lv_at hl 3 rfl) ?_
          refine nv_add hx hb d_M_waste_90 ?_
          refine lv_aload_n hx hb d_M_waste_91 rfl (lv_at hl 1 rfl) ?_
          refine lv_iload_n hx hb d_M_waste_92 rfl (lv_at hl 2 rfl) ?_
          refine lv_iload_n hx hb d_M_waste_93 rfl (lv_at hl 3 rfl) ?_
          refine pu_go (va_runV (As := [.int (nI (nn x)), .int (nI (nn y))]) (rest := [.int (nI (((nn x) * 60) + (nn y))), .ref (q 6)]) ⟨hx, hb, hml, hown, hts⟩ (c_M_at l dC dI cI cZ q S (nI 0) t hI (nI (nn x)) (nI (nn y))) (cwV 2 hts (gi_V wd_705 wd_707 wp_25 wd_5 wd_708) rfl rfl rfl (by decide +kernel) ⟨Nat.le_of_ble_eq_true rfl, Nat.le_of_ble_eq_true rfl⟩) (pu_preV hK hP (ci := 3) (q0 := 0) rfl rfl) rfl rfl hl.1 rfl (lv_room (Nat.le_of_ble_eq_true rfl)) d_M_waste_94 ⟨Nat.le_of_ble_eq_true rfl, Nat.le_of_ble_eq_true rfl⟩) ?_
          refine nv_as (nI (S.1 25 ((nn x) * 60 + (nn y)))) (atv_n (by omega) (by omega) (by omega) (by omega)) ?_
          have hb1 : S.1 25 ((nn x) * 60 + (nn y)) ≤ 9999 := hB 25 _
          refine lv_iload_n hx hb d_M_waste_97 rfl (lv_at hl 4 rfl) ?_
          refine nv_sub hx hb (by omega) d_M_waste_98 ?_
          refine nv_iast (f' := upd (colf S.1 25) (((nn x) * 60) + (nn y)) (nI ((S.1 25 ((nn x) * 60 + (nn y))) - (nn n)))) hx hb hK hP hD hS 6 0 rfl rfl (by omega) (by decide) rfl (wM q cI cZ (S_a S 25 (((nn x) * 60) + (nn y)) ((S.1 25 ((nn x) * 60 + (nn y))) - (nn n))) (nI 0)) wM_c25 d_M_waste_99 (fun H locs hP hD hS => ?_)
          refine lv_aload_n hx hb d_M_waste_100 rfl (lv_at hl 1 rfl) ?_
          refine va_get (D := (dC, dI)) (ci := 3) (v := .ref (q 4)) (C := R_M) (T := F_M) (N := 37) hx hb hts i_M hown hK hP 0 rfl rfl 7 (by decide) (hts _ wd_562) (fun _ h9 => h9) rfl d_M_waste_101 ?_
          refine lv_iload_n hx hb d_M_waste_104 rfl (lv_at hl 3 rfl) ?_
          refine lv_aload_n hx hb d_M_waste_105 rfl (lv_at hl 1 rfl) ?_
          refine va_get (D := (dC, dI)) (ci := 3) (v := .ref (q 4)) (C := R_M) (T := F_M) (N := 37) hx hb hts i_M hown hK hP 0 rfl rfl 7 (by decide) (hts _ wd_562) (fun _ h9 => h9) rfl d_M_waste_106 ?_
          refine lv_iload_n hx hb d_M_waste_109 rfl (lv_at hl 3 rfl) ?_
          refine nv_iald (v := nI (S.1 3 (nn y))) hx hb hK hP 4 0 rfl rfl (by omega) (by decide) rfl d_M_waste_110 ?_
          have hb2 : S.1 3 (nn y) ≤ 9999 * t := hB 3 _
          refine lv_iload_n hx hb d_M_waste_111 rfl (lv_at hl 4 rfl) ?_
          refine nv_add hx hb d_M_waste_112 ?_
          refine nv_iast (f' := upd (colf (S_a S 25 (((nn x) * 60) + (nn y)) ((S.1 25 ((nn x) * 60 + (nn y))) - (nn n))).1 3) (nn y) (nI ((S.1 3 (nn y)) + (nn n)))) hx hb hK hP hD hS 4 0 rfl rfl (by omega) (by decide) rfl (wM q cI cZ (S_a (S_a S 25 (((nn x) * 60) + (nn y)) ((S.1 25 ((nn x) * 60 + (nn y))) - (nn n))) 3 (nn y) ((S.1 3 (nn y)) + (nn n))) (nI 0)) wM_c3 d_M_waste_113 (fun H locs hP hD hS => ?_)
          refine lv_aload_n hx hb d_M_waste_114 rfl (lv_at hl 1 rfl) ?_
          refine va_get (D := (dC, dI)) (ci := 3) (v := .ref (q 5)) (C := R_M) (T := F_M) (N := 37) hx hb hts i_M hown hK hP 0 rfl rfl 8 (by decide) (hts _ wd_563) (fun _ h9 => h9) rfl d_M_waste_115 ?_
          refine lv_iload_n hx hb d_M_waste_118 rfl (lv_at hl 3 rfl) ?_
          refine lv_iload hx hb d_M_waste_119 (lv_at hl 5 rfl) ?_
          refine nv_iast (f' := upd (colf (S_a (S_a S 25 (((nn x) * 60) + (nn y)) ((S.1 25 ((nn x) * 60 + (nn y))) - (nn n))) 3 (nn y) ((S.1 3 (nn y)) + (nn n))).1 4) (nn y) (nI (nn w))) hx hb hK hP hD hS 5 0 rfl rfl (by omega) (by decide) rfl (wM q cI cZ (S_a (S_a (S_a S 25 (((nn x) * 60) + (nn y)) ((S.1 25 ((nn x) * 60 + (nn y))) - (nn n))) 3 (nn y) ((S.1 3 (nn y)) + (nn n))) 4 (nn y) (nn w)) (nI 0)) wM_c4 d_M_waste_121 (fun H locs hP hD hS => ?_)
          refine lv_aload_n hx hb d_M_waste_122 rfl (lv_at hl 1 rfl) ?_
          refine va_get (D := (dC, dI)) (ci := 3) (v := .ref (q 4)) (C := R_M) (T := F_M) (N := 37) hx hb hts i_M hown hK hP 0 rfl rfl 7 (by decide) (hts _ wd_562) (fun _ h9 => h9) rfl d_M_waste_123 ?_
          refine lv_iload_n hx hb d_M_waste_126 rfl (lv_at hl 3 rfl) ?_
          refine nv_iald (v := nI (S.1 3 (nn y) + nn n)) hx hb hK hP 4 0 rfl rfl (by omega) (by decide) (by show nI (aU (aU (aU S.1 25 (nn x * 60 + nn y) (S.1 25 (nn x * 60 + nn y) - nn n)) 3 (nn y) (S.1 3 (nn y) + nn n)) 4 (nn y) (nn w) 3 (nn y)) = _; rw [aU_n (by decide), aU_s]) d_M_waste_127 ?_
          have ho : op_waste S x y n w = (0, nI (S.1 3 (nn y) + nn n), S_a (S_a (S_a S 25 (nn x * 60 + nn y) (S.1 25 (nn x * 60 + nn y) - nn n)) 3 (nn y) (S.1 3 (nn y) + nn n)) 4 (nn y) (nn w)) := by unfold op_waste; rw [if_pos k1, if_pos k2, if_pos r1, if_pos r2, if_pos o1]
          rw [ho]
          have hP9 : va_P (dC, dI) classes (wM q cI cZ (S_a (S_a (S_a S 25 (nn x * 60 + nn y) (S.1 25 (nn x * 60 + nn y) - nn n)) 3 (nn y) (S.1 3 (nn y) + nn n)) 4 (nn y) (nn w)) (nI 0)) H := hP
          exact W.iret hx hb hr (fun t ht hW => ⟨rfl, by rw [ht]; exact hP9, hS.F ht⟩) hS.2.2 d_M_waste_128
        · refine lv_iconst (v := nI 0) hx hb d_M_waste_79 (by decide) ?_
          have ho : op_waste S x y n w = ((gth (nI 7) (gbit (ok x (S.2.1 0) && ok y (S.2.1 2)) (rg n 1 9999 && rg w 1 9999) ((ok x (S.2.1 0) && ok y (S.2.1 2)) && !decide (atv S x y < n)) true)), 0, S) := of_waste hI c76
          rw [ho]
          refine nv_as (0) (by rfl) ?_
          have hP9 : va_P (dC, dI) classes (wM q cI cZ (S) (nI (gth (nI 7) (gbit (ok x (S.2.1 0) && ok y (S.2.1 2)) (rg n 1 9999 && rg w 1 9999) ((ok x (S.2.1 0) && ok y (S.2.1 2)) && !decide (atv S x y < n)) true)))) H := hP
          exact W.iret hx hb hr (fun t ht hW => ⟨rfl, by rw [ht]; exact hP9, hS.F ht⟩) hS.2.2 d_M_waste_80
      refine lv_iload hx hb d_M_waste_52 (lv_at hl 0 rfl) ?_
      refine nv_bz (tgt := 71) hx hb d_M_waste_54 (by decide) (fun c54 => ?_) (fun c54 => ?_)
      · refine lv_iconst (v := nI 0) hx hb d_M_waste_71 (by decide) ?_
        refine nv_as (b2 ((ok x (S.2.1 0) && ok y (S.2.1 2)) && !decide (atv S x y < n))) (b2_of0 (by simp [c54])) ?_
        exact J72
      · refine lv_aload_n hx hb d_M_waste_57 rfl (lv_at hl 1 rfl) ?_
        refine lv_iload_n hx hb d_M_waste_58 rfl (lv_at hl 2 rfl) ?_
        refine lv_iload_n hx hb d_M_waste_59 rfl (lv_at hl 3 rfl) ?_
        refine pu_go (va_runV (As := [.int x, .int y]) (rest := [.int (b2 (rg n 1 9999 && rg w 1 9999)), .int (b2 (ok x (S.2.1 0) && ok y (S.2.1 2))), .int (nI 7), .ref (q 0)]) ⟨hx, hb, hml, hown, hts⟩ (c_M_at l dC dI cI cZ q S th t hI x y) (cwV 2 hts (gi_V wd_705 wd_707 wp_25 wd_5 wd_708) rfl rfl rfl (by decide +kernel) ⟨Nat.le_of_ble_eq_true rfl, Nat.le_of_ble_eq_true rfl⟩) (pu_preV hK hP (ci := 3) (q0 := 0) rfl rfl) rfl rfl hl.1 rfl (lv_room (Nat.le_of_ble_eq_true rfl)) d_M_waste_60 ⟨Nat.le_of_ble_eq_true rfl, Nat.le_of_ble_eq_true rfl⟩) ?_
        refine lv_iload_n hx hb d_M_waste_63 rfl (lv_at hl 4 rfl) ?_
        refine lv_icmp_lt (tgt := 71) hx hb d_M_waste_64 (by decide) (fun c64 => ?_) (fun c64 => ?_)
        · refine lv_iconst (v := nI 0) hx hb d_M_waste_71 (by decide) ?_
          refine nv_as (b2 ((ok x (S.2.1 0) && ok y (S.2.1 2)) && !decide (atv S x y < n))) (b2_of0 (by simp [c54, c64])) ?_
          exact J72
        · refine lv_iconst (v := nI 1) hx hb d_M_waste_67 (by decide) ?_
          refine lv_goto (tgt := 72) hx hb d_M_waste_68 (by decide) ?_
          refine nv_as (b2 ((ok x (S.2.1 0) && ok y (S.2.1 2)) && !decide (atv S x y < n))) (b2_of1 (by simp [c54, c64])) ?_
          exact J72
    refine lv_iload_n hx hb d_M_waste_28 rfl (lv_at hl 4 rfl) ?_
    refine pu_go (va_runS (As := [.int n]) (rest := [.int (b2 (ok x (S.2.1 0) && ok y (S.2.1 2))), .int (nI 7), .ref (q 0)]) ⟨hx, hb, hml, hown, hts⟩ (c_M_isMany l dC dI n) (cwS 1 hts (gi_S wd_702 wd_703 wd_5 wd_704) rfl rfl rfl (by decide +kernel) ⟨Nat.le_of_ble_eq_true rfl, Nat.le_of_ble_eq_true rfl⟩) (pu_preS (hK.sub (tys' := []) [] rfl) (fun k q h => by simp at h)) rfl rfl hl.1 rfl (lv_room (Nat.le_of_ble_eq_true rfl)) d_M_waste_29 ⟨Nat.le_of_ble_eq_true rfl, Nat.le_of_ble_eq_true rfl⟩) ?_
    refine nv_bz (tgt := 51) hx hb d_M_waste_32 (by decide) (fun c32 => ?_) (fun c32 => ?_)
    · refine lv_iconst (v := nI 0) hx hb d_M_waste_51 (by decide) ?_
      refine nv_as (b2 (rg n 1 9999 && rg w 1 9999)) (b2_of0 (by simp [c32])) ?_
      exact J52
    · refine lv_iload hx hb d_M_waste_35 (lv_at hl 5 rfl) ?_
      refine lv_iconst (v := nI 1) hx hb d_M_waste_37 (by decide) ?_
      refine lv_sipush (v := nI 9999) hx hb d_M_waste_38 (by decide) ?_
      refine pu_go (va_runS (As := [.int w, .int (nI 1), .int (nI 9999)]) (rest := [.int (b2 (ok x (S.2.1 0) && ok y (S.2.1 2))), .int (nI 7), .ref (q 0)]) ⟨hx, hb, hml, hown, hts⟩ (c_M_in l dC dI w (nI 1) (nI 9999)) (cwS 3 hts (gi_S wd_687 wd_688 wd_5 wd_689) rfl rfl rfl (by decide +kernel) ⟨Nat.le_of_ble_eq_true rfl, Nat.le_of_ble_eq_true rfl⟩) (pu_preS (hK.sub (tys' := []) [] rfl) (fun k q h => by simp at h)) rfl rfl hl.1 rfl (lv_room (Nat.le_of_ble_eq_true rfl)) d_M_waste_41 ⟨Nat.le_of_ble_eq_true rfl, Nat.le_of_ble_eq_true rfl⟩) ?_
      refine nv_as (b2 (rg w 1 9999)) (congrArg b2 (in_rg (by decide) (by decide))) ?_
      refine nv_bz (tgt := 51) hx hb d_M_waste_44 (by decide) (fun c44 => ?_) (fun c44 => ?_)
      · refine lv_iconst (v := nI 0) hx hb d_M_waste_51 (by decide) ?_
        refine nv_as (b2 (rg n 1 9999 && rg w 1 9999)) (b2_of0 (by simp [c32, c44])) ?_
        exact J52
      · refine lv_iconst (v := nI 1) hx hb d_M_waste_47 (by decide) ?_
        refine lv_goto (tgt := 52) hx hb d_M_waste_48 (by decide) ?_
        refine nv_as (b2 (rg n 1 9999 && rg w 1 9999)) (b2_of1 (by simp [c32, c44])) ?_
        exact J52
  refine lv_aload_n hx hb d_M_waste_0 rfl (lv_at hl 0 rfl) ?_
  refine lv_iload_n hx hb d_M_waste_1 rfl (lv_at hl 1 rfl) ?_
  refine pu_go (va_runV (As := [.int x]) (rest := []) ⟨hx, hb, hml, hown, hts⟩ (c_M_isStore l dC dI cI cZ q S th t hI x) (cwV 1 hts (gi_V wd_694 wd_696 wp_23 wd_5 wd_697) rfl rfl rfl (by decide +kernel) ⟨Nat.le_of_ble_eq_true rfl, Nat.le_of_ble_eq_true rfl⟩) (pu_preV hK hP (ci := 3) (q0 := 0) rfl rfl) rfl rfl hl.1 rfl (lv_room (Nat.le_of_ble_eq_true rfl)) d_M_waste_2 ⟨Nat.le_of_ble_eq_true rfl, Nat.le_of_ble_eq_true rfl⟩) ?_
  refine nv_bz (tgt := 20) hx hb d_M_waste_5 (by decide) (fun c5 => ?_) (fun c5 => ?_)
  · refine lv_iconst (v := nI 0) hx hb d_M_waste_20 (by decide) ?_
    refine nv_as (b2 (ok x (S.2.1 0) && ok y (S.2.1 2))) (b2_of0 (by simp [c5])) ?_
    exact J21
  · refine lv_aload_n hx hb d_M_waste_8 rfl (lv_at hl 0 rfl) ?_
    refine lv_iload_n hx hb d_M_waste_9 rfl (lv_at hl 2 rfl) ?_
    refine pu_go (va_runV (As := [.int y]) (rest := []) ⟨hx, hb, hml, hown, hts⟩ (c_M_isLot l dC dI cI cZ q S th t hI y) (cwV 1 hts (gi_V wd_698 wd_700 wp_24 wd_5 wd_701) rfl rfl rfl (by decide +kernel) ⟨Nat.le_of_ble_eq_true rfl, Nat.le_of_ble_eq_true rfl⟩) (pu_preV hK hP (ci := 3) (q0 := 0) rfl rfl) rfl rfl hl.1 rfl (lv_room (Nat.le_of_ble_eq_true rfl)) d_M_waste_10 ⟨Nat.le_of_ble_eq_true rfl, Nat.le_of_ble_eq_true rfl⟩) ?_
    refine nv_bz (tgt := 20) hx hb d_M_waste_13 (by decide) (fun c13 => ?_) (fun c13 => ?_)
    · refine lv_iconst (v := nI 0) hx hb d_M_waste_20 (by decide) ?_
      refine nv_as (b2 (ok x (S.2.1 0) && ok y (S.2.1 2))) (b2_of0 (by simp [c5, c13])) ?_
      exact J21
    · refine lv_iconst (v := nI 1) hx hb d_M_waste_16 (by decide) ?_
      refine lv_goto (tgt := 21) hx hb d_M_waste_17 (by decide) ?_
      refine nv_as (b2 (ok x (S.2.1 0) && ok y (S.2.1 2))) (b2_of1 (by simp [c5, c13])) ?_
      exact J21
set_option maxHeartbeats 4000000 in
set_option maxRecDepth 100000 in
theorem c_M_row (l : Launch) (dC : Nat → ClassId) (dI : Nat → Nat → Nat) (sz : Nat) (cI cZ : ClassId) (q : Nat → Nat) (S : St) (th : Int32) (t : Nat) (hI : Bd t S) (x y : Int32) (hV : Inv t S)  : Met l y_M_row (.code y_M_row b_M_row 4 (some .int) :: bg) { frames := 1, cells := 0, slots := 0, locals := 27 } (wr_P (dC, dI) classes (wM q cI cZ S th) [(cI, .int), (cZ, .boolean)] sz [.ref (q 0), .int x, .int y]) (wr_Q (some (.int ((op_row S x y).2.1))) (dC, dI) classes (wM q cI cZ ((op_row S x y).2.2) (nI (op_row S x y).1)) (va_A (wM q cI cZ S th) sz)) 0 0 (va_A (wM q cI cZ S th) sz) := by
  refine Met.ofW (cc := b_M_row) (maxL := 4) (ret := (some .int)) (by decide) rfl ?_
  intro p e s m args below meth c s₁ B hml hv
  obtain ⟨rfl, hsz, hP, hK, hD0⟩ := hv
  subst hsz
  have hD := hD0.self (sz := s.heap.size)
  generalize hAe : va_A (wM q cI cZ S th) s.heap.size = A at hD ⊢
  have hA : ∀ q : Nat, s.heap.size ≤ q → A q := fun q h => by rw [← hAe]; exact Or.inr h
  have hS : va_S A s.heap s.heap [] := va_S.rf
  have hx := B.exec
  have hb := B.bytes
  have hr := B.returns
  have hts := fun w (h : w ∈ bg) => atoms_spec (ws := .code y_M_row b_M_row 4 (some .int) :: bg) B.pre w (List.mem_cons_of_mem _ h)
  have hown : s.vm.findClass R_M = some m.cls := findClass_of_methodNamed B.named
  have hlocks := B.notSynchronized
  have hl := lv_entry ([.ref (q 0), .int x, .int y]) (n := 4) (Nat.le_of_ble_eq_true rfl)
  rw [lg_entry_eq]
  generalize (lg_sl ([.ref (q 0), .int x, .int y]) ++ List.replicate (4 - (lg_sl ([.ref (q 0), .int x, .int y])).length) Slot.unset).toArray = ls at hl ⊢
  have hl : lv_has ls 4 [(0, .ref (q 0)), (1, .int x), (2, .int y)] := hl
  have hB := hI.1
  have hg0 : S.2.1 0 ≤ 8 := hI.2.1 0
  have hg1 : S.2.1 1 ≤ 9999 := hI.2.1 1
  have hg2 : S.2.1 2 ≤ 60 := hI.2.1 2
  have hg3 : S.2.1 3 ≤ 60 := hI.2.1 3
  have hg4 : S.2.1 4 ≤ 80 := hI.2.1 4
  have hg5 : S.2.1 5 ≤ 20 := hI.2.1 5
  have hg6 : S.2.1 6 ≤ 80 := hI.2.1 6
  have hg7 : S.2.1 7 ≤ 10 := hI.2.1 7
  have hg8 : t ≤ 512 := hI.2.2
  have J42 : W p l e (headSpec (.code y_M_row b_M_row 4 (some .int) :: bg) { frames := 1, cells := 0, slots := 0, locals := 27 }).room s m (List.toArray [.ref (q 0), .int x, .int y]) below meth c s.heap [] 0 0 (MQ below (wr_Q (some (.int ((op_row S x y).2.1))) (dC, dI) classes (wM q cI cZ ((op_row S x y).2.2) (nI (op_row S x y).1)) A) (List.toArray [.ref (q 0), .int x, .int y]) s 0 0 A) (F0 m 42 ls [.int (b2 (decide (S.2.1 7 = 0) || (!decide (x ≤ nI (S.1 29 (S.2.1 7 - 1))) && !decide (y ≤ nI (S.1 30 (S.2.1 7 - 1))))))]) := by
    refine lv_istore_n (lv' := [(3, .int (b2 (decide (S.2.1 7 = 0) || (!decide (x ≤ nI (S.1 29 (S.2.1 7 - 1))) && !decide (y ≤ nI (S.1 30 (S.2.1 7 - 1))))))), (0, .ref (q 0)), (1, .int x), (2, .int y)]) hx hb d_M_row_42 rfl hl (by decide) rfl (fun ls hl => ?_)
    refine lv_aload_n hx hb d_M_row_43 rfl (lv_at hl 1 rfl) ?_
    refine lv_bipush (v := nI 14) hx hb d_M_row_44 (by decide) ?_
    refine lv_iconst (v := b2 true) hx hb d_M_row_46 (by decide) ?_
    have J72 : W p l e (headSpec (.code y_M_row b_M_row 4 (some .int) :: bg) { frames := 1, cells := 0, slots := 0, locals := 27 }).room s m (List.toArray [.ref (q 0), .int x, .int y]) below meth c s.heap [] 0 0 (MQ below (wr_Q (some (.int ((op_row S x y).2.1))) (dC, dI) classes (wM q cI cZ ((op_row S x y).2.2) (nI (op_row S x y).1)) A) (List.toArray [.ref (q 0), .int x, .int y]) s 0 0 A) (F0 m 72 ls [.int (b2 (rg x 0 99999 && rg y 0 99999)), .int (b2 true), .int (nI 14), .ref (q 0)]) := by
      refine lv_iload_n hx hb d_M_row_72 rfl (lv_at hl 0 rfl) ?_
      have J87 : W p l e (headSpec (.code y_M_row b_M_row 4 (some .int) :: bg) { frames := 1, cells := 0, slots := 0, locals := 27 }).room s m (List.toArray [.ref (q 0), .int x, .int y]) below meth c s.heap [] 0 0 (MQ below (wr_Q (some (.int ((op_row S x y).2.1))) (dC, dI) classes (wM q cI cZ ((op_row S x y).2.2) (nI (op_row S x y).1)) A) (List.toArray [.ref (q 0), .int x, .int y]) s 0 0 A) (F0 m 87 ls [.int (b2 (decide (S.2.1 7 < 10))), .int (b2 (decide (S.2.1 7 = 0) || (!decide (x ≤ nI (S.1 29 (S.2.1 7 - 1))) && !decide (y ≤ nI (S.1 30 (S.2.1 7 - 1)))))), .int (b2 (rg x 0 99999 && rg y 0 99999)), .int (b2 true), .int (nI 14), .ref (q 0)]) := by
        refine wr_goA (va_runV (As := [.int (nI 14), .int (b2 true), .int (b2 (rg x 0 99999 && rg y 0 99999)), .int (b2 (decide (S.2.1 7 = 0) || (!decide (x ≤ nI (S.1 29 (S.2.1 7 - 1))) && !decide (y ≤ nI (S.1 30 (S.2.1 7 - 1)))))), .int (b2 (decide (S.2.1 7 < 10)))]) (rest := []) ⟨hx, hb, hml, hown, hts⟩ (c_M_goes l dC dI s.heap.size cI cZ q S th t hI (nI 14) true (rg x 0 99999 && rg y 0 99999) (decide (S.2.1 7 = 0) || (!decide (x ≤ nI (S.1 29 (S.2.1 7 - 1))) && !decide (y ≤ nI (S.1 30 (S.2.1 7 - 1))))) (decide (S.2.1 7 < 10))) (cwV 5 hts (gi_V wd_676 wd_678 wp_22 wd_5 wd_679) rfl rfl rfl (by decide +kernel) ⟨Nat.le_of_ble_eq_true rfl, Nat.le_of_ble_eq_true rfl⟩) (wr_preV hK hP hD (ci := 3) (q0 := 0) rfl rfl) rfl rfl hl.1 rfl (lv_room (Nat.le_of_ble_eq_true rfl)) d_M_row_87 ⟨Nat.le_of_ble_eq_true rfl, Nat.le_of_ble_eq_true rfl⟩) hD hS hA wM_adr (fun H locs hP hD hS => ?_)
        refine W.eq (g2 := F0 m 90 ls [.int (b2 (true && ((rg x 0 99999 && rg y 0 99999) && ((decide (S.2.1 7 = 0) || (!decide (x ≤ nI (S.1 29 (S.2.1 7 - 1))) && !decide (y ≤ nI (S.1 30 (S.2.1 7 - 1))))) && (decide (S.2.1 7 < 10))))))]) rfl ?_
        refine nv_bn (tgt := 95) hx hb d_M_row_90 (by decide) (fun c90 => ?_) (fun c90 => ?_)
        · obtain ⟨k0, r0, t0, o0⟩ := and4 c90
          have hP : va_P (dC, dI) classes (wM q cI cZ S (nI 0)) H := by rw [gz c90] at hP; exact hP
          have hD : va_D A (wM q cI cZ S (nI 0)) := by rw [gz c90] at hD; exact hD
          obtain ⟨r1, r2⟩ := and2 r0
          have o1 := of_decide_eq_true o0
          have b1 : S.1 29 (S.2.1 7 - 1) ≤ 99999 := hB 29 _
          have b2_ : S.1 30 (S.2.1 7 - 1) ≤ 99999 := hB 30 _
          rw [cmp_le r1 (by omega) (by decide), cmp_le r2 (by omega) (by decide)] at t0
          have t1 : S.2.1 7 = 0 ∨ (S.1 29 (S.2.1 7 - 1) < nn x ∧ S.1 30 (S.2.1 7 - 1) < nn y) := by simpa using t0
          obtain ⟨e_x, l_x, b_x⟩ := rg_of r1
          obtain ⟨e_y, l_y, b_y⟩ := rg_of r2
          have hl : lv_has ls 4 [(3, .int (b2 (decide (S.2.1 7 = 0) || (!decide (x ≤ nI (S.1 29 (S.2.1 7 - 1))) && !decide (y ≤ nI (S.1 30 (S.2.1 7 - 1))))))), (0, .ref (q 0)), (1, .int (nI (nn x))), (2, .int (nI (nn y)))] := by rw [← e_x, ← e_y]; exact hl
          refine lv_aload_n hx hb d_M_row_95 rfl (lv_at hl 1 rfl) ?_
          refine va_get (D := (dC, dI)) (ci := 3) (v := .ref (q 27)) (C := R_M) (T := F_M) (N := 37) hx hb hts i_M hown hK hP 0 rfl rfl 35 (by decide) (hts _ wd_590) (fun _ h9 => h9) rfl d_M_row_96 ?_
          refine lv_aload_n hx hb d_M_row_99 rfl (lv_at hl 1 rfl) ?_
          refine va_get (D := (dC, dI)) (ci := 3) (v := .int (nI (S.2.1 7))) (C := R_M) (T := F_M) (N := 37) hx hb hts i_M hown hK hP 0 rfl rfl 34 (by decide) (hts _ wd_589) (fun _ h9 => h9) rfl d_M_row_100 ?_
          refine lv_iload_n hx hb d_M_row_103 rfl (lv_at hl 2 rfl) ?_
          refine nv_iast (f' := upd (colf S.1 29) (S.2.1 7) (nI (nn x))) hx hb hK hP hD hS 27 0 rfl rfl (by omega) (by decide) rfl (wM q cI cZ (S_a S 29 (S.2.1 7) (nn x)) (nI 0)) wM_c29 d_M_row_104 (fun H locs hP hD hS => ?_)
          refine lv_aload_n hx hb d_M_row_105 rfl (lv_at hl 1 rfl) ?_
          refine va_get (D := (dC, dI)) (ci := 3) (v := .ref (q 28)) (C := R_M) (T := F_M) (N := 37) hx hb hts i_M hown hK hP 0 rfl rfl 36 (by decide) (hts _ wd_591) (fun _ h9 => h9) rfl d_M_row_106 ?_
          refine lv_aload_n hx hb d_M_row_109 rfl (lv_at hl 1 rfl) ?_
          refine va_get (D := (dC, dI)) (ci := 3) (v := .int (nI (S.2.1 7))) (C := R_M) (T := F_M) (N := 37) hx hb hts i_M hown hK hP 0 rfl rfl 34 (by decide) (hts _ wd_589) (fun _ h9 => h9) rfl d_M_row_110 ?_
          refine lv_iload_n hx hb d_M_row_113 rfl (lv_at hl 3 rfl) ?_
          refine nv_iast (f' := upd (colf (S_a S 29 (S.2.1 7) (nn x)).1 30) (S.2.1 7) (nI (nn y))) hx hb hK hP hD hS 28 0 rfl rfl (by omega) (by decide) rfl (wM q cI cZ (S_a (S_a S 29 (S.2.1 7) (nn x)) 30 (S.2.1 7) (nn y)) (nI 0)) wM_c30 d_M_row_114 (fun H locs hP hD hS => ?_)
          refine lv_aload_n hx hb d_M_row_115 rfl (lv_at hl 1 rfl) ?_
          refine lv_dup hx hb d_M_row_116 rfl ?_
          refine va_get (D := (dC, dI)) (ci := 3) (v := .int (nI (S.2.1 7))) (C := R_M) (T := F_M) (N := 37) hx hb hts i_M hown hK hP 0 rfl rfl 34 (by decide) (hts _ wd_589) (fun _ h9 => h9) rfl d_M_row_117 ?_
          refine lv_iconst (v := nI 1) hx hb d_M_row_120 (by decide) ?_
          refine nv_add hx hb d_M_row_121 ?_
          refine va_put (D := (dC, dI)) (ci := 3) (v := .int (nI ((S.2.1 7) + 1))) (ty := .int) (C := R_M) (T := F_M) (N := 37) hx hb hts i_M ty_M ty_M_ok n_M hown hK hP hD hS 0 rfl rfl 34 (by decide) (hts _ wd_589) (fun _ h9 => h9) rfl (by decide +kernel) rfl rfl (Nat.le_of_ble_eq_true rfl) d_M_row_122 (fun H locs hP hD hS => ?_)
          have hP : va_P (dC, dI) classes (wM q cI cZ (S_g (S_a (S_a S 29 (S.2.1 7) (nn x)) 30 (S.2.1 7) (nn y)) 7 ((S.2.1 7) + 1)) (nI 0)) H := by rw [← wM_g7]; exact hP
          have hD : va_D A (wM q cI cZ (S_g (S_a (S_a S 29 (S.2.1 7) (nn x)) 30 (S.2.1 7) (nn y)) 7 ((S.2.1 7) + 1)) (nI 0)) := by rw [← wM_g7]; exact hD
          refine lv_aload_n hx hb d_M_row_125 rfl (lv_at hl 1 rfl) ?_
          refine va_get (D := (dC, dI)) (ci := 3) (v := .int (nI ((S.2.1 7) + 1))) (C := R_M) (T := F_M) (N := 37) hx hb hts i_M hown hK hP 0 rfl rfl 34 (by decide) (hts _ wd_589) (fun _ h9 => h9) rfl d_M_row_126 ?_
          have ho : op_row S x y = (0, nI (S.2.1 7 + 1), S_g (S_a (S_a S 29 (S.2.1 7) (nn x)) 30 (S.2.1 7) (nn y)) 7 ((S.2.1 7) + 1)) := by unfold op_row; rw [if_pos r1, if_pos r2, if_pos t1, if_pos o1]
          rw [ho]
          refine nv_as (nI (S.2.1 7 + 1)) (by rfl) ?_
          have hP9 : va_P (dC, dI) classes (wM q cI cZ (S_g (S_a (S_a S 29 (S.2.1 7) (nn x)) 30 (S.2.1 7) (nn y)) 7 ((S.2.1 7) + 1)) (nI 0)) H := hP
          exact W.iret hx hb hr (fun t ht hW => ⟨rfl, by rw [ht]; exact hP9, hS.F ht⟩) hS.2.2 d_M_row_129
        · refine lv_iconst (v := nI 0) hx hb d_M_row_93 (by decide) ?_
          have ho : op_row S x y = ((gth (nI 14) (gbit true (rg x 0 99999 && rg y 0 99999) (decide (S.2.1 7 = 0) || (!decide (x ≤ nI (S.1 29 (S.2.1 7 - 1))) && !decide (y ≤ nI (S.1 30 (S.2.1 7 - 1))))) (decide (S.2.1 7 < 10)))), 0, S) := of_row hI c90
          rw [ho]
          refine nv_as (0) (by rfl) ?_
          have hP9 : va_P (dC, dI) classes (wM q cI cZ (S) (nI (gth (nI 14) (gbit true (rg x 0 99999 && rg y 0 99999) (decide (S.2.1 7 = 0) || (!decide (x ≤ nI (S.1 29 (S.2.1 7 - 1))) && !decide (y ≤ nI (S.1 30 (S.2.1 7 - 1))))) (decide (S.2.1 7 < 10)))))) H := hP
          exact W.iret hx hb hr (fun t ht hW => ⟨rfl, by rw [ht]; exact hP9, hS.F ht⟩) hS.2.2 d_M_row_94
      refine lv_aload_n hx hb d_M_row_73 rfl (lv_at hl 1 rfl) ?_
      refine va_get (D := (dC, dI)) (ci := 3) (v := .int (nI (S.2.1 7))) (C := R_M) (T := F_M) (N := 37) hx hb hts i_M hown hK hP 0 rfl rfl 34 (by decide) (hts _ wd_589) (fun _ h9 => h9) rfl d_M_row_74 ?_
      refine lv_bipush (v := nI 10) hx hb d_M_row_77 (by decide) ?_
      refine nv_cge (tgt := 86) hx hb (by omega) (by omega) d_M_row_79 (by decide) (fun c79 => ?_) (fun c79 => ?_)
      · refine lv_iconst (v := nI 0) hx hb d_M_row_86 (by decide) ?_
        refine nv_as (b2 (decide (S.2.1 7 < 10))) (b2_of0 (by simp [c79])) ?_
        exact J87
      · refine lv_iconst (v := nI 1) hx hb d_M_row_82 (by decide) ?_
        refine lv_goto (tgt := 87) hx hb d_M_row_83 (by decide) ?_
        refine nv_as (b2 (decide (S.2.1 7 < 10))) (b2_of1 (by simp [c79])) ?_
        exact J87
    refine lv_iload_n hx hb d_M_row_47 rfl (lv_at hl 2 rfl) ?_
    refine lv_iconst (v := nI 0) hx hb d_M_row_48 (by decide) ?_
    refine lv_ldc hx hb hown (hts _ wd_808) d_M_row_49 ?_
    refine nv_as (nI 99999) (by decide) ?_
    refine pu_go (va_runS (As := [.int x, .int (nI 0), .int (nI 99999)]) (rest := [.int (b2 true), .int (nI 14), .ref (q 0)]) ⟨hx, hb, hml, hown, hts⟩ (c_M_in l dC dI x (nI 0) (nI 99999)) (cwS 3 hts (gi_S wd_687 wd_688 wd_5 wd_689) rfl rfl rfl (by decide +kernel) ⟨Nat.le_of_ble_eq_true rfl, Nat.le_of_ble_eq_true rfl⟩) (pu_preS (hK.sub (tys' := []) [] rfl) (fun k q h => by simp at h)) rfl rfl hl.1 rfl (lv_room (Nat.le_of_ble_eq_true rfl)) d_M_row_51 ⟨Nat.le_of_ble_eq_true rfl, Nat.le_of_ble_eq_true rfl⟩) ?_
    refine nv_as (b2 (rg x 0 99999)) (congrArg b2 (in_rg (by decide) (by decide))) ?_
    refine nv_bz (tgt := 71) hx hb d_M_row_54 (by decide) (fun c54 => ?_) (fun c54 => ?_)
    · refine lv_iconst (v := nI 0) hx hb d_M_row_71 (by decide) ?_
      refine nv_as (b2 (rg x 0 99999 && rg y 0 99999)) (b2_of0 (by simp [c54])) ?_
      exact J72
    · refine lv_iload_n hx hb d_M_row_57 rfl (lv_at hl 3 rfl) ?_
      refine lv_iconst (v := nI 0) hx hb d_M_row_58 (by decide) ?_
      refine lv_ldc hx hb hown (hts _ wd_808) d_M_row_59 ?_
      refine nv_as (nI 99999) (by decide) ?_
      refine pu_go (va_runS (As := [.int y, .int (nI 0), .int (nI 99999)]) (rest := [.int (b2 true), .int (nI 14), .ref (q 0)]) ⟨hx, hb, hml, hown, hts⟩ (c_M_in l dC dI y (nI 0) (nI 99999)) (cwS 3 hts (gi_S wd_687 wd_688 wd_5 wd_689) rfl rfl rfl (by decide +kernel) ⟨Nat.le_of_ble_eq_true rfl, Nat.le_of_ble_eq_true rfl⟩) (pu_preS (hK.sub (tys' := []) [] rfl) (fun k q h => by simp at h)) rfl rfl hl.1 rfl (lv_room (Nat.le_of_ble_eq_true rfl)) d_M_row_61 ⟨Nat.le_of_ble_eq_true rfl, Nat.le_of_ble_eq_true rfl⟩) ?_
      refine nv_as (b2 (rg y 0 99999)) (congrArg b2 (in_rg (by decide) (by decide))) ?_
      refine nv_bz (tgt := 71) hx hb d_M_row_64 (by decide) (fun c64 => ?_) (fun c64 => ?_)
      · refine lv_iconst (v := nI 0) hx hb d_M_row_71 (by decide) ?_
        refine nv_as (b2 (rg x 0 99999 && rg y 0 99999)) (b2_of0 (by simp [c54, c64])) ?_
        exact J72
      · refine lv_iconst (v := nI 1) hx hb d_M_row_67 (by decide) ?_
        refine lv_goto (tgt := 72) hx hb d_M_row_68 (by decide) ?_
        refine nv_as (b2 (rg x 0 99999 && rg y 0 99999)) (b2_of1 (by simp [c54, c64])) ?_
        exact J72
  refine lv_aload_n hx hb d_M_row_0 rfl (lv_at hl 0 rfl) ?_
  refine va_get (D := (dC, dI)) (ci := 3) (v := .int (nI (S.2.1 7))) (C := R_M) (T := F_M) (N := 37) hx hb hts i_M hown hK hP 0 rfl rfl 34 (by decide) (hts _ wd_589) (fun _ h9 => h9) rfl d_M_row_1 ?_
  refine nv_zeq (tgt := 37) hx hb (by omega) d_M_row_4 (by decide) (fun c4 => ?_) (fun c4 => ?_)
  · refine lv_iconst (v := nI 1) hx hb d_M_row_37 (by decide) ?_
    refine lv_goto (tgt := 42) hx hb d_M_row_38 (by decide) ?_
    refine nv_as (b2 (decide (S.2.1 7 = 0) || (!decide (x ≤ nI (S.1 29 (S.2.1 7 - 1))) && !decide (y ≤ nI (S.1 30 (S.2.1 7 - 1)))))) (b2_of1 (by simp [c4])) ?_
    exact J42
  · refine lv_iload_n hx hb d_M_row_7 rfl (lv_at hl 1 rfl) ?_
    refine lv_aload_n hx hb d_M_row_8 rfl (lv_at hl 0 rfl) ?_
    refine va_get (D := (dC, dI)) (ci := 3) (v := .ref (q 27)) (C := R_M) (T := F_M) (N := 37) hx hb hts i_M hown hK hP 0 rfl rfl 35 (by decide) (hts _ wd_590) (fun _ h9 => h9) rfl d_M_row_9 ?_
    refine lv_aload_n hx hb d_M_row_12 rfl (lv_at hl 0 rfl) ?_
    refine va_get (D := (dC, dI)) (ci := 3) (v := .int (nI (S.2.1 7))) (C := R_M) (T := F_M) (N := 37) hx hb hts i_M hown hK hP 0 rfl rfl 34 (by decide) (hts _ wd_589) (fun _ h9 => h9) rfl d_M_row_13 ?_
    refine lv_iconst (v := nI 1) hx hb d_M_row_16 (by decide) ?_
    refine nv_sub hx hb (by omega) d_M_row_17 ?_
    refine nv_iald (v := nI (S.1 29 ((S.2.1 7) - 1))) hx hb hK hP 27 0 rfl rfl (by omega) (by decide) rfl d_M_row_18 ?_
    have hb1 : S.1 29 ((S.2.1 7) - 1) ≤ 99999 := hB 29 _
    refine lv_icmp_le (tgt := 41) hx hb d_M_row_19 (by decide) (fun c19 => ?_) (fun c19 => ?_)
    · refine lv_iconst (v := nI 0) hx hb d_M_row_41 (by decide) ?_
      refine nv_as (b2 (decide (S.2.1 7 = 0) || (!decide (x ≤ nI (S.1 29 (S.2.1 7 - 1))) && !decide (y ≤ nI (S.1 30 (S.2.1 7 - 1)))))) (b2_of0 (by simp [c4, c19])) ?_
      exact J42
    · refine lv_iload_n hx hb d_M_row_22 rfl (lv_at hl 2 rfl) ?_
      refine lv_aload_n hx hb d_M_row_23 rfl (lv_at hl 0 rfl) ?_
      refine va_get (D := (dC, dI)) (ci := 3) (v := .ref (q 28)) (C := R_M) (T := F_M) (N := 37) hx hb hts i_M hown hK hP 0 rfl rfl 36 (by decide) (hts _ wd_591) (fun _ h9 => h9) rfl d_M_row_24 ?_
      refine lv_aload_n hx hb d_M_row_27 rfl (lv_at hl 0 rfl) ?_
      refine va_get (D := (dC, dI)) (ci := 3) (v := .int (nI (S.2.1 7))) (C := R_M) (T := F_M) (N := 37) hx hb hts i_M hown hK hP 0 rfl rfl 34 (by decide) (hts _ wd_589) (fun _ h9 => h9) rfl d_M_row_28 ?_
      refine lv_iconst (v := nI 1) hx hb d_M_row_31 (by decide) ?_
      refine nv_sub hx hb (by omega) d_M_row_32 ?_
      refine nv_iald (v := nI (S.1 30 ((S.2.1 7) - 1))) hx hb hK hP 28 0 rfl rfl (by omega) (by decide) rfl d_M_row_33 ?_
      have hb2 : S.1 30 ((S.2.1 7) - 1) ≤ 99999 := hB 30 _
      refine lv_icmp_le (tgt := 41) hx hb d_M_row_34 (by decide) (fun c34 => ?_) (fun c34 => ?_)
      · refine lv_iconst (v := nI 0) hx hb d_M_row_41 (by decide) ?_
        refine nv_as (b2 (decide (S.2.1 7 = 0) || (!decide (x ≤ nI (S.1 29 (S.2.1 7 - 1))) && !decide (y ≤ nI (S.1 30 (S.2.1 7 - 1)))))) (b2_of0 (by simp [c4, c19, c34])) ?_
        exact J42
      · refine lv_iconst (v := nI 1) hx hb d_M_row_37 (by decide) ?_
        refine lv_goto (tgt := 42) hx hb d_M_row_38 (by decide) ?_
        refine nv_as (b2 (decide (S.2.1 7 = 0) || (!decide (x ≤ nI (S.1 29 (S.2.1 7 - 1))) && !decide (y ≤ nI (S.1 30 (S.2.1 7 - 1)))))) (b2_of1 (by simp [c4, c19, c34])) ?_
        exact J42
