theorem ne5 {y : Int32} (h : nn y ≠ 5) : ¬ y = 5 := fun e => h (by rw [e]; decide)
theorem of_lotAt {S : St} {t : Nat} (hI : Bd t S) {x y : Int32} (h : ((ok x (S.2.1 2) && rg y 0 5) && (true && (true && true))) = false) : op_lotAt S x y = (gth (nI 1) (gbit (ok x (S.2.1 2) && rg y 0 5) true true true), 0, S) := by
  have hy : rg y 0 5 = (decide (y = 5) || ok y 5) := by
    have h5 : (5 : Int32).toInt = 5 := by decide
    rw [Bool.eq_iff_iff]
    simp only [rg, ok, Bool.and_eq_true, Bool.or_eq_true, decide_eq_true_eq, ← Int32.toInt_inj, h5]
    omega
  rw [hy] at h ⊢
  unfold op_lotAt
  cases h1 : ok x (S.2.1 2)
  · exact of_f g1.1.symm
  by_cases h2 : y = 5
  · rw [h1, decide_eq_true h2, Bool.true_or] at h
    exact absurd h (by decide)
  cases h3 : ok y 5
  · rw [if_pos rfl, if_neg h2, decide_eq_false h2]
    exact of_f g1.1.symm
  · rw [h1, h3, decide_eq_false h2] at h
    exact absurd h (by decide)
theorem of_deliver {S : St} {t : Nat} (hI : Bd t S) {x y : Int32} (h : ((ok x (S.2.1 4) && ok y (S.2.1 2)) && (true && (((ok x (S.2.1 4) && ok y (S.2.1 2)) && (!decide (S.1 14 (nn x) = 0) && decide (S.1 0 (nn y) = S.1 11 (nn x)))) && true))) = false) : op_deliver S x y = (gth (nI 5) (gbit (ok x (S.2.1 4) && ok y (S.2.1 2)) true ((ok x (S.2.1 4) && ok y (S.2.1 2)) && (!decide (S.1 14 (nn x) = 0) && decide (S.1 0 (nn y) = S.1 11 (nn x)))) true), 0, S) := by
  unfold op_deliver
  cases h1 : ok x (S.2.1 4)
  · exact of_f g5.1.symm
  cases h2 : ok y (S.2.1 2)
  · exact of_f g5.1.symm
  have b1 : S.1 14 (nn x) ≤ 1 := hI.1 14 _
  rw [if_pos rfl, if_pos rfl]
  by_cases h3 : S.1 14 (nn x) = 1
  · by_cases h4 : S.1 11 (nn x) = S.1 0 (nn y)
    · rw [h1, h2, decide_eq_false (show ¬ S.1 14 (nn x) = 0 by omega), decide_eq_true h4.symm] at h
      exact absurd h (by decide)
    · rw [if_pos h3, if_neg h4, decide_eq_false (fun z => h4 (Eq.symm z)), decide_eq_false (show ¬ S.1 14 (nn x) = 0 by omega)]
      exact of_f g5.2.2.1.symm
  · rw [if_neg h3, decide_eq_true (show S.1 14 (nn x) = 0 by omega)]
    exact of_f g5.2.2.1.symm
theorem of_second {S : St} {t : Nat} (hI : Bd t S) {x y : Int32} (h : ((ok x (S.2.1 5) && rg y 0 19) && (true && (((ok x (S.2.1 5) && rg y 0 19) && (decide (emf S.1 (S.2.1 5) (nn x) = 0) && !decide (S.1 18 (nn x) = nn y))) && (decide (S.2.1 4 < 80))))) = false) : op_second S x y = (gth (nI 13) (gbit (ok x (S.2.1 5) && rg y 0 19) true ((ok x (S.2.1 5) && rg y 0 19) && (decide (emf S.1 (S.2.1 5) (nn x) = 0) && !decide (S.1 18 (nn x) = nn y))) (decide (S.2.1 4 < 80))), 0, S) := by
  rw [show rg y 0 19 = ok y 20 from rg_ok (n := 20) (by decide)] at h ⊢
  unfold op_second
  cases h1 : ok x (S.2.1 5)
  · exact of_f g13.1.symm
  cases h2 : ok y 20
  · exact of_f g13.1.symm
  rw [emf_0 (ok_of h1).2 (hI.1 19 _)] at h ⊢
  rw [if_pos rfl, if_pos rfl]
  by_cases h3 : S.1 19 (nn x) = 1
  · by_cases h4 : S.1 18 (nn x) = nn y
    · rw [if_pos h3, if_neg (fun z => z h4), decide_eq_true h3, decide_eq_true h4]
      exact of_f g13.2.2.1.symm
    · rw [h1, h2, decide_eq_true h3, decide_eq_false h4] at h
      have h5 : ¬ S.2.1 4 < 80 := of_decide_eq_false h
      rw [if_pos h3, if_pos h4, if_neg h5, decide_eq_true h3, decide_eq_false h4, decide_eq_false h5]
      exact of_f g13.2.2.2.symm
  · rw [if_neg h3, decide_eq_false h3]
    exact of_f g13.2.2.1.symm
theorem of_use {S : St} {t : Nat} (hI : Bd t S) {x y n : Int32} (h : ((ok x (S.2.1 0) && ok y 10) && ((rg n 1 9999) && (((ok x (S.2.1 0) && ok y 10) && !decide (nI (good S (nn x) (nn y)) < n)) && true))) = false) : op_use S x y n = (gth (nI 7) (gbit (ok x (S.2.1 0) && ok y 10) (rg n 1 9999) ((ok x (S.2.1 0) && ok y 10) && !decide (nI (good S (nn x) (nn y)) < n)) true), 0, S) := by
  unfold op_use
  cases h1 : ok x (S.2.1 0)
  · exact of_f g7.1.symm
  cases h2 : ok y 10
  · exact of_f g7.1.symm
  cases h3 : rg n 1 9999
  · exact of_f g7.2.1.symm
  have b1 := good_le hI (nn x) (nn y)
  rw [n_lt h3 (by omega) (by decide)] at h ⊢
  have h5 : ¬ nn n ≤ good S (nn x) (nn y) := by simpa [h1, h2, h3] using h
  rw [if_pos rfl, if_pos rfl, if_pos rfl, if_neg h5, decide_eq_false h5]
  exact of_f g7.2.2.1.symm
theorem of_move {S : St} {t : Nat} (hI : Bd t S) {x y w n d : Int32} (h : ((ok x (S.2.1 0) && (ok y (S.2.1 0) && (!decide (x = y) && ok w (S.2.1 2)))) && ((rg n 1 9999 && rg d 0 30) && (((ok x (S.2.1 0) && (ok y (S.2.1 0) && (!decide (x = y) && ok w (S.2.1 2)))) && !decide (atv S x w < n)) && (decide (S.2.1 3 < 60))))) = false) : op_move S x y w n d = (gth (nI 15) (gbit (ok x (S.2.1 0) && (ok y (S.2.1 0) && (!decide (x = y) && ok w (S.2.1 2)))) (rg n 1 9999 && rg d 0 30) ((ok x (S.2.1 0) && (ok y (S.2.1 0) && (!decide (x = y) && ok w (S.2.1 2)))) && !decide (atv S x w < n)) (decide (S.2.1 3 < 60))), 0, S) := by
  unfold op_move
  cases h1 : ok x (S.2.1 0)
  · exact of_f g15.1.symm
  cases h2 : ok y (S.2.1 0)
  · exact of_f g15.1.symm
  by_cases h3 : x = y
  · rw [if_pos rfl, if_pos rfl, if_neg (fun z => z h3), decide_eq_true h3]
    exact of_f g15.1.symm
  rw [if_pos rfl, if_pos rfl, if_pos h3, decide_eq_false h3]
  cases h4 : ok w (S.2.1 2)
  · exact of_f g15.1.symm
  cases h5 : rg n 1 9999
  · exact of_f g15.2.1.symm
  cases h6 : rg d 0 30
  · exact of_f g15.2.1.symm
  rw [if_pos rfl, if_pos rfl, if_pos rfl]
  rw [at_o (hi := 0) hI h1 h4 h5] at h ⊢
  by_cases h7 : nn n ≤ S.1 25 (nn x * 60 + nn w)
  · rw [h1, h2, h4, h5, h6, decide_eq_false h3, decide_eq_true h7] at h
    have h8 : ¬ S.2.1 3 < 60 := of_decide_eq_false h
    rw [if_pos h7, if_neg h8, decide_eq_true h7, decide_eq_false h8]
    exact of_f g15.2.2.2.symm
  · rw [if_neg h7, decide_eq_false h7]
    exact of_f g15.2.2.1.symm
set_option maxHeartbeats 4000000 in
set_option maxRecDepth 100000 in
theorem c_M_lotAt (l : Launch) (dC : Nat → ClassId) (dI : Nat → Nat → Nat) (sz : Nat) (cI cZ : ClassId) (q : Nat → Nat) (S : St) (th : Int32) (t : Nat) (hI : Bd t S) (x y : Int32) (hV : Inv t S)  : Met l y_M_lotAt (.code y_M_lotAt b_M_lotAt 5 (some .int) :: bg) { frames := 3, cells := 0, slots := 0, locals := 65 } (wr_P (dC, dI) classes (wM q cI cZ S th) [(cI, .int), (cZ, .boolean)] sz [.ref (q 0), .int x, .int y]) (wr_Q (some (.int ((op_lotAt S x y).2.1))) (dC, dI) classes (wM q cI cZ ((op_lotAt S x y).2.2) (nI (op_lotAt S x y).1)) (va_A (wM q cI cZ S th) sz)) 0 0 (va_A (wM q cI cZ S th) sz) := by
  refine Met.ofW (cc := b_M_lotAt) (maxL := 5) (ret := (some .int)) (by decide) rfl ?_
  intro p e s m args below meth c s₁ B hml hv
  obtain ⟨rfl, hsz, hP, hK, hD0⟩ := hv
  subst hsz
  have hD := hD0.self (sz := s.heap.size)
  generalize hAe : va_A (wM q cI cZ S th) s.heap.size = A at hD ⊢
  have hA : ∀ q : Nat, s.heap.size ≤ q → A q := fun q h => by rw [← hAe]; exact Or.inr h
  have hS : va_S A s.heap s.heap [] := va_S.rf
  have hx := B.exec
  have hb := B.bytes
  have hr := B.returns
  have hts := fun w (h : w ∈ bg) => atoms_spec (ws := .code y_M_lotAt b_M_lotAt 5 (some .int) :: bg) B.pre w (List.mem_cons_of_mem _ h)
  have hown : s.vm.findClass R_M = some m.cls := findClass_of_methodNamed B.named
  have hlocks := B.notSynchronized
  have hl := lv_entry ([.ref (q 0), .int x, .int y]) (n := 5) (Nat.le_of_ble_eq_true rfl)
  rw [lg_entry_eq]
  generalize (lg_sl ([.ref (q 0), .int x, .int y]) ++ List.replicate (5 - (lg_sl ([.ref (q 0), .int x, .int y])).length) Slot.unset).toArray = ls at hl ⊢
  have hl : lv_has ls 5 [(0, .ref (q 0)), (1, .int x), (2, .int y)] := hl
  have hB := hI.1
  have hg0 : S.2.1 0 ≤ 8 := hI.2.1 0
  have hg1 : S.2.1 1 ≤ 9999 := hI.2.1 1
  have hg2 : S.2.1 2 ≤ 60 := hI.2.1 2
  have hg3 : S.2.1 3 ≤ 60 := hI.2.1 3
  have hg4 : S.2.1 4 ≤ 80 := hI.2.1 4
  have hg5 : S.2.1 5 ≤ 20 := hI.2.1 5
  have hg6 : S.2.1 6 ≤ 80 := hI.2.1 6
  have hg7 : S.2.1 7 ≤ 10 := hI.2.1 7
  have hg8 : t ≤ 512 := hI.2.2
  refine lv_aload_n hx hb d_M_lotAt_0 rfl (lv_at hl 0 rfl) ?_
  refine lv_iconst (v := nI 1) hx hb d_M_lotAt_1 (by decide) ?_
  have J24 : W p l e (headSpec (.code y_M_lotAt b_M_lotAt 5 (some .int) :: bg) { frames := 3, cells := 0, slots := 0, locals := 65 }).room s m (List.toArray [.ref (q 0), .int x, .int y]) below meth c s.heap [] 0 0 (MQ below (wr_Q (some (.int ((op_lotAt S x y).2.1))) (dC, dI) classes (wM q cI cZ ((op_lotAt S x y).2.2) (nI (op_lotAt S x y).1)) A) (List.toArray [.ref (q 0), .int x, .int y]) s 0 0 A) (F0 m 24 ls [.int (b2 (ok x (S.2.1 2) && rg y 0 5)), .int (nI 1), .ref (q 0)]) := by
    refine lv_iconst (v := b2 true) hx hb d_M_lotAt_24 (by decide) ?_
    refine lv_iconst (v := b2 true) hx hb d_M_lotAt_25 (by decide) ?_
    refine lv_iconst (v := b2 true) hx hb d_M_lotAt_26 (by decide) ?_
    refine wr_goA (va_runV (As := [.int (nI 1), .int (b2 (ok x (S.2.1 2) && rg y 0 5)), .int (b2 true), .int (b2 true), .int (b2 true)]) (rest := []) ⟨hx, hb, hml, hown, hts⟩ (c_M_goes l dC dI s.heap.size cI cZ q S th t hI (nI 1) (ok x (S.2.1 2) && rg y 0 5) true true true) (cwV 5 hts (gi_V wd_676 wd_678 wp_22 wd_5 wd_679) rfl rfl rfl (by decide +kernel) ⟨Nat.le_of_ble_eq_true rfl, Nat.le_of_ble_eq_true rfl⟩) (wr_preV hK hP hD (ci := 3) (q0 := 0) rfl rfl) rfl rfl hl.1 rfl (lv_room (Nat.le_of_ble_eq_true rfl)) d_M_lotAt_27 ⟨Nat.le_of_ble_eq_true rfl, Nat.le_of_ble_eq_true rfl⟩) hD hS hA wM_adr (fun H locs hP hD hS => ?_)
    refine W.eq (g2 := F0 m 30 ls [.int (b2 ((ok x (S.2.1 2) && rg y 0 5) && (true && (true && true))))]) rfl ?_
    refine nv_bn (tgt := 35) hx hb d_M_lotAt_30 (by decide) (fun c30 => ?_) (fun c30 => ?_)
    · obtain ⟨k0, r0, t0, o0⟩ := and4 c30
      have hP : va_P (dC, dI) classes (wM q cI cZ S (nI 0)) H := by rw [gz c30] at hP; exact hP
      have hD : va_D A (wM q cI cZ S (nI 0)) := by rw [gz c30] at hD; exact hD
      obtain ⟨k1, k2⟩ := and2 k0
      obtain ⟨e_x, b_x⟩ := ok_of k1
      obtain ⟨e_y, l_y, b_y⟩ := rg_of k2
      have hl : lv_has ls 5 [(0, .ref (q 0)), (1, .int (nI (nn x))), (2, .int (nI (nn y)))] := by rw [← e_x, ← e_y]; exact hl
      refine lv_iconst (v := nI 0) hx hb d_M_lotAt_35 (by decide) ?_
      refine lv_istore_n (lv' := [(3, .int (nI 0)), (0, .ref (q 0)), (1, .int (nI (nn x))), (2, .int (nI (nn y)))]) hx hb d_M_lotAt_36 rfl hl (by decide) rfl (fun ls hl => ?_)
      refine lv_iconst (v := nI 0) hx hb d_M_lotAt_37 (by decide) ?_
      refine lv_istore (lv' := [(4, .int (nI 0)), (3, .int (nI 0)), (0, .ref (q 0)), (1, .int (nI (nn x))), (2, .int (nI (nn y)))]) hx hb d_M_lotAt_38 hl (by decide) rfl (fun ls hl => ?_)
      have LP40 : ∀ (fu i : Nat), S.2.1 0 - i < fu → i ≤ S.2.1 0 → ∀ ls : Array Slot, lv_has ls 5 [(4, .int (nI i)), (3, .int (nI (sIf (fun _ => true) (fun j => S.1 25 (j * 60 + nn x)) i))), (0, .ref (q 0)), (1, .int (nI (nn x))), (2, .int (nI (nn y)))] → W p l e (headSpec (.code y_M_lotAt b_M_lotAt 5 (some .int) :: bg) { frames := 3, cells := 0, slots := 0, locals := 65 }).room s m (List.toArray [.ref (q 0), .int x, .int y]) below meth c H locs 0 0 (MQ below (wr_Q (some (.int ((op_lotAt S x y).2.1))) (dC, dI) classes (wM q cI cZ ((op_lotAt S x y).2.2) (nI (op_lotAt S x y).1)) A) (List.toArray [.ref (q 0), .int x, .int y]) s 0 0 A) (F0 m 40 ls []) := by
        intro fu
        induction fu with
        | zero => intro i h; exact absurd h (Nat.not_lt_zero _)
        | succ fu ih =>
          intro i hfu hi ls hl
          refine lv_iload hx hb d_M_lotAt_40 (lv_at hl 0 rfl) ?_
          refine lv_aload_n hx hb d_M_lotAt_42 rfl (lv_at hl 2 rfl) ?_
          refine va_get (D := (dC, dI)) (ci := 3) (v := .int (nI (S.2.1 0))) (C := R_M) (T := F_M) (N := 37) hx hb hts i_M hown hK hP 0 rfl rfl 2 (by decide) (hts _ wd_557) (fun _ h9 => h9) rfl d_M_lotAt_43 ?_
          refine nv_cge (tgt := 65) hx hb (by omega) (by omega) d_M_lotAt_46 (by decide) (fun c46 => ?_) (fun c46 => ?_)
          · obtain rfl : i = S.2.1 0 := by omega
            refine lv_iload_n hx hb d_M_lotAt_65 rfl (lv_at hl 4 rfl) ?_
            refine nv_zne (tgt := 78) hx hb (by omega) d_M_lotAt_66 (by decide) (fun c66 => ?_) (fun c66 => ?_)
            · refine lv_iload_n hx hb d_M_lotAt_78 rfl (lv_at hl 4 rfl) ?_
              refine lv_iconst (v := nI 1) hx hb d_M_lotAt_79 (by decide) ?_
              refine nv_cne (tgt := 92) hx hb (by omega) (by omega) d_M_lotAt_80 (by decide) (fun c80 => ?_) (fun c80 => ?_)
              · refine lv_iload_n hx hb d_M_lotAt_92 rfl (lv_at hl 4 rfl) ?_
                refine lv_iconst (v := nI 2) hx hb d_M_lotAt_93 (by decide) ?_
                refine nv_cne (tgt := 106) hx hb (by omega) (by omega) d_M_lotAt_94 (by decide) (fun c94 => ?_) (fun c94 => ?_)
                · refine lv_iload_n hx hb d_M_lotAt_106 rfl (lv_at hl 4 rfl) ?_
                  refine lv_iconst (v := nI 3) hx hb d_M_lotAt_107 (by decide) ?_
                  refine nv_cne (tgt := 120) hx hb (by omega) (by omega) d_M_lotAt_108 (by decide) (fun c108 => ?_) (fun c108 => ?_)
                  · refine lv_iload_n hx hb d_M_lotAt_120 rfl (lv_at hl 4 rfl) ?_
                    refine lv_iconst (v := nI 4) hx hb d_M_lotAt_121 (by decide) ?_
                    refine nv_cne (tgt := 134) hx hb (by omega) (by omega) d_M_lotAt_122 (by decide) (fun c122 => ?_) (fun c122 => ?_)
                    · refine lv_iload_n hx hb d_M_lotAt_134 rfl (lv_at hl 1 rfl) ?_
                      have ho : op_lotAt S x y = (0, nI (allIn S (nn x)), S) := by unfold op_lotAt; rw [if_pos k1, if_pos (show y = 5 from e_y.trans (congrArg nI (show nn y = 5 by omega)))]
                      rw [ho]
                      refine nv_as (nI (allIn S (nn x))) (by rfl) ?_
                      have hP9 : va_P (dC, dI) classes (wM q cI cZ (S) (nI 0)) H := hP
                      exact W.iret hx hb hr (fun t ht hW => ⟨rfl, by rw [ht]; exact hP9, hS.F ht⟩) hS.2.2 d_M_lotAt_135
                    · refine lv_aload_n hx hb d_M_lotAt_125 rfl (lv_at hl 2 rfl) ?_
                      refine va_get (D := (dC, dI)) (ci := 3) (v := .ref (q 5)) (C := R_M) (T := F_M) (N := 37) hx hb hts i_M hown hK hP 0 rfl rfl 8 (by decide) (hts _ wd_563) (fun _ h9 => h9) rfl d_M_lotAt_126 ?_
                      refine lv_iload_n hx hb d_M_lotAt_129 rfl (lv_at hl 3 rfl) ?_
                      refine nv_iald (v := nI (S.1 4 (nn x))) hx hb hK hP 5 0 rfl rfl (by omega) (by decide) rfl d_M_lotAt_130 ?_
                      have hb1 : S.1 4 (nn x) ≤ 9999 := hB 4 _
                      refine lv_goto (tgt := 135) hx hb d_M_lotAt_131 (by decide) ?_
                      have ho : op_lotAt S x y = (0, nI (S.1 (nn y) (nn x)), S) := by unfold op_lotAt; rw [if_pos k1, if_neg (ne5 (by omega)), if_pos (show ok y 5 = true by rw [e_y, ok_nI (by omega)]; exact decide_eq_true (by omega))]
                      rw [ho]
                      refine nv_as (nI (S.1 (nn y) (nn x))) (congrArg (fun k => nI (S.1 k (nn x))) (by omega)) ?_
                      have hP9 : va_P (dC, dI) classes (wM q cI cZ (S) (nI 0)) H := hP
                      exact W.iret hx hb hr (fun t ht hW => ⟨rfl, by rw [ht]; exact hP9, hS.F ht⟩) hS.2.2 d_M_lotAt_135
                  · refine lv_aload_n hx hb d_M_lotAt_111 rfl (lv_at hl 2 rfl) ?_
                    refine va_get (D := (dC, dI)) (ci := 3) (v := .ref (q 4)) (C := R_M) (T := F_M) (N := 37) hx hb hts i_M hown hK hP 0 rfl rfl 7 (by decide) (hts _ wd_562) (fun _ h9 => h9) rfl d_M_lotAt_112 ?_
                    refine lv_iload_n hx hb d_M_lotAt_115 rfl (lv_at hl 3 rfl) ?_
                    refine nv_iald (v := nI (S.1 3 (nn x))) hx hb hK hP 4 0 rfl rfl (by omega) (by decide) rfl d_M_lotAt_116 ?_
                    have hb2 : S.1 3 (nn x) ≤ 9999 * t := hB 3 _
                    refine lv_goto (tgt := 135) hx hb d_M_lotAt_117 (by decide) ?_
                    have ho : op_lotAt S x y = (0, nI (S.1 (nn y) (nn x)), S) := by unfold op_lotAt; rw [if_pos k1, if_neg (ne5 (by omega)), if_pos (show ok y 5 = true by rw [e_y, ok_nI (by omega)]; exact decide_eq_true (by omega))]
                    rw [ho]
                    refine nv_as (nI (S.1 (nn y) (nn x))) (congrArg (fun k => nI (S.1 k (nn x))) (by omega)) ?_
                    have hP9 : va_P (dC, dI) classes (wM q cI cZ (S) (nI 0)) H := hP
                    exact W.iret hx hb hr (fun t ht hW => ⟨rfl, by rw [ht]; exact hP9, hS.F ht⟩) hS.2.2 d_M_lotAt_135
                · refine lv_aload_n hx hb d_M_lotAt_97 rfl (lv_at hl 2 rfl) ?_
                  refine va_get (D := (dC, dI)) (ci := 3) (v := .ref (q 3)) (C := R_M) (T := F_M) (N := 37) hx hb hts i_M hown hK hP 0 rfl rfl 6 (by decide) (hts _ wd_561) (fun _ h9 => h9) rfl d_M_lotAt_98 ?_
                  refine lv_iload_n hx hb d_M_lotAt_101 rfl (lv_at hl 3 rfl) ?_
                  refine nv_iald (v := nI (S.1 2 (nn x))) hx hb hK hP 3 0 rfl rfl (by omega) (by decide) rfl d_M_lotAt_102 ?_
                  have hb3 : S.1 2 (nn x) ≤ 9999 * t := hB 2 _
                  refine lv_goto (tgt := 135) hx hb d_M_lotAt_103 (by decide) ?_
                  have ho : op_lotAt S x y = (0, nI (S.1 (nn y) (nn x)), S) := by unfold op_lotAt; rw [if_pos k1, if_neg (ne5 (by omega)), if_pos (show ok y 5 = true by rw [e_y, ok_nI (by omega)]; exact decide_eq_true (by omega))]
                  rw [ho]
                  refine nv_as (nI (S.1 (nn y) (nn x))) (congrArg (fun k => nI (S.1 k (nn x))) (by omega)) ?_
                  have hP9 : va_P (dC, dI) classes (wM q cI cZ (S) (nI 0)) H := hP
                  exact W.iret hx hb hr (fun t ht hW => ⟨rfl, by rw [ht]; exact hP9, hS.F ht⟩) hS.2.2 d_M_lotAt_135
              · refine lv_aload_n hx hb d_M_lotAt_83 rfl (lv_at hl 2 rfl) ?_
                refine va_get (D := (dC, dI)) (ci := 3) (v := .ref (q 2)) (C := R_M) (T := F_M) (N := 37) hx hb hts i_M hown hK hP 0 rfl rfl 5 (by decide) (hts _ wd_560) (fun _ h9 => h9) rfl d_M_lotAt_84 ?_
                refine lv_iload_n hx hb d_M_lotAt_87 rfl (lv_at hl 3 rfl) ?_
                refine nv_iald (v := nI (S.1 1 (nn x))) hx hb hK hP 2 0 rfl rfl (by omega) (by decide) rfl d_M_lotAt_88 ?_
                have hb4 : S.1 1 (nn x) ≤ 9999 := hB 1 _
                refine lv_goto (tgt := 135) hx hb d_M_lotAt_89 (by decide) ?_
                have ho : op_lotAt S x y = (0, nI (S.1 (nn y) (nn x)), S) := by unfold op_lotAt; rw [if_pos k1, if_neg (ne5 (by omega)), if_pos (show ok y 5 = true by rw [e_y, ok_nI (by omega)]; exact decide_eq_true (by omega))]
                rw [ho]
                refine nv_as (nI (S.1 (nn y) (nn x))) (congrArg (fun k => nI (S.1 k (nn x))) (by omega)) ?_
                have hP9 : va_P (dC, dI) classes (wM q cI cZ (S) (nI 0)) H := hP
                exact W.iret hx hb hr (fun t ht hW => ⟨rfl, by rw [ht]; exact hP9, hS.F ht⟩) hS.2.2 d_M_lotAt_135
            · refine lv_aload_n hx hb d_M_lotAt_69 rfl (lv_at hl 2 rfl) ?_
              refine va_get (D := (dC, dI)) (ci := 3) (v := .ref (q 1)) (C := R_M) (T := F_M) (N := 37) hx hb hts i_M hown hK hP 0 rfl rfl 4 (by decide) (hts _ wd_559) (fun _ h9 => h9) rfl d_M_lotAt_70 ?_
              refine lv_iload_n hx hb d_M_lotAt_73 rfl (lv_at hl 3 rfl) ?_
              refine nv_iald (v := nI (S.1 0 (nn x))) hx hb hK hP 1 0 rfl rfl (by omega) (by decide) rfl d_M_lotAt_74 ?_
              have hb5 : S.1 0 (nn x) ≤ 9 := hB 0 _
              refine lv_goto (tgt := 135) hx hb d_M_lotAt_75 (by decide) ?_
              have ho : op_lotAt S x y = (0, nI (S.1 (nn y) (nn x)), S) := by unfold op_lotAt; rw [if_pos k1, if_neg (ne5 (by omega)), if_pos (show ok y 5 = true by rw [e_y, ok_nI (by omega)]; exact decide_eq_true (by omega))]
              rw [ho]
              refine nv_as (nI (S.1 (nn y) (nn x))) (congrArg (fun k => nI (S.1 k (nn x))) (by omega)) ?_
              have hP9 : va_P (dC, dI) classes (wM q cI cZ (S) (nI 0)) H := hP
              exact W.iret hx hb hr (fun t ht hW => ⟨rfl, by rw [ht]; exact hP9, hS.F ht⟩) hS.2.2 d_M_lotAt_135
          · refine lv_iload_n hx hb d_M_lotAt_49 rfl (lv_at hl 1 rfl) ?_
            refine lv_aload_n hx hb d_M_lotAt_50 rfl (lv_at hl 2 rfl) ?_
            refine lv_iload hx hb d_M_lotAt_51 (lv_at hl 0 rfl) ?_
            refine lv_iload_n hx hb d_M_lotAt_53 rfl (lv_at hl 3 rfl) ?_
            refine pu_go (va_runV (As := [.int (nI i), .int (nI (nn x))]) (rest := [.int (nI (sIf (fun _ => true) (fun j => S.1 25 (j * 60 + nn x)) i))]) ⟨hx, hb, hml, hown, hts⟩ (c_M_at l dC dI cI cZ q S (nI 0) t hI (nI i) (nI (nn x))) (cwV 2 hts (gi_V wd_705 wd_707 wp_25 wd_5 wd_708) rfl rfl rfl (by decide +kernel) ⟨Nat.le_of_ble_eq_true rfl, Nat.le_of_ble_eq_true rfl⟩) (pu_preV hK hP (ci := 3) (q0 := 0) rfl rfl) rfl rfl hl.1 rfl (lv_room (Nat.le_of_ble_eq_true rfl)) d_M_lotAt_54 ⟨Nat.le_of_ble_eq_true rfl, Nat.le_of_ble_eq_true rfl⟩) ?_
            refine nv_as (nI (S.1 25 (i * 60 + (nn x)))) (atv_n (by omega) (by omega) (by omega) (by omega)) ?_
            have hb6 : S.1 25 (i * 60 + (nn x)) ≤ 9999 := hB 25 _
            refine nv_add hx hb d_M_lotAt_57 ?_
            refine lv_istore_n (lv' := [(3, .int (nI ((sIf (fun _ => true) (fun j => S.1 25 (j * 60 + nn x)) i) + (S.1 25 (i * 60 + (nn x)))))), (4, .int (nI i)), (0, .ref (q 0)), (1, .int (nI (nn x))), (2, .int (nI (nn y)))]) hx hb d_M_lotAt_58 rfl hl (by decide) rfl (fun ls hl => ?_)
            refine lv_iinc (v := nI (i + 1)) (lv' := [(4, .int (nI (i + 1))), (3, .int (nI ((sIf (fun _ => true) (fun j => S.1 25 (j * 60 + nn x)) i) + (S.1 25 (i * 60 + (nn x)))))), (0, .ref (q 0)), (1, .int (nI (nn x))), (2, .int (nI (nn y)))]) hx hb d_M_lotAt_59 hl (k := 1) rfl (nI_1 _) (by decide) rfl (fun ls hl => ?_)
            refine lv_goto (tgt := 40) hx hb d_M_lotAt_62 (by decide) ?_
            exact ih (i + 1) (by omega) (by omega) ls (lv_sub hl [0, 1, 2, 3, 4] (by rw [sIf_t rfl]; rfl))
      exact LP40 (S.2.1 0 + 1) 0 (by omega) (by omega) ls (lv_sub hl [0, 1, 2, 3, 4] rfl)
    · refine lv_iconst (v := nI 0) hx hb d_M_lotAt_33 (by decide) ?_
      have ho : op_lotAt S x y = ((gth (nI 1) (gbit (ok x (S.2.1 2) && rg y 0 5) true true true)), 0, S) := of_lotAt hI c30
      rw [ho]
      refine nv_as (0) (by rfl) ?_
      have hP9 : va_P (dC, dI) classes (wM q cI cZ (S) (nI (gth (nI 1) (gbit (ok x (S.2.1 2) && rg y 0 5) true true true)))) H := hP
      exact W.iret hx hb hr (fun t ht hW => ⟨rfl, by rw [ht]; exact hP9, hS.F ht⟩) hS.2.2 d_M_lotAt_34
  refine lv_aload_n hx hb d_M_lotAt_2 rfl (lv_at hl 0 rfl) ?_
  refine lv_iload_n hx hb d_M_lotAt_3 rfl (lv_at hl 1 rfl) ?_
  refine pu_go (va_runV (As := [.int x]) (rest := [.int (nI 1), .ref (q 0)]) ⟨hx, hb, hml, hown, hts⟩ (c_M_isLot l dC dI cI cZ q S th t hI x) (cwV 1 hts (gi_V wd_698 wd_700 wp_24 wd_5 wd_701) rfl rfl rfl (by decide +kernel) ⟨Nat.le_of_ble_eq_true rfl, Nat.le_of_ble_eq_true rfl⟩) (pu_preV hK hP (ci := 3) (q0 := 0) rfl rfl) rfl rfl hl.1 rfl (lv_room (Nat.le_of_ble_eq_true rfl)) d_M_lotAt_4 ⟨Nat.le_of_ble_eq_true rfl, Nat.le_of_ble_eq_true rfl⟩) ?_
  refine nv_bz (tgt := 23) hx hb d_M_lotAt_7 (by decide) (fun c7 => ?_) (fun c7 => ?_)
  · refine lv_iconst (v := nI 0) hx hb d_M_lotAt_23 (by decide) ?_
    refine nv_as (b2 (ok x (S.2.1 2) && rg y 0 5)) (b2_of0 (by simp [c7])) ?_
    exact J24
  · refine lv_iload_n hx hb d_M_lotAt_10 rfl (lv_at hl 2 rfl) ?_
    refine lv_iconst (v := nI 0) hx hb d_M_lotAt_11 (by decide) ?_
    refine lv_iconst (v := nI 5) hx hb d_M_lotAt_12 (by decide) ?_
    refine pu_go (va_runS (As := [.int y, .int (nI 0), .int (nI 5)]) (rest := [.int (nI 1), .ref (q 0)]) ⟨hx, hb, hml, hown, hts⟩ (c_M_in l dC dI y (nI 0) (nI 5)) (cwS 3 hts (gi_S wd_687 wd_688 wd_5 wd_689) rfl rfl rfl (by decide +kernel) ⟨Nat.le_of_ble_eq_true rfl, Nat.le_of_ble_eq_true rfl⟩) (pu_preS (hK.sub (tys' := []) [] rfl) (fun k q h => by simp at h)) rfl rfl hl.1 rfl (lv_room (Nat.le_of_ble_eq_true rfl)) d_M_lotAt_13 ⟨Nat.le_of_ble_eq_true rfl, Nat.le_of_ble_eq_true rfl⟩) ?_
    refine nv_as (b2 (rg y 0 5)) (congrArg b2 (in_rg (by decide) (by decide))) ?_
    refine nv_bz (tgt := 23) hx hb d_M_lotAt_16 (by decide) (fun c16 => ?_) (fun c16 => ?_)
    · refine lv_iconst (v := nI 0) hx hb d_M_lotAt_23 (by decide) ?_
      refine nv_as (b2 (ok x (S.2.1 2) && rg y 0 5)) (b2_of0 (by simp [c7, c16])) ?_
      exact J24
    · refine lv_iconst (v := nI 1) hx hb d_M_lotAt_19 (by decide) ?_
      refine lv_goto (tgt := 24) hx hb d_M_lotAt_20 (by decide) ?_
      refine nv_as (b2 (ok x (S.2.1 2) && rg y 0 5)) (b2_of1 (by simp [c7, c16])) ?_
      exact J24
set_option maxHeartbeats 4000000 in
set_option maxRecDepth 100000 in
theorem c_M_deliver (l : Launch) (dC : Nat → ClassId) (dI : Nat → Nat → Nat) (sz : Nat) (cI cZ : ClassId) (q : Nat → Nat) (S : St) (th : Int32) (t : Nat) (hI : Bd t S) (x y : Int32) (hV : Inv t S)  : Met l y_M_deliver (.code y_M_deliver b_M_deliver 4 (some .int) :: bg) { frames := 3, cells := 0, slots := 0, locals := 65 } (wr_P (dC, dI) classes (wM q cI cZ S th) [(cI, .int), (cZ, .boolean)] sz [.ref (q 0), .int x, .int y]) (wr_Q (some (.int ((op_deliver S x y).2.1))) (dC, dI) classes (wM q cI cZ ((op_deliver S x y).2.2) (nI (op_deliver S x y).1)) (va_A (wM q cI cZ S th) sz)) 0 0 (va_A (wM q cI cZ S th) sz) := by
  refine Met.ofW (cc := b_M_deliver) (maxL := 4) (ret := (some .int)) (by decide) rfl ?_
  intro p e s m args below meth c s₁ B hml hv
  obtain ⟨rfl, hsz, hP, hK, hD0⟩ := hv
  subst hsz
  have hD := hD0.self (sz := s.heap.size)
  generalize hAe : va_A (wM q cI cZ S th) s.heap.size = A at hD ⊢
  have hA : ∀ q : Nat, s.heap.size ≤ q → A q := fun q h => by rw [← hAe]; exact Or.inr h
  have hS : va_S A s.heap s.heap [] := va_S.rf
  have hx := B.exec
  have hb := B.bytes
  have hr := B.returns
  have hts := fun w (h : w ∈ bg) => atoms_spec (ws := .code y_M_deliver b_M_deliver 4 (some .int) :: bg) B.pre w (List.mem_cons_of_mem _ h)
  have hown : s.vm.findClass R_M = some m.cls := findClass_of_methodNamed B.named
  have hlocks := B.notSynchronized
  have hl := lv_entry ([.ref (q 0), .int x, .int y]) (n := 4) (Nat.le_of_ble_eq_true rfl)
  rw [lg_entry_eq]
  generalize (lg_sl ([.ref (q 0), .int x, .int y]) ++ List.replicate (4 - (lg_sl ([.ref (q 0), .int x, .int y])).length) Slot.unset).toArray = ls at hl ⊢
  have hl : lv_has ls 4 [(0, .ref (q 0)), (1, .int x), (2, .int y)] := hl
  have hB := hI.1
  have hg0 : S.2.1 0 ≤ 8 := hI.2.1 0
  have hg1 : S.2.1 1 ≤ 9999 := hI.2.1 1
  have hg2 : S.2.1 2 ≤ 60 := hI.2.1 2
  have hg3 : S.2.1 3 ≤ 60 := hI.2.1 3
  have hg4 : S.2.1 4 ≤ 80 := hI.2.1 4
  have hg5 : S.2.1 5 ≤ 20 := hI.2.1 5
  have hg6 : S.2.1 6 ≤ 80 := hI.2.1 6
  have hg7 : S.2.1 7 ≤ 10 := hI.2.1 7
  have hg8 : t ≤ 512 := hI.2.2
  have J27 : W p l e (headSpec (.code y_M_deliver b_M_deliver 4 (some .int) :: bg) { frames := 3, cells := 0, slots := 0, locals := 65 }).room s m (List.toArray [.ref (q 0), .int x, .int y]) below meth c s.heap [] 0 0 (MQ below (wr_Q (some (.int ((op_deliver S x y).2.1))) (dC, dI) classes (wM q cI cZ ((op_deliver S x y).2.2) (nI (op_deliver S x y).1)) A) (List.toArray [.ref (q 0), .int x, .int y]) s 0 0 A) (F0 m 27 ls [.int (b2 (ok x (S.2.1 4) && ok y (S.2.1 2)))]) := by
    refine lv_istore_n (lv' := [(3, .int (b2 (ok x (S.2.1 4) && ok y (S.2.1 2)))), (0, .ref (q 0)), (1, .int x), (2, .int y)]) hx hb d_M_deliver_27 rfl hl (by decide) rfl (fun ls hl => ?_)
    refine lv_aload_n hx hb d_M_deliver_28 rfl (lv_at hl 1 rfl) ?_
    refine lv_iconst (v := nI 5) hx hb d_M_deliver_29 (by decide) ?_
    refine lv_iload_n hx hb d_M_deliver_30 rfl (lv_at hl 0 rfl) ?_
    refine lv_iconst (v := b2 true) hx hb d_M_deliver_31 (by decide) ?_
    have J65 : W p l e (headSpec (.code y_M_deliver b_M_deliver 4 (some .int) :: bg) { frames := 3, cells := 0, slots := 0, locals := 65 }).room s m (List.toArray [.ref (q 0), .int x, .int y]) below meth c s.heap [] 0 0 (MQ below (wr_Q (some (.int ((op_deliver S x y).2.1))) (dC, dI) classes (wM q cI cZ ((op_deliver S x y).2.2) (nI (op_deliver S x y).1)) A) (List.toArray [.ref (q 0), .int x, .int y]) s 0 0 A) (F0 m 65 ls [.int (b2 ((ok x (S.2.1 4) && ok y (S.2.1 2)) && (!decide (S.1 14 (nn x) = 0) && decide (S.1 0 (nn y) = S.1 11 (nn x))))), .int (b2 true), .int (b2 (ok x (S.2.1 4) && ok y (S.2.1 2))), .int (nI 5), .ref (q 0)]) := by
      refine lv_iconst (v := b2 true) hx hb d_M_deliver_65 (by decide) ?_
      refine wr_goA (va_runV (As := [.int (nI 5), .int (b2 (ok x (S.2.1 4) && ok y (S.2.1 2))), .int (b2 true), .int (b2 ((ok x (S.2.1 4) && ok y (S.2.1 2)) && (!decide (S.1 14 (nn x) = 0) && decide (S.1 0 (nn y) = S.1 11 (nn x))))), .int (b2 true)]) (rest := []) ⟨hx, hb, hml, hown, hts⟩ (c_M_goes l dC dI s.heap.size cI cZ q S th t hI (nI 5) (ok x (S.2.1 4) && ok y (S.2.1 2)) true ((ok x (S.2.1 4) && ok y (S.2.1 2)) && (!decide (S.1 14 (nn x) = 0) && decide (S.1 0 (nn y) = S.1 11 (nn x)))) true) (cwV 5 hts (gi_V wd_676 wd_678 wp_22 wd_5 wd_679) rfl rfl rfl (by decide +kernel) ⟨Nat.le_of_ble_eq_true rfl, Nat.le_of_ble_eq_true rfl⟩) (wr_preV hK hP hD (ci := 3) (q0 := 0) rfl rfl) rfl rfl hl.1 rfl (lv_room (Nat.le_of_ble_eq_true rfl)) d_M_deliver_66 ⟨Nat.le_of_ble_eq_true rfl, Nat.le_of_ble_eq_true rfl⟩) hD hS hA wM_adr (fun H locs hP hD hS => ?_)
      refine W.eq (g2 := F0 m 69 ls [.int (b2 ((ok x (S.2.1 4) && ok y (S.2.1 2)) && (true && (((ok x (S.2.1 4) && ok y (S.2.1 2)) && (!decide (S.1 14 (nn x) = 0) && decide (S.1 0 (nn y) = S.1 11 (nn x)))) && true))))]) rfl ?_
      refine nv_bn (tgt := 74) hx hb d_M_deliver_69 (by decide) (fun c69 => ?_) (fun c69 => ?_)
      · obtain ⟨k0, r0, t0, o0⟩ := and4 c69
        have hP : va_P (dC, dI) classes (wM q cI cZ S (nI 0)) H := by rw [gz c69] at hP; exact hP
        have hD : va_D A (wM q cI cZ S (nI 0)) := by rw [gz c69] at hD; exact hD
        obtain ⟨k1, k2⟩ := and2 k0
        have b1 : S.1 14 (nn x) ≤ 1 := hB 14 _
        obtain ⟨t1, t2⟩ := and2 (and2 t0).2
        have t5 : ¬ S.1 14 (nn x) = 0 := by simpa using t1
        have t3 : S.1 14 (nn x) = 1 := by omega
        have t4 : S.1 11 (nn x) = S.1 0 (nn y) := (of_decide_eq_true t2).symm
        obtain ⟨e_x, b_x⟩ := ok_of k1
        obtain ⟨e_y, b_y⟩ := ok_of k2
        have hl : lv_has ls 4 [(3, .int (b2 (ok x (S.2.1 4) && ok y (S.2.1 2)))), (0, .ref (q 0)), (1, .int (nI (nn x))), (2, .int (nI (nn y)))] := by rw [← e_x, ← e_y]; exact hl
        have hos := hV.2.2.2.2.1 (nn x) b_x
        refine lv_aload_n hx hb d_M_deliver_74 rfl (lv_at hl 1 rfl) ?_
        refine va_get (D := (dC, dI)) (ci := 3) (v := .ref (q 19)) (C := R_M) (T := F_M) (N := 37) hx hb hts i_M hown hK hP 0 rfl rfl 24 (by decide) (hts _ wd_579) (fun _ h9 => h9) rfl d_M_deliver_75 ?_
        refine lv_iload_n hx hb d_M_deliver_78 rfl (lv_at hl 2 rfl) ?_
        refine lv_iconst (v := nI 0) hx hb d_M_deliver_79 (by decide) ?_
        refine nv_zast (f' := upd (colf S.1 14) (nn x) (nI 0)) hx hb hK hP hD hS 19 1 rfl rfl (by omega) (by decide) (by decide) rfl (wM q cI cZ (S_a S 14 (nn x) 0) (nI 0)) wM_c14 d_M_deliver_80 (fun H locs hP hD hS => ?_)
        obtain ⟨S1, hS1⟩ : ∃ z : St, z = S_a S 14 (nn x) 0 := ⟨_, rfl⟩
        rw [← hS1] at hP hD
        have hIS1 : Bd t S1 := by rw [hS1]; exact Bd_a hI (Nat.zero_le _)
        have hBS1 := hIS1.1
        have hg0 : S1.2.1 0 ≤ 8 := hIS1.2.1 0
        have hg1 : S1.2.1 1 ≤ 9999 := hIS1.2.1 1
        have hg2 : S1.2.1 2 ≤ 60 := hIS1.2.1 2
        have hg3 : S1.2.1 3 ≤ 60 := hIS1.2.1 3
        have hg4 : S1.2.1 4 ≤ 80 := hIS1.2.1 4
        have hg5 : S1.2.1 5 ≤ 20 := hIS1.2.1 5
        have hg6 : S1.2.1 6 ≤ 80 := hIS1.2.1 6
        have hg7 : S1.2.1 7 ≤ 10 := hIS1.2.1 7
        have hg8 : t ≤ 512 := hIS1.2.2
        have q0_S1 : S1.2.1 0 = S.2.1 0 := by rw [hS1]; rfl
        have q2_S1 : S1.2.1 2 = S.2.1 2 := by rw [hS1]; rfl
        have r10_S1 : S1.1 10 (nn x) = S.1 10 (nn x) := by rw [hS1]; rfl
        have r12_S1 : S1.1 12 (nn x) = S.1 12 (nn x) := by rw [hS1]; rfl
        have r25_S1 : S1.1 25 (S.1 10 (nn x) * 60 + nn y) = S.1 25 (S.1 10 (nn x) * 60 + nn y) := by rw [hS1]; rfl
        refine lv_aload_n hx hb d_M_deliver_81 rfl (lv_at hl 1 rfl) ?_
        refine lv_aload_n hx hb d_M_deliver_82 rfl (lv_at hl 1 rfl) ?_
        refine va_get (D := (dC, dI)) (ci := 3) (v := .ref (q 15)) (C := R_M) (T := F_M) (N := 37) hx hb hts i_M hown hK hP 0 rfl rfl 20 (by decide) (hts _ wd_575) (fun _ h9 => h9) rfl d_M_deliver_83 ?_
        refine lv_iload_n hx hb d_M_deliver_86 rfl (lv_at hl 2 rfl) ?_
        refine nv_iald (v := nI (S1.1 10 (nn x))) hx hb hK hP 15 0 rfl rfl (by omega) (by decide) rfl d_M_deliver_87 ?_
        have hb1 : S1.1 10 (nn x) ≤ 7 := hBS1 10 _
        refine lv_iload_n hx hb d_M_deliver_88 rfl (lv_at hl 3 rfl) ?_
        refine lv_aload_n hx hb d_M_deliver_89 rfl (lv_at hl 1 rfl) ?_
        refine va_get (D := (dC, dI)) (ci := 3) (v := .ref (q 17)) (C := R_M) (T := F_M) (N := 37) hx hb hts i_M hown hK hP 0 rfl rfl 22 (by decide) (hts _ wd_577) (fun _ h9 => h9) rfl d_M_deliver_90 ?_
        refine lv_iload_n hx hb d_M_deliver_93 rfl (lv_at hl 2 rfl) ?_
        refine nv_iald (v := nI (S1.1 12 (nn x))) hx hb hK hP 17 0 rfl rfl (by omega) (by decide) rfl d_M_deliver_94 ?_
        have hb2 : S1.1 12 (nn x) ≤ 9999 := hBS1 12 _
        refine wr_goA (va_runV (As := [.int (nI (S1.1 10 (nn x))), .int (nI (nn y)), .int (nI (S1.1 12 (nn x)))]) (rest := []) ⟨hx, hb, hml, hown, hts⟩ (c_M_comes l dC dI H.size cI cZ q S1 (nI 0) t hIS1 (S1.1 10 (nn x)) (nn y) (S1.1 12 (nn x)) (by omega) (by omega) (by omega)) (cwV 3 hts (gi_V wd_713 wd_715 wp_26 wd_5 wd_716) rfl rfl rfl (by decide +kernel) ⟨Nat.le_of_ble_eq_true rfl, Nat.le_of_ble_eq_true rfl⟩) (wr_preV hK hP hD (ci := 3) (q0 := 0) rfl rfl) rfl rfl hl.1 rfl (lv_room (Nat.le_of_ble_eq_true rfl)) d_M_deliver_95 ⟨Nat.le_of_ble_eq_true rfl, Nat.le_of_ble_eq_true rfl⟩) hD hS hA wM_adr (fun H locs hP hD hS => ?_)
        refine W.eq (g2 := F0 m 98 ls []) rfl ?_
        obtain ⟨S2, hS2⟩ : ∃ z : St, z = addUp S1 (S1.1 10 (nn x)) (nn y) (S1.1 12 (nn x)) := ⟨_, rfl⟩
        rw [← hS2] at hP hD
        have hIS2 : Bd t S2 := by rw [hS2]; exact Bd_addUp hIS1
        have hBS2 := hIS2.1
        have hg0 : S2.2.1 0 ≤ 8 := hIS2.2.1 0
        have hg1 : S2.2.1 1 ≤ 9999 := hIS2.2.1 1
        have hg2 : S2.2.1 2 ≤ 60 := hIS2.2.1 2
        have hg3 : S2.2.1 3 ≤ 60 := hIS2.2.1 3
        have hg4 : S2.2.1 4 ≤ 80 := hIS2.2.1 4
        have hg5 : S2.2.1 5 ≤ 20 := hIS2.2.1 5
        have hg6 : S2.2.1 6 ≤ 80 := hIS2.2.1 6
        have hg7 : S2.2.1 7 ≤ 10 := hIS2.2.1 7
        have hg8 : t ≤ 512 := hIS2.2.2
        have q0_S2 : S2.2.1 0 = S1.2.1 0 := by rw [hS2]; rfl
        have q2_S2 : S2.2.1 2 = S1.2.1 2 := by rw [hS2]; rfl
        have r10_S2 : S2.1 10 (nn x) = S1.1 10 (nn x) := by rw [hS2]; rfl
        refine lv_aload_n hx hb d_M_deliver_98 rfl (lv_at hl 1 rfl) ?_
        refine lv_aload_n hx hb d_M_deliver_99 rfl (lv_at hl 1 rfl) ?_
        refine va_get (D := (dC, dI)) (ci := 3) (v := .ref (q 15)) (C := R_M) (T := F_M) (N := 37) hx hb hts i_M hown hK hP 0 rfl rfl 20 (by decide) (hts _ wd_575) (fun _ h9 => h9) rfl d_M_deliver_100 ?_
        refine lv_iload_n hx hb d_M_deliver_103 rfl (lv_at hl 2 rfl) ?_
        refine nv_iald (v := nI (S2.1 10 (nn x))) hx hb hK hP 15 0 rfl rfl (by omega) (by decide) rfl d_M_deliver_104 ?_
        have hb3 : S2.1 10 (nn x) ≤ 7 := hBS2 10 _
        refine lv_iload_n hx hb d_M_deliver_105 rfl (lv_at hl 3 rfl) ?_
        refine pu_go (va_runV (As := [.int (nI (S2.1 10 (nn x))), .int (nI (nn y))]) (rest := []) ⟨hx, hb, hml, hown, hts⟩ (c_M_at l dC dI cI cZ q S2 (nI 0) t hIS2 (nI (S2.1 10 (nn x))) (nI (nn y))) (cwV 2 hts (gi_V wd_705 wd_707 wp_25 wd_5 wd_708) rfl rfl rfl (by decide +kernel) ⟨Nat.le_of_ble_eq_true rfl, Nat.le_of_ble_eq_true rfl⟩) (pu_preV hK hP (ci := 3) (q0 := 0) rfl rfl) rfl rfl hl.1 rfl (lv_room (Nat.le_of_ble_eq_true rfl)) d_M_deliver_106 ⟨Nat.le_of_ble_eq_true rfl, Nat.le_of_ble_eq_true rfl⟩) ?_
        refine nv_as (nI (S2.1 25 ((S2.1 10 (nn x)) * 60 + (nn y)))) (atv_n (by omega) (by omega) (by omega) (by omega)) ?_
        have hb4 : S2.1 25 ((S2.1 10 (nn x)) * 60 + (nn y)) ≤ 9999 := hBS2 25 _
        have ho : op_deliver S x y = (0, nI (min 9999 (S.1 25 (S.1 10 (nn x) * 60 + nn y) + S.1 12 (nn x))), addUp (S_a S 14 (nn x) 0) (S.1 10 (nn x)) (nn y) (S.1 12 (nn x))) := by unfold op_deliver; rw [if_pos k1, if_pos k2, if_pos t3, if_pos t4]
        rw [ho]
        refine nv_as (nI (min 9999 (S.1 25 (S.1 10 (nn x) * 60 + nn y) + S.1 12 (nn x)))) (by rw [r10_S2, r10_S1, hS2, r10_S1, r12_S1]; show nI (aU S1.1 25 _ _ 25 _) = _; rw [aU_s, r25_S1]) ?_
        have hP9 : va_P (dC, dI) classes (wM q cI cZ (addUp (S_a S 14 (nn x) 0) (S.1 10 (nn x)) (nn y) (S.1 12 (nn x))) (nI 0)) H := by rw [hS2, r10_S1, r12_S1, hS1] at hP; exact hP
        exact W.iret hx hb hr (fun t ht hW => ⟨rfl, by rw [ht]; exact hP9, hS.F ht⟩) hS.2.2 d_M_deliver_109
      · refine lv_iconst (v := nI 0) hx hb d_M_deliver_72 (by decide) ?_
        have ho : op_deliver S x y = ((gth (nI 5) (gbit (ok x (S.2.1 4) && ok y (S.2.1 2)) true ((ok x (S.2.1 4) && ok y (S.2.1 2)) && (!decide (S.1 14 (nn x) = 0) && decide (S.1 0 (nn y) = S.1 11 (nn x)))) true)), 0, S) := of_deliver hI c69
        rw [ho]
        refine nv_as (0) (by rfl) ?_
        have hP9 : va_P (dC, dI) classes (wM q cI cZ (S) (nI (gth (nI 5) (gbit (ok x (S.2.1 4) && ok y (S.2.1 2)) true ((ok x (S.2.1 4) && ok y (S.2.1 2)) && (!decide (S.1 14 (nn x) = 0) && decide (S.1 0 (nn y) = S.1 11 (nn x)))) true)))) H := hP
        exact W.iret hx hb hr (fun t ht hW => ⟨rfl, by rw [ht]; exact hP9, hS.F ht⟩) hS.2.2 d_M_deliver_73
    refine lv_iload_n hx hb d_M_deliver_32 rfl (lv_at hl 0 rfl) ?_
    refine nv_bz (tgt := 64) hx hb d_M_deliver_33 (by decide) (fun c33 => ?_) (fun c33 => ?_)
    · refine lv_iconst (v := nI 0) hx hb d_M_deliver_64 (by decide) ?_
      refine nv_as (b2 ((ok x (S.2.1 4) && ok y (S.2.1 2)) && (!decide (S.1 14 (nn x) = 0) && decide (S.1 0 (nn y) = S.1 11 (nn x))))) (b2_of0 (by simp [c33])) ?_
      exact J65
    · obtain ⟨k1, k2⟩ := and2 c33
      obtain ⟨e_x, b_x⟩ := ok_of k1
      obtain ⟨e_y, b_y⟩ := ok_of k2
      have hl : lv_has ls 4 [(3, .int (b2 (ok x (S.2.1 4) && ok y (S.2.1 2)))), (0, .ref (q 0)), (1, .int (nI (nn x))), (2, .int (nI (nn y)))] := by rw [← e_x, ← e_y]; exact hl
      refine lv_aload_n hx hb d_M_deliver_36 rfl (lv_at hl 1 rfl) ?_
      refine va_get (D := (dC, dI)) (ci := 3) (v := .ref (q 19)) (C := R_M) (T := F_M) (N := 37) hx hb hts i_M hown hK hP 0 rfl rfl 24 (by decide) (hts _ wd_579) (fun _ h9 => h9) rfl d_M_deliver_37 ?_
      refine lv_iload_n hx hb d_M_deliver_40 rfl (lv_at hl 2 rfl) ?_
      refine nv_zald (v := nI (S.1 14 (nn x))) hx hb hK hP 19 1 rfl rfl (by omega) (by decide) rfl d_M_deliver_41 ?_
      have hb5 : S.1 14 (nn x) ≤ 1 := hB 14 _
      refine nv_zeq (tgt := 64) hx hb (by omega) d_M_deliver_42 (by decide) (fun c42 => ?_) (fun c42 => ?_)
      · refine lv_iconst (v := nI 0) hx hb d_M_deliver_64 (by decide) ?_
        refine nv_as (b2 ((ok x (S.2.1 4) && ok y (S.2.1 2)) && (!decide (S.1 14 (nn x) = 0) && decide (S.1 0 (nn y) = S.1 11 (nn x))))) (b2_of0 (by simp [c33, c42])) ?_
        exact J65
      · refine lv_aload_n hx hb d_M_deliver_45 rfl (lv_at hl 1 rfl) ?_
        refine va_get (D := (dC, dI)) (ci := 3) (v := .ref (q 1)) (C := R_M) (T := F_M) (N := 37) hx hb hts i_M hown hK hP 0 rfl rfl 4 (by decide) (hts _ wd_559) (fun _ h9 => h9) rfl d_M_deliver_46 ?_
        refine lv_iload_n hx hb d_M_deliver_49 rfl (lv_at hl 3 rfl) ?_
        refine nv_iald (v := nI (S.1 0 (nn y))) hx hb hK hP 1 0 rfl rfl (by omega) (by decide) rfl d_M_deliver_50 ?_
        have hb6 : S.1 0 (nn y) ≤ 9 := hB 0 _
        refine lv_aload_n hx hb d_M_deliver_51 rfl (lv_at hl 1 rfl) ?_
        refine va_get (D := (dC, dI)) (ci := 3) (v := .ref (q 16)) (C := R_M) (T := F_M) (N := 37) hx hb hts i_M hown hK hP 0 rfl rfl 21 (by decide) (hts _ wd_576) (fun _ h9 => h9) rfl d_M_deliver_52 ?_
        refine lv_iload_n hx hb d_M_deliver_55 rfl (lv_at hl 2 rfl) ?_
        refine nv_iald (v := nI (S.1 11 (nn x))) hx hb hK hP 16 0 rfl rfl (by omega) (by decide) rfl d_M_deliver_56 ?_
        have hb7 : S.1 11 (nn x) ≤ 9 := hB 11 _
        refine nv_cne (tgt := 64) hx hb (by omega) (by omega) d_M_deliver_57 (by decide) (fun c57 => ?_) (fun c57 => ?_)
        · refine lv_iconst (v := nI 0) hx hb d_M_deliver_64 (by decide) ?_
          refine nv_as (b2 ((ok x (S.2.1 4) && ok y (S.2.1 2)) && (!decide (S.1 14 (nn x) = 0) && decide (S.1 0 (nn y) = S.1 11 (nn x))))) (b2_of0 (by simp [c33, c42, c57])) ?_
          exact J65
        · refine lv_iconst (v := nI 1) hx hb d_M_deliver_60 (by decide) ?_
          refine lv_goto (tgt := 65) hx hb d_M_deliver_61 (by decide) ?_
          refine nv_as (b2 ((ok x (S.2.1 4) && ok y (S.2.1 2)) && (!decide (S.1 14 (nn x) = 0) && decide (S.1 0 (nn y) = S.1 11 (nn x))))) (b2_of1 (by simp [c33, c42, c57])) ?_
          exact J65
  refine lv_iload_n hx hb d_M_deliver_0 rfl (lv_at hl 1 rfl) ?_
  refine lv_iconst (v := nI 0) hx hb d_M_deliver_1 (by decide) ?_
  refine lv_aload_n hx hb d_M_deliver_2 rfl (lv_at hl 0 rfl) ?_
  refine va_get (D := (dC, dI)) (ci := 3) (v := .int (nI (S.2.1 4))) (C := R_M) (T := F_M) (N := 37) hx hb hts i_M hown hK hP 0 rfl rfl 19 (by decide) (hts _ wd_574) (fun _ h9 => h9) rfl d_M_deliver_3 ?_
  refine lv_iconst (v := nI 1) hx hb d_M_deliver_6 (by decide) ?_
  refine lv_isub hx hb d_M_deliver_7 ?_
  refine pu_go (va_runS (As := [.int x, .int (nI 0), .int ((nI (S.2.1 4)) - (nI 1))]) (rest := []) ⟨hx, hb, hml, hown, hts⟩ (c_M_in l dC dI x (nI 0) ((nI (S.2.1 4)) - (nI 1))) (cwS 3 hts (gi_S wd_687 wd_688 wd_5 wd_689) rfl rfl rfl (by decide +kernel) ⟨Nat.le_of_ble_eq_true rfl, Nat.le_of_ble_eq_true rfl⟩) (pu_preS (hK.sub (tys' := []) [] rfl) (fun k q h => by simp at h)) rfl rfl hl.1 rfl (lv_room (Nat.le_of_ble_eq_true rfl)) d_M_deliver_8 ⟨Nat.le_of_ble_eq_true rfl, Nat.le_of_ble_eq_true rfl⟩) ?_
  refine nv_as (b2 (ok x (S.2.1 4))) (congrArg b2 (in_ok (by omega))) ?_
  refine nv_bz (tgt := 26) hx hb d_M_deliver_11 (by decide) (fun c11 => ?_) (fun c11 => ?_)
  · refine lv_iconst (v := nI 0) hx hb d_M_deliver_26 (by decide) ?_
    refine nv_as (b2 (ok x (S.2.1 4) && ok y (S.2.1 2))) (b2_of0 (by simp [c11])) ?_
    exact J27
  · refine lv_aload_n hx hb d_M_deliver_14 rfl (lv_at hl 0 rfl) ?_
    refine lv_iload_n hx hb d_M_deliver_15 rfl (lv_at hl 2 rfl) ?_
    refine pu_go (va_runV (As := [.int y]) (rest := []) ⟨hx, hb, hml, hown, hts⟩ (c_M_isLot l dC dI cI cZ q S th t hI y) (cwV 1 hts (gi_V wd_698 wd_700 wp_24 wd_5 wd_701) rfl rfl rfl (by decide +kernel) ⟨Nat.le_of_ble_eq_true rfl, Nat.le_of_ble_eq_true rfl⟩) (pu_preV hK hP (ci := 3) (q0 := 0) rfl rfl) rfl rfl hl.1 rfl (lv_room (Nat.le_of_ble_eq_true rfl)) d_M_deliver_16 ⟨Nat.le_of_ble_eq_true rfl, Nat.le_of_ble_eq_true rfl⟩) ?_
    refine nv_bz (tgt := 26) hx hb d_M_deliver_19 (by decide) (fun c19 => ?_) (fun c19 => ?_)
    · refine lv_iconst (v := nI 0) hx hb d_M_deliver_26 (by decide) ?_
      refine nv_as (b2 (ok x (S.2.1 4) && ok y (S.2.1 2))) (b2_of0 (by simp [c11, c19])) ?_
      exact J27
    · refine lv_iconst (v := nI 1) hx hb d_M_deliver_22 (by decide) ?_
      refine lv_goto (tgt := 27) hx hb d_M_deliver_23 (by decide) ?_
      refine nv_as (b2 (ok x (S.2.1 4) && ok y (S.2.1 2))) (b2_of1 (by simp [c11, c19])) ?_
      exact J27
set_option maxHeartbeats 4000000 in
set_option maxRecDepth 100000 in
theorem c_M_second (l : Launch) (dC : Nat → ClassId) (dI : Nat → Nat → Nat) (sz : Nat) (cI cZ : ClassId) (q : Nat → Nat) (S : St) (th : Int32) (t : Nat) (hI : Bd t S) (x y : Int32) (hV : Inv t S)  : Met l y_M_second (.code y_M_second b_M_second 4 (some .int) :: bg) { frames := 1, cells := 0, slots := 0, locals := 27 } (wr_P (dC, dI) classes (wM q cI cZ S th) [(cI, .int), (cZ, .boolean)] sz [.ref (q 0), .int x, .int y]) (wr_Q (some (.int ((op_second S x y).2.1))) (dC, dI) classes (wM q cI cZ ((op_second S x y).2.2) (nI (op_second S x y).1)) (va_A (wM q cI cZ S th) sz)) 0 0 (va_A (wM q cI cZ S th) sz) := by
  refine Met.ofW (cc := b_M_second) (maxL := 4) (ret := (some .int)) (by decide) rfl ?_
  intro p e s m args below meth c s₁ B hml hv
  obtain ⟨rfl, hsz, hP, hK, hD0⟩ := hv
  subst hsz
  have hD := hD0.self (sz := s.heap.size)
  generalize hAe : va_A (wM q cI cZ S th) s.heap.size = A at hD ⊢
  have hA : ∀ q : Nat, s.heap.size ≤ q → A q := fun q h => by rw [← hAe]; exact Or.inr h
  have hS : va_S A s.heap s.heap [] := va_S.rf
  have hx := B.exec
  have hb := B.bytes
  have hr := B.returns
  have hts := fun w (h : w ∈ bg) => atoms_spec (ws := .code y_M_second b_M_second 4 (some .int) :: bg) B.pre w (List.mem_cons_of_mem _ h)
  have hown : s.vm.findClass R_M = some m.cls := findClass_of_methodNamed B.named
  have hlocks := B.notSynchronized
  have hl := lv_entry ([.ref (q 0), .int x, .int y]) (n := 4) (Nat.le_of_ble_eq_true rfl)
  rw [lg_entry_eq]
  generalize (lg_sl ([.ref (q 0), .int x, .int y]) ++ List.replicate (4 - (lg_sl ([.ref (q 0), .int x, .int y])).length) Slot.unset).toArray = ls at hl ⊢
  have hl : lv_has ls 4 [(0, .ref (q 0)), (1, .int x), (2, .int y)] := hl
  have hB := hI.1
  have hg0 : S.2.1 0 ≤ 8 := hI.2.1 0
  have hg1 : S.2.1 1 ≤ 9999 := hI.2.1 1
  have hg2 : S.2.1 2 ≤ 60 := hI.2.1 2
  have hg3 : S.2.1 3 ≤ 60 := hI.2.1 3
  have hg4 : S.2.1 4 ≤ 80 := hI.2.1 4
  have hg5 : S.2.1 5 ≤ 20 := hI.2.1 5
  have hg6 : S.2.1 6 ≤ 80 := hI.2.1 6
  have hg7 : S.2.1 7 ≤ 10 := hI.2.1 7
  have hg8 : t ≤ 512 := hI.2.2
  have J29 : W p l e (headSpec (.code y_M_second b_M_second 4 (some .int) :: bg) { frames := 1, cells := 0, slots := 0, locals := 27 }).room s m (List.toArray [.ref (q 0), .int x, .int y]) below meth c s.heap [] 0 0 (MQ below (wr_Q (some (.int ((op_second S x y).2.1))) (dC, dI) classes (wM q cI cZ ((op_second S x y).2.2) (nI (op_second S x y).1)) A) (List.toArray [.ref (q 0), .int x, .int y]) s 0 0 A) (F0 m 29 ls [.int (b2 (ok x (S.2.1 5) && rg y 0 19))]) := by
    refine lv_istore_n (lv' := [(3, .int (b2 (ok x (S.2.1 5) && rg y 0 19))), (0, .ref (q 0)), (1, .int x), (2, .int y)]) hx hb d_M_second_29 rfl hl (by decide) rfl (fun ls hl => ?_)
    refine lv_aload_n hx hb d_M_second_30 rfl (lv_at hl 1 rfl) ?_
    refine lv_bipush (v := nI 13) hx hb d_M_second_31 (by decide) ?_
    refine lv_iload_n hx hb d_M_second_33 rfl (lv_at hl 0 rfl) ?_
    refine lv_iconst (v := b2 true) hx hb d_M_second_34 (by decide) ?_
    have J63 : W p l e (headSpec (.code y_M_second b_M_second 4 (some .int) :: bg) { frames := 1, cells := 0, slots := 0, locals := 27 }).room s m (List.toArray [.ref (q 0), .int x, .int y]) below meth c s.heap [] 0 0 (MQ below (wr_Q (some (.int ((op_second S x y).2.1))) (dC, dI) classes (wM q cI cZ ((op_second S x y).2.2) (nI (op_second S x y).1)) A) (List.toArray [.ref (q 0), .int x, .int y]) s 0 0 A) (F0 m 63 ls [.int (b2 ((ok x (S.2.1 5) && rg y 0 19) && (decide (emf S.1 (S.2.1 5) (nn x) = 0) && !decide (S.1 18 (nn x) = nn y)))), .int (b2 true), .int (b2 (ok x (S.2.1 5) && rg y 0 19)), .int (nI 13), .ref (q 0)]) := by
      have J77 : W p l e (headSpec (.code y_M_second b_M_second 4 (some .int) :: bg) { frames := 1, cells := 0, slots := 0, locals := 27 }).room s m (List.toArray [.ref (q 0), .int x, .int y]) below meth c s.heap [] 0 0 (MQ below (wr_Q (some (.int ((op_second S x y).2.1))) (dC, dI) classes (wM q cI cZ ((op_second S x y).2.2) (nI (op_second S x y).1)) A) (List.toArray [.ref (q 0), .int x, .int y]) s 0 0 A) (F0 m 77 ls [.int (b2 (decide (S.2.1 4 < 80))), .int (b2 ((ok x (S.2.1 5) && rg y 0 19) && (decide (emf S.1 (S.2.1 5) (nn x) = 0) && !decide (S.1 18 (nn x) = nn y)))), .int (b2 true), .int (b2 (ok x (S.2.1 5) && rg y 0 19)), .int (nI 13), .ref (q 0)]) := by
        refine wr_goA (va_runV (As := [.int (nI 13), .int (b2 (ok x (S.2.1 5) && rg y 0 19)), .int (b2 true), .int (b2 ((ok x (S.2.1 5) && rg y 0 19) && (decide (emf S.1 (S.2.1 5) (nn x) = 0) && !decide (S.1 18 (nn x) = nn y)))), .int (b2 (decide (S.2.1 4 < 80)))]) (rest := []) ⟨hx, hb, hml, hown, hts⟩ (c_M_goes l dC dI s.heap.size cI cZ q S th t hI (nI 13) (ok x (S.2.1 5) && rg y 0 19) true ((ok x (S.2.1 5) && rg y 0 19) && (decide (emf S.1 (S.2.1 5) (nn x) = 0) && !decide (S.1 18 (nn x) = nn y))) (decide (S.2.1 4 < 80))) (cwV 5 hts (gi_V wd_676 wd_678 wp_22 wd_5 wd_679) rfl rfl rfl (by decide +kernel) ⟨Nat.le_of_ble_eq_true rfl, Nat.le_of_ble_eq_true rfl⟩) (wr_preV hK hP hD (ci := 3) (q0 := 0) rfl rfl) rfl rfl hl.1 rfl (lv_room (Nat.le_of_ble_eq_true rfl)) d_M_second_77 ⟨Nat.le_of_ble_eq_true rfl, Nat.le_of_ble_eq_true rfl⟩) hD hS hA wM_adr (fun H locs hP hD hS => ?_)
        refine W.eq (g2 := F0 m 80 ls [.int (b2 ((ok x (S.2.1 5) && rg y 0 19) && (true && (((ok x (S.2.1 5) && rg y 0 19) && (decide (emf S.1 (S.2.1 5) (nn x) = 0) && !decide (S.1 18 (nn x) = nn y))) && (decide (S.2.1 4 < 80))))))]) rfl ?_
        refine nv_bn (tgt := 85) hx hb d_M_second_80 (by decide) (fun c80 => ?_) (fun c80 => ?_)
        · obtain ⟨k0, r0, t0, o0⟩ := and4 c80
          have hP : va_P (dC, dI) classes (wM q cI cZ S (nI 0)) H := by rw [gz c80] at hP; exact hP
          have hD : va_D A (wM q cI cZ S (nI 0)) := by rw [gz c80] at hD; exact hD
          obtain ⟨k1, k2⟩ := and2 k0
          rw [show rg y 0 19 = ok y 20 from rg_ok (n := 20) (by decide)] at k2
          have t9 := (and2 t0).2
          rw [emf_0 (ok_of k1).2 (hB 19 _)] at t9
          obtain ⟨t1, t2⟩ := and2 t9
          have t3 : S.1 19 (nn x) = 1 := of_decide_eq_true t1
          have t4 : S.1 18 (nn x) ≠ nn y := by simpa using t2
          have o1 := of_decide_eq_true o0
          obtain ⟨e_x, b_x⟩ := ok_of k1
          obtain ⟨e_y, b_y⟩ := ok_of k2
          have hl : lv_has ls 4 [(3, .int (b2 (ok x (S.2.1 5) && rg y 0 19))), (0, .ref (q 0)), (1, .int (nI (nn x))), (2, .int (nI (nn y)))] := by rw [← e_x, ← e_y]; exact hl
          refine lv_aload_n hx hb d_M_second_85 rfl (lv_at hl 1 rfl) ?_
          refine va_get (D := (dC, dI)) (ci := 3) (v := .ref (q 24)) (C := R_M) (T := F_M) (N := 37) hx hb hts i_M hown hK hP 0 rfl rfl 30 (by decide) (hts _ wd_585) (fun _ h9 => h9) rfl d_M_second_86 ?_
          refine lv_iload_n hx hb d_M_second_89 rfl (lv_at hl 2 rfl) ?_
          refine lv_iconst (v := nI 1) hx hb d_M_second_90 (by decide) ?_
          refine nv_zast (f' := upd (emf S.1 (S.2.1 5)) (nn x) (nI 1)) hx hb hK hP hD hS 24 1 rfl rfl (by omega) (by decide) (by decide) rfl (wM q cI cZ (S_a S 19 (nn x) 0) (nI 0)) (wM_e (by omega)) d_M_second_91 (fun H locs hP hD hS => ?_)
          obtain ⟨S1, hS1⟩ : ∃ z : St, z = S_a S 19 (nn x) 0 := ⟨_, rfl⟩
          rw [← hS1] at hP hD
          have hIS1 : Bd t S1 := by rw [hS1]; exact Bd_a hI (Nat.zero_le _)
          have hBS1 := hIS1.1
          have hg0 : S1.2.1 0 ≤ 8 := hIS1.2.1 0
          have hg1 : S1.2.1 1 ≤ 9999 := hIS1.2.1 1
          have hg2 : S1.2.1 2 ≤ 60 := hIS1.2.1 2
          have hg3 : S1.2.1 3 ≤ 60 := hIS1.2.1 3
          have hg4 : S1.2.1 4 ≤ 80 := hIS1.2.1 4
          have hg5 : S1.2.1 5 ≤ 20 := hIS1.2.1 5
          have hg6 : S1.2.1 6 ≤ 80 := hIS1.2.1 6
          have hg7 : S1.2.1 7 ≤ 10 := hIS1.2.1 7
          have hg8 : t ≤ 512 := hIS1.2.2
          have q0_S1 : S1.2.1 0 = S.2.1 0 := by rw [hS1]; rfl
          have q2_S1 : S1.2.1 2 = S.2.1 2 := by rw [hS1]; rfl
          have q4_S1 : S1.2.1 4 = S.2.1 4 := by rw [hS1]; rfl
          have r15_S1 : S1.1 15 (nn x) = S.1 15 (nn x) := by rw [hS1]; rfl
          have r16_S1 : S1.1 16 (nn x) = S.1 16 (nn x) := by rw [hS1]; rfl
          have r17_S1 : S1.1 17 (nn x) = S.1 17 (nn x) := by rw [hS1]; rfl
          refine lv_aload_n hx hb d_M_second_92 rfl (lv_at hl 1 rfl) ?_
          refine lv_aload_n hx hb d_M_second_93 rfl (lv_at hl 1 rfl) ?_
          refine va_get (D := (dC, dI)) (ci := 3) (v := .ref (q 20)) (C := R_M) (T := F_M) (N := 37) hx hb hts i_M hown hK hP 0 rfl rfl 26 (by decide) (hts _ wd_581) (fun _ h9 => h9) rfl d_M_second_94 ?_
          refine lv_iload_n hx hb d_M_second_97 rfl (lv_at hl 2 rfl) ?_
          refine nv_iald (v := nI (S1.1 15 (nn x))) hx hb hK hP 20 0 rfl rfl (by omega) (by decide) rfl d_M_second_98 ?_
          have hb1 : S1.1 15 (nn x) ≤ 7 := hBS1 15 _
          refine lv_aload_n hx hb d_M_second_99 rfl (lv_at hl 1 rfl) ?_
          refine va_get (D := (dC, dI)) (ci := 3) (v := .ref (q 21)) (C := R_M) (T := F_M) (N := 37) hx hb hts i_M hown hK hP 0 rfl rfl 27 (by decide) (hts _ wd_582) (fun _ h9 => h9) rfl d_M_second_100 ?_
          refine lv_iload_n hx hb d_M_second_103 rfl (lv_at hl 2 rfl) ?_
          refine nv_iald (v := nI (S1.1 16 (nn x))) hx hb hK hP 21 0 rfl rfl (by omega) (by decide) rfl d_M_second_104 ?_
          have hb2 : S1.1 16 (nn x) ≤ 9 := hBS1 16 _
          refine lv_aload_n hx hb d_M_second_105 rfl (lv_at hl 1 rfl) ?_
          refine va_get (D := (dC, dI)) (ci := 3) (v := .ref (q 22)) (C := R_M) (T := F_M) (N := 37) hx hb hts i_M hown hK hP 0 rfl rfl 28 (by decide) (hts _ wd_583) (fun _ h9 => h9) rfl d_M_second_106 ?_
          refine lv_iload_n hx hb d_M_second_109 rfl (lv_at hl 2 rfl) ?_
          refine nv_iald (v := nI (S1.1 17 (nn x))) hx hb hK hP 22 0 rfl rfl (by omega) (by decide) rfl d_M_second_110 ?_
          have hb3 : S1.1 17 (nn x) ≤ 9999 := hBS1 17 _
          refine wr_goA (va_runV (As := [.int (nI (S1.1 15 (nn x))), .int (nI (S1.1 16 (nn x))), .int (nI (S1.1 17 (nn x)))]) (rest := []) ⟨hx, hb, hml, hown, hts⟩ (c_M_makes l dC dI H.size cI cZ q S1 (nI 0) t hIS1 (S1.1 15 (nn x)) (S1.1 16 (nn x)) (S1.1 17 (nn x)) (by omega)) (cwV 3 hts (gi_V wd_756 wd_758 wp_31 wd_5 wd_759) rfl rfl rfl (by decide +kernel) ⟨Nat.le_of_ble_eq_true rfl, Nat.le_of_ble_eq_true rfl⟩) (wr_preV hK hP hD (ci := 3) (q0 := 0) rfl rfl) rfl rfl hl.1 rfl (lv_room (Nat.le_of_ble_eq_true rfl)) d_M_second_111 ⟨Nat.le_of_ble_eq_true rfl, Nat.le_of_ble_eq_true rfl⟩) hD hS hA wM_adr (fun H locs hP hD hS => ?_)
          refine W.eq (g2 := F0 m 114 ls []) rfl ?_
          refine lv_aload_n hx hb d_M_second_114 rfl (lv_at hl 1 rfl) ?_
          refine va_get (D := (dC, dI)) (ci := 3) (v := .int (nI (S1.2.1 4 + 1))) (C := R_M) (T := F_M) (N := 37) hx hb hts i_M hown hK hP 0 rfl rfl 19 (by decide) (hts _ wd_574) (fun _ h9 => h9) rfl d_M_second_115 ?_
          refine lv_iconst (v := nI 1) hx hb d_M_second_118 (by decide) ?_
          refine nv_sub hx hb (by omega) d_M_second_119 ?_
          have ho : op_second S x y = (0, nI (S.2.1 4), addOrd (S_a S 19 (nn x) 0) (S.1 15 (nn x)) (S.1 16 (nn x)) (S.1 17 (nn x))) := by unfold op_second; rw [if_pos k1, if_pos k2, if_pos t3, if_pos t4, if_pos o1]
          rw [ho]
          refine nv_as (nI (S.2.1 4)) (by rw [Nat.add_sub_cancel, q4_S1]) ?_
          have hP9 : va_P (dC, dI) classes (wM q cI cZ (addOrd (S_a S 19 (nn x) 0) (S.1 15 (nn x)) (S.1 16 (nn x)) (S.1 17 (nn x))) (nI 0)) H := by rw [r15_S1, r16_S1, r17_S1, hS1] at hP; exact hP
          exact W.iret hx hb hr (fun t ht hW => ⟨rfl, by rw [ht]; exact hP9, hS.F ht⟩) hS.2.2 d_M_second_120
        · refine lv_iconst (v := nI 0) hx hb d_M_second_83 (by decide) ?_
          have ho : op_second S x y = ((gth (nI 13) (gbit (ok x (S.2.1 5) && rg y 0 19) true ((ok x (S.2.1 5) && rg y 0 19) && (decide (emf S.1 (S.2.1 5) (nn x) = 0) && !decide (S.1 18 (nn x) = nn y))) (decide (S.2.1 4 < 80)))), 0, S) := of_second hI c80
          rw [ho]
          refine nv_as (0) (by rfl) ?_
          have hP9 : va_P (dC, dI) classes (wM q cI cZ (S) (nI (gth (nI 13) (gbit (ok x (S.2.1 5) && rg y 0 19) true ((ok x (S.2.1 5) && rg y 0 19) && (decide (emf S.1 (S.2.1 5) (nn x) = 0) && !decide (S.1 18 (nn x) = nn y))) (decide (S.2.1 4 < 80)))))) H := hP
          exact W.iret hx hb hr (fun t ht hW => ⟨rfl, by rw [ht]; exact hP9, hS.F ht⟩) hS.2.2 d_M_second_84
      refine lv_aload_n hx hb d_M_second_63 rfl (lv_at hl 1 rfl) ?_
      refine va_get (D := (dC, dI)) (ci := 3) (v := .int (nI (S.2.1 4))) (C := R_M) (T := F_M) (N := 37) hx hb hts i_M hown hK hP 0 rfl rfl 19 (by decide) (hts _ wd_574) (fun _ h9 => h9) rfl d_M_second_64 ?_
      refine lv_bipush (v := nI 80) hx hb d_M_second_67 (by decide) ?_
      refine nv_cge (tgt := 76) hx hb (by omega) (by omega) d_M_second_69 (by decide) (fun c69 => ?_) (fun c69 => ?_)
      · refine lv_iconst (v := nI 0) hx hb d_M_second_76 (by decide) ?_
        refine nv_as (b2 (decide (S.2.1 4 < 80))) (b2_of0 (by simp [c69])) ?_
        exact J77
      · refine lv_iconst (v := nI 1) hx hb d_M_second_72 (by decide) ?_
        refine lv_goto (tgt := 77) hx hb d_M_second_73 (by decide) ?_
        refine nv_as (b2 (decide (S.2.1 4 < 80))) (b2_of1 (by simp [c69])) ?_
        exact J77
    refine lv_iload_n hx hb d_M_second_35 rfl (lv_at hl 0 rfl) ?_
    refine nv_bz (tgt := 62) hx hb d_M_second_36 (by decide) (fun c36 => ?_) (fun c36 => ?_)
    · refine lv_iconst (v := nI 0) hx hb d_M_second_62 (by decide) ?_
      refine nv_as (b2 ((ok x (S.2.1 5) && rg y 0 19) && (decide (emf S.1 (S.2.1 5) (nn x) = 0) && !decide (S.1 18 (nn x) = nn y)))) (b2_of0 (by simp [c36])) ?_
      exact J63
    · obtain ⟨k1, k2⟩ := and2 c36
      obtain ⟨e_x, b_x⟩ := ok_of k1
      obtain ⟨e_y, l_y, b_y⟩ := rg_of k2
      have hl : lv_has ls 4 [(3, .int (b2 (ok x (S.2.1 5) && rg y 0 19))), (0, .ref (q 0)), (1, .int (nI (nn x))), (2, .int (nI (nn y)))] := by rw [← e_x, ← e_y]; exact hl
      refine lv_aload_n hx hb d_M_second_39 rfl (lv_at hl 1 rfl) ?_
      refine va_get (D := (dC, dI)) (ci := 3) (v := .ref (q 24)) (C := R_M) (T := F_M) (N := 37) hx hb hts i_M hown hK hP 0 rfl rfl 30 (by decide) (hts _ wd_585) (fun _ h9 => h9) rfl d_M_second_40 ?_
      refine lv_iload_n hx hb d_M_second_43 rfl (lv_at hl 2 rfl) ?_
      refine nv_zald (v := emf S.1 (S.2.1 5) (nn x)) hx hb hK hP 24 1 rfl rfl (by omega) (by decide) rfl d_M_second_44 ?_
      refine lv_if_ne (tgt := 62) hx hb d_M_second_45 (by decide) (fun c45 => ?_) (fun c45 => ?_)
      · refine lv_iconst (v := nI 0) hx hb d_M_second_62 (by decide) ?_
        refine nv_as (b2 ((ok x (S.2.1 5) && rg y 0 19) && (decide (emf S.1 (S.2.1 5) (nn x) = 0) && !decide (S.1 18 (nn x) = nn y)))) (b2_of0 (by simp [c36, c45])) ?_
        exact J63
      · refine lv_aload_n hx hb d_M_second_48 rfl (lv_at hl 1 rfl) ?_
        refine va_get (D := (dC, dI)) (ci := 3) (v := .ref (q 23)) (C := R_M) (T := F_M) (N := 37) hx hb hts i_M hown hK hP 0 rfl rfl 29 (by decide) (hts _ wd_584) (fun _ h9 => h9) rfl d_M_second_49 ?_
        refine lv_iload_n hx hb d_M_second_52 rfl (lv_at hl 2 rfl) ?_
        refine nv_iald (v := nI (S.1 18 (nn x))) hx hb hK hP 23 0 rfl rfl (by omega) (by decide) rfl d_M_second_53 ?_
        have hb4 : S.1 18 (nn x) ≤ 19 := hB 18 _
        refine lv_iload_n hx hb d_M_second_54 rfl (lv_at hl 3 rfl) ?_
        refine nv_ceq (tgt := 62) hx hb (by omega) (by omega) d_M_second_55 (by decide) (fun c55 => ?_) (fun c55 => ?_)
        · refine lv_iconst (v := nI 0) hx hb d_M_second_62 (by decide) ?_
          refine nv_as (b2 ((ok x (S.2.1 5) && rg y 0 19) && (decide (emf S.1 (S.2.1 5) (nn x) = 0) && !decide (S.1 18 (nn x) = nn y)))) (b2_of0 (by simp [c36, c45, c55])) ?_
          exact J63
        · refine lv_iconst (v := nI 1) hx hb d_M_second_58 (by decide) ?_
          refine lv_goto (tgt := 63) hx hb d_M_second_59 (by decide) ?_
          refine nv_as (b2 ((ok x (S.2.1 5) && rg y 0 19) && (decide (emf S.1 (S.2.1 5) (nn x) = 0) && !decide (S.1 18 (nn x) = nn y)))) (b2_of1 (by simp [c36, c45, c55])) ?_
          exact J63
  refine lv_iload_n hx hb d_M_second_0 rfl (lv_at hl 1 rfl) ?_
  refine lv_iconst (v := nI 0) hx hb d_M_second_1 (by decide) ?_
  refine lv_aload_n hx hb d_M_second_2 rfl (lv_at hl 0 rfl) ?_
  refine va_get (D := (dC, dI)) (ci := 3) (v := .int (nI (S.2.1 5))) (C := R_M) (T := F_M) (N := 37) hx hb hts i_M hown hK hP 0 rfl rfl 25 (by decide) (hts _ wd_580) (fun _ h9 => h9) rfl d_M_second_3 ?_
  refine lv_iconst (v := nI 1) hx hb d_M_second_6 (by decide) ?_
  refine lv_isub hx hb d_M_second_7 ?_
  refine pu_go (va_runS (As := [.int x, .int (nI 0), .int ((nI (S.2.1 5)) - (nI 1))]) (rest := []) ⟨hx, hb, hml, hown, hts⟩ (c_M_in l dC dI x (nI 0) ((nI (S.2.1 5)) - (nI 1))) (cwS 3 hts (gi_S wd_687 wd_688 wd_5 wd_689) rfl rfl rfl (by decide +kernel) ⟨Nat.le_of_ble_eq_true rfl, Nat.le_of_ble_eq_true rfl⟩) (pu_preS (hK.sub (tys' := []) [] rfl) (fun k q h => by simp at h)) rfl rfl hl.1 rfl (lv_room (Nat.le_of_ble_eq_true rfl)) d_M_second_8 ⟨Nat.le_of_ble_eq_true rfl, Nat.le_of_ble_eq_true rfl⟩) ?_
  refine nv_as (b2 (ok x (S.2.1 5))) (congrArg b2 (in_ok (by omega))) ?_
  refine nv_bz (tgt := 28) hx hb d_M_second_11 (by decide) (fun c11 => ?_) (fun c11 => ?_)
  · refine lv_iconst (v := nI 0) hx hb d_M_second_28 (by decide) ?_
    refine nv_as (b2 (ok x (S.2.1 5) && rg y 0 19)) (b2_of0 (by simp [c11])) ?_
    exact J29
  · refine lv_iload_n hx hb d_M_second_14 rfl (lv_at hl 2 rfl) ?_
    refine lv_iconst (v := nI 0) hx hb d_M_second_15 (by decide) ?_
    refine lv_bipush (v := nI 19) hx hb d_M_second_16 (by decide) ?_
    refine pu_go (va_runS (As := [.int y, .int (nI 0), .int (nI 19)]) (rest := []) ⟨hx, hb, hml, hown, hts⟩ (c_M_in l dC dI y (nI 0) (nI 19)) (cwS 3 hts (gi_S wd_687 wd_688 wd_5 wd_689) rfl rfl rfl (by decide +kernel) ⟨Nat.le_of_ble_eq_true rfl, Nat.le_of_ble_eq_true rfl⟩) (pu_preS (hK.sub (tys' := []) [] rfl) (fun k q h => by simp at h)) rfl rfl hl.1 rfl (lv_room (Nat.le_of_ble_eq_true rfl)) d_M_second_18 ⟨Nat.le_of_ble_eq_true rfl, Nat.le_of_ble_eq_true rfl⟩) ?_
    refine nv_as (b2 (rg y 0 19)) (congrArg b2 (in_rg (by decide) (by decide))) ?_
    refine nv_bz (tgt := 28) hx hb d_M_second_21 (by decide) (fun c21 => ?_) (fun c21 => ?_)
    · refine lv_iconst (v := nI 0) hx hb d_M_second_28 (by decide) ?_
      refine nv_as (b2 (ok x (S.2.1 5) && rg y 0 19)) (b2_of0 (by simp [c11, c21])) ?_
      exact J29
    · refine lv_iconst (v := nI 1) hx hb d_M_second_24 (by decide) ?_
      refine lv_goto (tgt := 29) hx hb d_M_second_25 (by decide) ?_
      refine nv_as (b2 (ok x (S.2.1 5) && rg y 0 19)) (b2_of1 (by simp [c11, c21])) ?_
      exact J29
set_option maxHeartbeats 4000000 in
set_option maxRecDepth 100000 in
theorem c_M_use (l : Launch) (dC : Nat → ClassId) (dI : Nat → Nat → Nat) (sz : Nat) (cI cZ : ClassId) (q : Nat → Nat) (S : St) (th : Int32) (t : Nat) (hI : Bd t S) (x y n : Int32) (hV : Inv t S) (hou : ∀ j, S.1 2 j + 9999 ≤ 9999 * t)  : Met l y_M_use (.code y_M_use b_M_use 5 (some .int) :: bg) { frames := 4, cells := 0, slots := 0, locals := 91 } (wr_P (dC, dI) classes (wM q cI cZ S th) [(cI, .int), (cZ, .boolean)] sz [.ref (q 0), .int x, .int y, .int n]) (wr_Q (some (.int ((op_use S x y n).2.1))) (dC, dI) classes (wM q cI cZ ((op_use S x y n).2.2) (nI (op_use S x y n).1)) (va_A (wM q cI cZ S th) sz)) 0 0 (va_A (wM q cI cZ S th) sz) := by
  refine Met.ofW (cc := b_M_use) (maxL := 5) (ret := (some .int)) (by decide) rfl ?_
  intro p e s m args below meth c s₁ B hml hv
  obtain ⟨rfl, hsz, hP, hK, hD0⟩ := hv
  subst hsz
  have hD := hD0.self (sz := s.heap.size)
  generalize hAe : va_A (wM q cI cZ S th) s.heap.size = A at hD ⊢
  have hA : ∀ q : Nat, s.heap.size ≤ q → A q := fun q h => by rw [← hAe]; exact Or.inr h
  have hS : va_S A s.heap s.heap [] := va_S.rf
  have hx := B.exec
  have hb := B.bytes
  have hr := B.returns
  have hts := fun w (h : w ∈ bg) => atoms_spec (ws := .code y_M_use b_M_use 5 (some .int) :: bg) B.pre w (List.mem_cons_of_mem _ h)
  have hown : s.vm.findClass R_M = some m.cls := findClass_of_methodNamed B.named
  have hlocks := B.notSynchronized
  have hl := lv_entry ([.ref (q 0), .int x, .int y, .int n]) (n := 5) (Nat.le_of_ble_eq_true rfl)
  rw [lg_entry_eq]
  generalize (lg_sl ([.ref (q 0), .int x, .int y, .int n]) ++ List.replicate (5 - (lg_sl ([.ref (q 0), .int x, .int y, .int n])).length) Slot.unset).toArray = ls at hl ⊢
  have hl : lv_has ls 5 [(0, .ref (q 0)), (1, .int x), (2, .int y), (3, .int n)] := hl
  have hB := hI.1
  have hg0 : S.2.1 0 ≤ 8 := hI.2.1 0
  have hg1 : S.2.1 1 ≤ 9999 := hI.2.1 1
  have hg2 : S.2.1 2 ≤ 60 := hI.2.1 2
  have hg3 : S.2.1 3 ≤ 60 := hI.2.1 3
  have hg4 : S.2.1 4 ≤ 80 := hI.2.1 4
  have hg5 : S.2.1 5 ≤ 20 := hI.2.1 5
  have hg6 : S.2.1 6 ≤ 80 := hI.2.1 6
  have hg7 : S.2.1 7 ≤ 10 := hI.2.1 7
  have hg8 : t ≤ 512 := hI.2.2
  have J20 : W p l e (headSpec (.code y_M_use b_M_use 5 (some .int) :: bg) { frames := 4, cells := 0, slots := 0, locals := 91 }).room s m (List.toArray [.ref (q 0), .int x, .int y, .int n]) below meth c s.heap [] 0 0 (MQ below (wr_Q (some (.int ((op_use S x y n).2.1))) (dC, dI) classes (wM q cI cZ ((op_use S x y n).2.2) (nI (op_use S x y n).1)) A) (List.toArray [.ref (q 0), .int x, .int y, .int n]) s 0 0 A) (F0 m 20 ls [.int (b2 (ok x (S.2.1 0) && ok y 10))]) := by
    refine lv_istore (lv' := [(4, .int (b2 (ok x (S.2.1 0) && ok y 10))), (0, .ref (q 0)), (1, .int x), (2, .int y), (3, .int n)]) hx hb d_M_use_20 hl (by decide) rfl (fun ls hl => ?_)
    refine lv_aload_n hx hb d_M_use_22 rfl (lv_at hl 1 rfl) ?_
    refine lv_bipush (v := nI 7) hx hb d_M_use_23 (by decide) ?_
    refine lv_iload hx hb d_M_use_25 (lv_at hl 0 rfl) ?_
    refine lv_iload_n hx hb d_M_use_27 rfl (lv_at hl 4 rfl) ?_
    refine pu_go (va_runS (As := [.int n]) (rest := [.int (b2 (ok x (S.2.1 0) && ok y 10)), .int (nI 7), .ref (q 0)]) ⟨hx, hb, hml, hown, hts⟩ (c_M_isMany l dC dI n) (cwS 1 hts (gi_S wd_702 wd_703 wd_5 wd_704) rfl rfl rfl (by decide +kernel) ⟨Nat.le_of_ble_eq_true rfl, Nat.le_of_ble_eq_true rfl⟩) (pu_preS (hK.sub (tys' := []) [] rfl) (fun k q h => by simp at h)) rfl rfl hl.1 rfl (lv_room (Nat.le_of_ble_eq_true rfl)) d_M_use_28 ⟨Nat.le_of_ble_eq_true rfl, Nat.le_of_ble_eq_true rfl⟩) ?_
    have J51 : W p l e (headSpec (.code y_M_use b_M_use 5 (some .int) :: bg) { frames := 4, cells := 0, slots := 0, locals := 91 }).room s m (List.toArray [.ref (q 0), .int x, .int y, .int n]) below meth c s.heap [] 0 0 (MQ below (wr_Q (some (.int ((op_use S x y n).2.1))) (dC, dI) classes (wM q cI cZ ((op_use S x y n).2.2) (nI (op_use S x y n).1)) A) (List.toArray [.ref (q 0), .int x, .int y, .int n]) s 0 0 A) (F0 m 51 ls [.int (b2 ((ok x (S.2.1 0) && ok y 10) && !decide (nI (good S (nn x) (nn y)) < n))), .int (b2 (rg n 1 9999)), .int (b2 (ok x (S.2.1 0) && ok y 10)), .int (nI 7), .ref (q 0)]) := by
      refine lv_iconst (v := b2 true) hx hb d_M_use_51 (by decide) ?_
      refine wr_goA (va_runV (As := [.int (nI 7), .int (b2 (ok x (S.2.1 0) && ok y 10)), .int (b2 (rg n 1 9999)), .int (b2 ((ok x (S.2.1 0) && ok y 10) && !decide (nI (good S (nn x) (nn y)) < n))), .int (b2 true)]) (rest := []) ⟨hx, hb, hml, hown, hts⟩ (c_M_goes l dC dI s.heap.size cI cZ q S th t hI (nI 7) (ok x (S.2.1 0) && ok y 10) (rg n 1 9999) ((ok x (S.2.1 0) && ok y 10) && !decide (nI (good S (nn x) (nn y)) < n)) true) (cwV 5 hts (gi_V wd_676 wd_678 wp_22 wd_5 wd_679) rfl rfl rfl (by decide +kernel) ⟨Nat.le_of_ble_eq_true rfl, Nat.le_of_ble_eq_true rfl⟩) (wr_preV hK hP hD (ci := 3) (q0 := 0) rfl rfl) rfl rfl hl.1 rfl (lv_room (Nat.le_of_ble_eq_true rfl)) d_M_use_52 ⟨Nat.le_of_ble_eq_true rfl, Nat.le_of_ble_eq_true rfl⟩) hD hS hA wM_adr (fun H locs hP hD hS => ?_)
      refine W.eq (g2 := F0 m 55 ls [.int (b2 ((ok x (S.2.1 0) && ok y 10) && ((rg n 1 9999) && (((ok x (S.2.1 0) && ok y 10) && !decide (nI (good S (nn x) (nn y)) < n)) && true))))]) rfl ?_
      refine nv_bn (tgt := 60) hx hb d_M_use_55 (by decide) (fun c55 => ?_) (fun c55 => ?_)
      · obtain ⟨k0, r0, t0, o0⟩ := and4 c55
        have hP : va_P (dC, dI) classes (wM q cI cZ S (nI 0)) H := by rw [gz c55] at hP; exact hP
        have hD : va_D A (wM q cI cZ S (nI 0)) := by rw [gz c55] at hD; exact hD
        obtain ⟨k1, k2⟩ := and2 k0
        have b1 := good_le hI (nn x) (nn y)
        have t9 := (and2 t0).2
        rw [n_lt r0 (by omega) (by decide)] at t9
        have t3 := of_decide_eq_true t9
        obtain ⟨e_x, b_x⟩ := ok_of k1
        obtain ⟨e_y, b_y⟩ := ok_of k2
        obtain ⟨e_n, l_n, b_n⟩ := rg_of r0
        have hl : lv_has ls 5 [(4, .int (b2 (ok x (S.2.1 0) && ok y 10))), (0, .ref (q 0)), (1, .int (nI (nn x))), (2, .int (nI (nn y))), (3, .int (nI (nn n)))] := by rw [← e_x, ← e_y, ← e_n]; exact hl
        refine lv_aload_n hx hb d_M_use_60 rfl (lv_at hl 1 rfl) ?_
        refine lv_iload_n hx hb d_M_use_61 rfl (lv_at hl 2 rfl) ?_
        refine lv_iload_n hx hb d_M_use_62 rfl (lv_at hl 3 rfl) ?_
        refine lv_iload_n hx hb d_M_use_63 rfl (lv_at hl 4 rfl) ?_
        refine wr_goA (va_runV (As := [.int (nI (nn x)), .int (nI (nn y)), .int (nI (nn n))]) (rest := []) ⟨hx, hb, hml, hown, hts⟩ (c_M_takes l dC dI H.size cI cZ q S (nI 0) t hI (nn x) (nn y) (nn n) (by omega) (by omega) (by omega) (fun j => by have := hou j; omega) (by omega)) (cwV 3 hts (gi_V wd_732 wd_734 wp_29 wd_5 wd_735) rfl rfl rfl (by decide +kernel) ⟨Nat.le_of_ble_eq_true rfl, Nat.le_of_ble_eq_true rfl⟩) (wr_preV hK hP hD (ci := 3) (q0 := 0) rfl rfl) rfl rfl hl.1 rfl (lv_room (Nat.le_of_ble_eq_true rfl)) d_M_use_64 ⟨Nat.le_of_ble_eq_true rfl, Nat.le_of_ble_eq_true rfl⟩) hD hS hA wM_adr (fun H locs hP hD hS => ?_)
        refine W.eq (g2 := F0 m 67 ls []) rfl ?_
        have hta := tk_all (s := nn x) (k := nn y) 60 S (nn n) hI (fun j => by have := hou j; omega)
        obtain ⟨S1, hS1⟩ : ∃ z : St, z = tk (nn x) (nn y) 60 S (nn n) := ⟨_, rfl⟩
        rw [← hS1] at hP hD
        have hIS1 : Bd t S1 := by rw [hS1]; exact hta.1
        have hBS1 := hIS1.1
        have hg0 : S1.2.1 0 ≤ 8 := hIS1.2.1 0
        have hg1 : S1.2.1 1 ≤ 9999 := hIS1.2.1 1
        have hg2 : S1.2.1 2 ≤ 60 := hIS1.2.1 2
        have hg3 : S1.2.1 3 ≤ 60 := hIS1.2.1 3
        have hg4 : S1.2.1 4 ≤ 80 := hIS1.2.1 4
        have hg5 : S1.2.1 5 ≤ 20 := hIS1.2.1 5
        have hg6 : S1.2.1 6 ≤ 80 := hIS1.2.1 6
        have hg7 : S1.2.1 7 ≤ 10 := hIS1.2.1 7
        have hg8 : t ≤ 512 := hIS1.2.2
        have q0_S1 : S1.2.1 0 = S.2.1 0 := by rw [hS1, hta.2.2.1]
        refine lv_aload_n hx hb d_M_use_67 rfl (lv_at hl 1 rfl) ?_
        refine lv_iload_n hx hb d_M_use_68 rfl (lv_at hl 2 rfl) ?_
        refine lv_iload_n hx hb d_M_use_69 rfl (lv_at hl 3 rfl) ?_
        refine pu_go (va_runV (As := [.int (nI (nn x)), .int (nI (nn y))]) (rest := []) ⟨hx, hb, hml, hown, hts⟩ (c_M_good l dC dI cI cZ q S1 (nI 0) t hIS1 (nn x) (nn y) (by omega) (by omega)) (cwV 2 hts (gi_V wd_724 wd_726 wp_27 wd_5 wd_727) rfl rfl rfl (by decide +kernel) ⟨Nat.le_of_ble_eq_true rfl, Nat.le_of_ble_eq_true rfl⟩) (pu_preV hK hP (ci := 3) (q0 := 0) rfl rfl) rfl rfl hl.1 rfl (lv_room (Nat.le_of_ble_eq_true rfl)) d_M_use_70 ⟨Nat.le_of_ble_eq_true rfl, Nat.le_of_ble_eq_true rfl⟩) ?_
        have hb1 := good_le hIS1 (nn x) (nn y)
        have ho : op_use S x y n = (0, nI (good S (nn x) (nn y) - nn n), tk (nn x) (nn y) 60 S (nn n)) := by unfold op_use; rw [if_pos k1, if_pos k2, if_pos r0, if_pos t3]
        rw [ho]
        refine nv_as (nI (good S (nn x) (nn y) - nn n)) (by rw [hS1]; exact congrArg nI (by have := tk_good 60 S (nn n) t3 (Or.inr (cntT_le hI _ _)); omega)) ?_
        have hP9 : va_P (dC, dI) classes (wM q cI cZ (tk (nn x) (nn y) 60 S (nn n)) (nI 0)) H := by rw [hS1] at hP; exact hP
        exact W.iret hx hb hr (fun t ht hW => ⟨rfl, by rw [ht]; exact hP9, hS.F ht⟩) hS.2.2 d_M_use_73
      · refine lv_iconst (v := nI 0) hx hb d_M_use_58 (by decide) ?_
        have ho : op_use S x y n = ((gth (nI 7) (gbit (ok x (S.2.1 0) && ok y 10) (rg n 1 9999) ((ok x (S.2.1 0) && ok y 10) && !decide (nI (good S (nn x) (nn y)) < n)) true)), 0, S) := of_use hI c55
        rw [ho]
        refine nv_as (0) (by rfl) ?_
        have hP9 : va_P (dC, dI) classes (wM q cI cZ (S) (nI (gth (nI 7) (gbit (ok x (S.2.1 0) && ok y 10) (rg n 1 9999) ((ok x (S.2.1 0) && ok y 10) && !decide (nI (good S (nn x) (nn y)) < n)) true)))) H := hP
        exact W.iret hx hb hr (fun t ht hW => ⟨rfl, by rw [ht]; exact hP9, hS.F ht⟩) hS.2.2 d_M_use_59
    refine lv_iload hx hb d_M_use_31 (lv_at hl 0 rfl) ?_
    refine nv_bz (tgt := 50) hx hb d_M_use_33 (by decide) (fun c33 => ?_) (fun c33 => ?_)
    · refine lv_iconst (v := nI 0) hx hb d_M_use_50 (by decide) ?_
      refine nv_as (b2 ((ok x (S.2.1 0) && ok y 10) && !decide (nI (good S (nn x) (nn y)) < n))) (b2_of0 (by simp [c33])) ?_
      exact J51
    · obtain ⟨k1, k2⟩ := and2 c33
      obtain ⟨e_x, b_x⟩ := ok_of k1
      obtain ⟨e_y, b_y⟩ := ok_of k2
      have hl : lv_has ls 5 [(4, .int (b2 (ok x (S.2.1 0) && ok y 10))), (0, .ref (q 0)), (1, .int (nI (nn x))), (2, .int (nI (nn y))), (3, .int n)] := by rw [← e_x, ← e_y]; exact hl
      refine lv_aload_n hx hb d_M_use_36 rfl (lv_at hl 1 rfl) ?_
      refine lv_iload_n hx hb d_M_use_37 rfl (lv_at hl 2 rfl) ?_
      refine lv_iload_n hx hb d_M_use_38 rfl (lv_at hl 3 rfl) ?_
      refine pu_go (va_runV (As := [.int (nI (nn x)), .int (nI (nn y))]) (rest := [.int (b2 (rg n 1 9999)), .int (b2 (ok x (S.2.1 0) && ok y 10)), .int (nI 7), .ref (q 0)]) ⟨hx, hb, hml, hown, hts⟩ (c_M_good l dC dI cI cZ q S th t hI (nn x) (nn y) (by omega) (by omega)) (cwV 2 hts (gi_V wd_724 wd_726 wp_27 wd_5 wd_727) rfl rfl rfl (by decide +kernel) ⟨Nat.le_of_ble_eq_true rfl, Nat.le_of_ble_eq_true rfl⟩) (pu_preV hK hP (ci := 3) (q0 := 0) rfl rfl) rfl rfl hl.1 rfl (lv_room (Nat.le_of_ble_eq_true rfl)) d_M_use_39 ⟨Nat.le_of_ble_eq_true rfl, Nat.le_of_ble_eq_true rfl⟩) ?_
      have hb2 := good_le hI (nn x) (nn y)
      refine lv_iload_n hx hb d_M_use_42 rfl (lv_at hl 4 rfl) ?_
      refine lv_icmp_lt (tgt := 50) hx hb d_M_use_43 (by decide) (fun c43 => ?_) (fun c43 => ?_)
      · refine lv_iconst (v := nI 0) hx hb d_M_use_50 (by decide) ?_
        refine nv_as (b2 ((ok x (S.2.1 0) && ok y 10) && !decide (nI (good S (nn x) (nn y)) < n))) (b2_of0 (by simp [c33, c43])) ?_
        exact J51
      · refine lv_iconst (v := nI 1) hx hb d_M_use_46 (by decide) ?_
        refine lv_goto (tgt := 51) hx hb d_M_use_47 (by decide) ?_
        refine nv_as (b2 ((ok x (S.2.1 0) && ok y 10) && !decide (nI (good S (nn x) (nn y)) < n))) (b2_of1 (by simp [c33, c43])) ?_
        exact J51
  refine lv_aload_n hx hb d_M_use_0 rfl (lv_at hl 0 rfl) ?_
  refine lv_iload_n hx hb d_M_use_1 rfl (lv_at hl 1 rfl) ?_
  refine pu_go (va_runV (As := [.int x]) (rest := []) ⟨hx, hb, hml, hown, hts⟩ (c_M_isStore l dC dI cI cZ q S th t hI x) (cwV 1 hts (gi_V wd_694 wd_696 wp_23 wd_5 wd_697) rfl rfl rfl (by decide +kernel) ⟨Nat.le_of_ble_eq_true rfl, Nat.le_of_ble_eq_true rfl⟩) (pu_preV hK hP (ci := 3) (q0 := 0) rfl rfl) rfl rfl hl.1 rfl (lv_room (Nat.le_of_ble_eq_true rfl)) d_M_use_2 ⟨Nat.le_of_ble_eq_true rfl, Nat.le_of_ble_eq_true rfl⟩) ?_
  refine nv_bz (tgt := 19) hx hb d_M_use_5 (by decide) (fun c5 => ?_) (fun c5 => ?_)
  · refine lv_iconst (v := nI 0) hx hb d_M_use_19 (by decide) ?_
    refine nv_as (b2 (ok x (S.2.1 0) && ok y 10)) (b2_of0 (by simp [c5])) ?_
    exact J20
  · refine lv_iload_n hx hb d_M_use_8 rfl (lv_at hl 2 rfl) ?_
    refine pu_go (va_runS (As := [.int y]) (rest := []) ⟨hx, hb, hml, hown, hts⟩ (c_M_isKind l dC dI y) (cwS 1 hts (gi_S wd_684 wd_685 wd_5 wd_686) rfl rfl rfl (by decide +kernel) ⟨Nat.le_of_ble_eq_true rfl, Nat.le_of_ble_eq_true rfl⟩) (pu_preS (hK.sub (tys' := []) [] rfl) (fun k q h => by simp at h)) rfl rfl hl.1 rfl (lv_room (Nat.le_of_ble_eq_true rfl)) d_M_use_9 ⟨Nat.le_of_ble_eq_true rfl, Nat.le_of_ble_eq_true rfl⟩) ?_
    refine nv_bz (tgt := 19) hx hb d_M_use_12 (by decide) (fun c12 => ?_) (fun c12 => ?_)
    · refine lv_iconst (v := nI 0) hx hb d_M_use_19 (by decide) ?_
      refine nv_as (b2 (ok x (S.2.1 0) && ok y 10)) (b2_of0 (by simp [c5, c12])) ?_
      exact J20
    · refine lv_iconst (v := nI 1) hx hb d_M_use_15 (by decide) ?_
      refine lv_goto (tgt := 20) hx hb d_M_use_16 (by decide) ?_
      refine nv_as (b2 (ok x (S.2.1 0) && ok y 10)) (b2_of1 (by simp [c5, c12])) ?_
      exact J20
set_option maxHeartbeats 4000000 in
set_option maxRecDepth 100000 in
theorem c_M_move (l : Launch) (dC : Nat → ClassId) (dI : Nat → Nat → Nat) (sz : Nat) (cI cZ : ClassId) (q : Nat → Nat) (S : St) (th : Int32) (t : Nat) (hI : Bd t S) (x y w n d : Int32) (hV : Inv t S)  : Met l y_M_move (.code y_M_move b_M_move 7 (some .int) :: bg) { frames := 3, cells := 0, slots := 0, locals := 65 } (wr_P (dC, dI) classes (wM q cI cZ S th) [(cI, .int), (cZ, .boolean)] sz [.ref (q 0), .int x, .int y, .int w, .int n, .int d]) (wr_Q (some (.int ((op_move S x y w n d).2.1))) (dC, dI) classes (wM q cI cZ ((op_move S x y w n d).2.2) (nI (op_move S x y w n d).1)) (va_A (wM q cI cZ S th) sz)) 0 0 (va_A (wM q cI cZ S th) sz) := by
  refine Met.ofW (cc := b_M_move) (maxL := 7) (ret := (some .int)) (by decide) rfl ?_
  intro p e s m args below meth c s₁ B hml hv
  obtain ⟨rfl, hsz, hP, hK, hD0⟩ := hv
  subst hsz
  have hD := hD0.self (sz := s.heap.size)
  generalize hAe : va_A (wM q cI cZ S th) s.heap.size = A at hD ⊢
  have hA : ∀ q : Nat, s.heap.size ≤ q → A q := fun q h => by rw [← hAe]; exact Or.inr h
  have hS : va_S A s.heap s.heap [] := va_S.rf
  have hx := B.exec
  have hb := B.bytes
  have hr := B.returns
  have hts := fun w (h : w ∈ bg) => atoms_spec (ws := .code y_M_move b_M_move 7 (some .int) :: bg) B.pre w (List.mem_cons_of_mem _ h)
  have hown : s.vm.findClass R_M = some m.cls := findClass_of_methodNamed B.named
  have hlocks := B.notSynchronized
  have hl := lv_entry ([.ref (q 0), .int x, .int y, .int w, .int n, .int d]) (n := 7) (Nat.le_of_ble_eq_true rfl)
  rw [lg_entry_eq]
  generalize (lg_sl ([.ref (q 0), .int x, .int y, .int w, .int n, .int d]) ++ List.replicate (7 - (lg_sl ([.ref (q 0), .int x, .int y, .int w, .int n, .int d])).length) Slot.unset).toArray = ls at hl ⊢
  have hl : lv_has ls 7 [(0, .ref (q 0)), (1, .int x), (2, .int y), (3, .int w), (4, .int n), (5, .int d)] := hl
  have hB := hI.1
  have hg0 : S.2.1 0 ≤ 8 := hI.2.1 0
  have hg1 : S.2.1 1 ≤ 9999 := hI.2.1 1
  have hg2 : S.2.1 2 ≤ 60 := hI.2.1 2
  have hg3 : S.2.1 3 ≤ 60 := hI.2.1 3
  have hg4 : S.2.1 4 ≤ 80 := hI.2.1 4
  have hg5 : S.2.1 5 ≤ 20 := hI.2.1 5
  have hg6 : S.2.1 6 ≤ 80 := hI.2.1 6
  have hg7 : S.2.1 7 ≤ 10 := hI.2.1 7
  have hg8 : t ≤ 512 := hI.2.2
  have J34 : W p l e (headSpec (.code y_M_move b_M_move 7 (some .int) :: bg) { frames := 3, cells := 0, slots := 0, locals := 65 }).room s m (List.toArray [.ref (q 0), .int x, .int y, .int w, .int n, .int d]) below meth c s.heap [] 0 0 (MQ below (wr_Q (some (.int ((op_move S x y w n d).2.1))) (dC, dI) classes (wM q cI cZ ((op_move S x y w n d).2.2) (nI (op_move S x y w n d).1)) A) (List.toArray [.ref (q 0), .int x, .int y, .int w, .int n, .int d]) s 0 0 A) (F0 m 34 ls [.int (b2 (ok x (S.2.1 0) && (ok y (S.2.1 0) && (!decide (x = y) && ok w (S.2.1 2)))))]) := by
    refine lv_istore (lv' := [(6, .int (b2 (ok x (S.2.1 0) && (ok y (S.2.1 0) && (!decide (x = y) && ok w (S.2.1 2)))))), (0, .ref (q 0)), (1, .int x), (2, .int y), (3, .int w), (4, .int n), (5, .int d)]) hx hb d_M_move_34 hl (by decide) rfl (fun ls hl => ?_)
    refine lv_aload_n hx hb d_M_move_36 rfl (lv_at hl 1 rfl) ?_
    refine lv_bipush (v := nI 15) hx hb d_M_move_37 (by decide) ?_
    refine lv_iload hx hb d_M_move_39 (lv_at hl 0 rfl) ?_
    have J65 : W p l e (headSpec (.code y_M_move b_M_move 7 (some .int) :: bg) { frames := 3, cells := 0, slots := 0, locals := 65 }).room s m (List.toArray [.ref (q 0), .int x, .int y, .int w, .int n, .int d]) below meth c s.heap [] 0 0 (MQ below (wr_Q (some (.int ((op_move S x y w n d).2.1))) (dC, dI) classes (wM q cI cZ ((op_move S x y w n d).2.2) (nI (op_move S x y w n d).1)) A) (List.toArray [.ref (q 0), .int x, .int y, .int w, .int n, .int d]) s 0 0 A) (F0 m 65 ls [.int (b2 (rg n 1 9999 && rg d 0 30)), .int (b2 (ok x (S.2.1 0) && (ok y (S.2.1 0) && (!decide (x = y) && ok w (S.2.1 2))))), .int (nI 15), .ref (q 0)]) := by
      have J86 : W p l e (headSpec (.code y_M_move b_M_move 7 (some .int) :: bg) { frames := 3, cells := 0, slots := 0, locals := 65 }).room s m (List.toArray [.ref (q 0), .int x, .int y, .int w, .int n, .int d]) below meth c s.heap [] 0 0 (MQ below (wr_Q (some (.int ((op_move S x y w n d).2.1))) (dC, dI) classes (wM q cI cZ ((op_move S x y w n d).2.2) (nI (op_move S x y w n d).1)) A) (List.toArray [.ref (q 0), .int x, .int y, .int w, .int n, .int d]) s 0 0 A) (F0 m 86 ls [.int (b2 ((ok x (S.2.1 0) && (ok y (S.2.1 0) && (!decide (x = y) && ok w (S.2.1 2)))) && !decide (atv S x w < n))), .int (b2 (rg n 1 9999 && rg d 0 30)), .int (b2 (ok x (S.2.1 0) && (ok y (S.2.1 0) && (!decide (x = y) && ok w (S.2.1 2))))), .int (nI 15), .ref (q 0)]) := by
        have J100 : W p l e (headSpec (.code y_M_move b_M_move 7 (some .int) :: bg) { frames := 3, cells := 0, slots := 0, locals := 65 }).room s m (List.toArray [.ref (q 0), .int x, .int y, .int w, .int n, .int d]) below meth c s.heap [] 0 0 (MQ below (wr_Q (some (.int ((op_move S x y w n d).2.1))) (dC, dI) classes (wM q cI cZ ((op_move S x y w n d).2.2) (nI (op_move S x y w n d).1)) A) (List.toArray [.ref (q 0), .int x, .int y, .int w, .int n, .int d]) s 0 0 A) (F0 m 100 ls [.int (b2 (decide (S.2.1 3 < 60))), .int (b2 ((ok x (S.2.1 0) && (ok y (S.2.1 0) && (!decide (x = y) && ok w (S.2.1 2)))) && !decide (atv S x w < n))), .int (b2 (rg n 1 9999 && rg d 0 30)), .int (b2 (ok x (S.2.1 0) && (ok y (S.2.1 0) && (!decide (x = y) && ok w (S.2.1 2))))), .int (nI 15), .ref (q 0)]) := by
          refine wr_goA (va_runV (As := [.int (nI 15), .int (b2 (ok x (S.2.1 0) && (ok y (S.2.1 0) && (!decide (x = y) && ok w (S.2.1 2))))), .int (b2 (rg n 1 9999 && rg d 0 30)), .int (b2 ((ok x (S.2.1 0) && (ok y (S.2.1 0) && (!decide (x = y) && ok w (S.2.1 2)))) && !decide (atv S x w < n))), .int (b2 (decide (S.2.1 3 < 60)))]) (rest := []) ⟨hx, hb, hml, hown, hts⟩ (c_M_goes l dC dI s.heap.size cI cZ q S th t hI (nI 15) (ok x (S.2.1 0) && (ok y (S.2.1 0) && (!decide (x = y) && ok w (S.2.1 2)))) (rg n 1 9999 && rg d 0 30) ((ok x (S.2.1 0) && (ok y (S.2.1 0) && (!decide (x = y) && ok w (S.2.1 2)))) && !decide (atv S x w < n)) (decide (S.2.1 3 < 60))) (cwV 5 hts (gi_V wd_676 wd_678 wp_22 wd_5 wd_679) rfl rfl rfl (by decide +kernel) ⟨Nat.le_of_ble_eq_true rfl, Nat.le_of_ble_eq_true rfl⟩) (wr_preV hK hP hD (ci := 3) (q0 := 0) rfl rfl) rfl rfl hl.1 rfl (lv_room (Nat.le_of_ble_eq_true rfl)) d_M_move_100 ⟨Nat.le_of_ble_eq_true rfl, Nat.le_of_ble_eq_true rfl⟩) hD hS hA wM_adr (fun H locs hP hD hS => ?_)
          refine W.eq (g2 := F0 m 103 ls [.int (b2 ((ok x (S.2.1 0) && (ok y (S.2.1 0) && (!decide (x = y) && ok w (S.2.1 2)))) && ((rg n 1 9999 && rg d 0 30) && (((ok x (S.2.1 0) && (ok y (S.2.1 0) && (!decide (x = y) && ok w (S.2.1 2)))) && !decide (atv S x w < n)) && (decide (S.2.1 3 < 60))))))]) rfl ?_
          refine nv_bn (tgt := 108) hx hb d_M_move_103 (by decide) (fun c103 => ?_) (fun c103 => ?_)
          · obtain ⟨k0, r0, t0, o0⟩ := and4 c103
            have hP : va_P (dC, dI) classes (wM q cI cZ S (nI 0)) H := by rw [gz c103] at hP; exact hP
            have hD : va_D A (wM q cI cZ S (nI 0)) := by rw [gz c103] at hD; exact hD
            obtain ⟨k1, k9⟩ := and2 k0
            obtain ⟨k2, k8⟩ := and2 k9
            obtain ⟨k7, k3⟩ := and2 k8
            have k4 : x ≠ y := by simpa using k7
            obtain ⟨r1, r2⟩ := and2 r0
            have t9 := (and2 t0).2
            rw [at_o (hi := 0) hI k1 k3 r1] at t9
            have o2_ := of_decide_eq_true t9
            have o1 := of_decide_eq_true o0
            obtain ⟨e_x, b_x⟩ := ok_of k1
            obtain ⟨e_y, b_y⟩ := ok_of k2
            obtain ⟨e_w, b_w⟩ := ok_of k3
            obtain ⟨e_n, l_n, b_n⟩ := rg_of r1
            obtain ⟨e_d, l_d, b_d⟩ := rg_of r2
            have hl : lv_has ls 7 [(6, .int (b2 (ok x (S.2.1 0) && (ok y (S.2.1 0) && (!decide (x = y) && ok w (S.2.1 2)))))), (0, .ref (q 0)), (1, .int (nI (nn x))), (2, .int (nI (nn y))), (3, .int (nI (nn w))), (4, .int (nI (nn n))), (5, .int (nI (nn d)))] := by rw [← e_x, ← e_y, ← e_w, ← e_n, ← e_d]; exact hl
            refine lv_aload_n hx hb d_M_move_108 rfl (lv_at hl 1 rfl) ?_
            refine va_get (D := (dC, dI)) (ci := 3) (v := .ref (q 6)) (C := R_M) (T := F_M) (N := 37) hx hb hts i_M hown hK hP 0 rfl rfl 9 (by decide) (hts _ wd_564) (fun _ h9 => h9) rfl d_M_move_109 ?_
            refine lv_iload_n hx hb d_M_move_112 rfl (lv_at hl 2 rfl) ?_
            refine lv_bipush (v := nI 60) hx hb d_M_move_113 (by decide) ?_
            refine nv_mul hx hb d_M_move_115 ?_
            refine lv_iload_n hx hb d_M_move_116 rfl (lv_at hl 4 rfl) ?_
            refine nv_add hx hb d_M_move_117 ?_
            refine lv_aload_n hx hb d_M_move_118 rfl (lv_at hl 1 rfl) ?_
            refine lv_iload_n hx hb d_M_move_119 rfl (lv_at hl 2 rfl) ?_
            refine lv_iload_n hx hb d_M_move_120 rfl (lv_at hl 4 rfl) ?_
            refine pu_go (va_runV (As := [.int (nI (nn x)), .int (nI (nn w))]) (rest := [.int (nI (((nn x) * 60) + (nn w))), .ref (q 6)]) ⟨hx, hb, hml, hown, hts⟩ (c_M_at l dC dI cI cZ q S (nI 0) t hI (nI (nn x)) (nI (nn w))) (cwV 2 hts (gi_V wd_705 wd_707 wp_25 wd_5 wd_708) rfl rfl rfl (by decide +kernel) ⟨Nat.le_of_ble_eq_true rfl, Nat.le_of_ble_eq_true rfl⟩) (pu_preV hK hP (ci := 3) (q0 := 0) rfl rfl) rfl rfl hl.1 rfl (lv_room (Nat.le_of_ble_eq_true rfl)) d_M_move_121 ⟨Nat.le_of_ble_eq_true rfl, Nat.le_of_ble_eq_true rfl⟩) ?_
            refine nv_as (nI (S.1 25 ((nn x) * 60 + (nn w)))) (atv_n (by omega) (by omega) (by omega) (by omega)) ?_
            have hb1 : S.1 25 ((nn x) * 60 + (nn w)) ≤ 9999 := hB 25 _
            refine lv_iload hx hb d_M_move_124 (lv_at hl 5 rfl) ?_
            refine nv_sub hx hb (by omega) d_M_move_126 ?_
            refine nv_iast (f' := upd (colf S.1 25) (((nn x) * 60) + (nn w)) (nI ((S.1 25 ((nn x) * 60 + (nn w))) - (nn n)))) hx hb hK hP hD hS 6 0 rfl rfl (by omega) (by decide) rfl (wM q cI cZ (S_a S 25 (((nn x) * 60) + (nn w)) ((S.1 25 ((nn x) * 60 + (nn w))) - (nn n))) (nI 0)) wM_c25 d_M_move_127 (fun H locs hP hD hS => ?_)
            refine lv_aload_n hx hb d_M_move_128 rfl (lv_at hl 1 rfl) ?_
            refine va_get (D := (dC, dI)) (ci := 3) (v := .ref (q 7)) (C := R_M) (T := F_M) (N := 37) hx hb hts i_M hown hK hP 0 rfl rfl 11 (by decide) (hts _ wd_566) (fun _ h9 => h9) rfl d_M_move_129 ?_
            refine lv_aload_n hx hb d_M_move_132 rfl (lv_at hl 1 rfl) ?_
            refine va_get (D := (dC, dI)) (ci := 3) (v := .int (nI (S.2.1 3))) (C := R_M) (T := F_M) (N := 37) hx hb hts i_M hown hK hP 0 rfl rfl 10 (by decide) (hts _ wd_565) (fun _ h9 => h9) rfl d_M_move_133 ?_
            refine lv_iload_n hx hb d_M_move_136 rfl (lv_at hl 3 rfl) ?_
            refine nv_iast (f' := upd (colf (S_a S 25 (((nn x) * 60) + (nn w)) ((S.1 25 ((nn x) * 60 + (nn w))) - (nn n))).1 5) (S.2.1 3) (nI (nn y))) hx hb hK hP hD hS 7 0 rfl rfl (by omega) (by decide) rfl (wM q cI cZ (S_a (S_a S 25 (((nn x) * 60) + (nn w)) ((S.1 25 ((nn x) * 60 + (nn w))) - (nn n))) 5 (S.2.1 3) (nn y)) (nI 0)) wM_c5 d_M_move_137 (fun H locs hP hD hS => ?_)
            refine lv_aload_n hx hb d_M_move_138 rfl (lv_at hl 1 rfl) ?_
            refine va_get (D := (dC, dI)) (ci := 3) (v := .ref (q 8)) (C := R_M) (T := F_M) (N := 37) hx hb hts i_M hown hK hP 0 rfl rfl 12 (by decide) (hts _ wd_567) (fun _ h9 => h9) rfl d_M_move_139 ?_
            refine lv_aload_n hx hb d_M_move_142 rfl (lv_at hl 1 rfl) ?_
            refine va_get (D := (dC, dI)) (ci := 3) (v := .int (nI (S.2.1 3))) (C := R_M) (T := F_M) (N := 37) hx hb hts i_M hown hK hP 0 rfl rfl 10 (by decide) (hts _ wd_565) (fun _ h9 => h9) rfl d_M_move_143 ?_
            refine lv_iload_n hx hb d_M_move_146 rfl (lv_at hl 4 rfl) ?_
            refine nv_iast (f' := upd (colf (S_a (S_a S 25 (((nn x) * 60) + (nn w)) ((S.1 25 ((nn x) * 60 + (nn w))) - (nn n))) 5 (S.2.1 3) (nn y)).1 6) (S.2.1 3) (nI (nn w))) hx hb hK hP hD hS 8 0 rfl rfl (by omega) (by decide) rfl (wM q cI cZ (S_a (S_a (S_a S 25 (((nn x) * 60) + (nn w)) ((S.1 25 ((nn x) * 60 + (nn w))) - (nn n))) 5 (S.2.1 3) (nn y)) 6 (S.2.1 3) (nn w)) (nI 0)) wM_c6 d_M_move_147 (fun H locs hP hD hS => ?_)
            refine lv_aload_n hx hb d_M_move_148 rfl (lv_at hl 1 rfl) ?_
            refine va_get (D := (dC, dI)) (ci := 3) (v := .ref (q 9)) (C := R_M) (T := F_M) (N := 37) hx hb hts i_M hown hK hP 0 rfl rfl 13 (by decide) (hts _ wd_568) (fun _ h9 => h9) rfl d_M_move_149 ?_
            refine lv_aload_n hx hb d_M_move_152 rfl (lv_at hl 1 rfl) ?_
            refine va_get (D := (dC, dI)) (ci := 3) (v := .int (nI (S.2.1 3))) (C := R_M) (T := F_M) (N := 37) hx hb hts i_M hown hK hP 0 rfl rfl 10 (by decide) (hts _ wd_565) (fun _ h9 => h9) rfl d_M_move_153 ?_
            refine lv_iload hx hb d_M_move_156 (lv_at hl 5 rfl) ?_
            refine nv_iast (f' := upd (colf (S_a (S_a (S_a S 25 (((nn x) * 60) + (nn w)) ((S.1 25 ((nn x) * 60 + (nn w))) - (nn n))) 5 (S.2.1 3) (nn y)) 6 (S.2.1 3) (nn w)).1 7) (S.2.1 3) (nI (nn n))) hx hb hK hP hD hS 9 0 rfl rfl (by omega) (by decide) rfl (wM q cI cZ (S_a (S_a (S_a (S_a S 25 (((nn x) * 60) + (nn w)) ((S.1 25 ((nn x) * 60 + (nn w))) - (nn n))) 5 (S.2.1 3) (nn y)) 6 (S.2.1 3) (nn w)) 7 (S.2.1 3) (nn n)) (nI 0)) wM_c7 d_M_move_158 (fun H locs hP hD hS => ?_)
            refine lv_aload_n hx hb d_M_move_159 rfl (lv_at hl 1 rfl) ?_
            refine va_get (D := (dC, dI)) (ci := 3) (v := .ref (q 10)) (C := R_M) (T := F_M) (N := 37) hx hb hts i_M hown hK hP 0 rfl rfl 14 (by decide) (hts _ wd_569) (fun _ h9 => h9) rfl d_M_move_160 ?_
            refine lv_aload_n hx hb d_M_move_163 rfl (lv_at hl 1 rfl) ?_
            refine va_get (D := (dC, dI)) (ci := 3) (v := .int (nI (S.2.1 3))) (C := R_M) (T := F_M) (N := 37) hx hb hts i_M hown hK hP 0 rfl rfl 10 (by decide) (hts _ wd_565) (fun _ h9 => h9) rfl d_M_move_164 ?_
            refine lv_aload_n hx hb d_M_move_167 rfl (lv_at hl 1 rfl) ?_
            refine va_get (D := (dC, dI)) (ci := 3) (v := .int (nI (S.2.1 1))) (C := R_M) (T := F_M) (N := 37) hx hb hts i_M hown hK hP 0 rfl rfl 1 (by decide) (hts _ wd_556) (fun _ h9 => h9) rfl d_M_move_168 ?_
            refine lv_iload hx hb d_M_move_171 (lv_at hl 6 rfl) ?_
            refine nv_add hx hb d_M_move_173 ?_
            refine nv_iast (f' := upd (colf (S_a (S_a (S_a (S_a S 25 (((nn x) * 60) + (nn w)) ((S.1 25 ((nn x) * 60 + (nn w))) - (nn n))) 5 (S.2.1 3) (nn y)) 6 (S.2.1 3) (nn w)) 7 (S.2.1 3) (nn n)).1 8) (S.2.1 3) (nI ((S.2.1 1) + (nn d)))) hx hb hK hP hD hS 10 0 rfl rfl (by omega) (by decide) rfl (wM q cI cZ (S_a (S_a (S_a (S_a (S_a S 25 (((nn x) * 60) + (nn w)) ((S.1 25 ((nn x) * 60 + (nn w))) - (nn n))) 5 (S.2.1 3) (nn y)) 6 (S.2.1 3) (nn w)) 7 (S.2.1 3) (nn n)) 8 (S.2.1 3) ((S.2.1 1) + (nn d))) (nI 0)) wM_c8 d_M_move_174 (fun H locs hP hD hS => ?_)
            refine lv_aload_n hx hb d_M_move_175 rfl (lv_at hl 1 rfl) ?_
            refine va_get (D := (dC, dI)) (ci := 3) (v := .ref (q 11)) (C := R_M) (T := F_M) (N := 37) hx hb hts i_M hown hK hP 0 rfl rfl 15 (by decide) (hts _ wd_570) (fun _ h9 => h9) rfl d_M_move_176 ?_
            refine lv_aload_n hx hb d_M_move_179 rfl (lv_at hl 1 rfl) ?_
            refine va_get (D := (dC, dI)) (ci := 3) (v := .int (nI (S.2.1 3))) (C := R_M) (T := F_M) (N := 37) hx hb hts i_M hown hK hP 0 rfl rfl 10 (by decide) (hts _ wd_565) (fun _ h9 => h9) rfl d_M_move_180 ?_
            refine lv_iload hx hb d_M_move_183 (lv_at hl 6 rfl) ?_
            refine nv_zle (tgt := 192) hx hb (by omega) d_M_move_185 (by decide) (fun c185 => ?_) (fun c185 => ?_)
            · refine lv_iconst (v := nI 0) hx hb d_M_move_192 (by decide) ?_
              refine nv_zast (f' := upd (colf (S_a (S_a (S_a (S_a (S_a S 25 (((nn x) * 60) + (nn w)) ((S.1 25 ((nn x) * 60 + (nn w))) - (nn n))) 5 (S.2.1 3) (nn y)) 6 (S.2.1 3) (nn w)) 7 (S.2.1 3) (nn n)) 8 (S.2.1 3) ((S.2.1 1) + (nn d))).1 9) (S.2.1 3) (nI 0)) hx hb hK hP hD hS 11 1 rfl rfl (by omega) (by decide) (by decide) rfl (wM q cI cZ (S_a (S_a (S_a (S_a (S_a (S_a S 25 (((nn x) * 60) + (nn w)) ((S.1 25 ((nn x) * 60 + (nn w))) - (nn n))) 5 (S.2.1 3) (nn y)) 6 (S.2.1 3) (nn w)) 7 (S.2.1 3) (nn n)) 8 (S.2.1 3) ((S.2.1 1) + (nn d))) 9 (S.2.1 3) 0) (nI 0)) wM_c9 d_M_move_193 (fun H locs hP hD hS => ?_)
              refine lv_iload hx hb d_M_move_194 (lv_at hl 6 rfl) ?_
              refine nv_zne (tgt := 207) hx hb (by omega) d_M_move_196 (by decide) (fun c196 => ?_) (fun c196 => ?_)
              · exact absurd c185 c196
              · obtain ⟨S9, hS9⟩ : ∃ z : St, z = S_a (S_a (S_a (S_a (S_a (S_a S 25 (((nn x) * 60) + (nn w)) ((S.1 25 ((nn x) * 60 + (nn w))) - (nn n))) 5 (S.2.1 3) (nn y)) 6 (S.2.1 3) (nn w)) 7 (S.2.1 3) (nn n)) 8 (S.2.1 3) ((S.2.1 1) + (nn d))) 9 (S.2.1 3) 0 := ⟨_, rfl⟩
                rw [← hS9] at hP hD
                have b25_ : S.1 25 (nn x * 60 + nn w) ≤ 9999 := hB 25 _
                have hIS9 : Bd t S9 := by rw [hS9]; exact Bd_a (Bd_a (Bd_a (Bd_a (Bd_a (Bd_a hI (show _ ≤ 9999 by omega)) (show _ ≤ 7 by omega)) (show _ ≤ 59 by omega)) (show _ ≤ 9999 by omega)) (show _ ≤ 10029 by omega)) (show _ ≤ 1 by omega)
                refine lv_aload_n hx hb d_M_move_199 rfl (lv_at hl 1 rfl) ?_
                refine lv_iload_n hx hb d_M_move_200 rfl (lv_at hl 3 rfl) ?_
                refine lv_iload_n hx hb d_M_move_201 rfl (lv_at hl 4 rfl) ?_
                refine lv_iload hx hb d_M_move_202 (lv_at hl 5 rfl) ?_
                refine wr_goA (va_runV (As := [.int (nI (nn y)), .int (nI (nn w)), .int (nI (nn n))]) (rest := []) ⟨hx, hb, hml, hown, hts⟩ (c_M_comes l dC dI H.size cI cZ q S9 (nI 0) t hIS9 (nn y) (nn w) (nn n) (by omega) (by omega) (by omega)) (cwV 3 hts (gi_V wd_713 wd_715 wp_26 wd_5 wd_716) rfl rfl rfl (by decide +kernel) ⟨Nat.le_of_ble_eq_true rfl, Nat.le_of_ble_eq_true rfl⟩) (wr_preV hK hP hD (ci := 3) (q0 := 0) rfl rfl) rfl rfl hl.1 rfl (lv_room (Nat.le_of_ble_eq_true rfl)) d_M_move_204 ⟨Nat.le_of_ble_eq_true rfl, Nat.le_of_ble_eq_true rfl⟩) hD hS hA wM_adr (fun H locs hP hD hS => ?_)
                refine W.eq (g2 := F0 m 207 ls []) rfl ?_
                rw [hS9] at hP hD
                refine lv_aload_n hx hb d_M_move_207 rfl (lv_at hl 1 rfl) ?_
                refine lv_dup hx hb d_M_move_208 rfl ?_
                refine va_get (D := (dC, dI)) (ci := 3) (v := .int (nI (S.2.1 3))) (C := R_M) (T := F_M) (N := 37) hx hb hts i_M hown hK hP 0 rfl rfl 10 (by decide) (hts _ wd_565) (fun _ h9 => h9) rfl d_M_move_209 ?_
                refine lv_iconst (v := nI 1) hx hb d_M_move_212 (by decide) ?_
                refine nv_add hx hb d_M_move_213 ?_
                refine va_put (D := (dC, dI)) (ci := 3) (v := .int (nI ((S.2.1 3) + 1))) (ty := .int) (C := R_M) (T := F_M) (N := 37) hx hb hts i_M ty_M ty_M_ok n_M hown hK hP hD hS 0 rfl rfl 10 (by decide) (hts _ wd_565) (fun _ h9 => h9) rfl (by decide +kernel) rfl rfl (Nat.le_of_ble_eq_true rfl) d_M_move_214 (fun H locs hP hD hS => ?_)
                have hP : va_P (dC, dI) classes (wM q cI cZ (S_g (addUp (S_a (S_a (S_a (S_a (S_a (S_a S 25 (((nn x) * 60) + (nn w)) ((S.1 25 ((nn x) * 60 + (nn w))) - (nn n))) 5 (S.2.1 3) (nn y)) 6 (S.2.1 3) (nn w)) 7 (S.2.1 3) (nn n)) 8 (S.2.1 3) ((S.2.1 1) + (nn d))) 9 (S.2.1 3) 0) (nn y) (nn w) (nn n)) 3 ((S.2.1 3) + 1)) (nI 0)) H := by rw [← wM_g3]; exact hP
                have hD : va_D A (wM q cI cZ (S_g (addUp (S_a (S_a (S_a (S_a (S_a (S_a S 25 (((nn x) * 60) + (nn w)) ((S.1 25 ((nn x) * 60 + (nn w))) - (nn n))) 5 (S.2.1 3) (nn y)) 6 (S.2.1 3) (nn w)) 7 (S.2.1 3) (nn n)) 8 (S.2.1 3) ((S.2.1 1) + (nn d))) 9 (S.2.1 3) 0) (nn y) (nn w) (nn n)) 3 ((S.2.1 3) + 1)) (nI 0)) := by rw [← wM_g3]; exact hD
                refine lv_aload_n hx hb d_M_move_217 rfl (lv_at hl 1 rfl) ?_
                refine va_get (D := (dC, dI)) (ci := 3) (v := .int (nI ((S.2.1 3) + 1))) (C := R_M) (T := F_M) (N := 37) hx hb hts i_M hown hK hP 0 rfl rfl 10 (by decide) (hts _ wd_565) (fun _ h9 => h9) rfl d_M_move_218 ?_
                refine lv_iconst (v := nI 1) hx hb d_M_move_221 (by decide) ?_
                refine nv_sub hx hb (by omega) d_M_move_222 ?_
                have ho : op_move S x y w n d = (0, nI (S.2.1 3), come (S_g (S_row (S_a S 25 (nn x * 60 + nn w) (S.1 25 (nn x * 60 + nn w) - nn n)) 5 (S.2.1 3) (nn y) (nn w) (nn n) (S.2.1 1 + nn d) 1) 3 (S.2.1 3 + 1)) (S.2.1 3)) := by unfold op_move; rw [if_pos k1, if_pos k2, if_pos k4, if_pos k3, if_pos r1, if_pos r2, if_pos o2_, if_pos o1, if_pos c196]
                rw [ho]
                refine nv_as (nI (S.2.1 3)) (by rw [Nat.add_sub_cancel]) ?_
                have hP9 : va_P (dC, dI) classes (wM q cI cZ (come (S_g (S_row (S_a S 25 (nn x * 60 + nn w) (S.1 25 (nn x * 60 + nn w) - nn n)) 5 (S.2.1 3) (nn y) (nn w) (nn n) (S.2.1 1 + nn d) 1) 3 (S.2.1 3 + 1)) (S.2.1 3)) (nI 0)) H := by rw [mv_eq]; exact hP
                exact W.iret hx hb hr (fun t ht hW => ⟨rfl, by rw [ht]; exact hP9, hS.F ht⟩) hS.2.2 d_M_move_223
            · refine lv_iconst (v := nI 1) hx hb d_M_move_188 (by decide) ?_
              refine lv_goto (tgt := 193) hx hb d_M_move_189 (by decide) ?_
              refine nv_zast (f' := upd (colf (S_a (S_a (S_a (S_a (S_a S 25 (((nn x) * 60) + (nn w)) ((S.1 25 ((nn x) * 60 + (nn w))) - (nn n))) 5 (S.2.1 3) (nn y)) 6 (S.2.1 3) (nn w)) 7 (S.2.1 3) (nn n)) 8 (S.2.1 3) ((S.2.1 1) + (nn d))).1 9) (S.2.1 3) (nI 1)) hx hb hK hP hD hS 11 1 rfl rfl (by omega) (by decide) (by decide) rfl (wM q cI cZ (S_a (S_a (S_a (S_a (S_a (S_a S 25 (((nn x) * 60) + (nn w)) ((S.1 25 ((nn x) * 60 + (nn w))) - (nn n))) 5 (S.2.1 3) (nn y)) 6 (S.2.1 3) (nn w)) 7 (S.2.1 3) (nn n)) 8 (S.2.1 3) ((S.2.1 1) + (nn d))) 9 (S.2.1 3) 1) (nI 0)) wM_c9 d_M_move_193 (fun H locs hP hD hS => ?_)
              refine lv_iload hx hb d_M_move_194 (lv_at hl 6 rfl) ?_
              refine nv_zne (tgt := 207) hx hb (by omega) d_M_move_196 (by decide) (fun c196 => ?_) (fun c196 => ?_)
              · refine lv_aload_n hx hb d_M_move_207 rfl (lv_at hl 1 rfl) ?_
                refine lv_dup hx hb d_M_move_208 rfl ?_
                refine va_get (D := (dC, dI)) (ci := 3) (v := .int (nI (S.2.1 3))) (C := R_M) (T := F_M) (N := 37) hx hb hts i_M hown hK hP 0 rfl rfl 10 (by decide) (hts _ wd_565) (fun _ h9 => h9) rfl d_M_move_209 ?_
                refine lv_iconst (v := nI 1) hx hb d_M_move_212 (by decide) ?_
                refine nv_add hx hb d_M_move_213 ?_
                refine va_put (D := (dC, dI)) (ci := 3) (v := .int (nI ((S.2.1 3) + 1))) (ty := .int) (C := R_M) (T := F_M) (N := 37) hx hb hts i_M ty_M ty_M_ok n_M hown hK hP hD hS 0 rfl rfl 10 (by decide) (hts _ wd_565) (fun _ h9 => h9) rfl (by decide +kernel) rfl rfl (Nat.le_of_ble_eq_true rfl) d_M_move_214 (fun H locs hP hD hS => ?_)
                have hP : va_P (dC, dI) classes (wM q cI cZ (S_g (S_a (S_a (S_a (S_a (S_a (S_a S 25 (((nn x) * 60) + (nn w)) ((S.1 25 ((nn x) * 60 + (nn w))) - (nn n))) 5 (S.2.1 3) (nn y)) 6 (S.2.1 3) (nn w)) 7 (S.2.1 3) (nn n)) 8 (S.2.1 3) ((S.2.1 1) + (nn d))) 9 (S.2.1 3) 1) 3 ((S.2.1 3) + 1)) (nI 0)) H := by rw [← wM_g3]; exact hP
                have hD : va_D A (wM q cI cZ (S_g (S_a (S_a (S_a (S_a (S_a (S_a S 25 (((nn x) * 60) + (nn w)) ((S.1 25 ((nn x) * 60 + (nn w))) - (nn n))) 5 (S.2.1 3) (nn y)) 6 (S.2.1 3) (nn w)) 7 (S.2.1 3) (nn n)) 8 (S.2.1 3) ((S.2.1 1) + (nn d))) 9 (S.2.1 3) 1) 3 ((S.2.1 3) + 1)) (nI 0)) := by rw [← wM_g3]; exact hD
                refine lv_aload_n hx hb d_M_move_217 rfl (lv_at hl 1 rfl) ?_
                refine va_get (D := (dC, dI)) (ci := 3) (v := .int (nI ((S.2.1 3) + 1))) (C := R_M) (T := F_M) (N := 37) hx hb hts i_M hown hK hP 0 rfl rfl 10 (by decide) (hts _ wd_565) (fun _ h9 => h9) rfl d_M_move_218 ?_
                refine lv_iconst (v := nI 1) hx hb d_M_move_221 (by decide) ?_
                refine nv_sub hx hb (by omega) d_M_move_222 ?_
                have ho : op_move S x y w n d = (0, nI (S.2.1 3), S_g (S_row (S_a S 25 (nn x * 60 + nn w) (S.1 25 (nn x * 60 + nn w) - nn n)) 5 (S.2.1 3) (nn y) (nn w) (nn n) (S.2.1 1 + nn d) 1) 3 (S.2.1 3 + 1)) := by unfold op_move; rw [if_pos k1, if_pos k2, if_pos k4, if_pos k3, if_pos r1, if_pos r2, if_pos o2_, if_pos o1, if_neg c196]
                rw [ho]
                refine nv_as (nI (S.2.1 3)) (by rw [Nat.add_sub_cancel]) ?_
                have hP9 : va_P (dC, dI) classes (wM q cI cZ (S_g (S_row (S_a S 25 (nn x * 60 + nn w) (S.1 25 (nn x * 60 + nn w) - nn n)) 5 (S.2.1 3) (nn y) (nn w) (nn n) (S.2.1 1 + nn d) 1) 3 (S.2.1 3 + 1)) (nI 0)) H := hP
                exact W.iret hx hb hr (fun t ht hW => ⟨rfl, by rw [ht]; exact hP9, hS.F ht⟩) hS.2.2 d_M_move_223
              · exact absurd c196 (Nat.ne_of_gt c185)
          · refine lv_iconst (v := nI 0) hx hb d_M_move_106 (by decide) ?_
            have ho : op_move S x y w n d = ((gth (nI 15) (gbit (ok x (S.2.1 0) && (ok y (S.2.1 0) && (!decide (x = y) && ok w (S.2.1 2)))) (rg n 1 9999 && rg d 0 30) ((ok x (S.2.1 0) && (ok y (S.2.1 0) && (!decide (x = y) && ok w (S.2.1 2)))) && !decide (atv S x w < n)) (decide (S.2.1 3 < 60)))), 0, S) := of_move hI c103
            rw [ho]
            refine nv_as (0) (by rfl) ?_
            have hP9 : va_P (dC, dI) classes (wM q cI cZ (S) (nI (gth (nI 15) (gbit (ok x (S.2.1 0) && (ok y (S.2.1 0) && (!decide (x = y) && ok w (S.2.1 2)))) (rg n 1 9999 && rg d 0 30) ((ok x (S.2.1 0) && (ok y (S.2.1 0) && (!decide (x = y) && ok w (S.2.1 2)))) && !decide (atv S x w < n)) (decide (S.2.1 3 < 60)))))) H := hP
            exact W.iret hx hb hr (fun t ht hW => ⟨rfl, by rw [ht]; exact hP9, hS.F ht⟩) hS.2.2 d_M_move_107
        refine lv_aload_n hx hb d_M_move_86 rfl (lv_at hl 1 rfl) ?_
        refine va_get (D := (dC, dI)) (ci := 3) (v := .int (nI (S.2.1 3))) (C := R_M) (T := F_M) (N := 37) hx hb hts i_M hown hK hP 0 rfl rfl 10 (by decide) (hts _ wd_565) (fun _ h9 => h9) rfl d_M_move_87 ?_
        refine lv_bipush (v := nI 60) hx hb d_M_move_90 (by decide) ?_
        refine nv_cge (tgt := 99) hx hb (by omega) (by omega) d_M_move_92 (by decide) (fun c92 => ?_) (fun c92 => ?_)
        · refine lv_iconst (v := nI 0) hx hb d_M_move_99 (by decide) ?_
          refine nv_as (b2 (decide (S.2.1 3 < 60))) (b2_of0 (by simp [c92])) ?_
          exact J100
        · refine lv_iconst (v := nI 1) hx hb d_M_move_95 (by decide) ?_
          refine lv_goto (tgt := 100) hx hb d_M_move_96 (by decide) ?_
          refine nv_as (b2 (decide (S.2.1 3 < 60))) (b2_of1 (by simp [c92])) ?_
          exact J100
      refine lv_iload hx hb d_M_move_65 (lv_at hl 0 rfl) ?_
      refine nv_bz (tgt := 85) hx hb d_M_move_67 (by decide) (fun c67 => ?_) (fun c67 => ?_)
      · refine lv_iconst (v := nI 0) hx hb d_M_move_85 (by decide) ?_
        refine nv_as (b2 ((ok x (S.2.1 0) && (ok y (S.2.1 0) && (!decide (x = y) && ok w (S.2.1 2)))) && !decide (atv S x w < n))) (b2_of0 (by simp [c67])) ?_
        exact J86
      · refine lv_aload_n hx hb d_M_move_70 rfl (lv_at hl 1 rfl) ?_
        refine lv_iload_n hx hb d_M_move_71 rfl (lv_at hl 2 rfl) ?_
        refine lv_iload_n hx hb d_M_move_72 rfl (lv_at hl 4 rfl) ?_
        refine pu_go (va_runV (As := [.int x, .int w]) (rest := [.int (b2 (rg n 1 9999 && rg d 0 30)), .int (b2 (ok x (S.2.1 0) && (ok y (S.2.1 0) && (!decide (x = y) && ok w (S.2.1 2))))), .int (nI 15), .ref (q 0)]) ⟨hx, hb, hml, hown, hts⟩ (c_M_at l dC dI cI cZ q S th t hI x w) (cwV 2 hts (gi_V wd_705 wd_707 wp_25 wd_5 wd_708) rfl rfl rfl (by decide +kernel) ⟨Nat.le_of_ble_eq_true rfl, Nat.le_of_ble_eq_true rfl⟩) (pu_preV hK hP (ci := 3) (q0 := 0) rfl rfl) rfl rfl hl.1 rfl (lv_room (Nat.le_of_ble_eq_true rfl)) d_M_move_73 ⟨Nat.le_of_ble_eq_true rfl, Nat.le_of_ble_eq_true rfl⟩) ?_
        refine lv_iload hx hb d_M_move_76 (lv_at hl 5 rfl) ?_
        refine lv_icmp_lt (tgt := 85) hx hb d_M_move_78 (by decide) (fun c78 => ?_) (fun c78 => ?_)
        · refine lv_iconst (v := nI 0) hx hb d_M_move_85 (by decide) ?_
          refine nv_as (b2 ((ok x (S.2.1 0) && (ok y (S.2.1 0) && (!decide (x = y) && ok w (S.2.1 2)))) && !decide (atv S x w < n))) (b2_of0 (by simp [c67, c78])) ?_
          exact J86
        · refine lv_iconst (v := nI 1) hx hb d_M_move_81 (by decide) ?_
          refine lv_goto (tgt := 86) hx hb d_M_move_82 (by decide) ?_
          refine nv_as (b2 ((ok x (S.2.1 0) && (ok y (S.2.1 0) && (!decide (x = y) && ok w (S.2.1 2)))) && !decide (atv S x w < n))) (b2_of1 (by simp [c67, c78])) ?_
          exact J86
    refine lv_iload hx hb d_M_move_41 (lv_at hl 5 rfl) ?_
    refine pu_go (va_runS (As := [.int n]) (rest := [.int (b2 (ok x (S.2.1 0) && (ok y (S.2.1 0) && (!decide (x = y) && ok w (S.2.1 2))))), .int (nI 15), .ref (q 0)]) ⟨hx, hb, hml, hown, hts⟩ (c_M_isMany l dC dI n) (cwS 1 hts (gi_S wd_702 wd_703 wd_5 wd_704) rfl rfl rfl (by decide +kernel) ⟨Nat.le_of_ble_eq_true rfl, Nat.le_of_ble_eq_true rfl⟩) (pu_preS (hK.sub (tys' := []) [] rfl) (fun k q h => by simp at h)) rfl rfl hl.1 rfl (lv_room (Nat.le_of_ble_eq_true rfl)) d_M_move_43 ⟨Nat.le_of_ble_eq_true rfl, Nat.le_of_ble_eq_true rfl⟩) ?_
    refine nv_bz (tgt := 64) hx hb d_M_move_46 (by decide) (fun c46 => ?_) (fun c46 => ?_)
    · refine lv_iconst (v := nI 0) hx hb d_M_move_64 (by decide) ?_
      refine nv_as (b2 (rg n 1 9999 && rg d 0 30)) (b2_of0 (by simp [c46])) ?_
      exact J65
    · refine lv_iload hx hb d_M_move_49 (lv_at hl 6 rfl) ?_
      refine lv_iconst (v := nI 0) hx hb d_M_move_51 (by decide) ?_
      refine lv_bipush (v := nI 30) hx hb d_M_move_52 (by decide) ?_
      refine pu_go (va_runS (As := [.int d, .int (nI 0), .int (nI 30)]) (rest := [.int (b2 (ok x (S.2.1 0) && (ok y (S.2.1 0) && (!decide (x = y) && ok w (S.2.1 2))))), .int (nI 15), .ref (q 0)]) ⟨hx, hb, hml, hown, hts⟩ (c_M_in l dC dI d (nI 0) (nI 30)) (cwS 3 hts (gi_S wd_687 wd_688 wd_5 wd_689) rfl rfl rfl (by decide +kernel) ⟨Nat.le_of_ble_eq_true rfl, Nat.le_of_ble_eq_true rfl⟩) (pu_preS (hK.sub (tys' := []) [] rfl) (fun k q h => by simp at h)) rfl rfl hl.1 rfl (lv_room (Nat.le_of_ble_eq_true rfl)) d_M_move_54 ⟨Nat.le_of_ble_eq_true rfl, Nat.le_of_ble_eq_true rfl⟩) ?_
      refine nv_as (b2 (rg d 0 30)) (congrArg b2 (in_rg (by decide) (by decide))) ?_
      refine nv_bz (tgt := 64) hx hb d_M_move_57 (by decide) (fun c57 => ?_) (fun c57 => ?_)
      · refine lv_iconst (v := nI 0) hx hb d_M_move_64 (by decide) ?_
        refine nv_as (b2 (rg n 1 9999 && rg d 0 30)) (b2_of0 (by simp [c46, c57])) ?_
        exact J65
      · refine lv_iconst (v := nI 1) hx hb d_M_move_60 (by decide) ?_
        refine lv_goto (tgt := 65) hx hb d_M_move_61 (by decide) ?_
        refine nv_as (b2 (rg n 1 9999 && rg d 0 30)) (b2_of1 (by simp [c46, c57])) ?_
        exact J65
  refine lv_aload_n hx hb d_M_move_0 rfl (lv_at hl 0 rfl) ?_
  refine lv_iload_n hx hb d_M_move_1 rfl (lv_at hl 1 rfl) ?_
  refine pu_go (va_runV (As := [.int x]) (rest := []) ⟨hx, hb, hml, hown, hts⟩ (c_M_isStore l dC dI cI cZ q S th t hI x) (cwV 1 hts (gi_V wd_694 wd_696 wp_23 wd_5 wd_697) rfl rfl rfl (by decide +kernel) ⟨Nat.le_of_ble_eq_true rfl, Nat.le_of_ble_eq_true rfl⟩) (pu_preV hK hP (ci := 3) (q0 := 0) rfl rfl) rfl rfl hl.1 rfl (lv_room (Nat.le_of_ble_eq_true rfl)) d_M_move_2 ⟨Nat.le_of_ble_eq_true rfl, Nat.le_of_ble_eq_true rfl⟩) ?_
  refine nv_bz (tgt := 33) hx hb d_M_move_5 (by decide) (fun c5 => ?_) (fun c5 => ?_)
  · refine lv_iconst (v := nI 0) hx hb d_M_move_33 (by decide) ?_
    refine nv_as (b2 (ok x (S.2.1 0) && (ok y (S.2.1 0) && (!decide (x = y) && ok w (S.2.1 2))))) (b2_of0 (by simp [c5])) ?_
    exact J34
  · refine lv_aload_n hx hb d_M_move_8 rfl (lv_at hl 0 rfl) ?_
    refine lv_iload_n hx hb d_M_move_9 rfl (lv_at hl 2 rfl) ?_
    refine pu_go (va_runV (As := [.int y]) (rest := []) ⟨hx, hb, hml, hown, hts⟩ (c_M_isStore l dC dI cI cZ q S th t hI y) (cwV 1 hts (gi_V wd_694 wd_696 wp_23 wd_5 wd_697) rfl rfl rfl (by decide +kernel) ⟨Nat.le_of_ble_eq_true rfl, Nat.le_of_ble_eq_true rfl⟩) (pu_preV hK hP (ci := 3) (q0 := 0) rfl rfl) rfl rfl hl.1 rfl (lv_room (Nat.le_of_ble_eq_true rfl)) d_M_move_10 ⟨Nat.le_of_ble_eq_true rfl, Nat.le_of_ble_eq_true rfl⟩) ?_
    refine nv_bz (tgt := 33) hx hb d_M_move_13 (by decide) (fun c13 => ?_) (fun c13 => ?_)
    · refine lv_iconst (v := nI 0) hx hb d_M_move_33 (by decide) ?_
      refine nv_as (b2 (ok x (S.2.1 0) && (ok y (S.2.1 0) && (!decide (x = y) && ok w (S.2.1 2))))) (b2_of0 (by simp [c5, c13])) ?_
      exact J34
    · refine lv_iload_n hx hb d_M_move_16 rfl (lv_at hl 1 rfl) ?_
      refine lv_iload_n hx hb d_M_move_17 rfl (lv_at hl 2 rfl) ?_
      refine lv_icmp_eq (tgt := 33) hx hb d_M_move_18 (by decide) (fun c18 => ?_) (fun c18 => ?_)
      · refine lv_iconst (v := nI 0) hx hb d_M_move_33 (by decide) ?_
        refine nv_as (b2 (ok x (S.2.1 0) && (ok y (S.2.1 0) && (!decide (x = y) && ok w (S.2.1 2))))) (b2_of0 (by simp [c5, c13, c18])) ?_
        exact J34
      · refine lv_aload_n hx hb d_M_move_21 rfl (lv_at hl 0 rfl) ?_
        refine lv_iload_n hx hb d_M_move_22 rfl (lv_at hl 3 rfl) ?_
        refine pu_go (va_runV (As := [.int w]) (rest := []) ⟨hx, hb, hml, hown, hts⟩ (c_M_isLot l dC dI cI cZ q S th t hI w) (cwV 1 hts (gi_V wd_698 wd_700 wp_24 wd_5 wd_701) rfl rfl rfl (by decide +kernel) ⟨Nat.le_of_ble_eq_true rfl, Nat.le_of_ble_eq_true rfl⟩) (pu_preV hK hP (ci := 3) (q0 := 0) rfl rfl) rfl rfl hl.1 rfl (lv_room (Nat.le_of_ble_eq_true rfl)) d_M_move_23 ⟨Nat.le_of_ble_eq_true rfl, Nat.le_of_ble_eq_true rfl⟩) ?_
        refine nv_bz (tgt := 33) hx hb d_M_move_26 (by decide) (fun c26 => ?_) (fun c26 => ?_)
        · refine lv_iconst (v := nI 0) hx hb d_M_move_33 (by decide) ?_
          refine nv_as (b2 (ok x (S.2.1 0) && (ok y (S.2.1 0) && (!decide (x = y) && ok w (S.2.1 2))))) (b2_of0 (by simp [c5, c13, c18, c26])) ?_
          exact J34
        · refine lv_iconst (v := nI 1) hx hb d_M_move_29 (by decide) ?_
          refine lv_goto (tgt := 34) hx hb d_M_move_30 (by decide) ?_
          refine nv_as (b2 (ok x (S.2.1 0) && (ok y (S.2.1 0) && (!decide (x = y) && ok w (S.2.1 2))))) (b2_of1 (by simp [c5, c13, c18, c26])) ?_
          exact J34
