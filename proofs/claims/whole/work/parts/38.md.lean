theorem sum_v1 {S : St} {x y w : Int32} (h : nn w = 1 ∨ S.2.1 2 = 0) : sIf (fun j => decide (S.1 0 j = nn y) && !decide (S.2.1 1 ≤ S.1 1 j)) (fun j => S.1 25 (nn x * 60 + j)) (S.2.1 2) = (if nn w = 1 then bad S (nn x) (nn y) else 0) := by
  by_cases h1 : nn w = 1
  · rw [if_pos h1]; rfl
  · rw [if_neg h1, h.resolve_left h1]; rfl
theorem sum_v2 {S : St} {x y w : Int32} (h0 : nn w = 1 ∨ nn w = 2) (h : nn w = 2 ∨ S.2.1 3 = 0) : (if nn w = 1 then bad S (nn x) (nn y) else 0) + sIf (fun j => decide (S.1 9 j = 1) && (decide (S.1 5 j = nn x) && (decide (S.1 0 (S.1 6 j) = nn y) && (!false || decide (S.1 8 j ≤ S.1 1 (S.1 6 j)))))) (fun j => S.1 7 j) (S.2.1 3) = if nn w = 1 then bad S (nn x) (nn y) else way S false (nn x) (nn y) := by
  by_cases h1 : nn w = 1
  · rw [if_pos h1, if_pos h1, h.resolve_left (by omega)]; rfl
  · rw [if_neg h1, if_neg h1, Nat.zero_add]; rfl
theorem tick_n {S : St} {t : Nat} (hV : Inv t S) (j : Nat) : by_ S (S.2.1 1) j = false := by
  have h := hV.2.2.2.2.2.2.1 j
  simp only [by_, Bool.and_eq_false_iff, decide_eq_false_iff_not]
  omega
theorem tick_0 {S : St} {t : Nat} (hV : Inv t S) : S = canon (S_g S 1 (S.2.1 1 + 0)) (by_ S (S.2.1 1 + 0)) (S.2.1 3) := by
  have h1 : S_g S 1 (S.2.1 1 + 0) = S := Prod.ext rfl (Prod.ext (funext fun k => by
    show va_up S.2.1 1 (S.2.1 1) k = S.2.1 k
    by_cases hk : k = 1
    · subst hk; rw [va_up_self]
    · rw [va_up_ne _ _ hk]) rfl)
  rw [h1]
  exact (canon_none (fun j _ => tick_n hV j) (hV.1.1 25)).symm
theorem tick_c {S : St} {t : Nat} (hV : Inv t S) : sIf (by_ S (S.2.1 1 + 0)) (fun _ => 1) (S.2.1 3) = 0 := sIf_zero _ (fun j _ h => by rw [Nat.add_zero, tick_n hV j] at h; cases h)
theorem tick_d {S : St} {P : Nat → Bool} {a d M : Nat} : S_g (canon (S_g S 1 a) P M) 1 d = canon (S_g S 1 d) P M := by
  refine Prod.ext rfl (Prod.ext (funext fun k => ?_) rfl)
  show va_up (va_up S.2.1 1 a) 1 d k = va_up S.2.1 1 d k
  by_cases hk : k = 1
  · subst hk; rw [va_up_self, va_up_self]
  · rw [va_up_ne _ _ hk, va_up_ne _ _ hk, va_up_ne _ _ hk]
theorem of_sum {S : St} {t : Nat} (hI : Bd t S) {x y w : Int32} (h : ((ok x (S.2.1 0) && (ok y 10 && rg w 0 2)) && (true && (true && true))) = false) : op_sum S x y w = (gth (nI 1) (gbit (ok x (S.2.1 0) && (ok y 10 && rg w 0 2)) true true true), 0, S) := by
  unfold op_sum
  cases h1 : ok x (S.2.1 0)
  · exact of_f g1.1.symm
  cases h2 : ok y 10
  · exact of_f g1.1.symm
  have h3 : rg w 0 2 = false := by simpa [h1, h2] using h
  have n0 : ¬ w = 0 := fun e => by rw [e] at h3; exact absurd h3 (by decide)
  have n1 : ¬ w = 1 := fun e => by rw [e] at h3; exact absurd h3 (by decide)
  have n2 : ¬ w = 2 := fun e => by rw [e] at h3; exact absurd h3 (by decide)
  rw [if_pos rfl, if_pos rfl, if_neg n0, if_neg n1, if_neg n2, h3]
  exact of_f g1.1.symm
theorem of_dip {S : St} {t : Nat} (hI : Bd t S) {x : Int32} (h : (true && ((rg x 0 99999) && (true && true))) = false) : op_dip S x = (gth (nI 2) (gbit true (rg x 0 99999) true true), 0, S) := by
  unfold op_dip
  cases h1 : rg x 0 99999
  · exact of_f g2.2.1.symm
  rw [h1] at h; exact absurd h (by decide)
theorem of_give {S : St} {t : Nat} (hI : Bd t S) {x y : Int32} {a : Nat} (ha : (ok x (S.2.1 0) && rg y 0 4) = true → a = sIf (fun _ => true) (fun j => S.1 28 (nn y * 10 + j)) 10) (h : ((ok x (S.2.1 0) && rg y 0 4) && (true && (decide (0 < a) && true))) = false) : op_give S x y = (gth (nI 5) (gbit (ok x (S.2.1 0) && rg y 0 4) true (decide (0 < a)) true), 0, S) := by
  have hy : rg y 0 4 = ok y 5 := rg_ok (n := 5) (by decide)
  rw [hy] at ha h ⊢
  unfold op_give
  cases h1 : ok x (S.2.1 0)
  · exact of_f g5.1.symm
  cases h2 : ok y 5
  · exact of_f g5.1.symm
  rw [h1, h2] at ha h
  have h3 := ha rfl
  have h4 : ¬ 0 < a := by simpa using h
  have h5 : anyPart S (nn y) ≠ true := fun z => h4 (by rw [h3]; exact any_sum.mpr z)
  rw [if_pos rfl, if_pos rfl, if_neg h5, decide_eq_false h4]
  exact of_f g5.2.2.1.symm
theorem of_tick {S : St} {t : Nat} (hI : Bd t S) {x : Int32} (h : (true && ((rg x 1 1000 && !decide (nI (9999 - S.2.1 1) < x)) && (true && true))) = false) : op_tick S x = (gth (nI 2) (gbit true (rg x 1 1000 && !decide (nI (9999 - S.2.1 1) < x)) true true), 0, S) := by
  unfold op_tick
  cases h1 : rg x 1 1000
  · exact of_f g2.2.1.symm
  have hd : S.2.1 1 ≤ 9999 := hI.2.1 1
  rw [n_lt h1 (by omega) (by decide)] at h ⊢
  have h3 : ¬ nn x ≤ 9999 - S.2.1 1 := by simpa [h1] using h
  rw [if_pos rfl, if_neg (show ¬ S.2.1 1 + nn x ≤ 9999 by omega), decide_eq_false h3]
  exact of_f g2.2.1.symm
set_option maxHeartbeats 4000000 in
set_option maxRecDepth 100000 in
theorem c_M_sum (l : Launch) (dC : Nat → ClassId) (dI : Nat → Nat → Nat) (sz : Nat) (cI cZ : ClassId) (q : Nat → Nat) (S : St) (th : Int32) (t : Nat) (hI : Bd t S) (x y w : Int32) (hV : Inv t S)  : Met l y_M_sum (.code y_M_sum b_M_sum 6 (some .int) :: bg) { frames := 4, cells := 0, slots := 0, locals := 89 } (wr_P (dC, dI) classes (wM q cI cZ S th) [(cI, .int), (cZ, .boolean)] sz [.ref (q 0), .int x, .int y, .int w]) (wr_Q (some (.int ((op_sum S x y w).2.1))) (dC, dI) classes (wM q cI cZ ((op_sum S x y w).2.2) (nI (op_sum S x y w).1)) (va_A (wM q cI cZ S th) sz)) 0 0 (va_A (wM q cI cZ S th) sz) := by
  refine Met.ofW (cc := b_M_sum) (maxL := 6) (ret := (some .int)) (by decide) rfl ?_
  intro p e s m args below meth c s₁ B hml hv
  obtain ⟨rfl, hsz, hP, hK, hD0⟩ := hv
  subst hsz
  have hD := hD0.self (sz := s.heap.size)
  generalize hAe : va_A (wM q cI cZ S th) s.heap.size = A at hD ⊢
  have hA : ∀ q : Nat, s.heap.size ≤ q → A q := fun q h => by rw [← hAe]; exact Or.inr h
  have hS : va_S A s.heap s.heap [] := va_S.rf
  have hx := B.exec
  have hb := B.bytes
  have hr := B.returns
  have hts := fun w (h : w ∈ bg) => atoms_spec (ws := .code y_M_sum b_M_sum 6 (some .int) :: bg) B.pre w (List.mem_cons_of_mem _ h)
  have hown : s.vm.findClass R_M = some m.cls := findClass_of_methodNamed B.named
  have hlocks := B.notSynchronized
  have hl := lv_entry ([.ref (q 0), .int x, .int y, .int w]) (n := 6) (Nat.le_of_ble_eq_true rfl)
  rw [lg_entry_eq]
  generalize (lg_sl ([.ref (q 0), .int x, .int y, .int w]) ++ List.replicate (6 - (lg_sl ([.ref (q 0), .int x, .int y, .int w])).length) Slot.unset).toArray = ls at hl ⊢
  have hl : lv_has ls 6 [(0, .ref (q 0)), (1, .int x), (2, .int y), (3, .int w)] := hl
  have hB := hI.1
  have hg0 : S.2.1 0 ≤ 8 := hI.2.1 0
  have hg1 : S.2.1 1 ≤ 9999 := hI.2.1 1
  have hg2 : S.2.1 2 ≤ 60 := hI.2.1 2
  have hg3 : S.2.1 3 ≤ 60 := hI.2.1 3
  have hg4 : S.2.1 4 ≤ 80 := hI.2.1 4
  have hg5 : S.2.1 5 ≤ 20 := hI.2.1 5
  have hg6 : S.2.1 6 ≤ 80 := hI.2.1 6
  have hg7 : S.2.1 7 ≤ 10 := hI.2.1 7
  have hg8 : t ≤ 512 := hI.2.2
  refine lv_aload_n hx hb d_M_sum_0 rfl (lv_at hl 0 rfl) ?_
  refine lv_iconst (v := nI 1) hx hb d_M_sum_1 (by decide) ?_
  have J31 : W p l e (headSpec (.code y_M_sum b_M_sum 6 (some .int) :: bg) { frames := 4, cells := 0, slots := 0, locals := 89 }).room s m (List.toArray [.ref (q 0), .int x, .int y, .int w]) below meth c s.heap [] 0 0 (MQ below (wr_Q (some (.int ((op_sum S x y w).2.1))) (dC, dI) classes (wM q cI cZ ((op_sum S x y w).2.2) (nI (op_sum S x y w).1)) A) (List.toArray [.ref (q 0), .int x, .int y, .int w]) s 0 0 A) (F0 m 31 ls [.int (b2 (ok x (S.2.1 0) && (ok y 10 && rg w 0 2))), .int (nI 1), .ref (q 0)]) := by
    refine lv_iconst (v := b2 true) hx hb d_M_sum_31 (by decide) ?_
    refine lv_iconst (v := b2 true) hx hb d_M_sum_32 (by decide) ?_
    refine lv_iconst (v := b2 true) hx hb d_M_sum_33 (by decide) ?_
    refine wr_goA (va_runV (As := [.int (nI 1), .int (b2 (ok x (S.2.1 0) && (ok y 10 && rg w 0 2))), .int (b2 true), .int (b2 true), .int (b2 true)]) (rest := []) ⟨hx, hb, hml, hown, hts⟩ (c_M_goes l dC dI s.heap.size cI cZ q S th t hI (nI 1) (ok x (S.2.1 0) && (ok y 10 && rg w 0 2)) true true true) (cwV 5 hts (gi_V wd_676 wd_678 wp_22 wd_5 wd_679) rfl rfl rfl (by decide +kernel) ⟨Nat.le_of_ble_eq_true rfl, Nat.le_of_ble_eq_true rfl⟩) (wr_preV hK hP hD (ci := 3) (q0 := 0) rfl rfl) rfl rfl hl.1 rfl (lv_room (Nat.le_of_ble_eq_true rfl)) d_M_sum_34 ⟨Nat.le_of_ble_eq_true rfl, Nat.le_of_ble_eq_true rfl⟩) hD hS hA wM_adr (fun H locs hP hD hS => ?_)
    refine W.eq (g2 := F0 m 37 ls [.int (b2 ((ok x (S.2.1 0) && (ok y 10 && rg w 0 2)) && (true && (true && true))))]) rfl ?_
    refine nv_bn (tgt := 42) hx hb d_M_sum_37 (by decide) (fun c37 => ?_) (fun c37 => ?_)
    · obtain ⟨k0, r0, t0, o0⟩ := and4 c37
      have hP : va_P (dC, dI) classes (wM q cI cZ S (nI 0)) H := by rw [gz c37] at hP; exact hP
      have hD : va_D A (wM q cI cZ S (nI 0)) := by rw [gz c37] at hD; exact hD
      obtain ⟨k1, k9⟩ := and2 k0
      obtain ⟨k2, k3⟩ := and2 k9
      obtain ⟨e_x, b_x⟩ := ok_of k1
      obtain ⟨e_y, b_y⟩ := ok_of k2
      obtain ⟨e_w, l_w, b_w⟩ := rg_of k3
      have hl : lv_has ls 6 [(0, .ref (q 0)), (1, .int (nI (nn x))), (2, .int (nI (nn y))), (3, .int (nI (nn w)))] := by rw [← e_x, ← e_y, ← e_w]; exact hl
      refine lv_iconst (v := nI 0) hx hb d_M_sum_42 (by decide) ?_
      refine lv_istore (lv' := [(4, .int (nI 0)), (0, .ref (q 0)), (1, .int (nI (nn x))), (2, .int (nI (nn y))), (3, .int (nI (nn w)))]) hx hb d_M_sum_43 hl (by decide) rfl (fun ls hl => ?_)
      refine lv_iload_n hx hb d_M_sum_45 rfl (lv_at hl 4 rfl) ?_
      refine nv_zne (tgt := 56) hx hb (by omega) d_M_sum_46 (by decide) (fun c46 => ?_) (fun c46 => ?_)
      · refine lv_iconst (v := nI 0) hx hb d_M_sum_56 (by decide) ?_
        refine lv_istore (lv' := [(5, .int (nI 0)), (4, .int (nI 0)), (0, .ref (q 0)), (1, .int (nI (nn x))), (2, .int (nI (nn y))), (3, .int (nI (nn w)))]) hx hb d_M_sum_57 hl (by decide) rfl (fun ls hl => ?_)
        have LP59 : ∀ (fua i : Nat), S.2.1 2 - i < fua → i ≤ S.2.1 2 → (nn w = 1 ∨ i = 0) → ∀ ls : Array Slot, lv_has ls 6 [(5, .int (nI i)), (4, .int (nI (sIf (fun j => decide (S.1 0 j = nn y) && !decide (S.2.1 1 ≤ S.1 1 j)) (fun j => S.1 25 (nn x * 60 + j)) i))), (0, .ref (q 0)), (1, .int (nI (nn x))), (2, .int (nI (nn y))), (3, .int (nI (nn w)))] → W p l e (headSpec (.code y_M_sum b_M_sum 6 (some .int) :: bg) { frames := 4, cells := 0, slots := 0, locals := 89 }).room s m (List.toArray [.ref (q 0), .int x, .int y, .int w]) below meth c H locs 0 0 (MQ below (wr_Q (some (.int ((op_sum S x y w).2.1))) (dC, dI) classes (wM q cI cZ ((op_sum S x y w).2.2) (nI (op_sum S x y w).1)) A) (List.toArray [.ref (q 0), .int x, .int y, .int w]) s 0 0 A) (F0 m 59 ls []) := by
          intro fua
          induction fua with
          | zero => intro i h; exact absurd h (Nat.not_lt_zero _)
          | succ fua iha =>
            intro i hfua hia hha0 ls hl
            refine lv_iload hx hb d_M_sum_59 (lv_at hl 0 rfl) ?_
            refine lv_aload_n hx hb d_M_sum_61 rfl (lv_at hl 2 rfl) ?_
            refine va_get (D := (dC, dI)) (ci := 3) (v := .int (nI (S.2.1 2))) (C := R_M) (T := F_M) (N := 37) hx hb hts i_M hown hK hP 0 rfl rfl 3 (by decide) (hts _ wd_558) (fun _ h9 => h9) rfl d_M_sum_62 ?_
            refine nv_cge (tgt := 111) hx hb (by omega) (by omega) d_M_sum_65 (by decide) (fun c65 => ?_) (fun c65 => ?_)
            · obtain rfl : i = S.2.1 2 := by omega
              have hv1 : sIf (fun j => decide (S.1 0 j = nn y) && !decide (S.2.1 1 ≤ S.1 1 j)) (fun j => S.1 25 (nn x * 60 + j)) (S.2.1 2) = (if nn w = 1 then bad S (nn x) (nn y) else 0) := sum_v1 hha0
              have hl : lv_has ls 6 [(5, .int (nI (S.2.1 2))), (4, .int (nI (if nn w = 1 then bad S (nn x) (nn y) else 0))), (0, .ref (q 0)), (1, .int (nI (nn x))), (2, .int (nI (nn y))), (3, .int (nI (nn w)))] := by rw [← hv1]; exact hl
              refine lv_iconst (v := nI 0) hx hb d_M_sum_111 (by decide) ?_
              refine lv_istore (lv' := [(5, .int (nI 0)), (4, .int (nI (if nn w = 1 then bad S (nn x) (nn y) else 0))), (0, .ref (q 0)), (1, .int (nI (nn x))), (2, .int (nI (nn y))), (3, .int (nI (nn w)))]) hx hb d_M_sum_112 hl (by decide) rfl (fun ls hl => ?_)
              have LP114 : ∀ (fub i : Nat), S.2.1 3 - i < fub → i ≤ S.2.1 3 → (nn w = 2 ∨ i = 0) → ∀ ls : Array Slot, lv_has ls 6 [(5, .int (nI i)), (4, .int (nI ((if nn w = 1 then bad S (nn x) (nn y) else 0) + sIf (fun j => decide (S.1 9 j = 1) && (decide (S.1 5 j = nn x) && (decide (S.1 0 (S.1 6 j) = nn y) && (!false || decide (S.1 8 j ≤ S.1 1 (S.1 6 j)))))) (fun j => S.1 7 j) i))), (0, .ref (q 0)), (1, .int (nI (nn x))), (2, .int (nI (nn y))), (3, .int (nI (nn w)))] → W p l e (headSpec (.code y_M_sum b_M_sum 6 (some .int) :: bg) { frames := 4, cells := 0, slots := 0, locals := 89 }).room s m (List.toArray [.ref (q 0), .int x, .int y, .int w]) below meth c H locs 0 0 (MQ below (wr_Q (some (.int ((op_sum S x y w).2.1))) (dC, dI) classes (wM q cI cZ ((op_sum S x y w).2.2) (nI (op_sum S x y w).1)) A) (List.toArray [.ref (q 0), .int x, .int y, .int w]) s 0 0 A) (F0 m 114 ls []) := by
                intro fub
                induction fub with
                | zero => intro i h; exact absurd h (Nat.not_lt_zero _)
                | succ fub ihb =>
                  intro i hfub hib hhb0 ls hl
                  refine lv_iload hx hb d_M_sum_114 (lv_at hl 0 rfl) ?_
                  refine lv_aload_n hx hb d_M_sum_116 rfl (lv_at hl 2 rfl) ?_
                  refine va_get (D := (dC, dI)) (ci := 3) (v := .int (nI (S.2.1 3))) (C := R_M) (T := F_M) (N := 37) hx hb hts i_M hown hK hP 0 rfl rfl 10 (by decide) (hts _ wd_565) (fun _ h9 => h9) rfl d_M_sum_117 ?_
                  refine nv_cge (tgt := 183) hx hb (by omega) (by omega) d_M_sum_120 (by decide) (fun c120 => ?_) (fun c120 => ?_)
                  · obtain rfl : i = S.2.1 3 := by omega
                    have hvf : (if nn w = 1 then bad S (nn x) (nn y) else 0) + sIf (fun j => decide (S.1 9 j = 1) && (decide (S.1 5 j = nn x) && (decide (S.1 0 (S.1 6 j) = nn y) && (!false || decide (S.1 8 j ≤ S.1 1 (S.1 6 j)))))) (fun j => S.1 7 j) (S.2.1 3) = if nn w = 1 then bad S (nn x) (nn y) else way S false (nn x) (nn y) := sum_v2 (by omega) hhb0
                    have hl : lv_has ls 6 [(5, .int (nI (S.2.1 3))), (4, .int (nI (if nn w = 1 then bad S (nn x) (nn y) else way S false (nn x) (nn y)))), (0, .ref (q 0)), (1, .int (nI (nn x))), (2, .int (nI (nn y))), (3, .int (nI (nn w)))] := by rw [← hvf]; exact hl
                    rcases (show nn w = 1 ∨ nn w = 2 by omega) with hw | hw
                    · refine lv_iload hx hb d_M_sum_183 (lv_at hl 1 rfl) ?_
                      have ho : op_sum S x y w = (0, nI (bad S (nn x) (nn y)), S) := by unfold op_sum; rw [if_pos k1, if_pos k2, if_neg (fun h => c46 (by rw [h]; rfl)), if_pos (show w = 1 from e_w.trans (congrArg nI hw))]
                      rw [ho]
                      refine nv_as (nI (bad S (nn x) (nn y))) (by rw [if_pos hw]) ?_
                      have hP9 : va_P (dC, dI) classes (wM q cI cZ (S) (nI 0)) H := hP
                      exact W.iret hx hb hr (fun t ht hW => ⟨rfl, by rw [ht]; exact hP9, hS.F ht⟩) hS.2.2 d_M_sum_185
                    · refine lv_iload hx hb d_M_sum_183 (lv_at hl 1 rfl) ?_
                      have ho : op_sum S x y w = (0, nI (way S false (nn x) (nn y)), S) := by unfold op_sum; rw [if_pos k1, if_pos k2, if_neg (fun h => c46 (by rw [h]; rfl)), if_neg (fun h => absurd hw (by rw [h]; decide)), if_pos (show w = 2 from e_w.trans (congrArg nI hw))]
                      rw [ho]
                      refine nv_as (nI (way S false (nn x) (nn y))) (by rw [if_neg (by omega)]) ?_
                      have hP9 : va_P (dC, dI) classes (wM q cI cZ (S) (nI 0)) H := hP
                      exact W.iret hx hb hr (fun t ht hW => ⟨rfl, by rw [ht]; exact hP9, hS.F ht⟩) hS.2.2 d_M_sum_185
                  · refine lv_iload_n hx hb d_M_sum_123 rfl (lv_at hl 5 rfl) ?_
                    refine lv_iconst (v := nI 2) hx hb d_M_sum_124 (by decide) ?_
                    refine nv_cne (tgt := 183) hx hb (by omega) (by omega) d_M_sum_125 (by decide) (fun c125 => ?_) (fun c125 => ?_)
                    · obtain rfl : i = 0 := hhb0.resolve_left c125
                      have hvf : (if nn w = 1 then bad S (nn x) (nn y) else 0) + sIf (fun j => decide (S.1 9 j = 1) && (decide (S.1 5 j = nn x) && (decide (S.1 0 (S.1 6 j) = nn y) && (!false || decide (S.1 8 j ≤ S.1 1 (S.1 6 j)))))) (fun j => S.1 7 j) 0 = if nn w = 1 then bad S (nn x) (nn y) else way S false (nn x) (nn y) := by rw [if_pos (show nn w = 1 by omega), if_pos (show nn w = 1 by omega)]; rfl
                      have hl : lv_has ls 6 [(5, .int (nI 0)), (4, .int (nI (if nn w = 1 then bad S (nn x) (nn y) else way S false (nn x) (nn y)))), (0, .ref (q 0)), (1, .int (nI (nn x))), (2, .int (nI (nn y))), (3, .int (nI (nn w)))] := by rw [← hvf]; exact hl
                      rcases (show nn w = 1 ∨ nn w = 2 by omega) with hw | hw
                      · refine lv_iload hx hb d_M_sum_183 (lv_at hl 1 rfl) ?_
                        have ho : op_sum S x y w = (0, nI (bad S (nn x) (nn y)), S) := by unfold op_sum; rw [if_pos k1, if_pos k2, if_neg (fun h => c46 (by rw [h]; rfl)), if_pos (show w = 1 from e_w.trans (congrArg nI hw))]
                        rw [ho]
                        refine nv_as (nI (bad S (nn x) (nn y))) (by rw [if_pos hw]) ?_
                        have hP9 : va_P (dC, dI) classes (wM q cI cZ (S) (nI 0)) H := hP
                        exact W.iret hx hb hr (fun t ht hW => ⟨rfl, by rw [ht]; exact hP9, hS.F ht⟩) hS.2.2 d_M_sum_185
                      · refine lv_iload hx hb d_M_sum_183 (lv_at hl 1 rfl) ?_
                        have ho : op_sum S x y w = (0, nI (way S false (nn x) (nn y)), S) := by unfold op_sum; rw [if_pos k1, if_pos k2, if_neg (fun h => c46 (by rw [h]; rfl)), if_neg (fun h => absurd hw (by rw [h]; decide)), if_pos (show w = 2 from e_w.trans (congrArg nI hw))]
                        rw [ho]
                        refine nv_as (nI (way S false (nn x) (nn y))) (by rw [if_neg (by omega)]) ?_
                        have hP9 : va_P (dC, dI) classes (wM q cI cZ (S) (nI 0)) H := hP
                        exact W.iret hx hb hr (fun t ht hW => ⟨rfl, by rw [ht]; exact hP9, hS.F ht⟩) hS.2.2 d_M_sum_185
                    · refine lv_aload_n hx hb d_M_sum_128 rfl (lv_at hl 2 rfl) ?_
                      refine va_get (D := (dC, dI)) (ci := 3) (v := .ref (q 11)) (C := R_M) (T := F_M) (N := 37) hx hb hts i_M hown hK hP 0 rfl rfl 15 (by decide) (hts _ wd_570) (fun _ h9 => h9) rfl d_M_sum_129 ?_
                      refine lv_iload hx hb d_M_sum_132 (lv_at hl 0 rfl) ?_
                      refine nv_zald (v := nI (S.1 9 i)) hx hb hK hP 11 1 rfl rfl (by omega) (by decide) rfl d_M_sum_134 ?_
                      have hb1 : S.1 9 i ≤ 1 := hB 9 _
                      refine nv_zeq (tgt := 177) hx hb (by omega) d_M_sum_135 (by decide) (fun c135 => ?_) (fun c135 => ?_)
                      · refine lv_iinc (v := nI (i + 1)) (lv' := [(5, .int (nI (i + 1))), (4, .int (nI ((if nn w = 1 then bad S (nn x) (nn y) else 0) + sIf (fun j => decide (S.1 9 j = 1) && (decide (S.1 5 j = nn x) && (decide (S.1 0 (S.1 6 j) = nn y) && (!false || decide (S.1 8 j ≤ S.1 1 (S.1 6 j)))))) (fun j => S.1 7 j) i))), (0, .ref (q 0)), (1, .int (nI (nn x))), (2, .int (nI (nn y))), (3, .int (nI (nn w)))]) hx hb d_M_sum_177 hl (k := 0) rfl (nI_1 _) (by decide) rfl (fun ls hl => ?_)
                        refine lv_goto (tgt := 114) hx hb d_M_sum_180 (by decide) ?_
                        exact ihb (i + 1) (by omega) (by omega) (Or.inl c125) ls (lv_sub hl [0, 1, 2, 3, 4, 5] (by rw [sIf_f (by simp [c135])]; rfl))
                      · refine lv_aload_n hx hb d_M_sum_138 rfl (lv_at hl 2 rfl) ?_
                        refine va_get (D := (dC, dI)) (ci := 3) (v := .ref (q 7)) (C := R_M) (T := F_M) (N := 37) hx hb hts i_M hown hK hP 0 rfl rfl 11 (by decide) (hts _ wd_566) (fun _ h9 => h9) rfl d_M_sum_139 ?_
                        refine lv_iload hx hb d_M_sum_142 (lv_at hl 0 rfl) ?_
                        refine nv_iald (v := nI (S.1 5 i)) hx hb hK hP 7 0 rfl rfl (by omega) (by decide) rfl d_M_sum_144 ?_
                        have hb2 : S.1 5 i ≤ 7 := hB 5 _
                        refine lv_iload_n hx hb d_M_sum_145 rfl (lv_at hl 3 rfl) ?_
                        refine nv_cne (tgt := 177) hx hb (by omega) (by omega) d_M_sum_146 (by decide) (fun c146 => ?_) (fun c146 => ?_)
                        · refine lv_iinc (v := nI (i + 1)) (lv' := [(5, .int (nI (i + 1))), (4, .int (nI ((if nn w = 1 then bad S (nn x) (nn y) else 0) + sIf (fun j => decide (S.1 9 j = 1) && (decide (S.1 5 j = nn x) && (decide (S.1 0 (S.1 6 j) = nn y) && (!false || decide (S.1 8 j ≤ S.1 1 (S.1 6 j)))))) (fun j => S.1 7 j) i))), (0, .ref (q 0)), (1, .int (nI (nn x))), (2, .int (nI (nn y))), (3, .int (nI (nn w)))]) hx hb d_M_sum_177 hl (k := 0) rfl (nI_1 _) (by decide) rfl (fun ls hl => ?_)
                          refine lv_goto (tgt := 114) hx hb d_M_sum_180 (by decide) ?_
                          exact ihb (i + 1) (by omega) (by omega) (Or.inl c125) ls (lv_sub hl [0, 1, 2, 3, 4, 5] (by rw [sIf_f (by simp [c146])]; rfl))
                        · refine lv_aload_n hx hb d_M_sum_149 rfl (lv_at hl 2 rfl) ?_
                          refine va_get (D := (dC, dI)) (ci := 3) (v := .ref (q 1)) (C := R_M) (T := F_M) (N := 37) hx hb hts i_M hown hK hP 0 rfl rfl 4 (by decide) (hts _ wd_559) (fun _ h9 => h9) rfl d_M_sum_150 ?_
                          refine lv_aload_n hx hb d_M_sum_153 rfl (lv_at hl 2 rfl) ?_
                          refine va_get (D := (dC, dI)) (ci := 3) (v := .ref (q 8)) (C := R_M) (T := F_M) (N := 37) hx hb hts i_M hown hK hP 0 rfl rfl 12 (by decide) (hts _ wd_567) (fun _ h9 => h9) rfl d_M_sum_154 ?_
                          refine lv_iload hx hb d_M_sum_157 (lv_at hl 0 rfl) ?_
                          refine nv_iald (v := nI (S.1 6 i)) hx hb hK hP 8 0 rfl rfl (by omega) (by decide) rfl d_M_sum_159 ?_
                          have hb3 : S.1 6 i ≤ 59 := hB 6 _
                          refine nv_iald (v := nI (S.1 0 (S.1 6 i))) hx hb hK hP 1 0 rfl rfl (by omega) (by decide) rfl d_M_sum_160 ?_
                          have hb4 : S.1 0 (S.1 6 i) ≤ 9 := hB 0 _
                          refine lv_iload_n hx hb d_M_sum_161 rfl (lv_at hl 4 rfl) ?_
                          refine nv_cne (tgt := 177) hx hb (by omega) (by omega) d_M_sum_162 (by decide) (fun c162 => ?_) (fun c162 => ?_)
                          · refine lv_iinc (v := nI (i + 1)) (lv' := [(5, .int (nI (i + 1))), (4, .int (nI ((if nn w = 1 then bad S (nn x) (nn y) else 0) + sIf (fun j => decide (S.1 9 j = 1) && (decide (S.1 5 j = nn x) && (decide (S.1 0 (S.1 6 j) = nn y) && (!false || decide (S.1 8 j ≤ S.1 1 (S.1 6 j)))))) (fun j => S.1 7 j) i))), (0, .ref (q 0)), (1, .int (nI (nn x))), (2, .int (nI (nn y))), (3, .int (nI (nn w)))]) hx hb d_M_sum_177 hl (k := 0) rfl (nI_1 _) (by decide) rfl (fun ls hl => ?_)
                            refine lv_goto (tgt := 114) hx hb d_M_sum_180 (by decide) ?_
                            exact ihb (i + 1) (by omega) (by omega) (Or.inl c125) ls (lv_sub hl [0, 1, 2, 3, 4, 5] (by rw [sIf_f (by simp [c162])]; rfl))
                          · refine lv_iload hx hb d_M_sum_165 (lv_at hl 1 rfl) ?_
                            refine lv_aload_n hx hb d_M_sum_167 rfl (lv_at hl 2 rfl) ?_
                            refine va_get (D := (dC, dI)) (ci := 3) (v := .ref (q 9)) (C := R_M) (T := F_M) (N := 37) hx hb hts i_M hown hK hP 0 rfl rfl 13 (by decide) (hts _ wd_568) (fun _ h9 => h9) rfl d_M_sum_168 ?_
                            refine lv_iload hx hb d_M_sum_171 (lv_at hl 0 rfl) ?_
                            refine nv_iald (v := nI (S.1 7 i)) hx hb hK hP 9 0 rfl rfl (by omega) (by decide) rfl d_M_sum_173 ?_
                            have hb5 : S.1 7 i ≤ 9999 := hB 7 _
                            refine nv_add hx hb d_M_sum_174 ?_
                            refine lv_istore (lv' := [(4, .int (nI (((if nn w = 1 then bad S (nn x) (nn y) else 0) + sIf (fun j => decide (S.1 9 j = 1) && (decide (S.1 5 j = nn x) && (decide (S.1 0 (S.1 6 j) = nn y) && (!false || decide (S.1 8 j ≤ S.1 1 (S.1 6 j)))))) (fun j => S.1 7 j) i) + (S.1 7 i)))), (5, .int (nI i)), (0, .ref (q 0)), (1, .int (nI (nn x))), (2, .int (nI (nn y))), (3, .int (nI (nn w)))]) hx hb d_M_sum_175 hl (by decide) rfl (fun ls hl => ?_)
                            refine lv_iinc (v := nI (i + 1)) (lv' := [(5, .int (nI (i + 1))), (4, .int (nI (((if nn w = 1 then bad S (nn x) (nn y) else 0) + sIf (fun j => decide (S.1 9 j = 1) && (decide (S.1 5 j = nn x) && (decide (S.1 0 (S.1 6 j) = nn y) && (!false || decide (S.1 8 j ≤ S.1 1 (S.1 6 j)))))) (fun j => S.1 7 j) i) + (S.1 7 i)))), (0, .ref (q 0)), (1, .int (nI (nn x))), (2, .int (nI (nn y))), (3, .int (nI (nn w)))]) hx hb d_M_sum_177 hl (k := 1) rfl (nI_1 _) (by decide) rfl (fun ls hl => ?_)
                            refine lv_goto (tgt := 114) hx hb d_M_sum_180 (by decide) ?_
                            exact ihb (i + 1) (by omega) (by omega) (Or.inl c125) ls (lv_sub hl [0, 1, 2, 3, 4, 5] (by rw [sIf_t (by simp [c146, c162]; omega), ← Nat.add_assoc]; rfl))
              exact LP114 (S.2.1 3 + 1) 0 (by omega) (by omega) (Or.inr rfl) ls (lv_sub hl [0, 1, 2, 3, 4, 5] rfl)
            · refine lv_iload_n hx hb d_M_sum_68 rfl (lv_at hl 5 rfl) ?_
              refine lv_iconst (v := nI 1) hx hb d_M_sum_69 (by decide) ?_
              refine nv_cne (tgt := 111) hx hb (by omega) (by omega) d_M_sum_70 (by decide) (fun c70 => ?_) (fun c70 => ?_)
              · obtain rfl : i = 0 := hha0.resolve_left c70
                have hl : lv_has ls 6 [(5, .int (nI 0)), (4, .int (nI (if nn w = 1 then bad S (nn x) (nn y) else 0))), (0, .ref (q 0)), (1, .int (nI (nn x))), (2, .int (nI (nn y))), (3, .int (nI (nn w)))] := by rw [if_neg c70]; exact hl
                refine lv_iconst (v := nI 0) hx hb d_M_sum_111 (by decide) ?_
                refine lv_istore (lv' := [(5, .int (nI 0)), (4, .int (nI (if nn w = 1 then bad S (nn x) (nn y) else 0))), (0, .ref (q 0)), (1, .int (nI (nn x))), (2, .int (nI (nn y))), (3, .int (nI (nn w)))]) hx hb d_M_sum_112 hl (by decide) rfl (fun ls hl => ?_)
                have LP114 : ∀ (fub i : Nat), S.2.1 3 - i < fub → i ≤ S.2.1 3 → (nn w = 2 ∨ i = 0) → ∀ ls : Array Slot, lv_has ls 6 [(5, .int (nI i)), (4, .int (nI ((if nn w = 1 then bad S (nn x) (nn y) else 0) + sIf (fun j => decide (S.1 9 j = 1) && (decide (S.1 5 j = nn x) && (decide (S.1 0 (S.1 6 j) = nn y) && (!false || decide (S.1 8 j ≤ S.1 1 (S.1 6 j)))))) (fun j => S.1 7 j) i))), (0, .ref (q 0)), (1, .int (nI (nn x))), (2, .int (nI (nn y))), (3, .int (nI (nn w)))] → W p l e (headSpec (.code y_M_sum b_M_sum 6 (some .int) :: bg) { frames := 4, cells := 0, slots := 0, locals := 89 }).room s m (List.toArray [.ref (q 0), .int x, .int y, .int w]) below meth c H locs 0 0 (MQ below (wr_Q (some (.int ((op_sum S x y w).2.1))) (dC, dI) classes (wM q cI cZ ((op_sum S x y w).2.2) (nI (op_sum S x y w).1)) A) (List.toArray [.ref (q 0), .int x, .int y, .int w]) s 0 0 A) (F0 m 114 ls []) := by
                  intro fub
                  induction fub with
                  | zero => intro i h; exact absurd h (Nat.not_lt_zero _)
                  | succ fub ihb =>
                    intro i hfub hib hhb0 ls hl
                    refine lv_iload hx hb d_M_sum_114 (lv_at hl 0 rfl) ?_
                    refine lv_aload_n hx hb d_M_sum_116 rfl (lv_at hl 2 rfl) ?_
                    refine va_get (D := (dC, dI)) (ci := 3) (v := .int (nI (S.2.1 3))) (C := R_M) (T := F_M) (N := 37) hx hb hts i_M hown hK hP 0 rfl rfl 10 (by decide) (hts _ wd_565) (fun _ h9 => h9) rfl d_M_sum_117 ?_
                    refine nv_cge (tgt := 183) hx hb (by omega) (by omega) d_M_sum_120 (by decide) (fun c120 => ?_) (fun c120 => ?_)
                    · obtain rfl : i = S.2.1 3 := by omega
                      have hvf : (if nn w = 1 then bad S (nn x) (nn y) else 0) + sIf (fun j => decide (S.1 9 j = 1) && (decide (S.1 5 j = nn x) && (decide (S.1 0 (S.1 6 j) = nn y) && (!false || decide (S.1 8 j ≤ S.1 1 (S.1 6 j)))))) (fun j => S.1 7 j) (S.2.1 3) = if nn w = 1 then bad S (nn x) (nn y) else way S false (nn x) (nn y) := sum_v2 (by omega) hhb0
                      have hl : lv_has ls 6 [(5, .int (nI (S.2.1 3))), (4, .int (nI (if nn w = 1 then bad S (nn x) (nn y) else way S false (nn x) (nn y)))), (0, .ref (q 0)), (1, .int (nI (nn x))), (2, .int (nI (nn y))), (3, .int (nI (nn w)))] := by rw [← hvf]; exact hl
                      rcases (show nn w = 1 ∨ nn w = 2 by omega) with hw | hw
                      · refine lv_iload hx hb d_M_sum_183 (lv_at hl 1 rfl) ?_
                        have ho : op_sum S x y w = (0, nI (bad S (nn x) (nn y)), S) := by unfold op_sum; rw [if_pos k1, if_pos k2, if_neg (fun h => c46 (by rw [h]; rfl)), if_pos (show w = 1 from e_w.trans (congrArg nI hw))]
                        rw [ho]
                        refine nv_as (nI (bad S (nn x) (nn y))) (by rw [if_pos hw]) ?_
                        have hP9 : va_P (dC, dI) classes (wM q cI cZ (S) (nI 0)) H := hP
                        exact W.iret hx hb hr (fun t ht hW => ⟨rfl, by rw [ht]; exact hP9, hS.F ht⟩) hS.2.2 d_M_sum_185
                      · refine lv_iload hx hb d_M_sum_183 (lv_at hl 1 rfl) ?_
                        have ho : op_sum S x y w = (0, nI (way S false (nn x) (nn y)), S) := by unfold op_sum; rw [if_pos k1, if_pos k2, if_neg (fun h => c46 (by rw [h]; rfl)), if_neg (fun h => absurd hw (by rw [h]; decide)), if_pos (show w = 2 from e_w.trans (congrArg nI hw))]
                        rw [ho]
                        refine nv_as (nI (way S false (nn x) (nn y))) (by rw [if_neg (by omega)]) ?_
                        have hP9 : va_P (dC, dI) classes (wM q cI cZ (S) (nI 0)) H := hP
                        exact W.iret hx hb hr (fun t ht hW => ⟨rfl, by rw [ht]; exact hP9, hS.F ht⟩) hS.2.2 d_M_sum_185
                    · refine lv_iload_n hx hb d_M_sum_123 rfl (lv_at hl 5 rfl) ?_
                      refine lv_iconst (v := nI 2) hx hb d_M_sum_124 (by decide) ?_
                      refine nv_cne (tgt := 183) hx hb (by omega) (by omega) d_M_sum_125 (by decide) (fun c125 => ?_) (fun c125 => ?_)
                      · obtain rfl : i = 0 := hhb0.resolve_left c125
                        have hvf : (if nn w = 1 then bad S (nn x) (nn y) else 0) + sIf (fun j => decide (S.1 9 j = 1) && (decide (S.1 5 j = nn x) && (decide (S.1 0 (S.1 6 j) = nn y) && (!false || decide (S.1 8 j ≤ S.1 1 (S.1 6 j)))))) (fun j => S.1 7 j) 0 = if nn w = 1 then bad S (nn x) (nn y) else way S false (nn x) (nn y) := by rw [if_pos (show nn w = 1 by omega), if_pos (show nn w = 1 by omega)]; rfl
                        have hl : lv_has ls 6 [(5, .int (nI 0)), (4, .int (nI (if nn w = 1 then bad S (nn x) (nn y) else way S false (nn x) (nn y)))), (0, .ref (q 0)), (1, .int (nI (nn x))), (2, .int (nI (nn y))), (3, .int (nI (nn w)))] := by rw [← hvf]; exact hl
                        rcases (show nn w = 1 ∨ nn w = 2 by omega) with hw | hw
                        · refine lv_iload hx hb d_M_sum_183 (lv_at hl 1 rfl) ?_
                          have ho : op_sum S x y w = (0, nI (bad S (nn x) (nn y)), S) := by unfold op_sum; rw [if_pos k1, if_pos k2, if_neg (fun h => c46 (by rw [h]; rfl)), if_pos (show w = 1 from e_w.trans (congrArg nI hw))]
                          rw [ho]
                          refine nv_as (nI (bad S (nn x) (nn y))) (by rw [if_pos hw]) ?_
                          have hP9 : va_P (dC, dI) classes (wM q cI cZ (S) (nI 0)) H := hP
                          exact W.iret hx hb hr (fun t ht hW => ⟨rfl, by rw [ht]; exact hP9, hS.F ht⟩) hS.2.2 d_M_sum_185
                        · refine lv_iload hx hb d_M_sum_183 (lv_at hl 1 rfl) ?_
                          have ho : op_sum S x y w = (0, nI (way S false (nn x) (nn y)), S) := by unfold op_sum; rw [if_pos k1, if_pos k2, if_neg (fun h => c46 (by rw [h]; rfl)), if_neg (fun h => absurd hw (by rw [h]; decide)), if_pos (show w = 2 from e_w.trans (congrArg nI hw))]
                          rw [ho]
                          refine nv_as (nI (way S false (nn x) (nn y))) (by rw [if_neg (by omega)]) ?_
                          have hP9 : va_P (dC, dI) classes (wM q cI cZ (S) (nI 0)) H := hP
                          exact W.iret hx hb hr (fun t ht hW => ⟨rfl, by rw [ht]; exact hP9, hS.F ht⟩) hS.2.2 d_M_sum_185
                      · refine lv_aload_n hx hb d_M_sum_128 rfl (lv_at hl 2 rfl) ?_
                        refine va_get (D := (dC, dI)) (ci := 3) (v := .ref (q 11)) (C := R_M) (T := F_M) (N := 37) hx hb hts i_M hown hK hP 0 rfl rfl 15 (by decide) (hts _ wd_570) (fun _ h9 => h9) rfl d_M_sum_129 ?_
                        refine lv_iload hx hb d_M_sum_132 (lv_at hl 0 rfl) ?_
                        refine nv_zald (v := nI (S.1 9 i)) hx hb hK hP 11 1 rfl rfl (by omega) (by decide) rfl d_M_sum_134 ?_
                        have hb6 : S.1 9 i ≤ 1 := hB 9 _
                        refine nv_zeq (tgt := 177) hx hb (by omega) d_M_sum_135 (by decide) (fun c135 => ?_) (fun c135 => ?_)
                        · refine lv_iinc (v := nI (i + 1)) (lv' := [(5, .int (nI (i + 1))), (4, .int (nI ((if nn w = 1 then bad S (nn x) (nn y) else 0) + sIf (fun j => decide (S.1 9 j = 1) && (decide (S.1 5 j = nn x) && (decide (S.1 0 (S.1 6 j) = nn y) && (!false || decide (S.1 8 j ≤ S.1 1 (S.1 6 j)))))) (fun j => S.1 7 j) i))), (0, .ref (q 0)), (1, .int (nI (nn x))), (2, .int (nI (nn y))), (3, .int (nI (nn w)))]) hx hb d_M_sum_177 hl (k := 0) rfl (nI_1 _) (by decide) rfl (fun ls hl => ?_)
                          refine lv_goto (tgt := 114) hx hb d_M_sum_180 (by decide) ?_
                          exact ihb (i + 1) (by omega) (by omega) (Or.inl c125) ls (lv_sub hl [0, 1, 2, 3, 4, 5] (by rw [sIf_f (by simp [c135])]; rfl))
                        · refine lv_aload_n hx hb d_M_sum_138 rfl (lv_at hl 2 rfl) ?_
                          refine va_get (D := (dC, dI)) (ci := 3) (v := .ref (q 7)) (C := R_M) (T := F_M) (N := 37) hx hb hts i_M hown hK hP 0 rfl rfl 11 (by decide) (hts _ wd_566) (fun _ h9 => h9) rfl d_M_sum_139 ?_
                          refine lv_iload hx hb d_M_sum_142 (lv_at hl 0 rfl) ?_
                          refine nv_iald (v := nI (S.1 5 i)) hx hb hK hP 7 0 rfl rfl (by omega) (by decide) rfl d_M_sum_144 ?_
                          have hb7 : S.1 5 i ≤ 7 := hB 5 _
                          refine lv_iload_n hx hb d_M_sum_145 rfl (lv_at hl 3 rfl) ?_
                          refine nv_cne (tgt := 177) hx hb (by omega) (by omega) d_M_sum_146 (by decide) (fun c146 => ?_) (fun c146 => ?_)
                          · refine lv_iinc (v := nI (i + 1)) (lv' := [(5, .int (nI (i + 1))), (4, .int (nI ((if nn w = 1 then bad S (nn x) (nn y) else 0) + sIf (fun j => decide (S.1 9 j = 1) && (decide (S.1 5 j = nn x) && (decide (S.1 0 (S.1 6 j) = nn y) && (!false || decide (S.1 8 j ≤ S.1 1 (S.1 6 j)))))) (fun j => S.1 7 j) i))), (0, .ref (q 0)), (1, .int (nI (nn x))), (2, .int (nI (nn y))), (3, .int (nI (nn w)))]) hx hb d_M_sum_177 hl (k := 0) rfl (nI_1 _) (by decide) rfl (fun ls hl => ?_)
                            refine lv_goto (tgt := 114) hx hb d_M_sum_180 (by decide) ?_
                            exact ihb (i + 1) (by omega) (by omega) (Or.inl c125) ls (lv_sub hl [0, 1, 2, 3, 4, 5] (by rw [sIf_f (by simp [c146])]; rfl))
                          · refine lv_aload_n hx hb d_M_sum_149 rfl (lv_at hl 2 rfl) ?_
                            refine va_get (D := (dC, dI)) (ci := 3) (v := .ref (q 1)) (C := R_M) (T := F_M) (N := 37) hx hb hts i_M hown hK hP 0 rfl rfl 4 (by decide) (hts _ wd_559) (fun _ h9 => h9) rfl d_M_sum_150 ?_
                            refine lv_aload_n hx hb d_M_sum_153 rfl (lv_at hl 2 rfl) ?_
                            refine va_get (D := (dC, dI)) (ci := 3) (v := .ref (q 8)) (C := R_M) (T := F_M) (N := 37) hx hb hts i_M hown hK hP 0 rfl rfl 12 (by decide) (hts _ wd_567) (fun _ h9 => h9) rfl d_M_sum_154 ?_
                            refine lv_iload hx hb d_M_sum_157 (lv_at hl 0 rfl) ?_
                            refine nv_iald (v := nI (S.1 6 i)) hx hb hK hP 8 0 rfl rfl (by omega) (by decide) rfl d_M_sum_159 ?_
                            have hb8 : S.1 6 i ≤ 59 := hB 6 _
                            refine nv_iald (v := nI (S.1 0 (S.1 6 i))) hx hb hK hP 1 0 rfl rfl (by omega) (by decide) rfl d_M_sum_160 ?_
                            have hb9 : S.1 0 (S.1 6 i) ≤ 9 := hB 0 _
                            refine lv_iload_n hx hb d_M_sum_161 rfl (lv_at hl 4 rfl) ?_
                            refine nv_cne (tgt := 177) hx hb (by omega) (by omega) d_M_sum_162 (by decide) (fun c162 => ?_) (fun c162 => ?_)
                            · refine lv_iinc (v := nI (i + 1)) (lv' := [(5, .int (nI (i + 1))), (4, .int (nI ((if nn w = 1 then bad S (nn x) (nn y) else 0) + sIf (fun j => decide (S.1 9 j = 1) && (decide (S.1 5 j = nn x) && (decide (S.1 0 (S.1 6 j) = nn y) && (!false || decide (S.1 8 j ≤ S.1 1 (S.1 6 j)))))) (fun j => S.1 7 j) i))), (0, .ref (q 0)), (1, .int (nI (nn x))), (2, .int (nI (nn y))), (3, .int (nI (nn w)))]) hx hb d_M_sum_177 hl (k := 0) rfl (nI_1 _) (by decide) rfl (fun ls hl => ?_)
                              refine lv_goto (tgt := 114) hx hb d_M_sum_180 (by decide) ?_
                              exact ihb (i + 1) (by omega) (by omega) (Or.inl c125) ls (lv_sub hl [0, 1, 2, 3, 4, 5] (by rw [sIf_f (by simp [c162])]; rfl))
                            · refine lv_iload hx hb d_M_sum_165 (lv_at hl 1 rfl) ?_
                              refine lv_aload_n hx hb d_M_sum_167 rfl (lv_at hl 2 rfl) ?_
                              refine va_get (D := (dC, dI)) (ci := 3) (v := .ref (q 9)) (C := R_M) (T := F_M) (N := 37) hx hb hts i_M hown hK hP 0 rfl rfl 13 (by decide) (hts _ wd_568) (fun _ h9 => h9) rfl d_M_sum_168 ?_
                              refine lv_iload hx hb d_M_sum_171 (lv_at hl 0 rfl) ?_
                              refine nv_iald (v := nI (S.1 7 i)) hx hb hK hP 9 0 rfl rfl (by omega) (by decide) rfl d_M_sum_173 ?_
                              have hb10 : S.1 7 i ≤ 9999 := hB 7 _
                              refine nv_add hx hb d_M_sum_174 ?_
                              refine lv_istore (lv' := [(4, .int (nI (((if nn w = 1 then bad S (nn x) (nn y) else 0) + sIf (fun j => decide (S.1 9 j = 1) && (decide (S.1 5 j = nn x) && (decide (S.1 0 (S.1 6 j) = nn y) && (!false || decide (S.1 8 j ≤ S.1 1 (S.1 6 j)))))) (fun j => S.1 7 j) i) + (S.1 7 i)))), (5, .int (nI i)), (0, .ref (q 0)), (1, .int (nI (nn x))), (2, .int (nI (nn y))), (3, .int (nI (nn w)))]) hx hb d_M_sum_175 hl (by decide) rfl (fun ls hl => ?_)
                              refine lv_iinc (v := nI (i + 1)) (lv' := [(5, .int (nI (i + 1))), (4, .int (nI (((if nn w = 1 then bad S (nn x) (nn y) else 0) + sIf (fun j => decide (S.1 9 j = 1) && (decide (S.1 5 j = nn x) && (decide (S.1 0 (S.1 6 j) = nn y) && (!false || decide (S.1 8 j ≤ S.1 1 (S.1 6 j)))))) (fun j => S.1 7 j) i) + (S.1 7 i)))), (0, .ref (q 0)), (1, .int (nI (nn x))), (2, .int (nI (nn y))), (3, .int (nI (nn w)))]) hx hb d_M_sum_177 hl (k := 1) rfl (nI_1 _) (by decide) rfl (fun ls hl => ?_)
                              refine lv_goto (tgt := 114) hx hb d_M_sum_180 (by decide) ?_
                              exact ihb (i + 1) (by omega) (by omega) (Or.inl c125) ls (lv_sub hl [0, 1, 2, 3, 4, 5] (by rw [sIf_t (by simp [c146, c162]; omega), ← Nat.add_assoc]; rfl))
                exact LP114 (S.2.1 3 + 1) 0 (by omega) (by omega) (Or.inr rfl) ls (lv_sub hl [0, 1, 2, 3, 4, 5] rfl)
              · refine lv_aload_n hx hb d_M_sum_73 rfl (lv_at hl 2 rfl) ?_
                refine va_get (D := (dC, dI)) (ci := 3) (v := .ref (q 1)) (C := R_M) (T := F_M) (N := 37) hx hb hts i_M hown hK hP 0 rfl rfl 4 (by decide) (hts _ wd_559) (fun _ h9 => h9) rfl d_M_sum_74 ?_
                refine lv_iload hx hb d_M_sum_77 (lv_at hl 0 rfl) ?_
                refine nv_iald (v := nI (S.1 0 i)) hx hb hK hP 1 0 rfl rfl (by omega) (by decide) rfl d_M_sum_79 ?_
                have hb11 : S.1 0 i ≤ 9 := hB 0 _
                refine lv_iload_n hx hb d_M_sum_80 rfl (lv_at hl 4 rfl) ?_
                refine nv_cne (tgt := 105) hx hb (by omega) (by omega) d_M_sum_81 (by decide) (fun c81 => ?_) (fun c81 => ?_)
                · refine lv_iinc (v := nI (i + 1)) (lv' := [(5, .int (nI (i + 1))), (4, .int (nI (sIf (fun j => decide (S.1 0 j = nn y) && !decide (S.2.1 1 ≤ S.1 1 j)) (fun j => S.1 25 (nn x * 60 + j)) i))), (0, .ref (q 0)), (1, .int (nI (nn x))), (2, .int (nI (nn y))), (3, .int (nI (nn w)))]) hx hb d_M_sum_105 hl (k := 0) rfl (nI_1 _) (by decide) rfl (fun ls hl => ?_)
                  refine lv_goto (tgt := 59) hx hb d_M_sum_108 (by decide) ?_
                  exact iha (i + 1) (by omega) (by omega) (Or.inl c70) ls (lv_sub hl [0, 1, 2, 3, 4, 5] (by rw [sIf_f (by simp [c81])]; rfl))
                · refine lv_aload_n hx hb d_M_sum_84 rfl (lv_at hl 2 rfl) ?_
                  refine lv_iload hx hb d_M_sum_85 (lv_at hl 0 rfl) ?_
                  refine pu_go (va_runV (As := [.int (nI i)]) (rest := []) ⟨hx, hb, hml, hown, hts⟩ (c_M_isGood l dC dI cI cZ q S (nI 0) t hI i (by omega)) (cwV 1 hts (gi_V wd_728 wd_730 wp_28 wd_5 wd_731) rfl rfl rfl (by decide +kernel) ⟨Nat.le_of_ble_eq_true rfl, Nat.le_of_ble_eq_true rfl⟩) (pu_preV hK hP (ci := 3) (q0 := 0) rfl rfl) rfl rfl hl.1 rfl (lv_room (Nat.le_of_ble_eq_true rfl)) d_M_sum_87 ⟨Nat.le_of_ble_eq_true rfl, Nat.le_of_ble_eq_true rfl⟩) ?_
                  refine nv_bn (tgt := 105) hx hb d_M_sum_90 (by decide) (fun c90 => ?_) (fun c90 => ?_)
                  · refine lv_iinc (v := nI (i + 1)) (lv' := [(5, .int (nI (i + 1))), (4, .int (nI (sIf (fun j => decide (S.1 0 j = nn y) && !decide (S.2.1 1 ≤ S.1 1 j)) (fun j => S.1 25 (nn x * 60 + j)) i))), (0, .ref (q 0)), (1, .int (nI (nn x))), (2, .int (nI (nn y))), (3, .int (nI (nn w)))]) hx hb d_M_sum_105 hl (k := 0) rfl (nI_1 _) (by decide) rfl (fun ls hl => ?_)
                    refine lv_goto (tgt := 59) hx hb d_M_sum_108 (by decide) ?_
                    exact iha (i + 1) (by omega) (by omega) (Or.inl c70) ls (lv_sub hl [0, 1, 2, 3, 4, 5] (by rw [sIf_f (by simp [c90])]; rfl))
                  · refine lv_iload hx hb d_M_sum_93 (lv_at hl 1 rfl) ?_
                    refine lv_aload_n hx hb d_M_sum_95 rfl (lv_at hl 2 rfl) ?_
                    refine lv_iload_n hx hb d_M_sum_96 rfl (lv_at hl 3 rfl) ?_
                    refine lv_iload hx hb d_M_sum_97 (lv_at hl 0 rfl) ?_
                    refine pu_go (va_runV (As := [.int (nI (nn x)), .int (nI i)]) (rest := [.int (nI (sIf (fun j => decide (S.1 0 j = nn y) && !decide (S.2.1 1 ≤ S.1 1 j)) (fun j => S.1 25 (nn x * 60 + j)) i))]) ⟨hx, hb, hml, hown, hts⟩ (c_M_at l dC dI cI cZ q S (nI 0) t hI (nI (nn x)) (nI i)) (cwV 2 hts (gi_V wd_705 wd_707 wp_25 wd_5 wd_708) rfl rfl rfl (by decide +kernel) ⟨Nat.le_of_ble_eq_true rfl, Nat.le_of_ble_eq_true rfl⟩) (pu_preV hK hP (ci := 3) (q0 := 0) rfl rfl) rfl rfl hl.1 rfl (lv_room (Nat.le_of_ble_eq_true rfl)) d_M_sum_99 ⟨Nat.le_of_ble_eq_true rfl, Nat.le_of_ble_eq_true rfl⟩) ?_
                    refine nv_as (nI (S.1 25 ((nn x) * 60 + i))) (atv_n (by omega) (by omega) (by omega) (by omega)) ?_
                    have hb12 : S.1 25 ((nn x) * 60 + i) ≤ 9999 := hB 25 _
                    refine nv_add hx hb d_M_sum_102 ?_
                    refine lv_istore (lv' := [(4, .int (nI ((sIf (fun j => decide (S.1 0 j = nn y) && !decide (S.2.1 1 ≤ S.1 1 j)) (fun j => S.1 25 (nn x * 60 + j)) i) + (S.1 25 ((nn x) * 60 + i))))), (5, .int (nI i)), (0, .ref (q 0)), (1, .int (nI (nn x))), (2, .int (nI (nn y))), (3, .int (nI (nn w)))]) hx hb d_M_sum_103 hl (by decide) rfl (fun ls hl => ?_)
                    refine lv_iinc (v := nI (i + 1)) (lv' := [(5, .int (nI (i + 1))), (4, .int (nI ((sIf (fun j => decide (S.1 0 j = nn y) && !decide (S.2.1 1 ≤ S.1 1 j)) (fun j => S.1 25 (nn x * 60 + j)) i) + (S.1 25 ((nn x) * 60 + i))))), (0, .ref (q 0)), (1, .int (nI (nn x))), (2, .int (nI (nn y))), (3, .int (nI (nn w)))]) hx hb d_M_sum_105 hl (k := 1) rfl (nI_1 _) (by decide) rfl (fun ls hl => ?_)
                    refine lv_goto (tgt := 59) hx hb d_M_sum_108 (by decide) ?_
                    exact iha (i + 1) (by omega) (by omega) (Or.inl c70) ls (lv_sub hl [0, 1, 2, 3, 4, 5] (by rw [sIf_t (by simp [c81, c90])]; rfl))
        exact LP59 (S.2.1 2 + 1) 0 (by omega) (by omega) (Or.inr rfl) ls (lv_sub hl [0, 1, 2, 3, 4, 5] rfl)
      · refine lv_aload_n hx hb d_M_sum_49 rfl (lv_at hl 1 rfl) ?_
        refine lv_iload_n hx hb d_M_sum_50 rfl (lv_at hl 2 rfl) ?_
        refine lv_iload_n hx hb d_M_sum_51 rfl (lv_at hl 3 rfl) ?_
        refine pu_go (va_runV (As := [.int (nI (nn x)), .int (nI (nn y))]) (rest := []) ⟨hx, hb, hml, hown, hts⟩ (c_M_good l dC dI cI cZ q S (nI 0) t hI (nn x) (nn y) (by omega) (by omega)) (cwV 2 hts (gi_V wd_724 wd_726 wp_27 wd_5 wd_727) rfl rfl rfl (by decide +kernel) ⟨Nat.le_of_ble_eq_true rfl, Nat.le_of_ble_eq_true rfl⟩) (pu_preV hK hP (ci := 3) (q0 := 0) rfl rfl) rfl rfl hl.1 rfl (lv_room (Nat.le_of_ble_eq_true rfl)) d_M_sum_52 ⟨Nat.le_of_ble_eq_true rfl, Nat.le_of_ble_eq_true rfl⟩) ?_
        have hb13 := good_le hI (nn x) (nn y)
        have ho : op_sum S x y w = (0, nI (good S (nn x) (nn y)), S) := by unfold op_sum; rw [if_pos k1, if_pos k2, if_pos (show w = 0 from e_w.trans (congrArg nI c46))]
        rw [ho]
        have hP9 : va_P (dC, dI) classes (wM q cI cZ (S) (nI 0)) H := hP
        exact W.iret hx hb hr (fun t ht hW => ⟨rfl, by rw [ht]; exact hP9, hS.F ht⟩) hS.2.2 d_M_sum_55
    · refine lv_iconst (v := nI 0) hx hb d_M_sum_40 (by decide) ?_
      have ho : op_sum S x y w = ((gth (nI 1) (gbit (ok x (S.2.1 0) && (ok y 10 && rg w 0 2)) true true true)), 0, S) := of_sum hI c37
      rw [ho]
      refine nv_as (0) (by rfl) ?_
      have hP9 : va_P (dC, dI) classes (wM q cI cZ (S) (nI (gth (nI 1) (gbit (ok x (S.2.1 0) && (ok y 10 && rg w 0 2)) true true true)))) H := hP
      exact W.iret hx hb hr (fun t ht hW => ⟨rfl, by rw [ht]; exact hP9, hS.F ht⟩) hS.2.2 d_M_sum_41
  refine lv_aload_n hx hb d_M_sum_2 rfl (lv_at hl 0 rfl) ?_
  refine lv_iload_n hx hb d_M_sum_3 rfl (lv_at hl 1 rfl) ?_
  refine pu_go (va_runV (As := [.int x]) (rest := [.int (nI 1), .ref (q 0)]) ⟨hx, hb, hml, hown, hts⟩ (c_M_isStore l dC dI cI cZ q S th t hI x) (cwV 1 hts (gi_V wd_694 wd_696 wp_23 wd_5 wd_697) rfl rfl rfl (by decide +kernel) ⟨Nat.le_of_ble_eq_true rfl, Nat.le_of_ble_eq_true rfl⟩) (pu_preV hK hP (ci := 3) (q0 := 0) rfl rfl) rfl rfl hl.1 rfl (lv_room (Nat.le_of_ble_eq_true rfl)) d_M_sum_4 ⟨Nat.le_of_ble_eq_true rfl, Nat.le_of_ble_eq_true rfl⟩) ?_
  refine nv_bz (tgt := 30) hx hb d_M_sum_7 (by decide) (fun c7 => ?_) (fun c7 => ?_)
  · refine lv_iconst (v := nI 0) hx hb d_M_sum_30 (by decide) ?_
    refine nv_as (b2 (ok x (S.2.1 0) && (ok y 10 && rg w 0 2))) (b2_of0 (by simp [c7])) ?_
    exact J31
  · refine lv_iload_n hx hb d_M_sum_10 rfl (lv_at hl 2 rfl) ?_
    refine pu_go (va_runS (As := [.int y]) (rest := [.int (nI 1), .ref (q 0)]) ⟨hx, hb, hml, hown, hts⟩ (c_M_isKind l dC dI y) (cwS 1 hts (gi_S wd_684 wd_685 wd_5 wd_686) rfl rfl rfl (by decide +kernel) ⟨Nat.le_of_ble_eq_true rfl, Nat.le_of_ble_eq_true rfl⟩) (pu_preS (hK.sub (tys' := []) [] rfl) (fun k q h => by simp at h)) rfl rfl hl.1 rfl (lv_room (Nat.le_of_ble_eq_true rfl)) d_M_sum_11 ⟨Nat.le_of_ble_eq_true rfl, Nat.le_of_ble_eq_true rfl⟩) ?_
    refine nv_bz (tgt := 30) hx hb d_M_sum_14 (by decide) (fun c14 => ?_) (fun c14 => ?_)
    · refine lv_iconst (v := nI 0) hx hb d_M_sum_30 (by decide) ?_
      refine nv_as (b2 (ok x (S.2.1 0) && (ok y 10 && rg w 0 2))) (b2_of0 (by simp [c7, c14])) ?_
      exact J31
    · refine lv_iload_n hx hb d_M_sum_17 rfl (lv_at hl 3 rfl) ?_
      refine lv_iconst (v := nI 0) hx hb d_M_sum_18 (by decide) ?_
      refine lv_iconst (v := nI 2) hx hb d_M_sum_19 (by decide) ?_
      refine pu_go (va_runS (As := [.int w, .int (nI 0), .int (nI 2)]) (rest := [.int (nI 1), .ref (q 0)]) ⟨hx, hb, hml, hown, hts⟩ (c_M_in l dC dI w (nI 0) (nI 2)) (cwS 3 hts (gi_S wd_687 wd_688 wd_5 wd_689) rfl rfl rfl (by decide +kernel) ⟨Nat.le_of_ble_eq_true rfl, Nat.le_of_ble_eq_true rfl⟩) (pu_preS (hK.sub (tys' := []) [] rfl) (fun k q h => by simp at h)) rfl rfl hl.1 rfl (lv_room (Nat.le_of_ble_eq_true rfl)) d_M_sum_20 ⟨Nat.le_of_ble_eq_true rfl, Nat.le_of_ble_eq_true rfl⟩) ?_
      refine nv_as (b2 (rg w 0 2)) (congrArg b2 (in_rg (by decide) (by decide))) ?_
      refine nv_bz (tgt := 30) hx hb d_M_sum_23 (by decide) (fun c23 => ?_) (fun c23 => ?_)
      · refine lv_iconst (v := nI 0) hx hb d_M_sum_30 (by decide) ?_
        refine nv_as (b2 (ok x (S.2.1 0) && (ok y 10 && rg w 0 2))) (b2_of0 (by simp [c7, c14, c23])) ?_
        exact J31
      · refine lv_iconst (v := nI 1) hx hb d_M_sum_26 (by decide) ?_
        refine lv_goto (tgt := 31) hx hb d_M_sum_27 (by decide) ?_
        refine nv_as (b2 (ok x (S.2.1 0) && (ok y 10 && rg w 0 2))) (b2_of1 (by simp [c7, c14, c23])) ?_
        exact J31
set_option maxHeartbeats 4000000 in
set_option maxRecDepth 100000 in
theorem c_M_dip (l : Launch) (dC : Nat → ClassId) (dI : Nat → Nat → Nat) (sz : Nat) (cI cZ : ClassId) (q : Nat → Nat) (S : St) (th : Int32) (t : Nat) (hI : Bd t S) (x : Int32) (hV : Inv t S)  : Met l y_M_dip (.code y_M_dip b_M_dip 3 (some .int) :: bg) { frames := 1, cells := 0, slots := 0, locals := 27 } (wr_P (dC, dI) classes (wM q cI cZ S th) [(cI, .int), (cZ, .boolean)] sz [.ref (q 0), .int x]) (wr_Q (some (.int ((op_dip S x).2.1))) (dC, dI) classes (wM q cI cZ ((op_dip S x).2.2) (nI (op_dip S x).1)) (va_A (wM q cI cZ S th) sz)) 0 0 (va_A (wM q cI cZ S th) sz) := by
  refine Met.ofW (cc := b_M_dip) (maxL := 3) (ret := (some .int)) (by decide) rfl ?_
  intro p e s m args below meth c s₁ B hml hv
  obtain ⟨rfl, hsz, hP, hK, hD0⟩ := hv
  subst hsz
  have hD := hD0.self (sz := s.heap.size)
  generalize hAe : va_A (wM q cI cZ S th) s.heap.size = A at hD ⊢
  have hA : ∀ q : Nat, s.heap.size ≤ q → A q := fun q h => by rw [← hAe]; exact Or.inr h
  have hS : va_S A s.heap s.heap [] := va_S.rf
  have hx := B.exec
  have hb := B.bytes
  have hr := B.returns
  have hts := fun w (h : w ∈ bg) => atoms_spec (ws := .code y_M_dip b_M_dip 3 (some .int) :: bg) B.pre w (List.mem_cons_of_mem _ h)
  have hown : s.vm.findClass R_M = some m.cls := findClass_of_methodNamed B.named
  have hlocks := B.notSynchronized
  have hl := lv_entry ([.ref (q 0), .int x]) (n := 3) (Nat.le_of_ble_eq_true rfl)
  rw [lg_entry_eq]
  generalize (lg_sl ([.ref (q 0), .int x]) ++ List.replicate (3 - (lg_sl ([.ref (q 0), .int x])).length) Slot.unset).toArray = ls at hl ⊢
  have hl : lv_has ls 3 [(0, .ref (q 0)), (1, .int x)] := hl
  have hB := hI.1
  have hg0 : S.2.1 0 ≤ 8 := hI.2.1 0
  have hg1 : S.2.1 1 ≤ 9999 := hI.2.1 1
  have hg2 : S.2.1 2 ≤ 60 := hI.2.1 2
  have hg3 : S.2.1 3 ≤ 60 := hI.2.1 3
  have hg4 : S.2.1 4 ≤ 80 := hI.2.1 4
  have hg5 : S.2.1 5 ≤ 20 := hI.2.1 5
  have hg6 : S.2.1 6 ≤ 80 := hI.2.1 6
  have hg7 : S.2.1 7 ≤ 10 := hI.2.1 7
  have hg8 : t ≤ 512 := hI.2.2
  refine lv_aload_n hx hb d_M_dip_0 rfl (lv_at hl 0 rfl) ?_
  refine lv_iconst (v := nI 2) hx hb d_M_dip_1 (by decide) ?_
  refine lv_iconst (v := b2 true) hx hb d_M_dip_2 (by decide) ?_
  refine lv_iload_n hx hb d_M_dip_3 rfl (lv_at hl 1 rfl) ?_
  refine lv_iconst (v := nI 0) hx hb d_M_dip_4 (by decide) ?_
  refine lv_ldc hx hb hown (hts _ wd_808) d_M_dip_5 ?_
  refine nv_as (nI 99999) (by decide) ?_
  refine pu_go (va_runS (As := [.int x, .int (nI 0), .int (nI 99999)]) (rest := [.int (b2 true), .int (nI 2), .ref (q 0)]) ⟨hx, hb, hml, hown, hts⟩ (c_M_in l dC dI x (nI 0) (nI 99999)) (cwS 3 hts (gi_S wd_687 wd_688 wd_5 wd_689) rfl rfl rfl (by decide +kernel) ⟨Nat.le_of_ble_eq_true rfl, Nat.le_of_ble_eq_true rfl⟩) (pu_preS (hK.sub (tys' := []) [] rfl) (fun k q h => by simp at h)) rfl rfl hl.1 rfl (lv_room (Nat.le_of_ble_eq_true rfl)) d_M_dip_7 ⟨Nat.le_of_ble_eq_true rfl, Nat.le_of_ble_eq_true rfl⟩) ?_
  refine nv_as (b2 (rg x 0 99999)) (congrArg b2 (in_rg (by decide) (by decide))) ?_
  refine lv_iconst (v := b2 true) hx hb d_M_dip_10 (by decide) ?_
  refine lv_iconst (v := b2 true) hx hb d_M_dip_11 (by decide) ?_
  refine wr_goA (va_runV (As := [.int (nI 2), .int (b2 true), .int (b2 (rg x 0 99999)), .int (b2 true), .int (b2 true)]) (rest := []) ⟨hx, hb, hml, hown, hts⟩ (c_M_goes l dC dI s.heap.size cI cZ q S th t hI (nI 2) true (rg x 0 99999) true true) (cwV 5 hts (gi_V wd_676 wd_678 wp_22 wd_5 wd_679) rfl rfl rfl (by decide +kernel) ⟨Nat.le_of_ble_eq_true rfl, Nat.le_of_ble_eq_true rfl⟩) (wr_preV hK hP hD (ci := 3) (q0 := 0) rfl rfl) rfl rfl hl.1 rfl (lv_room (Nat.le_of_ble_eq_true rfl)) d_M_dip_12 ⟨Nat.le_of_ble_eq_true rfl, Nat.le_of_ble_eq_true rfl⟩) hD hS hA wM_adr (fun H locs hP hD hS => ?_)
  refine W.eq (g2 := F0 m 15 ls [.int (b2 (true && ((rg x 0 99999) && (true && true))))]) rfl ?_
  refine nv_bn (tgt := 20) hx hb d_M_dip_15 (by decide) (fun c15 => ?_) (fun c15 => ?_)
  · obtain ⟨k0, r0, t0, o0⟩ := and4 c15
    have hP : va_P (dC, dI) classes (wM q cI cZ S (nI 0)) H := by rw [gz c15] at hP; exact hP
    have hD : va_D A (wM q cI cZ S (nI 0)) := by rw [gz c15] at hD; exact hD
    obtain ⟨e_x, l_x, b_x⟩ := rg_of r0
    have hl : lv_has ls 3 [(0, .ref (q 0)), (1, .int (nI (nn x)))] := by rw [← e_x]; exact hl
    refine lv_iconst (v := nI 0) hx hb d_M_dip_20 (by decide) ?_
    refine lv_istore_n (lv' := [(2, .int (nI 0)), (0, .ref (q 0)), (1, .int (nI (nn x)))]) hx hb d_M_dip_21 rfl hl (by decide) rfl (fun ls hl => ?_)
    have LP22 : ∀ (fu i : Nat), S.2.1 7 - i < fu → i ≤ S.2.1 7 → (∀ r, r < i → S.1 29 r ≠ nn x ∧ (0 < r → ¬ (S.1 29 (r - 1) < nn x ∧ nn x < S.1 29 r))) → ∀ ls : Array Slot, lv_has ls 3 [(2, .int (nI i)), (0, .ref (q 0)), (1, .int (nI (nn x)))] → W p l e (headSpec (.code y_M_dip b_M_dip 3 (some .int) :: bg) { frames := 1, cells := 0, slots := 0, locals := 27 }).room s m (List.toArray [.ref (q 0), .int x]) below meth c H locs 0 0 (MQ below (wr_Q (some (.int ((op_dip S x).2.1))) (dC, dI) classes (wM q cI cZ ((op_dip S x).2.2) (nI (op_dip S x).1)) A) (List.toArray [.ref (q 0), .int x]) s 0 0 A) (F0 m 22 ls []) := by
      intro fu
      induction fu with
      | zero => intro i h; exact absurd h (Nat.not_lt_zero _)
      | succ fu ih =>
        intro i hfu hi hh0 ls hl
        refine lv_iload_n hx hb d_M_dip_22 rfl (lv_at hl 0 rfl) ?_
        refine lv_aload_n hx hb d_M_dip_23 rfl (lv_at hl 1 rfl) ?_
        refine va_get (D := (dC, dI)) (ci := 3) (v := .int (nI (S.2.1 7))) (C := R_M) (T := F_M) (N := 37) hx hb hts i_M hown hK hP 0 rfl rfl 34 (by decide) (hts _ wd_589) (fun _ h9 => h9) rfl d_M_dip_24 ?_
        refine nv_cge (tgt := 135) hx hb (by omega) (by omega) d_M_dip_27 (by decide) (fun c27 => ?_) (fun c27 => ?_)
        · obtain rfl : i = S.2.1 7 := by omega
          refine lv_iconst (v := (-1)) hx hb d_M_dip_135 (by decide) ?_
          have ho : op_dip S x = (0, -1, S) := by unfold op_dip; rw [if_pos r0, dipv_no hh0]
          rw [ho]
          refine nv_as (-1) (by rfl) ?_
          have hP9 : va_P (dC, dI) classes (wM q cI cZ (S) (nI 0)) H := hP
          exact W.iret hx hb hr (fun t ht hW => ⟨rfl, by rw [ht]; exact hP9, hS.F ht⟩) hS.2.2 d_M_dip_136
        · refine lv_aload_n hx hb d_M_dip_30 rfl (lv_at hl 1 rfl) ?_
          refine va_get (D := (dC, dI)) (ci := 3) (v := .ref (q 27)) (C := R_M) (T := F_M) (N := 37) hx hb hts i_M hown hK hP 0 rfl rfl 35 (by decide) (hts _ wd_590) (fun _ h9 => h9) rfl d_M_dip_31 ?_
          refine lv_iload_n hx hb d_M_dip_34 rfl (lv_at hl 0 rfl) ?_
          refine nv_iald (v := nI (S.1 29 i)) hx hb hK hP 27 0 rfl rfl (by omega) (by decide) rfl d_M_dip_35 ?_
          have hb1 : S.1 29 i ≤ 99999 := hB 29 _
          refine lv_iload_n hx hb d_M_dip_36 rfl (lv_at hl 2 rfl) ?_
          refine nv_cne (tgt := 47) hx hb (by omega) (by omega) d_M_dip_37 (by decide) (fun c37 => ?_) (fun c37 => ?_)
          · refine lv_iload_n hx hb d_M_dip_47 rfl (lv_at hl 0 rfl) ?_
            refine nv_zle (tgt := 129) hx hb (by omega) d_M_dip_48 (by decide) (fun c48 => ?_) (fun c48 => ?_)
            · refine lv_iinc (v := nI (i + 1)) (lv' := [(2, .int (nI (i + 1))), (0, .ref (q 0)), (1, .int (nI (nn x)))]) hx hb d_M_dip_129 hl (k := 0) rfl (nI_1 _) (by decide) rfl (fun ls hl => ?_)
              refine lv_goto (tgt := 22) hx hb d_M_dip_132 (by decide) ?_
              exact ih (i + 1) (by omega) (by omega) (fun r hr => (Nat.lt_succ_iff_lt_or_eq.mp hr).elim (hh0 r) (fun e => by rw [e]; exact ⟨c37, fun h0 hb => by omega⟩)) ls (lv_sub hl [0, 1, 2] (rfl))
            · refine lv_iload_n hx hb d_M_dip_51 rfl (lv_at hl 2 rfl) ?_
              refine lv_aload_n hx hb d_M_dip_52 rfl (lv_at hl 1 rfl) ?_
              refine va_get (D := (dC, dI)) (ci := 3) (v := .ref (q 27)) (C := R_M) (T := F_M) (N := 37) hx hb hts i_M hown hK hP 0 rfl rfl 35 (by decide) (hts _ wd_590) (fun _ h9 => h9) rfl d_M_dip_53 ?_
              refine lv_iload_n hx hb d_M_dip_56 rfl (lv_at hl 0 rfl) ?_
              refine lv_iconst (v := nI 1) hx hb d_M_dip_57 (by decide) ?_
              refine nv_sub hx hb (by omega) d_M_dip_58 ?_
              refine nv_iald (v := nI (S.1 29 (i - 1))) hx hb hK hP 27 0 rfl rfl (by omega) (by decide) rfl d_M_dip_59 ?_
              have hb2 : S.1 29 (i - 1) ≤ 99999 := hB 29 _
              refine nv_cle (tgt := 129) hx hb (by omega) (by omega) d_M_dip_60 (by decide) (fun c60 => ?_) (fun c60 => ?_)
              · refine lv_iinc (v := nI (i + 1)) (lv' := [(2, .int (nI (i + 1))), (0, .ref (q 0)), (1, .int (nI (nn x)))]) hx hb d_M_dip_129 hl (k := 0) rfl (nI_1 _) (by decide) rfl (fun ls hl => ?_)
                refine lv_goto (tgt := 22) hx hb d_M_dip_132 (by decide) ?_
                exact ih (i + 1) (by omega) (by omega) (fun r hr => (Nat.lt_succ_iff_lt_or_eq.mp hr).elim (hh0 r) (fun e => by rw [e]; exact ⟨c37, fun h0 hb => by omega⟩)) ls (lv_sub hl [0, 1, 2] (rfl))
              · refine lv_iload_n hx hb d_M_dip_63 rfl (lv_at hl 2 rfl) ?_
                refine lv_aload_n hx hb d_M_dip_64 rfl (lv_at hl 1 rfl) ?_
                refine va_get (D := (dC, dI)) (ci := 3) (v := .ref (q 27)) (C := R_M) (T := F_M) (N := 37) hx hb hts i_M hown hK hP 0 rfl rfl 35 (by decide) (hts _ wd_590) (fun _ h9 => h9) rfl d_M_dip_65 ?_
                refine lv_iload_n hx hb d_M_dip_68 rfl (lv_at hl 0 rfl) ?_
                refine nv_iald (v := nI (S.1 29 i)) hx hb hK hP 27 0 rfl rfl (by omega) (by decide) rfl d_M_dip_69 ?_
                have hb3 : S.1 29 i ≤ 99999 := hB 29 _
                refine nv_cge (tgt := 129) hx hb (by omega) (by omega) d_M_dip_70 (by decide) (fun c70 => ?_) (fun c70 => ?_)
                · refine lv_iinc (v := nI (i + 1)) (lv' := [(2, .int (nI (i + 1))), (0, .ref (q 0)), (1, .int (nI (nn x)))]) hx hb d_M_dip_129 hl (k := 0) rfl (nI_1 _) (by decide) rfl (fun ls hl => ?_)
                  refine lv_goto (tgt := 22) hx hb d_M_dip_132 (by decide) ?_
                  exact ih (i + 1) (by omega) (by omega) (fun r hr => (Nat.lt_succ_iff_lt_or_eq.mp hr).elim (hh0 r) (fun e => by rw [e]; exact ⟨c37, fun h0 hb => by omega⟩)) ls (lv_sub hl [0, 1, 2] (rfl))
                · have hr1 := hV.2.2.2.2.2.2.2 (i - 1) i (by omega) c27
                  have hx29 : S.1 29 i ≤ 99999 := hB 29 _
                  have hx30 : S.1 30 i ≤ 99999 := hB 30 _
                  refine lv_aload_n hx hb d_M_dip_73 rfl (lv_at hl 1 rfl) ?_
                  refine va_get (D := (dC, dI)) (ci := 3) (v := .ref (q 28)) (C := R_M) (T := F_M) (N := 37) hx hb hts i_M hown hK hP 0 rfl rfl 36 (by decide) (hts _ wd_591) (fun _ h9 => h9) rfl d_M_dip_74 ?_
                  refine lv_iload_n hx hb d_M_dip_77 rfl (lv_at hl 0 rfl) ?_
                  refine lv_iconst (v := nI 1) hx hb d_M_dip_78 (by decide) ?_
                  refine nv_sub hx hb (by omega) d_M_dip_79 ?_
                  refine nv_iald (v := nI (S.1 30 (i - 1))) hx hb hK hP 28 0 rfl rfl (by omega) (by decide) rfl d_M_dip_80 ?_
                  have hb4 : S.1 30 (i - 1) ≤ 99999 := hB 30 _
                  refine lv_aload_n hx hb d_M_dip_81 rfl (lv_at hl 1 rfl) ?_
                  refine va_get (D := (dC, dI)) (ci := 3) (v := .ref (q 28)) (C := R_M) (T := F_M) (N := 37) hx hb hts i_M hown hK hP 0 rfl rfl 36 (by decide) (hts _ wd_591) (fun _ h9 => h9) rfl d_M_dip_82 ?_
                  refine lv_iload_n hx hb d_M_dip_85 rfl (lv_at hl 0 rfl) ?_
                  refine nv_iald (v := nI (S.1 30 i)) hx hb hK hP 28 0 rfl rfl (by omega) (by decide) rfl d_M_dip_86 ?_
                  have hb5 : S.1 30 i ≤ 99999 := hB 30 _
                  refine lv_aload_n hx hb d_M_dip_87 rfl (lv_at hl 1 rfl) ?_
                  refine va_get (D := (dC, dI)) (ci := 3) (v := .ref (q 28)) (C := R_M) (T := F_M) (N := 37) hx hb hts i_M hown hK hP 0 rfl rfl 36 (by decide) (hts _ wd_591) (fun _ h9 => h9) rfl d_M_dip_88 ?_
                  refine lv_iload_n hx hb d_M_dip_91 rfl (lv_at hl 0 rfl) ?_
                  refine lv_iconst (v := nI 1) hx hb d_M_dip_92 (by decide) ?_
                  refine nv_sub hx hb (by omega) d_M_dip_93 ?_
                  refine nv_iald (v := nI (S.1 30 (i - 1))) hx hb hK hP 28 0 rfl rfl (by omega) (by decide) rfl d_M_dip_94 ?_
                  have hb6 : S.1 30 (i - 1) ≤ 99999 := hB 30 _
                  refine nv_sub hx hb (by omega) d_M_dip_95 ?_
                  refine lv_i2l (v := lN ((S.1 30 i) - (S.1 30 (i - 1)))) hx hb d_M_dip_96 (nI_l (by omega)) ?_
                  refine lv_iload_n hx hb d_M_dip_97 rfl (lv_at hl 2 rfl) ?_
                  refine lv_aload_n hx hb d_M_dip_98 rfl (lv_at hl 1 rfl) ?_
                  refine va_get (D := (dC, dI)) (ci := 3) (v := .ref (q 27)) (C := R_M) (T := F_M) (N := 37) hx hb hts i_M hown hK hP 0 rfl rfl 35 (by decide) (hts _ wd_590) (fun _ h9 => h9) rfl d_M_dip_99 ?_
                  refine lv_iload_n hx hb d_M_dip_102 rfl (lv_at hl 0 rfl) ?_
                  refine lv_iconst (v := nI 1) hx hb d_M_dip_103 (by decide) ?_
                  refine nv_sub hx hb (by omega) d_M_dip_104 ?_
                  refine nv_iald (v := nI (S.1 29 (i - 1))) hx hb hK hP 27 0 rfl rfl (by omega) (by decide) rfl d_M_dip_105 ?_
                  have hb7 : S.1 29 (i - 1) ≤ 99999 := hB 29 _
                  refine nv_sub hx hb (by omega) d_M_dip_106 ?_
                  refine lv_i2l (v := lN ((nn x) - (S.1 29 (i - 1)))) hx hb d_M_dip_107 (nI_l (by omega)) ?_
                  refine nv_lmul hx hb d_M_dip_108 ?_
                  refine lv_aload_n hx hb d_M_dip_109 rfl (lv_at hl 1 rfl) ?_
                  refine va_get (D := (dC, dI)) (ci := 3) (v := .ref (q 27)) (C := R_M) (T := F_M) (N := 37) hx hb hts i_M hown hK hP 0 rfl rfl 35 (by decide) (hts _ wd_590) (fun _ h9 => h9) rfl d_M_dip_110 ?_
                  refine lv_iload_n hx hb d_M_dip_113 rfl (lv_at hl 0 rfl) ?_
                  refine nv_iald (v := nI (S.1 29 i)) hx hb hK hP 27 0 rfl rfl (by omega) (by decide) rfl d_M_dip_114 ?_
                  have hb8 : S.1 29 i ≤ 99999 := hB 29 _
                  refine lv_aload_n hx hb d_M_dip_115 rfl (lv_at hl 1 rfl) ?_
                  refine va_get (D := (dC, dI)) (ci := 3) (v := .ref (q 27)) (C := R_M) (T := F_M) (N := 37) hx hb hts i_M hown hK hP 0 rfl rfl 35 (by decide) (hts _ wd_590) (fun _ h9 => h9) rfl d_M_dip_116 ?_
                  refine lv_iload_n hx hb d_M_dip_119 rfl (lv_at hl 0 rfl) ?_
                  refine lv_iconst (v := nI 1) hx hb d_M_dip_120 (by decide) ?_
                  refine nv_sub hx hb (by omega) d_M_dip_121 ?_
                  refine nv_iald (v := nI (S.1 29 (i - 1))) hx hb hK hP 27 0 rfl rfl (by omega) (by decide) rfl d_M_dip_122 ?_
                  have hb9 : S.1 29 (i - 1) ≤ 99999 := hB 29 _
                  refine nv_sub hx hb (by omega) d_M_dip_123 ?_
                  refine lv_i2l (v := lN ((S.1 29 i) - (S.1 29 (i - 1)))) hx hb d_M_dip_124 (nI_l (by omega)) ?_
                  refine nv_ldiv hx hb (Nat.lt_of_le_of_lt (Nat.mul_le_mul (show _ ≤ 99999 by omega) (show _ ≤ 99999 by omega)) (by decide)) (by omega) (by omega) d_M_dip_125 ?_
                  refine lv_l2i (v := nI ((((S.1 30 i) - (S.1 30 (i - 1))) * ((nn x) - (S.1 29 (i - 1)))) / ((S.1 29 i) - (S.1 29 (i - 1))))) hx hb d_M_dip_126 (lN_i _) ?_
                  refine nv_add hx hb d_M_dip_127 ?_
                  have ho : op_dip S x = (0, nI (S.1 30 (i - 1) + (S.1 30 i - S.1 30 (i - 1)) * (nn x - S.1 29 (i - 1)) / (S.1 29 i - S.1 29 (i - 1))), S) := by unfold op_dip; rw [if_pos r0, dipv_in c27 c48 c60 c70 (hV.2.2.2.2.2.2.2)]
                  rw [ho]
                  refine nv_as (nI (S.1 30 (i - 1) + (S.1 30 i - S.1 30 (i - 1)) * (nn x - S.1 29 (i - 1)) / (S.1 29 i - S.1 29 (i - 1)))) (by rfl) ?_
                  have hP9 : va_P (dC, dI) classes (wM q cI cZ (S) (nI 0)) H := hP
                  exact W.iret hx hb hr (fun t ht hW => ⟨rfl, by rw [ht]; exact hP9, hS.F ht⟩) hS.2.2 d_M_dip_128
          · refine lv_aload_n hx hb d_M_dip_40 rfl (lv_at hl 1 rfl) ?_
            refine va_get (D := (dC, dI)) (ci := 3) (v := .ref (q 28)) (C := R_M) (T := F_M) (N := 37) hx hb hts i_M hown hK hP 0 rfl rfl 36 (by decide) (hts _ wd_591) (fun _ h9 => h9) rfl d_M_dip_41 ?_
            refine lv_iload_n hx hb d_M_dip_44 rfl (lv_at hl 0 rfl) ?_
            refine nv_iald (v := nI (S.1 30 i)) hx hb hK hP 28 0 rfl rfl (by omega) (by decide) rfl d_M_dip_45 ?_
            have hb10 : S.1 30 i ≤ 99999 := hB 30 _
            have ho : op_dip S x = (0, nI (S.1 30 i), S) := by unfold op_dip; rw [if_pos r0, dipv_eq (k := i) c27 c37 (hV.2.2.2.2.2.2.2)]
            rw [ho]
            have hP9 : va_P (dC, dI) classes (wM q cI cZ (S) (nI 0)) H := hP
            exact W.iret hx hb hr (fun t ht hW => ⟨rfl, by rw [ht]; exact hP9, hS.F ht⟩) hS.2.2 d_M_dip_46
    exact LP22 (S.2.1 7 + 1) 0 (by omega) (by omega) (fun r hr => absurd hr (Nat.not_lt_zero _)) ls (lv_sub hl [0, 1, 2] rfl)
  · refine lv_iconst (v := nI 0) hx hb d_M_dip_18 (by decide) ?_
    have ho : op_dip S x = ((gth (nI 2) (gbit true (rg x 0 99999) true true)), 0, S) := of_dip hI c15
    rw [ho]
    refine nv_as (0) (by rfl) ?_
    have hP9 : va_P (dC, dI) classes (wM q cI cZ (S) (nI (gth (nI 2) (gbit true (rg x 0 99999) true true)))) H := hP
    exact W.iret hx hb hr (fun t ht hW => ⟨rfl, by rw [ht]; exact hP9, hS.F ht⟩) hS.2.2 d_M_dip_19
set_option maxHeartbeats 4000000 in
set_option maxRecDepth 100000 in
theorem c_M_orders (l : Launch) (dC : Nat → ClassId) (dI : Nat → Nat → Nat) (sz : Nat) (cI cZ : ClassId) (q : Nat → Nat) (S : St) (th : Int32) (t : Nat) (hI : Bd t S) (hV : Inv t S)  : Met l y_M_orders (.code y_M_orders b_M_orders 5 (some .int) :: bg) { frames := 5, cells := 0, slots := 0, locals := 113 } (wr_P (dC, dI) classes (wM q cI cZ S th) [(cI, .int), (cZ, .boolean)] sz [.ref (q 0)]) (wr_Q (some (.int ((op_orders S).2.1))) (dC, dI) classes (wM q cI cZ ((op_orders S).2.2) (nI (op_orders S).1)) (va_A (wM q cI cZ S th) sz)) 0 0 (va_A (wM q cI cZ S th) sz) := by
  refine Met.ofW (cc := b_M_orders) (maxL := 5) (ret := (some .int)) (by decide) rfl ?_
  intro p e s m args below meth c s₁ B hml hv
  obtain ⟨rfl, hsz, hP, hK, hD0⟩ := hv
  subst hsz
  have hD := hD0.self (sz := s.heap.size)
  generalize hAe : va_A (wM q cI cZ S th) s.heap.size = A at hD ⊢
  have hA : ∀ q : Nat, s.heap.size ≤ q → A q := fun q h => by rw [← hAe]; exact Or.inr h
  have hS : va_S A s.heap s.heap [] := va_S.rf
  have hx := B.exec
  have hb := B.bytes
  have hr := B.returns
  have hts := fun w (h : w ∈ bg) => atoms_spec (ws := .code y_M_orders b_M_orders 5 (some .int) :: bg) B.pre w (List.mem_cons_of_mem _ h)
  have hown : s.vm.findClass R_M = some m.cls := findClass_of_methodNamed B.named
  have hlocks := B.notSynchronized
  have hl := lv_entry ([.ref (q 0)]) (n := 5) (Nat.le_of_ble_eq_true rfl)
  rw [lg_entry_eq]
  generalize (lg_sl ([.ref (q 0)]) ++ List.replicate (5 - (lg_sl ([.ref (q 0)])).length) Slot.unset).toArray = ls at hl ⊢
  have hl : lv_has ls 5 [(0, .ref (q 0))] := hl
  have hB := hI.1
  have hg0 : S.2.1 0 ≤ 8 := hI.2.1 0
  have hg1 : S.2.1 1 ≤ 9999 := hI.2.1 1
  have hg2 : S.2.1 2 ≤ 60 := hI.2.1 2
  have hg3 : S.2.1 3 ≤ 60 := hI.2.1 3
  have hg4 : S.2.1 4 ≤ 80 := hI.2.1 4
  have hg5 : S.2.1 5 ≤ 20 := hI.2.1 5
  have hg6 : S.2.1 6 ≤ 80 := hI.2.1 6
  have hg7 : S.2.1 7 ≤ 10 := hI.2.1 7
  have hg8 : t ≤ 512 := hI.2.2
  refine lv_aload_n hx hb d_M_orders_0 rfl (lv_at hl 0 rfl) ?_
  refine lv_iconst (v := nI 0) hx hb d_M_orders_1 (by decide) ?_
  refine va_put (D := (dC, dI)) (ci := 3) (v := .int (nI 0)) (ty := .int) (C := R_M) (T := F_M) (N := 37) hx hb hts i_M ty_M ty_M_ok n_M hown hK hP hD hS 0 rfl rfl 0 (by decide) (hts _ wd_555) (fun _ h9 => h9) rfl (by decide +kernel) rfl rfl (Nat.le_of_ble_eq_true rfl) d_M_orders_2 (fun H locs hP hD hS => ?_)
  have hP : va_P (dC, dI) classes (wM q cI cZ S (nI 0)) H := hP
  have hD : va_D A (wM q cI cZ S (nI 0)) := hD
  refine lv_iconst (v := nI 0) hx hb d_M_orders_5 (by decide) ?_
  refine lv_istore_n (lv' := [(1, .int (nI 0)), (0, .ref (q 0))]) hx hb d_M_orders_6 rfl hl (by decide) rfl (fun ls hl => ?_)
  refine lv_iconst (v := nI 0) hx hb d_M_orders_7 (by decide) ?_
  refine lv_istore_n (lv' := [(2, .int (nI 0)), (1, .int (nI 0)), (0, .ref (q 0))]) hx hb d_M_orders_8 rfl hl (by decide) rfl (fun ls hl => ?_)
  have LP9 : ∀ (fua : Nat) (i : Nat) (T : St) (H : Heap) (locs : List Loc), S.2.1 0 - i < fua → (i ≤ S.2.1 0) → (T = ordN S i) → va_P (dC, dI) classes (wM q cI cZ T (nI 0)) H → va_D A (wM q cI cZ T (nI 0)) → va_S A s.heap H locs → ∀ ls : Array Slot, lv_has ls 5 [(2, .int (nI i)), (1, .int (nI (T.2.1 4 - S.2.1 4))), (0, .ref (q 0))] → W p l e (headSpec (.code y_M_orders b_M_orders 5 (some .int) :: bg) { frames := 5, cells := 0, slots := 0, locals := 113 }).room s m (List.toArray [.ref (q 0)]) below meth c H locs 0 0 (MQ below (wr_Q (some (.int ((op_orders S).2.1))) (dC, dI) classes (wM q cI cZ ((op_orders S).2.2) (nI (op_orders S).1)) A) (List.toArray [.ref (q 0)]) s 0 0 A) (F0 m 9 ls []) := by
    intro fua
    induction fua with
    | zero => intro i T H locs h; exact absurd h (Nat.not_lt_zero _)
    | succ fua iha =>
      intro i T H locs hfua hha0 hha1 hP hD hS ls hl
      obtain ⟨hIT, hT2, hT3, hT4, hT5⟩ := ordN_all (t := t) hI i (by omega)
      have hT6 := ord31N (S := S) i
      rw [← hha1] at hIT hT2 hT3 hT4 hT5 hT6
      have hBT := hIT.1
      have hg0 : T.2.1 0 ≤ 8 := hIT.2.1 0
      have hg1 : T.2.1 1 ≤ 9999 := hIT.2.1 1
      have hg2 : T.2.1 2 ≤ 60 := hIT.2.1 2
      have hg3 : T.2.1 3 ≤ 60 := hIT.2.1 3
      have hg4 : T.2.1 4 ≤ 80 := hIT.2.1 4
      have hg5 : T.2.1 5 ≤ 20 := hIT.2.1 5
      have hg6 : T.2.1 6 ≤ 80 := hIT.2.1 6
      have hg7 : T.2.1 7 ≤ 10 := hIT.2.1 7
      have hg8 : t ≤ 512 := hIT.2.2
      refine lv_iload_n hx hb d_M_orders_9 rfl (lv_at hl 0 rfl) ?_
      refine lv_aload_n hx hb d_M_orders_10 rfl (lv_at hl 2 rfl) ?_
      refine va_get (D := (dC, dI)) (ci := 3) (v := .int (nI (T.2.1 0))) (C := R_M) (T := F_M) (N := 37) hx hb hts i_M hown hK hP 0 rfl rfl 2 (by decide) (hts _ wd_557) (fun _ h9 => h9) rfl d_M_orders_11 ?_
      refine nv_cge (tgt := 110) hx hb (by omega) (by omega) d_M_orders_14 (by decide) (fun c14 => ?_) (fun c14 => ?_)
      · obtain rfl : i = S.2.1 0 := by omega
        refine lv_iload_n hx hb d_M_orders_110 rfl (lv_at hl 1 rfl) ?_
        have ho : op_orders S = (0, nI ((ordN S (S.2.1 0)).2.1 4 - S.2.1 4), ordN S (S.2.1 0)) := rfl
        rw [ho]
        refine nv_as (nI ((ordN S (S.2.1 0)).2.1 4 - S.2.1 4)) (by rw [hha1]) ?_
        have hP9 : va_P (dC, dI) classes (wM q cI cZ (ordN S (S.2.1 0)) (nI 0)) H := by rw [hha1] at hP; exact hP
        exact W.iret hx hb hr (fun t ht hW => ⟨rfl, by rw [ht]; exact hP9, hS.F ht⟩) hS.2.2 d_M_orders_111
      · refine lv_iconst (v := nI 0) hx hb d_M_orders_17 (by decide) ?_
        refine lv_istore_n (lv' := [(3, .int (nI 0)), (2, .int (nI i)), (1, .int (nI (T.2.1 4 - S.2.1 4))), (0, .ref (q 0))]) hx hb d_M_orders_18 rfl hl (by decide) rfl (fun ls hl => ?_)
        have LP19 : ∀ (fub : Nat) (k : Nat) (U : St) (H : Heap) (locs : List Loc), 10 - k < fub → (k ≤ 10) → (U = ordR T i k) → va_P (dC, dI) classes (wM q cI cZ U (nI 0)) H → va_D A (wM q cI cZ U (nI 0)) → va_S A s.heap H locs → ∀ ls : Array Slot, lv_has ls 5 [(3, .int (nI k)), (2, .int (nI i)), (1, .int (nI (U.2.1 4 - S.2.1 4))), (0, .ref (q 0))] → W p l e (headSpec (.code y_M_orders b_M_orders 5 (some .int) :: bg) { frames := 5, cells := 0, slots := 0, locals := 113 }).room s m (List.toArray [.ref (q 0)]) below meth c H locs 0 0 (MQ below (wr_Q (some (.int ((op_orders S).2.1))) (dC, dI) classes (wM q cI cZ ((op_orders S).2.2) (nI (op_orders S).1)) A) (List.toArray [.ref (q 0)]) s 0 0 A) (F0 m 19 ls []) := by
          intro fub
          induction fub with
          | zero => intro k U H locs h; exact absurd h (Nat.not_lt_zero _)
          | succ fub ihb =>
            intro k U H locs hfub hhb0 hhb1 hP hD hS ls hl
            obtain ⟨hIU, hU2, hU3, hU4, hU5⟩ := ordR_all (t := t) hIT (s := i) (by omega) k hhb0
            have hU6 := ord31R (S := T) (s := i) k
            rw [← hhb1] at hIU hU2 hU3 hU4 hU5 hU6
            rw [hT4] at hU4
            rw [hT5] at hU5
            rw [hT6] at hU6
            have hst : i < U.2.1 0 := by omega
            have hBU := hIU.1
            have hg0 : U.2.1 0 ≤ 8 := hIU.2.1 0
            have hg1 : U.2.1 1 ≤ 9999 := hIU.2.1 1
            have hg2 : U.2.1 2 ≤ 60 := hIU.2.1 2
            have hg3 : U.2.1 3 ≤ 60 := hIU.2.1 3
            have hg4 : U.2.1 4 ≤ 80 := hIU.2.1 4
            have hg5 : U.2.1 5 ≤ 20 := hIU.2.1 5
            have hg6 : U.2.1 6 ≤ 80 := hIU.2.1 6
            have hg7 : U.2.1 7 ≤ 10 := hIU.2.1 7
            have hg8 : t ≤ 512 := hIU.2.2
            refine lv_iload_n hx hb d_M_orders_19 rfl (lv_at hl 0 rfl) ?_
            refine lv_bipush (v := nI 10) hx hb d_M_orders_20 (by decide) ?_
            refine nv_cge (tgt := 104) hx hb (by omega) (by omega) d_M_orders_22 (by decide) (fun c22 => ?_) (fun c22 => ?_)
            · refine lv_iinc (v := nI (i + 1)) (lv' := [(2, .int (nI (i + 1))), (3, .int (nI k)), (1, .int (nI (U.2.1 4 - S.2.1 4))), (0, .ref (q 0))]) hx hb d_M_orders_104 hl (k := 1) rfl (nI_1 _) (by decide) rfl (fun ls hl => ?_)
              refine lv_goto (tgt := 9) hx hb d_M_orders_107 (by decide) ?_
              exact iha (i + 1) U _ _ (by omega) (by omega) (by rw [ordN_s, ← hha1, hhb1, show k = 10 by omega]) hP hD hS ls (lv_sub hl [0, 2, 3] (rfl))
            · refine lv_aload_n hx hb d_M_orders_25 rfl (lv_at hl 3 rfl) ?_
              refine lv_iload_n hx hb d_M_orders_26 rfl (lv_at hl 1 rfl) ?_
              refine lv_iload_n hx hb d_M_orders_27 rfl (lv_at hl 0 rfl) ?_
              refine pu_go (va_runV (As := [.int (nI i), .int (nI k)]) (rest := []) ⟨hx, hb, hml, hown, hts⟩ (c_M_expected l dC dI cI cZ q U (nI 0) t hIU i k (by omega) (by omega)) (cwV 2 hts (gi_V wd_752 wd_754 wp_30 wd_5 wd_755) rfl rfl rfl (by decide +kernel) ⟨Nat.le_of_ble_eq_true rfl, Nat.le_of_ble_eq_true rfl⟩) (pu_preV hK hP (ci := 3) (q0 := 0) rfl rfl) rfl rfl hl.1 rfl (lv_room (Nat.le_of_ble_eq_true rfl)) d_M_orders_28 ⟨Nat.le_of_ble_eq_true rfl, Nat.le_of_ble_eq_true rfl⟩) ?_
              have hb1 := expd_le hIU i k
              refine lv_istore (lv' := [(4, .int (nI (expd U i k))), (3, .int (nI k)), (2, .int (nI i)), (1, .int (nI (U.2.1 4 - S.2.1 4))), (0, .ref (q 0))]) hx hb d_M_orders_31 hl (by decide) rfl (fun ls hl => ?_)
              refine lv_aload_n hx hb d_M_orders_33 rfl (lv_at hl 4 rfl) ?_
              refine va_get (D := (dC, dI)) (ci := 3) (v := .ref (q 12)) (C := R_M) (T := F_M) (N := 37) hx hb hts i_M hown hK hP 0 rfl rfl 16 (by decide) (hts _ wd_571) (fun _ h9 => h9) rfl d_M_orders_34 ?_
              refine lv_iload_n hx hb d_M_orders_37 rfl (lv_at hl 2 rfl) ?_
              refine lv_bipush (v := nI 10) hx hb d_M_orders_38 (by decide) ?_
              refine nv_mul hx hb d_M_orders_40 ?_
              refine lv_iload_n hx hb d_M_orders_41 rfl (lv_at hl 1 rfl) ?_
              refine nv_add hx hb d_M_orders_42 ?_
              refine nv_zald (v := nI (U.1 31 ((i * 10) + k))) hx hb hK hP 12 1 rfl rfl (by omega) (by decide) rfl d_M_orders_43 ?_
              have hb2 : U.1 31 ((i * 10) + k) ≤ 1 := hBU 31 _
              refine nv_zeq (tgt := 98) hx hb (by omega) d_M_orders_44 (by decide) (fun c44 => ?_) (fun c44 => ?_)
              · refine lv_iinc (v := nI (k + 1)) (lv' := [(3, .int (nI (k + 1))), (4, .int (nI (expd U i k))), (2, .int (nI i)), (1, .int (nI (U.2.1 4 - S.2.1 4))), (0, .ref (q 0))]) hx hb d_M_orders_98 hl (k := 1) rfl (nI_1 _) (by decide) rfl (fun ls hl => ?_)
                refine lv_goto (tgt := 19) hx hb d_M_orders_101 (by decide) ?_
                exact ihb (k + 1) U _ _ (by omega) (by omega) (by rw [show ordR T i (k + 1) = ordK (ordR T i k) i k from rfl, ← hhb1, ordK_no (Or.inl (by rw [hU4, hV.2.2.1 _ (by rw [← hU6]; exact c44)]; exact Nat.zero_le _))]) hP hD hS ls (lv_sub hl [0, 2, 3, 4] (rfl))
              · refine lv_iload hx hb d_M_orders_47 (lv_at hl 0 rfl) ?_
                refine lv_aload_n hx hb d_M_orders_49 rfl (lv_at hl 4 rfl) ?_
                refine va_get (D := (dC, dI)) (ci := 3) (v := .ref (q 13)) (C := R_M) (T := F_M) (N := 37) hx hb hts i_M hown hK hP 0 rfl rfl 17 (by decide) (hts _ wd_572) (fun _ h9 => h9) rfl d_M_orders_50 ?_
                refine lv_iload_n hx hb d_M_orders_53 rfl (lv_at hl 2 rfl) ?_
                refine lv_bipush (v := nI 10) hx hb d_M_orders_54 (by decide) ?_
                refine nv_mul hx hb d_M_orders_56 ?_
                refine lv_iload_n hx hb d_M_orders_57 rfl (lv_at hl 1 rfl) ?_
                refine nv_add hx hb d_M_orders_58 ?_
                refine nv_iald (v := nI (U.1 26 ((i * 10) + k))) hx hb hK hP 13 0 rfl rfl (by omega) (by decide) rfl d_M_orders_59 ?_
                have hb3 : U.1 26 ((i * 10) + k) ≤ 9999 := hBU 26 _
                refine nv_cge (tgt := 98) hx hb (by omega) (by omega) d_M_orders_60 (by decide) (fun c60 => ?_) (fun c60 => ?_)
                · refine lv_iinc (v := nI (k + 1)) (lv' := [(3, .int (nI (k + 1))), (4, .int (nI (expd U i k))), (2, .int (nI i)), (1, .int (nI (U.2.1 4 - S.2.1 4))), (0, .ref (q 0))]) hx hb d_M_orders_98 hl (k := 1) rfl (nI_1 _) (by decide) rfl (fun ls hl => ?_)
                  refine lv_goto (tgt := 19) hx hb d_M_orders_101 (by decide) ?_
                  exact ihb (k + 1) U _ _ (by omega) (by omega) (by rw [show ordR T i (k + 1) = ordK (ordR T i k) i k from rfl, ← hhb1, ordK_no (Or.inl c60)]) hP hD hS ls (lv_sub hl [0, 2, 3, 4] (rfl))
                · refine lv_aload_n hx hb d_M_orders_63 rfl (lv_at hl 4 rfl) ?_
                  refine va_get (D := (dC, dI)) (ci := 3) (v := .int (nI (U.2.1 4))) (C := R_M) (T := F_M) (N := 37) hx hb hts i_M hown hK hP 0 rfl rfl 19 (by decide) (hts _ wd_574) (fun _ h9 => h9) rfl d_M_orders_64 ?_
                  refine lv_bipush (v := nI 80) hx hb d_M_orders_67 (by decide) ?_
                  refine nv_cne (tgt := 75) hx hb (by omega) (by omega) d_M_orders_69 (by decide) (fun c69 => ?_) (fun c69 => ?_)
                  · have hlm := hV.2.1 (i * 10 + k)
                    have h26 : U.1 26 (i * 10 + k) = S.1 26 (i * 10 + k) := by rw [hU4]
                    have h27 : U.1 27 (i * 10 + k) = S.1 27 (i * 10 + k) := by rw [hU5]
                    refine lv_aload_n hx hb d_M_orders_75 rfl (lv_at hl 4 rfl) ?_
                    refine lv_iload_n hx hb d_M_orders_76 rfl (lv_at hl 2 rfl) ?_
                    refine lv_iload_n hx hb d_M_orders_77 rfl (lv_at hl 1 rfl) ?_
                    refine lv_aload_n hx hb d_M_orders_78 rfl (lv_at hl 4 rfl) ?_
                    refine va_get (D := (dC, dI)) (ci := 3) (v := .ref (q 14)) (C := R_M) (T := F_M) (N := 37) hx hb hts i_M hown hK hP 0 rfl rfl 18 (by decide) (hts _ wd_573) (fun _ h9 => h9) rfl d_M_orders_79 ?_
                    refine lv_iload_n hx hb d_M_orders_82 rfl (lv_at hl 2 rfl) ?_
                    refine lv_bipush (v := nI 10) hx hb d_M_orders_83 (by decide) ?_
                    refine nv_mul hx hb d_M_orders_85 ?_
                    refine lv_iload_n hx hb d_M_orders_86 rfl (lv_at hl 1 rfl) ?_
                    refine nv_add hx hb d_M_orders_87 ?_
                    refine nv_iald (v := nI (U.1 27 ((i * 10) + k))) hx hb hK hP 14 0 rfl rfl (by omega) (by decide) rfl d_M_orders_88 ?_
                    have hb4 : U.1 27 ((i * 10) + k) ≤ 9999 := hBU 27 _
                    refine lv_iload hx hb d_M_orders_89 (lv_at hl 0 rfl) ?_
                    refine nv_sub hx hb (by omega) d_M_orders_91 ?_
                    refine wr_goA (va_runV (As := [.int (nI i), .int (nI k), .int (nI ((U.1 27 ((i * 10) + k)) - (expd U i k)))]) (rest := []) ⟨hx, hb, hml, hown, hts⟩ (c_M_makes l dC dI H.size cI cZ q U (nI 0) t hIU i k ((U.1 27 ((i * 10) + k)) - (expd U i k)) (by omega)) (cwV 3 hts (gi_V wd_756 wd_758 wp_31 wd_5 wd_759) rfl rfl rfl (by decide +kernel) ⟨Nat.le_of_ble_eq_true rfl, Nat.le_of_ble_eq_true rfl⟩) (wr_preV hK hP hD (ci := 3) (q0 := 0) rfl rfl) rfl rfl hl.1 rfl (lv_room (Nat.le_of_ble_eq_true rfl)) d_M_orders_92 ⟨Nat.le_of_ble_eq_true rfl, Nat.le_of_ble_eq_true rfl⟩) hD hS hA wM_adr (fun H locs hP hD hS => ?_)
                    refine W.eq (g2 := F0 m 95 ls []) rfl ?_
                    refine lv_iinc (v := nI ((U.2.1 4 - S.2.1 4) + 1)) (lv' := [(1, .int (nI ((U.2.1 4 - S.2.1 4) + 1))), (4, .int (nI (expd U i k))), (3, .int (nI k)), (2, .int (nI i)), (0, .ref (q 0))]) hx hb d_M_orders_95 hl (k := 3) rfl (nI_1 _) (by decide) rfl (fun ls hl => ?_)
                    refine lv_iinc (v := nI (k + 1)) (lv' := [(3, .int (nI (k + 1))), (1, .int (nI ((U.2.1 4 - S.2.1 4) + 1))), (4, .int (nI (expd U i k))), (2, .int (nI i)), (0, .ref (q 0))]) hx hb d_M_orders_98 hl (k := 2) rfl (nI_1 _) (by decide) rfl (fun ls hl => ?_)
                    refine lv_goto (tgt := 19) hx hb d_M_orders_101 (by decide) ?_
                    exact ihb (k + 1) (addOrd U i k (U.1 27 (i * 10 + k) - expd U i k)) _ _ (by omega) (by omega) (by rw [← ordK_yes c60 (by omega), hhb1]; rfl) hP hD hS ls (lv_sub hl [0, 3, 1, 4] (by rw [show (addOrd U i k (U.1 27 (i * 10 + k) - expd U i k)).2.1 4 - S.2.1 4 = U.2.1 4 - S.2.1 4 + 1 from (show U.2.1 4 + 1 - S.2.1 4 = _ by omega)]; rfl))
                  · refine lv_goto (tgt := 98) hx hb d_M_orders_72 (by decide) ?_
                    refine lv_iinc (v := nI (k + 1)) (lv' := [(3, .int (nI (k + 1))), (4, .int (nI (expd U i k))), (2, .int (nI i)), (1, .int (nI (U.2.1 4 - S.2.1 4))), (0, .ref (q 0))]) hx hb d_M_orders_98 hl (k := 1) rfl (nI_1 _) (by decide) rfl (fun ls hl => ?_)
                    refine lv_goto (tgt := 19) hx hb d_M_orders_101 (by decide) ?_
                    exact ihb (k + 1) U _ _ (by omega) (by omega) (by rw [show ordR T i (k + 1) = ordK (ordR T i k) i k from rfl, ← hhb1, ordK_no (Or.inr c69)]) hP hD hS ls (lv_sub hl [0, 2, 3, 4] (rfl))
        exact LP19 ((10 - 0) + 1) 0 T _ _ (Nat.lt_succ_self _) (Nat.zero_le _) rfl hP hD hS ls (lv_sub hl [0, 1, 2, 3] (rfl))
  exact LP9 ((S.2.1 0 - 0) + 1) 0 S _ _ (Nat.lt_succ_self _) (Nat.zero_le _) rfl hP hD hS ls (lv_sub hl [0, 1, 2] (by rw [Nat.sub_self]; rfl))
set_option maxHeartbeats 4000000 in
set_option maxRecDepth 100000 in
theorem c_M_give (l : Launch) (dC : Nat → ClassId) (dI : Nat → Nat → Nat) (sz : Nat) (cI cZ : ClassId) (q : Nat → Nat) (S : St) (th : Int32) (t : Nat) (hI : Bd t S) (x y : Int32) (hV : Inv t S) (hou : ∀ j, S.1 2 j + 9999 ≤ 9999 * t)  : Met l y_M_give (.code y_M_give b_M_give 6 (some .int) :: bg) { frames := 4, cells := 0, slots := 0, locals := 91 } (wr_P (dC, dI) classes (wM q cI cZ S th) [(cI, .int), (cZ, .boolean)] sz [.ref (q 0), .int x, .int y]) (wr_Q (some (.int ((op_give S x y).2.1))) (dC, dI) classes (wM q cI cZ ((op_give S x y).2.2) (nI (op_give S x y).1)) (va_A (wM q cI cZ S th) sz)) 0 0 (va_A (wM q cI cZ S th) sz) := by
  refine Met.ofW (cc := b_M_give) (maxL := 6) (ret := (some .int)) (by decide) rfl ?_
  intro p e s m args below meth c s₁ B hml hv
  obtain ⟨rfl, hsz, hP, hK, hD0⟩ := hv
  subst hsz
  have hD := hD0.self (sz := s.heap.size)
  generalize hAe : va_A (wM q cI cZ S th) s.heap.size = A at hD ⊢
  have hA : ∀ q : Nat, s.heap.size ≤ q → A q := fun q h => by rw [← hAe]; exact Or.inr h
  have hS : va_S A s.heap s.heap [] := va_S.rf
  have hx := B.exec
  have hb := B.bytes
  have hr := B.returns
  have hts := fun w (h : w ∈ bg) => atoms_spec (ws := .code y_M_give b_M_give 6 (some .int) :: bg) B.pre w (List.mem_cons_of_mem _ h)
  have hown : s.vm.findClass R_M = some m.cls := findClass_of_methodNamed B.named
  have hlocks := B.notSynchronized
  have hl := lv_entry ([.ref (q 0), .int x, .int y]) (n := 6) (Nat.le_of_ble_eq_true rfl)
  rw [lg_entry_eq]
  generalize (lg_sl ([.ref (q 0), .int x, .int y]) ++ List.replicate (6 - (lg_sl ([.ref (q 0), .int x, .int y])).length) Slot.unset).toArray = ls at hl ⊢
  have hl : lv_has ls 6 [(0, .ref (q 0)), (1, .int x), (2, .int y)] := hl
  have hB := hI.1
  have hg0 : S.2.1 0 ≤ 8 := hI.2.1 0
  have hg1 : S.2.1 1 ≤ 9999 := hI.2.1 1
  have hg2 : S.2.1 2 ≤ 60 := hI.2.1 2
  have hg3 : S.2.1 3 ≤ 60 := hI.2.1 3
  have hg4 : S.2.1 4 ≤ 80 := hI.2.1 4
  have hg5 : S.2.1 5 ≤ 20 := hI.2.1 5
  have hg6 : S.2.1 6 ≤ 80 := hI.2.1 6
  have hg7 : S.2.1 7 ≤ 10 := hI.2.1 7
  have hg8 : t ≤ 512 := hI.2.2
  have J22 : W p l e (headSpec (.code y_M_give b_M_give 6 (some .int) :: bg) { frames := 4, cells := 0, slots := 0, locals := 91 }).room s m (List.toArray [.ref (q 0), .int x, .int y]) below meth c s.heap [] 0 0 (MQ below (wr_Q (some (.int ((op_give S x y).2.1))) (dC, dI) classes (wM q cI cZ ((op_give S x y).2.2) (nI (op_give S x y).1)) A) (List.toArray [.ref (q 0), .int x, .int y]) s 0 0 A) (F0 m 22 ls [.int (b2 (ok x (S.2.1 0) && rg y 0 4))]) := by
    refine lv_istore_n (lv' := [(3, .int (b2 (ok x (S.2.1 0) && rg y 0 4))), (0, .ref (q 0)), (1, .int x), (2, .int y)]) hx hb d_M_give_22 rfl hl (by decide) rfl (fun ls hl => ?_)
    refine lv_iconst (v := nI 0) hx hb d_M_give_23 (by decide) ?_
    refine lv_istore (lv' := [(4, .int (nI 0)), (3, .int (b2 (ok x (S.2.1 0) && rg y 0 4))), (0, .ref (q 0)), (1, .int x), (2, .int y)]) hx hb d_M_give_24 hl (by decide) rfl (fun ls hl => ?_)
    refine lv_iconst (v := nI 0) hx hb d_M_give_26 (by decide) ?_
    refine lv_istore (lv' := [(5, .int (nI 0)), (4, .int (nI 0)), (3, .int (b2 (ok x (S.2.1 0) && rg y 0 4))), (0, .ref (q 0)), (1, .int x), (2, .int y)]) hx hb d_M_give_27 hl (by decide) rfl (fun ls hl => ?_)
    have LP29 : ∀ (fua i : Nat), 10 - i < fua → i ≤ 10 → ((ok x (S.2.1 0) && rg y 0 4) = true ∨ i = 0) → ∀ ls : Array Slot, lv_has ls 6 [(5, .int (nI i)), (4, .int (nI (sIf (fun _ => true) (fun j => S.1 28 (nn y * 10 + j)) i))), (3, .int (b2 (ok x (S.2.1 0) && rg y 0 4))), (0, .ref (q 0)), (1, .int x), (2, .int y)] → W p l e (headSpec (.code y_M_give b_M_give 6 (some .int) :: bg) { frames := 4, cells := 0, slots := 0, locals := 91 }).room s m (List.toArray [.ref (q 0), .int x, .int y]) below meth c s.heap [] 0 0 (MQ below (wr_Q (some (.int ((op_give S x y).2.1))) (dC, dI) classes (wM q cI cZ ((op_give S x y).2.2) (nI (op_give S x y).1)) A) (List.toArray [.ref (q 0), .int x, .int y]) s 0 0 A) (F0 m 29 ls []) := by
      intro fua
      induction fua with
      | zero => intro i h; exact absurd h (Nat.not_lt_zero _)
      | succ fua iha =>
        intro i hfua hia hha0 ls hl
        refine lv_iload hx hb d_M_give_29 (lv_at hl 0 rfl) ?_
        refine lv_bipush (v := nI 10) hx hb d_M_give_31 (by decide) ?_
        refine nv_cge (tgt := 63) hx hb (by omega) (by omega) d_M_give_33 (by decide) (fun c33 => ?_) (fun c33 => ?_)
        · obtain rfl : i = 10 := by omega
          have k9 := hha0.resolve_right (by decide)
          have hsl := sIf_le (P := fun _ => true) (v := fun j => S.1 28 (nn y * 10 + j)) (B := 20) (fun j => hB 28 _) 10
          refine lv_aload_n hx hb d_M_give_63 rfl (lv_at hl 3 rfl) ?_
          refine lv_iconst (v := nI 5) hx hb d_M_give_64 (by decide) ?_
          refine lv_iload_n hx hb d_M_give_65 rfl (lv_at hl 2 rfl) ?_
          refine lv_iconst (v := b2 true) hx hb d_M_give_66 (by decide) ?_
          have J77 : W p l e (headSpec (.code y_M_give b_M_give 6 (some .int) :: bg) { frames := 4, cells := 0, slots := 0, locals := 91 }).room s m (List.toArray [.ref (q 0), .int x, .int y]) below meth c s.heap [] 0 0 (MQ below (wr_Q (some (.int ((op_give S x y).2.1))) (dC, dI) classes (wM q cI cZ ((op_give S x y).2.2) (nI (op_give S x y).1)) A) (List.toArray [.ref (q 0), .int x, .int y]) s 0 0 A) (F0 m 77 ls [.int (b2 (decide (0 < sIf (fun _ => true) (fun j => S.1 28 (nn y * 10 + j)) 10))), .int (b2 true), .int (b2 (ok x (S.2.1 0) && rg y 0 4)), .int (nI 5), .ref (q 0)]) := by
            refine lv_iconst (v := b2 true) hx hb d_M_give_77 (by decide) ?_
            refine wr_goA (va_runV (As := [.int (nI 5), .int (b2 (ok x (S.2.1 0) && rg y 0 4)), .int (b2 true), .int (b2 (decide (0 < sIf (fun _ => true) (fun j => S.1 28 (nn y * 10 + j)) 10))), .int (b2 true)]) (rest := []) ⟨hx, hb, hml, hown, hts⟩ (c_M_goes l dC dI s.heap.size cI cZ q S th t hI (nI 5) (ok x (S.2.1 0) && rg y 0 4) true (decide (0 < sIf (fun _ => true) (fun j => S.1 28 (nn y * 10 + j)) 10)) true) (cwV 5 hts (gi_V wd_676 wd_678 wp_22 wd_5 wd_679) rfl rfl rfl (by decide +kernel) ⟨Nat.le_of_ble_eq_true rfl, Nat.le_of_ble_eq_true rfl⟩) (wr_preV hK hP hD (ci := 3) (q0 := 0) rfl rfl) rfl rfl hl.1 rfl (lv_room (Nat.le_of_ble_eq_true rfl)) d_M_give_78 ⟨Nat.le_of_ble_eq_true rfl, Nat.le_of_ble_eq_true rfl⟩) hD hS hA wM_adr (fun H locs hP hD hS => ?_)
            refine W.eq (g2 := F0 m 81 ls [.int (b2 ((ok x (S.2.1 0) && rg y 0 4) && (true && ((decide (0 < sIf (fun _ => true) (fun j => S.1 28 (nn y * 10 + j)) 10)) && true))))]) rfl ?_
            refine nv_bn (tgt := 86) hx hb d_M_give_81 (by decide) (fun c81 => ?_) (fun c81 => ?_)
            · obtain ⟨k0, r0, t0, o0⟩ := and4 c81
              have hP : va_P (dC, dI) classes (wM q cI cZ S (nI 0)) H := by rw [gz c81] at hP; exact hP
              have hD : va_D A (wM q cI cZ S (nI 0)) := by rw [gz c81] at hD; exact hD
              obtain ⟨k1, k2⟩ := and2 k0
              rw [show rg y 0 4 = ok y 5 from rg_ok (n := 5) (by decide)] at k2
              have hap := any_sum.mp (of_decide_eq_true t0)
              obtain ⟨e_x, b_x⟩ := ok_of k1
              obtain ⟨e_y, b_y⟩ := ok_of k2
              have hl : lv_has ls 6 [(5, .int (nI 10)), (4, .int (nI (sIf (fun _ => true) (fun j => S.1 28 (nn y * 10 + j)) 10))), (3, .int (b2 (ok x (S.2.1 0) && rg y 0 4))), (0, .ref (q 0)), (1, .int (nI (nn x))), (2, .int (nI (nn y)))] := by rw [← e_x, ← e_y]; exact hl
              refine lv_iconst (v := nI 0) hx hb d_M_give_86 (by decide) ?_
              refine lv_istore (lv' := [(5, .int (nI 0)), (4, .int (nI (sIf (fun _ => true) (fun j => S.1 28 (nn y * 10 + j)) 10))), (3, .int (b2 (ok x (S.2.1 0) && rg y 0 4))), (0, .ref (q 0)), (1, .int (nI (nn x))), (2, .int (nI (nn y)))]) hx hb d_M_give_87 hl (by decide) rfl (fun ls hl => ?_)
              have LP89 : ∀ (fub j : Nat), 10 - j < fub → j ≤ 10 → (∀ r, r < j → S.1 28 (nn y * 10 + r) ≤ good S (nn x) r) → ∀ ls : Array Slot, lv_has ls 6 [(5, .int (nI j)), (4, .int (nI (sIf (fun _ => true) (fun j => S.1 28 (nn y * 10 + j)) 10))), (3, .int (b2 (ok x (S.2.1 0) && rg y 0 4))), (0, .ref (q 0)), (1, .int (nI (nn x))), (2, .int (nI (nn y)))] → W p l e (headSpec (.code y_M_give b_M_give 6 (some .int) :: bg) { frames := 4, cells := 0, slots := 0, locals := 91 }).room s m (List.toArray [.ref (q 0), .int x, .int y]) below meth c H locs 0 0 (MQ below (wr_Q (some (.int ((op_give S x y).2.1))) (dC, dI) classes (wM q cI cZ ((op_give S x y).2.2) (nI (op_give S x y).1)) A) (List.toArray [.ref (q 0), .int x, .int y]) s 0 0 A) (F0 m 89 ls []) := by
                intro fub
                induction fub with
                | zero => intro j h; exact absurd h (Nat.not_lt_zero _)
                | succ fub ihb =>
                  intro j hfub hib hhb0 ls hl
                  refine lv_iload hx hb d_M_give_89 (lv_at hl 0 rfl) ?_
                  refine lv_bipush (v := nI 10) hx hb d_M_give_91 (by decide) ?_
                  refine nv_cge (tgt := 127) hx hb (by omega) (by omega) d_M_give_93 (by decide) (fun c93 => ?_) (fun c93 => ?_)
                  · obtain rfl : j = 10 := by omega
                    have hall := hhb0
                    refine lv_iconst (v := nI 0) hx hb d_M_give_127 (by decide) ?_
                    refine lv_istore (lv' := [(5, .int (nI 0)), (4, .int (nI (sIf (fun _ => true) (fun j => S.1 28 (nn y * 10 + j)) 10))), (3, .int (b2 (ok x (S.2.1 0) && rg y 0 4))), (0, .ref (q 0)), (1, .int (nI (nn x))), (2, .int (nI (nn y)))]) hx hb d_M_give_128 hl (by decide) rfl (fun ls hl => ?_)
                    have LP130 : ∀ (fuc : Nat) (i : Nat) (T : St) (H : Heap) (locs : List Loc), 10 - i < fuc → (i ≤ 10) → (T = gvN S (nn x) (nn y) i) → va_P (dC, dI) classes (wM q cI cZ T (nI 0)) H → va_D A (wM q cI cZ T (nI 0)) → va_S A s.heap H locs → ∀ ls : Array Slot, lv_has ls 6 [(5, .int (nI i)), (4, .int (nI (sIf (fun _ => true) (fun j => S.1 28 (nn y * 10 + j)) 10))), (3, .int (b2 (ok x (S.2.1 0) && rg y 0 4))), (0, .ref (q 0)), (1, .int (nI (nn x))), (2, .int (nI (nn y)))] → W p l e (headSpec (.code y_M_give b_M_give 6 (some .int) :: bg) { frames := 4, cells := 0, slots := 0, locals := 91 }).room s m (List.toArray [.ref (q 0), .int x, .int y]) below meth c H locs 0 0 (MQ below (wr_Q (some (.int ((op_give S x y).2.1))) (dC, dI) classes (wM q cI cZ ((op_give S x y).2.2) (nI (op_give S x y).1)) A) (List.toArray [.ref (q 0), .int x, .int y]) s 0 0 A) (F0 m 130 ls []) := by
                      intro fuc
                      induction fuc with
                      | zero => intro i T H locs h; exact absurd h (Nat.not_lt_zero _)
                      | succ fuc ihc =>
                        intro i T H locs hfuc hhc0 hhc1 hP hD hS ls hl
                        obtain ⟨hIT, hT2, hT3, hT4⟩ := gvN_all (t := t) (s := nn x) (kt := nn y) hI (fun j => by have := hou j; omega) i hhc0
                        rw [← hhc1] at hIT hT2 hT3 hT4
                        have hBT := hIT.1
                        have hg0 : T.2.1 0 ≤ 8 := hIT.2.1 0
                        have hg1 : T.2.1 1 ≤ 9999 := hIT.2.1 1
                        have hg2 : T.2.1 2 ≤ 60 := hIT.2.1 2
                        have hg3 : T.2.1 3 ≤ 60 := hIT.2.1 3
                        have hg4 : T.2.1 4 ≤ 80 := hIT.2.1 4
                        have hg5 : T.2.1 5 ≤ 20 := hIT.2.1 5
                        have hg6 : T.2.1 6 ≤ 80 := hIT.2.1 6
                        have hg7 : T.2.1 7 ≤ 10 := hIT.2.1 7
                        have hg8 : t ≤ 512 := hIT.2.2
                        have hst : nn x < T.2.1 0 := by rw [hT3]; exact b_x
                        refine lv_iload hx hb d_M_give_130 (lv_at hl 0 rfl) ?_
                        refine lv_bipush (v := nI 10) hx hb d_M_give_132 (by decide) ?_
                        refine nv_cge (tgt := 162) hx hb (by omega) (by omega) d_M_give_134 (by decide) (fun c134 => ?_) (fun c134 => ?_)
                        · obtain rfl : i = 10 := by omega
                          refine lv_iconst (v := (-1)) hx hb d_M_give_162 (by decide) ?_
                          have ho : op_give S x y = (0, -1, gvN S (nn x) (nn y) 10) := by unfold op_give; rw [if_pos k1, if_pos k2, if_pos hap, lack_none hall]
                          rw [ho]
                          refine nv_as (-1) (by rfl) ?_
                          have hP9 : va_P (dC, dI) classes (wM q cI cZ (gvN S (nn x) (nn y) 10) (nI 0)) H := by rw [hhc1] at hP; exact hP
                          exact W.iret hx hb hr (fun t ht hW => ⟨rfl, by rw [ht]; exact hP9, hS.F ht⟩) hS.2.2 d_M_give_163
                        · refine lv_aload_n hx hb d_M_give_137 rfl (lv_at hl 3 rfl) ?_
                          refine lv_iload_n hx hb d_M_give_138 rfl (lv_at hl 4 rfl) ?_
                          refine lv_iload hx hb d_M_give_139 (lv_at hl 0 rfl) ?_
                          refine lv_aload_n hx hb d_M_give_141 rfl (lv_at hl 3 rfl) ?_
                          refine va_get (D := (dC, dI)) (ci := 3) (v := .ref (q 26)) (C := R_M) (T := F_M) (N := 37) hx hb hts i_M hown hK hP 0 rfl rfl 33 (by decide) (hts _ wd_588) (fun _ h9 => h9) rfl d_M_give_142 ?_
                          refine lv_iload_n hx hb d_M_give_145 rfl (lv_at hl 5 rfl) ?_
                          refine lv_bipush (v := nI 10) hx hb d_M_give_146 (by decide) ?_
                          refine nv_mul hx hb d_M_give_148 ?_
                          refine lv_iload hx hb d_M_give_149 (lv_at hl 0 rfl) ?_
                          refine nv_add hx hb d_M_give_151 ?_
                          refine nv_iald (v := nI (T.1 28 (((nn y) * 10) + i))) hx hb hK hP 26 0 rfl rfl (by omega) (by decide) rfl d_M_give_152 ?_
                          have h28 : T.1 28 (nn y * 10 + i) = S.1 28 (nn y * 10 + i) := by rw [hT4 28 (by decide) (by decide)]
                          have hb28 : T.1 28 (nn y * 10 + i) ≤ 20 := hBT 28 _
                          refine wr_goA (va_runV (As := [.int (nI (nn x)), .int (nI i), .int (nI (T.1 28 (((nn y) * 10) + i)))]) (rest := []) ⟨hx, hb, hml, hown, hts⟩ (c_M_takes l dC dI H.size cI cZ q T (nI 0) t hIT (nn x) i (T.1 28 (((nn y) * 10) + i)) (by omega) (by omega) (by omega) (fun j => by have := hT2 j; omega) (by rw [h28, hhc1, gvN_good i (Nat.le_refl _)]; exact hall i (by omega))) (cwV 3 hts (gi_V wd_732 wd_734 wp_29 wd_5 wd_735) rfl rfl rfl (by decide +kernel) ⟨Nat.le_of_ble_eq_true rfl, Nat.le_of_ble_eq_true rfl⟩) (wr_preV hK hP hD (ci := 3) (q0 := 0) rfl rfl) rfl rfl hl.1 rfl (lv_room (Nat.le_of_ble_eq_true rfl)) d_M_give_153 ⟨Nat.le_of_ble_eq_true rfl, Nat.le_of_ble_eq_true rfl⟩) hD hS hA wM_adr (fun H locs hP hD hS => ?_)
                          refine W.eq (g2 := F0 m 156 ls []) rfl ?_
                          obtain ⟨T1, hT1⟩ : ∃ z : St, z = tk (nn x) i 60 T (T.1 28 (((nn y) * 10) + i)) := ⟨_, rfl⟩
                          rw [← hT1] at hP hD
                          refine lv_iinc (v := nI (i + 1)) (lv' := [(5, .int (nI (i + 1))), (4, .int (nI (sIf (fun _ => true) (fun j => S.1 28 (nn y * 10 + j)) 10))), (3, .int (b2 (ok x (S.2.1 0) && rg y 0 4))), (0, .ref (q 0)), (1, .int (nI (nn x))), (2, .int (nI (nn y)))]) hx hb d_M_give_156 hl (k := 0) rfl (nI_1 _) (by decide) rfl (fun ls hl => ?_)
                          refine lv_goto (tgt := 130) hx hb d_M_give_159 (by decide) ?_
                          exact ihc (i + 1) T1 _ _ (by omega) (by omega) (by rw [hT1, h28, hhc1]; rfl) hP hD hS ls (lv_sub hl [0, 1, 2, 3, 4, 5] (rfl))
                    exact LP130 ((10 - 0) + 1) 0 S _ _ (Nat.lt_succ_self _) (Nat.zero_le _) rfl hP hD hS ls (lv_sub hl [0, 1, 2, 3, 4, 5] (rfl))
                  · refine lv_aload_n hx hb d_M_give_96 rfl (lv_at hl 3 rfl) ?_
                    refine lv_iload_n hx hb d_M_give_97 rfl (lv_at hl 4 rfl) ?_
                    refine lv_iload hx hb d_M_give_98 (lv_at hl 0 rfl) ?_
                    refine pu_go (va_runV (As := [.int (nI (nn x)), .int (nI j)]) (rest := []) ⟨hx, hb, hml, hown, hts⟩ (c_M_good l dC dI cI cZ q S (nI 0) t hI (nn x) j (by omega) (by omega)) (cwV 2 hts (gi_V wd_724 wd_726 wp_27 wd_5 wd_727) rfl rfl rfl (by decide +kernel) ⟨Nat.le_of_ble_eq_true rfl, Nat.le_of_ble_eq_true rfl⟩) (pu_preV hK hP (ci := 3) (q0 := 0) rfl rfl) rfl rfl hl.1 rfl (lv_room (Nat.le_of_ble_eq_true rfl)) d_M_give_100 ⟨Nat.le_of_ble_eq_true rfl, Nat.le_of_ble_eq_true rfl⟩) ?_
                    have hb1 := good_le hI (nn x) j
                    refine lv_aload_n hx hb d_M_give_103 rfl (lv_at hl 3 rfl) ?_
                    refine va_get (D := (dC, dI)) (ci := 3) (v := .ref (q 26)) (C := R_M) (T := F_M) (N := 37) hx hb hts i_M hown hK hP 0 rfl rfl 33 (by decide) (hts _ wd_588) (fun _ h9 => h9) rfl d_M_give_104 ?_
                    refine lv_iload_n hx hb d_M_give_107 rfl (lv_at hl 5 rfl) ?_
                    refine lv_bipush (v := nI 10) hx hb d_M_give_108 (by decide) ?_
                    refine nv_mul hx hb d_M_give_110 ?_
                    refine lv_iload hx hb d_M_give_111 (lv_at hl 0 rfl) ?_
                    refine nv_add hx hb d_M_give_113 ?_
                    refine nv_iald (v := nI (S.1 28 (((nn y) * 10) + j))) hx hb hK hP 26 0 rfl rfl (by omega) (by decide) rfl d_M_give_114 ?_
                    have hb2 : S.1 28 (((nn y) * 10) + j) ≤ 20 := hB 28 _
                    refine nv_cge (tgt := 121) hx hb (by omega) (by omega) d_M_give_115 (by decide) (fun c115 => ?_) (fun c115 => ?_)
                    · refine lv_iinc (v := nI (j + 1)) (lv' := [(5, .int (nI (j + 1))), (4, .int (nI (sIf (fun _ => true) (fun j => S.1 28 (nn y * 10 + j)) 10))), (3, .int (b2 (ok x (S.2.1 0) && rg y 0 4))), (0, .ref (q 0)), (1, .int (nI (nn x))), (2, .int (nI (nn y)))]) hx hb d_M_give_121 hl (k := 0) rfl (nI_1 _) (by decide) rfl (fun ls hl => ?_)
                      refine lv_goto (tgt := 89) hx hb d_M_give_124 (by decide) ?_
                      exact ihb (j + 1) (by omega) (by omega) (fun r hr => (Nat.lt_succ_iff_lt_or_eq.mp hr).elim (hhb0 r) (fun e => by rw [e]; exact c115)) ls (lv_sub hl [0, 1, 2, 3, 4, 5] (rfl))
                    · refine lv_iload hx hb d_M_give_118 (lv_at hl 0 rfl) ?_
                      have ho : op_give S x y = (0, nI j, S) := by unfold op_give; rw [if_pos k1, if_pos k2, if_pos hap, lack_some (by omega) c115 hhb0]
                      rw [ho]
                      have hP9 : va_P (dC, dI) classes (wM q cI cZ (S) (nI 0)) H := hP
                      exact W.iret hx hb hr (fun t ht hW => ⟨rfl, by rw [ht]; exact hP9, hS.F ht⟩) hS.2.2 d_M_give_120
              exact LP89 (10 + 1) 0 (by omega) (by omega) (fun r hr => absurd hr (Nat.not_lt_zero _)) ls (lv_sub hl [0, 1, 2, 3, 4, 5] rfl)
            · refine lv_iconst (v := nI 0) hx hb d_M_give_84 (by decide) ?_
              have ho : op_give S x y = ((gth (nI 5) (gbit (ok x (S.2.1 0) && rg y 0 4) true (decide (0 < sIf (fun _ => true) (fun j => S.1 28 (nn y * 10 + j)) 10)) true)), 0, S) := of_give hI (fun _ => rfl) c81
              rw [ho]
              refine nv_as (0) (by rfl) ?_
              have hP9 : va_P (dC, dI) classes (wM q cI cZ (S) (nI (gth (nI 5) (gbit (ok x (S.2.1 0) && rg y 0 4) true (decide (0 < sIf (fun _ => true) (fun j => S.1 28 (nn y * 10 + j)) 10)) true)))) H := hP
              exact W.iret hx hb hr (fun t ht hW => ⟨rfl, by rw [ht]; exact hP9, hS.F ht⟩) hS.2.2 d_M_give_85
          refine lv_iload hx hb d_M_give_67 (lv_at hl 1 rfl) ?_
          refine nv_zle (tgt := 76) hx hb (by omega) d_M_give_69 (by decide) (fun c69 => ?_) (fun c69 => ?_)
          · refine lv_iconst (v := nI 0) hx hb d_M_give_76 (by decide) ?_
            refine nv_as (b2 (decide (0 < sIf (fun _ => true) (fun j => S.1 28 (nn y * 10 + j)) 10))) (b2_of0 (by simp [c69])) ?_
            exact J77
          · refine lv_iconst (v := nI 1) hx hb d_M_give_72 (by decide) ?_
            refine lv_goto (tgt := 77) hx hb d_M_give_73 (by decide) ?_
            refine nv_as (b2 (decide (0 < sIf (fun _ => true) (fun j => S.1 28 (nn y * 10 + j)) 10))) (b2_of1 (by simp [c69])) ?_
            exact J77
        · refine lv_iload_n hx hb d_M_give_36 rfl (lv_at hl 2 rfl) ?_
          refine nv_bz (tgt := 63) hx hb d_M_give_37 (by decide) (fun c37 => ?_) (fun c37 => ?_)
          · have hsl := sIf_le (P := fun _ => true) (v := fun j => S.1 28 (nn y * 10 + j)) (B := 20) (fun j => hB 28 _) i
            refine lv_aload_n hx hb d_M_give_63 rfl (lv_at hl 3 rfl) ?_
            refine lv_iconst (v := nI 5) hx hb d_M_give_64 (by decide) ?_
            refine lv_iload_n hx hb d_M_give_65 rfl (lv_at hl 2 rfl) ?_
            refine lv_iconst (v := b2 true) hx hb d_M_give_66 (by decide) ?_
            have J77 : W p l e (headSpec (.code y_M_give b_M_give 6 (some .int) :: bg) { frames := 4, cells := 0, slots := 0, locals := 91 }).room s m (List.toArray [.ref (q 0), .int x, .int y]) below meth c s.heap [] 0 0 (MQ below (wr_Q (some (.int ((op_give S x y).2.1))) (dC, dI) classes (wM q cI cZ ((op_give S x y).2.2) (nI (op_give S x y).1)) A) (List.toArray [.ref (q 0), .int x, .int y]) s 0 0 A) (F0 m 77 ls [.int (b2 (decide (0 < sIf (fun _ => true) (fun j => S.1 28 (nn y * 10 + j)) i))), .int (b2 true), .int (b2 (ok x (S.2.1 0) && rg y 0 4)), .int (nI 5), .ref (q 0)]) := by
              refine lv_iconst (v := b2 true) hx hb d_M_give_77 (by decide) ?_
              refine wr_goA (va_runV (As := [.int (nI 5), .int (b2 (ok x (S.2.1 0) && rg y 0 4)), .int (b2 true), .int (b2 (decide (0 < sIf (fun _ => true) (fun j => S.1 28 (nn y * 10 + j)) i))), .int (b2 true)]) (rest := []) ⟨hx, hb, hml, hown, hts⟩ (c_M_goes l dC dI s.heap.size cI cZ q S th t hI (nI 5) (ok x (S.2.1 0) && rg y 0 4) true (decide (0 < sIf (fun _ => true) (fun j => S.1 28 (nn y * 10 + j)) i)) true) (cwV 5 hts (gi_V wd_676 wd_678 wp_22 wd_5 wd_679) rfl rfl rfl (by decide +kernel) ⟨Nat.le_of_ble_eq_true rfl, Nat.le_of_ble_eq_true rfl⟩) (wr_preV hK hP hD (ci := 3) (q0 := 0) rfl rfl) rfl rfl hl.1 rfl (lv_room (Nat.le_of_ble_eq_true rfl)) d_M_give_78 ⟨Nat.le_of_ble_eq_true rfl, Nat.le_of_ble_eq_true rfl⟩) hD hS hA wM_adr (fun H locs hP hD hS => ?_)
              refine W.eq (g2 := F0 m 81 ls [.int (b2 ((ok x (S.2.1 0) && rg y 0 4) && (true && ((decide (0 < sIf (fun _ => true) (fun j => S.1 28 (nn y * 10 + j)) i)) && true))))]) rfl ?_
              refine nv_bn (tgt := 86) hx hb d_M_give_81 (by decide) (fun c81 => ?_) (fun c81 => ?_)
              · exact absurd (and4 c81).1 (by rw [c37]; decide)
              · refine lv_iconst (v := nI 0) hx hb d_M_give_84 (by decide) ?_
                have ho : op_give S x y = ((gth (nI 5) (gbit (ok x (S.2.1 0) && rg y 0 4) true (decide (0 < sIf (fun _ => true) (fun j => S.1 28 (nn y * 10 + j)) i)) true)), 0, S) := of_give hI (fun h9 => absurd h9 (by rw [c37]; decide)) c81
                rw [ho]
                refine nv_as (0) (by rfl) ?_
                have hP9 : va_P (dC, dI) classes (wM q cI cZ (S) (nI (gth (nI 5) (gbit (ok x (S.2.1 0) && rg y 0 4) true (decide (0 < sIf (fun _ => true) (fun j => S.1 28 (nn y * 10 + j)) i)) true)))) H := hP
                exact W.iret hx hb hr (fun t ht hW => ⟨rfl, by rw [ht]; exact hP9, hS.F ht⟩) hS.2.2 d_M_give_85
            refine lv_iload hx hb d_M_give_67 (lv_at hl 1 rfl) ?_
            refine nv_zle (tgt := 76) hx hb (by omega) d_M_give_69 (by decide) (fun c69 => ?_) (fun c69 => ?_)
            · refine lv_iconst (v := nI 0) hx hb d_M_give_76 (by decide) ?_
              refine nv_as (b2 (decide (0 < sIf (fun _ => true) (fun j => S.1 28 (nn y * 10 + j)) i))) (b2_of0 (by simp [c69])) ?_
              exact J77
            · refine lv_iconst (v := nI 1) hx hb d_M_give_72 (by decide) ?_
              refine lv_goto (tgt := 77) hx hb d_M_give_73 (by decide) ?_
              refine nv_as (b2 (decide (0 < sIf (fun _ => true) (fun j => S.1 28 (nn y * 10 + j)) i))) (b2_of1 (by simp [c69])) ?_
              exact J77
          · obtain ⟨k1, k2⟩ := and2 c37
            obtain ⟨e_y, l_y, b_y⟩ := rg_of k2
            have hl : lv_has ls 6 [(5, .int (nI i)), (4, .int (nI (sIf (fun _ => true) (fun j => S.1 28 (nn y * 10 + j)) i))), (3, .int (b2 (ok x (S.2.1 0) && rg y 0 4))), (0, .ref (q 0)), (1, .int x), (2, .int (nI (nn y)))] := by rw [← e_y]; exact hl
            refine lv_iload hx hb d_M_give_40 (lv_at hl 1 rfl) ?_
            refine lv_aload_n hx hb d_M_give_42 rfl (lv_at hl 3 rfl) ?_
            refine va_get (D := (dC, dI)) (ci := 3) (v := .ref (q 26)) (C := R_M) (T := F_M) (N := 37) hx hb hts i_M hown hK hP 0 rfl rfl 33 (by decide) (hts _ wd_588) (fun _ h9 => h9) rfl d_M_give_43 ?_
            refine lv_iload_n hx hb d_M_give_46 rfl (lv_at hl 5 rfl) ?_
            refine lv_bipush (v := nI 10) hx hb d_M_give_47 (by decide) ?_
            refine nv_mul hx hb d_M_give_49 ?_
            refine lv_iload hx hb d_M_give_50 (lv_at hl 0 rfl) ?_
            refine nv_add hx hb d_M_give_52 ?_
            refine nv_iald (v := nI (S.1 28 (((nn y) * 10) + i))) hx hb hK hP 26 0 rfl rfl (by omega) (by decide) rfl d_M_give_53 ?_
            have hb3 : S.1 28 (((nn y) * 10) + i) ≤ 20 := hB 28 _
            refine nv_add hx hb d_M_give_54 ?_
            refine lv_istore (lv' := [(4, .int (nI ((sIf (fun _ => true) (fun j => S.1 28 (nn y * 10 + j)) i) + (S.1 28 (((nn y) * 10) + i))))), (5, .int (nI i)), (3, .int (b2 (ok x (S.2.1 0) && rg y 0 4))), (0, .ref (q 0)), (1, .int x), (2, .int (nI (nn y)))]) hx hb d_M_give_55 hl (by decide) rfl (fun ls hl => ?_)
            refine lv_iinc (v := nI (i + 1)) (lv' := [(5, .int (nI (i + 1))), (4, .int (nI ((sIf (fun _ => true) (fun j => S.1 28 (nn y * 10 + j)) i) + (S.1 28 (((nn y) * 10) + i))))), (3, .int (b2 (ok x (S.2.1 0) && rg y 0 4))), (0, .ref (q 0)), (1, .int x), (2, .int (nI (nn y)))]) hx hb d_M_give_57 hl (k := 1) rfl (nI_1 _) (by decide) rfl (fun ls hl => ?_)
            refine lv_goto (tgt := 29) hx hb d_M_give_60 (by decide) ?_
            exact iha (i + 1) (by omega) (by omega) (Or.inl c37) ls (lv_sub hl [0, 1, 2, 3, 4, 5] (by rw [← e_y, sIf_t rfl]; rfl))
    exact LP29 (10 + 1) 0 (by omega) (by omega) (Or.inr rfl) ls (lv_sub hl [0, 1, 2, 3, 4, 5] rfl)
  refine lv_aload_n hx hb d_M_give_0 rfl (lv_at hl 0 rfl) ?_
  refine lv_iload_n hx hb d_M_give_1 rfl (lv_at hl 1 rfl) ?_
  refine pu_go (va_runV (As := [.int x]) (rest := []) ⟨hx, hb, hml, hown, hts⟩ (c_M_isStore l dC dI cI cZ q S th t hI x) (cwV 1 hts (gi_V wd_694 wd_696 wp_23 wd_5 wd_697) rfl rfl rfl (by decide +kernel) ⟨Nat.le_of_ble_eq_true rfl, Nat.le_of_ble_eq_true rfl⟩) (pu_preV hK hP (ci := 3) (q0 := 0) rfl rfl) rfl rfl hl.1 rfl (lv_room (Nat.le_of_ble_eq_true rfl)) d_M_give_2 ⟨Nat.le_of_ble_eq_true rfl, Nat.le_of_ble_eq_true rfl⟩) ?_
  refine nv_bz (tgt := 21) hx hb d_M_give_5 (by decide) (fun c5 => ?_) (fun c5 => ?_)
  · refine lv_iconst (v := nI 0) hx hb d_M_give_21 (by decide) ?_
    refine nv_as (b2 (ok x (S.2.1 0) && rg y 0 4)) (b2_of0 (by simp [c5])) ?_
    exact J22
  · refine lv_iload_n hx hb d_M_give_8 rfl (lv_at hl 2 rfl) ?_
    refine lv_iconst (v := nI 0) hx hb d_M_give_9 (by decide) ?_
    refine lv_iconst (v := nI 4) hx hb d_M_give_10 (by decide) ?_
    refine pu_go (va_runS (As := [.int y, .int (nI 0), .int (nI 4)]) (rest := []) ⟨hx, hb, hml, hown, hts⟩ (c_M_in l dC dI y (nI 0) (nI 4)) (cwS 3 hts (gi_S wd_687 wd_688 wd_5 wd_689) rfl rfl rfl (by decide +kernel) ⟨Nat.le_of_ble_eq_true rfl, Nat.le_of_ble_eq_true rfl⟩) (pu_preS (hK.sub (tys' := []) [] rfl) (fun k q h => by simp at h)) rfl rfl hl.1 rfl (lv_room (Nat.le_of_ble_eq_true rfl)) d_M_give_11 ⟨Nat.le_of_ble_eq_true rfl, Nat.le_of_ble_eq_true rfl⟩) ?_
    refine nv_as (b2 (rg y 0 4)) (congrArg b2 (in_rg (by decide) (by decide))) ?_
    refine nv_bz (tgt := 21) hx hb d_M_give_14 (by decide) (fun c14 => ?_) (fun c14 => ?_)
    · refine lv_iconst (v := nI 0) hx hb d_M_give_21 (by decide) ?_
      refine nv_as (b2 (ok x (S.2.1 0) && rg y 0 4)) (b2_of0 (by simp [c5, c14])) ?_
      exact J22
    · refine lv_iconst (v := nI 1) hx hb d_M_give_17 (by decide) ?_
      refine lv_goto (tgt := 22) hx hb d_M_give_18 (by decide) ?_
      refine nv_as (b2 (ok x (S.2.1 0) && rg y 0 4)) (b2_of1 (by simp [c5, c14])) ?_
      exact J22
set_option maxHeartbeats 4000000 in
set_option maxRecDepth 100000 in
theorem c_M_tick (l : Launch) (dC : Nat → ClassId) (dI : Nat → Nat → Nat) (sz : Nat) (cI cZ : ClassId) (q : Nat → Nat) (S : St) (th : Int32) (t : Nat) (hI : Bd t S) (x : Int32) (hV : Inv t S)  : Met l y_M_tick (.code y_M_tick b_M_tick 5 (some .int) :: bg) { frames := 2, cells := 0, slots := 0, locals := 44 } (wr_P (dC, dI) classes (wM q cI cZ S th) [(cI, .int), (cZ, .boolean)] sz [.ref (q 0), .int x]) (wr_Q (some (.int ((op_tick S x).2.1))) (dC, dI) classes (wM q cI cZ ((op_tick S x).2.2) (nI (op_tick S x).1)) (va_A (wM q cI cZ S th) sz)) 0 0 (va_A (wM q cI cZ S th) sz) := by
  refine Met.ofW (cc := b_M_tick) (maxL := 5) (ret := (some .int)) (by decide) rfl ?_
  intro p e s m args below meth c s₁ B hml hv
  obtain ⟨rfl, hsz, hP, hK, hD0⟩ := hv
  subst hsz
  have hD := hD0.self (sz := s.heap.size)
  generalize hAe : va_A (wM q cI cZ S th) s.heap.size = A at hD ⊢
  have hA : ∀ q : Nat, s.heap.size ≤ q → A q := fun q h => by rw [← hAe]; exact Or.inr h
  have hS : va_S A s.heap s.heap [] := va_S.rf
  have hx := B.exec
  have hb := B.bytes
  have hr := B.returns
  have hts := fun w (h : w ∈ bg) => atoms_spec (ws := .code y_M_tick b_M_tick 5 (some .int) :: bg) B.pre w (List.mem_cons_of_mem _ h)
  have hown : s.vm.findClass R_M = some m.cls := findClass_of_methodNamed B.named
  have hlocks := B.notSynchronized
  have hl := lv_entry ([.ref (q 0), .int x]) (n := 5) (Nat.le_of_ble_eq_true rfl)
  rw [lg_entry_eq]
  generalize (lg_sl ([.ref (q 0), .int x]) ++ List.replicate (5 - (lg_sl ([.ref (q 0), .int x])).length) Slot.unset).toArray = ls at hl ⊢
  have hl : lv_has ls 5 [(0, .ref (q 0)), (1, .int x)] := hl
  have hB := hI.1
  have hg0 : S.2.1 0 ≤ 8 := hI.2.1 0
  have hg1 : S.2.1 1 ≤ 9999 := hI.2.1 1
  have hg2 : S.2.1 2 ≤ 60 := hI.2.1 2
  have hg3 : S.2.1 3 ≤ 60 := hI.2.1 3
  have hg4 : S.2.1 4 ≤ 80 := hI.2.1 4
  have hg5 : S.2.1 5 ≤ 20 := hI.2.1 5
  have hg6 : S.2.1 6 ≤ 80 := hI.2.1 6
  have hg7 : S.2.1 7 ≤ 10 := hI.2.1 7
  have hg8 : t ≤ 512 := hI.2.2
  refine lv_aload_n hx hb d_M_tick_0 rfl (lv_at hl 0 rfl) ?_
  refine lv_iconst (v := nI 2) hx hb d_M_tick_1 (by decide) ?_
  refine lv_iconst (v := b2 true) hx hb d_M_tick_2 (by decide) ?_
  have J31 : W p l e (headSpec (.code y_M_tick b_M_tick 5 (some .int) :: bg) { frames := 2, cells := 0, slots := 0, locals := 44 }).room s m (List.toArray [.ref (q 0), .int x]) below meth c s.heap [] 0 0 (MQ below (wr_Q (some (.int ((op_tick S x).2.1))) (dC, dI) classes (wM q cI cZ ((op_tick S x).2.2) (nI (op_tick S x).1)) A) (List.toArray [.ref (q 0), .int x]) s 0 0 A) (F0 m 31 ls [.int (b2 (rg x 1 1000 && !decide (nI (9999 - S.2.1 1) < x))), .int (b2 true), .int (nI 2), .ref (q 0)]) := by
    refine lv_iconst (v := b2 true) hx hb d_M_tick_31 (by decide) ?_
    refine lv_iconst (v := b2 true) hx hb d_M_tick_32 (by decide) ?_
    refine wr_goA (va_runV (As := [.int (nI 2), .int (b2 true), .int (b2 (rg x 1 1000 && !decide (nI (9999 - S.2.1 1) < x))), .int (b2 true), .int (b2 true)]) (rest := []) ⟨hx, hb, hml, hown, hts⟩ (c_M_goes l dC dI s.heap.size cI cZ q S th t hI (nI 2) true (rg x 1 1000 && !decide (nI (9999 - S.2.1 1) < x)) true true) (cwV 5 hts (gi_V wd_676 wd_678 wp_22 wd_5 wd_679) rfl rfl rfl (by decide +kernel) ⟨Nat.le_of_ble_eq_true rfl, Nat.le_of_ble_eq_true rfl⟩) (wr_preV hK hP hD (ci := 3) (q0 := 0) rfl rfl) rfl rfl hl.1 rfl (lv_room (Nat.le_of_ble_eq_true rfl)) d_M_tick_33 ⟨Nat.le_of_ble_eq_true rfl, Nat.le_of_ble_eq_true rfl⟩) hD hS hA wM_adr (fun H locs hP hD hS => ?_)
    refine W.eq (g2 := F0 m 36 ls [.int (b2 (true && ((rg x 1 1000 && !decide (nI (9999 - S.2.1 1) < x)) && (true && true))))]) rfl ?_
    refine nv_bn (tgt := 41) hx hb d_M_tick_36 (by decide) (fun c36 => ?_) (fun c36 => ?_)
    · obtain ⟨k0, r0, t0, o0⟩ := and4 c36
      have hP : va_P (dC, dI) classes (wM q cI cZ S (nI 0)) H := by rw [gz c36] at hP; exact hP
      have hD : va_D A (wM q cI cZ S (nI 0)) := by rw [gz c36] at hD; exact hD
      obtain ⟨r1, r2⟩ := and2 r0
      rw [n_lt r1 (by omega) (by decide)] at r2
      have r3 := of_decide_eq_true r2
      obtain ⟨e_x, l_x, b_x⟩ := rg_of r1
      have hl : lv_has ls 5 [(0, .ref (q 0)), (1, .int (nI (nn x)))] := by rw [← e_x]; exact hl
      have r4 : S.2.1 1 + nn x ≤ 9999 := by omega
      refine lv_iconst (v := nI 0) hx hb d_M_tick_41 (by decide) ?_
      refine lv_istore_n (lv' := [(2, .int (nI 0)), (0, .ref (q 0)), (1, .int (nI (nn x)))]) hx hb d_M_tick_42 rfl hl (by decide) rfl (fun ls hl => ?_)
      refine lv_iconst (v := nI 0) hx hb d_M_tick_43 (by decide) ?_
      refine lv_istore_n (lv' := [(3, .int (nI 0)), (2, .int (nI 0)), (0, .ref (q 0)), (1, .int (nI (nn x)))]) hx hb d_M_tick_44 rfl hl (by decide) rfl (fun ls hl => ?_)
      have LP45 : ∀ (fua : Nat) (k : Nat) (T : St) (H : Heap) (locs : List Loc), nn x - k < fua → (k ≤ nn x) → (T = canon (S_g S 1 (S.2.1 1 + k)) (by_ S (S.2.1 1 + k)) (S.2.1 3)) → va_P (dC, dI) classes (wM q cI cZ T (nI 0)) H → va_D A (wM q cI cZ T (nI 0)) → va_S A s.heap H locs → ∀ ls : Array Slot, lv_has ls 5 [(3, .int (nI k)), (2, .int (nI (sIf (by_ S (S.2.1 1 + k)) (fun _ => 1) (S.2.1 3)))), (0, .ref (q 0)), (1, .int (nI (nn x)))] → W p l e (headSpec (.code y_M_tick b_M_tick 5 (some .int) :: bg) { frames := 2, cells := 0, slots := 0, locals := 44 }).room s m (List.toArray [.ref (q 0), .int x]) below meth c H locs 0 0 (MQ below (wr_Q (some (.int ((op_tick S x).2.1))) (dC, dI) classes (wM q cI cZ ((op_tick S x).2.2) (nI (op_tick S x).1)) A) (List.toArray [.ref (q 0), .int x]) s 0 0 A) (F0 m 45 ls []) := by
        intro fua
        induction fua with
        | zero => intro k T H locs h; exact absurd h (Nat.not_lt_zero _)
        | succ fua iha =>
          intro k T H locs hfua hha0 hha1 hP hD hS ls hl
          have hIT : Bd t T := by rw [hha1]; exact canon_Bd (Bd_g hI (show _ ≤ 9999 by omega))
          have q1_T : T.2.1 1 = S.2.1 1 + k := by rw [hha1]; rfl
          have q3_T : T.2.1 3 = S.2.1 3 := by rw [hha1]; rfl
          have hcl := sIf_le (P := by_ S (S.2.1 1 + k)) (v := fun _ => 1) (B := 1) (fun _ => Nat.le_refl _) (S.2.1 3)
          have hBT := hIT.1
          have hg0 : T.2.1 0 ≤ 8 := hIT.2.1 0
          have hg1 : T.2.1 1 ≤ 9999 := hIT.2.1 1
          have hg2 : T.2.1 2 ≤ 60 := hIT.2.1 2
          have hg3 : T.2.1 3 ≤ 60 := hIT.2.1 3
          have hg4 : T.2.1 4 ≤ 80 := hIT.2.1 4
          have hg5 : T.2.1 5 ≤ 20 := hIT.2.1 5
          have hg6 : T.2.1 6 ≤ 80 := hIT.2.1 6
          have hg7 : T.2.1 7 ≤ 10 := hIT.2.1 7
          have hg8 : t ≤ 512 := hIT.2.2
          refine lv_iload_n hx hb d_M_tick_45 rfl (lv_at hl 0 rfl) ?_
          refine lv_iload_n hx hb d_M_tick_46 rfl (lv_at hl 3 rfl) ?_
          refine nv_cge (tgt := 147) hx hb (by omega) (by omega) d_M_tick_47 (by decide) (fun c47 => ?_) (fun c47 => ?_)
          · obtain rfl : k = nn x := by omega
            have hac := arr_canon (S := S_g S 1 (S.2.1 1 + nn x)) (D := S.2.1 1 + nn x) (M := S.2.1 3) (hB 25) (S.2.1 3) (Nat.le_refl _)
            refine lv_iload_n hx hb d_M_tick_147 rfl (lv_at hl 1 rfl) ?_
            have ho : op_tick S x = (0, nI (arrC (S_g S 1 (S.2.1 1 + nn x)) (S.2.1 1 + nn x) (S.2.1 3)), arr (S_g S 1 (S.2.1 1 + nn x)) (S.2.1 1 + nn x) (S.2.1 3)) := by unfold op_tick; rw [if_pos r1, if_pos r4]
            rw [ho]
            refine nv_as (nI (arrC (S_g S 1 (S.2.1 1 + nn x)) (S.2.1 1 + nn x) (S.2.1 3))) (by rw [hac.2]; rfl) ?_
            have hP9 : va_P (dC, dI) classes (wM q cI cZ (arr (S_g S 1 (S.2.1 1 + nn x)) (S.2.1 1 + nn x) (S.2.1 3)) (nI 0)) H := by rw [hac.1, canon_congr (P' := by_ S (S.2.1 1 + nn x)) (fun j hj => by rw [decide_eq_true hj]; rfl), ← hha1]; exact hP
            exact W.iret hx hb hr (fun t ht hW => ⟨rfl, by rw [ht]; exact hP9, hS.F ht⟩) hS.2.2 d_M_tick_148
          · refine lv_aload_n hx hb d_M_tick_50 rfl (lv_at hl 2 rfl) ?_
            refine lv_dup hx hb d_M_tick_51 rfl ?_
            refine va_get (D := (dC, dI)) (ci := 3) (v := .int (nI (T.2.1 1))) (C := R_M) (T := F_M) (N := 37) hx hb hts i_M hown hK hP 0 rfl rfl 1 (by decide) (hts _ wd_556) (fun _ h9 => h9) rfl d_M_tick_52 ?_
            refine lv_iconst (v := nI 1) hx hb d_M_tick_55 (by decide) ?_
            refine nv_add hx hb d_M_tick_56 ?_
            refine va_put (D := (dC, dI)) (ci := 3) (v := .int (nI ((T.2.1 1) + 1))) (ty := .int) (C := R_M) (T := F_M) (N := 37) hx hb hts i_M ty_M ty_M_ok n_M hown hK hP hD hS 0 rfl rfl 1 (by decide) (hts _ wd_556) (fun _ h9 => h9) rfl (by decide +kernel) rfl rfl (Nat.le_of_ble_eq_true rfl) d_M_tick_57 (fun H locs hP hD hS => ?_)
            have hP : va_P (dC, dI) classes (wM q cI cZ (S_g T 1 ((T.2.1 1) + 1)) (nI 0)) H := by rw [← wM_g1]; exact hP
            have hD : va_D A (wM q cI cZ (S_g T 1 ((T.2.1 1) + 1)) (nI 0)) := by rw [← wM_g1]; exact hD
            obtain ⟨T1, hT1⟩ : ∃ z : St, z = S_g T 1 ((T.2.1 1) + 1) := ⟨_, rfl⟩
            rw [← hT1] at hP hD
            refine lv_iconst (v := nI 0) hx hb d_M_tick_60 (by decide) ?_
            refine lv_istore (lv' := [(4, .int (nI 0)), (3, .int (nI k)), (2, .int (nI (sIf (by_ S (S.2.1 1 + k)) (fun _ => 1) (S.2.1 3)))), (0, .ref (q 0)), (1, .int (nI (nn x)))]) hx hb d_M_tick_61 hl (by decide) rfl (fun ls hl => ?_)
            have LP63 : ∀ (fub : Nat) (i : Nat) (U : St) (H : Heap) (locs : List Loc), S.2.1 3 - i < fub → (i ≤ S.2.1 3) → (U = canon (S_g S 1 (S.2.1 1 + k + 1)) (mid S (S.2.1 1 + k + 1) i) (S.2.1 3)) → va_P (dC, dI) classes (wM q cI cZ U (nI 0)) H → va_D A (wM q cI cZ U (nI 0)) → va_S A s.heap H locs → ∀ ls : Array Slot, lv_has ls 5 [(4, .int (nI i)), (3, .int (nI k)), (2, .int (nI (sIf (mid S (S.2.1 1 + k + 1) i) (fun _ => 1) (S.2.1 3)))), (0, .ref (q 0)), (1, .int (nI (nn x)))] → W p l e (headSpec (.code y_M_tick b_M_tick 5 (some .int) :: bg) { frames := 2, cells := 0, slots := 0, locals := 44 }).room s m (List.toArray [.ref (q 0), .int x]) below meth c H locs 0 0 (MQ below (wr_Q (some (.int ((op_tick S x).2.1))) (dC, dI) classes (wM q cI cZ ((op_tick S x).2.2) (nI (op_tick S x).1)) A) (List.toArray [.ref (q 0), .int x]) s 0 0 A) (F0 m 63 ls []) := by
              intro fub
              induction fub with
              | zero => intro i U H locs h; exact absurd h (Nat.not_lt_zero _)
              | succ fub ihb =>
                intro i U H locs hfub hhb0 hhb1 hP hD hS ls hl
                have hIU : Bd t U := by rw [hhb1]; exact canon_Bd (Bd_g hI (show _ ≤ 9999 by omega))
                have q1_U : U.2.1 1 = S.2.1 1 + k + 1 := by rw [hhb1]; rfl
                have q3_U : U.2.1 3 = S.2.1 3 := by rw [hhb1]; rfl
                have r8_U : ∀ j, U.1 8 j = S.1 8 j := fun j => by rw [hhb1, canon_n (k := 8) (by decide) (by decide)]; rfl
                have hcl := sIf_le (P := mid S (S.2.1 1 + k + 1) i) (v := fun _ => 1) (B := 1) (fun _ => Nat.le_refl _) (S.2.1 3)
                have hBU := hIU.1
                have hg0 : U.2.1 0 ≤ 8 := hIU.2.1 0
                have hg1 : U.2.1 1 ≤ 9999 := hIU.2.1 1
                have hg2 : U.2.1 2 ≤ 60 := hIU.2.1 2
                have hg3 : U.2.1 3 ≤ 60 := hIU.2.1 3
                have hg4 : U.2.1 4 ≤ 80 := hIU.2.1 4
                have hg5 : U.2.1 5 ≤ 20 := hIU.2.1 5
                have hg6 : U.2.1 6 ≤ 80 := hIU.2.1 6
                have hg7 : U.2.1 7 ≤ 10 := hIU.2.1 7
                have hg8 : t ≤ 512 := hIU.2.2
                refine lv_iload hx hb d_M_tick_63 (lv_at hl 0 rfl) ?_
                refine lv_aload_n hx hb d_M_tick_65 rfl (lv_at hl 3 rfl) ?_
                refine va_get (D := (dC, dI)) (ci := 3) (v := .int (nI (U.2.1 3))) (C := R_M) (T := F_M) (N := 37) hx hb hts i_M hown hK hP 0 rfl rfl 10 (by decide) (hts _ wd_565) (fun _ h9 => h9) rfl d_M_tick_66 ?_
                refine nv_cge (tgt := 141) hx hb (by omega) (by omega) d_M_tick_69 (by decide) (fun c69 => ?_) (fun c69 => ?_)
                · refine lv_iinc (v := nI (k + 1)) (lv' := [(3, .int (nI (k + 1))), (4, .int (nI i)), (2, .int (nI (sIf (mid S (S.2.1 1 + k + 1) i) (fun _ => 1) (S.2.1 3)))), (0, .ref (q 0)), (1, .int (nI (nn x)))]) hx hb d_M_tick_141 hl (k := 1) rfl (nI_1 _) (by decide) rfl (fun ls hl => ?_)
                  refine lv_goto (tgt := 45) hx hb d_M_tick_144 (by decide) ?_
                  obtain rfl : i = S.2.1 3 := by omega
                  have hm1 : ∀ j, j < S.2.1 3 → mid S (S.2.1 1 + k + 1) (S.2.1 3) j = by_ S (S.2.1 1 + (k + 1)) j := fun j hj => mid_M hj
                  exact iha (k + 1) U _ _ (by omega) (by omega) (by rw [hhb1]; exact canon_congr hm1) hP hD hS ls (lv_sub hl [0, 2, 3, 4] (by rw [sIf_congr (S.2.1 3) (fun j hj => ⟨hm1 j hj, fun _ => rfl⟩)]; rfl))
                · refine lv_aload_n hx hb d_M_tick_72 rfl (lv_at hl 3 rfl) ?_
                  refine va_get (D := (dC, dI)) (ci := 3) (v := .ref (q 11)) (C := R_M) (T := F_M) (N := 37) hx hb hts i_M hown hK hP 0 rfl rfl 15 (by decide) (hts _ wd_570) (fun _ h9 => h9) rfl d_M_tick_73 ?_
                  refine lv_iload hx hb d_M_tick_76 (lv_at hl 0 rfl) ?_
                  refine nv_zald (v := nI (U.1 9 i)) hx hb hK hP 11 1 rfl rfl (by omega) (by decide) rfl d_M_tick_78 ?_
                  have hb1 : U.1 9 i ≤ 1 := hBU 9 _
                  refine nv_zeq (tgt := 135) hx hb (by omega) d_M_tick_79 (by decide) (fun c79 => ?_) (fun c79 => ?_)
                  · refine lv_iinc (v := nI (i + 1)) (lv' := [(4, .int (nI (i + 1))), (3, .int (nI k)), (2, .int (nI (sIf (mid S (S.2.1 1 + k + 1) i) (fun _ => 1) (S.2.1 3)))), (0, .ref (q 0)), (1, .int (nI (nn x)))]) hx hb d_M_tick_135 hl (k := 0) rfl (nI_1 _) (by decide) rfl (fun ls hl => ?_)
                    refine lv_goto (tgt := 63) hx hb d_M_tick_138 (by decide) ?_
                    have hmn : mid S (S.2.1 1 + k + 1) (i + 1) = mid S (S.2.1 1 + k + 1) i := funext fun j => by
                      by_cases hj : j = i
                      · subst hj; exact mid_n (M := S.2.1 3) (by omega) (Or.inl (by rw [← hhb1]; exact c79))
                      · exact mid_o hj
                    exact ihb (i + 1) U _ _ (by omega) (by omega) (by rw [hmn]; exact hhb1) hP hD hS ls (lv_sub hl [0, 1, 2, 3, 4] (by rw [hmn]; rfl))
                  · refine lv_aload_n hx hb d_M_tick_82 rfl (lv_at hl 3 rfl) ?_
                    refine va_get (D := (dC, dI)) (ci := 3) (v := .ref (q 10)) (C := R_M) (T := F_M) (N := 37) hx hb hts i_M hown hK hP 0 rfl rfl 14 (by decide) (hts _ wd_569) (fun _ h9 => h9) rfl d_M_tick_83 ?_
                    refine lv_iload hx hb d_M_tick_86 (lv_at hl 0 rfl) ?_
                    refine nv_iald (v := nI (U.1 8 i)) hx hb hK hP 10 0 rfl rfl (by omega) (by decide) rfl d_M_tick_88 ?_
                    have hb2 : U.1 8 i ≤ 10029 := hBU 8 _
                    refine lv_aload_n hx hb d_M_tick_89 rfl (lv_at hl 3 rfl) ?_
                    refine va_get (D := (dC, dI)) (ci := 3) (v := .int (nI (U.2.1 1))) (C := R_M) (T := F_M) (N := 37) hx hb hts i_M hown hK hP 0 rfl rfl 1 (by decide) (hts _ wd_556) (fun _ h9 => h9) rfl d_M_tick_90 ?_
                    refine nv_ceq (tgt := 99) hx hb (by omega) (by omega) d_M_tick_93 (by decide) (fun c93 => ?_) (fun c93 => ?_)
                    · refine lv_aload_n hx hb d_M_tick_99 rfl (lv_at hl 3 rfl) ?_
                      refine va_get (D := (dC, dI)) (ci := 3) (v := .ref (q 11)) (C := R_M) (T := F_M) (N := 37) hx hb hts i_M hown hK hP 0 rfl rfl 15 (by decide) (hts _ wd_570) (fun _ h9 => h9) rfl d_M_tick_100 ?_
                      refine lv_iload hx hb d_M_tick_103 (lv_at hl 0 rfl) ?_
                      refine lv_iconst (v := nI 0) hx hb d_M_tick_105 (by decide) ?_
                      refine nv_zast (f' := upd (colf U.1 9) i (nI 0)) hx hb hK hP hD hS 11 1 rfl rfl (by omega) (by decide) (by decide) rfl (wM q cI cZ (S_a U 9 i 0) (nI 0)) wM_c9 d_M_tick_106 (fun H locs hP hD hS => ?_)
                      obtain ⟨U1, hU1⟩ : ∃ z : St, z = S_a U 9 i 0 := ⟨_, rfl⟩
                      rw [← hU1] at hP hD
                      have hIU1 : Bd t U1 := by rw [hU1]; exact Bd_a hIU (Nat.zero_le _)
                      have hBU1 := hIU1.1
                      have hg0 : U1.2.1 0 ≤ 8 := hIU1.2.1 0
                      have hg1 : U1.2.1 1 ≤ 9999 := hIU1.2.1 1
                      have hg2 : U1.2.1 2 ≤ 60 := hIU1.2.1 2
                      have hg3 : U1.2.1 3 ≤ 60 := hIU1.2.1 3
                      have hg4 : U1.2.1 4 ≤ 80 := hIU1.2.1 4
                      have hg5 : U1.2.1 5 ≤ 20 := hIU1.2.1 5
                      have hg6 : U1.2.1 6 ≤ 80 := hIU1.2.1 6
                      have hg7 : U1.2.1 7 ≤ 10 := hIU1.2.1 7
                      have hg8 : t ≤ 512 := hIU1.2.2
                      have q1_U1 : U1.2.1 = U.2.1 := by rw [hU1]; rfl
                      refine lv_aload_n hx hb d_M_tick_107 rfl (lv_at hl 3 rfl) ?_
                      refine lv_aload_n hx hb d_M_tick_108 rfl (lv_at hl 3 rfl) ?_
                      refine va_get (D := (dC, dI)) (ci := 3) (v := .ref (q 7)) (C := R_M) (T := F_M) (N := 37) hx hb hts i_M hown hK hP 0 rfl rfl 11 (by decide) (hts _ wd_566) (fun _ h9 => h9) rfl d_M_tick_109 ?_
                      refine lv_iload hx hb d_M_tick_112 (lv_at hl 0 rfl) ?_
                      refine nv_iald (v := nI (U1.1 5 i)) hx hb hK hP 7 0 rfl rfl (by omega) (by decide) rfl d_M_tick_114 ?_
                      have hb3 : U1.1 5 i ≤ 7 := hBU1 5 _
                      refine lv_aload_n hx hb d_M_tick_115 rfl (lv_at hl 3 rfl) ?_
                      refine va_get (D := (dC, dI)) (ci := 3) (v := .ref (q 8)) (C := R_M) (T := F_M) (N := 37) hx hb hts i_M hown hK hP 0 rfl rfl 12 (by decide) (hts _ wd_567) (fun _ h9 => h9) rfl d_M_tick_116 ?_
                      refine lv_iload hx hb d_M_tick_119 (lv_at hl 0 rfl) ?_
                      refine nv_iald (v := nI (U1.1 6 i)) hx hb hK hP 8 0 rfl rfl (by omega) (by decide) rfl d_M_tick_121 ?_
                      have hb4 : U1.1 6 i ≤ 59 := hBU1 6 _
                      refine lv_aload_n hx hb d_M_tick_122 rfl (lv_at hl 3 rfl) ?_
                      refine va_get (D := (dC, dI)) (ci := 3) (v := .ref (q 9)) (C := R_M) (T := F_M) (N := 37) hx hb hts i_M hown hK hP 0 rfl rfl 13 (by decide) (hts _ wd_568) (fun _ h9 => h9) rfl d_M_tick_123 ?_
                      refine lv_iload hx hb d_M_tick_126 (lv_at hl 0 rfl) ?_
                      refine nv_iald (v := nI (U1.1 7 i)) hx hb hK hP 9 0 rfl rfl (by omega) (by decide) rfl d_M_tick_128 ?_
                      have hb5 : U1.1 7 i ≤ 9999 := hBU1 7 _
                      refine wr_goA (va_runV (As := [.int (nI (U1.1 5 i)), .int (nI (U1.1 6 i)), .int (nI (U1.1 7 i))]) (rest := []) ⟨hx, hb, hml, hown, hts⟩ (c_M_comes l dC dI H.size cI cZ q U1 (nI 0) t hIU1 (U1.1 5 i) (U1.1 6 i) (U1.1 7 i) (by omega) (by omega) (by omega)) (cwV 3 hts (gi_V wd_713 wd_715 wp_26 wd_5 wd_716) rfl rfl rfl (by decide +kernel) ⟨Nat.le_of_ble_eq_true rfl, Nat.le_of_ble_eq_true rfl⟩) (wr_preV hK hP hD (ci := 3) (q0 := 0) rfl rfl) rfl rfl hl.1 rfl (lv_room (Nat.le_of_ble_eq_true rfl)) d_M_tick_129 ⟨Nat.le_of_ble_eq_true rfl, Nat.le_of_ble_eq_true rfl⟩) hD hS hA wM_adr (fun H locs hP hD hS => ?_)
                      refine W.eq (g2 := F0 m 132 ls []) rfl ?_
                      have hcc : come U i = addUp U1 (U1.1 5 i) (U1.1 6 i) (U1.1 7 i) := by rw [hU1]; rfl
                      obtain ⟨U2, hU2⟩ : ∃ z : St, z = addUp U1 (U1.1 5 i) (U1.1 6 i) (U1.1 7 i) := ⟨_, rfl⟩
                      rw [← hU2] at hP hD
                      refine lv_iinc (v := nI ((sIf (mid S (S.2.1 1 + k + 1) i) (fun _ => 1) (S.2.1 3)) + 1)) (lv' := [(2, .int (nI ((sIf (mid S (S.2.1 1 + k + 1) i) (fun _ => 1) (S.2.1 3)) + 1))), (4, .int (nI i)), (3, .int (nI k)), (0, .ref (q 0)), (1, .int (nI (nn x)))]) hx hb d_M_tick_132 hl (k := 2) rfl (nI_1 _) (by decide) rfl (fun ls hl => ?_)
                      refine lv_iinc (v := nI (i + 1)) (lv' := [(4, .int (nI (i + 1))), (2, .int (nI ((sIf (mid S (S.2.1 1 + k + 1) i) (fun _ => 1) (S.2.1 3)) + 1))), (3, .int (nI k)), (0, .ref (q 0)), (1, .int (nI (nn x)))]) hx hb d_M_tick_135 hl (k := 1) rfl (nI_1 _) (by decide) rfl (fun ls hl => ?_)
                      refine lv_goto (tgt := 63) hx hb d_M_tick_138 (by decide) ?_
                      have hmy := mid_y (M := S.2.1 3) (by rw [← hhb1]; exact c79) (hB 9 i) (by omega) (show S.1 8 i = S.2.1 1 + k + 1 by rw [← r8_U, c93, q1_U])
                      have hsc := sIf_chg (P := mid S (S.2.1 1 + k + 1) (i + 1)) (P' := mid S (S.2.1 1 + k + 1) i) (v := fun _ => 1) (v' := fun _ => 1) (b := i) (d := 1) (by rw [hmy.1, hmy.2]; rfl) (S.2.1 3) (fun j _ hj => by rw [mid_o hj])
                      rw [if_pos (show i < S.2.1 3 by omega)] at hsc
                      exact ihb (i + 1) U2 _ _ (by omega) (by omega) (by rw [hU2, ← hcc, hhb1]; exact come_canon (by omega) hmy.1 hmy.2 (fun j hj => mid_o hj)) hP hD hS ls (lv_sub hl [0, 2, 1, 3, 4] (by rw [← hsc]; rfl))
                    · refine lv_goto (tgt := 135) hx hb d_M_tick_96 (by decide) ?_
                      refine lv_iinc (v := nI (i + 1)) (lv' := [(4, .int (nI (i + 1))), (3, .int (nI k)), (2, .int (nI (sIf (mid S (S.2.1 1 + k + 1) i) (fun _ => 1) (S.2.1 3)))), (0, .ref (q 0)), (1, .int (nI (nn x)))]) hx hb d_M_tick_135 hl (k := 0) rfl (nI_1 _) (by decide) rfl (fun ls hl => ?_)
                      refine lv_goto (tgt := 63) hx hb d_M_tick_138 (by decide) ?_
                      have hmn : mid S (S.2.1 1 + k + 1) (i + 1) = mid S (S.2.1 1 + k + 1) i := funext fun j => by
                        by_cases hj : j = i
                        · subst hj; exact mid_n (M := S.2.1 3) (by omega) (Or.inr (fun h => c93 (by rw [r8_U, q1_U]; exact h)))
                        · exact mid_o hj
                      exact ihb (i + 1) U _ _ (by omega) (by omega) (by rw [hmn]; exact hhb1) hP hD hS ls (lv_sub hl [0, 1, 2, 3, 4] (by rw [hmn]; rfl))
            exact LP63 ((S.2.1 3 - 0) + 1) 0 T1 _ _ (Nat.lt_succ_self _) (Nat.zero_le _) (by rw [hT1, q1_T, hha1, mid_0]; exact tick_d) hP hD hS ls (lv_sub hl [0, 1, 2, 3, 4] (by rw [mid_0]; rfl))
      exact LP45 ((nn x - 0) + 1) 0 S _ _ (Nat.lt_succ_self _) (Nat.zero_le _) (tick_0 hV) hP hD hS ls (lv_sub hl [0, 1, 2, 3] (by rw [tick_c hV]; rfl))
    · refine lv_iconst (v := nI 0) hx hb d_M_tick_39 (by decide) ?_
      have ho : op_tick S x = ((gth (nI 2) (gbit true (rg x 1 1000 && !decide (nI (9999 - S.2.1 1) < x)) true true)), 0, S) := of_tick hI c36
      rw [ho]
      refine nv_as (0) (by rfl) ?_
      have hP9 : va_P (dC, dI) classes (wM q cI cZ (S) (nI (gth (nI 2) (gbit true (rg x 1 1000 && !decide (nI (9999 - S.2.1 1) < x)) true true)))) H := hP
      exact W.iret hx hb hr (fun t ht hW => ⟨rfl, by rw [ht]; exact hP9, hS.F ht⟩) hS.2.2 d_M_tick_40
  refine lv_iload_n hx hb d_M_tick_3 rfl (lv_at hl 1 rfl) ?_
  refine lv_iconst (v := nI 1) hx hb d_M_tick_4 (by decide) ?_
  refine lv_sipush (v := nI 1000) hx hb d_M_tick_5 (by decide) ?_
  refine pu_go (va_runS (As := [.int x, .int (nI 1), .int (nI 1000)]) (rest := [.int (b2 true), .int (nI 2), .ref (q 0)]) ⟨hx, hb, hml, hown, hts⟩ (c_M_in l dC dI x (nI 1) (nI 1000)) (cwS 3 hts (gi_S wd_687 wd_688 wd_5 wd_689) rfl rfl rfl (by decide +kernel) ⟨Nat.le_of_ble_eq_true rfl, Nat.le_of_ble_eq_true rfl⟩) (pu_preS (hK.sub (tys' := []) [] rfl) (fun k q h => by simp at h)) rfl rfl hl.1 rfl (lv_room (Nat.le_of_ble_eq_true rfl)) d_M_tick_8 ⟨Nat.le_of_ble_eq_true rfl, Nat.le_of_ble_eq_true rfl⟩) ?_
  refine nv_as (b2 (rg x 1 1000)) (congrArg b2 (in_rg (by decide) (by decide))) ?_
  refine nv_bz (tgt := 30) hx hb d_M_tick_11 (by decide) (fun c11 => ?_) (fun c11 => ?_)
  · refine lv_iconst (v := nI 0) hx hb d_M_tick_30 (by decide) ?_
    refine nv_as (b2 (rg x 1 1000 && !decide (nI (9999 - S.2.1 1) < x))) (b2_of0 (by simp [c11])) ?_
    exact J31
  · refine lv_iload_n hx hb d_M_tick_14 rfl (lv_at hl 1 rfl) ?_
    refine lv_sipush (v := nI 9999) hx hb d_M_tick_15 (by decide) ?_
    refine lv_aload_n hx hb d_M_tick_18 rfl (lv_at hl 0 rfl) ?_
    refine va_get (D := (dC, dI)) (ci := 3) (v := .int (nI (S.2.1 1))) (C := R_M) (T := F_M) (N := 37) hx hb hts i_M hown hK hP 0 rfl rfl 1 (by decide) (hts _ wd_556) (fun _ h9 => h9) rfl d_M_tick_19 ?_
    refine nv_sub hx hb (by omega) d_M_tick_22 ?_
    refine lv_icmp_gt (tgt := 30) hx hb d_M_tick_23 (by decide) (fun c23 => ?_) (fun c23 => ?_)
    · refine lv_iconst (v := nI 0) hx hb d_M_tick_30 (by decide) ?_
      refine nv_as (b2 (rg x 1 1000 && !decide (nI (9999 - S.2.1 1) < x))) (b2_of0 (by simp [c11, c23])) ?_
      exact J31
    · refine lv_iconst (v := nI 1) hx hb d_M_tick_26 (by decide) ?_
      refine lv_goto (tgt := 31) hx hb d_M_tick_27 (by decide) ?_
      refine nv_as (b2 (rg x 1 1000 && !decide (nI (9999 - S.2.1 1) < x))) (b2_of1 (by simp [c11, c23])) ?_
      exact J31
