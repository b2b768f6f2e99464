/-! what holds between two calls stays so -/
def Iv (t : Nat) (S : St) : Prop := Inv t S ∧ ∀ j, S.2.1 3 ≤ j → S.1 9 j = 0
theorem Iv_eq {t : Nat} {S T : St} (h : Iv t S) (hB : Bd t T) (c : ∀ k, (k = 26 ∨ k = 27 ∨ k = 31 ∨ k = 2 ∨ k = 3 ∨ k = 4 ∨ k = 10 ∨ k = 15 ∨ k = 9 ∨ k = 8 ∨ k = 29 ∨ k = 30) → T.1 k = S.1 k) (g : ∀ k, k ≠ 6 → T.2.1 k = S.2.1 k) : Iv t T := by
  obtain ⟨⟨_, a1, a2, a3, a4, a5, a6, a7⟩, a8⟩ := h
  have c26 := c 26 (by decide)
  have c27 := c 27 (by decide)
  have c31 := c 31 (by decide)
  have c2 := c 2 (by decide)
  have c3 := c 3 (by decide)
  have c4 := c 4 (by decide)
  have c10 := c 10 (by decide)
  have c15 := c 15 (by decide)
  have c9 := c 9 (by decide)
  have c8 := c 8 (by decide)
  have c29 := c 29 (by decide)
  have c30 := c 30 (by decide)
  have g0 := g 0 (by decide)
  have g1 := g 1 (by decide)
  have g2 := g 2 (by decide)
  have g3 := g 3 (by decide)
  have g4 := g 4 (by decide)
  have g5 := g 5 (by decide)
  have g7 := g 7 (by decide)
  refine ⟨⟨hB, ?_, ?_, ?_, ?_, ?_, ?_, ?_⟩, ?_⟩
  · rw [c26, c27]; exact a1
  · rw [c31, c26]; exact a2
  · rw [g2, c2, c3, c4]; exact a3
  · rw [g4, c10, g0]; exact a4
  · rw [g5, c15, g0]; exact a5
  · rw [c9, g1, c8]; exact a6
  · rw [g7, c29, c30]; exact a7
  · rw [g3, c9]; exact a8
theorem Iv_a {t : Nat} {S : St} {k j v : Nat} (h : Iv t S) (hv : v ≤ bd t k) (hk : ¬ (k = 26 ∨ k = 27 ∨ k = 31 ∨ k = 2 ∨ k = 3 ∨ k = 4 ∨ k = 10 ∨ k = 15 ∨ k = 9 ∨ k = 8 ∨ k = 29 ∨ k = 30)) : Iv t (S_a S k j v) :=
  Iv_eq h (Bd_a h.1.1 hv) (fun k1 h1 => aU_n (fun e => hk (by rw [← e]; exact h1))) (fun _ _ => rfl)
theorem Iv_g6 {t : Nat} {S : St} {v : Nat} (h : Iv t S) (hv : v ≤ 80) : Iv t (S_g S 6 v) :=
  Iv_eq h (Bd_g h.1.1 hv) (fun _ _ => rfl) (fun k hk => va_up_ne _ _ hk)
theorem Iv_z {t : Nat} {S : St} {j : Nat} {v : Int32} (h : Iv t S) : Iv t (S_z S j v) := Iv_eq h (Bd_z h.1.1) (fun _ _ => rfl) (fun _ _ => rfl)
theorem Iv_g3 {t : Nat} {S : St} {v : Nat} (h : Iv t S) (hv : v ≤ 60) (h2 : S.2.1 3 ≤ v) : Iv t (S_g S 3 v) := by
  obtain ⟨⟨hB, a1, a2, a3, a4, a5, a6, a7⟩, a8⟩ := h
  exact ⟨⟨Bd_g hB hv, a1, a2, a3, a4, a5, a6, a7⟩, fun j hj => a8 j (Nat.le_trans h2 hj)⟩
theorem Iv_g0 {t : Nat} {S : St} (h : Iv t S) (hv : S.2.1 0 < 8) : Iv t (S_g S 0 (S.2.1 0 + 1)) := by
  obtain ⟨⟨hB, a1, a2, a3, a4, a5, a6, a7⟩, a8⟩ := h
  exact ⟨⟨Bd_g hB (show _ ≤ 8 from hv), a1, a2, a3, fun j hj => Nat.lt_succ_of_lt (a4 j hj), fun j hj => Nat.lt_succ_of_lt (a5 j hj), a6, a7⟩, a8⟩
theorem Iv_g2 {t : Nat} {S : St} (h : Iv t S) (hv : S.2.1 2 < 60) : Iv t (S_g S 2 (S.2.1 2 + 1)) := by
  obtain ⟨⟨hB, a1, a2, a3, a4, a5, a6, a7⟩, a8⟩ := h
  exact ⟨⟨Bd_g hB (show _ ≤ 60 from hv), a1, a2, fun j hj => a3 j (Nat.le_of_succ_le hj), a4, a5, a6, a7⟩, a8⟩
theorem Iv_lot {t : Nat} {S : St} {k j v : Nat} (h : Iv t S) (hv : v ≤ bd t k) (hj : j < S.2.1 2) (hk : k = 2 ∨ k = 3 ∨ k = 4) : Iv t (S_a S k j v) := by
  have ne : ∀ k1, ¬ (k1 = 2 ∨ k1 = 3 ∨ k1 = 4) → (S_a S k j v).1 k1 = S.1 k1 := fun k1 h1 => aU_n (fun e => h1 (by rw [e]; exact hk))
  have hB := Bd_a (j := j) h.1.1 hv
  have lt : ∀ k1 j1, S.2.1 2 ≤ j1 → (S_a S k j v).1 k1 j1 = S.1 k1 j1 := fun k1 j1 h1 => by
    show aU S.1 k j v k1 j1 = _
    by_cases e : k1 = k
    · subst e; rw [aU_e (by omega)]
    · rw [aU_n e]
  obtain ⟨⟨_, a1, a2, a3, a4, a5, a6, a7⟩, a8⟩ := h
  refine ⟨⟨hB, ?_, ?_, ?_, ?_, ?_, ?_, ?_⟩, ?_⟩
  · rw [ne 26 (by decide), ne 27 (by decide)]; exact a1
  · rw [ne 31 (by decide), ne 26 (by decide)]; exact a2
  · intro j1 h1
    have h1' : S.2.1 2 ≤ j1 := h1
    rw [lt 2 j1 h1', lt 3 j1 h1', lt 4 j1 h1']
    exact a3 j1 h1'
  · rw [ne 10 (by decide)]; exact a4
  · rw [ne 15 (by decide)]; exact a5
  · rw [ne 9 (by decide), ne 8 (by decide)]; exact a6
  · rw [ne 29 (by decide), ne 30 (by decide)]; exact a7
  · rw [ne 9 (by decide)]; exact a8
theorem Iv_89 {t : Nat} {S : St} {i r v : Nat} (h : Iv t S) (hi : S.2.1 3 = i) (hr : r ≤ 10029) (hv : v ≤ 1) (hd : v = 1 → S.2.1 1 < r) (hm : i < 60) : Iv t (S_g (S_a (S_a S 8 i r) 9 i v) 3 (i + 1)) := by
  have hB := Bd_g (k := 3) (v := i + 1) (Bd_a (k := 9) (j := i) (Bd_a (k := 8) (j := i) h.1.1 hr) hv) (show _ ≤ 60 by omega)
  obtain ⟨⟨_, a1, a2, a3, a4, a5, a6, a7⟩, a8⟩ := h
  refine ⟨⟨hB, a1, a2, a3, a4, a5, fun j hj => ?_, a7⟩, fun j hj => ?_⟩
  · have hj' : aU (aU S.1 8 i r) 9 i v 9 j = 1 := hj
    show S.2.1 1 < aU (aU S.1 8 i r) 9 i v 8 j
    rw [aU_n (by decide)]
    by_cases e : j = i
    · subst e
      rw [aU_s] at hj' ⊢
      exact hd hj'
    · rw [aU_e e, aU_n (by decide)] at hj'
      rw [aU_e e]
      exact a6 j hj'
  · have hj' : i + 1 ≤ j := hj
    show aU (aU S.1 8 i r) 9 i v 9 j = 0
    rw [aU_e (by omega), aU_n (by decide)]
    exact a8 j (by omega)
theorem Iv_addUp {t : Nat} {S : St} {s y n : Nat} (h : Iv t S) : Iv t (addUp S s y n) := Iv_a h (show _ ≤ 9999 from Nat.min_le_left _ _) (by decide)
theorem Iv_addOrd {t : Nat} {S : St} {s k n : Nat} (h : Iv t S) (hs : s < S.2.1 0) (hk : k ≤ 9) (hn : n ≤ 9999) (ho : S.2.1 4 < 80) : Iv t (addOrd S s k n) := by
  have h0 : S.2.1 0 ≤ 8 := h.1.1.2.1 0
  have hB := Bd_addOrd (s := s) (k := k) (n := n) h.1.1 (by omega) hk hn ho
  obtain ⟨⟨_, a1, a2, a3, a4, a5, a6, a7⟩, a8⟩ := h
  refine ⟨⟨hB, a1, a2, a3, fun j hj => ?_, a5, a6, a7⟩, a8⟩
  have hj' : j < S.2.1 4 + 1 := hj
  show aU (aU (aU (aU (aU S.1 10 (S.2.1 4) s) 11 (S.2.1 4) k) 12 (S.2.1 4) n) 13 (S.2.1 4) (S.2.1 1)) 14 (S.2.1 4) 1 10 j < S.2.1 0
  rw [aU_n (by decide), aU_n (by decide), aU_n (by decide), aU_n (by decide)]
  by_cases e : j = S.2.1 4
  · subst e; rw [aU_s]; exact hs
  · rw [aU_e e]; exact a4 j (by omega)
theorem Iv_ordK {t : Nat} {S : St} {s k : Nat} (h : Iv t S) (hs : s < S.2.1 0) (hk : k < 10) : Iv t (ordK S s k) := by
  have h27 : S.1 27 (s * 10 + k) ≤ 9999 := h.1.1.1 27 _
  unfold ordK
  split
  · exact h
  · split
    · exact h
    · split
      · exact Iv_addOrd h hs (by omega) (by omega) (by omega)
      · exact h
theorem ordK_0 {S : St} {s k : Nat} : (ordK S s k).2.1 0 = S.2.1 0 := by
  unfold ordK
  split
  · rfl
  · split
    · rfl
    · split <;> rfl
theorem Iv_ordR {t : Nat} {S : St} {s : Nat} (h : Iv t S) (hs : s < S.2.1 0) : ∀ k, k ≤ 10 → Iv t (ordR S s k) ∧ (ordR S s k).2.1 0 = S.2.1 0
  | 0, _ => ⟨h, rfl⟩
  | k + 1, hk => by
    obtain ⟨h1, h2⟩ := Iv_ordR h hs k (by omega)
    exact ⟨Iv_ordK h1 (by rw [h2]; exact hs) (by omega), ordK_0.trans h2⟩
theorem Iv_ordN {t : Nat} {S : St} (h : Iv t S) : ∀ i, i ≤ S.2.1 0 → Iv t (ordN S i) ∧ (ordN S i).2.1 0 = S.2.1 0
  | 0, _ => ⟨h, rfl⟩
  | i + 1, hi => by
    obtain ⟨h1, h2⟩ := Iv_ordN h i (by omega)
    obtain ⟨h3, h4⟩ := Iv_ordR h1 (s := i) (by rw [h2]; omega) 10 (Nat.le_refl _)
    rw [ordN_s]
    exact ⟨h3, h4.trans h2⟩
theorem Iv_takeOf {t : Nat} {S : St} {s k b d : Nat} (h : Iv t S) (hb : bst S s k (S.2.1 2) = some b) (ho : S.1 2 b + d ≤ 9999 * t) : Iv t (takeOf S s b d) :=
  Iv_lot (Iv_a h (show _ ≤ 9999 from Nat.le_trans (Nat.sub_le _ _) (h.1.1.1 25 _)) (by decide)) ho (bst_lt hb) (Or.inl rfl)
theorem Iv_tk {t s k : Nat} : ∀ (f : Nat) (S : St) (n : Nat), Iv t S → (∀ j, S.1 2 j + n ≤ 9999 * t) → Iv t (tk s k f S n)
  | 0, S, n, h, _ => h
  | f + 1, S, n, h, ho => by
    by_cases hn : n = 0
    · subst hn; rw [tk_0]; exact h
    · cases hb : bst S s k (S.2.1 2) with
      | none => rw [tk_n hb]; exact h
      | some b =>
        rw [tk_s (Nat.pos_of_ne_zero hn) hb]
        have hp : min n (S.1 25 (s * 60 + b)) ≤ n := Nat.min_le_left _ _
        generalize min n (S.1 25 (s * 60 + b)) = d at hp ⊢
        exact Iv_tk f _ _ (Iv_takeOf h hb (by have := ho b; omega)) (out_takeOf ho hp)
theorem Iv_gvN {t : Nat} {S : St} {s kt : Nat} (h : Iv t S) (ho : ∀ j, S.1 2 j + 9999 ≤ 9999 * t) : ∀ i, i ≤ 10 → Iv t (gvN S s kt i)
  | 0, _ => h
  | i + 1, hi => by
    have h1 := Iv_gvN (s := s) (kt := kt) h ho i (by omega)
    have h2 := (gvN_all (s := s) (kt := kt) h.1.1 (fun j => by have := ho j; omega) i (by omega)).2.1
    have hn : S.1 28 (kt * 10 + i) ≤ 20 := h.1.1.1 28 _
    exact Iv_tk 60 _ _ h1 (fun j => by have := h2 j; omega)
theorem Iv_store {t : Nat} {S : St} (h : Iv t S) : Iv t (op_store S).2.2 := by
  unfold op_store
  split
  · exact Iv_g0 h (by assumption)
  · exact h
theorem Iv_lot_ {t : Nat} {S : St} {x y : Int32} (h : Iv t S) : Iv t (op_lot S x y).2.2 := by
  unfold op_lot
  split
  · rename_i h1
    split
    · rename_i h2
      split
      · rename_i h3
        have b1 := (ok_of h1).2
        have b2 := (rg_of h2).2.2
        show Iv t (S_g (S_row S 0 (S.2.1 2) (nn x) (nn y) 0 0 0) 2 (S.2.1 2 + 1))
        rw [lot_row (h.1.2.2.2.1 _ (Nat.le_refl _))]
        exact Iv_g2 (Iv_a (Iv_a h (show _ ≤ 9 by omega) (by decide)) (show _ ≤ 9999 by omega) (by decide)) h3
      · exact h
    · exact h
  · exact h
theorem Iv_bring {t : Nat} {S : St} {x y n : Int32} (h : Iv t S) : Iv t (op_bring S x y n).2.2 := by
  unfold op_bring
  repeat' split
  all_goals first | exact h | skip
  rename_i h1
  exact Iv_a h (show _ ≤ 9999 from h1) (by decide)
theorem Iv_move {t : Nat} {S : St} {x y w n d : Int32} (h : Iv t S) : Iv t (op_move S x y w n d).2.2 := by
  unfold op_move
  split
  · rename_i h1
    split
    · rename_i h2
      split
      · split
        · rename_i h4
          split
          · rename_i h5
            split
            · rename_i h6
              split
              · rename_i h7
                split
                · rename_i h8
                  have b1 := (ok_of h1).2
                  have b2 := (ok_of h2).2
                  have b4 := (ok_of h4).2
                  have b5 := (rg_of h5).2
                  have b6 := (rg_of h6).2
                  have g0 : S.2.1 0 ≤ 8 := h.1.1.2.1 0
                  have g2 : S.2.1 2 ≤ 60 := h.1.1.2.1 2
                  have g1 : S.2.1 1 ≤ 9999 := h.1.1.2.1 1
                  have c25 : S.1 25 (nn x * 60 + nn w) ≤ 9999 := h.1.1.1 25 _
                  have hT : Iv t (S_a (S_a (S_a (S_a S 25 (nn x * 60 + nn w) (S.1 25 (nn x * 60 + nn w) - nn n)) 5 (S.2.1 3) (nn y)) 6 (S.2.1 3) (nn w)) 7 (S.2.1 3) (nn n)) :=
                    Iv_a (Iv_a (Iv_a (Iv_a h (show _ ≤ 9999 by omega) (by decide)) (show _ ≤ 7 by omega) (by decide)) (show _ ≤ 59 by omega) (by decide)) (show _ ≤ 9999 by omega) (by decide)
                  by_cases h9 : nn d = 0
                  · show Iv t (if nn d = 0 then _ else _)
                    rw [if_pos h9, mv_eq]
                    have h10 := Iv_addUp (s := nn y) (y := nn w) (n := nn n) (Iv_89 (i := S.2.1 3) (r := S.2.1 1 + nn d) (v := 0) hT rfl (by omega) (by omega) (fun e => by omega) h8)
                    exact h10
                  · show Iv t (if nn d = 0 then _ else _)
                    rw [if_neg h9]
                    exact Iv_89 (i := S.2.1 3) (r := S.2.1 1 + nn d) (v := 1) hT rfl (by omega) (by omega) (fun _ => show S.2.1 1 < _ by omega) h8
                · exact h
              · exact h
            · exact h
          · exact h
        · exact h
      · exact h
    · exact h
  · exact h
theorem Iv_use {t : Nat} {S : St} {x y n : Int32} (h : Iv t S) (ho : ∀ j, S.1 2 j + 9999 ≤ 9999 * t) : Iv t (op_use S x y n).2.2 := by
  unfold op_use
  repeat' split
  all_goals first | exact h | skip
  rename_i h1 h2
  have := (rg_of h1).2.2
  exact Iv_tk 60 _ _ h (fun j => by have := ho j; omega)
theorem Iv_level {t : Nat} {S : St} {x y a b : Int32} (h : Iv t S) : Iv t (op_level S x y a b).2.2 := by
  unfold op_level
  repeat' split
  all_goals first | exact h | skip
  rename_i h3 h4
  have b3 := (rg_of h3).2.2
  have b4 := (rg_of h4).2.2
  have hB := Bd_a (k := 31) (j := nn x * 10 + nn y) (v := 1) (Bd_a (k := 27) (j := nn x * 10 + nn y) (v := nn b) (Bd_a (k := 26) (j := nn x * 10 + nn y) (v := nn a) h.1.1 (show _ ≤ 9999 by omega)) (show _ ≤ 9999 by omega)) (Nat.le_refl 1)
  obtain ⟨⟨_, a1, a2, a3, a4, a5, a6, a7⟩, a8⟩ := h
  generalize nn x * 10 + nn y = i at hB ⊢
  refine ⟨⟨hB, fun j => ?_, fun j hj => ?_, a3, a4, a5, a6, a7⟩, a8⟩
  · show aU (aU (aU S.1 26 i (nn a)) 27 i (nn b)) 31 i 1 26 j ≤ aU (aU (aU S.1 26 i (nn a)) 27 i (nn b)) 31 i 1 27 j
    rw [aU_n (by decide), aU_n (by decide), aU_n (k' := 27) (by decide)]
    by_cases e : j = i
    · subst e; rw [aU_s, aU_s]; omega
    · rw [aU_e e, aU_e e, aU_n (by decide)]; exact a1 j
  · have hj' : aU (aU (aU S.1 26 i (nn a)) 27 i (nn b)) 31 i 1 31 j = 0 := hj
    show aU (aU (aU S.1 26 i (nn a)) 27 i (nn b)) 31 i 1 26 j = 0
    rw [aU_n (by decide), aU_n (by decide)]
    by_cases e : j = i
    · subst e; rw [aU_s] at hj'; omega
    · rw [aU_e e, aU_n (by decide), aU_n (by decide)] at hj'
      rw [aU_e e]
      exact a2 j hj'
theorem Iv_orders {t : Nat} {S : St} (h : Iv t S) : Iv t (op_orders S).2.2 := (Iv_ordN h _ (Nat.le_refl _)).1
theorem Iv_deliver {t : Nat} {S : St} {x y : Int32} (h : Iv t S) : Iv t (op_deliver S x y).2.2 := by
  unfold op_deliver
  repeat' split
  all_goals first | exact h | skip
  exact Iv_addUp (Iv_a h (Nat.zero_le _) (by decide))
theorem Iv_emergency {t : Nat} {S : St} {x y n w : Int32} (h : Iv t S) : Iv t (op_emergency S x y n w).2.2 := by
  unfold op_emergency
  repeat' split
  all_goals first | exact h | skip
  rename_i h1 h2 h3 h4 h5
  have b1 := (ok_of h1).2
  have b2 := (ok_of h2).2
  have b3 := (ok_of h3).2
  have b4 := (rg_of h4).2.2
  have g0 : S.2.1 0 ≤ 8 := h.1.1.2.1 0
  have hB := Bd_g (k := 5) (v := S.2.1 5 + 1) (Bd_row (b := 15) (i := S.2.1 5) (v0 := nn x) (v1 := nn y) (v2 := nn n) (v3 := nn w) (v4 := 1) h.1.1 (show _ ≤ 7 by omega) (show _ ≤ 9 by omega) (show _ ≤ 9999 by omega) (show _ ≤ 19 by omega) (Nat.le_refl 1)) (show _ ≤ 20 from h5)
  obtain ⟨⟨_, a1, a2, a3, a4, a5, a6, a7⟩, a8⟩ := h
  refine ⟨⟨hB, a1, a2, a3, a4, fun j hj => ?_, a6, a7⟩, a8⟩
  have hj' : j < S.2.1 5 + 1 := hj
  show aU (aU (aU (aU (aU S.1 15 (S.2.1 5) (nn x)) 16 (S.2.1 5) (nn y)) 17 (S.2.1 5) (nn n)) 18 (S.2.1 5) (nn w)) 19 (S.2.1 5) 1 15 j < S.2.1 0
  rw [aU_n (by decide), aU_n (by decide), aU_n (by decide), aU_n (by decide)]
  by_cases e : j = S.2.1 5
  · subst e; rw [aU_s]; exact b1
  · rw [aU_e e]; exact a5 j (by omega)
theorem Iv_second {t : Nat} {S : St} {x y : Int32} (h : Iv t S) : Iv t (op_second S x y).2.2 := by
  unfold op_second
  repeat' split
  all_goals first | exact h | skip
  rename_i h1 h2 h3 h4 h5
  exact Iv_addOrd (Iv_a h (Nat.zero_le _) (by decide)) (h.1.2.2.2.2.2.1 _ (ok_of h1).2) (h.1.1.1 16 _) (h.1.1.1 17 _) h5
theorem Iv_count {t : Nat} {S : St} {x y n w : Int32} (h : Iv t S) : Iv t (op_count S x y n w).2.2 := by
  unfold op_count
  repeat' split
  all_goals first | exact h | skip
  rename_i h1 h2 h3 h4 h5 h6
  have b1 := (ok_of h1).2
  have b2 := (ok_of h2).2
  have b3 := (rg_of h3).2.2
  have b4 := (rg_of h4).2.2
  have g0 : S.2.1 0 ≤ 8 := h.1.1.2.1 0
  have g2 : S.2.1 2 ≤ 60 := h.1.1.2.1 2
  have g1 : S.2.1 1 ≤ 9999 := h.1.1.2.1 1
  exact Iv_g6 (Iv_a (Iv_a (Iv_z (Iv_a (Iv_a (Iv_a h (show _ ≤ 9999 by omega) (by decide)) (show _ ≤ 7 by omega) (by decide)) (show _ ≤ 59 by omega) (by decide))) (show _ ≤ 99 by omega) (by decide)) (show _ ≤ 9999 from g1) (by decide)) (show _ ≤ 80 from h6)
theorem Iv_kit {t : Nat} {S : St} {x y n : Int32} (h : Iv t S) : Iv t (op_kit S x y n).2.2 := by
  unfold op_kit
  repeat' split
  all_goals first | exact h | skip
  rename_i h3
  exact Iv_a h (show _ ≤ 20 from (rg_of h3).2.2) (by decide)
theorem Iv_give {t : Nat} {S : St} {x y : Int32} (h : Iv t S) (ho : ∀ j, S.1 2 j + 9999 ≤ 9999 * t) : Iv t (op_give S x y).2.2 := by
  unfold op_give
  repeat' split
  all_goals first | exact h | skip
  exact Iv_gvN h ho 10 (Nat.le_refl _)
theorem Iv_back {t : Nat} {S : St} {x y n : Int32} (h : Iv t S) : Iv t (op_back S x y n).2.2 := by
  unfold op_back
  repeat' split
  all_goals first | exact h | skip
  rename_i h1 h2 h3 h4 h5
  have c2 : S.1 2 (nn y) ≤ 9999 * t := h.1.1.1 2 _
  exact Iv_a (Iv_lot h (show _ ≤ 9999 * t by omega) (ok_of h2).2 (Or.inl rfl)) (show _ ≤ 9999 from h5) (by decide)
theorem Iv_waste {t : Nat} {S : St} {x y n w : Int32} (h : Iv t S) (hw : ∀ j, S.1 3 j + 9999 ≤ 9999 * t) : Iv t (op_waste S x y n w).2.2 := by
  unfold op_waste
  repeat' split
  all_goals first | exact h | skip
  rename_i h1 h2 h3 h4 h5
  have b3 := (rg_of h3).2.2
  have b4 := (rg_of h4).2.2
  have c25 : S.1 25 (nn x * 60 + nn y) ≤ 9999 := h.1.1.1 25 _
  have c3 := hw (nn y)
  exact Iv_lot (Iv_lot (Iv_a h (show _ ≤ 9999 by omega) (by decide)) (show _ ≤ 9999 * t by omega) (ok_of h2).2 (Or.inr (Or.inl rfl))) (show _ ≤ 9999 by omega) (ok_of h2).2 (Or.inr (Or.inr rfl))
theorem Iv_row {t : Nat} {S : St} {x y : Int32} (h : Iv t S) : Iv t (op_row S x y).2.2 := by
  unfold op_row
  repeat' split
  all_goals first | exact h | skip
  rename_i h1 h2 h3 h4
  have b1 := (rg_of h1).2.2
  have b2 := (rg_of h2).2.2
  have hB := Bd_g (k := 7) (v := S.2.1 7 + 1) (Bd_a (k := 30) (j := S.2.1 7) (v := nn y) (Bd_a (k := 29) (j := S.2.1 7) (v := nn x) h.1.1 (show _ ≤ 99999 by omega)) (show _ ≤ 99999 by omega)) (show _ ≤ 10 from h4)
  obtain ⟨⟨_, a1, a2, a3, a4, a5, a6, a7⟩, a8⟩ := h
  refine ⟨⟨hB, a1, a2, a3, a4, a5, a6, fun i j hij hj => ?_⟩, a8⟩
  have hj' : j < S.2.1 7 + 1 := hj
  show aU (aU S.1 29 (S.2.1 7) (nn x)) 30 (S.2.1 7) (nn y) 29 i < aU (aU S.1 29 (S.2.1 7) (nn x)) 30 (S.2.1 7) (nn y) 29 j ∧ aU (aU S.1 29 (S.2.1 7) (nn x)) 30 (S.2.1 7) (nn y) 30 i < aU (aU S.1 29 (S.2.1 7) (nn x)) 30 (S.2.1 7) (nn y) 30 j
  rw [aU_n (k' := 29) (by decide), aU_e (k := 29) (i := i) (by omega), aU_e (k := 30) (i := i) (by omega), aU_n (k' := 30) (k := 29) (by decide)]
  by_cases e : j = S.2.1 7
  · subst e
    rw [aU_s, aU_s]
    rcases h3 with h3 | h3
    · omega
    · by_cases e2 : i = S.2.1 7 - 1
      · subst e2; exact h3
      · have h9 := a7 i (S.2.1 7 - 1) (by omega) (by omega)
        omega
  · rw [aU_e e, aU_e e, aU_n (by decide)]
    exact a7 i j hij (by omega)
theorem Iv_tick {t : Nat} {S : St} {x : Int32} (h : Iv t S) : Iv t (op_tick S x).2.2 := by
  unfold op_tick
  repeat' split
  all_goals first | exact h | skip
  rename_i h1 h2
  show Iv t (arr (S_g S 1 (S.2.1 1 + nn x)) (S.2.1 1 + nn x) (S.2.1 3))
  have hB := Bd_g (k := 1) (v := S.2.1 1 + nn x) h.1.1 (show _ ≤ 9999 from h2)
  rw [(arr_canon (S := S_g S 1 (S.2.1 1 + nn x)) (D := S.2.1 1 + nn x) (M := S.2.1 3) (h.1.1.1 25) (S.2.1 3) (Nat.le_refl _)).1]
  have hC := canon_Bd (P := fun j => decide (j < S.2.1 3) && by_ (S_g S 1 (S.2.1 1 + nn x)) (S.2.1 1 + nn x) j) (M := S.2.1 3) hB
  obtain ⟨⟨_, a1, a2, a3, a4, a5, a6, a7⟩, a8⟩ := h
  refine ⟨⟨hC, a1, a2, a3, a4, a5, fun j hj => ?_, a7⟩, fun j hj => ?_⟩
  · have hj' : (if j < S.2.1 3 ∧ (decide (j < S.2.1 3) && by_ (S_g S 1 (S.2.1 1 + nn x)) (S.2.1 1 + nn x) j) = true then 0 else S.1 9 j) = 1 := hj
    show S.2.1 1 + nn x < S.1 8 j
    by_cases hm : j < S.2.1 3
    · by_cases hc : by_ (S_g S 1 (S.2.1 1 + nn x)) (S.2.1 1 + nn x) j = true
      · rw [if_pos ⟨hm, by rw [hc, decide_eq_true hm]; rfl⟩] at hj'; omega
      · rw [if_neg (fun z => hc (by have := z.2; rw [decide_eq_true hm] at this; exact this))] at hj'
        have hc2 : ¬ (S.1 9 j = 1 ∧ S.1 8 j ≤ S.2.1 1 + nn x) := fun z => hc (by
          show (decide (S.1 9 j = 1) && decide (S.1 8 j ≤ S.2.1 1 + nn x)) = true
          rw [decide_eq_true z.1, decide_eq_true z.2]; rfl)
        omega
    · rw [if_neg (fun z => hm z.1), a8 j (Nat.not_lt.mp hm)] at hj'; omega
  · have hj' : S.2.1 3 ≤ j := hj
    show (if j < S.2.1 3 ∧ _ then 0 else S.1 9 j) = 0
    rw [if_neg (fun z => absurd z.1 (Nat.not_lt.mpr hj'))]
    exact a8 j hj'
theorem Iv_S0 : Iv 0 S0 := ⟨⟨⟨fun _ _ => Nat.zero_le _, fun _ => Nat.zero_le _, by decide⟩, fun _ => Nat.le_refl _, fun _ _ => rfl, fun _ _ => ⟨rfl, rfl, rfl⟩, fun _ h => absurd h (Nat.not_lt_zero _), fun _ h => absurd h (Nat.not_lt_zero _), fun _ h => absurd (show (0 : Nat) = 1 from h) (by decide), fun _ _ _ h => absurd h (Nat.not_lt_zero _)⟩, fun _ _ => rfl⟩
theorem Iv_up {t : Nat} {S : St} (h : Iv t S) (ht : t + 1 ≤ 512) : Iv (t + 1) S ∧ (∀ j, S.1 2 j + 9999 ≤ 9999 * (t + 1)) ∧ (∀ j, S.1 3 j + 9999 ≤ 9999 * (t + 1)) := by
  refine ⟨⟨⟨Bd_up h.1.1 (Nat.le_succ _) ht, h.1.2⟩, h.2⟩, fun j => ?_, fun j => ?_⟩
  · have h1 : S.1 2 j ≤ 9999 * t := h.1.1.1 2 j
    omega
  · have h1 : S.1 3 j ≤ 9999 * t := h.1.1.1 3 j
    omega
