/-! what taking, ordering and arriving leave as it was -/
theorem takeOf_Bd {t : Nat} {S : St} {s b p : Nat} (h : Bd t S) (ho : S.1 2 b + p ≤ 9999 * t) : Bd t (takeOf S s b p) :=
  Bd_a (Bd_a h (show _ ≤ 9999 from Nat.le_trans (Nat.sub_le _ _) (h.1 25 _))) ho
theorem tk_all {t s k : Nat} : ∀ (f : Nat) (S : St) (n : Nat), Bd t S → (∀ j, S.1 2 j + n ≤ 9999 * t) → Bd t (tk s k f S n) ∧ (∀ j, (tk s k f S n).1 2 j ≤ S.1 2 j + n) ∧ (tk s k f S n).2 = S.2 ∧ ∀ k', k' ≠ 2 → k' ≠ 25 → (tk s k f S n).1 k' = S.1 k'
  | 0, S, n, h, _ => ⟨h, fun j => Nat.le_add_right _ _, rfl, fun _ _ _ => rfl⟩
  | f + 1, S, n, h, ho => by
    by_cases hn : n = 0
    · subst hn; rw [tk_0]; exact ⟨h, fun j => Nat.le_refl _, rfl, fun _ _ _ => rfl⟩
    · cases hb : bst S s k (S.2.1 2) with
      | none => rw [tk_n hb]; exact ⟨h, fun j => Nat.le_add_right _ _, rfl, fun _ _ _ => rfl⟩
      | some b =>
        rw [tk_s (Nat.pos_of_ne_zero hn) hb]
        have hp : min n (S.1 25 (s * 60 + b)) ≤ n := Nat.min_le_left _ _
        generalize min n (S.1 25 (s * 60 + b)) = p at hp ⊢
        obtain ⟨h1, h2, h3, h4⟩ := tk_all f (takeOf S s b p) (n - p) (takeOf_Bd h (by have := ho b; omega)) (out_takeOf ho hp)
        refine ⟨h1, fun j => Nat.le_trans (h2 j) ?_, h3, fun k' e1 e2 => (h4 k' e1 e2).trans ?_⟩
        · show aU (aU S.1 25 (s * 60 + b) (S.1 25 (s * 60 + b) - p)) 2 b (S.1 2 b + p) 2 j + (n - p) ≤ S.1 2 j + n
          by_cases hj : j = b
          · subst hj; rw [aU_s]; omega
          · rw [aU_e hj, aU_n (by decide)]; omega
        · show aU (aU S.1 25 (s * 60 + b) (S.1 25 (s * 60 + b) - p)) 2 b (S.1 2 b + p) k' = S.1 k'
          rw [aU_n e1, aU_n e2]
theorem ordK_all {t : Nat} {S : St} {s k : Nat} (h : Bd t S) (hs : s < 8) (hk : k < 10) : Bd t (ordK S s k) ∧ (ordK S s k).2.1 0 = S.2.1 0 ∧ S.2.1 4 ≤ (ordK S s k).2.1 4 ∧ (ordK S s k).1 26 = S.1 26 ∧ (ordK S s k).1 27 = S.1 27 := by
  refine ⟨Bd_ordK h hs hk, ?_⟩
  unfold ordK
  split
  · exact ⟨rfl, Nat.le_refl _, rfl, rfl⟩
  · split
    · exact ⟨rfl, Nat.le_refl _, rfl, rfl⟩
    · split
      · exact ⟨rfl, Nat.le_succ _, rfl, rfl⟩
      · exact ⟨rfl, Nat.le_refl _, rfl, rfl⟩
theorem ordR_all {t : Nat} {S : St} {s : Nat} (h : Bd t S) (hs : s < 8) : ∀ k, k ≤ 10 → Bd t (ordR S s k) ∧ (ordR S s k).2.1 0 = S.2.1 0 ∧ S.2.1 4 ≤ (ordR S s k).2.1 4 ∧ (ordR S s k).1 26 = S.1 26 ∧ (ordR S s k).1 27 = S.1 27
  | 0, _ => ⟨h, rfl, Nat.le_refl _, rfl, rfl⟩
  | k + 1, hk => by
    obtain ⟨h1, h2, h3, h4, h5⟩ := ordR_all h hs k (by omega)
    obtain ⟨g1, g2, g3, g4, g5⟩ := ordK_all h1 hs (k := k) (by omega)
    exact ⟨g1, g2.trans h2, Nat.le_trans h3 g3, g4.trans h4, g5.trans h5⟩
theorem ordN_s {S : St} {i : Nat} : ordN S (i + 1) = ordR (ordN S i) i 10 := by rw [ordN]
theorem ordN_all {t : Nat} {S : St} (h : Bd t S) : ∀ i, i ≤ 8 → Bd t (ordN S i) ∧ (ordN S i).2.1 0 = S.2.1 0 ∧ S.2.1 4 ≤ (ordN S i).2.1 4 ∧ (ordN S i).1 26 = S.1 26 ∧ (ordN S i).1 27 = S.1 27
  | 0, _ => ⟨h, rfl, Nat.le_refl _, rfl, rfl⟩
  | i + 1, hi => by
    obtain ⟨h1, h2, h3, h4, h5⟩ := ordN_all h i (by omega)
    obtain ⟨g1, g2, g3, g4, g5⟩ := ordR_all h1 (s := i) (by omega) 10 (Nat.le_refl _)
    rw [ordN_s]
    exact ⟨g1, g2.trans h2, Nat.le_trans h3 g3, g4.trans h4, g5.trans h5⟩
theorem gvN_all {t : Nat} {S : St} {s kt : Nat} (h : Bd t S) (ho : ∀ j, S.1 2 j + 200 ≤ 9999 * t) : ∀ i, i ≤ 10 → Bd t (gvN S s kt i) ∧ (∀ j, (gvN S s kt i).1 2 j + 20 * (10 - i) ≤ 9999 * t) ∧ (gvN S s kt i).2 = S.2 ∧ ∀ k', k' ≠ 2 → k' ≠ 25 → (gvN S s kt i).1 k' = S.1 k'
  | 0, _ => ⟨h, fun j => by have := ho j; show S.1 2 j + 20 * (10 - 0) ≤ _; omega, rfl, fun _ _ _ => rfl⟩
  | i + 1, hi => by
    obtain ⟨h1, h2, h3, h4⟩ := gvN_all h ho i (by omega)
    have hn : S.1 28 (kt * 10 + i) ≤ 20 := h.1 28 _
    obtain ⟨g1, g2, g3, g4⟩ := tk_all (s := s) (k := i) 60 (gvN S s kt i) (S.1 28 (kt * 10 + i)) h1 (fun j => by have := h2 j; omega)
    refine ⟨g1, fun j => ?_, g3.trans h3, fun k' e1 e2 => (g4 k' e1 e2).trans (h4 k' e1 e2)⟩
    have a1 := g2 j
    have a2 := h2 j
    show (tk s i 60 (gvN S s kt i) (S.1 28 (kt * 10 + i))).1 2 j + 20 * (10 - (i + 1)) ≤ 9999 * t
    omega
theorem arr_all {t : Nat} {S : St} {D : Nat} (h : Bd t S) : ∀ i, Bd t (arr S D i) ∧ (arr S D i).2 = S.2
  | 0 => ⟨h, rfl⟩
  | i + 1 => by
    obtain ⟨h1, h2⟩ := arr_all (D := D) h i
    simp only [arr]
    split
    · exact ⟨Bd_come h1, h2⟩
    · exact ⟨h1, h2⟩
theorem arr_y {S : St} {D i : Nat} (h : due (arr S D i) D i = true) : arr S D (i + 1) = come (arr S D i) i ∧ arrC S D (i + 1) = arrC S D i + 1 := ⟨by simp [arr, h], by simp [arrC, h]⟩
theorem arr_n {S : St} {D i : Nat} (h : due (arr S D i) D i = false) : arr S D (i + 1) = arr S D i ∧ arrC S D (i + 1) = arrC S D i := ⟨by simp [arr, h], by simp [arrC, h]⟩
theorem arrC_le {S : St} {D : Nat} : ∀ i, arrC S D i ≤ i
  | 0 => Nat.le_refl _
  | i + 1 => by
    have := arrC_le (S := S) (D := D) i
    simp only [arrC]
    split <;> omega
