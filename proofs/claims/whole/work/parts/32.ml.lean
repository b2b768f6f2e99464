/-! sums that change at one place; taking, once more -/
theorem sIf_chg {P P' : Nat → Bool} {v v' : Nat → Nat} {b d : Nat} (hb : (if P' b = true then v' b else 0) + d = (if P b = true then v b else 0)) : ∀ n, (∀ j, j < n → j ≠ b → (if P' j = true then v' j else 0) = (if P j = true then v j else 0)) → sIf P' v' n + (if b < n then d else 0) = sIf P v n
  | 0, _ => by simp [sIf]
  | n + 1, h => by
    have h1 := sIf_chg hb n (fun j hj => h j (Nat.lt_succ_of_lt hj))
    simp only [sIf]
    by_cases e : n = b
    · subst e
      rw [if_neg (Nat.lt_irrefl _)] at h1
      rw [if_pos (Nat.lt_succ_self _)]
      omega
    · have h2 := h n (Nat.lt_succ_self _) e
      by_cases h3 : b < n
      · rw [if_pos h3] at h1
        rw [if_pos (show b < n + 1 by omega)]
        omega
      · rw [if_neg h3] at h1
        rw [if_neg (show ¬ b < n + 1 by omega)]
        omega
def cntT (S : St) (s k : Nat) : Nat := sIf (takeable S s k) (fun _ => 1) (S.2.1 2)
theorem cntT_le {t : Nat} {S : St} (h : Bd t S) (s k : Nat) : cntT S s k ≤ 60 :=
  Nat.le_trans (sIf_le (B := 1) (fun _ => Nat.le_refl _) _) (by have : S.2.1 2 ≤ 60 := h.2.1 2; omega)
theorem tkb_y {S : St} {s k j : Nat} (h1 : S.1 0 j = k) (h2 : S.2.1 1 ≤ S.1 1 j) (h3 : S.1 25 (s * 60 + j) ≠ 0) : takeable S s k j = true := by
  simp only [takeable, Bool.and_eq_true, decide_eq_true_eq]
  exact ⟨h1, h2, Nat.pos_of_ne_zero h3⟩
theorem tkb_n {S : St} {s k j : Nat} (h : ¬ (S.1 0 j = k ∧ S.2.1 1 ≤ S.1 1 j ∧ S.1 25 (s * 60 + j) ≠ 0)) : takeable S s k j = false := by
  simp only [takeable, Bool.and_eq_false_iff, decide_eq_false_iff_not]
  omega
theorem tkb_of {S : St} {s k j : Nat} (h : takeable S s k j = true) : S.1 0 j = k ∧ S.2.1 1 ≤ S.1 1 j ∧ 0 < S.1 25 (s * 60 + j) := by
  simpa only [takeable, Bool.and_eq_true, decide_eq_true_eq] using h
theorem bst_tk {S : St} {s k : Nat} : ∀ {i b : Nat}, bst S s k i = some b → takeable S s k b = true
  | 0, b, h => by simp [bst] at h
  | i + 1, b, h => by
    simp only [bst] at h
    split at h
    · rename_i ht
      split at h
      · cases h; exact ht
      · rename_i b' hb'
        split at h
        · cases h; exact ht
        · cases h; exact bst_tk hb'
    · exact bst_tk h
theorem bst_nn {S : St} {s k : Nat} : ∀ {i : Nat}, bst S s k i = none → ∀ j, j < i → takeable S s k j = false
  | 0, _, j, hj => absurd hj (Nat.not_lt_zero _)
  | i + 1, h, j, hj => by
    simp only [bst] at h
    split at h
    · split at h
      · cases h
      · split at h <;> cases h
    · rename_i ht
      rcases Nat.lt_succ_iff_lt_or_eq.mp hj with h1 | h1
      · exact bst_nn h j h1
      · subst h1; simpa using ht
theorem sIf_zero {P : Nat → Bool} {v : Nat → Nat} : ∀ n, (∀ j, j < n → P j = true → v j = 0) → sIf P v n = 0
  | 0, _ => rfl
  | n + 1, h => by
    have h1 := sIf_zero n (fun j hj => h j (Nat.lt_succ_of_lt hj))
    have h2 := h n (Nat.lt_succ_self _)
    simp only [sIf, h1]
    split
    · rename_i hp; rw [h2 hp]
    · rfl
theorem good_some {S : St} {s k : Nat} (h : 0 < good S s k) : ∃ b, bst S s k (S.2.1 2) = some b := by
  cases hb : bst S s k (S.2.1 2) with
  | some b => exact ⟨b, rfl⟩
  | none =>
    have hz : good S s k = 0 := sIf_zero _ (fun j hj hp => by
      have h1 := bst_nn hb j hj
      simp only [Bool.and_eq_true, decide_eq_true_eq] at hp
      rcases Nat.eq_zero_or_pos (S.1 25 (s * 60 + j)) with h2 | h2
      · exact h2
      · rw [tkb_y hp.1 hp.2 (Nat.ne_of_gt h2)] at h1; cases h1)
    omega
theorem takeOf_25 {S : St} {s b d x : Nat} : (takeOf S s b d).1 25 x = if x = s * 60 + b then S.1 25 (s * 60 + b) - d else S.1 25 x := by
  show aU (aU S.1 25 (s * 60 + b) (S.1 25 (s * 60 + b) - d)) 2 b (S.1 2 b + d) 25 x = _
  rw [aU_n (by decide)]
  by_cases h : x = s * 60 + b
  · subst h; rw [aU_s, if_pos rfl]
  · rw [aU_e h, if_neg h]
theorem takeOf_0 {S : St} {s b d x : Nat} : (takeOf S s b d).1 0 x = S.1 0 x ∧ (takeOf S s b d).1 1 x = S.1 1 x ∧ (takeOf S s b d).2 = S.2 := ⟨rfl, rfl, rfl⟩
theorem good_takeOf {S : St} {s k b d : Nat} (hb : bst S s k (S.2.1 2) = some b) (hd : d ≤ S.1 25 (s * 60 + b)) : good (takeOf S s b d) s k + d = good S s k := by
  have h1 := bst_lt hb
  obtain ⟨h2, h3, h4⟩ := tkb_of (bst_tk hb)
  have h5 := sIf_chg (P := fun j => decide (S.1 0 j = k) && decide (S.2.1 1 ≤ S.1 1 j)) (P' := fun j => decide (S.1 0 j = k) && decide (S.2.1 1 ≤ S.1 1 j)) (v := fun j => S.1 25 (s * 60 + j)) (v' := fun j => (takeOf S s b d).1 25 (s * 60 + j)) (b := b) (d := d)
    (by simp only [h2, h3, takeOf_25]; simp; omega) (S.2.1 2) (fun j hj hn => by simp only [takeOf_25, if_neg (show ¬ s * 60 + j = s * 60 + b by omega)])
  rw [if_pos h1] at h5
  exact h5
theorem good_other {S : St} {s k k' b d : Nat} (hb : bst S s k (S.2.1 2) = some b) (hk : k' ≠ k) : good (takeOf S s b d) s k' = good S s k' := by
  obtain ⟨h2, h3, h4⟩ := tkb_of (bst_tk hb)
  refine sIf_congr _ (fun j hj => ⟨rfl, fun hp => ?_⟩)
  simp only [Bool.and_eq_true, decide_eq_true_eq] at hp
  have : j ≠ b := fun e => hk (by rw [← hp.1, e]; exact h2)
  show (takeOf S s b d).1 25 (s * 60 + j) = _
  rw [takeOf_25, if_neg (by omega)]
theorem cntT_takeOf {S : St} {s k b : Nat} (hb : bst S s k (S.2.1 2) = some b) : cntT (takeOf S s b (S.1 25 (s * 60 + b))) s k + 1 = cntT S s k := by
  have h1 := bst_lt hb
  have ht := bst_tk hb
  have h5 := sIf_chg (P := takeable S s k) (P' := takeable (takeOf S s b (S.1 25 (s * 60 + b))) s k) (v := fun _ => 1) (v' := fun _ => 1) (b := b) (d := 1)
    (by rw [ht, tkb_n (fun h => h.2.2 (by rw [takeOf_25, if_pos rfl, Nat.sub_self]))]; rfl) (S.2.1 2) (fun j hj hn => by
      have e : takeable (takeOf S s b (S.1 25 (s * 60 + b))) s k j = takeable S s k j := by
        show (decide (S.1 0 j = k) && (decide (S.2.1 1 ≤ S.1 1 j) && decide (0 < (takeOf S s b (S.1 25 (s * 60 + b))).1 25 (s * 60 + j)))) = _
        rw [takeOf_25, if_neg (by omega)]
        rfl
      rw [e])
  rw [if_pos h1] at h5
  exact h5
theorem cntT_pos {S : St} {s k b : Nat} (hb : bst S s k (S.2.1 2) = some b) : 0 < cntT S s k := by have := cntT_takeOf hb; omega
/-- what is left to be seen behind a turn of taking -/
theorem tk_turn {S : St} {s k b f nd d : Nat} (hb : bst S s k (S.2.1 2) = some b) (hd : d = min nd (S.1 25 (s * 60 + b))) (hg : nd ≤ good S s k) (hc : nd = 0 ∨ cntT S s k ≤ f) (hp : 0 < nd) :
    ∃ f', f = f' + 1 ∧ nd - d ≤ good (takeOf S s b d) s k ∧ (nd - d = 0 ∨ cntT (takeOf S s b d) s k ≤ f') := by
  have h1 := cntT_pos hb
  have h2 : d ≤ S.1 25 (s * 60 + b) := by rw [hd]; exact Nat.min_le_right _ _
  have h3 := good_takeOf hb h2
  refine ⟨f - 1, by omega, by omega, ?_⟩
  rcases Nat.lt_or_ge nd (S.1 25 (s * 60 + b)) with h | h
  · left; rw [hd, Nat.min_eq_left (Nat.le_of_lt h)]; omega
  · right
    have e : d = S.1 25 (s * 60 + b) := by rw [hd]; exact Nat.min_eq_right h
    have := cntT_takeOf hb
    rw [e]
    omega
theorem tk_good {s k : Nat} : ∀ (f : Nat) (S : St) (n : Nat), n ≤ good S s k → (n = 0 ∨ cntT S s k ≤ f) → good (tk s k f S n) s k + n = good S s k
  | 0, S, n, hg, hc => by
    rcases Nat.eq_zero_or_pos n with h | h
    · subst h; rw [tk_0]; rfl
    · obtain ⟨b, hb⟩ := good_some (Nat.lt_of_lt_of_le h hg)
      have := cntT_pos hb
      omega
  | f + 1, S, n, hg, hc => by
    rcases Nat.eq_zero_or_pos n with h | h
    · subst h; rw [tk_0]; rfl
    · obtain ⟨b, hb⟩ := good_some (Nat.lt_of_lt_of_le h hg)
      rw [tk_s h hb]
      obtain ⟨f', e, h1, h2⟩ := tk_turn hb rfl hg hc h
      obtain rfl : f = f' := by omega
      have h3 := tk_good f _ _ h1 h2
      have h4 := good_takeOf hb (Nat.min_le_right n _)
      have h5 : min n (S.1 25 (s * 60 + b)) ≤ n := Nat.min_le_left _ _
      omega
theorem tk_other {s k k' : Nat} (hk : k' ≠ k) : ∀ (f : Nat) (S : St) (n : Nat), good (tk s k f S n) s k' = good S s k'
  | 0, S, n => rfl
  | f + 1, S, n => by
    rcases Nat.eq_zero_or_pos n with h | h
    · subst h; rw [tk_0]
    · cases hb : bst S s k (S.2.1 2) with
      | none => rw [tk_n hb]
      | some b => rw [tk_s h hb, tk_other hk f, good_other hb hk]
theorem gvN_good {S : St} {s kt k' : Nat} : ∀ i, i ≤ k' → good (gvN S s kt i) s k' = good S s k'
  | 0, _ => rfl
  | i + 1, h => by
    show good (tk s i 60 (gvN S s kt i) (S.1 28 (kt * 10 + i))) s k' = _
    rw [tk_other (by omega), gvN_good i (by omega)]
theorem gbit_le {K R T O : Bool} : gbit K R T O ≤ 8 := by cases K <;> cases R <;> cases T <;> cases O <;> decide
theorem cnt_fin {x : Int32} {K R T O : Bool} {j : Nat} (h1 : ∀ i, i < j → 2 ^ i ≤ gbit K R T O) (h2 : gbit K R T O < 2 ^ j) (h3 : j ≤ 4) : cnt x j = gth x (gbit K R T O) := by
  have a1 : ∀ i, i < j → ¬ gbit K R T O < 2 ^ i := fun i hi => Nat.not_lt.mpr (h1 i hi)
  rcases (show j = 0 ∨ j = 1 ∨ j = 2 ∨ j = 3 ∨ j = 4 by omega) with rfl | rfl | rfl | rfl | rfl <;> cases K <;> cases R <;> cases T <;> cases O <;>
    first
    | rfl
    | exact absurd h2 (by decide)
    | exact absurd (h1 0 (by decide)) (by decide)
    | exact absurd (h1 1 (by decide)) (by decide)
    | exact absurd (h1 2 (by decide)) (by decide)
    | exact absurd (h1 3 (by decide)) (by decide)
theorem cnt_y {x : Int32} {j : Nat} (h : x &&& nI (2 ^ j) ≤ 0) : cnt x (j + 1) = cnt x j := by simp [cnt, h]
theorem cnt_n {x : Int32} {j : Nat} (h : ¬ x &&& nI (2 ^ j) ≤ 0) : cnt x (j + 1) = cnt x j + 1 := by simp [cnt, h]
