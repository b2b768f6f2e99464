/-! arrivals in any order; the table of the tank; levels; kits -/
def canon (S : St) (P : Nat → Bool) (M : Nat) : St :=
  (fun k j => if k = 9 then (if j < M ∧ P j = true then 0 else S.1 9 j) else if k = 25 then min 9999 (S.1 25 j + sIf (fun i => P i && decide (S.1 5 i * 60 + S.1 6 i = j)) (fun i => S.1 7 i) M) else S.1 k j, S.2)
theorem canon_n {S : St} {P : Nat → Bool} {M k : Nat} (h1 : k ≠ 9) (h2 : k ≠ 25) : (canon S P M).1 k = S.1 k := by
  funext j
  show (if k = 9 then _ else if k = 25 then _ else S.1 k j) = S.1 k j
  rw [if_neg h1, if_neg h2]
theorem canon_9 {S : St} {P : Nat → Bool} {M j : Nat} : (canon S P M).1 9 j = if j < M ∧ P j = true then 0 else S.1 9 j := rfl
theorem canon_25 {S : St} {P : Nat → Bool} {M j : Nat} : (canon S P M).1 25 j = min 9999 (S.1 25 j + sIf (fun i => P i && decide (S.1 5 i * 60 + S.1 6 i = j)) (fun i => S.1 7 i) M) := rfl
theorem St_ext {S T : St} (h : ∀ k j, S.1 k j = T.1 k j) (h2 : S.2 = T.2) : S = T := Prod.ext (funext fun k => funext fun j => h k j) h2
theorem canon_congr {S : St} {P P' : Nat → Bool} {M : Nat} (h : ∀ j, j < M → P j = P' j) : canon S P M = canon S P' M := by
  refine St_ext (fun k j => ?_) rfl
  by_cases h1 : k = 9
  · subst h1
    rw [canon_9, canon_9]
    by_cases hj : j < M
    · rw [h j hj]
    · rw [if_neg (fun z => hj z.1), if_neg (fun z => hj z.1)]
  · by_cases h2 : k = 25
    · subst h2
      rw [canon_25, canon_25, sIf_congr M (fun i hi => ⟨by rw [h i hi], fun _ => rfl⟩)]
    · rw [canon_n h1 h2, canon_n h1 h2]
theorem canon_none {S : St} {P : Nat → Bool} {M : Nat} (h : ∀ j, j < M → P j = false) (hb : ∀ j, S.1 25 j ≤ 9999) : canon S P M = S := by
  refine St_ext (fun k j => ?_) rfl
  by_cases h1 : k = 9
  · subst h1
    rw [canon_9, if_neg (fun z => by rw [h j z.1] at z; exact absurd z.2 (by decide))]
  · by_cases h2 : k = 25
    · subst h2
      rw [canon_25, sIf_zero M (fun i hi hp => by rw [h i hi] at hp; exact absurd hp (by simp)), Nat.add_zero, Nat.min_eq_right (hb j)]
    · rw [canon_n h1 h2]
theorem come_at {S : St} {i k j : Nat} : (come S i).1 k j = if k = 25 ∧ j = S.1 5 i * 60 + S.1 6 i then min 9999 (S.1 25 j + S.1 7 i) else if k = 9 ∧ j = i then 0 else S.1 k j := by
  show aU (aU S.1 9 i 0) 25 (S.1 5 i * 60 + S.1 6 i) (min 9999 (aU S.1 9 i 0 25 (S.1 5 i * 60 + S.1 6 i) + S.1 7 i)) k j = _
  rw [aU_n (a := S.1) (k := 9) (k' := 25) (by decide)]
  by_cases h1 : k = 25
  · subst h1
    by_cases h2 : j = S.1 5 i * 60 + S.1 6 i
    · subst h2
      rw [aU_s, if_pos ⟨rfl, rfl⟩]
    · rw [aU_e h2, if_neg (fun z => h2 z.2), if_neg (fun z => absurd z.1 (by decide)), aU_n (by decide)]
  · rw [aU_n h1, if_neg (fun z => h1 z.1)]
    by_cases h3 : k = 9
    · subst h3
      by_cases h4 : j = i
      · subst h4; rw [aU_s, if_pos ⟨rfl, rfl⟩]
      · rw [aU_e h4, if_neg (fun z => h4 z.2)]
    · rw [aU_n h3, if_neg (fun z => h3 z.1)]
theorem come_canon {S : St} {P P' : Nat → Bool} {M i : Nat} (hi : i < M) (hp : P i = false) (hp1 : P' i = true) (hq : ∀ j, j ≠ i → P' j = P j) : come (canon S P M) i = canon S P' M := by
  refine St_ext (fun k j => ?_) rfl
  rw [come_at, canon_n (k := 5) (by decide) (by decide), canon_n (k := 6) (by decide) (by decide), canon_n (k := 7) (by decide) (by decide)]
  by_cases h2 : k = 25
  · subst h2
    by_cases hj : j = S.1 5 i * 60 + S.1 6 i
    · rw [if_pos ⟨rfl, hj⟩, canon_25, canon_25]
      have h := sIf_chg (P := fun x => P' x && decide (S.1 5 x * 60 + S.1 6 x = j)) (P' := fun x => P x && decide (S.1 5 x * 60 + S.1 6 x = j)) (v := fun x => S.1 7 x) (v' := fun x => S.1 7 x) (b := i) (d := S.1 7 i) (by simp [hp, hp1, hj]) M (fun x _ hx => by simp only [hq x hx])
      rw [if_pos hi] at h
      rw [← h]
      omega
    · rw [if_neg (fun z => hj z.2), if_neg (fun z => absurd z.1 (by decide)), canon_25, canon_25]
      rw [sIf_congr (P := fun x => P x && decide (S.1 5 x * 60 + S.1 6 x = j)) (P' := fun x => P' x && decide (S.1 5 x * 60 + S.1 6 x = j)) (v' := fun x => S.1 7 x) M (fun x _ => ⟨by
        by_cases hx : x = i
        · subst hx; simp [Ne.symm hj]
        · simp only [hq x hx], fun _ => rfl⟩)]
  · rw [if_neg (fun z => h2 z.1)]
    by_cases h1 : k = 9
    · subst h1
      by_cases hj : j = i
      · subst hj
        rw [if_pos ⟨rfl, rfl⟩, canon_9, if_pos ⟨hi, hp1⟩]
      · rw [if_neg (fun z => hj z.2), canon_9, canon_9, hq j hj]
    · rw [if_neg (fun z => h1 z.1), canon_n h1 h2, canon_n h1 h2]
/-- which have come by day D -/
def by_ (S : St) (D j : Nat) : Bool := decide (S.1 9 j = 1) && decide (S.1 8 j ≤ D)
theorem arr_canon {S : St} {D M : Nat} (hb : ∀ j, S.1 25 j ≤ 9999) : ∀ i, i ≤ M → arr S D i = canon S (fun j => decide (j < i) && by_ S D j) M ∧ arrC S D i = sIf (by_ S D) (fun _ => 1) i
  | 0, _ => ⟨(canon_none (fun j _ => by simp) hb).symm, rfl⟩
  | i + 1, hi => by
    obtain ⟨h1, h2⟩ := arr_canon (M := M) hb i (by omega)
    have hd : due (arr S D i) D i = by_ S D i := by
      rw [h1]
      unfold due
      rw [canon_9, if_neg (fun z => absurd z.2 (by simp)), canon_n (k := 8) (by decide) (by decide)]
      rfl
    cases hc : by_ S D i with
    | true =>
      rw [hc] at hd
      obtain ⟨a1, a2⟩ := arr_y hd
      refine ⟨?_, ?_⟩
      · rw [a1, h1]
        refine come_canon (by omega) (by simp) (by simp [hc]) (fun j hj => ?_)
        have : (j < i + 1) ↔ (j < i) := by omega
        simp only [this]
      · rw [a2, h2, sIf_t hc]
    | false =>
      rw [hc] at hd
      obtain ⟨a1, a2⟩ := arr_n hd
      refine ⟨?_, ?_⟩
      · rw [a1, h1]
        refine canon_congr (fun j _ => ?_)
        by_cases hj : j = i
        · subst hj; rw [hc]; simp
        · have : (j < i + 1) ↔ (j < i) := by omega
          simp only [this]
      · rw [a2, h2, sIf_f hc]
theorem canon_Bd {t : Nat} {S : St} {P : Nat → Bool} {M : Nat} (h : Bd t S) : Bd t (canon S P M) := by
  refine ⟨fun k j => ?_, h.2.1, h.2.2⟩
  by_cases h1 : k = 9
  · subst h1
    rw [canon_9]
    split
    · exact Nat.zero_le _
    · exact h.1 9 j
  · by_cases h2 : k = 25
    · subst h2; rw [canon_25]; exact Nat.min_le_left _ _
    · rw [canon_n h1 h2]; exact h.1 k j
/-- in the midst of day d: i moves are looked at -/
def mid (S : St) (d i j : Nat) : Bool := decide (S.1 9 j = 1) && (decide (S.1 8 j < d) || (decide (j < i) && decide (S.1 8 j = d)))
theorem mid_0 {S : St} {d : Nat} : mid S (d + 1) 0 = by_ S d := by
  funext j
  have h1 : (S.1 8 j < d + 1) ↔ (S.1 8 j ≤ d) := Nat.lt_succ_iff
  simp [mid, by_, h1]
theorem mid_M {S : St} {d M j : Nat} (h : j < M) : mid S d M j = by_ S d j := by
  have h1 : (S.1 8 j < d ∨ S.1 8 j = d) ↔ (S.1 8 j ≤ d) := by omega
  simp only [mid, by_, h, decide_true, Bool.true_and, ← Bool.decide_or, h1]
theorem mid_o {S : St} {d i j : Nat} (h : j ≠ i) : mid S d (i + 1) j = mid S d i j := by
  have : (j < i + 1) ↔ (j < i) := by omega
  simp only [mid, this]
theorem mid_y {S : St} {d i M : Nat} (h9 : (canon (S_g S 1 d) (mid S d i) M).1 9 i ≠ 0) (hb : S.1 9 i ≤ 1) (hi : i < M) (h8 : S.1 8 i = d) : mid S d i i = false ∧ mid S d (i + 1) i = true := by
  rw [canon_9] at h9
  have h1 : mid S d i i = false := by
    cases h : mid S d i i with
    | false => rfl
    | true => rw [if_pos ⟨hi, h⟩] at h9; exact absurd rfl h9
  rw [h1, if_neg (fun z => absurd z.2 (by decide))] at h9
  have h2 : S.1 9 i = 1 := by
    have : S.1 9 i ≠ 0 := h9
    omega
  exact ⟨h1, by simp [mid, h2, h8]⟩
theorem mid_n {S : St} {d i M : Nat} (hi : i < M) (h : (canon (S_g S 1 d) (mid S d i) M).1 9 i = 0 ∨ S.1 8 i ≠ d) : mid S d (i + 1) i = mid S d i i := by
  rw [canon_9] at h
  cases hm : mid S d i i with
  | true =>
    simp only [mid, Bool.and_eq_true, Bool.or_eq_true, decide_eq_true_eq] at hm ⊢
    exact ⟨hm.1, hm.2.imp id (fun z => absurd z.1 (Nat.lt_irrefl _))⟩
  | false =>
    rw [hm, if_neg (fun z => absurd z.2 (by decide))] at h
    have h0 : S.1 9 i = 0 ∨ S.1 8 i ≠ d := h
    simp only [mid, Bool.and_eq_false_iff, Bool.or_eq_false_iff, decide_eq_false_iff_not] at hm ⊢
    omega
theorem ord31K {S : St} {s k : Nat} : (ordK S s k).1 31 = S.1 31 := by
  unfold ordK
  split
  · rfl
  · split
    · rfl
    · split <;> rfl
theorem ord31R {S : St} {s : Nat} : ∀ k, (ordR S s k).1 31 = S.1 31
  | 0 => rfl
  | k + 1 => ord31K.trans (ord31R k)
theorem ord31N {S : St} : ∀ i, (ordN S i).1 31 = S.1 31
  | 0 => rfl
  | i + 1 => by rw [ordN_s]; exact (ord31R 10).trans (ord31N i)
theorem ordK_no {S : St} {s k : Nat} (h : S.1 26 (s * 10 + k) ≤ expd S s k ∨ S.2.1 4 = 80) : ordK S s k = S := by
  unfold ordK
  by_cases h1 : S.1 26 (s * 10 + k) = 0
  · rw [if_pos h1]
  · by_cases h2 : 80 ≤ S.2.1 4
    · rw [if_neg h1, if_pos h2]
    · rw [if_neg h1, if_neg h2, if_neg (by omega)]
theorem ordK_yes {S : St} {s k : Nat} (h : expd S s k < S.1 26 (s * 10 + k)) (h2 : S.2.1 4 < 80) : ordK S s k = addOrd S s k (S.1 27 (s * 10 + k) - expd S s k) := by
  unfold ordK
  rw [if_neg (by omega), if_neg (by omega), if_pos h]
theorem any_sum {S : St} {t : Nat} : (0 < sIf (fun _ => true) (fun j => S.1 28 (t * 10 + j)) 10) ↔ anyPart S t = true := by
  constructor
  · intro h
    cases ha : anyPart S t with
    | true => rfl
    | false =>
      have : sIf (fun _ => true) (fun j => S.1 28 (t * 10 + j)) 10 = 0 := sIf_zero 10 (fun j hj _ => by
        have h1 := List.any_eq_false.mp ha j (List.mem_range.mpr hj)
        have h2 : ¬ 0 < S.1 28 (t * 10 + j) := fun z => h1 (decide_eq_true z)
        omega)
      omega
  · intro h
    obtain ⟨k, hk, h1⟩ := List.any_eq_true.mp h
    have hk := List.mem_range.mp hk
    have h1 := of_decide_eq_true h1
    have h2 := sIf_chg (P := fun _ => true) (P' := fun j => !decide (j = k)) (v := fun j => S.1 28 (t * 10 + j)) (v' := fun j => S.1 28 (t * 10 + j)) (b := k) (d := S.1 28 (t * 10 + k)) (by simp) 10 (fun j _ hj => by simp [hj])
    rw [if_pos hk] at h2
    omega
theorem lna_is {S : St} {h b : Nat} (hb : S.1 29 b ≤ h) : ∀ n, b < n → (∀ j, b < j → j < n → h < S.1 29 j) → lna S h n = some b
  | 0, h1, _ => absurd h1 (Nat.not_lt_zero _)
  | n + 1, h1, h2 => by
    by_cases e : b = n
    · subst e; exact lna_y hb
    · rw [lna_n (h2 n (by omega) (by omega))]
      exact lna_is hb n (by omega) (fun j h3 h4 => h2 j h3 (by omega))
theorem lna_up {S : St} {h : Nat} : ∀ {n b : Nat}, lna S h n = some b → ∀ j, b < j → j < n → h < S.1 29 j
  | 0, b, e => by simp [lna] at e
  | n + 1, b, e => by
    intro j h1 h2
    simp only [lna] at e
    split at e
    · cases e; omega
    · rename_i h3
      by_cases hj : j = n
      · subst hj; omega
      · exact lna_up e j h1 (by omega)
theorem dipv_eq {S : St} {h k : Nat} (hk : k < S.2.1 7) (e : S.1 29 k = h) (hr : ∀ i j, i < j → j < S.2.1 7 → S.1 29 i < S.1 29 j ∧ S.1 30 i < S.1 30 j) : dipv S h = nI (S.1 30 k) := by
  unfold dipv
  rw [lna_is (b := k) (Nat.le_of_eq e) _ hk (fun j h1 h2 => by rw [← e]; exact (hr k j h1 h2).1)]
  simp only [e, if_pos]
theorem dipv_in {S : St} {h k : Nat} (hk : k < S.2.1 7) (h0 : 0 < k) (h1 : S.1 29 (k - 1) < h) (h2 : h < S.1 29 k) (hr : ∀ i j, i < j → j < S.2.1 7 → S.1 29 i < S.1 29 j ∧ S.1 30 i < S.1 30 j) : dipv S h = nI (S.1 30 (k - 1) + (S.1 30 k - S.1 30 (k - 1)) * (h - S.1 29 (k - 1)) / (S.1 29 k - S.1 29 (k - 1))) := by
  have e : k - 1 + 1 = k := by omega
  unfold dipv
  rw [lna_is (b := k - 1) (Nat.le_of_lt h1) _ (by omega) (fun j h3 h4 => by
    by_cases hj : j = k
    · subst hj; exact h2
    · exact Nat.lt_trans h2 (hr k j (by omega) h4).1)]
  simp only [if_neg (Nat.ne_of_lt h1), e, if_pos hk]
theorem dipv_no {S : St} {h : Nat} (hn : ∀ r, r < S.2.1 7 → S.1 29 r ≠ h ∧ (0 < r → ¬ (S.1 29 (r - 1) < h ∧ h < S.1 29 r))) : dipv S h = -1 := by
  unfold dipv
  cases hl : lna S h (S.2.1 7) with
  | none => rfl
  | some b =>
    obtain ⟨h1, h2⟩ := lna_lt hl
    have h3 := (hn b h1).1
    by_cases h4 : b + 1 < S.2.1 7
    · have h5 := lna_up hl (b + 1) (Nat.lt_succ_self _) h4
      have h6 := (hn (b + 1) h4).2 (Nat.succ_pos _)
      rw [Nat.add_sub_cancel] at h6
      exact absurd ⟨by omega, h5⟩ h6
    · simp only [if_neg h3, if_neg h4]
