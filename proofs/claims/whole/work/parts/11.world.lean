/-! THE CLASS'S WORLD: eighteen cells, and what holds of the state between two calls (t of them done). -/
def wX (q : Nat → Nat) (cI : ClassId) (S : St) : va_W :=
  [(q 0, .inr (0, [.ref (q 1), .ref (q 2), .ref (q 3), .ref (q 4), .ref (q 5), .ref (q 6), .ref (q 7), .ref (q 8), .ref (q 9), .ref (q 10), .int (nI (S.2.1 0)), .int (nI (S.2.1 1))])),
   (q 1, .inr (1, [.int (nI 60), .ref (q 11), .int (nI (S.2.1 2))])),
   (q 2, .inr (1, [.int (nI 60), .ref (q 12), .int (nI (S.2.1 3))])),
   (q 3, .inr (1, [.int (nI 80), .ref (q 13), .int (nI (S.2.1 4))])),
   (q 4, .inr (1, [.int (nI 20), .ref (q 14), .int (nI (S.2.1 5))])),
   (q 5, .inr (1, [.int (nI 80), .ref (q 15), .int (nI (S.2.1 6))])),
   (q 6, .inr (2, [.ref (q 16), .ref (q 17), .int (nI (S.2.1 7))])),
   (q 7, .inl (cI, 480, .inl (colf S.1 25))),
   (q 8, .inl (cI, 80, .inl (colf S.1 26))),
   (q 9, .inl (cI, 80, .inl (colf S.1 27))),
   (q 10, .inl (cI, 50, .inl (colf S.1 28))),
   (q 11, .inl (cI, 300, .inl (rowf S.1 0))),
   (q 12, .inl (cI, 300, .inl (rowf S.1 5))),
   (q 13, .inl (cI, 400, .inl (rowf S.1 10))),
   (q 14, .inl (cI, 100, .inl (rowf S.1 15))),
   (q 15, .inl (cI, 400, .inl (rowd S.1 S.2.2))),
   (q 16, .inl (cI, 10, .inl (colf S.1 29))),
   (q 17, .inl (cI, 10, .inl (colf S.1 30)))]
def bd (t k : Nat) : Nat := match k with
  | 0 => 9 | 1 => 9999 | 2 => 9999 * t | 3 => 9999 * t | 4 => 9999 | 5 => 7 | 6 => 59 | 7 => 9999 | 8 => 10029 | 9 => 1
  | 10 => 7 | 11 => 9 | 12 => 9999 | 13 => 9999 | 14 => 1 | 15 => 7 | 16 => 9 | 17 => 9999 | 18 => 19 | 19 => 1
  | 20 => 7 | 21 => 59 | 22 => 0 | 23 => 99 | 24 => 9999 | 25 => 9999 | 26 => 9999 | 27 => 9999 | 28 => 20 | 29 => 99999 | 30 => 99999 | 31 => 1 | _ => 0
def gb (k : Nat) : Nat := match k with
  | 0 => 8 | 1 => 9999 | 2 => 60 | 3 => 60 | 4 => 80 | 5 => 20 | 6 => 80 | 7 => 10 | _ => 0
/-- the bounds alone -/
def Bd (t : Nat) (S : St) : Prop := (∀ k j, S.1 k j ≤ bd t k) ∧ (∀ k, S.2.1 k ≤ gb k) ∧ t ≤ 512
def Inv (t : Nat) (S : St) : Prop := Bd t S ∧ (∀ j, S.1 26 j ≤ S.1 27 j) ∧ (∀ j, S.1 31 j = 0 → S.1 26 j = 0) ∧ (∀ j, S.2.1 2 ≤ j → S.1 2 j = 0 ∧ S.1 3 j = 0 ∧ S.1 4 j = 0) ∧
  (∀ j, j < S.2.1 4 → S.1 10 j < S.2.1 0) ∧ (∀ j, j < S.2.1 5 → S.1 15 j < S.2.1 0) ∧ (∀ j, S.1 9 j = 1 → S.2.1 1 < S.1 8 j) ∧ (∀ i j, i < j → j < S.2.1 7 → S.1 29 i < S.1 29 j ∧ S.1 30 i < S.1 30 j)
theorem sIf_t {P : Nat → Bool} {v : Nat → Nat} {i : Nat} (h : P i = true) : sIf P v (i + 1) = sIf P v i + v i := by simp [sIf, h]
theorem sIf_f {P : Nat → Bool} {v : Nat → Nat} {i : Nat} (h : P i = false) : sIf P v (i + 1) = sIf P v i := by simp [sIf, h]
theorem sIf_0 {P : Nat → Bool} {v : Nat → Nat} : sIf P v 0 = 0 := rfl
theorem b2_inj {x y : Bool} (h : b2 x = b2 y) : x = y := by cases x <;> cases y <;> first | rfl | exact absurd h (by decide)
def inst (S : St) (s k : Nat) (g : Bool) : Nat := sIf (fun j => decide (S.1 0 j = k) && (decide (S.2.1 1 ≤ S.1 1 j) == g)) (fun j => S.1 25 (s * 60 + j)) (S.2.1 2)
theorem inst_t {S : St} {s k : Nat} : inst S s k true = good S s k := sIf_congr _ (fun i _ => ⟨by simp, fun _ => rfl⟩)
theorem inst_f {S : St} {s k : Nat} : inst S s k false = bad S s k := sIf_congr _ (fun i _ => ⟨by simp, fun _ => rfl⟩)
def o2 (o : Option Nat) : Int32 := match o with
  | none => -1
  | some b => nI b
theorem o2_some {o : Option Nat} (h : ¬ o2 o < 0) : ∃ b, o = some b := by
  cases o with
  | none => exact absurd (by decide) h
  | some b => exact ⟨b, rfl⟩
theorem o2_none {o : Option Nat} (h : o2 o < 0) (hb : ∀ b, o = some b → b < 2 ^ 31) : o = none := by
  cases o with
  | none => rfl
  | some b => exact absurd h (nI_pos (hb b rfl))
theorem bst_lt {S : St} {s k : Nat} : ∀ {i b : Nat}, bst S s k i = some b → b < i
  | 0, b, h => by simp [bst] at h
  | i + 1, b, h => by
    simp only [bst] at h
    split at h
    · split at h
      · cases h; omega
      · rename_i b' hb'
        split at h
        · cases h; omega
        · cases h; exact Nat.lt_succ_of_lt (bst_lt hb')
    · exact Nat.lt_succ_of_lt (bst_lt h)
theorem bst_no {S : St} {s k i : Nat} (h : takeable S s k i = false) : bst S s k (i + 1) = bst S s k i := by simp [bst, h]
theorem bst_first {S : St} {s k i : Nat} (h : takeable S s k i = true) (hn : bst S s k i = none) : bst S s k (i + 1) = some i := by simp [bst, h, hn]
theorem bst_new {S : St} {s k i b : Nat} (h : takeable S s k i = true) (hn : bst S s k i = some b) (hb : before S s i b = true) : bst S s k (i + 1) = some i := by simp [bst, h, hn, hb]
theorem bst_keep {S : St} {s k i b : Nat} (h : takeable S s k i = true) (hn : bst S s k i = some b) (hb : before S s i b = false) : bst S s k (i + 1) = some b := by simp [bst, h, hn, hb]
theorem anyPart_t {S : St} {t k : Nat} (hk : k < 10) (h : 0 < S.1 28 (t * 10 + k)) : anyPart S t = true :=
  List.any_eq_true.mpr ⟨k, List.mem_range.mpr hk, decide_eq_true h⟩
theorem anyPart_f {S : St} {t : Nat} (h : ∀ j, j < 10 → S.1 28 (t * 10 + j) = 0) : anyPart S t = false := by
  refine List.any_eq_false.mpr fun k hk => ?_
  have := h k (List.mem_range.mp hk)
  simp [this]
theorem find_first {P : Nat → Bool} : ∀ (n a i : Nat), a ≤ i → i < a + n → P i = true → (∀ j, a ≤ j → j < i → P j = false) → (List.range' a n).find? P = some i
  | 0, a, i, h1, h2, _, _ => by omega
  | n + 1, a, i, h1, h2, hp, hn => by
    rw [List.range'_succ, List.find?_cons]
    by_cases e : a = i
    · subst e; simp [hp]
    · rw [hn a (Nat.le_refl _) (by omega)]
      exact find_first n (a + 1) i (by omega) (by omega) hp (fun j h3 h4 => hn j (by omega) h4)
theorem lack_some {S : St} {s t i : Nat} (hi : i < 10) (h : good S s i < S.1 28 (t * 10 + i)) (hn : ∀ j, j < i → S.1 28 (t * 10 + j) ≤ good S s j) : lack S s t = some i := by
  unfold lack
  rw [List.range_eq_range']
  exact find_first 10 0 i (Nat.zero_le _) (by omega) (decide_eq_true h) (fun j _ hj => decide_eq_false (Nat.not_lt.mpr (hn j hj)))
theorem lack_none {S : St} {s t : Nat} (hn : ∀ j, j < 10 → S.1 28 (t * 10 + j) ≤ good S s j) : lack S s t = none := by
  refine List.find?_eq_none.mpr fun k hk => ?_
  have := hn k (List.mem_range.mp hk)
  simp [Nat.not_lt.mpr this]
theorem lna_lt {S : St} {h : Nat} : ∀ {i b : Nat}, lna S h i = some b → b < i ∧ S.1 29 b ≤ h
  | 0, b, e => by simp [lna] at e
  | i + 1, b, e => by
    simp only [lna] at e
    split at e
    · rename_i h1
      cases e; exact ⟨Nat.lt_succ_self _, h1⟩
    · exact ⟨Nat.lt_succ_of_lt (lna_lt e).1, (lna_lt e).2⟩
theorem lna_y {S : St} {h i : Nat} (e : S.1 29 i ≤ h) : lna S h (i + 1) = some i := by simp [lna, e]
theorem lna_n {S : St} {h i : Nat} (e : h < S.1 29 i) : lna S h (i + 1) = lna S h i := by simp [lna, Nat.not_le.mpr e]
theorem sum_le {n N : Nat} {P : Nat → Bool} {v : Nat → Nat} (hv : ∀ i, v i ≤ 9999) (hn : n ≤ N) : sIf P v n ≤ N * 9999 :=
  Nat.le_trans (sIf_le hv n) (Nat.mul_le_mul_right 9999 hn)
theorem inst_le {t : Nat} {S : St} (hI : Bd t S) (s k : Nat) (g : Bool) : inst S s k g ≤ 599940 := sum_le (fun i => hI.1 25 _) (hI.2.1 2)
theorem good_le {t : Nat} {S : St} (hI : Bd t S) (s k : Nat) : good S s k ≤ 599940 := sum_le (fun i => hI.1 25 _) (hI.2.1 2)
theorem bad_le {t : Nat} {S : St} (hI : Bd t S) (s k : Nat) : bad S s k ≤ 599940 := sum_le (fun i => hI.1 25 _) (hI.2.1 2)
theorem way_le {t : Nat} {S : St} (hI : Bd t S) (g : Bool) (s k : Nat) : way S g s k ≤ 599940 := sum_le (fun i => hI.1 7 _) (hI.2.1 3)
theorem opn_le {t : Nat} {S : St} (hI : Bd t S) (s k : Nat) : opn S s k ≤ 799920 := sum_le (fun i => hI.1 12 _) (hI.2.1 4)
theorem allIn_le {t : Nat} {S : St} (hI : Bd t S) (y : Nat) : allIn S y ≤ 79992 := sum_le (fun i => hI.1 25 _) (hI.2.1 0)
