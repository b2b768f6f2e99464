/-! Words in the common list, classes' fields, numbers that come from outside. -/
theorem i_X : ∀ w ∈ u_ws R_X F_X 12, w ∈ bg := by decide +kernel
theorem i_W : ∀ w ∈ u_ws R_W F_W 3, w ∈ bg := by decide +kernel
theorem i_H : ∀ w ∈ u_ws R_H F_H 3, w ∈ bg := by decide +kernel
theorem i_M : ∀ w ∈ u_ws R_M F_M 37, w ∈ bg := by decide +kernel
theorem gi_bg {ws : List Cond} (h : ∀ w ∈ ws, w ∈ bg) : GoodIn bg ws := fun w hw => ⟨h w hw, good_of_word (List.mem_filter.mp (h w hw)).2⟩
theorem gi_V {own C : String} {idx : Nat} {y : MethodName} {c : Cond} (h1 : Cond.methodLink own idx y ∈ bg) (h2 : Cond.instanceMethod y ∈ bg) (h3 : Cond.selects C y y ∈ bg) (h4 : Cond.initialized C ∈ bg) (h5 : c ∈ bg) : GoodIn bg (wsV own idx C y (c :: bg)) :=
  gi_bg (fun w hw => by
    unfold wsV at hw
    rcases List.mem_append.mp hw with hw | hw
    · simp only [List.mem_cons, List.not_mem_nil, or_false] at hw
      rcases hw with rfl | rfl | rfl | rfl
      · exact h1
      · exact h2
      · exact h3
      · exact h4
    · rcases List.mem_cons.mp hw with rfl | hw
      · exact h5
      · exact hw)
theorem gi_S {own : String} {idx : Nat} {y : MethodName} {c : Cond} (h1 : Cond.methodLink own idx y ∈ bg) (h2 : Cond.static y ∈ bg) (h3 : Cond.initialized own ∈ bg) (h5 : c ∈ bg) : GoodIn bg (wsS own idx y (c :: bg)) :=
  gi_bg (fun w hw => by
    unfold wsS at hw
    rcases List.mem_append.mp hw with hw | hw
    · simp only [List.mem_cons, List.not_mem_nil, or_false] at hw
      rcases hw with rfl | rfl | rfl
      · exact h1
      · exact h2
      · exact h3
    · rcases List.mem_cons.mp hw with rfl | hw
      · exact h5
      · exact hw)
theorem gi_I {c : Cond} (h5 : c ∈ bg) : GoodIn bg (c :: bg) := gi_bg (fun w hw => by
  rcases List.mem_cons.mp hw with rfl | hw
  · exact h5
  · exact hw)
theorem b2_nar (b : Bool) : narrow .boolean (.int (b2 b)) = .int (b2 b) := by cases b <;> rfl
theorem ok_neg {x : Int32} {n : Nat} (h : x < 0) : ok x n = false := by
  have h1 : x.toInt < 0 := by simpa [Int32.lt_iff_toInt_lt] using h
  simp [ok, Int.not_le.mpr h1]
theorem ok_ge {x : Int32} {n : Nat} (hn : n < 2 ^ 31) (h : nI n ≤ x) : ok x n = false := by
  have h1 : (nI n).toInt ≤ x.toInt := Int32.le_iff_toInt_le.mp h
  rw [nI_toInt hn] at h1
  simp only [ok, Bool.and_eq_false_iff, decide_eq_false_iff_not]
  omega
theorem ok_yes {x : Int32} {n : Nat} (hn : n < 2 ^ 31) (h0 : ¬ x < 0) (h : ¬ nI n ≤ x) : ok x n = true := by
  have h1 : ¬ (nI n).toInt ≤ x.toInt := fun z => h (Int32.le_iff_toInt_le.mpr z)
  have h2 : ¬ x.toInt < 0 := fun z => h0 (by simpa [Int32.lt_iff_toInt_lt] using z)
  rw [nI_toInt hn] at h1
  simp only [ok, Bool.and_eq_true, decide_eq_true_eq]
  omega
theorem rg_lo {x : Int32} {lo hi : Nat} (hl : lo < 2 ^ 31) (h : x < nI lo) : rg x lo hi = false := by
  have h1 : x.toInt < (nI lo).toInt := Int32.lt_iff_toInt_lt.mp h
  rw [nI_toInt hl] at h1
  simp only [rg, Bool.and_eq_false_iff, decide_eq_false_iff_not]
  omega
theorem rg_hi {x : Int32} {lo hi : Nat} (hh : hi < 2 ^ 31) (h : nI hi < x) : rg x lo hi = false := by
  have h1 : (nI hi).toInt < x.toInt := Int32.lt_iff_toInt_lt.mp h
  rw [nI_toInt hh] at h1
  simp only [rg, Bool.and_eq_false_iff, decide_eq_false_iff_not]
  omega
theorem rg_yes {x : Int32} {lo hi : Nat} (hl : lo < 2 ^ 31) (hh : hi < 2 ^ 31) (h0 : ¬ x < nI lo) (h : ¬ nI hi < x) : rg x lo hi = true := by
  have h1 : ¬ (nI hi).toInt < x.toInt := fun z => h (Int32.lt_iff_toInt_lt.mpr z)
  have h2 : ¬ x.toInt < (nI lo).toInt := fun z => h0 (Int32.lt_iff_toInt_lt.mpr z)
  rw [nI_toInt hh] at h1
  rw [nI_toInt hl] at h2
  simp only [rg, Bool.and_eq_true, decide_eq_true_eq]
  omega
