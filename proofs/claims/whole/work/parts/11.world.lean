/-! THE CLASS'S WORLD: eighteen cells, and what holds of the state between two calls (t of them done). -/
def wX (q : Nat → Nat) (cI : ClassId) (S : St) : va_W :=
  [(q 0, .inr (0, [.ref (q 1), .ref (q 2), .ref (q 3), .ref (q 4), .ref (q 5), .ref (q 6), .ref (q 7), .ref (q 8), .ref (q 9), .ref (q 10), .int (nI (S.2.1 0)), .int (nI (S.2.1 1))])),
   (q 1, .inr (1, [.int (nI 60), .ref (q 11), .int (nI (S.2.1 2))])),
   (q 2, .inr (1, [.int (nI 60), .ref (q 12), .int (nI (S.2.1 3))])),
   (q 3, .inr (1, [.int (nI 80), .ref (q 13), .int (nI (S.2.1 4))])),
   (q 4, .inr (1, [.int (nI 20), .ref (q 14), .int (nI (S.2.1 5))])),
   (q 5, .inr (1, [.int (nI 80), .ref (q 15), .int (nI (S.2.1 6))])),
   (q 6, .inr (2, [.ref (q 16), .ref (q 17), .int (nI (S.2.1 7))])),
   (q 7, .inl (cI, 480, .inl (colf S.1 25))),
   (q 8, .inl (cI, 80, .inl (colf S.1 26))),
   (q 9, .inl (cI, 80, .inl (colf S.1 27))),
   (q 10, .inl (cI, 50, .inl (colf S.1 28))),
   (q 11, .inl (cI, 300, .inl (rowf S.1 0))),
   (q 12, .inl (cI, 300, .inl (rowf S.1 5))),
   (q 13, .inl (cI, 400, .inl (rowf S.1 10))),
   (q 14, .inl (cI, 100, .inl (rowf S.1 15))),
   (q 15, .inl (cI, 400, .inl (rowd S.1 S.2.2))),
   (q 16, .inl (cI, 10, .inl (colf S.1 29))),
   (q 17, .inl (cI, 10, .inl (colf S.1 30)))]
def bd (t k : Nat) : Nat := match k with
  | 0 => 9 | 1 => 9999 | 2 => 9999 * t | 3 => 9999 * t | 4 => 9999 | 5 => 7 | 6 => 59 | 7 => 9999 | 8 => 10029 | 9 => 1
  | 10 => 7 | 11 => 9 | 12 => 9999 | 13 => 9999 | 14 => 1 | 15 => 7 | 16 => 9 | 17 => 9999 | 18 => 19 | 19 => 1
  | 20 => 7 | 21 => 59 | 22 => 0 | 23 => 99 | 24 => 9999 | 25 => 9999 | 26 => 9999 | 27 => 9999 | 28 => 20 | 29 => 99999 | 30 => 99999 | 31 => 1 | _ => 0
def gb (k : Nat) : Nat := match k with
  | 0 => 8 | 1 => 9999 | 2 => 60 | 3 => 60 | 4 => 80 | 5 => 20 | 6 => 80 | 7 => 10 | _ => 0
/-- the bounds alone -/
def Bd (t : Nat) (S : St) : Prop := (∀ k j, S.1 k j ≤ bd t k) ∧ (∀ k, S.2.1 k ≤ gb k) ∧ t ≤ 512
def Inv (t : Nat) (S : St) : Prop := Bd t S ∧ (∀ j, S.1 26 j ≤ S.1 27 j) ∧ (∀ j, S.1 31 j = 0 → S.1 26 j = 0) ∧ (∀ j, S.2.1 2 ≤ j → S.1 2 j = 0 ∧ S.1 3 j = 0 ∧ S.1 4 j = 0) ∧
  (∀ j, j < S.2.1 4 → S.1 10 j < S.2.1 0) ∧ (∀ j, j < S.2.1 5 → S.1 15 j < S.2.1 0) ∧ (∀ j, S.1 9 j = 1 → S.2.1 1 < S.1 8 j) ∧ (∀ i j, i < j → j < S.2.1 7 → S.1 29 i < S.1 29 j ∧ S.1 30 i < S.1 30 j)
theorem sIf_t {P : Nat → Bool} {v : Nat → Nat} {i : Nat} (h : P i = true) : sIf P v (i + 1) = sIf P v i + v i := by simp [sIf, h]
theorem sIf_f {P : Nat → Bool} {v : Nat → Nat} {i : Nat} (h : P i = false) : sIf P v (i + 1) = sIf P v i := by simp [sIf, h]
theorem sIf_0 {P : Nat → Bool} {v : Nat → Nat} : sIf P v 0 = 0 := rfl
theorem b2_inj {x y : Bool} (h : b2 x = b2 y) : x = y := by cases x <;> cases y <;> first | rfl | exact absurd h (by decide)
def inst (S : St) (s k : Nat) (g : Bool) : Nat := sIf (fun j => decide (S.1 0 j = k) && (decide (S.2.1 1 ≤ S.1 1 j) == g)) (fun j => S.1 25 (s * 60 + j)) (S.2.1 2)
theorem inst_t {S : St} {s k : Nat} : inst S s k true = good S s k := sIf_congr _ (fun i _ => ⟨by simp, fun _ => rfl⟩)
theorem inst_f {S : St} {s k : Nat} : inst S s k false = bad S s k := sIf_congr _ (fun i _ => ⟨by simp, fun _ => rfl⟩)
def o2 (o : Option Nat) : Int32 := match o with
  | none => -1
  | some b => nI b
