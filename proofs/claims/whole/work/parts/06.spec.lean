/-! WHAT EACH CALL DOES, on the state: (0 and an answer, or the number of the exception; the answer; the state behind it). -/
def ok (x : Int32) (n : Nat) : Bool := decide (0 ≤ x.toInt) && decide (x.toInt < n)
def rg (x : Int32) (lo hi : Nat) : Bool := decide ((lo : Int) ≤ x.toInt) && decide (x.toInt ≤ hi)
def nn (x : Int32) : Nat := x.toInt.toNat
theorem nn_nI {x : Int32} (h : 0 ≤ x.toInt) : x = nI (nn x) := by
  have h1 := x.toInt_lt
  have h2 : (nI (nn x)).toInt = x.toInt := by
    rw [nI_toInt (by simp only [nn]; omega)]
    simp only [nn]
    omega
  exact (Int32.toInt_inj.mp h2).symm
theorem ok_of {x : Int32} {n : Nat} (h : ok x n = true) : x = nI (nn x) ∧ nn x < n := by
  simp only [ok, Bool.and_eq_true, decide_eq_true_eq] at h
  exact ⟨nn_nI h.1, by simp only [nn]; omega⟩
theorem rg_of {x : Int32} {lo hi : Nat} (h : rg x lo hi = true) : x = nI (nn x) ∧ lo ≤ nn x ∧ nn x ≤ hi := by
  simp only [rg, Bool.and_eq_true, decide_eq_true_eq] at h
  exact ⟨nn_nI (by omega), by simp only [nn]; omega, by simp only [nn]; omega⟩
theorem nn_of {j : Nat} (h : j < 2 ^ 31) : nn (nI j) = j := by
  simp only [nn, nI_toInt h]
  omega
theorem ok_nI {j n : Nat} (h : j < 2 ^ 31) : ok (nI j) n = decide (j < n) := by
  simp only [ok, nI_toInt h]
  by_cases hj : j < n
  · simp [hj]
  · simp [hj]
abbrev Op : Type := Nat × Int32 × St
def dayOf (S : St) : Nat := S.2.1 1
def good (S : St) (s k : Nat) : Nat := sIf (fun j => decide (S.1 0 j = k) && decide (S.2.1 1 ≤ S.1 1 j)) (fun j => S.1 25 (s * 60 + j)) (S.2.1 2)
def bad (S : St) (s k : Nat) : Nat := sIf (fun j => decide (S.1 0 j = k) && !decide (S.2.1 1 ≤ S.1 1 j)) (fun j => S.1 25 (s * 60 + j)) (S.2.1 2)
def way (S : St) (g : Bool) (s k : Nat) : Nat := sIf (fun j => decide (S.1 9 j = 1) && (decide (S.1 5 j = s) && (decide (S.1 0 (S.1 6 j) = k) && (!g || decide (S.1 8 j ≤ S.1 1 (S.1 6 j)))))) (fun j => S.1 7 j) (S.2.1 3)
def opn (S : St) (s k : Nat) : Nat := sIf (fun j => decide (S.1 14 j = 1) && (decide (S.1 10 j = s) && decide (S.1 11 j = k))) (fun j => S.1 12 j) (S.2.1 4)
def expd (S : St) (s k : Nat) : Nat := good S s k + way S true s k + opn S s k
/-- five columns from b on, at the row i -/
def S_row (S : St) (b i v0 v1 v2 v3 v4 : Nat) : St := S_a (S_a (S_a (S_a (S_a S b i v0) (b + 1) i v1) (b + 2) i v2) (b + 3) i v3) (b + 4) i v4
def op_store (S : St) : Op := if S.2.1 0 < 8 then (0, nI (S.2.1 0), S_g S 0 (S.2.1 0 + 1)) else (1, 0, S)
def op_lot (S : St) (k e : Int32) : Op :=
  if ok k 10 = true then if rg e 0 9999 = true then if S.2.1 2 < 60 then (0, nI (S.2.1 2), S_g (S_row S 0 (S.2.1 2) (nn k) (nn e) 0 0 0) 2 (S.2.1 2 + 1)) else (3, 0, S) else (2, 0, S) else (1, 0, S)
def op_bring (S : St) (x y n : Int32) : Op :=
  if ok x (S.2.1 0) = true then if ok y (S.2.1 2) = true then if rg n 1 9999 = true then
    if S.1 25 (nn x * 60 + nn y) + nn n ≤ 9999 then (0, nI (S.1 25 (nn x * 60 + nn y) + nn n), S_a S 25 (nn x * 60 + nn y) (S.1 25 (nn x * 60 + nn y) + nn n)) else (3, 0, S) else (2, 0, S) else (1, 0, S) else (1, 0, S)
/-- n of a lot come to a store: what is above 9,999 is lost -/
def addUp (S : St) (s l n : Nat) : St := S_a S 25 (s * 60 + l) (min 9999 (S.1 25 (s * 60 + l) + n))
def come (S : St) (i : Nat) : St := addUp (S_a S 9 i 0) (S.1 5 i) (S.1 6 i) (S.1 7 i)
def op_move (S : St) (f t y n d : Int32) : Op :=
  if ok f (S.2.1 0) = true then if ok t (S.2.1 0) = true then if f ≠ t then if ok y (S.2.1 2) = true then if rg n 1 9999 = true then if rg d 0 30 = true then
    if nn n ≤ S.1 25 (nn f * 60 + nn y) then if S.2.1 3 < 60 then
      (0, nI (S.2.1 3), if nn d = 0 then come (S_g (S_row (S_a S 25 (nn f * 60 + nn y) (S.1 25 (nn f * 60 + nn y) - nn n)) 5 (S.2.1 3) (nn t) (nn y) (nn n) (S.2.1 1 + nn d) 1) 3 (S.2.1 3 + 1)) (S.2.1 3)
        else S_g (S_row (S_a S 25 (nn f * 60 + nn y) (S.1 25 (nn f * 60 + nn y) - nn n)) 5 (S.2.1 3) (nn t) (nn y) (nn n) (S.2.1 1 + nn d) 1) 3 (S.2.1 3 + 1))
    else (4, 0, S) else (3, 0, S) else (2, 0, S) else (2, 0, S) else (1, 0, S) else (1, 0, S) else (1, 0, S) else (1, 0, S)
/-- the lot that is taken from first, of those below i -/
def before (S : St) (s l b : Nat) : Bool := if S.1 1 l ≠ S.1 1 b then decide (S.1 1 l < S.1 1 b) else decide (S.1 25 (s * 60 + l) < S.1 25 (s * 60 + b))
def takeable (S : St) (s k l : Nat) : Bool := decide (S.1 0 l = k) && (decide (S.2.1 1 ≤ S.1 1 l) && decide (0 < S.1 25 (s * 60 + l)))
def bst (S : St) (s k : Nat) : Nat → Option Nat
  | 0 => none
  | i + 1 => if takeable S s k i = true then (match bst S s k i with
    | none => some i
    | some b => if before S s i b = true then some i else some b) else bst S s k i
def takeOf (S : St) (s b p : Nat) : St := S_a (S_a S 25 (s * 60 + b) (S.1 25 (s * 60 + b) - p)) 2 b (S.1 2 b + p)
def tk (s k : Nat) : Nat → St → Nat → St
  | 0, S, _ => S
  | f + 1, S, n => if n = 0 then S else (match bst S s k (S.2.1 2) with
    | none => S
    | some b => tk s k f (takeOf S s b (min n (S.1 25 (s * 60 + b)))) (n - min n (S.1 25 (s * 60 + b))))
def op_use (S : St) (x k n : Int32) : Op :=
  if ok x (S.2.1 0) = true then if ok k 10 = true then if rg n 1 9999 = true then
    if nn n ≤ good S (nn x) (nn k) then (0, nI (good S (nn x) (nn k) - nn n), tk (nn x) (nn k) 60 S (nn n)) else (3, 0, S) else (2, 0, S) else (1, 0, S) else (1, 0, S)
def op_sum (S : St) (x k w : Int32) : Op :=
  if ok x (S.2.1 0) = true then if ok k 10 = true then if w = 0 then (0, nI (good S (nn x) (nn k)), S) else if w = 1 then (0, nI (bad S (nn x) (nn k)), S) else if w = 2 then (0, nI (way S false (nn x) (nn k)), S) else (1, 0, S) else (1, 0, S) else (1, 0, S)
def op_has (S : St) (x y : Int32) : Op := if ok x (S.2.1 0) = true then if ok y (S.2.1 2) = true then (0, nI (S.1 25 (nn x * 60 + nn y)), S) else (1, 0, S) else (1, 0, S)
def op_level (S : St) (x k a b : Int32) : Op :=
  if ok x (S.2.1 0) = true then if ok k 10 = true then if rg b 0 9999 = true then if rg a 0 (nn b) = true then
    (0, 0, S_a (S_a (S_a S 26 (nn x * 10 + nn k) (nn a)) 27 (nn x * 10 + nn k) (nn b)) 31 (nn x * 10 + nn k) 1) else (2, 0, S) else (2, 0, S) else (1, 0, S) else (1, 0, S)
def addOrd (S : St) (s k n : Nat) : St := S_g (S_row S 10 (S.2.1 4) s k n (S.2.1 1) 1) 4 (S.2.1 4 + 1)
def ordK (S : St) (s k : Nat) : St := if S.1 26 (s * 10 + k) = 0 then S else if 80 ≤ S.2.1 4 then S else if expd S s k < S.1 26 (s * 10 + k) then addOrd S s k (S.1 27 (s * 10 + k) - expd S s k) else S
def ordR (S : St) (s : Nat) : Nat → St
  | 0 => S
  | k + 1 => ordK (ordR S s k) s k
def ordN (S : St) : Nat → St
  | 0 => S
  | s + 1 => ordR (ordN S s) s 10
def op_orders (S : St) : Op := (0, nI ((ordN S (S.2.1 0)).2.1 4 - S.2.1 4), ordN S (S.2.1 0))
def op_order (S : St) (i w : Int32) : Op := if ok i (S.2.1 4) = true then if ok w 5 = true then (0, nI (S.1 (10 + nn w) (nn i)), S) else (1, 0, S) else (1, 0, S)
def op_deliver (S : St) (i y : Int32) : Op :=
  if ok i (S.2.1 4) = true then if ok y (S.2.1 2) = true then if S.1 14 (nn i) = 1 then if S.1 11 (nn i) = S.1 0 (nn y) then
    (0, nI (min 9999 (S.1 25 (S.1 10 (nn i) * 60 + nn y) + S.1 12 (nn i))), addUp (S_a S 14 (nn i) 0) (S.1 10 (nn i)) (nn y) (S.1 12 (nn i))) else (2, 0, S) else (2, 0, S) else (1, 0, S) else (1, 0, S)
def op_emergency (S : St) (x k n w : Int32) : Op :=
  if ok x (S.2.1 0) = true then if ok k 10 = true then if ok w 20 = true then if rg n 1 9999 = true then if S.2.1 5 < 20 then
    (0, nI (S.2.1 5), S_g (S_row S 15 (S.2.1 5) (nn x) (nn k) (nn n) (nn w) 1) 5 (S.2.1 5 + 1)) else (3, 0, S) else (2, 0, S) else (1, 0, S) else (1, 0, S) else (1, 0, S)
def op_second (S : St) (i w : Int32) : Op :=
  if ok i (S.2.1 5) = true then if ok w 20 = true then if S.1 19 (nn i) = 1 then if S.1 18 (nn i) ≠ nn w then if S.2.1 4 < 80 then
    (0, nI (S.2.1 4), addOrd (S_a S 19 (nn i) 0) (S.1 15 (nn i)) (S.1 16 (nn i)) (S.1 17 (nn i))) else (3, 0, S) else (2, 0, S) else (2, 0, S) else (1, 0, S) else (1, 0, S)
def addDif (S : St) (s l : Nat) (d : Int32) (r : Nat) : St := S_g (S_a (S_a (S_z (S_a (S_a S 20 (S.2.1 6) s) 21 (S.2.1 6) l) (S.2.1 6) d) 23 (S.2.1 6) r) 24 (S.2.1 6) (S.2.1 1)) 6 (S.2.1 6 + 1)
def op_count (S : St) (x y n r : Int32) : Op :=
  if ok x (S.2.1 0) = true then if ok y (S.2.1 2) = true then if rg n 0 9999 = true then if rg r 1 99 = true then
    if nn n = S.1 25 (nn x * 60 + nn y) then (0, 0, S) else if S.2.1 6 < 80 then
      (0, n - nI (S.1 25 (nn x * 60 + nn y)), addDif (S_a S 25 (nn x * 60 + nn y) (nn n)) (nn x) (nn y) (n - nI (S.1 25 (nn x * 60 + nn y))) (nn r)) else (3, 0, S) else (2, 0, S) else (2, 0, S) else (1, 0, S) else (1, 0, S)
def op_difference (S : St) (i w : Int32) : Op := if ok i (S.2.1 6) = true then if ok w 5 = true then (0, if nn w = 2 then S.2.2 (nn i) else nI (S.1 (20 + nn w) (nn i)), S) else (1, 0, S) else (1, 0, S)
def op_kit (S : St) (t k n : Int32) : Op := if ok t 5 = true then if ok k 10 = true then if rg n 0 20 = true then (0, 0, S_a S 28 (nn t * 10 + nn k) (nn n)) else (2, 0, S) else (1, 0, S) else (1, 0, S)
def anyPart (S : St) (t : Nat) : Bool := (List.range 10).any (fun k => decide (0 < S.1 28 (t * 10 + k)))
def lack (S : St) (s t : Nat) : Option Nat := (List.range 10).find? (fun k => decide (good S s k < S.1 28 (t * 10 + k)))
def gvN (S : St) (s t : Nat) : Nat → St
  | 0 => S
  | k + 1 => tk s k 60 (gvN S s t k) (S.1 28 (t * 10 + k))
def op_give (S : St) (x t : Int32) : Op :=
  if ok x (S.2.1 0) = true then if ok t 5 = true then if anyPart S (nn t) = true then (match lack S (nn x) (nn t) with
    | some k => (0, nI k, S)
    | none => (0, -1, gvN S (nn x) (nn t) 10)) else (2, 0, S) else (1, 0, S) else (1, 0, S)
def op_back (S : St) (x y n : Int32) : Op :=
  if ok x (S.2.1 0) = true then if ok y (S.2.1 2) = true then if rg n 1 9999 = true then if S.1 2 (nn y) < nn n then (0, 0, S) else
    if S.1 25 (nn x * 60 + nn y) + nn n ≤ 9999 then (0, 1, S_a (S_a S 2 (nn y) (S.1 2 (nn y) - nn n)) 25 (nn x * 60 + nn y) (S.1 25 (nn x * 60 + nn y) + nn n)) else (3, 0, S) else (2, 0, S) else (1, 0, S) else (1, 0, S)
def op_waste (S : St) (x y n w : Int32) : Op :=
  if ok x (S.2.1 0) = true then if ok y (S.2.1 2) = true then if rg n 1 9999 = true then if rg w 1 9999 = true then if nn n ≤ S.1 25 (nn x * 60 + nn y) then
    (0, nI (S.1 3 (nn y) + nn n), S_a (S_a (S_a S 25 (nn x * 60 + nn y) (S.1 25 (nn x * 60 + nn y) - nn n)) 3 (nn y) (S.1 3 (nn y) + nn n)) 4 (nn y) (nn w)) else (3, 0, S) else (2, 0, S) else (2, 0, S) else (1, 0, S) else (1, 0, S)
def allIn (S : St) (l : Nat) : Nat := sIf (fun _ => true) (fun s => S.1 25 (s * 60 + l)) (S.2.1 0)
def op_lotAt (S : St) (y w : Int32) : Op := if ok y (S.2.1 2) = true then if w = 5 then (0, nI (allIn S (nn y)), S) else if ok w 5 = true then (0, nI (S.1 (nn w) (nn y)), S) else (1, 0, S) else (1, 0, S)
def op_row (S : St) (h v : Int32) : Op :=
  if rg h 0 99999 = true then if rg v 0 99999 = true then if S.2.1 7 = 0 ∨ (S.1 29 (S.2.1 7 - 1) < nn h ∧ S.1 30 (S.2.1 7 - 1) < nn v) then if S.2.1 7 < 10 then
    (0, nI (S.2.1 7 + 1), S_g (S_a (S_a S 29 (S.2.1 7) (nn h)) 30 (S.2.1 7) (nn v)) 7 (S.2.1 7 + 1)) else (3, 0, S) else (2, 0, S) else (1, 0, S) else (1, 0, S)
/-- the last of the rows below i that isn't above h -/
def lna (S : St) (h : Nat) : Nat → Option Nat
  | 0 => none
  | i + 1 => if S.1 29 i ≤ h then some i else lna S h i
def dipv (S : St) (h : Nat) : Int32 := match lna S h (S.2.1 7) with
  | none => -1
  | some b => if S.1 29 b = h then nI (S.1 30 b) else if b + 1 < S.2.1 7 then nI (S.1 30 b + (S.1 30 (b + 1) - S.1 30 b) * (h - S.1 29 b) / (S.1 29 (b + 1) - S.1 29 b)) else -1
def op_dip (S : St) (h : Int32) : Op := if rg h 0 99999 = true then (0, dipv S (nn h), S) else (1, 0, S)
def due (S : St) (D i : Nat) : Bool := decide (S.1 9 i = 1) && decide (S.1 8 i ≤ D)
def arr (S : St) (D : Nat) : Nat → St
  | 0 => S
  | i + 1 => if due (arr S D i) D i = true then come (arr S D i) i else arr S D i
def arrC (S : St) (D : Nat) : Nat → Nat
  | 0 => 0
  | i + 1 => arrC S D i + (if due (arr S D i) D i = true then 1 else 0)
def op_tick (S : St) (d : Int32) : Op :=
  if rg d 1 1000 = true then if S.2.1 1 + nn d ≤ 9999 then (0, nI (arrC (S_g S 1 (S.2.1 1 + nn d)) (S.2.1 1 + nn d) (S.2.1 3)), arr (S_g S 1 (S.2.1 1 + nn d)) (S.2.1 1 + nn d) (S.2.1 3)) else (1, 0, S) else (1, 0, S)
