/-! THE STATE: arrays of numbers by their places, counts, and the differences (which may be below 0).
arrays: 0..4 lots (kind, end, out, waste, paper), 5..9 moves (to, lot, n, arrival, on), 10..14 orders (store, kind, n, day, on), 15..19 emergencies (store, kind, n, person, on), 20..24 differences (store, lot, -, reason, day),
25 there, 26 least, 27 most, 28 parts, 29 heights, 30 litres, 31 is there a level; numbers: 0 stores, 1 day, 2 lots, 3 moves, 4 orders, 5 emergencies, 6 differences, 7 rows of the table -/
abbrev St : Type := (Nat → Nat → Nat) × (Nat → Nat) × (Nat → Int32)
def aU (a : Nat → Nat → Nat) (k j v : Nat) : Nat → Nat → Nat := va_up a k (va_up (a k) j v)
theorem aU_s {a : Nat → Nat → Nat} {k j v : Nat} : aU a k j v k j = v := by simp [aU, va_up]
theorem aU_e {a : Nat → Nat → Nat} {k j v i : Nat} (h : i ≠ j) : aU a k j v k i = a k i := by simp [aU, va_up, h]
theorem aU_n {a : Nat → Nat → Nat} {k k' j v : Nat} (h : k' ≠ k) : aU a k j v k' = a k' := by simp [aU, va_up, h]
def S_a (S : St) (k j v : Nat) : St := (aU S.1 k j v, S.2.1, S.2.2)
def S_g (S : St) (k v : Nat) : St := (S.1, va_up S.2.1 k v, S.2.2)
def S_z (S : St) (j : Nat) (v : Int32) : St := (S.1, S.2.1, va_up S.2.2 j v)
/-- five columns side by side -/
def rowf (a : Nat → Nat → Nat) (b : Nat) : Nat → Int32 := fun j => nI (a (b + j % 5) (j / 5))
def rowd (a : Nat → Nat → Nat) (z : Nat → Int32) : Nat → Int32 := fun j => if j % 5 = 2 then z (j / 5) else nI (a (20 + j % 5) (j / 5))
theorem rowf_at {a : Nat → Nat → Nat} {b i c : Nat} (h : c < 5) : rowf a b (i * 5 + c) = nI (a (b + c) i) := by
  have h1 : (i * 5 + c) % 5 = c := by omega
  have h2 : (i * 5 + c) / 5 = i := by omega
  simp only [rowf, h1, h2]
theorem rowf_upd {a : Nat → Nat → Nat} {b i c v : Nat} (h : c < 5) : upd (rowf a b) (i * 5 + c) (nI v) = rowf (aU a (b + c) i v) b := by
  funext j
  by_cases hj : j = i * 5 + c
  · subst hj
    rw [pk_us, rowf_at h, aU_s]
  · rw [pk_un hj]
    show nI (a (b + j % 5) (j / 5)) = nI (aU a (b + c) i v (b + j % 5) (j / 5))
    by_cases h1 : j % 5 = c
    · have h2 : j / 5 ≠ i := by omega
      rw [h1, aU_e h2]
    · rw [aU_n (by omega)]
theorem rowf_off {a : Nat → Nat → Nat} {b k i v : Nat} (h : k < b ∨ b + 5 ≤ k) : rowf (aU a k i v) b = rowf a b := by
  funext j
  show nI (aU a k i v (b + j % 5) (j / 5)) = nI (a (b + j % 5) (j / 5))
  rw [aU_n (by omega)]
theorem rowd_at {a : Nat → Nat → Nat} {z : Nat → Int32} {i c : Nat} (h : c < 5) (h2 : c ≠ 2) : rowd a z (i * 5 + c) = nI (a (20 + c) i) := by
  have h1 : (i * 5 + c) % 5 = c := by omega
  have h3 : (i * 5 + c) / 5 = i := by omega
  simp only [rowd, h1, h3, if_neg h2]
theorem rowd_at2 {a : Nat → Nat → Nat} {z : Nat → Int32} {i : Nat} : rowd a z (i * 5 + 2) = z i := by
  have h1 : (i * 5 + 2) % 5 = 2 := by omega
  have h3 : (i * 5 + 2) / 5 = i := by omega
  simp only [rowd, h1, h3, if_pos]
theorem rowd_upd {a : Nat → Nat → Nat} {z : Nat → Int32} {i c v : Nat} (h : c < 5) (h2 : c ≠ 2) : upd (rowd a z) (i * 5 + c) (nI v) = rowd (aU a (20 + c) i v) z := by
  funext j
  by_cases hj : j = i * 5 + c
  · subst hj
    rw [pk_us, rowd_at h h2, aU_s]
  · rw [pk_un hj]
    show (if j % 5 = 2 then z (j / 5) else nI (a (20 + j % 5) (j / 5))) = (if j % 5 = 2 then z (j / 5) else nI (aU a (20 + c) i v (20 + j % 5) (j / 5)))
    by_cases h3 : j % 5 = 2
    · rw [if_pos h3, if_pos h3]
    · rw [if_neg h3, if_neg h3]
      by_cases h1 : j % 5 = c
      · have h4 : j / 5 ≠ i := by omega
        rw [h1, aU_e h4]
      · rw [aU_n (by omega)]
theorem rowd_upd2 {a : Nat → Nat → Nat} {z : Nat → Int32} {i : Nat} {v : Int32} : upd (rowd a z) (i * 5 + 2) v = rowd a (va_up z i v) := by
  funext j
  by_cases hj : j = i * 5 + 2
  · subst hj
    rw [pk_us, rowd_at2, va_up_self]
  · rw [pk_un hj]
    show (if j % 5 = 2 then z (j / 5) else nI (a (20 + j % 5) (j / 5))) = (if j % 5 = 2 then va_up z i v (j / 5) else nI (a (20 + j % 5) (j / 5)))
    by_cases h3 : j % 5 = 2
    · rw [if_pos h3, if_pos h3, va_up_ne _ _ (by omega)]
    · rw [if_neg h3, if_neg h3]
theorem rowd_off {a : Nat → Nat → Nat} {z : Nat → Int32} {k i v : Nat} (h : k < 20 ∨ 25 ≤ k) : rowd (aU a k i v) z = rowd a z := by
  funext j
  show (if j % 5 = 2 then z (j / 5) else nI (aU a k i v (20 + j % 5) (j / 5))) = (if j % 5 = 2 then z (j / 5) else nI (a (20 + j % 5) (j / 5)))
  rw [aU_n (by omega)]
/-- a plain array -/
def colf (a : Nat → Nat → Nat) (k : Nat) : Nat → Int32 := fun j => nI (a k j)
theorem colf_upd {a : Nat → Nat → Nat} {k i v : Nat} : upd (colf a k) i (nI v) = colf (aU a k i v) k := by
  funext j
  by_cases hj : j = i
  · subst hj
    rw [pk_us]
    show _ = nI (aU a k j v k j)
    rw [aU_s]
  · rw [pk_un hj]
    show nI (a k j) = nI (aU a k i v k j)
    rw [aU_e hj]
theorem colf_off {a : Nat → Nat → Nat} {k k' i v : Nat} (h : k' ≠ k) : colf (aU a k i v) k' = colf a k' := by
  funext j
  show nI (aU a k i v k' j) = nI (a k' j)
  rw [aU_n h]
/-- how many of those up to n, taken where P says -/
def sIf (P : Nat → Bool) (v : Nat → Nat) : Nat → Nat
  | 0 => 0
  | i + 1 => sIf P v i + (if P i = true then v i else 0)
theorem sIf_le {P : Nat → Bool} {v : Nat → Nat} {B : Nat} (h : ∀ i, v i ≤ B) : ∀ n, sIf P v n ≤ n * B
  | 0 => by simp [sIf]
  | n + 1 => by
    have h1 := sIf_le (P := P) h n
    have h2 := h n
    have h3 : (n + 1) * B = n * B + B := Nat.succ_mul n B
    simp only [sIf]
    split <;> omega
theorem sIf_congr {P P' : Nat → Bool} {v v' : Nat → Nat} : ∀ n, (∀ i, i < n → P i = P' i ∧ (P i = true → v i = v' i)) → sIf P v n = sIf P' v' n
  | 0, _ => rfl
  | n + 1, h => by
    have h1 := sIf_congr n (fun i hi => h i (Nat.lt_succ_of_lt hi))
    obtain ⟨h2, h3⟩ := h n (Nat.lt_succ_self n)
    simp only [sIf, h1, ← h2]
    split
    · rename_i hp
      rw [h3 hp]
    · rfl
