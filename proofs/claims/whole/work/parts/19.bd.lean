/-! the bounds under changes -/
theorem Bd_a {t : Nat} {S : St} {k j v : Nat} (h : Bd t S) (hv : v ≤ bd t k) : Bd t (S_a S k j v) := by
  refine ⟨fun k' j' => ?_, h.2.1, h.2.2⟩
  show aU S.1 k j v k' j' ≤ bd t k'
  by_cases hk : k' = k
  · subst hk
    by_cases hj : j' = j
    · subst hj; rw [aU_s]; exact hv
    · rw [aU_e hj]; exact h.1 k' j'
  · rw [aU_n hk]; exact h.1 k' j'
theorem Bd_g {t : Nat} {S : St} {k v : Nat} (h : Bd t S) (hv : v ≤ gb k) : Bd t (S_g S k v) := by
  refine ⟨h.1, fun k' => ?_, h.2.2⟩
  show va_up S.2.1 k v k' ≤ gb k'
  by_cases hk : k' = k
  · subst hk; rw [va_up_self]; exact hv
  · rw [va_up_ne _ _ hk]; exact h.2.1 k'
theorem Bd_z {t : Nat} {S : St} {j : Nat} {v : Int32} (h : Bd t S) : Bd t (S_z S j v) := h
theorem bd_mono {t t' : Nat} (h : t ≤ t') (k : Nat) : bd t k ≤ bd t' k := by
  unfold bd
  split <;> first | exact Nat.le_refl _ | exact Nat.mul_le_mul_left 9999 h
theorem Bd_up {t t' : Nat} {S : St} (h : Bd t S) (ht : t ≤ t') (h2 : t' ≤ 512) : Bd t' S := ⟨fun k j => Nat.le_trans (h.1 k j) (bd_mono ht k), h.2.1, h2⟩
theorem Bd_addUp {t : Nat} {S : St} {s y n : Nat} (h : Bd t S) : Bd t (addUp S s y n) := Bd_a h (Nat.min_le_left _ _)
theorem Bd_come {t : Nat} {S : St} {i : Nat} (h : Bd t S) : Bd t (come S i) := Bd_addUp (Bd_a h (Nat.zero_le _))
theorem Bd_row {t : Nat} {S : St} {b i v0 v1 v2 v3 v4 : Nat} (h : Bd t S) (h0 : v0 ≤ bd t b) (h1 : v1 ≤ bd t (b + 1)) (h2 : v2 ≤ bd t (b + 2)) (h3 : v3 ≤ bd t (b + 3)) (h4 : v4 ≤ bd t (b + 4)) : Bd t (S_row S b i v0 v1 v2 v3 v4) :=
  Bd_a (Bd_a (Bd_a (Bd_a (Bd_a h h0) h1) h2) h3) h4
theorem Bd_addOrd {t : Nat} {S : St} {s k n : Nat} (h : Bd t S) (hs : s ≤ 7) (hk : k ≤ 9) (hn : n ≤ 9999) (ho : S.2.1 4 < 80) : Bd t (addOrd S s k n) :=
  Bd_g (Bd_row h hs hk hn (h.2.1 1) (Nat.le_refl 1)) (show S.2.1 4 + 1 ≤ 80 from ho)
theorem Bd_ordK {t : Nat} {S : St} {s k : Nat} (h : Bd t S) (hs : s < 8) (hk : k < 10) : Bd t (ordK S s k) := by
  unfold ordK
  split
  · exact h
  · split
    · exact h
    · split
      · refine Bd_addOrd h (by omega) (by omega) ?_ (by omega)
        have : S.1 27 (s * 10 + k) ≤ 9999 := h.1 27 _
        omega
      · exact h
theorem tk_0 {s k f : Nat} {S : St} : tk s k f S 0 = S := by cases f <;> simp [tk]
theorem tk_s {s k f n : Nat} {S : St} {b : Nat} (hn : 0 < n) (hb : bst S s k (S.2.1 2) = some b) : tk s k (f + 1) S n = tk s k f (takeOf S s b (min n (S.1 25 (s * 60 + b)))) (n - min n (S.1 25 (s * 60 + b))) := by
  simp [tk, Nat.ne_of_gt hn, hb]
theorem tk_n {s k f n : Nat} {S : St} (hb : bst S s k (S.2.1 2) = none) : tk s k f S n = S := by
  cases f with
  | zero => rfl
  | succ f => simp [tk, hb]
theorem wm_min : Cond.code Lib.Math.min.name Lib.Math.min.code 2 (some .int) ∈ bg := bg2 109 rfl rfl
theorem wm_max : Cond.code Lib.Math.max.name Lib.Math.max.code 2 (some .int) ∈ bg := bg1 29 rfl rfl
theorem out_takeOf {T : St} {s b p nd B : Nat} (h : ∀ j, T.1 2 j + nd ≤ B) (hp : p ≤ nd) : ∀ j, (takeOf T s b p).1 2 j + (nd - p) ≤ B := by
  intro j
  have h1 := h j
  have h2 := h b
  show aU (aU T.1 25 (s * 60 + b) (T.1 25 (s * 60 + b) - p)) 2 b (T.1 2 b + p) 2 j + (nd - p) ≤ B
  by_cases hj : j = b
  · subst hj; rw [aU_s]; omega
  · rw [aU_e hj, aU_n (by decide)]; omega
theorem wX_adr {q : Nat → Nat} {cI : ClassId} {S S' : St} : (wX q cI S').map Prod.fst = (wX q cI S).map Prod.fst := rfl
section WRA
variable {p : Program} {l : Launch} {e : Env} {R : Room} {s : State} {m : MethodId} {args : Array Value} {below : List Frame} {meth : Method} {c : Code} {H : Heap} {locs : List Loc} {cells slots : Nat} {Q : State → Prop}
variable {pc : Nat} {ls : Array Slot} {rest st0 : List Value} {a : Array Value} {D : va_G} {cl : List vw_C} {ws ws' : va_W} {A : Nat → Prop} {H0 : Heap}
/-- a callee that has the whole world -/
theorem wr_goA {v : Option Value} (hr : va_Run p l e R s m args below meth c H locs cells slots 0 0 (F0 m pc ls st0) rest (wr_Q v D cl ws' (va_A ws H.size) a) (va_A ws H.size)) (hD : va_D A ws) (hS : va_S A H0 H locs) (hA : ∀ q : Nat, H0.size ≤ q → A q) (hadr : ws'.map Prod.fst = ws.map Prod.fst)
    (k : ∀ (H1 : Heap) (locs1 : List Loc), va_P D cl ws' H1 → va_D A ws' → va_S A H0 H1 locs1 → W p l e R s m args below meth c H1 locs1 cells slots Q (F0 m (pc + 3) ls (v.toList ++ rest))) :
    W p l e R s m args below meth c H locs cells slots Q (F0 m pc ls st0) := by
  intro T hT X
  obtain ⟨w, st₀, t, T', L, h0, X', hL, e1, e2, ⟨hv, hP1, hz, hk⟩, st⟩ := hr T hT X
  obtain rfl : w = v := Outcome.returned.inj hv
  rw [h0] at hz hk
  have hfree : ∀ q, va_A ws H.size q → A q := fun q hq => by
    rcases hq with ⟨k, e, hk⟩ | hge
    · exact hD.2 k (q, e) hk
    · exact hA q (Nat.le_trans hS.1 hge)
  obtain ⟨t2, a1, b1⟩ := k t.heap (locs ++ L) hP1 (D_adr hD hadr)
    ⟨Nat.le_trans hS.1 hz, fun q h1 h2 => by rw [hk q (Nat.lt_of_lt_of_le h1 hS.1) (fun z => h2 (hfree q z))]; exact hS.2.1 q h1 h2, fun q hq => by
      rcases List.mem_append.mp hq with h | h
      · exact hS.2.2 q h
      · exact hfree _ (hL q h)⟩ T' e1 X'
  exact ⟨t2, st t2 a1, b1⟩
end WRA
