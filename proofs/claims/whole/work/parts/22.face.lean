/-! THE FACE: each call does what is said of it on the state, or throws the exception that is said and changes nothing. -/
def xo_P (D : va_G) (cl : List vw_C) (tys : List (ClassId × FieldType)) (A0 : Nat → Prop) (ws : va_W) (sz : Nat) (av : List Value) : Array Value → State → Prop := va_Pc av (fun U => U.heap.size = sz ∧ va_P D cl ws U.heap ∧ va_K D cl tys U ∧ va_D (fun _ => True) ws ∧ gG A0 U U.heap)
def xo_Q (o : Op) (rv : Option Value) (D : va_G) (cl : List vw_C) (ws' : va_W) (A : Nat → Prop) : Array Value → State → Outcome → State → Prop := fun _ st oc t => o.1 = 0 ∧ oc = .returned rv ∧ va_P D cl ws' t.heap ∧ va_F A st t
def xo_X (o : Op) (exs : List String) : String → State → State → Prop := fun E st t => 0 < o.1 ∧ exs[o.1 - 1]? = some E ∧ st.heap.size ≤ t.heap.size ∧ ∀ z : Nat, z < st.heap.size → t.heap[z]? = st.heap[z]?
theorem xo_blind {D : va_G} {cl : List vw_C} {ws : va_W} {tys : List (ClassId × FieldType)} {A0 : Nat → Prop} {sz : Nat} {av : List Value} : FrameBlind (xo_P D cl tys A0 ws sz av) := fun a U g mk q => by
  obtain ⟨q0, qz, qP, qK, qD, qG⟩ := q
  exact ⟨q0, qz, qP, va_K.moved (u := U) (U := U.calling g mk a) (Vm.Alike.refl U.vm) qK, qD, gG_call qG⟩
theorem ok_ex {x : Int32} {n : Nat} (h : ok x n = true) : ∃ a, a < n ∧ x = nI a := ⟨nn x, (ok_of h).2, (ok_of h).1⟩
theorem rg_ex {x : Int32} {lo hi : Nat} (h : rg x lo hi = true) : ∃ a, lo ≤ a ∧ a ≤ hi ∧ x = nI a := ⟨nn x, (rg_of h).2.1, (rg_of h).2.2, (rg_of h).1⟩
theorem rg_nI {j lo hi : Nat} (h : j < 2 ^ 31) : rg (nI j) lo hi = (decide (lo ≤ j) && decide (j ≤ hi)) := by
  simp only [rg, nI_toInt h]
  congr 1
  · simp
  · simp
theorem Sa_s {S : St} {k j v : Nat} : (S_a S k j v).1 k j = v := aU_s
theorem Sa_e {S : St} {k j v i : Nat} (h : i ≠ j) : (S_a S k j v).1 k i = S.1 k i := aU_e h
theorem Sa_n {S : St} {k k' j v : Nat} (h : k' ≠ k) : (S_a S k j v).1 k' = S.1 k' := aU_n h
theorem sub_0 {a b : Nat} (ha : a < 2 ^ 31) (hb : b < 2 ^ 31) (h : nI a - nI b = 0) : a = b := by
  have h1 : nI a = nI b := by
    have := congrArg (· + nI b) h
    simpa [Int32.sub_add_cancel] using this
  exact (nI_eq ha hb).mp h1
theorem sub_n0 {a b : Nat} (h : ¬ nI a - nI b = 0) : a ≠ b := fun e => h (by rw [e]; simp)
theorem add_sub {a b : Int32} : b + (a - b) = a := by rw [Int32.add_comm, Int32.sub_add_cancel]
/-- a method that looks and answers, or throws -/
def nv_Q (P : Prop) (v : Value) : Array Value → State → Outcome → State → Prop := fun _ st o t => P ∧ o = .returned (some v) ∧ t.heap = st.heap
section NDV
variable {p : Program} {l : Launch} {e : Env} {R : Room} {s : State} {m : MethodId} {args : Array Value} {below : List Frame} {meth : Method} {c : Code} {H : Heap} {locs : List Loc} {cells slots : Nat} {Q : State → Prop}
variable {pc : Nat} {ls : Array Slot} {rest st0 : List Value} {a : Array Value}
theorem nv_go {P : Prop} {v : Value} {E : String} {mc ms : Nat} (hr : vx_Run p l e R s m args below meth c H locs cells slots mc ms (F0 m pc ls st0) rest (nv_Q P v a) (nd_X P E) (fun _ => False))
    (kx : ¬ P → ∀ (ce : Cell) (q9 : Addr) (H1 : Heap), H.size ≤ H1.size → (∀ z : Nat, z < H.size → H1[z]? = H[z]?) → H1[q9]? = some ce → ce.vm = .none → s.vm.findClass E = some ce.cls → vx_W p l e R s m args below meth c H1 locs (cells + mc) (slots + ms) Q (F0 m pc ls rest) q9)
    (kk : P → W p l e R s m args below meth c H locs (cells + mc) (slots + ms) Q (F0 m (pc + 3) ls (v :: rest))) : W p l e R s m args below meth c H locs cells slots Q (F0 m pc ls st0) := by
  intro T hT X
  rcases hr T hT X with ⟨v', st₀, t, T', L, h0, X', hL, e1, e2, ⟨hP, hv, hh⟩, st⟩ | ⟨q, st₀, t, T', L, E', ce, h0, X', hL, e1, e2, ⟨hP, hE, h1, h2⟩, hce, hcv, hcl, st⟩
  · have hn := tm_nil hL
    subst hn
    rw [List.append_nil] at X'
    obtain rfl : v' = some v := Outcome.returned.inj hv
    obtain ⟨t2, a1, b1⟩ := kk hP T' (by rw [e1, hh, h0]) X'
    exact ⟨t2, st t2 a1, b1⟩
  · have hn := tm_nil hL
    subst hn
    rw [List.append_nil] at X'
    subst hE
    rw [h0] at h1 h2
    obtain ⟨t2, a1, b1⟩ := kx hP ce q t.heap h1 h2 hce hcv hcl T' e1 X'
    exact ⟨t2, st.trans a1, b1⟩
end NDV
