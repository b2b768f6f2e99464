/-! METHODS THAT WRITE: the world before and behind, all else as it was; a world's changes as changes of the state. -/
def wr_P (D : va_G) (cl : List vw_C) (ws : va_W) (tys : List (ClassId × FieldType)) (sz : Nat) (av : List Value) : Array Value → State → Prop := va_Pc av (fun U => U.heap.size = sz ∧ va_P D cl ws U.heap ∧ va_K D cl tys U ∧ va_D (fun _ => True) ws)
def wr_Q (v : Option Value) (D : va_G) (cl : List vw_C) (ws' : va_W) (A : Nat → Prop) : Array Value → State → Outcome → State → Prop := fun _ st o t => o = .returned v ∧ va_P D cl ws' t.heap ∧ va_F A st t
theorem wr_blind {D : va_G} {cl : List vw_C} {ws : va_W} {tys : List (ClassId × FieldType)} {sz : Nat} {av : List Value} : FrameBlind (wr_P D cl ws tys sz av) := fun a U g mk q => by
  obtain ⟨q0, qz, qP, qK, qD⟩ := q
  exact ⟨q0, qz, qP, va_K.moved (u := U) (U := U.calling g mk a) (Vm.Alike.refl U.vm) qK, qD⟩
/-- cells put at their places -/
def place : va_W → List Nat → va_W → va_W
  | ws, i :: is, e :: es => place (ws.set i e) is es
  | ws, _, _ => ws
theorem place_get : ∀ (is : List Nat) (es ws : va_W) (k : Nat) (x : Nat × va_E), (place ws is es)[k]? = some x → (∃ i : Nat, es[i]? = some x) ∨ (ws[k]? = some x ∧ (is.length = es.length → k ∉ is))
  | [], es, ws, k, x, h => Or.inr ⟨by cases es <;> exact h, fun _ h => nomatch h⟩
  | i :: is, [], ws, k, x, h => Or.inr ⟨h, fun h => by simp at h⟩
  | i :: is, e :: es, ws, k, x, h => by
    rcases place_get is es (ws.set i e) k x h with ⟨j, hj⟩ | ⟨h1, h2⟩
    · exact Or.inl ⟨j + 1, hj⟩
    · by_cases hk : k = i
      · subst hk
        by_cases hl : k < ws.length
        · rw [List.getElem?_set_self hl] at h1
          exact Or.inl ⟨0, h1⟩
        · rw [List.getElem?_eq_none (by simp; omega)] at h1
          cases h1
      · rw [List.getElem?_set_ne (Ne.symm hk)] at h1
        refine Or.inr ⟨h1, fun hl hm => ?_⟩
        rcases List.mem_cons.mp hm with rfl | hm
        · exact hk rfl
        · exact h2 (by simpa using hl) hm
theorem D_adr {A : Nat → Prop} {ws ws' : va_W} (h : va_D A ws) (e : ws'.map Prod.fst = ws.map Prod.fst) : va_D A ws' := by
  have key : ∀ (k : Nat) (x : Nat × va_E), ws'[k]? = some x → ∃ y, ws[k]? = some y ∧ y.1 = x.1 := by
    intro k x hx
    have h1 : (ws'.map Prod.fst)[k]? = some x.1 := by rw [List.getElem?_map, hx]; rfl
    rw [e, List.getElem?_map] at h1
    cases hy : ws[k]? with
    | none => rw [hy] at h1; cases h1
    | some y => rw [hy] at h1; exact ⟨y, rfl, Option.some.inj h1⟩
  refine ⟨fun i j p q hp hq hpq => ?_, fun k q hq => ?_⟩
  · obtain ⟨p', hp', ep⟩ := key i p hp
    obtain ⟨q', hq', eq⟩ := key j q hq
    exact h.1 i j p' q' hp' hq' (by rw [ep, eq, hpq])
  · obtain ⟨q', hq', eq⟩ := key k q hq
    rw [← eq]
    exact h.2 k q' hq'
theorem place_join {D : va_G} {cl : List vw_C} {A : Nat → Prop} {ws wc wc' : va_W} {H H1 : Heap} (hP : va_P D cl ws H) (hD : va_D A ws) (isC : List Nat) (hC : isC.map (fun i => ws[i]?) = wc.map some) (hn : isC.length = wc'.length)
    (hk : ∀ q : Nat, q < H.size → ¬ va_A wc H.size q → H1[q]? = H[q]?) (hP1 : va_P D cl wc' H1) : va_P D cl (place ws isC wc') H1 := by
  intro k x hx
  rcases place_get isC wc' ws k x hx with ⟨i, hi⟩ | ⟨h1, h2⟩
  · exact hP1 i x hi
  · refine (hP k x h1).kept (hk x.1 ((hP k x h1).lt) (fun ha => ?_))
    rcases ha with ⟨j, e, hj⟩ | hge
    · have hjc : (wc.map some)[j]? = some (some (x.1, e)) := by rw [List.getElem?_map, hj]; rfl
      rw [← hC, List.getElem?_map] at hjc
      cases hi : isC[j]? with
      | none => rw [hi] at hjc; cases hjc
      | some i =>
        rw [hi] at hjc
        have hw : ws[i]? = some (x.1, e) := Option.some.inj hjc
        have := hD.1 k i x (x.1, e) h1 hw rfl
        subst this
        exact h2 hn (List.mem_of_getElem? hi)
    · exact absurd ((hP k x h1).lt) (Nat.not_lt.mpr hge)
section WR
variable {p : Program} {l : Launch} {e : Env} {R : Room} {s : State} {m : MethodId} {args : Array Value} {below : List Frame} {meth : Method} {c : Code} {H : Heap} {locs : List Loc} {cells slots : Nat} {Q : State → Prop}
variable {pc : Nat} {ls : Array Slot} {rest st0 As : List Value} {a : Array Value} {D : va_G} {cl : List vw_C} {tys : List (ClassId × FieldType)} {ws wc wc' : va_W} {b : Nat} {A : Nat → Prop} {H0 : Heap}
theorem wr_go {v : Option Value} (hr : va_Run p l e R s m args below meth c H locs cells slots 0 0 (F0 m pc ls st0) rest (wr_Q v D cl wc' (va_A wc H.size) a) (va_A wc H.size)) (hP : va_P D cl ws H) (hD : va_D A ws) (hS : va_S A H0 H locs) (hA : ∀ q : Nat, H0.size ≤ q → A q) (isC : List Nat)
    (hC : isC.map (fun i => ws[i]?) = wc.map some) (hn : isC.length = wc'.length) (ws' : va_W) (hw : place ws isC wc' = ws') (hadr : ws'.map Prod.fst = ws.map Prod.fst)
    (k : ∀ (H1 : Heap) (locs1 : List Loc), va_P D cl ws' H1 → va_D A ws' → va_S A H0 H1 locs1 → W p l e R s m args below meth c H1 locs1 cells slots Q (F0 m (pc + 3) ls (v.toList ++ rest))) :
    W p l e R s m args below meth c H locs cells slots Q (F0 m pc ls st0) := by
  intro T hT X
  obtain ⟨w, st₀, t, T', L, h0, X', hL, e1, e2, ⟨hv, hP1, hz, hk⟩, st⟩ := hr T hT X
  obtain rfl : w = v := Outcome.returned.inj hv
  rw [h0] at hz hk
  have hfree := va_free (wc := wc) hD hS hA isC hC
  obtain ⟨t2, a1, b1⟩ := k t.heap (locs ++ L) (by rw [← hw]; exact place_join hP hD isC hC hn hk hP1) (D_adr hD hadr)
    ⟨Nat.le_trans hS.1 hz, fun q h1 h2 => by rw [hk q (Nat.lt_of_lt_of_le h1 hS.1) (fun z => h2 (hfree q z))]; exact hS.2.1 q h1 h2, fun q hq => by
      rcases List.mem_append.mp hq with h | h
      · exact hS.2.2 q h
      · exact hfree _ (hL q h)⟩ T' e1 X'
  exact ⟨t2, st t2 a1, b1⟩
theorem wr_preV {ci q0 : Nat} {q : vw_C} {fs : List Value} (hK : va_K D cl tys s) (hP : va_P D cl ws H) (hD : va_D A ws) (hc : cl[ci]? = some q) (he : ws[q0]? = some (b, .inr (ci, fs))) : PreV s H q.1 b (wr_P D cl ws tys H.size (.ref b :: As)) As :=
  ⟨wr_blind, va_recv hK hP hc he, fun U hU hW => ⟨rfl, by rw [hU], by rw [hU]; exact hP, va_K.moved hW.alike hK, hD.weaken (fun _ _ _ _ => trivial)⟩⟩
end WR
