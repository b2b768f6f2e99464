/-! WHAT A THROW ASKS FOR beside the words in the list: two static fields of Throwable, some words that want care, the constants' texts. -/
def hard : Cond → Bool
  | .declares _ => true
  | .castable .. => true
  | .methodLinkNest .. => true
  | _ => false
def gG (A : Nat → Prop) (U : State) (H : Heap) : Prop := vx_Zq Bundle.tN "UNASSIGNED_STACK" Bundle.steD A U H ∧ vx_Zq Bundle.tN "SUPPRESSED_SENTINEL" Bundle.listD A U H ∧ (∀ w ∈ tables_1, hard w = true → va_Nw w U) ∧ ∀ k tx, Cond.stringRef R_X k tx ∈ tables_1 → ∃ a, vk_R R_X k tx a U
theorem hard_warm {w : Cond} (hw : hard w = true) {s U : State} (hW : s.WarmedH U.vm) (h : va_Nw w s) : va_Nw w U := by
  cases w <;> first | exact va_Nw.warmD hW h | exact va_Nw.warmC hW h | exact va_Nw.warmM hW h | (simp [hard] at hw)
theorem hard_same {w : Cond} (hw : hard w = true) {s U : State} (hv : s.vm = U.vm) (h : va_Nw w s) : va_Nw w U := by
  cases w <;> first | exact va_Nw.same rfl hv h | (simp [hard] at hw)
theorem hard_use {w : Cond} (hw : hard w = true) {A : Array Value} {U : State} (h : va_Nw w U) : w.before A U = true := by
  cases w <;> first | exact va_Nw.use rfl h | (simp [hard] at hw)
theorem gG_at {A : Nat → Prop} {s U : State} {H : Heap} (h : gG A s H) (hU : U.heap = H) (hW : s.WarmedH U.vm) : gG A U U.heap := by
  rw [hU]
  exact ⟨vx_Zq.moved hW.alike h.1, vx_Zq.moved hW.alike h.2.1, fun w hw hh => hard_warm hh hW (h.2.2.1 w hw hh), fun k tx hk => by
    obtain ⟨a, ha⟩ := h.2.2.2 k tx hk
    exact ⟨a, vk_R.warm hW ha⟩⟩
theorem gG_call {A : Nat → Prop} {U : State} {g : JFrame} {mk : MethodId} {a : Array Value} (h : gG A U U.heap) : gG A (U.calling g mk a) (U.calling g mk a).heap :=
  ⟨vx_Zq.moved (u := U) (U := U.calling g mk a) (Vm.Alike.refl U.vm) h.1, vx_Zq.moved (u := U) (U := U.calling g mk a) (Vm.Alike.refl U.vm) h.2.1, fun w hw hh => hard_same (s := U) (U := U.calling g mk a) hh rfl (h.2.2.1 w hw hh), fun k tx hk => by
    obtain ⟨a, ha⟩ := h.2.2.2 k tx hk
    exact ⟨a, vk_R.same rfl ha⟩⟩
def nd_P (D : va_G) (cl : List vw_C) (ws : va_W) (tys : List (ClassId × FieldType)) (A : Nat → Prop) (av : List Value) : Array Value → State → Prop := va_Pc av (fun U => va_P D cl ws U.heap ∧ va_K D cl tys U ∧ gG A U U.heap)
theorem nd_blind {D : va_G} {cl : List vw_C} {ws : va_W} {tys : List (ClassId × FieldType)} {A : Nat → Prop} {av : List Value} : FrameBlind (nd_P D cl ws tys A av) := fun a U g mk q => by
  obtain ⟨q0, qP, qK, qG⟩ := q
  exact ⟨q0, qP, va_K.moved (u := U) (U := U.calling g mk a) (Vm.Alike.refl U.vm) qK, gG_call qG⟩
/-- a method that only looks: it comes back where P holds -/
def nd_Q (P : Prop) : Array Value → State → Outcome → State → Prop := fun _ st o t => P ∧ o = .returned none ∧ t.heap = st.heap
/-- else it throws an E -/
def nd_X (P : Prop) (E : String) : String → State → State → Prop := fun E' st t => ¬ P ∧ E' = E ∧ st.heap.size ≤ t.heap.size ∧ ∀ z : Nat, z < st.heap.size → t.heap[z]? = st.heap[z]?
abbrev sup2 : List String := ["java/lang/RuntimeException", "java/lang/Exception"]
def exOk (E : String) (ik ic : Nat) : Prop := Bundle.fit E = true ∧ Cond.classLink R_X ik E ∈ bg ∧ Cond.initialized E ∈ bg ∧ (∀ w ∈ (vx_atS R_X ic E sup2).filter goodWord, w ∈ bg) ∧ (∀ w ∈ (vx_atS R_X ic E sup2).filter (fun w => !goodWord w), w ∈ tables_1.filter hard) ∧ ∀ w ∈ Cond.classLink R_X ik E :: Cond.initialized E :: vx_atS R_X ic E sup2, vx_ot w = true
section ND
variable {p : Program} {l : Launch} {e : Env} {R : Room} {s : State} {m : MethodId} {args : Array Value} {below : List Frame} {meth : Method} {c : Code} {H : Heap} {locs : List Loc} {cells slots : Nat} {Q : State → Prop}
variable {pc : Nat} {ls : Array Slot} {rest st0 As : List Value} {a : Array Value} {D : va_G} {cl : List vw_C} {tys : List (ClassId × FieldType)} {ws : va_W} {b : Nat} {A : Nat → Prop}
theorem x_throw {cc : ByteArray} {Qc : Array Value → State → Outcome → State → Prop} {XC : String → State → State → Prop} {free : Addr → Prop} {E : String} {ik is ic mc ms : Nat} (hexec : p.tables.exec = Jvm.exec) (hb : c.code = cc) (hl : l.stackTraces = false) (hown : s.vm.findClass R_X = some m.cls)
    (hts : ∀ w ∈ bg, w.before args s = true) (hG : gG A s s.heap) (hE : exOk E ik ic) (hstr : ∃ tx, Cond.stringRef R_X is tx ∈ tables_1) (hnt : ∀ x ∈ c.exceptionTable.toList, False) (hsize : ls.size = c.maxLocals) (hlocks : meth.locks = false)
    (d0 : decode cc pc = .ok (.new ik, 3)) (d3 : decode cc (pc + 3) = .ok (.dup, 1)) (d4 : decode cc (pc + 4) = .ok (.ldc is, 2)) (d6 : decode cc (pc + 6) = .ok (.invokespecial ic, 3)) (d9 : decode cc (pc + 9) = .ok (.athrow, 1))
    (hRf : 6 ≤ R.frames) (hRl : (rest.map fun v => v.category).sum + 82 ≤ R.locals) (hRc : cells + 1 ≤ R.cells) (hRs : slots + 6 ≤ R.slots) (hc : cells + 1 ≤ mc) (hs : slots + 6 ≤ ms)
    (hx : ∀ t : State, s.heap.size ≤ t.heap.size → (∀ q : Nat, q < s.heap.size → t.heap[q]? = s.heap[q]?) → XC E s t) :
    W p l e R s m args below meth c s.heap [] cells slots (vx_MQ below Qc XC args s mc ms free) (F0 m pc ls rest) := by
  obtain ⟨e1, e2, e3, e4, e5, e6⟩ := hE
  obtain ⟨tx, htx⟩ := hstr
  obtain ⟨sa, hsa⟩ := hG.2.2.2 is tx htx
  exact vx_throwS (names := sup2) (A := A) hexec hb hl hown e1 (by decide +kernel) (hts _ e2) (hts _ e3) hsa
    (vx_hat (B := tables_1.filter hard) (fun w hw => hts w (e4 w hw)) e5 (fun w hw => hard_use (List.mem_filter.mp hw).2 (hG.2.2.1 w (List.mem_filter.mp hw).1 (List.mem_filter.mp hw).2))) e6 hG.1 hG.2.1 va_S.rf hsize d0 d3 d4 d6 d9
    (fun x hx => (hnt x hx).elim) (show 2 + 3 < R.frames by omega) hRl hRc hRs hlocks (fun t _ h1 h2 => hx t h1 h2) (fun z hz => nomatch hz) hc hs
theorem nd_go {P : Prop} {E : String} {mc ms : Nat} (hr : vx_Run p l e R s m args below meth c H locs cells slots mc ms (F0 m pc ls st0) rest (nd_Q P a) (nd_X P E) (fun _ => False))
    (kx : ¬ P → ∀ (ce : Cell) (q9 : Addr) (H1 : Heap), H.size ≤ H1.size → (∀ z : Nat, z < H.size → H1[z]? = H[z]?) → H1[q9]? = some ce → ce.vm = .none → s.vm.findClass E = some ce.cls → vx_W p l e R s m args below meth c H1 locs (cells + mc) (slots + ms) Q (F0 m pc ls rest) q9)
    (kk : P → W p l e R s m args below meth c H locs (cells + mc) (slots + ms) Q (F0 m (pc + 3) ls rest)) : W p l e R s m args below meth c H locs cells slots Q (F0 m pc ls st0) := by
  intro T hT X
  rcases hr T hT X with ⟨v, st₀, t, T', L, h0, X', hL, e1, e2, ⟨hP, hv, hh⟩, st⟩ | ⟨q, st₀, t, T', L, E', ce, h0, X', hL, e1, e2, ⟨hP, hE, h1, h2⟩, hce, hcv, hcl, st⟩
  · have hn := tm_nil hL
    subst hn
    rw [List.append_nil] at X'
    obtain rfl : v = none := Outcome.returned.inj hv
    obtain ⟨t2, a1, b1⟩ := kk hP T' (by rw [e1, hh, h0]) X'
    exact ⟨t2, st t2 a1, b1⟩
  · have hn := tm_nil hL
    subst hn
    rw [List.append_nil] at X'
    subst hE
    rw [h0] at h1 h2
    obtain ⟨t2, a1, b1⟩ := kx hP ce q t.heap h1 h2 hce hcv hcl T' e1 X'
    exact ⟨t2, st.trans a1, b1⟩
theorem nd_preS (hK : va_K D cl tys s) (hP : va_P D cl ws H) (hG : gG A s H) : PreS s H (nd_P D cl ws tys A As) As :=
  ⟨nd_blind, fun U hU hW => ⟨rfl, by rw [hU]; exact hP, va_K.moved hW.alike hK, gG_at hG hU hW⟩⟩
theorem nd_preV {ci q0 : Nat} {q : vw_C} {fs : List Value} (hK : va_K D cl tys s) (hP : va_P D cl ws H) (hG : gG A s H) (hc : cl[ci]? = some q) (he : ws[q0]? = some (b, .inr (ci, fs))) : PreV s H q.1 b (nd_P D cl ws tys A (.ref b :: As)) As :=
  ⟨nd_blind, va_recv hK hP hc he, fun U hU hW => ⟨rfl, by rw [hU]; exact hP, va_K.moved hW.alike hK, gG_at hG hU hW⟩⟩
end ND
abbrev E_ia : String := "java/lang/IllegalArgumentException"
theorem ex_ia : exOk E_ia 92 96 := ⟨by decide +kernel, wd_237, wd_10, by decide +kernel, by decide +kernel, by decide +kernel⟩
abbrev E_io : String := "java/lang/IndexOutOfBoundsException"
theorem ex_io : exOk E_io 213 217 := ⟨by decide +kernel, wd_256, wd_11, by decide +kernel, by decide +kernel, by decide +kernel⟩
abbrev E_is : String := "java/lang/IllegalStateException"
theorem ex_is : exOk E_is 110 114 := ⟨by decide +kernel, wd_322, wd_12, by decide +kernel, by decide +kernel, by decide +kernel⟩
abbrev E_uo : String := "java/lang/UnsupportedOperationException"
theorem ex_uo : exOk E_uo 54 58 := ⟨by decide +kernel, wd_156, wd_9, by decide +kernel, by decide +kernel, by decide +kernel⟩
theorem sx_56 : ∃ tx, Cond.stringRef R_X 56 tx ∈ tables_1 := ⟨_, List.mem_append_left _ (List.mem_of_getElem? (i := 198) rfl)⟩
theorem sx_207 : ∃ tx, Cond.stringRef R_X 207 tx ∈ tables_1 := ⟨_, List.mem_append_right _ (List.mem_append_left _ (List.mem_of_getElem? (i := 6) rfl))⟩
theorem sx_215 : ∃ tx, Cond.stringRef R_X 215 tx ∈ tables_1 := ⟨_, List.mem_append_right _ (List.mem_append_left _ (List.mem_of_getElem? (i := 25) rfl))⟩
theorem sx_223 : ∃ tx, Cond.stringRef R_X 223 tx ∈ tables_1 := ⟨_, List.mem_append_right _ (List.mem_append_left _ (List.mem_of_getElem? (i := 35) rfl))⟩
theorem sx_200 : ∃ tx, Cond.stringRef R_X 200 tx ∈ tables_1 := ⟨_, List.mem_append_right _ (List.mem_append_left _ (List.mem_of_getElem? (i := 47) rfl))⟩
theorem sx_205 : ∃ tx, Cond.stringRef R_X 205 tx ∈ tables_1 := ⟨_, List.mem_append_right _ (List.mem_append_left _ (List.mem_of_getElem? (i := 59) rfl))⟩
theorem sx_220 : ∃ tx, Cond.stringRef R_X 220 tx ∈ tables_1 := ⟨_, List.mem_append_right _ (List.mem_append_left _ (List.mem_of_getElem? (i := 64) rfl))⟩
theorem sx_94 : ∃ tx, Cond.stringRef R_X 94 tx ∈ tables_1 := ⟨_, List.mem_append_right _ (List.mem_append_left _ (List.mem_of_getElem? (i := 77) rfl))⟩
theorem sx_218 : ∃ tx, Cond.stringRef R_X 218 tx ∈ tables_1 := ⟨_, List.mem_append_right _ (List.mem_append_left _ (List.mem_of_getElem? (i := 91) rfl))⟩
theorem sx_112 : ∃ tx, Cond.stringRef R_X 112 tx ∈ tables_1 := ⟨_, List.mem_append_right _ (List.mem_append_left _ (List.mem_of_getElem? (i := 117) rfl))⟩
theorem sx_121 : ∃ tx, Cond.stringRef R_X 121 tx ∈ tables_1 := ⟨_, List.mem_append_right _ (List.mem_append_left _ (List.mem_of_getElem? (i := 137) rfl))⟩
theorem sx_145 : ∃ tx, Cond.stringRef R_X 145 tx ∈ tables_1 := ⟨_, List.mem_append_right _ (List.mem_append_left _ (List.mem_of_getElem? (i := 173) rfl))⟩
theorem sx_147 : ∃ tx, Cond.stringRef R_X 147 tx ∈ tables_1 := ⟨_, List.mem_append_right _ (List.mem_append_left _ (List.mem_of_getElem? (i := 174) rfl))⟩
theorem sx_209 : ∃ tx, Cond.stringRef R_X 209 tx ∈ tables_1 := ⟨_, List.mem_append_right _ (List.mem_append_left _ (List.mem_of_getElem? (i := 185) rfl))⟩
theorem sx_158 : ∃ tx, Cond.stringRef R_X 158 tx ∈ tables_1 := ⟨_, List.mem_append_right _ (List.mem_append_left _ (List.mem_of_getElem? (i := 193) rfl))⟩
theorem sx_160 : ∃ tx, Cond.stringRef R_X 160 tx ∈ tables_1 := ⟨_, List.mem_append_right _ (List.mem_append_left _ (List.mem_of_getElem? (i := 194) rfl))⟩
theorem sx_211 : ∃ tx, Cond.stringRef R_X 211 tx ∈ tables_1 := ⟨_, List.mem_append_right _ (List.mem_append_left _ (List.mem_of_getElem? (i := 219) rfl))⟩
theorem sx_173 : ∃ tx, Cond.stringRef R_X 173 tx ∈ tables_1 := ⟨_, List.mem_append_right _ (List.mem_append_left _ (List.mem_of_getElem? (i := 231) rfl))⟩
theorem sx_187 : ∃ tx, Cond.stringRef R_X 187 tx ∈ tables_1 := ⟨_, List.mem_append_right _ (List.mem_append_right _ (List.mem_append_left _ (List.mem_of_getElem? (i := 33) rfl)))⟩
theorem sx_193 : ∃ tx, Cond.stringRef R_X 193 tx ∈ tables_1 := ⟨_, List.mem_append_right _ (List.mem_append_right _ (List.mem_append_left _ (List.mem_of_getElem? (i := 38) rfl)))⟩
