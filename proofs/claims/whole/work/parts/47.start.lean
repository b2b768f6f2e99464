/-! THE START: what the tables and the Statement give there. -/
theorem hard_of {w : Cond} (hw : hard w = true) {A : Array Value} {U : State} (h : w.before A U = true) : va_Nw w U := by
  cases w <;> first | exact va_Nw.of rfl h | (simp [hard] at hw)
set_option maxRecDepth 100000 in
theorem str_ok : ∀ w ∈ tables_1.filter (fun w => match w with | .stringRef .. => true | _ => false), (match w with | .stringRef c k _ => decide (Cond.exactly (.string c k) "java/lang/String" ∈ flatC (Jvm.Cond.and given_1 narrow_1)) | _ => true) = true := by decide +kernel
theorem nc_ok : ∀ E ∈ exl, ∀ T ∈ exl, E ≠ T → Cond.not (.castable E T) ∈ flatC (Jvm.Cond.and given_1 narrow_1) := by decide +kernel
theorem gG_start {b : Nat} {s : State} (hts : ∀ w ∈ lw_tbl, w.before #[Value.ref b] s = true) (hgv : (Jvm.Cond.and given_1 narrow_1).before #[Value.ref b] s = true) : gG (lA s) s s.heap := by
  have hs := flat_of_before _ hgv
  refine ⟨vx_Zqof (hts _ (List.mem_append_right _ (List.mem_append_left _ (List.mem_of_getElem? (i := 183) rfl)))) (hts _ (List.mem_append_right _ (List.mem_append_left _ (List.mem_of_getElem? (i := 6) rfl)))) (hs _ (by decide +kernel)) (fun a h z => absurd z (Nat.not_le.mpr h)), vx_Zqof (hts _ (List.mem_append_right _ (List.mem_append_left _ (List.mem_of_getElem? (i := 185) rfl)))) (hts _ (List.mem_append_right _ (List.mem_append_left _ (List.mem_of_getElem? (i := 6) rfl)))) (hs _ (by decide +kernel)) (fun a h z => absurd z (Nat.not_le.mpr h)), fun w hw hh => hard_of hh (hts w (List.mem_append_right _ hw)), fun k tx hk => ?_⟩
  have h9 := of_decide_eq_true (str_ok _ (List.mem_filter.mpr ⟨hk, rfl⟩))
  obtain ⟨a, c, cA, kA, q1, -⟩ := Cond.exactly_spec (hs _ h9)
  exact ⟨a, vk_R.of (hts _ (List.mem_append_right _ hk)) q1⟩
theorem nC_start {b : Nat} {s : State} (hgv : (Jvm.Cond.and given_1 narrow_1).before #[Value.ref b] s = true) : nC s := fun E hE T hT hn => va_Nc.of (flat_of_before _ hgv _ (nc_ok E hE T hT hn))
theorem K_start {av : Array Value} {s : State} (hts : ∀ w ∈ bg, w.before av s = true) : ∃ (dC : Nat → ClassId) (dI : Nat → Nat → Nat), va_K (dC, dI) classes [] s := by
  obtain ⟨c0, iS0, hKn0⟩ := u_known (C := R_X) (T := F_X) (N := 12) (n := 12) hts i_X (hts _ wd_14)
  obtain ⟨c1, iS1, hKn1⟩ := u_known (C := R_W) (T := F_W) (N := 3) (n := 3) hts i_W (hts _ wd_22)
  obtain ⟨c2, iS2, hKn2⟩ := u_known (C := R_H) (T := F_H) (N := 3) (n := 3) hts i_H (hts _ wd_42)
  obtain ⟨c3, iS3, hKn3⟩ := u_known (C := R_M) (T := F_M) (N := 37) (n := 37) hts i_M (hts _ wd_550)
  refine ⟨fun k => if k = 0 then c0 else if k = 1 then c1 else if k = 2 then c2 else c3, fun k => if k = 0 then iS0 else if k = 1 then iS1 else if k = 2 then iS2 else iS3, ?_, fun k q h => by simp at h⟩
  intro k q hq
  match k, hq with
  | 0, hq => cases hq; exact hKn0
  | 1, hq => cases hq; exact hKn1
  | 2, hq => cases hq; exact hKn2
  | 3, hq => cases hq; exact hKn3
  | k + 4, hq => simp [classes] at hq
theorem D_join {A : Nat → Prop} {D : va_G} {cl : List vw_C} {wc wr w1 : va_W} {H : Heap} (h : va_D A (wc ++ wr)) (hP : va_P D cl wr H) (hF : ∀ q, va_A wc H.size q → A q) (h1 : va_D (va_A wc H.size) w1) : va_D A (w1 ++ wr) :=
  va_D.app (h1.weaken (fun k x _ z => hF x.1 z)) (D_r h) (fun i j x y hx hy hxy => by
    rcases h1.2 i x hx with ⟨k, e, hk⟩ | hge
    · exact D_x h hk hy hxy
    · have := (hP j y hy).lt
      omega)
set_option maxHeartbeats 4000000 in
set_option maxRecDepth 100000 in
/-- from the entry, for every script of at most 3072 ints, the law comes to its end with true -/
theorem whole_start {p : Program} {e : Env} {s : State} {m : MethodId} {below : List Frame} {meth : Method} {c : Code} (l : Launch) (hst : l.stackTraces = false) {b L : Nat} {xs : Nat → Int32} (hL : L ≤ 3072) (C0 : lw_At p s m meth c b L xs) : W p l e room_1 s m #[Value.ref b] below meth c s.heap [] 0 0 (lw_Z below #[Value.ref b] s) (entryFrame m ([Value.ref b] : List Value).toArray 7) := by
  obtain ⟨hx, hb, hr, hml, hown0, hts0, hX, hbl, hlocks, hgv⟩ := id C0
  have hts := bg_of hts0
  have hown : s.vm.findClass R_L = some m.cls := hown0
  have hG0 := gG_start hts0 hgv
  have hN := nC_start hgv
  obtain ⟨dC, dI, hK⟩ := K_start hts
  have hA : ∀ q : Nat, s.heap.size ≤ q → lA s q := fun _ h => h
  have hS : va_S (lA s) s.heap s.heap [] := va_S.rf
  have hP : va_P (dC, dI) classes [] s.heap := fun k q h => by simp at h
  have hD : va_D (lA s) [] := ⟨fun i j p q h => by simp at h, fun k q h => by simp at h⟩
  have hl := lv_entry ([.ref b]) (n := 7) (Nat.le_of_ble_eq_true rfl)
  rw [lg_entry_eq]
  generalize (lg_sl ([.ref b]) ++ List.replicate (7 - (lg_sl ([.ref b])).length) Slot.unset).toArray = ls at hl ⊢
  have hl : lv_has ls 7 [(0, .ref b)] := hl
  refine va_new (ci := 0) (fs := [.null, .null, .null, .null, .null, .null, .null, .null, .null, .null, .int 0, .int 0]) (C := R_X) (T := F_X) (N := 12) hx hb hts i_X ty_X ty_X_ok hown (hts _ wd_13) (hts _ wd_14) (hts _ wd_1) hK hP hD hS hA rfl (fun j hj => by rcases (show j = 0 ∨ j = 1 ∨ j = 2 ∨ j = 3 ∨ j = 4 ∨ j = 5 ∨ j = 6 ∨ j = 7 ∨ j = 8 ∨ j = 9 ∨ j = 10 ∨ j = 11 by omega) with rfl | rfl | rfl | rfl | rfl | rfl | rfl | rfl | rfl | rfl | rfl | rfl <;> rfl) (Nat.le_of_ble_eq_true rfl) (Nat.le_of_ble_eq_true rfl) d_L_law_0 (fun h0 H nP nD nS => ?_)
  replace hP : va_P (dC, dI) classes [(h0, .inr (0, [.null, .null, .null, .null, .null, .null, .null, .null, .null, .null, .int 0, .int 0]))] H := nP
  replace hD : va_D (lA s) [(h0, .inr (0, [.null, .null, .null, .null, .null, .null, .null, .null, .null, .null, .int 0, .int 0]))] := nD
  replace hS := nS
  clear nP nD nS
  have hG : gG (lA s) s H := gG_H hG0 hS.2.1
  refine W.widen (k := 1) (n := 12) (Nat.le_of_ble_eq_true rfl) (Nat.le_of_ble_eq_true rfl) ?_
  refine lv_dup hx hb d_L_law_3 rfl ?_
  have hFc := va_free (wc := [(h0, .inr (0, [.null, .null, .null, .null, .null, .null, .null, .null, .null, .null, .int 0, .int 0]))]) hD hS hA [0] rfl
  refine va_callv (va_runI (As := []) (rest := [.ref h0]) ⟨hx, hb, hml, hown, hts⟩ (c_X_init l dC dI (lA s) h0 H.size) (cwI 0 hts (gi_I wd_17) rfl rfl rfl (hts _ wd_1) (hts _ wd_15) (hts _ wd_16) rfl (by decide +kernel) ⟨Nat.le_of_ble_eq_true rfl, Nat.le_of_ble_eq_true rfl⟩) ⟨fun a U g mk q => by obtain ⟨q0, q1, qP, qK, qD, qG⟩ := q; exact ⟨q0, q1, qP, va_K.moved (u := U) (U := U.calling g mk a) (Vm.Alike.refl U.vm) qK, qD, gG_call qG⟩, fun U hU hW => ⟨rfl, by rw [hU], by rw [hU]; exact hP, va_K.moved hW.alike hK, hD.weaken (fun _ _ _ _ => trivial), gG_at hG hU hW⟩⟩ rfl rfl hl.1 rfl (lv_room (Nat.le_of_ble_eq_true rfl)) d_L_law_4 ⟨Nat.le_of_ble_eq_true rfl, Nat.le_of_ble_eq_true rfl⟩) hS (fun q _ h => hFc q h) hFc (fun u t H1 locs ht hvm hw hB hz1 hk1 nS => ?_)
  obtain ⟨q, cI⟩ := u
  obtain ⟨e0, hP1, hK1, hD1⟩ := hB
  rw [ht] at hP1
  replace hD : va_D (lA s) (wX q cI S0) := hD1.weaken (fun k x _ h => hFc x.1 h)
  replace hP : va_P (dC, dI) classes (wX q cI S0) H1 := hP1
  replace hK : va_K (dC, dI) classes [(cI, .int)] s := va_K.moved hvm.symm hK1
  replace hS := nS
  replace e0 : q 0 = h0 := e0
  clear hP1 hD1 hK1 nS hG hFc hk1 hz1 ht hvm
  generalize H1 = H at hP hS ⊢
  refine W.widen (k := 18) (n := 2240) (Nat.le_of_ble_eq_true rfl) (Nat.le_of_ble_eq_true rfl) ?_
  refine W.eq (g2 := F0 m 7 ls [.ref (q 0)]) (by rw [e0]) ?_
  refine lv_astore_n (lv' := [(1, .ref (q 0)), (0, .ref b)]) hx hb d_L_law_7 rfl hl (by decide) rfl (fun ls hl => ?_)
  refine va_new (ci := 3) (fs := [.int 0, .int 0, .int 0, .int 0, .null, .null, .null, .null, .null, .null, .int 0, .null, .null, .null, .null, .null, .null, .null, .null, .int 0, .null, .null, .null, .null, .null, .int 0, .null, .null, .null, .null, .null, .int 0, .null, .null, .int 0, .null, .null]) (C := R_M) (T := F_M) (N := 37) hx hb hts i_M ty_M ty_M_ok hown (hts _ wd_549) (hts _ wd_550) (hts _ wd_5) hK hP hD hS hA rfl (fun j hj => by rcases (show j = 0 ∨ j = 1 ∨ j = 2 ∨ j = 3 ∨ j = 4 ∨ j = 5 ∨ j = 6 ∨ j = 7 ∨ j = 8 ∨ j = 9 ∨ j = 10 ∨ j = 11 ∨ j = 12 ∨ j = 13 ∨ j = 14 ∨ j = 15 ∨ j = 16 ∨ j = 17 ∨ j = 18 ∨ j = 19 ∨ j = 20 ∨ j = 21 ∨ j = 22 ∨ j = 23 ∨ j = 24 ∨ j = 25 ∨ j = 26 ∨ j = 27 ∨ j = 28 ∨ j = 29 ∨ j = 30 ∨ j = 31 ∨ j = 32 ∨ j = 33 ∨ j = 34 ∨ j = 35 ∨ j = 36 by omega) with rfl | rfl | rfl | rfl | rfl | rfl | rfl | rfl | rfl | rfl | rfl | rfl | rfl | rfl | rfl | rfl | rfl | rfl | rfl | rfl | rfl | rfl | rfl | rfl | rfl | rfl | rfl | rfl | rfl | rfl | rfl | rfl | rfl | rfl | rfl | rfl | rfl <;> rfl) (Nat.le_of_ble_eq_true rfl) (Nat.le_of_ble_eq_true rfl) d_L_law_8 (fun h1 H nP nD nS => ?_)
  replace hP : va_P (dC, dI) classes ([(h1, .inr (3, [.int 0, .int 0, .int 0, .int 0, .null, .null, .null, .null, .null, .null, .int 0, .null, .null, .null, .null, .null, .null, .null, .null, .int 0, .null, .null, .null, .null, .null, .int 0, .null, .null, .null, .null, .null, .int 0, .null, .null, .int 0, .null, .null]))] ++ wX q cI S0) H := P_swap nP
  replace hD : va_D (lA s) ([(h1, .inr (3, [.int 0, .int 0, .int 0, .int 0, .null, .null, .null, .null, .null, .null, .int 0, .null, .null, .null, .null, .null, .null, .null, .null, .int 0, .null, .null, .null, .null, .null, .int 0, .null, .null, .null, .null, .null, .int 0, .null, .null, .int 0, .null, .null]))] ++ wX q cI S0) := D_swap nD
  replace hS := nS
  clear nP nD nS
  refine W.widen (k := 19) (n := 2277) (Nat.le_of_ble_eq_true rfl) (Nat.le_of_ble_eq_true rfl) ?_
  refine lv_dup hx hb d_L_law_11 rfl ?_
  have hFc := A_free hD hS hA
  refine va_callv (va_runI (As := []) (rest := [.ref h1]) ⟨hx, hb, hml, hown, hts⟩ (c_M_init l dC dI h1 H.size) (cwI 0 hts (gi_I wd_553) rfl rfl rfl (hts _ wd_5) (hts _ wd_551) (hts _ wd_552) rfl (by decide +kernel) ⟨Nat.le_of_ble_eq_true rfl, Nat.le_of_ble_eq_true rfl⟩) ⟨fun a U g mk q => by obtain ⟨q0, q1, qP, qK, qD⟩ := q; exact ⟨q0, q1, qP, va_K.moved (u := U) (U := U.calling g mk a) (Vm.Alike.refl U.vm) qK, qD⟩, fun U hU hW => ⟨rfl, by rw [hU], by rw [hU]; exact P_l hP, va_K.moved hW.alike (hK.sub (tys' := []) [] rfl), (D_l hD).weaken (fun _ _ _ _ => trivial)⟩⟩ rfl rfl hl.1 rfl (lv_room (Nat.le_of_ble_eq_true rfl)) d_L_law_12 ⟨Nat.le_of_ble_eq_true rfl, Nat.le_of_ble_eq_true rfl⟩) hS (fun q _ h => hFc q h) hFc (fun u t H1 locs ht hvm hw hB hz1 hk1 nS => ?_)
  obtain ⟨r, cI2, cZ⟩ := u
  obtain ⟨e1, hP1, hK1, hD1⟩ := hB
  rw [ht] at hP1
  have hP2 : va_P (dC, dI) classes (wM r cI2 cZ S0 0 ++ wX q cI S0) H1 := P_app hP1 (P_kept hD (P_r hP) hk1)
  have hD2 : va_D (lA s) (wM r cI2 cZ S0 0 ++ wX q cI S0) := D_join hD (P_r hP) hFc hD1
  have hK2 : va_K (dC, dI) classes [(cI, .int), (cI2, .int), (cZ, .boolean)] s := hK.app (va_K.moved hvm.symm hK1)
  replace hS := nS
  have e9 : h1 = r 0 := Eq.symm e1
  clear e1
  clear hP hD hK hP1 hD1 hK1 nS hFc hk1 hz1 ht hvm
  obtain rfl := K_one hK2 0 1 rfl rfl
  have hK := hK2.sub (tys' := [(cI, .int), (cZ, .boolean)]) [0, 2] rfl
  generalize H1 = H at hP2 hS ⊢
  refine W.widen (k := 47) (n := 4567) (Nat.le_of_ble_eq_true rfl) (Nat.le_of_ble_eq_true rfl) ?_
  refine W.eq (g2 := F0 m 15 ls [.ref (r 0)]) (by rw [e9]) ?_
  refine lv_astore_n (lv' := [(2, .ref (r 0)), (1, .ref (q 0)), (0, .ref b)]) hx hb d_L_law_15 rfl hl (by decide) rfl (fun ls hl => ?_)
  refine lv_iconst (v := nI 1) hx hb d_L_law_16 (by decide) ?_
  refine va_newa (atype := .long) (ty := .long) (N' := 1) (a0 := (1, .inr (.inl (fun _ => 0)))) hx hb (hts _ wd_817) rfl hK hP2 hD2 hS hA (fun cA => rfl) (by decide) (by decide) (by decide) (Nat.le_of_ble_eq_true rfl) (Nat.le_of_ble_eq_true rfl) d_L_law_17 (fun qo cJ H nK nP nD nS => ?_)
  have hP : va_P (dC, dI) classes (lW q r qo cI cZ cJ S0 0 (fun _ => 0)) H := by
    rw [List.append_assoc] at nP
    exact P_swap nP
  have hD : va_D (lA s) (lW q r qo cI cZ cJ S0 0 (fun _ => 0)) := by
    rw [List.append_assoc] at nD
    exact D_swap nD
  replace hK : va_K (dC, dI) classes [(cI, .int), (cZ, .boolean), (cJ, .long)] s := nK
  replace hS := nS
  refine lv_astore_n (lv' := [(3, .ref qo), (2, .ref (r 0)), (1, .ref (q 0)), (0, .ref b)]) hx hb d_L_law_19 rfl hl (by decide) rfl (fun ls hl => ?_)
  refine lv_iconst (v := nI (6 * 0)) hx hb d_L_law_20 (by decide) ?_
  refine lv_istore (lv' := [(4, .int (nI (6 * 0))), (3, .ref qo), (2, .ref (r 0)), (1, .ref (q 0)), (0, .ref b)]) hx hb d_L_law_21 hl (by decide) rfl (fun ls hl => ?_)
  refine W.widen (k := 60 + 8 * 0) (n := 6000 + 48 * 0) (Nat.le_of_ble_eq_true rfl) (Nat.le_of_ble_eq_true rfl) ?_
  exact law_loop ⟨C0, hst, hK, hG0, hN, hL⟩ 513 0 (by omega) (by omega) S0 0 (fun _ => 0) _ _ _ ⟨Iv_S0, hP, hD, hS, lv_sub hl [4, 3, 2, 1, 0] rfl⟩
