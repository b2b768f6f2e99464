set_option maxHeartbeats 4000000 in
set_option maxRecDepth 100000 in
theorem k_store {p : Program} {l : Launch} {e : Env} {s : State} {m : MethodId} {below : List Frame} {meth : Method} {c : Code} {b L : Nat} {xs : Nat → Int32} {dC : Nat → ClassId} {dI : Nat → Nat → Nat} {cI cZ cJ : ClassId} (C0 : lC p l s m meth c b L xs dC dI cI cZ cJ) {q r : Nat → Nat} {qo t : Nat} {S : St} {th : Int32} {f : Nat → Int64} {H : Heap} {locs : List Loc} {ls : Array Slot} {cells slots : Nat} (ht : t + 1 ≤ 512) (hj : 6 * t + 6 ≤ L) (hcs : cells + 8 ≤ 601024 ∧ slots + 48 ≤ 7293034)
    (G : lG s dC dI cI cZ cJ b q r qo t t S th f H locs ls) (k : lK p l e s m below meth c dC dI cI cZ cJ b q r qo t (cells + 8) (slots + 48)) : W p l e room_1 s m #[Value.ref b] below meth c H locs cells slots (lw_Z below #[Value.ref b] s) (F0 m 148 ls []) := by
  obtain ⟨⟨hx, hb, hr, hml, hown, hts0, hX, hbl, hlocks, hgv⟩, hst, hK, hG0, hN, hL⟩ := C0
  have hts := bg_of hts0
  have hown : s.vm.findClass R_L = some m.cls := hown
  obtain ⟨hV0, hP, hD, hS, hl⟩ := G
  obtain ⟨hV, hou, hwa⟩ := Iv_up hV0 ht
  have hA : ∀ q : Nat, s.heap.size ≤ q → lA s q := fun _ h => h
  have hG : gG (lA s) s H := gG_H hG0 hS.2.1
  have hI := hV.1.1
  have hKM := hK.sub (tys' := [(cI, .int), (cZ, .boolean)]) [0, 1] rfl
  refine lv_aload_n hx hb d_L_law_148 rfl (lv_at hl 1 rfl) ?_
  refine lv_aload_n hx hb d_L_law_149 rfl (lv_at hl 3 rfl) ?_
  refine lw_go (vx_runSW (As := [.ref (q 0), .ref qo]) (rest := []) ⟨hx, hb, hml, hown, hts⟩ (c_L_store l hst dC dI (lA s) H.size cI q cJ qo f S (t + 1) hI  ) (vx_cwSW 2 hts (gi_SW wd_148 wd_149 wd_0 wd_150) rfl rfl rfl (by decide +kernel) ⟨Nat.le_of_ble_eq_true rfl, Nat.le_of_ble_eq_true rfl⟩) (wl_preS (hK.sub (tys' := [(cI, .int), (cJ, .long)]) [0, 2] rfl) (P_l hP) (D_l hD) hG hN) rfl rfl hl.1 rfl (lv_room (Nat.le_of_ble_eq_true rfl)) d_L_law_150 ⟨show _ ≤ 601024 by omega, show _ ≤ 7293034 by omega⟩) hP hD hS hA xo_adr (fun H locs nP nD nS => ?_)
  replace hP := P_swap nP
  replace hD := D_swap nD
  replace hS := nS
  clear nP nD nS hG
  refine W.eq (g2 := F0 m 153 ls [.int (nI (op_store S).1)]) rfl ?_
  refine lv_istore (lv' := [(5, .int (nI (op_store S).1)), (0, .ref b), (1, .ref (q 0)), (2, .ref (r 0)), (3, .ref qo), (4, .int (nI (6 * t)))]) hx hb d_L_law_153 hl (by decide) rfl (fun ls hl => ?_)
  refine lv_aload_n hx hb d_L_law_155 rfl (lv_at hl 3 rfl) ?_
  refine lw_go (va_runV (As := []) (rest := []) ⟨hx, hb, hml, hown, hts⟩ (c_M_store l dC dI H.size cI cZ r S th (t + 1) hI  hV.1 ) (cwV 0 hts (gi_V wd_672 wd_673 wd_674 wd_5 wd_675) rfl rfl rfl (by decide +kernel) ⟨Nat.le_of_ble_eq_true rfl, Nat.le_of_ble_eq_true rfl⟩) (wr_preV hKM (P_l hP) (D_l hD) (ci := 3) (q0 := 0) rfl rfl) rfl rfl hl.1 rfl (lv_room (Nat.le_of_ble_eq_true rfl)) d_L_law_156 ⟨show _ ≤ 601024 by omega, show _ ≤ 7293034 by omega⟩) hP hD hS hA wM_adr (fun H locs nP nD nS => ?_)
  replace hP := nP
  replace hD := nD
  replace hS := nS
  clear nP nD nS
  have hV9 : Iv (t + 1) (op_store S).2.2 := Iv_store hV 
  refine W.eq (g2 := F0 m 159 ls [.int ((op_store S).2.1)]) rfl ?_
  refine lv_istore (lv' := [(6, .int ((op_store S).2.1)), (5, .int (nI (op_store S).1)), (0, .ref b), (1, .ref (q 0)), (2, .ref (r 0)), (3, .ref qo), (4, .int (nI (6 * t)))]) hx hb d_L_law_159 hl (by decide) rfl (fun ls hl => ?_)
  refine lv_aload_n hx hb d_L_law_161 rfl (lv_at hl 4 rfl) ?_
  refine pu_go (va_runV (As := []) (rest := []) ⟨hx, hb, hml, hown, hts⟩ (c_M_thrown l dC dI cI cZ r (op_store S).2.2 (nI (op_store S).1) (t + 1) hV9.1.1) (cwV 0 hts (gi_V wd_668 wd_669 wd_670 wd_5 wd_671) rfl rfl rfl (by decide +kernel) ⟨Nat.le_of_ble_eq_true rfl, Nat.le_of_ble_eq_true rfl⟩) (pu_preV hKM (P_l hP) (ci := 3) (q0 := 0) rfl rfl) rfl rfl hl.1 rfl (lv_room (Nat.le_of_ble_eq_true rfl)) d_L_law_162 ⟨show _ ≤ 601024 by omega, show _ ≤ 7293034 by omega⟩) ?_
  refine lv_iload hx hb d_L_law_165 (lv_at hl 1 rfl) ?_
  refine lv_icmp_eq (tgt := 172) hx hb d_L_law_167 (by decide) (fun c167 => ?_) (fun c167 => ?_)
  · refine lv_iload hx hb d_L_law_172 (lv_at hl 1 rfl) ?_
    refine lv_if_ne (tgt := 189) hx hb d_L_law_174 (by decide) (fun c174 => ?_) (fun c174 => ?_)
    · refine lv_goto (tgt := 1768) hx hb d_L_law_189 (by decide) ?_
      refine W.widen (k := cells + 8) (n := slots + 48) (by omega) (by omega) ?_
      exact k _ _ _ _ _ _ ⟨hV9, P_swap hP, D_swap hD, hS, lv_sub hl [2, 3, 4, 5, 6] rfl⟩
    · have h0 : (op_store S).1 = 0 := z_of lt_store c174
      refine lv_aload_n hx hb d_L_law_177 rfl (lv_at hl 5 rfl) ?_
      refine lv_iconst (v := nI 0) hx hb d_L_law_178 (by decide) ?_
      refine lw_out (o := (op_store S)) (f := f) hx hb (hK.sub (tys' := [(cJ, .long)]) [2] rfl) (P_r (P_r hP)) h0 d_L_law_179 ?_
      refine lv_iload hx hb d_L_law_180 (lv_at hl 0 rfl) ?_
      refine lv_i2l (v := ((op_store S).2.1).toInt64) hx hb d_L_law_182 rfl ?_
      refine lw_cmp hx hb (rfl) d_L_law_183 ?_
      refine lv_if_eq (tgt := 189) hx hb d_L_law_184 (by decide) (fun c184 => ?_) (fun c184 => ?_)
      · refine lv_goto (tgt := 1768) hx hb d_L_law_189 (by decide) ?_
        refine W.widen (k := cells + 8) (n := slots + 48) (by omega) (by omega) ?_
        exact k _ _ _ _ _ _ ⟨hV9, P_swap hP, D_swap hD, hS, lv_sub hl [2, 3, 4, 5, 6] rfl⟩
      · exact absurd rfl c184
  · exact absurd rfl c167
set_option maxHeartbeats 4000000 in
set_option maxRecDepth 100000 in
theorem k_lot {p : Program} {l : Launch} {e : Env} {s : State} {m : MethodId} {below : List Frame} {meth : Method} {c : Code} {b L : Nat} {xs : Nat → Int32} {dC : Nat → ClassId} {dI : Nat → Nat → Nat} {cI cZ cJ : ClassId} (C0 : lC p l s m meth c b L xs dC dI cI cZ cJ) {q r : Nat → Nat} {qo t : Nat} {S : St} {th : Int32} {f : Nat → Int64} {H : Heap} {locs : List Loc} {ls : Array Slot} {cells slots : Nat} (ht : t + 1 ≤ 512) (hj : 6 * t + 6 ≤ L) (hcs : cells + 8 ≤ 601024 ∧ slots + 48 ≤ 7293034)
    (G : lG s dC dI cI cZ cJ b q r qo t t S th f H locs ls) (k : lK p l e s m below meth c dC dI cI cZ cJ b q r qo t (cells + 8) (slots + 48)) : W p l e room_1 s m #[Value.ref b] below meth c H locs cells slots (lw_Z below #[Value.ref b] s) (F0 m 192 ls []) := by
  obtain ⟨⟨hx, hb, hr, hml, hown, hts0, hX, hbl, hlocks, hgv⟩, hst, hK, hG0, hN, hL⟩ := C0
  have hts := bg_of hts0
  have hown : s.vm.findClass R_L = some m.cls := hown
  obtain ⟨hV0, hP, hD, hS, hl⟩ := G
  obtain ⟨hV, hou, hwa⟩ := Iv_up hV0 ht
  have hA : ∀ q : Nat, s.heap.size ≤ q → lA s q := fun _ h => h
  have hG : gG (lA s) s H := gG_H hG0 hS.2.1
  have hI := hV.1.1
  have hKM := hK.sub (tys' := [(cI, .int), (cZ, .boolean)]) [0, 1] rfl
  refine lv_aload_n hx hb d_L_law_192 rfl (lv_at hl 1 rfl) ?_
  refine lv_aload_n hx hb d_L_law_193 rfl (lv_at hl 0 rfl) ?_
  refine lv_iload hx hb d_L_law_194 (lv_at hl 4 rfl) ?_
  refine lv_iconst (v := nI 1) hx hb d_L_law_196 (by decide) ?_
  refine nv_add hx hb d_L_law_197 ?_
  refine nv_sld hx hb hX hbl hS (by omega) hL d_L_law_198 ?_
  refine lv_aload_n hx hb d_L_law_199 rfl (lv_at hl 0 rfl) ?_
  refine lv_iload hx hb d_L_law_200 (lv_at hl 4 rfl) ?_
  refine lv_iconst (v := nI 2) hx hb d_L_law_202 (by decide) ?_
  refine nv_add hx hb d_L_law_203 ?_
  refine nv_sld hx hb hX hbl hS (by omega) hL d_L_law_204 ?_
  refine lv_aload_n hx hb d_L_law_205 rfl (lv_at hl 3 rfl) ?_
  refine lw_go (vx_runSW (As := [.ref (q 0), .int (xs ((6 * t) + 1)), .int (xs ((6 * t) + 2)), .ref qo]) (rest := []) ⟨hx, hb, hml, hown, hts⟩ (c_L_lot l hst dC dI (lA s) H.size cI q cJ qo f S (t + 1) hI (xs (6 * t + 1)) (xs (6 * t + 2)) ) (vx_cwSW 4 hts (gi_SW wd_225 wd_226 wd_0 wd_227) rfl rfl rfl (by decide +kernel) ⟨Nat.le_of_ble_eq_true rfl, Nat.le_of_ble_eq_true rfl⟩) (wl_preS (hK.sub (tys' := [(cI, .int), (cJ, .long)]) [0, 2] rfl) (P_l hP) (D_l hD) hG hN) rfl rfl hl.1 rfl (lv_room (Nat.le_of_ble_eq_true rfl)) d_L_law_206 ⟨show _ ≤ 601024 by omega, show _ ≤ 7293034 by omega⟩) hP hD hS hA xo_adr (fun H locs nP nD nS => ?_)
  replace hP := P_swap nP
  replace hD := D_swap nD
  replace hS := nS
  clear nP nD nS hG
  refine W.eq (g2 := F0 m 209 ls [.int (nI (op_lot S (xs (6 * t + 1)) (xs (6 * t + 2))).1)]) rfl ?_
  refine lv_istore (lv' := [(5, .int (nI (op_lot S (xs (6 * t + 1)) (xs (6 * t + 2))).1)), (0, .ref b), (1, .ref (q 0)), (2, .ref (r 0)), (3, .ref qo), (4, .int (nI (6 * t)))]) hx hb d_L_law_209 hl (by decide) rfl (fun ls hl => ?_)
  refine lv_aload_n hx hb d_L_law_211 rfl (lv_at hl 3 rfl) ?_
  refine lv_aload_n hx hb d_L_law_212 rfl (lv_at hl 1 rfl) ?_
  refine lv_iload hx hb d_L_law_213 (lv_at hl 5 rfl) ?_
  refine lv_iconst (v := nI 1) hx hb d_L_law_215 (by decide) ?_
  refine nv_add hx hb d_L_law_216 ?_
  refine nv_sld hx hb hX hbl hS (by omega) hL d_L_law_217 ?_
  refine lv_aload_n hx hb d_L_law_218 rfl (lv_at hl 1 rfl) ?_
  refine lv_iload hx hb d_L_law_219 (lv_at hl 5 rfl) ?_
  refine lv_iconst (v := nI 2) hx hb d_L_law_221 (by decide) ?_
  refine nv_add hx hb d_L_law_222 ?_
  refine nv_sld hx hb hX hbl hS (by omega) hL d_L_law_223 ?_
  refine lw_go (va_runV (As := [.int (xs ((6 * t) + 1)), .int (xs ((6 * t) + 2))]) (rest := []) ⟨hx, hb, hml, hown, hts⟩ (c_M_lot l dC dI H.size cI cZ r S th (t + 1) hI (xs (6 * t + 1)) (xs (6 * t + 2)) hV.1 ) (cwV 2 hts (gi_V wd_680 wd_681 wd_682 wd_5 wd_683) rfl rfl rfl (by decide +kernel) ⟨Nat.le_of_ble_eq_true rfl, Nat.le_of_ble_eq_true rfl⟩) (wr_preV hKM (P_l hP) (D_l hD) (ci := 3) (q0 := 0) rfl rfl) rfl rfl hl.1 rfl (lv_room (Nat.le_of_ble_eq_true rfl)) d_L_law_224 ⟨show _ ≤ 601024 by omega, show _ ≤ 7293034 by omega⟩) hP hD hS hA wM_adr (fun H locs nP nD nS => ?_)
  replace hP := nP
  replace hD := nD
  replace hS := nS
  clear nP nD nS
  have hV9 : Iv (t + 1) (op_lot S (xs (6 * t + 1)) (xs (6 * t + 2))).2.2 := Iv_lot_ hV 
  refine W.eq (g2 := F0 m 227 ls [.int ((op_lot S (xs (6 * t + 1)) (xs (6 * t + 2))).2.1)]) rfl ?_
  refine lv_istore (lv' := [(6, .int ((op_lot S (xs (6 * t + 1)) (xs (6 * t + 2))).2.1)), (5, .int (nI (op_lot S (xs (6 * t + 1)) (xs (6 * t + 2))).1)), (0, .ref b), (1, .ref (q 0)), (2, .ref (r 0)), (3, .ref qo), (4, .int (nI (6 * t)))]) hx hb d_L_law_227 hl (by decide) rfl (fun ls hl => ?_)
  refine lv_aload_n hx hb d_L_law_229 rfl (lv_at hl 4 rfl) ?_
  refine pu_go (va_runV (As := []) (rest := []) ⟨hx, hb, hml, hown, hts⟩ (c_M_thrown l dC dI cI cZ r (op_lot S (xs (6 * t + 1)) (xs (6 * t + 2))).2.2 (nI (op_lot S (xs (6 * t + 1)) (xs (6 * t + 2))).1) (t + 1) hV9.1.1) (cwV 0 hts (gi_V wd_668 wd_669 wd_670 wd_5 wd_671) rfl rfl rfl (by decide +kernel) ⟨Nat.le_of_ble_eq_true rfl, Nat.le_of_ble_eq_true rfl⟩) (pu_preV hKM (P_l hP) (ci := 3) (q0 := 0) rfl rfl) rfl rfl hl.1 rfl (lv_room (Nat.le_of_ble_eq_true rfl)) d_L_law_230 ⟨show _ ≤ 601024 by omega, show _ ≤ 7293034 by omega⟩) ?_
  refine lv_iload hx hb d_L_law_233 (lv_at hl 1 rfl) ?_
  refine lv_icmp_eq (tgt := 240) hx hb d_L_law_235 (by decide) (fun c235 => ?_) (fun c235 => ?_)
  · refine lv_iload hx hb d_L_law_240 (lv_at hl 1 rfl) ?_
    refine lv_if_ne (tgt := 257) hx hb d_L_law_242 (by decide) (fun c242 => ?_) (fun c242 => ?_)
    · refine lv_goto (tgt := 1768) hx hb d_L_law_257 (by decide) ?_
      refine W.widen (k := cells + 8) (n := slots + 48) (by omega) (by omega) ?_
      exact k _ _ _ _ _ _ ⟨hV9, P_swap hP, D_swap hD, hS, lv_sub hl [2, 3, 4, 5, 6] rfl⟩
    · have h0 : (op_lot S (xs (6 * t + 1)) (xs (6 * t + 2))).1 = 0 := z_of lt_lot c242
      refine lv_aload_n hx hb d_L_law_245 rfl (lv_at hl 5 rfl) ?_
      refine lv_iconst (v := nI 0) hx hb d_L_law_246 (by decide) ?_
      refine lw_out (o := (op_lot S (xs (6 * t + 1)) (xs (6 * t + 2)))) (f := f) hx hb (hK.sub (tys' := [(cJ, .long)]) [2] rfl) (P_r (P_r hP)) h0 d_L_law_247 ?_
      refine lv_iload hx hb d_L_law_248 (lv_at hl 0 rfl) ?_
      refine lv_i2l (v := ((op_lot S (xs (6 * t + 1)) (xs (6 * t + 2))).2.1).toInt64) hx hb d_L_law_250 rfl ?_
      refine lw_cmp hx hb (rfl) d_L_law_251 ?_
      refine lv_if_eq (tgt := 257) hx hb d_L_law_252 (by decide) (fun c252 => ?_) (fun c252 => ?_)
      · refine lv_goto (tgt := 1768) hx hb d_L_law_257 (by decide) ?_
        refine W.widen (k := cells + 8) (n := slots + 48) (by omega) (by omega) ?_
        exact k _ _ _ _ _ _ ⟨hV9, P_swap hP, D_swap hD, hS, lv_sub hl [2, 3, 4, 5, 6] rfl⟩
      · exact absurd rfl c252
  · exact absurd rfl c235
set_option maxHeartbeats 4000000 in
set_option maxRecDepth 100000 in
theorem k_bring {p : Program} {l : Launch} {e : Env} {s : State} {m : MethodId} {below : List Frame} {meth : Method} {c : Code} {b L : Nat} {xs : Nat → Int32} {dC : Nat → ClassId} {dI : Nat → Nat → Nat} {cI cZ cJ : ClassId} (C0 : lC p l s m meth c b L xs dC dI cI cZ cJ) {q r : Nat → Nat} {qo t : Nat} {S : St} {th : Int32} {f : Nat → Int64} {H : Heap} {locs : List Loc} {ls : Array Slot} {cells slots : Nat} (ht : t + 1 ≤ 512) (hj : 6 * t + 6 ≤ L) (hcs : cells + 8 ≤ 601024 ∧ slots + 48 ≤ 7293034)
    (G : lG s dC dI cI cZ cJ b q r qo t t S th f H locs ls) (k : lK p l e s m below meth c dC dI cI cZ cJ b q r qo t (cells + 8) (slots + 48)) : W p l e room_1 s m #[Value.ref b] below meth c H locs cells slots (lw_Z below #[Value.ref b] s) (F0 m 260 ls []) := by
  obtain ⟨⟨hx, hb, hr, hml, hown, hts0, hX, hbl, hlocks, hgv⟩, hst, hK, hG0, hN, hL⟩ := C0
  have hts := bg_of hts0
  have hown : s.vm.findClass R_L = some m.cls := hown
  obtain ⟨hV0, hP, hD, hS, hl⟩ := G
  obtain ⟨hV, hou, hwa⟩ := Iv_up hV0 ht
  have hA : ∀ q : Nat, s.heap.size ≤ q → lA s q := fun _ h => h
  have hG : gG (lA s) s H := gG_H hG0 hS.2.1
  have hI := hV.1.1
  have hKM := hK.sub (tys' := [(cI, .int), (cZ, .boolean)]) [0, 1] rfl
  refine lv_aload_n hx hb d_L_law_260 rfl (lv_at hl 1 rfl) ?_
  refine lv_aload_n hx hb d_L_law_261 rfl (lv_at hl 0 rfl) ?_
  refine lv_iload hx hb d_L_law_262 (lv_at hl 4 rfl) ?_
  refine lv_iconst (v := nI 1) hx hb d_L_law_264 (by decide) ?_
  refine nv_add hx hb d_L_law_265 ?_
  refine nv_sld hx hb hX hbl hS (by omega) hL d_L_law_266 ?_
  refine lv_aload_n hx hb d_L_law_267 rfl (lv_at hl 0 rfl) ?_
  refine lv_iload hx hb d_L_law_268 (lv_at hl 4 rfl) ?_
  refine lv_iconst (v := nI 2) hx hb d_L_law_270 (by decide) ?_
  refine nv_add hx hb d_L_law_271 ?_
  refine nv_sld hx hb hX hbl hS (by omega) hL d_L_law_272 ?_
  refine lv_aload_n hx hb d_L_law_273 rfl (lv_at hl 0 rfl) ?_
  refine lv_iload hx hb d_L_law_274 (lv_at hl 4 rfl) ?_
  refine lv_iconst (v := nI 3) hx hb d_L_law_276 (by decide) ?_
  refine nv_add hx hb d_L_law_277 ?_
  refine nv_sld hx hb hX hbl hS (by omega) hL d_L_law_278 ?_
  refine lv_aload_n hx hb d_L_law_279 rfl (lv_at hl 3 rfl) ?_
  refine lw_go (vx_runSW (As := [.ref (q 0), .int (xs ((6 * t) + 1)), .int (xs ((6 * t) + 2)), .int (xs ((6 * t) + 3)), .ref qo]) (rest := []) ⟨hx, hb, hml, hown, hts⟩ (c_L_bring l hst dC dI (lA s) H.size cI q cJ qo f S (t + 1) hI (xs (6 * t + 1)) (xs (6 * t + 2)) (xs (6 * t + 3)) ) (vx_cwSW 5 hts (gi_SW wd_276 wd_277 wd_0 wd_278) rfl rfl rfl (by decide +kernel) ⟨Nat.le_of_ble_eq_true rfl, Nat.le_of_ble_eq_true rfl⟩) (wl_preS (hK.sub (tys' := [(cI, .int), (cJ, .long)]) [0, 2] rfl) (P_l hP) (D_l hD) hG hN) rfl rfl hl.1 rfl (lv_room (Nat.le_of_ble_eq_true rfl)) d_L_law_280 ⟨show _ ≤ 601024 by omega, show _ ≤ 7293034 by omega⟩) hP hD hS hA xo_adr (fun H locs nP nD nS => ?_)
  replace hP := P_swap nP
  replace hD := D_swap nD
  replace hS := nS
  clear nP nD nS hG
  refine W.eq (g2 := F0 m 283 ls [.int (nI (op_bring S (xs (6 * t + 1)) (xs (6 * t + 2)) (xs (6 * t + 3))).1)]) rfl ?_
  refine lv_istore (lv' := [(5, .int (nI (op_bring S (xs (6 * t + 1)) (xs (6 * t + 2)) (xs (6 * t + 3))).1)), (0, .ref b), (1, .ref (q 0)), (2, .ref (r 0)), (3, .ref qo), (4, .int (nI (6 * t)))]) hx hb d_L_law_283 hl (by decide) rfl (fun ls hl => ?_)
  refine lv_aload_n hx hb d_L_law_285 rfl (lv_at hl 3 rfl) ?_
  refine lv_aload_n hx hb d_L_law_286 rfl (lv_at hl 1 rfl) ?_
  refine lv_iload hx hb d_L_law_287 (lv_at hl 5 rfl) ?_
  refine lv_iconst (v := nI 1) hx hb d_L_law_289 (by decide) ?_
  refine nv_add hx hb d_L_law_290 ?_
  refine nv_sld hx hb hX hbl hS (by omega) hL d_L_law_291 ?_
  refine lv_aload_n hx hb d_L_law_292 rfl (lv_at hl 1 rfl) ?_
  refine lv_iload hx hb d_L_law_293 (lv_at hl 5 rfl) ?_
  refine lv_iconst (v := nI 2) hx hb d_L_law_295 (by decide) ?_
  refine nv_add hx hb d_L_law_296 ?_
  refine nv_sld hx hb hX hbl hS (by omega) hL d_L_law_297 ?_
  refine lv_aload_n hx hb d_L_law_298 rfl (lv_at hl 1 rfl) ?_
  refine lv_iload hx hb d_L_law_299 (lv_at hl 5 rfl) ?_
  refine lv_iconst (v := nI 3) hx hb d_L_law_301 (by decide) ?_
  refine nv_add hx hb d_L_law_302 ?_
  refine nv_sld hx hb hX hbl hS (by omega) hL d_L_law_303 ?_
  refine lw_go (va_runV (As := [.int (xs ((6 * t) + 1)), .int (xs ((6 * t) + 2)), .int (xs ((6 * t) + 3))]) (rest := []) ⟨hx, hb, hml, hown, hts⟩ (c_M_bring l dC dI H.size cI cZ r S th (t + 1) hI (xs (6 * t + 1)) (xs (6 * t + 2)) (xs (6 * t + 3)) hV.1 ) (cwV 3 hts (gi_V wd_690 wd_691 wd_692 wd_5 wd_693) rfl rfl rfl (by decide +kernel) ⟨Nat.le_of_ble_eq_true rfl, Nat.le_of_ble_eq_true rfl⟩) (wr_preV hKM (P_l hP) (D_l hD) (ci := 3) (q0 := 0) rfl rfl) rfl rfl hl.1 rfl (lv_room (Nat.le_of_ble_eq_true rfl)) d_L_law_304 ⟨show _ ≤ 601024 by omega, show _ ≤ 7293034 by omega⟩) hP hD hS hA wM_adr (fun H locs nP nD nS => ?_)
  replace hP := nP
  replace hD := nD
  replace hS := nS
  clear nP nD nS
  have hV9 : Iv (t + 1) (op_bring S (xs (6 * t + 1)) (xs (6 * t + 2)) (xs (6 * t + 3))).2.2 := Iv_bring hV 
  refine W.eq (g2 := F0 m 307 ls [.int ((op_bring S (xs (6 * t + 1)) (xs (6 * t + 2)) (xs (6 * t + 3))).2.1)]) rfl ?_
  refine lv_istore (lv' := [(6, .int ((op_bring S (xs (6 * t + 1)) (xs (6 * t + 2)) (xs (6 * t + 3))).2.1)), (5, .int (nI (op_bring S (xs (6 * t + 1)) (xs (6 * t + 2)) (xs (6 * t + 3))).1)), (0, .ref b), (1, .ref (q 0)), (2, .ref (r 0)), (3, .ref qo), (4, .int (nI (6 * t)))]) hx hb d_L_law_307 hl (by decide) rfl (fun ls hl => ?_)
  refine lv_aload_n hx hb d_L_law_309 rfl (lv_at hl 4 rfl) ?_
  refine pu_go (va_runV (As := []) (rest := []) ⟨hx, hb, hml, hown, hts⟩ (c_M_thrown l dC dI cI cZ r (op_bring S (xs (6 * t + 1)) (xs (6 * t + 2)) (xs (6 * t + 3))).2.2 (nI (op_bring S (xs (6 * t + 1)) (xs (6 * t + 2)) (xs (6 * t + 3))).1) (t + 1) hV9.1.1) (cwV 0 hts (gi_V wd_668 wd_669 wd_670 wd_5 wd_671) rfl rfl rfl (by decide +kernel) ⟨Nat.le_of_ble_eq_true rfl, Nat.le_of_ble_eq_true rfl⟩) (pu_preV hKM (P_l hP) (ci := 3) (q0 := 0) rfl rfl) rfl rfl hl.1 rfl (lv_room (Nat.le_of_ble_eq_true rfl)) d_L_law_310 ⟨show _ ≤ 601024 by omega, show _ ≤ 7293034 by omega⟩) ?_
  refine lv_iload hx hb d_L_law_313 (lv_at hl 1 rfl) ?_
  refine lv_icmp_eq (tgt := 320) hx hb d_L_law_315 (by decide) (fun c315 => ?_) (fun c315 => ?_)
  · refine lv_iload hx hb d_L_law_320 (lv_at hl 1 rfl) ?_
    refine lv_if_ne (tgt := 337) hx hb d_L_law_322 (by decide) (fun c322 => ?_) (fun c322 => ?_)
    · refine lv_goto (tgt := 1768) hx hb d_L_law_337 (by decide) ?_
      refine W.widen (k := cells + 8) (n := slots + 48) (by omega) (by omega) ?_
      exact k _ _ _ _ _ _ ⟨hV9, P_swap hP, D_swap hD, hS, lv_sub hl [2, 3, 4, 5, 6] rfl⟩
    · have h0 : (op_bring S (xs (6 * t + 1)) (xs (6 * t + 2)) (xs (6 * t + 3))).1 = 0 := z_of lt_bring c322
      refine lv_aload_n hx hb d_L_law_325 rfl (lv_at hl 5 rfl) ?_
      refine lv_iconst (v := nI 0) hx hb d_L_law_326 (by decide) ?_
      refine lw_out (o := (op_bring S (xs (6 * t + 1)) (xs (6 * t + 2)) (xs (6 * t + 3)))) (f := f) hx hb (hK.sub (tys' := [(cJ, .long)]) [2] rfl) (P_r (P_r hP)) h0 d_L_law_327 ?_
      refine lv_iload hx hb d_L_law_328 (lv_at hl 0 rfl) ?_
      refine lv_i2l (v := ((op_bring S (xs (6 * t + 1)) (xs (6 * t + 2)) (xs (6 * t + 3))).2.1).toInt64) hx hb d_L_law_330 rfl ?_
      refine lw_cmp hx hb (rfl) d_L_law_331 ?_
      refine lv_if_eq (tgt := 337) hx hb d_L_law_332 (by decide) (fun c332 => ?_) (fun c332 => ?_)
      · refine lv_goto (tgt := 1768) hx hb d_L_law_337 (by decide) ?_
        refine W.widen (k := cells + 8) (n := slots + 48) (by omega) (by omega) ?_
        exact k _ _ _ _ _ _ ⟨hV9, P_swap hP, D_swap hD, hS, lv_sub hl [2, 3, 4, 5, 6] rfl⟩
      · exact absurd rfl c332
  · exact absurd rfl c315
set_option maxHeartbeats 4000000 in
set_option maxRecDepth 100000 in
theorem k_move {p : Program} {l : Launch} {e : Env} {s : State} {m : MethodId} {below : List Frame} {meth : Method} {c : Code} {b L : Nat} {xs : Nat → Int32} {dC : Nat → ClassId} {dI : Nat → Nat → Nat} {cI cZ cJ : ClassId} (C0 : lC p l s m meth c b L xs dC dI cI cZ cJ) {q r : Nat → Nat} {qo t : Nat} {S : St} {th : Int32} {f : Nat → Int64} {H : Heap} {locs : List Loc} {ls : Array Slot} {cells slots : Nat} (ht : t + 1 ≤ 512) (hj : 6 * t + 6 ≤ L) (hcs : cells + 8 ≤ 601024 ∧ slots + 48 ≤ 7293034)
    (G : lG s dC dI cI cZ cJ b q r qo t t S th f H locs ls) (k : lK p l e s m below meth c dC dI cI cZ cJ b q r qo t (cells + 8) (slots + 48)) : W p l e room_1 s m #[Value.ref b] below meth c H locs cells slots (lw_Z below #[Value.ref b] s) (F0 m 340 ls []) := by
  obtain ⟨⟨hx, hb, hr, hml, hown, hts0, hX, hbl, hlocks, hgv⟩, hst, hK, hG0, hN, hL⟩ := C0
  have hts := bg_of hts0
  have hown : s.vm.findClass R_L = some m.cls := hown
  obtain ⟨hV0, hP, hD, hS, hl⟩ := G
  obtain ⟨hV, hou, hwa⟩ := Iv_up hV0 ht
  have hA : ∀ q : Nat, s.heap.size ≤ q → lA s q := fun _ h => h
  have hG : gG (lA s) s H := gG_H hG0 hS.2.1
  have hI := hV.1.1
  have hKM := hK.sub (tys' := [(cI, .int), (cZ, .boolean)]) [0, 1] rfl
  refine lv_aload_n hx hb d_L_law_340 rfl (lv_at hl 1 rfl) ?_
  refine lv_aload_n hx hb d_L_law_341 rfl (lv_at hl 0 rfl) ?_
  refine lv_iload hx hb d_L_law_342 (lv_at hl 4 rfl) ?_
  refine lv_iconst (v := nI 1) hx hb d_L_law_344 (by decide) ?_
  refine nv_add hx hb d_L_law_345 ?_
  refine nv_sld hx hb hX hbl hS (by omega) hL d_L_law_346 ?_
  refine lv_aload_n hx hb d_L_law_347 rfl (lv_at hl 0 rfl) ?_
  refine lv_iload hx hb d_L_law_348 (lv_at hl 4 rfl) ?_
  refine lv_iconst (v := nI 2) hx hb d_L_law_350 (by decide) ?_
  refine nv_add hx hb d_L_law_351 ?_
  refine nv_sld hx hb hX hbl hS (by omega) hL d_L_law_352 ?_
  refine lv_aload_n hx hb d_L_law_353 rfl (lv_at hl 0 rfl) ?_
  refine lv_iload hx hb d_L_law_354 (lv_at hl 4 rfl) ?_
  refine lv_iconst (v := nI 3) hx hb d_L_law_356 (by decide) ?_
  refine nv_add hx hb d_L_law_357 ?_
  refine nv_sld hx hb hX hbl hS (by omega) hL d_L_law_358 ?_
  refine lv_aload_n hx hb d_L_law_359 rfl (lv_at hl 0 rfl) ?_
  refine lv_iload hx hb d_L_law_360 (lv_at hl 4 rfl) ?_
  refine lv_iconst (v := nI 4) hx hb d_L_law_362 (by decide) ?_
  refine nv_add hx hb d_L_law_363 ?_
  refine nv_sld hx hb hX hbl hS (by omega) hL d_L_law_364 ?_
  refine lv_aload_n hx hb d_L_law_365 rfl (lv_at hl 0 rfl) ?_
  refine lv_iload hx hb d_L_law_366 (lv_at hl 4 rfl) ?_
  refine lv_iconst (v := nI 5) hx hb d_L_law_368 (by decide) ?_
  refine nv_add hx hb d_L_law_369 ?_
  refine nv_sld hx hb hX hbl hS (by omega) hL d_L_law_370 ?_
  refine lv_aload_n hx hb d_L_law_371 rfl (lv_at hl 3 rfl) ?_
  refine lw_go (vx_runSW (As := [.ref (q 0), .int (xs ((6 * t) + 1)), .int (xs ((6 * t) + 2)), .int (xs ((6 * t) + 3)), .int (xs ((6 * t) + 4)), .int (xs ((6 * t) + 5)), .ref qo]) (rest := []) ⟨hx, hb, hml, hown, hts⟩ (c_L_move l hst dC dI (lA s) H.size cI q cJ qo f S (t + 1) hI (xs (6 * t + 1)) (xs (6 * t + 2)) (xs (6 * t + 3)) (xs (6 * t + 4)) (xs (6 * t + 5)) ) (vx_cwSW 7 hts (gi_SW wd_309 wd_310 wd_0 wd_311) rfl rfl rfl (by decide +kernel) ⟨Nat.le_of_ble_eq_true rfl, Nat.le_of_ble_eq_true rfl⟩) (wl_preS (hK.sub (tys' := [(cI, .int), (cJ, .long)]) [0, 2] rfl) (P_l hP) (D_l hD) hG hN) rfl rfl hl.1 rfl (lv_room (Nat.le_of_ble_eq_true rfl)) d_L_law_372 ⟨show _ ≤ 601024 by omega, show _ ≤ 7293034 by omega⟩) hP hD hS hA xo_adr (fun H locs nP nD nS => ?_)
  replace hP := P_swap nP
  replace hD := D_swap nD
  replace hS := nS
  clear nP nD nS hG
  refine W.eq (g2 := F0 m 375 ls [.int (nI (op_move S (xs (6 * t + 1)) (xs (6 * t + 2)) (xs (6 * t + 3)) (xs (6 * t + 4)) (xs (6 * t + 5))).1)]) rfl ?_
  refine lv_istore (lv' := [(5, .int (nI (op_move S (xs (6 * t + 1)) (xs (6 * t + 2)) (xs (6 * t + 3)) (xs (6 * t + 4)) (xs (6 * t + 5))).1)), (0, .ref b), (1, .ref (q 0)), (2, .ref (r 0)), (3, .ref qo), (4, .int (nI (6 * t)))]) hx hb d_L_law_375 hl (by decide) rfl (fun ls hl => ?_)
  refine lv_aload_n hx hb d_L_law_377 rfl (lv_at hl 3 rfl) ?_
  refine lv_aload_n hx hb d_L_law_378 rfl (lv_at hl 1 rfl) ?_
  refine lv_iload hx hb d_L_law_379 (lv_at hl 5 rfl) ?_
  refine lv_iconst (v := nI 1) hx hb d_L_law_381 (by decide) ?_
  refine nv_add hx hb d_L_law_382 ?_
  refine nv_sld hx hb hX hbl hS (by omega) hL d_L_law_383 ?_
  refine lv_aload_n hx hb d_L_law_384 rfl (lv_at hl 1 rfl) ?_
  refine lv_iload hx hb d_L_law_385 (lv_at hl 5 rfl) ?_
  refine lv_iconst (v := nI 2) hx hb d_L_law_387 (by decide) ?_
  refine nv_add hx hb d_L_law_388 ?_
  refine nv_sld hx hb hX hbl hS (by omega) hL d_L_law_389 ?_
  refine lv_aload_n hx hb d_L_law_390 rfl (lv_at hl 1 rfl) ?_
  refine lv_iload hx hb d_L_law_391 (lv_at hl 5 rfl) ?_
  refine lv_iconst (v := nI 3) hx hb d_L_law_393 (by decide) ?_
  refine nv_add hx hb d_L_law_394 ?_
  refine nv_sld hx hb hX hbl hS (by omega) hL d_L_law_395 ?_
  refine lv_aload_n hx hb d_L_law_396 rfl (lv_at hl 1 rfl) ?_
  refine lv_iload hx hb d_L_law_397 (lv_at hl 5 rfl) ?_
  refine lv_iconst (v := nI 4) hx hb d_L_law_399 (by decide) ?_
  refine nv_add hx hb d_L_law_400 ?_
  refine nv_sld hx hb hX hbl hS (by omega) hL d_L_law_401 ?_
  refine lv_aload_n hx hb d_L_law_402 rfl (lv_at hl 1 rfl) ?_
  refine lv_iload hx hb d_L_law_403 (lv_at hl 5 rfl) ?_
  refine lv_iconst (v := nI 5) hx hb d_L_law_405 (by decide) ?_
  refine nv_add hx hb d_L_law_406 ?_
  refine nv_sld hx hb hX hbl hS (by omega) hL d_L_law_407 ?_
  refine lw_go (va_runV (As := [.int (xs ((6 * t) + 1)), .int (xs ((6 * t) + 2)), .int (xs ((6 * t) + 3)), .int (xs ((6 * t) + 4)), .int (xs ((6 * t) + 5))]) (rest := []) ⟨hx, hb, hml, hown, hts⟩ (c_M_move l dC dI H.size cI cZ r S th (t + 1) hI (xs (6 * t + 1)) (xs (6 * t + 2)) (xs (6 * t + 3)) (xs (6 * t + 4)) (xs (6 * t + 5)) hV.1 ) (cwV 5 hts (gi_V wd_709 wd_710 wd_711 wd_5 wd_712) rfl rfl rfl (by decide +kernel) ⟨Nat.le_of_ble_eq_true rfl, Nat.le_of_ble_eq_true rfl⟩) (wr_preV hKM (P_l hP) (D_l hD) (ci := 3) (q0 := 0) rfl rfl) rfl rfl hl.1 rfl (lv_room (Nat.le_of_ble_eq_true rfl)) d_L_law_408 ⟨show _ ≤ 601024 by omega, show _ ≤ 7293034 by omega⟩) hP hD hS hA wM_adr (fun H locs nP nD nS => ?_)
  replace hP := nP
  replace hD := nD
  replace hS := nS
  clear nP nD nS
  have hV9 : Iv (t + 1) (op_move S (xs (6 * t + 1)) (xs (6 * t + 2)) (xs (6 * t + 3)) (xs (6 * t + 4)) (xs (6 * t + 5))).2.2 := Iv_move hV 
  refine W.eq (g2 := F0 m 411 ls [.int ((op_move S (xs (6 * t + 1)) (xs (6 * t + 2)) (xs (6 * t + 3)) (xs (6 * t + 4)) (xs (6 * t + 5))).2.1)]) rfl ?_
  refine lv_istore (lv' := [(6, .int ((op_move S (xs (6 * t + 1)) (xs (6 * t + 2)) (xs (6 * t + 3)) (xs (6 * t + 4)) (xs (6 * t + 5))).2.1)), (5, .int (nI (op_move S (xs (6 * t + 1)) (xs (6 * t + 2)) (xs (6 * t + 3)) (xs (6 * t + 4)) (xs (6 * t + 5))).1)), (0, .ref b), (1, .ref (q 0)), (2, .ref (r 0)), (3, .ref qo), (4, .int (nI (6 * t)))]) hx hb d_L_law_411 hl (by decide) rfl (fun ls hl => ?_)
  refine lv_aload_n hx hb d_L_law_413 rfl (lv_at hl 4 rfl) ?_
  refine pu_go (va_runV (As := []) (rest := []) ⟨hx, hb, hml, hown, hts⟩ (c_M_thrown l dC dI cI cZ r (op_move S (xs (6 * t + 1)) (xs (6 * t + 2)) (xs (6 * t + 3)) (xs (6 * t + 4)) (xs (6 * t + 5))).2.2 (nI (op_move S (xs (6 * t + 1)) (xs (6 * t + 2)) (xs (6 * t + 3)) (xs (6 * t + 4)) (xs (6 * t + 5))).1) (t + 1) hV9.1.1) (cwV 0 hts (gi_V wd_668 wd_669 wd_670 wd_5 wd_671) rfl rfl rfl (by decide +kernel) ⟨Nat.le_of_ble_eq_true rfl, Nat.le_of_ble_eq_true rfl⟩) (pu_preV hKM (P_l hP) (ci := 3) (q0 := 0) rfl rfl) rfl rfl hl.1 rfl (lv_room (Nat.le_of_ble_eq_true rfl)) d_L_law_414 ⟨show _ ≤ 601024 by omega, show _ ≤ 7293034 by omega⟩) ?_
  refine lv_iload hx hb d_L_law_417 (lv_at hl 1 rfl) ?_
  refine lv_icmp_eq (tgt := 424) hx hb d_L_law_419 (by decide) (fun c419 => ?_) (fun c419 => ?_)
  · refine lv_iload hx hb d_L_law_424 (lv_at hl 1 rfl) ?_
    refine lv_if_ne (tgt := 441) hx hb d_L_law_426 (by decide) (fun c426 => ?_) (fun c426 => ?_)
    · refine lv_goto (tgt := 1768) hx hb d_L_law_441 (by decide) ?_
      refine W.widen (k := cells + 8) (n := slots + 48) (by omega) (by omega) ?_
      exact k _ _ _ _ _ _ ⟨hV9, P_swap hP, D_swap hD, hS, lv_sub hl [2, 3, 4, 5, 6] rfl⟩
    · have h0 : (op_move S (xs (6 * t + 1)) (xs (6 * t + 2)) (xs (6 * t + 3)) (xs (6 * t + 4)) (xs (6 * t + 5))).1 = 0 := z_of lt_move c426
      refine lv_aload_n hx hb d_L_law_429 rfl (lv_at hl 5 rfl) ?_
      refine lv_iconst (v := nI 0) hx hb d_L_law_430 (by decide) ?_
      refine lw_out (o := (op_move S (xs (6 * t + 1)) (xs (6 * t + 2)) (xs (6 * t + 3)) (xs (6 * t + 4)) (xs (6 * t + 5)))) (f := f) hx hb (hK.sub (tys' := [(cJ, .long)]) [2] rfl) (P_r (P_r hP)) h0 d_L_law_431 ?_
      refine lv_iload hx hb d_L_law_432 (lv_at hl 0 rfl) ?_
      refine lv_i2l (v := ((op_move S (xs (6 * t + 1)) (xs (6 * t + 2)) (xs (6 * t + 3)) (xs (6 * t + 4)) (xs (6 * t + 5))).2.1).toInt64) hx hb d_L_law_434 rfl ?_
      refine lw_cmp hx hb (rfl) d_L_law_435 ?_
      refine lv_if_eq (tgt := 441) hx hb d_L_law_436 (by decide) (fun c436 => ?_) (fun c436 => ?_)
      · refine lv_goto (tgt := 1768) hx hb d_L_law_441 (by decide) ?_
        refine W.widen (k := cells + 8) (n := slots + 48) (by omega) (by omega) ?_
        exact k _ _ _ _ _ _ ⟨hV9, P_swap hP, D_swap hD, hS, lv_sub hl [2, 3, 4, 5, 6] rfl⟩
      · exact absurd rfl c436
  · exact absurd rfl c419
set_option maxHeartbeats 4000000 in
set_option maxRecDepth 100000 in
theorem k_use {p : Program} {l : Launch} {e : Env} {s : State} {m : MethodId} {below : List Frame} {meth : Method} {c : Code} {b L : Nat} {xs : Nat → Int32} {dC : Nat → ClassId} {dI : Nat → Nat → Nat} {cI cZ cJ : ClassId} (C0 : lC p l s m meth c b L xs dC dI cI cZ cJ) {q r : Nat → Nat} {qo t : Nat} {S : St} {th : Int32} {f : Nat → Int64} {H : Heap} {locs : List Loc} {ls : Array Slot} {cells slots : Nat} (ht : t + 1 ≤ 512) (hj : 6 * t + 6 ≤ L) (hcs : cells + 8 ≤ 601024 ∧ slots + 48 ≤ 7293034)
    (G : lG s dC dI cI cZ cJ b q r qo t t S th f H locs ls) (k : lK p l e s m below meth c dC dI cI cZ cJ b q r qo t (cells + 8) (slots + 48)) : W p l e room_1 s m #[Value.ref b] below meth c H locs cells slots (lw_Z below #[Value.ref b] s) (F0 m 444 ls []) := by
  obtain ⟨⟨hx, hb, hr, hml, hown, hts0, hX, hbl, hlocks, hgv⟩, hst, hK, hG0, hN, hL⟩ := C0
  have hts := bg_of hts0
  have hown : s.vm.findClass R_L = some m.cls := hown
  obtain ⟨hV0, hP, hD, hS, hl⟩ := G
  obtain ⟨hV, hou, hwa⟩ := Iv_up hV0 ht
  have hA : ∀ q : Nat, s.heap.size ≤ q → lA s q := fun _ h => h
  have hG : gG (lA s) s H := gG_H hG0 hS.2.1
  have hI := hV.1.1
  have hKM := hK.sub (tys' := [(cI, .int), (cZ, .boolean)]) [0, 1] rfl
  refine lv_aload_n hx hb d_L_law_444 rfl (lv_at hl 1 rfl) ?_
  refine lv_aload_n hx hb d_L_law_445 rfl (lv_at hl 0 rfl) ?_
  refine lv_iload hx hb d_L_law_446 (lv_at hl 4 rfl) ?_
  refine lv_iconst (v := nI 1) hx hb d_L_law_448 (by decide) ?_
  refine nv_add hx hb d_L_law_449 ?_
  refine nv_sld hx hb hX hbl hS (by omega) hL d_L_law_450 ?_
  refine lv_aload_n hx hb d_L_law_451 rfl (lv_at hl 0 rfl) ?_
  refine lv_iload hx hb d_L_law_452 (lv_at hl 4 rfl) ?_
  refine lv_iconst (v := nI 2) hx hb d_L_law_454 (by decide) ?_
  refine nv_add hx hb d_L_law_455 ?_
  refine nv_sld hx hb hX hbl hS (by omega) hL d_L_law_456 ?_
  refine lv_aload_n hx hb d_L_law_457 rfl (lv_at hl 0 rfl) ?_
  refine lv_iload hx hb d_L_law_458 (lv_at hl 4 rfl) ?_
  refine lv_iconst (v := nI 3) hx hb d_L_law_460 (by decide) ?_
  refine nv_add hx hb d_L_law_461 ?_
  refine nv_sld hx hb hX hbl hS (by omega) hL d_L_law_462 ?_
  refine lv_aload_n hx hb d_L_law_463 rfl (lv_at hl 3 rfl) ?_
  refine lw_go (vx_runSW (As := [.ref (q 0), .int (xs ((6 * t) + 1)), .int (xs ((6 * t) + 2)), .int (xs ((6 * t) + 3)), .ref qo]) (rest := []) ⟨hx, hb, hml, hown, hts⟩ (c_L_use l hst dC dI (lA s) H.size cI q cJ qo f S (t + 1) hI (xs (6 * t + 1)) (xs (6 * t + 2)) (xs (6 * t + 3)) hou) (vx_cwSW 5 hts (gi_SW wd_350 wd_351 wd_0 wd_352) rfl rfl rfl (by decide +kernel) ⟨Nat.le_of_ble_eq_true rfl, Nat.le_of_ble_eq_true rfl⟩) (wl_preS (hK.sub (tys' := [(cI, .int), (cJ, .long)]) [0, 2] rfl) (P_l hP) (D_l hD) hG hN) rfl rfl hl.1 rfl (lv_room (Nat.le_of_ble_eq_true rfl)) d_L_law_464 ⟨show _ ≤ 601024 by omega, show _ ≤ 7293034 by omega⟩) hP hD hS hA xo_adr (fun H locs nP nD nS => ?_)
  replace hP := P_swap nP
  replace hD := D_swap nD
  replace hS := nS
  clear nP nD nS hG
  refine W.eq (g2 := F0 m 467 ls [.int (nI (op_use S (xs (6 * t + 1)) (xs (6 * t + 2)) (xs (6 * t + 3))).1)]) rfl ?_
  refine lv_istore (lv' := [(5, .int (nI (op_use S (xs (6 * t + 1)) (xs (6 * t + 2)) (xs (6 * t + 3))).1)), (0, .ref b), (1, .ref (q 0)), (2, .ref (r 0)), (3, .ref qo), (4, .int (nI (6 * t)))]) hx hb d_L_law_467 hl (by decide) rfl (fun ls hl => ?_)
  refine lv_aload_n hx hb d_L_law_469 rfl (lv_at hl 3 rfl) ?_
  refine lv_aload_n hx hb d_L_law_470 rfl (lv_at hl 1 rfl) ?_
  refine lv_iload hx hb d_L_law_471 (lv_at hl 5 rfl) ?_
  refine lv_iconst (v := nI 1) hx hb d_L_law_473 (by decide) ?_
  refine nv_add hx hb d_L_law_474 ?_
  refine nv_sld hx hb hX hbl hS (by omega) hL d_L_law_475 ?_
  refine lv_aload_n hx hb d_L_law_476 rfl (lv_at hl 1 rfl) ?_
  refine lv_iload hx hb d_L_law_477 (lv_at hl 5 rfl) ?_
  refine lv_iconst (v := nI 2) hx hb d_L_law_479 (by decide) ?_
  refine nv_add hx hb d_L_law_480 ?_
  refine nv_sld hx hb hX hbl hS (by omega) hL d_L_law_481 ?_
  refine lv_aload_n hx hb d_L_law_482 rfl (lv_at hl 1 rfl) ?_
  refine lv_iload hx hb d_L_law_483 (lv_at hl 5 rfl) ?_
  refine lv_iconst (v := nI 3) hx hb d_L_law_485 (by decide) ?_
  refine nv_add hx hb d_L_law_486 ?_
  refine nv_sld hx hb hX hbl hS (by omega) hL d_L_law_487 ?_
  refine lw_go (va_runV (As := [.int (xs ((6 * t) + 1)), .int (xs ((6 * t) + 2)), .int (xs ((6 * t) + 3))]) (rest := []) ⟨hx, hb, hml, hown, hts⟩ (c_M_use l dC dI H.size cI cZ r S th (t + 1) hI (xs (6 * t + 1)) (xs (6 * t + 2)) (xs (6 * t + 3)) hV.1 hou) (cwV 3 hts (gi_V wd_720 wd_721 wd_722 wd_5 wd_723) rfl rfl rfl (by decide +kernel) ⟨Nat.le_of_ble_eq_true rfl, Nat.le_of_ble_eq_true rfl⟩) (wr_preV hKM (P_l hP) (D_l hD) (ci := 3) (q0 := 0) rfl rfl) rfl rfl hl.1 rfl (lv_room (Nat.le_of_ble_eq_true rfl)) d_L_law_488 ⟨show _ ≤ 601024 by omega, show _ ≤ 7293034 by omega⟩) hP hD hS hA wM_adr (fun H locs nP nD nS => ?_)
  replace hP := nP
  replace hD := nD
  replace hS := nS
  clear nP nD nS
  have hV9 : Iv (t + 1) (op_use S (xs (6 * t + 1)) (xs (6 * t + 2)) (xs (6 * t + 3))).2.2 := Iv_use hV hou
  refine W.eq (g2 := F0 m 491 ls [.int ((op_use S (xs (6 * t + 1)) (xs (6 * t + 2)) (xs (6 * t + 3))).2.1)]) rfl ?_
  refine lv_istore (lv' := [(6, .int ((op_use S (xs (6 * t + 1)) (xs (6 * t + 2)) (xs (6 * t + 3))).2.1)), (5, .int (nI (op_use S (xs (6 * t + 1)) (xs (6 * t + 2)) (xs (6 * t + 3))).1)), (0, .ref b), (1, .ref (q 0)), (2, .ref (r 0)), (3, .ref qo), (4, .int (nI (6 * t)))]) hx hb d_L_law_491 hl (by decide) rfl (fun ls hl => ?_)
  refine lv_aload_n hx hb d_L_law_493 rfl (lv_at hl 4 rfl) ?_
  refine pu_go (va_runV (As := []) (rest := []) ⟨hx, hb, hml, hown, hts⟩ (c_M_thrown l dC dI cI cZ r (op_use S (xs (6 * t + 1)) (xs (6 * t + 2)) (xs (6 * t + 3))).2.2 (nI (op_use S (xs (6 * t + 1)) (xs (6 * t + 2)) (xs (6 * t + 3))).1) (t + 1) hV9.1.1) (cwV 0 hts (gi_V wd_668 wd_669 wd_670 wd_5 wd_671) rfl rfl rfl (by decide +kernel) ⟨Nat.le_of_ble_eq_true rfl, Nat.le_of_ble_eq_true rfl⟩) (pu_preV hKM (P_l hP) (ci := 3) (q0 := 0) rfl rfl) rfl rfl hl.1 rfl (lv_room (Nat.le_of_ble_eq_true rfl)) d_L_law_494 ⟨show _ ≤ 601024 by omega, show _ ≤ 7293034 by omega⟩) ?_
  refine lv_iload hx hb d_L_law_497 (lv_at hl 1 rfl) ?_
  refine lv_icmp_eq (tgt := 504) hx hb d_L_law_499 (by decide) (fun c499 => ?_) (fun c499 => ?_)
  · refine lv_iload hx hb d_L_law_504 (lv_at hl 1 rfl) ?_
    refine lv_if_ne (tgt := 521) hx hb d_L_law_506 (by decide) (fun c506 => ?_) (fun c506 => ?_)
    · refine lv_goto (tgt := 1768) hx hb d_L_law_521 (by decide) ?_
      refine W.widen (k := cells + 8) (n := slots + 48) (by omega) (by omega) ?_
      exact k _ _ _ _ _ _ ⟨hV9, P_swap hP, D_swap hD, hS, lv_sub hl [2, 3, 4, 5, 6] rfl⟩
    · have h0 : (op_use S (xs (6 * t + 1)) (xs (6 * t + 2)) (xs (6 * t + 3))).1 = 0 := z_of lt_use c506
      refine lv_aload_n hx hb d_L_law_509 rfl (lv_at hl 5 rfl) ?_
      refine lv_iconst (v := nI 0) hx hb d_L_law_510 (by decide) ?_
      refine lw_out (o := (op_use S (xs (6 * t + 1)) (xs (6 * t + 2)) (xs (6 * t + 3)))) (f := f) hx hb (hK.sub (tys' := [(cJ, .long)]) [2] rfl) (P_r (P_r hP)) h0 d_L_law_511 ?_
      refine lv_iload hx hb d_L_law_512 (lv_at hl 0 rfl) ?_
      refine lv_i2l (v := ((op_use S (xs (6 * t + 1)) (xs (6 * t + 2)) (xs (6 * t + 3))).2.1).toInt64) hx hb d_L_law_514 rfl ?_
      refine lw_cmp hx hb (rfl) d_L_law_515 ?_
      refine lv_if_eq (tgt := 521) hx hb d_L_law_516 (by decide) (fun c516 => ?_) (fun c516 => ?_)
      · refine lv_goto (tgt := 1768) hx hb d_L_law_521 (by decide) ?_
        refine W.widen (k := cells + 8) (n := slots + 48) (by omega) (by omega) ?_
        exact k _ _ _ _ _ _ ⟨hV9, P_swap hP, D_swap hD, hS, lv_sub hl [2, 3, 4, 5, 6] rfl⟩
      · exact absurd rfl c516
  · exact absurd rfl c499
set_option maxHeartbeats 4000000 in
set_option maxRecDepth 100000 in
theorem k_sum {p : Program} {l : Launch} {e : Env} {s : State} {m : MethodId} {below : List Frame} {meth : Method} {c : Code} {b L : Nat} {xs : Nat → Int32} {dC : Nat → ClassId} {dI : Nat → Nat → Nat} {cI cZ cJ : ClassId} (C0 : lC p l s m meth c b L xs dC dI cI cZ cJ) {q r : Nat → Nat} {qo t : Nat} {S : St} {th : Int32} {f : Nat → Int64} {H : Heap} {locs : List Loc} {ls : Array Slot} {cells slots : Nat} (ht : t + 1 ≤ 512) (hj : 6 * t + 6 ≤ L) (hcs : cells + 8 ≤ 601024 ∧ slots + 48 ≤ 7293034)
    (G : lG s dC dI cI cZ cJ b q r qo t t S th f H locs ls) (k : lK p l e s m below meth c dC dI cI cZ cJ b q r qo t (cells + 8) (slots + 48)) : W p l e room_1 s m #[Value.ref b] below meth c H locs cells slots (lw_Z below #[Value.ref b] s) (F0 m 524 ls []) := by
  obtain ⟨⟨hx, hb, hr, hml, hown, hts0, hX, hbl, hlocks, hgv⟩, hst, hK, hG0, hN, hL⟩ := C0
  have hts := bg_of hts0
  have hown : s.vm.findClass R_L = some m.cls := hown
  obtain ⟨hV0, hP, hD, hS, hl⟩ := G
  obtain ⟨hV, hou, hwa⟩ := Iv_up hV0 ht
  have hA : ∀ q : Nat, s.heap.size ≤ q → lA s q := fun _ h => h
  have hG : gG (lA s) s H := gG_H hG0 hS.2.1
  have hI := hV.1.1
  have hKM := hK.sub (tys' := [(cI, .int), (cZ, .boolean)]) [0, 1] rfl
  refine lv_aload_n hx hb d_L_law_524 rfl (lv_at hl 1 rfl) ?_
  refine lv_aload_n hx hb d_L_law_525 rfl (lv_at hl 0 rfl) ?_
  refine lv_iload hx hb d_L_law_526 (lv_at hl 4 rfl) ?_
  refine lv_iconst (v := nI 1) hx hb d_L_law_528 (by decide) ?_
  refine nv_add hx hb d_L_law_529 ?_
  refine nv_sld hx hb hX hbl hS (by omega) hL d_L_law_530 ?_
  refine lv_aload_n hx hb d_L_law_531 rfl (lv_at hl 0 rfl) ?_
  refine lv_iload hx hb d_L_law_532 (lv_at hl 4 rfl) ?_
  refine lv_iconst (v := nI 2) hx hb d_L_law_534 (by decide) ?_
  refine nv_add hx hb d_L_law_535 ?_
  refine nv_sld hx hb hX hbl hS (by omega) hL d_L_law_536 ?_
  refine lv_aload_n hx hb d_L_law_537 rfl (lv_at hl 0 rfl) ?_
  refine lv_iload hx hb d_L_law_538 (lv_at hl 4 rfl) ?_
  refine lv_iconst (v := nI 3) hx hb d_L_law_540 (by decide) ?_
  refine nv_add hx hb d_L_law_541 ?_
  refine nv_sld hx hb hX hbl hS (by omega) hL d_L_law_542 ?_
  refine lv_aload_n hx hb d_L_law_543 rfl (lv_at hl 3 rfl) ?_
  refine lw_go (vx_runSW (As := [.ref (q 0), .int (xs ((6 * t) + 1)), .int (xs ((6 * t) + 2)), .int (xs ((6 * t) + 3)), .ref qo]) (rest := []) ⟨hx, hb, hml, hown, hts⟩ (c_L_sum l hst dC dI (lA s) H.size cI q cJ qo f S (t + 1) hI (xs (6 * t + 1)) (xs (6 * t + 2)) (xs (6 * t + 3)) ) (vx_cwSW 5 hts (gi_SW wd_370 wd_371 wd_0 wd_372) rfl rfl rfl (by decide +kernel) ⟨Nat.le_of_ble_eq_true rfl, Nat.le_of_ble_eq_true rfl⟩) (wl_preS (hK.sub (tys' := [(cI, .int), (cJ, .long)]) [0, 2] rfl) (P_l hP) (D_l hD) hG hN) rfl rfl hl.1 rfl (lv_room (Nat.le_of_ble_eq_true rfl)) d_L_law_544 ⟨show _ ≤ 601024 by omega, show _ ≤ 7293034 by omega⟩) hP hD hS hA xo_adr (fun H locs nP nD nS => ?_)
  replace hP := P_swap nP
  replace hD := D_swap nD
  replace hS := nS
  clear nP nD nS hG
  refine W.eq (g2 := F0 m 547 ls [.int (nI (op_sum S (xs (6 * t + 1)) (xs (6 * t + 2)) (xs (6 * t + 3))).1)]) rfl ?_
  refine lv_istore (lv' := [(5, .int (nI (op_sum S (xs (6 * t + 1)) (xs (6 * t + 2)) (xs (6 * t + 3))).1)), (0, .ref b), (1, .ref (q 0)), (2, .ref (r 0)), (3, .ref qo), (4, .int (nI (6 * t)))]) hx hb d_L_law_547 hl (by decide) rfl (fun ls hl => ?_)
  refine lv_aload_n hx hb d_L_law_549 rfl (lv_at hl 3 rfl) ?_
  refine lv_aload_n hx hb d_L_law_550 rfl (lv_at hl 1 rfl) ?_
  refine lv_iload hx hb d_L_law_551 (lv_at hl 5 rfl) ?_
  refine lv_iconst (v := nI 1) hx hb d_L_law_553 (by decide) ?_
  refine nv_add hx hb d_L_law_554 ?_
  refine nv_sld hx hb hX hbl hS (by omega) hL d_L_law_555 ?_
  refine lv_aload_n hx hb d_L_law_556 rfl (lv_at hl 1 rfl) ?_
  refine lv_iload hx hb d_L_law_557 (lv_at hl 5 rfl) ?_
  refine lv_iconst (v := nI 2) hx hb d_L_law_559 (by decide) ?_
  refine nv_add hx hb d_L_law_560 ?_
  refine nv_sld hx hb hX hbl hS (by omega) hL d_L_law_561 ?_
  refine lv_aload_n hx hb d_L_law_562 rfl (lv_at hl 1 rfl) ?_
  refine lv_iload hx hb d_L_law_563 (lv_at hl 5 rfl) ?_
  refine lv_iconst (v := nI 3) hx hb d_L_law_565 (by decide) ?_
  refine nv_add hx hb d_L_law_566 ?_
  refine nv_sld hx hb hX hbl hS (by omega) hL d_L_law_567 ?_
  refine lw_go (va_runV (As := [.int (xs ((6 * t) + 1)), .int (xs ((6 * t) + 2)), .int (xs ((6 * t) + 3))]) (rest := []) ⟨hx, hb, hml, hown, hts⟩ (c_M_sum l dC dI H.size cI cZ r S th (t + 1) hI (xs (6 * t + 1)) (xs (6 * t + 2)) (xs (6 * t + 3)) hV.1 ) (cwV 3 hts (gi_V wd_736 wd_737 wd_738 wd_5 wd_739) rfl rfl rfl (by decide +kernel) ⟨Nat.le_of_ble_eq_true rfl, Nat.le_of_ble_eq_true rfl⟩) (wr_preV hKM (P_l hP) (D_l hD) (ci := 3) (q0 := 0) rfl rfl) rfl rfl hl.1 rfl (lv_room (Nat.le_of_ble_eq_true rfl)) d_L_law_568 ⟨show _ ≤ 601024 by omega, show _ ≤ 7293034 by omega⟩) hP hD hS hA wM_adr (fun H locs nP nD nS => ?_)
  replace hP := nP
  replace hD := nD
  replace hS := nS
  clear nP nD nS
  have hV9 : Iv (t + 1) (op_sum S (xs (6 * t + 1)) (xs (6 * t + 2)) (xs (6 * t + 3))).2.2 := Iv_sum hV 
  refine W.eq (g2 := F0 m 571 ls [.int ((op_sum S (xs (6 * t + 1)) (xs (6 * t + 2)) (xs (6 * t + 3))).2.1)]) rfl ?_
  refine lv_istore (lv' := [(6, .int ((op_sum S (xs (6 * t + 1)) (xs (6 * t + 2)) (xs (6 * t + 3))).2.1)), (5, .int (nI (op_sum S (xs (6 * t + 1)) (xs (6 * t + 2)) (xs (6 * t + 3))).1)), (0, .ref b), (1, .ref (q 0)), (2, .ref (r 0)), (3, .ref qo), (4, .int (nI (6 * t)))]) hx hb d_L_law_571 hl (by decide) rfl (fun ls hl => ?_)
  refine lv_aload_n hx hb d_L_law_573 rfl (lv_at hl 4 rfl) ?_
  refine pu_go (va_runV (As := []) (rest := []) ⟨hx, hb, hml, hown, hts⟩ (c_M_thrown l dC dI cI cZ r (op_sum S (xs (6 * t + 1)) (xs (6 * t + 2)) (xs (6 * t + 3))).2.2 (nI (op_sum S (xs (6 * t + 1)) (xs (6 * t + 2)) (xs (6 * t + 3))).1) (t + 1) hV9.1.1) (cwV 0 hts (gi_V wd_668 wd_669 wd_670 wd_5 wd_671) rfl rfl rfl (by decide +kernel) ⟨Nat.le_of_ble_eq_true rfl, Nat.le_of_ble_eq_true rfl⟩) (pu_preV hKM (P_l hP) (ci := 3) (q0 := 0) rfl rfl) rfl rfl hl.1 rfl (lv_room (Nat.le_of_ble_eq_true rfl)) d_L_law_574 ⟨show _ ≤ 601024 by omega, show _ ≤ 7293034 by omega⟩) ?_
  refine lv_iload hx hb d_L_law_577 (lv_at hl 1 rfl) ?_
  refine lv_icmp_eq (tgt := 584) hx hb d_L_law_579 (by decide) (fun c579 => ?_) (fun c579 => ?_)
  · refine lv_iload hx hb d_L_law_584 (lv_at hl 1 rfl) ?_
    refine lv_if_ne (tgt := 601) hx hb d_L_law_586 (by decide) (fun c586 => ?_) (fun c586 => ?_)
    · refine lv_goto (tgt := 1768) hx hb d_L_law_601 (by decide) ?_
      refine W.widen (k := cells + 8) (n := slots + 48) (by omega) (by omega) ?_
      exact k _ _ _ _ _ _ ⟨hV9, P_swap hP, D_swap hD, hS, lv_sub hl [2, 3, 4, 5, 6] rfl⟩
    · have h0 : (op_sum S (xs (6 * t + 1)) (xs (6 * t + 2)) (xs (6 * t + 3))).1 = 0 := z_of lt_sum c586
      refine lv_aload_n hx hb d_L_law_589 rfl (lv_at hl 5 rfl) ?_
      refine lv_iconst (v := nI 0) hx hb d_L_law_590 (by decide) ?_
      refine lw_out (o := (op_sum S (xs (6 * t + 1)) (xs (6 * t + 2)) (xs (6 * t + 3)))) (f := f) hx hb (hK.sub (tys' := [(cJ, .long)]) [2] rfl) (P_r (P_r hP)) h0 d_L_law_591 ?_
      refine lv_iload hx hb d_L_law_592 (lv_at hl 0 rfl) ?_
      refine lv_i2l (v := ((op_sum S (xs (6 * t + 1)) (xs (6 * t + 2)) (xs (6 * t + 3))).2.1).toInt64) hx hb d_L_law_594 rfl ?_
      refine lw_cmp hx hb (rfl) d_L_law_595 ?_
      refine lv_if_eq (tgt := 601) hx hb d_L_law_596 (by decide) (fun c596 => ?_) (fun c596 => ?_)
      · refine lv_goto (tgt := 1768) hx hb d_L_law_601 (by decide) ?_
        refine W.widen (k := cells + 8) (n := slots + 48) (by omega) (by omega) ?_
        exact k _ _ _ _ _ _ ⟨hV9, P_swap hP, D_swap hD, hS, lv_sub hl [2, 3, 4, 5, 6] rfl⟩
      · exact absurd rfl c596
  · exact absurd rfl c579
set_option maxHeartbeats 4000000 in
set_option maxRecDepth 100000 in
theorem k_has {p : Program} {l : Launch} {e : Env} {s : State} {m : MethodId} {below : List Frame} {meth : Method} {c : Code} {b L : Nat} {xs : Nat → Int32} {dC : Nat → ClassId} {dI : Nat → Nat → Nat} {cI cZ cJ : ClassId} (C0 : lC p l s m meth c b L xs dC dI cI cZ cJ) {q r : Nat → Nat} {qo t : Nat} {S : St} {th : Int32} {f : Nat → Int64} {H : Heap} {locs : List Loc} {ls : Array Slot} {cells slots : Nat} (ht : t + 1 ≤ 512) (hj : 6 * t + 6 ≤ L) (hcs : cells + 8 ≤ 601024 ∧ slots + 48 ≤ 7293034)
    (G : lG s dC dI cI cZ cJ b q r qo t t S th f H locs ls) (k : lK p l e s m below meth c dC dI cI cZ cJ b q r qo t (cells + 8) (slots + 48)) : W p l e room_1 s m #[Value.ref b] below meth c H locs cells slots (lw_Z below #[Value.ref b] s) (F0 m 604 ls []) := by
  obtain ⟨⟨hx, hb, hr, hml, hown, hts0, hX, hbl, hlocks, hgv⟩, hst, hK, hG0, hN, hL⟩ := C0
  have hts := bg_of hts0
  have hown : s.vm.findClass R_L = some m.cls := hown
  obtain ⟨hV0, hP, hD, hS, hl⟩ := G
  obtain ⟨hV, hou, hwa⟩ := Iv_up hV0 ht
  have hA : ∀ q : Nat, s.heap.size ≤ q → lA s q := fun _ h => h
  have hG : gG (lA s) s H := gG_H hG0 hS.2.1
  have hI := hV.1.1
  have hKM := hK.sub (tys' := [(cI, .int), (cZ, .boolean)]) [0, 1] rfl
  refine lv_aload_n hx hb d_L_law_604 rfl (lv_at hl 1 rfl) ?_
  refine lv_aload_n hx hb d_L_law_605 rfl (lv_at hl 0 rfl) ?_
  refine lv_iload hx hb d_L_law_606 (lv_at hl 4 rfl) ?_
  refine lv_iconst (v := nI 1) hx hb d_L_law_608 (by decide) ?_
  refine nv_add hx hb d_L_law_609 ?_
  refine nv_sld hx hb hX hbl hS (by omega) hL d_L_law_610 ?_
  refine lv_aload_n hx hb d_L_law_611 rfl (lv_at hl 0 rfl) ?_
  refine lv_iload hx hb d_L_law_612 (lv_at hl 4 rfl) ?_
  refine lv_iconst (v := nI 2) hx hb d_L_law_614 (by decide) ?_
  refine nv_add hx hb d_L_law_615 ?_
  refine nv_sld hx hb hX hbl hS (by omega) hL d_L_law_616 ?_
  refine lv_aload_n hx hb d_L_law_617 rfl (lv_at hl 3 rfl) ?_
  refine lw_go (vx_runSW (As := [.ref (q 0), .int (xs ((6 * t) + 1)), .int (xs ((6 * t) + 2)), .ref qo]) (rest := []) ⟨hx, hb, hml, hown, hts⟩ (c_L_has l hst dC dI (lA s) H.size cI q cJ qo f S (t + 1) hI (xs (6 * t + 1)) (xs (6 * t + 2)) ) (vx_cwSW 4 hts (gi_SW wd_378 wd_379 wd_0 wd_380) rfl rfl rfl (by decide +kernel) ⟨Nat.le_of_ble_eq_true rfl, Nat.le_of_ble_eq_true rfl⟩) (wl_preS (hK.sub (tys' := [(cI, .int), (cJ, .long)]) [0, 2] rfl) (P_l hP) (D_l hD) hG hN) rfl rfl hl.1 rfl (lv_room (Nat.le_of_ble_eq_true rfl)) d_L_law_618 ⟨show _ ≤ 601024 by omega, show _ ≤ 7293034 by omega⟩) hP hD hS hA xo_adr (fun H locs nP nD nS => ?_)
  replace hP := P_swap nP
  replace hD := D_swap nD
  replace hS := nS
  clear nP nD nS hG
  refine W.eq (g2 := F0 m 621 ls [.int (nI (op_has S (xs (6 * t + 1)) (xs (6 * t + 2))).1)]) rfl ?_
  refine lv_istore (lv' := [(5, .int (nI (op_has S (xs (6 * t + 1)) (xs (6 * t + 2))).1)), (0, .ref b), (1, .ref (q 0)), (2, .ref (r 0)), (3, .ref qo), (4, .int (nI (6 * t)))]) hx hb d_L_law_621 hl (by decide) rfl (fun ls hl => ?_)
  refine lv_aload_n hx hb d_L_law_623 rfl (lv_at hl 3 rfl) ?_
  refine lv_aload_n hx hb d_L_law_624 rfl (lv_at hl 1 rfl) ?_
  refine lv_iload hx hb d_L_law_625 (lv_at hl 5 rfl) ?_
  refine lv_iconst (v := nI 1) hx hb d_L_law_627 (by decide) ?_
  refine nv_add hx hb d_L_law_628 ?_
  refine nv_sld hx hb hX hbl hS (by omega) hL d_L_law_629 ?_
  refine lv_aload_n hx hb d_L_law_630 rfl (lv_at hl 1 rfl) ?_
  refine lv_iload hx hb d_L_law_631 (lv_at hl 5 rfl) ?_
  refine lv_iconst (v := nI 2) hx hb d_L_law_633 (by decide) ?_
  refine nv_add hx hb d_L_law_634 ?_
  refine nv_sld hx hb hX hbl hS (by omega) hL d_L_law_635 ?_
  refine lw_go (va_runV (As := [.int (xs ((6 * t) + 1)), .int (xs ((6 * t) + 2))]) (rest := []) ⟨hx, hb, hml, hown, hts⟩ (c_M_has l dC dI H.size cI cZ r S th (t + 1) hI (xs (6 * t + 1)) (xs (6 * t + 2)) hV.1 ) (cwV 2 hts (gi_V wd_740 wd_741 wd_742 wd_5 wd_743) rfl rfl rfl (by decide +kernel) ⟨Nat.le_of_ble_eq_true rfl, Nat.le_of_ble_eq_true rfl⟩) (wr_preV hKM (P_l hP) (D_l hD) (ci := 3) (q0 := 0) rfl rfl) rfl rfl hl.1 rfl (lv_room (Nat.le_of_ble_eq_true rfl)) d_L_law_636 ⟨show _ ≤ 601024 by omega, show _ ≤ 7293034 by omega⟩) hP hD hS hA wM_adr (fun H locs nP nD nS => ?_)
  replace hP := nP
  replace hD := nD
  replace hS := nS
  clear nP nD nS
  have hV9 : Iv (t + 1) (op_has S (xs (6 * t + 1)) (xs (6 * t + 2))).2.2 := Iv_has hV 
  refine W.eq (g2 := F0 m 639 ls [.int ((op_has S (xs (6 * t + 1)) (xs (6 * t + 2))).2.1)]) rfl ?_
  refine lv_istore (lv' := [(6, .int ((op_has S (xs (6 * t + 1)) (xs (6 * t + 2))).2.1)), (5, .int (nI (op_has S (xs (6 * t + 1)) (xs (6 * t + 2))).1)), (0, .ref b), (1, .ref (q 0)), (2, .ref (r 0)), (3, .ref qo), (4, .int (nI (6 * t)))]) hx hb d_L_law_639 hl (by decide) rfl (fun ls hl => ?_)
  refine lv_aload_n hx hb d_L_law_641 rfl (lv_at hl 4 rfl) ?_
  refine pu_go (va_runV (As := []) (rest := []) ⟨hx, hb, hml, hown, hts⟩ (c_M_thrown l dC dI cI cZ r (op_has S (xs (6 * t + 1)) (xs (6 * t + 2))).2.2 (nI (op_has S (xs (6 * t + 1)) (xs (6 * t + 2))).1) (t + 1) hV9.1.1) (cwV 0 hts (gi_V wd_668 wd_669 wd_670 wd_5 wd_671) rfl rfl rfl (by decide +kernel) ⟨Nat.le_of_ble_eq_true rfl, Nat.le_of_ble_eq_true rfl⟩) (pu_preV hKM (P_l hP) (ci := 3) (q0 := 0) rfl rfl) rfl rfl hl.1 rfl (lv_room (Nat.le_of_ble_eq_true rfl)) d_L_law_642 ⟨show _ ≤ 601024 by omega, show _ ≤ 7293034 by omega⟩) ?_
  refine lv_iload hx hb d_L_law_645 (lv_at hl 1 rfl) ?_
  refine lv_icmp_eq (tgt := 652) hx hb d_L_law_647 (by decide) (fun c647 => ?_) (fun c647 => ?_)
  · refine lv_iload hx hb d_L_law_652 (lv_at hl 1 rfl) ?_
    refine lv_if_ne (tgt := 669) hx hb d_L_law_654 (by decide) (fun c654 => ?_) (fun c654 => ?_)
    · refine lv_goto (tgt := 1768) hx hb d_L_law_669 (by decide) ?_
      refine W.widen (k := cells + 8) (n := slots + 48) (by omega) (by omega) ?_
      exact k _ _ _ _ _ _ ⟨hV9, P_swap hP, D_swap hD, hS, lv_sub hl [2, 3, 4, 5, 6] rfl⟩
    · have h0 : (op_has S (xs (6 * t + 1)) (xs (6 * t + 2))).1 = 0 := z_of lt_has c654
      refine lv_aload_n hx hb d_L_law_657 rfl (lv_at hl 5 rfl) ?_
      refine lv_iconst (v := nI 0) hx hb d_L_law_658 (by decide) ?_
      refine lw_out (o := (op_has S (xs (6 * t + 1)) (xs (6 * t + 2)))) (f := f) hx hb (hK.sub (tys' := [(cJ, .long)]) [2] rfl) (P_r (P_r hP)) h0 d_L_law_659 ?_
      refine lv_iload hx hb d_L_law_660 (lv_at hl 0 rfl) ?_
      refine lv_i2l (v := ((op_has S (xs (6 * t + 1)) (xs (6 * t + 2))).2.1).toInt64) hx hb d_L_law_662 rfl ?_
      refine lw_cmp hx hb (rfl) d_L_law_663 ?_
      refine lv_if_eq (tgt := 669) hx hb d_L_law_664 (by decide) (fun c664 => ?_) (fun c664 => ?_)
      · refine lv_goto (tgt := 1768) hx hb d_L_law_669 (by decide) ?_
        refine W.widen (k := cells + 8) (n := slots + 48) (by omega) (by omega) ?_
        exact k _ _ _ _ _ _ ⟨hV9, P_swap hP, D_swap hD, hS, lv_sub hl [2, 3, 4, 5, 6] rfl⟩
      · exact absurd rfl c664
  · exact absurd rfl c647
set_option maxHeartbeats 4000000 in
set_option maxRecDepth 100000 in
theorem k_level {p : Program} {l : Launch} {e : Env} {s : State} {m : MethodId} {below : List Frame} {meth : Method} {c : Code} {b L : Nat} {xs : Nat → Int32} {dC : Nat → ClassId} {dI : Nat → Nat → Nat} {cI cZ cJ : ClassId} (C0 : lC p l s m meth c b L xs dC dI cI cZ cJ) {q r : Nat → Nat} {qo t : Nat} {S : St} {th : Int32} {f : Nat → Int64} {H : Heap} {locs : List Loc} {ls : Array Slot} {cells slots : Nat} (ht : t + 1 ≤ 512) (hj : 6 * t + 6 ≤ L) (hcs : cells + 8 ≤ 601024 ∧ slots + 48 ≤ 7293034)
    (G : lG s dC dI cI cZ cJ b q r qo t t S th f H locs ls) (k : lK p l e s m below meth c dC dI cI cZ cJ b q r qo t (cells + 8) (slots + 48)) : W p l e room_1 s m #[Value.ref b] below meth c H locs cells slots (lw_Z below #[Value.ref b] s) (F0 m 672 ls []) := by
  obtain ⟨⟨hx, hb, hr, hml, hown, hts0, hX, hbl, hlocks, hgv⟩, hst, hK, hG0, hN, hL⟩ := C0
  have hts := bg_of hts0
  have hown : s.vm.findClass R_L = some m.cls := hown
  obtain ⟨hV0, hP, hD, hS, hl⟩ := G
  obtain ⟨hV, hou, hwa⟩ := Iv_up hV0 ht
  have hA : ∀ q : Nat, s.heap.size ≤ q → lA s q := fun _ h => h
  have hG : gG (lA s) s H := gG_H hG0 hS.2.1
  have hI := hV.1.1
  have hKM := hK.sub (tys' := [(cI, .int), (cZ, .boolean)]) [0, 1] rfl
  refine lv_aload_n hx hb d_L_law_672 rfl (lv_at hl 1 rfl) ?_
  refine lv_aload_n hx hb d_L_law_673 rfl (lv_at hl 0 rfl) ?_
  refine lv_iload hx hb d_L_law_674 (lv_at hl 4 rfl) ?_
  refine lv_iconst (v := nI 1) hx hb d_L_law_676 (by decide) ?_
  refine nv_add hx hb d_L_law_677 ?_
  refine nv_sld hx hb hX hbl hS (by omega) hL d_L_law_678 ?_
  refine lv_aload_n hx hb d_L_law_679 rfl (lv_at hl 0 rfl) ?_
  refine lv_iload hx hb d_L_law_680 (lv_at hl 4 rfl) ?_
  refine lv_iconst (v := nI 2) hx hb d_L_law_682 (by decide) ?_
  refine nv_add hx hb d_L_law_683 ?_
  refine nv_sld hx hb hX hbl hS (by omega) hL d_L_law_684 ?_
  refine lv_aload_n hx hb d_L_law_685 rfl (lv_at hl 0 rfl) ?_
  refine lv_iload hx hb d_L_law_686 (lv_at hl 4 rfl) ?_
  refine lv_iconst (v := nI 3) hx hb d_L_law_688 (by decide) ?_
  refine nv_add hx hb d_L_law_689 ?_
  refine nv_sld hx hb hX hbl hS (by omega) hL d_L_law_690 ?_
  refine lv_aload_n hx hb d_L_law_691 rfl (lv_at hl 0 rfl) ?_
  refine lv_iload hx hb d_L_law_692 (lv_at hl 4 rfl) ?_
  refine lv_iconst (v := nI 4) hx hb d_L_law_694 (by decide) ?_
  refine nv_add hx hb d_L_law_695 ?_
  refine nv_sld hx hb hX hbl hS (by omega) hL d_L_law_696 ?_
  replace hP := P_v hP
  replace hD := D_v hD
  refine lw_go (vx_runSW (As := [.ref (q 0), .int (xs ((6 * t) + 1)), .int (xs ((6 * t) + 2)), .int (xs ((6 * t) + 3)), .int (xs ((6 * t) + 4))]) (rest := []) ⟨hx, hb, hml, hown, hts⟩ (c_L_level l hst dC dI (lA s) H.size cI q S (t + 1) hI (xs (6 * t + 1)) (xs (6 * t + 2)) (xs (6 * t + 3)) (xs (6 * t + 4)) ) (vx_cwSW 5 hts (gi_SW wd_385 wd_386 wd_0 wd_387) rfl rfl rfl (by decide +kernel) ⟨Nat.le_of_ble_eq_true rfl, Nat.le_of_ble_eq_true rfl⟩) (wl_preS (hK.sub (tys' := [(cI, .int)]) [0] rfl) (P_l hP) (D_l hD) hG hN) rfl rfl hl.1 rfl (lv_room (Nat.le_of_ble_eq_true rfl)) d_L_law_697 ⟨show _ ≤ 601024 by omega, show _ ≤ 7293034 by omega⟩) hP hD hS hA xv_adr (fun H locs nP nD nS => ?_)
  replace hP := P_swap (P_u nP)
  replace hD := D_swap (D_u nD)
  replace hS := nS
  clear nP nD nS hG
  refine W.eq (g2 := F0 m 700 ls [.int (nI (op_level S (xs (6 * t + 1)) (xs (6 * t + 2)) (xs (6 * t + 3)) (xs (6 * t + 4))).1)]) rfl ?_
  refine lv_istore (lv' := [(5, .int (nI (op_level S (xs (6 * t + 1)) (xs (6 * t + 2)) (xs (6 * t + 3)) (xs (6 * t + 4))).1)), (0, .ref b), (1, .ref (q 0)), (2, .ref (r 0)), (3, .ref qo), (4, .int (nI (6 * t)))]) hx hb d_L_law_700 hl (by decide) rfl (fun ls hl => ?_)
  refine lv_aload_n hx hb d_L_law_702 rfl (lv_at hl 3 rfl) ?_
  refine lv_aload_n hx hb d_L_law_703 rfl (lv_at hl 1 rfl) ?_
  refine lv_iload hx hb d_L_law_704 (lv_at hl 5 rfl) ?_
  refine lv_iconst (v := nI 1) hx hb d_L_law_706 (by decide) ?_
  refine nv_add hx hb d_L_law_707 ?_
  refine nv_sld hx hb hX hbl hS (by omega) hL d_L_law_708 ?_
  refine lv_aload_n hx hb d_L_law_709 rfl (lv_at hl 1 rfl) ?_
  refine lv_iload hx hb d_L_law_710 (lv_at hl 5 rfl) ?_
  refine lv_iconst (v := nI 2) hx hb d_L_law_712 (by decide) ?_
  refine nv_add hx hb d_L_law_713 ?_
  refine nv_sld hx hb hX hbl hS (by omega) hL d_L_law_714 ?_
  refine lv_aload_n hx hb d_L_law_715 rfl (lv_at hl 1 rfl) ?_
  refine lv_iload hx hb d_L_law_716 (lv_at hl 5 rfl) ?_
  refine lv_iconst (v := nI 3) hx hb d_L_law_718 (by decide) ?_
  refine nv_add hx hb d_L_law_719 ?_
  refine nv_sld hx hb hX hbl hS (by omega) hL d_L_law_720 ?_
  refine lv_aload_n hx hb d_L_law_721 rfl (lv_at hl 1 rfl) ?_
  refine lv_iload hx hb d_L_law_722 (lv_at hl 5 rfl) ?_
  refine lv_iconst (v := nI 4) hx hb d_L_law_724 (by decide) ?_
  refine nv_add hx hb d_L_law_725 ?_
  refine nv_sld hx hb hX hbl hS (by omega) hL d_L_law_726 ?_
  refine lw_go (va_runV (As := [.int (xs ((6 * t) + 1)), .int (xs ((6 * t) + 2)), .int (xs ((6 * t) + 3)), .int (xs ((6 * t) + 4))]) (rest := []) ⟨hx, hb, hml, hown, hts⟩ (c_M_level l dC dI H.size cI cZ r S th (t + 1) hI (xs (6 * t + 1)) (xs (6 * t + 2)) (xs (6 * t + 3)) (xs (6 * t + 4)) hV.1 ) (cwV 4 hts (gi_V wd_744 wd_745 wd_746 wd_5 wd_747) rfl rfl rfl (by decide +kernel) ⟨Nat.le_of_ble_eq_true rfl, Nat.le_of_ble_eq_true rfl⟩) (wr_preV hKM (P_l hP) (D_l hD) (ci := 3) (q0 := 0) rfl rfl) rfl rfl hl.1 rfl (lv_room (Nat.le_of_ble_eq_true rfl)) d_L_law_727 ⟨show _ ≤ 601024 by omega, show _ ≤ 7293034 by omega⟩) hP hD hS hA wM_adr (fun H locs nP nD nS => ?_)
  replace hP := nP
  replace hD := nD
  replace hS := nS
  clear nP nD nS
  have hV9 : Iv (t + 1) (op_level S (xs (6 * t + 1)) (xs (6 * t + 2)) (xs (6 * t + 3)) (xs (6 * t + 4))).2.2 := Iv_level hV 
  refine W.eq (g2 := F0 m 730 ls []) rfl ?_
  refine lv_aload_n hx hb d_L_law_730 rfl (lv_at hl 3 rfl) ?_
  refine pu_go (va_runV (As := []) (rest := []) ⟨hx, hb, hml, hown, hts⟩ (c_M_thrown l dC dI cI cZ r (op_level S (xs (6 * t + 1)) (xs (6 * t + 2)) (xs (6 * t + 3)) (xs (6 * t + 4))).2.2 (nI (op_level S (xs (6 * t + 1)) (xs (6 * t + 2)) (xs (6 * t + 3)) (xs (6 * t + 4))).1) (t + 1) hV9.1.1) (cwV 0 hts (gi_V wd_668 wd_669 wd_670 wd_5 wd_671) rfl rfl rfl (by decide +kernel) ⟨Nat.le_of_ble_eq_true rfl, Nat.le_of_ble_eq_true rfl⟩) (pu_preV hKM (P_l hP) (ci := 3) (q0 := 0) rfl rfl) rfl rfl hl.1 rfl (lv_room (Nat.le_of_ble_eq_true rfl)) d_L_law_731 ⟨show _ ≤ 601024 by omega, show _ ≤ 7293034 by omega⟩) ?_
  refine lv_iload hx hb d_L_law_734 (lv_at hl 0 rfl) ?_
  refine lv_icmp_eq (tgt := 741) hx hb d_L_law_736 (by decide) (fun c736 => ?_) (fun c736 => ?_)
  · refine lv_goto (tgt := 1768) hx hb d_L_law_741 (by decide) ?_
    refine W.widen (k := cells + 8) (n := slots + 48) (by omega) (by omega) ?_
    exact k _ _ _ _ _ _ ⟨hV9, P_swap hP, D_swap hD, hS, lv_sub hl [1, 2, 3, 4, 5] rfl⟩
  · exact absurd rfl c736
set_option maxHeartbeats 4000000 in
set_option maxRecDepth 100000 in
theorem k_orders {p : Program} {l : Launch} {e : Env} {s : State} {m : MethodId} {below : List Frame} {meth : Method} {c : Code} {b L : Nat} {xs : Nat → Int32} {dC : Nat → ClassId} {dI : Nat → Nat → Nat} {cI cZ cJ : ClassId} (C0 : lC p l s m meth c b L xs dC dI cI cZ cJ) {q r : Nat → Nat} {qo t : Nat} {S : St} {th : Int32} {f : Nat → Int64} {H : Heap} {locs : List Loc} {ls : Array Slot} {cells slots : Nat} (ht : t + 1 ≤ 512) (hj : 6 * t + 6 ≤ L) (hcs : cells + 8 ≤ 601024 ∧ slots + 48 ≤ 7293034)
    (G : lG s dC dI cI cZ cJ b q r qo t t S th f H locs ls) (k : lK p l e s m below meth c dC dI cI cZ cJ b q r qo t (cells + 8) (slots + 48)) : W p l e room_1 s m #[Value.ref b] below meth c H locs cells slots (lw_Z below #[Value.ref b] s) (F0 m 744 ls []) := by
  obtain ⟨⟨hx, hb, hr, hml, hown, hts0, hX, hbl, hlocks, hgv⟩, hst, hK, hG0, hN, hL⟩ := C0
  have hts := bg_of hts0
  have hown : s.vm.findClass R_L = some m.cls := hown
  obtain ⟨hV0, hP, hD, hS, hl⟩ := G
  obtain ⟨hV, hou, hwa⟩ := Iv_up hV0 ht
  have hA : ∀ q : Nat, s.heap.size ≤ q → lA s q := fun _ h => h
  have hG : gG (lA s) s H := gG_H hG0 hS.2.1
  have hI := hV.1.1
  have hKM := hK.sub (tys' := [(cI, .int), (cZ, .boolean)]) [0, 1] rfl
  refine lv_aload_n hx hb d_L_law_744 rfl (lv_at hl 1 rfl) ?_
  replace hP := P_v hP
  replace hD := D_v hD
  rw [List.append_nil] at hP hD
  refine lw_go (va_runV (As := []) (rest := []) ⟨hx, hb, hml, hown, hts⟩ (c_X_orders l dC dI H.size cI q S (t + 1) hI hV.1.2.1) (cwV 0 hts (gi_V wd_94 wd_95 wd_96 wd_1 wd_97) rfl rfl rfl (by decide +kernel) ⟨Nat.le_of_ble_eq_true rfl, Nat.le_of_ble_eq_true rfl⟩) (wr_preV (hK.sub (tys' := [(cI, .int)]) [0] rfl) (P_l hP) (D_l hD) (ci := 0) (q0 := 0) rfl rfl) rfl rfl hl.1 rfl (lv_room (Nat.le_of_ble_eq_true rfl)) d_L_law_745 ⟨show _ ≤ 601024 by omega, show _ ≤ 7293034 by omega⟩) hP hD hS hA wX_adr (fun H locs nP nD nS => ?_)
  rw [← List.append_assoc] at nP nD
  replace hP := P_swap nP
  replace hD := D_swap nD
  replace hS := nS
  clear nP nD nS hG
  refine W.eq (g2 := F0 m 748 ls [.int ((op_orders S).2.1)]) rfl ?_
  refine lv_aload_n hx hb d_L_law_748 rfl (lv_at hl 2 rfl) ?_
  refine lw_go (va_runV (As := []) (rest := [.int ((op_orders S).2.1)]) ⟨hx, hb, hml, hown, hts⟩ (c_M_orders l dC dI H.size cI cZ r S th (t + 1) hI  hV.1 ) (cwV 0 hts (gi_V wd_748 wd_749 wd_750 wd_5 wd_751) rfl rfl rfl (by decide +kernel) ⟨Nat.le_of_ble_eq_true rfl, Nat.le_of_ble_eq_true rfl⟩) (wr_preV hKM (P_l hP) (D_l hD) (ci := 3) (q0 := 0) rfl rfl) rfl rfl hl.1 rfl (lv_room (Nat.le_of_ble_eq_true rfl)) d_L_law_749 ⟨show _ ≤ 601024 by omega, show _ ≤ 7293034 by omega⟩) hP hD hS hA wM_adr (fun H locs nP nD nS => ?_)
  replace hP := nP
  replace hD := nD
  replace hS := nS
  clear nP nD nS
  have hV9 : Iv (t + 1) (op_orders S).2.2 := Iv_orders hV 
  refine W.eq (g2 := F0 m 752 ls [.int ((op_orders S).2.1), .int ((op_orders S).2.1)]) rfl ?_
  refine lv_icmp_eq (tgt := 1768) hx hb d_L_law_752 (by decide) (fun c752 => ?_) (fun c752 => ?_)
  · refine W.widen (k := cells + 8) (n := slots + 48) (by omega) (by omega) ?_
    exact k _ _ _ _ _ _ ⟨hV9, P_swap hP, D_swap hD, hS, lv_sub hl [0, 1, 2, 3, 4] rfl⟩
  · exact absurd rfl c752
set_option maxHeartbeats 4000000 in
set_option maxRecDepth 100000 in
theorem k_order {p : Program} {l : Launch} {e : Env} {s : State} {m : MethodId} {below : List Frame} {meth : Method} {c : Code} {b L : Nat} {xs : Nat → Int32} {dC : Nat → ClassId} {dI : Nat → Nat → Nat} {cI cZ cJ : ClassId} (C0 : lC p l s m meth c b L xs dC dI cI cZ cJ) {q r : Nat → Nat} {qo t : Nat} {S : St} {th : Int32} {f : Nat → Int64} {H : Heap} {locs : List Loc} {ls : Array Slot} {cells slots : Nat} (ht : t + 1 ≤ 512) (hj : 6 * t + 6 ≤ L) (hcs : cells + 8 ≤ 601024 ∧ slots + 48 ≤ 7293034)
    (G : lG s dC dI cI cZ cJ b q r qo t t S th f H locs ls) (k : lK p l e s m below meth c dC dI cI cZ cJ b q r qo t (cells + 8) (slots + 48)) : W p l e room_1 s m #[Value.ref b] below meth c H locs cells slots (lw_Z below #[Value.ref b] s) (F0 m 757 ls []) := by
  obtain ⟨⟨hx, hb, hr, hml, hown, hts0, hX, hbl, hlocks, hgv⟩, hst, hK, hG0, hN, hL⟩ := C0
  have hts := bg_of hts0
  have hown : s.vm.findClass R_L = some m.cls := hown
  obtain ⟨hV0, hP, hD, hS, hl⟩ := G
  obtain ⟨hV, hou, hwa⟩ := Iv_up hV0 ht
  have hA : ∀ q : Nat, s.heap.size ≤ q → lA s q := fun _ h => h
  have hG : gG (lA s) s H := gG_H hG0 hS.2.1
  have hI := hV.1.1
  have hKM := hK.sub (tys' := [(cI, .int), (cZ, .boolean)]) [0, 1] rfl
  refine lv_aload_n hx hb d_L_law_757 rfl (lv_at hl 1 rfl) ?_
  refine lv_aload_n hx hb d_L_law_758 rfl (lv_at hl 0 rfl) ?_
  refine lv_iload hx hb d_L_law_759 (lv_at hl 4 rfl) ?_
  refine lv_iconst (v := nI 1) hx hb d_L_law_761 (by decide) ?_
  refine nv_add hx hb d_L_law_762 ?_
  refine nv_sld hx hb hX hbl hS (by omega) hL d_L_law_763 ?_
  refine lv_aload_n hx hb d_L_law_764 rfl (lv_at hl 0 rfl) ?_
  refine lv_iload hx hb d_L_law_765 (lv_at hl 4 rfl) ?_
  refine lv_iconst (v := nI 2) hx hb d_L_law_767 (by decide) ?_
  refine nv_add hx hb d_L_law_768 ?_
  refine nv_sld hx hb hX hbl hS (by omega) hL d_L_law_769 ?_
  refine lv_aload_n hx hb d_L_law_770 rfl (lv_at hl 3 rfl) ?_
  refine lw_go (vx_runSW (As := [.ref (q 0), .int (xs ((6 * t) + 1)), .int (xs ((6 * t) + 2)), .ref qo]) (rest := []) ⟨hx, hb, hml, hown, hts⟩ (c_L_order l hst dC dI (lA s) H.size cI q cJ qo f S (t + 1) hI (xs (6 * t + 1)) (xs (6 * t + 2)) ) (vx_cwSW 4 hts (gi_SW wd_392 wd_393 wd_0 wd_394) rfl rfl rfl (by decide +kernel) ⟨Nat.le_of_ble_eq_true rfl, Nat.le_of_ble_eq_true rfl⟩) (wl_preS (hK.sub (tys' := [(cI, .int), (cJ, .long)]) [0, 2] rfl) (P_l hP) (D_l hD) hG hN) rfl rfl hl.1 rfl (lv_room (Nat.le_of_ble_eq_true rfl)) d_L_law_771 ⟨show _ ≤ 601024 by omega, show _ ≤ 7293034 by omega⟩) hP hD hS hA xo_adr (fun H locs nP nD nS => ?_)
  replace hP := P_swap nP
  replace hD := D_swap nD
  replace hS := nS
  clear nP nD nS hG
  refine W.eq (g2 := F0 m 774 ls [.int (nI (op_order S (xs (6 * t + 1)) (xs (6 * t + 2))).1)]) rfl ?_
  refine lv_istore (lv' := [(5, .int (nI (op_order S (xs (6 * t + 1)) (xs (6 * t + 2))).1)), (0, .ref b), (1, .ref (q 0)), (2, .ref (r 0)), (3, .ref qo), (4, .int (nI (6 * t)))]) hx hb d_L_law_774 hl (by decide) rfl (fun ls hl => ?_)
  refine lv_aload_n hx hb d_L_law_776 rfl (lv_at hl 3 rfl) ?_
  refine lv_aload_n hx hb d_L_law_777 rfl (lv_at hl 1 rfl) ?_
  refine lv_iload hx hb d_L_law_778 (lv_at hl 5 rfl) ?_
  refine lv_iconst (v := nI 1) hx hb d_L_law_780 (by decide) ?_
  refine nv_add hx hb d_L_law_781 ?_
  refine nv_sld hx hb hX hbl hS (by omega) hL d_L_law_782 ?_
  refine lv_aload_n hx hb d_L_law_783 rfl (lv_at hl 1 rfl) ?_
  refine lv_iload hx hb d_L_law_784 (lv_at hl 5 rfl) ?_
  refine lv_iconst (v := nI 2) hx hb d_L_law_786 (by decide) ?_
  refine nv_add hx hb d_L_law_787 ?_
  refine nv_sld hx hb hX hbl hS (by omega) hL d_L_law_788 ?_
  refine lw_go (va_runV (As := [.int (xs ((6 * t) + 1)), .int (xs ((6 * t) + 2))]) (rest := []) ⟨hx, hb, hml, hown, hts⟩ (c_M_order l dC dI H.size cI cZ r S th (t + 1) hI (xs (6 * t + 1)) (xs (6 * t + 2)) hV.1 ) (cwV 2 hts (gi_V wd_760 wd_761 wd_762 wd_5 wd_763) rfl rfl rfl (by decide +kernel) ⟨Nat.le_of_ble_eq_true rfl, Nat.le_of_ble_eq_true rfl⟩) (wr_preV hKM (P_l hP) (D_l hD) (ci := 3) (q0 := 0) rfl rfl) rfl rfl hl.1 rfl (lv_room (Nat.le_of_ble_eq_true rfl)) d_L_law_789 ⟨show _ ≤ 601024 by omega, show _ ≤ 7293034 by omega⟩) hP hD hS hA wM_adr (fun H locs nP nD nS => ?_)
  replace hP := nP
  replace hD := nD
  replace hS := nS
  clear nP nD nS
  have hV9 : Iv (t + 1) (op_order S (xs (6 * t + 1)) (xs (6 * t + 2))).2.2 := Iv_order hV 
  refine W.eq (g2 := F0 m 792 ls [.int ((op_order S (xs (6 * t + 1)) (xs (6 * t + 2))).2.1)]) rfl ?_
  refine lv_istore (lv' := [(6, .int ((op_order S (xs (6 * t + 1)) (xs (6 * t + 2))).2.1)), (5, .int (nI (op_order S (xs (6 * t + 1)) (xs (6 * t + 2))).1)), (0, .ref b), (1, .ref (q 0)), (2, .ref (r 0)), (3, .ref qo), (4, .int (nI (6 * t)))]) hx hb d_L_law_792 hl (by decide) rfl (fun ls hl => ?_)
  refine lv_aload_n hx hb d_L_law_794 rfl (lv_at hl 4 rfl) ?_
  refine pu_go (va_runV (As := []) (rest := []) ⟨hx, hb, hml, hown, hts⟩ (c_M_thrown l dC dI cI cZ r (op_order S (xs (6 * t + 1)) (xs (6 * t + 2))).2.2 (nI (op_order S (xs (6 * t + 1)) (xs (6 * t + 2))).1) (t + 1) hV9.1.1) (cwV 0 hts (gi_V wd_668 wd_669 wd_670 wd_5 wd_671) rfl rfl rfl (by decide +kernel) ⟨Nat.le_of_ble_eq_true rfl, Nat.le_of_ble_eq_true rfl⟩) (pu_preV hKM (P_l hP) (ci := 3) (q0 := 0) rfl rfl) rfl rfl hl.1 rfl (lv_room (Nat.le_of_ble_eq_true rfl)) d_L_law_795 ⟨show _ ≤ 601024 by omega, show _ ≤ 7293034 by omega⟩) ?_
  refine lv_iload hx hb d_L_law_798 (lv_at hl 1 rfl) ?_
  refine lv_icmp_eq (tgt := 805) hx hb d_L_law_800 (by decide) (fun c800 => ?_) (fun c800 => ?_)
  · refine lv_iload hx hb d_L_law_805 (lv_at hl 1 rfl) ?_
    refine lv_if_ne (tgt := 822) hx hb d_L_law_807 (by decide) (fun c807 => ?_) (fun c807 => ?_)
    · refine lv_goto (tgt := 1768) hx hb d_L_law_822 (by decide) ?_
      refine W.widen (k := cells + 8) (n := slots + 48) (by omega) (by omega) ?_
      exact k _ _ _ _ _ _ ⟨hV9, P_swap hP, D_swap hD, hS, lv_sub hl [2, 3, 4, 5, 6] rfl⟩
    · have h0 : (op_order S (xs (6 * t + 1)) (xs (6 * t + 2))).1 = 0 := z_of lt_order c807
      refine lv_aload_n hx hb d_L_law_810 rfl (lv_at hl 5 rfl) ?_
      refine lv_iconst (v := nI 0) hx hb d_L_law_811 (by decide) ?_
      refine lw_out (o := (op_order S (xs (6 * t + 1)) (xs (6 * t + 2)))) (f := f) hx hb (hK.sub (tys' := [(cJ, .long)]) [2] rfl) (P_r (P_r hP)) h0 d_L_law_812 ?_
      refine lv_iload hx hb d_L_law_813 (lv_at hl 0 rfl) ?_
      refine lv_i2l (v := ((op_order S (xs (6 * t + 1)) (xs (6 * t + 2))).2.1).toInt64) hx hb d_L_law_815 rfl ?_
      refine lw_cmp hx hb (rfl) d_L_law_816 ?_
      refine lv_if_eq (tgt := 822) hx hb d_L_law_817 (by decide) (fun c817 => ?_) (fun c817 => ?_)
      · refine lv_goto (tgt := 1768) hx hb d_L_law_822 (by decide) ?_
        refine W.widen (k := cells + 8) (n := slots + 48) (by omega) (by omega) ?_
        exact k _ _ _ _ _ _ ⟨hV9, P_swap hP, D_swap hD, hS, lv_sub hl [2, 3, 4, 5, 6] rfl⟩
      · exact absurd rfl c817
  · exact absurd rfl c800
set_option maxHeartbeats 4000000 in
set_option maxRecDepth 100000 in
theorem k_deliver {p : Program} {l : Launch} {e : Env} {s : State} {m : MethodId} {below : List Frame} {meth : Method} {c : Code} {b L : Nat} {xs : Nat → Int32} {dC : Nat → ClassId} {dI : Nat → Nat → Nat} {cI cZ cJ : ClassId} (C0 : lC p l s m meth c b L xs dC dI cI cZ cJ) {q r : Nat → Nat} {qo t : Nat} {S : St} {th : Int32} {f : Nat → Int64} {H : Heap} {locs : List Loc} {ls : Array Slot} {cells slots : Nat} (ht : t + 1 ≤ 512) (hj : 6 * t + 6 ≤ L) (hcs : cells + 8 ≤ 601024 ∧ slots + 48 ≤ 7293034)
    (G : lG s dC dI cI cZ cJ b q r qo t t S th f H locs ls) (k : lK p l e s m below meth c dC dI cI cZ cJ b q r qo t (cells + 8) (slots + 48)) : W p l e room_1 s m #[Value.ref b] below meth c H locs cells slots (lw_Z below #[Value.ref b] s) (F0 m 825 ls []) := by
  obtain ⟨⟨hx, hb, hr, hml, hown, hts0, hX, hbl, hlocks, hgv⟩, hst, hK, hG0, hN, hL⟩ := C0
  have hts := bg_of hts0
  have hown : s.vm.findClass R_L = some m.cls := hown
  obtain ⟨hV0, hP, hD, hS, hl⟩ := G
  obtain ⟨hV, hou, hwa⟩ := Iv_up hV0 ht
  have hA : ∀ q : Nat, s.heap.size ≤ q → lA s q := fun _ h => h
  have hG : gG (lA s) s H := gG_H hG0 hS.2.1
  have hI := hV.1.1
  have hKM := hK.sub (tys' := [(cI, .int), (cZ, .boolean)]) [0, 1] rfl
  refine lv_aload_n hx hb d_L_law_825 rfl (lv_at hl 1 rfl) ?_
  refine lv_aload_n hx hb d_L_law_826 rfl (lv_at hl 0 rfl) ?_
  refine lv_iload hx hb d_L_law_827 (lv_at hl 4 rfl) ?_
  refine lv_iconst (v := nI 1) hx hb d_L_law_829 (by decide) ?_
  refine nv_add hx hb d_L_law_830 ?_
  refine nv_sld hx hb hX hbl hS (by omega) hL d_L_law_831 ?_
  refine lv_aload_n hx hb d_L_law_832 rfl (lv_at hl 0 rfl) ?_
  refine lv_iload hx hb d_L_law_833 (lv_at hl 4 rfl) ?_
  refine lv_iconst (v := nI 2) hx hb d_L_law_835 (by decide) ?_
  refine nv_add hx hb d_L_law_836 ?_
  refine nv_sld hx hb hX hbl hS (by omega) hL d_L_law_837 ?_
  refine lv_aload_n hx hb d_L_law_838 rfl (lv_at hl 3 rfl) ?_
  refine lw_go (vx_runSW (As := [.ref (q 0), .int (xs ((6 * t) + 1)), .int (xs ((6 * t) + 2)), .ref qo]) (rest := []) ⟨hx, hb, hml, hown, hts⟩ (c_L_deliver l hst dC dI (lA s) H.size cI q cJ qo f S (t + 1) hI (xs (6 * t + 1)) (xs (6 * t + 2)) ) (vx_cwSW 4 hts (gi_SW wd_406 wd_407 wd_0 wd_408) rfl rfl rfl (by decide +kernel) ⟨Nat.le_of_ble_eq_true rfl, Nat.le_of_ble_eq_true rfl⟩) (wl_preS (hK.sub (tys' := [(cI, .int), (cJ, .long)]) [0, 2] rfl) (P_l hP) (D_l hD) hG hN) rfl rfl hl.1 rfl (lv_room (Nat.le_of_ble_eq_true rfl)) d_L_law_839 ⟨show _ ≤ 601024 by omega, show _ ≤ 7293034 by omega⟩) hP hD hS hA xo_adr (fun H locs nP nD nS => ?_)
  replace hP := P_swap nP
  replace hD := D_swap nD
  replace hS := nS
  clear nP nD nS hG
  refine W.eq (g2 := F0 m 842 ls [.int (nI (op_deliver S (xs (6 * t + 1)) (xs (6 * t + 2))).1)]) rfl ?_
  refine lv_istore (lv' := [(5, .int (nI (op_deliver S (xs (6 * t + 1)) (xs (6 * t + 2))).1)), (0, .ref b), (1, .ref (q 0)), (2, .ref (r 0)), (3, .ref qo), (4, .int (nI (6 * t)))]) hx hb d_L_law_842 hl (by decide) rfl (fun ls hl => ?_)
  refine lv_aload_n hx hb d_L_law_844 rfl (lv_at hl 3 rfl) ?_
  refine lv_aload_n hx hb d_L_law_845 rfl (lv_at hl 1 rfl) ?_
  refine lv_iload hx hb d_L_law_846 (lv_at hl 5 rfl) ?_
  refine lv_iconst (v := nI 1) hx hb d_L_law_848 (by decide) ?_
  refine nv_add hx hb d_L_law_849 ?_
  refine nv_sld hx hb hX hbl hS (by omega) hL d_L_law_850 ?_
  refine lv_aload_n hx hb d_L_law_851 rfl (lv_at hl 1 rfl) ?_
  refine lv_iload hx hb d_L_law_852 (lv_at hl 5 rfl) ?_
  refine lv_iconst (v := nI 2) hx hb d_L_law_854 (by decide) ?_
  refine nv_add hx hb d_L_law_855 ?_
  refine nv_sld hx hb hX hbl hS (by omega) hL d_L_law_856 ?_
  refine lw_go (va_runV (As := [.int (xs ((6 * t) + 1)), .int (xs ((6 * t) + 2))]) (rest := []) ⟨hx, hb, hml, hown, hts⟩ (c_M_deliver l dC dI H.size cI cZ r S th (t + 1) hI (xs (6 * t + 1)) (xs (6 * t + 2)) hV.1 ) (cwV 2 hts (gi_V wd_764 wd_765 wd_766 wd_5 wd_767) rfl rfl rfl (by decide +kernel) ⟨Nat.le_of_ble_eq_true rfl, Nat.le_of_ble_eq_true rfl⟩) (wr_preV hKM (P_l hP) (D_l hD) (ci := 3) (q0 := 0) rfl rfl) rfl rfl hl.1 rfl (lv_room (Nat.le_of_ble_eq_true rfl)) d_L_law_857 ⟨show _ ≤ 601024 by omega, show _ ≤ 7293034 by omega⟩) hP hD hS hA wM_adr (fun H locs nP nD nS => ?_)
  replace hP := nP
  replace hD := nD
  replace hS := nS
  clear nP nD nS
  have hV9 : Iv (t + 1) (op_deliver S (xs (6 * t + 1)) (xs (6 * t + 2))).2.2 := Iv_deliver hV 
  refine W.eq (g2 := F0 m 860 ls [.int ((op_deliver S (xs (6 * t + 1)) (xs (6 * t + 2))).2.1)]) rfl ?_
  refine lv_istore (lv' := [(6, .int ((op_deliver S (xs (6 * t + 1)) (xs (6 * t + 2))).2.1)), (5, .int (nI (op_deliver S (xs (6 * t + 1)) (xs (6 * t + 2))).1)), (0, .ref b), (1, .ref (q 0)), (2, .ref (r 0)), (3, .ref qo), (4, .int (nI (6 * t)))]) hx hb d_L_law_860 hl (by decide) rfl (fun ls hl => ?_)
  refine lv_aload_n hx hb d_L_law_862 rfl (lv_at hl 4 rfl) ?_
  refine pu_go (va_runV (As := []) (rest := []) ⟨hx, hb, hml, hown, hts⟩ (c_M_thrown l dC dI cI cZ r (op_deliver S (xs (6 * t + 1)) (xs (6 * t + 2))).2.2 (nI (op_deliver S (xs (6 * t + 1)) (xs (6 * t + 2))).1) (t + 1) hV9.1.1) (cwV 0 hts (gi_V wd_668 wd_669 wd_670 wd_5 wd_671) rfl rfl rfl (by decide +kernel) ⟨Nat.le_of_ble_eq_true rfl, Nat.le_of_ble_eq_true rfl⟩) (pu_preV hKM (P_l hP) (ci := 3) (q0 := 0) rfl rfl) rfl rfl hl.1 rfl (lv_room (Nat.le_of_ble_eq_true rfl)) d_L_law_863 ⟨show _ ≤ 601024 by omega, show _ ≤ 7293034 by omega⟩) ?_
  refine lv_iload hx hb d_L_law_866 (lv_at hl 1 rfl) ?_
  refine lv_icmp_eq (tgt := 873) hx hb d_L_law_868 (by decide) (fun c868 => ?_) (fun c868 => ?_)
  · refine lv_iload hx hb d_L_law_873 (lv_at hl 1 rfl) ?_
    refine lv_if_ne (tgt := 890) hx hb d_L_law_875 (by decide) (fun c875 => ?_) (fun c875 => ?_)
    · refine lv_goto (tgt := 1768) hx hb d_L_law_890 (by decide) ?_
      refine W.widen (k := cells + 8) (n := slots + 48) (by omega) (by omega) ?_
      exact k _ _ _ _ _ _ ⟨hV9, P_swap hP, D_swap hD, hS, lv_sub hl [2, 3, 4, 5, 6] rfl⟩
    · have h0 : (op_deliver S (xs (6 * t + 1)) (xs (6 * t + 2))).1 = 0 := z_of lt_deliver c875
      refine lv_aload_n hx hb d_L_law_878 rfl (lv_at hl 5 rfl) ?_
      refine lv_iconst (v := nI 0) hx hb d_L_law_879 (by decide) ?_
      refine lw_out (o := (op_deliver S (xs (6 * t + 1)) (xs (6 * t + 2)))) (f := f) hx hb (hK.sub (tys' := [(cJ, .long)]) [2] rfl) (P_r (P_r hP)) h0 d_L_law_880 ?_
      refine lv_iload hx hb d_L_law_881 (lv_at hl 0 rfl) ?_
      refine lv_i2l (v := ((op_deliver S (xs (6 * t + 1)) (xs (6 * t + 2))).2.1).toInt64) hx hb d_L_law_883 rfl ?_
      refine lw_cmp hx hb (rfl) d_L_law_884 ?_
      refine lv_if_eq (tgt := 890) hx hb d_L_law_885 (by decide) (fun c885 => ?_) (fun c885 => ?_)
      · refine lv_goto (tgt := 1768) hx hb d_L_law_890 (by decide) ?_
        refine W.widen (k := cells + 8) (n := slots + 48) (by omega) (by omega) ?_
        exact k _ _ _ _ _ _ ⟨hV9, P_swap hP, D_swap hD, hS, lv_sub hl [2, 3, 4, 5, 6] rfl⟩
      · exact absurd rfl c885
  · exact absurd rfl c868
set_option maxHeartbeats 4000000 in
set_option maxRecDepth 100000 in
theorem k_emergency {p : Program} {l : Launch} {e : Env} {s : State} {m : MethodId} {below : List Frame} {meth : Method} {c : Code} {b L : Nat} {xs : Nat → Int32} {dC : Nat → ClassId} {dI : Nat → Nat → Nat} {cI cZ cJ : ClassId} (C0 : lC p l s m meth c b L xs dC dI cI cZ cJ) {q r : Nat → Nat} {qo t : Nat} {S : St} {th : Int32} {f : Nat → Int64} {H : Heap} {locs : List Loc} {ls : Array Slot} {cells slots : Nat} (ht : t + 1 ≤ 512) (hj : 6 * t + 6 ≤ L) (hcs : cells + 8 ≤ 601024 ∧ slots + 48 ≤ 7293034)
    (G : lG s dC dI cI cZ cJ b q r qo t t S th f H locs ls) (k : lK p l e s m below meth c dC dI cI cZ cJ b q r qo t (cells + 8) (slots + 48)) : W p l e room_1 s m #[Value.ref b] below meth c H locs cells slots (lw_Z below #[Value.ref b] s) (F0 m 893 ls []) := by
  obtain ⟨⟨hx, hb, hr, hml, hown, hts0, hX, hbl, hlocks, hgv⟩, hst, hK, hG0, hN, hL⟩ := C0
  have hts := bg_of hts0
  have hown : s.vm.findClass R_L = some m.cls := hown
  obtain ⟨hV0, hP, hD, hS, hl⟩ := G
  obtain ⟨hV, hou, hwa⟩ := Iv_up hV0 ht
  have hA : ∀ q : Nat, s.heap.size ≤ q → lA s q := fun _ h => h
  have hG : gG (lA s) s H := gG_H hG0 hS.2.1
  have hI := hV.1.1
  have hKM := hK.sub (tys' := [(cI, .int), (cZ, .boolean)]) [0, 1] rfl
  refine lv_aload_n hx hb d_L_law_893 rfl (lv_at hl 1 rfl) ?_
  refine lv_aload_n hx hb d_L_law_894 rfl (lv_at hl 0 rfl) ?_
  refine lv_iload hx hb d_L_law_895 (lv_at hl 4 rfl) ?_
  refine lv_iconst (v := nI 1) hx hb d_L_law_897 (by decide) ?_
  refine nv_add hx hb d_L_law_898 ?_
  refine nv_sld hx hb hX hbl hS (by omega) hL d_L_law_899 ?_
  refine lv_aload_n hx hb d_L_law_900 rfl (lv_at hl 0 rfl) ?_
  refine lv_iload hx hb d_L_law_901 (lv_at hl 4 rfl) ?_
  refine lv_iconst (v := nI 2) hx hb d_L_law_903 (by decide) ?_
  refine nv_add hx hb d_L_law_904 ?_
  refine nv_sld hx hb hX hbl hS (by omega) hL d_L_law_905 ?_
  refine lv_aload_n hx hb d_L_law_906 rfl (lv_at hl 0 rfl) ?_
  refine lv_iload hx hb d_L_law_907 (lv_at hl 4 rfl) ?_
  refine lv_iconst (v := nI 3) hx hb d_L_law_909 (by decide) ?_
  refine nv_add hx hb d_L_law_910 ?_
  refine nv_sld hx hb hX hbl hS (by omega) hL d_L_law_911 ?_
  refine lv_aload_n hx hb d_L_law_912 rfl (lv_at hl 0 rfl) ?_
  refine lv_iload hx hb d_L_law_913 (lv_at hl 4 rfl) ?_
  refine lv_iconst (v := nI 4) hx hb d_L_law_915 (by decide) ?_
  refine nv_add hx hb d_L_law_916 ?_
  refine nv_sld hx hb hX hbl hS (by omega) hL d_L_law_917 ?_
  refine lv_aload_n hx hb d_L_law_918 rfl (lv_at hl 3 rfl) ?_
  refine lw_go (vx_runSW (As := [.ref (q 0), .int (xs ((6 * t) + 1)), .int (xs ((6 * t) + 2)), .int (xs ((6 * t) + 3)), .int (xs ((6 * t) + 4)), .ref qo]) (rest := []) ⟨hx, hb, hml, hown, hts⟩ (c_L_emergency l hst dC dI (lA s) H.size cI q cJ qo f S (t + 1) hI (xs (6 * t + 1)) (xs (6 * t + 2)) (xs (6 * t + 3)) (xs (6 * t + 4)) ) (vx_cwSW 6 hts (gi_SW wd_415 wd_416 wd_0 wd_417) rfl rfl rfl (by decide +kernel) ⟨Nat.le_of_ble_eq_true rfl, Nat.le_of_ble_eq_true rfl⟩) (wl_preS (hK.sub (tys' := [(cI, .int), (cJ, .long)]) [0, 2] rfl) (P_l hP) (D_l hD) hG hN) rfl rfl hl.1 rfl (lv_room (Nat.le_of_ble_eq_true rfl)) d_L_law_919 ⟨show _ ≤ 601024 by omega, show _ ≤ 7293034 by omega⟩) hP hD hS hA xo_adr (fun H locs nP nD nS => ?_)
  replace hP := P_swap nP
  replace hD := D_swap nD
  replace hS := nS
  clear nP nD nS hG
  refine W.eq (g2 := F0 m 922 ls [.int (nI (op_emergency S (xs (6 * t + 1)) (xs (6 * t + 2)) (xs (6 * t + 3)) (xs (6 * t + 4))).1)]) rfl ?_
  refine lv_istore (lv' := [(5, .int (nI (op_emergency S (xs (6 * t + 1)) (xs (6 * t + 2)) (xs (6 * t + 3)) (xs (6 * t + 4))).1)), (0, .ref b), (1, .ref (q 0)), (2, .ref (r 0)), (3, .ref qo), (4, .int (nI (6 * t)))]) hx hb d_L_law_922 hl (by decide) rfl (fun ls hl => ?_)
  refine lv_aload_n hx hb d_L_law_924 rfl (lv_at hl 3 rfl) ?_
  refine lv_aload_n hx hb d_L_law_925 rfl (lv_at hl 1 rfl) ?_
  refine lv_iload hx hb d_L_law_926 (lv_at hl 5 rfl) ?_
  refine lv_iconst (v := nI 1) hx hb d_L_law_928 (by decide) ?_
  refine nv_add hx hb d_L_law_929 ?_
  refine nv_sld hx hb hX hbl hS (by omega) hL d_L_law_930 ?_
  refine lv_aload_n hx hb d_L_law_931 rfl (lv_at hl 1 rfl) ?_
  refine lv_iload hx hb d_L_law_932 (lv_at hl 5 rfl) ?_
  refine lv_iconst (v := nI 2) hx hb d_L_law_934 (by decide) ?_
  refine nv_add hx hb d_L_law_935 ?_
  refine nv_sld hx hb hX hbl hS (by omega) hL d_L_law_936 ?_
  refine lv_aload_n hx hb d_L_law_937 rfl (lv_at hl 1 rfl) ?_
  refine lv_iload hx hb d_L_law_938 (lv_at hl 5 rfl) ?_
  refine lv_iconst (v := nI 3) hx hb d_L_law_940 (by decide) ?_
  refine nv_add hx hb d_L_law_941 ?_
  refine nv_sld hx hb hX hbl hS (by omega) hL d_L_law_942 ?_
  refine lv_aload_n hx hb d_L_law_943 rfl (lv_at hl 1 rfl) ?_
  refine lv_iload hx hb d_L_law_944 (lv_at hl 5 rfl) ?_
  refine lv_iconst (v := nI 4) hx hb d_L_law_946 (by decide) ?_
  refine nv_add hx hb d_L_law_947 ?_
  refine nv_sld hx hb hX hbl hS (by omega) hL d_L_law_948 ?_
  refine lw_go (va_runV (As := [.int (xs ((6 * t) + 1)), .int (xs ((6 * t) + 2)), .int (xs ((6 * t) + 3)), .int (xs ((6 * t) + 4))]) (rest := []) ⟨hx, hb, hml, hown, hts⟩ (c_M_emergency l dC dI H.size cI cZ r S th (t + 1) hI (xs (6 * t + 1)) (xs (6 * t + 2)) (xs (6 * t + 3)) (xs (6 * t + 4)) hV.1 ) (cwV 4 hts (gi_V wd_768 wd_769 wd_770 wd_5 wd_771) rfl rfl rfl (by decide +kernel) ⟨Nat.le_of_ble_eq_true rfl, Nat.le_of_ble_eq_true rfl⟩) (wr_preV hKM (P_l hP) (D_l hD) (ci := 3) (q0 := 0) rfl rfl) rfl rfl hl.1 rfl (lv_room (Nat.le_of_ble_eq_true rfl)) d_L_law_949 ⟨show _ ≤ 601024 by omega, show _ ≤ 7293034 by omega⟩) hP hD hS hA wM_adr (fun H locs nP nD nS => ?_)
  replace hP := nP
  replace hD := nD
  replace hS := nS
  clear nP nD nS
  have hV9 : Iv (t + 1) (op_emergency S (xs (6 * t + 1)) (xs (6 * t + 2)) (xs (6 * t + 3)) (xs (6 * t + 4))).2.2 := Iv_emergency hV 
  refine W.eq (g2 := F0 m 952 ls [.int ((op_emergency S (xs (6 * t + 1)) (xs (6 * t + 2)) (xs (6 * t + 3)) (xs (6 * t + 4))).2.1)]) rfl ?_
  refine lv_istore (lv' := [(6, .int ((op_emergency S (xs (6 * t + 1)) (xs (6 * t + 2)) (xs (6 * t + 3)) (xs (6 * t + 4))).2.1)), (5, .int (nI (op_emergency S (xs (6 * t + 1)) (xs (6 * t + 2)) (xs (6 * t + 3)) (xs (6 * t + 4))).1)), (0, .ref b), (1, .ref (q 0)), (2, .ref (r 0)), (3, .ref qo), (4, .int (nI (6 * t)))]) hx hb d_L_law_952 hl (by decide) rfl (fun ls hl => ?_)
  refine lv_aload_n hx hb d_L_law_954 rfl (lv_at hl 4 rfl) ?_
  refine pu_go (va_runV (As := []) (rest := []) ⟨hx, hb, hml, hown, hts⟩ (c_M_thrown l dC dI cI cZ r (op_emergency S (xs (6 * t + 1)) (xs (6 * t + 2)) (xs (6 * t + 3)) (xs (6 * t + 4))).2.2 (nI (op_emergency S (xs (6 * t + 1)) (xs (6 * t + 2)) (xs (6 * t + 3)) (xs (6 * t + 4))).1) (t + 1) hV9.1.1) (cwV 0 hts (gi_V wd_668 wd_669 wd_670 wd_5 wd_671) rfl rfl rfl (by decide +kernel) ⟨Nat.le_of_ble_eq_true rfl, Nat.le_of_ble_eq_true rfl⟩) (pu_preV hKM (P_l hP) (ci := 3) (q0 := 0) rfl rfl) rfl rfl hl.1 rfl (lv_room (Nat.le_of_ble_eq_true rfl)) d_L_law_955 ⟨show _ ≤ 601024 by omega, show _ ≤ 7293034 by omega⟩) ?_
  refine lv_iload hx hb d_L_law_958 (lv_at hl 1 rfl) ?_
  refine lv_icmp_eq (tgt := 965) hx hb d_L_law_960 (by decide) (fun c960 => ?_) (fun c960 => ?_)
  · refine lv_iload hx hb d_L_law_965 (lv_at hl 1 rfl) ?_
    refine lv_if_ne (tgt := 982) hx hb d_L_law_967 (by decide) (fun c967 => ?_) (fun c967 => ?_)
    · refine lv_goto (tgt := 1768) hx hb d_L_law_982 (by decide) ?_
      refine W.widen (k := cells + 8) (n := slots + 48) (by omega) (by omega) ?_
      exact k _ _ _ _ _ _ ⟨hV9, P_swap hP, D_swap hD, hS, lv_sub hl [2, 3, 4, 5, 6] rfl⟩
    · have h0 : (op_emergency S (xs (6 * t + 1)) (xs (6 * t + 2)) (xs (6 * t + 3)) (xs (6 * t + 4))).1 = 0 := z_of lt_emergency c967
      refine lv_aload_n hx hb d_L_law_970 rfl (lv_at hl 5 rfl) ?_
      refine lv_iconst (v := nI 0) hx hb d_L_law_971 (by decide) ?_
      refine lw_out (o := (op_emergency S (xs (6 * t + 1)) (xs (6 * t + 2)) (xs (6 * t + 3)) (xs (6 * t + 4)))) (f := f) hx hb (hK.sub (tys' := [(cJ, .long)]) [2] rfl) (P_r (P_r hP)) h0 d_L_law_972 ?_
      refine lv_iload hx hb d_L_law_973 (lv_at hl 0 rfl) ?_
      refine lv_i2l (v := ((op_emergency S (xs (6 * t + 1)) (xs (6 * t + 2)) (xs (6 * t + 3)) (xs (6 * t + 4))).2.1).toInt64) hx hb d_L_law_975 rfl ?_
      refine lw_cmp hx hb (rfl) d_L_law_976 ?_
      refine lv_if_eq (tgt := 982) hx hb d_L_law_977 (by decide) (fun c977 => ?_) (fun c977 => ?_)
      · refine lv_goto (tgt := 1768) hx hb d_L_law_982 (by decide) ?_
        refine W.widen (k := cells + 8) (n := slots + 48) (by omega) (by omega) ?_
        exact k _ _ _ _ _ _ ⟨hV9, P_swap hP, D_swap hD, hS, lv_sub hl [2, 3, 4, 5, 6] rfl⟩
      · exact absurd rfl c977
  · exact absurd rfl c960
set_option maxHeartbeats 4000000 in
set_option maxRecDepth 100000 in
theorem k_second {p : Program} {l : Launch} {e : Env} {s : State} {m : MethodId} {below : List Frame} {meth : Method} {c : Code} {b L : Nat} {xs : Nat → Int32} {dC : Nat → ClassId} {dI : Nat → Nat → Nat} {cI cZ cJ : ClassId} (C0 : lC p l s m meth c b L xs dC dI cI cZ cJ) {q r : Nat → Nat} {qo t : Nat} {S : St} {th : Int32} {f : Nat → Int64} {H : Heap} {locs : List Loc} {ls : Array Slot} {cells slots : Nat} (ht : t + 1 ≤ 512) (hj : 6 * t + 6 ≤ L) (hcs : cells + 8 ≤ 601024 ∧ slots + 48 ≤ 7293034)
    (G : lG s dC dI cI cZ cJ b q r qo t t S th f H locs ls) (k : lK p l e s m below meth c dC dI cI cZ cJ b q r qo t (cells + 8) (slots + 48)) : W p l e room_1 s m #[Value.ref b] below meth c H locs cells slots (lw_Z below #[Value.ref b] s) (F0 m 985 ls []) := by
  obtain ⟨⟨hx, hb, hr, hml, hown, hts0, hX, hbl, hlocks, hgv⟩, hst, hK, hG0, hN, hL⟩ := C0
  have hts := bg_of hts0
  have hown : s.vm.findClass R_L = some m.cls := hown
  obtain ⟨hV0, hP, hD, hS, hl⟩ := G
  obtain ⟨hV, hou, hwa⟩ := Iv_up hV0 ht
  have hA : ∀ q : Nat, s.heap.size ≤ q → lA s q := fun _ h => h
  have hG : gG (lA s) s H := gG_H hG0 hS.2.1
  have hI := hV.1.1
  have hKM := hK.sub (tys' := [(cI, .int), (cZ, .boolean)]) [0, 1] rfl
  refine lv_aload_n hx hb d_L_law_985 rfl (lv_at hl 1 rfl) ?_
  refine lv_aload_n hx hb d_L_law_986 rfl (lv_at hl 0 rfl) ?_
  refine lv_iload hx hb d_L_law_987 (lv_at hl 4 rfl) ?_
  refine lv_iconst (v := nI 1) hx hb d_L_law_989 (by decide) ?_
  refine nv_add hx hb d_L_law_990 ?_
  refine nv_sld hx hb hX hbl hS (by omega) hL d_L_law_991 ?_
  refine lv_aload_n hx hb d_L_law_992 rfl (lv_at hl 0 rfl) ?_
  refine lv_iload hx hb d_L_law_993 (lv_at hl 4 rfl) ?_
  refine lv_iconst (v := nI 2) hx hb d_L_law_995 (by decide) ?_
  refine nv_add hx hb d_L_law_996 ?_
  refine nv_sld hx hb hX hbl hS (by omega) hL d_L_law_997 ?_
  refine lv_aload_n hx hb d_L_law_998 rfl (lv_at hl 3 rfl) ?_
  refine lw_go (vx_runSW (As := [.ref (q 0), .int (xs ((6 * t) + 1)), .int (xs ((6 * t) + 2)), .ref qo]) (rest := []) ⟨hx, hb, hml, hown, hts⟩ (c_L_second l hst dC dI (lA s) H.size cI q cJ qo f S (t + 1) hI (xs (6 * t + 1)) (xs (6 * t + 2)) ) (vx_cwSW 4 hts (gi_SW wd_426 wd_427 wd_0 wd_428) rfl rfl rfl (by decide +kernel) ⟨Nat.le_of_ble_eq_true rfl, Nat.le_of_ble_eq_true rfl⟩) (wl_preS (hK.sub (tys' := [(cI, .int), (cJ, .long)]) [0, 2] rfl) (P_l hP) (D_l hD) hG hN) rfl rfl hl.1 rfl (lv_room (Nat.le_of_ble_eq_true rfl)) d_L_law_999 ⟨show _ ≤ 601024 by omega, show _ ≤ 7293034 by omega⟩) hP hD hS hA xo_adr (fun H locs nP nD nS => ?_)
  replace hP := P_swap nP
  replace hD := D_swap nD
  replace hS := nS
  clear nP nD nS hG
  refine W.eq (g2 := F0 m 1002 ls [.int (nI (op_second S (xs (6 * t + 1)) (xs (6 * t + 2))).1)]) rfl ?_
  refine lv_istore (lv' := [(5, .int (nI (op_second S (xs (6 * t + 1)) (xs (6 * t + 2))).1)), (0, .ref b), (1, .ref (q 0)), (2, .ref (r 0)), (3, .ref qo), (4, .int (nI (6 * t)))]) hx hb d_L_law_1002 hl (by decide) rfl (fun ls hl => ?_)
  refine lv_aload_n hx hb d_L_law_1004 rfl (lv_at hl 3 rfl) ?_
  refine lv_aload_n hx hb d_L_law_1005 rfl (lv_at hl 1 rfl) ?_
  refine lv_iload hx hb d_L_law_1006 (lv_at hl 5 rfl) ?_
  refine lv_iconst (v := nI 1) hx hb d_L_law_1008 (by decide) ?_
  refine nv_add hx hb d_L_law_1009 ?_
  refine nv_sld hx hb hX hbl hS (by omega) hL d_L_law_1010 ?_
  refine lv_aload_n hx hb d_L_law_1011 rfl (lv_at hl 1 rfl) ?_
  refine lv_iload hx hb d_L_law_1012 (lv_at hl 5 rfl) ?_
  refine lv_iconst (v := nI 2) hx hb d_L_law_1014 (by decide) ?_
  refine nv_add hx hb d_L_law_1015 ?_
  refine nv_sld hx hb hX hbl hS (by omega) hL d_L_law_1016 ?_
  refine lw_go (va_runV (As := [.int (xs ((6 * t) + 1)), .int (xs ((6 * t) + 2))]) (rest := []) ⟨hx, hb, hml, hown, hts⟩ (c_M_second l dC dI H.size cI cZ r S th (t + 1) hI (xs (6 * t + 1)) (xs (6 * t + 2)) hV.1 ) (cwV 2 hts (gi_V wd_772 wd_773 wd_774 wd_5 wd_775) rfl rfl rfl (by decide +kernel) ⟨Nat.le_of_ble_eq_true rfl, Nat.le_of_ble_eq_true rfl⟩) (wr_preV hKM (P_l hP) (D_l hD) (ci := 3) (q0 := 0) rfl rfl) rfl rfl hl.1 rfl (lv_room (Nat.le_of_ble_eq_true rfl)) d_L_law_1017 ⟨show _ ≤ 601024 by omega, show _ ≤ 7293034 by omega⟩) hP hD hS hA wM_adr (fun H locs nP nD nS => ?_)
  replace hP := nP
  replace hD := nD
  replace hS := nS
  clear nP nD nS
  have hV9 : Iv (t + 1) (op_second S (xs (6 * t + 1)) (xs (6 * t + 2))).2.2 := Iv_second hV 
  refine W.eq (g2 := F0 m 1020 ls [.int ((op_second S (xs (6 * t + 1)) (xs (6 * t + 2))).2.1)]) rfl ?_
  refine lv_istore (lv' := [(6, .int ((op_second S (xs (6 * t + 1)) (xs (6 * t + 2))).2.1)), (5, .int (nI (op_second S (xs (6 * t + 1)) (xs (6 * t + 2))).1)), (0, .ref b), (1, .ref (q 0)), (2, .ref (r 0)), (3, .ref qo), (4, .int (nI (6 * t)))]) hx hb d_L_law_1020 hl (by decide) rfl (fun ls hl => ?_)
  refine lv_aload_n hx hb d_L_law_1022 rfl (lv_at hl 4 rfl) ?_
  refine pu_go (va_runV (As := []) (rest := []) ⟨hx, hb, hml, hown, hts⟩ (c_M_thrown l dC dI cI cZ r (op_second S (xs (6 * t + 1)) (xs (6 * t + 2))).2.2 (nI (op_second S (xs (6 * t + 1)) (xs (6 * t + 2))).1) (t + 1) hV9.1.1) (cwV 0 hts (gi_V wd_668 wd_669 wd_670 wd_5 wd_671) rfl rfl rfl (by decide +kernel) ⟨Nat.le_of_ble_eq_true rfl, Nat.le_of_ble_eq_true rfl⟩) (pu_preV hKM (P_l hP) (ci := 3) (q0 := 0) rfl rfl) rfl rfl hl.1 rfl (lv_room (Nat.le_of_ble_eq_true rfl)) d_L_law_1023 ⟨show _ ≤ 601024 by omega, show _ ≤ 7293034 by omega⟩) ?_
  refine lv_iload hx hb d_L_law_1026 (lv_at hl 1 rfl) ?_
  refine lv_icmp_eq (tgt := 1033) hx hb d_L_law_1028 (by decide) (fun c1028 => ?_) (fun c1028 => ?_)
  · refine lv_iload hx hb d_L_law_1033 (lv_at hl 1 rfl) ?_
    refine lv_if_ne (tgt := 1050) hx hb d_L_law_1035 (by decide) (fun c1035 => ?_) (fun c1035 => ?_)
    · refine lv_goto (tgt := 1768) hx hb d_L_law_1050 (by decide) ?_
      refine W.widen (k := cells + 8) (n := slots + 48) (by omega) (by omega) ?_
      exact k _ _ _ _ _ _ ⟨hV9, P_swap hP, D_swap hD, hS, lv_sub hl [2, 3, 4, 5, 6] rfl⟩
    · have h0 : (op_second S (xs (6 * t + 1)) (xs (6 * t + 2))).1 = 0 := z_of lt_second c1035
      refine lv_aload_n hx hb d_L_law_1038 rfl (lv_at hl 5 rfl) ?_
      refine lv_iconst (v := nI 0) hx hb d_L_law_1039 (by decide) ?_
      refine lw_out (o := (op_second S (xs (6 * t + 1)) (xs (6 * t + 2)))) (f := f) hx hb (hK.sub (tys' := [(cJ, .long)]) [2] rfl) (P_r (P_r hP)) h0 d_L_law_1040 ?_
      refine lv_iload hx hb d_L_law_1041 (lv_at hl 0 rfl) ?_
      refine lv_i2l (v := ((op_second S (xs (6 * t + 1)) (xs (6 * t + 2))).2.1).toInt64) hx hb d_L_law_1043 rfl ?_
      refine lw_cmp hx hb (rfl) d_L_law_1044 ?_
      refine lv_if_eq (tgt := 1050) hx hb d_L_law_1045 (by decide) (fun c1045 => ?_) (fun c1045 => ?_)
      · refine lv_goto (tgt := 1768) hx hb d_L_law_1050 (by decide) ?_
        refine W.widen (k := cells + 8) (n := slots + 48) (by omega) (by omega) ?_
        exact k _ _ _ _ _ _ ⟨hV9, P_swap hP, D_swap hD, hS, lv_sub hl [2, 3, 4, 5, 6] rfl⟩
      · exact absurd rfl c1045
  · exact absurd rfl c1028
set_option maxHeartbeats 4000000 in
set_option maxRecDepth 100000 in
theorem k_count {p : Program} {l : Launch} {e : Env} {s : State} {m : MethodId} {below : List Frame} {meth : Method} {c : Code} {b L : Nat} {xs : Nat → Int32} {dC : Nat → ClassId} {dI : Nat → Nat → Nat} {cI cZ cJ : ClassId} (C0 : lC p l s m meth c b L xs dC dI cI cZ cJ) {q r : Nat → Nat} {qo t : Nat} {S : St} {th : Int32} {f : Nat → Int64} {H : Heap} {locs : List Loc} {ls : Array Slot} {cells slots : Nat} (ht : t + 1 ≤ 512) (hj : 6 * t + 6 ≤ L) (hcs : cells + 8 ≤ 601024 ∧ slots + 48 ≤ 7293034)
    (G : lG s dC dI cI cZ cJ b q r qo t t S th f H locs ls) (k : lK p l e s m below meth c dC dI cI cZ cJ b q r qo t (cells + 8) (slots + 48)) : W p l e room_1 s m #[Value.ref b] below meth c H locs cells slots (lw_Z below #[Value.ref b] s) (F0 m 1053 ls []) := by
  obtain ⟨⟨hx, hb, hr, hml, hown, hts0, hX, hbl, hlocks, hgv⟩, hst, hK, hG0, hN, hL⟩ := C0
  have hts := bg_of hts0
  have hown : s.vm.findClass R_L = some m.cls := hown
  obtain ⟨hV0, hP, hD, hS, hl⟩ := G
  obtain ⟨hV, hou, hwa⟩ := Iv_up hV0 ht
  have hA : ∀ q : Nat, s.heap.size ≤ q → lA s q := fun _ h => h
  have hG : gG (lA s) s H := gG_H hG0 hS.2.1
  have hI := hV.1.1
  have hKM := hK.sub (tys' := [(cI, .int), (cZ, .boolean)]) [0, 1] rfl
  refine lv_aload_n hx hb d_L_law_1053 rfl (lv_at hl 1 rfl) ?_
  refine lv_aload_n hx hb d_L_law_1054 rfl (lv_at hl 0 rfl) ?_
  refine lv_iload hx hb d_L_law_1055 (lv_at hl 4 rfl) ?_
  refine lv_iconst (v := nI 1) hx hb d_L_law_1057 (by decide) ?_
  refine nv_add hx hb d_L_law_1058 ?_
  refine nv_sld hx hb hX hbl hS (by omega) hL d_L_law_1059 ?_
  refine lv_aload_n hx hb d_L_law_1060 rfl (lv_at hl 0 rfl) ?_
  refine lv_iload hx hb d_L_law_1061 (lv_at hl 4 rfl) ?_
  refine lv_iconst (v := nI 2) hx hb d_L_law_1063 (by decide) ?_
  refine nv_add hx hb d_L_law_1064 ?_
  refine nv_sld hx hb hX hbl hS (by omega) hL d_L_law_1065 ?_
  refine lv_aload_n hx hb d_L_law_1066 rfl (lv_at hl 0 rfl) ?_
  refine lv_iload hx hb d_L_law_1067 (lv_at hl 4 rfl) ?_
  refine lv_iconst (v := nI 3) hx hb d_L_law_1069 (by decide) ?_
  refine nv_add hx hb d_L_law_1070 ?_
  refine nv_sld hx hb hX hbl hS (by omega) hL d_L_law_1071 ?_
  refine lv_aload_n hx hb d_L_law_1072 rfl (lv_at hl 0 rfl) ?_
  refine lv_iload hx hb d_L_law_1073 (lv_at hl 4 rfl) ?_
  refine lv_iconst (v := nI 4) hx hb d_L_law_1075 (by decide) ?_
  refine nv_add hx hb d_L_law_1076 ?_
  refine nv_sld hx hb hX hbl hS (by omega) hL d_L_law_1077 ?_
  refine lv_aload_n hx hb d_L_law_1078 rfl (lv_at hl 3 rfl) ?_
  refine lw_go (vx_runSW (As := [.ref (q 0), .int (xs ((6 * t) + 1)), .int (xs ((6 * t) + 2)), .int (xs ((6 * t) + 3)), .int (xs ((6 * t) + 4)), .ref qo]) (rest := []) ⟨hx, hb, hml, hown, hts⟩ (c_L_count l hst dC dI (lA s) H.size cI q cJ qo f S (t + 1) hI (xs (6 * t + 1)) (xs (6 * t + 2)) (xs (6 * t + 3)) (xs (6 * t + 4)) ) (vx_cwSW 6 hts (gi_SW wd_435 wd_436 wd_0 wd_437) rfl rfl rfl (by decide +kernel) ⟨Nat.le_of_ble_eq_true rfl, Nat.le_of_ble_eq_true rfl⟩) (wl_preS (hK.sub (tys' := [(cI, .int), (cJ, .long)]) [0, 2] rfl) (P_l hP) (D_l hD) hG hN) rfl rfl hl.1 rfl (lv_room (Nat.le_of_ble_eq_true rfl)) d_L_law_1079 ⟨show _ ≤ 601024 by omega, show _ ≤ 7293034 by omega⟩) hP hD hS hA xo_adr (fun H locs nP nD nS => ?_)
  replace hP := P_swap nP
  replace hD := D_swap nD
  replace hS := nS
  clear nP nD nS hG
  refine W.eq (g2 := F0 m 1082 ls [.int (nI (op_count S (xs (6 * t + 1)) (xs (6 * t + 2)) (xs (6 * t + 3)) (xs (6 * t + 4))).1)]) rfl ?_
  refine lv_istore (lv' := [(5, .int (nI (op_count S (xs (6 * t + 1)) (xs (6 * t + 2)) (xs (6 * t + 3)) (xs (6 * t + 4))).1)), (0, .ref b), (1, .ref (q 0)), (2, .ref (r 0)), (3, .ref qo), (4, .int (nI (6 * t)))]) hx hb d_L_law_1082 hl (by decide) rfl (fun ls hl => ?_)
  refine lv_aload_n hx hb d_L_law_1084 rfl (lv_at hl 3 rfl) ?_
  refine lv_aload_n hx hb d_L_law_1085 rfl (lv_at hl 1 rfl) ?_
  refine lv_iload hx hb d_L_law_1086 (lv_at hl 5 rfl) ?_
  refine lv_iconst (v := nI 1) hx hb d_L_law_1088 (by decide) ?_
  refine nv_add hx hb d_L_law_1089 ?_
  refine nv_sld hx hb hX hbl hS (by omega) hL d_L_law_1090 ?_
  refine lv_aload_n hx hb d_L_law_1091 rfl (lv_at hl 1 rfl) ?_
  refine lv_iload hx hb d_L_law_1092 (lv_at hl 5 rfl) ?_
  refine lv_iconst (v := nI 2) hx hb d_L_law_1094 (by decide) ?_
  refine nv_add hx hb d_L_law_1095 ?_
  refine nv_sld hx hb hX hbl hS (by omega) hL d_L_law_1096 ?_
  refine lv_aload_n hx hb d_L_law_1097 rfl (lv_at hl 1 rfl) ?_
  refine lv_iload hx hb d_L_law_1098 (lv_at hl 5 rfl) ?_
  refine lv_iconst (v := nI 3) hx hb d_L_law_1100 (by decide) ?_
  refine nv_add hx hb d_L_law_1101 ?_
  refine nv_sld hx hb hX hbl hS (by omega) hL d_L_law_1102 ?_
  refine lv_aload_n hx hb d_L_law_1103 rfl (lv_at hl 1 rfl) ?_
  refine lv_iload hx hb d_L_law_1104 (lv_at hl 5 rfl) ?_
  refine lv_iconst (v := nI 4) hx hb d_L_law_1106 (by decide) ?_
  refine nv_add hx hb d_L_law_1107 ?_
  refine nv_sld hx hb hX hbl hS (by omega) hL d_L_law_1108 ?_
  refine lw_go (va_runV (As := [.int (xs ((6 * t) + 1)), .int (xs ((6 * t) + 2)), .int (xs ((6 * t) + 3)), .int (xs ((6 * t) + 4))]) (rest := []) ⟨hx, hb, hml, hown, hts⟩ (c_M_count l dC dI H.size cI cZ r S th (t + 1) hI (xs (6 * t + 1)) (xs (6 * t + 2)) (xs (6 * t + 3)) (xs (6 * t + 4)) hV.1 ) (cwV 4 hts (gi_V wd_776 wd_777 wd_778 wd_5 wd_779) rfl rfl rfl (by decide +kernel) ⟨Nat.le_of_ble_eq_true rfl, Nat.le_of_ble_eq_true rfl⟩) (wr_preV hKM (P_l hP) (D_l hD) (ci := 3) (q0 := 0) rfl rfl) rfl rfl hl.1 rfl (lv_room (Nat.le_of_ble_eq_true rfl)) d_L_law_1109 ⟨show _ ≤ 601024 by omega, show _ ≤ 7293034 by omega⟩) hP hD hS hA wM_adr (fun H locs nP nD nS => ?_)
  replace hP := nP
  replace hD := nD
  replace hS := nS
  clear nP nD nS
  have hV9 : Iv (t + 1) (op_count S (xs (6 * t + 1)) (xs (6 * t + 2)) (xs (6 * t + 3)) (xs (6 * t + 4))).2.2 := Iv_count hV 
  refine W.eq (g2 := F0 m 1112 ls [.int ((op_count S (xs (6 * t + 1)) (xs (6 * t + 2)) (xs (6 * t + 3)) (xs (6 * t + 4))).2.1)]) rfl ?_
  refine lv_istore (lv' := [(6, .int ((op_count S (xs (6 * t + 1)) (xs (6 * t + 2)) (xs (6 * t + 3)) (xs (6 * t + 4))).2.1)), (5, .int (nI (op_count S (xs (6 * t + 1)) (xs (6 * t + 2)) (xs (6 * t + 3)) (xs (6 * t + 4))).1)), (0, .ref b), (1, .ref (q 0)), (2, .ref (r 0)), (3, .ref qo), (4, .int (nI (6 * t)))]) hx hb d_L_law_1112 hl (by decide) rfl (fun ls hl => ?_)
  refine lv_aload_n hx hb d_L_law_1114 rfl (lv_at hl 4 rfl) ?_
  refine pu_go (va_runV (As := []) (rest := []) ⟨hx, hb, hml, hown, hts⟩ (c_M_thrown l dC dI cI cZ r (op_count S (xs (6 * t + 1)) (xs (6 * t + 2)) (xs (6 * t + 3)) (xs (6 * t + 4))).2.2 (nI (op_count S (xs (6 * t + 1)) (xs (6 * t + 2)) (xs (6 * t + 3)) (xs (6 * t + 4))).1) (t + 1) hV9.1.1) (cwV 0 hts (gi_V wd_668 wd_669 wd_670 wd_5 wd_671) rfl rfl rfl (by decide +kernel) ⟨Nat.le_of_ble_eq_true rfl, Nat.le_of_ble_eq_true rfl⟩) (pu_preV hKM (P_l hP) (ci := 3) (q0 := 0) rfl rfl) rfl rfl hl.1 rfl (lv_room (Nat.le_of_ble_eq_true rfl)) d_L_law_1115 ⟨show _ ≤ 601024 by omega, show _ ≤ 7293034 by omega⟩) ?_
  refine lv_iload hx hb d_L_law_1118 (lv_at hl 1 rfl) ?_
  refine lv_icmp_eq (tgt := 1125) hx hb d_L_law_1120 (by decide) (fun c1120 => ?_) (fun c1120 => ?_)
  · refine lv_iload hx hb d_L_law_1125 (lv_at hl 1 rfl) ?_
    refine lv_if_ne (tgt := 1142) hx hb d_L_law_1127 (by decide) (fun c1127 => ?_) (fun c1127 => ?_)
    · refine lv_goto (tgt := 1768) hx hb d_L_law_1142 (by decide) ?_
      refine W.widen (k := cells + 8) (n := slots + 48) (by omega) (by omega) ?_
      exact k _ _ _ _ _ _ ⟨hV9, P_swap hP, D_swap hD, hS, lv_sub hl [2, 3, 4, 5, 6] rfl⟩
    · have h0 : (op_count S (xs (6 * t + 1)) (xs (6 * t + 2)) (xs (6 * t + 3)) (xs (6 * t + 4))).1 = 0 := z_of lt_count c1127
      refine lv_aload_n hx hb d_L_law_1130 rfl (lv_at hl 5 rfl) ?_
      refine lv_iconst (v := nI 0) hx hb d_L_law_1131 (by decide) ?_
      refine lw_out (o := (op_count S (xs (6 * t + 1)) (xs (6 * t + 2)) (xs (6 * t + 3)) (xs (6 * t + 4)))) (f := f) hx hb (hK.sub (tys' := [(cJ, .long)]) [2] rfl) (P_r (P_r hP)) h0 d_L_law_1132 ?_
      refine lv_iload hx hb d_L_law_1133 (lv_at hl 0 rfl) ?_
      refine lv_i2l (v := ((op_count S (xs (6 * t + 1)) (xs (6 * t + 2)) (xs (6 * t + 3)) (xs (6 * t + 4))).2.1).toInt64) hx hb d_L_law_1135 rfl ?_
      refine lw_cmp hx hb (rfl) d_L_law_1136 ?_
      refine lv_if_eq (tgt := 1142) hx hb d_L_law_1137 (by decide) (fun c1137 => ?_) (fun c1137 => ?_)
      · refine lv_goto (tgt := 1768) hx hb d_L_law_1142 (by decide) ?_
        refine W.widen (k := cells + 8) (n := slots + 48) (by omega) (by omega) ?_
        exact k _ _ _ _ _ _ ⟨hV9, P_swap hP, D_swap hD, hS, lv_sub hl [2, 3, 4, 5, 6] rfl⟩
      · exact absurd rfl c1137
  · exact absurd rfl c1120
set_option maxHeartbeats 4000000 in
set_option maxRecDepth 100000 in
theorem k_difference {p : Program} {l : Launch} {e : Env} {s : State} {m : MethodId} {below : List Frame} {meth : Method} {c : Code} {b L : Nat} {xs : Nat → Int32} {dC : Nat → ClassId} {dI : Nat → Nat → Nat} {cI cZ cJ : ClassId} (C0 : lC p l s m meth c b L xs dC dI cI cZ cJ) {q r : Nat → Nat} {qo t : Nat} {S : St} {th : Int32} {f : Nat → Int64} {H : Heap} {locs : List Loc} {ls : Array Slot} {cells slots : Nat} (ht : t + 1 ≤ 512) (hj : 6 * t + 6 ≤ L) (hcs : cells + 8 ≤ 601024 ∧ slots + 48 ≤ 7293034)
    (G : lG s dC dI cI cZ cJ b q r qo t t S th f H locs ls) (k : lK p l e s m below meth c dC dI cI cZ cJ b q r qo t (cells + 8) (slots + 48)) : W p l e room_1 s m #[Value.ref b] below meth c H locs cells slots (lw_Z below #[Value.ref b] s) (F0 m 1145 ls []) := by
  obtain ⟨⟨hx, hb, hr, hml, hown, hts0, hX, hbl, hlocks, hgv⟩, hst, hK, hG0, hN, hL⟩ := C0
  have hts := bg_of hts0
  have hown : s.vm.findClass R_L = some m.cls := hown
  obtain ⟨hV0, hP, hD, hS, hl⟩ := G
  obtain ⟨hV, hou, hwa⟩ := Iv_up hV0 ht
  have hA : ∀ q : Nat, s.heap.size ≤ q → lA s q := fun _ h => h
  have hG : gG (lA s) s H := gG_H hG0 hS.2.1
  have hI := hV.1.1
  have hKM := hK.sub (tys' := [(cI, .int), (cZ, .boolean)]) [0, 1] rfl
  refine lv_aload_n hx hb d_L_law_1145 rfl (lv_at hl 1 rfl) ?_
  refine lv_aload_n hx hb d_L_law_1146 rfl (lv_at hl 0 rfl) ?_
  refine lv_iload hx hb d_L_law_1147 (lv_at hl 4 rfl) ?_
  refine lv_iconst (v := nI 1) hx hb d_L_law_1149 (by decide) ?_
  refine nv_add hx hb d_L_law_1150 ?_
  refine nv_sld hx hb hX hbl hS (by omega) hL d_L_law_1151 ?_
  refine lv_aload_n hx hb d_L_law_1152 rfl (lv_at hl 0 rfl) ?_
  refine lv_iload hx hb d_L_law_1153 (lv_at hl 4 rfl) ?_
  refine lv_iconst (v := nI 2) hx hb d_L_law_1155 (by decide) ?_
  refine nv_add hx hb d_L_law_1156 ?_
  refine nv_sld hx hb hX hbl hS (by omega) hL d_L_law_1157 ?_
  refine lv_aload_n hx hb d_L_law_1158 rfl (lv_at hl 3 rfl) ?_
  refine lw_go (vx_runSW (As := [.ref (q 0), .int (xs ((6 * t) + 1)), .int (xs ((6 * t) + 2)), .ref qo]) (rest := []) ⟨hx, hb, hml, hown, hts⟩ (c_L_difference l hst dC dI (lA s) H.size cI q cJ qo f S (t + 1) hI (xs (6 * t + 1)) (xs (6 * t + 2)) ) (vx_cwSW 4 hts (gi_SW wd_442 wd_443 wd_0 wd_444) rfl rfl rfl (by decide +kernel) ⟨Nat.le_of_ble_eq_true rfl, Nat.le_of_ble_eq_true rfl⟩) (wl_preS (hK.sub (tys' := [(cI, .int), (cJ, .long)]) [0, 2] rfl) (P_l hP) (D_l hD) hG hN) rfl rfl hl.1 rfl (lv_room (Nat.le_of_ble_eq_true rfl)) d_L_law_1159 ⟨show _ ≤ 601024 by omega, show _ ≤ 7293034 by omega⟩) hP hD hS hA xo_adr (fun H locs nP nD nS => ?_)
  replace hP := P_swap nP
  replace hD := D_swap nD
  replace hS := nS
  clear nP nD nS hG
  refine W.eq (g2 := F0 m 1162 ls [.int (nI (op_difference S (xs (6 * t + 1)) (xs (6 * t + 2))).1)]) rfl ?_
  refine lv_istore (lv' := [(5, .int (nI (op_difference S (xs (6 * t + 1)) (xs (6 * t + 2))).1)), (0, .ref b), (1, .ref (q 0)), (2, .ref (r 0)), (3, .ref qo), (4, .int (nI (6 * t)))]) hx hb d_L_law_1162 hl (by decide) rfl (fun ls hl => ?_)
  refine lv_aload_n hx hb d_L_law_1164 rfl (lv_at hl 3 rfl) ?_
  refine lv_aload_n hx hb d_L_law_1165 rfl (lv_at hl 1 rfl) ?_
  refine lv_iload hx hb d_L_law_1166 (lv_at hl 5 rfl) ?_
  refine lv_iconst (v := nI 1) hx hb d_L_law_1168 (by decide) ?_
  refine nv_add hx hb d_L_law_1169 ?_
  refine nv_sld hx hb hX hbl hS (by omega) hL d_L_law_1170 ?_
  refine lv_aload_n hx hb d_L_law_1171 rfl (lv_at hl 1 rfl) ?_
  refine lv_iload hx hb d_L_law_1172 (lv_at hl 5 rfl) ?_
  refine lv_iconst (v := nI 2) hx hb d_L_law_1174 (by decide) ?_
  refine nv_add hx hb d_L_law_1175 ?_
  refine nv_sld hx hb hX hbl hS (by omega) hL d_L_law_1176 ?_
  refine lw_go (va_runV (As := [.int (xs ((6 * t) + 1)), .int (xs ((6 * t) + 2))]) (rest := []) ⟨hx, hb, hml, hown, hts⟩ (c_M_difference l dC dI H.size cI cZ r S th (t + 1) hI (xs (6 * t + 1)) (xs (6 * t + 2)) hV.1 ) (cwV 2 hts (gi_V wd_780 wd_781 wd_782 wd_5 wd_783) rfl rfl rfl (by decide +kernel) ⟨Nat.le_of_ble_eq_true rfl, Nat.le_of_ble_eq_true rfl⟩) (wr_preV hKM (P_l hP) (D_l hD) (ci := 3) (q0 := 0) rfl rfl) rfl rfl hl.1 rfl (lv_room (Nat.le_of_ble_eq_true rfl)) d_L_law_1177 ⟨show _ ≤ 601024 by omega, show _ ≤ 7293034 by omega⟩) hP hD hS hA wM_adr (fun H locs nP nD nS => ?_)
  replace hP := nP
  replace hD := nD
  replace hS := nS
  clear nP nD nS
  have hV9 : Iv (t + 1) (op_difference S (xs (6 * t + 1)) (xs (6 * t + 2))).2.2 := Iv_difference hV 
  refine W.eq (g2 := F0 m 1180 ls [.int ((op_difference S (xs (6 * t + 1)) (xs (6 * t + 2))).2.1)]) rfl ?_
  refine lv_istore (lv' := [(6, .int ((op_difference S (xs (6 * t + 1)) (xs (6 * t + 2))).2.1)), (5, .int (nI (op_difference S (xs (6 * t + 1)) (xs (6 * t + 2))).1)), (0, .ref b), (1, .ref (q 0)), (2, .ref (r 0)), (3, .ref qo), (4, .int (nI (6 * t)))]) hx hb d_L_law_1180 hl (by decide) rfl (fun ls hl => ?_)
  refine lv_aload_n hx hb d_L_law_1182 rfl (lv_at hl 4 rfl) ?_
  refine pu_go (va_runV (As := []) (rest := []) ⟨hx, hb, hml, hown, hts⟩ (c_M_thrown l dC dI cI cZ r (op_difference S (xs (6 * t + 1)) (xs (6 * t + 2))).2.2 (nI (op_difference S (xs (6 * t + 1)) (xs (6 * t + 2))).1) (t + 1) hV9.1.1) (cwV 0 hts (gi_V wd_668 wd_669 wd_670 wd_5 wd_671) rfl rfl rfl (by decide +kernel) ⟨Nat.le_of_ble_eq_true rfl, Nat.le_of_ble_eq_true rfl⟩) (pu_preV hKM (P_l hP) (ci := 3) (q0 := 0) rfl rfl) rfl rfl hl.1 rfl (lv_room (Nat.le_of_ble_eq_true rfl)) d_L_law_1183 ⟨show _ ≤ 601024 by omega, show _ ≤ 7293034 by omega⟩) ?_
  refine lv_iload hx hb d_L_law_1186 (lv_at hl 1 rfl) ?_
  refine lv_icmp_eq (tgt := 1193) hx hb d_L_law_1188 (by decide) (fun c1188 => ?_) (fun c1188 => ?_)
  · refine lv_iload hx hb d_L_law_1193 (lv_at hl 1 rfl) ?_
    refine lv_if_ne (tgt := 1210) hx hb d_L_law_1195 (by decide) (fun c1195 => ?_) (fun c1195 => ?_)
    · refine lv_goto (tgt := 1768) hx hb d_L_law_1210 (by decide) ?_
      refine W.widen (k := cells + 8) (n := slots + 48) (by omega) (by omega) ?_
      exact k _ _ _ _ _ _ ⟨hV9, P_swap hP, D_swap hD, hS, lv_sub hl [2, 3, 4, 5, 6] rfl⟩
    · have h0 : (op_difference S (xs (6 * t + 1)) (xs (6 * t + 2))).1 = 0 := z_of lt_difference c1195
      refine lv_aload_n hx hb d_L_law_1198 rfl (lv_at hl 5 rfl) ?_
      refine lv_iconst (v := nI 0) hx hb d_L_law_1199 (by decide) ?_
      refine lw_out (o := (op_difference S (xs (6 * t + 1)) (xs (6 * t + 2)))) (f := f) hx hb (hK.sub (tys' := [(cJ, .long)]) [2] rfl) (P_r (P_r hP)) h0 d_L_law_1200 ?_
      refine lv_iload hx hb d_L_law_1201 (lv_at hl 0 rfl) ?_
      refine lv_i2l (v := ((op_difference S (xs (6 * t + 1)) (xs (6 * t + 2))).2.1).toInt64) hx hb d_L_law_1203 rfl ?_
      refine lw_cmp hx hb (rfl) d_L_law_1204 ?_
      refine lv_if_eq (tgt := 1210) hx hb d_L_law_1205 (by decide) (fun c1205 => ?_) (fun c1205 => ?_)
      · refine lv_goto (tgt := 1768) hx hb d_L_law_1210 (by decide) ?_
        refine W.widen (k := cells + 8) (n := slots + 48) (by omega) (by omega) ?_
        exact k _ _ _ _ _ _ ⟨hV9, P_swap hP, D_swap hD, hS, lv_sub hl [2, 3, 4, 5, 6] rfl⟩
      · exact absurd rfl c1205
  · exact absurd rfl c1188
set_option maxHeartbeats 4000000 in
set_option maxRecDepth 100000 in
theorem k_kit {p : Program} {l : Launch} {e : Env} {s : State} {m : MethodId} {below : List Frame} {meth : Method} {c : Code} {b L : Nat} {xs : Nat → Int32} {dC : Nat → ClassId} {dI : Nat → Nat → Nat} {cI cZ cJ : ClassId} (C0 : lC p l s m meth c b L xs dC dI cI cZ cJ) {q r : Nat → Nat} {qo t : Nat} {S : St} {th : Int32} {f : Nat → Int64} {H : Heap} {locs : List Loc} {ls : Array Slot} {cells slots : Nat} (ht : t + 1 ≤ 512) (hj : 6 * t + 6 ≤ L) (hcs : cells + 8 ≤ 601024 ∧ slots + 48 ≤ 7293034)
    (G : lG s dC dI cI cZ cJ b q r qo t t S th f H locs ls) (k : lK p l e s m below meth c dC dI cI cZ cJ b q r qo t (cells + 8) (slots + 48)) : W p l e room_1 s m #[Value.ref b] below meth c H locs cells slots (lw_Z below #[Value.ref b] s) (F0 m 1213 ls []) := by
  obtain ⟨⟨hx, hb, hr, hml, hown, hts0, hX, hbl, hlocks, hgv⟩, hst, hK, hG0, hN, hL⟩ := C0
  have hts := bg_of hts0
  have hown : s.vm.findClass R_L = some m.cls := hown
  obtain ⟨hV0, hP, hD, hS, hl⟩ := G
  obtain ⟨hV, hou, hwa⟩ := Iv_up hV0 ht
  have hA : ∀ q : Nat, s.heap.size ≤ q → lA s q := fun _ h => h
  have hG : gG (lA s) s H := gG_H hG0 hS.2.1
  have hI := hV.1.1
  have hKM := hK.sub (tys' := [(cI, .int), (cZ, .boolean)]) [0, 1] rfl
  refine lv_aload_n hx hb d_L_law_1213 rfl (lv_at hl 1 rfl) ?_
  refine lv_aload_n hx hb d_L_law_1214 rfl (lv_at hl 0 rfl) ?_
  refine lv_iload hx hb d_L_law_1215 (lv_at hl 4 rfl) ?_
  refine lv_iconst (v := nI 1) hx hb d_L_law_1217 (by decide) ?_
  refine nv_add hx hb d_L_law_1218 ?_
  refine nv_sld hx hb hX hbl hS (by omega) hL d_L_law_1219 ?_
  refine lv_aload_n hx hb d_L_law_1220 rfl (lv_at hl 0 rfl) ?_
  refine lv_iload hx hb d_L_law_1221 (lv_at hl 4 rfl) ?_
  refine lv_iconst (v := nI 2) hx hb d_L_law_1223 (by decide) ?_
  refine nv_add hx hb d_L_law_1224 ?_
  refine nv_sld hx hb hX hbl hS (by omega) hL d_L_law_1225 ?_
  refine lv_aload_n hx hb d_L_law_1226 rfl (lv_at hl 0 rfl) ?_
  refine lv_iload hx hb d_L_law_1227 (lv_at hl 4 rfl) ?_
  refine lv_iconst (v := nI 3) hx hb d_L_law_1229 (by decide) ?_
  refine nv_add hx hb d_L_law_1230 ?_
  refine nv_sld hx hb hX hbl hS (by omega) hL d_L_law_1231 ?_
  replace hP := P_v hP
  replace hD := D_v hD
  refine lw_go (vx_runSW (As := [.ref (q 0), .int (xs ((6 * t) + 1)), .int (xs ((6 * t) + 2)), .int (xs ((6 * t) + 3))]) (rest := []) ⟨hx, hb, hml, hown, hts⟩ (c_L_kit l hst dC dI (lA s) H.size cI q S (t + 1) hI (xs (6 * t + 1)) (xs (6 * t + 2)) (xs (6 * t + 3)) ) (vx_cwSW 4 hts (gi_SW wd_449 wd_450 wd_0 wd_451) rfl rfl rfl (by decide +kernel) ⟨Nat.le_of_ble_eq_true rfl, Nat.le_of_ble_eq_true rfl⟩) (wl_preS (hK.sub (tys' := [(cI, .int)]) [0] rfl) (P_l hP) (D_l hD) hG hN) rfl rfl hl.1 rfl (lv_room (Nat.le_of_ble_eq_true rfl)) d_L_law_1232 ⟨show _ ≤ 601024 by omega, show _ ≤ 7293034 by omega⟩) hP hD hS hA xv_adr (fun H locs nP nD nS => ?_)
  replace hP := P_swap (P_u nP)
  replace hD := D_swap (D_u nD)
  replace hS := nS
  clear nP nD nS hG
  refine W.eq (g2 := F0 m 1235 ls [.int (nI (op_kit S (xs (6 * t + 1)) (xs (6 * t + 2)) (xs (6 * t + 3))).1)]) rfl ?_
  refine lv_istore (lv' := [(5, .int (nI (op_kit S (xs (6 * t + 1)) (xs (6 * t + 2)) (xs (6 * t + 3))).1)), (0, .ref b), (1, .ref (q 0)), (2, .ref (r 0)), (3, .ref qo), (4, .int (nI (6 * t)))]) hx hb d_L_law_1235 hl (by decide) rfl (fun ls hl => ?_)
  refine lv_aload_n hx hb d_L_law_1237 rfl (lv_at hl 3 rfl) ?_
  refine lv_aload_n hx hb d_L_law_1238 rfl (lv_at hl 1 rfl) ?_
  refine lv_iload hx hb d_L_law_1239 (lv_at hl 5 rfl) ?_
  refine lv_iconst (v := nI 1) hx hb d_L_law_1241 (by decide) ?_
  refine nv_add hx hb d_L_law_1242 ?_
  refine nv_sld hx hb hX hbl hS (by omega) hL d_L_law_1243 ?_
  refine lv_aload_n hx hb d_L_law_1244 rfl (lv_at hl 1 rfl) ?_
  refine lv_iload hx hb d_L_law_1245 (lv_at hl 5 rfl) ?_
  refine lv_iconst (v := nI 2) hx hb d_L_law_1247 (by decide) ?_
  refine nv_add hx hb d_L_law_1248 ?_
  refine nv_sld hx hb hX hbl hS (by omega) hL d_L_law_1249 ?_
  refine lv_aload_n hx hb d_L_law_1250 rfl (lv_at hl 1 rfl) ?_
  refine lv_iload hx hb d_L_law_1251 (lv_at hl 5 rfl) ?_
  refine lv_iconst (v := nI 3) hx hb d_L_law_1253 (by decide) ?_
  refine nv_add hx hb d_L_law_1254 ?_
  refine nv_sld hx hb hX hbl hS (by omega) hL d_L_law_1255 ?_
  refine lw_go (va_runV (As := [.int (xs ((6 * t) + 1)), .int (xs ((6 * t) + 2)), .int (xs ((6 * t) + 3))]) (rest := []) ⟨hx, hb, hml, hown, hts⟩ (c_M_kit l dC dI H.size cI cZ r S th (t + 1) hI (xs (6 * t + 1)) (xs (6 * t + 2)) (xs (6 * t + 3)) hV.1 ) (cwV 3 hts (gi_V wd_784 wd_785 wd_786 wd_5 wd_787) rfl rfl rfl (by decide +kernel) ⟨Nat.le_of_ble_eq_true rfl, Nat.le_of_ble_eq_true rfl⟩) (wr_preV hKM (P_l hP) (D_l hD) (ci := 3) (q0 := 0) rfl rfl) rfl rfl hl.1 rfl (lv_room (Nat.le_of_ble_eq_true rfl)) d_L_law_1256 ⟨show _ ≤ 601024 by omega, show _ ≤ 7293034 by omega⟩) hP hD hS hA wM_adr (fun H locs nP nD nS => ?_)
  replace hP := nP
  replace hD := nD
  replace hS := nS
  clear nP nD nS
  have hV9 : Iv (t + 1) (op_kit S (xs (6 * t + 1)) (xs (6 * t + 2)) (xs (6 * t + 3))).2.2 := Iv_kit hV 
  refine W.eq (g2 := F0 m 1259 ls []) rfl ?_
  refine lv_aload_n hx hb d_L_law_1259 rfl (lv_at hl 3 rfl) ?_
  refine pu_go (va_runV (As := []) (rest := []) ⟨hx, hb, hml, hown, hts⟩ (c_M_thrown l dC dI cI cZ r (op_kit S (xs (6 * t + 1)) (xs (6 * t + 2)) (xs (6 * t + 3))).2.2 (nI (op_kit S (xs (6 * t + 1)) (xs (6 * t + 2)) (xs (6 * t + 3))).1) (t + 1) hV9.1.1) (cwV 0 hts (gi_V wd_668 wd_669 wd_670 wd_5 wd_671) rfl rfl rfl (by decide +kernel) ⟨Nat.le_of_ble_eq_true rfl, Nat.le_of_ble_eq_true rfl⟩) (pu_preV hKM (P_l hP) (ci := 3) (q0 := 0) rfl rfl) rfl rfl hl.1 rfl (lv_room (Nat.le_of_ble_eq_true rfl)) d_L_law_1260 ⟨show _ ≤ 601024 by omega, show _ ≤ 7293034 by omega⟩) ?_
  refine lv_iload hx hb d_L_law_1263 (lv_at hl 0 rfl) ?_
  refine lv_icmp_eq (tgt := 1270) hx hb d_L_law_1265 (by decide) (fun c1265 => ?_) (fun c1265 => ?_)
  · refine lv_goto (tgt := 1768) hx hb d_L_law_1270 (by decide) ?_
    refine W.widen (k := cells + 8) (n := slots + 48) (by omega) (by omega) ?_
    exact k _ _ _ _ _ _ ⟨hV9, P_swap hP, D_swap hD, hS, lv_sub hl [1, 2, 3, 4, 5] rfl⟩
  · exact absurd rfl c1265
set_option maxHeartbeats 4000000 in
set_option maxRecDepth 100000 in
theorem k_give {p : Program} {l : Launch} {e : Env} {s : State} {m : MethodId} {below : List Frame} {meth : Method} {c : Code} {b L : Nat} {xs : Nat → Int32} {dC : Nat → ClassId} {dI : Nat → Nat → Nat} {cI cZ cJ : ClassId} (C0 : lC p l s m meth c b L xs dC dI cI cZ cJ) {q r : Nat → Nat} {qo t : Nat} {S : St} {th : Int32} {f : Nat → Int64} {H : Heap} {locs : List Loc} {ls : Array Slot} {cells slots : Nat} (ht : t + 1 ≤ 512) (hj : 6 * t + 6 ≤ L) (hcs : cells + 8 ≤ 601024 ∧ slots + 48 ≤ 7293034)
    (G : lG s dC dI cI cZ cJ b q r qo t t S th f H locs ls) (k : lK p l e s m below meth c dC dI cI cZ cJ b q r qo t (cells + 8) (slots + 48)) : W p l e room_1 s m #[Value.ref b] below meth c H locs cells slots (lw_Z below #[Value.ref b] s) (F0 m 1273 ls []) := by
  obtain ⟨⟨hx, hb, hr, hml, hown, hts0, hX, hbl, hlocks, hgv⟩, hst, hK, hG0, hN, hL⟩ := C0
  have hts := bg_of hts0
  have hown : s.vm.findClass R_L = some m.cls := hown
  obtain ⟨hV0, hP, hD, hS, hl⟩ := G
  obtain ⟨hV, hou, hwa⟩ := Iv_up hV0 ht
  have hA : ∀ q : Nat, s.heap.size ≤ q → lA s q := fun _ h => h
  have hG : gG (lA s) s H := gG_H hG0 hS.2.1
  have hI := hV.1.1
  have hKM := hK.sub (tys' := [(cI, .int), (cZ, .boolean)]) [0, 1] rfl
  refine lv_aload_n hx hb d_L_law_1273 rfl (lv_at hl 1 rfl) ?_
  refine lv_aload_n hx hb d_L_law_1274 rfl (lv_at hl 0 rfl) ?_
  refine lv_iload hx hb d_L_law_1275 (lv_at hl 4 rfl) ?_
  refine lv_iconst (v := nI 1) hx hb d_L_law_1277 (by decide) ?_
  refine nv_add hx hb d_L_law_1278 ?_
  refine nv_sld hx hb hX hbl hS (by omega) hL d_L_law_1279 ?_
  refine lv_aload_n hx hb d_L_law_1280 rfl (lv_at hl 0 rfl) ?_
  refine lv_iload hx hb d_L_law_1281 (lv_at hl 4 rfl) ?_
  refine lv_iconst (v := nI 2) hx hb d_L_law_1283 (by decide) ?_
  refine nv_add hx hb d_L_law_1284 ?_
  refine nv_sld hx hb hX hbl hS (by omega) hL d_L_law_1285 ?_
  refine lv_aload_n hx hb d_L_law_1286 rfl (lv_at hl 3 rfl) ?_
  refine lw_go (vx_runSW (As := [.ref (q 0), .int (xs ((6 * t) + 1)), .int (xs ((6 * t) + 2)), .ref qo]) (rest := []) ⟨hx, hb, hml, hown, hts⟩ (c_L_give l hst dC dI (lA s) H.size cI q cJ qo f S (t + 1) hI (xs (6 * t + 1)) (xs (6 * t + 2)) hou) (vx_cwSW 4 hts (gi_SW wd_460 wd_461 wd_0 wd_462) rfl rfl rfl (by decide +kernel) ⟨Nat.le_of_ble_eq_true rfl, Nat.le_of_ble_eq_true rfl⟩) (wl_preS (hK.sub (tys' := [(cI, .int), (cJ, .long)]) [0, 2] rfl) (P_l hP) (D_l hD) hG hN) rfl rfl hl.1 rfl (lv_room (Nat.le_of_ble_eq_true rfl)) d_L_law_1287 ⟨show _ ≤ 601024 by omega, show _ ≤ 7293034 by omega⟩) hP hD hS hA xo_adr (fun H locs nP nD nS => ?_)
  replace hP := P_swap nP
  replace hD := D_swap nD
  replace hS := nS
  clear nP nD nS hG
  refine W.eq (g2 := F0 m 1290 ls [.int (nI (op_give S (xs (6 * t + 1)) (xs (6 * t + 2))).1)]) rfl ?_
  refine lv_istore (lv' := [(5, .int (nI (op_give S (xs (6 * t + 1)) (xs (6 * t + 2))).1)), (0, .ref b), (1, .ref (q 0)), (2, .ref (r 0)), (3, .ref qo), (4, .int (nI (6 * t)))]) hx hb d_L_law_1290 hl (by decide) rfl (fun ls hl => ?_)
  refine lv_aload_n hx hb d_L_law_1292 rfl (lv_at hl 3 rfl) ?_
  refine lv_aload_n hx hb d_L_law_1293 rfl (lv_at hl 1 rfl) ?_
  refine lv_iload hx hb d_L_law_1294 (lv_at hl 5 rfl) ?_
  refine lv_iconst (v := nI 1) hx hb d_L_law_1296 (by decide) ?_
  refine nv_add hx hb d_L_law_1297 ?_
  refine nv_sld hx hb hX hbl hS (by omega) hL d_L_law_1298 ?_
  refine lv_aload_n hx hb d_L_law_1299 rfl (lv_at hl 1 rfl) ?_
  refine lv_iload hx hb d_L_law_1300 (lv_at hl 5 rfl) ?_
  refine lv_iconst (v := nI 2) hx hb d_L_law_1302 (by decide) ?_
  refine nv_add hx hb d_L_law_1303 ?_
  refine nv_sld hx hb hX hbl hS (by omega) hL d_L_law_1304 ?_
  refine lw_go (va_runV (As := [.int (xs ((6 * t) + 1)), .int (xs ((6 * t) + 2))]) (rest := []) ⟨hx, hb, hml, hown, hts⟩ (c_M_give l dC dI H.size cI cZ r S th (t + 1) hI (xs (6 * t + 1)) (xs (6 * t + 2)) hV.1 hou) (cwV 2 hts (gi_V wd_788 wd_789 wd_790 wd_5 wd_791) rfl rfl rfl (by decide +kernel) ⟨Nat.le_of_ble_eq_true rfl, Nat.le_of_ble_eq_true rfl⟩) (wr_preV hKM (P_l hP) (D_l hD) (ci := 3) (q0 := 0) rfl rfl) rfl rfl hl.1 rfl (lv_room (Nat.le_of_ble_eq_true rfl)) d_L_law_1305 ⟨show _ ≤ 601024 by omega, show _ ≤ 7293034 by omega⟩) hP hD hS hA wM_adr (fun H locs nP nD nS => ?_)
  replace hP := nP
  replace hD := nD
  replace hS := nS
  clear nP nD nS
  have hV9 : Iv (t + 1) (op_give S (xs (6 * t + 1)) (xs (6 * t + 2))).2.2 := Iv_give hV hou
  refine W.eq (g2 := F0 m 1308 ls [.int ((op_give S (xs (6 * t + 1)) (xs (6 * t + 2))).2.1)]) rfl ?_
  refine lv_istore (lv' := [(6, .int ((op_give S (xs (6 * t + 1)) (xs (6 * t + 2))).2.1)), (5, .int (nI (op_give S (xs (6 * t + 1)) (xs (6 * t + 2))).1)), (0, .ref b), (1, .ref (q 0)), (2, .ref (r 0)), (3, .ref qo), (4, .int (nI (6 * t)))]) hx hb d_L_law_1308 hl (by decide) rfl (fun ls hl => ?_)
  refine lv_aload_n hx hb d_L_law_1310 rfl (lv_at hl 4 rfl) ?_
  refine pu_go (va_runV (As := []) (rest := []) ⟨hx, hb, hml, hown, hts⟩ (c_M_thrown l dC dI cI cZ r (op_give S (xs (6 * t + 1)) (xs (6 * t + 2))).2.2 (nI (op_give S (xs (6 * t + 1)) (xs (6 * t + 2))).1) (t + 1) hV9.1.1) (cwV 0 hts (gi_V wd_668 wd_669 wd_670 wd_5 wd_671) rfl rfl rfl (by decide +kernel) ⟨Nat.le_of_ble_eq_true rfl, Nat.le_of_ble_eq_true rfl⟩) (pu_preV hKM (P_l hP) (ci := 3) (q0 := 0) rfl rfl) rfl rfl hl.1 rfl (lv_room (Nat.le_of_ble_eq_true rfl)) d_L_law_1311 ⟨show _ ≤ 601024 by omega, show _ ≤ 7293034 by omega⟩) ?_
  refine lv_iload hx hb d_L_law_1314 (lv_at hl 1 rfl) ?_
  refine lv_icmp_eq (tgt := 1321) hx hb d_L_law_1316 (by decide) (fun c1316 => ?_) (fun c1316 => ?_)
  · refine lv_iload hx hb d_L_law_1321 (lv_at hl 1 rfl) ?_
    refine lv_if_ne (tgt := 1338) hx hb d_L_law_1323 (by decide) (fun c1323 => ?_) (fun c1323 => ?_)
    · refine lv_goto (tgt := 1768) hx hb d_L_law_1338 (by decide) ?_
      refine W.widen (k := cells + 8) (n := slots + 48) (by omega) (by omega) ?_
      exact k _ _ _ _ _ _ ⟨hV9, P_swap hP, D_swap hD, hS, lv_sub hl [2, 3, 4, 5, 6] rfl⟩
    · have h0 : (op_give S (xs (6 * t + 1)) (xs (6 * t + 2))).1 = 0 := z_of lt_give c1323
      refine lv_aload_n hx hb d_L_law_1326 rfl (lv_at hl 5 rfl) ?_
      refine lv_iconst (v := nI 0) hx hb d_L_law_1327 (by decide) ?_
      refine lw_out (o := (op_give S (xs (6 * t + 1)) (xs (6 * t + 2)))) (f := f) hx hb (hK.sub (tys' := [(cJ, .long)]) [2] rfl) (P_r (P_r hP)) h0 d_L_law_1328 ?_
      refine lv_iload hx hb d_L_law_1329 (lv_at hl 0 rfl) ?_
      refine lv_i2l (v := ((op_give S (xs (6 * t + 1)) (xs (6 * t + 2))).2.1).toInt64) hx hb d_L_law_1331 rfl ?_
      refine lw_cmp hx hb (rfl) d_L_law_1332 ?_
      refine lv_if_eq (tgt := 1338) hx hb d_L_law_1333 (by decide) (fun c1333 => ?_) (fun c1333 => ?_)
      · refine lv_goto (tgt := 1768) hx hb d_L_law_1338 (by decide) ?_
        refine W.widen (k := cells + 8) (n := slots + 48) (by omega) (by omega) ?_
        exact k _ _ _ _ _ _ ⟨hV9, P_swap hP, D_swap hD, hS, lv_sub hl [2, 3, 4, 5, 6] rfl⟩
      · exact absurd rfl c1333
  · exact absurd rfl c1316
set_option maxHeartbeats 4000000 in
set_option maxRecDepth 100000 in
theorem k_back {p : Program} {l : Launch} {e : Env} {s : State} {m : MethodId} {below : List Frame} {meth : Method} {c : Code} {b L : Nat} {xs : Nat → Int32} {dC : Nat → ClassId} {dI : Nat → Nat → Nat} {cI cZ cJ : ClassId} (C0 : lC p l s m meth c b L xs dC dI cI cZ cJ) {q r : Nat → Nat} {qo t : Nat} {S : St} {th : Int32} {f : Nat → Int64} {H : Heap} {locs : List Loc} {ls : Array Slot} {cells slots : Nat} (ht : t + 1 ≤ 512) (hj : 6 * t + 6 ≤ L) (hcs : cells + 8 ≤ 601024 ∧ slots + 48 ≤ 7293034)
    (G : lG s dC dI cI cZ cJ b q r qo t t S th f H locs ls) (k : lK p l e s m below meth c dC dI cI cZ cJ b q r qo t (cells + 8) (slots + 48)) : W p l e room_1 s m #[Value.ref b] below meth c H locs cells slots (lw_Z below #[Value.ref b] s) (F0 m 1341 ls []) := by
  obtain ⟨⟨hx, hb, hr, hml, hown, hts0, hX, hbl, hlocks, hgv⟩, hst, hK, hG0, hN, hL⟩ := C0
  have hts := bg_of hts0
  have hown : s.vm.findClass R_L = some m.cls := hown
  obtain ⟨hV0, hP, hD, hS, hl⟩ := G
  obtain ⟨hV, hou, hwa⟩ := Iv_up hV0 ht
  have hA : ∀ q : Nat, s.heap.size ≤ q → lA s q := fun _ h => h
  have hG : gG (lA s) s H := gG_H hG0 hS.2.1
  have hI := hV.1.1
  have hKM := hK.sub (tys' := [(cI, .int), (cZ, .boolean)]) [0, 1] rfl
  refine lv_aload_n hx hb d_L_law_1341 rfl (lv_at hl 1 rfl) ?_
  refine lv_aload_n hx hb d_L_law_1342 rfl (lv_at hl 0 rfl) ?_
  refine lv_iload hx hb d_L_law_1343 (lv_at hl 4 rfl) ?_
  refine lv_iconst (v := nI 1) hx hb d_L_law_1345 (by decide) ?_
  refine nv_add hx hb d_L_law_1346 ?_
  refine nv_sld hx hb hX hbl hS (by omega) hL d_L_law_1347 ?_
  refine lv_aload_n hx hb d_L_law_1348 rfl (lv_at hl 0 rfl) ?_
  refine lv_iload hx hb d_L_law_1349 (lv_at hl 4 rfl) ?_
  refine lv_iconst (v := nI 2) hx hb d_L_law_1351 (by decide) ?_
  refine nv_add hx hb d_L_law_1352 ?_
  refine nv_sld hx hb hX hbl hS (by omega) hL d_L_law_1353 ?_
  refine lv_aload_n hx hb d_L_law_1354 rfl (lv_at hl 0 rfl) ?_
  refine lv_iload hx hb d_L_law_1355 (lv_at hl 4 rfl) ?_
  refine lv_iconst (v := nI 3) hx hb d_L_law_1357 (by decide) ?_
  refine nv_add hx hb d_L_law_1358 ?_
  refine nv_sld hx hb hX hbl hS (by omega) hL d_L_law_1359 ?_
  refine lv_aload_n hx hb d_L_law_1360 rfl (lv_at hl 3 rfl) ?_
  refine lw_go (vx_runSW (As := [.ref (q 0), .int (xs ((6 * t) + 1)), .int (xs ((6 * t) + 2)), .int (xs ((6 * t) + 3)), .ref qo]) (rest := []) ⟨hx, hb, hml, hown, hts⟩ (c_L_back l hst dC dI (lA s) H.size cI q cJ qo f S (t + 1) hI (xs (6 * t + 1)) (xs (6 * t + 2)) (xs (6 * t + 3)) ) (vx_cwSW 5 hts (gi_SW wd_476 wd_477 wd_0 wd_478) rfl rfl rfl (by decide +kernel) ⟨Nat.le_of_ble_eq_true rfl, Nat.le_of_ble_eq_true rfl⟩) (wl_preS (hK.sub (tys' := [(cI, .int), (cJ, .long)]) [0, 2] rfl) (P_l hP) (D_l hD) hG hN) rfl rfl hl.1 rfl (lv_room (Nat.le_of_ble_eq_true rfl)) d_L_law_1361 ⟨show _ ≤ 601024 by omega, show _ ≤ 7293034 by omega⟩) hP hD hS hA xo_adr (fun H locs nP nD nS => ?_)
  replace hP := P_swap nP
  replace hD := D_swap nD
  replace hS := nS
  clear nP nD nS hG
  refine W.eq (g2 := F0 m 1364 ls [.int (nI (op_back S (xs (6 * t + 1)) (xs (6 * t + 2)) (xs (6 * t + 3))).1)]) rfl ?_
  refine lv_istore (lv' := [(5, .int (nI (op_back S (xs (6 * t + 1)) (xs (6 * t + 2)) (xs (6 * t + 3))).1)), (0, .ref b), (1, .ref (q 0)), (2, .ref (r 0)), (3, .ref qo), (4, .int (nI (6 * t)))]) hx hb d_L_law_1364 hl (by decide) rfl (fun ls hl => ?_)
  refine lv_aload_n hx hb d_L_law_1366 rfl (lv_at hl 3 rfl) ?_
  refine lv_aload_n hx hb d_L_law_1367 rfl (lv_at hl 1 rfl) ?_
  refine lv_iload hx hb d_L_law_1368 (lv_at hl 5 rfl) ?_
  refine lv_iconst (v := nI 1) hx hb d_L_law_1370 (by decide) ?_
  refine nv_add hx hb d_L_law_1371 ?_
  refine nv_sld hx hb hX hbl hS (by omega) hL d_L_law_1372 ?_
  refine lv_aload_n hx hb d_L_law_1373 rfl (lv_at hl 1 rfl) ?_
  refine lv_iload hx hb d_L_law_1374 (lv_at hl 5 rfl) ?_
  refine lv_iconst (v := nI 2) hx hb d_L_law_1376 (by decide) ?_
  refine nv_add hx hb d_L_law_1377 ?_
  refine nv_sld hx hb hX hbl hS (by omega) hL d_L_law_1378 ?_
  refine lv_aload_n hx hb d_L_law_1379 rfl (lv_at hl 1 rfl) ?_
  refine lv_iload hx hb d_L_law_1380 (lv_at hl 5 rfl) ?_
  refine lv_iconst (v := nI 3) hx hb d_L_law_1382 (by decide) ?_
  refine nv_add hx hb d_L_law_1383 ?_
  refine nv_sld hx hb hX hbl hS (by omega) hL d_L_law_1384 ?_
  refine lw_go (va_runV (As := [.int (xs ((6 * t) + 1)), .int (xs ((6 * t) + 2)), .int (xs ((6 * t) + 3))]) (rest := []) ⟨hx, hb, hml, hown, hts⟩ (c_M_back l dC dI H.size cI cZ r S th (t + 1) hI (xs (6 * t + 1)) (xs (6 * t + 2)) (xs (6 * t + 3)) hV.1 ) (cwV 3 hts (gi_V wd_792 wd_793 wd_794 wd_5 wd_795) rfl rfl rfl (by decide +kernel) ⟨Nat.le_of_ble_eq_true rfl, Nat.le_of_ble_eq_true rfl⟩) (wr_preV hKM (P_l hP) (D_l hD) (ci := 3) (q0 := 0) rfl rfl) rfl rfl hl.1 rfl (lv_room (Nat.le_of_ble_eq_true rfl)) d_L_law_1385 ⟨show _ ≤ 601024 by omega, show _ ≤ 7293034 by omega⟩) hP hD hS hA wM_adr (fun H locs nP nD nS => ?_)
  replace hP := nP
  replace hD := nD
  replace hS := nS
  clear nP nD nS
  have hV9 : Iv (t + 1) (op_back S (xs (6 * t + 1)) (xs (6 * t + 2)) (xs (6 * t + 3))).2.2 := Iv_back hV 
  refine W.eq (g2 := F0 m 1388 ls [.int ((op_back S (xs (6 * t + 1)) (xs (6 * t + 2)) (xs (6 * t + 3))).2.1)]) rfl ?_
  refine lv_istore (lv' := [(6, .int ((op_back S (xs (6 * t + 1)) (xs (6 * t + 2)) (xs (6 * t + 3))).2.1)), (5, .int (nI (op_back S (xs (6 * t + 1)) (xs (6 * t + 2)) (xs (6 * t + 3))).1)), (0, .ref b), (1, .ref (q 0)), (2, .ref (r 0)), (3, .ref qo), (4, .int (nI (6 * t)))]) hx hb d_L_law_1388 hl (by decide) rfl (fun ls hl => ?_)
  refine lv_aload_n hx hb d_L_law_1390 rfl (lv_at hl 4 rfl) ?_
  refine pu_go (va_runV (As := []) (rest := []) ⟨hx, hb, hml, hown, hts⟩ (c_M_thrown l dC dI cI cZ r (op_back S (xs (6 * t + 1)) (xs (6 * t + 2)) (xs (6 * t + 3))).2.2 (nI (op_back S (xs (6 * t + 1)) (xs (6 * t + 2)) (xs (6 * t + 3))).1) (t + 1) hV9.1.1) (cwV 0 hts (gi_V wd_668 wd_669 wd_670 wd_5 wd_671) rfl rfl rfl (by decide +kernel) ⟨Nat.le_of_ble_eq_true rfl, Nat.le_of_ble_eq_true rfl⟩) (pu_preV hKM (P_l hP) (ci := 3) (q0 := 0) rfl rfl) rfl rfl hl.1 rfl (lv_room (Nat.le_of_ble_eq_true rfl)) d_L_law_1391 ⟨show _ ≤ 601024 by omega, show _ ≤ 7293034 by omega⟩) ?_
  refine lv_iload hx hb d_L_law_1394 (lv_at hl 1 rfl) ?_
  refine lv_icmp_eq (tgt := 1401) hx hb d_L_law_1396 (by decide) (fun c1396 => ?_) (fun c1396 => ?_)
  · refine lv_iload hx hb d_L_law_1401 (lv_at hl 1 rfl) ?_
    refine lv_if_ne (tgt := 1425) hx hb d_L_law_1403 (by decide) (fun c1403 => ?_) (fun c1403 => ?_)
    · refine lv_goto (tgt := 1768) hx hb d_L_law_1425 (by decide) ?_
      refine W.widen (k := cells + 8) (n := slots + 48) (by omega) (by omega) ?_
      exact k _ _ _ _ _ _ ⟨hV9, P_swap hP, D_swap hD, hS, lv_sub hl [2, 3, 4, 5, 6] rfl⟩
    · have h0 : (op_back S (xs (6 * t + 1)) (xs (6 * t + 2)) (xs (6 * t + 3))).1 = 0 := z_of lt_back c1403
      refine lv_aload_n hx hb d_L_law_1406 rfl (lv_at hl 5 rfl) ?_
      refine lv_iconst (v := nI 0) hx hb d_L_law_1407 (by decide) ?_
      refine lw_out (o := (op_back S (xs (6 * t + 1)) (xs (6 * t + 2)) (xs (6 * t + 3)))) (f := f) hx hb (hK.sub (tys' := [(cJ, .long)]) [2] rfl) (P_r (P_r hP)) h0 d_L_law_1408 ?_
      refine lv_iload hx hb d_L_law_1409 (lv_at hl 0 rfl) ?_
      refine lv_if_eq (tgt := 1418) hx hb d_L_law_1411 (by decide) (fun c1411 => ?_) (fun c1411 => ?_)
      · refine lv_lconst (v := 0) hx hb d_L_law_1418 (by decide) ?_
        refine lw_cmp hx hb (by rw [c1411]; rfl) d_L_law_1419 ?_
        refine lv_if_eq (tgt := 1425) hx hb d_L_law_1420 (by decide) (fun c1420 => ?_) (fun c1420 => ?_)
        · refine lv_goto (tgt := 1768) hx hb d_L_law_1425 (by decide) ?_
          refine W.widen (k := cells + 8) (n := slots + 48) (by omega) (by omega) ?_
          exact k _ _ _ _ _ _ ⟨hV9, P_swap hP, D_swap hD, hS, lv_sub hl [2, 3, 4, 5, 6] rfl⟩
        · exact absurd rfl c1420
      · refine lv_lconst (v := 1) hx hb d_L_law_1414 (by decide) ?_
        refine lv_goto (tgt := 1419) hx hb d_L_law_1415 (by decide) ?_
        refine lw_cmp hx hb (by rw [bk01.resolve_left c1411]; rfl) d_L_law_1419 ?_
        refine lv_if_eq (tgt := 1425) hx hb d_L_law_1420 (by decide) (fun c1420 => ?_) (fun c1420 => ?_)
        · refine lv_goto (tgt := 1768) hx hb d_L_law_1425 (by decide) ?_
          refine W.widen (k := cells + 8) (n := slots + 48) (by omega) (by omega) ?_
          exact k _ _ _ _ _ _ ⟨hV9, P_swap hP, D_swap hD, hS, lv_sub hl [2, 3, 4, 5, 6] rfl⟩
        · exact absurd rfl c1420
  · exact absurd rfl c1396
set_option maxHeartbeats 4000000 in
set_option maxRecDepth 100000 in
theorem k_waste {p : Program} {l : Launch} {e : Env} {s : State} {m : MethodId} {below : List Frame} {meth : Method} {c : Code} {b L : Nat} {xs : Nat → Int32} {dC : Nat → ClassId} {dI : Nat → Nat → Nat} {cI cZ cJ : ClassId} (C0 : lC p l s m meth c b L xs dC dI cI cZ cJ) {q r : Nat → Nat} {qo t : Nat} {S : St} {th : Int32} {f : Nat → Int64} {H : Heap} {locs : List Loc} {ls : Array Slot} {cells slots : Nat} (ht : t + 1 ≤ 512) (hj : 6 * t + 6 ≤ L) (hcs : cells + 8 ≤ 601024 ∧ slots + 48 ≤ 7293034)
    (G : lG s dC dI cI cZ cJ b q r qo t t S th f H locs ls) (k : lK p l e s m below meth c dC dI cI cZ cJ b q r qo t (cells + 8) (slots + 48)) : W p l e room_1 s m #[Value.ref b] below meth c H locs cells slots (lw_Z below #[Value.ref b] s) (F0 m 1428 ls []) := by
  obtain ⟨⟨hx, hb, hr, hml, hown, hts0, hX, hbl, hlocks, hgv⟩, hst, hK, hG0, hN, hL⟩ := C0
  have hts := bg_of hts0
  have hown : s.vm.findClass R_L = some m.cls := hown
  obtain ⟨hV0, hP, hD, hS, hl⟩ := G
  obtain ⟨hV, hou, hwa⟩ := Iv_up hV0 ht
  have hA : ∀ q : Nat, s.heap.size ≤ q → lA s q := fun _ h => h
  have hG : gG (lA s) s H := gG_H hG0 hS.2.1
  have hI := hV.1.1
  have hKM := hK.sub (tys' := [(cI, .int), (cZ, .boolean)]) [0, 1] rfl
  refine lv_aload_n hx hb d_L_law_1428 rfl (lv_at hl 1 rfl) ?_
  refine lv_aload_n hx hb d_L_law_1429 rfl (lv_at hl 0 rfl) ?_
  refine lv_iload hx hb d_L_law_1430 (lv_at hl 4 rfl) ?_
  refine lv_iconst (v := nI 1) hx hb d_L_law_1432 (by decide) ?_
  refine nv_add hx hb d_L_law_1433 ?_
  refine nv_sld hx hb hX hbl hS (by omega) hL d_L_law_1434 ?_
  refine lv_aload_n hx hb d_L_law_1435 rfl (lv_at hl 0 rfl) ?_
  refine lv_iload hx hb d_L_law_1436 (lv_at hl 4 rfl) ?_
  refine lv_iconst (v := nI 2) hx hb d_L_law_1438 (by decide) ?_
  refine nv_add hx hb d_L_law_1439 ?_
  refine nv_sld hx hb hX hbl hS (by omega) hL d_L_law_1440 ?_
  refine lv_aload_n hx hb d_L_law_1441 rfl (lv_at hl 0 rfl) ?_
  refine lv_iload hx hb d_L_law_1442 (lv_at hl 4 rfl) ?_
  refine lv_iconst (v := nI 3) hx hb d_L_law_1444 (by decide) ?_
  refine nv_add hx hb d_L_law_1445 ?_
  refine nv_sld hx hb hX hbl hS (by omega) hL d_L_law_1446 ?_
  refine lv_aload_n hx hb d_L_law_1447 rfl (lv_at hl 0 rfl) ?_
  refine lv_iload hx hb d_L_law_1448 (lv_at hl 4 rfl) ?_
  refine lv_iconst (v := nI 4) hx hb d_L_law_1450 (by decide) ?_
  refine nv_add hx hb d_L_law_1451 ?_
  refine nv_sld hx hb hX hbl hS (by omega) hL d_L_law_1452 ?_
  refine lv_aload_n hx hb d_L_law_1453 rfl (lv_at hl 3 rfl) ?_
  refine lw_go (vx_runSW (As := [.ref (q 0), .int (xs ((6 * t) + 1)), .int (xs ((6 * t) + 2)), .int (xs ((6 * t) + 3)), .int (xs ((6 * t) + 4)), .ref qo]) (rest := []) ⟨hx, hb, hml, hown, hts⟩ (c_L_waste l hst dC dI (lA s) H.size cI q cJ qo f S (t + 1) hI (xs (6 * t + 1)) (xs (6 * t + 2)) (xs (6 * t + 3)) (xs (6 * t + 4)) hwa) (vx_cwSW 6 hts (gi_SW wd_483 wd_484 wd_0 wd_485) rfl rfl rfl (by decide +kernel) ⟨Nat.le_of_ble_eq_true rfl, Nat.le_of_ble_eq_true rfl⟩) (wl_preS (hK.sub (tys' := [(cI, .int), (cJ, .long)]) [0, 2] rfl) (P_l hP) (D_l hD) hG hN) rfl rfl hl.1 rfl (lv_room (Nat.le_of_ble_eq_true rfl)) d_L_law_1454 ⟨show _ ≤ 601024 by omega, show _ ≤ 7293034 by omega⟩) hP hD hS hA xo_adr (fun H locs nP nD nS => ?_)
  replace hP := P_swap nP
  replace hD := D_swap nD
  replace hS := nS
  clear nP nD nS hG
  refine W.eq (g2 := F0 m 1457 ls [.int (nI (op_waste S (xs (6 * t + 1)) (xs (6 * t + 2)) (xs (6 * t + 3)) (xs (6 * t + 4))).1)]) rfl ?_
  refine lv_istore (lv' := [(5, .int (nI (op_waste S (xs (6 * t + 1)) (xs (6 * t + 2)) (xs (6 * t + 3)) (xs (6 * t + 4))).1)), (0, .ref b), (1, .ref (q 0)), (2, .ref (r 0)), (3, .ref qo), (4, .int (nI (6 * t)))]) hx hb d_L_law_1457 hl (by decide) rfl (fun ls hl => ?_)
  refine lv_aload_n hx hb d_L_law_1459 rfl (lv_at hl 3 rfl) ?_
  refine lv_aload_n hx hb d_L_law_1460 rfl (lv_at hl 1 rfl) ?_
  refine lv_iload hx hb d_L_law_1461 (lv_at hl 5 rfl) ?_
  refine lv_iconst (v := nI 1) hx hb d_L_law_1463 (by decide) ?_
  refine nv_add hx hb d_L_law_1464 ?_
  refine nv_sld hx hb hX hbl hS (by omega) hL d_L_law_1465 ?_
  refine lv_aload_n hx hb d_L_law_1466 rfl (lv_at hl 1 rfl) ?_
  refine lv_iload hx hb d_L_law_1467 (lv_at hl 5 rfl) ?_
  refine lv_iconst (v := nI 2) hx hb d_L_law_1469 (by decide) ?_
  refine nv_add hx hb d_L_law_1470 ?_
  refine nv_sld hx hb hX hbl hS (by omega) hL d_L_law_1471 ?_
  refine lv_aload_n hx hb d_L_law_1472 rfl (lv_at hl 1 rfl) ?_
  refine lv_iload hx hb d_L_law_1473 (lv_at hl 5 rfl) ?_
  refine lv_iconst (v := nI 3) hx hb d_L_law_1475 (by decide) ?_
  refine nv_add hx hb d_L_law_1476 ?_
  refine nv_sld hx hb hX hbl hS (by omega) hL d_L_law_1477 ?_
  refine lv_aload_n hx hb d_L_law_1478 rfl (lv_at hl 1 rfl) ?_
  refine lv_iload hx hb d_L_law_1479 (lv_at hl 5 rfl) ?_
  refine lv_iconst (v := nI 4) hx hb d_L_law_1481 (by decide) ?_
  refine nv_add hx hb d_L_law_1482 ?_
  refine nv_sld hx hb hX hbl hS (by omega) hL d_L_law_1483 ?_
  refine lw_go (va_runV (As := [.int (xs ((6 * t) + 1)), .int (xs ((6 * t) + 2)), .int (xs ((6 * t) + 3)), .int (xs ((6 * t) + 4))]) (rest := []) ⟨hx, hb, hml, hown, hts⟩ (c_M_waste l dC dI H.size cI cZ r S th (t + 1) hI (xs (6 * t + 1)) (xs (6 * t + 2)) (xs (6 * t + 3)) (xs (6 * t + 4)) hV.1 hwa) (cwV 4 hts (gi_V wd_796 wd_797 wd_798 wd_5 wd_799) rfl rfl rfl (by decide +kernel) ⟨Nat.le_of_ble_eq_true rfl, Nat.le_of_ble_eq_true rfl⟩) (wr_preV hKM (P_l hP) (D_l hD) (ci := 3) (q0 := 0) rfl rfl) rfl rfl hl.1 rfl (lv_room (Nat.le_of_ble_eq_true rfl)) d_L_law_1484 ⟨show _ ≤ 601024 by omega, show _ ≤ 7293034 by omega⟩) hP hD hS hA wM_adr (fun H locs nP nD nS => ?_)
  replace hP := nP
  replace hD := nD
  replace hS := nS
  clear nP nD nS
  have hV9 : Iv (t + 1) (op_waste S (xs (6 * t + 1)) (xs (6 * t + 2)) (xs (6 * t + 3)) (xs (6 * t + 4))).2.2 := Iv_waste hV hwa
  refine W.eq (g2 := F0 m 1487 ls [.int ((op_waste S (xs (6 * t + 1)) (xs (6 * t + 2)) (xs (6 * t + 3)) (xs (6 * t + 4))).2.1)]) rfl ?_
  refine lv_istore (lv' := [(6, .int ((op_waste S (xs (6 * t + 1)) (xs (6 * t + 2)) (xs (6 * t + 3)) (xs (6 * t + 4))).2.1)), (5, .int (nI (op_waste S (xs (6 * t + 1)) (xs (6 * t + 2)) (xs (6 * t + 3)) (xs (6 * t + 4))).1)), (0, .ref b), (1, .ref (q 0)), (2, .ref (r 0)), (3, .ref qo), (4, .int (nI (6 * t)))]) hx hb d_L_law_1487 hl (by decide) rfl (fun ls hl => ?_)
  refine lv_aload_n hx hb d_L_law_1489 rfl (lv_at hl 4 rfl) ?_
  refine pu_go (va_runV (As := []) (rest := []) ⟨hx, hb, hml, hown, hts⟩ (c_M_thrown l dC dI cI cZ r (op_waste S (xs (6 * t + 1)) (xs (6 * t + 2)) (xs (6 * t + 3)) (xs (6 * t + 4))).2.2 (nI (op_waste S (xs (6 * t + 1)) (xs (6 * t + 2)) (xs (6 * t + 3)) (xs (6 * t + 4))).1) (t + 1) hV9.1.1) (cwV 0 hts (gi_V wd_668 wd_669 wd_670 wd_5 wd_671) rfl rfl rfl (by decide +kernel) ⟨Nat.le_of_ble_eq_true rfl, Nat.le_of_ble_eq_true rfl⟩) (pu_preV hKM (P_l hP) (ci := 3) (q0 := 0) rfl rfl) rfl rfl hl.1 rfl (lv_room (Nat.le_of_ble_eq_true rfl)) d_L_law_1490 ⟨show _ ≤ 601024 by omega, show _ ≤ 7293034 by omega⟩) ?_
  refine lv_iload hx hb d_L_law_1493 (lv_at hl 1 rfl) ?_
  refine lv_icmp_eq (tgt := 1500) hx hb d_L_law_1495 (by decide) (fun c1495 => ?_) (fun c1495 => ?_)
  · refine lv_iload hx hb d_L_law_1500 (lv_at hl 1 rfl) ?_
    refine lv_if_ne (tgt := 1517) hx hb d_L_law_1502 (by decide) (fun c1502 => ?_) (fun c1502 => ?_)
    · refine lv_goto (tgt := 1768) hx hb d_L_law_1517 (by decide) ?_
      refine W.widen (k := cells + 8) (n := slots + 48) (by omega) (by omega) ?_
      exact k _ _ _ _ _ _ ⟨hV9, P_swap hP, D_swap hD, hS, lv_sub hl [2, 3, 4, 5, 6] rfl⟩
    · have h0 : (op_waste S (xs (6 * t + 1)) (xs (6 * t + 2)) (xs (6 * t + 3)) (xs (6 * t + 4))).1 = 0 := z_of lt_waste c1502
      refine lv_aload_n hx hb d_L_law_1505 rfl (lv_at hl 5 rfl) ?_
      refine lv_iconst (v := nI 0) hx hb d_L_law_1506 (by decide) ?_
      refine lw_out (o := (op_waste S (xs (6 * t + 1)) (xs (6 * t + 2)) (xs (6 * t + 3)) (xs (6 * t + 4)))) (f := f) hx hb (hK.sub (tys' := [(cJ, .long)]) [2] rfl) (P_r (P_r hP)) h0 d_L_law_1507 ?_
      refine lv_iload hx hb d_L_law_1508 (lv_at hl 0 rfl) ?_
      refine lv_i2l (v := ((op_waste S (xs (6 * t + 1)) (xs (6 * t + 2)) (xs (6 * t + 3)) (xs (6 * t + 4))).2.1).toInt64) hx hb d_L_law_1510 rfl ?_
      refine lw_cmp hx hb (rfl) d_L_law_1511 ?_
      refine lv_if_eq (tgt := 1517) hx hb d_L_law_1512 (by decide) (fun c1512 => ?_) (fun c1512 => ?_)
      · refine lv_goto (tgt := 1768) hx hb d_L_law_1517 (by decide) ?_
        refine W.widen (k := cells + 8) (n := slots + 48) (by omega) (by omega) ?_
        exact k _ _ _ _ _ _ ⟨hV9, P_swap hP, D_swap hD, hS, lv_sub hl [2, 3, 4, 5, 6] rfl⟩
      · exact absurd rfl c1512
  · exact absurd rfl c1495
set_option maxHeartbeats 4000000 in
set_option maxRecDepth 100000 in
theorem k_lotAt {p : Program} {l : Launch} {e : Env} {s : State} {m : MethodId} {below : List Frame} {meth : Method} {c : Code} {b L : Nat} {xs : Nat → Int32} {dC : Nat → ClassId} {dI : Nat → Nat → Nat} {cI cZ cJ : ClassId} (C0 : lC p l s m meth c b L xs dC dI cI cZ cJ) {q r : Nat → Nat} {qo t : Nat} {S : St} {th : Int32} {f : Nat → Int64} {H : Heap} {locs : List Loc} {ls : Array Slot} {cells slots : Nat} (ht : t + 1 ≤ 512) (hj : 6 * t + 6 ≤ L) (hcs : cells + 8 ≤ 601024 ∧ slots + 48 ≤ 7293034)
    (G : lG s dC dI cI cZ cJ b q r qo t t S th f H locs ls) (k : lK p l e s m below meth c dC dI cI cZ cJ b q r qo t (cells + 8) (slots + 48)) : W p l e room_1 s m #[Value.ref b] below meth c H locs cells slots (lw_Z below #[Value.ref b] s) (F0 m 1520 ls []) := by
  obtain ⟨⟨hx, hb, hr, hml, hown, hts0, hX, hbl, hlocks, hgv⟩, hst, hK, hG0, hN, hL⟩ := C0
  have hts := bg_of hts0
  have hown : s.vm.findClass R_L = some m.cls := hown
  obtain ⟨hV0, hP, hD, hS, hl⟩ := G
  obtain ⟨hV, hou, hwa⟩ := Iv_up hV0 ht
  have hA : ∀ q : Nat, s.heap.size ≤ q → lA s q := fun _ h => h
  have hG : gG (lA s) s H := gG_H hG0 hS.2.1
  have hI := hV.1.1
  have hKM := hK.sub (tys' := [(cI, .int), (cZ, .boolean)]) [0, 1] rfl
  refine lv_aload_n hx hb d_L_law_1520 rfl (lv_at hl 1 rfl) ?_
  refine lv_aload_n hx hb d_L_law_1521 rfl (lv_at hl 0 rfl) ?_
  refine lv_iload hx hb d_L_law_1522 (lv_at hl 4 rfl) ?_
  refine lv_iconst (v := nI 1) hx hb d_L_law_1524 (by decide) ?_
  refine nv_add hx hb d_L_law_1525 ?_
  refine nv_sld hx hb hX hbl hS (by omega) hL d_L_law_1526 ?_
  refine lv_aload_n hx hb d_L_law_1527 rfl (lv_at hl 0 rfl) ?_
  refine lv_iload hx hb d_L_law_1528 (lv_at hl 4 rfl) ?_
  refine lv_iconst (v := nI 2) hx hb d_L_law_1530 (by decide) ?_
  refine nv_add hx hb d_L_law_1531 ?_
  refine nv_sld hx hb hX hbl hS (by omega) hL d_L_law_1532 ?_
  refine lv_aload_n hx hb d_L_law_1533 rfl (lv_at hl 3 rfl) ?_
  refine lw_go (vx_runSW (As := [.ref (q 0), .int (xs ((6 * t) + 1)), .int (xs ((6 * t) + 2)), .ref qo]) (rest := []) ⟨hx, hb, hml, hown, hts⟩ (c_L_lotAt l hst dC dI (lA s) H.size cI q cJ qo f S (t + 1) hI (xs (6 * t + 1)) (xs (6 * t + 2)) ) (vx_cwSW 4 hts (gi_SW wd_490 wd_491 wd_0 wd_492) rfl rfl rfl (by decide +kernel) ⟨Nat.le_of_ble_eq_true rfl, Nat.le_of_ble_eq_true rfl⟩) (wl_preS (hK.sub (tys' := [(cI, .int), (cJ, .long)]) [0, 2] rfl) (P_l hP) (D_l hD) hG hN) rfl rfl hl.1 rfl (lv_room (Nat.le_of_ble_eq_true rfl)) d_L_law_1534 ⟨show _ ≤ 601024 by omega, show _ ≤ 7293034 by omega⟩) hP hD hS hA xo_adr (fun H locs nP nD nS => ?_)
  replace hP := P_swap nP
  replace hD := D_swap nD
  replace hS := nS
  clear nP nD nS hG
  refine W.eq (g2 := F0 m 1537 ls [.int (nI (op_lotAt S (xs (6 * t + 1)) (xs (6 * t + 2))).1)]) rfl ?_
  refine lv_istore (lv' := [(5, .int (nI (op_lotAt S (xs (6 * t + 1)) (xs (6 * t + 2))).1)), (0, .ref b), (1, .ref (q 0)), (2, .ref (r 0)), (3, .ref qo), (4, .int (nI (6 * t)))]) hx hb d_L_law_1537 hl (by decide) rfl (fun ls hl => ?_)
  refine lv_aload_n hx hb d_L_law_1539 rfl (lv_at hl 3 rfl) ?_
  refine lv_aload_n hx hb d_L_law_1540 rfl (lv_at hl 1 rfl) ?_
  refine lv_iload hx hb d_L_law_1541 (lv_at hl 5 rfl) ?_
  refine lv_iconst (v := nI 1) hx hb d_L_law_1543 (by decide) ?_
  refine nv_add hx hb d_L_law_1544 ?_
  refine nv_sld hx hb hX hbl hS (by omega) hL d_L_law_1545 ?_
  refine lv_aload_n hx hb d_L_law_1546 rfl (lv_at hl 1 rfl) ?_
  refine lv_iload hx hb d_L_law_1547 (lv_at hl 5 rfl) ?_
  refine lv_iconst (v := nI 2) hx hb d_L_law_1549 (by decide) ?_
  refine nv_add hx hb d_L_law_1550 ?_
  refine nv_sld hx hb hX hbl hS (by omega) hL d_L_law_1551 ?_
  refine lw_go (va_runV (As := [.int (xs ((6 * t) + 1)), .int (xs ((6 * t) + 2))]) (rest := []) ⟨hx, hb, hml, hown, hts⟩ (c_M_lotAt l dC dI H.size cI cZ r S th (t + 1) hI (xs (6 * t + 1)) (xs (6 * t + 2)) hV.1 ) (cwV 2 hts (gi_V wd_800 wd_801 wd_802 wd_5 wd_803) rfl rfl rfl (by decide +kernel) ⟨Nat.le_of_ble_eq_true rfl, Nat.le_of_ble_eq_true rfl⟩) (wr_preV hKM (P_l hP) (D_l hD) (ci := 3) (q0 := 0) rfl rfl) rfl rfl hl.1 rfl (lv_room (Nat.le_of_ble_eq_true rfl)) d_L_law_1552 ⟨show _ ≤ 601024 by omega, show _ ≤ 7293034 by omega⟩) hP hD hS hA wM_adr (fun H locs nP nD nS => ?_)
  replace hP := nP
  replace hD := nD
  replace hS := nS
  clear nP nD nS
  have hV9 : Iv (t + 1) (op_lotAt S (xs (6 * t + 1)) (xs (6 * t + 2))).2.2 := Iv_lotAt hV 
  refine W.eq (g2 := F0 m 1555 ls [.int ((op_lotAt S (xs (6 * t + 1)) (xs (6 * t + 2))).2.1)]) rfl ?_
  refine lv_istore (lv' := [(6, .int ((op_lotAt S (xs (6 * t + 1)) (xs (6 * t + 2))).2.1)), (5, .int (nI (op_lotAt S (xs (6 * t + 1)) (xs (6 * t + 2))).1)), (0, .ref b), (1, .ref (q 0)), (2, .ref (r 0)), (3, .ref qo), (4, .int (nI (6 * t)))]) hx hb d_L_law_1555 hl (by decide) rfl (fun ls hl => ?_)
  refine lv_aload_n hx hb d_L_law_1557 rfl (lv_at hl 4 rfl) ?_
  refine pu_go (va_runV (As := []) (rest := []) ⟨hx, hb, hml, hown, hts⟩ (c_M_thrown l dC dI cI cZ r (op_lotAt S (xs (6 * t + 1)) (xs (6 * t + 2))).2.2 (nI (op_lotAt S (xs (6 * t + 1)) (xs (6 * t + 2))).1) (t + 1) hV9.1.1) (cwV 0 hts (gi_V wd_668 wd_669 wd_670 wd_5 wd_671) rfl rfl rfl (by decide +kernel) ⟨Nat.le_of_ble_eq_true rfl, Nat.le_of_ble_eq_true rfl⟩) (pu_preV hKM (P_l hP) (ci := 3) (q0 := 0) rfl rfl) rfl rfl hl.1 rfl (lv_room (Nat.le_of_ble_eq_true rfl)) d_L_law_1558 ⟨show _ ≤ 601024 by omega, show _ ≤ 7293034 by omega⟩) ?_
  refine lv_iload hx hb d_L_law_1561 (lv_at hl 1 rfl) ?_
  refine lv_icmp_eq (tgt := 1568) hx hb d_L_law_1563 (by decide) (fun c1563 => ?_) (fun c1563 => ?_)
  · refine lv_iload hx hb d_L_law_1568 (lv_at hl 1 rfl) ?_
    refine lv_if_ne (tgt := 1585) hx hb d_L_law_1570 (by decide) (fun c1570 => ?_) (fun c1570 => ?_)
    · refine lv_goto (tgt := 1768) hx hb d_L_law_1585 (by decide) ?_
      refine W.widen (k := cells + 8) (n := slots + 48) (by omega) (by omega) ?_
      exact k _ _ _ _ _ _ ⟨hV9, P_swap hP, D_swap hD, hS, lv_sub hl [2, 3, 4, 5, 6] rfl⟩
    · have h0 : (op_lotAt S (xs (6 * t + 1)) (xs (6 * t + 2))).1 = 0 := z_of lt_lotAt c1570
      refine lv_aload_n hx hb d_L_law_1573 rfl (lv_at hl 5 rfl) ?_
      refine lv_iconst (v := nI 0) hx hb d_L_law_1574 (by decide) ?_
      refine lw_out (o := (op_lotAt S (xs (6 * t + 1)) (xs (6 * t + 2)))) (f := f) hx hb (hK.sub (tys' := [(cJ, .long)]) [2] rfl) (P_r (P_r hP)) h0 d_L_law_1575 ?_
      refine lv_iload hx hb d_L_law_1576 (lv_at hl 0 rfl) ?_
      refine lv_i2l (v := ((op_lotAt S (xs (6 * t + 1)) (xs (6 * t + 2))).2.1).toInt64) hx hb d_L_law_1578 rfl ?_
      refine lw_cmp hx hb (rfl) d_L_law_1579 ?_
      refine lv_if_eq (tgt := 1585) hx hb d_L_law_1580 (by decide) (fun c1580 => ?_) (fun c1580 => ?_)
      · refine lv_goto (tgt := 1768) hx hb d_L_law_1585 (by decide) ?_
        refine W.widen (k := cells + 8) (n := slots + 48) (by omega) (by omega) ?_
        exact k _ _ _ _ _ _ ⟨hV9, P_swap hP, D_swap hD, hS, lv_sub hl [2, 3, 4, 5, 6] rfl⟩
      · exact absurd rfl c1580
  · exact absurd rfl c1563
set_option maxHeartbeats 4000000 in
set_option maxRecDepth 100000 in
theorem k_row {p : Program} {l : Launch} {e : Env} {s : State} {m : MethodId} {below : List Frame} {meth : Method} {c : Code} {b L : Nat} {xs : Nat → Int32} {dC : Nat → ClassId} {dI : Nat → Nat → Nat} {cI cZ cJ : ClassId} (C0 : lC p l s m meth c b L xs dC dI cI cZ cJ) {q r : Nat → Nat} {qo t : Nat} {S : St} {th : Int32} {f : Nat → Int64} {H : Heap} {locs : List Loc} {ls : Array Slot} {cells slots : Nat} (ht : t + 1 ≤ 512) (hj : 6 * t + 6 ≤ L) (hcs : cells + 8 ≤ 601024 ∧ slots + 48 ≤ 7293034)
    (G : lG s dC dI cI cZ cJ b q r qo t t S th f H locs ls) (k : lK p l e s m below meth c dC dI cI cZ cJ b q r qo t (cells + 8) (slots + 48)) : W p l e room_1 s m #[Value.ref b] below meth c H locs cells slots (lw_Z below #[Value.ref b] s) (F0 m 1588 ls []) := by
  obtain ⟨⟨hx, hb, hr, hml, hown, hts0, hX, hbl, hlocks, hgv⟩, hst, hK, hG0, hN, hL⟩ := C0
  have hts := bg_of hts0
  have hown : s.vm.findClass R_L = some m.cls := hown
  obtain ⟨hV0, hP, hD, hS, hl⟩ := G
  obtain ⟨hV, hou, hwa⟩ := Iv_up hV0 ht
  have hA : ∀ q : Nat, s.heap.size ≤ q → lA s q := fun _ h => h
  have hG : gG (lA s) s H := gG_H hG0 hS.2.1
  have hI := hV.1.1
  have hKM := hK.sub (tys' := [(cI, .int), (cZ, .boolean)]) [0, 1] rfl
  refine lv_aload_n hx hb d_L_law_1588 rfl (lv_at hl 1 rfl) ?_
  refine lv_aload_n hx hb d_L_law_1589 rfl (lv_at hl 0 rfl) ?_
  refine lv_iload hx hb d_L_law_1590 (lv_at hl 4 rfl) ?_
  refine lv_iconst (v := nI 1) hx hb d_L_law_1592 (by decide) ?_
  refine nv_add hx hb d_L_law_1593 ?_
  refine nv_sld hx hb hX hbl hS (by omega) hL d_L_law_1594 ?_
  refine lv_aload_n hx hb d_L_law_1595 rfl (lv_at hl 0 rfl) ?_
  refine lv_iload hx hb d_L_law_1596 (lv_at hl 4 rfl) ?_
  refine lv_iconst (v := nI 2) hx hb d_L_law_1598 (by decide) ?_
  refine nv_add hx hb d_L_law_1599 ?_
  refine nv_sld hx hb hX hbl hS (by omega) hL d_L_law_1600 ?_
  refine lv_aload_n hx hb d_L_law_1601 rfl (lv_at hl 3 rfl) ?_
  refine lw_go (vx_runSW (As := [.ref (q 0), .int (xs ((6 * t) + 1)), .int (xs ((6 * t) + 2)), .ref qo]) (rest := []) ⟨hx, hb, hml, hown, hts⟩ (c_L_row l hst dC dI (lA s) H.size cI q cJ qo f S (t + 1) hI (xs (6 * t + 1)) (xs (6 * t + 2)) ) (vx_cwSW 4 hts (gi_SW wd_501 wd_502 wd_0 wd_503) rfl rfl rfl (by decide +kernel) ⟨Nat.le_of_ble_eq_true rfl, Nat.le_of_ble_eq_true rfl⟩) (wl_preS (hK.sub (tys' := [(cI, .int), (cJ, .long)]) [0, 2] rfl) (P_l hP) (D_l hD) hG hN) rfl rfl hl.1 rfl (lv_room (Nat.le_of_ble_eq_true rfl)) d_L_law_1602 ⟨show _ ≤ 601024 by omega, show _ ≤ 7293034 by omega⟩) hP hD hS hA xo_adr (fun H locs nP nD nS => ?_)
  replace hP := P_swap nP
  replace hD := D_swap nD
  replace hS := nS
  clear nP nD nS hG
  refine W.eq (g2 := F0 m 1605 ls [.int (nI (op_row S (xs (6 * t + 1)) (xs (6 * t + 2))).1)]) rfl ?_
  refine lv_istore (lv' := [(5, .int (nI (op_row S (xs (6 * t + 1)) (xs (6 * t + 2))).1)), (0, .ref b), (1, .ref (q 0)), (2, .ref (r 0)), (3, .ref qo), (4, .int (nI (6 * t)))]) hx hb d_L_law_1605 hl (by decide) rfl (fun ls hl => ?_)
  refine lv_aload_n hx hb d_L_law_1607 rfl (lv_at hl 3 rfl) ?_
  refine lv_aload_n hx hb d_L_law_1608 rfl (lv_at hl 1 rfl) ?_
  refine lv_iload hx hb d_L_law_1609 (lv_at hl 5 rfl) ?_
  refine lv_iconst (v := nI 1) hx hb d_L_law_1611 (by decide) ?_
  refine nv_add hx hb d_L_law_1612 ?_
  refine nv_sld hx hb hX hbl hS (by omega) hL d_L_law_1613 ?_
  refine lv_aload_n hx hb d_L_law_1614 rfl (lv_at hl 1 rfl) ?_
  refine lv_iload hx hb d_L_law_1615 (lv_at hl 5 rfl) ?_
  refine lv_iconst (v := nI 2) hx hb d_L_law_1617 (by decide) ?_
  refine nv_add hx hb d_L_law_1618 ?_
  refine nv_sld hx hb hX hbl hS (by omega) hL d_L_law_1619 ?_
  refine lw_go (va_runV (As := [.int (xs ((6 * t) + 1)), .int (xs ((6 * t) + 2))]) (rest := []) ⟨hx, hb, hml, hown, hts⟩ (c_M_row l dC dI H.size cI cZ r S th (t + 1) hI (xs (6 * t + 1)) (xs (6 * t + 2)) hV.1 ) (cwV 2 hts (gi_V wd_804 wd_805 wd_806 wd_5 wd_807) rfl rfl rfl (by decide +kernel) ⟨Nat.le_of_ble_eq_true rfl, Nat.le_of_ble_eq_true rfl⟩) (wr_preV hKM (P_l hP) (D_l hD) (ci := 3) (q0 := 0) rfl rfl) rfl rfl hl.1 rfl (lv_room (Nat.le_of_ble_eq_true rfl)) d_L_law_1620 ⟨show _ ≤ 601024 by omega, show _ ≤ 7293034 by omega⟩) hP hD hS hA wM_adr (fun H locs nP nD nS => ?_)
  replace hP := nP
  replace hD := nD
  replace hS := nS
  clear nP nD nS
  have hV9 : Iv (t + 1) (op_row S (xs (6 * t + 1)) (xs (6 * t + 2))).2.2 := Iv_row hV 
  refine W.eq (g2 := F0 m 1623 ls [.int ((op_row S (xs (6 * t + 1)) (xs (6 * t + 2))).2.1)]) rfl ?_
  refine lv_istore (lv' := [(6, .int ((op_row S (xs (6 * t + 1)) (xs (6 * t + 2))).2.1)), (5, .int (nI (op_row S (xs (6 * t + 1)) (xs (6 * t + 2))).1)), (0, .ref b), (1, .ref (q 0)), (2, .ref (r 0)), (3, .ref qo), (4, .int (nI (6 * t)))]) hx hb d_L_law_1623 hl (by decide) rfl (fun ls hl => ?_)
  refine lv_aload_n hx hb d_L_law_1625 rfl (lv_at hl 4 rfl) ?_
  refine pu_go (va_runV (As := []) (rest := []) ⟨hx, hb, hml, hown, hts⟩ (c_M_thrown l dC dI cI cZ r (op_row S (xs (6 * t + 1)) (xs (6 * t + 2))).2.2 (nI (op_row S (xs (6 * t + 1)) (xs (6 * t + 2))).1) (t + 1) hV9.1.1) (cwV 0 hts (gi_V wd_668 wd_669 wd_670 wd_5 wd_671) rfl rfl rfl (by decide +kernel) ⟨Nat.le_of_ble_eq_true rfl, Nat.le_of_ble_eq_true rfl⟩) (pu_preV hKM (P_l hP) (ci := 3) (q0 := 0) rfl rfl) rfl rfl hl.1 rfl (lv_room (Nat.le_of_ble_eq_true rfl)) d_L_law_1626 ⟨show _ ≤ 601024 by omega, show _ ≤ 7293034 by omega⟩) ?_
  refine lv_iload hx hb d_L_law_1629 (lv_at hl 1 rfl) ?_
  refine lv_icmp_eq (tgt := 1636) hx hb d_L_law_1631 (by decide) (fun c1631 => ?_) (fun c1631 => ?_)
  · refine lv_iload hx hb d_L_law_1636 (lv_at hl 1 rfl) ?_
    refine lv_if_ne (tgt := 1653) hx hb d_L_law_1638 (by decide) (fun c1638 => ?_) (fun c1638 => ?_)
    · refine lv_goto (tgt := 1768) hx hb d_L_law_1653 (by decide) ?_
      refine W.widen (k := cells + 8) (n := slots + 48) (by omega) (by omega) ?_
      exact k _ _ _ _ _ _ ⟨hV9, P_swap hP, D_swap hD, hS, lv_sub hl [2, 3, 4, 5, 6] rfl⟩
    · have h0 : (op_row S (xs (6 * t + 1)) (xs (6 * t + 2))).1 = 0 := z_of lt_row c1638
      refine lv_aload_n hx hb d_L_law_1641 rfl (lv_at hl 5 rfl) ?_
      refine lv_iconst (v := nI 0) hx hb d_L_law_1642 (by decide) ?_
      refine lw_out (o := (op_row S (xs (6 * t + 1)) (xs (6 * t + 2)))) (f := f) hx hb (hK.sub (tys' := [(cJ, .long)]) [2] rfl) (P_r (P_r hP)) h0 d_L_law_1643 ?_
      refine lv_iload hx hb d_L_law_1644 (lv_at hl 0 rfl) ?_
      refine lv_i2l (v := ((op_row S (xs (6 * t + 1)) (xs (6 * t + 2))).2.1).toInt64) hx hb d_L_law_1646 rfl ?_
      refine lw_cmp hx hb (rfl) d_L_law_1647 ?_
      refine lv_if_eq (tgt := 1653) hx hb d_L_law_1648 (by decide) (fun c1648 => ?_) (fun c1648 => ?_)
      · refine lv_goto (tgt := 1768) hx hb d_L_law_1653 (by decide) ?_
        refine W.widen (k := cells + 8) (n := slots + 48) (by omega) (by omega) ?_
        exact k _ _ _ _ _ _ ⟨hV9, P_swap hP, D_swap hD, hS, lv_sub hl [2, 3, 4, 5, 6] rfl⟩
      · exact absurd rfl c1648
  · exact absurd rfl c1631
set_option maxHeartbeats 4000000 in
set_option maxRecDepth 100000 in
theorem k_dip {p : Program} {l : Launch} {e : Env} {s : State} {m : MethodId} {below : List Frame} {meth : Method} {c : Code} {b L : Nat} {xs : Nat → Int32} {dC : Nat → ClassId} {dI : Nat → Nat → Nat} {cI cZ cJ : ClassId} (C0 : lC p l s m meth c b L xs dC dI cI cZ cJ) {q r : Nat → Nat} {qo t : Nat} {S : St} {th : Int32} {f : Nat → Int64} {H : Heap} {locs : List Loc} {ls : Array Slot} {cells slots : Nat} (ht : t + 1 ≤ 512) (hj : 6 * t + 6 ≤ L) (hcs : cells + 8 ≤ 601024 ∧ slots + 48 ≤ 7293034)
    (G : lG s dC dI cI cZ cJ b q r qo t t S th f H locs ls) (k : lK p l e s m below meth c dC dI cI cZ cJ b q r qo t (cells + 8) (slots + 48)) : W p l e room_1 s m #[Value.ref b] below meth c H locs cells slots (lw_Z below #[Value.ref b] s) (F0 m 1656 ls []) := by
  obtain ⟨⟨hx, hb, hr, hml, hown, hts0, hX, hbl, hlocks, hgv⟩, hst, hK, hG0, hN, hL⟩ := C0
  have hts := bg_of hts0
  have hown : s.vm.findClass R_L = some m.cls := hown
  obtain ⟨hV0, hP, hD, hS, hl⟩ := G
  obtain ⟨hV, hou, hwa⟩ := Iv_up hV0 ht
  have hA : ∀ q : Nat, s.heap.size ≤ q → lA s q := fun _ h => h
  have hG : gG (lA s) s H := gG_H hG0 hS.2.1
  have hI := hV.1.1
  have hKM := hK.sub (tys' := [(cI, .int), (cZ, .boolean)]) [0, 1] rfl
  refine lv_aload_n hx hb d_L_law_1656 rfl (lv_at hl 1 rfl) ?_
  refine lv_aload_n hx hb d_L_law_1657 rfl (lv_at hl 0 rfl) ?_
  refine lv_iload hx hb d_L_law_1658 (lv_at hl 4 rfl) ?_
  refine lv_iconst (v := nI 1) hx hb d_L_law_1660 (by decide) ?_
  refine nv_add hx hb d_L_law_1661 ?_
  refine nv_sld hx hb hX hbl hS (by omega) hL d_L_law_1662 ?_
  refine lv_aload_n hx hb d_L_law_1663 rfl (lv_at hl 3 rfl) ?_
  refine lw_go (vx_runSW (As := [.ref (q 0), .int (xs ((6 * t) + 1)), .ref qo]) (rest := []) ⟨hx, hb, hml, hown, hts⟩ (c_L_dip l hst dC dI (lA s) H.size cI q cJ qo f S (t + 1) hI (xs (6 * t + 1)) hV.1.2.2.2.2.2.2.2) (vx_cwSW 3 hts (gi_SW wd_523 wd_524 wd_0 wd_525) rfl rfl rfl (by decide +kernel) ⟨Nat.le_of_ble_eq_true rfl, Nat.le_of_ble_eq_true rfl⟩) (wl_preS (hK.sub (tys' := [(cI, .int), (cJ, .long)]) [0, 2] rfl) (P_l hP) (D_l hD) hG hN) rfl rfl hl.1 rfl (lv_room (Nat.le_of_ble_eq_true rfl)) d_L_law_1664 ⟨show _ ≤ 601024 by omega, show _ ≤ 7293034 by omega⟩) hP hD hS hA xo_adr (fun H locs nP nD nS => ?_)
  replace hP := P_swap nP
  replace hD := D_swap nD
  replace hS := nS
  clear nP nD nS hG
  refine W.eq (g2 := F0 m 1667 ls [.int (nI (op_dip S (xs (6 * t + 1))).1)]) rfl ?_
  refine lv_istore (lv' := [(5, .int (nI (op_dip S (xs (6 * t + 1))).1)), (0, .ref b), (1, .ref (q 0)), (2, .ref (r 0)), (3, .ref qo), (4, .int (nI (6 * t)))]) hx hb d_L_law_1667 hl (by decide) rfl (fun ls hl => ?_)
  refine lv_aload_n hx hb d_L_law_1669 rfl (lv_at hl 3 rfl) ?_
  refine lv_aload_n hx hb d_L_law_1670 rfl (lv_at hl 1 rfl) ?_
  refine lv_iload hx hb d_L_law_1671 (lv_at hl 5 rfl) ?_
  refine lv_iconst (v := nI 1) hx hb d_L_law_1673 (by decide) ?_
  refine nv_add hx hb d_L_law_1674 ?_
  refine nv_sld hx hb hX hbl hS (by omega) hL d_L_law_1675 ?_
  refine lw_go (va_runV (As := [.int (xs ((6 * t) + 1))]) (rest := []) ⟨hx, hb, hml, hown, hts⟩ (c_M_dip l dC dI H.size cI cZ r S th (t + 1) hI (xs (6 * t + 1)) hV.1 ) (cwV 1 hts (gi_V wd_809 wd_810 wd_811 wd_5 wd_812) rfl rfl rfl (by decide +kernel) ⟨Nat.le_of_ble_eq_true rfl, Nat.le_of_ble_eq_true rfl⟩) (wr_preV hKM (P_l hP) (D_l hD) (ci := 3) (q0 := 0) rfl rfl) rfl rfl hl.1 rfl (lv_room (Nat.le_of_ble_eq_true rfl)) d_L_law_1676 ⟨show _ ≤ 601024 by omega, show _ ≤ 7293034 by omega⟩) hP hD hS hA wM_adr (fun H locs nP nD nS => ?_)
  replace hP := nP
  replace hD := nD
  replace hS := nS
  clear nP nD nS
  have hV9 : Iv (t + 1) (op_dip S (xs (6 * t + 1))).2.2 := Iv_dip hV 
  refine W.eq (g2 := F0 m 1679 ls [.int ((op_dip S (xs (6 * t + 1))).2.1)]) rfl ?_
  refine lv_istore (lv' := [(6, .int ((op_dip S (xs (6 * t + 1))).2.1)), (5, .int (nI (op_dip S (xs (6 * t + 1))).1)), (0, .ref b), (1, .ref (q 0)), (2, .ref (r 0)), (3, .ref qo), (4, .int (nI (6 * t)))]) hx hb d_L_law_1679 hl (by decide) rfl (fun ls hl => ?_)
  refine lv_aload_n hx hb d_L_law_1681 rfl (lv_at hl 4 rfl) ?_
  refine pu_go (va_runV (As := []) (rest := []) ⟨hx, hb, hml, hown, hts⟩ (c_M_thrown l dC dI cI cZ r (op_dip S (xs (6 * t + 1))).2.2 (nI (op_dip S (xs (6 * t + 1))).1) (t + 1) hV9.1.1) (cwV 0 hts (gi_V wd_668 wd_669 wd_670 wd_5 wd_671) rfl rfl rfl (by decide +kernel) ⟨Nat.le_of_ble_eq_true rfl, Nat.le_of_ble_eq_true rfl⟩) (pu_preV hKM (P_l hP) (ci := 3) (q0 := 0) rfl rfl) rfl rfl hl.1 rfl (lv_room (Nat.le_of_ble_eq_true rfl)) d_L_law_1682 ⟨show _ ≤ 601024 by omega, show _ ≤ 7293034 by omega⟩) ?_
  refine lv_iload hx hb d_L_law_1685 (lv_at hl 1 rfl) ?_
  refine lv_icmp_eq (tgt := 1692) hx hb d_L_law_1687 (by decide) (fun c1687 => ?_) (fun c1687 => ?_)
  · refine lv_iload hx hb d_L_law_1692 (lv_at hl 1 rfl) ?_
    refine lv_if_ne (tgt := 1709) hx hb d_L_law_1694 (by decide) (fun c1694 => ?_) (fun c1694 => ?_)
    · refine lv_goto (tgt := 1768) hx hb d_L_law_1709 (by decide) ?_
      refine W.widen (k := cells + 8) (n := slots + 48) (by omega) (by omega) ?_
      exact k _ _ _ _ _ _ ⟨hV9, P_swap hP, D_swap hD, hS, lv_sub hl [2, 3, 4, 5, 6] rfl⟩
    · have h0 : (op_dip S (xs (6 * t + 1))).1 = 0 := z_of lt_dip c1694
      refine lv_aload_n hx hb d_L_law_1697 rfl (lv_at hl 5 rfl) ?_
      refine lv_iconst (v := nI 0) hx hb d_L_law_1698 (by decide) ?_
      refine lw_out (o := (op_dip S (xs (6 * t + 1)))) (f := f) hx hb (hK.sub (tys' := [(cJ, .long)]) [2] rfl) (P_r (P_r hP)) h0 d_L_law_1699 ?_
      refine lv_iload hx hb d_L_law_1700 (lv_at hl 0 rfl) ?_
      refine lv_i2l (v := ((op_dip S (xs (6 * t + 1))).2.1).toInt64) hx hb d_L_law_1702 rfl ?_
      refine lw_cmp hx hb (rfl) d_L_law_1703 ?_
      refine lv_if_eq (tgt := 1709) hx hb d_L_law_1704 (by decide) (fun c1704 => ?_) (fun c1704 => ?_)
      · refine lv_goto (tgt := 1768) hx hb d_L_law_1709 (by decide) ?_
        refine W.widen (k := cells + 8) (n := slots + 48) (by omega) (by omega) ?_
        exact k _ _ _ _ _ _ ⟨hV9, P_swap hP, D_swap hD, hS, lv_sub hl [2, 3, 4, 5, 6] rfl⟩
      · exact absurd rfl c1704
  · exact absurd rfl c1687
set_option maxHeartbeats 4000000 in
set_option maxRecDepth 100000 in
theorem k_tick {p : Program} {l : Launch} {e : Env} {s : State} {m : MethodId} {below : List Frame} {meth : Method} {c : Code} {b L : Nat} {xs : Nat → Int32} {dC : Nat → ClassId} {dI : Nat → Nat → Nat} {cI cZ cJ : ClassId} (C0 : lC p l s m meth c b L xs dC dI cI cZ cJ) {q r : Nat → Nat} {qo t : Nat} {S : St} {th : Int32} {f : Nat → Int64} {H : Heap} {locs : List Loc} {ls : Array Slot} {cells slots : Nat} (ht : t + 1 ≤ 512) (hj : 6 * t + 6 ≤ L) (hcs : cells + 8 ≤ 601024 ∧ slots + 48 ≤ 7293034)
    (G : lG s dC dI cI cZ cJ b q r qo t t S th f H locs ls) (k : lK p l e s m below meth c dC dI cI cZ cJ b q r qo t (cells + 8) (slots + 48)) : W p l e room_1 s m #[Value.ref b] below meth c H locs cells slots (lw_Z below #[Value.ref b] s) (F0 m 1712 ls []) := by
  obtain ⟨⟨hx, hb, hr, hml, hown, hts0, hX, hbl, hlocks, hgv⟩, hst, hK, hG0, hN, hL⟩ := C0
  have hts := bg_of hts0
  have hown : s.vm.findClass R_L = some m.cls := hown
  obtain ⟨hV0, hP, hD, hS, hl⟩ := G
  obtain ⟨hV, hou, hwa⟩ := Iv_up hV0 ht
  have hA : ∀ q : Nat, s.heap.size ≤ q → lA s q := fun _ h => h
  have hG : gG (lA s) s H := gG_H hG0 hS.2.1
  have hI := hV.1.1
  have hKM := hK.sub (tys' := [(cI, .int), (cZ, .boolean)]) [0, 1] rfl
  refine lv_aload_n hx hb d_L_law_1712 rfl (lv_at hl 1 rfl) ?_
  refine lv_aload_n hx hb d_L_law_1713 rfl (lv_at hl 0 rfl) ?_
  refine lv_iload hx hb d_L_law_1714 (lv_at hl 4 rfl) ?_
  refine lv_iconst (v := nI 1) hx hb d_L_law_1716 (by decide) ?_
  refine nv_add hx hb d_L_law_1717 ?_
  refine nv_sld hx hb hX hbl hS (by omega) hL d_L_law_1718 ?_
  refine lv_aload_n hx hb d_L_law_1719 rfl (lv_at hl 3 rfl) ?_
  refine lw_go (vx_runSW (As := [.ref (q 0), .int (xs ((6 * t) + 1)), .ref qo]) (rest := []) ⟨hx, hb, hml, hown, hts⟩ (c_L_tick l hst dC dI (lA s) H.size cI q cJ qo f S (t + 1) hI (xs (6 * t + 1)) ) (vx_cwSW 3 hts (gi_SW wd_542 wd_543 wd_0 wd_544) rfl rfl rfl (by decide +kernel) ⟨Nat.le_of_ble_eq_true rfl, Nat.le_of_ble_eq_true rfl⟩) (wl_preS (hK.sub (tys' := [(cI, .int), (cJ, .long)]) [0, 2] rfl) (P_l hP) (D_l hD) hG hN) rfl rfl hl.1 rfl (lv_room (Nat.le_of_ble_eq_true rfl)) d_L_law_1720 ⟨show _ ≤ 601024 by omega, show _ ≤ 7293034 by omega⟩) hP hD hS hA xo_adr (fun H locs nP nD nS => ?_)
  replace hP := P_swap nP
  replace hD := D_swap nD
  replace hS := nS
  clear nP nD nS hG
  refine W.eq (g2 := F0 m 1723 ls [.int (nI (op_tick S (xs (6 * t + 1))).1)]) rfl ?_
  refine lv_istore (lv' := [(5, .int (nI (op_tick S (xs (6 * t + 1))).1)), (0, .ref b), (1, .ref (q 0)), (2, .ref (r 0)), (3, .ref qo), (4, .int (nI (6 * t)))]) hx hb d_L_law_1723 hl (by decide) rfl (fun ls hl => ?_)
  refine lv_aload_n hx hb d_L_law_1725 rfl (lv_at hl 3 rfl) ?_
  refine lv_aload_n hx hb d_L_law_1726 rfl (lv_at hl 1 rfl) ?_
  refine lv_iload hx hb d_L_law_1727 (lv_at hl 5 rfl) ?_
  refine lv_iconst (v := nI 1) hx hb d_L_law_1729 (by decide) ?_
  refine nv_add hx hb d_L_law_1730 ?_
  refine nv_sld hx hb hX hbl hS (by omega) hL d_L_law_1731 ?_
  refine lw_go (va_runV (As := [.int (xs ((6 * t) + 1))]) (rest := []) ⟨hx, hb, hml, hown, hts⟩ (c_M_tick l dC dI H.size cI cZ r S th (t + 1) hI (xs (6 * t + 1)) hV.1 ) (cwV 1 hts (gi_V wd_813 wd_814 wd_815 wd_5 wd_816) rfl rfl rfl (by decide +kernel) ⟨Nat.le_of_ble_eq_true rfl, Nat.le_of_ble_eq_true rfl⟩) (wr_preV hKM (P_l hP) (D_l hD) (ci := 3) (q0 := 0) rfl rfl) rfl rfl hl.1 rfl (lv_room (Nat.le_of_ble_eq_true rfl)) d_L_law_1732 ⟨show _ ≤ 601024 by omega, show _ ≤ 7293034 by omega⟩) hP hD hS hA wM_adr (fun H locs nP nD nS => ?_)
  replace hP := nP
  replace hD := nD
  replace hS := nS
  clear nP nD nS
  have hV9 : Iv (t + 1) (op_tick S (xs (6 * t + 1))).2.2 := Iv_tick hV 
  refine W.eq (g2 := F0 m 1735 ls [.int ((op_tick S (xs (6 * t + 1))).2.1)]) rfl ?_
  refine lv_istore (lv' := [(6, .int ((op_tick S (xs (6 * t + 1))).2.1)), (5, .int (nI (op_tick S (xs (6 * t + 1))).1)), (0, .ref b), (1, .ref (q 0)), (2, .ref (r 0)), (3, .ref qo), (4, .int (nI (6 * t)))]) hx hb d_L_law_1735 hl (by decide) rfl (fun ls hl => ?_)
  refine lv_aload_n hx hb d_L_law_1737 rfl (lv_at hl 4 rfl) ?_
  refine pu_go (va_runV (As := []) (rest := []) ⟨hx, hb, hml, hown, hts⟩ (c_M_thrown l dC dI cI cZ r (op_tick S (xs (6 * t + 1))).2.2 (nI (op_tick S (xs (6 * t + 1))).1) (t + 1) hV9.1.1) (cwV 0 hts (gi_V wd_668 wd_669 wd_670 wd_5 wd_671) rfl rfl rfl (by decide +kernel) ⟨Nat.le_of_ble_eq_true rfl, Nat.le_of_ble_eq_true rfl⟩) (pu_preV hKM (P_l hP) (ci := 3) (q0 := 0) rfl rfl) rfl rfl hl.1 rfl (lv_room (Nat.le_of_ble_eq_true rfl)) d_L_law_1738 ⟨show _ ≤ 601024 by omega, show _ ≤ 7293034 by omega⟩) ?_
  refine lv_iload hx hb d_L_law_1741 (lv_at hl 1 rfl) ?_
  refine lv_icmp_eq (tgt := 1748) hx hb d_L_law_1743 (by decide) (fun c1743 => ?_) (fun c1743 => ?_)
  · refine lv_iload hx hb d_L_law_1748 (lv_at hl 1 rfl) ?_
    refine lv_if_ne (tgt := 1765) hx hb d_L_law_1750 (by decide) (fun c1750 => ?_) (fun c1750 => ?_)
    · refine lv_goto (tgt := 1768) hx hb d_L_law_1765 (by decide) ?_
      refine W.widen (k := cells + 8) (n := slots + 48) (by omega) (by omega) ?_
      exact k _ _ _ _ _ _ ⟨hV9, P_swap hP, D_swap hD, hS, lv_sub hl [2, 3, 4, 5, 6] rfl⟩
    · have h0 : (op_tick S (xs (6 * t + 1))).1 = 0 := z_of lt_tick c1750
      refine lv_aload_n hx hb d_L_law_1753 rfl (lv_at hl 5 rfl) ?_
      refine lv_iconst (v := nI 0) hx hb d_L_law_1754 (by decide) ?_
      refine lw_out (o := (op_tick S (xs (6 * t + 1)))) (f := f) hx hb (hK.sub (tys' := [(cJ, .long)]) [2] rfl) (P_r (P_r hP)) h0 d_L_law_1755 ?_
      refine lv_iload hx hb d_L_law_1756 (lv_at hl 0 rfl) ?_
      refine lv_i2l (v := ((op_tick S (xs (6 * t + 1))).2.1).toInt64) hx hb d_L_law_1758 rfl ?_
      refine lw_cmp hx hb (rfl) d_L_law_1759 ?_
      refine lv_if_eq (tgt := 1765) hx hb d_L_law_1760 (by decide) (fun c1760 => ?_) (fun c1760 => ?_)
      · refine lv_goto (tgt := 1768) hx hb d_L_law_1765 (by decide) ?_
        refine W.widen (k := cells + 8) (n := slots + 48) (by omega) (by omega) ?_
        exact k _ _ _ _ _ _ ⟨hV9, P_swap hP, D_swap hD, hS, lv_sub hl [2, 3, 4, 5, 6] rfl⟩
      · exact absurd rfl c1760
  · exact absurd rfl c1743
