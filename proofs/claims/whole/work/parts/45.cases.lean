set_option maxHeartbeats 4000000 in
set_option maxRecDepth 100000 in
theorem k_store {p : Program} {l : Launch} {e : Env} {s : State} {m : MethodId} {below : List Frame} {meth : Method} {c : Code} {b L : Nat} {xs : Nat → Int32} {dC : Nat → ClassId} {dI : Nat → Nat → Nat} {cI cZ cJ : ClassId} (C0 : lC p l s m meth c b L xs dC dI cI cZ cJ) {q r : Nat → Nat} {qo t : Nat} {S : St} {th : Int32} {f : Nat → Int64} {H : Heap} {locs : List Loc} {ls : Array Slot} {cells slots : Nat} (ht : t + 1 ≤ 512) (hj : 6 * t + 6 ≤ L) (hcs : cells + 8 ≤ 601024 ∧ slots + 48 ≤ 7293034)
    (G : lG s dC dI cI cZ cJ b q r qo t t S th f H locs ls) (k : lK p l e s m below meth c dC dI cI cZ cJ b q r qo t (cells + 8) (slots + 48)) : W p l e room_1 s m #[Value.ref b] below meth c H locs cells slots (lw_Z below #[Value.ref b] s) (F0 m 148 ls []) := by
  obtain ⟨⟨hx, hb, hr, hml, hown, hts0, hX, hbl, hlocks, hgv⟩, hst, hK, hG0, hN, hL⟩ := C0
  have hts := bg_of hts0
  have hown : s.vm.findClass R_L = some m.cls := hown
  obtain ⟨hV0, hP, hD, hS, hl⟩ := G
  obtain ⟨hV, hou, hwa⟩ := Iv_up hV0 ht
  have hA : ∀ q : Nat, s.heap.size ≤ q → lA s q := fun _ h => h
  have hG : gG (lA s) s H := gG_H hG0 hS.2.1
  have hI := hV.1.1
  have hKM := hK.sub (tys' := [(cI, .int), (cZ, .boolean)]) [0, 1] rfl
  refine lv_aload_n hx hb d_L_law_148 rfl (lv_at hl 1 rfl) ?_
  refine lv_aload_n hx hb d_L_law_149 rfl (lv_at hl 3 rfl) ?_
  refine lw_go (vx_runSW (As := [.ref (q 0), .ref qo]) (rest := []) ⟨hx, hb, hml, hown, hts⟩ (c_L_store l hst dC dI (lA s) H.size cI q cJ qo f S (t + 1) hI  ) (vx_cwSW 2 hts (gi_SW wd_148 wd_149 wd_0 wd_150) rfl rfl rfl (by decide +kernel) ⟨Nat.le_of_ble_eq_true rfl, Nat.le_of_ble_eq_true rfl⟩) (wl_preS (hK.sub (tys' := [(cI, .int), (cJ, .long)]) [0, 2] rfl) (P_l hP) (D_l hD) hG hN) rfl rfl hl.1 rfl (lv_room (Nat.le_of_ble_eq_true rfl)) d_L_law_150 ⟨show _ ≤ 601024 by omega, show _ ≤ 7293034 by omega⟩) hP hD hS hA xo_adr (fun H locs nP nD nS => ?_)
  replace hP := P_swap nP
  replace hD := D_swap nD
  replace hS := nS
  clear nP nD nS hG
  refine W.eq (g2 := F0 m 153 ls [.int (nI (op_store S).1)]) rfl ?_
  refine lv_istore (lv' := [(5, .int (nI (op_store S).1)), (0, .ref b), (1, .ref (q 0)), (2, .ref (r 0)), (3, .ref qo), (4, .int (nI (6 * t)))]) hx hb d_L_law_153 hl (by decide) rfl (fun ls hl => ?_)
  refine lv_aload_n hx hb d_L_law_155 rfl (lv_at hl 3 rfl) ?_
  refine lw_go (va_runV (As := []) (rest := []) ⟨hx, hb, hml, hown, hts⟩ (c_M_store l dC dI H.size cI cZ r S th (t + 1) hI  hV.1 ) (cwV 0 hts (gi_V wd_672 wd_673 wd_674 wd_5 wd_675) rfl rfl rfl (by decide +kernel) ⟨Nat.le_of_ble_eq_true rfl, Nat.le_of_ble_eq_true rfl⟩) (wr_preV hKM (P_l hP) (D_l hD) (ci := 3) (q0 := 0) rfl rfl) rfl rfl hl.1 rfl (lv_room (Nat.le_of_ble_eq_true rfl)) d_L_law_156 ⟨show _ ≤ 601024 by omega, show _ ≤ 7293034 by omega⟩) hP hD hS hA wM_adr (fun H locs nP nD nS => ?_)
  replace hP := nP
  replace hD := nD
  replace hS := nS
  clear nP nD nS
  have hV9 : Iv (t + 1) (op_store S).2.2 := Iv_store hV 
  refine W.eq (g2 := F0 m 159 ls [.int ((op_store S).2.1)]) rfl ?_
  refine lv_istore (lv' := [(6, .int ((op_store S).2.1)), (5, .int (nI (op_store S).1)), (0, .ref b), (1, .ref (q 0)), (2, .ref (r 0)), (3, .ref qo), (4, .int (nI (6 * t)))]) hx hb d_L_law_159 hl (by decide) rfl (fun ls hl => ?_)
  refine lv_aload_n hx hb d_L_law_161 rfl (lv_at hl 4 rfl) ?_
  refine pu_go (va_runV (As := []) (rest := []) ⟨hx, hb, hml, hown, hts⟩ (c_M_thrown l dC dI cI cZ r (op_store S).2.2 (nI (op_store S).1) (t + 1) hV9.1.1) (cwV 0 hts (gi_V wd_668 wd_669 wd_670 wd_5 wd_671) rfl rfl rfl (by decide +kernel) ⟨Nat.le_of_ble_eq_true rfl, Nat.le_of_ble_eq_true rfl⟩) (pu_preV hKM (P_l hP) (ci := 3) (q0 := 0) rfl rfl) rfl rfl hl.1 rfl (lv_room (Nat.le_of_ble_eq_true rfl)) d_L_law_162 ⟨show _ ≤ 601024 by omega, show _ ≤ 7293034 by omega⟩) ?_
  refine lv_iload hx hb d_L_law_165 (lv_at hl 1 rfl) ?_
  refine lv_icmp_eq (tgt := 172) hx hb d_L_law_167 (by decide) (fun c167 => ?_) (fun c167 => ?_)
  · refine lv_iload hx hb d_L_law_172 (lv_at hl 1 rfl) ?_
    refine lv_if_ne (tgt := 189) hx hb d_L_law_174 (by decide) (fun c174 => ?_) (fun c174 => ?_)
    · refine lv_goto (tgt := 1768) hx hb d_L_law_189 (by decide) ?_
      refine W.widen (k := cells + 8) (n := slots + 48) (by omega) (by omega) ?_
      exact k _ _ _ _ _ _ ⟨hV9, P_swap hP, D_swap hD, hS, lv_sub hl [2, 3, 4, 5, 6] rfl⟩
    · have h0 : (op_store S).1 = 0 := z_of lt_store c174
      refine lv_aload_n hx hb d_L_law_177 rfl (lv_at hl 5 rfl) ?_
      refine lv_iconst (v := nI 0) hx hb d_L_law_178 (by decide) ?_
      refine lw_out (o := (op_store S)) (f := f) hx hb (hK.sub (tys' := [(cJ, .long)]) [2] rfl) (P_r (P_r hP)) h0 d_L_law_179 ?_
      refine lv_iload hx hb d_L_law_180 (lv_at hl 0 rfl) ?_
      refine lv_i2l (v := ((op_store S).2.1).toInt64) hx hb d_L_law_182 rfl ?_
      refine lw_cmp hx hb (rfl) d_L_law_183 ?_
      refine lv_if_eq (tgt := 189) hx hb d_L_law_184 (by decide) (fun c184 => ?_) (fun c184 => ?_)
      · refine lv_goto (tgt := 1768) hx hb d_L_law_189 (by decide) ?_
        refine W.widen (k := cells + 8) (n := slots + 48) (by omega) (by omega) ?_
        exact k _ _ _ _ _ _ ⟨hV9, P_swap hP, D_swap hD, hS, lv_sub hl [2, 3, 4, 5, 6] rfl⟩
      · exact absurd rfl c184
  · exact absurd rfl c167
set_option maxHeartbeats 4000000 in
set_option maxRecDepth 100000 in
theorem k_lot {p : Program} {l : Launch} {e : Env} {s : State} {m : MethodId} {below : List Frame} {meth : Method} {c : Code} {b L : Nat} {xs : Nat → Int32} {dC : Nat → ClassId} {dI : Nat → Nat → Nat} {cI cZ cJ : ClassId} (C0 : lC p l s m meth c b L xs dC dI cI cZ cJ) {q r : Nat → Nat} {qo t : Nat} {S : St} {th : Int32} {f : Nat → Int64} {H : Heap} {locs : List Loc} {ls : Array Slot} {cells slots : Nat} (ht : t + 1 ≤ 512) (hj : 6 * t + 6 ≤ L) (hcs : cells + 8 ≤ 601024 ∧ slots + 48 ≤ 7293034)
    (G : lG s dC dI cI cZ cJ b q r qo t t S th f H locs ls) (k : lK p l e s m below meth c dC dI cI cZ cJ b q r qo t (cells + 8) (slots + 48)) : W p l e room_1 s m #[Value.ref b] below meth c H locs cells slots (lw_Z below #[Value.ref b] s) (F0 m 192 ls []) := by
  obtain ⟨⟨hx, hb, hr, hml, hown, hts0, hX, hbl, hlocks, hgv⟩, hst, hK, hG0, hN, hL⟩ := C0
  have hts := bg_of hts0
  have hown : s.vm.findClass R_L = some m.cls := hown
  obtain ⟨hV0, hP, hD, hS, hl⟩ := G
  obtain ⟨hV, hou, hwa⟩ := Iv_up hV0 ht
  have hA : ∀ q : Nat, s.heap.size ≤ q → lA s q := fun _ h => h
  have hG : gG (lA s) s H := gG_H hG0 hS.2.1
  have hI := hV.1.1
  have hKM := hK.sub (tys' := [(cI, .int), (cZ, .boolean)]) [0, 1] rfl
  refine lv_aload_n hx hb d_L_law_192 rfl (lv_at hl 1 rfl) ?_
  refine lv_aload_n hx hb d_L_law_193 rfl (lv_at hl 0 rfl) ?_
  refine lv_iload hx hb d_L_law_194 (lv_at hl 4 rfl) ?_
  refine lv_iconst (v := nI 1) hx hb d_L_law_196 (by decide) ?_
  refine nv_add hx hb d_L_law_197 ?_
  refine nv_sld hx hb hX hbl hS (by omega) hL d_L_law_198 ?_
  refine lv_aload_n hx hb d_L_law_199 rfl (lv_at hl 0 rfl) ?_
  refine lv_iload hx hb d_L_law_200 (lv_at hl 4 rfl) ?_
  refine lv_iconst (v := nI 2) hx hb d_L_law_202 (by decide) ?_
  refine nv_add hx hb d_L_law_203 ?_
  refine nv_sld hx hb hX hbl hS (by omega) hL d_L_law_204 ?_
  refine lv_aload_n hx hb d_L_law_205 rfl (lv_at hl 3 rfl) ?_
  refine lw_go (vx_runSW (As := [.ref (q 0), .int (xs ((6 * t) + 1)), .int (xs ((6 * t) + 2)), .ref qo]) (rest := []) ⟨hx, hb, hml, hown, hts⟩ (c_L_lot l hst dC dI (lA s) H.size cI q cJ qo f S (t + 1) hI (xs (6 * t + 1)) (xs (6 * t + 2)) ) (vx_cwSW 4 hts (gi_SW wd_225 wd_226 wd_0 wd_227) rfl rfl rfl (by decide +kernel) ⟨Nat.le_of_ble_eq_true rfl, Nat.le_of_ble_eq_true rfl⟩) (wl_preS (hK.sub (tys' := [(cI, .int), (cJ, .long)]) [0, 2] rfl) (P_l hP) (D_l hD) hG hN) rfl rfl hl.1 rfl (lv_room (Nat.le_of_ble_eq_true rfl)) d_L_law_206 ⟨show _ ≤ 601024 by omega, show _ ≤ 7293034 by omega⟩) hP hD hS hA xo_adr (fun H locs nP nD nS => ?_)
  replace hP := P_swap nP
  replace hD := D_swap nD
  replace hS := nS
  clear nP nD nS hG
  refine W.eq (g2 := F0 m 209 ls [.int (nI (op_lot S (xs (6 * t + 1)) (xs (6 * t + 2))).1)]) rfl ?_
  refine lv_istore (lv' := [(5, .int (nI (op_lot S (xs (6 * t + 1)) (xs (6 * t + 2))).1)), (0, .ref b), (1, .ref (q 0)), (2, .ref (r 0)), (3, .ref qo), (4, .int (nI (6 * t)))]) hx hb d_L_law_209 hl (by decide) rfl (fun ls hl => ?_)
  refine lv_aload_n hx hb d_L_law_211 rfl (lv_at hl 3 rfl) ?_
  refine lv_aload_n hx hb d_L_law_212 rfl (lv_at hl 1 rfl) ?_
  refine lv_iload hx hb d_L_law_213 (lv_at hl 5 rfl) ?_
  refine lv_iconst (v := nI 1) hx hb d_L_law_215 (by decide) ?_
  refine nv_add hx hb d_L_law_216 ?_
  refine nv_sld hx hb hX hbl hS (by omega) hL d_L_law_217 ?_
  refine lv_aload_n hx hb d_L_law_218 rfl (lv_at hl 1 rfl) ?_
  refine lv_iload hx hb d_L_law_219 (lv_at hl 5 rfl) ?_
  refine lv_iconst (v := nI 2) hx hb d_L_law_221 (by decide) ?_
  refine nv_add hx hb d_L_law_222 ?_
  refine nv_sld hx hb hX hbl hS (by omega) hL d_L_law_223 ?_
  refine lw_go (va_runV (As := [.int (xs ((6 * t) + 1)), .int (xs ((6 * t) + 2))]) (rest := []) ⟨hx, hb, hml, hown, hts⟩ (c_M_lot l dC dI H.size cI cZ r S th (t + 1) hI (xs (6 * t + 1)) (xs (6 * t + 2)) hV.1 ) (cwV 2 hts (gi_V wd_680 wd_681 wd_682 wd_5 wd_683) rfl rfl rfl (by decide +kernel) ⟨Nat.le_of_ble_eq_true rfl, Nat.le_of_ble_eq_true rfl⟩) (wr_preV hKM (P_l hP) (D_l hD) (ci := 3) (q0 := 0) rfl rfl) rfl rfl hl.1 rfl (lv_room (Nat.le_of_ble_eq_true rfl)) d_L_law_224 ⟨show _ ≤ 601024 by omega, show _ ≤ 7293034 by omega⟩) hP hD hS hA wM_adr (fun H locs nP nD nS => ?_)
  replace hP := nP
  replace hD := nD
  replace hS := nS
  clear nP nD nS
  have hV9 : Iv (t + 1) (op_lot S (xs (6 * t + 1)) (xs (6 * t + 2))).2.2 := Iv_lot_ hV 
  refine W.eq (g2 := F0 m 227 ls [.int ((op_lot S (xs (6 * t + 1)) (xs (6 * t + 2))).2.1)]) rfl ?_
  refine lv_istore (lv' := [(6, .int ((op_lot S (xs (6 * t + 1)) (xs (6 * t + 2))).2.1)), (5, .int (nI (op_lot S (xs (6 * t + 1)) (xs (6 * t + 2))).1)), (0, .ref b), (1, .ref (q 0)), (2, .ref (r 0)), (3, .ref qo), (4, .int (nI (6 * t)))]) hx hb d_L_law_227 hl (by decide) rfl (fun ls hl => ?_)
  refine lv_aload_n hx hb d_L_law_229 rfl (lv_at hl 4 rfl) ?_
  refine pu_go (va_runV (As := []) (rest := []) ⟨hx, hb, hml, hown, hts⟩ (c_M_thrown l dC dI cI cZ r (op_lot S (xs (6 * t + 1)) (xs (6 * t + 2))).2.2 (nI (op_lot S (xs (6 * t + 1)) (xs (6 * t + 2))).1) (t + 1) hV9.1.1) (cwV 0 hts (gi_V wd_668 wd_669 wd_670 wd_5 wd_671) rfl rfl rfl (by decide +kernel) ⟨Nat.le_of_ble_eq_true rfl, Nat.le_of_ble_eq_true rfl⟩) (pu_preV hKM (P_l hP) (ci := 3) (q0 := 0) rfl rfl) rfl rfl hl.1 rfl (lv_room (Nat.le_of_ble_eq_true rfl)) d_L_law_230 ⟨show _ ≤ 601024 by omega, show _ ≤ 7293034 by omega⟩) ?_
  refine lv_iload hx hb d_L_law_233 (lv_at hl 1 rfl) ?_
  refine lv_icmp_eq (tgt := 240) hx hb d_L_law_235 (by decide) (fun c235 => ?_) (fun c235 => ?_)
  · refine lv_iload hx hb d_L_law_240 (lv_at hl 1 rfl) ?_
    refine lv_if_ne (tgt := 257) hx hb d_L_law_242 (by decide) (fun c242 => ?_) (fun c242 => ?_)
    · refine lv_goto (tgt := 1768) hx hb d_L_law_257 (by decide) ?_
      refine W.widen (k := cells + 8) (n := slots + 48) (by omega) (by omega) ?_
      exact k _ _ _ _ _ _ ⟨hV9, P_swap hP, D_swap hD, hS, lv_sub hl [2, 3, 4, 5, 6] rfl⟩
    · have h0 : (op_lot S (xs (6 * t + 1)) (xs (6 * t + 2))).1 = 0 := z_of lt_lot c242
      refine lv_aload_n hx hb d_L_law_245 rfl (lv_at hl 5 rfl) ?_
      refine lv_iconst (v := nI 0) hx hb d_L_law_246 (by decide) ?_
      refine lw_out (o := (op_lot S (xs (6 * t + 1)) (xs (6 * t + 2)))) (f := f) hx hb (hK.sub (tys' := [(cJ, .long)]) [2] rfl) (P_r (P_r hP)) h0 d_L_law_247 ?_
      refine lv_iload hx hb d_L_law_248 (lv_at hl 0 rfl) ?_
      refine lv_i2l (v := ((op_lot S (xs (6 * t + 1)) (xs (6 * t + 2))).2.1).toInt64) hx hb d_L_law_250 rfl ?_
      refine lw_cmp hx hb (rfl) d_L_law_251 ?_
      refine lv_if_eq (tgt := 257) hx hb d_L_law_252 (by decide) (fun c252 => ?_) (fun c252 => ?_)
      · refine lv_goto (tgt := 1768) hx hb d_L_law_257 (by decide) ?_
        refine W.widen (k := cells + 8) (n := slots + 48) (by omega) (by omega) ?_
        exact k _ _ _ _ _ _ ⟨hV9, P_swap hP, D_swap hD, hS, lv_sub hl [2, 3, 4, 5, 6] rfl⟩
      · exact absurd rfl c252
  · exact absurd rfl c235
