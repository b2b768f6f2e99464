/-! THE LAW'S LOOP -/
theorem a31 (x : Int32) : ∃ j, j < 32 ∧ x &&& nI 31 = nI j := by
  refine ⟨(x.toBitVec &&& 31#32).toNat, ?_, ?_⟩
  · rw [BitVec.toNat_and]
    exact Nat.lt_succ_of_le Nat.and_le_right
  · apply Int32.toBitVec_inj.mp
    rw [Int32.toBitVec_and]
    show x.toBitVec &&& 31#32 = BitVec.ofNat 32 (x.toBitVec &&& 31#32).toNat
    rw [BitVec.ofNat_toNat, BitVec.setWidth_eq]
theorem gt_of {L t : Nat} (hL : L ≤ 3072) (ht : t ≤ 512) (h : ¬ nI L - nI 6 < nI (6 * t)) : 6 * t + 6 ≤ L := by
  rcases Nat.lt_or_ge L 6 with h6 | h6
  · exfalso
    have h1 : (nI L - nI 6).toInt < 0 := by
      rcases (show L = 0 ∨ L = 1 ∨ L = 2 ∨ L = 3 ∨ L = 4 ∨ L = 5 by omega) with rfl | rfl | rfl | rfl | rfl | rfl <;> decide
    have h2 : (nI (6 * t)).toInt = ((6 * t : Nat) : Int) := nI_toInt (by omega)
    exact h (Int32.lt_iff_toInt_lt.mpr (by omega))
  · rw [pk_sub h6, nI_ltI (by omega) (by omega)] at h
    omega
set_option maxHeartbeats 4000000 in
set_option maxRecDepth 100000 in
theorem k_all {p : Program} {l : Launch} {e : Env} {s : State} {m : MethodId} {below : List Frame} {meth : Method} {c : Code} {b L : Nat} {xs : Nat → Int32} {dC : Nat → ClassId} {dI : Nat → Nat → Nat} {cI cZ cJ : ClassId} (C0 : lC p l s m meth c b L xs dC dI cI cZ cJ) {q r : Nat → Nat} {qo t : Nat} {S : St} {th : Int32} {f : Nat → Int64} {H : Heap} {locs : List Loc} {ls : Array Slot} {cells slots : Nat} (ht : t + 1 ≤ 512) (hj : 6 * t + 6 ≤ L) (hcs : cells + 8 ≤ 601024 ∧ slots + 48 ≤ 7293034)
    (G : lG s dC dI cI cZ cJ b q r qo t t S th f H locs ls) (k : lK p l e s m below meth c dC dI cI cZ cJ b q r qo t (cells + 8) (slots + 48)) {j : Nat} (hj32 : j < 32) : W p l e room_1 s m #[Value.ref b] below meth c H locs cells slots (lw_Z below #[Value.ref b] s) (F0 m 40 ls [.int (nI j)]) := by
  obtain ⟨hx, hb, -⟩ := C0.1
  rcases (show j = 0 ∨ j = 1 ∨ j = 2 ∨ j = 3 ∨ j = 4 ∨ j = 5 ∨ j = 6 ∨ j = 7 ∨ j = 8 ∨ j = 9 ∨ j = 10 ∨ j = 11 ∨ j = 12 ∨ j = 13 ∨ j = 14 ∨ j = 15 ∨ j = 16 ∨ j = 17 ∨ j = 18 ∨ j = 19 ∨ j = 20 ∨ j = 21 ∨ j = 22 ∨ 23 ≤ j by omega) with rfl | rfl | rfl | rfl | rfl | rfl | rfl | rfl | rfl | rfl | rfl | rfl | rfl | rfl | rfl | rfl | rfl | rfl | rfl | rfl | rfl | rfl | rfl | hj23
  · exact lv_tableIn (off := 108) (tgt := 148) hx hb d_L_law_40 (by decide) (by decide) (by decide) (by decide) (k_store C0 ht hj hcs G k)
  · exact lv_tableIn (off := 152) (tgt := 192) hx hb d_L_law_40 (by decide) (by decide) (by decide) (by decide) (k_lot C0 ht hj hcs G k)
  · exact lv_tableIn (off := 220) (tgt := 260) hx hb d_L_law_40 (by decide) (by decide) (by decide) (by decide) (k_bring C0 ht hj hcs G k)
  · exact lv_tableIn (off := 300) (tgt := 340) hx hb d_L_law_40 (by decide) (by decide) (by decide) (by decide) (k_move C0 ht hj hcs G k)
  · exact lv_tableIn (off := 404) (tgt := 444) hx hb d_L_law_40 (by decide) (by decide) (by decide) (by decide) (k_use C0 ht hj hcs G k)
  · exact lv_tableIn (off := 484) (tgt := 524) hx hb d_L_law_40 (by decide) (by decide) (by decide) (by decide) (k_sum C0 ht hj hcs G k)
  · exact lv_tableIn (off := 564) (tgt := 604) hx hb d_L_law_40 (by decide) (by decide) (by decide) (by decide) (k_has C0 ht hj hcs G k)
  · exact lv_tableIn (off := 632) (tgt := 672) hx hb d_L_law_40 (by decide) (by decide) (by decide) (by decide) (k_level C0 ht hj hcs G k)
  · exact lv_tableIn (off := 704) (tgt := 744) hx hb d_L_law_40 (by decide) (by decide) (by decide) (by decide) (k_orders C0 ht hj hcs G k)
  · exact lv_tableIn (off := 717) (tgt := 757) hx hb d_L_law_40 (by decide) (by decide) (by decide) (by decide) (k_order C0 ht hj hcs G k)
  · exact lv_tableIn (off := 785) (tgt := 825) hx hb d_L_law_40 (by decide) (by decide) (by decide) (by decide) (k_deliver C0 ht hj hcs G k)
  · exact lv_tableIn (off := 853) (tgt := 893) hx hb d_L_law_40 (by decide) (by decide) (by decide) (by decide) (k_emergency C0 ht hj hcs G k)
  · exact lv_tableIn (off := 945) (tgt := 985) hx hb d_L_law_40 (by decide) (by decide) (by decide) (by decide) (k_second C0 ht hj hcs G k)
  · exact lv_tableIn (off := 1013) (tgt := 1053) hx hb d_L_law_40 (by decide) (by decide) (by decide) (by decide) (k_count C0 ht hj hcs G k)
  · exact lv_tableIn (off := 1105) (tgt := 1145) hx hb d_L_law_40 (by decide) (by decide) (by decide) (by decide) (k_difference C0 ht hj hcs G k)
  · exact lv_tableIn (off := 1173) (tgt := 1213) hx hb d_L_law_40 (by decide) (by decide) (by decide) (by decide) (k_kit C0 ht hj hcs G k)
  · exact lv_tableIn (off := 1233) (tgt := 1273) hx hb d_L_law_40 (by decide) (by decide) (by decide) (by decide) (k_give C0 ht hj hcs G k)
  · exact lv_tableIn (off := 1301) (tgt := 1341) hx hb d_L_law_40 (by decide) (by decide) (by decide) (by decide) (k_back C0 ht hj hcs G k)
  · exact lv_tableIn (off := 1388) (tgt := 1428) hx hb d_L_law_40 (by decide) (by decide) (by decide) (by decide) (k_waste C0 ht hj hcs G k)
  · exact lv_tableIn (off := 1480) (tgt := 1520) hx hb d_L_law_40 (by decide) (by decide) (by decide) (by decide) (k_lotAt C0 ht hj hcs G k)
  · exact lv_tableIn (off := 1548) (tgt := 1588) hx hb d_L_law_40 (by decide) (by decide) (by decide) (by decide) (k_row C0 ht hj hcs G k)
  · exact lv_tableIn (off := 1616) (tgt := 1656) hx hb d_L_law_40 (by decide) (by decide) (by decide) (by decide) (k_dip C0 ht hj hcs G k)
  · exact lv_tableIn (off := 1672) (tgt := 1712) hx hb d_L_law_40 (by decide) (by decide) (by decide) (by decide) (k_tick C0 ht hj hcs G k)
  · refine lv_tableOut (tgt := 1768) hx hb d_L_law_40 (Or.inr (by rw [nI_toInt (by omega)]; omega)) (by decide) ?_
    refine W.widen (k := cells + 8) (n := slots + 48) (by omega) (by omega) ?_
    exact k _ _ _ _ _ _ ⟨(Iv_up G.1 ht).1, G.2⟩
set_option maxHeartbeats 4000000 in
set_option maxRecDepth 100000 in
theorem law_loop {p : Program} {l : Launch} {e : Env} {s : State} {m : MethodId} {below : List Frame} {meth : Method} {c : Code} {b L : Nat} {xs : Nat → Int32} {dC : Nat → ClassId} {dI : Nat → Nat → Nat} {cI cZ cJ : ClassId} (C0 : lC p l s m meth c b L xs dC dI cI cZ cJ) {q r : Nat → Nat} {qo : Nat} : ∀ (n t : Nat), t ≤ 512 → 513 ≤ t + n → ∀ (S : St) (th : Int32) (f : Nat → Int64) (H : Heap) (locs : List Loc) (ls : Array Slot), lG s dC dI cI cZ cJ b q r qo t t S th f H locs ls →
    W p l e room_1 s m #[Value.ref b] below meth c H locs (60 + 8 * t) (6000 + 48 * t) (lw_Z below #[Value.ref b] s) (F0 m 23 ls []) := by
  intro n
  induction n with
  | zero =>
    intro t h1 h2
    exact absurd h2 (by omega)
  | succ n ih =>
    intro t ht hn S th f H locs ls G
    obtain ⟨⟨hx, hb, hr, hml, hown, hts0, hX, hbl, hlocks, hgv⟩, hst, hK, hG0, hN, hL⟩ := id C0
    obtain ⟨hV, hP, hD, hS, hl⟩ := id G
    refine lv_iload hx hb d_L_law_23 (lv_at hl 4 rfl) ?_
    refine lv_aload_n hx hb d_L_law_25 rfl (lv_at hl 0 rfl) ?_
    refine va_slen hx hb hX hbl (Nat.not_le.mpr hbl) hS d_L_law_26 ?_
    refine nv_as (nI L) rfl ?_
    refine lv_bipush (v := nI 6) hx hb d_L_law_27 (by decide) ?_
    refine lv_isub hx hb d_L_law_29 ?_
    refine lv_icmp_gt (tgt := 1774) hx hb d_L_law_30 (by decide) (fun c30 => ?_) (fun c30 => ?_)
    · refine lv_iconst (v := 1) hx hb d_L_law_1774 (by decide) ?_
      refine va_forget (fun q hq => hS.2.2 q hq) ?_
      refine W.widen (k := 601024) (n := 7293034) (by omega) (by omega) ?_
      exact lw_ret hx hb hr hlocks d_L_law_1775
    · have hj : 6 * t + 6 ≤ L := gt_of hL ht c30
      have ht1 : t + 1 ≤ 512 := by omega
      refine lv_aload_n hx hb d_L_law_33 rfl (lv_at hl 0 rfl) ?_
      refine lv_iload hx hb d_L_law_34 (lv_at hl 4 rfl) ?_
      refine nv_sld hx hb hX hbl hS (by omega) hL d_L_law_36 ?_
      refine lv_bipush (v := nI 31) hx hb d_L_law_37 (by decide) ?_
      refine lv_iand hx hb d_L_law_39 ?_
      obtain ⟨j, hj32, ej⟩ := a31 (xs (6 * t))
      refine nv_as (nI j) ej ?_
      refine k_all C0 ht1 hj ⟨by omega, by omega⟩ G (fun S th f H locs ls G => ?_) hj32
      refine W.widen (k := 60 + 8 * (t + 1)) (n := 6000 + 48 * (t + 1)) (by omega) (by omega) ?_
      obtain ⟨hV, hP, hD, hS, hl⟩ := G
      refine lv_iinc (v := nI (6 * (t + 1))) (lv' := [(4, .int (nI (6 * (t + 1)))), (0, .ref b), (1, .ref (q 0)), (2, .ref (r 0)), (3, .ref qo)]) hx hb d_L_law_1768 hl (k := 4) rfl (nI_add (6 * t) 6) (by decide) rfl (fun ls hl => ?_)
      refine lv_goto (tgt := 23) hx hb d_L_law_1771 (by decide) ?_
      exact ih (t + 1) ht1 (by omega) S th f H locs ls ⟨hV, hP, hD, hS, lv_sub hl [1, 2, 3, 4, 0] rfl⟩
