theorem wX_add20 {q : Nat → Nat} {cI : ClassId} {S : St} {v0 v1 v3 : Nat} {d : Int32} : place (wX q cI S) [5, 15] [(q 5, .inr (1, [.int (nI 80), .ref (q 15), .int (nI (S.2.1 6 + 1))])), (q 15, .inl (cI, 400, .inl (upd (upd (upd (upd (upd (rowd S.1 S.2.2) (S.2.1 6 * 5 + 0) (nI v0)) (S.2.1 6 * 5 + 1) (nI v1)) (S.2.1 6 * 5 + 2) d) (S.2.1 6 * 5 + 3) (nI v3)) (S.2.1 6 * 5 + 4) (nI (S.2.1 1)))))] = wX q cI (addDif S v0 v1 d v3) := by
  rw [rowd_upd (by decide) (by decide), rowd_upd (by decide) (by decide), rowd_upd2, rowd_upd (by decide) (by decide), rowd_upd (by decide) (by decide)]
  have e1 := wX_g6 (q := q) (cI := cI) (S := S_a (S_a (S_z (S_a (S_a S (20 + 0) (S.2.1 6) v0) (20 + 1) (S.2.1 6) v1) (S.2.1 6) d) (20 + 3) (S.2.1 6) v3) (20 + 4) (S.2.1 6) (S.2.1 1)) (v := S.2.1 6 + 1)
  rw [show addDif S v0 v1 d v3 = S_g (S_a (S_a (S_z (S_a (S_a S (20 + 0) (S.2.1 6) v0) (20 + 1) (S.2.1 6) v1) (S.2.1 6) d) (20 + 3) (S.2.1 6) v3) (20 + 4) (S.2.1 6) (S.2.1 1)) 6 (S.2.1 6 + 1) from rfl, ← e1]
  rw [← wX_r20 (k := 4) (by decide) (by decide), ← wX_r20 (k := 3) (by decide) (by decide), ← wX_rz, ← wX_r20 (k := 1) (by decide) (by decide), ← wX_r20 (k := 0) (by decide) (by decide)]
  simp only [S_a, S_z]
  rw [rowd_upd (by decide) (by decide), rowd_upd (by decide) (by decide), rowd_upd2, rowd_upd (by decide) (by decide), rowd_upd (by decide) (by decide)]
  rfl
theorem wX_hadd {q : Nat → Nat} {cI : ClassId} {S : St} {h v : Nat} : place (wX q cI S) [6, 16, 17] [(q 6, .inr (2, [.ref (q 16), .ref (q 17), .int (nI (S.2.1 7 + 1))])), (q 16, .inl (cI, 10, .inl (upd (colf S.1 29) (S.2.1 7) (nI h)))), (q 17, .inl (cI, 10, .inl (upd (colf S.1 30) (S.2.1 7) (nI v))))] = wX q cI (S_g (S_a (S_a S 29 (S.2.1 7) h) 30 (S.2.1 7) v) 7 (S.2.1 7 + 1)) := by
  rw [← wX_g7, ← wX_c30, ← wX_c29]
  simp only [S_a]
  rw [colf_off (k' := 30) (k := 29) (by decide)]
  rfl
