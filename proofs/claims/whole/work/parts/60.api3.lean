/-! the class: what was told, read back; learns, set, house, feed, force, tell, day -/
theorem nI_s {a b : Nat} (h : a ≤ b) (hb : b < 2 ^ 31) : nI a ≤ nI b := by simp (disch := omega) only [nI_leI]; exact h
set_option maxRecDepth 100000 in
set_option maxHeartbeats 1000000 in
theorem C_tells0 {X : En} {I : FI} {L : FL} {q : Nat × Nat} {m M ri : Nat} {sem : Nat → Sem} (h : CSt I q m M ri sem) {j : Nat} (hj : j < M) {s z : Nat} (hrs : s < 4) (hz : I (rowN s) 2 = nI z) (hz40 : z ≤ 40) (hnm : ¬ I (rowN s) 1 = -1) (hz20 : z ≤ 20) : Ev X 9 mX7_tells (0, 0) [.ref 0, .int (nI s), .int (nI j), .int (0)] S0 I L (R0 q) (AgLR (some (.int (fstP sem (I 2) (I 3) m (I 5 2) (I (5 + 2 + j)) (I (rowN s + 1)) z))) I L q) := by
  obtain ⟨hm, hm10, hM, hM5, hri, hq, hs⟩ := id h
  have hj5 : j < 5 := by omega
  have hob : S0[5 + 2 + j]? = some (5, 5) := ((orch5 q).2.2.2.1 j hj5).2
  have h27 : 5 + 2 + j ≠ 27 := (wT j hj5).2
  refine ev_of (by decide +kernel) rfl ?_
  show SW X _ _ _ 0 [some (.ref 0), some (.int (nI s)), some (.int (nI j)), some (.int (0)), none, none] [] S0 I L (R0 q) _
  refine s_aload_n (tb_ok aX7_tells_0 0 rfl) rfl ?_
  refine s_iload_n (tb_ok aX7_tells_0 1 rfl) rfl ?_
  refine s_cVp (as := [.int (nI s)]) (tb_ok aX7_tells_0 2 rfl) v_RX7_248 (E_rowAt hrs) (by decide) rfl rfl rfl rfl rfl (Nat.le_of_ble_eq_true rfl) (by decide) ?_
  refine s_astore (ls' := [some (.ref 0), some (.int (nI s)), some (.int (nI j)), some (.int (0)), some (.ref (rowN s)), none]) (tb_ok aX7_tells_0 3 rfl) rfl rfl ?_
  refine s_aload_n (tb_ok aX7_tells_0 4 rfl) rfl ?_
  refine s_getR (r := 5) (tb_ok aX7_tells_0 5 rfl) f_RX7_19 rfl rfl rfl ?_
  refine s_iload_n (tb_ok aX7_tells_0 6 rfl) rfl ?_
  refine s_cVp (as := [.int (nI j)]) (tb_ok aX7_tells_0 7 rfl) v_RX7_115 (E_at (orch5 q) hM hM5 hj) (by decide) rfl rfl rfl rfl rfl (Nat.le_of_ble_eq_true rfl) (by decide) ?_
  refine s_astore (ls' := [some (.ref 0), some (.int (nI s)), some (.int (nI j)), some (.int (0)), some (.ref (rowN s)), some (.ref (5 + 2 + j))]) (tb_ok aX7_tells_0 8 rfl) rfl rfl ?_
  refine s_aload (tb_ok aX7_tells_0 9 rfl) rfl ?_
  refine s_ifnull (tb_ok aX7_tells_0 10 rfl) ?_
  refine s_aload (tb_ok aX7_tells_0 11 rfl) rfl ?_
  refine s_ifnull (tb_ok aX7_tells_0 12 rfl) ?_
  refine s_iload_n (tb_ok aX7_tells_0 13 rfl) rfl ?_
  refine s_if_lt (tgt := 37) (tb_ok aX7_tells_0 14 rfl) (by decide) (fun c28 => ?_) (fun c28 => ?_)
  · exact absurd c28 (by decide)
  · refine s_iload_n (tb_ok aX7_tells_0 15 rfl) rfl ?_
    refine s_bipush (v := 7) (tb_ok aX7_tells_0 16 rfl) (by decide) ?_
    refine s_icmp_le (tgt := 40) (tb_ok aX7_tells_0 17 rfl) (by decide) (fun c34 => ?_) (fun c34 => ?_)
    · refine s_aload (tb_ok aX7_tells_0 20 rfl) rfl ?_
      refine s_cVp (as := []) (tb_ok aX7_tells_0 21 rfl) v_RX7_252 (E_isMissing (row0 q hrs)) (by decide) (row0 q hrs).1 rfl rfl rfl rfl (Nat.le_of_ble_eq_true rfl) (by decide) ?_
      refine s_topi (bI_f (show ¬ I (rowN s) 1 = -1 from hnm)) ?_
      refine s_if_eq (tgt := 51) (tb_ok aX7_tells_0 22 rfl) (by decide) (fun c45 => ?_) (fun c45 => ?_)
      · refine s_aload (tb_ok aX7_tells_1 1 rfl) rfl ?_
        refine s_getI (x := (nI z)) (tb_ok aX7_tells_1 2 rfl) f_RX7_256 (row0 q hrs).1 rfl hz ?_
        refine s_bipush (v := nI 20) (tb_ok aX7_tells_1 3 rfl) (by decide) ?_
        refine s_icmp_le (tgt := 64) (tb_ok aX7_tells_1 4 rfl) (by decide) (fun c58 => ?_) (fun c58 => ?_)
        · refine s_iload_n (tb_ok aX7_tells_1 7 rfl) rfl ?_
          refine s_tableIn (off := 43) (tgt := 108) (tb_ok aX7_tells_1 8 rfl) (by decide) (by decide) rfl (by decide) ?_
          refine s_aload_n (tb_ok aX7_tells_1 9 rfl) rfl ?_
          refine s_aload (tb_ok aX7_tells_1 10 rfl) rfl ?_
          refine s_aload (tb_ok aX7_tells_1 11 rfl) rfl ?_
          refine s_cV (as := [.ref (rowN s), .ref (5 + 2 + j)]) (tb_ok aX7_tells_1 12 rfl) v_RX7_257 (E_firstOther hm hm10 hri hq hs hob hrs hz hz40) (by decide) rfl rfl rfl rfl rfl (Nat.le_of_ble_eq_true rfl) (by decide) (fun r1 S1 I1 L1 R1 q1 => ?_)
          obtain ⟨rfl, rfl, hA, rfl, rfl⟩ := q1
          refine s_iret (tb_ok aX7_tells_1 13 rfl) rfl ?_
          exact ⟨rfl, rfl, hA.v.l, rfl, rfl⟩
        · simp (disch := omega) only [nI_leI] at c58
          omega
      · exact absurd c45 (by decide)
    · exact absurd c34 (by decide)

set_option maxRecDepth 100000 in
set_option maxHeartbeats 1000000 in
theorem C_tells1 {X : En} {I : FI} {L : FL} {q : Nat × Nat} {m M ri : Nat} {sem : Nat → Sem} (h : CSt I q m M ri sem) {j : Nat} (hj : j < M) {s z : Nat} (hrs : s < 4) (hz : I (rowN s) 2 = nI z) (hz40 : z ≤ 40) (hnm : ¬ I (rowN s) 1 = -1) (hz20 : z ≤ 20) : Ev X 9 mX7_tells (0, 0) [.ref 0, .int (nI s), .int (nI j), .int (1)] S0 I L (R0 q) (AgLR (some (.int (bitS (fun v => fstP sem (I 2) (I 3) m (I 5 2) (tChg (I (5 + 2 + j)) 5 (nI v)) (I (rowN s + 1)) z) 6))) I L q) := by
  obtain ⟨hm, hm10, hM, hM5, hri, hq, hs⟩ := id h
  have hj5 : j < 5 := by omega
  have hob : S0[5 + 2 + j]? = some (5, 5) := ((orch5 q).2.2.2.1 j hj5).2
  have h27 : 5 + 2 + j ≠ 27 := (wT j hj5).2
  refine ev_of (by decide +kernel) rfl ?_
  show SW X _ _ _ 0 [some (.ref 0), some (.int (nI s)), some (.int (nI j)), some (.int (1)), none, none] [] S0 I L (R0 q) _
  refine s_aload_n (tb_ok aX7_tells_0 0 rfl) rfl ?_
  refine s_iload_n (tb_ok aX7_tells_0 1 rfl) rfl ?_
  refine s_cVp (as := [.int (nI s)]) (tb_ok aX7_tells_0 2 rfl) v_RX7_248 (E_rowAt hrs) (by decide) rfl rfl rfl rfl rfl (Nat.le_of_ble_eq_true rfl) (by decide) ?_
  refine s_astore (ls' := [some (.ref 0), some (.int (nI s)), some (.int (nI j)), some (.int (1)), some (.ref (rowN s)), none]) (tb_ok aX7_tells_0 3 rfl) rfl rfl ?_
  refine s_aload_n (tb_ok aX7_tells_0 4 rfl) rfl ?_
  refine s_getR (r := 5) (tb_ok aX7_tells_0 5 rfl) f_RX7_19 rfl rfl rfl ?_
  refine s_iload_n (tb_ok aX7_tells_0 6 rfl) rfl ?_
  refine s_cVp (as := [.int (nI j)]) (tb_ok aX7_tells_0 7 rfl) v_RX7_115 (E_at (orch5 q) hM hM5 hj) (by decide) rfl rfl rfl rfl rfl (Nat.le_of_ble_eq_true rfl) (by decide) ?_
  refine s_astore (ls' := [some (.ref 0), some (.int (nI s)), some (.int (nI j)), some (.int (1)), some (.ref (rowN s)), some (.ref (5 + 2 + j))]) (tb_ok aX7_tells_0 8 rfl) rfl rfl ?_
  refine s_aload (tb_ok aX7_tells_0 9 rfl) rfl ?_
  refine s_ifnull (tb_ok aX7_tells_0 10 rfl) ?_
  refine s_aload (tb_ok aX7_tells_0 11 rfl) rfl ?_
  refine s_ifnull (tb_ok aX7_tells_0 12 rfl) ?_
  refine s_iload_n (tb_ok aX7_tells_0 13 rfl) rfl ?_
  refine s_if_lt (tgt := 37) (tb_ok aX7_tells_0 14 rfl) (by decide) (fun c28 => ?_) (fun c28 => ?_)
  · exact absurd c28 (by decide)
  · refine s_iload_n (tb_ok aX7_tells_0 15 rfl) rfl ?_
    refine s_bipush (v := 7) (tb_ok aX7_tells_0 16 rfl) (by decide) ?_
    refine s_icmp_le (tgt := 40) (tb_ok aX7_tells_0 17 rfl) (by decide) (fun c34 => ?_) (fun c34 => ?_)
    · refine s_aload (tb_ok aX7_tells_0 20 rfl) rfl ?_
      refine s_cVp (as := []) (tb_ok aX7_tells_0 21 rfl) v_RX7_252 (E_isMissing (row0 q hrs)) (by decide) (row0 q hrs).1 rfl rfl rfl rfl (Nat.le_of_ble_eq_true rfl) (by decide) ?_
      refine s_topi (bI_f (show ¬ I (rowN s) 1 = -1 from hnm)) ?_
      refine s_if_eq (tgt := 51) (tb_ok aX7_tells_0 22 rfl) (by decide) (fun c45 => ?_) (fun c45 => ?_)
      · refine s_aload (tb_ok aX7_tells_1 1 rfl) rfl ?_
        refine s_getI (x := (nI z)) (tb_ok aX7_tells_1 2 rfl) f_RX7_256 (row0 q hrs).1 rfl hz ?_
        refine s_bipush (v := nI 20) (tb_ok aX7_tells_1 3 rfl) (by decide) ?_
        refine s_icmp_le (tgt := 64) (tb_ok aX7_tells_1 4 rfl) (by decide) (fun c58 => ?_) (fun c58 => ?_)
        · refine s_iload_n (tb_ok aX7_tells_1 7 rfl) rfl ?_
          refine s_tableIn (off := 52) (tgt := 117) (tb_ok aX7_tells_1 8 rfl) (by decide) (by decide) rfl (by decide) ?_
          refine s_aload_n (tb_ok aX7_tells_1 14 rfl) rfl ?_
          refine s_aload (tb_ok aX7_tells_1 15 rfl) rfl ?_
          refine s_aload (tb_ok aX7_tells_1 16 rfl) rfl ?_
          refine s_iconst (v := 5) (tb_ok aX7_tells_1 17 rfl) (by decide) ?_
          refine s_bipush (v := nI 6) (tb_ok aX7_tells_1 18 rfl) (by decide) ?_
          refine s_cV (as := [.ref (rowN s), .ref (5 + 2 + j), .int (5), .int (nI 6)]) (tb_ok aX7_tells_1 19 rfl) v_RX7_261 (E_bitsThatFit hm hm10 hri hq hs hob hrs hz hz40 (wT j hj5).1 _ (vs := 6) (by decide)) (by decide) rfl rfl rfl rfl rfl (Nat.le_of_ble_eq_true rfl) (by decide) (fun r1 S1 I1 L1 R1 q1 => ?_)
          obtain ⟨rfl, rfl, hA, rfl, rfl⟩ := q1
          refine s_iret (tb_ok aX7_tells_1 20 rfl) rfl ?_
          exact ⟨rfl, rfl, hA.l, rfl, rfl⟩
        · simp (disch := omega) only [nI_leI] at c58
          omega
      · exact absurd c45 (by decide)
    · exact absurd c34 (by decide)

set_option maxRecDepth 100000 in
set_option maxHeartbeats 1000000 in
theorem C_tells2 {X : En} {I : FI} {L : FL} {q : Nat × Nat} {m M ri : Nat} {sem : Nat → Sem} (h : CSt I q m M ri sem) {j : Nat} (hj : j < M) {s z : Nat} (hrs : s < 4) (hz : I (rowN s) 2 = nI z) (hz40 : z ≤ 40) (hnm : ¬ I (rowN s) 1 = -1) (hz20 : z ≤ 20) : Ev X 9 mX7_tells (0, 0) [.ref 0, .int (nI s), .int (nI j), .int (2)] S0 I L (R0 q) (AgLR (some (.int (bitS (fun v => fstP sem (I 2) (I 3) m (I 5 2) (tChg (I (5 + 2 + j)) 1 (nI v)) (I (rowN s + 1)) z) 10))) I L q) := by
  obtain ⟨hm, hm10, hM, hM5, hri, hq, hs⟩ := id h
  have hj5 : j < 5 := by omega
  have hob : S0[5 + 2 + j]? = some (5, 5) := ((orch5 q).2.2.2.1 j hj5).2
  have h27 : 5 + 2 + j ≠ 27 := (wT j hj5).2
  refine ev_of (by decide +kernel) rfl ?_
  show SW X _ _ _ 0 [some (.ref 0), some (.int (nI s)), some (.int (nI j)), some (.int (2)), none, none] [] S0 I L (R0 q) _
  refine s_aload_n (tb_ok aX7_tells_0 0 rfl) rfl ?_
  refine s_iload_n (tb_ok aX7_tells_0 1 rfl) rfl ?_
  refine s_cVp (as := [.int (nI s)]) (tb_ok aX7_tells_0 2 rfl) v_RX7_248 (E_rowAt hrs) (by decide) rfl rfl rfl rfl rfl (Nat.le_of_ble_eq_true rfl) (by decide) ?_
  refine s_astore (ls' := [some (.ref 0), some (.int (nI s)), some (.int (nI j)), some (.int (2)), some (.ref (rowN s)), none]) (tb_ok aX7_tells_0 3 rfl) rfl rfl ?_
  refine s_aload_n (tb_ok aX7_tells_0 4 rfl) rfl ?_
  refine s_getR (r := 5) (tb_ok aX7_tells_0 5 rfl) f_RX7_19 rfl rfl rfl ?_
  refine s_iload_n (tb_ok aX7_tells_0 6 rfl) rfl ?_
  refine s_cVp (as := [.int (nI j)]) (tb_ok aX7_tells_0 7 rfl) v_RX7_115 (E_at (orch5 q) hM hM5 hj) (by decide) rfl rfl rfl rfl rfl (Nat.le_of_ble_eq_true rfl) (by decide) ?_
  refine s_astore (ls' := [some (.ref 0), some (.int (nI s)), some (.int (nI j)), some (.int (2)), some (.ref (rowN s)), some (.ref (5 + 2 + j))]) (tb_ok aX7_tells_0 8 rfl) rfl rfl ?_
  refine s_aload (tb_ok aX7_tells_0 9 rfl) rfl ?_
  refine s_ifnull (tb_ok aX7_tells_0 10 rfl) ?_
  refine s_aload (tb_ok aX7_tells_0 11 rfl) rfl ?_
  refine s_ifnull (tb_ok aX7_tells_0 12 rfl) ?_
  refine s_iload_n (tb_ok aX7_tells_0 13 rfl) rfl ?_
  refine s_if_lt (tgt := 37) (tb_ok aX7_tells_0 14 rfl) (by decide) (fun c28 => ?_) (fun c28 => ?_)
  · exact absurd c28 (by decide)
  · refine s_iload_n (tb_ok aX7_tells_0 15 rfl) rfl ?_
    refine s_bipush (v := 7) (tb_ok aX7_tells_0 16 rfl) (by decide) ?_
    refine s_icmp_le (tgt := 40) (tb_ok aX7_tells_0 17 rfl) (by decide) (fun c34 => ?_) (fun c34 => ?_)
    · refine s_aload (tb_ok aX7_tells_0 20 rfl) rfl ?_
      refine s_cVp (as := []) (tb_ok aX7_tells_0 21 rfl) v_RX7_252 (E_isMissing (row0 q hrs)) (by decide) (row0 q hrs).1 rfl rfl rfl rfl (Nat.le_of_ble_eq_true rfl) (by decide) ?_
      refine s_topi (bI_f (show ¬ I (rowN s) 1 = -1 from hnm)) ?_
      refine s_if_eq (tgt := 51) (tb_ok aX7_tells_0 22 rfl) (by decide) (fun c45 => ?_) (fun c45 => ?_)
      · refine s_aload (tb_ok aX7_tells_1 1 rfl) rfl ?_
        refine s_getI (x := (nI z)) (tb_ok aX7_tells_1 2 rfl) f_RX7_256 (row0 q hrs).1 rfl hz ?_
        refine s_bipush (v := nI 20) (tb_ok aX7_tells_1 3 rfl) (by decide) ?_
        refine s_icmp_le (tgt := 64) (tb_ok aX7_tells_1 4 rfl) (by decide) (fun c58 => ?_) (fun c58 => ?_)
        · refine s_iload_n (tb_ok aX7_tells_1 7 rfl) rfl ?_
          refine s_tableIn (off := 64) (tgt := 129) (tb_ok aX7_tells_1 8 rfl) (by decide) (by decide) rfl (by decide) ?_
          refine s_aload_n (tb_ok aX7_tells_1 21 rfl) rfl ?_
          refine s_aload (tb_ok aX7_tells_1 22 rfl) rfl ?_
          refine s_aload (tb_ok aX7_tells_1 23 rfl) rfl ?_
          refine s_iconst (v := 1) (tb_ok aX7_tells_2 0 rfl) (by decide) ?_
          refine s_bipush (v := nI 10) (tb_ok aX7_tells_2 1 rfl) (by decide) ?_
          refine s_cV (as := [.ref (rowN s), .ref (5 + 2 + j), .int (1), .int (nI 10)]) (tb_ok aX7_tells_2 2 rfl) v_RX7_261 (E_bitsThatFit hm hm10 hri hq hs hob hrs hz hz40 (wT j hj5).1 _ (vs := 10) (by decide)) (by decide) rfl rfl rfl rfl rfl (Nat.le_of_ble_eq_true rfl) (by decide) (fun r1 S1 I1 L1 R1 q1 => ?_)
          obtain ⟨rfl, rfl, hA, rfl, rfl⟩ := q1
          refine s_iret (tb_ok aX7_tells_2 3 rfl) rfl ?_
          exact ⟨rfl, rfl, hA.l, rfl, rfl⟩
        · simp (disch := omega) only [nI_leI] at c58
          omega
      · exact absurd c45 (by decide)
    · exact absurd c34 (by decide)

set_option maxRecDepth 100000 in
set_option maxHeartbeats 1000000 in
theorem C_tells3 {X : En} {I : FI} {L : FL} {q : Nat × Nat} {m M ri : Nat} {sem : Nat → Sem} (h : CSt I q m M ri sem) {j : Nat} (hj : j < M) {s z : Nat} (hrs : s < 4) (hz : I (rowN s) 2 = nI z) (hz40 : z ≤ 40) (hnm : ¬ I (rowN s) 1 = -1) (hz20 : z ≤ 20) : Ev X 9 mX7_tells (0, 0) [.ref 0, .int (nI s), .int (nI j), .int (3)] S0 I L (R0 q) (AgLR (some (.int (cntS (fun v => fstP sem (I 2) (I 3) m (I 5 2) (upd (I (5 + 2 + j)) 4 (nI v)) (I (rowN s + 1)) z) 100))) I L q) := by
  obtain ⟨hm, hm10, hM, hM5, hri, hq, hs⟩ := id h
  have hj5 : j < 5 := by omega
  have hob : S0[5 + 2 + j]? = some (5, 5) := ((orch5 q).2.2.2.1 j hj5).2
  have h27 : 5 + 2 + j ≠ 27 := (wT j hj5).2
  refine ev_of (by decide +kernel) rfl ?_
  show SW X _ _ _ 0 [some (.ref 0), some (.int (nI s)), some (.int (nI j)), some (.int (3)), none, none] [] S0 I L (R0 q) _
  refine s_aload_n (tb_ok aX7_tells_0 0 rfl) rfl ?_
  refine s_iload_n (tb_ok aX7_tells_0 1 rfl) rfl ?_
  refine s_cVp (as := [.int (nI s)]) (tb_ok aX7_tells_0 2 rfl) v_RX7_248 (E_rowAt hrs) (by decide) rfl rfl rfl rfl rfl (Nat.le_of_ble_eq_true rfl) (by decide) ?_
  refine s_astore (ls' := [some (.ref 0), some (.int (nI s)), some (.int (nI j)), some (.int (3)), some (.ref (rowN s)), none]) (tb_ok aX7_tells_0 3 rfl) rfl rfl ?_
  refine s_aload_n (tb_ok aX7_tells_0 4 rfl) rfl ?_
  refine s_getR (r := 5) (tb_ok aX7_tells_0 5 rfl) f_RX7_19 rfl rfl rfl ?_
  refine s_iload_n (tb_ok aX7_tells_0 6 rfl) rfl ?_
  refine s_cVp (as := [.int (nI j)]) (tb_ok aX7_tells_0 7 rfl) v_RX7_115 (E_at (orch5 q) hM hM5 hj) (by decide) rfl rfl rfl rfl rfl (Nat.le_of_ble_eq_true rfl) (by decide) ?_
  refine s_astore (ls' := [some (.ref 0), some (.int (nI s)), some (.int (nI j)), some (.int (3)), some (.ref (rowN s)), some (.ref (5 + 2 + j))]) (tb_ok aX7_tells_0 8 rfl) rfl rfl ?_
  refine s_aload (tb_ok aX7_tells_0 9 rfl) rfl ?_
  refine s_ifnull (tb_ok aX7_tells_0 10 rfl) ?_
  refine s_aload (tb_ok aX7_tells_0 11 rfl) rfl ?_
  refine s_ifnull (tb_ok aX7_tells_0 12 rfl) ?_
  refine s_iload_n (tb_ok aX7_tells_0 13 rfl) rfl ?_
  refine s_if_lt (tgt := 37) (tb_ok aX7_tells_0 14 rfl) (by decide) (fun c28 => ?_) (fun c28 => ?_)
  · exact absurd c28 (by decide)
  · refine s_iload_n (tb_ok aX7_tells_0 15 rfl) rfl ?_
    refine s_bipush (v := 7) (tb_ok aX7_tells_0 16 rfl) (by decide) ?_
    refine s_icmp_le (tgt := 40) (tb_ok aX7_tells_0 17 rfl) (by decide) (fun c34 => ?_) (fun c34 => ?_)
    · refine s_aload (tb_ok aX7_tells_0 20 rfl) rfl ?_
      refine s_cVp (as := []) (tb_ok aX7_tells_0 21 rfl) v_RX7_252 (E_isMissing (row0 q hrs)) (by decide) (row0 q hrs).1 rfl rfl rfl rfl (Nat.le_of_ble_eq_true rfl) (by decide) ?_
      refine s_topi (bI_f (show ¬ I (rowN s) 1 = -1 from hnm)) ?_
      refine s_if_eq (tgt := 51) (tb_ok aX7_tells_0 22 rfl) (by decide) (fun c45 => ?_) (fun c45 => ?_)
      · refine s_aload (tb_ok aX7_tells_1 1 rfl) rfl ?_
        refine s_getI (x := (nI z)) (tb_ok aX7_tells_1 2 rfl) f_RX7_256 (row0 q hrs).1 rfl hz ?_
        refine s_bipush (v := nI 20) (tb_ok aX7_tells_1 3 rfl) (by decide) ?_
        refine s_icmp_le (tgt := 64) (tb_ok aX7_tells_1 4 rfl) (by decide) (fun c58 => ?_) (fun c58 => ?_)
        · refine s_iload_n (tb_ok aX7_tells_1 7 rfl) rfl ?_
          refine s_tableIn (off := 76) (tgt := 141) (tb_ok aX7_tells_1 8 rfl) (by decide) (by decide) rfl (by decide) ?_
          refine s_aload_n (tb_ok aX7_tells_2 4 rfl) rfl ?_
          refine s_aload (tb_ok aX7_tells_2 5 rfl) rfl ?_
          refine s_aload (tb_ok aX7_tells_2 6 rfl) rfl ?_
          refine s_cV (as := [.ref (rowN s), .ref (5 + 2 + j)]) (tb_ok aX7_tells_2 7 rfl) v_RX7_265 (E_ripes hm hm10 hri hq hs hob hrs hz hz40 (wT j hj5).1) (by decide) rfl rfl rfl rfl rfl (Nat.le_of_ble_eq_true rfl) (by decide) (fun r1 S1 I1 L1 R1 q1 => ?_)
          obtain ⟨rfl, rfl, hA, rfl, rfl⟩ := q1
          refine s_iret (tb_ok aX7_tells_2 8 rfl) rfl ?_
          exact ⟨rfl, rfl, hA.l, rfl, rfl⟩
        · simp (disch := omega) only [nI_leI] at c58
          omega
      · exact absurd c45 (by decide)
    · exact absurd c34 (by decide)

set_option maxRecDepth 100000 in
set_option maxHeartbeats 1000000 in
theorem C_tells4 {X : En} {I : FI} {L : FL} {q : Nat × Nat} {m M ri : Nat} {sem : Nat → Sem} (h : CSt I q m M ri sem) {j : Nat} (hj : j < M) {s z : Nat} (hrs : s < 4) (hz : I (rowN s) 2 = nI z) (hz40 : z ≤ 40) (hnm : ¬ I (rowN s) 1 = -1) (hz20 : z ≤ 20) : Ev X 9 mX7_tells (0, 0) [.ref 0, .int (nI s), .int (nI j), .int (4)] S0 I L (R0 q) (AgLR (some (.int (lstS (fun v => fstP sem (I 2) (I 3) m (I 5 2) (upd (I (5 + 2 + j)) 4 (nI v)) (I (rowN s + 1)) z) 100 0))) I L q) := by
  obtain ⟨hm, hm10, hM, hM5, hri, hq, hs⟩ := id h
  have hj5 : j < 5 := by omega
  have hob : S0[5 + 2 + j]? = some (5, 5) := ((orch5 q).2.2.2.1 j hj5).2
  have h27 : 5 + 2 + j ≠ 27 := (wT j hj5).2
  refine ev_of (by decide +kernel) rfl ?_
  show SW X _ _ _ 0 [some (.ref 0), some (.int (nI s)), some (.int (nI j)), some (.int (4)), none, none] [] S0 I L (R0 q) _
  refine s_aload_n (tb_ok aX7_tells_0 0 rfl) rfl ?_
  refine s_iload_n (tb_ok aX7_tells_0 1 rfl) rfl ?_
  refine s_cVp (as := [.int (nI s)]) (tb_ok aX7_tells_0 2 rfl) v_RX7_248 (E_rowAt hrs) (by decide) rfl rfl rfl rfl rfl (Nat.le_of_ble_eq_true rfl) (by decide) ?_
  refine s_astore (ls' := [some (.ref 0), some (.int (nI s)), some (.int (nI j)), some (.int (4)), some (.ref (rowN s)), none]) (tb_ok aX7_tells_0 3 rfl) rfl rfl ?_
  refine s_aload_n (tb_ok aX7_tells_0 4 rfl) rfl ?_
  refine s_getR (r := 5) (tb_ok aX7_tells_0 5 rfl) f_RX7_19 rfl rfl rfl ?_
  refine s_iload_n (tb_ok aX7_tells_0 6 rfl) rfl ?_
  refine s_cVp (as := [.int (nI j)]) (tb_ok aX7_tells_0 7 rfl) v_RX7_115 (E_at (orch5 q) hM hM5 hj) (by decide) rfl rfl rfl rfl rfl (Nat.le_of_ble_eq_true rfl) (by decide) ?_
  refine s_astore (ls' := [some (.ref 0), some (.int (nI s)), some (.int (nI j)), some (.int (4)), some (.ref (rowN s)), some (.ref (5 + 2 + j))]) (tb_ok aX7_tells_0 8 rfl) rfl rfl ?_
  refine s_aload (tb_ok aX7_tells_0 9 rfl) rfl ?_
  refine s_ifnull (tb_ok aX7_tells_0 10 rfl) ?_
  refine s_aload (tb_ok aX7_tells_0 11 rfl) rfl ?_
  refine s_ifnull (tb_ok aX7_tells_0 12 rfl) ?_
  refine s_iload_n (tb_ok aX7_tells_0 13 rfl) rfl ?_
  refine s_if_lt (tgt := 37) (tb_ok aX7_tells_0 14 rfl) (by decide) (fun c28 => ?_) (fun c28 => ?_)
  · exact absurd c28 (by decide)
  · refine s_iload_n (tb_ok aX7_tells_0 15 rfl) rfl ?_
    refine s_bipush (v := 7) (tb_ok aX7_tells_0 16 rfl) (by decide) ?_
    refine s_icmp_le (tgt := 40) (tb_ok aX7_tells_0 17 rfl) (by decide) (fun c34 => ?_) (fun c34 => ?_)
    · refine s_aload (tb_ok aX7_tells_0 20 rfl) rfl ?_
      refine s_cVp (as := []) (tb_ok aX7_tells_0 21 rfl) v_RX7_252 (E_isMissing (row0 q hrs)) (by decide) (row0 q hrs).1 rfl rfl rfl rfl (Nat.le_of_ble_eq_true rfl) (by decide) ?_
      refine s_topi (bI_f (show ¬ I (rowN s) 1 = -1 from hnm)) ?_
      refine s_if_eq (tgt := 51) (tb_ok aX7_tells_0 22 rfl) (by decide) (fun c45 => ?_) (fun c45 => ?_)
      · refine s_aload (tb_ok aX7_tells_1 1 rfl) rfl ?_
        refine s_getI (x := (nI z)) (tb_ok aX7_tells_1 2 rfl) f_RX7_256 (row0 q hrs).1 rfl hz ?_
        refine s_bipush (v := nI 20) (tb_ok aX7_tells_1 3 rfl) (by decide) ?_
        refine s_icmp_le (tgt := 64) (tb_ok aX7_tells_1 4 rfl) (by decide) (fun c58 => ?_) (fun c58 => ?_)
        · refine s_iload_n (tb_ok aX7_tells_1 7 rfl) rfl ?_
          refine s_tableIn (off := 85) (tgt := 150) (tb_ok aX7_tells_1 8 rfl) (by decide) (by decide) rfl (by decide) ?_
          refine s_aload_n (tb_ok aX7_tells_2 9 rfl) rfl ?_
          refine s_aload (tb_ok aX7_tells_2 10 rfl) rfl ?_
          refine s_aload (tb_ok aX7_tells_2 11 rfl) rfl ?_
          refine s_cV (as := [.ref (rowN s), .ref (5 + 2 + j)]) (tb_ok aX7_tells_2 12 rfl) v_RX7_268 (E_least hm hm10 hri hq hs hob hrs hz hz40 (wT j hj5).1) (by decide) rfl rfl rfl rfl rfl (Nat.le_of_ble_eq_true rfl) (by decide) (fun r1 S1 I1 L1 R1 q1 => ?_)
          obtain ⟨rfl, rfl, hA, rfl, rfl⟩ := q1
          refine s_iret (tb_ok aX7_tells_2 13 rfl) rfl ?_
          exact ⟨rfl, rfl, hA.l, rfl, rfl⟩
        · simp (disch := omega) only [nI_leI] at c58
          omega
      · exact absurd c45 (by decide)
    · exact absurd c34 (by decide)

set_option maxRecDepth 100000 in
set_option maxHeartbeats 1000000 in
theorem C_tells5 {X : En} {I : FI} {L : FL} {q : Nat × Nat} {m M ri : Nat} {sem : Nat → Sem} (h : CSt I q m M ri sem) {j : Nat} (hj : j < M) {s z : Nat} (hrs : s < 4) (hz : I (rowN s) 2 = nI z) (hz40 : z ≤ 40) (hnm : ¬ I (rowN s) 1 = -1) (hz20 : z ≤ 20) : Ev X 9 mX7_tells (0, 0) [.ref 0, .int (nI s), .int (nI j), .int (5)] S0 I L (R0 q) (AgLR (some (.int (bitS (fun v => fstP sem (I 2) (I 3) m (I 5 2) (tChg (I (5 + 2 + j)) 6 (nI v)) (I (rowN s + 1)) z) 12))) I L q) := by
  obtain ⟨hm, hm10, hM, hM5, hri, hq, hs⟩ := id h
  have hj5 : j < 5 := by omega
  have hob : S0[5 + 2 + j]? = some (5, 5) := ((orch5 q).2.2.2.1 j hj5).2
  have h27 : 5 + 2 + j ≠ 27 := (wT j hj5).2
  refine ev_of (by decide +kernel) rfl ?_
  show SW X _ _ _ 0 [some (.ref 0), some (.int (nI s)), some (.int (nI j)), some (.int (5)), none, none] [] S0 I L (R0 q) _
  refine s_aload_n (tb_ok aX7_tells_0 0 rfl) rfl ?_
  refine s_iload_n (tb_ok aX7_tells_0 1 rfl) rfl ?_
  refine s_cVp (as := [.int (nI s)]) (tb_ok aX7_tells_0 2 rfl) v_RX7_248 (E_rowAt hrs) (by decide) rfl rfl rfl rfl rfl (Nat.le_of_ble_eq_true rfl) (by decide) ?_
  refine s_astore (ls' := [some (.ref 0), some (.int (nI s)), some (.int (nI j)), some (.int (5)), some (.ref (rowN s)), none]) (tb_ok aX7_tells_0 3 rfl) rfl rfl ?_
  refine s_aload_n (tb_ok aX7_tells_0 4 rfl) rfl ?_
  refine s_getR (r := 5) (tb_ok aX7_tells_0 5 rfl) f_RX7_19 rfl rfl rfl ?_
  refine s_iload_n (tb_ok aX7_tells_0 6 rfl) rfl ?_
  refine s_cVp (as := [.int (nI j)]) (tb_ok aX7_tells_0 7 rfl) v_RX7_115 (E_at (orch5 q) hM hM5 hj) (by decide) rfl rfl rfl rfl rfl (Nat.le_of_ble_eq_true rfl) (by decide) ?_
  refine s_astore (ls' := [some (.ref 0), some (.int (nI s)), some (.int (nI j)), some (.int (5)), some (.ref (rowN s)), some (.ref (5 + 2 + j))]) (tb_ok aX7_tells_0 8 rfl) rfl rfl ?_
  refine s_aload (tb_ok aX7_tells_0 9 rfl) rfl ?_
  refine s_ifnull (tb_ok aX7_tells_0 10 rfl) ?_
  refine s_aload (tb_ok aX7_tells_0 11 rfl) rfl ?_
  refine s_ifnull (tb_ok aX7_tells_0 12 rfl) ?_
  refine s_iload_n (tb_ok aX7_tells_0 13 rfl) rfl ?_
  refine s_if_lt (tgt := 37) (tb_ok aX7_tells_0 14 rfl) (by decide) (fun c28 => ?_) (fun c28 => ?_)
  · exact absurd c28 (by decide)
  · refine s_iload_n (tb_ok aX7_tells_0 15 rfl) rfl ?_
    refine s_bipush (v := 7) (tb_ok aX7_tells_0 16 rfl) (by decide) ?_
    refine s_icmp_le (tgt := 40) (tb_ok aX7_tells_0 17 rfl) (by decide) (fun c34 => ?_) (fun c34 => ?_)
    · refine s_aload (tb_ok aX7_tells_0 20 rfl) rfl ?_
      refine s_cVp (as := []) (tb_ok aX7_tells_0 21 rfl) v_RX7_252 (E_isMissing (row0 q hrs)) (by decide) (row0 q hrs).1 rfl rfl rfl rfl (Nat.le_of_ble_eq_true rfl) (by decide) ?_
      refine s_topi (bI_f (show ¬ I (rowN s) 1 = -1 from hnm)) ?_
      refine s_if_eq (tgt := 51) (tb_ok aX7_tells_0 22 rfl) (by decide) (fun c45 => ?_) (fun c45 => ?_)
      · refine s_aload (tb_ok aX7_tells_1 1 rfl) rfl ?_
        refine s_getI (x := (nI z)) (tb_ok aX7_tells_1 2 rfl) f_RX7_256 (row0 q hrs).1 rfl hz ?_
        refine s_bipush (v := nI 20) (tb_ok aX7_tells_1 3 rfl) (by decide) ?_
        refine s_icmp_le (tgt := 64) (tb_ok aX7_tells_1 4 rfl) (by decide) (fun c58 => ?_) (fun c58 => ?_)
        · refine s_iload_n (tb_ok aX7_tells_1 7 rfl) rfl ?_
          refine s_tableIn (off := 94) (tgt := 159) (tb_ok aX7_tells_1 8 rfl) (by decide) (by decide) rfl (by decide) ?_
          refine s_aload_n (tb_ok aX7_tells_2 14 rfl) rfl ?_
          refine s_aload (tb_ok aX7_tells_2 15 rfl) rfl ?_
          refine s_aload (tb_ok aX7_tells_2 16 rfl) rfl ?_
          refine s_bipush (v := 6) (tb_ok aX7_tells_2 17 rfl) (by decide) ?_
          refine s_bipush (v := nI 12) (tb_ok aX7_tells_2 18 rfl) (by decide) ?_
          refine s_cV (as := [.ref (rowN s), .ref (5 + 2 + j), .int (6), .int (nI 12)]) (tb_ok aX7_tells_2 19 rfl) v_RX7_261 (E_bitsThatFit hm hm10 hri hq hs hob hrs hz hz40 (wT j hj5).1 _ (vs := 12) (by decide)) (by decide) rfl rfl rfl rfl rfl (Nat.le_of_ble_eq_true rfl) (by decide) (fun r1 S1 I1 L1 R1 q1 => ?_)
          obtain ⟨rfl, rfl, hA, rfl, rfl⟩ := q1
          refine s_iret (tb_ok aX7_tells_2 20 rfl) rfl ?_
          exact ⟨rfl, rfl, hA.l, rfl, rfl⟩
        · simp (disch := omega) only [nI_leI] at c58
          omega
      · exact absurd c45 (by decide)
    · exact absurd c34 (by decide)

set_option maxRecDepth 100000 in
set_option maxHeartbeats 1000000 in
theorem C_tells6 {X : En} {I : FI} {L : FL} {q : Nat × Nat} {m M ri : Nat} {sem : Nat → Sem} (h : CSt I q m M ri sem) {j : Nat} (hj : j < M) {s z : Nat} (hrs : s < 4) (hz : I (rowN s) 2 = nI z) (hz40 : z ≤ 40) (hnm : ¬ I (rowN s) 1 = -1) (hz20 : z ≤ 20) {tx : Nat} (htx : I 0 10 = nI tx) (htx6 : tx ≤ 6) {sems : Nat → Nat → Sem} (hss : ∀ i, i < tx → okRule I (ruleN i) (sems i)) : Ev X 9 mX7_tells (0, 0) [.ref 0, .int (nI s), .int (nI j), .int (6)] S0 I L (R0 q) (AgLR (some (.int (bitS (fun i => fstP (sems i) (I 2) (I 3) m (I 5 2) (I (5 + 2 + j)) (I (rowN s + 1)) z) tx))) I L q) := by
  obtain ⟨hm, hm10, hM, hM5, hri, hq, hs⟩ := id h
  have hj5 : j < 5 := by omega
  have hob : S0[5 + 2 + j]? = some (5, 5) := ((orch5 q).2.2.2.1 j hj5).2
  have h27 : 5 + 2 + j ≠ 27 := (wT j hj5).2
  refine ev_of (by decide +kernel) rfl ?_
  show SW X _ _ _ 0 [some (.ref 0), some (.int (nI s)), some (.int (nI j)), some (.int (6)), none, none] [] S0 I L (R0 q) _
  refine s_aload_n (tb_ok aX7_tells_0 0 rfl) rfl ?_
  refine s_iload_n (tb_ok aX7_tells_0 1 rfl) rfl ?_
  refine s_cVp (as := [.int (nI s)]) (tb_ok aX7_tells_0 2 rfl) v_RX7_248 (E_rowAt hrs) (by decide) rfl rfl rfl rfl rfl (Nat.le_of_ble_eq_true rfl) (by decide) ?_
  refine s_astore (ls' := [some (.ref 0), some (.int (nI s)), some (.int (nI j)), some (.int (6)), some (.ref (rowN s)), none]) (tb_ok aX7_tells_0 3 rfl) rfl rfl ?_
  refine s_aload_n (tb_ok aX7_tells_0 4 rfl) rfl ?_
  refine s_getR (r := 5) (tb_ok aX7_tells_0 5 rfl) f_RX7_19 rfl rfl rfl ?_
  refine s_iload_n (tb_ok aX7_tells_0 6 rfl) rfl ?_
  refine s_cVp (as := [.int (nI j)]) (tb_ok aX7_tells_0 7 rfl) v_RX7_115 (E_at (orch5 q) hM hM5 hj) (by decide) rfl rfl rfl rfl rfl (Nat.le_of_ble_eq_true rfl) (by decide) ?_
  refine s_astore (ls' := [some (.ref 0), some (.int (nI s)), some (.int (nI j)), some (.int (6)), some (.ref (rowN s)), some (.ref (5 + 2 + j))]) (tb_ok aX7_tells_0 8 rfl) rfl rfl ?_
  refine s_aload (tb_ok aX7_tells_0 9 rfl) rfl ?_
  refine s_ifnull (tb_ok aX7_tells_0 10 rfl) ?_
  refine s_aload (tb_ok aX7_tells_0 11 rfl) rfl ?_
  refine s_ifnull (tb_ok aX7_tells_0 12 rfl) ?_
  refine s_iload_n (tb_ok aX7_tells_0 13 rfl) rfl ?_
  refine s_if_lt (tgt := 37) (tb_ok aX7_tells_0 14 rfl) (by decide) (fun c28 => ?_) (fun c28 => ?_)
  · exact absurd c28 (by decide)
  · refine s_iload_n (tb_ok aX7_tells_0 15 rfl) rfl ?_
    refine s_bipush (v := 7) (tb_ok aX7_tells_0 16 rfl) (by decide) ?_
    refine s_icmp_le (tgt := 40) (tb_ok aX7_tells_0 17 rfl) (by decide) (fun c34 => ?_) (fun c34 => ?_)
    · refine s_aload (tb_ok aX7_tells_0 20 rfl) rfl ?_
      refine s_cVp (as := []) (tb_ok aX7_tells_0 21 rfl) v_RX7_252 (E_isMissing (row0 q hrs)) (by decide) (row0 q hrs).1 rfl rfl rfl rfl (Nat.le_of_ble_eq_true rfl) (by decide) ?_
      refine s_topi (bI_f (show ¬ I (rowN s) 1 = -1 from hnm)) ?_
      refine s_if_eq (tgt := 51) (tb_ok aX7_tells_0 22 rfl) (by decide) (fun c45 => ?_) (fun c45 => ?_)
      · refine s_aload (tb_ok aX7_tells_1 1 rfl) rfl ?_
        refine s_getI (x := (nI z)) (tb_ok aX7_tells_1 2 rfl) f_RX7_256 (row0 q hrs).1 rfl hz ?_
        refine s_bipush (v := nI 20) (tb_ok aX7_tells_1 3 rfl) (by decide) ?_
        refine s_icmp_le (tgt := 64) (tb_ok aX7_tells_1 4 rfl) (by decide) (fun c58 => ?_) (fun c58 => ?_)
        · refine s_iload_n (tb_ok aX7_tells_1 7 rfl) rfl ?_
          refine s_tableIn (off := 107) (tgt := 172) (tb_ok aX7_tells_1 8 rfl) (by decide) (by decide) rfl (by decide) ?_
          refine s_aload_n (tb_ok aX7_tells_2 21 rfl) rfl ?_
          refine s_aload (tb_ok aX7_tells_2 22 rfl) rfl ?_
          refine s_aload (tb_ok aX7_tells_2 23 rfl) rfl ?_
          refine s_cV (as := [.ref (rowN s), .ref (5 + 2 + j)]) (tb_ok aX7_tells_3 0 rfl) v_RX7_271 (E_textsThatFit hm hm10 hob hrs hz hz40 (wT j hj5).1 htx htx6 hss) (by decide) rfl rfl rfl rfl rfl (Nat.le_of_ble_eq_true rfl) (by decide) (fun r1 S1 I1 L1 R1 q1 => ?_)
          obtain ⟨rfl, rfl, hA, rfl, rfl⟩ := q1
          refine s_iret (tb_ok aX7_tells_3 1 rfl) rfl ?_
          exact ⟨rfl, rfl, hA.l, rfl, rfl⟩
        · simp (disch := omega) only [nI_leI] at c58
          omega
      · exact absurd c45 (by decide)
    · exact absurd c34 (by decide)

set_option maxRecDepth 100000 in
set_option maxHeartbeats 1000000 in
theorem C_tells7 {X : En} {I : FI} {L : FL} {q : Nat × Nat} {m M ri : Nat} {sem : Nat → Sem} (h : CSt I q m M ri sem) {j : Nat} (hj : j < M) {s z : Nat} (hrs : s < 4) (hz : I (rowN s) 2 = nI z) (hz40 : z ≤ 40) (hnm : ¬ I (rowN s) 1 = -1) (hz20 : z ≤ 20) : Ev X 9 mX7_tells (0, 0) [.ref 0, .int (nI s), .int (nI j), .int (7)] S0 I L (R0 q) (AgLR (some (.int (bitS (fun i => if i < M then fstP sem (I 2) (I 3) m (I 5 2) (I (5 + 2 + i)) (I (rowN s + 1)) z else 0) 5))) I L q) := by
  obtain ⟨hm, hm10, hM, hM5, hri, hq, hs⟩ := id h
  have hj5 : j < 5 := by omega
  have hob : S0[5 + 2 + j]? = some (5, 5) := ((orch5 q).2.2.2.1 j hj5).2
  have h27 : 5 + 2 + j ≠ 27 := (wT j hj5).2
  refine ev_of (by decide +kernel) rfl ?_
  show SW X _ _ _ 0 [some (.ref 0), some (.int (nI s)), some (.int (nI j)), some (.int (7)), none, none] [] S0 I L (R0 q) _
  refine s_aload_n (tb_ok aX7_tells_0 0 rfl) rfl ?_
  refine s_iload_n (tb_ok aX7_tells_0 1 rfl) rfl ?_
  refine s_cVp (as := [.int (nI s)]) (tb_ok aX7_tells_0 2 rfl) v_RX7_248 (E_rowAt hrs) (by decide) rfl rfl rfl rfl rfl (Nat.le_of_ble_eq_true rfl) (by decide) ?_
  refine s_astore (ls' := [some (.ref 0), some (.int (nI s)), some (.int (nI j)), some (.int (7)), some (.ref (rowN s)), none]) (tb_ok aX7_tells_0 3 rfl) rfl rfl ?_
  refine s_aload_n (tb_ok aX7_tells_0 4 rfl) rfl ?_
  refine s_getR (r := 5) (tb_ok aX7_tells_0 5 rfl) f_RX7_19 rfl rfl rfl ?_
  refine s_iload_n (tb_ok aX7_tells_0 6 rfl) rfl ?_
  refine s_cVp (as := [.int (nI j)]) (tb_ok aX7_tells_0 7 rfl) v_RX7_115 (E_at (orch5 q) hM hM5 hj) (by decide) rfl rfl rfl rfl rfl (Nat.le_of_ble_eq_true rfl) (by decide) ?_
  refine s_astore (ls' := [some (.ref 0), some (.int (nI s)), some (.int (nI j)), some (.int (7)), some (.ref (rowN s)), some (.ref (5 + 2 + j))]) (tb_ok aX7_tells_0 8 rfl) rfl rfl ?_
  refine s_aload (tb_ok aX7_tells_0 9 rfl) rfl ?_
  refine s_ifnull (tb_ok aX7_tells_0 10 rfl) ?_
  refine s_aload (tb_ok aX7_tells_0 11 rfl) rfl ?_
  refine s_ifnull (tb_ok aX7_tells_0 12 rfl) ?_
  refine s_iload_n (tb_ok aX7_tells_0 13 rfl) rfl ?_
  refine s_if_lt (tgt := 37) (tb_ok aX7_tells_0 14 rfl) (by decide) (fun c28 => ?_) (fun c28 => ?_)
  · exact absurd c28 (by decide)
  · refine s_iload_n (tb_ok aX7_tells_0 15 rfl) rfl ?_
    refine s_bipush (v := 7) (tb_ok aX7_tells_0 16 rfl) (by decide) ?_
    refine s_icmp_le (tgt := 40) (tb_ok aX7_tells_0 17 rfl) (by decide) (fun c34 => ?_) (fun c34 => ?_)
    · refine s_aload (tb_ok aX7_tells_0 20 rfl) rfl ?_
      refine s_cVp (as := []) (tb_ok aX7_tells_0 21 rfl) v_RX7_252 (E_isMissing (row0 q hrs)) (by decide) (row0 q hrs).1 rfl rfl rfl rfl (Nat.le_of_ble_eq_true rfl) (by decide) ?_
      refine s_topi (bI_f (show ¬ I (rowN s) 1 = -1 from hnm)) ?_
      refine s_if_eq (tgt := 51) (tb_ok aX7_tells_0 22 rfl) (by decide) (fun c45 => ?_) (fun c45 => ?_)
      · refine s_aload (tb_ok aX7_tells_1 1 rfl) rfl ?_
        refine s_getI (x := (nI z)) (tb_ok aX7_tells_1 2 rfl) f_RX7_256 (row0 q hrs).1 rfl hz ?_
        refine s_bipush (v := nI 20) (tb_ok aX7_tells_1 3 rfl) (by decide) ?_
        refine s_icmp_le (tgt := 64) (tb_ok aX7_tells_1 4 rfl) (by decide) (fun c58 => ?_) (fun c58 => ?_)
        · refine s_iload_n (tb_ok aX7_tells_1 7 rfl) rfl ?_
          refine s_tableOut (tgt := 181) (tb_ok aX7_tells_1 8 rfl) (Or.inr (by decide)) (by decide) ?_
          refine s_aload_n (tb_ok aX7_tells_3 2 rfl) rfl ?_
          refine s_aload (tb_ok aX7_tells_3 3 rfl) rfl ?_
          refine s_cV (as := [.ref (rowN s)]) (tb_ok aX7_tells_3 4 rfl) v_RX7_274 (E_housesThatFit hM hM5 hm hm10 hri hq hs hrs hz hz40) (by decide) rfl rfl rfl rfl rfl (Nat.le_of_ble_eq_true rfl) (by decide) (fun r1 S1 I1 L1 R1 q1 => ?_)
          obtain ⟨rfl, rfl, hA, rfl, rfl⟩ := q1
          refine s_iret (tb_ok aX7_tells_3 5 rfl) rfl ?_
          exact ⟨rfl, rfl, hA.l, rfl, rfl⟩
        · simp (disch := omega) only [nI_leI] at c58
          omega
      · exact absurd c45 (by decide)
    · exact absurd c34 (by decide)

set_option maxRecDepth 100000 in
set_option maxHeartbeats 1000000 in
theorem C_tellsM {X : En} {I : FI} {L : FL} {q : Nat × Nat} {m M ri : Nat} {sem : Nat → Sem} (h : CSt I q m M ri sem) {j : Nat} (hj : j < M) {s : Nat} (hrs : s < 4) (hmi : I (rowN s) 1 = -1) {w : Int32} (hw : ¬ w < 0 ∧ w ≤ 7) : Ev X 9 mX7_tells (0, 0) [.ref 0, .int (nI s), .int (nI j), .int w] S0 I L (R0 q) (AgLR (some (.int (-11))) I L q) := by
  obtain ⟨hm, hm10, hM, hM5, hri, hq, hs⟩ := id h
  have hj5 : j < 5 := by omega
  have hob : S0[5 + 2 + j]? = some (5, 5) := ((orch5 q).2.2.2.1 j hj5).2
  have h27 : 5 + 2 + j ≠ 27 := (wT j hj5).2
  refine ev_of (by decide +kernel) rfl ?_
  show SW X _ _ _ 0 [some (.ref 0), some (.int (nI s)), some (.int (nI j)), some (.int w), none, none] [] S0 I L (R0 q) _
  refine s_aload_n (tb_ok aX7_tells_0 0 rfl) rfl ?_
  refine s_iload_n (tb_ok aX7_tells_0 1 rfl) rfl ?_
  refine s_cVp (as := [.int (nI s)]) (tb_ok aX7_tells_0 2 rfl) v_RX7_248 (E_rowAt hrs) (by decide) rfl rfl rfl rfl rfl (Nat.le_of_ble_eq_true rfl) (by decide) ?_
  refine s_astore (ls' := [some (.ref 0), some (.int (nI s)), some (.int (nI j)), some (.int w), some (.ref (rowN s)), none]) (tb_ok aX7_tells_0 3 rfl) rfl rfl ?_
  refine s_aload_n (tb_ok aX7_tells_0 4 rfl) rfl ?_
  refine s_getR (r := 5) (tb_ok aX7_tells_0 5 rfl) f_RX7_19 rfl rfl rfl ?_
  refine s_iload_n (tb_ok aX7_tells_0 6 rfl) rfl ?_
  refine s_cVp (as := [.int (nI j)]) (tb_ok aX7_tells_0 7 rfl) v_RX7_115 (E_at (orch5 q) hM hM5 hj) (by decide) rfl rfl rfl rfl rfl (Nat.le_of_ble_eq_true rfl) (by decide) ?_
  refine s_astore (ls' := [some (.ref 0), some (.int (nI s)), some (.int (nI j)), some (.int w), some (.ref (rowN s)), some (.ref (5 + 2 + j))]) (tb_ok aX7_tells_0 8 rfl) rfl rfl ?_
  refine s_aload (tb_ok aX7_tells_0 9 rfl) rfl ?_
  refine s_ifnull (tb_ok aX7_tells_0 10 rfl) ?_
  refine s_aload (tb_ok aX7_tells_0 11 rfl) rfl ?_
  refine s_ifnull (tb_ok aX7_tells_0 12 rfl) ?_
  refine s_iload_n (tb_ok aX7_tells_0 13 rfl) rfl ?_
  refine s_if_lt (tgt := 37) (tb_ok aX7_tells_0 14 rfl) (by decide) (fun c28 => ?_) (fun c28 => ?_)
  · exact absurd c28 hw.1
  · refine s_iload_n (tb_ok aX7_tells_0 15 rfl) rfl ?_
    refine s_bipush (v := 7) (tb_ok aX7_tells_0 16 rfl) (by decide) ?_
    refine s_icmp_le (tgt := 40) (tb_ok aX7_tells_0 17 rfl) (by decide) (fun c34 => ?_) (fun c34 => ?_)
    · refine s_aload (tb_ok aX7_tells_0 20 rfl) rfl ?_
      refine s_cVp (as := []) (tb_ok aX7_tells_0 21 rfl) v_RX7_252 (E_isMissing (row0 q hrs)) (by decide) (row0 q hrs).1 rfl rfl rfl rfl (Nat.le_of_ble_eq_true rfl) (by decide) ?_
      refine s_topi (bI_t hmi) ?_
      refine s_if_eq (tgt := 51) (tb_ok aX7_tells_0 22 rfl) (by decide) (fun c45 => ?_) (fun c45 => ?_)
      · exact absurd c45 (by decide)
      · refine s_bipush (v := -11) (tb_ok aX7_tells_0 23 rfl) (by decide) ?_
        refine s_iret (tb_ok aX7_tells_1 0 rfl) rfl ?_
        exact ⟨rfl, rfl, AgL.rf, rfl, rfl⟩
    · exact absurd hw.2 c34

set_option maxRecDepth 100000 in
set_option maxHeartbeats 1000000 in
theorem C_tellsL {X : En} {I : FI} {L : FL} {q : Nat × Nat} {m M ri : Nat} {sem : Nat → Sem} (h : CSt I q m M ri sem) {j : Nat} (hj : j < M) {s z : Nat} (hrs : s < 4) (hz : I (rowN s) 2 = nI z) (hz40 : z ≤ 40) (hnm : ¬ I (rowN s) 1 = -1) (hz20 : 20 < z) {w : Int32} (hw : ¬ w < 0 ∧ w ≤ 7) : Ev X 9 mX7_tells (0, 0) [.ref 0, .int (nI s), .int (nI j), .int w] S0 I L (R0 q) (AgLR (some (.int (-2))) I L q) := by
  obtain ⟨hm, hm10, hM, hM5, hri, hq, hs⟩ := id h
  have hj5 : j < 5 := by omega
  have hob : S0[5 + 2 + j]? = some (5, 5) := ((orch5 q).2.2.2.1 j hj5).2
  have h27 : 5 + 2 + j ≠ 27 := (wT j hj5).2
  refine ev_of (by decide +kernel) rfl ?_
  show SW X _ _ _ 0 [some (.ref 0), some (.int (nI s)), some (.int (nI j)), some (.int w), none, none] [] S0 I L (R0 q) _
  refine s_aload_n (tb_ok aX7_tells_0 0 rfl) rfl ?_
  refine s_iload_n (tb_ok aX7_tells_0 1 rfl) rfl ?_
  refine s_cVp (as := [.int (nI s)]) (tb_ok aX7_tells_0 2 rfl) v_RX7_248 (E_rowAt hrs) (by decide) rfl rfl rfl rfl rfl (Nat.le_of_ble_eq_true rfl) (by decide) ?_
  refine s_astore (ls' := [some (.ref 0), some (.int (nI s)), some (.int (nI j)), some (.int w), some (.ref (rowN s)), none]) (tb_ok aX7_tells_0 3 rfl) rfl rfl ?_
  refine s_aload_n (tb_ok aX7_tells_0 4 rfl) rfl ?_
  refine s_getR (r := 5) (tb_ok aX7_tells_0 5 rfl) f_RX7_19 rfl rfl rfl ?_
  refine s_iload_n (tb_ok aX7_tells_0 6 rfl) rfl ?_
  refine s_cVp (as := [.int (nI j)]) (tb_ok aX7_tells_0 7 rfl) v_RX7_115 (E_at (orch5 q) hM hM5 hj) (by decide) rfl rfl rfl rfl rfl (Nat.le_of_ble_eq_true rfl) (by decide) ?_
  refine s_astore (ls' := [some (.ref 0), some (.int (nI s)), some (.int (nI j)), some (.int w), some (.ref (rowN s)), some (.ref (5 + 2 + j))]) (tb_ok aX7_tells_0 8 rfl) rfl rfl ?_
  refine s_aload (tb_ok aX7_tells_0 9 rfl) rfl ?_
  refine s_ifnull (tb_ok aX7_tells_0 10 rfl) ?_
  refine s_aload (tb_ok aX7_tells_0 11 rfl) rfl ?_
  refine s_ifnull (tb_ok aX7_tells_0 12 rfl) ?_
  refine s_iload_n (tb_ok aX7_tells_0 13 rfl) rfl ?_
  refine s_if_lt (tgt := 37) (tb_ok aX7_tells_0 14 rfl) (by decide) (fun c28 => ?_) (fun c28 => ?_)
  · exact absurd c28 hw.1
  · refine s_iload_n (tb_ok aX7_tells_0 15 rfl) rfl ?_
    refine s_bipush (v := 7) (tb_ok aX7_tells_0 16 rfl) (by decide) ?_
    refine s_icmp_le (tgt := 40) (tb_ok aX7_tells_0 17 rfl) (by decide) (fun c34 => ?_) (fun c34 => ?_)
    · refine s_aload (tb_ok aX7_tells_0 20 rfl) rfl ?_
      refine s_cVp (as := []) (tb_ok aX7_tells_0 21 rfl) v_RX7_252 (E_isMissing (row0 q hrs)) (by decide) (row0 q hrs).1 rfl rfl rfl rfl (Nat.le_of_ble_eq_true rfl) (by decide) ?_
      refine s_topi (bI_f (show ¬ I (rowN s) 1 = -1 from hnm)) ?_
      refine s_if_eq (tgt := 51) (tb_ok aX7_tells_0 22 rfl) (by decide) (fun c45 => ?_) (fun c45 => ?_)
      · refine s_aload (tb_ok aX7_tells_1 1 rfl) rfl ?_
        refine s_getI (x := (nI z)) (tb_ok aX7_tells_1 2 rfl) f_RX7_256 (row0 q hrs).1 rfl hz ?_
        refine s_bipush (v := nI 20) (tb_ok aX7_tells_1 3 rfl) (by decide) ?_
        refine s_icmp_le (tgt := 64) (tb_ok aX7_tells_1 4 rfl) (by decide) (fun c58 => ?_) (fun c58 => ?_)
        · simp (disch := omega) only [nI_leI] at c58
          omega
        · refine s_bipush (v := -2) (tb_ok aX7_tells_1 5 rfl) (by decide) ?_
          refine s_iret (tb_ok aX7_tells_1 6 rfl) rfl ?_
          exact ⟨rfl, rfl, AgL.rf, rfl, rfl⟩
      · exact absurd c45 (by decide)
    · exact absurd hw.2 c34

set_option maxRecDepth 100000 in
set_option maxHeartbeats 1000000 in
theorem C_tellsW {X : En} {I : FI} {L : FL} {q : Nat × Nat} {m M ri : Nat} {sem : Nat → Sem} (h : CSt I q m M ri sem) {j : Nat} (hj : j < M) {s : Nat} (hrs : s < 4) {w : Int32} (hw : ¬ (¬ w < 0 ∧ w ≤ 7)) : Ev X 9 mX7_tells (0, 0) [.ref 0, .int (nI s), .int (nI j), .int w] S0 I L (R0 q) (AgLR (some (.int (-2))) I L q) := by
  obtain ⟨hm, hm10, hM, hM5, hri, hq, hs⟩ := id h
  have hj5 : j < 5 := by omega
  have hob : S0[5 + 2 + j]? = some (5, 5) := ((orch5 q).2.2.2.1 j hj5).2
  have h27 : 5 + 2 + j ≠ 27 := (wT j hj5).2
  refine ev_of (by decide +kernel) rfl ?_
  show SW X _ _ _ 0 [some (.ref 0), some (.int (nI s)), some (.int (nI j)), some (.int w), none, none] [] S0 I L (R0 q) _
  refine s_aload_n (tb_ok aX7_tells_0 0 rfl) rfl ?_
  refine s_iload_n (tb_ok aX7_tells_0 1 rfl) rfl ?_
  refine s_cVp (as := [.int (nI s)]) (tb_ok aX7_tells_0 2 rfl) v_RX7_248 (E_rowAt hrs) (by decide) rfl rfl rfl rfl rfl (Nat.le_of_ble_eq_true rfl) (by decide) ?_
  refine s_astore (ls' := [some (.ref 0), some (.int (nI s)), some (.int (nI j)), some (.int w), some (.ref (rowN s)), none]) (tb_ok aX7_tells_0 3 rfl) rfl rfl ?_
  refine s_aload_n (tb_ok aX7_tells_0 4 rfl) rfl ?_
  refine s_getR (r := 5) (tb_ok aX7_tells_0 5 rfl) f_RX7_19 rfl rfl rfl ?_
  refine s_iload_n (tb_ok aX7_tells_0 6 rfl) rfl ?_
  refine s_cVp (as := [.int (nI j)]) (tb_ok aX7_tells_0 7 rfl) v_RX7_115 (E_at (orch5 q) hM hM5 hj) (by decide) rfl rfl rfl rfl rfl (Nat.le_of_ble_eq_true rfl) (by decide) ?_
  refine s_astore (ls' := [some (.ref 0), some (.int (nI s)), some (.int (nI j)), some (.int w), some (.ref (rowN s)), some (.ref (5 + 2 + j))]) (tb_ok aX7_tells_0 8 rfl) rfl rfl ?_
  refine s_aload (tb_ok aX7_tells_0 9 rfl) rfl ?_
  refine s_ifnull (tb_ok aX7_tells_0 10 rfl) ?_
  refine s_aload (tb_ok aX7_tells_0 11 rfl) rfl ?_
  refine s_ifnull (tb_ok aX7_tells_0 12 rfl) ?_
  refine s_iload_n (tb_ok aX7_tells_0 13 rfl) rfl ?_
  refine s_if_lt (tgt := 37) (tb_ok aX7_tells_0 14 rfl) (by decide) (fun c28 => ?_) (fun c28 => ?_)
  · refine s_bipush (v := -2) (tb_ok aX7_tells_0 18 rfl) (by decide) ?_
    refine s_iret (tb_ok aX7_tells_0 19 rfl) rfl ?_
    exact ⟨rfl, rfl, AgL.rf, rfl, rfl⟩
  · refine s_iload_n (tb_ok aX7_tells_0 15 rfl) rfl ?_
    refine s_bipush (v := 7) (tb_ok aX7_tells_0 16 rfl) (by decide) ?_
    refine s_icmp_le (tgt := 40) (tb_ok aX7_tells_0 17 rfl) (by decide) (fun c34 => ?_) (fun c34 => ?_)
    · exact absurd ⟨c28, c34⟩ hw
    · refine s_bipush (v := -2) (tb_ok aX7_tells_0 18 rfl) (by decide) ?_
      refine s_iret (tb_ok aX7_tells_0 19 rfl) rfl ?_
      exact ⟨rfl, rfl, AgL.rf, rfl, rfl⟩

set_option maxRecDepth 100000 in
set_option maxHeartbeats 1000000 in
theorem C_tellsS {X : En} {I : FI} {L : FL} {q : Nat × Nat} {m M ri : Nat} {sem : Nat → Sem} (h : CSt I q m M ri sem) {j : Nat} (hj : j < M) {x w : Int32} (hx : x < 0 ∨ nI 4 ≤ x) : Ev X 9 mX7_tells (0, 0) [.ref 0, .int x, .int (nI j), .int w] S0 I L (R0 q) (AgLR (some (.int (-2))) I L q) := by
  obtain ⟨hm, hm10, hM, hM5, hri, hq, hs⟩ := id h
  have hj5 : j < 5 := by omega
  have hob : S0[5 + 2 + j]? = some (5, 5) := ((orch5 q).2.2.2.1 j hj5).2
  have h27 : 5 + 2 + j ≠ 27 := (wT j hj5).2
  refine ev_of (by decide +kernel) rfl ?_
  show SW X _ _ _ 0 [some (.ref 0), some (.int x), some (.int (nI j)), some (.int w), none, none] [] S0 I L (R0 q) _
  refine s_aload_n (tb_ok aX7_tells_0 0 rfl) rfl ?_
  refine s_iload_n (tb_ok aX7_tells_0 1 rfl) rfl ?_
  refine s_cVp (as := [.int x]) (tb_ok aX7_tells_0 2 rfl) v_RX7_248 (E_rowAtN hx) (by decide) rfl rfl rfl rfl rfl (Nat.le_of_ble_eq_true rfl) (by decide) ?_
  refine s_astoreN (ls' := [some (.ref 0), some (.int x), some (.int (nI j)), some (.int w), some (.null), none]) (tb_ok aX7_tells_0 3 rfl) rfl rfl ?_
  refine s_aload_n (tb_ok aX7_tells_0 4 rfl) rfl ?_
  refine s_getR (r := 5) (tb_ok aX7_tells_0 5 rfl) f_RX7_19 rfl rfl rfl ?_
  refine s_iload_n (tb_ok aX7_tells_0 6 rfl) rfl ?_
  refine s_cVp (as := [.int (nI j)]) (tb_ok aX7_tells_0 7 rfl) v_RX7_115 (E_at (orch5 q) hM hM5 hj) (by decide) rfl rfl rfl rfl rfl (Nat.le_of_ble_eq_true rfl) (by decide) ?_
  refine s_astore (ls' := [some (.ref 0), some (.int x), some (.int (nI j)), some (.int w), some (.null), some (.ref (5 + 2 + j))]) (tb_ok aX7_tells_0 8 rfl) rfl rfl ?_
  refine s_aloadq (r := none) (tb_ok aX7_tells_0 9 rfl) rfl ?_
  refine s_ifnullN (tgt := 37) (tb_ok aX7_tells_0 10 rfl) (by decide) ?_
  refine s_bipush (v := -2) (tb_ok aX7_tells_0 18 rfl) (by decide) ?_
  refine s_iret (tb_ok aX7_tells_0 19 rfl) rfl ?_
  exact ⟨rfl, rfl, AgL.rf, rfl, rfl⟩

set_option maxRecDepth 100000 in
set_option maxHeartbeats 1000000 in
theorem C_tellsH1 {X : En} {I : FI} {L : FL} {q : Nat × Nat} {m M ri : Nat} {sem : Nat → Sem} (h : CSt I q m M ri sem) {x : Int32} (hx : x < 0 ∨ nI M ≤ x) {s : Nat} (hrs : s < 4) {w : Int32} : Ev X 9 mX7_tells (0, 0) [.ref 0, .int (nI s), .int x, .int w] S0 I L (R0 q) (AgLR (some (.int (-2))) I L q) := by
  obtain ⟨hm, hm10, hM, hM5, hri, hq, hs⟩ := id h
  refine ev_of (by decide +kernel) rfl ?_
  show SW X _ _ _ 0 [some (.ref 0), some (.int (nI s)), some (.int x), some (.int w), none, none] [] S0 I L (R0 q) _
  refine s_aload_n (tb_ok aX7_tells_0 0 rfl) rfl ?_
  refine s_iload_n (tb_ok aX7_tells_0 1 rfl) rfl ?_
  refine s_cVp (as := [.int (nI s)]) (tb_ok aX7_tells_0 2 rfl) v_RX7_248 (E_rowAt hrs) (by decide) rfl rfl rfl rfl rfl (Nat.le_of_ble_eq_true rfl) (by decide) ?_
  refine s_astore (ls' := [some (.ref 0), some (.int (nI s)), some (.int x), some (.int w), some (.ref (rowN s)), none]) (tb_ok aX7_tells_0 3 rfl) rfl rfl ?_
  refine s_aload_n (tb_ok aX7_tells_0 4 rfl) rfl ?_
  refine s_getR (r := 5) (tb_ok aX7_tells_0 5 rfl) f_RX7_19 rfl rfl rfl ?_
  refine s_iload_n (tb_ok aX7_tells_0 6 rfl) rfl ?_
  refine s_cVp (as := [.int x]) (tb_ok aX7_tells_0 7 rfl) v_RX7_115 (E_atN (orch5 q) hM hM5 hx) (by decide) rfl rfl rfl rfl rfl (Nat.le_of_ble_eq_true rfl) (by decide) ?_
  refine s_astoreN (ls' := [some (.ref 0), some (.int (nI s)), some (.int x), some (.int w), some (.ref (rowN s)), some (.null)]) (tb_ok aX7_tells_0 8 rfl) rfl rfl ?_
  refine s_aload (tb_ok aX7_tells_0 9 rfl) rfl ?_
  refine s_ifnull (tb_ok aX7_tells_0 10 rfl) ?_
  refine s_aloadq (r := none) (tb_ok aX7_tells_0 11 rfl) rfl ?_
  refine s_ifnullN (tgt := 37) (tb_ok aX7_tells_0 12 rfl) (by decide) ?_
  refine s_bipush (v := -2) (tb_ok aX7_tells_0 18 rfl) (by decide) ?_
  refine s_iret (tb_ok aX7_tells_0 19 rfl) rfl ?_
  exact ⟨rfl, rfl, AgL.rf, rfl, rfl⟩

set_option maxRecDepth 100000 in
set_option maxHeartbeats 1000000 in
theorem C_tellsH2 {X : En} {I : FI} {L : FL} {q : Nat × Nat} {m M ri : Nat} {sem : Nat → Sem} (h : CSt I q m M ri sem) {x : Int32} (hx : x < 0 ∨ nI M ≤ x) {z w : Int32} (hz : z < 0 ∨ nI 4 ≤ z) : Ev X 9 mX7_tells (0, 0) [.ref 0, .int z, .int x, .int w] S0 I L (R0 q) (AgLR (some (.int (-2))) I L q) := by
  obtain ⟨hm, hm10, hM, hM5, hri, hq, hs⟩ := id h
  refine ev_of (by decide +kernel) rfl ?_
  show SW X _ _ _ 0 [some (.ref 0), some (.int z), some (.int x), some (.int w), none, none] [] S0 I L (R0 q) _
  refine s_aload_n (tb_ok aX7_tells_0 0 rfl) rfl ?_
  refine s_iload_n (tb_ok aX7_tells_0 1 rfl) rfl ?_
  refine s_cVp (as := [.int z]) (tb_ok aX7_tells_0 2 rfl) v_RX7_248 (E_rowAtN hz) (by decide) rfl rfl rfl rfl rfl (Nat.le_of_ble_eq_true rfl) (by decide) ?_
  refine s_astoreN (ls' := [some (.ref 0), some (.int z), some (.int x), some (.int w), some (.null), none]) (tb_ok aX7_tells_0 3 rfl) rfl rfl ?_
  refine s_aload_n (tb_ok aX7_tells_0 4 rfl) rfl ?_
  refine s_getR (r := 5) (tb_ok aX7_tells_0 5 rfl) f_RX7_19 rfl rfl rfl ?_
  refine s_iload_n (tb_ok aX7_tells_0 6 rfl) rfl ?_
  refine s_cVp (as := [.int x]) (tb_ok aX7_tells_0 7 rfl) v_RX7_115 (E_atN (orch5 q) hM hM5 hx) (by decide) rfl rfl rfl rfl rfl (Nat.le_of_ble_eq_true rfl) (by decide) ?_
  refine s_astoreN (ls' := [some (.ref 0), some (.int z), some (.int x), some (.int w), some (.null), some (.null)]) (tb_ok aX7_tells_0 8 rfl) rfl rfl ?_
  refine s_aloadq (r := none) (tb_ok aX7_tells_0 9 rfl) rfl ?_
  refine s_ifnullN (tgt := 37) (tb_ok aX7_tells_0 10 rfl) (by decide) ?_
  refine s_bipush (v := -2) (tb_ok aX7_tells_0 18 rfl) (by decide) ?_
  refine s_iret (tb_ok aX7_tells_0 19 rfl) rfl ?_
  exact ⟨rfl, rfl, AgL.rf, rfl, rfl⟩

set_option maxRecDepth 100000 in
set_option maxHeartbeats 1000000 in
theorem C_learns {X : En} {I : FI} {L : FL} {q : Nat × Nat} {m M ri : Nat} {sem : Nat → Sem} (h : CSt I q m M ri sem) {x : Int32} (hx : ¬ x < 0 ∧ x ≤ 4095) {g : Nat} (hg : g < 12) (hm9 : m < 10) : Ev X 9 mX7_learns (0, 0) [.ref 0, .int x, .int (nI g)] S0 I L (R0 q) (PureR (some (.int (nI m))) S0 (up2 (up2 (up2 I (1 + 1) m x) (1 + 2) m (nI g)) 1 3 (nI (m + 1))) L (R0 q)) := by
  obtain ⟨hm, hm10, hM, hM5, hri, hq, hs⟩ := id h
  refine ev_of (by decide +kernel) rfl ?_
  show SW X _ _ _ 0 [some (.ref 0), some (.int x), some (.int (nI g))] [] S0 I L (R0 q) _
  refine s_iload_n (tb_ok aX7_learns_0 0 rfl) rfl ?_
  refine s_cSp (as := [.int x]) (tb_ok aX7_learns_0 1 rfl) v_RX7_105 (E_isSet _) (by decide) rfl rfl (Nat.le_of_ble_eq_true rfl) ?_
  refine s_topi (bI_t hx) ?_
  refine s_if_eq (tgt := 14) (tb_ok aX7_learns_0 2 rfl) (by decide) (fun c4 => ?_) (fun c4 => ?_)
  · exact absurd c4 (by decide)
  · refine s_iload_n (tb_ok aX7_learns_0 3 rfl) rfl ?_
    refine s_cSp (as := [.int (nI g)]) (tb_ok aX7_learns_0 4 rfl) v_RX7_108 (E_isFact _) (by decide) rfl rfl (Nat.le_of_ble_eq_true rfl) ?_
    refine s_topi (bI_t ⟨nI_pos (by omega), by rw [show (12 : Int32) = nI 12 from rfl]; simp (disch := omega) only [nI_ltI]; omega⟩) ?_
    refine s_if_ne (tgt := 17) (tb_ok aX7_learns_0 5 rfl) (by decide) (fun c11 => ?_) (fun c11 => ?_)
    · refine s_aload_n (tb_ok aX7_learns_0 8 rfl) rfl ?_
      refine s_getR (r := 1) (tb_ok aX7_learns_0 9 rfl) f_RX7_10 rfl rfl rfl ?_
      refine s_iload_n (tb_ok aX7_learns_0 10 rfl) rfl ?_
      refine s_iload_n (tb_ok aX7_learns_0 11 rfl) rfl ?_
      refine s_cV (as := [.int x, .int (nI g)]) (tb_ok aX7_learns_0 12 rfl) v_RX7_111 (E_add (lore0 q) hm hm9 _ _) (by decide) rfl rfl rfl rfl rfl (Nat.le_of_ble_eq_true rfl) (by decide) (fun r1 S1 I1 L1 R1 q1 => ?_)
      obtain ⟨rfl, rfl, rfl, rfl, rfl⟩ := q1
      refine s_iret (tb_ok aX7_learns_0 13 rfl) rfl ?_
      exact pureR
    · exact absurd c11 (by decide)

set_option maxRecDepth 100000 in
set_option maxHeartbeats 1000000 in
theorem C_learnsF {X : En} {I : FI} {L : FL} {q : Nat × Nat} {m M ri : Nat} {sem : Nat → Sem} (h : CSt I q m M ri sem) {x : Int32} (hx : ¬ x < 0 ∧ x ≤ 4095) {g : Nat} (hg : g < 12) (hm9 : m = 10) : Ev X 9 mX7_learns (0, 0) [.ref 0, .int x, .int (nI g)] S0 I L (R0 q) (AgLR (some (.int (-4))) I L q) := by
  subst hm9
  obtain ⟨hm, hm10, hM, hM5, hri, hq, hs⟩ := id h
  refine ev_of (by decide +kernel) rfl ?_
  show SW X _ _ _ 0 [some (.ref 0), some (.int x), some (.int (nI g))] [] S0 I L (R0 q) _
  refine s_iload_n (tb_ok aX7_learns_0 0 rfl) rfl ?_
  refine s_cSp (as := [.int x]) (tb_ok aX7_learns_0 1 rfl) v_RX7_105 (E_isSet _) (by decide) rfl rfl (Nat.le_of_ble_eq_true rfl) ?_
  refine s_topi (bI_t hx) ?_
  refine s_if_eq (tgt := 14) (tb_ok aX7_learns_0 2 rfl) (by decide) (fun c4 => ?_) (fun c4 => ?_)
  · exact absurd c4 (by decide)
  · refine s_iload_n (tb_ok aX7_learns_0 3 rfl) rfl ?_
    refine s_cSp (as := [.int (nI g)]) (tb_ok aX7_learns_0 4 rfl) v_RX7_108 (E_isFact _) (by decide) rfl rfl (Nat.le_of_ble_eq_true rfl) ?_
    refine s_topi (bI_t ⟨nI_pos (by omega), by rw [show (12 : Int32) = nI 12 from rfl]; simp (disch := omega) only [nI_ltI]; omega⟩) ?_
    refine s_if_ne (tgt := 17) (tb_ok aX7_learns_0 5 rfl) (by decide) (fun c11 => ?_) (fun c11 => ?_)
    · refine s_aload_n (tb_ok aX7_learns_0 8 rfl) rfl ?_
      refine s_getR (r := 1) (tb_ok aX7_learns_0 9 rfl) f_RX7_10 rfl rfl rfl ?_
      refine s_iload_n (tb_ok aX7_learns_0 10 rfl) rfl ?_
      refine s_iload_n (tb_ok aX7_learns_0 11 rfl) rfl ?_
      refine s_cVp (as := [.int x, .int (nI g)]) (tb_ok aX7_learns_0 12 rfl) v_RX7_111 (E_addF (m := 10) (lore0 q) hm _ _) (by decide) rfl rfl rfl rfl rfl (Nat.le_of_ble_eq_true rfl) (by decide) ?_
      refine s_iret (tb_ok aX7_learns_0 13 rfl) rfl ?_
      exact ⟨rfl, rfl, AgL.rf, rfl, rfl⟩
    · exact absurd c11 (by decide)

set_option maxRecDepth 100000 in
set_option maxHeartbeats 1000000 in
theorem C_learnsB {X : En} {I : FI} {L : FL} {q : Nat × Nat} {x w : Int32} (hv : ¬ ((¬ x < 0 ∧ x ≤ 4095) ∧ (¬ w < 0 ∧ w < 12))) : Ev X 9 mX7_learns (0, 0) [.ref 0, .int x, .int w] S0 I L (R0 q) (AgLR (some (.int (-2))) I L q) := by
  refine ev_of (by decide +kernel) rfl ?_
  show SW X _ _ _ 0 [some (.ref 0), some (.int x), some (.int w)] [] S0 I L (R0 q) _
  refine s_iload_n (tb_ok aX7_learns_0 0 rfl) rfl ?_
  refine s_cSp (as := [.int x]) (tb_ok aX7_learns_0 1 rfl) v_RX7_105 (E_isSet _) (by decide) rfl rfl (Nat.le_of_ble_eq_true rfl) ?_
  refine s_if_eq (tgt := 14) (tb_ok aX7_learns_0 2 rfl) (by decide) (fun c4 => ?_) (fun c4 => ?_)
  · refine s_bipush (v := -2) (tb_ok aX7_learns_0 6 rfl) (by decide) ?_
    refine s_iret (tb_ok aX7_learns_0 7 rfl) rfl ?_
    exact ⟨rfl, rfl, AgL.rf, rfl, rfl⟩
  · refine s_iload_n (tb_ok aX7_learns_0 3 rfl) rfl ?_
    refine s_cSp (as := [.int w]) (tb_ok aX7_learns_0 4 rfl) v_RX7_108 (E_isFact _) (by decide) rfl rfl (Nat.le_of_ble_eq_true rfl) ?_
    refine s_if_ne (tgt := 17) (tb_ok aX7_learns_0 5 rfl) (by decide) (fun c11 => ?_) (fun c11 => ?_)
    · exact absurd ⟨bI_n c4, bI_n c11⟩ hv
    · refine s_bipush (v := -2) (tb_ok aX7_learns_0 6 rfl) (by decide) ?_
      refine s_iret (tb_ok aX7_learns_0 7 rfl) rfl ?_
      exact ⟨rfl, rfl, AgL.rf, rfl, rfl⟩

set_option maxRecDepth 100000 in
set_option maxHeartbeats 1000000 in
theorem C_set0 {X : En} {I : FI} {L : FL} {q : Nat × Nat} {m M ri : Nat} {sem : Nat → Sem} (h : CSt I q m M ri sem) {j : Nat} (hj : j < M) {v : Int32} (hv : ¬ v < 0 ∧ v ≤ 999) : Ev X 9 mX7_set (0, 0) [.ref 0, .int (0), .int (nI j), .int v] S0 I L (R0 q) (PureR (some (.int (I 5 2))) S0 (up2 I 5 2 v) L (R0 q)) := by
  obtain ⟨hm, hm10, hM, hM5, hri, hq, hs⟩ := id h
  have hj5 : j < 5 := by omega
  have hob : S0[5 + 2 + j]? = some (5, 5) := ((orch5 q).2.2.2.1 j hj5).2
  have h27 : 5 + 2 + j ≠ 27 := (wT j hj5).2
  refine ev_of (by decide +kernel) rfl ?_
  show SW X _ _ _ 0 [some (.ref 0), some (.int (0)), some (.int (nI j)), some (.int v), none, none] [] S0 I L (R0 q) _
  refine s_aload_n (tb_ok aX7_set_0 0 rfl) rfl ?_
  refine s_getR (r := 5) (tb_ok aX7_set_0 1 rfl) f_RX7_19 rfl rfl rfl ?_
  refine s_iload_n (tb_ok aX7_set_0 2 rfl) rfl ?_
  refine s_cVp (as := [.int (nI j)]) (tb_ok aX7_set_0 3 rfl) v_RX7_115 (E_at (orch5 q) hM hM5 hj) (by decide) rfl rfl rfl rfl rfl (Nat.le_of_ble_eq_true rfl) (by decide) ?_
  refine s_astore (ls' := [some (.ref 0), some (.int (0)), some (.int (nI j)), some (.int v), some (.ref (5 + 2 + j)), none]) (tb_ok aX7_set_0 4 rfl) rfl rfl ?_
  refine s_iload_n (tb_ok aX7_set_0 5 rfl) rfl ?_
  refine s_if_eq (tgt := 19) (tb_ok aX7_set_0 6 rfl) (by decide) (fun c11 => ?_) (fun c11 => ?_)
  · refine s_iload_n (tb_ok aX7_set_0 9 rfl) rfl ?_
    refine s_if_lt (tgt := 31) (tb_ok aX7_set_0 10 rfl) (by decide) (fun c20 => ?_) (fun c20 => ?_)
    · exact absurd c20 hv.1
    · refine s_iload_n (tb_ok aX7_set_0 11 rfl) rfl ?_
      refine s_iload_n (tb_ok aX7_set_0 12 rfl) rfl ?_
      refine s_cSp (as := [.int (0)]) (tb_ok aX7_set_0 13 rfl) v_RX7_119 (E_greatest _) (by decide) rfl rfl (Nat.le_of_ble_eq_true rfl) ?_
      rw [show grt 0 = 999 from rfl]
      refine s_icmp_le (tgt := 34) (tb_ok aX7_set_0 14 rfl) (by decide) (fun c28 => ?_) (fun c28 => ?_)
      · refine s_aload_n (tb_ok aX7_set_0 17 rfl) rfl ?_
        refine s_aload (tb_ok aX7_set_0 18 rfl) rfl ?_
        refine s_iload_n (tb_ok aX7_set_0 19 rfl) rfl ?_
        refine s_cVp (as := [.ref (5 + 2 + j), .int (0)]) (tb_ok aX7_set_0 20 rfl) v_RX7_123 (E_tellOf hob _) (by decide) rfl rfl rfl rfl rfl (Nat.le_of_ble_eq_true rfl) (by decide) ?_
        refine s_name (fun x1 ex1 => ?_)
        refine s_istore (ls' := [some (.ref 0), some (.int (0)), some (.int (nI j)), some (.int v), some (.ref (5 + 2 + j)), some (.int x1)]) (tb_ok aX7_set_0 21 rfl) rfl rfl ?_
        refine s_iload_n (tb_ok aX7_set_0 22 rfl) rfl ?_
        refine s_if_ne (tgt := 58) (tb_ok aX7_set_0 23 rfl) (by decide) (fun c44 => ?_) (fun c44 => ?_)
        · exact absurd c44 (by decide)
        · refine s_aload_n (tb_ok aX7_set_1 0 rfl) rfl ?_
          refine s_getR (r := 5) (tb_ok aX7_set_1 1 rfl) f_RX7_19 rfl rfl rfl ?_
          refine s_iload_n (tb_ok aX7_set_1 2 rfl) rfl ?_
          refine s_putI (tb_ok aX7_set_1 3 rfl) f_RX7_127 rfl rfl ?_
          refine s_goto (tgt := 70) (tb_ok aX7_set_1 4 rfl) (by decide) ?_
          refine s_iload (tb_ok aX7_set_1 11 rfl) rfl ?_
          refine s_iret (tb_ok aX7_set_1 12 rfl) rfl ?_
          rw [ex1]
          exact pureR
      · exact absurd hv.2 c28
  · exact absurd c11 (by decide)

set_option maxRecDepth 100000 in
set_option maxHeartbeats 1000000 in
theorem C_setV0 {X : En} {I : FI} {L : FL} {q : Nat × Nat} {m M ri : Nat} {sem : Nat → Sem} (h : CSt I q m M ri sem) {j : Nat} (hj : j < M) {v : Int32} (hv : ¬ (¬ v < 0 ∧ v ≤ 999)) : Ev X 9 mX7_set (0, 0) [.ref 0, .int (0), .int (nI j), .int v] S0 I L (R0 q) (AgLR (some (.int (-2))) I L q) := by
  obtain ⟨hm, hm10, hM, hM5, hri, hq, hs⟩ := id h
  have hj5 : j < 5 := by omega
  have hob : S0[5 + 2 + j]? = some (5, 5) := ((orch5 q).2.2.2.1 j hj5).2
  have h27 : 5 + 2 + j ≠ 27 := (wT j hj5).2
  refine ev_of (by decide +kernel) rfl ?_
  show SW X _ _ _ 0 [some (.ref 0), some (.int (0)), some (.int (nI j)), some (.int v), none, none] [] S0 I L (R0 q) _
  refine s_aload_n (tb_ok aX7_set_0 0 rfl) rfl ?_
  refine s_getR (r := 5) (tb_ok aX7_set_0 1 rfl) f_RX7_19 rfl rfl rfl ?_
  refine s_iload_n (tb_ok aX7_set_0 2 rfl) rfl ?_
  refine s_cVp (as := [.int (nI j)]) (tb_ok aX7_set_0 3 rfl) v_RX7_115 (E_at (orch5 q) hM hM5 hj) (by decide) rfl rfl rfl rfl rfl (Nat.le_of_ble_eq_true rfl) (by decide) ?_
  refine s_astore (ls' := [some (.ref 0), some (.int (0)), some (.int (nI j)), some (.int v), some (.ref (5 + 2 + j)), none]) (tb_ok aX7_set_0 4 rfl) rfl rfl ?_
  refine s_iload_n (tb_ok aX7_set_0 5 rfl) rfl ?_
  refine s_if_eq (tgt := 19) (tb_ok aX7_set_0 6 rfl) (by decide) (fun c11 => ?_) (fun c11 => ?_)
  · refine s_iload_n (tb_ok aX7_set_0 9 rfl) rfl ?_
    refine s_if_lt (tgt := 31) (tb_ok aX7_set_0 10 rfl) (by decide) (fun c20 => ?_) (fun c20 => ?_)
    · refine s_bipush (v := -2) (tb_ok aX7_set_0 15 rfl) (by decide) ?_
      refine s_iret (tb_ok aX7_set_0 16 rfl) rfl ?_
      exact ⟨rfl, rfl, AgL.rf, rfl, rfl⟩
    · refine s_iload_n (tb_ok aX7_set_0 11 rfl) rfl ?_
      refine s_iload_n (tb_ok aX7_set_0 12 rfl) rfl ?_
      refine s_cSp (as := [.int (0)]) (tb_ok aX7_set_0 13 rfl) v_RX7_119 (E_greatest _) (by decide) rfl rfl (Nat.le_of_ble_eq_true rfl) ?_
      rw [show grt 0 = 999 from rfl]
      refine s_icmp_le (tgt := 34) (tb_ok aX7_set_0 14 rfl) (by decide) (fun c28 => ?_) (fun c28 => ?_)
      · exact absurd ⟨c20, c28⟩ hv
      · refine s_bipush (v := -2) (tb_ok aX7_set_0 15 rfl) (by decide) ?_
        refine s_iret (tb_ok aX7_set_0 16 rfl) rfl ?_
        exact ⟨rfl, rfl, AgL.rf, rfl, rfl⟩
  · exact absurd c11 (by decide)

set_option maxRecDepth 100000 in
set_option maxHeartbeats 1000000 in
theorem C_set0n {X : En} {I : FI} {L : FL} {q : Nat × Nat} {m M ri : Nat} {sem : Nat → Sem} (h : CSt I q m M ri sem) {x : Int32} (hx : x < 0 ∨ nI M ≤ x) {v : Int32} (hv : ¬ v < 0 ∧ v ≤ 999) : Ev X 9 mX7_set (0, 0) [.ref 0, .int (0), .int x, .int v] S0 I L (R0 q) (PureR (some (.int (I 5 2))) S0 (up2 I 5 2 v) L (R0 q)) := by
  obtain ⟨hm, hm10, hM, hM5, hri, hq, hs⟩ := id h
  refine ev_of (by decide +kernel) rfl ?_
  show SW X _ _ _ 0 [some (.ref 0), some (.int (0)), some (.int x), some (.int v), none, none] [] S0 I L (R0 q) _
  refine s_aload_n (tb_ok aX7_set_0 0 rfl) rfl ?_
  refine s_getR (r := 5) (tb_ok aX7_set_0 1 rfl) f_RX7_19 rfl rfl rfl ?_
  refine s_iload_n (tb_ok aX7_set_0 2 rfl) rfl ?_
  refine s_cVp (as := [.int x]) (tb_ok aX7_set_0 3 rfl) v_RX7_115 (E_atN (orch5 q) hM hM5 hx) (by decide) rfl rfl rfl rfl rfl (Nat.le_of_ble_eq_true rfl) (by decide) ?_
  refine s_astoreN (ls' := [some (.ref 0), some (.int (0)), some (.int x), some (.int v), some (.null), none]) (tb_ok aX7_set_0 4 rfl) rfl rfl ?_
  refine s_iload_n (tb_ok aX7_set_0 5 rfl) rfl ?_
  refine s_if_eq (tgt := 19) (tb_ok aX7_set_0 6 rfl) (by decide) (fun c11 => ?_) (fun c11 => ?_)
  · refine s_iload_n (tb_ok aX7_set_0 9 rfl) rfl ?_
    refine s_if_lt (tgt := 31) (tb_ok aX7_set_0 10 rfl) (by decide) (fun c20 => ?_) (fun c20 => ?_)
    · exact absurd c20 hv.1
    · refine s_iload_n (tb_ok aX7_set_0 11 rfl) rfl ?_
      refine s_iload_n (tb_ok aX7_set_0 12 rfl) rfl ?_
      refine s_cSp (as := [.int (0)]) (tb_ok aX7_set_0 13 rfl) v_RX7_119 (E_greatest _) (by decide) rfl rfl (Nat.le_of_ble_eq_true rfl) ?_
      rw [show grt 0 = 999 from rfl]
      refine s_icmp_le (tgt := 34) (tb_ok aX7_set_0 14 rfl) (by decide) (fun c28 => ?_) (fun c28 => ?_)
      · refine s_aload_n (tb_ok aX7_set_0 17 rfl) rfl ?_
        refine s_aloadq (r := none) (tb_ok aX7_set_0 18 rfl) rfl ?_
        refine s_iload_n (tb_ok aX7_set_0 19 rfl) rfl ?_
        refine s_cVp (as := [.null, .int (0)]) (tb_ok aX7_set_0 20 rfl) v_RX7_123 (E_tellOfN _) (by decide) rfl rfl rfl rfl rfl (Nat.le_of_ble_eq_true rfl) (by decide) ?_
        refine s_name (fun x1 ex1 => ?_)
        refine s_istore (ls' := [some (.ref 0), some (.int (0)), some (.int x), some (.int v), some (.null), some (.int x1)]) (tb_ok aX7_set_0 21 rfl) rfl rfl ?_
        refine s_iload_n (tb_ok aX7_set_0 22 rfl) rfl ?_
        refine s_if_ne (tgt := 58) (tb_ok aX7_set_0 23 rfl) (by decide) (fun c44 => ?_) (fun c44 => ?_)
        · exact absurd c44 (by decide)
        · refine s_aload_n (tb_ok aX7_set_1 0 rfl) rfl ?_
          refine s_getR (r := 5) (tb_ok aX7_set_1 1 rfl) f_RX7_19 rfl rfl rfl ?_
          refine s_iload_n (tb_ok aX7_set_1 2 rfl) rfl ?_
          refine s_putI (tb_ok aX7_set_1 3 rfl) f_RX7_127 rfl rfl ?_
          refine s_goto (tgt := 70) (tb_ok aX7_set_1 4 rfl) (by decide) ?_
          refine s_iload (tb_ok aX7_set_1 11 rfl) rfl ?_
          refine s_iret (tb_ok aX7_set_1 12 rfl) rfl ?_
          rw [ex1]
          exact pureR
      · exact absurd hv.2 c28
  · exact absurd c11 (by decide)

set_option maxRecDepth 100000 in
set_option maxHeartbeats 1000000 in
theorem C_setV0n {X : En} {I : FI} {L : FL} {q : Nat × Nat} {m M ri : Nat} {sem : Nat → Sem} (h : CSt I q m M ri sem) {x : Int32} (hx : x < 0 ∨ nI M ≤ x) {v : Int32} (hv : ¬ (¬ v < 0 ∧ v ≤ 999)) : Ev X 9 mX7_set (0, 0) [.ref 0, .int (0), .int x, .int v] S0 I L (R0 q) (AgLR (some (.int (-2))) I L q) := by
  obtain ⟨hm, hm10, hM, hM5, hri, hq, hs⟩ := id h
  refine ev_of (by decide +kernel) rfl ?_
  show SW X _ _ _ 0 [some (.ref 0), some (.int (0)), some (.int x), some (.int v), none, none] [] S0 I L (R0 q) _
  refine s_aload_n (tb_ok aX7_set_0 0 rfl) rfl ?_
  refine s_getR (r := 5) (tb_ok aX7_set_0 1 rfl) f_RX7_19 rfl rfl rfl ?_
  refine s_iload_n (tb_ok aX7_set_0 2 rfl) rfl ?_
  refine s_cVp (as := [.int x]) (tb_ok aX7_set_0 3 rfl) v_RX7_115 (E_atN (orch5 q) hM hM5 hx) (by decide) rfl rfl rfl rfl rfl (Nat.le_of_ble_eq_true rfl) (by decide) ?_
  refine s_astoreN (ls' := [some (.ref 0), some (.int (0)), some (.int x), some (.int v), some (.null), none]) (tb_ok aX7_set_0 4 rfl) rfl rfl ?_
  refine s_iload_n (tb_ok aX7_set_0 5 rfl) rfl ?_
  refine s_if_eq (tgt := 19) (tb_ok aX7_set_0 6 rfl) (by decide) (fun c11 => ?_) (fun c11 => ?_)
  · refine s_iload_n (tb_ok aX7_set_0 9 rfl) rfl ?_
    refine s_if_lt (tgt := 31) (tb_ok aX7_set_0 10 rfl) (by decide) (fun c20 => ?_) (fun c20 => ?_)
    · refine s_bipush (v := -2) (tb_ok aX7_set_0 15 rfl) (by decide) ?_
      refine s_iret (tb_ok aX7_set_0 16 rfl) rfl ?_
      exact ⟨rfl, rfl, AgL.rf, rfl, rfl⟩
    · refine s_iload_n (tb_ok aX7_set_0 11 rfl) rfl ?_
      refine s_iload_n (tb_ok aX7_set_0 12 rfl) rfl ?_
      refine s_cSp (as := [.int (0)]) (tb_ok aX7_set_0 13 rfl) v_RX7_119 (E_greatest _) (by decide) rfl rfl (Nat.le_of_ble_eq_true rfl) ?_
      rw [show grt 0 = 999 from rfl]
      refine s_icmp_le (tgt := 34) (tb_ok aX7_set_0 14 rfl) (by decide) (fun c28 => ?_) (fun c28 => ?_)
      · exact absurd ⟨c20, c28⟩ hv
      · refine s_bipush (v := -2) (tb_ok aX7_set_0 15 rfl) (by decide) ?_
        refine s_iret (tb_ok aX7_set_0 16 rfl) rfl ?_
        exact ⟨rfl, rfl, AgL.rf, rfl, rfl⟩
  · exact absurd c11 (by decide)

set_option maxRecDepth 100000 in
set_option maxHeartbeats 1000000 in
theorem C_set1 {X : En} {I : FI} {L : FL} {q : Nat × Nat} {m M ri : Nat} {sem : Nat → Sem} (h : CSt I q m M ri sem) {j : Nat} (hj : j < M) {v : Int32} (hv : ¬ v < 0 ∧ v ≤ 9) : Ev X 9 mX7_set (0, 0) [.ref 0, .int (1), .int (nI j), .int v] S0 I L (R0 q) (PureR (some (.int ((I (5 + 2 + j)) 1))) S0 (setO I (5 + 2 + j) (tChg (I (5 + 2 + j)) 1 v)) L (R0 q)) := by
  obtain ⟨hm, hm10, hM, hM5, hri, hq, hs⟩ := id h
  have hj5 : j < 5 := by omega
  have hob : S0[5 + 2 + j]? = some (5, 5) := ((orch5 q).2.2.2.1 j hj5).2
  have h27 : 5 + 2 + j ≠ 27 := (wT j hj5).2
  refine ev_of (by decide +kernel) rfl ?_
  show SW X _ _ _ 0 [some (.ref 0), some (.int (1)), some (.int (nI j)), some (.int v), none, none] [] S0 I L (R0 q) _
  refine s_aload_n (tb_ok aX7_set_0 0 rfl) rfl ?_
  refine s_getR (r := 5) (tb_ok aX7_set_0 1 rfl) f_RX7_19 rfl rfl rfl ?_
  refine s_iload_n (tb_ok aX7_set_0 2 rfl) rfl ?_
  refine s_cVp (as := [.int (nI j)]) (tb_ok aX7_set_0 3 rfl) v_RX7_115 (E_at (orch5 q) hM hM5 hj) (by decide) rfl rfl rfl rfl rfl (Nat.le_of_ble_eq_true rfl) (by decide) ?_
  refine s_astore (ls' := [some (.ref 0), some (.int (1)), some (.int (nI j)), some (.int v), some (.ref (5 + 2 + j)), none]) (tb_ok aX7_set_0 4 rfl) rfl rfl ?_
  refine s_iload_n (tb_ok aX7_set_0 5 rfl) rfl ?_
  refine s_if_eq (tgt := 19) (tb_ok aX7_set_0 6 rfl) (by decide) (fun c11 => ?_) (fun c11 => ?_)
  · exact absurd c11 (by decide)
  · refine s_aload (tb_ok aX7_set_0 7 rfl) rfl ?_
    refine s_ifnull (tb_ok aX7_set_0 8 rfl) ?_
    refine s_iload_n (tb_ok aX7_set_0 9 rfl) rfl ?_
    refine s_if_lt (tgt := 31) (tb_ok aX7_set_0 10 rfl) (by decide) (fun c20 => ?_) (fun c20 => ?_)
    · exact absurd c20 hv.1
    · refine s_iload_n (tb_ok aX7_set_0 11 rfl) rfl ?_
      refine s_iload_n (tb_ok aX7_set_0 12 rfl) rfl ?_
      refine s_cSp (as := [.int (1)]) (tb_ok aX7_set_0 13 rfl) v_RX7_119 (E_greatest _) (by decide) rfl rfl (Nat.le_of_ble_eq_true rfl) ?_
      rw [show grt 1 = 9 from rfl]
      refine s_icmp_le (tgt := 34) (tb_ok aX7_set_0 14 rfl) (by decide) (fun c28 => ?_) (fun c28 => ?_)
      · refine s_aload_n (tb_ok aX7_set_0 17 rfl) rfl ?_
        refine s_aload (tb_ok aX7_set_0 18 rfl) rfl ?_
        refine s_iload_n (tb_ok aX7_set_0 19 rfl) rfl ?_
        refine s_cVp (as := [.ref (5 + 2 + j), .int (1)]) (tb_ok aX7_set_0 20 rfl) v_RX7_123 (E_tellOf hob _) (by decide) rfl rfl rfl rfl rfl (Nat.le_of_ble_eq_true rfl) (by decide) ?_
        refine s_name (fun x1 ex1 => ?_)
        refine s_istore (ls' := [some (.ref 0), some (.int (1)), some (.int (nI j)), some (.int v), some (.ref (5 + 2 + j)), some (.int x1)]) (tb_ok aX7_set_0 21 rfl) rfl rfl ?_
        refine s_iload_n (tb_ok aX7_set_0 22 rfl) rfl ?_
        refine s_if_ne (tgt := 58) (tb_ok aX7_set_0 23 rfl) (by decide) (fun c44 => ?_) (fun c44 => ?_)
        · refine s_aload (tb_ok aX7_set_1 5 rfl) rfl ?_
          refine s_ifnull (tb_ok aX7_set_1 6 rfl) ?_
          refine s_aload (tb_ok aX7_set_1 7 rfl) rfl ?_
          refine s_iload_n (tb_ok aX7_set_1 8 rfl) rfl ?_
          refine s_iload_n (tb_ok aX7_set_1 9 rfl) rfl ?_
          refine s_cV (as := [.int (1), .int v]) (tb_ok aX7_set_1 10 rfl) v_RX7_130 (E_Tchange hob _ _) (by decide) hob rfl rfl rfl rfl (Nat.le_of_ble_eq_true rfl) (by decide) (fun r1 S1 I1 L1 R1 q1 => ?_)
          obtain ⟨rfl, rfl, rfl, rfl, rfl⟩ := q1
          refine s_iload (tb_ok aX7_set_1 11 rfl) rfl ?_
          refine s_iret (tb_ok aX7_set_1 12 rfl) rfl ?_
          rw [ex1]
          exact pureR
        · exact absurd c44 (by decide)
      · exact absurd hv.2 c28

set_option maxRecDepth 100000 in
set_option maxHeartbeats 1000000 in
theorem C_setV1 {X : En} {I : FI} {L : FL} {q : Nat × Nat} {m M ri : Nat} {sem : Nat → Sem} (h : CSt I q m M ri sem) {j : Nat} (hj : j < M) {v : Int32} (hv : ¬ (¬ v < 0 ∧ v ≤ 9)) : Ev X 9 mX7_set (0, 0) [.ref 0, .int (1), .int (nI j), .int v] S0 I L (R0 q) (AgLR (some (.int (-2))) I L q) := by
  obtain ⟨hm, hm10, hM, hM5, hri, hq, hs⟩ := id h
  have hj5 : j < 5 := by omega
  have hob : S0[5 + 2 + j]? = some (5, 5) := ((orch5 q).2.2.2.1 j hj5).2
  have h27 : 5 + 2 + j ≠ 27 := (wT j hj5).2
  refine ev_of (by decide +kernel) rfl ?_
  show SW X _ _ _ 0 [some (.ref 0), some (.int (1)), some (.int (nI j)), some (.int v), none, none] [] S0 I L (R0 q) _
  refine s_aload_n (tb_ok aX7_set_0 0 rfl) rfl ?_
  refine s_getR (r := 5) (tb_ok aX7_set_0 1 rfl) f_RX7_19 rfl rfl rfl ?_
  refine s_iload_n (tb_ok aX7_set_0 2 rfl) rfl ?_
  refine s_cVp (as := [.int (nI j)]) (tb_ok aX7_set_0 3 rfl) v_RX7_115 (E_at (orch5 q) hM hM5 hj) (by decide) rfl rfl rfl rfl rfl (Nat.le_of_ble_eq_true rfl) (by decide) ?_
  refine s_astore (ls' := [some (.ref 0), some (.int (1)), some (.int (nI j)), some (.int v), some (.ref (5 + 2 + j)), none]) (tb_ok aX7_set_0 4 rfl) rfl rfl ?_
  refine s_iload_n (tb_ok aX7_set_0 5 rfl) rfl ?_
  refine s_if_eq (tgt := 19) (tb_ok aX7_set_0 6 rfl) (by decide) (fun c11 => ?_) (fun c11 => ?_)
  · exact absurd c11 (by decide)
  · refine s_aload (tb_ok aX7_set_0 7 rfl) rfl ?_
    refine s_ifnull (tb_ok aX7_set_0 8 rfl) ?_
    refine s_iload_n (tb_ok aX7_set_0 9 rfl) rfl ?_
    refine s_if_lt (tgt := 31) (tb_ok aX7_set_0 10 rfl) (by decide) (fun c20 => ?_) (fun c20 => ?_)
    · refine s_bipush (v := -2) (tb_ok aX7_set_0 15 rfl) (by decide) ?_
      refine s_iret (tb_ok aX7_set_0 16 rfl) rfl ?_
      exact ⟨rfl, rfl, AgL.rf, rfl, rfl⟩
    · refine s_iload_n (tb_ok aX7_set_0 11 rfl) rfl ?_
      refine s_iload_n (tb_ok aX7_set_0 12 rfl) rfl ?_
      refine s_cSp (as := [.int (1)]) (tb_ok aX7_set_0 13 rfl) v_RX7_119 (E_greatest _) (by decide) rfl rfl (Nat.le_of_ble_eq_true rfl) ?_
      rw [show grt 1 = 9 from rfl]
      refine s_icmp_le (tgt := 34) (tb_ok aX7_set_0 14 rfl) (by decide) (fun c28 => ?_) (fun c28 => ?_)
      · exact absurd ⟨c20, c28⟩ hv
      · refine s_bipush (v := -2) (tb_ok aX7_set_0 15 rfl) (by decide) ?_
        refine s_iret (tb_ok aX7_set_0 16 rfl) rfl ?_
        exact ⟨rfl, rfl, AgL.rf, rfl, rfl⟩

set_option maxRecDepth 100000 in
set_option maxHeartbeats 1000000 in
theorem C_set2 {X : En} {I : FI} {L : FL} {q : Nat × Nat} {m M ri : Nat} {sem : Nat → Sem} (h : CSt I q m M ri sem) {j : Nat} (hj : j < M) {v : Int32} (hv : ¬ v < 0 ∧ v ≤ 4095) : Ev X 9 mX7_set (0, 0) [.ref 0, .int (2), .int (nI j), .int v] S0 I L (R0 q) (PureR (some (.int ((I (5 + 2 + j)) 2))) S0 (setO I (5 + 2 + j) (tChg (I (5 + 2 + j)) 2 v)) L (R0 q)) := by
  obtain ⟨hm, hm10, hM, hM5, hri, hq, hs⟩ := id h
  have hj5 : j < 5 := by omega
  have hob : S0[5 + 2 + j]? = some (5, 5) := ((orch5 q).2.2.2.1 j hj5).2
  have h27 : 5 + 2 + j ≠ 27 := (wT j hj5).2
  refine ev_of (by decide +kernel) rfl ?_
  show SW X _ _ _ 0 [some (.ref 0), some (.int (2)), some (.int (nI j)), some (.int v), none, none] [] S0 I L (R0 q) _
  refine s_aload_n (tb_ok aX7_set_0 0 rfl) rfl ?_
  refine s_getR (r := 5) (tb_ok aX7_set_0 1 rfl) f_RX7_19 rfl rfl rfl ?_
  refine s_iload_n (tb_ok aX7_set_0 2 rfl) rfl ?_
  refine s_cVp (as := [.int (nI j)]) (tb_ok aX7_set_0 3 rfl) v_RX7_115 (E_at (orch5 q) hM hM5 hj) (by decide) rfl rfl rfl rfl rfl (Nat.le_of_ble_eq_true rfl) (by decide) ?_
  refine s_astore (ls' := [some (.ref 0), some (.int (2)), some (.int (nI j)), some (.int v), some (.ref (5 + 2 + j)), none]) (tb_ok aX7_set_0 4 rfl) rfl rfl ?_
  refine s_iload_n (tb_ok aX7_set_0 5 rfl) rfl ?_
  refine s_if_eq (tgt := 19) (tb_ok aX7_set_0 6 rfl) (by decide) (fun c11 => ?_) (fun c11 => ?_)
  · exact absurd c11 (by decide)
  · refine s_aload (tb_ok aX7_set_0 7 rfl) rfl ?_
    refine s_ifnull (tb_ok aX7_set_0 8 rfl) ?_
    refine s_iload_n (tb_ok aX7_set_0 9 rfl) rfl ?_
    refine s_if_lt (tgt := 31) (tb_ok aX7_set_0 10 rfl) (by decide) (fun c20 => ?_) (fun c20 => ?_)
    · exact absurd c20 hv.1
    · refine s_iload_n (tb_ok aX7_set_0 11 rfl) rfl ?_
      refine s_iload_n (tb_ok aX7_set_0 12 rfl) rfl ?_
      refine s_cSp (as := [.int (2)]) (tb_ok aX7_set_0 13 rfl) v_RX7_119 (E_greatest _) (by decide) rfl rfl (Nat.le_of_ble_eq_true rfl) ?_
      rw [show grt 2 = 4095 from rfl]
      refine s_icmp_le (tgt := 34) (tb_ok aX7_set_0 14 rfl) (by decide) (fun c28 => ?_) (fun c28 => ?_)
      · refine s_aload_n (tb_ok aX7_set_0 17 rfl) rfl ?_
        refine s_aload (tb_ok aX7_set_0 18 rfl) rfl ?_
        refine s_iload_n (tb_ok aX7_set_0 19 rfl) rfl ?_
        refine s_cVp (as := [.ref (5 + 2 + j), .int (2)]) (tb_ok aX7_set_0 20 rfl) v_RX7_123 (E_tellOf hob _) (by decide) rfl rfl rfl rfl rfl (Nat.le_of_ble_eq_true rfl) (by decide) ?_
        refine s_name (fun x1 ex1 => ?_)
        refine s_istore (ls' := [some (.ref 0), some (.int (2)), some (.int (nI j)), some (.int v), some (.ref (5 + 2 + j)), some (.int x1)]) (tb_ok aX7_set_0 21 rfl) rfl rfl ?_
        refine s_iload_n (tb_ok aX7_set_0 22 rfl) rfl ?_
        refine s_if_ne (tgt := 58) (tb_ok aX7_set_0 23 rfl) (by decide) (fun c44 => ?_) (fun c44 => ?_)
        · refine s_aload (tb_ok aX7_set_1 5 rfl) rfl ?_
          refine s_ifnull (tb_ok aX7_set_1 6 rfl) ?_
          refine s_aload (tb_ok aX7_set_1 7 rfl) rfl ?_
          refine s_iload_n (tb_ok aX7_set_1 8 rfl) rfl ?_
          refine s_iload_n (tb_ok aX7_set_1 9 rfl) rfl ?_
          refine s_cV (as := [.int (2), .int v]) (tb_ok aX7_set_1 10 rfl) v_RX7_130 (E_Tchange hob _ _) (by decide) hob rfl rfl rfl rfl (Nat.le_of_ble_eq_true rfl) (by decide) (fun r1 S1 I1 L1 R1 q1 => ?_)
          obtain ⟨rfl, rfl, rfl, rfl, rfl⟩ := q1
          refine s_iload (tb_ok aX7_set_1 11 rfl) rfl ?_
          refine s_iret (tb_ok aX7_set_1 12 rfl) rfl ?_
          rw [ex1]
          exact pureR
        · exact absurd c44 (by decide)
      · exact absurd hv.2 c28

set_option maxRecDepth 100000 in
set_option maxHeartbeats 1000000 in
theorem C_setV2 {X : En} {I : FI} {L : FL} {q : Nat × Nat} {m M ri : Nat} {sem : Nat → Sem} (h : CSt I q m M ri sem) {j : Nat} (hj : j < M) {v : Int32} (hv : ¬ (¬ v < 0 ∧ v ≤ 4095)) : Ev X 9 mX7_set (0, 0) [.ref 0, .int (2), .int (nI j), .int v] S0 I L (R0 q) (AgLR (some (.int (-2))) I L q) := by
  obtain ⟨hm, hm10, hM, hM5, hri, hq, hs⟩ := id h
  have hj5 : j < 5 := by omega
  have hob : S0[5 + 2 + j]? = some (5, 5) := ((orch5 q).2.2.2.1 j hj5).2
  have h27 : 5 + 2 + j ≠ 27 := (wT j hj5).2
  refine ev_of (by decide +kernel) rfl ?_
  show SW X _ _ _ 0 [some (.ref 0), some (.int (2)), some (.int (nI j)), some (.int v), none, none] [] S0 I L (R0 q) _
  refine s_aload_n (tb_ok aX7_set_0 0 rfl) rfl ?_
  refine s_getR (r := 5) (tb_ok aX7_set_0 1 rfl) f_RX7_19 rfl rfl rfl ?_
  refine s_iload_n (tb_ok aX7_set_0 2 rfl) rfl ?_
  refine s_cVp (as := [.int (nI j)]) (tb_ok aX7_set_0 3 rfl) v_RX7_115 (E_at (orch5 q) hM hM5 hj) (by decide) rfl rfl rfl rfl rfl (Nat.le_of_ble_eq_true rfl) (by decide) ?_
  refine s_astore (ls' := [some (.ref 0), some (.int (2)), some (.int (nI j)), some (.int v), some (.ref (5 + 2 + j)), none]) (tb_ok aX7_set_0 4 rfl) rfl rfl ?_
  refine s_iload_n (tb_ok aX7_set_0 5 rfl) rfl ?_
  refine s_if_eq (tgt := 19) (tb_ok aX7_set_0 6 rfl) (by decide) (fun c11 => ?_) (fun c11 => ?_)
  · exact absurd c11 (by decide)
  · refine s_aload (tb_ok aX7_set_0 7 rfl) rfl ?_
    refine s_ifnull (tb_ok aX7_set_0 8 rfl) ?_
    refine s_iload_n (tb_ok aX7_set_0 9 rfl) rfl ?_
    refine s_if_lt (tgt := 31) (tb_ok aX7_set_0 10 rfl) (by decide) (fun c20 => ?_) (fun c20 => ?_)
    · refine s_bipush (v := -2) (tb_ok aX7_set_0 15 rfl) (by decide) ?_
      refine s_iret (tb_ok aX7_set_0 16 rfl) rfl ?_
      exact ⟨rfl, rfl, AgL.rf, rfl, rfl⟩
    · refine s_iload_n (tb_ok aX7_set_0 11 rfl) rfl ?_
      refine s_iload_n (tb_ok aX7_set_0 12 rfl) rfl ?_
      refine s_cSp (as := [.int (2)]) (tb_ok aX7_set_0 13 rfl) v_RX7_119 (E_greatest _) (by decide) rfl rfl (Nat.le_of_ble_eq_true rfl) ?_
      rw [show grt 2 = 4095 from rfl]
      refine s_icmp_le (tgt := 34) (tb_ok aX7_set_0 14 rfl) (by decide) (fun c28 => ?_) (fun c28 => ?_)
      · exact absurd ⟨c20, c28⟩ hv
      · refine s_bipush (v := -2) (tb_ok aX7_set_0 15 rfl) (by decide) ?_
        refine s_iret (tb_ok aX7_set_0 16 rfl) rfl ?_
        exact ⟨rfl, rfl, AgL.rf, rfl, rfl⟩

set_option maxRecDepth 100000 in
set_option maxHeartbeats 1000000 in
theorem C_set3 {X : En} {I : FI} {L : FL} {q : Nat × Nat} {m M ri : Nat} {sem : Nat → Sem} (h : CSt I q m M ri sem) {j : Nat} (hj : j < M) {v : Int32} (hv : ¬ v < 0 ∧ v ≤ 99) : Ev X 9 mX7_set (0, 0) [.ref 0, .int (3), .int (nI j), .int v] S0 I L (R0 q) (PureR (some (.int ((I (5 + 2 + j)) 3))) S0 (setO I (5 + 2 + j) (tChg (I (5 + 2 + j)) 3 v)) L (R0 q)) := by
  obtain ⟨hm, hm10, hM, hM5, hri, hq, hs⟩ := id h
  have hj5 : j < 5 := by omega
  have hob : S0[5 + 2 + j]? = some (5, 5) := ((orch5 q).2.2.2.1 j hj5).2
  have h27 : 5 + 2 + j ≠ 27 := (wT j hj5).2
  refine ev_of (by decide +kernel) rfl ?_
  show SW X _ _ _ 0 [some (.ref 0), some (.int (3)), some (.int (nI j)), some (.int v), none, none] [] S0 I L (R0 q) _
  refine s_aload_n (tb_ok aX7_set_0 0 rfl) rfl ?_
  refine s_getR (r := 5) (tb_ok aX7_set_0 1 rfl) f_RX7_19 rfl rfl rfl ?_
  refine s_iload_n (tb_ok aX7_set_0 2 rfl) rfl ?_
  refine s_cVp (as := [.int (nI j)]) (tb_ok aX7_set_0 3 rfl) v_RX7_115 (E_at (orch5 q) hM hM5 hj) (by decide) rfl rfl rfl rfl rfl (Nat.le_of_ble_eq_true rfl) (by decide) ?_
  refine s_astore (ls' := [some (.ref 0), some (.int (3)), some (.int (nI j)), some (.int v), some (.ref (5 + 2 + j)), none]) (tb_ok aX7_set_0 4 rfl) rfl rfl ?_
  refine s_iload_n (tb_ok aX7_set_0 5 rfl) rfl ?_
  refine s_if_eq (tgt := 19) (tb_ok aX7_set_0 6 rfl) (by decide) (fun c11 => ?_) (fun c11 => ?_)
  · exact absurd c11 (by decide)
  · refine s_aload (tb_ok aX7_set_0 7 rfl) rfl ?_
    refine s_ifnull (tb_ok aX7_set_0 8 rfl) ?_
    refine s_iload_n (tb_ok aX7_set_0 9 rfl) rfl ?_
    refine s_if_lt (tgt := 31) (tb_ok aX7_set_0 10 rfl) (by decide) (fun c20 => ?_) (fun c20 => ?_)
    · exact absurd c20 hv.1
    · refine s_iload_n (tb_ok aX7_set_0 11 rfl) rfl ?_
      refine s_iload_n (tb_ok aX7_set_0 12 rfl) rfl ?_
      refine s_cSp (as := [.int (3)]) (tb_ok aX7_set_0 13 rfl) v_RX7_119 (E_greatest _) (by decide) rfl rfl (Nat.le_of_ble_eq_true rfl) ?_
      rw [show grt 3 = 99 from rfl]
      refine s_icmp_le (tgt := 34) (tb_ok aX7_set_0 14 rfl) (by decide) (fun c28 => ?_) (fun c28 => ?_)
      · refine s_aload_n (tb_ok aX7_set_0 17 rfl) rfl ?_
        refine s_aload (tb_ok aX7_set_0 18 rfl) rfl ?_
        refine s_iload_n (tb_ok aX7_set_0 19 rfl) rfl ?_
        refine s_cVp (as := [.ref (5 + 2 + j), .int (3)]) (tb_ok aX7_set_0 20 rfl) v_RX7_123 (E_tellOf hob _) (by decide) rfl rfl rfl rfl rfl (Nat.le_of_ble_eq_true rfl) (by decide) ?_
        refine s_name (fun x1 ex1 => ?_)
        refine s_istore (ls' := [some (.ref 0), some (.int (3)), some (.int (nI j)), some (.int v), some (.ref (5 + 2 + j)), some (.int x1)]) (tb_ok aX7_set_0 21 rfl) rfl rfl ?_
        refine s_iload_n (tb_ok aX7_set_0 22 rfl) rfl ?_
        refine s_if_ne (tgt := 58) (tb_ok aX7_set_0 23 rfl) (by decide) (fun c44 => ?_) (fun c44 => ?_)
        · refine s_aload (tb_ok aX7_set_1 5 rfl) rfl ?_
          refine s_ifnull (tb_ok aX7_set_1 6 rfl) ?_
          refine s_aload (tb_ok aX7_set_1 7 rfl) rfl ?_
          refine s_iload_n (tb_ok aX7_set_1 8 rfl) rfl ?_
          refine s_iload_n (tb_ok aX7_set_1 9 rfl) rfl ?_
          refine s_cV (as := [.int (3), .int v]) (tb_ok aX7_set_1 10 rfl) v_RX7_130 (E_Tchange hob _ _) (by decide) hob rfl rfl rfl rfl (Nat.le_of_ble_eq_true rfl) (by decide) (fun r1 S1 I1 L1 R1 q1 => ?_)
          obtain ⟨rfl, rfl, rfl, rfl, rfl⟩ := q1
          refine s_iload (tb_ok aX7_set_1 11 rfl) rfl ?_
          refine s_iret (tb_ok aX7_set_1 12 rfl) rfl ?_
          rw [ex1]
          exact pureR
        · exact absurd c44 (by decide)
      · exact absurd hv.2 c28

set_option maxRecDepth 100000 in
set_option maxHeartbeats 1000000 in
theorem C_setV3 {X : En} {I : FI} {L : FL} {q : Nat × Nat} {m M ri : Nat} {sem : Nat → Sem} (h : CSt I q m M ri sem) {j : Nat} (hj : j < M) {v : Int32} (hv : ¬ (¬ v < 0 ∧ v ≤ 99)) : Ev X 9 mX7_set (0, 0) [.ref 0, .int (3), .int (nI j), .int v] S0 I L (R0 q) (AgLR (some (.int (-2))) I L q) := by
  obtain ⟨hm, hm10, hM, hM5, hri, hq, hs⟩ := id h
  have hj5 : j < 5 := by omega
  have hob : S0[5 + 2 + j]? = some (5, 5) := ((orch5 q).2.2.2.1 j hj5).2
  have h27 : 5 + 2 + j ≠ 27 := (wT j hj5).2
  refine ev_of (by decide +kernel) rfl ?_
  show SW X _ _ _ 0 [some (.ref 0), some (.int (3)), some (.int (nI j)), some (.int v), none, none] [] S0 I L (R0 q) _
  refine s_aload_n (tb_ok aX7_set_0 0 rfl) rfl ?_
  refine s_getR (r := 5) (tb_ok aX7_set_0 1 rfl) f_RX7_19 rfl rfl rfl ?_
  refine s_iload_n (tb_ok aX7_set_0 2 rfl) rfl ?_
  refine s_cVp (as := [.int (nI j)]) (tb_ok aX7_set_0 3 rfl) v_RX7_115 (E_at (orch5 q) hM hM5 hj) (by decide) rfl rfl rfl rfl rfl (Nat.le_of_ble_eq_true rfl) (by decide) ?_
  refine s_astore (ls' := [some (.ref 0), some (.int (3)), some (.int (nI j)), some (.int v), some (.ref (5 + 2 + j)), none]) (tb_ok aX7_set_0 4 rfl) rfl rfl ?_
  refine s_iload_n (tb_ok aX7_set_0 5 rfl) rfl ?_
  refine s_if_eq (tgt := 19) (tb_ok aX7_set_0 6 rfl) (by decide) (fun c11 => ?_) (fun c11 => ?_)
  · exact absurd c11 (by decide)
  · refine s_aload (tb_ok aX7_set_0 7 rfl) rfl ?_
    refine s_ifnull (tb_ok aX7_set_0 8 rfl) ?_
    refine s_iload_n (tb_ok aX7_set_0 9 rfl) rfl ?_
    refine s_if_lt (tgt := 31) (tb_ok aX7_set_0 10 rfl) (by decide) (fun c20 => ?_) (fun c20 => ?_)
    · refine s_bipush (v := -2) (tb_ok aX7_set_0 15 rfl) (by decide) ?_
      refine s_iret (tb_ok aX7_set_0 16 rfl) rfl ?_
      exact ⟨rfl, rfl, AgL.rf, rfl, rfl⟩
    · refine s_iload_n (tb_ok aX7_set_0 11 rfl) rfl ?_
      refine s_iload_n (tb_ok aX7_set_0 12 rfl) rfl ?_
      refine s_cSp (as := [.int (3)]) (tb_ok aX7_set_0 13 rfl) v_RX7_119 (E_greatest _) (by decide) rfl rfl (Nat.le_of_ble_eq_true rfl) ?_
      rw [show grt 3 = 99 from rfl]
      refine s_icmp_le (tgt := 34) (tb_ok aX7_set_0 14 rfl) (by decide) (fun c28 => ?_) (fun c28 => ?_)
      · exact absurd ⟨c20, c28⟩ hv
      · refine s_bipush (v := -2) (tb_ok aX7_set_0 15 rfl) (by decide) ?_
        refine s_iret (tb_ok aX7_set_0 16 rfl) rfl ?_
        exact ⟨rfl, rfl, AgL.rf, rfl, rfl⟩

set_option maxRecDepth 100000 in
set_option maxHeartbeats 1000000 in
theorem C_set4 {X : En} {I : FI} {L : FL} {q : Nat × Nat} {m M ri : Nat} {sem : Nat → Sem} (h : CSt I q m M ri sem) {j : Nat} (hj : j < M) {v : Int32} (hv : ¬ v < 0 ∧ v ≤ 99) : Ev X 9 mX7_set (0, 0) [.ref 0, .int (4), .int (nI j), .int v] S0 I L (R0 q) (PureR (some (.int ((I (5 + 2 + j)) 4))) S0 (setO I (5 + 2 + j) (tChg (I (5 + 2 + j)) 4 v)) L (R0 q)) := by
  obtain ⟨hm, hm10, hM, hM5, hri, hq, hs⟩ := id h
  have hj5 : j < 5 := by omega
  have hob : S0[5 + 2 + j]? = some (5, 5) := ((orch5 q).2.2.2.1 j hj5).2
  have h27 : 5 + 2 + j ≠ 27 := (wT j hj5).2
  refine ev_of (by decide +kernel) rfl ?_
  show SW X _ _ _ 0 [some (.ref 0), some (.int (4)), some (.int (nI j)), some (.int v), none, none] [] S0 I L (R0 q) _
  refine s_aload_n (tb_ok aX7_set_0 0 rfl) rfl ?_
  refine s_getR (r := 5) (tb_ok aX7_set_0 1 rfl) f_RX7_19 rfl rfl rfl ?_
  refine s_iload_n (tb_ok aX7_set_0 2 rfl) rfl ?_
  refine s_cVp (as := [.int (nI j)]) (tb_ok aX7_set_0 3 rfl) v_RX7_115 (E_at (orch5 q) hM hM5 hj) (by decide) rfl rfl rfl rfl rfl (Nat.le_of_ble_eq_true rfl) (by decide) ?_
  refine s_astore (ls' := [some (.ref 0), some (.int (4)), some (.int (nI j)), some (.int v), some (.ref (5 + 2 + j)), none]) (tb_ok aX7_set_0 4 rfl) rfl rfl ?_
  refine s_iload_n (tb_ok aX7_set_0 5 rfl) rfl ?_
  refine s_if_eq (tgt := 19) (tb_ok aX7_set_0 6 rfl) (by decide) (fun c11 => ?_) (fun c11 => ?_)
  · exact absurd c11 (by decide)
  · refine s_aload (tb_ok aX7_set_0 7 rfl) rfl ?_
    refine s_ifnull (tb_ok aX7_set_0 8 rfl) ?_
    refine s_iload_n (tb_ok aX7_set_0 9 rfl) rfl ?_
    refine s_if_lt (tgt := 31) (tb_ok aX7_set_0 10 rfl) (by decide) (fun c20 => ?_) (fun c20 => ?_)
    · exact absurd c20 hv.1
    · refine s_iload_n (tb_ok aX7_set_0 11 rfl) rfl ?_
      refine s_iload_n (tb_ok aX7_set_0 12 rfl) rfl ?_
      refine s_cSp (as := [.int (4)]) (tb_ok aX7_set_0 13 rfl) v_RX7_119 (E_greatest _) (by decide) rfl rfl (Nat.le_of_ble_eq_true rfl) ?_
      rw [show grt 4 = 99 from rfl]
      refine s_icmp_le (tgt := 34) (tb_ok aX7_set_0 14 rfl) (by decide) (fun c28 => ?_) (fun c28 => ?_)
      · refine s_aload_n (tb_ok aX7_set_0 17 rfl) rfl ?_
        refine s_aload (tb_ok aX7_set_0 18 rfl) rfl ?_
        refine s_iload_n (tb_ok aX7_set_0 19 rfl) rfl ?_
        refine s_cVp (as := [.ref (5 + 2 + j), .int (4)]) (tb_ok aX7_set_0 20 rfl) v_RX7_123 (E_tellOf hob _) (by decide) rfl rfl rfl rfl rfl (Nat.le_of_ble_eq_true rfl) (by decide) ?_
        refine s_name (fun x1 ex1 => ?_)
        refine s_istore (ls' := [some (.ref 0), some (.int (4)), some (.int (nI j)), some (.int v), some (.ref (5 + 2 + j)), some (.int x1)]) (tb_ok aX7_set_0 21 rfl) rfl rfl ?_
        refine s_iload_n (tb_ok aX7_set_0 22 rfl) rfl ?_
        refine s_if_ne (tgt := 58) (tb_ok aX7_set_0 23 rfl) (by decide) (fun c44 => ?_) (fun c44 => ?_)
        · refine s_aload (tb_ok aX7_set_1 5 rfl) rfl ?_
          refine s_ifnull (tb_ok aX7_set_1 6 rfl) ?_
          refine s_aload (tb_ok aX7_set_1 7 rfl) rfl ?_
          refine s_iload_n (tb_ok aX7_set_1 8 rfl) rfl ?_
          refine s_iload_n (tb_ok aX7_set_1 9 rfl) rfl ?_
          refine s_cV (as := [.int (4), .int v]) (tb_ok aX7_set_1 10 rfl) v_RX7_130 (E_Tchange hob _ _) (by decide) hob rfl rfl rfl rfl (Nat.le_of_ble_eq_true rfl) (by decide) (fun r1 S1 I1 L1 R1 q1 => ?_)
          obtain ⟨rfl, rfl, rfl, rfl, rfl⟩ := q1
          refine s_iload (tb_ok aX7_set_1 11 rfl) rfl ?_
          refine s_iret (tb_ok aX7_set_1 12 rfl) rfl ?_
          rw [ex1]
          exact pureR
        · exact absurd c44 (by decide)
      · exact absurd hv.2 c28

set_option maxRecDepth 100000 in
set_option maxHeartbeats 1000000 in
theorem C_setV4 {X : En} {I : FI} {L : FL} {q : Nat × Nat} {m M ri : Nat} {sem : Nat → Sem} (h : CSt I q m M ri sem) {j : Nat} (hj : j < M) {v : Int32} (hv : ¬ (¬ v < 0 ∧ v ≤ 99)) : Ev X 9 mX7_set (0, 0) [.ref 0, .int (4), .int (nI j), .int v] S0 I L (R0 q) (AgLR (some (.int (-2))) I L q) := by
  obtain ⟨hm, hm10, hM, hM5, hri, hq, hs⟩ := id h
  have hj5 : j < 5 := by omega
  have hob : S0[5 + 2 + j]? = some (5, 5) := ((orch5 q).2.2.2.1 j hj5).2
  have h27 : 5 + 2 + j ≠ 27 := (wT j hj5).2
  refine ev_of (by decide +kernel) rfl ?_
  show SW X _ _ _ 0 [some (.ref 0), some (.int (4)), some (.int (nI j)), some (.int v), none, none] [] S0 I L (R0 q) _
  refine s_aload_n (tb_ok aX7_set_0 0 rfl) rfl ?_
  refine s_getR (r := 5) (tb_ok aX7_set_0 1 rfl) f_RX7_19 rfl rfl rfl ?_
  refine s_iload_n (tb_ok aX7_set_0 2 rfl) rfl ?_
  refine s_cVp (as := [.int (nI j)]) (tb_ok aX7_set_0 3 rfl) v_RX7_115 (E_at (orch5 q) hM hM5 hj) (by decide) rfl rfl rfl rfl rfl (Nat.le_of_ble_eq_true rfl) (by decide) ?_
  refine s_astore (ls' := [some (.ref 0), some (.int (4)), some (.int (nI j)), some (.int v), some (.ref (5 + 2 + j)), none]) (tb_ok aX7_set_0 4 rfl) rfl rfl ?_
  refine s_iload_n (tb_ok aX7_set_0 5 rfl) rfl ?_
  refine s_if_eq (tgt := 19) (tb_ok aX7_set_0 6 rfl) (by decide) (fun c11 => ?_) (fun c11 => ?_)
  · exact absurd c11 (by decide)
  · refine s_aload (tb_ok aX7_set_0 7 rfl) rfl ?_
    refine s_ifnull (tb_ok aX7_set_0 8 rfl) ?_
    refine s_iload_n (tb_ok aX7_set_0 9 rfl) rfl ?_
    refine s_if_lt (tgt := 31) (tb_ok aX7_set_0 10 rfl) (by decide) (fun c20 => ?_) (fun c20 => ?_)
    · refine s_bipush (v := -2) (tb_ok aX7_set_0 15 rfl) (by decide) ?_
      refine s_iret (tb_ok aX7_set_0 16 rfl) rfl ?_
      exact ⟨rfl, rfl, AgL.rf, rfl, rfl⟩
    · refine s_iload_n (tb_ok aX7_set_0 11 rfl) rfl ?_
      refine s_iload_n (tb_ok aX7_set_0 12 rfl) rfl ?_
      refine s_cSp (as := [.int (4)]) (tb_ok aX7_set_0 13 rfl) v_RX7_119 (E_greatest _) (by decide) rfl rfl (Nat.le_of_ble_eq_true rfl) ?_
      rw [show grt 4 = 99 from rfl]
      refine s_icmp_le (tgt := 34) (tb_ok aX7_set_0 14 rfl) (by decide) (fun c28 => ?_) (fun c28 => ?_)
      · exact absurd ⟨c20, c28⟩ hv
      · refine s_bipush (v := -2) (tb_ok aX7_set_0 15 rfl) (by decide) ?_
        refine s_iret (tb_ok aX7_set_0 16 rfl) rfl ?_
        exact ⟨rfl, rfl, AgL.rf, rfl, rfl⟩

set_option maxRecDepth 100000 in
set_option maxHeartbeats 1000000 in
theorem C_setN {X : En} {I : FI} {L : FL} {q : Nat × Nat} {m M ri : Nat} {sem : Nat → Sem} (h : CSt I q m M ri sem) {x : Int32} (hx : x < 0 ∨ nI M ≤ x) {w v : Int32} (hw : ¬ w = 0) : Ev X 9 mX7_set (0, 0) [.ref 0, .int w, .int x, .int v] S0 I L (R0 q) (AgLR (some (.int (-2))) I L q) := by
  obtain ⟨hm, hm10, hM, hM5, hri, hq, hs⟩ := id h
  refine ev_of (by decide +kernel) rfl ?_
  show SW X _ _ _ 0 [some (.ref 0), some (.int w), some (.int x), some (.int v), none, none] [] S0 I L (R0 q) _
  refine s_aload_n (tb_ok aX7_set_0 0 rfl) rfl ?_
  refine s_getR (r := 5) (tb_ok aX7_set_0 1 rfl) f_RX7_19 rfl rfl rfl ?_
  refine s_iload_n (tb_ok aX7_set_0 2 rfl) rfl ?_
  refine s_cVp (as := [.int x]) (tb_ok aX7_set_0 3 rfl) v_RX7_115 (E_atN (orch5 q) hM hM5 hx) (by decide) rfl rfl rfl rfl rfl (Nat.le_of_ble_eq_true rfl) (by decide) ?_
  refine s_astoreN (ls' := [some (.ref 0), some (.int w), some (.int x), some (.int v), some (.null), none]) (tb_ok aX7_set_0 4 rfl) rfl rfl ?_
  refine s_iload_n (tb_ok aX7_set_0 5 rfl) rfl ?_
  refine s_if_eq (tgt := 19) (tb_ok aX7_set_0 6 rfl) (by decide) (fun c11 => ?_) (fun c11 => ?_)
  · exact absurd c11 hw
  · refine s_aloadq (r := none) (tb_ok aX7_set_0 7 rfl) rfl ?_
    refine s_ifnullN (tgt := 31) (tb_ok aX7_set_0 8 rfl) (by decide) ?_
    refine s_bipush (v := -2) (tb_ok aX7_set_0 15 rfl) (by decide) ?_
    refine s_iret (tb_ok aX7_set_0 16 rfl) rfl ?_
    exact ⟨rfl, rfl, AgL.rf, rfl, rfl⟩

theorem grt_o {w : Int32} (h : w < 0 ∨ 4 < w) : grt w = -1 := by
  unfold grt
  have key : ∀ a : Int32, (a = 0 ∨ a = 1 ∨ a = 2 ∨ a = 3 ∨ a = 4) → ¬ w = a := by
    intro a ha e
    subst e
    rcases ha with e | e | e | e | e <;> subst e <;> exact absurd h (by decide)
  rw [if_neg (key 0 (by simp)), if_neg (key 1 (by simp)), if_neg (key 2 (by simp)), if_neg (key 3 (by simp)), if_neg (key 4 (by simp))]
set_option maxRecDepth 100000 in
set_option maxHeartbeats 1000000 in
theorem C_setW {X : En} {I : FI} {L : FL} {q : Nat × Nat} {m M ri : Nat} {sem : Nat → Sem} (h : CSt I q m M ri sem) {j : Nat} (hj : j < M) {w v : Int32} (hw : w < 0 ∨ 4 < w) : Ev X 9 mX7_set (0, 0) [.ref 0, .int w, .int (nI j), .int v] S0 I L (R0 q) (AgLR (some (.int (-2))) I L q) := by
  obtain ⟨hm, hm10, hM, hM5, hri, hq, hs⟩ := id h
  have hj5 : j < 5 := by omega
  have hob : S0[5 + 2 + j]? = some (5, 5) := ((orch5 q).2.2.2.1 j hj5).2
  have h27 : 5 + 2 + j ≠ 27 := (wT j hj5).2
  refine ev_of (by decide +kernel) rfl ?_
  show SW X _ _ _ 0 [some (.ref 0), some (.int w), some (.int (nI j)), some (.int v), none, none] [] S0 I L (R0 q) _
  refine s_aload_n (tb_ok aX7_set_0 0 rfl) rfl ?_
  refine s_getR (r := 5) (tb_ok aX7_set_0 1 rfl) f_RX7_19 rfl rfl rfl ?_
  refine s_iload_n (tb_ok aX7_set_0 2 rfl) rfl ?_
  refine s_cVp (as := [.int (nI j)]) (tb_ok aX7_set_0 3 rfl) v_RX7_115 (E_at (orch5 q) hM hM5 hj) (by decide) rfl rfl rfl rfl rfl (Nat.le_of_ble_eq_true rfl) (by decide) ?_
  refine s_astore (ls' := [some (.ref 0), some (.int w), some (.int (nI j)), some (.int v), some (.ref (5 + 2 + j)), none]) (tb_ok aX7_set_0 4 rfl) rfl rfl ?_
  refine s_iload_n (tb_ok aX7_set_0 5 rfl) rfl ?_
  refine s_if_eq (tgt := 19) (tb_ok aX7_set_0 6 rfl) (by decide) (fun c11 => ?_) (fun c11 => ?_)
  · refine s_iload_n (tb_ok aX7_set_0 9 rfl) rfl ?_
    refine s_if_lt (tgt := 31) (tb_ok aX7_set_0 10 rfl) (by decide) (fun c20 => ?_) (fun c20 => ?_)
    · refine s_bipush (v := -2) (tb_ok aX7_set_0 15 rfl) (by decide) ?_
      refine s_iret (tb_ok aX7_set_0 16 rfl) rfl ?_
      exact ⟨rfl, rfl, AgL.rf, rfl, rfl⟩
    · refine s_iload_n (tb_ok aX7_set_0 11 rfl) rfl ?_
      refine s_iload_n (tb_ok aX7_set_0 12 rfl) rfl ?_
      refine s_cSp (as := [.int w]) (tb_ok aX7_set_0 13 rfl) v_RX7_119 (E_greatest _) (by decide) rfl rfl (Nat.le_of_ble_eq_true rfl) ?_
      rw [grt_o hw]
      refine s_icmp_le (tgt := 34) (tb_ok aX7_set_0 14 rfl) (by decide) (fun c28 => ?_) (fun c28 => ?_)
      · exact absurd (Int32.lt_of_le_of_lt c28 (by decide)) c20
      · refine s_bipush (v := -2) (tb_ok aX7_set_0 15 rfl) (by decide) ?_
        refine s_iret (tb_ok aX7_set_0 16 rfl) rfl ?_
        exact ⟨rfl, rfl, AgL.rf, rfl, rfl⟩
  · refine s_aload (tb_ok aX7_set_0 7 rfl) rfl ?_
    refine s_ifnull (tb_ok aX7_set_0 8 rfl) ?_
    refine s_iload_n (tb_ok aX7_set_0 9 rfl) rfl ?_
    refine s_if_lt (tgt := 31) (tb_ok aX7_set_0 10 rfl) (by decide) (fun c20 => ?_) (fun c20 => ?_)
    · refine s_bipush (v := -2) (tb_ok aX7_set_0 15 rfl) (by decide) ?_
      refine s_iret (tb_ok aX7_set_0 16 rfl) rfl ?_
      exact ⟨rfl, rfl, AgL.rf, rfl, rfl⟩
    · refine s_iload_n (tb_ok aX7_set_0 11 rfl) rfl ?_
      refine s_iload_n (tb_ok aX7_set_0 12 rfl) rfl ?_
      refine s_cSp (as := [.int w]) (tb_ok aX7_set_0 13 rfl) v_RX7_119 (E_greatest _) (by decide) rfl rfl (Nat.le_of_ble_eq_true rfl) ?_
      rw [grt_o hw]
      refine s_icmp_le (tgt := 34) (tb_ok aX7_set_0 14 rfl) (by decide) (fun c28 => ?_) (fun c28 => ?_)
      · exact absurd (Int32.lt_of_le_of_lt c28 (by decide)) c20
      · refine s_bipush (v := -2) (tb_ok aX7_set_0 15 rfl) (by decide) ?_
        refine s_iret (tb_ok aX7_set_0 16 rfl) rfl ?_
        exact ⟨rfl, rfl, AgL.rf, rfl, rfl⟩

set_option maxRecDepth 100000 in
set_option maxHeartbeats 1000000 in
theorem C_house {X : En} {I : FI} {L : FL} {q : Nat × Nat} {m M ri : Nat} {sem : Nat → Sem} (h : CSt I q m M ri sem) {x w : Int32} (hv : (¬ x < 0 ∧ x < 6 ∧ ¬ w < 0 ∧ w < 10)) (hM4 : M < 5) : Ev X 9 mX7_house (0, 0) [.ref 0, .int x, .int w] S0 I L (R0 q) (PureR (some (.int (nI M))) S0 (setO (up2 I 5 1 (nI (M + 1))) (5 + 2 + M) (cp5 (mkT x w 0 50 0) ((up2 I 5 1 (nI (M + 1))) (5 + 2 + M)))) L (R0 q)) := by
  obtain ⟨hm, hm10, hM, hM5, hri, hq, hs⟩ := id h
  refine ev_of (by decide +kernel) rfl ?_
  show SW X _ _ _ 0 [some (.ref 0), some (.int x), some (.int w)] [] S0 I L (R0 q) _
  refine s_iload_n (tb_ok aX7_house_0 0 rfl) rfl ?_
  refine s_iload_n (tb_ok aX7_house_0 1 rfl) rfl ?_
  refine s_cSp (as := [.int x, .int w]) (tb_ok aX7_house_0 2 rfl) v_RX7_134 (E_isHouse _ _) (by decide) rfl rfl (Nat.le_of_ble_eq_true rfl) ?_
  refine s_topi (bI_t hv) ?_
  refine s_if_ne (tgt := 11) (tb_ok aX7_house_0 3 rfl) (by decide) (fun c5 => ?_) (fun c5 => ?_)
  · refine s_aload_n (tb_ok aX7_house_0 6 rfl) rfl ?_
    refine s_getR (r := 5) (tb_ok aX7_house_0 7 rfl) f_RX7_19 rfl rfl rfl ?_
    refine s_iload_n (tb_ok aX7_house_0 8 rfl) rfl ?_
    refine s_iload_n (tb_ok aX7_house_0 9 rfl) rfl ?_
    refine s_cV (as := [.int x, .int w]) (tb_ok aX7_house_0 10 rfl) v_RX7_138 (E_Oadd (orch5 q) hM hM4 _ _) (by decide) rfl rfl rfl rfl rfl (Nat.le_of_ble_eq_true rfl) (by decide) (fun r1 S1 I1 L1 R1 q1 => ?_)
    obtain ⟨rfl, rfl, rfl, rfl, rfl⟩ := q1
    refine s_iret (tb_ok aX7_house_0 11 rfl) rfl ?_
    exact pureR
  · exact absurd c5 (by decide)

set_option maxRecDepth 100000 in
set_option maxHeartbeats 1000000 in
theorem C_houseF {X : En} {I : FI} {L : FL} {q : Nat × Nat} {m M ri : Nat} {sem : Nat → Sem} (h : CSt I q m M ri sem) {x w : Int32} (hv : (¬ x < 0 ∧ x < 6 ∧ ¬ w < 0 ∧ w < 10)) (hM4 : M = 5) : Ev X 9 mX7_house (0, 0) [.ref 0, .int x, .int w] S0 I L (R0 q) (AgLR (some (.int (-4))) I L q) := by
  subst hM4
  obtain ⟨hm, hm10, hM, hM5, hri, hq, hs⟩ := id h
  refine ev_of (by decide +kernel) rfl ?_
  show SW X _ _ _ 0 [some (.ref 0), some (.int x), some (.int w)] [] S0 I L (R0 q) _
  refine s_iload_n (tb_ok aX7_house_0 0 rfl) rfl ?_
  refine s_iload_n (tb_ok aX7_house_0 1 rfl) rfl ?_
  refine s_cSp (as := [.int x, .int w]) (tb_ok aX7_house_0 2 rfl) v_RX7_134 (E_isHouse _ _) (by decide) rfl rfl (Nat.le_of_ble_eq_true rfl) ?_
  refine s_topi (bI_t hv) ?_
  refine s_if_ne (tgt := 11) (tb_ok aX7_house_0 3 rfl) (by decide) (fun c5 => ?_) (fun c5 => ?_)
  · refine s_aload_n (tb_ok aX7_house_0 6 rfl) rfl ?_
    refine s_getR (r := 5) (tb_ok aX7_house_0 7 rfl) f_RX7_19 rfl rfl rfl ?_
    refine s_iload_n (tb_ok aX7_house_0 8 rfl) rfl ?_
    refine s_iload_n (tb_ok aX7_house_0 9 rfl) rfl ?_
    refine s_cVp (as := [.int x, .int w]) (tb_ok aX7_house_0 10 rfl) v_RX7_138 (E_OaddF (orch5 q) hM _ _) (by decide) rfl rfl rfl rfl rfl (Nat.le_of_ble_eq_true rfl) (by decide) ?_
    refine s_iret (tb_ok aX7_house_0 11 rfl) rfl ?_
    exact ⟨rfl, rfl, AgL.rf, rfl, rfl⟩
  · exact absurd c5 (by decide)

set_option maxRecDepth 100000 in
set_option maxHeartbeats 1000000 in
theorem C_houseB {X : En} {I : FI} {L : FL} {q : Nat × Nat} {x w : Int32} (hv : ¬ (¬ x < 0 ∧ x < 6 ∧ ¬ w < 0 ∧ w < 10)) : Ev X 9 mX7_house (0, 0) [.ref 0, .int x, .int w] S0 I L (R0 q) (AgLR (some (.int (-2))) I L q) := by
  refine ev_of (by decide +kernel) rfl ?_
  show SW X _ _ _ 0 [some (.ref 0), some (.int x), some (.int w)] [] S0 I L (R0 q) _
  refine s_iload_n (tb_ok aX7_house_0 0 rfl) rfl ?_
  refine s_iload_n (tb_ok aX7_house_0 1 rfl) rfl ?_
  refine s_cSp (as := [.int x, .int w]) (tb_ok aX7_house_0 2 rfl) v_RX7_134 (E_isHouse _ _) (by decide) rfl rfl (Nat.le_of_ble_eq_true rfl) ?_
  refine s_if_ne (tgt := 11) (tb_ok aX7_house_0 3 rfl) (by decide) (fun c5 => ?_) (fun c5 => ?_)
  · exact absurd (bI_n c5) hv
  · refine s_bipush (v := -2) (tb_ok aX7_house_0 4 rfl) (by decide) ?_
    refine s_iret (tb_ok aX7_house_0 5 rfl) rfl ?_
    exact ⟨rfl, rfl, AgL.rf, rfl, rfl⟩

theorem isRd (q : Nat × Nat) {i : Nat} (h : i < 6) : isRead S0 (R0 (q.1, ruleN i)) (ruleN i) := by
  have e : isRule S0 (R0 (q.1, ruleN i)) (ruleN i) := rule0 _ h
  exact ⟨rfl, rfl, rfl, rfl, e, by unfold ruleN; omega⟩
set_option maxRecDepth 100000 in
set_option maxHeartbeats 1000000 in
theorem C_feed {X : En} {I : FI} {L : FL} {q : Nat × Nat} {i : Nat} (hi : i < 6) (hq2 : q.2 = ruleN i) {x : Int32} (hx : ¬ x < 0 ∧ x ≤ 255) {n : Nat} (hn : I 62 1 = nI n) (hn2 : n < 160) : Ev X 9 mX7_feed (0, 0) [.ref 0, .int x] S0 I L (R0 q) (PureR (some (.int (nI (n + 1)))) S0 (up2 (up2 I 63 n x) 62 1 (nI (n + 1))) L (R0 q)) := by
  have hrd : isRead S0 (R0 q) (ruleN i) := by rw [show q = (q.1, ruleN i) from by rw [← hq2]]; exact isRd q hi
  refine ev_of (by decide +kernel) rfl ?_
  show SW X _ _ _ 0 [some (.ref 0), some (.int x)] [] S0 I L (R0 q) _
  refine s_iload_n (tb_ok aX7_feed_0 0 rfl) rfl ?_
  refine s_if_lt (tgt := 11) (tb_ok aX7_feed_0 1 rfl) (by decide) (fun c1 => ?_) (fun c1 => ?_)
  · exact absurd c1 hx.1
  · refine s_iload_n (tb_ok aX7_feed_0 2 rfl) rfl ?_
    refine s_sipush (v := 255) (tb_ok aX7_feed_0 3 rfl) (by decide) ?_
    refine s_icmp_le (tgt := 14) (tb_ok aX7_feed_0 4 rfl) (by decide) (fun c8 => ?_) (fun c8 => ?_)
    · refine s_aload_n (tb_ok aX7_feed_0 7 rfl) rfl ?_
      refine s_getR (r := 62) (tb_ok aX7_feed_0 8 rfl) f_RX7_69 rfl rfl rfl ?_
      refine s_iload_n (tb_ok aX7_feed_0 9 rfl) rfl ?_
      refine s_cV (as := [.int x]) (tb_ok aX7_feed_0 10 rfl) v_RX7_85 (E_put hrd hn hn2 _) (by decide) rfl rfl rfl rfl rfl (Nat.le_of_ble_eq_true rfl) (by decide) (fun r1 S1 I1 L1 R1 q1 => ?_)
      obtain ⟨rfl, rfl, rfl, rfl, rfl⟩ := q1
      refine s_if_eq (tgt := 35) (tb_ok aX7_feed_0 11 rfl) (by decide) (fun c22 => ?_) (fun c22 => ?_)
      · exact absurd c22 (by decide)
      · refine s_aload_n (tb_ok aX7_feed_0 12 rfl) rfl ?_
        refine s_getR (r := 62) (tb_ok aX7_feed_0 13 rfl) f_RX7_69 rfl rfl rfl ?_
        refine s_getI (tb_ok aX7_feed_0 14 rfl) f_RX7_165 rfl rfl rfl ?_
        refine s_goto (tgt := 37) (tb_ok aX7_feed_0 15 rfl) (by decide) ?_
        refine s_iret (tb_ok aX7_feed_0 17 rfl) rfl ?_
        exact pureR
    · exact absurd hx.2 c8

set_option maxRecDepth 100000 in
set_option maxHeartbeats 1000000 in
theorem C_feedF {X : En} {I : FI} {L : FL} {q : Nat × Nat} {i : Nat} (hi : i < 6) (hq2 : q.2 = ruleN i) {x : Int32} (hx : ¬ x < 0 ∧ x ≤ 255) (hn : I 62 1 = nI 160) : Ev X 9 mX7_feed (0, 0) [.ref 0, .int x] S0 I L (R0 q) (AgLR (some (.int (-4))) I L q) := by
  have hrd : isRead S0 (R0 q) (ruleN i) := by rw [show q = (q.1, ruleN i) from by rw [← hq2]]; exact isRd q hi
  refine ev_of (by decide +kernel) rfl ?_
  show SW X _ _ _ 0 [some (.ref 0), some (.int x)] [] S0 I L (R0 q) _
  refine s_iload_n (tb_ok aX7_feed_0 0 rfl) rfl ?_
  refine s_if_lt (tgt := 11) (tb_ok aX7_feed_0 1 rfl) (by decide) (fun c1 => ?_) (fun c1 => ?_)
  · exact absurd c1 hx.1
  · refine s_iload_n (tb_ok aX7_feed_0 2 rfl) rfl ?_
    refine s_sipush (v := 255) (tb_ok aX7_feed_0 3 rfl) (by decide) ?_
    refine s_icmp_le (tgt := 14) (tb_ok aX7_feed_0 4 rfl) (by decide) (fun c8 => ?_) (fun c8 => ?_)
    · refine s_aload_n (tb_ok aX7_feed_0 7 rfl) rfl ?_
      refine s_getR (r := 62) (tb_ok aX7_feed_0 8 rfl) f_RX7_69 rfl rfl rfl ?_
      refine s_iload_n (tb_ok aX7_feed_0 9 rfl) rfl ?_
      refine s_cVp (as := [.int x]) (tb_ok aX7_feed_0 10 rfl) v_RX7_85 (E_putF hrd hn _) (by decide) rfl rfl rfl rfl rfl (Nat.le_of_ble_eq_true rfl) (by decide) ?_
      refine s_if_eq (tgt := 35) (tb_ok aX7_feed_0 11 rfl) (by decide) (fun c22 => ?_) (fun c22 => ?_)
      · refine s_bipush (v := -4) (tb_ok aX7_feed_0 16 rfl) (by decide) ?_
        refine s_iret (tb_ok aX7_feed_0 17 rfl) rfl ?_
        exact ⟨rfl, rfl, AgL.rf, rfl, rfl⟩
      · exact absurd c22 (by decide)
    · exact absurd hx.2 c8

set_option maxRecDepth 100000 in
set_option maxHeartbeats 1000000 in
theorem C_feedB {X : En} {I : FI} {L : FL} {q : Nat × Nat} {x : Int32} (hx : ¬ (¬ x < 0 ∧ x ≤ 255)) : Ev X 9 mX7_feed (0, 0) [.ref 0, .int x] S0 I L (R0 q) (AgLR (some (.int (-2))) I L q) := by
  refine ev_of (by decide +kernel) rfl ?_
  show SW X _ _ _ 0 [some (.ref 0), some (.int x)] [] S0 I L (R0 q) _
  refine s_iload_n (tb_ok aX7_feed_0 0 rfl) rfl ?_
  refine s_if_lt (tgt := 11) (tb_ok aX7_feed_0 1 rfl) (by decide) (fun c1 => ?_) (fun c1 => ?_)
  · refine s_bipush (v := -2) (tb_ok aX7_feed_0 5 rfl) (by decide) ?_
    refine s_iret (tb_ok aX7_feed_0 6 rfl) rfl ?_
    exact ⟨rfl, rfl, AgL.rf, rfl, rfl⟩
  · refine s_iload_n (tb_ok aX7_feed_0 2 rfl) rfl ?_
    refine s_sipush (v := 255) (tb_ok aX7_feed_0 3 rfl) (by decide) ?_
    refine s_icmp_le (tgt := 14) (tb_ok aX7_feed_0 4 rfl) (by decide) (fun c8 => ?_) (fun c8 => ?_)
    · exact absurd ⟨c1, c8⟩ hx
    · refine s_bipush (v := -2) (tb_ok aX7_feed_0 5 rfl) (by decide) ?_
      refine s_iret (tb_ok aX7_feed_0 6 rfl) rfl ?_
      exact ⟨rfl, rfl, AgL.rf, rfl, rfl⟩
