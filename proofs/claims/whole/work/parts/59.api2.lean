/-! drawn baskets look at the houses there are -/
theorem drS_c {sem : Nat → (Nat → Int32) → Int32} {fr fa : Nat → Int32} {m M : Nat} {day : Int32} {T T' : Nat → Nat → Int32} {seed : Int32} (h : ∀ j, j < M → T j = T' j) : ∀ k, (drS sem fr fa m M day T seed k).1 = (drS sem fr fa m M day T' seed k).1 ∧ ∀ j, j < M → (drS sem fr fa m M day T seed k).2 j = (drS sem fr fa m M day T' seed k).2 j := by
  intro k
  induction k with
  | zero => exact ⟨rfl, h⟩
  | succ k ih =>
    obtain ⟨h1, h2⟩ := ih
    refine ⟨?_, fun j hj => ?_⟩
    · show drZ _ = drZ _
      rw [h1]
    · show pasP sem fr fa m (if j = _ then heaP sem fr fa m _ _ _ else _) _ = pasP sem fr fa m (if j = _ then heaP sem fr fa m _ _ _ else _) _
      rw [h1, h2 j hj]
theorem drw_c {sem : Nat → (Nat → Int32) → Int32} {fr fa : Nat → Int32} {m M : Nat} {day : Int32} {T T' : Nat → Nat → Int32} {seed : Int32} (h : ∀ j, j < M → T j = T' j) (hM : M ≤ 5) : drwP sem fr fa m M day T seed = drwP sem fr fa m M day T' seed := by
  unfold drwP
  rw [apS_congr (fun j hj => congrFun (h j hj) 3) 5, apS_congr (fun j hj => congrFun ((drS_c (sem := sem) (fr := fr) (fa := fa) (m := m) (day := day) (seed := seed) h 10).2 j hj) 3) 5]
/-! the class: the best, whom, the chance, what was told -/
theorem e_v {I J : FI} (hA : AgV I J) {j : Nat} (hj : j < 5) : J 2 = I 2 ∧ J 3 = I 3 ∧ J 5 = I 5 ∧ J (5 + 2 + j) = I (5 + 2 + j) := ⟨hA 2 (by decide), hA 3 (by decide), hA 5 (by decide), hA _ (wT j hj).1⟩
theorem C_wl {X : En} {I J : FI} {L : FL} {q : Nat × Nat} {m M ri : Nat} {sem : Nat → Sem} (h : CSt I q m M ri sem) (hA : AgV I J) {j : Nat} (hj : j < 5) (g : Int32) : Ev X 4 mX6_wouldLearn (0, 0) [.ref 64, .ref (5 + 2 + j), .int g, .int (J 5 2)] S0 J L (R0 q) (AgVR (some (.int (wlI sem (I 2) (I 3) m (I (5 + 2 + j)) g (I 5 2)))) J L q) := by
  obtain ⟨hm, hm10, hM, hM5, hri, hq, hs⟩ := h.v hA
  obtain ⟨e2, e3, e5, eT⟩ := e_v hA hj
  have e := E_wouldLearn (X := X) (L := L) hm hm10 hri hq hs (((orch5 q).2.2.2.1 j hj).2) g (J 5 2)
  rw [e2, e3, eT, e5] at e
  rw [e5]
  exact ev_mono e (fun r S' I' L' R' z => ⟨z.1, z.2.1, z.2.2.1.v, z.2.2.2⟩)
theorem C_bsk {X : En} {I J : FI} {L : FL} {q : Nat × Nat} {m M ri : Nat} {sem : Nat → Sem} (h : CSt I q m M ri sem) (hA : AgV I J) {j : Nat} (hj : j < 5) (more : Int32) {n : Nat} (hn : n ≤ 40) : Ev X 7 mX7_basketBehind (0, 0) [.ref 0, .ref (5 + 2 + j), .int more, .int (nI n)] S0 J L (R0 q) (AgVR (some (.int (bskP sem (I 2) (I 3) m (I 5 2) (I (5 + 2 + j)) more n))) J L q) := by
  obtain ⟨hm, hm10, hM, hM5, hri, hq, hs⟩ := h.v hA
  obtain ⟨e2, e3, e5, eT⟩ := e_v hA hj
  have e := E_basketBehind (X := X) (L := L) hm hm10 hri hq hs (((orch5 q).2.2.2.1 j hj).2) (wT j hj).2 more hn
  rw [e2, e3, eT, e5] at e
  exact e
theorem C_dr {X : En} {I J : FI} {L : FL} {q : Nat × Nat} {m M ri : Nat} {sem : Nat → Sem} (h : CSt I q m M ri sem) (hA : AgV I J) (seed : Int32) : Ev X 7 mX7_basketsDrawn (0, 0) [.ref 0, .int seed] S0 J L (R0 q) (AgVR (some (.int (drwP sem (I 2) (I 3) m M (I 5 2) (fun j => I (5 + 2 + j)) seed))) J L q) := by
  obtain ⟨hm, hm10, hM, hM5, hri, hq, hs⟩ := h.v hA
  have e := E_basketsDrawn (X := X) (L := L) hM hM5 hm hm10 hri hq hs seed
  obtain ⟨e2, e3, e5, _⟩ := e_v hA (j := 0) (by decide)
  rw [e2, e3, e5, show drwP sem (I 2) (I 3) m M (I 5 2) (fun j => J (5 + 2 + j)) seed = drwP sem (I 2) (I 3) m M (I 5 2) (fun j => I (5 + 2 + j)) seed from drw_c (fun j hj => (e_v hA (Nat.lt_of_lt_of_le hj hM5)).2.2.2) hM5] at e
  exact e
set_option maxRecDepth 100000 in
set_option maxHeartbeats 1000000 in
theorem C_best0 {X : En} {I : FI} {L : FL} {q : Nat × Nat} {m M ri : Nat} {sem : Nat → Sem} (h : CSt I q m M ri sem) {j : Nat} (hj : j < M) {n : Nat} (hn : n ≤ 40) : Ev X 9 mX7_best (0, 0) [.ref 0, .int (nI j), .int (nI n), .int (0)] S0 I L (R0 q) (AgLR (some (.int (mxS (fun k => wlI sem (I 2) (I 3) m (I (5 + 2 + j)) (nI k) (I 5 2)) (fun k => bskP sem (I 2) (I 3) m (I 5 2) (I (5 + 2 + j)) ((1 : Int32) <<< (nI k &&& 31)) n) (bskP sem (I 2) (I 3) m (I 5 2) (I (5 + 2 + j)) 0 n) 12).1)) I L q) := by
  obtain ⟨hm, hm10, hM, hM5, hri, hq, hs⟩ := id h
  have hj5 : j < 5 := by omega
  have hob : S0[5 + 2 + j]? = some (5, 5) := ((orch5 q).2.2.2.1 j hj5).2
  have h27 : 5 + 2 + j ≠ 27 := (wT j hj5).2
  have loop : ∀ k, k ≤ 12 → ∀ (J : FI), ∀ (o8 : Option Value), (AgV I J) → SW X 9 mX7_best (0, 0) 50 [some (.ref 0), some (.int (nI j)), some (.int (nI n)), some (.int (0)), some (.ref (5 + 2 + j)), some (.int (mxS (fun k => wlI sem (I 2) (I 3) m (I (5 + 2 + j)) (nI k) (I 5 2)) (fun k => bskP sem (I 2) (I 3) m (I 5 2) (I (5 + 2 + j)) ((1 : Int32) <<< (nI k &&& 31)) n) (bskP sem (I 2) (I 3) m (I 5 2) (I (5 + 2 + j)) 0 n) k).2), some (.int (mxS (fun k => wlI sem (I 2) (I 3) m (I (5 + 2 + j)) (nI k) (I 5 2)) (fun k => bskP sem (I 2) (I 3) m (I 5 2) (I (5 + 2 + j)) ((1 : Int32) <<< (nI k &&& 31)) n) (bskP sem (I 2) (I 3) m (I 5 2) (I (5 + 2 + j)) 0 n) k).1), some (.int (nI k)), o8] [] S0 J L (R0 q) (KQ X (AgLR (some (.int (mxS (fun k => wlI sem (I 2) (I 3) m (I (5 + 2 + j)) (nI k) (I 5 2)) (fun k => bskP sem (I 2) (I 3) m (I 5 2) (I (5 + 2 + j)) ((1 : Int32) <<< (nI k &&& 31)) n) (bskP sem (I 2) (I 3) m (I 5 2) (I (5 + 2 + j)) 0 n) 12).1)) I L q)) := by
    refine for_up (P := fun k => ∀ (J : FI), ∀ (o8 : Option Value), (AgV I J) → SW X 9 mX7_best (0, 0) 50 [some (.ref 0), some (.int (nI j)), some (.int (nI n)), some (.int (0)), some (.ref (5 + 2 + j)), some (.int (mxS (fun k => wlI sem (I 2) (I 3) m (I (5 + 2 + j)) (nI k) (I 5 2)) (fun k => bskP sem (I 2) (I 3) m (I 5 2) (I (5 + 2 + j)) ((1 : Int32) <<< (nI k &&& 31)) n) (bskP sem (I 2) (I 3) m (I 5 2) (I (5 + 2 + j)) 0 n) k).2), some (.int (mxS (fun k => wlI sem (I 2) (I 3) m (I (5 + 2 + j)) (nI k) (I 5 2)) (fun k => bskP sem (I 2) (I 3) m (I 5 2) (I (5 + 2 + j)) ((1 : Int32) <<< (nI k &&& 31)) n) (bskP sem (I 2) (I 3) m (I 5 2) (I (5 + 2 + j)) 0 n) k).1), some (.int (nI k)), o8] [] S0 J L (R0 q) (KQ X (AgLR (some (.int (mxS (fun k => wlI sem (I 2) (I 3) m (I (5 + 2 + j)) (nI k) (I 5 2)) (fun k => bskP sem (I 2) (I 3) m (I 5 2) (I (5 + 2 + j)) ((1 : Int32) <<< (nI k &&& 31)) n) (bskP sem (I 2) (I 3) m (I 5 2) (I (5 + 2 + j)) 0 n) 12).1)) I L q))) 12 ?_ ?_
    · intro J o8 hi
      refine s_iload (tb_ok aX7_best_1 3 rfl) rfl ?_
      refine s_bipush (v := nI 12) (tb_ok aX7_best_1 4 rfl) (by decide) ?_
      refine s_icmp_ge (tgt := 112) (tb_ok aX7_best_1 5 rfl) (by decide) (fun c54 => ?_) (fun c54 => ?_)
      · refine s_iload_n (tb_ok aX7_best_2 8 rfl) rfl ?_
        refine s_if_ne (tgt := 121) (tb_ok aX7_best_2 9 rfl) (by decide) (fun c113 => ?_) (fun c113 => ?_)
        · exact absurd c113 (by decide)
        · refine s_iload (tb_ok aX7_best_2 10 rfl) rfl ?_
          refine s_goto (tgt := 123) (tb_ok aX7_best_2 11 rfl) (by decide) ?_
          refine s_iret (tb_ok aX7_best_2 13 rfl) rfl ?_
          exact ⟨rfl, rfl, AgV.l hi, rfl, rfl⟩
      · exact absurd c54 (by decide)
    · intro k hk ih J o8 hi
      refine s_iload (tb_ok aX7_best_1 3 rfl) rfl ?_
      refine s_bipush (v := nI 12) (tb_ok aX7_best_1 4 rfl) (by decide) ?_
      refine s_icmp_ge (tgt := 112) (tb_ok aX7_best_1 5 rfl) (by decide) (fun c54 => ?_) (fun c54 => ?_)
      · simp (disch := omega) only [nI_ltI, nI_leI, nI_eq] at c54
        omega
      · refine s_aload_n (tb_ok aX7_best_1 6 rfl) rfl ?_
        refine s_getR (r := 64) (tb_ok aX7_best_1 7 rfl) f_RX7_101 rfl rfl rfl ?_
        refine s_aload (tb_ok aX7_best_1 8 rfl) rfl ?_
        refine s_iload (tb_ok aX7_best_1 9 rfl) rfl ?_
        refine s_aload_n (tb_ok aX7_best_1 10 rfl) rfl ?_
        refine s_getR (r := 5) (tb_ok aX7_best_1 11 rfl) f_RX7_19 rfl rfl rfl ?_
        refine s_getI (tb_ok aX7_best_1 12 rfl) f_RX7_127 rfl rfl rfl ?_
        refine s_cV (as := [.ref (5 + 2 + j), .int (nI k), _]) (tb_ok aX7_best_1 13 rfl) v_RX7_245 (C_wl h hi hj5 _) (by decide) rfl rfl rfl rfl rfl (Nat.le_of_ble_eq_true rfl) (by decide) (fun r1 S1 I1 L1 R1 q1 => ?_)
        obtain ⟨rfl, rfl, hA1, rfl, rfl⟩ := q1
        refine s_if_eq (tgt := 106) (tb_ok aX7_best_1 14 rfl) (by decide) (fun c75 => ?_) (fun c75 => ?_)
        · refine s_iinc (v := nI (k + 1)) (ls' := [some (.ref 0), some (.int (nI j)), some (.int (nI n)), some (.int (0)), some (.ref (5 + 2 + j)), some (.int (mxS (fun k => wlI sem (I 2) (I 3) m (I (5 + 2 + j)) (nI k) (I 5 2)) (fun k => bskP sem (I 2) (I 3) m (I 5 2) (I (5 + 2 + j)) ((1 : Int32) <<< (nI k &&& 31)) n) (bskP sem (I 2) (I 3) m (I 5 2) (I (5 + 2 + j)) 0 n) k).2), some (.int (mxS (fun k => wlI sem (I 2) (I 3) m (I (5 + 2 + j)) (nI k) (I 5 2)) (fun k => bskP sem (I 2) (I 3) m (I 5 2) (I (5 + 2 + j)) ((1 : Int32) <<< (nI k &&& 31)) n) (bskP sem (I 2) (I 3) m (I 5 2) (I (5 + 2 + j)) 0 n) k).1), some (.int (nI (k + 1))), o8]) (tb_ok aX7_best_2 6 rfl) rfl (nI_1 _) rfl rfl ?_
          refine s_goto (tgt := 50) (tb_ok aX7_best_2 7 rfl) (by decide) ?_
          refine s_ls ?_ (ih _ (o8) (AgV.tr hi hA1))
          rw [show (mxS (fun k => wlI sem (I 2) (I 3) m (I (5 + 2 + j)) (nI k) (I 5 2)) (fun k => bskP sem (I 2) (I 3) m (I 5 2) (I (5 + 2 + j)) ((1 : Int32) <<< (nI k &&& 31)) n) (bskP sem (I 2) (I 3) m (I 5 2) (I (5 + 2 + j)) 0 n) (k + 1)) = (mxS (fun k => wlI sem (I 2) (I 3) m (I (5 + 2 + j)) (nI k) (I 5 2)) (fun k => bskP sem (I 2) (I 3) m (I 5 2) (I (5 + 2 + j)) ((1 : Int32) <<< (nI k &&& 31)) n) (bskP sem (I 2) (I 3) m (I 5 2) (I (5 + 2 + j)) 0 n) k) from if_neg (fun h_ => h_.1 c75)]
        · refine s_aload_n (tb_ok aX7_best_1 15 rfl) rfl ?_
          refine s_aload (tb_ok aX7_best_1 16 rfl) rfl ?_
          refine s_iconst (v := 1) (tb_ok aX7_best_1 17 rfl) (by decide) ?_
          refine s_iload (tb_ok aX7_best_1 18 rfl) rfl ?_
          refine s_ishl (tb_ok aX7_best_1 19 rfl) ?_
          refine s_iload_n (tb_ok aX7_best_1 20 rfl) rfl ?_
          refine s_cV (as := [.ref (5 + 2 + j), _, .int (nI n)]) (tb_ok aX7_best_1 21 rfl) v_RX7_242 (C_bsk h (AgV.tr hi hA1) hj5 _ hn) (by decide) rfl rfl rfl rfl rfl (Nat.le_of_ble_eq_true rfl) (by decide) (fun r2 S2 I2 L2 R2 q2 => ?_)
          obtain ⟨rfl, rfl, hA2, rfl, rfl⟩ := q2
          refine s_name (fun x1 ex1 => ?_)
          refine s_istore (ls' := [some (.ref 0), some (.int (nI j)), some (.int (nI n)), some (.int (0)), some (.ref (5 + 2 + j)), some (.int (mxS (fun k => wlI sem (I 2) (I 3) m (I (5 + 2 + j)) (nI k) (I 5 2)) (fun k => bskP sem (I 2) (I 3) m (I 5 2) (I (5 + 2 + j)) ((1 : Int32) <<< (nI k &&& 31)) n) (bskP sem (I 2) (I 3) m (I 5 2) (I (5 + 2 + j)) 0 n) k).2), some (.int (mxS (fun k => wlI sem (I 2) (I 3) m (I (5 + 2 + j)) (nI k) (I 5 2)) (fun k => bskP sem (I 2) (I 3) m (I 5 2) (I (5 + 2 + j)) ((1 : Int32) <<< (nI k &&& 31)) n) (bskP sem (I 2) (I 3) m (I 5 2) (I (5 + 2 + j)) 0 n) k).1), some (.int (nI k)), some (.int x1)]) (tb_ok aX7_best_1 22 rfl) rfl rfl ?_
          refine s_iload (tb_ok aX7_best_1 23 rfl) rfl ?_
          refine s_iload (tb_ok aX7_best_2 0 rfl) rfl ?_
          refine s_icmp_le (tgt := 106) (tb_ok aX7_best_2 1 rfl) (by decide) (fun c95 => ?_) (fun c95 => ?_)
          · refine s_iinc (v := nI (k + 1)) (ls' := [some (.ref 0), some (.int (nI j)), some (.int (nI n)), some (.int (0)), some (.ref (5 + 2 + j)), some (.int (mxS (fun k => wlI sem (I 2) (I 3) m (I (5 + 2 + j)) (nI k) (I 5 2)) (fun k => bskP sem (I 2) (I 3) m (I 5 2) (I (5 + 2 + j)) ((1 : Int32) <<< (nI k &&& 31)) n) (bskP sem (I 2) (I 3) m (I 5 2) (I (5 + 2 + j)) 0 n) k).2), some (.int (mxS (fun k => wlI sem (I 2) (I 3) m (I (5 + 2 + j)) (nI k) (I 5 2)) (fun k => bskP sem (I 2) (I 3) m (I 5 2) (I (5 + 2 + j)) ((1 : Int32) <<< (nI k &&& 31)) n) (bskP sem (I 2) (I 3) m (I 5 2) (I (5 + 2 + j)) 0 n) k).1), some (.int (nI (k + 1))), some (.int x1)]) (tb_ok aX7_best_2 6 rfl) rfl (nI_1 _) rfl rfl ?_
            refine s_goto (tgt := 50) (tb_ok aX7_best_2 7 rfl) (by decide) ?_
            have ev : x1 = bskP sem (I 2) (I 3) m (I 5 2) (I (5 + 2 + j)) ((1 : Int32) <<< (nI k &&& 31)) n := ex1
            rw [ev] at c95
            refine s_ls ?_ (ih _ (some (.int x1)) (AgV.tr (AgV.tr hi hA1) hA2))
            rw [show (mxS (fun k => wlI sem (I 2) (I 3) m (I (5 + 2 + j)) (nI k) (I 5 2)) (fun k => bskP sem (I 2) (I 3) m (I 5 2) (I (5 + 2 + j)) ((1 : Int32) <<< (nI k &&& 31)) n) (bskP sem (I 2) (I 3) m (I 5 2) (I (5 + 2 + j)) 0 n) (k + 1)) = (mxS (fun k => wlI sem (I 2) (I 3) m (I (5 + 2 + j)) (nI k) (I 5 2)) (fun k => bskP sem (I 2) (I 3) m (I 5 2) (I (5 + 2 + j)) ((1 : Int32) <<< (nI k &&& 31)) n) (bskP sem (I 2) (I 3) m (I 5 2) (I (5 + 2 + j)) 0 n) k) from if_neg (fun h_ => Int32.not_lt.mpr c95 h_.2)]
          · refine s_iload (tb_ok aX7_best_2 2 rfl) rfl ?_
            refine s_istore (ls' := [some (.ref 0), some (.int (nI j)), some (.int (nI n)), some (.int (0)), some (.ref (5 + 2 + j)), some (.int x1), some (.int (mxS (fun k => wlI sem (I 2) (I 3) m (I (5 + 2 + j)) (nI k) (I 5 2)) (fun k => bskP sem (I 2) (I 3) m (I 5 2) (I (5 + 2 + j)) ((1 : Int32) <<< (nI k &&& 31)) n) (bskP sem (I 2) (I 3) m (I 5 2) (I (5 + 2 + j)) 0 n) k).1), some (.int (nI k)), some (.int x1)]) (tb_ok aX7_best_2 3 rfl) rfl rfl ?_
            refine s_iload (tb_ok aX7_best_2 4 rfl) rfl ?_
            refine s_istore (ls' := [some (.ref 0), some (.int (nI j)), some (.int (nI n)), some (.int (0)), some (.ref (5 + 2 + j)), some (.int x1), some (.int (nI k)), some (.int (nI k)), some (.int x1)]) (tb_ok aX7_best_2 5 rfl) rfl rfl ?_
            refine s_iinc (v := nI (k + 1)) (ls' := [some (.ref 0), some (.int (nI j)), some (.int (nI n)), some (.int (0)), some (.ref (5 + 2 + j)), some (.int x1), some (.int (nI k)), some (.int (nI (k + 1))), some (.int x1)]) (tb_ok aX7_best_2 6 rfl) rfl (nI_1 _) rfl rfl ?_
            refine s_goto (tgt := 50) (tb_ok aX7_best_2 7 rfl) (by decide) ?_
            have ev : x1 = bskP sem (I 2) (I 3) m (I 5 2) (I (5 + 2 + j)) ((1 : Int32) <<< (nI k &&& 31)) n := ex1
            rw [ev] at c95
            refine s_ls ?_ (ih _ (some (.int x1)) (AgV.tr (AgV.tr hi hA1) hA2))
            rw [show (mxS (fun k => wlI sem (I 2) (I 3) m (I (5 + 2 + j)) (nI k) (I 5 2)) (fun k => bskP sem (I 2) (I 3) m (I 5 2) (I (5 + 2 + j)) ((1 : Int32) <<< (nI k &&& 31)) n) (bskP sem (I 2) (I 3) m (I 5 2) (I (5 + 2 + j)) 0 n) (k + 1)) = (nI k, bskP sem (I 2) (I 3) m (I 5 2) (I (5 + 2 + j)) ((1 : Int32) <<< (nI k &&& 31)) n) from if_pos ⟨c75, Int32.not_le.mp c95⟩, ev]
  refine ev_of (by decide +kernel) rfl ?_
  show SW X _ _ _ 0 [some (.ref 0), some (.int (nI j)), some (.int (nI n)), some (.int (0)), none, none, none, none, none] [] S0 I L (R0 q) _
  refine s_aload_n (tb_ok aX7_best_0 0 rfl) rfl ?_
  refine s_getR (r := 5) (tb_ok aX7_best_0 1 rfl) f_RX7_19 rfl rfl rfl ?_
  refine s_iload_n (tb_ok aX7_best_0 2 rfl) rfl ?_
  refine s_cVp (as := [.int (nI j)]) (tb_ok aX7_best_0 3 rfl) v_RX7_115 (E_at (orch5 q) hM hM5 hj) (by decide) rfl rfl rfl rfl rfl (Nat.le_of_ble_eq_true rfl) (by decide) ?_
  refine s_astore (ls' := [some (.ref 0), some (.int (nI j)), some (.int (nI n)), some (.int (0)), some (.ref (5 + 2 + j)), none, none, none, none]) (tb_ok aX7_best_0 4 rfl) rfl rfl ?_
  refine s_aload (tb_ok aX7_best_0 5 rfl) rfl ?_
  refine s_ifnull (tb_ok aX7_best_0 6 rfl) ?_
  refine s_iload_n (tb_ok aX7_best_0 7 rfl) rfl ?_
  refine s_cSp (as := [.int (nI n)]) (tb_ok aX7_best_0 8 rfl) v_RX7_213 (E_isDays _) (by decide) rfl rfl (Nat.le_of_ble_eq_true rfl) ?_
  refine s_topi (bI_t ⟨nI_pos (by omega), by rw [show (40 : Int32) = nI 40 from rfl]; simp (disch := omega) only [nI_leI]; omega⟩) ?_
  refine s_if_eq (tgt := 31) (tb_ok aX7_best_0 9 rfl) (by decide) (fun c19 => ?_) (fun c19 => ?_)
  · exact absurd c19 (by decide)
  · refine s_iload_n (tb_ok aX7_best_0 10 rfl) rfl ?_
    refine s_if_lt (tgt := 31) (tb_ok aX7_best_0 11 rfl) (by decide) (fun c23 => ?_) (fun c23 => ?_)
    · exact absurd c23 (by decide)
    · refine s_iload_n (tb_ok aX7_best_0 12 rfl) rfl ?_
      refine s_iconst (v := 1) (tb_ok aX7_best_0 13 rfl) (by decide) ?_
      refine s_icmp_le (tgt := 34) (tb_ok aX7_best_0 14 rfl) (by decide) (fun c28 => ?_) (fun c28 => ?_)
      · refine s_aload_n (tb_ok aX7_best_0 17 rfl) rfl ?_
        refine s_aload (tb_ok aX7_best_0 18 rfl) rfl ?_
        refine s_iconst (v := 0) (tb_ok aX7_best_0 19 rfl) (by decide) ?_
        refine s_iload_n (tb_ok aX7_best_0 20 rfl) rfl ?_
        refine s_cV (as := [.ref (5 + 2 + j), .int (0), .int (nI n)]) (tb_ok aX7_best_0 21 rfl) v_RX7_242 (C_bsk h AgV.rf hj5 _ hn) (by decide) rfl rfl rfl rfl rfl (Nat.le_of_ble_eq_true rfl) (by decide) (fun r1 S1 I1 L1 R1 q1 => ?_)
        obtain ⟨rfl, rfl, hA2, rfl, rfl⟩ := q1
        refine s_name (fun x1 ex1 => ?_)
        refine s_istore (ls' := [some (.ref 0), some (.int (nI j)), some (.int (nI n)), some (.int (0)), some (.ref (5 + 2 + j)), some (.int x1), none, none, none]) (tb_ok aX7_best_0 22 rfl) rfl rfl ?_
        refine s_iconst (v := -1) (tb_ok aX7_best_0 23 rfl) (by decide) ?_
        refine s_istore (ls' := [some (.ref 0), some (.int (nI j)), some (.int (nI n)), some (.int (0)), some (.ref (5 + 2 + j)), some (.int x1), some (.int (-1)), none, none]) (tb_ok aX7_best_1 0 rfl) rfl rfl ?_
        refine s_iconst (v := nI 0) (tb_ok aX7_best_1 1 rfl) (by decide) ?_
        refine s_istore (ls' := [some (.ref 0), some (.int (nI j)), some (.int (nI n)), some (.int (0)), some (.ref (5 + 2 + j)), some (.int x1), some (.int (-1)), some (.int (nI 0)), none]) (tb_ok aX7_best_1 2 rfl) rfl rfl ?_
        subst ex1
        exact loop 0 (Nat.zero_le _) _ _ hA2
      · exact absurd c28 (by decide)

set_option maxRecDepth 100000 in
set_option maxHeartbeats 1000000 in
theorem C_best1 {X : En} {I : FI} {L : FL} {q : Nat × Nat} {m M ri : Nat} {sem : Nat → Sem} (h : CSt I q m M ri sem) {j : Nat} (hj : j < M) {n : Nat} (hn : n ≤ 40) : Ev X 9 mX7_best (0, 0) [.ref 0, .int (nI j), .int (nI n), .int (1)] S0 I L (R0 q) (AgLR (some (.int (mxS (fun k => wlI sem (I 2) (I 3) m (I (5 + 2 + j)) (nI k) (I 5 2)) (fun k => bskP sem (I 2) (I 3) m (I 5 2) (I (5 + 2 + j)) ((1 : Int32) <<< (nI k &&& 31)) n) (bskP sem (I 2) (I 3) m (I 5 2) (I (5 + 2 + j)) 0 n) 12).2)) I L q) := by
  obtain ⟨hm, hm10, hM, hM5, hri, hq, hs⟩ := id h
  have hj5 : j < 5 := by omega
  have hob : S0[5 + 2 + j]? = some (5, 5) := ((orch5 q).2.2.2.1 j hj5).2
  have h27 : 5 + 2 + j ≠ 27 := (wT j hj5).2
  have loop : ∀ k, k ≤ 12 → ∀ (J : FI), ∀ (o8 : Option Value), (AgV I J) → SW X 9 mX7_best (0, 0) 50 [some (.ref 0), some (.int (nI j)), some (.int (nI n)), some (.int (1)), some (.ref (5 + 2 + j)), some (.int (mxS (fun k => wlI sem (I 2) (I 3) m (I (5 + 2 + j)) (nI k) (I 5 2)) (fun k => bskP sem (I 2) (I 3) m (I 5 2) (I (5 + 2 + j)) ((1 : Int32) <<< (nI k &&& 31)) n) (bskP sem (I 2) (I 3) m (I 5 2) (I (5 + 2 + j)) 0 n) k).2), some (.int (mxS (fun k => wlI sem (I 2) (I 3) m (I (5 + 2 + j)) (nI k) (I 5 2)) (fun k => bskP sem (I 2) (I 3) m (I 5 2) (I (5 + 2 + j)) ((1 : Int32) <<< (nI k &&& 31)) n) (bskP sem (I 2) (I 3) m (I 5 2) (I (5 + 2 + j)) 0 n) k).1), some (.int (nI k)), o8] [] S0 J L (R0 q) (KQ X (AgLR (some (.int (mxS (fun k => wlI sem (I 2) (I 3) m (I (5 + 2 + j)) (nI k) (I 5 2)) (fun k => bskP sem (I 2) (I 3) m (I 5 2) (I (5 + 2 + j)) ((1 : Int32) <<< (nI k &&& 31)) n) (bskP sem (I 2) (I 3) m (I 5 2) (I (5 + 2 + j)) 0 n) 12).2)) I L q)) := by
    refine for_up (P := fun k => ∀ (J : FI), ∀ (o8 : Option Value), (AgV I J) → SW X 9 mX7_best (0, 0) 50 [some (.ref 0), some (.int (nI j)), some (.int (nI n)), some (.int (1)), some (.ref (5 + 2 + j)), some (.int (mxS (fun k => wlI sem (I 2) (I 3) m (I (5 + 2 + j)) (nI k) (I 5 2)) (fun k => bskP sem (I 2) (I 3) m (I 5 2) (I (5 + 2 + j)) ((1 : Int32) <<< (nI k &&& 31)) n) (bskP sem (I 2) (I 3) m (I 5 2) (I (5 + 2 + j)) 0 n) k).2), some (.int (mxS (fun k => wlI sem (I 2) (I 3) m (I (5 + 2 + j)) (nI k) (I 5 2)) (fun k => bskP sem (I 2) (I 3) m (I 5 2) (I (5 + 2 + j)) ((1 : Int32) <<< (nI k &&& 31)) n) (bskP sem (I 2) (I 3) m (I 5 2) (I (5 + 2 + j)) 0 n) k).1), some (.int (nI k)), o8] [] S0 J L (R0 q) (KQ X (AgLR (some (.int (mxS (fun k => wlI sem (I 2) (I 3) m (I (5 + 2 + j)) (nI k) (I 5 2)) (fun k => bskP sem (I 2) (I 3) m (I 5 2) (I (5 + 2 + j)) ((1 : Int32) <<< (nI k &&& 31)) n) (bskP sem (I 2) (I 3) m (I 5 2) (I (5 + 2 + j)) 0 n) 12).2)) I L q))) 12 ?_ ?_
    · intro J o8 hi
      refine s_iload (tb_ok aX7_best_1 3 rfl) rfl ?_
      refine s_bipush (v := nI 12) (tb_ok aX7_best_1 4 rfl) (by decide) ?_
      refine s_icmp_ge (tgt := 112) (tb_ok aX7_best_1 5 rfl) (by decide) (fun c54 => ?_) (fun c54 => ?_)
      · refine s_iload_n (tb_ok aX7_best_2 8 rfl) rfl ?_
        refine s_if_ne (tgt := 121) (tb_ok aX7_best_2 9 rfl) (by decide) (fun c113 => ?_) (fun c113 => ?_)
        · refine s_iload (tb_ok aX7_best_2 12 rfl) rfl ?_
          refine s_iret (tb_ok aX7_best_2 13 rfl) rfl ?_
          exact ⟨rfl, rfl, AgV.l hi, rfl, rfl⟩
        · exact absurd c113 (by decide)
      · exact absurd c54 (by decide)
    · intro k hk ih J o8 hi
      refine s_iload (tb_ok aX7_best_1 3 rfl) rfl ?_
      refine s_bipush (v := nI 12) (tb_ok aX7_best_1 4 rfl) (by decide) ?_
      refine s_icmp_ge (tgt := 112) (tb_ok aX7_best_1 5 rfl) (by decide) (fun c54 => ?_) (fun c54 => ?_)
      · simp (disch := omega) only [nI_ltI, nI_leI, nI_eq] at c54
        omega
      · refine s_aload_n (tb_ok aX7_best_1 6 rfl) rfl ?_
        refine s_getR (r := 64) (tb_ok aX7_best_1 7 rfl) f_RX7_101 rfl rfl rfl ?_
        refine s_aload (tb_ok aX7_best_1 8 rfl) rfl ?_
        refine s_iload (tb_ok aX7_best_1 9 rfl) rfl ?_
        refine s_aload_n (tb_ok aX7_best_1 10 rfl) rfl ?_
        refine s_getR (r := 5) (tb_ok aX7_best_1 11 rfl) f_RX7_19 rfl rfl rfl ?_
        refine s_getI (tb_ok aX7_best_1 12 rfl) f_RX7_127 rfl rfl rfl ?_
        refine s_cV (as := [.ref (5 + 2 + j), .int (nI k), _]) (tb_ok aX7_best_1 13 rfl) v_RX7_245 (C_wl h hi hj5 _) (by decide) rfl rfl rfl rfl rfl (Nat.le_of_ble_eq_true rfl) (by decide) (fun r1 S1 I1 L1 R1 q1 => ?_)
        obtain ⟨rfl, rfl, hA1, rfl, rfl⟩ := q1
        refine s_if_eq (tgt := 106) (tb_ok aX7_best_1 14 rfl) (by decide) (fun c75 => ?_) (fun c75 => ?_)
        · refine s_iinc (v := nI (k + 1)) (ls' := [some (.ref 0), some (.int (nI j)), some (.int (nI n)), some (.int (1)), some (.ref (5 + 2 + j)), some (.int (mxS (fun k => wlI sem (I 2) (I 3) m (I (5 + 2 + j)) (nI k) (I 5 2)) (fun k => bskP sem (I 2) (I 3) m (I 5 2) (I (5 + 2 + j)) ((1 : Int32) <<< (nI k &&& 31)) n) (bskP sem (I 2) (I 3) m (I 5 2) (I (5 + 2 + j)) 0 n) k).2), some (.int (mxS (fun k => wlI sem (I 2) (I 3) m (I (5 + 2 + j)) (nI k) (I 5 2)) (fun k => bskP sem (I 2) (I 3) m (I 5 2) (I (5 + 2 + j)) ((1 : Int32) <<< (nI k &&& 31)) n) (bskP sem (I 2) (I 3) m (I 5 2) (I (5 + 2 + j)) 0 n) k).1), some (.int (nI (k + 1))), o8]) (tb_ok aX7_best_2 6 rfl) rfl (nI_1 _) rfl rfl ?_
          refine s_goto (tgt := 50) (tb_ok aX7_best_2 7 rfl) (by decide) ?_
          refine s_ls ?_ (ih _ (o8) (AgV.tr hi hA1))
          rw [show (mxS (fun k => wlI sem (I 2) (I 3) m (I (5 + 2 + j)) (nI k) (I 5 2)) (fun k => bskP sem (I 2) (I 3) m (I 5 2) (I (5 + 2 + j)) ((1 : Int32) <<< (nI k &&& 31)) n) (bskP sem (I 2) (I 3) m (I 5 2) (I (5 + 2 + j)) 0 n) (k + 1)) = (mxS (fun k => wlI sem (I 2) (I 3) m (I (5 + 2 + j)) (nI k) (I 5 2)) (fun k => bskP sem (I 2) (I 3) m (I 5 2) (I (5 + 2 + j)) ((1 : Int32) <<< (nI k &&& 31)) n) (bskP sem (I 2) (I 3) m (I 5 2) (I (5 + 2 + j)) 0 n) k) from if_neg (fun h_ => h_.1 c75)]
        · refine s_aload_n (tb_ok aX7_best_1 15 rfl) rfl ?_
          refine s_aload (tb_ok aX7_best_1 16 rfl) rfl ?_
          refine s_iconst (v := 1) (tb_ok aX7_best_1 17 rfl) (by decide) ?_
          refine s_iload (tb_ok aX7_best_1 18 rfl) rfl ?_
          refine s_ishl (tb_ok aX7_best_1 19 rfl) ?_
          refine s_iload_n (tb_ok aX7_best_1 20 rfl) rfl ?_
          refine s_cV (as := [.ref (5 + 2 + j), _, .int (nI n)]) (tb_ok aX7_best_1 21 rfl) v_RX7_242 (C_bsk h (AgV.tr hi hA1) hj5 _ hn) (by decide) rfl rfl rfl rfl rfl (Nat.le_of_ble_eq_true rfl) (by decide) (fun r2 S2 I2 L2 R2 q2 => ?_)
          obtain ⟨rfl, rfl, hA2, rfl, rfl⟩ := q2
          refine s_name (fun x1 ex1 => ?_)
          refine s_istore (ls' := [some (.ref 0), some (.int (nI j)), some (.int (nI n)), some (.int (1)), some (.ref (5 + 2 + j)), some (.int (mxS (fun k => wlI sem (I 2) (I 3) m (I (5 + 2 + j)) (nI k) (I 5 2)) (fun k => bskP sem (I 2) (I 3) m (I 5 2) (I (5 + 2 + j)) ((1 : Int32) <<< (nI k &&& 31)) n) (bskP sem (I 2) (I 3) m (I 5 2) (I (5 + 2 + j)) 0 n) k).2), some (.int (mxS (fun k => wlI sem (I 2) (I 3) m (I (5 + 2 + j)) (nI k) (I 5 2)) (fun k => bskP sem (I 2) (I 3) m (I 5 2) (I (5 + 2 + j)) ((1 : Int32) <<< (nI k &&& 31)) n) (bskP sem (I 2) (I 3) m (I 5 2) (I (5 + 2 + j)) 0 n) k).1), some (.int (nI k)), some (.int x1)]) (tb_ok aX7_best_1 22 rfl) rfl rfl ?_
          refine s_iload (tb_ok aX7_best_1 23 rfl) rfl ?_
          refine s_iload (tb_ok aX7_best_2 0 rfl) rfl ?_
          refine s_icmp_le (tgt := 106) (tb_ok aX7_best_2 1 rfl) (by decide) (fun c95 => ?_) (fun c95 => ?_)
          · refine s_iinc (v := nI (k + 1)) (ls' := [some (.ref 0), some (.int (nI j)), some (.int (nI n)), some (.int (1)), some (.ref (5 + 2 + j)), some (.int (mxS (fun k => wlI sem (I 2) (I 3) m (I (5 + 2 + j)) (nI k) (I 5 2)) (fun k => bskP sem (I 2) (I 3) m (I 5 2) (I (5 + 2 + j)) ((1 : Int32) <<< (nI k &&& 31)) n) (bskP sem (I 2) (I 3) m (I 5 2) (I (5 + 2 + j)) 0 n) k).2), some (.int (mxS (fun k => wlI sem (I 2) (I 3) m (I (5 + 2 + j)) (nI k) (I 5 2)) (fun k => bskP sem (I 2) (I 3) m (I 5 2) (I (5 + 2 + j)) ((1 : Int32) <<< (nI k &&& 31)) n) (bskP sem (I 2) (I 3) m (I 5 2) (I (5 + 2 + j)) 0 n) k).1), some (.int (nI (k + 1))), some (.int x1)]) (tb_ok aX7_best_2 6 rfl) rfl (nI_1 _) rfl rfl ?_
            refine s_goto (tgt := 50) (tb_ok aX7_best_2 7 rfl) (by decide) ?_
            have ev : x1 = bskP sem (I 2) (I 3) m (I 5 2) (I (5 + 2 + j)) ((1 : Int32) <<< (nI k &&& 31)) n := ex1
            rw [ev] at c95
            refine s_ls ?_ (ih _ (some (.int x1)) (AgV.tr (AgV.tr hi hA1) hA2))
            rw [show (mxS (fun k => wlI sem (I 2) (I 3) m (I (5 + 2 + j)) (nI k) (I 5 2)) (fun k => bskP sem (I 2) (I 3) m (I 5 2) (I (5 + 2 + j)) ((1 : Int32) <<< (nI k &&& 31)) n) (bskP sem (I 2) (I 3) m (I 5 2) (I (5 + 2 + j)) 0 n) (k + 1)) = (mxS (fun k => wlI sem (I 2) (I 3) m (I (5 + 2 + j)) (nI k) (I 5 2)) (fun k => bskP sem (I 2) (I 3) m (I 5 2) (I (5 + 2 + j)) ((1 : Int32) <<< (nI k &&& 31)) n) (bskP sem (I 2) (I 3) m (I 5 2) (I (5 + 2 + j)) 0 n) k) from if_neg (fun h_ => Int32.not_lt.mpr c95 h_.2)]
          · refine s_iload (tb_ok aX7_best_2 2 rfl) rfl ?_
            refine s_istore (ls' := [some (.ref 0), some (.int (nI j)), some (.int (nI n)), some (.int (1)), some (.ref (5 + 2 + j)), some (.int x1), some (.int (mxS (fun k => wlI sem (I 2) (I 3) m (I (5 + 2 + j)) (nI k) (I 5 2)) (fun k => bskP sem (I 2) (I 3) m (I 5 2) (I (5 + 2 + j)) ((1 : Int32) <<< (nI k &&& 31)) n) (bskP sem (I 2) (I 3) m (I 5 2) (I (5 + 2 + j)) 0 n) k).1), some (.int (nI k)), some (.int x1)]) (tb_ok aX7_best_2 3 rfl) rfl rfl ?_
            refine s_iload (tb_ok aX7_best_2 4 rfl) rfl ?_
            refine s_istore (ls' := [some (.ref 0), some (.int (nI j)), some (.int (nI n)), some (.int (1)), some (.ref (5 + 2 + j)), some (.int x1), some (.int (nI k)), some (.int (nI k)), some (.int x1)]) (tb_ok aX7_best_2 5 rfl) rfl rfl ?_
            refine s_iinc (v := nI (k + 1)) (ls' := [some (.ref 0), some (.int (nI j)), some (.int (nI n)), some (.int (1)), some (.ref (5 + 2 + j)), some (.int x1), some (.int (nI k)), some (.int (nI (k + 1))), some (.int x1)]) (tb_ok aX7_best_2 6 rfl) rfl (nI_1 _) rfl rfl ?_
            refine s_goto (tgt := 50) (tb_ok aX7_best_2 7 rfl) (by decide) ?_
            have ev : x1 = bskP sem (I 2) (I 3) m (I 5 2) (I (5 + 2 + j)) ((1 : Int32) <<< (nI k &&& 31)) n := ex1
            rw [ev] at c95
            refine s_ls ?_ (ih _ (some (.int x1)) (AgV.tr (AgV.tr hi hA1) hA2))
            rw [show (mxS (fun k => wlI sem (I 2) (I 3) m (I (5 + 2 + j)) (nI k) (I 5 2)) (fun k => bskP sem (I 2) (I 3) m (I 5 2) (I (5 + 2 + j)) ((1 : Int32) <<< (nI k &&& 31)) n) (bskP sem (I 2) (I 3) m (I 5 2) (I (5 + 2 + j)) 0 n) (k + 1)) = (nI k, bskP sem (I 2) (I 3) m (I 5 2) (I (5 + 2 + j)) ((1 : Int32) <<< (nI k &&& 31)) n) from if_pos ⟨c75, Int32.not_le.mp c95⟩, ev]
  refine ev_of (by decide +kernel) rfl ?_
  show SW X _ _ _ 0 [some (.ref 0), some (.int (nI j)), some (.int (nI n)), some (.int (1)), none, none, none, none, none] [] S0 I L (R0 q) _
  refine s_aload_n (tb_ok aX7_best_0 0 rfl) rfl ?_
  refine s_getR (r := 5) (tb_ok aX7_best_0 1 rfl) f_RX7_19 rfl rfl rfl ?_
  refine s_iload_n (tb_ok aX7_best_0 2 rfl) rfl ?_
  refine s_cVp (as := [.int (nI j)]) (tb_ok aX7_best_0 3 rfl) v_RX7_115 (E_at (orch5 q) hM hM5 hj) (by decide) rfl rfl rfl rfl rfl (Nat.le_of_ble_eq_true rfl) (by decide) ?_
  refine s_astore (ls' := [some (.ref 0), some (.int (nI j)), some (.int (nI n)), some (.int (1)), some (.ref (5 + 2 + j)), none, none, none, none]) (tb_ok aX7_best_0 4 rfl) rfl rfl ?_
  refine s_aload (tb_ok aX7_best_0 5 rfl) rfl ?_
  refine s_ifnull (tb_ok aX7_best_0 6 rfl) ?_
  refine s_iload_n (tb_ok aX7_best_0 7 rfl) rfl ?_
  refine s_cSp (as := [.int (nI n)]) (tb_ok aX7_best_0 8 rfl) v_RX7_213 (E_isDays _) (by decide) rfl rfl (Nat.le_of_ble_eq_true rfl) ?_
  refine s_topi (bI_t ⟨nI_pos (by omega), by rw [show (40 : Int32) = nI 40 from rfl]; simp (disch := omega) only [nI_leI]; omega⟩) ?_
  refine s_if_eq (tgt := 31) (tb_ok aX7_best_0 9 rfl) (by decide) (fun c19 => ?_) (fun c19 => ?_)
  · exact absurd c19 (by decide)
  · refine s_iload_n (tb_ok aX7_best_0 10 rfl) rfl ?_
    refine s_if_lt (tgt := 31) (tb_ok aX7_best_0 11 rfl) (by decide) (fun c23 => ?_) (fun c23 => ?_)
    · exact absurd c23 (by decide)
    · refine s_iload_n (tb_ok aX7_best_0 12 rfl) rfl ?_
      refine s_iconst (v := 1) (tb_ok aX7_best_0 13 rfl) (by decide) ?_
      refine s_icmp_le (tgt := 34) (tb_ok aX7_best_0 14 rfl) (by decide) (fun c28 => ?_) (fun c28 => ?_)
      · refine s_aload_n (tb_ok aX7_best_0 17 rfl) rfl ?_
        refine s_aload (tb_ok aX7_best_0 18 rfl) rfl ?_
        refine s_iconst (v := 0) (tb_ok aX7_best_0 19 rfl) (by decide) ?_
        refine s_iload_n (tb_ok aX7_best_0 20 rfl) rfl ?_
        refine s_cV (as := [.ref (5 + 2 + j), .int (0), .int (nI n)]) (tb_ok aX7_best_0 21 rfl) v_RX7_242 (C_bsk h AgV.rf hj5 _ hn) (by decide) rfl rfl rfl rfl rfl (Nat.le_of_ble_eq_true rfl) (by decide) (fun r1 S1 I1 L1 R1 q1 => ?_)
        obtain ⟨rfl, rfl, hA2, rfl, rfl⟩ := q1
        refine s_name (fun x1 ex1 => ?_)
        refine s_istore (ls' := [some (.ref 0), some (.int (nI j)), some (.int (nI n)), some (.int (1)), some (.ref (5 + 2 + j)), some (.int x1), none, none, none]) (tb_ok aX7_best_0 22 rfl) rfl rfl ?_
        refine s_iconst (v := -1) (tb_ok aX7_best_0 23 rfl) (by decide) ?_
        refine s_istore (ls' := [some (.ref 0), some (.int (nI j)), some (.int (nI n)), some (.int (1)), some (.ref (5 + 2 + j)), some (.int x1), some (.int (-1)), none, none]) (tb_ok aX7_best_1 0 rfl) rfl rfl ?_
        refine s_iconst (v := nI 0) (tb_ok aX7_best_1 1 rfl) (by decide) ?_
        refine s_istore (ls' := [some (.ref 0), some (.int (nI j)), some (.int (nI n)), some (.int (1)), some (.ref (5 + 2 + j)), some (.int x1), some (.int (-1)), some (.int (nI 0)), none]) (tb_ok aX7_best_1 2 rfl) rfl rfl ?_
        subst ex1
        exact loop 0 (Nat.zero_le _) _ _ hA2
      · exact absurd c28 (by decide)

set_option maxRecDepth 100000 in
set_option maxHeartbeats 1000000 in
theorem C_bestN {X : En} {I : FI} {L : FL} {q : Nat × Nat} {m M ri : Nat} {sem : Nat → Sem} (h : CSt I q m M ri sem) {x : Int32} (hx : x < 0 ∨ nI M ≤ x) {z w : Int32} : Ev X 9 mX7_best (0, 0) [.ref 0, .int x, .int z, .int w] S0 I L (R0 q) (AgLR (some (.int (-2))) I L q) := by
  obtain ⟨hm, hm10, hM, hM5, hri, hq, hs⟩ := id h
  refine ev_of (by decide +kernel) rfl ?_
  show SW X _ _ _ 0 [some (.ref 0), some (.int x), some (.int z), some (.int w), none, none, none, none, none] [] S0 I L (R0 q) _
  refine s_aload_n (tb_ok aX7_best_0 0 rfl) rfl ?_
  refine s_getR (r := 5) (tb_ok aX7_best_0 1 rfl) f_RX7_19 rfl rfl rfl ?_
  refine s_iload_n (tb_ok aX7_best_0 2 rfl) rfl ?_
  refine s_cVp (as := [.int x]) (tb_ok aX7_best_0 3 rfl) v_RX7_115 (E_atN (orch5 q) hM hM5 hx) (by decide) rfl rfl rfl rfl rfl (Nat.le_of_ble_eq_true rfl) (by decide) ?_
  refine s_astoreN (ls' := [some (.ref 0), some (.int x), some (.int z), some (.int w), some (.null), none, none, none, none]) (tb_ok aX7_best_0 4 rfl) rfl rfl ?_
  refine s_aloadq (r := none) (tb_ok aX7_best_0 5 rfl) rfl ?_
  refine s_ifnullN (tgt := 31) (tb_ok aX7_best_0 6 rfl) (by decide) ?_
  refine s_bipush (v := -2) (tb_ok aX7_best_0 15 rfl) (by decide) ?_
  refine s_iret (tb_ok aX7_best_0 16 rfl) rfl ?_
  exact ⟨rfl, rfl, AgL.rf, rfl, rfl⟩

set_option maxRecDepth 100000 in
set_option maxHeartbeats 1000000 in
theorem C_bestB {X : En} {I : FI} {L : FL} {q : Nat × Nat} {m M ri : Nat} {sem : Nat → Sem} (h : CSt I q m M ri sem) {j : Nat} (hj : j < M) {z w : Int32} (hv : ¬ ((¬ z < 0 ∧ z ≤ 40) ∧ ¬ w < 0 ∧ w ≤ 1)) : Ev X 9 mX7_best (0, 0) [.ref 0, .int (nI j), .int z, .int w] S0 I L (R0 q) (AgLR (some (.int (-2))) I L q) := by
  obtain ⟨hm, hm10, hM, hM5, hri, hq, hs⟩ := id h
  have hj5 : j < 5 := by omega
  have hob : S0[5 + 2 + j]? = some (5, 5) := ((orch5 q).2.2.2.1 j hj5).2
  have h27 : 5 + 2 + j ≠ 27 := (wT j hj5).2
  refine ev_of (by decide +kernel) rfl ?_
  show SW X _ _ _ 0 [some (.ref 0), some (.int (nI j)), some (.int z), some (.int w), none, none, none, none, none] [] S0 I L (R0 q) _
  refine s_aload_n (tb_ok aX7_best_0 0 rfl) rfl ?_
  refine s_getR (r := 5) (tb_ok aX7_best_0 1 rfl) f_RX7_19 rfl rfl rfl ?_
  refine s_iload_n (tb_ok aX7_best_0 2 rfl) rfl ?_
  refine s_cVp (as := [.int (nI j)]) (tb_ok aX7_best_0 3 rfl) v_RX7_115 (E_at (orch5 q) hM hM5 hj) (by decide) rfl rfl rfl rfl rfl (Nat.le_of_ble_eq_true rfl) (by decide) ?_
  refine s_astore (ls' := [some (.ref 0), some (.int (nI j)), some (.int z), some (.int w), some (.ref (5 + 2 + j)), none, none, none, none]) (tb_ok aX7_best_0 4 rfl) rfl rfl ?_
  refine s_aload (tb_ok aX7_best_0 5 rfl) rfl ?_
  refine s_ifnull (tb_ok aX7_best_0 6 rfl) ?_
  refine s_iload_n (tb_ok aX7_best_0 7 rfl) rfl ?_
  refine s_cSp (as := [.int z]) (tb_ok aX7_best_0 8 rfl) v_RX7_213 (E_isDays _) (by decide) rfl rfl (Nat.le_of_ble_eq_true rfl) ?_
  refine s_if_eq (tgt := 31) (tb_ok aX7_best_0 9 rfl) (by decide) (fun c19 => ?_) (fun c19 => ?_)
  · refine s_bipush (v := -2) (tb_ok aX7_best_0 15 rfl) (by decide) ?_
    refine s_iret (tb_ok aX7_best_0 16 rfl) rfl ?_
    exact ⟨rfl, rfl, AgL.rf, rfl, rfl⟩
  · refine s_iload_n (tb_ok aX7_best_0 10 rfl) rfl ?_
    refine s_if_lt (tgt := 31) (tb_ok aX7_best_0 11 rfl) (by decide) (fun c23 => ?_) (fun c23 => ?_)
    · refine s_bipush (v := -2) (tb_ok aX7_best_0 15 rfl) (by decide) ?_
      refine s_iret (tb_ok aX7_best_0 16 rfl) rfl ?_
      exact ⟨rfl, rfl, AgL.rf, rfl, rfl⟩
    · refine s_iload_n (tb_ok aX7_best_0 12 rfl) rfl ?_
      refine s_iconst (v := 1) (tb_ok aX7_best_0 13 rfl) (by decide) ?_
      refine s_icmp_le (tgt := 34) (tb_ok aX7_best_0 14 rfl) (by decide) (fun c28 => ?_) (fun c28 => ?_)
      · exact absurd ⟨bI_n c19, c23, c28⟩ hv
      · refine s_bipush (v := -2) (tb_ok aX7_best_0 15 rfl) (by decide) ?_
        refine s_iret (tb_ok aX7_best_0 16 rfl) rfl ?_
        exact ⟨rfl, rfl, AgL.rf, rfl, rfl⟩

set_option maxRecDepth 100000 in
set_option maxHeartbeats 1000000 in
theorem C_whom0 {X : En} {I : FI} {L : FL} {q : Nat × Nat} {m M ri : Nat} {sem : Nat → Sem} (h : CSt I q m M ri sem) {g : Nat} (hg : g < 12) {n : Nat} (hn : n ≤ 40) : Ev X 9 mX7_whom (0, 0) [.ref 0, .int (nI g), .int (nI n), .int (0)] S0 I L (R0 q) (AgLR (some (.int (mxS (fun k => if k < M then wlI sem (I 2) (I 3) m (I (5 + 2 + k)) (nI g) (I 5 2) else 0) (fun k => bshP sem (I 2) (I 3) m M (I 5 2) (fun j => I (5 + 2 + j)) n - bskP sem (I 2) (I 3) m (I 5 2) (I (5 + 2 + k)) 0 n + bskP sem (I 2) (I 3) m (I 5 2) (I (5 + 2 + k)) ((1 : Int32) <<< (nI g &&& 31)) n) (bshP sem (I 2) (I 3) m M (I 5 2) (fun j => I (5 + 2 + j)) n) 5).1)) I L q) := by
  obtain ⟨hm, hm10, hM, hM5, hri, hq, hs⟩ := id h
  have loop : ∀ k, k ≤ 5 → ∀ (J : FI), ∀ (o8 o9 o10 : Option Value), (AgV I J) → SW X 9 mX7_whom (0, 0) 43 [some (.ref 0), some (.int (nI g)), some (.int (nI n)), some (.int (0)), some (.int (bshP sem (I 2) (I 3) m M (I 5 2) (fun j => I (5 + 2 + j)) n)), some (.int (mxS (fun k => if k < M then wlI sem (I 2) (I 3) m (I (5 + 2 + k)) (nI g) (I 5 2) else 0) (fun k => bshP sem (I 2) (I 3) m M (I 5 2) (fun j => I (5 + 2 + j)) n - bskP sem (I 2) (I 3) m (I 5 2) (I (5 + 2 + k)) 0 n + bskP sem (I 2) (I 3) m (I 5 2) (I (5 + 2 + k)) ((1 : Int32) <<< (nI g &&& 31)) n) (bshP sem (I 2) (I 3) m M (I 5 2) (fun j => I (5 + 2 + j)) n) k).2), some (.int (mxS (fun k => if k < M then wlI sem (I 2) (I 3) m (I (5 + 2 + k)) (nI g) (I 5 2) else 0) (fun k => bshP sem (I 2) (I 3) m M (I 5 2) (fun j => I (5 + 2 + j)) n - bskP sem (I 2) (I 3) m (I 5 2) (I (5 + 2 + k)) 0 n + bskP sem (I 2) (I 3) m (I 5 2) (I (5 + 2 + k)) ((1 : Int32) <<< (nI g &&& 31)) n) (bshP sem (I 2) (I 3) m M (I 5 2) (fun j => I (5 + 2 + j)) n) k).1), some (.int (nI k)), o8, o9, o10] [] S0 J L (R0 q) (KQ X (AgLR (some (.int (mxS (fun k => if k < M then wlI sem (I 2) (I 3) m (I (5 + 2 + k)) (nI g) (I 5 2) else 0) (fun k => bshP sem (I 2) (I 3) m M (I 5 2) (fun j => I (5 + 2 + j)) n - bskP sem (I 2) (I 3) m (I 5 2) (I (5 + 2 + k)) 0 n + bskP sem (I 2) (I 3) m (I 5 2) (I (5 + 2 + k)) ((1 : Int32) <<< (nI g &&& 31)) n) (bshP sem (I 2) (I 3) m M (I 5 2) (fun j => I (5 + 2 + j)) n) 5).1)) I L q)) := by
    refine for_up (P := fun k => ∀ (J : FI), ∀ (o8 o9 o10 : Option Value), (AgV I J) → SW X 9 mX7_whom (0, 0) 43 [some (.ref 0), some (.int (nI g)), some (.int (nI n)), some (.int (0)), some (.int (bshP sem (I 2) (I 3) m M (I 5 2) (fun j => I (5 + 2 + j)) n)), some (.int (mxS (fun k => if k < M then wlI sem (I 2) (I 3) m (I (5 + 2 + k)) (nI g) (I 5 2) else 0) (fun k => bshP sem (I 2) (I 3) m M (I 5 2) (fun j => I (5 + 2 + j)) n - bskP sem (I 2) (I 3) m (I 5 2) (I (5 + 2 + k)) 0 n + bskP sem (I 2) (I 3) m (I 5 2) (I (5 + 2 + k)) ((1 : Int32) <<< (nI g &&& 31)) n) (bshP sem (I 2) (I 3) m M (I 5 2) (fun j => I (5 + 2 + j)) n) k).2), some (.int (mxS (fun k => if k < M then wlI sem (I 2) (I 3) m (I (5 + 2 + k)) (nI g) (I 5 2) else 0) (fun k => bshP sem (I 2) (I 3) m M (I 5 2) (fun j => I (5 + 2 + j)) n - bskP sem (I 2) (I 3) m (I 5 2) (I (5 + 2 + k)) 0 n + bskP sem (I 2) (I 3) m (I 5 2) (I (5 + 2 + k)) ((1 : Int32) <<< (nI g &&& 31)) n) (bshP sem (I 2) (I 3) m M (I 5 2) (fun j => I (5 + 2 + j)) n) k).1), some (.int (nI k)), o8, o9, o10] [] S0 J L (R0 q) (KQ X (AgLR (some (.int (mxS (fun k => if k < M then wlI sem (I 2) (I 3) m (I (5 + 2 + k)) (nI g) (I 5 2) else 0) (fun k => bshP sem (I 2) (I 3) m M (I 5 2) (fun j => I (5 + 2 + j)) n - bskP sem (I 2) (I 3) m (I 5 2) (I (5 + 2 + k)) 0 n + bskP sem (I 2) (I 3) m (I 5 2) (I (5 + 2 + k)) ((1 : Int32) <<< (nI g &&& 31)) n) (bshP sem (I 2) (I 3) m M (I 5 2) (fun j => I (5 + 2 + j)) n) 5).1)) I L q))) 5 ?_ ?_
    · intro J o8 o9 o10 hi
      refine s_iload (tb_ok aX7_whom_0 23 rfl) rfl ?_
      refine s_iconst (v := nI 5) (tb_ok aX7_whom_1 0 rfl) (by decide) ?_
      refine s_icmp_ge (tgt := 134) (tb_ok aX7_whom_1 1 rfl) (by decide) (fun c46 => ?_) (fun c46 => ?_)
      · refine s_iload_n (tb_ok aX7_whom_2 21 rfl) rfl ?_
        refine s_if_ne (tgt := 143) (tb_ok aX7_whom_2 22 rfl) (by decide) (fun c135 => ?_) (fun c135 => ?_)
        · exact absurd c135 (by decide)
        · refine s_iload (tb_ok aX7_whom_2 23 rfl) rfl ?_
          refine s_goto (tgt := 145) (tb_ok aX7_whom_3 0 rfl) (by decide) ?_
          refine s_iret (tb_ok aX7_whom_3 2 rfl) rfl ?_
          exact ⟨rfl, rfl, AgV.l hi, rfl, rfl⟩
      · exact absurd c46 (by decide)
    · intro k hk ih J o8 o9 o10 hi
      have hk5 : k < 5 := hk
      have hobk : S0[5 + 2 + k]? = some (5, 5) := ((orch5 q).2.2.2.1 k hk5).2
      by_cases hkM : k < M
      · refine s_iload (tb_ok aX7_whom_0 23 rfl) rfl ?_
        refine s_iconst (v := nI 5) (tb_ok aX7_whom_1 0 rfl) (by decide) ?_
        refine s_icmp_ge (tgt := 134) (tb_ok aX7_whom_1 1 rfl) (by decide) (fun c46 => ?_) (fun c46 => ?_)
        · simp (disch := omega) only [nI_ltI, nI_leI, nI_eq] at c46
          omega
        · refine s_aload_n (tb_ok aX7_whom_1 2 rfl) rfl ?_
          refine s_getR (r := 5) (tb_ok aX7_whom_1 3 rfl) f_RX7_19 rfl rfl rfl ?_
          refine s_iload (tb_ok aX7_whom_1 4 rfl) rfl ?_
          refine s_cVp (as := [.int (nI k)]) (tb_ok aX7_whom_1 5 rfl) v_RX7_115 (E_at (orch5 q) (M := M) ((congrFun (AgV.tr AgV.rf hi 5 (by decide)) 1).trans hM) hM5 hkM) (by decide) rfl rfl rfl rfl rfl (Nat.le_of_ble_eq_true rfl) (by decide) ?_
          refine s_astore (ls' := [some (.ref 0), some (.int (nI g)), some (.int (nI n)), some (.int (0)), some (.int (bshP sem (I 2) (I 3) m M (I 5 2) (fun j => I (5 + 2 + j)) n)), some (.int (mxS (fun k => if k < M then wlI sem (I 2) (I 3) m (I (5 + 2 + k)) (nI g) (I 5 2) else 0) (fun k => bshP sem (I 2) (I 3) m M (I 5 2) (fun j => I (5 + 2 + j)) n - bskP sem (I 2) (I 3) m (I 5 2) (I (5 + 2 + k)) 0 n + bskP sem (I 2) (I 3) m (I 5 2) (I (5 + 2 + k)) ((1 : Int32) <<< (nI g &&& 31)) n) (bshP sem (I 2) (I 3) m M (I 5 2) (fun j => I (5 + 2 + j)) n) k).2), some (.int (mxS (fun k => if k < M then wlI sem (I 2) (I 3) m (I (5 + 2 + k)) (nI g) (I 5 2) else 0) (fun k => bshP sem (I 2) (I 3) m M (I 5 2) (fun j => I (5 + 2 + j)) n - bskP sem (I 2) (I 3) m (I 5 2) (I (5 + 2 + k)) 0 n + bskP sem (I 2) (I 3) m (I 5 2) (I (5 + 2 + k)) ((1 : Int32) <<< (nI g &&& 31)) n) (bshP sem (I 2) (I 3) m M (I 5 2) (fun j => I (5 + 2 + j)) n) k).1), some (.int (nI k)), some (.ref (5 + 2 + k)), o9, o10]) (tb_ok aX7_whom_1 6 rfl) rfl rfl ?_
          refine s_aload (tb_ok aX7_whom_1 7 rfl) rfl ?_
          refine s_ifnull (tb_ok aX7_whom_1 8 rfl) ?_
          refine s_aload_n (tb_ok aX7_whom_1 9 rfl) rfl ?_
          refine s_getR (r := 64) (tb_ok aX7_whom_1 10 rfl) f_RX7_101 rfl rfl rfl ?_
          refine s_aload (tb_ok aX7_whom_1 11 rfl) rfl ?_
          refine s_iload_n (tb_ok aX7_whom_1 12 rfl) rfl ?_
          refine s_aload_n (tb_ok aX7_whom_1 13 rfl) rfl ?_
          refine s_getR (r := 5) (tb_ok aX7_whom_1 14 rfl) f_RX7_19 rfl rfl rfl ?_
          refine s_getI (tb_ok aX7_whom_1 15 rfl) f_RX7_127 rfl rfl rfl ?_
          refine s_cV (as := [.ref (5 + 2 + k), .int (nI g), _]) (tb_ok aX7_whom_1 16 rfl) v_RX7_245 (C_wl h hi hk5 _) (by decide) rfl rfl rfl rfl rfl (Nat.le_of_ble_eq_true rfl) (by decide) (fun r1 S1 I1 L1 R1 q1 => ?_)
          obtain ⟨rfl, rfl, hA1, rfl, rfl⟩ := q1
          refine s_if_eq (tgt := 128) (tb_ok aX7_whom_1 17 rfl) (by decide) (fun c82 => ?_) (fun c82 => ?_)
          · refine s_iinc (v := nI (k + 1)) (ls' := [some (.ref 0), some (.int (nI g)), some (.int (nI n)), some (.int (0)), some (.int (bshP sem (I 2) (I 3) m M (I 5 2) (fun j => I (5 + 2 + j)) n)), some (.int (mxS (fun k => if k < M then wlI sem (I 2) (I 3) m (I (5 + 2 + k)) (nI g) (I 5 2) else 0) (fun k => bshP sem (I 2) (I 3) m M (I 5 2) (fun j => I (5 + 2 + j)) n - bskP sem (I 2) (I 3) m (I 5 2) (I (5 + 2 + k)) 0 n + bskP sem (I 2) (I 3) m (I 5 2) (I (5 + 2 + k)) ((1 : Int32) <<< (nI g &&& 31)) n) (bshP sem (I 2) (I 3) m M (I 5 2) (fun j => I (5 + 2 + j)) n) k).2), some (.int (mxS (fun k => if k < M then wlI sem (I 2) (I 3) m (I (5 + 2 + k)) (nI g) (I 5 2) else 0) (fun k => bshP sem (I 2) (I 3) m M (I 5 2) (fun j => I (5 + 2 + j)) n - bskP sem (I 2) (I 3) m (I 5 2) (I (5 + 2 + k)) 0 n + bskP sem (I 2) (I 3) m (I 5 2) (I (5 + 2 + k)) ((1 : Int32) <<< (nI g &&& 31)) n) (bshP sem (I 2) (I 3) m M (I 5 2) (fun j => I (5 + 2 + j)) n) k).1), some (.int (nI (k + 1))), some (.ref (5 + 2 + k)), o9, o10]) (tb_ok aX7_whom_2 19 rfl) rfl (nI_1 _) rfl rfl ?_
            refine s_goto (tgt := 43) (tb_ok aX7_whom_2 20 rfl) (by decide) ?_
            have hok : (if k < M then wlI sem (I 2) (I 3) m (I (5 + 2 + k)) (nI g) (I 5 2) else 0) = 0 := by rw [if_pos hkM]; exact c82
            refine s_ls ?_ (ih _ (some (.ref (5 + 2 + k))) (o9) (o10) (AgV.tr hi hA1))
            rw [show (mxS (fun k => if k < M then wlI sem (I 2) (I 3) m (I (5 + 2 + k)) (nI g) (I 5 2) else 0) (fun k => bshP sem (I 2) (I 3) m M (I 5 2) (fun j => I (5 + 2 + j)) n - bskP sem (I 2) (I 3) m (I 5 2) (I (5 + 2 + k)) 0 n + bskP sem (I 2) (I 3) m (I 5 2) (I (5 + 2 + k)) ((1 : Int32) <<< (nI g &&& 31)) n) (bshP sem (I 2) (I 3) m M (I 5 2) (fun j => I (5 + 2 + j)) n) (k + 1)) = (mxS (fun k => if k < M then wlI sem (I 2) (I 3) m (I (5 + 2 + k)) (nI g) (I 5 2) else 0) (fun k => bshP sem (I 2) (I 3) m M (I 5 2) (fun j => I (5 + 2 + j)) n - bskP sem (I 2) (I 3) m (I 5 2) (I (5 + 2 + k)) 0 n + bskP sem (I 2) (I 3) m (I 5 2) (I (5 + 2 + k)) ((1 : Int32) <<< (nI g &&& 31)) n) (bshP sem (I 2) (I 3) m M (I 5 2) (fun j => I (5 + 2 + j)) n) k) from if_neg (fun h_ => h_.1 hok)]
          · refine s_aload_n (tb_ok aX7_whom_1 18 rfl) rfl ?_
            refine s_aload (tb_ok aX7_whom_1 19 rfl) rfl ?_
            refine s_iconst (v := 0) (tb_ok aX7_whom_1 20 rfl) (by decide) ?_
            refine s_iload_n (tb_ok aX7_whom_1 21 rfl) rfl ?_
            refine s_cV (as := [.ref (5 + 2 + k), .int (0), .int (nI n)]) (tb_ok aX7_whom_1 22 rfl) v_RX7_242 (C_bsk h (AgV.tr hi hA1) hk5 _ hn) (by decide) rfl rfl rfl rfl rfl (Nat.le_of_ble_eq_true rfl) (by decide) (fun r2 S2 I2 L2 R2 q2 => ?_)
            obtain ⟨rfl, rfl, hA2, rfl, rfl⟩ := q2
            refine s_name (fun x1 ex1 => ?_)
            refine s_istore (ls' := [some (.ref 0), some (.int (nI g)), some (.int (nI n)), some (.int (0)), some (.int (bshP sem (I 2) (I 3) m M (I 5 2) (fun j => I (5 + 2 + j)) n)), some (.int (mxS (fun k => if k < M then wlI sem (I 2) (I 3) m (I (5 + 2 + k)) (nI g) (I 5 2) else 0) (fun k => bshP sem (I 2) (I 3) m M (I 5 2) (fun j => I (5 + 2 + j)) n - bskP sem (I 2) (I 3) m (I 5 2) (I (5 + 2 + k)) 0 n + bskP sem (I 2) (I 3) m (I 5 2) (I (5 + 2 + k)) ((1 : Int32) <<< (nI g &&& 31)) n) (bshP sem (I 2) (I 3) m M (I 5 2) (fun j => I (5 + 2 + j)) n) k).2), some (.int (mxS (fun k => if k < M then wlI sem (I 2) (I 3) m (I (5 + 2 + k)) (nI g) (I 5 2) else 0) (fun k => bshP sem (I 2) (I 3) m M (I 5 2) (fun j => I (5 + 2 + j)) n - bskP sem (I 2) (I 3) m (I 5 2) (I (5 + 2 + k)) 0 n + bskP sem (I 2) (I 3) m (I 5 2) (I (5 + 2 + k)) ((1 : Int32) <<< (nI g &&& 31)) n) (bshP sem (I 2) (I 3) m M (I 5 2) (fun j => I (5 + 2 + j)) n) k).1), some (.int (nI k)), some (.ref (5 + 2 + k)), some (.int x1), o10]) (tb_ok aX7_whom_1 23 rfl) rfl rfl ?_
            refine s_iload (tb_ok aX7_whom_2 0 rfl) rfl ?_
            refine s_iload (tb_ok aX7_whom_2 1 rfl) rfl ?_
            refine s_isub (tb_ok aX7_whom_2 2 rfl) ?_
            refine s_aload_n (tb_ok aX7_whom_2 3 rfl) rfl ?_
            refine s_aload (tb_ok aX7_whom_2 4 rfl) rfl ?_
            refine s_iconst (v := 1) (tb_ok aX7_whom_2 5 rfl) (by decide) ?_
            refine s_iload_n (tb_ok aX7_whom_2 6 rfl) rfl ?_
            refine s_ishl (tb_ok aX7_whom_2 7 rfl) ?_
            refine s_iload_n (tb_ok aX7_whom_2 8 rfl) rfl ?_
            refine s_cV (as := [.ref (5 + 2 + k), _, .int (nI n)]) (tb_ok aX7_whom_2 9 rfl) v_RX7_242 (C_bsk h (AgV.tr (AgV.tr hi hA1) hA2) hk5 _ hn) (by decide) rfl rfl rfl rfl rfl (Nat.le_of_ble_eq_true rfl) (by decide) (fun r3 S3 I3 L3 R3 q3 => ?_)
            obtain ⟨rfl, rfl, hA3, rfl, rfl⟩ := q3
            refine s_iadd (tb_ok aX7_whom_2 10 rfl) ?_
            refine s_name (fun x2 ex2 => ?_)
            refine s_istore (ls' := [some (.ref 0), some (.int (nI g)), some (.int (nI n)), some (.int (0)), some (.int (bshP sem (I 2) (I 3) m M (I 5 2) (fun j => I (5 + 2 + j)) n)), some (.int (mxS (fun k => if k < M then wlI sem (I 2) (I 3) m (I (5 + 2 + k)) (nI g) (I 5 2) else 0) (fun k => bshP sem (I 2) (I 3) m M (I 5 2) (fun j => I (5 + 2 + j)) n - bskP sem (I 2) (I 3) m (I 5 2) (I (5 + 2 + k)) 0 n + bskP sem (I 2) (I 3) m (I 5 2) (I (5 + 2 + k)) ((1 : Int32) <<< (nI g &&& 31)) n) (bshP sem (I 2) (I 3) m M (I 5 2) (fun j => I (5 + 2 + j)) n) k).2), some (.int (mxS (fun k => if k < M then wlI sem (I 2) (I 3) m (I (5 + 2 + k)) (nI g) (I 5 2) else 0) (fun k => bshP sem (I 2) (I 3) m M (I 5 2) (fun j => I (5 + 2 + j)) n - bskP sem (I 2) (I 3) m (I 5 2) (I (5 + 2 + k)) 0 n + bskP sem (I 2) (I 3) m (I 5 2) (I (5 + 2 + k)) ((1 : Int32) <<< (nI g &&& 31)) n) (bshP sem (I 2) (I 3) m M (I 5 2) (fun j => I (5 + 2 + j)) n) k).1), some (.int (nI k)), some (.ref (5 + 2 + k)), some (.int x1), some (.int x2)]) (tb_ok aX7_whom_2 11 rfl) rfl rfl ?_
            refine s_iload (tb_ok aX7_whom_2 12 rfl) rfl ?_
            refine s_iload (tb_ok aX7_whom_2 13 rfl) rfl ?_
            refine s_icmp_le (tgt := 128) (tb_ok aX7_whom_2 14 rfl) (by decide) (fun c117 => ?_) (fun c117 => ?_)
            · refine s_iinc (v := nI (k + 1)) (ls' := [some (.ref 0), some (.int (nI g)), some (.int (nI n)), some (.int (0)), some (.int (bshP sem (I 2) (I 3) m M (I 5 2) (fun j => I (5 + 2 + j)) n)), some (.int (mxS (fun k => if k < M then wlI sem (I 2) (I 3) m (I (5 + 2 + k)) (nI g) (I 5 2) else 0) (fun k => bshP sem (I 2) (I 3) m M (I 5 2) (fun j => I (5 + 2 + j)) n - bskP sem (I 2) (I 3) m (I 5 2) (I (5 + 2 + k)) 0 n + bskP sem (I 2) (I 3) m (I 5 2) (I (5 + 2 + k)) ((1 : Int32) <<< (nI g &&& 31)) n) (bshP sem (I 2) (I 3) m M (I 5 2) (fun j => I (5 + 2 + j)) n) k).2), some (.int (mxS (fun k => if k < M then wlI sem (I 2) (I 3) m (I (5 + 2 + k)) (nI g) (I 5 2) else 0) (fun k => bshP sem (I 2) (I 3) m M (I 5 2) (fun j => I (5 + 2 + j)) n - bskP sem (I 2) (I 3) m (I 5 2) (I (5 + 2 + k)) 0 n + bskP sem (I 2) (I 3) m (I 5 2) (I (5 + 2 + k)) ((1 : Int32) <<< (nI g &&& 31)) n) (bshP sem (I 2) (I 3) m M (I 5 2) (fun j => I (5 + 2 + j)) n) k).1), some (.int (nI (k + 1))), some (.ref (5 + 2 + k)), some (.int x1), some (.int x2)]) (tb_ok aX7_whom_2 19 rfl) rfl (nI_1 _) rfl rfl ?_
              refine s_goto (tgt := 43) (tb_ok aX7_whom_2 20 rfl) (by decide) ?_
              have ev : x2 = bshP sem (I 2) (I 3) m M (I 5 2) (fun j => I (5 + 2 + j)) n - bskP sem (I 2) (I 3) m (I 5 2) (I (5 + 2 + k)) 0 n + bskP sem (I 2) (I 3) m (I 5 2) (I (5 + 2 + k)) ((1 : Int32) <<< (nI g &&& 31)) n := by rw [ex2, ex1]
              have hok : ¬ (if k < M then wlI sem (I 2) (I 3) m (I (5 + 2 + k)) (nI g) (I 5 2) else 0) = 0 := by rw [if_pos hkM]; exact c82
              rw [ev] at c117
              refine s_ls ?_ (ih _ (some (.ref (5 + 2 + k))) (some (.int x1)) (some (.int x2)) (AgV.tr (AgV.tr (AgV.tr hi hA1) hA2) hA3))
              rw [show (mxS (fun k => if k < M then wlI sem (I 2) (I 3) m (I (5 + 2 + k)) (nI g) (I 5 2) else 0) (fun k => bshP sem (I 2) (I 3) m M (I 5 2) (fun j => I (5 + 2 + j)) n - bskP sem (I 2) (I 3) m (I 5 2) (I (5 + 2 + k)) 0 n + bskP sem (I 2) (I 3) m (I 5 2) (I (5 + 2 + k)) ((1 : Int32) <<< (nI g &&& 31)) n) (bshP sem (I 2) (I 3) m M (I 5 2) (fun j => I (5 + 2 + j)) n) (k + 1)) = (mxS (fun k => if k < M then wlI sem (I 2) (I 3) m (I (5 + 2 + k)) (nI g) (I 5 2) else 0) (fun k => bshP sem (I 2) (I 3) m M (I 5 2) (fun j => I (5 + 2 + j)) n - bskP sem (I 2) (I 3) m (I 5 2) (I (5 + 2 + k)) 0 n + bskP sem (I 2) (I 3) m (I 5 2) (I (5 + 2 + k)) ((1 : Int32) <<< (nI g &&& 31)) n) (bshP sem (I 2) (I 3) m M (I 5 2) (fun j => I (5 + 2 + j)) n) k) from if_neg (fun h_ => Int32.not_lt.mpr c117 h_.2)]
            · refine s_iload (tb_ok aX7_whom_2 15 rfl) rfl ?_
              refine s_istore (ls' := [some (.ref 0), some (.int (nI g)), some (.int (nI n)), some (.int (0)), some (.int (bshP sem (I 2) (I 3) m M (I 5 2) (fun j => I (5 + 2 + j)) n)), some (.int x2), some (.int (mxS (fun k => if k < M then wlI sem (I 2) (I 3) m (I (5 + 2 + k)) (nI g) (I 5 2) else 0) (fun k => bshP sem (I 2) (I 3) m M (I 5 2) (fun j => I (5 + 2 + j)) n - bskP sem (I 2) (I 3) m (I 5 2) (I (5 + 2 + k)) 0 n + bskP sem (I 2) (I 3) m (I 5 2) (I (5 + 2 + k)) ((1 : Int32) <<< (nI g &&& 31)) n) (bshP sem (I 2) (I 3) m M (I 5 2) (fun j => I (5 + 2 + j)) n) k).1), some (.int (nI k)), some (.ref (5 + 2 + k)), some (.int x1), some (.int x2)]) (tb_ok aX7_whom_2 16 rfl) rfl rfl ?_
              refine s_iload (tb_ok aX7_whom_2 17 rfl) rfl ?_
              refine s_istore (ls' := [some (.ref 0), some (.int (nI g)), some (.int (nI n)), some (.int (0)), some (.int (bshP sem (I 2) (I 3) m M (I 5 2) (fun j => I (5 + 2 + j)) n)), some (.int x2), some (.int (nI k)), some (.int (nI k)), some (.ref (5 + 2 + k)), some (.int x1), some (.int x2)]) (tb_ok aX7_whom_2 18 rfl) rfl rfl ?_
              refine s_iinc (v := nI (k + 1)) (ls' := [some (.ref 0), some (.int (nI g)), some (.int (nI n)), some (.int (0)), some (.int (bshP sem (I 2) (I 3) m M (I 5 2) (fun j => I (5 + 2 + j)) n)), some (.int x2), some (.int (nI k)), some (.int (nI (k + 1))), some (.ref (5 + 2 + k)), some (.int x1), some (.int x2)]) (tb_ok aX7_whom_2 19 rfl) rfl (nI_1 _) rfl rfl ?_
              refine s_goto (tgt := 43) (tb_ok aX7_whom_2 20 rfl) (by decide) ?_
              have ev : x2 = bshP sem (I 2) (I 3) m M (I 5 2) (fun j => I (5 + 2 + j)) n - bskP sem (I 2) (I 3) m (I 5 2) (I (5 + 2 + k)) 0 n + bskP sem (I 2) (I 3) m (I 5 2) (I (5 + 2 + k)) ((1 : Int32) <<< (nI g &&& 31)) n := by rw [ex2, ex1]
              have hok : ¬ (if k < M then wlI sem (I 2) (I 3) m (I (5 + 2 + k)) (nI g) (I 5 2) else 0) = 0 := by rw [if_pos hkM]; exact c82
              rw [ev] at c117
              refine s_ls ?_ (ih _ (some (.ref (5 + 2 + k))) (some (.int x1)) (some (.int x2)) (AgV.tr (AgV.tr (AgV.tr hi hA1) hA2) hA3))
              rw [show (mxS (fun k => if k < M then wlI sem (I 2) (I 3) m (I (5 + 2 + k)) (nI g) (I 5 2) else 0) (fun k => bshP sem (I 2) (I 3) m M (I 5 2) (fun j => I (5 + 2 + j)) n - bskP sem (I 2) (I 3) m (I 5 2) (I (5 + 2 + k)) 0 n + bskP sem (I 2) (I 3) m (I 5 2) (I (5 + 2 + k)) ((1 : Int32) <<< (nI g &&& 31)) n) (bshP sem (I 2) (I 3) m M (I 5 2) (fun j => I (5 + 2 + j)) n) (k + 1)) = (nI k, bshP sem (I 2) (I 3) m M (I 5 2) (fun j => I (5 + 2 + j)) n - bskP sem (I 2) (I 3) m (I 5 2) (I (5 + 2 + k)) 0 n + bskP sem (I 2) (I 3) m (I 5 2) (I (5 + 2 + k)) ((1 : Int32) <<< (nI g &&& 31)) n) from if_pos ⟨hok, Int32.not_le.mp c117⟩, ev]
      · refine s_iload (tb_ok aX7_whom_0 23 rfl) rfl ?_
        refine s_iconst (v := nI 5) (tb_ok aX7_whom_1 0 rfl) (by decide) ?_
        refine s_icmp_ge (tgt := 134) (tb_ok aX7_whom_1 1 rfl) (by decide) (fun c46 => ?_) (fun c46 => ?_)
        · simp (disch := omega) only [nI_ltI, nI_leI, nI_eq] at c46
          omega
        · refine s_aload_n (tb_ok aX7_whom_1 2 rfl) rfl ?_
          refine s_getR (r := 5) (tb_ok aX7_whom_1 3 rfl) f_RX7_19 rfl rfl rfl ?_
          refine s_iload (tb_ok aX7_whom_1 4 rfl) rfl ?_
          refine s_cVp (as := [.int (nI k)]) (tb_ok aX7_whom_1 5 rfl) v_RX7_115 (E_atN (orch5 q) (M := M) ((congrFun (hi 5 (by decide)) 1).trans hM) hM5 (Or.inr (by simp (disch := omega) only [nI_leI]; omega))) (by decide) rfl rfl rfl rfl rfl (Nat.le_of_ble_eq_true rfl) (by decide) ?_
          refine s_astoreN (ls' := [some (.ref 0), some (.int (nI g)), some (.int (nI n)), some (.int (0)), some (.int (bshP sem (I 2) (I 3) m M (I 5 2) (fun j => I (5 + 2 + j)) n)), some (.int (mxS (fun k => if k < M then wlI sem (I 2) (I 3) m (I (5 + 2 + k)) (nI g) (I 5 2) else 0) (fun k => bshP sem (I 2) (I 3) m M (I 5 2) (fun j => I (5 + 2 + j)) n - bskP sem (I 2) (I 3) m (I 5 2) (I (5 + 2 + k)) 0 n + bskP sem (I 2) (I 3) m (I 5 2) (I (5 + 2 + k)) ((1 : Int32) <<< (nI g &&& 31)) n) (bshP sem (I 2) (I 3) m M (I 5 2) (fun j => I (5 + 2 + j)) n) k).2), some (.int (mxS (fun k => if k < M then wlI sem (I 2) (I 3) m (I (5 + 2 + k)) (nI g) (I 5 2) else 0) (fun k => bshP sem (I 2) (I 3) m M (I 5 2) (fun j => I (5 + 2 + j)) n - bskP sem (I 2) (I 3) m (I 5 2) (I (5 + 2 + k)) 0 n + bskP sem (I 2) (I 3) m (I 5 2) (I (5 + 2 + k)) ((1 : Int32) <<< (nI g &&& 31)) n) (bshP sem (I 2) (I 3) m M (I 5 2) (fun j => I (5 + 2 + j)) n) k).1), some (.int (nI k)), some (.null), o9, o10]) (tb_ok aX7_whom_1 6 rfl) rfl rfl ?_
          refine s_aloadq (r := none) (tb_ok aX7_whom_1 7 rfl) rfl ?_
          refine s_ifnullN (tgt := 128) (tb_ok aX7_whom_1 8 rfl) (by decide) ?_
          refine s_iinc (v := nI (k + 1)) (ls' := [some (.ref 0), some (.int (nI g)), some (.int (nI n)), some (.int (0)), some (.int (bshP sem (I 2) (I 3) m M (I 5 2) (fun j => I (5 + 2 + j)) n)), some (.int (mxS (fun k => if k < M then wlI sem (I 2) (I 3) m (I (5 + 2 + k)) (nI g) (I 5 2) else 0) (fun k => bshP sem (I 2) (I 3) m M (I 5 2) (fun j => I (5 + 2 + j)) n - bskP sem (I 2) (I 3) m (I 5 2) (I (5 + 2 + k)) 0 n + bskP sem (I 2) (I 3) m (I 5 2) (I (5 + 2 + k)) ((1 : Int32) <<< (nI g &&& 31)) n) (bshP sem (I 2) (I 3) m M (I 5 2) (fun j => I (5 + 2 + j)) n) k).2), some (.int (mxS (fun k => if k < M then wlI sem (I 2) (I 3) m (I (5 + 2 + k)) (nI g) (I 5 2) else 0) (fun k => bshP sem (I 2) (I 3) m M (I 5 2) (fun j => I (5 + 2 + j)) n - bskP sem (I 2) (I 3) m (I 5 2) (I (5 + 2 + k)) 0 n + bskP sem (I 2) (I 3) m (I 5 2) (I (5 + 2 + k)) ((1 : Int32) <<< (nI g &&& 31)) n) (bshP sem (I 2) (I 3) m M (I 5 2) (fun j => I (5 + 2 + j)) n) k).1), some (.int (nI (k + 1))), some (.null), o9, o10]) (tb_ok aX7_whom_2 19 rfl) rfl (nI_1 _) rfl rfl ?_
          refine s_goto (tgt := 43) (tb_ok aX7_whom_2 20 rfl) (by decide) ?_
          have hok : (if k < M then wlI sem (I 2) (I 3) m (I (5 + 2 + k)) (nI g) (I 5 2) else 0) = 0 := if_neg hkM
          refine s_ls ?_ (ih _ (some (.null)) (o9) (o10) hi)
          rw [show (mxS (fun k => if k < M then wlI sem (I 2) (I 3) m (I (5 + 2 + k)) (nI g) (I 5 2) else 0) (fun k => bshP sem (I 2) (I 3) m M (I 5 2) (fun j => I (5 + 2 + j)) n - bskP sem (I 2) (I 3) m (I 5 2) (I (5 + 2 + k)) 0 n + bskP sem (I 2) (I 3) m (I 5 2) (I (5 + 2 + k)) ((1 : Int32) <<< (nI g &&& 31)) n) (bshP sem (I 2) (I 3) m M (I 5 2) (fun j => I (5 + 2 + j)) n) (k + 1)) = (mxS (fun k => if k < M then wlI sem (I 2) (I 3) m (I (5 + 2 + k)) (nI g) (I 5 2) else 0) (fun k => bshP sem (I 2) (I 3) m M (I 5 2) (fun j => I (5 + 2 + j)) n - bskP sem (I 2) (I 3) m (I 5 2) (I (5 + 2 + k)) 0 n + bskP sem (I 2) (I 3) m (I 5 2) (I (5 + 2 + k)) ((1 : Int32) <<< (nI g &&& 31)) n) (bshP sem (I 2) (I 3) m M (I 5 2) (fun j => I (5 + 2 + j)) n) k) from if_neg (fun h_ => h_.1 hok)]
  refine ev_of (by decide +kernel) rfl ?_
  show SW X _ _ _ 0 [some (.ref 0), some (.int (nI g)), some (.int (nI n)), some (.int (0)), none, none, none, none, none, none, none] [] S0 I L (R0 q) _
  refine s_iload_n (tb_ok aX7_whom_0 0 rfl) rfl ?_
  refine s_cSp (as := [.int (nI g)]) (tb_ok aX7_whom_0 1 rfl) v_RX7_108 (E_isFact _) (by decide) rfl rfl (Nat.le_of_ble_eq_true rfl) ?_
  refine s_topi (bI_t ⟨nI_pos (by omega), by rw [show (12 : Int32) = nI 12 from rfl]; simp (disch := omega) only [nI_ltI]; omega⟩) ?_
  refine s_if_eq (tgt := 23) (tb_ok aX7_whom_0 2 rfl) (by decide) (fun c4 => ?_) (fun c4 => ?_)
  · exact absurd c4 (by decide)
  · refine s_iload_n (tb_ok aX7_whom_0 3 rfl) rfl ?_
    refine s_cSp (as := [.int (nI n)]) (tb_ok aX7_whom_0 4 rfl) v_RX7_213 (E_isDays _) (by decide) rfl rfl (Nat.le_of_ble_eq_true rfl) ?_
    refine s_topi (bI_t ⟨nI_pos (by omega), by rw [show (40 : Int32) = nI 40 from rfl]; simp (disch := omega) only [nI_leI]; omega⟩) ?_
    refine s_if_eq (tgt := 23) (tb_ok aX7_whom_0 5 rfl) (by decide) (fun c11 => ?_) (fun c11 => ?_)
    · exact absurd c11 (by decide)
    · refine s_iload_n (tb_ok aX7_whom_0 6 rfl) rfl ?_
      refine s_if_lt (tgt := 23) (tb_ok aX7_whom_0 7 rfl) (by decide) (fun c15 => ?_) (fun c15 => ?_)
      · exact absurd c15 (by decide)
      · refine s_iload_n (tb_ok aX7_whom_0 8 rfl) rfl ?_
        refine s_iconst (v := 1) (tb_ok aX7_whom_0 9 rfl) (by decide) ?_
        refine s_icmp_le (tgt := 26) (tb_ok aX7_whom_0 10 rfl) (by decide) (fun c20 => ?_) (fun c20 => ?_)
        · refine s_aload_n (tb_ok aX7_whom_0 13 rfl) rfl ?_
          refine s_iload_n (tb_ok aX7_whom_0 14 rfl) rfl ?_
          refine s_cV (as := [.int (nI n)]) (tb_ok aX7_whom_0 15 rfl) v_RX7_216 (E_basketsBehind hM hM5 hm hm10 hri hq hs hn) (by decide) rfl rfl rfl rfl rfl (Nat.le_of_ble_eq_true rfl) (by decide) (fun r1 S1 I1 L1 R1 q1 => ?_)
          obtain ⟨rfl, rfl, hA, rfl, rfl⟩ := q1
          refine s_name (fun x1 ex1 => ?_)
          refine s_istore (ls' := [some (.ref 0), some (.int (nI g)), some (.int (nI n)), some (.int (0)), some (.int x1), none, none, none, none, none, none]) (tb_ok aX7_whom_0 16 rfl) rfl rfl ?_
          refine s_iload (tb_ok aX7_whom_0 17 rfl) rfl ?_
          refine s_istore (ls' := [some (.ref 0), some (.int (nI g)), some (.int (nI n)), some (.int (0)), some (.int x1), some (.int x1), none, none, none, none, none]) (tb_ok aX7_whom_0 18 rfl) rfl rfl ?_
          refine s_iconst (v := -1) (tb_ok aX7_whom_0 19 rfl) (by decide) ?_
          refine s_istore (ls' := [some (.ref 0), some (.int (nI g)), some (.int (nI n)), some (.int (0)), some (.int x1), some (.int x1), some (.int (-1)), none, none, none, none]) (tb_ok aX7_whom_0 20 rfl) rfl rfl ?_
          refine s_iconst (v := nI 0) (tb_ok aX7_whom_0 21 rfl) (by decide) ?_
          refine s_istore (ls' := [some (.ref 0), some (.int (nI g)), some (.int (nI n)), some (.int (0)), some (.int x1), some (.int x1), some (.int (-1)), some (.int (nI 0)), none, none, none]) (tb_ok aX7_whom_0 22 rfl) rfl rfl ?_
          subst ex1
          exact loop 0 (Nat.zero_le _) _ _ _ _ hA
        · exact absurd c20 (by decide)

set_option maxRecDepth 100000 in
set_option maxHeartbeats 1000000 in
theorem C_whom1 {X : En} {I : FI} {L : FL} {q : Nat × Nat} {m M ri : Nat} {sem : Nat → Sem} (h : CSt I q m M ri sem) {g : Nat} (hg : g < 12) {n : Nat} (hn : n ≤ 40) : Ev X 9 mX7_whom (0, 0) [.ref 0, .int (nI g), .int (nI n), .int (1)] S0 I L (R0 q) (AgLR (some (.int (mxS (fun k => if k < M then wlI sem (I 2) (I 3) m (I (5 + 2 + k)) (nI g) (I 5 2) else 0) (fun k => bshP sem (I 2) (I 3) m M (I 5 2) (fun j => I (5 + 2 + j)) n - bskP sem (I 2) (I 3) m (I 5 2) (I (5 + 2 + k)) 0 n + bskP sem (I 2) (I 3) m (I 5 2) (I (5 + 2 + k)) ((1 : Int32) <<< (nI g &&& 31)) n) (bshP sem (I 2) (I 3) m M (I 5 2) (fun j => I (5 + 2 + j)) n) 5).2)) I L q) := by
  obtain ⟨hm, hm10, hM, hM5, hri, hq, hs⟩ := id h
  have loop : ∀ k, k ≤ 5 → ∀ (J : FI), ∀ (o8 o9 o10 : Option Value), (AgV I J) → SW X 9 mX7_whom (0, 0) 43 [some (.ref 0), some (.int (nI g)), some (.int (nI n)), some (.int (1)), some (.int (bshP sem (I 2) (I 3) m M (I 5 2) (fun j => I (5 + 2 + j)) n)), some (.int (mxS (fun k => if k < M then wlI sem (I 2) (I 3) m (I (5 + 2 + k)) (nI g) (I 5 2) else 0) (fun k => bshP sem (I 2) (I 3) m M (I 5 2) (fun j => I (5 + 2 + j)) n - bskP sem (I 2) (I 3) m (I 5 2) (I (5 + 2 + k)) 0 n + bskP sem (I 2) (I 3) m (I 5 2) (I (5 + 2 + k)) ((1 : Int32) <<< (nI g &&& 31)) n) (bshP sem (I 2) (I 3) m M (I 5 2) (fun j => I (5 + 2 + j)) n) k).2), some (.int (mxS (fun k => if k < M then wlI sem (I 2) (I 3) m (I (5 + 2 + k)) (nI g) (I 5 2) else 0) (fun k => bshP sem (I 2) (I 3) m M (I 5 2) (fun j => I (5 + 2 + j)) n - bskP sem (I 2) (I 3) m (I 5 2) (I (5 + 2 + k)) 0 n + bskP sem (I 2) (I 3) m (I 5 2) (I (5 + 2 + k)) ((1 : Int32) <<< (nI g &&& 31)) n) (bshP sem (I 2) (I 3) m M (I 5 2) (fun j => I (5 + 2 + j)) n) k).1), some (.int (nI k)), o8, o9, o10] [] S0 J L (R0 q) (KQ X (AgLR (some (.int (mxS (fun k => if k < M then wlI sem (I 2) (I 3) m (I (5 + 2 + k)) (nI g) (I 5 2) else 0) (fun k => bshP sem (I 2) (I 3) m M (I 5 2) (fun j => I (5 + 2 + j)) n - bskP sem (I 2) (I 3) m (I 5 2) (I (5 + 2 + k)) 0 n + bskP sem (I 2) (I 3) m (I 5 2) (I (5 + 2 + k)) ((1 : Int32) <<< (nI g &&& 31)) n) (bshP sem (I 2) (I 3) m M (I 5 2) (fun j => I (5 + 2 + j)) n) 5).2)) I L q)) := by
    refine for_up (P := fun k => ∀ (J : FI), ∀ (o8 o9 o10 : Option Value), (AgV I J) → SW X 9 mX7_whom (0, 0) 43 [some (.ref 0), some (.int (nI g)), some (.int (nI n)), some (.int (1)), some (.int (bshP sem (I 2) (I 3) m M (I 5 2) (fun j => I (5 + 2 + j)) n)), some (.int (mxS (fun k => if k < M then wlI sem (I 2) (I 3) m (I (5 + 2 + k)) (nI g) (I 5 2) else 0) (fun k => bshP sem (I 2) (I 3) m M (I 5 2) (fun j => I (5 + 2 + j)) n - bskP sem (I 2) (I 3) m (I 5 2) (I (5 + 2 + k)) 0 n + bskP sem (I 2) (I 3) m (I 5 2) (I (5 + 2 + k)) ((1 : Int32) <<< (nI g &&& 31)) n) (bshP sem (I 2) (I 3) m M (I 5 2) (fun j => I (5 + 2 + j)) n) k).2), some (.int (mxS (fun k => if k < M then wlI sem (I 2) (I 3) m (I (5 + 2 + k)) (nI g) (I 5 2) else 0) (fun k => bshP sem (I 2) (I 3) m M (I 5 2) (fun j => I (5 + 2 + j)) n - bskP sem (I 2) (I 3) m (I 5 2) (I (5 + 2 + k)) 0 n + bskP sem (I 2) (I 3) m (I 5 2) (I (5 + 2 + k)) ((1 : Int32) <<< (nI g &&& 31)) n) (bshP sem (I 2) (I 3) m M (I 5 2) (fun j => I (5 + 2 + j)) n) k).1), some (.int (nI k)), o8, o9, o10] [] S0 J L (R0 q) (KQ X (AgLR (some (.int (mxS (fun k => if k < M then wlI sem (I 2) (I 3) m (I (5 + 2 + k)) (nI g) (I 5 2) else 0) (fun k => bshP sem (I 2) (I 3) m M (I 5 2) (fun j => I (5 + 2 + j)) n - bskP sem (I 2) (I 3) m (I 5 2) (I (5 + 2 + k)) 0 n + bskP sem (I 2) (I 3) m (I 5 2) (I (5 + 2 + k)) ((1 : Int32) <<< (nI g &&& 31)) n) (bshP sem (I 2) (I 3) m M (I 5 2) (fun j => I (5 + 2 + j)) n) 5).2)) I L q))) 5 ?_ ?_
    · intro J o8 o9 o10 hi
      refine s_iload (tb_ok aX7_whom_0 23 rfl) rfl ?_
      refine s_iconst (v := nI 5) (tb_ok aX7_whom_1 0 rfl) (by decide) ?_
      refine s_icmp_ge (tgt := 134) (tb_ok aX7_whom_1 1 rfl) (by decide) (fun c46 => ?_) (fun c46 => ?_)
      · refine s_iload_n (tb_ok aX7_whom_2 21 rfl) rfl ?_
        refine s_if_ne (tgt := 143) (tb_ok aX7_whom_2 22 rfl) (by decide) (fun c135 => ?_) (fun c135 => ?_)
        · refine s_iload (tb_ok aX7_whom_3 1 rfl) rfl ?_
          refine s_iret (tb_ok aX7_whom_3 2 rfl) rfl ?_
          exact ⟨rfl, rfl, AgV.l hi, rfl, rfl⟩
        · exact absurd c135 (by decide)
      · exact absurd c46 (by decide)
    · intro k hk ih J o8 o9 o10 hi
      have hk5 : k < 5 := hk
      have hobk : S0[5 + 2 + k]? = some (5, 5) := ((orch5 q).2.2.2.1 k hk5).2
      by_cases hkM : k < M
      · refine s_iload (tb_ok aX7_whom_0 23 rfl) rfl ?_
        refine s_iconst (v := nI 5) (tb_ok aX7_whom_1 0 rfl) (by decide) ?_
        refine s_icmp_ge (tgt := 134) (tb_ok aX7_whom_1 1 rfl) (by decide) (fun c46 => ?_) (fun c46 => ?_)
        · simp (disch := omega) only [nI_ltI, nI_leI, nI_eq] at c46
          omega
        · refine s_aload_n (tb_ok aX7_whom_1 2 rfl) rfl ?_
          refine s_getR (r := 5) (tb_ok aX7_whom_1 3 rfl) f_RX7_19 rfl rfl rfl ?_
          refine s_iload (tb_ok aX7_whom_1 4 rfl) rfl ?_
          refine s_cVp (as := [.int (nI k)]) (tb_ok aX7_whom_1 5 rfl) v_RX7_115 (E_at (orch5 q) (M := M) ((congrFun (AgV.tr AgV.rf hi 5 (by decide)) 1).trans hM) hM5 hkM) (by decide) rfl rfl rfl rfl rfl (Nat.le_of_ble_eq_true rfl) (by decide) ?_
          refine s_astore (ls' := [some (.ref 0), some (.int (nI g)), some (.int (nI n)), some (.int (1)), some (.int (bshP sem (I 2) (I 3) m M (I 5 2) (fun j => I (5 + 2 + j)) n)), some (.int (mxS (fun k => if k < M then wlI sem (I 2) (I 3) m (I (5 + 2 + k)) (nI g) (I 5 2) else 0) (fun k => bshP sem (I 2) (I 3) m M (I 5 2) (fun j => I (5 + 2 + j)) n - bskP sem (I 2) (I 3) m (I 5 2) (I (5 + 2 + k)) 0 n + bskP sem (I 2) (I 3) m (I 5 2) (I (5 + 2 + k)) ((1 : Int32) <<< (nI g &&& 31)) n) (bshP sem (I 2) (I 3) m M (I 5 2) (fun j => I (5 + 2 + j)) n) k).2), some (.int (mxS (fun k => if k < M then wlI sem (I 2) (I 3) m (I (5 + 2 + k)) (nI g) (I 5 2) else 0) (fun k => bshP sem (I 2) (I 3) m M (I 5 2) (fun j => I (5 + 2 + j)) n - bskP sem (I 2) (I 3) m (I 5 2) (I (5 + 2 + k)) 0 n + bskP sem (I 2) (I 3) m (I 5 2) (I (5 + 2 + k)) ((1 : Int32) <<< (nI g &&& 31)) n) (bshP sem (I 2) (I 3) m M (I 5 2) (fun j => I (5 + 2 + j)) n) k).1), some (.int (nI k)), some (.ref (5 + 2 + k)), o9, o10]) (tb_ok aX7_whom_1 6 rfl) rfl rfl ?_
          refine s_aload (tb_ok aX7_whom_1 7 rfl) rfl ?_
          refine s_ifnull (tb_ok aX7_whom_1 8 rfl) ?_
          refine s_aload_n (tb_ok aX7_whom_1 9 rfl) rfl ?_
          refine s_getR (r := 64) (tb_ok aX7_whom_1 10 rfl) f_RX7_101 rfl rfl rfl ?_
          refine s_aload (tb_ok aX7_whom_1 11 rfl) rfl ?_
          refine s_iload_n (tb_ok aX7_whom_1 12 rfl) rfl ?_
          refine s_aload_n (tb_ok aX7_whom_1 13 rfl) rfl ?_
          refine s_getR (r := 5) (tb_ok aX7_whom_1 14 rfl) f_RX7_19 rfl rfl rfl ?_
          refine s_getI (tb_ok aX7_whom_1 15 rfl) f_RX7_127 rfl rfl rfl ?_
          refine s_cV (as := [.ref (5 + 2 + k), .int (nI g), _]) (tb_ok aX7_whom_1 16 rfl) v_RX7_245 (C_wl h hi hk5 _) (by decide) rfl rfl rfl rfl rfl (Nat.le_of_ble_eq_true rfl) (by decide) (fun r1 S1 I1 L1 R1 q1 => ?_)
          obtain ⟨rfl, rfl, hA1, rfl, rfl⟩ := q1
          refine s_if_eq (tgt := 128) (tb_ok aX7_whom_1 17 rfl) (by decide) (fun c82 => ?_) (fun c82 => ?_)
          · refine s_iinc (v := nI (k + 1)) (ls' := [some (.ref 0), some (.int (nI g)), some (.int (nI n)), some (.int (1)), some (.int (bshP sem (I 2) (I 3) m M (I 5 2) (fun j => I (5 + 2 + j)) n)), some (.int (mxS (fun k => if k < M then wlI sem (I 2) (I 3) m (I (5 + 2 + k)) (nI g) (I 5 2) else 0) (fun k => bshP sem (I 2) (I 3) m M (I 5 2) (fun j => I (5 + 2 + j)) n - bskP sem (I 2) (I 3) m (I 5 2) (I (5 + 2 + k)) 0 n + bskP sem (I 2) (I 3) m (I 5 2) (I (5 + 2 + k)) ((1 : Int32) <<< (nI g &&& 31)) n) (bshP sem (I 2) (I 3) m M (I 5 2) (fun j => I (5 + 2 + j)) n) k).2), some (.int (mxS (fun k => if k < M then wlI sem (I 2) (I 3) m (I (5 + 2 + k)) (nI g) (I 5 2) else 0) (fun k => bshP sem (I 2) (I 3) m M (I 5 2) (fun j => I (5 + 2 + j)) n - bskP sem (I 2) (I 3) m (I 5 2) (I (5 + 2 + k)) 0 n + bskP sem (I 2) (I 3) m (I 5 2) (I (5 + 2 + k)) ((1 : Int32) <<< (nI g &&& 31)) n) (bshP sem (I 2) (I 3) m M (I 5 2) (fun j => I (5 + 2 + j)) n) k).1), some (.int (nI (k + 1))), some (.ref (5 + 2 + k)), o9, o10]) (tb_ok aX7_whom_2 19 rfl) rfl (nI_1 _) rfl rfl ?_
            refine s_goto (tgt := 43) (tb_ok aX7_whom_2 20 rfl) (by decide) ?_
            have hok : (if k < M then wlI sem (I 2) (I 3) m (I (5 + 2 + k)) (nI g) (I 5 2) else 0) = 0 := by rw [if_pos hkM]; exact c82
            refine s_ls ?_ (ih _ (some (.ref (5 + 2 + k))) (o9) (o10) (AgV.tr hi hA1))
            rw [show (mxS (fun k => if k < M then wlI sem (I 2) (I 3) m (I (5 + 2 + k)) (nI g) (I 5 2) else 0) (fun k => bshP sem (I 2) (I 3) m M (I 5 2) (fun j => I (5 + 2 + j)) n - bskP sem (I 2) (I 3) m (I 5 2) (I (5 + 2 + k)) 0 n + bskP sem (I 2) (I 3) m (I 5 2) (I (5 + 2 + k)) ((1 : Int32) <<< (nI g &&& 31)) n) (bshP sem (I 2) (I 3) m M (I 5 2) (fun j => I (5 + 2 + j)) n) (k + 1)) = (mxS (fun k => if k < M then wlI sem (I 2) (I 3) m (I (5 + 2 + k)) (nI g) (I 5 2) else 0) (fun k => bshP sem (I 2) (I 3) m M (I 5 2) (fun j => I (5 + 2 + j)) n - bskP sem (I 2) (I 3) m (I 5 2) (I (5 + 2 + k)) 0 n + bskP sem (I 2) (I 3) m (I 5 2) (I (5 + 2 + k)) ((1 : Int32) <<< (nI g &&& 31)) n) (bshP sem (I 2) (I 3) m M (I 5 2) (fun j => I (5 + 2 + j)) n) k) from if_neg (fun h_ => h_.1 hok)]
          · refine s_aload_n (tb_ok aX7_whom_1 18 rfl) rfl ?_
            refine s_aload (tb_ok aX7_whom_1 19 rfl) rfl ?_
            refine s_iconst (v := 0) (tb_ok aX7_whom_1 20 rfl) (by decide) ?_
            refine s_iload_n (tb_ok aX7_whom_1 21 rfl) rfl ?_
            refine s_cV (as := [.ref (5 + 2 + k), .int (0), .int (nI n)]) (tb_ok aX7_whom_1 22 rfl) v_RX7_242 (C_bsk h (AgV.tr hi hA1) hk5 _ hn) (by decide) rfl rfl rfl rfl rfl (Nat.le_of_ble_eq_true rfl) (by decide) (fun r2 S2 I2 L2 R2 q2 => ?_)
            obtain ⟨rfl, rfl, hA2, rfl, rfl⟩ := q2
            refine s_name (fun x1 ex1 => ?_)
            refine s_istore (ls' := [some (.ref 0), some (.int (nI g)), some (.int (nI n)), some (.int (1)), some (.int (bshP sem (I 2) (I 3) m M (I 5 2) (fun j => I (5 + 2 + j)) n)), some (.int (mxS (fun k => if k < M then wlI sem (I 2) (I 3) m (I (5 + 2 + k)) (nI g) (I 5 2) else 0) (fun k => bshP sem (I 2) (I 3) m M (I 5 2) (fun j => I (5 + 2 + j)) n - bskP sem (I 2) (I 3) m (I 5 2) (I (5 + 2 + k)) 0 n + bskP sem (I 2) (I 3) m (I 5 2) (I (5 + 2 + k)) ((1 : Int32) <<< (nI g &&& 31)) n) (bshP sem (I 2) (I 3) m M (I 5 2) (fun j => I (5 + 2 + j)) n) k).2), some (.int (mxS (fun k => if k < M then wlI sem (I 2) (I 3) m (I (5 + 2 + k)) (nI g) (I 5 2) else 0) (fun k => bshP sem (I 2) (I 3) m M (I 5 2) (fun j => I (5 + 2 + j)) n - bskP sem (I 2) (I 3) m (I 5 2) (I (5 + 2 + k)) 0 n + bskP sem (I 2) (I 3) m (I 5 2) (I (5 + 2 + k)) ((1 : Int32) <<< (nI g &&& 31)) n) (bshP sem (I 2) (I 3) m M (I 5 2) (fun j => I (5 + 2 + j)) n) k).1), some (.int (nI k)), some (.ref (5 + 2 + k)), some (.int x1), o10]) (tb_ok aX7_whom_1 23 rfl) rfl rfl ?_
            refine s_iload (tb_ok aX7_whom_2 0 rfl) rfl ?_
            refine s_iload (tb_ok aX7_whom_2 1 rfl) rfl ?_
            refine s_isub (tb_ok aX7_whom_2 2 rfl) ?_
            refine s_aload_n (tb_ok aX7_whom_2 3 rfl) rfl ?_
            refine s_aload (tb_ok aX7_whom_2 4 rfl) rfl ?_
            refine s_iconst (v := 1) (tb_ok aX7_whom_2 5 rfl) (by decide) ?_
            refine s_iload_n (tb_ok aX7_whom_2 6 rfl) rfl ?_
            refine s_ishl (tb_ok aX7_whom_2 7 rfl) ?_
            refine s_iload_n (tb_ok aX7_whom_2 8 rfl) rfl ?_
            refine s_cV (as := [.ref (5 + 2 + k), _, .int (nI n)]) (tb_ok aX7_whom_2 9 rfl) v_RX7_242 (C_bsk h (AgV.tr (AgV.tr hi hA1) hA2) hk5 _ hn) (by decide) rfl rfl rfl rfl rfl (Nat.le_of_ble_eq_true rfl) (by decide) (fun r3 S3 I3 L3 R3 q3 => ?_)
            obtain ⟨rfl, rfl, hA3, rfl, rfl⟩ := q3
            refine s_iadd (tb_ok aX7_whom_2 10 rfl) ?_
            refine s_name (fun x2 ex2 => ?_)
            refine s_istore (ls' := [some (.ref 0), some (.int (nI g)), some (.int (nI n)), some (.int (1)), some (.int (bshP sem (I 2) (I 3) m M (I 5 2) (fun j => I (5 + 2 + j)) n)), some (.int (mxS (fun k => if k < M then wlI sem (I 2) (I 3) m (I (5 + 2 + k)) (nI g) (I 5 2) else 0) (fun k => bshP sem (I 2) (I 3) m M (I 5 2) (fun j => I (5 + 2 + j)) n - bskP sem (I 2) (I 3) m (I 5 2) (I (5 + 2 + k)) 0 n + bskP sem (I 2) (I 3) m (I 5 2) (I (5 + 2 + k)) ((1 : Int32) <<< (nI g &&& 31)) n) (bshP sem (I 2) (I 3) m M (I 5 2) (fun j => I (5 + 2 + j)) n) k).2), some (.int (mxS (fun k => if k < M then wlI sem (I 2) (I 3) m (I (5 + 2 + k)) (nI g) (I 5 2) else 0) (fun k => bshP sem (I 2) (I 3) m M (I 5 2) (fun j => I (5 + 2 + j)) n - bskP sem (I 2) (I 3) m (I 5 2) (I (5 + 2 + k)) 0 n + bskP sem (I 2) (I 3) m (I 5 2) (I (5 + 2 + k)) ((1 : Int32) <<< (nI g &&& 31)) n) (bshP sem (I 2) (I 3) m M (I 5 2) (fun j => I (5 + 2 + j)) n) k).1), some (.int (nI k)), some (.ref (5 + 2 + k)), some (.int x1), some (.int x2)]) (tb_ok aX7_whom_2 11 rfl) rfl rfl ?_
            refine s_iload (tb_ok aX7_whom_2 12 rfl) rfl ?_
            refine s_iload (tb_ok aX7_whom_2 13 rfl) rfl ?_
            refine s_icmp_le (tgt := 128) (tb_ok aX7_whom_2 14 rfl) (by decide) (fun c117 => ?_) (fun c117 => ?_)
            · refine s_iinc (v := nI (k + 1)) (ls' := [some (.ref 0), some (.int (nI g)), some (.int (nI n)), some (.int (1)), some (.int (bshP sem (I 2) (I 3) m M (I 5 2) (fun j => I (5 + 2 + j)) n)), some (.int (mxS (fun k => if k < M then wlI sem (I 2) (I 3) m (I (5 + 2 + k)) (nI g) (I 5 2) else 0) (fun k => bshP sem (I 2) (I 3) m M (I 5 2) (fun j => I (5 + 2 + j)) n - bskP sem (I 2) (I 3) m (I 5 2) (I (5 + 2 + k)) 0 n + bskP sem (I 2) (I 3) m (I 5 2) (I (5 + 2 + k)) ((1 : Int32) <<< (nI g &&& 31)) n) (bshP sem (I 2) (I 3) m M (I 5 2) (fun j => I (5 + 2 + j)) n) k).2), some (.int (mxS (fun k => if k < M then wlI sem (I 2) (I 3) m (I (5 + 2 + k)) (nI g) (I 5 2) else 0) (fun k => bshP sem (I 2) (I 3) m M (I 5 2) (fun j => I (5 + 2 + j)) n - bskP sem (I 2) (I 3) m (I 5 2) (I (5 + 2 + k)) 0 n + bskP sem (I 2) (I 3) m (I 5 2) (I (5 + 2 + k)) ((1 : Int32) <<< (nI g &&& 31)) n) (bshP sem (I 2) (I 3) m M (I 5 2) (fun j => I (5 + 2 + j)) n) k).1), some (.int (nI (k + 1))), some (.ref (5 + 2 + k)), some (.int x1), some (.int x2)]) (tb_ok aX7_whom_2 19 rfl) rfl (nI_1 _) rfl rfl ?_
              refine s_goto (tgt := 43) (tb_ok aX7_whom_2 20 rfl) (by decide) ?_
              have ev : x2 = bshP sem (I 2) (I 3) m M (I 5 2) (fun j => I (5 + 2 + j)) n - bskP sem (I 2) (I 3) m (I 5 2) (I (5 + 2 + k)) 0 n + bskP sem (I 2) (I 3) m (I 5 2) (I (5 + 2 + k)) ((1 : Int32) <<< (nI g &&& 31)) n := by rw [ex2, ex1]
              have hok : ¬ (if k < M then wlI sem (I 2) (I 3) m (I (5 + 2 + k)) (nI g) (I 5 2) else 0) = 0 := by rw [if_pos hkM]; exact c82
              rw [ev] at c117
              refine s_ls ?_ (ih _ (some (.ref (5 + 2 + k))) (some (.int x1)) (some (.int x2)) (AgV.tr (AgV.tr (AgV.tr hi hA1) hA2) hA3))
              rw [show (mxS (fun k => if k < M then wlI sem (I 2) (I 3) m (I (5 + 2 + k)) (nI g) (I 5 2) else 0) (fun k => bshP sem (I 2) (I 3) m M (I 5 2) (fun j => I (5 + 2 + j)) n - bskP sem (I 2) (I 3) m (I 5 2) (I (5 + 2 + k)) 0 n + bskP sem (I 2) (I 3) m (I 5 2) (I (5 + 2 + k)) ((1 : Int32) <<< (nI g &&& 31)) n) (bshP sem (I 2) (I 3) m M (I 5 2) (fun j => I (5 + 2 + j)) n) (k + 1)) = (mxS (fun k => if k < M then wlI sem (I 2) (I 3) m (I (5 + 2 + k)) (nI g) (I 5 2) else 0) (fun k => bshP sem (I 2) (I 3) m M (I 5 2) (fun j => I (5 + 2 + j)) n - bskP sem (I 2) (I 3) m (I 5 2) (I (5 + 2 + k)) 0 n + bskP sem (I 2) (I 3) m (I 5 2) (I (5 + 2 + k)) ((1 : Int32) <<< (nI g &&& 31)) n) (bshP sem (I 2) (I 3) m M (I 5 2) (fun j => I (5 + 2 + j)) n) k) from if_neg (fun h_ => Int32.not_lt.mpr c117 h_.2)]
            · refine s_iload (tb_ok aX7_whom_2 15 rfl) rfl ?_
              refine s_istore (ls' := [some (.ref 0), some (.int (nI g)), some (.int (nI n)), some (.int (1)), some (.int (bshP sem (I 2) (I 3) m M (I 5 2) (fun j => I (5 + 2 + j)) n)), some (.int x2), some (.int (mxS (fun k => if k < M then wlI sem (I 2) (I 3) m (I (5 + 2 + k)) (nI g) (I 5 2) else 0) (fun k => bshP sem (I 2) (I 3) m M (I 5 2) (fun j => I (5 + 2 + j)) n - bskP sem (I 2) (I 3) m (I 5 2) (I (5 + 2 + k)) 0 n + bskP sem (I 2) (I 3) m (I 5 2) (I (5 + 2 + k)) ((1 : Int32) <<< (nI g &&& 31)) n) (bshP sem (I 2) (I 3) m M (I 5 2) (fun j => I (5 + 2 + j)) n) k).1), some (.int (nI k)), some (.ref (5 + 2 + k)), some (.int x1), some (.int x2)]) (tb_ok aX7_whom_2 16 rfl) rfl rfl ?_
              refine s_iload (tb_ok aX7_whom_2 17 rfl) rfl ?_
              refine s_istore (ls' := [some (.ref 0), some (.int (nI g)), some (.int (nI n)), some (.int (1)), some (.int (bshP sem (I 2) (I 3) m M (I 5 2) (fun j => I (5 + 2 + j)) n)), some (.int x2), some (.int (nI k)), some (.int (nI k)), some (.ref (5 + 2 + k)), some (.int x1), some (.int x2)]) (tb_ok aX7_whom_2 18 rfl) rfl rfl ?_
              refine s_iinc (v := nI (k + 1)) (ls' := [some (.ref 0), some (.int (nI g)), some (.int (nI n)), some (.int (1)), some (.int (bshP sem (I 2) (I 3) m M (I 5 2) (fun j => I (5 + 2 + j)) n)), some (.int x2), some (.int (nI k)), some (.int (nI (k + 1))), some (.ref (5 + 2 + k)), some (.int x1), some (.int x2)]) (tb_ok aX7_whom_2 19 rfl) rfl (nI_1 _) rfl rfl ?_
              refine s_goto (tgt := 43) (tb_ok aX7_whom_2 20 rfl) (by decide) ?_
              have ev : x2 = bshP sem (I 2) (I 3) m M (I 5 2) (fun j => I (5 + 2 + j)) n - bskP sem (I 2) (I 3) m (I 5 2) (I (5 + 2 + k)) 0 n + bskP sem (I 2) (I 3) m (I 5 2) (I (5 + 2 + k)) ((1 : Int32) <<< (nI g &&& 31)) n := by rw [ex2, ex1]
              have hok : ¬ (if k < M then wlI sem (I 2) (I 3) m (I (5 + 2 + k)) (nI g) (I 5 2) else 0) = 0 := by rw [if_pos hkM]; exact c82
              rw [ev] at c117
              refine s_ls ?_ (ih _ (some (.ref (5 + 2 + k))) (some (.int x1)) (some (.int x2)) (AgV.tr (AgV.tr (AgV.tr hi hA1) hA2) hA3))
              rw [show (mxS (fun k => if k < M then wlI sem (I 2) (I 3) m (I (5 + 2 + k)) (nI g) (I 5 2) else 0) (fun k => bshP sem (I 2) (I 3) m M (I 5 2) (fun j => I (5 + 2 + j)) n - bskP sem (I 2) (I 3) m (I 5 2) (I (5 + 2 + k)) 0 n + bskP sem (I 2) (I 3) m (I 5 2) (I (5 + 2 + k)) ((1 : Int32) <<< (nI g &&& 31)) n) (bshP sem (I 2) (I 3) m M (I 5 2) (fun j => I (5 + 2 + j)) n) (k + 1)) = (nI k, bshP sem (I 2) (I 3) m M (I 5 2) (fun j => I (5 + 2 + j)) n - bskP sem (I 2) (I 3) m (I 5 2) (I (5 + 2 + k)) 0 n + bskP sem (I 2) (I 3) m (I 5 2) (I (5 + 2 + k)) ((1 : Int32) <<< (nI g &&& 31)) n) from if_pos ⟨hok, Int32.not_le.mp c117⟩, ev]
      · refine s_iload (tb_ok aX7_whom_0 23 rfl) rfl ?_
        refine s_iconst (v := nI 5) (tb_ok aX7_whom_1 0 rfl) (by decide) ?_
        refine s_icmp_ge (tgt := 134) (tb_ok aX7_whom_1 1 rfl) (by decide) (fun c46 => ?_) (fun c46 => ?_)
        · simp (disch := omega) only [nI_ltI, nI_leI, nI_eq] at c46
          omega
        · refine s_aload_n (tb_ok aX7_whom_1 2 rfl) rfl ?_
          refine s_getR (r := 5) (tb_ok aX7_whom_1 3 rfl) f_RX7_19 rfl rfl rfl ?_
          refine s_iload (tb_ok aX7_whom_1 4 rfl) rfl ?_
          refine s_cVp (as := [.int (nI k)]) (tb_ok aX7_whom_1 5 rfl) v_RX7_115 (E_atN (orch5 q) (M := M) ((congrFun (hi 5 (by decide)) 1).trans hM) hM5 (Or.inr (by simp (disch := omega) only [nI_leI]; omega))) (by decide) rfl rfl rfl rfl rfl (Nat.le_of_ble_eq_true rfl) (by decide) ?_
          refine s_astoreN (ls' := [some (.ref 0), some (.int (nI g)), some (.int (nI n)), some (.int (1)), some (.int (bshP sem (I 2) (I 3) m M (I 5 2) (fun j => I (5 + 2 + j)) n)), some (.int (mxS (fun k => if k < M then wlI sem (I 2) (I 3) m (I (5 + 2 + k)) (nI g) (I 5 2) else 0) (fun k => bshP sem (I 2) (I 3) m M (I 5 2) (fun j => I (5 + 2 + j)) n - bskP sem (I 2) (I 3) m (I 5 2) (I (5 + 2 + k)) 0 n + bskP sem (I 2) (I 3) m (I 5 2) (I (5 + 2 + k)) ((1 : Int32) <<< (nI g &&& 31)) n) (bshP sem (I 2) (I 3) m M (I 5 2) (fun j => I (5 + 2 + j)) n) k).2), some (.int (mxS (fun k => if k < M then wlI sem (I 2) (I 3) m (I (5 + 2 + k)) (nI g) (I 5 2) else 0) (fun k => bshP sem (I 2) (I 3) m M (I 5 2) (fun j => I (5 + 2 + j)) n - bskP sem (I 2) (I 3) m (I 5 2) (I (5 + 2 + k)) 0 n + bskP sem (I 2) (I 3) m (I 5 2) (I (5 + 2 + k)) ((1 : Int32) <<< (nI g &&& 31)) n) (bshP sem (I 2) (I 3) m M (I 5 2) (fun j => I (5 + 2 + j)) n) k).1), some (.int (nI k)), some (.null), o9, o10]) (tb_ok aX7_whom_1 6 rfl) rfl rfl ?_
          refine s_aloadq (r := none) (tb_ok aX7_whom_1 7 rfl) rfl ?_
          refine s_ifnullN (tgt := 128) (tb_ok aX7_whom_1 8 rfl) (by decide) ?_
          refine s_iinc (v := nI (k + 1)) (ls' := [some (.ref 0), some (.int (nI g)), some (.int (nI n)), some (.int (1)), some (.int (bshP sem (I 2) (I 3) m M (I 5 2) (fun j => I (5 + 2 + j)) n)), some (.int (mxS (fun k => if k < M then wlI sem (I 2) (I 3) m (I (5 + 2 + k)) (nI g) (I 5 2) else 0) (fun k => bshP sem (I 2) (I 3) m M (I 5 2) (fun j => I (5 + 2 + j)) n - bskP sem (I 2) (I 3) m (I 5 2) (I (5 + 2 + k)) 0 n + bskP sem (I 2) (I 3) m (I 5 2) (I (5 + 2 + k)) ((1 : Int32) <<< (nI g &&& 31)) n) (bshP sem (I 2) (I 3) m M (I 5 2) (fun j => I (5 + 2 + j)) n) k).2), some (.int (mxS (fun k => if k < M then wlI sem (I 2) (I 3) m (I (5 + 2 + k)) (nI g) (I 5 2) else 0) (fun k => bshP sem (I 2) (I 3) m M (I 5 2) (fun j => I (5 + 2 + j)) n - bskP sem (I 2) (I 3) m (I 5 2) (I (5 + 2 + k)) 0 n + bskP sem (I 2) (I 3) m (I 5 2) (I (5 + 2 + k)) ((1 : Int32) <<< (nI g &&& 31)) n) (bshP sem (I 2) (I 3) m M (I 5 2) (fun j => I (5 + 2 + j)) n) k).1), some (.int (nI (k + 1))), some (.null), o9, o10]) (tb_ok aX7_whom_2 19 rfl) rfl (nI_1 _) rfl rfl ?_
          refine s_goto (tgt := 43) (tb_ok aX7_whom_2 20 rfl) (by decide) ?_
          have hok : (if k < M then wlI sem (I 2) (I 3) m (I (5 + 2 + k)) (nI g) (I 5 2) else 0) = 0 := if_neg hkM
          refine s_ls ?_ (ih _ (some (.null)) (o9) (o10) hi)
          rw [show (mxS (fun k => if k < M then wlI sem (I 2) (I 3) m (I (5 + 2 + k)) (nI g) (I 5 2) else 0) (fun k => bshP sem (I 2) (I 3) m M (I 5 2) (fun j => I (5 + 2 + j)) n - bskP sem (I 2) (I 3) m (I 5 2) (I (5 + 2 + k)) 0 n + bskP sem (I 2) (I 3) m (I 5 2) (I (5 + 2 + k)) ((1 : Int32) <<< (nI g &&& 31)) n) (bshP sem (I 2) (I 3) m M (I 5 2) (fun j => I (5 + 2 + j)) n) (k + 1)) = (mxS (fun k => if k < M then wlI sem (I 2) (I 3) m (I (5 + 2 + k)) (nI g) (I 5 2) else 0) (fun k => bshP sem (I 2) (I 3) m M (I 5 2) (fun j => I (5 + 2 + j)) n - bskP sem (I 2) (I 3) m (I 5 2) (I (5 + 2 + k)) 0 n + bskP sem (I 2) (I 3) m (I 5 2) (I (5 + 2 + k)) ((1 : Int32) <<< (nI g &&& 31)) n) (bshP sem (I 2) (I 3) m M (I 5 2) (fun j => I (5 + 2 + j)) n) k) from if_neg (fun h_ => h_.1 hok)]
  refine ev_of (by decide +kernel) rfl ?_
  show SW X _ _ _ 0 [some (.ref 0), some (.int (nI g)), some (.int (nI n)), some (.int (1)), none, none, none, none, none, none, none] [] S0 I L (R0 q) _
  refine s_iload_n (tb_ok aX7_whom_0 0 rfl) rfl ?_
  refine s_cSp (as := [.int (nI g)]) (tb_ok aX7_whom_0 1 rfl) v_RX7_108 (E_isFact _) (by decide) rfl rfl (Nat.le_of_ble_eq_true rfl) ?_
  refine s_topi (bI_t ⟨nI_pos (by omega), by rw [show (12 : Int32) = nI 12 from rfl]; simp (disch := omega) only [nI_ltI]; omega⟩) ?_
  refine s_if_eq (tgt := 23) (tb_ok aX7_whom_0 2 rfl) (by decide) (fun c4 => ?_) (fun c4 => ?_)
  · exact absurd c4 (by decide)
  · refine s_iload_n (tb_ok aX7_whom_0 3 rfl) rfl ?_
    refine s_cSp (as := [.int (nI n)]) (tb_ok aX7_whom_0 4 rfl) v_RX7_213 (E_isDays _) (by decide) rfl rfl (Nat.le_of_ble_eq_true rfl) ?_
    refine s_topi (bI_t ⟨nI_pos (by omega), by rw [show (40 : Int32) = nI 40 from rfl]; simp (disch := omega) only [nI_leI]; omega⟩) ?_
    refine s_if_eq (tgt := 23) (tb_ok aX7_whom_0 5 rfl) (by decide) (fun c11 => ?_) (fun c11 => ?_)
    · exact absurd c11 (by decide)
    · refine s_iload_n (tb_ok aX7_whom_0 6 rfl) rfl ?_
      refine s_if_lt (tgt := 23) (tb_ok aX7_whom_0 7 rfl) (by decide) (fun c15 => ?_) (fun c15 => ?_)
      · exact absurd c15 (by decide)
      · refine s_iload_n (tb_ok aX7_whom_0 8 rfl) rfl ?_
        refine s_iconst (v := 1) (tb_ok aX7_whom_0 9 rfl) (by decide) ?_
        refine s_icmp_le (tgt := 26) (tb_ok aX7_whom_0 10 rfl) (by decide) (fun c20 => ?_) (fun c20 => ?_)
        · refine s_aload_n (tb_ok aX7_whom_0 13 rfl) rfl ?_
          refine s_iload_n (tb_ok aX7_whom_0 14 rfl) rfl ?_
          refine s_cV (as := [.int (nI n)]) (tb_ok aX7_whom_0 15 rfl) v_RX7_216 (E_basketsBehind hM hM5 hm hm10 hri hq hs hn) (by decide) rfl rfl rfl rfl rfl (Nat.le_of_ble_eq_true rfl) (by decide) (fun r1 S1 I1 L1 R1 q1 => ?_)
          obtain ⟨rfl, rfl, hA, rfl, rfl⟩ := q1
          refine s_name (fun x1 ex1 => ?_)
          refine s_istore (ls' := [some (.ref 0), some (.int (nI g)), some (.int (nI n)), some (.int (1)), some (.int x1), none, none, none, none, none, none]) (tb_ok aX7_whom_0 16 rfl) rfl rfl ?_
          refine s_iload (tb_ok aX7_whom_0 17 rfl) rfl ?_
          refine s_istore (ls' := [some (.ref 0), some (.int (nI g)), some (.int (nI n)), some (.int (1)), some (.int x1), some (.int x1), none, none, none, none, none]) (tb_ok aX7_whom_0 18 rfl) rfl rfl ?_
          refine s_iconst (v := -1) (tb_ok aX7_whom_0 19 rfl) (by decide) ?_
          refine s_istore (ls' := [some (.ref 0), some (.int (nI g)), some (.int (nI n)), some (.int (1)), some (.int x1), some (.int x1), some (.int (-1)), none, none, none, none]) (tb_ok aX7_whom_0 20 rfl) rfl rfl ?_
          refine s_iconst (v := nI 0) (tb_ok aX7_whom_0 21 rfl) (by decide) ?_
          refine s_istore (ls' := [some (.ref 0), some (.int (nI g)), some (.int (nI n)), some (.int (1)), some (.int x1), some (.int x1), some (.int (-1)), some (.int (nI 0)), none, none, none]) (tb_ok aX7_whom_0 22 rfl) rfl rfl ?_
          subst ex1
          exact loop 0 (Nat.zero_le _) _ _ _ _ hA
        · exact absurd c20 (by decide)

set_option maxRecDepth 100000 in
set_option maxHeartbeats 1000000 in
theorem C_whomB {X : En} {I : FI} {L : FL} {q : Nat × Nat} {m M ri : Nat} {sem : Nat → Sem} (h : CSt I q m M ri sem) {x z w : Int32} (hv : ¬ ((¬ x < 0 ∧ x < 12) ∧ (¬ z < 0 ∧ z ≤ 40) ∧ ¬ w < 0 ∧ w ≤ 1)) : Ev X 9 mX7_whom (0, 0) [.ref 0, .int x, .int z, .int w] S0 I L (R0 q) (AgLR (some (.int (-2))) I L q) := by
  obtain ⟨hm, hm10, hM, hM5, hri, hq, hs⟩ := id h
  refine ev_of (by decide +kernel) rfl ?_
  show SW X _ _ _ 0 [some (.ref 0), some (.int x), some (.int z), some (.int w), none, none, none, none, none, none, none] [] S0 I L (R0 q) _
  refine s_iload_n (tb_ok aX7_whom_0 0 rfl) rfl ?_
  refine s_cSp (as := [.int x]) (tb_ok aX7_whom_0 1 rfl) v_RX7_108 (E_isFact _) (by decide) rfl rfl (Nat.le_of_ble_eq_true rfl) ?_
  refine s_if_eq (tgt := 23) (tb_ok aX7_whom_0 2 rfl) (by decide) (fun c4 => ?_) (fun c4 => ?_)
  · refine s_bipush (v := -2) (tb_ok aX7_whom_0 11 rfl) (by decide) ?_
    refine s_iret (tb_ok aX7_whom_0 12 rfl) rfl ?_
    exact ⟨rfl, rfl, AgL.rf, rfl, rfl⟩
  · refine s_iload_n (tb_ok aX7_whom_0 3 rfl) rfl ?_
    refine s_cSp (as := [.int z]) (tb_ok aX7_whom_0 4 rfl) v_RX7_213 (E_isDays _) (by decide) rfl rfl (Nat.le_of_ble_eq_true rfl) ?_
    refine s_if_eq (tgt := 23) (tb_ok aX7_whom_0 5 rfl) (by decide) (fun c11 => ?_) (fun c11 => ?_)
    · refine s_bipush (v := -2) (tb_ok aX7_whom_0 11 rfl) (by decide) ?_
      refine s_iret (tb_ok aX7_whom_0 12 rfl) rfl ?_
      exact ⟨rfl, rfl, AgL.rf, rfl, rfl⟩
    · refine s_iload_n (tb_ok aX7_whom_0 6 rfl) rfl ?_
      refine s_if_lt (tgt := 23) (tb_ok aX7_whom_0 7 rfl) (by decide) (fun c15 => ?_) (fun c15 => ?_)
      · refine s_bipush (v := -2) (tb_ok aX7_whom_0 11 rfl) (by decide) ?_
        refine s_iret (tb_ok aX7_whom_0 12 rfl) rfl ?_
        exact ⟨rfl, rfl, AgL.rf, rfl, rfl⟩
      · refine s_iload_n (tb_ok aX7_whom_0 8 rfl) rfl ?_
        refine s_iconst (v := 1) (tb_ok aX7_whom_0 9 rfl) (by decide) ?_
        refine s_icmp_le (tgt := 26) (tb_ok aX7_whom_0 10 rfl) (by decide) (fun c20 => ?_) (fun c20 => ?_)
        · exact absurd ⟨bI_n c4, bI_n c11, c15, c20⟩ hv
        · refine s_bipush (v := -2) (tb_ok aX7_whom_0 11 rfl) (by decide) ?_
          refine s_iret (tb_ok aX7_whom_0 12 rfl) rfl ?_
          exact ⟨rfl, rfl, AgL.rf, rfl, rfl⟩

def AgLL (v : Int64) (I : FI) (L : FL) (q : Nat × Nat) : Pst := fun r' S' I' L' R' => r' = some (.long v) ∧ S' = S0 ∧ AgL I I' ∧ L' = L ∧ R' = R0 q
set_option maxRecDepth 100000 in
set_option maxHeartbeats 1000000 in
theorem C_chance0 {X : En} {I : FI} {L : FL} {q : Nat × Nat} {m M ri : Nat} {sem : Nat → Sem} (h : CSt I q m M ri sem) (seed : Int32) {n kk : Nat} (h1 : 1 ≤ n) (hn : n ≤ 20) (hk : kk ≤ 999) : Ev X 9 mX7_chance (0, 0) [.ref 0, .int seed, .int (nI n), .int (nI kk), .int (0)] S0 I L (R0 q) (AgLL (inl1 (nI (hitS (fun t => drwP sem (I 2) (I 3) m M (I 5 2) (fun j => I (5 + 2 + j)) (seed + nI t)) (nI kk) n)) (nI (hitS (fun t => drwP sem (I 2) (I 3) m M (I 5 2) (fun j => I (5 + 2 + j)) (seed + nI t)) (nI kk) n)) (nI n) n).toInt64 I L q) := by
  obtain ⟨hm, hm10, hM, hM5, hri, hq, hs⟩ := id h
  have loop : ∀ k, k ≤ n → ∀ (J : FI), (AgV I J) → SW X 9 mX7_chance (0, 0) 43 [some (.ref 0), some (.int seed), some (.int (nI n)), some (.int (nI kk)), some (.int (0)), some (.int (nI (hitS (fun t => drwP sem (I 2) (I 3) m M (I 5 2) (fun j => I (5 + 2 + j)) (seed + nI t)) (nI kk) k))), some (.int (nI k))] [] S0 J L (R0 q) (KQ X (AgLL (inl1 (nI (hitS (fun t => drwP sem (I 2) (I 3) m M (I 5 2) (fun j => I (5 + 2 + j)) (seed + nI t)) (nI kk) n)) (nI (hitS (fun t => drwP sem (I 2) (I 3) m M (I 5 2) (fun j => I (5 + 2 + j)) (seed + nI t)) (nI kk) n)) (nI n) n).toInt64 I L q)) := by
    refine for_up (P := fun k => ∀ (J : FI), (AgV I J) → SW X 9 mX7_chance (0, 0) 43 [some (.ref 0), some (.int seed), some (.int (nI n)), some (.int (nI kk)), some (.int (0)), some (.int (nI (hitS (fun t => drwP sem (I 2) (I 3) m M (I 5 2) (fun j => I (5 + 2 + j)) (seed + nI t)) (nI kk) k))), some (.int (nI k))] [] S0 J L (R0 q) (KQ X (AgLL (inl1 (nI (hitS (fun t => drwP sem (I 2) (I 3) m M (I 5 2) (fun j => I (5 + 2 + j)) (seed + nI t)) (nI kk) n)) (nI (hitS (fun t => drwP sem (I 2) (I 3) m M (I 5 2) (fun j => I (5 + 2 + j)) (seed + nI t)) (nI kk) n)) (nI n) n).toInt64 I L q))) n ?_ ?_
    · intro J hi
      refine s_iload (tb_ok aX7_chance_0 22 rfl) rfl ?_
      refine s_iload_n (tb_ok aX7_chance_0 23 rfl) rfl ?_
      refine s_icmp_ge (tgt := 70) (tb_ok aX7_chance_1 0 rfl) (by decide) (fun c46 => ?_) (fun c46 => ?_)
      · refine s_iload (tb_ok aX7_chance_1 11 rfl) rfl ?_
        refine s_if_ne (tgt := 80) (tb_ok aX7_chance_1 12 rfl) (by decide) (fun c72 => ?_) (fun c72 => ?_)
        · exact absurd c72 (by decide)
        · refine s_iload (tb_ok aX7_chance_1 13 rfl) rfl ?_
          refine s_goto (tgt := 81) (tb_ok aX7_chance_1 14 rfl) (by decide) ?_
          refine s_iload (tb_ok aX7_chance_1 16 rfl) rfl ?_
          refine s_iload_n (tb_ok aX7_chance_1 17 rfl) rfl ?_
          refine s_cSp (as := [.int (nI (hitS (fun t => drwP sem (I 2) (I 3) m M (I 5 2) (fun j => I (5 + 2 + j)) (seed + nI t)) (nI kk) n)), .int (nI (hitS (fun t => drwP sem (I 2) (I 3) m M (I 5 2) (fun j => I (5 + 2 + j)) (seed + nI t)) (nI kk) n)), .int (nI n)]) (tb_ok aX7_chance_1 18 rfl) v_RX7_295 (E_inLowestTerms _ _ hn) (by decide) rfl rfl (Nat.le_of_ble_eq_true rfl) ?_
          refine s_i2l (tb_ok aX7_chance_1 19 rfl) ?_
          refine s_lret (tb_ok aX7_chance_1 20 rfl) rfl ?_
          exact ⟨rfl, rfl, AgV.l hi, rfl, rfl⟩
      · simp (disch := omega) only [nI_ltI, nI_leI, nI_eq] at c46
        omega
    · intro k hk ih J hi
      refine s_iload (tb_ok aX7_chance_0 22 rfl) rfl ?_
      refine s_iload_n (tb_ok aX7_chance_0 23 rfl) rfl ?_
      refine s_icmp_ge (tgt := 70) (tb_ok aX7_chance_1 0 rfl) (by decide) (fun c46 => ?_) (fun c46 => ?_)
      · simp (disch := omega) only [nI_ltI, nI_leI, nI_eq] at c46
        omega
      · refine s_aload_n (tb_ok aX7_chance_1 1 rfl) rfl ?_
        refine s_iload_n (tb_ok aX7_chance_1 2 rfl) rfl ?_
        refine s_iload (tb_ok aX7_chance_1 3 rfl) rfl ?_
        refine s_iadd (tb_ok aX7_chance_1 4 rfl) ?_
        refine s_cV (as := [_]) (tb_ok aX7_chance_1 5 rfl) v_RX7_290 (C_dr h hi _) (by decide) rfl rfl rfl rfl rfl (Nat.le_of_ble_eq_true rfl) (by decide) (fun r1 S1 I1 L1 R1 q1 => ?_)
        obtain ⟨rfl, rfl, hA1, rfl, rfl⟩ := q1
        refine s_iload_n (tb_ok aX7_chance_1 6 rfl) rfl ?_
        refine s_icmp_lt (tgt := 64) (tb_ok aX7_chance_1 7 rfl) (by decide) (fun c58 => ?_) (fun c58 => ?_)
        · refine s_iinc (v := nI (k + 1)) (ls' := [some (.ref 0), some (.int seed), some (.int (nI n)), some (.int (nI kk)), some (.int (0)), some (.int (nI (hitS (fun t => drwP sem (I 2) (I 3) m M (I 5 2) (fun j => I (5 + 2 + j)) (seed + nI t)) (nI kk) k))), some (.int (nI (k + 1)))]) (tb_ok aX7_chance_1 9 rfl) rfl (nI_1 _) rfl rfl ?_
          refine s_goto (tgt := 43) (tb_ok aX7_chance_1 10 rfl) (by decide) ?_
          refine s_ls ?_ (ih _ (AgV.tr hi hA1))
          rw [show (hitS (fun t => drwP sem (I 2) (I 3) m M (I 5 2) (fun j => I (5 + 2 + j)) (seed + nI t)) (nI kk) (k + 1)) = (hitS (fun t => drwP sem (I 2) (I 3) m M (I 5 2) (fun j => I (5 + 2 + j)) (seed + nI t)) (nI kk) k) from if_pos c58]
        · refine s_iinc (v := nI ((hitS (fun t => drwP sem (I 2) (I 3) m M (I 5 2) (fun j => I (5 + 2 + j)) (seed + nI t)) (nI kk) k) + 1)) (ls' := [some (.ref 0), some (.int seed), some (.int (nI n)), some (.int (nI kk)), some (.int (0)), some (.int (nI ((hitS (fun t => drwP sem (I 2) (I 3) m M (I 5 2) (fun j => I (5 + 2 + j)) (seed + nI t)) (nI kk) k) + 1))), some (.int (nI k))]) (tb_ok aX7_chance_1 8 rfl) rfl (nI_1 _) rfl rfl ?_
          refine s_iinc (v := nI (k + 1)) (ls' := [some (.ref 0), some (.int seed), some (.int (nI n)), some (.int (nI kk)), some (.int (0)), some (.int (nI ((hitS (fun t => drwP sem (I 2) (I 3) m M (I 5 2) (fun j => I (5 + 2 + j)) (seed + nI t)) (nI kk) k) + 1))), some (.int (nI (k + 1)))]) (tb_ok aX7_chance_1 9 rfl) rfl (nI_1 _) rfl rfl ?_
          refine s_goto (tgt := 43) (tb_ok aX7_chance_1 10 rfl) (by decide) ?_
          refine s_ls ?_ (ih _ (AgV.tr hi hA1))
          rw [show (hitS (fun t => drwP sem (I 2) (I 3) m M (I 5 2) (fun j => I (5 + 2 + j)) (seed + nI t)) (nI kk) (k + 1)) = (hitS (fun t => drwP sem (I 2) (I 3) m M (I 5 2) (fun j => I (5 + 2 + j)) (seed + nI t)) (nI kk) k) + 1 from if_neg c58]
  refine ev_of (by decide +kernel) rfl ?_
  show SW X _ _ _ 0 [some (.ref 0), some (.int seed), some (.int (nI n)), some (.int (nI kk)), some (.int (0)), none, none] [] S0 I L (R0 q) _
  refine s_iload_n (tb_ok aX7_chance_0 0 rfl) rfl ?_
  refine s_iconst (v := nI 1) (tb_ok aX7_chance_0 1 rfl) (by decide) ?_
  refine s_icmp_lt (tgt := 33) (tb_ok aX7_chance_0 2 rfl) (by decide) (fun c2 => ?_) (fun c2 => ?_)
  · simp (disch := omega) only [nI_ltI] at c2
    omega
  · refine s_iload_n (tb_ok aX7_chance_0 3 rfl) rfl ?_
    refine s_bipush (v := nI 20) (tb_ok aX7_chance_0 4 rfl) (by decide) ?_
    refine s_icmp_gt (tgt := 33) (tb_ok aX7_chance_0 5 rfl) (by decide) (fun c8 => ?_) (fun c8 => ?_)
    · simp (disch := omega) only [nI_ltI] at c8
      omega
    · refine s_iload_n (tb_ok aX7_chance_0 6 rfl) rfl ?_
      refine s_if_lt (tgt := 33) (tb_ok aX7_chance_0 7 rfl) (by decide) (fun c12 => ?_) (fun c12 => ?_)
      · exact absurd c12 (nI_pos (by omega))
      · refine s_iload_n (tb_ok aX7_chance_0 8 rfl) rfl ?_
        refine s_sipush (v := nI 999) (tb_ok aX7_chance_0 9 rfl) (by decide) ?_
        refine s_icmp_gt (tgt := 33) (tb_ok aX7_chance_0 10 rfl) (by decide) (fun c19 => ?_) (fun c19 => ?_)
        · simp (disch := omega) only [nI_ltI] at c19
          omega
        · refine s_iload (tb_ok aX7_chance_0 11 rfl) rfl ?_
          refine s_if_lt (tgt := 33) (tb_ok aX7_chance_0 12 rfl) (by decide) (fun c24 => ?_) (fun c24 => ?_)
          · exact absurd c24 (by decide)
          · refine s_iload (tb_ok aX7_chance_0 13 rfl) rfl ?_
            refine s_iconst (v := 1) (tb_ok aX7_chance_0 14 rfl) (by decide) ?_
            refine s_icmp_le (tgt := 37) (tb_ok aX7_chance_0 15 rfl) (by decide) (fun c30 => ?_) (fun c30 => ?_)
            · refine s_iconst (v := nI 0) (tb_ok aX7_chance_0 18 rfl) (by decide) ?_
              refine s_istore (ls' := [some (.ref 0), some (.int seed), some (.int (nI n)), some (.int (nI kk)), some (.int (0)), some (.int (nI 0)), none]) (tb_ok aX7_chance_0 19 rfl) rfl rfl ?_
              refine s_iconst (v := nI 0) (tb_ok aX7_chance_0 20 rfl) (by decide) ?_
              refine s_istore (ls' := [some (.ref 0), some (.int seed), some (.int (nI n)), some (.int (nI kk)), some (.int (0)), some (.int (nI 0)), some (.int (nI 0))]) (tb_ok aX7_chance_0 21 rfl) rfl rfl ?_
              exact loop 0 (Nat.zero_le _) _ AgV.rf
            · exact absurd c30 (by decide)

set_option maxRecDepth 100000 in
set_option maxHeartbeats 1000000 in
theorem C_chance1 {X : En} {I : FI} {L : FL} {q : Nat × Nat} {m M ri : Nat} {sem : Nat → Sem} (h : CSt I q m M ri sem) (seed : Int32) {n kk : Nat} (h1 : 1 ≤ n) (hn : n ≤ 20) (hk : kk ≤ 999) : Ev X 9 mX7_chance (0, 0) [.ref 0, .int seed, .int (nI n), .int (nI kk), .int (1)] S0 I L (R0 q) (AgLL (inl1 (nI n) (nI (hitS (fun t => drwP sem (I 2) (I 3) m M (I 5 2) (fun j => I (5 + 2 + j)) (seed + nI t)) (nI kk) n)) (nI n) n).toInt64 I L q) := by
  obtain ⟨hm, hm10, hM, hM5, hri, hq, hs⟩ := id h
  have loop : ∀ k, k ≤ n → ∀ (J : FI), (AgV I J) → SW X 9 mX7_chance (0, 0) 43 [some (.ref 0), some (.int seed), some (.int (nI n)), some (.int (nI kk)), some (.int (1)), some (.int (nI (hitS (fun t => drwP sem (I 2) (I 3) m M (I 5 2) (fun j => I (5 + 2 + j)) (seed + nI t)) (nI kk) k))), some (.int (nI k))] [] S0 J L (R0 q) (KQ X (AgLL (inl1 (nI n) (nI (hitS (fun t => drwP sem (I 2) (I 3) m M (I 5 2) (fun j => I (5 + 2 + j)) (seed + nI t)) (nI kk) n)) (nI n) n).toInt64 I L q)) := by
    refine for_up (P := fun k => ∀ (J : FI), (AgV I J) → SW X 9 mX7_chance (0, 0) 43 [some (.ref 0), some (.int seed), some (.int (nI n)), some (.int (nI kk)), some (.int (1)), some (.int (nI (hitS (fun t => drwP sem (I 2) (I 3) m M (I 5 2) (fun j => I (5 + 2 + j)) (seed + nI t)) (nI kk) k))), some (.int (nI k))] [] S0 J L (R0 q) (KQ X (AgLL (inl1 (nI n) (nI (hitS (fun t => drwP sem (I 2) (I 3) m M (I 5 2) (fun j => I (5 + 2 + j)) (seed + nI t)) (nI kk) n)) (nI n) n).toInt64 I L q))) n ?_ ?_
    · intro J hi
      refine s_iload (tb_ok aX7_chance_0 22 rfl) rfl ?_
      refine s_iload_n (tb_ok aX7_chance_0 23 rfl) rfl ?_
      refine s_icmp_ge (tgt := 70) (tb_ok aX7_chance_1 0 rfl) (by decide) (fun c46 => ?_) (fun c46 => ?_)
      · refine s_iload (tb_ok aX7_chance_1 11 rfl) rfl ?_
        refine s_if_ne (tgt := 80) (tb_ok aX7_chance_1 12 rfl) (by decide) (fun c72 => ?_) (fun c72 => ?_)
        · refine s_iload_n (tb_ok aX7_chance_1 15 rfl) rfl ?_
          refine s_iload (tb_ok aX7_chance_1 16 rfl) rfl ?_
          refine s_iload_n (tb_ok aX7_chance_1 17 rfl) rfl ?_
          refine s_cSp (as := [.int (nI n), .int (nI (hitS (fun t => drwP sem (I 2) (I 3) m M (I 5 2) (fun j => I (5 + 2 + j)) (seed + nI t)) (nI kk) n)), .int (nI n)]) (tb_ok aX7_chance_1 18 rfl) v_RX7_295 (E_inLowestTerms _ _ hn) (by decide) rfl rfl (Nat.le_of_ble_eq_true rfl) ?_
          refine s_i2l (tb_ok aX7_chance_1 19 rfl) ?_
          refine s_lret (tb_ok aX7_chance_1 20 rfl) rfl ?_
          exact ⟨rfl, rfl, AgV.l hi, rfl, rfl⟩
        · exact absurd c72 (by decide)
      · simp (disch := omega) only [nI_ltI, nI_leI, nI_eq] at c46
        omega
    · intro k hk ih J hi
      refine s_iload (tb_ok aX7_chance_0 22 rfl) rfl ?_
      refine s_iload_n (tb_ok aX7_chance_0 23 rfl) rfl ?_
      refine s_icmp_ge (tgt := 70) (tb_ok aX7_chance_1 0 rfl) (by decide) (fun c46 => ?_) (fun c46 => ?_)
      · simp (disch := omega) only [nI_ltI, nI_leI, nI_eq] at c46
        omega
      · refine s_aload_n (tb_ok aX7_chance_1 1 rfl) rfl ?_
        refine s_iload_n (tb_ok aX7_chance_1 2 rfl) rfl ?_
        refine s_iload (tb_ok aX7_chance_1 3 rfl) rfl ?_
        refine s_iadd (tb_ok aX7_chance_1 4 rfl) ?_
        refine s_cV (as := [_]) (tb_ok aX7_chance_1 5 rfl) v_RX7_290 (C_dr h hi _) (by decide) rfl rfl rfl rfl rfl (Nat.le_of_ble_eq_true rfl) (by decide) (fun r1 S1 I1 L1 R1 q1 => ?_)
        obtain ⟨rfl, rfl, hA1, rfl, rfl⟩ := q1
        refine s_iload_n (tb_ok aX7_chance_1 6 rfl) rfl ?_
        refine s_icmp_lt (tgt := 64) (tb_ok aX7_chance_1 7 rfl) (by decide) (fun c58 => ?_) (fun c58 => ?_)
        · refine s_iinc (v := nI (k + 1)) (ls' := [some (.ref 0), some (.int seed), some (.int (nI n)), some (.int (nI kk)), some (.int (1)), some (.int (nI (hitS (fun t => drwP sem (I 2) (I 3) m M (I 5 2) (fun j => I (5 + 2 + j)) (seed + nI t)) (nI kk) k))), some (.int (nI (k + 1)))]) (tb_ok aX7_chance_1 9 rfl) rfl (nI_1 _) rfl rfl ?_
          refine s_goto (tgt := 43) (tb_ok aX7_chance_1 10 rfl) (by decide) ?_
          refine s_ls ?_ (ih _ (AgV.tr hi hA1))
          rw [show (hitS (fun t => drwP sem (I 2) (I 3) m M (I 5 2) (fun j => I (5 + 2 + j)) (seed + nI t)) (nI kk) (k + 1)) = (hitS (fun t => drwP sem (I 2) (I 3) m M (I 5 2) (fun j => I (5 + 2 + j)) (seed + nI t)) (nI kk) k) from if_pos c58]
        · refine s_iinc (v := nI ((hitS (fun t => drwP sem (I 2) (I 3) m M (I 5 2) (fun j => I (5 + 2 + j)) (seed + nI t)) (nI kk) k) + 1)) (ls' := [some (.ref 0), some (.int seed), some (.int (nI n)), some (.int (nI kk)), some (.int (1)), some (.int (nI ((hitS (fun t => drwP sem (I 2) (I 3) m M (I 5 2) (fun j => I (5 + 2 + j)) (seed + nI t)) (nI kk) k) + 1))), some (.int (nI k))]) (tb_ok aX7_chance_1 8 rfl) rfl (nI_1 _) rfl rfl ?_
          refine s_iinc (v := nI (k + 1)) (ls' := [some (.ref 0), some (.int seed), some (.int (nI n)), some (.int (nI kk)), some (.int (1)), some (.int (nI ((hitS (fun t => drwP sem (I 2) (I 3) m M (I 5 2) (fun j => I (5 + 2 + j)) (seed + nI t)) (nI kk) k) + 1))), some (.int (nI (k + 1)))]) (tb_ok aX7_chance_1 9 rfl) rfl (nI_1 _) rfl rfl ?_
          refine s_goto (tgt := 43) (tb_ok aX7_chance_1 10 rfl) (by decide) ?_
          refine s_ls ?_ (ih _ (AgV.tr hi hA1))
          rw [show (hitS (fun t => drwP sem (I 2) (I 3) m M (I 5 2) (fun j => I (5 + 2 + j)) (seed + nI t)) (nI kk) (k + 1)) = (hitS (fun t => drwP sem (I 2) (I 3) m M (I 5 2) (fun j => I (5 + 2 + j)) (seed + nI t)) (nI kk) k) + 1 from if_neg c58]
  refine ev_of (by decide +kernel) rfl ?_
  show SW X _ _ _ 0 [some (.ref 0), some (.int seed), some (.int (nI n)), some (.int (nI kk)), some (.int (1)), none, none] [] S0 I L (R0 q) _
  refine s_iload_n (tb_ok aX7_chance_0 0 rfl) rfl ?_
  refine s_iconst (v := nI 1) (tb_ok aX7_chance_0 1 rfl) (by decide) ?_
  refine s_icmp_lt (tgt := 33) (tb_ok aX7_chance_0 2 rfl) (by decide) (fun c2 => ?_) (fun c2 => ?_)
  · simp (disch := omega) only [nI_ltI] at c2
    omega
  · refine s_iload_n (tb_ok aX7_chance_0 3 rfl) rfl ?_
    refine s_bipush (v := nI 20) (tb_ok aX7_chance_0 4 rfl) (by decide) ?_
    refine s_icmp_gt (tgt := 33) (tb_ok aX7_chance_0 5 rfl) (by decide) (fun c8 => ?_) (fun c8 => ?_)
    · simp (disch := omega) only [nI_ltI] at c8
      omega
    · refine s_iload_n (tb_ok aX7_chance_0 6 rfl) rfl ?_
      refine s_if_lt (tgt := 33) (tb_ok aX7_chance_0 7 rfl) (by decide) (fun c12 => ?_) (fun c12 => ?_)
      · exact absurd c12 (nI_pos (by omega))
      · refine s_iload_n (tb_ok aX7_chance_0 8 rfl) rfl ?_
        refine s_sipush (v := nI 999) (tb_ok aX7_chance_0 9 rfl) (by decide) ?_
        refine s_icmp_gt (tgt := 33) (tb_ok aX7_chance_0 10 rfl) (by decide) (fun c19 => ?_) (fun c19 => ?_)
        · simp (disch := omega) only [nI_ltI] at c19
          omega
        · refine s_iload (tb_ok aX7_chance_0 11 rfl) rfl ?_
          refine s_if_lt (tgt := 33) (tb_ok aX7_chance_0 12 rfl) (by decide) (fun c24 => ?_) (fun c24 => ?_)
          · exact absurd c24 (by decide)
          · refine s_iload (tb_ok aX7_chance_0 13 rfl) rfl ?_
            refine s_iconst (v := 1) (tb_ok aX7_chance_0 14 rfl) (by decide) ?_
            refine s_icmp_le (tgt := 37) (tb_ok aX7_chance_0 15 rfl) (by decide) (fun c30 => ?_) (fun c30 => ?_)
            · refine s_iconst (v := nI 0) (tb_ok aX7_chance_0 18 rfl) (by decide) ?_
              refine s_istore (ls' := [some (.ref 0), some (.int seed), some (.int (nI n)), some (.int (nI kk)), some (.int (1)), some (.int (nI 0)), none]) (tb_ok aX7_chance_0 19 rfl) rfl rfl ?_
              refine s_iconst (v := nI 0) (tb_ok aX7_chance_0 20 rfl) (by decide) ?_
              refine s_istore (ls' := [some (.ref 0), some (.int seed), some (.int (nI n)), some (.int (nI kk)), some (.int (1)), some (.int (nI 0)), some (.int (nI 0))]) (tb_ok aX7_chance_0 21 rfl) rfl rfl ?_
              exact loop 0 (Nat.zero_le _) _ AgV.rf
            · exact absurd c30 (by decide)

set_option maxRecDepth 100000 in
set_option maxHeartbeats 1000000 in
theorem C_chanceB {X : En} {I : FI} {L : FL} {q : Nat × Nat} {m M ri : Nat} {sem : Nat → Sem} (h : CSt I q m M ri sem) {x z t w : Int32} (hv : ¬ (¬ z < 1 ∧ ¬ 20 < z ∧ ¬ t < 0 ∧ ¬ 999 < t ∧ ¬ w < 0 ∧ w ≤ 1)) : Ev X 9 mX7_chance (0, 0) [.ref 0, .int x, .int z, .int t, .int w] S0 I L (R0 q) (AgLL (-4611686018427387904) I L q) := by
  refine ev_of (by decide +kernel) rfl ?_
  show SW X _ _ _ 0 [some (.ref 0), some (.int x), some (.int z), some (.int t), some (.int w), none, none] [] S0 I L (R0 q) _
  refine s_iload_n (tb_ok aX7_chance_0 0 rfl) rfl ?_
  refine s_iconst (v := 1) (tb_ok aX7_chance_0 1 rfl) (by decide) ?_
  refine s_icmp_lt (tgt := 33) (tb_ok aX7_chance_0 2 rfl) (by decide) (fun c2 => ?_) (fun c2 => ?_)
  · refine s_ldc2 (tb_ok aX7_chance_0 16 rfl) k_RX7_293 ?_
    refine s_lret (tb_ok aX7_chance_0 17 rfl) rfl ?_
    exact ⟨rfl, rfl, AgL.rf, rfl, rfl⟩
  · refine s_iload_n (tb_ok aX7_chance_0 3 rfl) rfl ?_
    refine s_bipush (v := 20) (tb_ok aX7_chance_0 4 rfl) (by decide) ?_
    refine s_icmp_gt (tgt := 33) (tb_ok aX7_chance_0 5 rfl) (by decide) (fun c8 => ?_) (fun c8 => ?_)
    · refine s_ldc2 (tb_ok aX7_chance_0 16 rfl) k_RX7_293 ?_
      refine s_lret (tb_ok aX7_chance_0 17 rfl) rfl ?_
      exact ⟨rfl, rfl, AgL.rf, rfl, rfl⟩
    · refine s_iload_n (tb_ok aX7_chance_0 6 rfl) rfl ?_
      refine s_if_lt (tgt := 33) (tb_ok aX7_chance_0 7 rfl) (by decide) (fun c12 => ?_) (fun c12 => ?_)
      · refine s_ldc2 (tb_ok aX7_chance_0 16 rfl) k_RX7_293 ?_
        refine s_lret (tb_ok aX7_chance_0 17 rfl) rfl ?_
        exact ⟨rfl, rfl, AgL.rf, rfl, rfl⟩
      · refine s_iload_n (tb_ok aX7_chance_0 8 rfl) rfl ?_
        refine s_sipush (v := 999) (tb_ok aX7_chance_0 9 rfl) (by decide) ?_
        refine s_icmp_gt (tgt := 33) (tb_ok aX7_chance_0 10 rfl) (by decide) (fun c19 => ?_) (fun c19 => ?_)
        · refine s_ldc2 (tb_ok aX7_chance_0 16 rfl) k_RX7_293 ?_
          refine s_lret (tb_ok aX7_chance_0 17 rfl) rfl ?_
          exact ⟨rfl, rfl, AgL.rf, rfl, rfl⟩
        · refine s_iload (tb_ok aX7_chance_0 11 rfl) rfl ?_
          refine s_if_lt (tgt := 33) (tb_ok aX7_chance_0 12 rfl) (by decide) (fun c24 => ?_) (fun c24 => ?_)
          · refine s_ldc2 (tb_ok aX7_chance_0 16 rfl) k_RX7_293 ?_
            refine s_lret (tb_ok aX7_chance_0 17 rfl) rfl ?_
            exact ⟨rfl, rfl, AgL.rf, rfl, rfl⟩
          · refine s_iload (tb_ok aX7_chance_0 13 rfl) rfl ?_
            refine s_iconst (v := 1) (tb_ok aX7_chance_0 14 rfl) (by decide) ?_
            refine s_icmp_le (tgt := 37) (tb_ok aX7_chance_0 15 rfl) (by decide) (fun c30 => ?_) (fun c30 => ?_)
            · exact absurd ⟨c2, c8, c12, c19, c24, c30⟩ hv
            · refine s_ldc2 (tb_ok aX7_chance_0 16 rfl) k_RX7_293 ?_
              refine s_lret (tb_ok aX7_chance_0 17 rfl) rfl ?_
              exact ⟨rfl, rfl, AgL.rf, rfl, rfl⟩
