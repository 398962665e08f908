/-! the class: calls that only ask -/
def CSt (I : FI) (q : Nat × Nat) (m M ri : Nat) (sem : Nat → Sem) : Prop := I 1 3 = nI m ∧ m ≤ 10 ∧ I 5 1 = nI M ∧ M ≤ 5 ∧ ri < 6 ∧ q.1 = ruleN ri ∧ okRule I (ruleN ri) sem
def AgL (I I' : FI) : Prop := ∀ a, W1 a = false → a ≠ 4 → I' a = I a
theorem AgL.rf {I : FI} : AgL I I := fun _ _ _ => rfl
theorem AgV.l {I J : FI} (h : AgV I J) : AgL I J := fun a ha _ => h a ha
def AgLR (r : Option Value) (I : FI) (L : FL) (q : Nat × Nat) : Pst := fun r' S' I' L' R' => r' = r ∧ S' = S0 ∧ AgL I I' ∧ L' = L ∧ R' = R0 q
theorem wT : ∀ j, j < 5 → W1 (5 + 2 + j) = false ∧ 5 + 2 + j ≠ 27 := by decide
theorem CSt.v {I J : FI} {q : Nat × Nat} {m M ri : Nat} {sem : Nat → Sem} (h : CSt I q m M ri sem) (hA : AgV I J) : CSt J q m M ri sem := by
  obtain ⟨hm, hm10, hM, hM5, hri, hq, hs⟩ := h
  exact ⟨(congrFun (hA 1 (by decide)) 3).trans hm, hm10, (congrFun (hA 5 (by decide)) 1).trans hM, hM5, hri, hq, AgV.rule hri hs hA⟩
set_option maxRecDepth 100000 in
set_option maxHeartbeats 1000000 in
theorem C_told0v {X : En} {I : FI} {L : FL} {q : Nat × Nat} {m M ri : Nat} {sem : Nat → Sem} (h : CSt I q m M ri sem) {j : Nat} (hj : j < M) : Ev X 9 mX7_told (0, 0) [.ref 0, .int (nI j), .int (0)] S0 I L (R0 q) (AgLR (some (.int (I 5 2))) I L q) := by
  obtain ⟨hm, hm10, hM, hM5, hri, hq, hs⟩ := id h
  have hj5 : j < 5 := by omega
  have hob : S0[5 + 2 + j]? = some (5, 5) := ((orch5 q).2.2.2.1 j hj5).2
  have h27 : 5 + 2 + j ≠ 27 := (wT j hj5).2
  refine ev_of (by decide +kernel) rfl ?_
  show SW X _ _ _ 0 [some (.ref 0), some (.int (nI j)), some (.int (0)), none] [] S0 I L (R0 q) _
  refine s_aload_n (tb_ok aX7_told_0 0 rfl) rfl ?_
  refine s_getR (r := 5) (tb_ok aX7_told_0 1 rfl) f_RX7_19 rfl rfl rfl ?_
  refine s_iload_n (tb_ok aX7_told_0 2 rfl) rfl ?_
  refine s_cVp (as := [.int (nI j)]) (tb_ok aX7_told_0 3 rfl) v_RX7_115 (E_at (orch5 q) hM hM5 hj) (by decide) rfl rfl rfl rfl rfl (Nat.le_of_ble_eq_true rfl) (by decide) ?_
  refine s_astore_n (ls' := [some (.ref 0), some (.int (nI j)), some (.int (0)), some (.ref (5 + 2 + j))]) (tb_ok aX7_told_0 4 rfl) rfl rfl ?_
  refine s_iload_n (tb_ok aX7_told_0 5 rfl) rfl ?_
  refine s_if_ne (tgt := 21) (tb_ok aX7_told_0 6 rfl) (by decide) (fun c10 => ?_) (fun c10 => ?_)
  · exact absurd c10 (by decide)
  · refine s_aload_n (tb_ok aX7_told_0 7 rfl) rfl ?_
    refine s_getR (r := 5) (tb_ok aX7_told_0 8 rfl) f_RX7_19 rfl rfl rfl ?_
    refine s_getI (tb_ok aX7_told_0 9 rfl) f_RX7_127 rfl rfl rfl ?_
    refine s_iret (tb_ok aX7_told_0 10 rfl) rfl ?_
    exact ⟨rfl, rfl, AgL.rf, rfl, rfl⟩

set_option maxRecDepth 100000 in
set_option maxHeartbeats 1000000 in
theorem C_told0n {X : En} {I : FI} {L : FL} {q : Nat × Nat} {m M ri : Nat} {sem : Nat → Sem} (h : CSt I q m M ri sem) {x : Int32} (hx : x < 0 ∨ nI M ≤ x) : Ev X 9 mX7_told (0, 0) [.ref 0, .int x, .int (0)] S0 I L (R0 q) (AgLR (some (.int (I 5 2))) I L q) := by
  obtain ⟨hm, hm10, hM, hM5, hri, hq, hs⟩ := id h
  refine ev_of (by decide +kernel) rfl ?_
  show SW X _ _ _ 0 [some (.ref 0), some (.int x), some (.int (0)), none] [] S0 I L (R0 q) _
  refine s_aload_n (tb_ok aX7_told_0 0 rfl) rfl ?_
  refine s_getR (r := 5) (tb_ok aX7_told_0 1 rfl) f_RX7_19 rfl rfl rfl ?_
  refine s_iload_n (tb_ok aX7_told_0 2 rfl) rfl ?_
  refine s_cVp (as := [.int x]) (tb_ok aX7_told_0 3 rfl) v_RX7_115 (E_atN (orch5 q) hM hM5 hx) (by decide) rfl rfl rfl rfl rfl (Nat.le_of_ble_eq_true rfl) (by decide) ?_
  refine s_astoreN_n (ls' := [some (.ref 0), some (.int x), some (.int (0)), some (.null)]) (tb_ok aX7_told_0 4 rfl) rfl rfl ?_
  refine s_iload_n (tb_ok aX7_told_0 5 rfl) rfl ?_
  refine s_if_ne (tgt := 21) (tb_ok aX7_told_0 6 rfl) (by decide) (fun c10 => ?_) (fun c10 => ?_)
  · exact absurd c10 (by decide)
  · refine s_aload_n (tb_ok aX7_told_0 7 rfl) rfl ?_
    refine s_getR (r := 5) (tb_ok aX7_told_0 8 rfl) f_RX7_19 rfl rfl rfl ?_
    refine s_getI (tb_ok aX7_told_0 9 rfl) f_RX7_127 rfl rfl rfl ?_
    refine s_iret (tb_ok aX7_told_0 10 rfl) rfl ?_
    exact ⟨rfl, rfl, AgL.rf, rfl, rfl⟩

theorem t5_live {f g : Nat → Int32} : T5 (upd (cp5 f g) 2 (cp5 f g 2 ||| 0)) f := by
  intro j hj
  by_cases e : j = 2
  · subst e; rw [upd_o, or_0]; rfl
  · rw [upd_ne e]; exact if_pos hj
theorem smB_c {A B : Nat → Int32} {f : Nat} : ∀ k, A f = B f → (∀ j, j < k → A j = B j) → smB A f k = smB B f k := by
  intro k
  induction k with
  | zero => intro _ _; rfl
  | succ k ih =>
    intro h1 h2
    unfold smB
    rw [ih h1 (fun j hj => h2 j (by omega)), h1, h2 k (by omega)]
theorem smT_c {A B : Nat → Int32} : ∀ k, (∀ j, j < k → A j = B j) → smT A k = smT B k := by
  intro k
  induction k with
  | zero => intro _; rfl
  | succ k ih =>
    intro h
    unfold smT
    rw [ih (fun j hj => h j (by omega)), smB_c k (h k (by omega)) (fun j hj => h j (by omega))]
theorem smT_flO {I : FI} {o : Nat} {g : Nat → Int32} : smT ((flO I o g 12) o) 12 = smT g 12 := smT_c 12 (fun j hj => flO_at hj)
set_option maxRecDepth 100000 in
set_option maxHeartbeats 1000000 in
theorem C_told1 {X : En} {I : FI} {L : FL} {q : Nat × Nat} {m M ri : Nat} {sem : Nat → Sem} (h : CSt I q m M ri sem) {j : Nat} (hj : j < M) : Ev X 9 mX7_told (0, 0) [.ref 0, .int (nI j), .int (1)] S0 I L (R0 q) (AgLR (some (.int ((I (5 + 2 + j)) 1))) I L q) := by
  obtain ⟨hm, hm10, hM, hM5, hri, hq, hs⟩ := id h
  have hj5 : j < 5 := by omega
  have hob : S0[5 + 2 + j]? = some (5, 5) := ((orch5 q).2.2.2.1 j hj5).2
  have h27 : 5 + 2 + j ≠ 27 := (wT j hj5).2
  refine ev_of (by decide +kernel) rfl ?_
  show SW X _ _ _ 0 [some (.ref 0), some (.int (nI j)), some (.int (1)), none] [] S0 I L (R0 q) _
  refine s_aload_n (tb_ok aX7_told_0 0 rfl) rfl ?_
  refine s_getR (r := 5) (tb_ok aX7_told_0 1 rfl) f_RX7_19 rfl rfl rfl ?_
  refine s_iload_n (tb_ok aX7_told_0 2 rfl) rfl ?_
  refine s_cVp (as := [.int (nI j)]) (tb_ok aX7_told_0 3 rfl) v_RX7_115 (E_at (orch5 q) hM hM5 hj) (by decide) rfl rfl rfl rfl rfl (Nat.le_of_ble_eq_true rfl) (by decide) ?_
  refine s_astore_n (ls' := [some (.ref 0), some (.int (nI j)), some (.int (1)), some (.ref (5 + 2 + j))]) (tb_ok aX7_told_0 4 rfl) rfl rfl ?_
  refine s_iload_n (tb_ok aX7_told_0 5 rfl) rfl ?_
  refine s_if_ne (tgt := 21) (tb_ok aX7_told_0 6 rfl) (by decide) (fun c10 => ?_) (fun c10 => ?_)
  · refine s_aload_n (tb_ok aX7_told_0 11 rfl) rfl ?_
    refine s_ifnull (tb_ok aX7_told_0 12 rfl) ?_
    refine s_iload_n (tb_ok aX7_told_0 13 rfl) rfl ?_
    refine s_if_lt (tgt := 35) (tb_ok aX7_told_0 14 rfl) (by decide) (fun c26 => ?_) (fun c26 => ?_)
    · exact absurd c26 (by decide)
    · refine s_iload_n (tb_ok aX7_told_0 15 rfl) rfl ?_
      refine s_bipush (v := 11) (tb_ok aX7_told_0 16 rfl) (by decide) ?_
      refine s_icmp_le (tgt := 38) (tb_ok aX7_told_0 17 rfl) (by decide) (fun c32 => ?_) (fun c32 => ?_)
      · refine s_iload_n (tb_ok aX7_told_0 20 rfl) rfl ?_
        refine s_tableOut (tgt := 192) (tb_ok aX7_told_0 21 rfl) (Or.inl (by decide)) (by decide) ?_
        refine s_aload_n (tb_ok aX7_told_3 9 rfl) rfl ?_
        refine s_aload_n (tb_ok aX7_told_3 10 rfl) rfl ?_
        refine s_iload_n (tb_ok aX7_told_3 11 rfl) rfl ?_
        refine s_cVp (as := [.ref (5 + 2 + j), .int (1)]) (tb_ok aX7_told_3 12 rfl) v_RX7_123 (E_tellOf hob _) (by decide) rfl rfl rfl rfl rfl (Nat.le_of_ble_eq_true rfl) (by decide) ?_
        refine s_iret (tb_ok aX7_told_3 13 rfl) rfl ?_
        refine ⟨?_, rfl, AgL.rf, rfl, rfl⟩
        rfl
      · exact absurd c32 (by decide)
  · exact absurd c10 (by decide)

set_option maxRecDepth 100000 in
set_option maxHeartbeats 1000000 in
theorem C_told2 {X : En} {I : FI} {L : FL} {q : Nat × Nat} {m M ri : Nat} {sem : Nat → Sem} (h : CSt I q m M ri sem) {j : Nat} (hj : j < M) : Ev X 9 mX7_told (0, 0) [.ref 0, .int (nI j), .int (2)] S0 I L (R0 q) (AgLR (some (.int ((I (5 + 2 + j)) 2))) I L q) := by
  obtain ⟨hm, hm10, hM, hM5, hri, hq, hs⟩ := id h
  have hj5 : j < 5 := by omega
  have hob : S0[5 + 2 + j]? = some (5, 5) := ((orch5 q).2.2.2.1 j hj5).2
  have h27 : 5 + 2 + j ≠ 27 := (wT j hj5).2
  refine ev_of (by decide +kernel) rfl ?_
  show SW X _ _ _ 0 [some (.ref 0), some (.int (nI j)), some (.int (2)), none] [] S0 I L (R0 q) _
  refine s_aload_n (tb_ok aX7_told_0 0 rfl) rfl ?_
  refine s_getR (r := 5) (tb_ok aX7_told_0 1 rfl) f_RX7_19 rfl rfl rfl ?_
  refine s_iload_n (tb_ok aX7_told_0 2 rfl) rfl ?_
  refine s_cVp (as := [.int (nI j)]) (tb_ok aX7_told_0 3 rfl) v_RX7_115 (E_at (orch5 q) hM hM5 hj) (by decide) rfl rfl rfl rfl rfl (Nat.le_of_ble_eq_true rfl) (by decide) ?_
  refine s_astore_n (ls' := [some (.ref 0), some (.int (nI j)), some (.int (2)), some (.ref (5 + 2 + j))]) (tb_ok aX7_told_0 4 rfl) rfl rfl ?_
  refine s_iload_n (tb_ok aX7_told_0 5 rfl) rfl ?_
  refine s_if_ne (tgt := 21) (tb_ok aX7_told_0 6 rfl) (by decide) (fun c10 => ?_) (fun c10 => ?_)
  · refine s_aload_n (tb_ok aX7_told_0 11 rfl) rfl ?_
    refine s_ifnull (tb_ok aX7_told_0 12 rfl) ?_
    refine s_iload_n (tb_ok aX7_told_0 13 rfl) rfl ?_
    refine s_if_lt (tgt := 35) (tb_ok aX7_told_0 14 rfl) (by decide) (fun c26 => ?_) (fun c26 => ?_)
    · exact absurd c26 (by decide)
    · refine s_iload_n (tb_ok aX7_told_0 15 rfl) rfl ?_
      refine s_bipush (v := 11) (tb_ok aX7_told_0 16 rfl) (by decide) ?_
      refine s_icmp_le (tgt := 38) (tb_ok aX7_told_0 17 rfl) (by decide) (fun c32 => ?_) (fun c32 => ?_)
      · refine s_iload_n (tb_ok aX7_told_0 20 rfl) rfl ?_
        refine s_tableOut (tgt := 192) (tb_ok aX7_told_0 21 rfl) (Or.inl (by decide)) (by decide) ?_
        refine s_aload_n (tb_ok aX7_told_3 9 rfl) rfl ?_
        refine s_aload_n (tb_ok aX7_told_3 10 rfl) rfl ?_
        refine s_iload_n (tb_ok aX7_told_3 11 rfl) rfl ?_
        refine s_cVp (as := [.ref (5 + 2 + j), .int (2)]) (tb_ok aX7_told_3 12 rfl) v_RX7_123 (E_tellOf hob _) (by decide) rfl rfl rfl rfl rfl (Nat.le_of_ble_eq_true rfl) (by decide) ?_
        refine s_iret (tb_ok aX7_told_3 13 rfl) rfl ?_
        refine ⟨?_, rfl, AgL.rf, rfl, rfl⟩
        rfl
      · exact absurd c32 (by decide)
  · exact absurd c10 (by decide)

set_option maxRecDepth 100000 in
set_option maxHeartbeats 1000000 in
theorem C_told3 {X : En} {I : FI} {L : FL} {q : Nat × Nat} {m M ri : Nat} {sem : Nat → Sem} (h : CSt I q m M ri sem) {j : Nat} (hj : j < M) : Ev X 9 mX7_told (0, 0) [.ref 0, .int (nI j), .int (3)] S0 I L (R0 q) (AgLR (some (.int ((I (5 + 2 + j)) 3))) I L q) := by
  obtain ⟨hm, hm10, hM, hM5, hri, hq, hs⟩ := id h
  have hj5 : j < 5 := by omega
  have hob : S0[5 + 2 + j]? = some (5, 5) := ((orch5 q).2.2.2.1 j hj5).2
  have h27 : 5 + 2 + j ≠ 27 := (wT j hj5).2
  refine ev_of (by decide +kernel) rfl ?_
  show SW X _ _ _ 0 [some (.ref 0), some (.int (nI j)), some (.int (3)), none] [] S0 I L (R0 q) _
  refine s_aload_n (tb_ok aX7_told_0 0 rfl) rfl ?_
  refine s_getR (r := 5) (tb_ok aX7_told_0 1 rfl) f_RX7_19 rfl rfl rfl ?_
  refine s_iload_n (tb_ok aX7_told_0 2 rfl) rfl ?_
  refine s_cVp (as := [.int (nI j)]) (tb_ok aX7_told_0 3 rfl) v_RX7_115 (E_at (orch5 q) hM hM5 hj) (by decide) rfl rfl rfl rfl rfl (Nat.le_of_ble_eq_true rfl) (by decide) ?_
  refine s_astore_n (ls' := [some (.ref 0), some (.int (nI j)), some (.int (3)), some (.ref (5 + 2 + j))]) (tb_ok aX7_told_0 4 rfl) rfl rfl ?_
  refine s_iload_n (tb_ok aX7_told_0 5 rfl) rfl ?_
  refine s_if_ne (tgt := 21) (tb_ok aX7_told_0 6 rfl) (by decide) (fun c10 => ?_) (fun c10 => ?_)
  · refine s_aload_n (tb_ok aX7_told_0 11 rfl) rfl ?_
    refine s_ifnull (tb_ok aX7_told_0 12 rfl) ?_
    refine s_iload_n (tb_ok aX7_told_0 13 rfl) rfl ?_
    refine s_if_lt (tgt := 35) (tb_ok aX7_told_0 14 rfl) (by decide) (fun c26 => ?_) (fun c26 => ?_)
    · exact absurd c26 (by decide)
    · refine s_iload_n (tb_ok aX7_told_0 15 rfl) rfl ?_
      refine s_bipush (v := 11) (tb_ok aX7_told_0 16 rfl) (by decide) ?_
      refine s_icmp_le (tgt := 38) (tb_ok aX7_told_0 17 rfl) (by decide) (fun c32 => ?_) (fun c32 => ?_)
      · refine s_iload_n (tb_ok aX7_told_0 20 rfl) rfl ?_
        refine s_tableOut (tgt := 192) (tb_ok aX7_told_0 21 rfl) (Or.inl (by decide)) (by decide) ?_
        refine s_aload_n (tb_ok aX7_told_3 9 rfl) rfl ?_
        refine s_aload_n (tb_ok aX7_told_3 10 rfl) rfl ?_
        refine s_iload_n (tb_ok aX7_told_3 11 rfl) rfl ?_
        refine s_cVp (as := [.ref (5 + 2 + j), .int (3)]) (tb_ok aX7_told_3 12 rfl) v_RX7_123 (E_tellOf hob _) (by decide) rfl rfl rfl rfl rfl (Nat.le_of_ble_eq_true rfl) (by decide) ?_
        refine s_iret (tb_ok aX7_told_3 13 rfl) rfl ?_
        refine ⟨?_, rfl, AgL.rf, rfl, rfl⟩
        rfl
      · exact absurd c32 (by decide)
  · exact absurd c10 (by decide)

set_option maxRecDepth 100000 in
set_option maxHeartbeats 1000000 in
theorem C_told4 {X : En} {I : FI} {L : FL} {q : Nat × Nat} {m M ri : Nat} {sem : Nat → Sem} (h : CSt I q m M ri sem) {j : Nat} (hj : j < M) : Ev X 9 mX7_told (0, 0) [.ref 0, .int (nI j), .int (4)] S0 I L (R0 q) (AgLR (some (.int ((I (5 + 2 + j)) 4))) I L q) := by
  obtain ⟨hm, hm10, hM, hM5, hri, hq, hs⟩ := id h
  have hj5 : j < 5 := by omega
  have hob : S0[5 + 2 + j]? = some (5, 5) := ((orch5 q).2.2.2.1 j hj5).2
  have h27 : 5 + 2 + j ≠ 27 := (wT j hj5).2
  refine ev_of (by decide +kernel) rfl ?_
  show SW X _ _ _ 0 [some (.ref 0), some (.int (nI j)), some (.int (4)), none] [] S0 I L (R0 q) _
  refine s_aload_n (tb_ok aX7_told_0 0 rfl) rfl ?_
  refine s_getR (r := 5) (tb_ok aX7_told_0 1 rfl) f_RX7_19 rfl rfl rfl ?_
  refine s_iload_n (tb_ok aX7_told_0 2 rfl) rfl ?_
  refine s_cVp (as := [.int (nI j)]) (tb_ok aX7_told_0 3 rfl) v_RX7_115 (E_at (orch5 q) hM hM5 hj) (by decide) rfl rfl rfl rfl rfl (Nat.le_of_ble_eq_true rfl) (by decide) ?_
  refine s_astore_n (ls' := [some (.ref 0), some (.int (nI j)), some (.int (4)), some (.ref (5 + 2 + j))]) (tb_ok aX7_told_0 4 rfl) rfl rfl ?_
  refine s_iload_n (tb_ok aX7_told_0 5 rfl) rfl ?_
  refine s_if_ne (tgt := 21) (tb_ok aX7_told_0 6 rfl) (by decide) (fun c10 => ?_) (fun c10 => ?_)
  · refine s_aload_n (tb_ok aX7_told_0 11 rfl) rfl ?_
    refine s_ifnull (tb_ok aX7_told_0 12 rfl) ?_
    refine s_iload_n (tb_ok aX7_told_0 13 rfl) rfl ?_
    refine s_if_lt (tgt := 35) (tb_ok aX7_told_0 14 rfl) (by decide) (fun c26 => ?_) (fun c26 => ?_)
    · exact absurd c26 (by decide)
    · refine s_iload_n (tb_ok aX7_told_0 15 rfl) rfl ?_
      refine s_bipush (v := 11) (tb_ok aX7_told_0 16 rfl) (by decide) ?_
      refine s_icmp_le (tgt := 38) (tb_ok aX7_told_0 17 rfl) (by decide) (fun c32 => ?_) (fun c32 => ?_)
      · refine s_iload_n (tb_ok aX7_told_0 20 rfl) rfl ?_
        refine s_tableOut (tgt := 192) (tb_ok aX7_told_0 21 rfl) (Or.inl (by decide)) (by decide) ?_
        refine s_aload_n (tb_ok aX7_told_3 9 rfl) rfl ?_
        refine s_aload_n (tb_ok aX7_told_3 10 rfl) rfl ?_
        refine s_iload_n (tb_ok aX7_told_3 11 rfl) rfl ?_
        refine s_cVp (as := [.ref (5 + 2 + j), .int (4)]) (tb_ok aX7_told_3 12 rfl) v_RX7_123 (E_tellOf hob _) (by decide) rfl rfl rfl rfl rfl (Nat.le_of_ble_eq_true rfl) (by decide) ?_
        refine s_iret (tb_ok aX7_told_3 13 rfl) rfl ?_
        refine ⟨?_, rfl, AgL.rf, rfl, rfl⟩
        rfl
      · exact absurd c32 (by decide)
  · exact absurd c10 (by decide)

set_option maxRecDepth 100000 in
set_option maxHeartbeats 1000000 in
theorem C_told5 {X : En} {I : FI} {L : FL} {q : Nat × Nat} {m M ri : Nat} {sem : Nat → Sem} (h : CSt I q m M ri sem) {j : Nat} (hj : j < M) : Ev X 9 mX7_told (0, 0) [.ref 0, .int (nI j), .int (5)] S0 I L (R0 q) (AgLR (some (.int ((I (5 + 2 + j)) 0))) I L q) := by
  obtain ⟨hm, hm10, hM, hM5, hri, hq, hs⟩ := id h
  have hj5 : j < 5 := by omega
  have hob : S0[5 + 2 + j]? = some (5, 5) := ((orch5 q).2.2.2.1 j hj5).2
  have h27 : 5 + 2 + j ≠ 27 := (wT j hj5).2
  refine ev_of (by decide +kernel) rfl ?_
  show SW X _ _ _ 0 [some (.ref 0), some (.int (nI j)), some (.int (5)), none] [] S0 I L (R0 q) _
  refine s_aload_n (tb_ok aX7_told_0 0 rfl) rfl ?_
  refine s_getR (r := 5) (tb_ok aX7_told_0 1 rfl) f_RX7_19 rfl rfl rfl ?_
  refine s_iload_n (tb_ok aX7_told_0 2 rfl) rfl ?_
  refine s_cVp (as := [.int (nI j)]) (tb_ok aX7_told_0 3 rfl) v_RX7_115 (E_at (orch5 q) hM hM5 hj) (by decide) rfl rfl rfl rfl rfl (Nat.le_of_ble_eq_true rfl) (by decide) ?_
  refine s_astore_n (ls' := [some (.ref 0), some (.int (nI j)), some (.int (5)), some (.ref (5 + 2 + j))]) (tb_ok aX7_told_0 4 rfl) rfl rfl ?_
  refine s_iload_n (tb_ok aX7_told_0 5 rfl) rfl ?_
  refine s_if_ne (tgt := 21) (tb_ok aX7_told_0 6 rfl) (by decide) (fun c10 => ?_) (fun c10 => ?_)
  · refine s_aload_n (tb_ok aX7_told_0 11 rfl) rfl ?_
    refine s_ifnull (tb_ok aX7_told_0 12 rfl) ?_
    refine s_iload_n (tb_ok aX7_told_0 13 rfl) rfl ?_
    refine s_if_lt (tgt := 35) (tb_ok aX7_told_0 14 rfl) (by decide) (fun c26 => ?_) (fun c26 => ?_)
    · exact absurd c26 (by decide)
    · refine s_iload_n (tb_ok aX7_told_0 15 rfl) rfl ?_
      refine s_bipush (v := 11) (tb_ok aX7_told_0 16 rfl) (by decide) ?_
      refine s_icmp_le (tgt := 38) (tb_ok aX7_told_0 17 rfl) (by decide) (fun c32 => ?_) (fun c32 => ?_)
      · refine s_iload_n (tb_ok aX7_told_0 20 rfl) rfl ?_
        refine s_tableIn (off := 41) (tgt := 80) (tb_ok aX7_told_0 21 rfl) (by decide) (by decide) rfl (by decide) ?_
        refine s_aload_n (tb_ok aX7_told_0 22 rfl) rfl ?_
        refine s_getI (tb_ok aX7_told_0 23 rfl) f_RX7_139 hob rfl rfl ?_
        refine s_iret (tb_ok aX7_told_1 0 rfl) rfl ?_
        exact ⟨rfl, rfl, AgL.rf, rfl, rfl⟩
      · exact absurd c32 (by decide)
  · exact absurd c10 (by decide)

set_option maxRecDepth 100000 in
set_option maxHeartbeats 1000000 in
theorem C_told6 {X : En} {I : FI} {L : FL} {q : Nat × Nat} {m M ri : Nat} {sem : Nat → Sem} (h : CSt I q m M ri sem) {j : Nat} (hj : j < M) : Ev X 9 mX7_told (0, 0) [.ref 0, .int (nI j), .int (6)] S0 I L (R0 q) (AgLR (some (.int (nx (I 2) (I 3) m ((I (5 + 2 + j)) 2) (-1)))) I L q) := by
  obtain ⟨hm, hm10, hM, hM5, hri, hq, hs⟩ := id h
  have hj5 : j < 5 := by omega
  have hob : S0[5 + 2 + j]? = some (5, 5) := ((orch5 q).2.2.2.1 j hj5).2
  have h27 : 5 + 2 + j ≠ 27 := (wT j hj5).2
  refine ev_of (by decide +kernel) rfl ?_
  show SW X _ _ _ 0 [some (.ref 0), some (.int (nI j)), some (.int (6)), none] [] S0 I L (R0 q) _
  refine s_aload_n (tb_ok aX7_told_0 0 rfl) rfl ?_
  refine s_getR (r := 5) (tb_ok aX7_told_0 1 rfl) f_RX7_19 rfl rfl rfl ?_
  refine s_iload_n (tb_ok aX7_told_0 2 rfl) rfl ?_
  refine s_cVp (as := [.int (nI j)]) (tb_ok aX7_told_0 3 rfl) v_RX7_115 (E_at (orch5 q) hM hM5 hj) (by decide) rfl rfl rfl rfl rfl (Nat.le_of_ble_eq_true rfl) (by decide) ?_
  refine s_astore_n (ls' := [some (.ref 0), some (.int (nI j)), some (.int (6)), some (.ref (5 + 2 + j))]) (tb_ok aX7_told_0 4 rfl) rfl rfl ?_
  refine s_iload_n (tb_ok aX7_told_0 5 rfl) rfl ?_
  refine s_if_ne (tgt := 21) (tb_ok aX7_told_0 6 rfl) (by decide) (fun c10 => ?_) (fun c10 => ?_)
  · refine s_aload_n (tb_ok aX7_told_0 11 rfl) rfl ?_
    refine s_ifnull (tb_ok aX7_told_0 12 rfl) ?_
    refine s_iload_n (tb_ok aX7_told_0 13 rfl) rfl ?_
    refine s_if_lt (tgt := 35) (tb_ok aX7_told_0 14 rfl) (by decide) (fun c26 => ?_) (fun c26 => ?_)
    · exact absurd c26 (by decide)
    · refine s_iload_n (tb_ok aX7_told_0 15 rfl) rfl ?_
      refine s_bipush (v := 11) (tb_ok aX7_told_0 16 rfl) (by decide) ?_
      refine s_icmp_le (tgt := 38) (tb_ok aX7_told_0 17 rfl) (by decide) (fun c32 => ?_) (fun c32 => ?_)
      · refine s_iload_n (tb_ok aX7_told_0 20 rfl) rfl ?_
        refine s_tableIn (off := 46) (tgt := 85) (tb_ok aX7_told_0 21 rfl) (by decide) (by decide) rfl (by decide) ?_
        refine s_aload_n (tb_ok aX7_told_1 1 rfl) rfl ?_
        refine s_getR (r := 1) (tb_ok aX7_told_1 2 rfl) f_RX7_10 rfl rfl rfl ?_
        refine s_aload_n (tb_ok aX7_told_1 3 rfl) rfl ?_
        refine s_getI (tb_ok aX7_told_1 4 rfl) f_RX7_142 hob rfl rfl ?_
        refine s_iconst (v := -1) (tb_ok aX7_told_1 5 rfl) (by decide) ?_
        refine s_cVp (as := [_, .int (-1)]) (tb_ok aX7_told_1 6 rfl) v_RX7_145 (E_next (lore0 q) hm hm10 _ _) (by decide) rfl rfl rfl rfl rfl (Nat.le_of_ble_eq_true rfl) (by decide) ?_
        refine s_iret (tb_ok aX7_told_1 7 rfl) rfl ?_
        exact ⟨rfl, rfl, AgL.rf, rfl, rfl⟩
      · exact absurd c32 (by decide)
  · exact absurd c10 (by decide)

set_option maxRecDepth 100000 in
set_option maxHeartbeats 1000000 in
theorem C_told7 {X : En} {I : FI} {L : FL} {q : Nat × Nat} {m M ri : Nat} {sem : Nat → Sem} (h : CSt I q m M ri sem) {j : Nat} (hj : j < M) : Ev X 9 mX7_told (0, 0) [.ref 0, .int (nI j), .int (7)] S0 I L (R0 q) (AgLR (some (.int (undP (I 2) (I 3) m (I (5 + 2 + j)) (I 5 2)))) I L q) := by
  obtain ⟨hm, hm10, hM, hM5, hri, hq, hs⟩ := id h
  have hj5 : j < 5 := by omega
  have hob : S0[5 + 2 + j]? = some (5, 5) := ((orch5 q).2.2.2.1 j hj5).2
  have h27 : 5 + 2 + j ≠ 27 := (wT j hj5).2
  refine ev_of (by decide +kernel) rfl ?_
  show SW X _ _ _ 0 [some (.ref 0), some (.int (nI j)), some (.int (7)), none] [] S0 I L (R0 q) _
  refine s_aload_n (tb_ok aX7_told_0 0 rfl) rfl ?_
  refine s_getR (r := 5) (tb_ok aX7_told_0 1 rfl) f_RX7_19 rfl rfl rfl ?_
  refine s_iload_n (tb_ok aX7_told_0 2 rfl) rfl ?_
  refine s_cVp (as := [.int (nI j)]) (tb_ok aX7_told_0 3 rfl) v_RX7_115 (E_at (orch5 q) hM hM5 hj) (by decide) rfl rfl rfl rfl rfl (Nat.le_of_ble_eq_true rfl) (by decide) ?_
  refine s_astore_n (ls' := [some (.ref 0), some (.int (nI j)), some (.int (7)), some (.ref (5 + 2 + j))]) (tb_ok aX7_told_0 4 rfl) rfl rfl ?_
  refine s_iload_n (tb_ok aX7_told_0 5 rfl) rfl ?_
  refine s_if_ne (tgt := 21) (tb_ok aX7_told_0 6 rfl) (by decide) (fun c10 => ?_) (fun c10 => ?_)
  · refine s_aload_n (tb_ok aX7_told_0 11 rfl) rfl ?_
    refine s_ifnull (tb_ok aX7_told_0 12 rfl) ?_
    refine s_iload_n (tb_ok aX7_told_0 13 rfl) rfl ?_
    refine s_if_lt (tgt := 35) (tb_ok aX7_told_0 14 rfl) (by decide) (fun c26 => ?_) (fun c26 => ?_)
    · exact absurd c26 (by decide)
    · refine s_iload_n (tb_ok aX7_told_0 15 rfl) rfl ?_
      refine s_bipush (v := 11) (tb_ok aX7_told_0 16 rfl) (by decide) ?_
      refine s_icmp_le (tgt := 38) (tb_ok aX7_told_0 17 rfl) (by decide) (fun c32 => ?_) (fun c32 => ?_)
      · refine s_iload_n (tb_ok aX7_told_0 20 rfl) rfl ?_
        refine s_tableIn (off := 59) (tgt := 98) (tb_ok aX7_told_0 21 rfl) (by decide) (by decide) rfl (by decide) ?_
        refine s_aload_n (tb_ok aX7_told_1 8 rfl) rfl ?_
        refine s_getR (r := 64) (tb_ok aX7_told_1 9 rfl) f_RX7_101 rfl rfl rfl ?_
        refine s_aload_n (tb_ok aX7_told_1 10 rfl) rfl ?_
        refine s_aload_n (tb_ok aX7_told_1 11 rfl) rfl ?_
        refine s_getR (r := 5) (tb_ok aX7_told_1 12 rfl) f_RX7_19 rfl rfl rfl ?_
        refine s_getI (tb_ok aX7_told_1 13 rfl) f_RX7_127 rfl rfl rfl ?_
        refine s_cVp (as := [.ref (5 + 2 + j), _]) (tb_ok aX7_told_1 14 rfl) v_RX7_148 (E_understands hm hm10 hob _) (by decide) rfl rfl rfl rfl rfl (Nat.le_of_ble_eq_true rfl) (by decide) ?_
        refine s_iret (tb_ok aX7_told_1 15 rfl) rfl ?_
        exact ⟨rfl, rfl, AgL.rf, rfl, rfl⟩
      · exact absurd c32 (by decide)
  · exact absurd c10 (by decide)

set_option maxRecDepth 100000 in
set_option maxHeartbeats 1000000 in
theorem C_told8 {X : En} {I : FI} {L : FL} {q : Nat × Nat} {m M ri : Nat} {sem : Nat → Sem} (h : CSt I q m M ri sem) {j : Nat} (hj : j < M) : Ev X 9 mX7_told (0, 0) [.ref 0, .int (nI j), .int (8)] S0 I L (R0 q) (AgLR (some (.int (falS sem (I (5 + 2 + j)) (undP (I 2) (I 3) m (I (5 + 2 + j)) (I 5 2)) (I 5 2) 12))) I L q) := by
  obtain ⟨hm, hm10, hM, hM5, hri, hq, hs⟩ := id h
  have hj5 : j < 5 := by omega
  have hob : S0[5 + 2 + j]? = some (5, 5) := ((orch5 q).2.2.2.1 j hj5).2
  have h27 : 5 + 2 + j ≠ 27 := (wT j hj5).2
  refine ev_of (by decide +kernel) rfl ?_
  show SW X _ _ _ 0 [some (.ref 0), some (.int (nI j)), some (.int (8)), none] [] S0 I L (R0 q) _
  refine s_aload_n (tb_ok aX7_told_0 0 rfl) rfl ?_
  refine s_getR (r := 5) (tb_ok aX7_told_0 1 rfl) f_RX7_19 rfl rfl rfl ?_
  refine s_iload_n (tb_ok aX7_told_0 2 rfl) rfl ?_
  refine s_cVp (as := [.int (nI j)]) (tb_ok aX7_told_0 3 rfl) v_RX7_115 (E_at (orch5 q) hM hM5 hj) (by decide) rfl rfl rfl rfl rfl (Nat.le_of_ble_eq_true rfl) (by decide) ?_
  refine s_astore_n (ls' := [some (.ref 0), some (.int (nI j)), some (.int (8)), some (.ref (5 + 2 + j))]) (tb_ok aX7_told_0 4 rfl) rfl rfl ?_
  refine s_iload_n (tb_ok aX7_told_0 5 rfl) rfl ?_
  refine s_if_ne (tgt := 21) (tb_ok aX7_told_0 6 rfl) (by decide) (fun c10 => ?_) (fun c10 => ?_)
  · refine s_aload_n (tb_ok aX7_told_0 11 rfl) rfl ?_
    refine s_ifnull (tb_ok aX7_told_0 12 rfl) ?_
    refine s_iload_n (tb_ok aX7_told_0 13 rfl) rfl ?_
    refine s_if_lt (tgt := 35) (tb_ok aX7_told_0 14 rfl) (by decide) (fun c26 => ?_) (fun c26 => ?_)
    · exact absurd c26 (by decide)
    · refine s_iload_n (tb_ok aX7_told_0 15 rfl) rfl ?_
      refine s_bipush (v := 11) (tb_ok aX7_told_0 16 rfl) (by decide) ?_
      refine s_icmp_le (tgt := 38) (tb_ok aX7_told_0 17 rfl) (by decide) (fun c32 => ?_) (fun c32 => ?_)
      · refine s_iload_n (tb_ok aX7_told_0 20 rfl) rfl ?_
        refine s_tableIn (off := 75) (tgt := 114) (tb_ok aX7_told_0 21 rfl) (by decide) (by decide) rfl (by decide) ?_
        refine s_aload_n (tb_ok aX7_told_1 16 rfl) rfl ?_
        refine s_getR (r := 64) (tb_ok aX7_told_1 17 rfl) f_RX7_101 rfl rfl rfl ?_
        refine s_aload_n (tb_ok aX7_told_1 18 rfl) rfl ?_
        refine s_aload_n (tb_ok aX7_told_1 19 rfl) rfl ?_
        refine s_getR (r := 64) (tb_ok aX7_told_1 20 rfl) f_RX7_101 rfl rfl rfl ?_
        refine s_aload_n (tb_ok aX7_told_1 21 rfl) rfl ?_
        refine s_aload_n (tb_ok aX7_told_1 22 rfl) rfl ?_
        refine s_getR (r := 5) (tb_ok aX7_told_1 23 rfl) f_RX7_19 rfl rfl rfl ?_
        refine s_getI (tb_ok aX7_told_2 0 rfl) f_RX7_127 rfl rfl rfl ?_
        refine s_cVp (as := [.ref (5 + 2 + j), _]) (tb_ok aX7_told_2 1 rfl) v_RX7_148 (E_understands hm hm10 hob _) (by decide) rfl rfl rfl rfl rfl (Nat.le_of_ble_eq_true rfl) (by decide) ?_
        refine s_aload_n (tb_ok aX7_told_2 2 rfl) rfl ?_
        refine s_getR (r := 5) (tb_ok aX7_told_2 3 rfl) f_RX7_19 rfl rfl rfl ?_
        refine s_getI (tb_ok aX7_told_2 4 rfl) f_RX7_127 rfl rfl rfl ?_
        refine s_cV (as := [.ref (5 + 2 + j), _, _]) (tb_ok aX7_told_2 5 rfl) v_RX7_151 (E_fallen hri hq hs hob _ _) (by decide) rfl rfl rfl rfl rfl (Nat.le_of_ble_eq_true rfl) (by decide) (fun r1 S1 I1 L1 R1 q1 => ?_)
        obtain ⟨rfl, rfl, hA, rfl, rfl⟩ := q1
        refine s_iret (tb_ok aX7_told_2 6 rfl) rfl ?_
        exact ⟨rfl, rfl, hA.v.l, rfl, rfl⟩
      · exact absurd c32 (by decide)
  · exact absurd c10 (by decide)

set_option maxRecDepth 100000 in
set_option maxHeartbeats 1000000 in
theorem C_told9 {X : En} {I : FI} {L : FL} {q : Nat × Nat} {m M ri : Nat} {sem : Nat → Sem} (h : CSt I q m M ri sem) {j : Nat} (hj : j < M) : Ev X 9 mX7_told (0, 0) [.ref 0, .int (nI j), .int (9)] S0 I L (R0 q) (AgLR (some (.int (clo (I 2) (I 3) m (-1) 12 ((I (5 + 2 + j)) 2)))) I L q) := by
  obtain ⟨hm, hm10, hM, hM5, hri, hq, hs⟩ := id h
  have hj5 : j < 5 := by omega
  have hob : S0[5 + 2 + j]? = some (5, 5) := ((orch5 q).2.2.2.1 j hj5).2
  have h27 : 5 + 2 + j ≠ 27 := (wT j hj5).2
  refine ev_of (by decide +kernel) rfl ?_
  show SW X _ _ _ 0 [some (.ref 0), some (.int (nI j)), some (.int (9)), none] [] S0 I L (R0 q) _
  refine s_aload_n (tb_ok aX7_told_0 0 rfl) rfl ?_
  refine s_getR (r := 5) (tb_ok aX7_told_0 1 rfl) f_RX7_19 rfl rfl rfl ?_
  refine s_iload_n (tb_ok aX7_told_0 2 rfl) rfl ?_
  refine s_cVp (as := [.int (nI j)]) (tb_ok aX7_told_0 3 rfl) v_RX7_115 (E_at (orch5 q) hM hM5 hj) (by decide) rfl rfl rfl rfl rfl (Nat.le_of_ble_eq_true rfl) (by decide) ?_
  refine s_astore_n (ls' := [some (.ref 0), some (.int (nI j)), some (.int (9)), some (.ref (5 + 2 + j))]) (tb_ok aX7_told_0 4 rfl) rfl rfl ?_
  refine s_iload_n (tb_ok aX7_told_0 5 rfl) rfl ?_
  refine s_if_ne (tgt := 21) (tb_ok aX7_told_0 6 rfl) (by decide) (fun c10 => ?_) (fun c10 => ?_)
  · refine s_aload_n (tb_ok aX7_told_0 11 rfl) rfl ?_
    refine s_ifnull (tb_ok aX7_told_0 12 rfl) ?_
    refine s_iload_n (tb_ok aX7_told_0 13 rfl) rfl ?_
    refine s_if_lt (tgt := 35) (tb_ok aX7_told_0 14 rfl) (by decide) (fun c26 => ?_) (fun c26 => ?_)
    · exact absurd c26 (by decide)
    · refine s_iload_n (tb_ok aX7_told_0 15 rfl) rfl ?_
      refine s_bipush (v := 11) (tb_ok aX7_told_0 16 rfl) (by decide) ?_
      refine s_icmp_le (tgt := 38) (tb_ok aX7_told_0 17 rfl) (by decide) (fun c32 => ?_) (fun c32 => ?_)
      · refine s_iload_n (tb_ok aX7_told_0 20 rfl) rfl ?_
        refine s_tableIn (off := 106) (tgt := 145) (tb_ok aX7_told_0 21 rfl) (by decide) (by decide) rfl (by decide) ?_
        refine s_aload_n (tb_ok aX7_told_2 7 rfl) rfl ?_
        refine s_getR (r := 1) (tb_ok aX7_told_2 8 rfl) f_RX7_10 rfl rfl rfl ?_
        refine s_aload_n (tb_ok aX7_told_2 9 rfl) rfl ?_
        refine s_getI (tb_ok aX7_told_2 10 rfl) f_RX7_142 hob rfl rfl ?_
        refine s_iconst (v := -1) (tb_ok aX7_told_2 11 rfl) (by decide) ?_
        refine s_cVp (as := [_, .int (-1)]) (tb_ok aX7_told_2 12 rfl) v_RX7_155 (E_closure (lore0 q) hm hm10 _ _) (by decide) rfl rfl rfl rfl rfl (Nat.le_of_ble_eq_true rfl) (by decide) ?_
        refine s_iret (tb_ok aX7_told_2 13 rfl) rfl ?_
        exact ⟨rfl, rfl, AgL.rf, rfl, rfl⟩
      · exact absurd c32 (by decide)
  · exact absurd c10 (by decide)

set_option maxRecDepth 100000 in
set_option maxHeartbeats 1000000 in
theorem C_told10 {X : En} {I : FI} {L : FL} {q : Nat × Nat} {m M ri : Nat} {sem : Nat → Sem} (h : CSt I q m M ri sem) {j : Nat} (hj : j < M) : Ev X 9 mX7_told (0, 0) [.ref 0, .int (nI j), .int (10)] S0 I L (R0 q) (AgLR (some (.int (4095 &&& ~~~(itP sem (I 2) (I 3) m (I 5 2) (I (5 + 2 + j)) 40 2)))) I L q) := by
  obtain ⟨hm, hm10, hM, hM5, hri, hq, hs⟩ := id h
  have hj5 : j < 5 := by omega
  have hob : S0[5 + 2 + j]? = some (5, 5) := ((orch5 q).2.2.2.1 j hj5).2
  have h27 : 5 + 2 + j ≠ 27 := (wT j hj5).2
  refine ev_of (by decide +kernel) rfl ?_
  show SW X _ _ _ 0 [some (.ref 0), some (.int (nI j)), some (.int (10)), none] [] S0 I L (R0 q) _
  refine s_aload_n (tb_ok aX7_told_0 0 rfl) rfl ?_
  refine s_getR (r := 5) (tb_ok aX7_told_0 1 rfl) f_RX7_19 rfl rfl rfl ?_
  refine s_iload_n (tb_ok aX7_told_0 2 rfl) rfl ?_
  refine s_cVp (as := [.int (nI j)]) (tb_ok aX7_told_0 3 rfl) v_RX7_115 (E_at (orch5 q) hM hM5 hj) (by decide) rfl rfl rfl rfl rfl (Nat.le_of_ble_eq_true rfl) (by decide) ?_
  refine s_astore_n (ls' := [some (.ref 0), some (.int (nI j)), some (.int (10)), some (.ref (5 + 2 + j))]) (tb_ok aX7_told_0 4 rfl) rfl rfl ?_
  refine s_iload_n (tb_ok aX7_told_0 5 rfl) rfl ?_
  refine s_if_ne (tgt := 21) (tb_ok aX7_told_0 6 rfl) (by decide) (fun c10 => ?_) (fun c10 => ?_)
  · refine s_aload_n (tb_ok aX7_told_0 11 rfl) rfl ?_
    refine s_ifnull (tb_ok aX7_told_0 12 rfl) ?_
    refine s_iload_n (tb_ok aX7_told_0 13 rfl) rfl ?_
    refine s_if_lt (tgt := 35) (tb_ok aX7_told_0 14 rfl) (by decide) (fun c26 => ?_) (fun c26 => ?_)
    · exact absurd c26 (by decide)
    · refine s_iload_n (tb_ok aX7_told_0 15 rfl) rfl ?_
      refine s_bipush (v := 11) (tb_ok aX7_told_0 16 rfl) (by decide) ?_
      refine s_icmp_le (tgt := 38) (tb_ok aX7_told_0 17 rfl) (by decide) (fun c32 => ?_) (fun c32 => ?_)
      · refine s_iload_n (tb_ok aX7_told_0 20 rfl) rfl ?_
        refine s_tableIn (off := 119) (tgt := 158) (tb_ok aX7_told_0 21 rfl) (by decide) (by decide) rfl (by decide) ?_
        refine s_aload_n (tb_ok aX7_told_2 14 rfl) rfl ?_
        refine s_aload_n (tb_ok aX7_told_2 15 rfl) rfl ?_
        refine s_iconst (v := 0) (tb_ok aX7_told_2 16 rfl) (by decide) ?_
        refine s_bipush (v := nI 40) (tb_ok aX7_told_2 17 rfl) (by decide) ?_
        refine s_cV (as := [.ref (5 + 2 + j), .int (0), .int (nI 40)]) (tb_ok aX7_told_2 18 rfl) v_RX7_158 (E_liveOn hm hm10 hri hq hs hob _ (n := 40) (by decide)) (by decide) rfl rfl rfl rfl rfl (Nat.le_of_ble_eq_true rfl) (by decide) (fun r1 S1 I1 L1 R1 q1 => ?_)
        obtain ⟨rfl, rfl, hA, rfl, rfl⟩ := q1
        have hA2 := hA.v1 (by decide)
        have h7 := hA.atO (by decide)
        refine s_sipush (v := 4095) (tb_ok aX7_told_2 19 rfl) (by decide) ?_
        refine s_aload_n (tb_ok aX7_told_2 20 rfl) rfl ?_
        refine s_getR (r := 27) (tb_ok aX7_told_2 21 rfl) f_RX7_36 rfl rfl rfl ?_
        refine s_getI (tb_ok aX7_told_2 22 rfl) f_RX7_142 rfl rfl rfl ?_
        refine s_iconst (v := -1) (tb_ok aX7_told_2 23 rfl) (by decide) ?_
        refine s_ixor (tb_ok aX7_told_3 0 rfl) ?_
        rw [xor_m1]
        refine s_iand (tb_ok aX7_told_3 1 rfl) ?_
        refine s_iret (tb_ok aX7_told_3 2 rfl) rfl ?_
        refine ⟨?_, rfl, hA2.l, rfl, rfl⟩
        rw [h7, (t5_live.it sem (I 2) (I 3) m (I 5 2) 40) 2 (by decide)]
      · exact absurd c32 (by decide)
  · exact absurd c10 (by decide)

set_option maxRecDepth 100000 in
set_option maxHeartbeats 1000000 in
theorem C_told11 {X : En} {I : FI} {L : FL} {q : Nat × Nat} {m M ri : Nat} {sem : Nat → Sem} (h : CSt I q m M ri sem) {j : Nat} (hj : j < M) : Ev X 9 mX7_told (0, 0) [.ref 0, .int (nI j), .int (11)] S0 I L (R0 q) (AgLR (some (.int ((msF (I 2) (I 3) m ((I (5 + 2 + j)) 2) m).2))) I L q) := by
  obtain ⟨hm, hm10, hM, hM5, hri, hq, hs⟩ := id h
  have hj5 : j < 5 := by omega
  have hob : S0[5 + 2 + j]? = some (5, 5) := ((orch5 q).2.2.2.1 j hj5).2
  have h27 : 5 + 2 + j ≠ 27 := (wT j hj5).2
  refine ev_of (by decide +kernel) rfl ?_
  show SW X _ _ _ 0 [some (.ref 0), some (.int (nI j)), some (.int (11)), none] [] S0 I L (R0 q) _
  refine s_aload_n (tb_ok aX7_told_0 0 rfl) rfl ?_
  refine s_getR (r := 5) (tb_ok aX7_told_0 1 rfl) f_RX7_19 rfl rfl rfl ?_
  refine s_iload_n (tb_ok aX7_told_0 2 rfl) rfl ?_
  refine s_cVp (as := [.int (nI j)]) (tb_ok aX7_told_0 3 rfl) v_RX7_115 (E_at (orch5 q) hM hM5 hj) (by decide) rfl rfl rfl rfl rfl (Nat.le_of_ble_eq_true rfl) (by decide) ?_
  refine s_astore_n (ls' := [some (.ref 0), some (.int (nI j)), some (.int (11)), some (.ref (5 + 2 + j))]) (tb_ok aX7_told_0 4 rfl) rfl rfl ?_
  refine s_iload_n (tb_ok aX7_told_0 5 rfl) rfl ?_
  refine s_if_ne (tgt := 21) (tb_ok aX7_told_0 6 rfl) (by decide) (fun c10 => ?_) (fun c10 => ?_)
  · refine s_aload_n (tb_ok aX7_told_0 11 rfl) rfl ?_
    refine s_ifnull (tb_ok aX7_told_0 12 rfl) ?_
    refine s_iload_n (tb_ok aX7_told_0 13 rfl) rfl ?_
    refine s_if_lt (tgt := 35) (tb_ok aX7_told_0 14 rfl) (by decide) (fun c26 => ?_) (fun c26 => ?_)
    · exact absurd c26 (by decide)
    · refine s_iload_n (tb_ok aX7_told_0 15 rfl) rfl ?_
      refine s_bipush (v := 11) (tb_ok aX7_told_0 16 rfl) (by decide) ?_
      refine s_icmp_le (tgt := 38) (tb_ok aX7_told_0 17 rfl) (by decide) (fun c32 => ?_) (fun c32 => ?_)
      · refine s_iload_n (tb_ok aX7_told_0 20 rfl) rfl ?_
        refine s_tableIn (off := 141) (tgt := 180) (tb_ok aX7_told_0 21 rfl) (by decide) (by decide) rfl (by decide) ?_
        refine s_aload_n (tb_ok aX7_told_3 3 rfl) rfl ?_
        refine s_getR (r := 1) (tb_ok aX7_told_3 4 rfl) f_RX7_10 rfl rfl rfl ?_
        refine s_aload_n (tb_ok aX7_told_3 5 rfl) rfl ?_
        refine s_getI (tb_ok aX7_told_3 6 rfl) f_RX7_142 hob rfl rfl ?_
        refine s_cVp (as := [_]) (tb_ok aX7_told_3 7 rfl) v_RX7_162 (E_missed (lore0 q) hm hm10 _) (by decide) rfl rfl rfl rfl rfl (Nat.le_of_ble_eq_true rfl) (by decide) ?_
        refine s_iret (tb_ok aX7_told_3 8 rfl) rfl ?_
        exact ⟨rfl, rfl, AgL.rf, rfl, rfl⟩
      · exact absurd c32 (by decide)
  · exact absurd c10 (by decide)

set_option maxRecDepth 100000 in
set_option maxHeartbeats 1000000 in
theorem C_toldN {X : En} {I : FI} {L : FL} {q : Nat × Nat} {m M ri : Nat} {sem : Nat → Sem} (h : CSt I q m M ri sem) {x : Int32} (hx : x < 0 ∨ nI M ≤ x) {w : Int32} (hw : ¬ w = 0) : Ev X 9 mX7_told (0, 0) [.ref 0, .int x, .int w] S0 I L (R0 q) (AgLR (some (.int (-2))) I L q) := by
  obtain ⟨hm, hm10, hM, hM5, hri, hq, hs⟩ := id h
  refine ev_of (by decide +kernel) rfl ?_
  show SW X _ _ _ 0 [some (.ref 0), some (.int x), some (.int w), none] [] S0 I L (R0 q) _
  refine s_aload_n (tb_ok aX7_told_0 0 rfl) rfl ?_
  refine s_getR (r := 5) (tb_ok aX7_told_0 1 rfl) f_RX7_19 rfl rfl rfl ?_
  refine s_iload_n (tb_ok aX7_told_0 2 rfl) rfl ?_
  refine s_cVp (as := [.int x]) (tb_ok aX7_told_0 3 rfl) v_RX7_115 (E_atN (orch5 q) hM hM5 hx) (by decide) rfl rfl rfl rfl rfl (Nat.le_of_ble_eq_true rfl) (by decide) ?_
  refine s_astoreN_n (ls' := [some (.ref 0), some (.int x), some (.int w), some (.null)]) (tb_ok aX7_told_0 4 rfl) rfl rfl ?_
  refine s_iload_n (tb_ok aX7_told_0 5 rfl) rfl ?_
  refine s_if_ne (tgt := 21) (tb_ok aX7_told_0 6 rfl) (by decide) (fun c10 => ?_) (fun c10 => ?_)
  · refine s_aloadq_n (r := none) (tb_ok aX7_told_0 11 rfl) rfl ?_
    refine s_ifnullN (tgt := 35) (tb_ok aX7_told_0 12 rfl) (by decide) ?_
    refine s_bipush (v := -2) (tb_ok aX7_told_0 18 rfl) (by decide) ?_
    refine s_iret (tb_ok aX7_told_0 19 rfl) rfl ?_
    exact ⟨rfl, rfl, AgL.rf, rfl, rfl⟩
  · exact absurd c10 hw

set_option maxRecDepth 100000 in
set_option maxHeartbeats 1000000 in
theorem C_toldR {X : En} {I : FI} {L : FL} {q : Nat × Nat} {m M ri : Nat} {sem : Nat → Sem} (h : CSt I q m M ri sem) {j : Nat} (hj : j < M) {w : Int32} (hw : w < 0 ∨ 11 < w) : Ev X 9 mX7_told (0, 0) [.ref 0, .int (nI j), .int w] S0 I L (R0 q) (AgLR (some (.int (-2))) I L q) := by
  obtain ⟨hm, hm10, hM, hM5, hri, hq, hs⟩ := id h
  have hj5 : j < 5 := by omega
  have hob : S0[5 + 2 + j]? = some (5, 5) := ((orch5 q).2.2.2.1 j hj5).2
  have h27 : 5 + 2 + j ≠ 27 := (wT j hj5).2
  refine ev_of (by decide +kernel) rfl ?_
  show SW X _ _ _ 0 [some (.ref 0), some (.int (nI j)), some (.int w), none] [] S0 I L (R0 q) _
  refine s_aload_n (tb_ok aX7_told_0 0 rfl) rfl ?_
  refine s_getR (r := 5) (tb_ok aX7_told_0 1 rfl) f_RX7_19 rfl rfl rfl ?_
  refine s_iload_n (tb_ok aX7_told_0 2 rfl) rfl ?_
  refine s_cVp (as := [.int (nI j)]) (tb_ok aX7_told_0 3 rfl) v_RX7_115 (E_at (orch5 q) hM hM5 hj) (by decide) rfl rfl rfl rfl rfl (Nat.le_of_ble_eq_true rfl) (by decide) ?_
  refine s_astore_n (ls' := [some (.ref 0), some (.int (nI j)), some (.int w), some (.ref (5 + 2 + j))]) (tb_ok aX7_told_0 4 rfl) rfl rfl ?_
  refine s_iload_n (tb_ok aX7_told_0 5 rfl) rfl ?_
  refine s_if_ne (tgt := 21) (tb_ok aX7_told_0 6 rfl) (by decide) (fun c10 => ?_) (fun c10 => ?_)
  · refine s_aload_n (tb_ok aX7_told_0 11 rfl) rfl ?_
    refine s_ifnull (tb_ok aX7_told_0 12 rfl) ?_
    refine s_iload_n (tb_ok aX7_told_0 13 rfl) rfl ?_
    refine s_if_lt (tgt := 35) (tb_ok aX7_told_0 14 rfl) (by decide) (fun c26 => ?_) (fun c26 => ?_)
    · refine s_bipush (v := -2) (tb_ok aX7_told_0 18 rfl) (by decide) ?_
      refine s_iret (tb_ok aX7_told_0 19 rfl) rfl ?_
      exact ⟨rfl, rfl, AgL.rf, rfl, rfl⟩
    · refine s_iload_n (tb_ok aX7_told_0 15 rfl) rfl ?_
      refine s_bipush (v := 11) (tb_ok aX7_told_0 16 rfl) (by decide) ?_
      refine s_icmp_le (tgt := 38) (tb_ok aX7_told_0 17 rfl) (by decide) (fun c32 => ?_) (fun c32 => ?_)
      · exact absurd hw (fun h_ => h_.elim c26 (Int32.not_lt.mpr c32))
      · refine s_bipush (v := -2) (tb_ok aX7_told_0 18 rfl) (by decide) ?_
        refine s_iret (tb_ok aX7_told_0 19 rfl) rfl ?_
        exact ⟨rfl, rfl, AgL.rf, rfl, rfl⟩
  · rw [c10] at hw
    exact absurd hw (by decide)

set_option maxRecDepth 100000 in
set_option maxHeartbeats 1000000 in
theorem C_follows0 {X : En} {I : FI} {L : FL} {q : Nat × Nat} {m M ri : Nat} {sem : Nat → Sem} (h : CSt I q m M ri sem) {x : Int32} (hx : ¬ x < 0 ∧ x ≤ 4095) : Ev X 9 mX7_follows (0, 0) [.ref 0, .int x, .int (0)] S0 I L (R0 q) (AgLR (some (.int (nx (I 2) (I 3) m x (-1)))) I L q) := by
  obtain ⟨hm, hm10, hM, hM5, hri, hq, hs⟩ := id h
  refine ev_of (by decide +kernel) rfl ?_
  show SW X _ _ _ 0 [some (.ref 0), some (.int x), some (.int (0))] [] S0 I L (R0 q) _
  refine s_iload_n (tb_ok aX7_follows_0 0 rfl) rfl ?_
  refine s_cSp (as := [.int x]) (tb_ok aX7_follows_0 1 rfl) v_RX7_105 (E_isSet _) (by decide) rfl rfl (Nat.le_of_ble_eq_true rfl) ?_
  refine s_topi (bI_t hx) ?_
  refine s_if_ne (tgt := 10) (tb_ok aX7_follows_0 2 rfl) (by decide) (fun c4 => ?_) (fun c4 => ?_)
  · refine s_iload_n (tb_ok aX7_follows_0 5 rfl) rfl ?_
    refine s_tableIn (off := 25) (tgt := 36) (tb_ok aX7_follows_0 6 rfl) (by decide) (by decide) rfl (by decide) ?_
    refine s_aload_n (tb_ok aX7_follows_0 7 rfl) rfl ?_
    refine s_getR (r := 1) (tb_ok aX7_follows_0 8 rfl) f_RX7_10 rfl rfl rfl ?_
    refine s_iload_n (tb_ok aX7_follows_0 9 rfl) rfl ?_
    refine s_iconst (v := -1) (tb_ok aX7_follows_0 10 rfl) (by decide) ?_
    refine s_cVp (as := [.int x, .int (-1)]) (tb_ok aX7_follows_0 11 rfl) v_RX7_145 (E_next (lore0 q) hm hm10 _ _) (by decide) rfl rfl rfl rfl rfl (Nat.le_of_ble_eq_true rfl) (by decide) ?_
    refine s_iret (tb_ok aX7_follows_0 12 rfl) rfl ?_
    exact ⟨rfl, rfl, AgL.rf, rfl, rfl⟩
  · exact absurd c4 (by decide)

set_option maxRecDepth 100000 in
set_option maxHeartbeats 1000000 in
theorem C_follows1 {X : En} {I : FI} {L : FL} {q : Nat × Nat} {m M ri : Nat} {sem : Nat → Sem} (h : CSt I q m M ri sem) {x : Int32} (hx : ¬ x < 0 ∧ x ≤ 4095) : Ev X 9 mX7_follows (0, 0) [.ref 0, .int x, .int (1)] S0 I L (R0 q) (AgLR (some (.int (clo (I 2) (I 3) m (-1) 12 x))) I L q) := by
  obtain ⟨hm, hm10, hM, hM5, hri, hq, hs⟩ := id h
  refine ev_of (by decide +kernel) rfl ?_
  show SW X _ _ _ 0 [some (.ref 0), some (.int x), some (.int (1))] [] S0 I L (R0 q) _
  refine s_iload_n (tb_ok aX7_follows_0 0 rfl) rfl ?_
  refine s_cSp (as := [.int x]) (tb_ok aX7_follows_0 1 rfl) v_RX7_105 (E_isSet _) (by decide) rfl rfl (Nat.le_of_ble_eq_true rfl) ?_
  refine s_topi (bI_t hx) ?_
  refine s_if_ne (tgt := 10) (tb_ok aX7_follows_0 2 rfl) (by decide) (fun c4 => ?_) (fun c4 => ?_)
  · refine s_iload_n (tb_ok aX7_follows_0 5 rfl) rfl ?_
    refine s_tableIn (off := 35) (tgt := 46) (tb_ok aX7_follows_0 6 rfl) (by decide) (by decide) rfl (by decide) ?_
    refine s_aload_n (tb_ok aX7_follows_0 13 rfl) rfl ?_
    refine s_getR (r := 1) (tb_ok aX7_follows_0 14 rfl) f_RX7_10 rfl rfl rfl ?_
    refine s_iload_n (tb_ok aX7_follows_0 15 rfl) rfl ?_
    refine s_iconst (v := -1) (tb_ok aX7_follows_0 16 rfl) (by decide) ?_
    refine s_cVp (as := [.int x, .int (-1)]) (tb_ok aX7_follows_0 17 rfl) v_RX7_155 (E_closure (lore0 q) hm hm10 _ _) (by decide) rfl rfl rfl rfl rfl (Nat.le_of_ble_eq_true rfl) (by decide) ?_
    refine s_iret (tb_ok aX7_follows_0 18 rfl) rfl ?_
    exact ⟨rfl, rfl, AgL.rf, rfl, rfl⟩
  · exact absurd c4 (by decide)

set_option maxRecDepth 100000 in
set_option maxHeartbeats 1000000 in
theorem C_follows2 {X : En} {I : FI} {L : FL} {q : Nat × Nat} {m M ri : Nat} {sem : Nat → Sem} (h : CSt I q m M ri sem) {x : Int32} (hx : ¬ x < 0 ∧ x ≤ 4095) : Ev X 9 mX7_follows (0, 0) [.ref 0, .int x, .int (2)] S0 I L (R0 q) (AgLR (some (.int (nI (rnd (I 2) (I 3) m 12 x 0)))) I L q) := by
  obtain ⟨hm, hm10, hM, hM5, hri, hq, hs⟩ := id h
  refine ev_of (by decide +kernel) rfl ?_
  show SW X _ _ _ 0 [some (.ref 0), some (.int x), some (.int (2))] [] S0 I L (R0 q) _
  refine s_iload_n (tb_ok aX7_follows_0 0 rfl) rfl ?_
  refine s_cSp (as := [.int x]) (tb_ok aX7_follows_0 1 rfl) v_RX7_105 (E_isSet _) (by decide) rfl rfl (Nat.le_of_ble_eq_true rfl) ?_
  refine s_topi (bI_t hx) ?_
  refine s_if_ne (tgt := 10) (tb_ok aX7_follows_0 2 rfl) (by decide) (fun c4 => ?_) (fun c4 => ?_)
  · refine s_iload_n (tb_ok aX7_follows_0 5 rfl) rfl ?_
    refine s_tableIn (off := 45) (tgt := 56) (tb_ok aX7_follows_0 6 rfl) (by decide) (by decide) rfl (by decide) ?_
    refine s_aload_n (tb_ok aX7_follows_0 19 rfl) rfl ?_
    refine s_getR (r := 1) (tb_ok aX7_follows_0 20 rfl) f_RX7_10 rfl rfl rfl ?_
    refine s_iload_n (tb_ok aX7_follows_0 21 rfl) rfl ?_
    refine s_cVp (as := [.int x]) (tb_ok aX7_follows_0 22 rfl) v_RX7_178 (E_rounds (lore0 q) hm hm10 _) (by decide) rfl rfl rfl rfl rfl (Nat.le_of_ble_eq_true rfl) (by decide) ?_
    refine s_iret (tb_ok aX7_follows_0 23 rfl) rfl ?_
    exact ⟨rfl, rfl, AgL.rf, rfl, rfl⟩
  · exact absurd c4 (by decide)

set_option maxRecDepth 100000 in
set_option maxHeartbeats 1000000 in
theorem C_followsX {X : En} {I : FI} {L : FL} {q : Nat × Nat} {m M ri : Nat} {sem : Nat → Sem} (h : CSt I q m M ri sem) {x w : Int32} (hx : ¬ (¬ x < 0 ∧ x ≤ 4095)) : Ev X 9 mX7_follows (0, 0) [.ref 0, .int x, .int w] S0 I L (R0 q) (AgLR (some (.int (-2))) I L q) := by
  obtain ⟨hm, hm10, hM, hM5, hri, hq, hs⟩ := id h
  refine ev_of (by decide +kernel) rfl ?_
  show SW X _ _ _ 0 [some (.ref 0), some (.int x), some (.int w)] [] S0 I L (R0 q) _
  refine s_iload_n (tb_ok aX7_follows_0 0 rfl) rfl ?_
  refine s_cSp (as := [.int x]) (tb_ok aX7_follows_0 1 rfl) v_RX7_105 (E_isSet _) (by decide) rfl rfl (Nat.le_of_ble_eq_true rfl) ?_
  refine s_if_ne (tgt := 10) (tb_ok aX7_follows_0 2 rfl) (by decide) (fun c4 => ?_) (fun c4 => ?_)
  · exact absurd (bI_n c4) hx
  · refine s_bipush (v := -2) (tb_ok aX7_follows_0 3 rfl) (by decide) ?_
    refine s_iret (tb_ok aX7_follows_0 4 rfl) rfl ?_
    exact ⟨rfl, rfl, AgL.rf, rfl, rfl⟩

theorem sw_o {w : Int32} {lo hi : Int} {a b : Int32} (h : w < a ∨ b < w) (ha : a.toInt = lo := by decide) (hb : b.toInt = hi := by decide) : w.toInt < lo ∨ hi < w.toInt := by
  subst ha hb
  simp only [Int32.lt_iff_toInt_lt] at h
  exact h
set_option maxRecDepth 100000 in
set_option maxHeartbeats 1000000 in
theorem C_followsW {X : En} {I : FI} {L : FL} {q : Nat × Nat} {m M ri : Nat} {sem : Nat → Sem} (h : CSt I q m M ri sem) {x w : Int32} (hx : ¬ x < 0 ∧ x ≤ 4095) (hw : w < 0 ∨ 2 < w) : Ev X 9 mX7_follows (0, 0) [.ref 0, .int x, .int w] S0 I L (R0 q) (AgLR (some (.int (-2))) I L q) := by
  obtain ⟨hm, hm10, hM, hM5, hri, hq, hs⟩ := id h
  refine ev_of (by decide +kernel) rfl ?_
  show SW X _ _ _ 0 [some (.ref 0), some (.int x), some (.int w)] [] S0 I L (R0 q) _
  refine s_iload_n (tb_ok aX7_follows_0 0 rfl) rfl ?_
  refine s_cSp (as := [.int x]) (tb_ok aX7_follows_0 1 rfl) v_RX7_105 (E_isSet _) (by decide) rfl rfl (Nat.le_of_ble_eq_true rfl) ?_
  refine s_topi (bI_t hx) ?_
  refine s_if_ne (tgt := 10) (tb_ok aX7_follows_0 2 rfl) (by decide) (fun c4 => ?_) (fun c4 => ?_)
  · refine s_iload_n (tb_ok aX7_follows_0 5 rfl) rfl ?_
    refine s_tableOut (tgt := 65) (tb_ok aX7_follows_0 6 rfl) (sw_o hw) (by decide) ?_
    refine s_bipush (v := -2) (tb_ok aX7_follows_1 0 rfl) (by decide) ?_
    refine s_iret (tb_ok aX7_follows_1 1 rfl) rfl ?_
    exact ⟨rfl, rfl, AgL.rf, rfl, rfl⟩
  · exact absurd c4 (by decide)

set_option maxRecDepth 100000 in
set_option maxHeartbeats 1000000 in
theorem C_laws0 {X : En} {I : FI} {L : FL} {q : Nat × Nat} {m M ri : Nat} {sem : Nat → Sem} (h : CSt I q m M ri sem) : Ev X 9 mX7_laws (0, 0) [.ref 0, .int (0)] S0 I L (R0 q) (AgLR (some (.int (idl (I 2) (I 3) m m))) I L q) := by
  obtain ⟨hm, hm10, hM, hM5, hri, hq, hs⟩ := id h
  refine ev_of (by decide +kernel) rfl ?_
  show SW X _ _ _ 0 [some (.ref 0), some (.int (0))] [] S0 I L (R0 q) _
  refine s_iload_n (tb_ok aX7_laws_0 0 rfl) rfl ?_
  refine s_if_ne (tgt := 12) (tb_ok aX7_laws_0 1 rfl) (by decide) (fun c1 => ?_) (fun c1 => ?_)
  · exact absurd c1 (by decide)
  · refine s_aload_n (tb_ok aX7_laws_0 2 rfl) rfl ?_
    refine s_getR (r := 1) (tb_ok aX7_laws_0 3 rfl) f_RX7_10 rfl rfl rfl ?_
    refine s_cVp (as := []) (tb_ok aX7_laws_0 4 rfl) v_RX7_181 (E_idle (lore0 q) hm hm10) (by decide) rfl rfl rfl rfl rfl (Nat.le_of_ble_eq_true rfl) (by decide) ?_
    refine s_iret (tb_ok aX7_laws_0 5 rfl) rfl ?_
    exact ⟨rfl, rfl, AgL.rf, rfl, rfl⟩

set_option maxRecDepth 100000 in
set_option maxHeartbeats 1000000 in
theorem C_laws1 {X : En} {I : FI} {L : FL} {q : Nat × Nat} {m M ri : Nat} {sem : Nat → Sem} (h : CSt I q m M ri sem) : Ev X 9 mX7_laws (0, 0) [.ref 0, .int (1)] S0 I L (R0 q) (AgLR (some (.int (rts (I 3) m))) I L q) := by
  obtain ⟨hm, hm10, hM, hM5, hri, hq, hs⟩ := id h
  refine ev_of (by decide +kernel) rfl ?_
  show SW X _ _ _ 0 [some (.ref 0), some (.int (1))] [] S0 I L (R0 q) _
  refine s_iload_n (tb_ok aX7_laws_0 0 rfl) rfl ?_
  refine s_if_ne (tgt := 12) (tb_ok aX7_laws_0 1 rfl) (by decide) (fun c1 => ?_) (fun c1 => ?_)
  · refine s_iload_n (tb_ok aX7_laws_0 6 rfl) rfl ?_
    refine s_iconst (v := 1) (tb_ok aX7_laws_0 7 rfl) (by decide) ?_
    refine s_icmp_ne (tgt := 25) (tb_ok aX7_laws_0 8 rfl) (by decide) (fun c14 => ?_) (fun c14 => ?_)
    · exact absurd c14 (by decide)
    · refine s_aload_n (tb_ok aX7_laws_0 9 rfl) rfl ?_
      refine s_getR (r := 1) (tb_ok aX7_laws_0 10 rfl) f_RX7_10 rfl rfl rfl ?_
      refine s_cVp (as := []) (tb_ok aX7_laws_0 11 rfl) v_RX7_184 (E_roots (lore0 q) hm hm10) (by decide) rfl rfl rfl rfl rfl (Nat.le_of_ble_eq_true rfl) (by decide) ?_
      refine s_iret (tb_ok aX7_laws_0 12 rfl) rfl ?_
      exact ⟨rfl, rfl, AgL.rf, rfl, rfl⟩
  · exact absurd c1 (by decide)

set_option maxRecDepth 100000 in
set_option maxHeartbeats 1000000 in
theorem C_laws2 {X : En} {I : FI} {L : FL} {q : Nat × Nat} {m M ri : Nat} {sem : Nat → Sem} (h : CSt I q m M ri sem) : Ev X 9 mX7_laws (0, 0) [.ref 0, .int (2)] S0 I L (R0 q) (AgLR (some (.int (smT (cl1 (I 2) (I 3) m) 12))) I L q) := by
  obtain ⟨hm, hm10, hM, hM5, hri, hq, hs⟩ := id h
  refine ev_of (by decide +kernel) rfl ?_
  show SW X _ _ _ 0 [some (.ref 0), some (.int (2))] [] S0 I L (R0 q) _
  refine s_iload_n (tb_ok aX7_laws_0 0 rfl) rfl ?_
  refine s_if_ne (tgt := 12) (tb_ok aX7_laws_0 1 rfl) (by decide) (fun c1 => ?_) (fun c1 => ?_)
  · refine s_iload_n (tb_ok aX7_laws_0 6 rfl) rfl ?_
    refine s_iconst (v := 1) (tb_ok aX7_laws_0 7 rfl) (by decide) ?_
    refine s_icmp_ne (tgt := 25) (tb_ok aX7_laws_0 8 rfl) (by decide) (fun c14 => ?_) (fun c14 => ?_)
    · refine s_iload_n (tb_ok aX7_laws_0 13 rfl) rfl ?_
      refine s_iconst (v := 2) (tb_ok aX7_laws_0 14 rfl) (by decide) ?_
      refine s_icmp_ne (tgt := 38) (tb_ok aX7_laws_0 15 rfl) (by decide) (fun c27 => ?_) (fun c27 => ?_)
      · exact absurd c27 (by decide)
      · refine s_aload_n (tb_ok aX7_laws_0 16 rfl) rfl ?_
        refine s_getR (r := 1) (tb_ok aX7_laws_0 17 rfl) f_RX7_10 rfl rfl rfl ?_
        refine s_cV (as := []) (tb_ok aX7_laws_0 18 rfl) v_RX7_187 (E_same (lore0 q) hm hm10) (by decide) rfl rfl rfl rfl rfl (Nat.le_of_ble_eq_true rfl) (by decide) (fun r1 S1 I1 L1 R1 q1 => ?_)
        obtain ⟨rfl, rfl, rfl, rfl, rfl⟩ := q1
        have hA : AgL I (flO I (1 + 3) (cl1 (I (1 + 1)) (I (1 + 2)) m) 12) := fun a _ ha => flO_n ha
        refine s_iret (tb_ok aX7_laws_0 19 rfl) rfl ?_
        refine ⟨?_, rfl, hA, rfl, rfl⟩
        rw [smT_flO]
    · exact absurd c14 (by decide)
  · exact absurd c1 (by decide)

set_option maxRecDepth 100000 in
set_option maxHeartbeats 1000000 in
theorem C_lawsF {X : En} {I : FI} {L : FL} {q : Nat × Nat} {m M ri : Nat} {sem : Nat → Sem} (h : CSt I q m M ri sem) {i : Nat} (hi : i < m) : Ev X 9 mX7_laws (0, 0) [.ref 0, .int (nI (10 + i))] S0 I L (R0 q) (AgLR (some (.int (I 2 i))) I L q) := by
  obtain ⟨hm, hm10, hM, hM5, hri, hq, hs⟩ := id h
  refine ev_of (by decide +kernel) rfl ?_
  show SW X _ _ _ 0 [some (.ref 0), some (.int (nI (10 + i)))] [] S0 I L (R0 q) _
  refine s_iload_n (tb_ok aX7_laws_0 0 rfl) rfl ?_
  refine s_if_ne (tgt := 12) (tb_ok aX7_laws_0 1 rfl) (by decide) (fun c1 => ?_) (fun c1 => ?_)
  · refine s_iload_n (tb_ok aX7_laws_0 6 rfl) rfl ?_
    refine s_iconst (v := nI 1) (tb_ok aX7_laws_0 7 rfl) (by decide) ?_
    refine s_icmp_ne (tgt := 25) (tb_ok aX7_laws_0 8 rfl) (by decide) (fun c14 => ?_) (fun c14 => ?_)
    · refine s_iload_n (tb_ok aX7_laws_0 13 rfl) rfl ?_
      refine s_iconst (v := nI 2) (tb_ok aX7_laws_0 14 rfl) (by decide) ?_
      refine s_icmp_ne (tgt := 38) (tb_ok aX7_laws_0 15 rfl) (by decide) (fun c27 => ?_) (fun c27 => ?_)
      · refine s_iload_n (tb_ok aX7_laws_0 20 rfl) rfl ?_
        refine s_bipush (v := nI 20) (tb_ok aX7_laws_0 21 rfl) (by decide) ?_
        refine s_icmp_lt (tgt := 76) (tb_ok aX7_laws_0 22 rfl) (by decide) (fun c41 => ?_) (fun c41 => ?_)
        · refine s_iload_n (tb_ok aX7_laws_1 16 rfl) rfl ?_
          refine s_bipush (v := nI 10) (tb_ok aX7_laws_1 17 rfl) (by decide) ?_
          refine s_icmp_lt (tgt := 111) (tb_ok aX7_laws_1 18 rfl) (by decide) (fun c79 => ?_) (fun c79 => ?_)
          · simp (disch := omega) only [nI_ltI] at c79
            omega
          · refine s_aload_n (tb_ok aX7_laws_1 19 rfl) rfl ?_
            refine s_getR (r := 1) (tb_ok aX7_laws_1 20 rfl) f_RX7_10 rfl rfl rfl ?_
            refine s_iload_n (tb_ok aX7_laws_1 21 rfl) rfl ?_
            refine s_bipush (v := 10) (tb_ok aX7_laws_1 22 rfl) (by decide) ?_
            refine s_isub (tb_ok aX7_laws_1 23 rfl) ?_
            refine s_topi (z := (nI i)) (i10 (by omega)) ?_
            refine s_cVp (as := [.int (nI i)]) (tb_ok aX7_laws_2 0 rfl) v_RX7_190 (E_has (lore0 q) hm hm10 _) (by decide) rfl rfl rfl rfl rfl (Nat.le_of_ble_eq_true rfl) (by decide) ?_
            refine s_topi (bI_t ⟨nI_pos (by omega), by simp (disch := omega) only [nI_ltI]; omega, by simp (disch := omega) only [nI_ltI]; omega⟩) ?_
            refine s_if_eq (tgt := 111) (tb_ok aX7_laws_2 1 rfl) (by decide) (fun c93 => ?_) (fun c93 => ?_)
            · exact absurd c93 (by decide)
            · refine s_aload_n (tb_ok aX7_laws_2 2 rfl) rfl ?_
              refine s_getR (r := 1) (tb_ok aX7_laws_2 3 rfl) f_RX7_10 rfl rfl rfl ?_
              refine s_getR (r := 2) (tb_ok aX7_laws_2 4 rfl) f_RX7_197 rfl rfl rfl ?_
              refine s_iload_n (tb_ok aX7_laws_2 5 rfl) rfl ?_
              refine s_bipush (v := 10) (tb_ok aX7_laws_2 6 rfl) (by decide) ?_
              refine s_isub (tb_ok aX7_laws_2 7 rfl) ?_
              refine s_topi (z := (nI i)) (i10 (by omega)) ?_
              refine s_ialdN (tb_ok aX7_laws_2 8 rfl) rfl (by omega) (by decide) ?_
              refine s_goto (tgt := 113) (tb_ok aX7_laws_2 9 rfl) (by decide) ?_
              refine s_iret (tb_ok aX7_laws_2 11 rfl) rfl ?_
              exact ⟨rfl, rfl, AgL.rf, rfl, rfl⟩
        · simp (disch := omega) only [nI_ltI] at c41
          omega
      · simp (disch := omega) only [nI_eq] at c27
        omega
    · simp (disch := omega) only [nI_eq] at c14
      omega
  · exact absurd c1 (nI_ne0 (by omega) (by omega))

set_option maxRecDepth 100000 in
set_option maxHeartbeats 1000000 in
theorem C_lawsA {X : En} {I : FI} {L : FL} {q : Nat × Nat} {m M ri : Nat} {sem : Nat → Sem} (h : CSt I q m M ri sem) {i : Nat} (hi : i < m) : Ev X 9 mX7_laws (0, 0) [.ref 0, .int (nI (20 + i))] S0 I L (R0 q) (AgLR (some (.int (I 3 i))) I L q) := by
  obtain ⟨hm, hm10, hM, hM5, hri, hq, hs⟩ := id h
  refine ev_of (by decide +kernel) rfl ?_
  show SW X _ _ _ 0 [some (.ref 0), some (.int (nI (20 + i)))] [] S0 I L (R0 q) _
  refine s_iload_n (tb_ok aX7_laws_0 0 rfl) rfl ?_
  refine s_if_ne (tgt := 12) (tb_ok aX7_laws_0 1 rfl) (by decide) (fun c1 => ?_) (fun c1 => ?_)
  · refine s_iload_n (tb_ok aX7_laws_0 6 rfl) rfl ?_
    refine s_iconst (v := nI 1) (tb_ok aX7_laws_0 7 rfl) (by decide) ?_
    refine s_icmp_ne (tgt := 25) (tb_ok aX7_laws_0 8 rfl) (by decide) (fun c14 => ?_) (fun c14 => ?_)
    · refine s_iload_n (tb_ok aX7_laws_0 13 rfl) rfl ?_
      refine s_iconst (v := nI 2) (tb_ok aX7_laws_0 14 rfl) (by decide) ?_
      refine s_icmp_ne (tgt := 38) (tb_ok aX7_laws_0 15 rfl) (by decide) (fun c27 => ?_) (fun c27 => ?_)
      · refine s_iload_n (tb_ok aX7_laws_0 20 rfl) rfl ?_
        refine s_bipush (v := nI 20) (tb_ok aX7_laws_0 21 rfl) (by decide) ?_
        refine s_icmp_lt (tgt := 76) (tb_ok aX7_laws_0 22 rfl) (by decide) (fun c41 => ?_) (fun c41 => ?_)
        · simp (disch := omega) only [nI_ltI] at c41
          omega
        · refine s_aload_n (tb_ok aX7_laws_0 23 rfl) rfl ?_
          refine s_getR (r := 1) (tb_ok aX7_laws_1 0 rfl) f_RX7_10 rfl rfl rfl ?_
          refine s_iload_n (tb_ok aX7_laws_1 1 rfl) rfl ?_
          refine s_bipush (v := 20) (tb_ok aX7_laws_1 2 rfl) (by decide) ?_
          refine s_isub (tb_ok aX7_laws_1 3 rfl) ?_
          refine s_topi (z := (nI i)) (i20 (by omega)) ?_
          refine s_cVp (as := [.int (nI i)]) (tb_ok aX7_laws_1 4 rfl) v_RX7_190 (E_has (lore0 q) hm hm10 _) (by decide) rfl rfl rfl rfl rfl (Nat.le_of_ble_eq_true rfl) (by decide) ?_
          refine s_topi (bI_t ⟨nI_pos (by omega), by simp (disch := omega) only [nI_ltI]; omega, by simp (disch := omega) only [nI_ltI]; omega⟩) ?_
          refine s_if_eq (tgt := 73) (tb_ok aX7_laws_1 5 rfl) (by decide) (fun c55 => ?_) (fun c55 => ?_)
          · exact absurd c55 (by decide)
          · refine s_aload_n (tb_ok aX7_laws_1 6 rfl) rfl ?_
            refine s_getR (r := 1) (tb_ok aX7_laws_1 7 rfl) f_RX7_10 rfl rfl rfl ?_
            refine s_getR (r := 3) (tb_ok aX7_laws_1 8 rfl) f_RX7_193 rfl rfl rfl ?_
            refine s_iload_n (tb_ok aX7_laws_1 9 rfl) rfl ?_
            refine s_bipush (v := 20) (tb_ok aX7_laws_1 10 rfl) (by decide) ?_
            refine s_isub (tb_ok aX7_laws_1 11 rfl) ?_
            refine s_topi (z := (nI i)) (i20 (by omega)) ?_
            refine s_ialdN (tb_ok aX7_laws_1 12 rfl) rfl (by omega) (by decide) ?_
            refine s_goto (tgt := 75) (tb_ok aX7_laws_1 13 rfl) (by decide) ?_
            refine s_iret (tb_ok aX7_laws_1 15 rfl) rfl ?_
            exact ⟨rfl, rfl, AgL.rf, rfl, rfl⟩
      · simp (disch := omega) only [nI_eq] at c27
        omega
    · simp (disch := omega) only [nI_eq] at c14
      omega
  · exact absurd c1 (nI_ne0 (by omega) (by omega))

set_option maxRecDepth 100000 in
set_option maxHeartbeats 1000000 in
theorem C_lawsB {X : En} {I : FI} {L : FL} {q : Nat × Nat} {m M ri : Nat} {sem : Nat → Sem} (h : CSt I q m M ri sem) {w : Int32} (h0 : ¬ w = 0) (h1 : ¬ w = 1) (h2 : ¬ w = 2) (ha : 10 ≤ w → w < 20 → ¬ (¬ w - 10 < 0 ∧ w - 10 < nI m ∧ w - 10 < nI 10)) (hb : 20 ≤ w → ¬ (¬ w - 20 < 0 ∧ w - 20 < nI m ∧ w - 20 < nI 10)) : Ev X 9 mX7_laws (0, 0) [.ref 0, .int w] S0 I L (R0 q) (AgLR (some (.int (-2))) I L q) := by
  obtain ⟨hm, hm10, hM, hM5, hri, hq, hs⟩ := id h
  refine ev_of (by decide +kernel) rfl ?_
  show SW X _ _ _ 0 [some (.ref 0), some (.int w)] [] S0 I L (R0 q) _
  refine s_iload_n (tb_ok aX7_laws_0 0 rfl) rfl ?_
  refine s_if_ne (tgt := 12) (tb_ok aX7_laws_0 1 rfl) (by decide) (fun c1 => ?_) (fun c1 => ?_)
  · refine s_iload_n (tb_ok aX7_laws_0 6 rfl) rfl ?_
    refine s_iconst (v := 1) (tb_ok aX7_laws_0 7 rfl) (by decide) ?_
    refine s_icmp_ne (tgt := 25) (tb_ok aX7_laws_0 8 rfl) (by decide) (fun c14 => ?_) (fun c14 => ?_)
    · refine s_iload_n (tb_ok aX7_laws_0 13 rfl) rfl ?_
      refine s_iconst (v := 2) (tb_ok aX7_laws_0 14 rfl) (by decide) ?_
      refine s_icmp_ne (tgt := 38) (tb_ok aX7_laws_0 15 rfl) (by decide) (fun c27 => ?_) (fun c27 => ?_)
      · refine s_iload_n (tb_ok aX7_laws_0 20 rfl) rfl ?_
        refine s_bipush (v := 20) (tb_ok aX7_laws_0 21 rfl) (by decide) ?_
        refine s_icmp_lt (tgt := 76) (tb_ok aX7_laws_0 22 rfl) (by decide) (fun c41 => ?_) (fun c41 => ?_)
        · refine s_iload_n (tb_ok aX7_laws_1 16 rfl) rfl ?_
          refine s_bipush (v := 10) (tb_ok aX7_laws_1 17 rfl) (by decide) ?_
          refine s_icmp_lt (tgt := 111) (tb_ok aX7_laws_1 18 rfl) (by decide) (fun c79 => ?_) (fun c79 => ?_)
          · refine s_bipush (v := -2) (tb_ok aX7_laws_2 10 rfl) (by decide) ?_
            refine s_iret (tb_ok aX7_laws_2 11 rfl) rfl ?_
            exact ⟨rfl, rfl, AgL.rf, rfl, rfl⟩
          · refine s_aload_n (tb_ok aX7_laws_1 19 rfl) rfl ?_
            refine s_getR (r := 1) (tb_ok aX7_laws_1 20 rfl) f_RX7_10 rfl rfl rfl ?_
            refine s_iload_n (tb_ok aX7_laws_1 21 rfl) rfl ?_
            refine s_bipush (v := 10) (tb_ok aX7_laws_1 22 rfl) (by decide) ?_
            refine s_isub (tb_ok aX7_laws_1 23 rfl) ?_
            refine s_cVp (as := [_]) (tb_ok aX7_laws_2 0 rfl) v_RX7_190 (E_has (lore0 q) hm hm10 _) (by decide) rfl rfl rfl rfl rfl (Nat.le_of_ble_eq_true rfl) (by decide) ?_
            refine s_if_eq (tgt := 111) (tb_ok aX7_laws_2 1 rfl) (by decide) (fun c93 => ?_) (fun c93 => ?_)
            · refine s_bipush (v := -2) (tb_ok aX7_laws_2 10 rfl) (by decide) ?_
              refine s_iret (tb_ok aX7_laws_2 11 rfl) rfl ?_
              exact ⟨rfl, rfl, AgL.rf, rfl, rfl⟩
            · exact absurd (bI_n c93) (ha (Int32.not_lt.mp c79) c41)
        · refine s_aload_n (tb_ok aX7_laws_0 23 rfl) rfl ?_
          refine s_getR (r := 1) (tb_ok aX7_laws_1 0 rfl) f_RX7_10 rfl rfl rfl ?_
          refine s_iload_n (tb_ok aX7_laws_1 1 rfl) rfl ?_
          refine s_bipush (v := 20) (tb_ok aX7_laws_1 2 rfl) (by decide) ?_
          refine s_isub (tb_ok aX7_laws_1 3 rfl) ?_
          refine s_cVp (as := [_]) (tb_ok aX7_laws_1 4 rfl) v_RX7_190 (E_has (lore0 q) hm hm10 _) (by decide) rfl rfl rfl rfl rfl (Nat.le_of_ble_eq_true rfl) (by decide) ?_
          refine s_if_eq (tgt := 73) (tb_ok aX7_laws_1 5 rfl) (by decide) (fun c55 => ?_) (fun c55 => ?_)
          · refine s_bipush (v := -2) (tb_ok aX7_laws_1 14 rfl) (by decide) ?_
            refine s_iret (tb_ok aX7_laws_1 15 rfl) rfl ?_
            exact ⟨rfl, rfl, AgL.rf, rfl, rfl⟩
          · exact absurd (bI_n c55) (hb (Int32.not_lt.mp c41))
      · exact absurd c27 h2
    · exact absurd c14 h1
  · exact absurd c1 h0

set_option maxRecDepth 100000 in
set_option maxHeartbeats 1000000 in
theorem C_run0 {X : En} {I : FI} {L : FL} {q : Nat × Nat} {m M ri : Nat} {sem : Nat → Sem} (h : CSt I q m M ri sem) {j : Nat} (hj : j < M) {n : Nat} (hn : n ≤ 40) : Ev X 9 mX7_run (0, 0) [.ref 0, .int (nI j), .int (nI n), .int (0)] S0 I L (R0 q) (AgLR (some (.int (itP sem (I 2) (I 3) m (I 5 2) (I (5 + 2 + j)) n 2))) I L q) := by
  obtain ⟨hm, hm10, hM, hM5, hri, hq, hs⟩ := id h
  have hj5 : j < 5 := by omega
  have hob : S0[5 + 2 + j]? = some (5, 5) := ((orch5 q).2.2.2.1 j hj5).2
  have h27 : 5 + 2 + j ≠ 27 := (wT j hj5).2
  refine ev_of (by decide +kernel) rfl ?_
  show SW X _ _ _ 0 [some (.ref 0), some (.int (nI j)), some (.int (nI n)), some (.int (0)), none] [] S0 I L (R0 q) _
  refine s_aload_n (tb_ok aX7_run_0 0 rfl) rfl ?_
  refine s_getR (r := 5) (tb_ok aX7_run_0 1 rfl) f_RX7_19 rfl rfl rfl ?_
  refine s_iload_n (tb_ok aX7_run_0 2 rfl) rfl ?_
  refine s_cVp (as := [.int (nI j)]) (tb_ok aX7_run_0 3 rfl) v_RX7_115 (E_at (orch5 q) hM hM5 hj) (by decide) rfl rfl rfl rfl rfl (Nat.le_of_ble_eq_true rfl) (by decide) ?_
  refine s_astore (ls' := [some (.ref 0), some (.int (nI j)), some (.int (nI n)), some (.int (0)), some (.ref (5 + 2 + j))]) (tb_ok aX7_run_0 4 rfl) rfl rfl ?_
  refine s_aload (tb_ok aX7_run_0 5 rfl) rfl ?_
  refine s_ifnull (tb_ok aX7_run_0 6 rfl) ?_
  refine s_iload_n (tb_ok aX7_run_0 7 rfl) rfl ?_
  refine s_cSp (as := [.int (nI n)]) (tb_ok aX7_run_0 8 rfl) v_RX7_213 (E_isDays _) (by decide) rfl rfl (Nat.le_of_ble_eq_true rfl) ?_
  refine s_topi (bI_t ⟨nI_pos (by omega), by rw [show (40 : Int32) = nI 40 from rfl]; simp (disch := omega) only [nI_leI]; omega⟩) ?_
  refine s_if_eq (tgt := 31) (tb_ok aX7_run_0 9 rfl) (by decide) (fun c19 => ?_) (fun c19 => ?_)
  · exact absurd c19 (by decide)
  · refine s_iload_n (tb_ok aX7_run_0 10 rfl) rfl ?_
    refine s_if_lt (tgt := 31) (tb_ok aX7_run_0 11 rfl) (by decide) (fun c23 => ?_) (fun c23 => ?_)
    · exact absurd c23 (by decide)
    · refine s_iload_n (tb_ok aX7_run_0 12 rfl) rfl ?_
      refine s_iconst (v := 3) (tb_ok aX7_run_0 13 rfl) (by decide) ?_
      refine s_icmp_le (tgt := 34) (tb_ok aX7_run_0 14 rfl) (by decide) (fun c28 => ?_) (fun c28 => ?_)
      · refine s_iload_n (tb_ok aX7_run_0 17 rfl) rfl ?_
        refine s_iconst (v := 3) (tb_ok aX7_run_0 18 rfl) (by decide) ?_
        refine s_icmp_ne (tgt := 45) (tb_ok aX7_run_0 19 rfl) (by decide) (fun c36 => ?_) (fun c36 => ?_)
        · refine s_aload_n (tb_ok aX7_run_1 0 rfl) rfl ?_
          refine s_aload (tb_ok aX7_run_1 1 rfl) rfl ?_
          refine s_iconst (v := 0) (tb_ok aX7_run_1 2 rfl) (by decide) ?_
          refine s_iload_n (tb_ok aX7_run_1 3 rfl) rfl ?_
          refine s_cV (as := [.ref (5 + 2 + j), .int (0), .int (nI n)]) (tb_ok aX7_run_1 4 rfl) v_RX7_158 (E_liveOn hm hm10 hri hq hs hob _ hn) (by decide) rfl rfl rfl rfl rfl (Nat.le_of_ble_eq_true rfl) (by decide) (fun r1 S1 I1 L1 R1 q1 => ?_)
          obtain ⟨rfl, rfl, hA, rfl, rfl⟩ := q1
          have hA2 := hA.v1 (by decide)
          have h7 := hA.atO (by decide)
          refine s_iload_n (tb_ok aX7_run_1 5 rfl) rfl ?_
          refine s_if_ne (tgt := 65) (tb_ok aX7_run_1 6 rfl) (by decide) (fun c54 => ?_) (fun c54 => ?_)
          · exact absurd c54 (by decide)
          · refine s_aload_n (tb_ok aX7_run_1 7 rfl) rfl ?_
            refine s_getR (r := 27) (tb_ok aX7_run_1 8 rfl) f_RX7_36 rfl rfl rfl ?_
            refine s_getI (tb_ok aX7_run_1 9 rfl) f_RX7_142 rfl rfl rfl ?_
            refine s_iret (tb_ok aX7_run_1 10 rfl) rfl ?_
            refine ⟨?_, rfl, hA2.l, rfl, rfl⟩
            rw [h7, (t5_live.it sem (I 2) (I 3) m (I 5 2) n) 2 (by decide)]
        · exact absurd c36 (by decide)
      · exact absurd c28 (by decide)

set_option maxRecDepth 100000 in
set_option maxHeartbeats 1000000 in
theorem C_run1 {X : En} {I : FI} {L : FL} {q : Nat × Nat} {m M ri : Nat} {sem : Nat → Sem} (h : CSt I q m M ri sem) {j : Nat} (hj : j < M) {n : Nat} (hn : n ≤ 40) : Ev X 9 mX7_run (0, 0) [.ref 0, .int (nI j), .int (nI n), .int (1)] S0 I L (R0 q) (AgLR (some (.int (itP sem (I 2) (I 3) m (I 5 2) (I (5 + 2 + j)) n 3))) I L q) := by
  obtain ⟨hm, hm10, hM, hM5, hri, hq, hs⟩ := id h
  have hj5 : j < 5 := by omega
  have hob : S0[5 + 2 + j]? = some (5, 5) := ((orch5 q).2.2.2.1 j hj5).2
  have h27 : 5 + 2 + j ≠ 27 := (wT j hj5).2
  refine ev_of (by decide +kernel) rfl ?_
  show SW X _ _ _ 0 [some (.ref 0), some (.int (nI j)), some (.int (nI n)), some (.int (1)), none] [] S0 I L (R0 q) _
  refine s_aload_n (tb_ok aX7_run_0 0 rfl) rfl ?_
  refine s_getR (r := 5) (tb_ok aX7_run_0 1 rfl) f_RX7_19 rfl rfl rfl ?_
  refine s_iload_n (tb_ok aX7_run_0 2 rfl) rfl ?_
  refine s_cVp (as := [.int (nI j)]) (tb_ok aX7_run_0 3 rfl) v_RX7_115 (E_at (orch5 q) hM hM5 hj) (by decide) rfl rfl rfl rfl rfl (Nat.le_of_ble_eq_true rfl) (by decide) ?_
  refine s_astore (ls' := [some (.ref 0), some (.int (nI j)), some (.int (nI n)), some (.int (1)), some (.ref (5 + 2 + j))]) (tb_ok aX7_run_0 4 rfl) rfl rfl ?_
  refine s_aload (tb_ok aX7_run_0 5 rfl) rfl ?_
  refine s_ifnull (tb_ok aX7_run_0 6 rfl) ?_
  refine s_iload_n (tb_ok aX7_run_0 7 rfl) rfl ?_
  refine s_cSp (as := [.int (nI n)]) (tb_ok aX7_run_0 8 rfl) v_RX7_213 (E_isDays _) (by decide) rfl rfl (Nat.le_of_ble_eq_true rfl) ?_
  refine s_topi (bI_t ⟨nI_pos (by omega), by rw [show (40 : Int32) = nI 40 from rfl]; simp (disch := omega) only [nI_leI]; omega⟩) ?_
  refine s_if_eq (tgt := 31) (tb_ok aX7_run_0 9 rfl) (by decide) (fun c19 => ?_) (fun c19 => ?_)
  · exact absurd c19 (by decide)
  · refine s_iload_n (tb_ok aX7_run_0 10 rfl) rfl ?_
    refine s_if_lt (tgt := 31) (tb_ok aX7_run_0 11 rfl) (by decide) (fun c23 => ?_) (fun c23 => ?_)
    · exact absurd c23 (by decide)
    · refine s_iload_n (tb_ok aX7_run_0 12 rfl) rfl ?_
      refine s_iconst (v := 3) (tb_ok aX7_run_0 13 rfl) (by decide) ?_
      refine s_icmp_le (tgt := 34) (tb_ok aX7_run_0 14 rfl) (by decide) (fun c28 => ?_) (fun c28 => ?_)
      · refine s_iload_n (tb_ok aX7_run_0 17 rfl) rfl ?_
        refine s_iconst (v := 3) (tb_ok aX7_run_0 18 rfl) (by decide) ?_
        refine s_icmp_ne (tgt := 45) (tb_ok aX7_run_0 19 rfl) (by decide) (fun c36 => ?_) (fun c36 => ?_)
        · refine s_aload_n (tb_ok aX7_run_1 0 rfl) rfl ?_
          refine s_aload (tb_ok aX7_run_1 1 rfl) rfl ?_
          refine s_iconst (v := 0) (tb_ok aX7_run_1 2 rfl) (by decide) ?_
          refine s_iload_n (tb_ok aX7_run_1 3 rfl) rfl ?_
          refine s_cV (as := [.ref (5 + 2 + j), .int (0), .int (nI n)]) (tb_ok aX7_run_1 4 rfl) v_RX7_158 (E_liveOn hm hm10 hri hq hs hob _ hn) (by decide) rfl rfl rfl rfl rfl (Nat.le_of_ble_eq_true rfl) (by decide) (fun r1 S1 I1 L1 R1 q1 => ?_)
          obtain ⟨rfl, rfl, hA, rfl, rfl⟩ := q1
          have hA2 := hA.v1 (by decide)
          have h7 := hA.atO (by decide)
          refine s_iload_n (tb_ok aX7_run_1 5 rfl) rfl ?_
          refine s_if_ne (tgt := 65) (tb_ok aX7_run_1 6 rfl) (by decide) (fun c54 => ?_) (fun c54 => ?_)
          · refine s_iload_n (tb_ok aX7_run_1 11 rfl) rfl ?_
            refine s_iconst (v := 1) (tb_ok aX7_run_1 12 rfl) (by decide) ?_
            refine s_icmp_ne (tgt := 80) (tb_ok aX7_run_1 13 rfl) (by decide) (fun c67 => ?_) (fun c67 => ?_)
            · exact absurd c67 (by decide)
            · refine s_aload_n (tb_ok aX7_run_1 14 rfl) rfl ?_
              refine s_getR (r := 27) (tb_ok aX7_run_1 15 rfl) f_RX7_36 rfl rfl rfl ?_
              refine s_getI (tb_ok aX7_run_1 16 rfl) f_RX7_219 rfl rfl rfl ?_
              refine s_goto (tgt := 87) (tb_ok aX7_run_1 17 rfl) (by decide) ?_
              refine s_iret (tb_ok aX7_run_1 21 rfl) rfl ?_
              refine ⟨?_, rfl, hA2.l, rfl, rfl⟩
              rw [h7, (t5_live.it sem (I 2) (I 3) m (I 5 2) n) 3 (by decide)]
          · exact absurd c54 (by decide)
        · exact absurd c36 (by decide)
      · exact absurd c28 (by decide)

set_option maxRecDepth 100000 in
set_option maxHeartbeats 1000000 in
theorem C_run2 {X : En} {I : FI} {L : FL} {q : Nat × Nat} {m M ri : Nat} {sem : Nat → Sem} (h : CSt I q m M ri sem) {j : Nat} (hj : j < M) {n : Nat} (hn : n ≤ 40) : Ev X 9 mX7_run (0, 0) [.ref 0, .int (nI j), .int (nI n), .int (2)] S0 I L (R0 q) (AgLR (some (.int (itP sem (I 2) (I 3) m (I 5 2) (I (5 + 2 + j)) n 4))) I L q) := by
  obtain ⟨hm, hm10, hM, hM5, hri, hq, hs⟩ := id h
  have hj5 : j < 5 := by omega
  have hob : S0[5 + 2 + j]? = some (5, 5) := ((orch5 q).2.2.2.1 j hj5).2
  have h27 : 5 + 2 + j ≠ 27 := (wT j hj5).2
  refine ev_of (by decide +kernel) rfl ?_
  show SW X _ _ _ 0 [some (.ref 0), some (.int (nI j)), some (.int (nI n)), some (.int (2)), none] [] S0 I L (R0 q) _
  refine s_aload_n (tb_ok aX7_run_0 0 rfl) rfl ?_
  refine s_getR (r := 5) (tb_ok aX7_run_0 1 rfl) f_RX7_19 rfl rfl rfl ?_
  refine s_iload_n (tb_ok aX7_run_0 2 rfl) rfl ?_
  refine s_cVp (as := [.int (nI j)]) (tb_ok aX7_run_0 3 rfl) v_RX7_115 (E_at (orch5 q) hM hM5 hj) (by decide) rfl rfl rfl rfl rfl (Nat.le_of_ble_eq_true rfl) (by decide) ?_
  refine s_astore (ls' := [some (.ref 0), some (.int (nI j)), some (.int (nI n)), some (.int (2)), some (.ref (5 + 2 + j))]) (tb_ok aX7_run_0 4 rfl) rfl rfl ?_
  refine s_aload (tb_ok aX7_run_0 5 rfl) rfl ?_
  refine s_ifnull (tb_ok aX7_run_0 6 rfl) ?_
  refine s_iload_n (tb_ok aX7_run_0 7 rfl) rfl ?_
  refine s_cSp (as := [.int (nI n)]) (tb_ok aX7_run_0 8 rfl) v_RX7_213 (E_isDays _) (by decide) rfl rfl (Nat.le_of_ble_eq_true rfl) ?_
  refine s_topi (bI_t ⟨nI_pos (by omega), by rw [show (40 : Int32) = nI 40 from rfl]; simp (disch := omega) only [nI_leI]; omega⟩) ?_
  refine s_if_eq (tgt := 31) (tb_ok aX7_run_0 9 rfl) (by decide) (fun c19 => ?_) (fun c19 => ?_)
  · exact absurd c19 (by decide)
  · refine s_iload_n (tb_ok aX7_run_0 10 rfl) rfl ?_
    refine s_if_lt (tgt := 31) (tb_ok aX7_run_0 11 rfl) (by decide) (fun c23 => ?_) (fun c23 => ?_)
    · exact absurd c23 (by decide)
    · refine s_iload_n (tb_ok aX7_run_0 12 rfl) rfl ?_
      refine s_iconst (v := 3) (tb_ok aX7_run_0 13 rfl) (by decide) ?_
      refine s_icmp_le (tgt := 34) (tb_ok aX7_run_0 14 rfl) (by decide) (fun c28 => ?_) (fun c28 => ?_)
      · refine s_iload_n (tb_ok aX7_run_0 17 rfl) rfl ?_
        refine s_iconst (v := 3) (tb_ok aX7_run_0 18 rfl) (by decide) ?_
        refine s_icmp_ne (tgt := 45) (tb_ok aX7_run_0 19 rfl) (by decide) (fun c36 => ?_) (fun c36 => ?_)
        · refine s_aload_n (tb_ok aX7_run_1 0 rfl) rfl ?_
          refine s_aload (tb_ok aX7_run_1 1 rfl) rfl ?_
          refine s_iconst (v := 0) (tb_ok aX7_run_1 2 rfl) (by decide) ?_
          refine s_iload_n (tb_ok aX7_run_1 3 rfl) rfl ?_
          refine s_cV (as := [.ref (5 + 2 + j), .int (0), .int (nI n)]) (tb_ok aX7_run_1 4 rfl) v_RX7_158 (E_liveOn hm hm10 hri hq hs hob _ hn) (by decide) rfl rfl rfl rfl rfl (Nat.le_of_ble_eq_true rfl) (by decide) (fun r1 S1 I1 L1 R1 q1 => ?_)
          obtain ⟨rfl, rfl, hA, rfl, rfl⟩ := q1
          have hA2 := hA.v1 (by decide)
          have h7 := hA.atO (by decide)
          refine s_iload_n (tb_ok aX7_run_1 5 rfl) rfl ?_
          refine s_if_ne (tgt := 65) (tb_ok aX7_run_1 6 rfl) (by decide) (fun c54 => ?_) (fun c54 => ?_)
          · refine s_iload_n (tb_ok aX7_run_1 11 rfl) rfl ?_
            refine s_iconst (v := 1) (tb_ok aX7_run_1 12 rfl) (by decide) ?_
            refine s_icmp_ne (tgt := 80) (tb_ok aX7_run_1 13 rfl) (by decide) (fun c67 => ?_) (fun c67 => ?_)
            · refine s_aload_n (tb_ok aX7_run_1 18 rfl) rfl ?_
              refine s_getR (r := 27) (tb_ok aX7_run_1 19 rfl) f_RX7_36 rfl rfl rfl ?_
              refine s_getI (tb_ok aX7_run_1 20 rfl) f_RX7_221 rfl rfl rfl ?_
              refine s_iret (tb_ok aX7_run_1 21 rfl) rfl ?_
              refine ⟨?_, rfl, hA2.l, rfl, rfl⟩
              rw [h7, (t5_live.it sem (I 2) (I 3) m (I 5 2) n) 4 (by decide)]
            · exact absurd c67 (by decide)
          · exact absurd c54 (by decide)
        · exact absurd c36 (by decide)
      · exact absurd c28 (by decide)

set_option maxRecDepth 100000 in
set_option maxHeartbeats 1000000 in
theorem C_run3 {X : En} {I : FI} {L : FL} {q : Nat × Nat} {m M ri : Nat} {sem : Nat → Sem} (h : CSt I q m M ri sem) {j : Nat} (hj : j < M) {n : Nat} (hn : n ≤ 40) : Ev X 9 mX7_run (0, 0) [.ref 0, .int (nI j), .int (nI n), .int (3)] S0 I L (R0 q) (AgLR (some (.int (bshP sem (I 2) (I 3) m M (I 5 2) (fun j => I (5 + 2 + j)) n))) I L q) := by
  obtain ⟨hm, hm10, hM, hM5, hri, hq, hs⟩ := id h
  have hj5 : j < 5 := by omega
  have hob : S0[5 + 2 + j]? = some (5, 5) := ((orch5 q).2.2.2.1 j hj5).2
  have h27 : 5 + 2 + j ≠ 27 := (wT j hj5).2
  refine ev_of (by decide +kernel) rfl ?_
  show SW X _ _ _ 0 [some (.ref 0), some (.int (nI j)), some (.int (nI n)), some (.int (3)), none] [] S0 I L (R0 q) _
  refine s_aload_n (tb_ok aX7_run_0 0 rfl) rfl ?_
  refine s_getR (r := 5) (tb_ok aX7_run_0 1 rfl) f_RX7_19 rfl rfl rfl ?_
  refine s_iload_n (tb_ok aX7_run_0 2 rfl) rfl ?_
  refine s_cVp (as := [.int (nI j)]) (tb_ok aX7_run_0 3 rfl) v_RX7_115 (E_at (orch5 q) hM hM5 hj) (by decide) rfl rfl rfl rfl rfl (Nat.le_of_ble_eq_true rfl) (by decide) ?_
  refine s_astore (ls' := [some (.ref 0), some (.int (nI j)), some (.int (nI n)), some (.int (3)), some (.ref (5 + 2 + j))]) (tb_ok aX7_run_0 4 rfl) rfl rfl ?_
  refine s_aload (tb_ok aX7_run_0 5 rfl) rfl ?_
  refine s_ifnull (tb_ok aX7_run_0 6 rfl) ?_
  refine s_iload_n (tb_ok aX7_run_0 7 rfl) rfl ?_
  refine s_cSp (as := [.int (nI n)]) (tb_ok aX7_run_0 8 rfl) v_RX7_213 (E_isDays _) (by decide) rfl rfl (Nat.le_of_ble_eq_true rfl) ?_
  refine s_topi (bI_t ⟨nI_pos (by omega), by rw [show (40 : Int32) = nI 40 from rfl]; simp (disch := omega) only [nI_leI]; omega⟩) ?_
  refine s_if_eq (tgt := 31) (tb_ok aX7_run_0 9 rfl) (by decide) (fun c19 => ?_) (fun c19 => ?_)
  · exact absurd c19 (by decide)
  · refine s_iload_n (tb_ok aX7_run_0 10 rfl) rfl ?_
    refine s_if_lt (tgt := 31) (tb_ok aX7_run_0 11 rfl) (by decide) (fun c23 => ?_) (fun c23 => ?_)
    · exact absurd c23 (by decide)
    · refine s_iload_n (tb_ok aX7_run_0 12 rfl) rfl ?_
      refine s_iconst (v := 3) (tb_ok aX7_run_0 13 rfl) (by decide) ?_
      refine s_icmp_le (tgt := 34) (tb_ok aX7_run_0 14 rfl) (by decide) (fun c28 => ?_) (fun c28 => ?_)
      · refine s_iload_n (tb_ok aX7_run_0 17 rfl) rfl ?_
        refine s_iconst (v := 3) (tb_ok aX7_run_0 18 rfl) (by decide) ?_
        refine s_icmp_ne (tgt := 45) (tb_ok aX7_run_0 19 rfl) (by decide) (fun c36 => ?_) (fun c36 => ?_)
        · exact absurd c36 (by decide)
        · refine s_aload_n (tb_ok aX7_run_0 20 rfl) rfl ?_
          refine s_iload_n (tb_ok aX7_run_0 21 rfl) rfl ?_
          refine s_cV (as := [.int (nI n)]) (tb_ok aX7_run_0 22 rfl) v_RX7_216 (E_basketsBehind hM hM5 hm hm10 hri hq hs hn) (by decide) rfl rfl rfl rfl rfl (Nat.le_of_ble_eq_true rfl) (by decide) (fun r1 S1 I1 L1 R1 q1 => ?_)
          obtain ⟨rfl, rfl, hA, rfl, rfl⟩ := q1
          refine s_iret (tb_ok aX7_run_0 23 rfl) rfl ?_
          exact ⟨rfl, rfl, hA.l, rfl, rfl⟩
      · exact absurd c28 (by decide)

set_option maxRecDepth 100000 in
set_option maxHeartbeats 1000000 in
theorem C_runN {X : En} {I : FI} {L : FL} {q : Nat × Nat} {m M ri : Nat} {sem : Nat → Sem} (h : CSt I q m M ri sem) {x : Int32} (hx : x < 0 ∨ nI M ≤ x) {z w : Int32} : Ev X 9 mX7_run (0, 0) [.ref 0, .int x, .int z, .int w] S0 I L (R0 q) (AgLR (some (.int (-2))) I L q) := by
  obtain ⟨hm, hm10, hM, hM5, hri, hq, hs⟩ := id h
  refine ev_of (by decide +kernel) rfl ?_
  show SW X _ _ _ 0 [some (.ref 0), some (.int x), some (.int z), some (.int w), none] [] S0 I L (R0 q) _
  refine s_aload_n (tb_ok aX7_run_0 0 rfl) rfl ?_
  refine s_getR (r := 5) (tb_ok aX7_run_0 1 rfl) f_RX7_19 rfl rfl rfl ?_
  refine s_iload_n (tb_ok aX7_run_0 2 rfl) rfl ?_
  refine s_cVp (as := [.int x]) (tb_ok aX7_run_0 3 rfl) v_RX7_115 (E_atN (orch5 q) hM hM5 hx) (by decide) rfl rfl rfl rfl rfl (Nat.le_of_ble_eq_true rfl) (by decide) ?_
  refine s_astoreN (ls' := [some (.ref 0), some (.int x), some (.int z), some (.int w), some (.null)]) (tb_ok aX7_run_0 4 rfl) rfl rfl ?_
  refine s_aloadq (r := none) (tb_ok aX7_run_0 5 rfl) rfl ?_
  refine s_ifnullN (tgt := 31) (tb_ok aX7_run_0 6 rfl) (by decide) ?_
  refine s_bipush (v := -2) (tb_ok aX7_run_0 15 rfl) (by decide) ?_
  refine s_iret (tb_ok aX7_run_0 16 rfl) rfl ?_
  exact ⟨rfl, rfl, AgL.rf, rfl, rfl⟩

set_option maxRecDepth 100000 in
set_option maxHeartbeats 1000000 in
theorem C_runB {X : En} {I : FI} {L : FL} {q : Nat × Nat} {m M ri : Nat} {sem : Nat → Sem} (h : CSt I q m M ri sem) {j : Nat} (hj : j < M) {z w : Int32} (hv : ¬ ((¬ z < 0 ∧ z ≤ 40) ∧ ¬ w < 0 ∧ w ≤ 3)) : Ev X 9 mX7_run (0, 0) [.ref 0, .int (nI j), .int z, .int w] S0 I L (R0 q) (AgLR (some (.int (-2))) I L q) := by
  obtain ⟨hm, hm10, hM, hM5, hri, hq, hs⟩ := id h
  have hj5 : j < 5 := by omega
  have hob : S0[5 + 2 + j]? = some (5, 5) := ((orch5 q).2.2.2.1 j hj5).2
  have h27 : 5 + 2 + j ≠ 27 := (wT j hj5).2
  refine ev_of (by decide +kernel) rfl ?_
  show SW X _ _ _ 0 [some (.ref 0), some (.int (nI j)), some (.int z), some (.int w), none] [] S0 I L (R0 q) _
  refine s_aload_n (tb_ok aX7_run_0 0 rfl) rfl ?_
  refine s_getR (r := 5) (tb_ok aX7_run_0 1 rfl) f_RX7_19 rfl rfl rfl ?_
  refine s_iload_n (tb_ok aX7_run_0 2 rfl) rfl ?_
  refine s_cVp (as := [.int (nI j)]) (tb_ok aX7_run_0 3 rfl) v_RX7_115 (E_at (orch5 q) hM hM5 hj) (by decide) rfl rfl rfl rfl rfl (Nat.le_of_ble_eq_true rfl) (by decide) ?_
  refine s_astore (ls' := [some (.ref 0), some (.int (nI j)), some (.int z), some (.int w), some (.ref (5 + 2 + j))]) (tb_ok aX7_run_0 4 rfl) rfl rfl ?_
  refine s_aload (tb_ok aX7_run_0 5 rfl) rfl ?_
  refine s_ifnull (tb_ok aX7_run_0 6 rfl) ?_
  refine s_iload_n (tb_ok aX7_run_0 7 rfl) rfl ?_
  refine s_cSp (as := [.int z]) (tb_ok aX7_run_0 8 rfl) v_RX7_213 (E_isDays _) (by decide) rfl rfl (Nat.le_of_ble_eq_true rfl) ?_
  refine s_if_eq (tgt := 31) (tb_ok aX7_run_0 9 rfl) (by decide) (fun c19 => ?_) (fun c19 => ?_)
  · refine s_bipush (v := -2) (tb_ok aX7_run_0 15 rfl) (by decide) ?_
    refine s_iret (tb_ok aX7_run_0 16 rfl) rfl ?_
    exact ⟨rfl, rfl, AgL.rf, rfl, rfl⟩
  · refine s_iload_n (tb_ok aX7_run_0 10 rfl) rfl ?_
    refine s_if_lt (tgt := 31) (tb_ok aX7_run_0 11 rfl) (by decide) (fun c23 => ?_) (fun c23 => ?_)
    · refine s_bipush (v := -2) (tb_ok aX7_run_0 15 rfl) (by decide) ?_
      refine s_iret (tb_ok aX7_run_0 16 rfl) rfl ?_
      exact ⟨rfl, rfl, AgL.rf, rfl, rfl⟩
    · refine s_iload_n (tb_ok aX7_run_0 12 rfl) rfl ?_
      refine s_iconst (v := 3) (tb_ok aX7_run_0 13 rfl) (by decide) ?_
      refine s_icmp_le (tgt := 34) (tb_ok aX7_run_0 14 rfl) (by decide) (fun c28 => ?_) (fun c28 => ?_)
      · exact absurd ⟨bI_n c19, c23, c28⟩ hv
      · refine s_bipush (v := -2) (tb_ok aX7_run_0 15 rfl) (by decide) ?_
        refine s_iret (tb_ok aX7_run_0 16 rfl) rfl ?_
        exact ⟨rfl, rfl, AgL.rf, rfl, rfl⟩

set_option maxRecDepth 100000 in
set_option maxHeartbeats 1000000 in
theorem C_asks0 {X : En} {I : FI} {L : FL} {q : Nat × Nat} {m M ri : Nat} {sem : Nat → Sem} (h : CSt I q m M ri sem) {j : Nat} (hj : j < M) {g : Nat} (hg : g < 12) : Ev X 9 mX7_asks (0, 0) [.ref 0, .int (nI j), .int (nI g), .int (0)] S0 I L (R0 q) (AgLR (some (.int (whnS sem (I 2) (I 3) m (I 5 2) (I (5 + 2 + j)) (nI g) 40 0))) I L q) := by
  obtain ⟨hm, hm10, hM, hM5, hri, hq, hs⟩ := id h
  have hj5 : j < 5 := by omega
  have hob : S0[5 + 2 + j]? = some (5, 5) := ((orch5 q).2.2.2.1 j hj5).2
  have h27 : 5 + 2 + j ≠ 27 := (wT j hj5).2
  refine ev_of (by decide +kernel) rfl ?_
  show SW X _ _ _ 0 [some (.ref 0), some (.int (nI j)), some (.int (nI g)), some (.int (0)), none] [] S0 I L (R0 q) _
  refine s_aload_n (tb_ok aX7_asks_0 0 rfl) rfl ?_
  refine s_getR (r := 5) (tb_ok aX7_asks_0 1 rfl) f_RX7_19 rfl rfl rfl ?_
  refine s_iload_n (tb_ok aX7_asks_0 2 rfl) rfl ?_
  refine s_cVp (as := [.int (nI j)]) (tb_ok aX7_asks_0 3 rfl) v_RX7_115 (E_at (orch5 q) hM hM5 hj) (by decide) rfl rfl rfl rfl rfl (Nat.le_of_ble_eq_true rfl) (by decide) ?_
  refine s_astore (ls' := [some (.ref 0), some (.int (nI j)), some (.int (nI g)), some (.int (0)), some (.ref (5 + 2 + j))]) (tb_ok aX7_asks_0 4 rfl) rfl rfl ?_
  refine s_aload (tb_ok aX7_asks_0 5 rfl) rfl ?_
  refine s_ifnull (tb_ok aX7_asks_0 6 rfl) ?_
  refine s_iload_n (tb_ok aX7_asks_0 7 rfl) rfl ?_
  refine s_cSp (as := [.int (nI g)]) (tb_ok aX7_asks_0 8 rfl) v_RX7_108 (E_isFact _) (by decide) rfl rfl (Nat.le_of_ble_eq_true rfl) ?_
  refine s_topi (bI_t ⟨nI_pos (by omega), by rw [show (12 : Int32) = nI 12 from rfl]; simp (disch := omega) only [nI_ltI]; omega⟩) ?_
  refine s_if_ne (tgt := 25) (tb_ok aX7_asks_0 9 rfl) (by decide) (fun c19 => ?_) (fun c19 => ?_)
  · refine s_iload_n (tb_ok aX7_asks_0 12 rfl) rfl ?_
    refine s_tableIn (off := 34) (tgt := 60) (tb_ok aX7_asks_0 13 rfl) (by decide) (by decide) rfl (by decide) ?_
    refine s_aload_n (tb_ok aX7_asks_0 14 rfl) rfl ?_
    refine s_aload (tb_ok aX7_asks_0 15 rfl) rfl ?_
    refine s_iload_n (tb_ok aX7_asks_0 16 rfl) rfl ?_
    refine s_cV (as := [.ref (5 + 2 + j), .int (nI g)]) (tb_ok aX7_asks_0 17 rfl) v_RX7_224 (E_knowsWhen hm hm10 hri hq hs hob _) (by decide) rfl rfl rfl rfl rfl (Nat.le_of_ble_eq_true rfl) (by decide) (fun r1 S1 I1 L1 R1 q1 => ?_)
    obtain ⟨rfl, rfl, hA, rfl, rfl⟩ := q1
    refine s_iret (tb_ok aX7_asks_0 18 rfl) rfl ?_
    exact ⟨rfl, rfl, hA.l, rfl, rfl⟩
  · exact absurd c19 (by decide)

set_option maxRecDepth 100000 in
set_option maxHeartbeats 1000000 in
theorem C_asks1 {X : En} {I : FI} {L : FL} {q : Nat × Nat} {m M ri : Nat} {sem : Nat → Sem} (h : CSt I q m M ri sem) {j : Nat} (hj : j < M) {g : Nat} (hg : g < 12) : Ev X 9 mX7_asks (0, 0) [.ref 0, .int (nI j), .int (nI g), .int (1)] S0 I L (R0 q) (AgLR (some (.int (few (I 2) (I 3) m ((I (5 + 2 + j)) 2) (nI g)))) I L q) := by
  obtain ⟨hm, hm10, hM, hM5, hri, hq, hs⟩ := id h
  have hj5 : j < 5 := by omega
  have hob : S0[5 + 2 + j]? = some (5, 5) := ((orch5 q).2.2.2.1 j hj5).2
  have h27 : 5 + 2 + j ≠ 27 := (wT j hj5).2
  refine ev_of (by decide +kernel) rfl ?_
  show SW X _ _ _ 0 [some (.ref 0), some (.int (nI j)), some (.int (nI g)), some (.int (1)), none] [] S0 I L (R0 q) _
  refine s_aload_n (tb_ok aX7_asks_0 0 rfl) rfl ?_
  refine s_getR (r := 5) (tb_ok aX7_asks_0 1 rfl) f_RX7_19 rfl rfl rfl ?_
  refine s_iload_n (tb_ok aX7_asks_0 2 rfl) rfl ?_
  refine s_cVp (as := [.int (nI j)]) (tb_ok aX7_asks_0 3 rfl) v_RX7_115 (E_at (orch5 q) hM hM5 hj) (by decide) rfl rfl rfl rfl rfl (Nat.le_of_ble_eq_true rfl) (by decide) ?_
  refine s_astore (ls' := [some (.ref 0), some (.int (nI j)), some (.int (nI g)), some (.int (1)), some (.ref (5 + 2 + j))]) (tb_ok aX7_asks_0 4 rfl) rfl rfl ?_
  refine s_aload (tb_ok aX7_asks_0 5 rfl) rfl ?_
  refine s_ifnull (tb_ok aX7_asks_0 6 rfl) ?_
  refine s_iload_n (tb_ok aX7_asks_0 7 rfl) rfl ?_
  refine s_cSp (as := [.int (nI g)]) (tb_ok aX7_asks_0 8 rfl) v_RX7_108 (E_isFact _) (by decide) rfl rfl (Nat.le_of_ble_eq_true rfl) ?_
  refine s_topi (bI_t ⟨nI_pos (by omega), by rw [show (12 : Int32) = nI 12 from rfl]; simp (disch := omega) only [nI_ltI]; omega⟩) ?_
  refine s_if_ne (tgt := 25) (tb_ok aX7_asks_0 9 rfl) (by decide) (fun c19 => ?_) (fun c19 => ?_)
  · refine s_iload_n (tb_ok aX7_asks_0 12 rfl) rfl ?_
    refine s_tableIn (off := 42) (tgt := 68) (tb_ok aX7_asks_0 13 rfl) (by decide) (by decide) rfl (by decide) ?_
    refine s_aload_n (tb_ok aX7_asks_0 19 rfl) rfl ?_
    refine s_getR (r := 1) (tb_ok aX7_asks_0 20 rfl) f_RX7_10 rfl rfl rfl ?_
    refine s_aload (tb_ok aX7_asks_0 21 rfl) rfl ?_
    refine s_getI (tb_ok aX7_asks_0 22 rfl) f_RX7_142 hob rfl rfl ?_
    refine s_iload_n (tb_ok aX7_asks_0 23 rfl) rfl ?_
    refine s_cVp (as := [_, .int (nI g)]) (tb_ok aX7_asks_1 0 rfl) v_RX7_227 (E_fewest (lore0 q) hm hm10 _ _) (by decide) rfl rfl rfl rfl rfl (Nat.le_of_ble_eq_true rfl) (by decide) ?_
    refine s_iret (tb_ok aX7_asks_1 1 rfl) rfl ?_
    exact ⟨rfl, rfl, AgL.rf, rfl, rfl⟩
  · exact absurd c19 (by decide)

set_option maxRecDepth 100000 in
set_option maxHeartbeats 1000000 in
theorem C_asks2 {X : En} {I : FI} {L : FL} {q : Nat × Nat} {m M ri : Nat} {sem : Nat → Sem} (h : CSt I q m M ri sem) {j : Nat} (hj : j < M) {g : Nat} (hg : g < 12) : Ev X 9 mX7_asks (0, 0) [.ref 0, .int (nI j), .int (nI g), .int (2)] S0 I L (R0 q) (AgLR (some (.int (bcF (few (I 2) (I 3) m ((I (5 + 2 + j)) 2) (nI g))))) I L q) := by
  obtain ⟨hm, hm10, hM, hM5, hri, hq, hs⟩ := id h
  have hj5 : j < 5 := by omega
  have hob : S0[5 + 2 + j]? = some (5, 5) := ((orch5 q).2.2.2.1 j hj5).2
  have h27 : 5 + 2 + j ≠ 27 := (wT j hj5).2
  refine ev_of (by decide +kernel) rfl ?_
  show SW X _ _ _ 0 [some (.ref 0), some (.int (nI j)), some (.int (nI g)), some (.int (2)), none] [] S0 I L (R0 q) _
  refine s_aload_n (tb_ok aX7_asks_0 0 rfl) rfl ?_
  refine s_getR (r := 5) (tb_ok aX7_asks_0 1 rfl) f_RX7_19 rfl rfl rfl ?_
  refine s_iload_n (tb_ok aX7_asks_0 2 rfl) rfl ?_
  refine s_cVp (as := [.int (nI j)]) (tb_ok aX7_asks_0 3 rfl) v_RX7_115 (E_at (orch5 q) hM hM5 hj) (by decide) rfl rfl rfl rfl rfl (Nat.le_of_ble_eq_true rfl) (by decide) ?_
  refine s_astore (ls' := [some (.ref 0), some (.int (nI j)), some (.int (nI g)), some (.int (2)), some (.ref (5 + 2 + j))]) (tb_ok aX7_asks_0 4 rfl) rfl rfl ?_
  refine s_aload (tb_ok aX7_asks_0 5 rfl) rfl ?_
  refine s_ifnull (tb_ok aX7_asks_0 6 rfl) ?_
  refine s_iload_n (tb_ok aX7_asks_0 7 rfl) rfl ?_
  refine s_cSp (as := [.int (nI g)]) (tb_ok aX7_asks_0 8 rfl) v_RX7_108 (E_isFact _) (by decide) rfl rfl (Nat.le_of_ble_eq_true rfl) ?_
  refine s_topi (bI_t ⟨nI_pos (by omega), by rw [show (12 : Int32) = nI 12 from rfl]; simp (disch := omega) only [nI_ltI]; omega⟩) ?_
  refine s_if_ne (tgt := 25) (tb_ok aX7_asks_0 9 rfl) (by decide) (fun c19 => ?_) (fun c19 => ?_)
  · refine s_iload_n (tb_ok aX7_asks_0 12 rfl) rfl ?_
    refine s_tableIn (off := 56) (tgt := 82) (tb_ok aX7_asks_0 13 rfl) (by decide) (by decide) rfl (by decide) ?_
    refine s_aload_n (tb_ok aX7_asks_1 2 rfl) rfl ?_
    refine s_getR (r := 1) (tb_ok aX7_asks_1 3 rfl) f_RX7_10 rfl rfl rfl ?_
    refine s_aload (tb_ok aX7_asks_1 4 rfl) rfl ?_
    refine s_getI (tb_ok aX7_asks_1 5 rfl) f_RX7_142 hob rfl rfl ?_
    refine s_iload_n (tb_ok aX7_asks_1 6 rfl) rfl ?_
    refine s_cVp (as := [_, .int (nI g)]) (tb_ok aX7_asks_1 7 rfl) v_RX7_227 (E_fewest (lore0 q) hm hm10 _ _) (by decide) rfl rfl rfl rfl rfl (Nat.le_of_ble_eq_true rfl) (by decide) ?_
    refine s_cSp (as := [_]) (tb_ok aX7_asks_1 8 rfl) v_RX7_230 (E_bc _) (by decide) rfl rfl (Nat.le_of_ble_eq_true rfl) ?_
    refine s_iret (tb_ok aX7_asks_1 9 rfl) rfl ?_
    exact ⟨rfl, rfl, AgL.rf, rfl, rfl⟩
  · exact absurd c19 (by decide)

set_option maxRecDepth 100000 in
set_option maxHeartbeats 1000000 in
theorem C_asks3 {X : En} {I : FI} {L : FL} {q : Nat × Nat} {m M ri : Nat} {sem : Nat → Sem} (h : CSt I q m M ri sem) {j : Nat} (hj : j < M) {g : Nat} (hg : g < 12) : Ev X 9 mX7_asks (0, 0) [.ref 0, .int (nI j), .int (nI g), .int (3)] S0 I L (R0 q) (AgLR (some (.int (takI sem (I 2) (I 3) m (I (5 + 2 + j)) (nI g) (I 5 2)))) I L q) := by
  obtain ⟨hm, hm10, hM, hM5, hri, hq, hs⟩ := id h
  have hj5 : j < 5 := by omega
  have hob : S0[5 + 2 + j]? = some (5, 5) := ((orch5 q).2.2.2.1 j hj5).2
  have h27 : 5 + 2 + j ≠ 27 := (wT j hj5).2
  refine ev_of (by decide +kernel) rfl ?_
  show SW X _ _ _ 0 [some (.ref 0), some (.int (nI j)), some (.int (nI g)), some (.int (3)), none] [] S0 I L (R0 q) _
  refine s_aload_n (tb_ok aX7_asks_0 0 rfl) rfl ?_
  refine s_getR (r := 5) (tb_ok aX7_asks_0 1 rfl) f_RX7_19 rfl rfl rfl ?_
  refine s_iload_n (tb_ok aX7_asks_0 2 rfl) rfl ?_
  refine s_cVp (as := [.int (nI j)]) (tb_ok aX7_asks_0 3 rfl) v_RX7_115 (E_at (orch5 q) hM hM5 hj) (by decide) rfl rfl rfl rfl rfl (Nat.le_of_ble_eq_true rfl) (by decide) ?_
  refine s_astore (ls' := [some (.ref 0), some (.int (nI j)), some (.int (nI g)), some (.int (3)), some (.ref (5 + 2 + j))]) (tb_ok aX7_asks_0 4 rfl) rfl rfl ?_
  refine s_aload (tb_ok aX7_asks_0 5 rfl) rfl ?_
  refine s_ifnull (tb_ok aX7_asks_0 6 rfl) ?_
  refine s_iload_n (tb_ok aX7_asks_0 7 rfl) rfl ?_
  refine s_cSp (as := [.int (nI g)]) (tb_ok aX7_asks_0 8 rfl) v_RX7_108 (E_isFact _) (by decide) rfl rfl (Nat.le_of_ble_eq_true rfl) ?_
  refine s_topi (bI_t ⟨nI_pos (by omega), by rw [show (12 : Int32) = nI 12 from rfl]; simp (disch := omega) only [nI_ltI]; omega⟩) ?_
  refine s_if_ne (tgt := 25) (tb_ok aX7_asks_0 9 rfl) (by decide) (fun c19 => ?_) (fun c19 => ?_)
  · refine s_iload_n (tb_ok aX7_asks_0 12 rfl) rfl ?_
    refine s_tableIn (off := 73) (tgt := 99) (tb_ok aX7_asks_0 13 rfl) (by decide) (by decide) rfl (by decide) ?_
    refine s_aload_n (tb_ok aX7_asks_1 10 rfl) rfl ?_
    refine s_getR (r := 64) (tb_ok aX7_asks_1 11 rfl) f_RX7_101 rfl rfl rfl ?_
    refine s_aload (tb_ok aX7_asks_1 12 rfl) rfl ?_
    refine s_iload_n (tb_ok aX7_asks_1 13 rfl) rfl ?_
    refine s_aload_n (tb_ok aX7_asks_1 14 rfl) rfl ?_
    refine s_getR (r := 5) (tb_ok aX7_asks_1 15 rfl) f_RX7_19 rfl rfl rfl ?_
    refine s_getI (tb_ok aX7_asks_1 16 rfl) f_RX7_127 rfl rfl rfl ?_
    refine s_cV (as := [.ref (5 + 2 + j), .int (nI g), _]) (tb_ok aX7_asks_1 17 rfl) v_RX7_235 (E_takes hm hm10 hri hq hs hob _ _) (by decide) rfl rfl rfl rfl rfl (Nat.le_of_ble_eq_true rfl) (by decide) (fun r1 S1 I1 L1 R1 q1 => ?_)
    obtain ⟨rfl, rfl, hA, rfl, rfl⟩ := q1
    refine s_if_eq (tgt := 123) (tb_ok aX7_asks_1 18 rfl) (by decide) (fun c116 => ?_) (fun c116 => ?_)
    · refine s_iconst (v := 0) (tb_ok aX7_asks_1 21 rfl) (by decide) ?_
      refine s_iret (tb_ok aX7_asks_1 22 rfl) rfl ?_
      rcases tak_01 (sem := sem) (fr := I 2) (fa := I 3) (m := m) (f := (I (5 + 2 + j))) (fact := nI g) (day := I 5 2) with ht | ht
      · exact ⟨by rw [ht], rfl, hA.v.l, rfl, rfl⟩
      · rw [ht] at c116; exact absurd c116 (by decide)
    · refine s_iconst (v := 1) (tb_ok aX7_asks_1 19 rfl) (by decide) ?_
      refine s_goto (tgt := 124) (tb_ok aX7_asks_1 20 rfl) (by decide) ?_
      refine s_iret (tb_ok aX7_asks_1 22 rfl) rfl ?_
      rcases tak_01 (sem := sem) (fr := I 2) (fa := I 3) (m := m) (f := (I (5 + 2 + j))) (fact := nI g) (day := I 5 2) with ht | ht
      · exact absurd ht c116
      · exact ⟨by rw [ht], rfl, hA.v.l, rfl, rfl⟩
  · exact absurd c19 (by decide)

set_option maxRecDepth 100000 in
set_option maxHeartbeats 1000000 in
theorem C_asks4 {X : En} {I : FI} {L : FL} {q : Nat × Nat} {m M ri : Nat} {sem : Nat → Sem} (h : CSt I q m M ri sem) {j : Nat} (hj : j < M) {g : Nat} (hg : g < 12) : Ev X 9 mX7_asks (0, 0) [.ref 0, .int (nI j), .int (nI g), .int (4)] S0 I L (R0 q) (AgLR (some (.int (fallP sem (I (5 + 2 + j)) (nI g) (I 5 2)))) I L q) := by
  obtain ⟨hm, hm10, hM, hM5, hri, hq, hs⟩ := id h
  have hj5 : j < 5 := by omega
  have hob : S0[5 + 2 + j]? = some (5, 5) := ((orch5 q).2.2.2.1 j hj5).2
  have h27 : 5 + 2 + j ≠ 27 := (wT j hj5).2
  refine ev_of (by decide +kernel) rfl ?_
  show SW X _ _ _ 0 [some (.ref 0), some (.int (nI j)), some (.int (nI g)), some (.int (4)), none] [] S0 I L (R0 q) _
  refine s_aload_n (tb_ok aX7_asks_0 0 rfl) rfl ?_
  refine s_getR (r := 5) (tb_ok aX7_asks_0 1 rfl) f_RX7_19 rfl rfl rfl ?_
  refine s_iload_n (tb_ok aX7_asks_0 2 rfl) rfl ?_
  refine s_cVp (as := [.int (nI j)]) (tb_ok aX7_asks_0 3 rfl) v_RX7_115 (E_at (orch5 q) hM hM5 hj) (by decide) rfl rfl rfl rfl rfl (Nat.le_of_ble_eq_true rfl) (by decide) ?_
  refine s_astore (ls' := [some (.ref 0), some (.int (nI j)), some (.int (nI g)), some (.int (4)), some (.ref (5 + 2 + j))]) (tb_ok aX7_asks_0 4 rfl) rfl rfl ?_
  refine s_aload (tb_ok aX7_asks_0 5 rfl) rfl ?_
  refine s_ifnull (tb_ok aX7_asks_0 6 rfl) ?_
  refine s_iload_n (tb_ok aX7_asks_0 7 rfl) rfl ?_
  refine s_cSp (as := [.int (nI g)]) (tb_ok aX7_asks_0 8 rfl) v_RX7_108 (E_isFact _) (by decide) rfl rfl (Nat.le_of_ble_eq_true rfl) ?_
  refine s_topi (bI_t ⟨nI_pos (by omega), by rw [show (12 : Int32) = nI 12 from rfl]; simp (disch := omega) only [nI_ltI]; omega⟩) ?_
  refine s_if_ne (tgt := 25) (tb_ok aX7_asks_0 9 rfl) (by decide) (fun c19 => ?_) (fun c19 => ?_)
  · refine s_iload_n (tb_ok aX7_asks_0 12 rfl) rfl ?_
    refine s_tableIn (off := 99) (tgt := 125) (tb_ok aX7_asks_0 13 rfl) (by decide) (by decide) rfl (by decide) ?_
    refine s_aload_n (tb_ok aX7_asks_1 23 rfl) rfl ?_
    refine s_getR (r := 64) (tb_ok aX7_asks_2 0 rfl) f_RX7_101 rfl rfl rfl ?_
    refine s_aload (tb_ok aX7_asks_2 1 rfl) rfl ?_
    refine s_iload_n (tb_ok aX7_asks_2 2 rfl) rfl ?_
    refine s_aload_n (tb_ok aX7_asks_2 3 rfl) rfl ?_
    refine s_getR (r := 5) (tb_ok aX7_asks_2 4 rfl) f_RX7_19 rfl rfl rfl ?_
    refine s_getI (tb_ok aX7_asks_2 5 rfl) f_RX7_127 rfl rfl rfl ?_
    refine s_cV (as := [.ref (5 + 2 + j), .int (nI g), _]) (tb_ok aX7_asks_2 6 rfl) v_RX7_239 (E_fall hri hq hs hob _ _) (by decide) rfl rfl rfl rfl rfl (Nat.le_of_ble_eq_true rfl) (by decide) (fun r1 S1 I1 L1 R1 q1 => ?_)
    obtain ⟨rfl, rfl, hA, rfl, rfl⟩ := q1
    refine s_iret (tb_ok aX7_asks_2 7 rfl) rfl ?_
    exact ⟨rfl, rfl, hA.v.l, rfl, rfl⟩
  · exact absurd c19 (by decide)

set_option maxRecDepth 100000 in
set_option maxHeartbeats 1000000 in
theorem C_asksN {X : En} {I : FI} {L : FL} {q : Nat × Nat} {m M ri : Nat} {sem : Nat → Sem} (h : CSt I q m M ri sem) {x : Int32} (hx : x < 0 ∨ nI M ≤ x) {z w : Int32} : Ev X 9 mX7_asks (0, 0) [.ref 0, .int x, .int z, .int w] S0 I L (R0 q) (AgLR (some (.int (-2))) I L q) := by
  obtain ⟨hm, hm10, hM, hM5, hri, hq, hs⟩ := id h
  refine ev_of (by decide +kernel) rfl ?_
  show SW X _ _ _ 0 [some (.ref 0), some (.int x), some (.int z), some (.int w), none] [] S0 I L (R0 q) _
  refine s_aload_n (tb_ok aX7_asks_0 0 rfl) rfl ?_
  refine s_getR (r := 5) (tb_ok aX7_asks_0 1 rfl) f_RX7_19 rfl rfl rfl ?_
  refine s_iload_n (tb_ok aX7_asks_0 2 rfl) rfl ?_
  refine s_cVp (as := [.int x]) (tb_ok aX7_asks_0 3 rfl) v_RX7_115 (E_atN (orch5 q) hM hM5 hx) (by decide) rfl rfl rfl rfl rfl (Nat.le_of_ble_eq_true rfl) (by decide) ?_
  refine s_astoreN (ls' := [some (.ref 0), some (.int x), some (.int z), some (.int w), some (.null)]) (tb_ok aX7_asks_0 4 rfl) rfl rfl ?_
  refine s_aloadq (r := none) (tb_ok aX7_asks_0 5 rfl) rfl ?_
  refine s_ifnullN (tgt := 22) (tb_ok aX7_asks_0 6 rfl) (by decide) ?_
  refine s_bipush (v := -2) (tb_ok aX7_asks_0 10 rfl) (by decide) ?_
  refine s_iret (tb_ok aX7_asks_0 11 rfl) rfl ?_
  exact ⟨rfl, rfl, AgL.rf, rfl, rfl⟩

set_option maxRecDepth 100000 in
set_option maxHeartbeats 1000000 in
theorem C_asksF {X : En} {I : FI} {L : FL} {q : Nat × Nat} {m M ri : Nat} {sem : Nat → Sem} (h : CSt I q m M ri sem) {j : Nat} (hj : j < M) {z w : Int32} (hv : ¬ (¬ z < 0 ∧ z < 12)) : Ev X 9 mX7_asks (0, 0) [.ref 0, .int (nI j), .int z, .int w] S0 I L (R0 q) (AgLR (some (.int (-2))) I L q) := by
  obtain ⟨hm, hm10, hM, hM5, hri, hq, hs⟩ := id h
  have hj5 : j < 5 := by omega
  have hob : S0[5 + 2 + j]? = some (5, 5) := ((orch5 q).2.2.2.1 j hj5).2
  have h27 : 5 + 2 + j ≠ 27 := (wT j hj5).2
  refine ev_of (by decide +kernel) rfl ?_
  show SW X _ _ _ 0 [some (.ref 0), some (.int (nI j)), some (.int z), some (.int w), none] [] S0 I L (R0 q) _
  refine s_aload_n (tb_ok aX7_asks_0 0 rfl) rfl ?_
  refine s_getR (r := 5) (tb_ok aX7_asks_0 1 rfl) f_RX7_19 rfl rfl rfl ?_
  refine s_iload_n (tb_ok aX7_asks_0 2 rfl) rfl ?_
  refine s_cVp (as := [.int (nI j)]) (tb_ok aX7_asks_0 3 rfl) v_RX7_115 (E_at (orch5 q) hM hM5 hj) (by decide) rfl rfl rfl rfl rfl (Nat.le_of_ble_eq_true rfl) (by decide) ?_
  refine s_astore (ls' := [some (.ref 0), some (.int (nI j)), some (.int z), some (.int w), some (.ref (5 + 2 + j))]) (tb_ok aX7_asks_0 4 rfl) rfl rfl ?_
  refine s_aload (tb_ok aX7_asks_0 5 rfl) rfl ?_
  refine s_ifnull (tb_ok aX7_asks_0 6 rfl) ?_
  refine s_iload_n (tb_ok aX7_asks_0 7 rfl) rfl ?_
  refine s_cSp (as := [.int z]) (tb_ok aX7_asks_0 8 rfl) v_RX7_108 (E_isFact _) (by decide) rfl rfl (Nat.le_of_ble_eq_true rfl) ?_
  refine s_if_ne (tgt := 25) (tb_ok aX7_asks_0 9 rfl) (by decide) (fun c19 => ?_) (fun c19 => ?_)
  · exact absurd (bI_n c19) hv
  · refine s_bipush (v := -2) (tb_ok aX7_asks_0 10 rfl) (by decide) ?_
    refine s_iret (tb_ok aX7_asks_0 11 rfl) rfl ?_
    exact ⟨rfl, rfl, AgL.rf, rfl, rfl⟩

set_option maxRecDepth 100000 in
set_option maxHeartbeats 1000000 in
theorem C_asksW {X : En} {I : FI} {L : FL} {q : Nat × Nat} {m M ri : Nat} {sem : Nat → Sem} (h : CSt I q m M ri sem) {j : Nat} (hj : j < M) {g : Nat} (hg : g < 12) {w : Int32} (hw : w < 0 ∨ 4 < w) : Ev X 9 mX7_asks (0, 0) [.ref 0, .int (nI j), .int (nI g), .int w] S0 I L (R0 q) (AgLR (some (.int (-2))) I L q) := by
  obtain ⟨hm, hm10, hM, hM5, hri, hq, hs⟩ := id h
  have hj5 : j < 5 := by omega
  have hob : S0[5 + 2 + j]? = some (5, 5) := ((orch5 q).2.2.2.1 j hj5).2
  have h27 : 5 + 2 + j ≠ 27 := (wT j hj5).2
  refine ev_of (by decide +kernel) rfl ?_
  show SW X _ _ _ 0 [some (.ref 0), some (.int (nI j)), some (.int (nI g)), some (.int w), none] [] S0 I L (R0 q) _
  refine s_aload_n (tb_ok aX7_asks_0 0 rfl) rfl ?_
  refine s_getR (r := 5) (tb_ok aX7_asks_0 1 rfl) f_RX7_19 rfl rfl rfl ?_
  refine s_iload_n (tb_ok aX7_asks_0 2 rfl) rfl ?_
  refine s_cVp (as := [.int (nI j)]) (tb_ok aX7_asks_0 3 rfl) v_RX7_115 (E_at (orch5 q) hM hM5 hj) (by decide) rfl rfl rfl rfl rfl (Nat.le_of_ble_eq_true rfl) (by decide) ?_
  refine s_astore (ls' := [some (.ref 0), some (.int (nI j)), some (.int (nI g)), some (.int w), some (.ref (5 + 2 + j))]) (tb_ok aX7_asks_0 4 rfl) rfl rfl ?_
  refine s_aload (tb_ok aX7_asks_0 5 rfl) rfl ?_
  refine s_ifnull (tb_ok aX7_asks_0 6 rfl) ?_
  refine s_iload_n (tb_ok aX7_asks_0 7 rfl) rfl ?_
  refine s_cSp (as := [.int (nI g)]) (tb_ok aX7_asks_0 8 rfl) v_RX7_108 (E_isFact _) (by decide) rfl rfl (Nat.le_of_ble_eq_true rfl) ?_
  refine s_topi (bI_t ⟨nI_pos (by omega), by rw [show (12 : Int32) = nI 12 from rfl]; simp (disch := omega) only [nI_ltI]; omega⟩) ?_
  refine s_if_ne (tgt := 25) (tb_ok aX7_asks_0 9 rfl) (by decide) (fun c19 => ?_) (fun c19 => ?_)
  · refine s_iload_n (tb_ok aX7_asks_0 12 rfl) rfl ?_
    refine s_tableOut (tgt := 143) (tb_ok aX7_asks_0 13 rfl) (sw_o hw) (by decide) ?_
    refine s_bipush (v := -2) (tb_ok aX7_asks_2 8 rfl) (by decide) ?_
    refine s_iret (tb_ok aX7_asks_2 9 rfl) rfl ?_
    exact ⟨rfl, rfl, AgL.rf, rfl, rfl⟩
  · exact absurd c19 (by decide)

set_option maxRecDepth 100000 in
set_option maxHeartbeats 1000000 in
theorem C_drawn {X : En} {I : FI} {L : FL} {q : Nat × Nat} {m M ri : Nat} {sem : Nat → Sem} (h : CSt I q m M ri sem) (seed : Int32) : Ev X 9 mX7_drawn (0, 0) [.ref 0, .int seed] S0 I L (R0 q) (AgLR (some (.int (drwP sem (I 2) (I 3) m M (I 5 2) (fun j => I (5 + 2 + j)) seed))) I L q) := by
  obtain ⟨hm, hm10, hM, hM5, hri, hq, hs⟩ := id h
  refine ev_of (by decide +kernel) rfl ?_
  show SW X _ _ _ 0 [some (.ref 0), some (.int seed)] [] S0 I L (R0 q) _
  refine s_aload_n (tb_ok aX7_drawn_0 0 rfl) rfl ?_
  refine s_iload_n (tb_ok aX7_drawn_0 1 rfl) rfl ?_
  refine s_cV (as := [.int seed]) (tb_ok aX7_drawn_0 2 rfl) v_RX7_290 (E_basketsDrawn hM hM5 hm hm10 hri hq hs _) (by decide) rfl rfl rfl rfl rfl (Nat.le_of_ble_eq_true rfl) (by decide) (fun r1 S1 I1 L1 R1 q1 => ?_)
  obtain ⟨rfl, rfl, hA, rfl, rfl⟩ := q1
  refine s_iret (tb_ok aX7_drawn_0 3 rfl) rfl ?_
  exact ⟨rfl, rfl, hA.l, rfl, rfl⟩

set_option maxRecDepth 100000 in
set_option maxHeartbeats 1000000 in
theorem C_count0 {X : En} {I : FI} {L : FL} {q : Nat × Nat} {m M ri : Nat} {sem : Nat → Sem} (h : CSt I q m M ri sem) : Ev X 9 mX7_count (0, 0) [.ref 0, .int (0)] S0 I L (R0 q) (AgLR (some (.int (nI M))) I L q) := by
  obtain ⟨hm, hm10, hM, hM5, hri, hq, hs⟩ := id h
  refine ev_of (by decide +kernel) rfl ?_
  show SW X _ _ _ 0 [some (.ref 0), some (.int (0))] [] S0 I L (R0 q) _
  refine s_iload_n (tb_ok aX7_count_0 0 rfl) rfl ?_
  refine s_tableIn (off := 39) (tgt := 40) (tb_ok aX7_count_0 1 rfl) (by decide) (by decide) rfl (by decide) ?_
  refine s_aload_n (tb_ok aX7_count_0 2 rfl) rfl ?_
  refine s_getR (r := 5) (tb_ok aX7_count_0 3 rfl) f_RX7_19 rfl rfl rfl ?_
  refine s_getI (x := (nI M)) (tb_ok aX7_count_0 4 rfl) f_RX7_305 rfl rfl hM ?_
  refine s_iret (tb_ok aX7_count_0 5 rfl) rfl ?_
  exact ⟨rfl, rfl, AgL.rf, rfl, rfl⟩

set_option maxRecDepth 100000 in
set_option maxHeartbeats 1000000 in
theorem C_count1 {X : En} {I : FI} {L : FL} {q : Nat × Nat} {m M ri : Nat} {sem : Nat → Sem} (h : CSt I q m M ri sem) : Ev X 9 mX7_count (0, 0) [.ref 0, .int (1)] S0 I L (R0 q) (AgLR (some (.int (nI m))) I L q) := by
  obtain ⟨hm, hm10, hM, hM5, hri, hq, hs⟩ := id h
  refine ev_of (by decide +kernel) rfl ?_
  show SW X _ _ _ 0 [some (.ref 0), some (.int (1))] [] S0 I L (R0 q) _
  refine s_iload_n (tb_ok aX7_count_0 0 rfl) rfl ?_
  refine s_tableIn (off := 47) (tgt := 48) (tb_ok aX7_count_0 1 rfl) (by decide) (by decide) rfl (by decide) ?_
  refine s_aload_n (tb_ok aX7_count_0 6 rfl) rfl ?_
  refine s_getR (r := 1) (tb_ok aX7_count_0 7 rfl) f_RX7_10 rfl rfl rfl ?_
  refine s_getI (x := (nI m)) (tb_ok aX7_count_0 8 rfl) f_RX7_299 rfl rfl hm ?_
  refine s_iret (tb_ok aX7_count_0 9 rfl) rfl ?_
  exact ⟨rfl, rfl, AgL.rf, rfl, rfl⟩

set_option maxRecDepth 100000 in
set_option maxHeartbeats 1000000 in
theorem C_count2 {X : En} {I : FI} {L : FL} {q : Nat × Nat} {m M ri : Nat} {sem : Nat → Sem} (h : CSt I q m M ri sem) : Ev X 9 mX7_count (0, 0) [.ref 0, .int (2)] S0 I L (R0 q) (AgLR (some (.int (apS (fun j => I (5 + 2 + j)) M 5))) I L q) := by
  obtain ⟨hm, hm10, hM, hM5, hri, hq, hs⟩ := id h
  refine ev_of (by decide +kernel) rfl ?_
  show SW X _ _ _ 0 [some (.ref 0), some (.int (2))] [] S0 I L (R0 q) _
  refine s_iload_n (tb_ok aX7_count_0 0 rfl) rfl ?_
  refine s_tableIn (off := 55) (tgt := 56) (tb_ok aX7_count_0 1 rfl) (by decide) (by decide) rfl (by decide) ?_
  refine s_aload_n (tb_ok aX7_count_0 10 rfl) rfl ?_
  refine s_getR (r := 5) (tb_ok aX7_count_0 11 rfl) f_RX7_19 rfl rfl rfl ?_
  refine s_cVp (as := []) (tb_ok aX7_count_0 12 rfl) v_RX7_206 (E_Oapples (orch5 q) hM hM5) (by decide) rfl rfl rfl rfl rfl (Nat.le_of_ble_eq_true rfl) (by decide) ?_
  refine s_iret (tb_ok aX7_count_0 13 rfl) rfl ?_
  exact ⟨rfl, rfl, AgL.rf, rfl, rfl⟩

set_option maxRecDepth 100000 in
set_option maxHeartbeats 1000000 in
theorem C_count3 {X : En} {I : FI} {L : FL} {q : Nat × Nat} {m M ri : Nat} {sem : Nat → Sem} (h : CSt I q m M ri sem) : Ev X 9 mX7_count (0, 0) [.ref 0, .int (3)] S0 I L (R0 q) (AgLR (some (.int (I 0 10))) I L q) := by
  obtain ⟨hm, hm10, hM, hM5, hri, hq, hs⟩ := id h
  refine ev_of (by decide +kernel) rfl ?_
  show SW X _ _ _ 0 [some (.ref 0), some (.int (3))] [] S0 I L (R0 q) _
  refine s_iload_n (tb_ok aX7_count_0 0 rfl) rfl ?_
  refine s_tableIn (off := 63) (tgt := 64) (tb_ok aX7_count_0 1 rfl) (by decide) (by decide) rfl (by decide) ?_
  refine s_aload_n (tb_ok aX7_count_0 14 rfl) rfl ?_
  refine s_getI (tb_ok aX7_count_0 15 rfl) f_RX7_51 rfl rfl rfl ?_
  refine s_iret (tb_ok aX7_count_0 16 rfl) rfl ?_
  exact ⟨rfl, rfl, AgL.rf, rfl, rfl⟩

set_option maxRecDepth 100000 in
set_option maxHeartbeats 1000000 in
theorem C_count4 {X : En} {I : FI} {L : FL} {q : Nat × Nat} {m M ri : Nat} {sem : Nat → Sem} (h : CSt I q m M ri sem) : Ev X 9 mX7_count (0, 0) [.ref 0, .int (4)] S0 I L (R0 q) (AgLR (some (.int (I 62 1))) I L q) := by
  obtain ⟨hm, hm10, hM, hM5, hri, hq, hs⟩ := id h
  refine ev_of (by decide +kernel) rfl ?_
  show SW X _ _ _ 0 [some (.ref 0), some (.int (4))] [] S0 I L (R0 q) _
  refine s_iload_n (tb_ok aX7_count_0 0 rfl) rfl ?_
  refine s_tableIn (off := 68) (tgt := 69) (tb_ok aX7_count_0 1 rfl) (by decide) (by decide) rfl (by decide) ?_
  refine s_aload_n (tb_ok aX7_count_0 17 rfl) rfl ?_
  refine s_getR (r := 62) (tb_ok aX7_count_0 18 rfl) f_RX7_69 rfl rfl rfl ?_
  refine s_getI (tb_ok aX7_count_0 19 rfl) f_RX7_165 rfl rfl rfl ?_
  refine s_iret (tb_ok aX7_count_0 20 rfl) rfl ?_
  exact ⟨rfl, rfl, AgL.rf, rfl, rfl⟩

set_option maxRecDepth 100000 in
set_option maxHeartbeats 1000000 in
theorem C_count5 {X : En} {I : FI} {L : FL} {q : Nat × Nat} {m M ri : Nat} {sem : Nat → Sem} (h : CSt I q m M ri sem) : Ev X 9 mX7_count (0, 0) [.ref 0, .int (5)] S0 I L (R0 q) (AgLR (some (.int (I 5 3))) I L q) := by
  obtain ⟨hm, hm10, hM, hM5, hri, hq, hs⟩ := id h
  refine ev_of (by decide +kernel) rfl ?_
  show SW X _ _ _ 0 [some (.ref 0), some (.int (5))] [] S0 I L (R0 q) _
  refine s_iload_n (tb_ok aX7_count_0 0 rfl) rfl ?_
  refine s_tableIn (off := 76) (tgt := 77) (tb_ok aX7_count_0 1 rfl) (by decide) (by decide) rfl (by decide) ?_
  refine s_aload_n (tb_ok aX7_count_0 21 rfl) rfl ?_
  refine s_getR (r := 5) (tb_ok aX7_count_0 22 rfl) f_RX7_19 rfl rfl rfl ?_
  refine s_getI (tb_ok aX7_count_0 23 rfl) f_RX7_172 rfl rfl rfl ?_
  refine s_iret (tb_ok aX7_count_1 0 rfl) rfl ?_
  exact ⟨rfl, rfl, AgL.rf, rfl, rfl⟩

set_option maxRecDepth 100000 in
set_option maxHeartbeats 1000000 in
theorem C_countB {X : En} {I : FI} {L : FL} {q : Nat × Nat} {m M ri : Nat} {sem : Nat → Sem} (h : CSt I q m M ri sem) {w : Int32} (hw : w < 0 ∨ 5 < w) : Ev X 9 mX7_count (0, 0) [.ref 0, .int w] S0 I L (R0 q) (AgLR (some (.int (-2))) I L q) := by
  refine ev_of (by decide +kernel) rfl ?_
  show SW X _ _ _ 0 [some (.ref 0), some (.int w)] [] S0 I L (R0 q) _
  refine s_iload_n (tb_ok aX7_count_0 0 rfl) rfl ?_
  refine s_tableOut (tgt := 85) (tb_ok aX7_count_0 1 rfl) (sw_o hw) (by decide) ?_
  refine s_bipush (v := -2) (tb_ok aX7_count_1 1 rfl) (by decide) ?_
  refine s_iret (tb_ok aX7_count_1 2 rfl) rfl ?_
  exact ⟨rfl, rfl, AgL.rf, rfl, rfl⟩

theorem iso_01 (w : Int32) : ∀ n x, isoF w n x = 0 ∨ isoF w n x = 1 := by
  intro n
  induction n with
  | zero => intro x; exact Or.inl rfl
  | succ n ih =>
    intro x
    unfold isoF
    by_cases h : x = w
    · rw [if_pos h]; exact Or.inr rfl
    · rw [if_neg h]; exact ih _
theorem iso_1 {w : Int32} {n : Nat} {x : Int32} (h : ¬ isoF w n x = 0) : isoF w n x = 1 := (iso_01 w n x).resolve_left h
set_option maxRecDepth 100000 in
set_option maxHeartbeats 1000000 in
theorem C_taken {X : En} {I : FI} {L : FL} {q : Nat × Nat} {m M ri : Nat} {sem : Nat → Sem} (h : CSt I q m M ri sem) {j : Nat} (hj : j < M) {k : Nat} (hk : k < 6) : Ev X 9 mX7_taken (0, 0) [.ref 0, .int (nI j), .int (nI k)] S0 I L (R0 q) (AgLR (some (.int (if isoF (nI k) 6 ((I (5 + 2 + j)) 0) = 1 then (I (5 + 2 + j)) 1 else -13))) I L q) := by
  obtain ⟨hm, hm10, hM, hM5, hri, hq, hs⟩ := id h
  have hj5 : j < 5 := by omega
  have hob : S0[5 + 2 + j]? = some (5, 5) := ((orch5 q).2.2.2.1 j hj5).2
  have h27 : 5 + 2 + j ≠ 27 := (wT j hj5).2
  refine ev_of (by decide +kernel) rfl ?_
  show SW X _ _ _ 0 [some (.ref 0), some (.int (nI j)), some (.int (nI k)), none] [] S0 I L (R0 q) _
  refine s_iload_n (tb_ok aX7_taken_0 0 rfl) rfl ?_
  refine s_if_lt (tgt := 10) (tb_ok aX7_taken_0 1 rfl) (by decide) (fun c1 => ?_) (fun c1 => ?_)
  · exact absurd c1 (nI_pos (by omega))
  · refine s_iload_n (tb_ok aX7_taken_0 2 rfl) rfl ?_
    refine s_bipush (v := nI 6) (tb_ok aX7_taken_0 3 rfl) (by decide) ?_
    refine s_icmp_lt (tgt := 13) (tb_ok aX7_taken_0 4 rfl) (by decide) (fun c7 => ?_) (fun c7 => ?_)
    · refine s_aload_n (tb_ok aX7_taken_0 7 rfl) rfl ?_
      refine s_getR (r := 5) (tb_ok aX7_taken_0 8 rfl) f_RX7_19 rfl rfl rfl ?_
      refine s_iload_n (tb_ok aX7_taken_0 9 rfl) rfl ?_
      refine s_cVp (as := [.int (nI j)]) (tb_ok aX7_taken_0 10 rfl) v_RX7_115 (E_at (orch5 q) hM hM5 hj) (by decide) rfl rfl rfl rfl rfl (Nat.le_of_ble_eq_true rfl) (by decide) ?_
      refine s_astore_n (ls' := [some (.ref 0), some (.int (nI j)), some (.int (nI k)), some (.ref (5 + 2 + j))]) (tb_ok aX7_taken_0 11 rfl) rfl rfl ?_
      refine s_aload_n (tb_ok aX7_taken_0 12 rfl) rfl ?_
      refine s_ifnonnull (tgt := 29) (tb_ok aX7_taken_0 13 rfl) (by decide) ?_
      refine s_aload_n (tb_ok aX7_taken_0 16 rfl) rfl ?_
      refine s_iload_n (tb_ok aX7_taken_0 17 rfl) rfl ?_
      refine s_cVp (as := [.int (nI k)]) (tb_ok aX7_taken_0 18 rfl) v_RX7_329 (E_isOf hob _) (by decide) hob rfl rfl rfl rfl (Nat.le_of_ble_eq_true rfl) (by decide) ?_
      refine s_if_eq (tgt := 44) (tb_ok aX7_taken_0 19 rfl) (by decide) (fun c34 => ?_) (fun c34 => ?_)
      · refine s_bipush (v := -13) (tb_ok aX7_taken_0 23 rfl) (by decide) ?_
        refine s_iret (tb_ok aX7_taken_1 0 rfl) rfl ?_
        exact ⟨by rw [if_neg (fun h_ => by rw [h_] at c34; exact absurd c34 (by decide))], rfl, AgL.rf, rfl, rfl⟩
      · refine s_aload_n (tb_ok aX7_taken_0 20 rfl) rfl ?_
        refine s_getI (tb_ok aX7_taken_0 21 rfl) f_RX7_332 hob rfl rfl ?_
        refine s_goto (tgt := 46) (tb_ok aX7_taken_0 22 rfl) (by decide) ?_
        refine s_iret (tb_ok aX7_taken_1 0 rfl) rfl ?_
        exact ⟨by rw [if_pos (iso_1 c34)], rfl, AgL.rf, rfl, rfl⟩
    · simp (disch := omega) only [nI_ltI] at c7
      omega

set_option maxRecDepth 100000 in
set_option maxHeartbeats 1000000 in
theorem C_takenN {X : En} {I : FI} {L : FL} {q : Nat × Nat} {m M ri : Nat} {sem : Nat → Sem} (h : CSt I q m M ri sem) {x : Int32} (hx : x < 0 ∨ nI M ≤ x) {k : Nat} (hk : k < 6) : Ev X 9 mX7_taken (0, 0) [.ref 0, .int x, .int (nI k)] S0 I L (R0 q) (AgLR (some (.int (-11))) I L q) := by
  obtain ⟨hm, hm10, hM, hM5, hri, hq, hs⟩ := id h
  refine ev_of (by decide +kernel) rfl ?_
  show SW X _ _ _ 0 [some (.ref 0), some (.int x), some (.int (nI k)), none] [] S0 I L (R0 q) _
  refine s_iload_n (tb_ok aX7_taken_0 0 rfl) rfl ?_
  refine s_if_lt (tgt := 10) (tb_ok aX7_taken_0 1 rfl) (by decide) (fun c1 => ?_) (fun c1 => ?_)
  · exact absurd c1 (nI_pos (by omega))
  · refine s_iload_n (tb_ok aX7_taken_0 2 rfl) rfl ?_
    refine s_bipush (v := nI 6) (tb_ok aX7_taken_0 3 rfl) (by decide) ?_
    refine s_icmp_lt (tgt := 13) (tb_ok aX7_taken_0 4 rfl) (by decide) (fun c7 => ?_) (fun c7 => ?_)
    · refine s_aload_n (tb_ok aX7_taken_0 7 rfl) rfl ?_
      refine s_getR (r := 5) (tb_ok aX7_taken_0 8 rfl) f_RX7_19 rfl rfl rfl ?_
      refine s_iload_n (tb_ok aX7_taken_0 9 rfl) rfl ?_
      refine s_cVp (as := [.int x]) (tb_ok aX7_taken_0 10 rfl) v_RX7_115 (E_atN (orch5 q) hM hM5 hx) (by decide) rfl rfl rfl rfl rfl (Nat.le_of_ble_eq_true rfl) (by decide) ?_
      refine s_astoreN_n (ls' := [some (.ref 0), some (.int x), some (.int (nI k)), some (.null)]) (tb_ok aX7_taken_0 11 rfl) rfl rfl ?_
      refine s_aloadq_n (r := none) (tb_ok aX7_taken_0 12 rfl) rfl ?_
      refine s_ifnonnullN (tb_ok aX7_taken_0 13 rfl) ?_
      refine s_bipush (v := -11) (tb_ok aX7_taken_0 14 rfl) (by decide) ?_
      refine s_iret (tb_ok aX7_taken_0 15 rfl) rfl ?_
      exact ⟨rfl, rfl, AgL.rf, rfl, rfl⟩
    · simp (disch := omega) only [nI_ltI] at c7
      omega

set_option maxRecDepth 100000 in
set_option maxHeartbeats 1000000 in
theorem C_takenB {X : En} {I : FI} {L : FL} {q : Nat × Nat} {m M ri : Nat} {sem : Nat → Sem} (h : CSt I q m M ri sem) {x w : Int32} (hv : ¬ (¬ w < 0 ∧ w < 6)) : Ev X 9 mX7_taken (0, 0) [.ref 0, .int x, .int w] S0 I L (R0 q) (AgLR (some (.int (-2))) I L q) := by
  refine ev_of (by decide +kernel) rfl ?_
  show SW X _ _ _ 0 [some (.ref 0), some (.int x), some (.int w), none] [] S0 I L (R0 q) _
  refine s_iload_n (tb_ok aX7_taken_0 0 rfl) rfl ?_
  refine s_if_lt (tgt := 10) (tb_ok aX7_taken_0 1 rfl) (by decide) (fun c1 => ?_) (fun c1 => ?_)
  · refine s_bipush (v := -2) (tb_ok aX7_taken_0 5 rfl) (by decide) ?_
    refine s_iret (tb_ok aX7_taken_0 6 rfl) rfl ?_
    exact ⟨rfl, rfl, AgL.rf, rfl, rfl⟩
  · refine s_iload_n (tb_ok aX7_taken_0 2 rfl) rfl ?_
    refine s_bipush (v := 6) (tb_ok aX7_taken_0 3 rfl) (by decide) ?_
    refine s_icmp_lt (tgt := 13) (tb_ok aX7_taken_0 4 rfl) (by decide) (fun c7 => ?_) (fun c7 => ?_)
    · exact absurd ⟨c1, c7⟩ hv
    · refine s_bipush (v := -2) (tb_ok aX7_taken_0 5 rfl) (by decide) ?_
      refine s_iret (tb_ok aX7_taken_0 6 rfl) rfl ?_
      exact ⟨rfl, rfl, AgL.rf, rfl, rfl⟩
