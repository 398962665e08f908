/-! the class: texts, force, tell, day, film, image, back, sheets -/
theorem AgW.l {I J : FI} (h : AgW I J) : AgL I J := h.v.l
/-- all but a row -/
def AgF (s : Nat) (I I' : FI) : Prop := ∀ a, W1 a = false → a ≠ 4 → a ≠ rowN s → a ≠ rowN s + 1 → I' a = I a
set_option maxRecDepth 100000 in
set_option maxHeartbeats 1000000 in
theorem C_force {X : En} {I : FI} {L : FL} {q : Nat × Nat} {tx i : Nat} (htx : I 0 10 = nI tx) (htx6 : tx ≤ 6) (hi : i < tx) : Ev X 9 mX7_force (0, 0) [.ref 0, .int (nI i)] S0 I L (R0 q) (PureR (some (.int (I 5 3))) S0 (up2 I 5 3 (nI i)) L (R0 (ruleN i, q.2))) := by
  refine ev_of (by decide +kernel) rfl ?_
  show SW X _ _ _ 0 [some (.ref 0), some (.int (nI i)), none, none] [] S0 I L (R0 q) _
  refine s_iload_n (tb_ok aX7_force_0 0 rfl) rfl ?_
  refine s_aload_n (tb_ok aX7_force_0 1 rfl) rfl ?_
  refine s_getI (x := (nI tx)) (tb_ok aX7_force_0 2 rfl) f_RX7_51 rfl rfl htx ?_
  refine s_icmp_ge (tgt := 16) (tb_ok aX7_force_0 3 rfl) (by decide) (fun c5 => ?_) (fun c5 => ?_)
  · simp (disch := omega) only [nI_leI] at c5
    omega
  · refine s_aload_n (tb_ok aX7_force_0 4 rfl) rfl ?_
    refine s_iload_n (tb_ok aX7_force_0 5 rfl) rfl ?_
    refine s_cVp (as := [.int (nI i)]) (tb_ok aX7_force_0 6 rfl) v_RX7_168 (E_ruleAt (by omega)) (by decide) rfl rfl rfl rfl rfl (Nat.le_of_ble_eq_true rfl) (by decide) ?_
    refine s_goto (tgt := 17) (tb_ok aX7_force_0 7 rfl) (by decide) ?_
    refine s_astore_n (ls' := [some (.ref 0), some (.int (nI i)), some (.ref (ruleN i)), none]) (tb_ok aX7_force_0 9 rfl) rfl rfl ?_
    refine s_aload_n (tb_ok aX7_force_0 10 rfl) rfl ?_
    refine s_ifnonnull (tgt := 25) (tb_ok aX7_force_0 11 rfl) (by decide) ?_
    refine s_aload_n (tb_ok aX7_force_0 14 rfl) rfl ?_
    refine s_getR (r := 5) (tb_ok aX7_force_0 15 rfl) f_RX7_19 rfl rfl rfl ?_
    refine s_getI (tb_ok aX7_force_0 16 rfl) f_RX7_172 rfl rfl rfl ?_
    refine s_name (fun x1 ex1 => ?_)
    refine s_istore_n (ls' := [some (.ref 0), some (.int (nI i)), some (.ref (ruleN i)), some (.int x1)]) (tb_ok aX7_force_0 17 rfl) rfl rfl ?_
    refine s_aload_n (tb_ok aX7_force_0 18 rfl) rfl ?_
    refine s_getR (r := 5) (tb_ok aX7_force_0 19 rfl) f_RX7_19 rfl rfl rfl ?_
    refine s_iload_n (tb_ok aX7_force_0 20 rfl) rfl ?_
    refine s_putI (tb_ok aX7_force_0 21 rfl) f_RX7_172 rfl rfl ?_
    refine s_aload_n (tb_ok aX7_force_0 22 rfl) rfl ?_
    refine s_getR (r := 64) (tb_ok aX7_force_0 23 rfl) f_RX7_101 rfl rfl rfl ?_
    refine s_aload_n (tb_ok aX7_force_1 0 rfl) rfl ?_
    refine s_putR (tb_ok aX7_force_1 1 rfl) f_RX7_175 rfl rfl ?_
    rw [R0_wy]
    refine s_iload_n (tb_ok aX7_force_1 2 rfl) rfl ?_
    refine s_iret (tb_ok aX7_force_1 3 rfl) rfl ?_
    rw [ex1]
    exact pureR

set_option maxRecDepth 100000 in
set_option maxHeartbeats 1000000 in
theorem C_forceL {X : En} {I : FI} {L : FL} {q : Nat × Nat} {tx : Nat} {x : Int32} (htx : I 0 10 = nI tx) (hx0 : x < 0) : Ev X 9 mX7_force (0, 0) [.ref 0, .int x] S0 I L (R0 q) (AgLR (some (.int (-2))) (I) L q) := by
  refine ev_of (by decide +kernel) rfl ?_
  show SW X _ _ _ 0 [some (.ref 0), some (.int x), none, none] [] S0 I L (R0 q) _
  refine s_iload_n (tb_ok aX7_force_0 0 rfl) rfl ?_
  refine s_aload_n (tb_ok aX7_force_0 1 rfl) rfl ?_
  refine s_getI (x := (nI tx)) (tb_ok aX7_force_0 2 rfl) f_RX7_51 rfl rfl htx ?_
  refine s_icmp_ge (tgt := 16) (tb_ok aX7_force_0 3 rfl) (by decide) (fun c5 => ?_) (fun c5 => ?_)
  · refine s_null (tb_ok aX7_force_0 8 rfl) ?_
    refine s_astoreN_n (ls' := [some (.ref 0), some (.int x), some (.null), none]) (tb_ok aX7_force_0 9 rfl) rfl rfl ?_
    refine s_aloadq_n (r := none) (tb_ok aX7_force_0 10 rfl) rfl ?_
    refine s_ifnonnullN (tb_ok aX7_force_0 11 rfl) ?_
    refine s_bipush (v := -2) (tb_ok aX7_force_0 12 rfl) (by decide) ?_
    refine s_iret (tb_ok aX7_force_0 13 rfl) rfl ?_
    exact ⟨rfl, rfl, AgL.rf, rfl, rfl⟩
  · refine s_aload_n (tb_ok aX7_force_0 4 rfl) rfl ?_
    refine s_iload_n (tb_ok aX7_force_0 5 rfl) rfl ?_
    refine s_cVp (as := [.int x]) (tb_ok aX7_force_0 6 rfl) v_RX7_168 (E_ruleAtN (Or.inl hx0)) (by decide) rfl rfl rfl rfl rfl (Nat.le_of_ble_eq_true rfl) (by decide) ?_
    refine s_goto (tgt := 17) (tb_ok aX7_force_0 7 rfl) (by decide) ?_
    refine s_astoreN_n (ls' := [some (.ref 0), some (.int x), some (.null), none]) (tb_ok aX7_force_0 9 rfl) rfl rfl ?_
    refine s_aloadq_n (r := none) (tb_ok aX7_force_0 10 rfl) rfl ?_
    refine s_ifnonnullN (tb_ok aX7_force_0 11 rfl) ?_
    refine s_bipush (v := -2) (tb_ok aX7_force_0 12 rfl) (by decide) ?_
    refine s_iret (tb_ok aX7_force_0 13 rfl) rfl ?_
    exact ⟨rfl, rfl, AgL.rf, rfl, rfl⟩

set_option maxRecDepth 100000 in
set_option maxHeartbeats 1000000 in
theorem C_forceH {X : En} {I : FI} {L : FL} {q : Nat × Nat} {tx : Nat} {x : Int32} (htx : I 0 10 = nI tx) (hx : nI tx ≤ x) : Ev X 9 mX7_force (0, 0) [.ref 0, .int x] S0 I L (R0 q) (AgLR (some (.int (-2))) (I) L q) := by
  refine ev_of (by decide +kernel) rfl ?_
  show SW X _ _ _ 0 [some (.ref 0), some (.int x), none, none] [] S0 I L (R0 q) _
  refine s_iload_n (tb_ok aX7_force_0 0 rfl) rfl ?_
  refine s_aload_n (tb_ok aX7_force_0 1 rfl) rfl ?_
  refine s_getI (x := (nI tx)) (tb_ok aX7_force_0 2 rfl) f_RX7_51 rfl rfl htx ?_
  refine s_icmp_ge (tgt := 16) (tb_ok aX7_force_0 3 rfl) (by decide) (fun c5 => ?_) (fun c5 => ?_)
  · refine s_null (tb_ok aX7_force_0 8 rfl) ?_
    refine s_astoreN_n (ls' := [some (.ref 0), some (.int x), some (.null), none]) (tb_ok aX7_force_0 9 rfl) rfl rfl ?_
    refine s_aloadq_n (r := none) (tb_ok aX7_force_0 10 rfl) rfl ?_
    refine s_ifnonnullN (tb_ok aX7_force_0 11 rfl) ?_
    refine s_bipush (v := -2) (tb_ok aX7_force_0 12 rfl) (by decide) ?_
    refine s_iret (tb_ok aX7_force_0 13 rfl) rfl ?_
    exact ⟨rfl, rfl, AgL.rf, rfl, rfl⟩
  · exact absurd hx c5

set_option maxRecDepth 100000 in
set_option maxHeartbeats 1000000 in
theorem C_textF {X : En} {I : FI} {L : FL} {q : Nat × Nat} (htx : I 0 10 = nI 6) : Ev X 60 mX7_text (0, 0) [.ref 0] S0 I L (R0 q) (AgLR (some (.int (-4))) (I) L q) := by
  refine ev_of (by decide +kernel) rfl ?_
  show SW X _ _ _ 0 [some (.ref 0), none, none] [] S0 I L (R0 q) _
  refine s_aload_n (tb_ok aX7_text_0 0 rfl) rfl ?_
  refine s_aload_n (tb_ok aX7_text_0 1 rfl) rfl ?_
  refine s_getI (x := (nI 6)) (tb_ok aX7_text_0 2 rfl) f_RX7_51 rfl rfl htx ?_
  refine s_cVp (as := [.int (nI 6)]) (tb_ok aX7_text_0 3 rfl) v_RX7_168 (E_ruleAtN (Or.inr (by simp (disch := omega) only [nI_leI]; omega))) (by decide) rfl rfl rfl rfl rfl (Nat.le_of_ble_eq_true rfl) (by decide) ?_
  refine s_astoreN_n (ls' := [some (.ref 0), some (.null), none]) (tb_ok aX7_text_0 4 rfl) rfl rfl ?_
  refine s_aloadq_n (r := none) (tb_ok aX7_text_0 5 rfl) rfl ?_
  refine s_ifnonnullN (tb_ok aX7_text_0 6 rfl) ?_
  refine s_bipush (v := -4) (tb_ok aX7_text_0 7 rfl) (by decide) ?_
  refine s_iret (tb_ok aX7_text_0 8 rfl) rfl ?_
  exact ⟨rfl, rfl, AgL.rf, rfl, rfl⟩

/-- what a text leaves with the class: refused (some place), or taken -/
def ZC (tx : Nat) : TR → Int32 → FI → Prop
  | .inl p, v, I => v = nI tx ∧ I 0 10 = nI (tx + 1) ∧ okRule I (ruleN tx) (sem3 p.2.2.2.1 p.2.2.2.2.1 p.2.2.2.2.2)
  | .inr f, v, I => v = -100 - nI f ∧ I 0 10 = nI tx
def AgX2 (tx : Nat) (I I' : FI) : Prop := (∀ a, a ≠ 62 → a ≠ ruleN tx → a ≠ ruleN tx + 1 → a ≠ ruleN tx + 2 → a ≠ 0 → I' a = I a) ∧ I' 62 1 = 0 ∧ ∀ k, k ≠ 10 → I' 0 k = I 0 k
theorem rn_b {i : Nat} (h : i < 6) : 30 ≤ ruleN i ∧ ruleN i + 3 < 54 := by unfold ruleN; omega
theorem okRule.o0 {I J : FI} {o : Nat} {sem : Nat → Sem} (h : okRule I o sem) (h1 : J (o + 1) = I (o + 1)) (h2 : J (o + 2) = I (o + 2)) : okRule J o sem := by
  obtain ⟨e, a, b, c, d, g⟩ := h
  exact ⟨e, fun j hj => by rw [h2]; exact a j hj, b, c, d, fun pt hp nm w => by rw [h1]; exact g pt hp nm w⟩
set_option maxRecDepth 100000 in
set_option maxHeartbeats 1000000 in
theorem C_text {X : En} {I : FI} {L : FL} {q : Nat × Nat} {tx n : Nat} (htx : I 0 10 = nI tx) (htx6 : tx < 6) (hn : I 62 1 = nI n) (hn2 : n ≤ 160) : Ev X 60 mX7_text (0, 0) [.ref 0] S0 I L (R0 q) (fun r S' I' L' R' => S' = S0 ∧ L' = L ∧ R' = R0 (q.1, ruleN tx) ∧ AgX2 tx I I' ∧ ∃ v, r = some (.int v) ∧ ZC tx (readP (I 63) n (I 62 6)) v I') := by
  have hrg : ∀ g, readP (I 63) n (I 62 6) = .inr g → g ≤ n := fun g hg => by have hni := read_nice (I 63) n (I 62 6); rw [hg] at hni; exact hni
  refine ev_of (by decide +kernel) rfl ?_
  show SW X _ _ _ 0 [some (.ref 0), none, none] [] S0 I L (R0 q) _
  refine s_aload_n (tb_ok aX7_text_0 0 rfl) rfl ?_
  refine s_aload_n (tb_ok aX7_text_0 1 rfl) rfl ?_
  refine s_getI (x := (nI tx)) (tb_ok aX7_text_0 2 rfl) f_RX7_51 rfl rfl htx ?_
  refine s_cVp (as := [.int (nI tx)]) (tb_ok aX7_text_0 3 rfl) v_RX7_168 (E_ruleAt htx6) (by decide) rfl rfl rfl rfl rfl (Nat.le_of_ble_eq_true rfl) (by decide) ?_
  refine s_astore_n (ls' := [some (.ref 0), some (.ref (ruleN tx)), none]) (tb_ok aX7_text_0 4 rfl) rfl rfl ?_
  refine s_aload_n (tb_ok aX7_text_0 5 rfl) rfl ?_
  refine s_ifnonnull (tgt := 16) (tb_ok aX7_text_0 6 rfl) (by decide) ?_
  refine s_aload_n (tb_ok aX7_text_0 9 rfl) rfl ?_
  refine s_getR (r := 62) (tb_ok aX7_text_0 10 rfl) f_RX7_69 rfl rfl rfl ?_
  refine s_aload_n (tb_ok aX7_text_0 11 rfl) rfl ?_
  refine s_cV (as := [.ref (ruleN tx)]) (tb_ok aX7_text_0 12 rfl) v_RX7_89 (E_readInto (R := R0 q) rfl rfl rfl (rule0 q htx6) (by have := rn_b htx6; omega) hn hn2) (by decide) rfl rfl rfl rfl rfl (Nat.le_of_ble_eq_true rfl) (by decide) (fun r1 S1 I1 L1 R1 q1 => ?_)
  obtain ⟨rfl, rfl, rfl, hfr, hz⟩ := q1
  rw [R0_rd]
  cases hr : readP (I 63) n (I 62 6) with
  | inr g =>
    rw [hr] at hz
    have hz : r1 = some (.int (nI g)) := hz
    subst hz
    refine s_istore_n (ls' := [some (.ref 0), some (.ref (ruleN tx)), some (.int (nI g))]) (tb_ok aX7_text_0 13 rfl) rfl rfl ?_
    refine s_aload_n (tb_ok aX7_text_0 14 rfl) rfl ?_
    refine s_getR (r := 62) (tb_ok aX7_text_0 15 rfl) f_RX7_69 rfl rfl rfl ?_
    refine s_cV (as := []) (tb_ok aX7_text_0 16 rfl) v_RX7_93 (E_rclear (isRd q htx6)) (by decide) rfl rfl rfl rfl rfl (Nat.le_of_ble_eq_true rfl) (by decide) (fun r2 S2 I2 L2 R2 q2 => ?_)
    obtain ⟨rfl, rfl, rfl, rfl, rfl⟩ := q2
    refine s_iload_n (tb_ok aX7_text_0 17 rfl) rfl ?_
    refine s_iconst (v := -1) (tb_ok aX7_text_0 18 rfl) (by decide) ?_
    refine s_icmp_eq (tgt := 42) (tb_ok aX7_text_0 19 rfl) (by decide) (fun c34 => ?_) (fun c34 => ?_)
    · exact absurd c34 (nI_m1 (by have h160 := hrg g hr; omega))
    · refine s_bipush (v := -100) (tb_ok aX7_text_0 20 rfl) (by decide) ?_
      refine s_iload_n (tb_ok aX7_text_0 21 rfl) rfl ?_
      refine s_isub (tb_ok aX7_text_0 22 rfl) ?_
      refine s_iret (tb_ok aX7_text_0 23 rfl) rfl ?_
      have hb := rn_b htx6
      refine ⟨rfl, rfl, rfl, ?_, _, rfl, ?_⟩
      · refine ⟨fun a a1 a2 a3 a4 a5 => ?_, ?_, fun k hk => ?_⟩
        · rw [up2_n _ _ a1]; exact hfr.1 a a1 a2 a3 a4
        · exact up2_oo _ _ _ _
        · rw [up2_n _ _ (by omega)]; exact congrFun (hfr.1 0 (by omega) (by omega) (by omega) (by omega)) k
      · exact ⟨rfl, (congrFun ((up2_n _ _ (by omega)).trans (hfr.1 0 (by omega) (by omega) (by omega) (by omega))) 10).trans htx⟩
  | inl p =>
    rw [hr] at hz
    obtain ⟨hz, hok⟩ := hz
    subst hz
    refine s_istore_n (ls' := [some (.ref 0), some (.ref (ruleN tx)), some (.int (-1))]) (tb_ok aX7_text_0 13 rfl) rfl rfl ?_
    refine s_aload_n (tb_ok aX7_text_0 14 rfl) rfl ?_
    refine s_getR (r := 62) (tb_ok aX7_text_0 15 rfl) f_RX7_69 rfl rfl rfl ?_
    refine s_cV (as := []) (tb_ok aX7_text_0 16 rfl) v_RX7_93 (E_rclear (isRd q htx6)) (by decide) rfl rfl rfl rfl rfl (Nat.le_of_ble_eq_true rfl) (by decide) (fun r3 S3 I3 L3 R3 q3 => ?_)
    obtain ⟨rfl, rfl, rfl, rfl, rfl⟩ := q3
    refine s_iload_n (tb_ok aX7_text_0 17 rfl) rfl ?_
    refine s_iconst (v := -1) (tb_ok aX7_text_0 18 rfl) (by decide) ?_
    refine s_icmp_eq (tgt := 42) (tb_ok aX7_text_0 19 rfl) (by decide) (fun c34 => ?_) (fun c34 => ?_)
    · refine s_aload_n (tb_ok aX7_text_1 0 rfl) rfl ?_
      refine s_dup (tb_ok aX7_text_1 1 rfl) rfl ?_
      refine s_getI (x := (nI tx)) (tb_ok aX7_text_1 2 rfl) f_RX7_51 rfl rfl ((congrFun ((up2_n _ _ (by have hb := rn_b htx6; omega)).trans (hfr.1 0 (by omega) (by have hb := rn_b htx6; omega) (by have hb := rn_b htx6; omega) (by have hb := rn_b htx6; omega))) 10).trans htx) ?_
      refine s_iconst (v := 1) (tb_ok aX7_text_1 3 rfl) (by decide) ?_
      refine s_iadd (tb_ok aX7_text_1 4 rfl) ?_
      refine s_topi (z := (nI (tx + 1))) (nI_1 tx) ?_
      refine s_putI (tb_ok aX7_text_1 5 rfl) f_RX7_51 rfl rfl ?_
      refine s_aload_n (tb_ok aX7_text_1 6 rfl) rfl ?_
      refine s_getI (x := (nI (tx + 1))) (tb_ok aX7_text_1 7 rfl) f_RX7_51 rfl rfl (up2_oo _ _ _ _) ?_
      refine s_iconst (v := 1) (tb_ok aX7_text_1 8 rfl) (by decide) ?_
      refine s_isub (tb_ok aX7_text_1 9 rfl) ?_
      refine s_topi (z := (nI tx)) (nI_sub' (a := 1) (b := tx + 1) (by omega)) ?_
      refine s_iret (tb_ok aX7_text_1 10 rfl) rfl ?_
      have hb := rn_b htx6
      refine ⟨rfl, rfl, rfl, ?_, _, rfl, ?_⟩
      · refine ⟨fun a a1 a2 a3 a4 a5 => ?_, ?_, fun k hk => ?_⟩
        · rw [up2_n _ _ a5, up2_n _ _ a1]; exact hfr.1 a a1 a2 a3 a4
        · rw [up2_n _ _ (by omega)]; exact up2_oo _ _ _ _
        · rw [up2_nn _ _ (fun e => hk e.2), up2_n _ _ (by omega)]; exact congrFun (hfr.1 0 (by omega) (by omega) (by omega) (by omega)) k
      · exact ⟨rfl, up2_oo _ _ _ _, hok.o0 (by rw [up2_n _ _ (by omega), up2_n _ _ (by omega)]) (by rw [up2_n _ _ (by omega), up2_n _ _ (by omega)])⟩
    · exact absurd c34 (by decide)

set_option maxRecDepth 100000 in
set_option maxHeartbeats 1000000 in
theorem C_tell {X : En} {I : FI} {L : FL} {q : Nat × Nat} {m M ri : Nat} {sem : Nat → Sem} (h : CSt I q m M ri sem) {j : Nat} (hj : j < M) {g : Nat} (hg : g < 12) (hk : knI (I (5 + 2 + j)) (nI g) = 0) : Ev X 9 mX7_tell (0, 0) [.ref 0, .int (nI j), .int (nI g)] S0 I L (R0 q) (AgLR (some (.int (knI (heaP sem (I 2) (I 3) m (I (5 + 2 + j)) (nI g) (I 5 2)) (nI g)))) (setO I (5 + 2 + j) (heaP sem (I 2) (I 3) m (I (5 + 2 + j)) (nI g) (I 5 2))) L q) := by
  obtain ⟨hm, hm10, hM, hM5, hri, hq, hs⟩ := id h
  have hj5 : j < 5 := by omega
  have hob : S0[5 + 2 + j]? = some (5, 5) := ((orch5 q).2.2.2.1 j hj5).2
  have h27 : 5 + 2 + j ≠ 27 := (wT j hj5).2
  refine ev_of (by decide +kernel) rfl ?_
  show SW X _ _ _ 0 [some (.ref 0), some (.int (nI j)), some (.int (nI g)), none] [] S0 I L (R0 q) _
  refine s_aload_n (tb_ok aX7_tell_0 0 rfl) rfl ?_
  refine s_getR (r := 5) (tb_ok aX7_tell_0 1 rfl) f_RX7_19 rfl rfl rfl ?_
  refine s_iload_n (tb_ok aX7_tell_0 2 rfl) rfl ?_
  refine s_cVp (as := [.int (nI j)]) (tb_ok aX7_tell_0 3 rfl) v_RX7_115 (E_at (orch5 q) hM hM5 hj) (by decide) rfl rfl rfl rfl rfl (Nat.le_of_ble_eq_true rfl) (by decide) ?_
  refine s_astore_n (ls' := [some (.ref 0), some (.int (nI j)), some (.int (nI g)), some (.ref (5 + 2 + j))]) (tb_ok aX7_tell_0 4 rfl) rfl rfl ?_
  refine s_aload_n (tb_ok aX7_tell_0 5 rfl) rfl ?_
  refine s_ifnull (tb_ok aX7_tell_0 6 rfl) ?_
  refine s_iload_n (tb_ok aX7_tell_0 7 rfl) rfl ?_
  refine s_cSp (as := [.int (nI g)]) (tb_ok aX7_tell_0 8 rfl) v_RX7_108 (E_isFact _) (by decide) rfl rfl (Nat.le_of_ble_eq_true rfl) ?_
  refine s_topi (bI_t ⟨nI_pos (by omega), by rw [show (12 : Int32) = nI 12 from rfl]; simp (disch := omega) only [nI_ltI]; omega⟩) ?_
  refine s_if_ne (tgt := 23) (tb_ok aX7_tell_0 9 rfl) (by decide) (fun c17 => ?_) (fun c17 => ?_)
  · refine s_aload_n (tb_ok aX7_tell_0 12 rfl) rfl ?_
    refine s_iload_n (tb_ok aX7_tell_0 13 rfl) rfl ?_
    refine s_cVp (as := [.int (nI g)]) (tb_ok aX7_tell_0 14 rfl) v_RX7_200 (E_isKnown hob _) (by decide) hob rfl rfl rfl rfl (Nat.le_of_ble_eq_true rfl) (by decide) ?_
    refine s_topi (show bI _ = knI (I (5 + 2 + j)) (nI g) from rfl) ?_
    rw [hk]
    refine s_if_eq (tgt := 34) (tb_ok aX7_tell_0 15 rfl) (by decide) (fun c28 => ?_) (fun c28 => ?_)
    · refine s_aload_n (tb_ok aX7_tell_0 18 rfl) rfl ?_
      refine s_getR (r := 64) (tb_ok aX7_tell_0 19 rfl) f_RX7_101 rfl rfl rfl ?_
      refine s_aload_n (tb_ok aX7_tell_0 20 rfl) rfl ?_
      refine s_iload_n (tb_ok aX7_tell_0 21 rfl) rfl ?_
      refine s_aload_n (tb_ok aX7_tell_0 22 rfl) rfl ?_
      refine s_getR (r := 5) (tb_ok aX7_tell_0 23 rfl) f_RX7_19 rfl rfl rfl ?_
      refine s_getI (tb_ok aX7_tell_1 0 rfl) f_RX7_127 rfl rfl rfl ?_
      refine s_cV (as := [.ref (5 + 2 + j), .int (nI g), _]) (tb_ok aX7_tell_1 1 rfl) v_RX7_203 (E_hear hm hm10 hri hq hs hob _ _) (by decide) rfl rfl rfl rfl rfl (Nat.le_of_ble_eq_true rfl) (by decide) (fun r1 S1 I1 L1 R1 q1 => ?_)
      obtain ⟨rfl, rfl, hA, rfl, rfl⟩ := q1
      have hT := hA.atO ((w5 j hj5).1)
      refine s_aload_n (tb_ok aX7_tell_1 2 rfl) rfl ?_
      refine s_iload_n (tb_ok aX7_tell_1 3 rfl) rfl ?_
      refine s_cVp (as := [.int (nI g)]) (tb_ok aX7_tell_1 4 rfl) v_RX7_200 (E_isKnown hob _) (by decide) hob rfl rfl rfl rfl (Nat.le_of_ble_eq_true rfl) (by decide) ?_
      refine s_topi (show _ = knI (heaP sem (I 2) (I 3) m (I (5 + 2 + j)) (nI g) (I 5 2)) (nI g) by rw [hT]; rfl) ?_
      refine s_if_eq (tgt := 62) (tb_ok aX7_tell_1 5 rfl) (by decide) (fun c55 => ?_) (fun c55 => ?_)
      · refine s_iconst (v := 0) (tb_ok aX7_tell_1 8 rfl) (by decide) ?_
        refine s_iret (tb_ok aX7_tell_1 9 rfl) rfl ?_
        have h01 : knI (heaP sem (I 2) (I 3) m (I (5 + 2 + j)) (nI g) (I 5 2)) (nI g) = 0 ∨ knI (heaP sem (I 2) (I 3) m (I (5 + 2 + j)) (nI g) (I 5 2)) (nI g) = 1 := bI_01 _
        exact ⟨by rw [c55], rfl, hA.l, rfl, rfl⟩
      · refine s_iconst (v := 1) (tb_ok aX7_tell_1 6 rfl) (by decide) ?_
        refine s_goto (tgt := 63) (tb_ok aX7_tell_1 7 rfl) (by decide) ?_
        refine s_iret (tb_ok aX7_tell_1 9 rfl) rfl ?_
        have h01 : knI (heaP sem (I 2) (I 3) m (I (5 + 2 + j)) (nI g) (I 5 2)) (nI g) = 0 ∨ knI (heaP sem (I 2) (I 3) m (I (5 + 2 + j)) (nI g) (I 5 2)) (nI g) = 1 := bI_01 _
        exact ⟨by rw [h01.resolve_left c55], rfl, hA.l, rfl, rfl⟩
    · exact absurd c28 (by decide)
  · exact absurd c17 (by decide)

set_option maxRecDepth 100000 in
set_option maxHeartbeats 1000000 in
theorem C_tellK {X : En} {I : FI} {L : FL} {q : Nat × Nat} {m M ri : Nat} {sem : Nat → Sem} (h : CSt I q m M ri sem) {j : Nat} (hj : j < M) {g : Nat} (hg : g < 12) (hk : ¬ knI (I (5 + 2 + j)) (nI g) = 0) : Ev X 9 mX7_tell (0, 0) [.ref 0, .int (nI j), .int (nI g)] S0 I L (R0 q) (AgLR (some (.int (-3))) (I) L q) := by
  obtain ⟨hm, hm10, hM, hM5, hri, hq, hs⟩ := id h
  have hj5 : j < 5 := by omega
  have hob : S0[5 + 2 + j]? = some (5, 5) := ((orch5 q).2.2.2.1 j hj5).2
  have h27 : 5 + 2 + j ≠ 27 := (wT j hj5).2
  refine ev_of (by decide +kernel) rfl ?_
  show SW X _ _ _ 0 [some (.ref 0), some (.int (nI j)), some (.int (nI g)), none] [] S0 I L (R0 q) _
  refine s_aload_n (tb_ok aX7_tell_0 0 rfl) rfl ?_
  refine s_getR (r := 5) (tb_ok aX7_tell_0 1 rfl) f_RX7_19 rfl rfl rfl ?_
  refine s_iload_n (tb_ok aX7_tell_0 2 rfl) rfl ?_
  refine s_cVp (as := [.int (nI j)]) (tb_ok aX7_tell_0 3 rfl) v_RX7_115 (E_at (orch5 q) hM hM5 hj) (by decide) rfl rfl rfl rfl rfl (Nat.le_of_ble_eq_true rfl) (by decide) ?_
  refine s_astore_n (ls' := [some (.ref 0), some (.int (nI j)), some (.int (nI g)), some (.ref (5 + 2 + j))]) (tb_ok aX7_tell_0 4 rfl) rfl rfl ?_
  refine s_aload_n (tb_ok aX7_tell_0 5 rfl) rfl ?_
  refine s_ifnull (tb_ok aX7_tell_0 6 rfl) ?_
  refine s_iload_n (tb_ok aX7_tell_0 7 rfl) rfl ?_
  refine s_cSp (as := [.int (nI g)]) (tb_ok aX7_tell_0 8 rfl) v_RX7_108 (E_isFact _) (by decide) rfl rfl (Nat.le_of_ble_eq_true rfl) ?_
  refine s_topi (bI_t ⟨nI_pos (by omega), by rw [show (12 : Int32) = nI 12 from rfl]; simp (disch := omega) only [nI_ltI]; omega⟩) ?_
  refine s_if_ne (tgt := 23) (tb_ok aX7_tell_0 9 rfl) (by decide) (fun c17 => ?_) (fun c17 => ?_)
  · refine s_aload_n (tb_ok aX7_tell_0 12 rfl) rfl ?_
    refine s_iload_n (tb_ok aX7_tell_0 13 rfl) rfl ?_
    refine s_cVp (as := [.int (nI g)]) (tb_ok aX7_tell_0 14 rfl) v_RX7_200 (E_isKnown hob _) (by decide) hob rfl rfl rfl rfl (Nat.le_of_ble_eq_true rfl) (by decide) ?_
    refine s_if_eq (tgt := 34) (tb_ok aX7_tell_0 15 rfl) (by decide) (fun c28 => ?_) (fun c28 => ?_)
    · exact absurd c28 hk
    · refine s_bipush (v := -3) (tb_ok aX7_tell_0 16 rfl) (by decide) ?_
      refine s_iret (tb_ok aX7_tell_0 17 rfl) rfl ?_
      exact ⟨rfl, rfl, AgL.rf, rfl, rfl⟩
  · exact absurd c17 (by decide)

set_option maxRecDepth 100000 in
set_option maxHeartbeats 1000000 in
theorem C_tellN {X : En} {I : FI} {L : FL} {q : Nat × Nat} {m M ri : Nat} {sem : Nat → Sem} (h : CSt I q m M ri sem) {x : Int32} (hx : x < 0 ∨ nI M ≤ x) {w : Int32} : Ev X 9 mX7_tell (0, 0) [.ref 0, .int x, .int w] S0 I L (R0 q) (AgLR (some (.int (-2))) (I) L q) := by
  obtain ⟨hm, hm10, hM, hM5, hri, hq, hs⟩ := id h
  refine ev_of (by decide +kernel) rfl ?_
  show SW X _ _ _ 0 [some (.ref 0), some (.int x), some (.int w), none] [] S0 I L (R0 q) _
  refine s_aload_n (tb_ok aX7_tell_0 0 rfl) rfl ?_
  refine s_getR (r := 5) (tb_ok aX7_tell_0 1 rfl) f_RX7_19 rfl rfl rfl ?_
  refine s_iload_n (tb_ok aX7_tell_0 2 rfl) rfl ?_
  refine s_cVp (as := [.int x]) (tb_ok aX7_tell_0 3 rfl) v_RX7_115 (E_atN (orch5 q) hM hM5 hx) (by decide) rfl rfl rfl rfl rfl (Nat.le_of_ble_eq_true rfl) (by decide) ?_
  refine s_astoreN_n (ls' := [some (.ref 0), some (.int x), some (.int w), some (.null)]) (tb_ok aX7_tell_0 4 rfl) rfl rfl ?_
  refine s_aloadq_n (r := none) (tb_ok aX7_tell_0 5 rfl) rfl ?_
  refine s_ifnullN (tgt := 20) (tb_ok aX7_tell_0 6 rfl) (by decide) ?_
  refine s_bipush (v := -2) (tb_ok aX7_tell_0 10 rfl) (by decide) ?_
  refine s_iret (tb_ok aX7_tell_0 11 rfl) rfl ?_
  exact ⟨rfl, rfl, AgL.rf, rfl, rfl⟩

set_option maxRecDepth 100000 in
set_option maxHeartbeats 1000000 in
theorem C_tellF {X : En} {I : FI} {L : FL} {q : Nat × Nat} {m M ri : Nat} {sem : Nat → Sem} (h : CSt I q m M ri sem) {j : Nat} (hj : j < M) {w : Int32} (hv : ¬ (¬ w < 0 ∧ w < 12)) : Ev X 9 mX7_tell (0, 0) [.ref 0, .int (nI j), .int w] S0 I L (R0 q) (AgLR (some (.int (-2))) (I) L q) := by
  obtain ⟨hm, hm10, hM, hM5, hri, hq, hs⟩ := id h
  have hj5 : j < 5 := by omega
  have hob : S0[5 + 2 + j]? = some (5, 5) := ((orch5 q).2.2.2.1 j hj5).2
  have h27 : 5 + 2 + j ≠ 27 := (wT j hj5).2
  refine ev_of (by decide +kernel) rfl ?_
  show SW X _ _ _ 0 [some (.ref 0), some (.int (nI j)), some (.int w), none] [] S0 I L (R0 q) _
  refine s_aload_n (tb_ok aX7_tell_0 0 rfl) rfl ?_
  refine s_getR (r := 5) (tb_ok aX7_tell_0 1 rfl) f_RX7_19 rfl rfl rfl ?_
  refine s_iload_n (tb_ok aX7_tell_0 2 rfl) rfl ?_
  refine s_cVp (as := [.int (nI j)]) (tb_ok aX7_tell_0 3 rfl) v_RX7_115 (E_at (orch5 q) hM hM5 hj) (by decide) rfl rfl rfl rfl rfl (Nat.le_of_ble_eq_true rfl) (by decide) ?_
  refine s_astore_n (ls' := [some (.ref 0), some (.int (nI j)), some (.int w), some (.ref (5 + 2 + j))]) (tb_ok aX7_tell_0 4 rfl) rfl rfl ?_
  refine s_aload_n (tb_ok aX7_tell_0 5 rfl) rfl ?_
  refine s_ifnull (tb_ok aX7_tell_0 6 rfl) ?_
  refine s_iload_n (tb_ok aX7_tell_0 7 rfl) rfl ?_
  refine s_cSp (as := [.int w]) (tb_ok aX7_tell_0 8 rfl) v_RX7_108 (E_isFact _) (by decide) rfl rfl (Nat.le_of_ble_eq_true rfl) ?_
  refine s_if_ne (tgt := 23) (tb_ok aX7_tell_0 9 rfl) (by decide) (fun c17 => ?_) (fun c17 => ?_)
  · exact absurd (bI_n c17) hv
  · refine s_bipush (v := -2) (tb_ok aX7_tell_0 10 rfl) (by decide) ?_
    refine s_iret (tb_ok aX7_tell_0 11 rfl) rfl ?_
    exact ⟨rfl, rfl, AgL.rf, rfl, rfl⟩

set_option maxRecDepth 100000 in
set_option maxHeartbeats 1000000 in
theorem C_day {X : En} {I : FI} {L : FL} {q : Nat × Nat} {m M ri : Nat} {sem : Nat → Sem} (h : CSt I q m M ri sem) (hd : I 5 2 < 999) : Ev X 9 mX7_day (0, 0) [.ref 0] S0 I L (R0 q) (AgLR (some (.int (apS (fun j => I (5 + 2 + j)) M 5 - apS (fun j => pasP sem (I 2) (I 3) m (I (5 + 2 + j)) (I 5 2)) M 5))) (up2 (stT I 5 M (fun j => pasP sem (I 2) (I 3) m (I (5 + 2 + j)) (I 5 2))) 5 2 (I 5 2 + 1)) L q) := by
  obtain ⟨hm, hm10, hM, hM5, hri, hq, hs⟩ := id h
  refine ev_of (by decide +kernel) rfl ?_
  show SW X _ _ _ 0 [some (.ref 0), none] [] S0 I L (R0 q) _
  refine s_aload_n (tb_ok aX7_day_0 0 rfl) rfl ?_
  refine s_getR (r := 5) (tb_ok aX7_day_0 1 rfl) f_RX7_19 rfl rfl rfl ?_
  refine s_getI (tb_ok aX7_day_0 2 rfl) f_RX7_127 rfl rfl rfl ?_
  refine s_sipush (v := 999) (tb_ok aX7_day_0 3 rfl) (by decide) ?_
  refine s_icmp_lt (tgt := 16) (tb_ok aX7_day_0 4 rfl) (by decide) (fun c10 => ?_) (fun c10 => ?_)
  · refine s_aload_n (tb_ok aX7_day_0 7 rfl) rfl ?_
    refine s_getR (r := 5) (tb_ok aX7_day_0 8 rfl) f_RX7_19 rfl rfl rfl ?_
    refine s_cVp (as := []) (tb_ok aX7_day_0 9 rfl) v_RX7_206 (E_Oapples (orch5 q) hM hM5) (by decide) rfl rfl rfl rfl rfl (Nat.le_of_ble_eq_true rfl) (by decide) ?_
    refine s_name (fun x1 ex1 => ?_)
    refine s_istore_n (ls' := [some (.ref 0), some (.int x1)]) (tb_ok aX7_day_0 10 rfl) rfl rfl ?_
    refine s_aload_n (tb_ok aX7_day_0 11 rfl) rfl ?_
    refine s_getR (r := 5) (tb_ok aX7_day_0 12 rfl) f_RX7_19 rfl rfl rfl ?_
    refine s_aload_n (tb_ok aX7_day_0 13 rfl) rfl ?_
    refine s_getR (r := 64) (tb_ok aX7_day_0 14 rfl) f_RX7_101 rfl rfl rfl ?_
    refine s_cV (as := [.ref 64]) (tb_ok aX7_day_0 15 rfl) v_RX7_209 (E_Opass (orch5 q) hM hM5 (by decide) hm hm10 hri hq hs) (by decide) rfl rfl rfl rfl rfl (Nat.le_of_ble_eq_true rfl) (by decide) (fun r1 S1 I1 L1 R1 q1 => ?_)
    obtain ⟨rfl, rfl, hA, rfl, rfl⟩ := q1
    have hM2 : I1 5 1 = nI M := by rw [hA 5 (by decide), up2_nn _ _ (by omega), stT_out (by omega)]; exact hM
    have hT2 : ∀ j, j < M → I1 (5 + 2 + j) = pasP sem (I 2) (I 3) m (I (5 + 2 + j)) (I 5 2) := fun j hj => by rw [hA _ (w5 j (by omega)).1, up2_n _ _ (by omega), stT_at hj]
    refine s_iload_n (tb_ok aX7_day_0 16 rfl) rfl ?_
    refine s_aload_n (tb_ok aX7_day_0 17 rfl) rfl ?_
    refine s_getR (r := 5) (tb_ok aX7_day_0 18 rfl) f_RX7_19 rfl rfl rfl ?_
    refine s_cVp (as := []) (tb_ok aX7_day_0 19 rfl) v_RX7_206 (E_Oapples (orch5 q) hM2 hM5) (by decide) rfl rfl rfl rfl rfl (Nat.le_of_ble_eq_true rfl) (by decide) ?_
    rw [apS_congr (T' := fun j => pasP sem (I 2) (I 3) m (I (5 + 2 + j)) (I 5 2)) (fun j hj => congrFun (hT2 j hj) 3) 5]
    refine s_isub (tb_ok aX7_day_0 20 rfl) ?_
    refine s_iret (tb_ok aX7_day_0 21 rfl) rfl ?_
    exact ⟨by rw [ex1], rfl, hA.l, rfl, rfl⟩
  · exact absurd hd c10

set_option maxRecDepth 100000 in
set_option maxHeartbeats 1000000 in
theorem C_dayE {X : En} {I : FI} {L : FL} {q : Nat × Nat} (hd : ¬ I 5 2 < 999) : Ev X 9 mX7_day (0, 0) [.ref 0] S0 I L (R0 q) (AgLR (some (.int (-3))) (I) L q) := by
  refine ev_of (by decide +kernel) rfl ?_
  show SW X _ _ _ 0 [some (.ref 0), none] [] S0 I L (R0 q) _
  refine s_aload_n (tb_ok aX7_day_0 0 rfl) rfl ?_
  refine s_getR (r := 5) (tb_ok aX7_day_0 1 rfl) f_RX7_19 rfl rfl rfl ?_
  refine s_getI (tb_ok aX7_day_0 2 rfl) f_RX7_127 rfl rfl rfl ?_
  refine s_sipush (v := 999) (tb_ok aX7_day_0 3 rfl) (by decide) ?_
  refine s_icmp_lt (tgt := 16) (tb_ok aX7_day_0 4 rfl) (by decide) (fun c10 => ?_) (fun c10 => ?_)
  · exact absurd c10 hd
  · refine s_bipush (v := -3) (tb_ok aX7_day_0 5 rfl) (by decide) ?_
    refine s_iret (tb_ok aX7_day_0 6 rfl) rfl ?_
    exact ⟨rfl, rfl, AgL.rf, rfl, rfl⟩

def imgC (I : FI) (M : Nat) : FI := (fun J : FI => up2 (stT (setO J 12 (upd (upd (upd (J 12) 1 (nI M)) 2 (J 5 2)) 3 (J 5 3))) 12 M (fun k => cp5 (J (5 + 2 + k)) (J (12 + 2 + k)))) 0 12 1) (up2 I 0 11 (I 1 3))
theorem pureE2 {r r2 : Option Value} {S : Sh} {I J : FI} {L : FL} {R : FR} (h : r2 = r) (h2 : J = I) : PureR r S I L R r2 S J L R := ⟨h, rfl, h2, rfl, rfl⟩
set_option maxRecDepth 100000 in
set_option maxHeartbeats 1000000 in
theorem C_image {X : En} {I : FI} {L : FL} {q : Nat × Nat} {m M ri : Nat} {sem : Nat → Sem} (h : CSt I q m M ri sem) : Ev X 9 mX7_image (0, 0) [.ref 0] S0 I L (R0 q) (PureR (some (.int (nI M))) S0 (imgC I M) L (R0 q)) := by
  obtain ⟨hm, hm10, hM, hM5, hri, hq, hs⟩ := id h
  refine ev_of (by decide +kernel) rfl ?_
  show SW X _ _ _ 0 [some (.ref 0)] [] S0 I L (R0 q) _
  refine s_aload_n (tb_ok aX7_image_0 0 rfl) rfl ?_
  refine s_aload_n (tb_ok aX7_image_0 1 rfl) rfl ?_
  refine s_getR (r := 1) (tb_ok aX7_image_0 2 rfl) f_RX7_10 rfl rfl rfl ?_
  refine s_getI (tb_ok aX7_image_0 3 rfl) f_RX7_299 rfl rfl rfl ?_
  refine s_putI (tb_ok aX7_image_0 4 rfl) f_RX7_55 rfl rfl ?_
  refine s_aload_n (tb_ok aX7_image_0 5 rfl) rfl ?_
  refine s_getR (r := 12) (tb_ok aX7_image_0 6 rfl) f_RX7_23 rfl rfl rfl ?_
  refine s_aload_n (tb_ok aX7_image_0 7 rfl) rfl ?_
  refine s_getR (r := 5) (tb_ok aX7_image_0 8 rfl) f_RX7_19 rfl rfl rfl ?_
  refine s_cV (as := [.ref 5]) (tb_ok aX7_image_0 9 rfl) v_RX7_302 (E_Obecome (orch12 q) (orch5 q) (by decide) (M := M) hM hM5) (by decide) rfl rfl rfl rfl rfl (Nat.le_of_ble_eq_true rfl) (by decide) (fun r1 S1 I1 L1 R1 q1 => ?_)
  obtain ⟨rfl, rfl, rfl, rfl, rfl⟩ := q1
  refine s_aload_n (tb_ok aX7_image_0 10 rfl) rfl ?_
  refine s_iconst (v := 1) (tb_ok aX7_image_0 11 rfl) (by decide) ?_
  refine s_putZ (tb_ok aX7_image_0 12 rfl) f_RX7_58 rfl rfl (Or.inr rfl) ?_
  refine s_aload_n (tb_ok aX7_image_0 13 rfl) rfl ?_
  refine s_getR (r := 12) (tb_ok aX7_image_0 14 rfl) f_RX7_23 rfl rfl rfl ?_
  refine s_getI (tb_ok aX7_image_0 15 rfl) f_RX7_305 rfl rfl rfl ?_
  refine s_iret (tb_ok aX7_image_0 16 rfl) rfl ?_
  refine pureE2 ?_ ?_
  · exact congrArg (fun z => some (Value.int z)) (by rw [up2_nn _ _ (by omega), stT_out (by omega), setO_o]; rfl)
  · rfl

def bckC (I : FI) (M : Nat) : FI := (fun J : FI => stT (setO J 5 (upd (upd (upd (J 5) 1 (nI M)) 2 (J 12 2)) 3 (J 12 3))) 5 M (fun k => cp5 (J (12 + 2 + k)) (J (5 + 2 + k)))) (up2 I 1 3 (I 0 11))
set_option maxRecDepth 100000 in
set_option maxHeartbeats 1000000 in
theorem C_back {X : En} {I : FI} {L : FL} {q : Nat × Nat} (hi1 : I 0 12 = 1) {Mk rk : Nat} (hMk : I 12 1 = nI Mk) (hMk5 : Mk ≤ 5) (hrk : I 12 3 = nI rk) (hrk6 : rk < 6) : Ev X 9 mX7_back (0, 0) [.ref 0] S0 I L (R0 q) (PureR (some (.int (nI Mk))) S0 (bckC I Mk) L (R0 (ruleN rk, q.2))) := by
  refine ev_of (by decide +kernel) rfl ?_
  show SW X _ _ _ 0 [some (.ref 0), none] [] S0 I L (R0 q) _
  refine s_aload_n (tb_ok aX7_back_0 0 rfl) rfl ?_
  refine s_getI (x := (1)) (tb_ok aX7_back_0 1 rfl) f_RX7_58 rfl rfl hi1 ?_
  refine s_if_ne (tgt := 10) (tb_ok aX7_back_0 2 rfl) (by decide) (fun c4 => ?_) (fun c4 => ?_)
  · refine s_aload_n (tb_ok aX7_back_0 5 rfl) rfl ?_
    refine s_getR (r := 1) (tb_ok aX7_back_0 6 rfl) f_RX7_10 rfl rfl rfl ?_
    refine s_aload_n (tb_ok aX7_back_0 7 rfl) rfl ?_
    refine s_getI (tb_ok aX7_back_0 8 rfl) f_RX7_55 rfl rfl rfl ?_
    refine s_cV (as := [_]) (tb_ok aX7_back_0 9 rfl) v_RX7_306 (E_leave (m := 0) (lore0 q) _) (by decide) rfl rfl rfl rfl rfl (Nat.le_of_ble_eq_true rfl) (by decide) (fun r1 S1 I1 L1 R1 q1 => ?_)
    obtain ⟨rfl, rfl, rfl, rfl, rfl⟩ := q1
    refine s_aload_n (tb_ok aX7_back_0 10 rfl) rfl ?_
    refine s_getR (r := 5) (tb_ok aX7_back_0 11 rfl) f_RX7_19 rfl rfl rfl ?_
    refine s_aload_n (tb_ok aX7_back_0 12 rfl) rfl ?_
    refine s_getR (r := 12) (tb_ok aX7_back_0 13 rfl) f_RX7_23 rfl rfl rfl ?_
    refine s_cV (as := [.ref 12]) (tb_ok aX7_back_0 14 rfl) v_RX7_302 (E_Obecome (orch5 q) (orch12 q) (by decide) (M := Mk) hMk hMk5) (by decide) rfl rfl rfl rfl rfl (Nat.le_of_ble_eq_true rfl) (by decide) (fun r2 S2 I2 L2 R2 q2 => ?_)
    obtain ⟨rfl, rfl, rfl, rfl, rfl⟩ := q2
    refine s_aload_n (tb_ok aX7_back_0 15 rfl) rfl ?_
    refine s_aload_n (tb_ok aX7_back_0 16 rfl) rfl ?_
    refine s_getR (r := 5) (tb_ok aX7_back_0 17 rfl) f_RX7_19 rfl rfl rfl ?_
    refine s_getI (x := (nI rk)) (tb_ok aX7_back_0 18 rfl) f_RX7_172 rfl rfl (show bckC I Mk 5 3 = _ by unfold bckC; simp only []; rw [stT_out (by omega), setO_o]; exact hrk) ?_
    refine s_cVp (as := [.int (nI rk)]) (tb_ok aX7_back_0 19 rfl) v_RX7_168 (E_ruleAt hrk6) (by decide) rfl rfl rfl rfl rfl (Nat.le_of_ble_eq_true rfl) (by decide) ?_
    refine s_astore_n (ls' := [some (.ref 0), some (.ref (ruleN rk))]) (tb_ok aX7_back_0 20 rfl) rfl rfl ?_
    refine s_aload_n (tb_ok aX7_back_0 21 rfl) rfl ?_
    refine s_ifnull (tb_ok aX7_back_0 22 rfl) ?_
    refine s_aload_n (tb_ok aX7_back_0 23 rfl) rfl ?_
    refine s_getR (r := 64) (tb_ok aX7_back_1 0 rfl) f_RX7_101 rfl rfl rfl ?_
    refine s_aload_n (tb_ok aX7_back_1 1 rfl) rfl ?_
    refine s_putR (tb_ok aX7_back_1 2 rfl) f_RX7_175 rfl rfl ?_
    rw [R0_wy]
    refine s_aload_n (tb_ok aX7_back_1 3 rfl) rfl ?_
    refine s_getR (r := 5) (tb_ok aX7_back_1 4 rfl) f_RX7_19 rfl rfl rfl ?_
    refine s_getI (x := (nI Mk)) (tb_ok aX7_back_1 5 rfl) f_RX7_305 rfl rfl (show bckC I Mk 5 1 = _ by unfold bckC; simp only []; rw [stT_out (by omega), setO_o]; rfl) ?_
    refine s_iret (tb_ok aX7_back_1 6 rfl) rfl ?_
    exact pureE2 rfl rfl
  · exact absurd c4 (by decide)

set_option maxRecDepth 100000 in
set_option maxHeartbeats 1000000 in
theorem C_backN {X : En} {I : FI} {L : FL} {q : Nat × Nat} (hi0 : I 0 12 = 0) : Ev X 9 mX7_back (0, 0) [.ref 0] S0 I L (R0 q) (AgLR (some (.int (-3))) (I) L q) := by
  refine ev_of (by decide +kernel) rfl ?_
  show SW X _ _ _ 0 [some (.ref 0), none] [] S0 I L (R0 q) _
  refine s_aload_n (tb_ok aX7_back_0 0 rfl) rfl ?_
  refine s_getI (x := (0)) (tb_ok aX7_back_0 1 rfl) f_RX7_58 rfl rfl hi0 ?_
  refine s_if_ne (tgt := 10) (tb_ok aX7_back_0 2 rfl) (by decide) (fun c4 => ?_) (fun c4 => ?_)
  · exact absurd c4 (by decide)
  · refine s_bipush (v := -3) (tb_ok aX7_back_0 3 rfl) (by decide) ?_
    refine s_iret (tb_ok aX7_back_0 4 rfl) rfl ?_
    exact ⟨rfl, rfl, AgL.rf, rfl, rfl⟩

set_option maxRecDepth 100000 in
set_option maxHeartbeats 1000000 in
theorem C_sheetM {X : En} {I : FI} {L : FL} {q : Nat × Nat} {s : Nat} (hrs : s < 4) {n : Int32} : Ev X 9 mX7_sheet (0, 0) [.ref 0, .int (nI s), .int (-1), .int n] S0 I L (R0 q) (PureR (some (.int 1)) S0 (setO (setO I (rowN s) (upd (upd (I (rowN s)) 1 (-1)) 2 0)) (rowN s + 1) (zr40 (I (rowN s + 1)) 40)) L (R0 q)) := by
  refine ev_of (by decide +kernel) rfl ?_
  show SW X _ _ _ 0 [some (.ref 0), some (.int (nI s)), some (.int (-1)), some (.int n), none] [] S0 I L (R0 q) _
  refine s_aload_n (tb_ok aX7_sheet_0 0 rfl) rfl ?_
  refine s_iload_n (tb_ok aX7_sheet_0 1 rfl) rfl ?_
  refine s_cVp (as := [.int (nI s)]) (tb_ok aX7_sheet_0 2 rfl) v_RX7_248 (E_rowAt hrs) (by decide) rfl rfl rfl rfl rfl (Nat.le_of_ble_eq_true rfl) (by decide) ?_
  refine s_astore (ls' := [some (.ref 0), some (.int (nI s)), some (.int (-1)), some (.int n), some (.ref (rowN s))]) (tb_ok aX7_sheet_0 3 rfl) rfl rfl ?_
  refine s_aload (tb_ok aX7_sheet_0 4 rfl) rfl ?_
  refine s_ifnull (tb_ok aX7_sheet_0 5 rfl) ?_
  refine s_iload_n (tb_ok aX7_sheet_0 6 rfl) rfl ?_
  refine s_iconst (v := -1) (tb_ok aX7_sheet_0 7 rfl) (by decide) ?_
  refine s_icmp_eq (tgt := 27) (tb_ok aX7_sheet_0 8 rfl) (by decide) (fun c14 => ?_) (fun c14 => ?_)
  · refine s_iload_n (tb_ok aX7_sheet_0 14 rfl) rfl ?_
    refine s_iconst (v := -1) (tb_ok aX7_sheet_0 15 rfl) (by decide) ?_
    refine s_icmp_ne (tgt := 41) (tb_ok aX7_sheet_0 16 rfl) (by decide) (fun c29 => ?_) (fun c29 => ?_)
    · exact absurd c29 (by decide)
    · refine s_aload (tb_ok aX7_sheet_0 17 rfl) rfl ?_
      refine s_iconst (v := -1) (tb_ok aX7_sheet_0 18 rfl) (by decide) ?_
      refine s_iconst (v := 0) (tb_ok aX7_sheet_0 19 rfl) (by decide) ?_
      refine s_cV (as := [.int (-1), .int (0)]) (tb_ok aX7_sheet_0 20 rfl) v_RX7_278 (E_Rbegin (row0 q hrs) _ _) (by decide) (row0 q hrs).1 rfl rfl rfl rfl (Nat.le_of_ble_eq_true rfl) (by decide) (fun r1 S1 I1 L1 R1 q1 => ?_)
      obtain ⟨rfl, rfl, rfl, rfl, rfl⟩ := q1
      refine s_iconst (v := 1) (tb_ok aX7_sheet_0 21 rfl) (by decide) ?_
      refine s_iret (tb_ok aX7_sheet_0 22 rfl) rfl ?_
      exact pureR
  · exact absurd c14 (by decide)

set_option maxRecDepth 100000 in
set_option maxHeartbeats 1000000 in
theorem C_sheet0 {X : En} {I : FI} {L : FL} {q : Nat × Nat} {s : Nat} (hrs : s < 4) {n : Int32} (hn : ¬ n < 0 ∧ n ≤ 40) : Ev X 9 mX7_sheet (0, 0) [.ref 0, .int (nI s), .int (0), .int n] S0 I L (R0 q) (PureR (some (.int 1)) S0 (setO (setO I (rowN s) (upd (upd (I (rowN s)) 1 0) 2 n)) (rowN s + 1) (zr40 (I (rowN s + 1)) 40)) L (R0 q)) := by
  refine ev_of (by decide +kernel) rfl ?_
  show SW X _ _ _ 0 [some (.ref 0), some (.int (nI s)), some (.int (0)), some (.int n), none] [] S0 I L (R0 q) _
  refine s_aload_n (tb_ok aX7_sheet_0 0 rfl) rfl ?_
  refine s_iload_n (tb_ok aX7_sheet_0 1 rfl) rfl ?_
  refine s_cVp (as := [.int (nI s)]) (tb_ok aX7_sheet_0 2 rfl) v_RX7_248 (E_rowAt hrs) (by decide) rfl rfl rfl rfl rfl (Nat.le_of_ble_eq_true rfl) (by decide) ?_
  refine s_astore (ls' := [some (.ref 0), some (.int (nI s)), some (.int (0)), some (.int n), some (.ref (rowN s))]) (tb_ok aX7_sheet_0 3 rfl) rfl rfl ?_
  refine s_aload (tb_ok aX7_sheet_0 4 rfl) rfl ?_
  refine s_ifnull (tb_ok aX7_sheet_0 5 rfl) ?_
  refine s_iload_n (tb_ok aX7_sheet_0 6 rfl) rfl ?_
  refine s_iconst (v := -1) (tb_ok aX7_sheet_0 7 rfl) (by decide) ?_
  refine s_icmp_eq (tgt := 27) (tb_ok aX7_sheet_0 8 rfl) (by decide) (fun c14 => ?_) (fun c14 => ?_)
  · exact absurd c14 (by decide)
  · refine s_iload_n (tb_ok aX7_sheet_0 9 rfl) rfl ?_
    refine s_cSp (as := [.int (0)]) (tb_ok aX7_sheet_0 10 rfl) v_RX7_310 (E_isSort _) (by decide) rfl rfl (Nat.le_of_ble_eq_true rfl) ?_
    refine s_topi (bI_t (by decide)) ?_
    refine s_if_ne (tgt := 27) (tb_ok aX7_sheet_0 11 rfl) (by decide) (fun c21 => ?_) (fun c21 => ?_)
    · refine s_iload_n (tb_ok aX7_sheet_0 14 rfl) rfl ?_
      refine s_iconst (v := -1) (tb_ok aX7_sheet_0 15 rfl) (by decide) ?_
      refine s_icmp_ne (tgt := 41) (tb_ok aX7_sheet_0 16 rfl) (by decide) (fun c29 => ?_) (fun c29 => ?_)
      · refine s_iload_n (tb_ok aX7_sheet_0 23 rfl) rfl ?_
        refine s_bipush (v := 40) (tb_ok aX7_sheet_1 0 rfl) (by decide) ?_
        refine s_icmp_le (tgt := 50) (tb_ok aX7_sheet_1 1 rfl) (by decide) (fun c44 => ?_) (fun c44 => ?_)
        · refine s_iload_n (tb_ok aX7_sheet_1 4 rfl) rfl ?_
          refine s_if_ge (tgt := 57) (tb_ok aX7_sheet_1 5 rfl) (by decide) (fun c51 => ?_) (fun c51 => ?_)
          · refine s_aload (tb_ok aX7_sheet_1 8 rfl) rfl ?_
            refine s_iload_n (tb_ok aX7_sheet_1 9 rfl) rfl ?_
            refine s_iload_n (tb_ok aX7_sheet_1 10 rfl) rfl ?_
            refine s_cV (as := [.int (0), .int n]) (tb_ok aX7_sheet_1 11 rfl) v_RX7_278 (E_Rbegin (row0 q hrs) _ _) (by decide) (row0 q hrs).1 rfl rfl rfl rfl (Nat.le_of_ble_eq_true rfl) (by decide) (fun r1 S1 I1 L1 R1 q1 => ?_)
            obtain ⟨rfl, rfl, rfl, rfl, rfl⟩ := q1
            refine s_iconst (v := 1) (tb_ok aX7_sheet_1 12 rfl) (by decide) ?_
            refine s_iret (tb_ok aX7_sheet_1 13 rfl) rfl ?_
            exact pureR
          · exact absurd (Int32.not_lt.mp hn.1) c51
        · exact absurd hn.2 c44
      · exact absurd c29 (by decide)
    · exact absurd c21 (by decide)

set_option maxRecDepth 100000 in
set_option maxHeartbeats 1000000 in
theorem C_sheetH0 {X : En} {I : FI} {L : FL} {q : Nat × Nat} {s : Nat} (hrs : s < 4) {n : Int32} (hn : 40 < n) : Ev X 9 mX7_sheet (0, 0) [.ref 0, .int (nI s), .int (0), .int n] S0 I L (R0 q) (AgLR (some (.int (-2))) (I) L q) := by
  refine ev_of (by decide +kernel) rfl ?_
  show SW X _ _ _ 0 [some (.ref 0), some (.int (nI s)), some (.int (0)), some (.int n), none] [] S0 I L (R0 q) _
  refine s_aload_n (tb_ok aX7_sheet_0 0 rfl) rfl ?_
  refine s_iload_n (tb_ok aX7_sheet_0 1 rfl) rfl ?_
  refine s_cVp (as := [.int (nI s)]) (tb_ok aX7_sheet_0 2 rfl) v_RX7_248 (E_rowAt hrs) (by decide) rfl rfl rfl rfl rfl (Nat.le_of_ble_eq_true rfl) (by decide) ?_
  refine s_astore (ls' := [some (.ref 0), some (.int (nI s)), some (.int (0)), some (.int n), some (.ref (rowN s))]) (tb_ok aX7_sheet_0 3 rfl) rfl rfl ?_
  refine s_aload (tb_ok aX7_sheet_0 4 rfl) rfl ?_
  refine s_ifnull (tb_ok aX7_sheet_0 5 rfl) ?_
  refine s_iload_n (tb_ok aX7_sheet_0 6 rfl) rfl ?_
  refine s_iconst (v := -1) (tb_ok aX7_sheet_0 7 rfl) (by decide) ?_
  refine s_icmp_eq (tgt := 27) (tb_ok aX7_sheet_0 8 rfl) (by decide) (fun c14 => ?_) (fun c14 => ?_)
  · exact absurd c14 (by decide)
  · refine s_iload_n (tb_ok aX7_sheet_0 9 rfl) rfl ?_
    refine s_cSp (as := [.int (0)]) (tb_ok aX7_sheet_0 10 rfl) v_RX7_310 (E_isSort _) (by decide) rfl rfl (Nat.le_of_ble_eq_true rfl) ?_
    refine s_topi (bI_t (by decide)) ?_
    refine s_if_ne (tgt := 27) (tb_ok aX7_sheet_0 11 rfl) (by decide) (fun c21 => ?_) (fun c21 => ?_)
    · refine s_iload_n (tb_ok aX7_sheet_0 14 rfl) rfl ?_
      refine s_iconst (v := -1) (tb_ok aX7_sheet_0 15 rfl) (by decide) ?_
      refine s_icmp_ne (tgt := 41) (tb_ok aX7_sheet_0 16 rfl) (by decide) (fun c29 => ?_) (fun c29 => ?_)
      · refine s_iload_n (tb_ok aX7_sheet_0 23 rfl) rfl ?_
        refine s_bipush (v := 40) (tb_ok aX7_sheet_1 0 rfl) (by decide) ?_
        refine s_icmp_le (tgt := 50) (tb_ok aX7_sheet_1 1 rfl) (by decide) (fun c44 => ?_) (fun c44 => ?_)
        · exact absurd hn (Int32.not_lt.mpr c44)
        · refine s_bipush (v := -2) (tb_ok aX7_sheet_1 2 rfl) (by decide) ?_
          refine s_iret (tb_ok aX7_sheet_1 3 rfl) rfl ?_
          exact ⟨rfl, rfl, AgL.rf, rfl, rfl⟩
      · exact absurd c29 (by decide)
    · exact absurd c21 (by decide)

set_option maxRecDepth 100000 in
set_option maxHeartbeats 1000000 in
theorem C_sheetL0 {X : En} {I : FI} {L : FL} {q : Nat × Nat} {s : Nat} (hrs : s < 4) {n : Int32} (hn : n < 0) : Ev X 9 mX7_sheet (0, 0) [.ref 0, .int (nI s), .int (0), .int n] S0 I L (R0 q) (AgLR (some (.int (-14))) (I) L q) := by
  refine ev_of (by decide +kernel) rfl ?_
  show SW X _ _ _ 0 [some (.ref 0), some (.int (nI s)), some (.int (0)), some (.int n), none] [] S0 I L (R0 q) _
  refine s_aload_n (tb_ok aX7_sheet_0 0 rfl) rfl ?_
  refine s_iload_n (tb_ok aX7_sheet_0 1 rfl) rfl ?_
  refine s_cVp (as := [.int (nI s)]) (tb_ok aX7_sheet_0 2 rfl) v_RX7_248 (E_rowAt hrs) (by decide) rfl rfl rfl rfl rfl (Nat.le_of_ble_eq_true rfl) (by decide) ?_
  refine s_astore (ls' := [some (.ref 0), some (.int (nI s)), some (.int (0)), some (.int n), some (.ref (rowN s))]) (tb_ok aX7_sheet_0 3 rfl) rfl rfl ?_
  refine s_aload (tb_ok aX7_sheet_0 4 rfl) rfl ?_
  refine s_ifnull (tb_ok aX7_sheet_0 5 rfl) ?_
  refine s_iload_n (tb_ok aX7_sheet_0 6 rfl) rfl ?_
  refine s_iconst (v := -1) (tb_ok aX7_sheet_0 7 rfl) (by decide) ?_
  refine s_icmp_eq (tgt := 27) (tb_ok aX7_sheet_0 8 rfl) (by decide) (fun c14 => ?_) (fun c14 => ?_)
  · exact absurd c14 (by decide)
  · refine s_iload_n (tb_ok aX7_sheet_0 9 rfl) rfl ?_
    refine s_cSp (as := [.int (0)]) (tb_ok aX7_sheet_0 10 rfl) v_RX7_310 (E_isSort _) (by decide) rfl rfl (Nat.le_of_ble_eq_true rfl) ?_
    refine s_topi (bI_t (by decide)) ?_
    refine s_if_ne (tgt := 27) (tb_ok aX7_sheet_0 11 rfl) (by decide) (fun c21 => ?_) (fun c21 => ?_)
    · refine s_iload_n (tb_ok aX7_sheet_0 14 rfl) rfl ?_
      refine s_iconst (v := -1) (tb_ok aX7_sheet_0 15 rfl) (by decide) ?_
      refine s_icmp_ne (tgt := 41) (tb_ok aX7_sheet_0 16 rfl) (by decide) (fun c29 => ?_) (fun c29 => ?_)
      · refine s_iload_n (tb_ok aX7_sheet_0 23 rfl) rfl ?_
        refine s_bipush (v := 40) (tb_ok aX7_sheet_1 0 rfl) (by decide) ?_
        refine s_icmp_le (tgt := 50) (tb_ok aX7_sheet_1 1 rfl) (by decide) (fun c44 => ?_) (fun c44 => ?_)
        · refine s_iload_n (tb_ok aX7_sheet_1 4 rfl) rfl ?_
          refine s_if_ge (tgt := 57) (tb_ok aX7_sheet_1 5 rfl) (by decide) (fun c51 => ?_) (fun c51 => ?_)
          · exact absurd hn (Int32.not_lt.mpr c51)
          · refine s_bipush (v := -14) (tb_ok aX7_sheet_1 6 rfl) (by decide) ?_
            refine s_iret (tb_ok aX7_sheet_1 7 rfl) rfl ?_
            exact ⟨rfl, rfl, AgL.rf, rfl, rfl⟩
        · exact absurd (Int32.le_of_lt (Int32.lt_of_lt_of_le hn (by decide))) c44
      · exact absurd c29 (by decide)
    · exact absurd c21 (by decide)

set_option maxRecDepth 100000 in
set_option maxHeartbeats 1000000 in
theorem C_sheet1 {X : En} {I : FI} {L : FL} {q : Nat × Nat} {s : Nat} (hrs : s < 4) {n : Int32} (hn : ¬ n < 0 ∧ n ≤ 40) : Ev X 9 mX7_sheet (0, 0) [.ref 0, .int (nI s), .int (1), .int n] S0 I L (R0 q) (PureR (some (.int 1)) S0 (setO (setO I (rowN s) (upd (upd (I (rowN s)) 1 1) 2 n)) (rowN s + 1) (zr40 (I (rowN s + 1)) 40)) L (R0 q)) := by
  refine ev_of (by decide +kernel) rfl ?_
  show SW X _ _ _ 0 [some (.ref 0), some (.int (nI s)), some (.int (1)), some (.int n), none] [] S0 I L (R0 q) _
  refine s_aload_n (tb_ok aX7_sheet_0 0 rfl) rfl ?_
  refine s_iload_n (tb_ok aX7_sheet_0 1 rfl) rfl ?_
  refine s_cVp (as := [.int (nI s)]) (tb_ok aX7_sheet_0 2 rfl) v_RX7_248 (E_rowAt hrs) (by decide) rfl rfl rfl rfl rfl (Nat.le_of_ble_eq_true rfl) (by decide) ?_
  refine s_astore (ls' := [some (.ref 0), some (.int (nI s)), some (.int (1)), some (.int n), some (.ref (rowN s))]) (tb_ok aX7_sheet_0 3 rfl) rfl rfl ?_
  refine s_aload (tb_ok aX7_sheet_0 4 rfl) rfl ?_
  refine s_ifnull (tb_ok aX7_sheet_0 5 rfl) ?_
  refine s_iload_n (tb_ok aX7_sheet_0 6 rfl) rfl ?_
  refine s_iconst (v := -1) (tb_ok aX7_sheet_0 7 rfl) (by decide) ?_
  refine s_icmp_eq (tgt := 27) (tb_ok aX7_sheet_0 8 rfl) (by decide) (fun c14 => ?_) (fun c14 => ?_)
  · exact absurd c14 (by decide)
  · refine s_iload_n (tb_ok aX7_sheet_0 9 rfl) rfl ?_
    refine s_cSp (as := [.int (1)]) (tb_ok aX7_sheet_0 10 rfl) v_RX7_310 (E_isSort _) (by decide) rfl rfl (Nat.le_of_ble_eq_true rfl) ?_
    refine s_topi (bI_t (by decide)) ?_
    refine s_if_ne (tgt := 27) (tb_ok aX7_sheet_0 11 rfl) (by decide) (fun c21 => ?_) (fun c21 => ?_)
    · refine s_iload_n (tb_ok aX7_sheet_0 14 rfl) rfl ?_
      refine s_iconst (v := -1) (tb_ok aX7_sheet_0 15 rfl) (by decide) ?_
      refine s_icmp_ne (tgt := 41) (tb_ok aX7_sheet_0 16 rfl) (by decide) (fun c29 => ?_) (fun c29 => ?_)
      · refine s_iload_n (tb_ok aX7_sheet_0 23 rfl) rfl ?_
        refine s_bipush (v := 40) (tb_ok aX7_sheet_1 0 rfl) (by decide) ?_
        refine s_icmp_le (tgt := 50) (tb_ok aX7_sheet_1 1 rfl) (by decide) (fun c44 => ?_) (fun c44 => ?_)
        · refine s_iload_n (tb_ok aX7_sheet_1 4 rfl) rfl ?_
          refine s_if_ge (tgt := 57) (tb_ok aX7_sheet_1 5 rfl) (by decide) (fun c51 => ?_) (fun c51 => ?_)
          · refine s_aload (tb_ok aX7_sheet_1 8 rfl) rfl ?_
            refine s_iload_n (tb_ok aX7_sheet_1 9 rfl) rfl ?_
            refine s_iload_n (tb_ok aX7_sheet_1 10 rfl) rfl ?_
            refine s_cV (as := [.int (1), .int n]) (tb_ok aX7_sheet_1 11 rfl) v_RX7_278 (E_Rbegin (row0 q hrs) _ _) (by decide) (row0 q hrs).1 rfl rfl rfl rfl (Nat.le_of_ble_eq_true rfl) (by decide) (fun r1 S1 I1 L1 R1 q1 => ?_)
            obtain ⟨rfl, rfl, rfl, rfl, rfl⟩ := q1
            refine s_iconst (v := 1) (tb_ok aX7_sheet_1 12 rfl) (by decide) ?_
            refine s_iret (tb_ok aX7_sheet_1 13 rfl) rfl ?_
            exact pureR
          · exact absurd (Int32.not_lt.mp hn.1) c51
        · exact absurd hn.2 c44
      · exact absurd c29 (by decide)
    · exact absurd c21 (by decide)

set_option maxRecDepth 100000 in
set_option maxHeartbeats 1000000 in
theorem C_sheetH1 {X : En} {I : FI} {L : FL} {q : Nat × Nat} {s : Nat} (hrs : s < 4) {n : Int32} (hn : 40 < n) : Ev X 9 mX7_sheet (0, 0) [.ref 0, .int (nI s), .int (1), .int n] S0 I L (R0 q) (AgLR (some (.int (-2))) (I) L q) := by
  refine ev_of (by decide +kernel) rfl ?_
  show SW X _ _ _ 0 [some (.ref 0), some (.int (nI s)), some (.int (1)), some (.int n), none] [] S0 I L (R0 q) _
  refine s_aload_n (tb_ok aX7_sheet_0 0 rfl) rfl ?_
  refine s_iload_n (tb_ok aX7_sheet_0 1 rfl) rfl ?_
  refine s_cVp (as := [.int (nI s)]) (tb_ok aX7_sheet_0 2 rfl) v_RX7_248 (E_rowAt hrs) (by decide) rfl rfl rfl rfl rfl (Nat.le_of_ble_eq_true rfl) (by decide) ?_
  refine s_astore (ls' := [some (.ref 0), some (.int (nI s)), some (.int (1)), some (.int n), some (.ref (rowN s))]) (tb_ok aX7_sheet_0 3 rfl) rfl rfl ?_
  refine s_aload (tb_ok aX7_sheet_0 4 rfl) rfl ?_
  refine s_ifnull (tb_ok aX7_sheet_0 5 rfl) ?_
  refine s_iload_n (tb_ok aX7_sheet_0 6 rfl) rfl ?_
  refine s_iconst (v := -1) (tb_ok aX7_sheet_0 7 rfl) (by decide) ?_
  refine s_icmp_eq (tgt := 27) (tb_ok aX7_sheet_0 8 rfl) (by decide) (fun c14 => ?_) (fun c14 => ?_)
  · exact absurd c14 (by decide)
  · refine s_iload_n (tb_ok aX7_sheet_0 9 rfl) rfl ?_
    refine s_cSp (as := [.int (1)]) (tb_ok aX7_sheet_0 10 rfl) v_RX7_310 (E_isSort _) (by decide) rfl rfl (Nat.le_of_ble_eq_true rfl) ?_
    refine s_topi (bI_t (by decide)) ?_
    refine s_if_ne (tgt := 27) (tb_ok aX7_sheet_0 11 rfl) (by decide) (fun c21 => ?_) (fun c21 => ?_)
    · refine s_iload_n (tb_ok aX7_sheet_0 14 rfl) rfl ?_
      refine s_iconst (v := -1) (tb_ok aX7_sheet_0 15 rfl) (by decide) ?_
      refine s_icmp_ne (tgt := 41) (tb_ok aX7_sheet_0 16 rfl) (by decide) (fun c29 => ?_) (fun c29 => ?_)
      · refine s_iload_n (tb_ok aX7_sheet_0 23 rfl) rfl ?_
        refine s_bipush (v := 40) (tb_ok aX7_sheet_1 0 rfl) (by decide) ?_
        refine s_icmp_le (tgt := 50) (tb_ok aX7_sheet_1 1 rfl) (by decide) (fun c44 => ?_) (fun c44 => ?_)
        · exact absurd hn (Int32.not_lt.mpr c44)
        · refine s_bipush (v := -2) (tb_ok aX7_sheet_1 2 rfl) (by decide) ?_
          refine s_iret (tb_ok aX7_sheet_1 3 rfl) rfl ?_
          exact ⟨rfl, rfl, AgL.rf, rfl, rfl⟩
      · exact absurd c29 (by decide)
    · exact absurd c21 (by decide)

set_option maxRecDepth 100000 in
set_option maxHeartbeats 1000000 in
theorem C_sheetL1 {X : En} {I : FI} {L : FL} {q : Nat × Nat} {s : Nat} (hrs : s < 4) {n : Int32} (hn : n < 0) : Ev X 9 mX7_sheet (0, 0) [.ref 0, .int (nI s), .int (1), .int n] S0 I L (R0 q) (AgLR (some (.int (-14))) (I) L q) := by
  refine ev_of (by decide +kernel) rfl ?_
  show SW X _ _ _ 0 [some (.ref 0), some (.int (nI s)), some (.int (1)), some (.int n), none] [] S0 I L (R0 q) _
  refine s_aload_n (tb_ok aX7_sheet_0 0 rfl) rfl ?_
  refine s_iload_n (tb_ok aX7_sheet_0 1 rfl) rfl ?_
  refine s_cVp (as := [.int (nI s)]) (tb_ok aX7_sheet_0 2 rfl) v_RX7_248 (E_rowAt hrs) (by decide) rfl rfl rfl rfl rfl (Nat.le_of_ble_eq_true rfl) (by decide) ?_
  refine s_astore (ls' := [some (.ref 0), some (.int (nI s)), some (.int (1)), some (.int n), some (.ref (rowN s))]) (tb_ok aX7_sheet_0 3 rfl) rfl rfl ?_
  refine s_aload (tb_ok aX7_sheet_0 4 rfl) rfl ?_
  refine s_ifnull (tb_ok aX7_sheet_0 5 rfl) ?_
  refine s_iload_n (tb_ok aX7_sheet_0 6 rfl) rfl ?_
  refine s_iconst (v := -1) (tb_ok aX7_sheet_0 7 rfl) (by decide) ?_
  refine s_icmp_eq (tgt := 27) (tb_ok aX7_sheet_0 8 rfl) (by decide) (fun c14 => ?_) (fun c14 => ?_)
  · exact absurd c14 (by decide)
  · refine s_iload_n (tb_ok aX7_sheet_0 9 rfl) rfl ?_
    refine s_cSp (as := [.int (1)]) (tb_ok aX7_sheet_0 10 rfl) v_RX7_310 (E_isSort _) (by decide) rfl rfl (Nat.le_of_ble_eq_true rfl) ?_
    refine s_topi (bI_t (by decide)) ?_
    refine s_if_ne (tgt := 27) (tb_ok aX7_sheet_0 11 rfl) (by decide) (fun c21 => ?_) (fun c21 => ?_)
    · refine s_iload_n (tb_ok aX7_sheet_0 14 rfl) rfl ?_
      refine s_iconst (v := -1) (tb_ok aX7_sheet_0 15 rfl) (by decide) ?_
      refine s_icmp_ne (tgt := 41) (tb_ok aX7_sheet_0 16 rfl) (by decide) (fun c29 => ?_) (fun c29 => ?_)
      · refine s_iload_n (tb_ok aX7_sheet_0 23 rfl) rfl ?_
        refine s_bipush (v := 40) (tb_ok aX7_sheet_1 0 rfl) (by decide) ?_
        refine s_icmp_le (tgt := 50) (tb_ok aX7_sheet_1 1 rfl) (by decide) (fun c44 => ?_) (fun c44 => ?_)
        · refine s_iload_n (tb_ok aX7_sheet_1 4 rfl) rfl ?_
          refine s_if_ge (tgt := 57) (tb_ok aX7_sheet_1 5 rfl) (by decide) (fun c51 => ?_) (fun c51 => ?_)
          · exact absurd hn (Int32.not_lt.mpr c51)
          · refine s_bipush (v := -14) (tb_ok aX7_sheet_1 6 rfl) (by decide) ?_
            refine s_iret (tb_ok aX7_sheet_1 7 rfl) rfl ?_
            exact ⟨rfl, rfl, AgL.rf, rfl, rfl⟩
        · exact absurd (Int32.le_of_lt (Int32.lt_of_lt_of_le hn (by decide))) c44
      · exact absurd c29 (by decide)
    · exact absurd c21 (by decide)

set_option maxRecDepth 100000 in
set_option maxHeartbeats 1000000 in
theorem C_sheet2 {X : En} {I : FI} {L : FL} {q : Nat × Nat} {s : Nat} (hrs : s < 4) {n : Int32} (hn : ¬ n < 0 ∧ n ≤ 40) : Ev X 9 mX7_sheet (0, 0) [.ref 0, .int (nI s), .int (2), .int n] S0 I L (R0 q) (PureR (some (.int 1)) S0 (setO (setO I (rowN s) (upd (upd (I (rowN s)) 1 2) 2 n)) (rowN s + 1) (zr40 (I (rowN s + 1)) 40)) L (R0 q)) := by
  refine ev_of (by decide +kernel) rfl ?_
  show SW X _ _ _ 0 [some (.ref 0), some (.int (nI s)), some (.int (2)), some (.int n), none] [] S0 I L (R0 q) _
  refine s_aload_n (tb_ok aX7_sheet_0 0 rfl) rfl ?_
  refine s_iload_n (tb_ok aX7_sheet_0 1 rfl) rfl ?_
  refine s_cVp (as := [.int (nI s)]) (tb_ok aX7_sheet_0 2 rfl) v_RX7_248 (E_rowAt hrs) (by decide) rfl rfl rfl rfl rfl (Nat.le_of_ble_eq_true rfl) (by decide) ?_
  refine s_astore (ls' := [some (.ref 0), some (.int (nI s)), some (.int (2)), some (.int n), some (.ref (rowN s))]) (tb_ok aX7_sheet_0 3 rfl) rfl rfl ?_
  refine s_aload (tb_ok aX7_sheet_0 4 rfl) rfl ?_
  refine s_ifnull (tb_ok aX7_sheet_0 5 rfl) ?_
  refine s_iload_n (tb_ok aX7_sheet_0 6 rfl) rfl ?_
  refine s_iconst (v := -1) (tb_ok aX7_sheet_0 7 rfl) (by decide) ?_
  refine s_icmp_eq (tgt := 27) (tb_ok aX7_sheet_0 8 rfl) (by decide) (fun c14 => ?_) (fun c14 => ?_)
  · exact absurd c14 (by decide)
  · refine s_iload_n (tb_ok aX7_sheet_0 9 rfl) rfl ?_
    refine s_cSp (as := [.int (2)]) (tb_ok aX7_sheet_0 10 rfl) v_RX7_310 (E_isSort _) (by decide) rfl rfl (Nat.le_of_ble_eq_true rfl) ?_
    refine s_topi (bI_t (by decide)) ?_
    refine s_if_ne (tgt := 27) (tb_ok aX7_sheet_0 11 rfl) (by decide) (fun c21 => ?_) (fun c21 => ?_)
    · refine s_iload_n (tb_ok aX7_sheet_0 14 rfl) rfl ?_
      refine s_iconst (v := -1) (tb_ok aX7_sheet_0 15 rfl) (by decide) ?_
      refine s_icmp_ne (tgt := 41) (tb_ok aX7_sheet_0 16 rfl) (by decide) (fun c29 => ?_) (fun c29 => ?_)
      · refine s_iload_n (tb_ok aX7_sheet_0 23 rfl) rfl ?_
        refine s_bipush (v := 40) (tb_ok aX7_sheet_1 0 rfl) (by decide) ?_
        refine s_icmp_le (tgt := 50) (tb_ok aX7_sheet_1 1 rfl) (by decide) (fun c44 => ?_) (fun c44 => ?_)
        · refine s_iload_n (tb_ok aX7_sheet_1 4 rfl) rfl ?_
          refine s_if_ge (tgt := 57) (tb_ok aX7_sheet_1 5 rfl) (by decide) (fun c51 => ?_) (fun c51 => ?_)
          · refine s_aload (tb_ok aX7_sheet_1 8 rfl) rfl ?_
            refine s_iload_n (tb_ok aX7_sheet_1 9 rfl) rfl ?_
            refine s_iload_n (tb_ok aX7_sheet_1 10 rfl) rfl ?_
            refine s_cV (as := [.int (2), .int n]) (tb_ok aX7_sheet_1 11 rfl) v_RX7_278 (E_Rbegin (row0 q hrs) _ _) (by decide) (row0 q hrs).1 rfl rfl rfl rfl (Nat.le_of_ble_eq_true rfl) (by decide) (fun r1 S1 I1 L1 R1 q1 => ?_)
            obtain ⟨rfl, rfl, rfl, rfl, rfl⟩ := q1
            refine s_iconst (v := 1) (tb_ok aX7_sheet_1 12 rfl) (by decide) ?_
            refine s_iret (tb_ok aX7_sheet_1 13 rfl) rfl ?_
            exact pureR
          · exact absurd (Int32.not_lt.mp hn.1) c51
        · exact absurd hn.2 c44
      · exact absurd c29 (by decide)
    · exact absurd c21 (by decide)

set_option maxRecDepth 100000 in
set_option maxHeartbeats 1000000 in
theorem C_sheetH2 {X : En} {I : FI} {L : FL} {q : Nat × Nat} {s : Nat} (hrs : s < 4) {n : Int32} (hn : 40 < n) : Ev X 9 mX7_sheet (0, 0) [.ref 0, .int (nI s), .int (2), .int n] S0 I L (R0 q) (AgLR (some (.int (-2))) (I) L q) := by
  refine ev_of (by decide +kernel) rfl ?_
  show SW X _ _ _ 0 [some (.ref 0), some (.int (nI s)), some (.int (2)), some (.int n), none] [] S0 I L (R0 q) _
  refine s_aload_n (tb_ok aX7_sheet_0 0 rfl) rfl ?_
  refine s_iload_n (tb_ok aX7_sheet_0 1 rfl) rfl ?_
  refine s_cVp (as := [.int (nI s)]) (tb_ok aX7_sheet_0 2 rfl) v_RX7_248 (E_rowAt hrs) (by decide) rfl rfl rfl rfl rfl (Nat.le_of_ble_eq_true rfl) (by decide) ?_
  refine s_astore (ls' := [some (.ref 0), some (.int (nI s)), some (.int (2)), some (.int n), some (.ref (rowN s))]) (tb_ok aX7_sheet_0 3 rfl) rfl rfl ?_
  refine s_aload (tb_ok aX7_sheet_0 4 rfl) rfl ?_
  refine s_ifnull (tb_ok aX7_sheet_0 5 rfl) ?_
  refine s_iload_n (tb_ok aX7_sheet_0 6 rfl) rfl ?_
  refine s_iconst (v := -1) (tb_ok aX7_sheet_0 7 rfl) (by decide) ?_
  refine s_icmp_eq (tgt := 27) (tb_ok aX7_sheet_0 8 rfl) (by decide) (fun c14 => ?_) (fun c14 => ?_)
  · exact absurd c14 (by decide)
  · refine s_iload_n (tb_ok aX7_sheet_0 9 rfl) rfl ?_
    refine s_cSp (as := [.int (2)]) (tb_ok aX7_sheet_0 10 rfl) v_RX7_310 (E_isSort _) (by decide) rfl rfl (Nat.le_of_ble_eq_true rfl) ?_
    refine s_topi (bI_t (by decide)) ?_
    refine s_if_ne (tgt := 27) (tb_ok aX7_sheet_0 11 rfl) (by decide) (fun c21 => ?_) (fun c21 => ?_)
    · refine s_iload_n (tb_ok aX7_sheet_0 14 rfl) rfl ?_
      refine s_iconst (v := -1) (tb_ok aX7_sheet_0 15 rfl) (by decide) ?_
      refine s_icmp_ne (tgt := 41) (tb_ok aX7_sheet_0 16 rfl) (by decide) (fun c29 => ?_) (fun c29 => ?_)
      · refine s_iload_n (tb_ok aX7_sheet_0 23 rfl) rfl ?_
        refine s_bipush (v := 40) (tb_ok aX7_sheet_1 0 rfl) (by decide) ?_
        refine s_icmp_le (tgt := 50) (tb_ok aX7_sheet_1 1 rfl) (by decide) (fun c44 => ?_) (fun c44 => ?_)
        · exact absurd hn (Int32.not_lt.mpr c44)
        · refine s_bipush (v := -2) (tb_ok aX7_sheet_1 2 rfl) (by decide) ?_
          refine s_iret (tb_ok aX7_sheet_1 3 rfl) rfl ?_
          exact ⟨rfl, rfl, AgL.rf, rfl, rfl⟩
      · exact absurd c29 (by decide)
    · exact absurd c21 (by decide)

set_option maxRecDepth 100000 in
set_option maxHeartbeats 1000000 in
theorem C_sheetL2 {X : En} {I : FI} {L : FL} {q : Nat × Nat} {s : Nat} (hrs : s < 4) {n : Int32} (hn : n < 0) : Ev X 9 mX7_sheet (0, 0) [.ref 0, .int (nI s), .int (2), .int n] S0 I L (R0 q) (AgLR (some (.int (-14))) (I) L q) := by
  refine ev_of (by decide +kernel) rfl ?_
  show SW X _ _ _ 0 [some (.ref 0), some (.int (nI s)), some (.int (2)), some (.int n), none] [] S0 I L (R0 q) _
  refine s_aload_n (tb_ok aX7_sheet_0 0 rfl) rfl ?_
  refine s_iload_n (tb_ok aX7_sheet_0 1 rfl) rfl ?_
  refine s_cVp (as := [.int (nI s)]) (tb_ok aX7_sheet_0 2 rfl) v_RX7_248 (E_rowAt hrs) (by decide) rfl rfl rfl rfl rfl (Nat.le_of_ble_eq_true rfl) (by decide) ?_
  refine s_astore (ls' := [some (.ref 0), some (.int (nI s)), some (.int (2)), some (.int n), some (.ref (rowN s))]) (tb_ok aX7_sheet_0 3 rfl) rfl rfl ?_
  refine s_aload (tb_ok aX7_sheet_0 4 rfl) rfl ?_
  refine s_ifnull (tb_ok aX7_sheet_0 5 rfl) ?_
  refine s_iload_n (tb_ok aX7_sheet_0 6 rfl) rfl ?_
  refine s_iconst (v := -1) (tb_ok aX7_sheet_0 7 rfl) (by decide) ?_
  refine s_icmp_eq (tgt := 27) (tb_ok aX7_sheet_0 8 rfl) (by decide) (fun c14 => ?_) (fun c14 => ?_)
  · exact absurd c14 (by decide)
  · refine s_iload_n (tb_ok aX7_sheet_0 9 rfl) rfl ?_
    refine s_cSp (as := [.int (2)]) (tb_ok aX7_sheet_0 10 rfl) v_RX7_310 (E_isSort _) (by decide) rfl rfl (Nat.le_of_ble_eq_true rfl) ?_
    refine s_topi (bI_t (by decide)) ?_
    refine s_if_ne (tgt := 27) (tb_ok aX7_sheet_0 11 rfl) (by decide) (fun c21 => ?_) (fun c21 => ?_)
    · refine s_iload_n (tb_ok aX7_sheet_0 14 rfl) rfl ?_
      refine s_iconst (v := -1) (tb_ok aX7_sheet_0 15 rfl) (by decide) ?_
      refine s_icmp_ne (tgt := 41) (tb_ok aX7_sheet_0 16 rfl) (by decide) (fun c29 => ?_) (fun c29 => ?_)
      · refine s_iload_n (tb_ok aX7_sheet_0 23 rfl) rfl ?_
        refine s_bipush (v := 40) (tb_ok aX7_sheet_1 0 rfl) (by decide) ?_
        refine s_icmp_le (tgt := 50) (tb_ok aX7_sheet_1 1 rfl) (by decide) (fun c44 => ?_) (fun c44 => ?_)
        · refine s_iload_n (tb_ok aX7_sheet_1 4 rfl) rfl ?_
          refine s_if_ge (tgt := 57) (tb_ok aX7_sheet_1 5 rfl) (by decide) (fun c51 => ?_) (fun c51 => ?_)
          · exact absurd hn (Int32.not_lt.mpr c51)
          · refine s_bipush (v := -14) (tb_ok aX7_sheet_1 6 rfl) (by decide) ?_
            refine s_iret (tb_ok aX7_sheet_1 7 rfl) rfl ?_
            exact ⟨rfl, rfl, AgL.rf, rfl, rfl⟩
        · exact absurd (Int32.le_of_lt (Int32.lt_of_lt_of_le hn (by decide))) c44
      · exact absurd c29 (by decide)
    · exact absurd c21 (by decide)

set_option maxRecDepth 100000 in
set_option maxHeartbeats 1000000 in
theorem C_sheetX {X : En} {I : FI} {L : FL} {q : Nat × Nat} {x : Int32} (hx : x < 0 ∨ nI 4 ≤ x) {w n : Int32} : Ev X 9 mX7_sheet (0, 0) [.ref 0, .int x, .int w, .int n] S0 I L (R0 q) (AgLR (some (.int (-2))) (I) L q) := by
  refine ev_of (by decide +kernel) rfl ?_
  show SW X _ _ _ 0 [some (.ref 0), some (.int x), some (.int w), some (.int n), none] [] S0 I L (R0 q) _
  refine s_aload_n (tb_ok aX7_sheet_0 0 rfl) rfl ?_
  refine s_iload_n (tb_ok aX7_sheet_0 1 rfl) rfl ?_
  refine s_cVp (as := [.int x]) (tb_ok aX7_sheet_0 2 rfl) v_RX7_248 (E_rowAtN hx) (by decide) rfl rfl rfl rfl rfl (Nat.le_of_ble_eq_true rfl) (by decide) ?_
  refine s_astoreN (ls' := [some (.ref 0), some (.int x), some (.int w), some (.int n), some (.null)]) (tb_ok aX7_sheet_0 3 rfl) rfl rfl ?_
  refine s_aloadq (r := none) (tb_ok aX7_sheet_0 4 rfl) rfl ?_
  refine s_ifnullN (tgt := 24) (tb_ok aX7_sheet_0 5 rfl) (by decide) ?_
  refine s_bipush (v := -2) (tb_ok aX7_sheet_0 12 rfl) (by decide) ?_
  refine s_iret (tb_ok aX7_sheet_0 13 rfl) rfl ?_
  exact ⟨rfl, rfl, AgL.rf, rfl, rfl⟩

set_option maxRecDepth 100000 in
set_option maxHeartbeats 1000000 in
theorem C_sheetW {X : En} {I : FI} {L : FL} {q : Nat × Nat} {s : Nat} (hrs : s < 4) {w n : Int32} (hw : ¬ w = -1) (hw2 : ¬ (¬ w < 0 ∧ w < 3)) : Ev X 9 mX7_sheet (0, 0) [.ref 0, .int (nI s), .int w, .int n] S0 I L (R0 q) (AgLR (some (.int (-2))) (I) L q) := by
  refine ev_of (by decide +kernel) rfl ?_
  show SW X _ _ _ 0 [some (.ref 0), some (.int (nI s)), some (.int w), some (.int n), none] [] S0 I L (R0 q) _
  refine s_aload_n (tb_ok aX7_sheet_0 0 rfl) rfl ?_
  refine s_iload_n (tb_ok aX7_sheet_0 1 rfl) rfl ?_
  refine s_cVp (as := [.int (nI s)]) (tb_ok aX7_sheet_0 2 rfl) v_RX7_248 (E_rowAt hrs) (by decide) rfl rfl rfl rfl rfl (Nat.le_of_ble_eq_true rfl) (by decide) ?_
  refine s_astore (ls' := [some (.ref 0), some (.int (nI s)), some (.int w), some (.int n), some (.ref (rowN s))]) (tb_ok aX7_sheet_0 3 rfl) rfl rfl ?_
  refine s_aload (tb_ok aX7_sheet_0 4 rfl) rfl ?_
  refine s_ifnull (tb_ok aX7_sheet_0 5 rfl) ?_
  refine s_iload_n (tb_ok aX7_sheet_0 6 rfl) rfl ?_
  refine s_iconst (v := -1) (tb_ok aX7_sheet_0 7 rfl) (by decide) ?_
  refine s_icmp_eq (tgt := 27) (tb_ok aX7_sheet_0 8 rfl) (by decide) (fun c14 => ?_) (fun c14 => ?_)
  · exact absurd c14 hw
  · refine s_iload_n (tb_ok aX7_sheet_0 9 rfl) rfl ?_
    refine s_cSp (as := [.int w]) (tb_ok aX7_sheet_0 10 rfl) v_RX7_310 (E_isSort _) (by decide) rfl rfl (Nat.le_of_ble_eq_true rfl) ?_
    refine s_if_ne (tgt := 27) (tb_ok aX7_sheet_0 11 rfl) (by decide) (fun c21 => ?_) (fun c21 => ?_)
    · exact absurd (bI_n c21) hw2
    · refine s_bipush (v := -2) (tb_ok aX7_sheet_0 12 rfl) (by decide) ?_
      refine s_iret (tb_ok aX7_sheet_0 13 rfl) rfl ?_
      exact ⟨rfl, rfl, AgL.rf, rfl, rfl⟩

set_option maxRecDepth 100000 in
set_option maxHeartbeats 1000000 in
theorem C_cell {X : En} {I : FI} {L : FL} {q : Nat × Nat} {s : Nat} (hrs : s < 4) (hnm : ¬ I (rowN s) 1 = -1) {z i : Nat} (hz : I (rowN s) 2 = nI z) (hz40 : z ≤ 40) (hi : i < z) {v : Int32} : Ev X 9 mX7_cell (0, 0) [.ref 0, .int (nI s), .int (nI i), .int v] S0 I L (R0 q) (PureR (some (.int 1)) S0 (up2 I (rowN s + 1) i (cvt (I (rowN s) 1) v)) L (R0 q)) := by
  refine ev_of (by decide +kernel) rfl ?_
  show SW X _ _ _ 0 [some (.ref 0), some (.int (nI s)), some (.int (nI i)), some (.int v), none] [] S0 I L (R0 q) _
  refine s_aload_n (tb_ok aX7_cell_0 0 rfl) rfl ?_
  refine s_iload_n (tb_ok aX7_cell_0 1 rfl) rfl ?_
  refine s_cVp (as := [.int (nI s)]) (tb_ok aX7_cell_0 2 rfl) v_RX7_248 (E_rowAt hrs) (by decide) rfl rfl rfl rfl rfl (Nat.le_of_ble_eq_true rfl) (by decide) ?_
  refine s_astore (ls' := [some (.ref 0), some (.int (nI s)), some (.int (nI i)), some (.int v), some (.ref (rowN s))]) (tb_ok aX7_cell_0 3 rfl) rfl rfl ?_
  refine s_aload (tb_ok aX7_cell_0 4 rfl) rfl ?_
  refine s_ifnonnull (tgt := 15) (tb_ok aX7_cell_0 5 rfl) (by decide) ?_
  refine s_aload (tb_ok aX7_cell_0 8 rfl) rfl ?_
  refine s_cVp (as := []) (tb_ok aX7_cell_0 9 rfl) v_RX7_252 (E_isMissing (row0 q hrs)) (by decide) (row0 q hrs).1 rfl rfl rfl rfl (Nat.le_of_ble_eq_true rfl) (by decide) ?_
  refine s_topi (bI_f (show ¬ I (rowN s) 1 = -1 from hnm)) ?_
  refine s_if_eq (tgt := 26) (tb_ok aX7_cell_0 10 rfl) (by decide) (fun c20 => ?_) (fun c20 => ?_)
  · refine s_aload (tb_ok aX7_cell_0 13 rfl) rfl ?_
    refine s_iload_n (tb_ok aX7_cell_0 14 rfl) rfl ?_
    refine s_cVp (as := [.int (nI i)]) (tb_ok aX7_cell_0 15 rfl) v_RX7_313 (E_Rhas (row0 q hrs) _) (by decide) (row0 q hrs).1 rfl rfl rfl rfl (Nat.le_of_ble_eq_true rfl) (by decide) ?_
    refine s_topi (bI_t ⟨nI_pos (by omega), by rw [hz]; simp (disch := omega) only [nI_ltI]; omega, by simp (disch := omega) only [nI_ltI]; omega⟩) ?_
    refine s_if_ne (tgt := 38) (tb_ok aX7_cell_0 16 rfl) (by decide) (fun c32 => ?_) (fun c32 => ?_)
    · refine s_aload (tb_ok aX7_cell_0 19 rfl) rfl ?_
      refine s_iload_n (tb_ok aX7_cell_0 20 rfl) rfl ?_
      refine s_iload_n (tb_ok aX7_cell_0 21 rfl) rfl ?_
      refine s_cV (as := [.int (nI i), .int v]) (tb_ok aX7_cell_0 22 rfl) v_RX7_288 (E_Rput (row0 q hrs) _ _) (by decide) (row0 q hrs).1 rfl rfl rfl rfl (Nat.le_of_ble_eq_true rfl) (by decide) (fun r1 S1 I1 L1 R1 q1 => ?_)
      rw [if_pos ⟨nI_pos (by omega), by rw [hz]; simp (disch := omega) only [nI_ltI]; omega, by simp (disch := omega) only [nI_ltI]; omega⟩, nI_clamp (by omega)] at q1
      obtain ⟨rfl, rfl, rfl, rfl, rfl⟩ := q1
      refine s_iconst (v := 1) (tb_ok aX7_cell_0 23 rfl) (by decide) ?_
      refine s_iret (tb_ok aX7_cell_1 0 rfl) rfl ?_
      exact pureR
    · exact absurd c32 (by decide)
  · exact absurd c20 (by decide)

set_option maxRecDepth 100000 in
set_option maxHeartbeats 1000000 in
theorem C_cellO {X : En} {I : FI} {L : FL} {q : Nat × Nat} {s : Nat} (hrs : s < 4) (hnm : ¬ I (rowN s) 1 = -1) {x v : Int32} (hv : ¬ (¬ x < 0 ∧ x < I (rowN s) 2 ∧ x < nI 40)) : Ev X 9 mX7_cell (0, 0) [.ref 0, .int (nI s), .int x, .int v] S0 I L (R0 q) (AgLR (some (.int (-12))) (I) L q) := by
  refine ev_of (by decide +kernel) rfl ?_
  show SW X _ _ _ 0 [some (.ref 0), some (.int (nI s)), some (.int x), some (.int v), none] [] S0 I L (R0 q) _
  refine s_aload_n (tb_ok aX7_cell_0 0 rfl) rfl ?_
  refine s_iload_n (tb_ok aX7_cell_0 1 rfl) rfl ?_
  refine s_cVp (as := [.int (nI s)]) (tb_ok aX7_cell_0 2 rfl) v_RX7_248 (E_rowAt hrs) (by decide) rfl rfl rfl rfl rfl (Nat.le_of_ble_eq_true rfl) (by decide) ?_
  refine s_astore (ls' := [some (.ref 0), some (.int (nI s)), some (.int x), some (.int v), some (.ref (rowN s))]) (tb_ok aX7_cell_0 3 rfl) rfl rfl ?_
  refine s_aload (tb_ok aX7_cell_0 4 rfl) rfl ?_
  refine s_ifnonnull (tgt := 15) (tb_ok aX7_cell_0 5 rfl) (by decide) ?_
  refine s_aload (tb_ok aX7_cell_0 8 rfl) rfl ?_
  refine s_cVp (as := []) (tb_ok aX7_cell_0 9 rfl) v_RX7_252 (E_isMissing (row0 q hrs)) (by decide) (row0 q hrs).1 rfl rfl rfl rfl (Nat.le_of_ble_eq_true rfl) (by decide) ?_
  refine s_topi (bI_f (show ¬ I (rowN s) 1 = -1 from hnm)) ?_
  refine s_if_eq (tgt := 26) (tb_ok aX7_cell_0 10 rfl) (by decide) (fun c20 => ?_) (fun c20 => ?_)
  · refine s_aload (tb_ok aX7_cell_0 13 rfl) rfl ?_
    refine s_iload_n (tb_ok aX7_cell_0 14 rfl) rfl ?_
    refine s_cVp (as := [.int x]) (tb_ok aX7_cell_0 15 rfl) v_RX7_313 (E_Rhas (row0 q hrs) _) (by decide) (row0 q hrs).1 rfl rfl rfl rfl (Nat.le_of_ble_eq_true rfl) (by decide) ?_
    refine s_if_ne (tgt := 38) (tb_ok aX7_cell_0 16 rfl) (by decide) (fun c32 => ?_) (fun c32 => ?_)
    · exact absurd (bI_n c32) hv
    · refine s_bipush (v := -12) (tb_ok aX7_cell_0 17 rfl) (by decide) ?_
      refine s_iret (tb_ok aX7_cell_0 18 rfl) rfl ?_
      exact ⟨rfl, rfl, AgL.rf, rfl, rfl⟩
  · exact absurd c20 (by decide)

set_option maxRecDepth 100000 in
set_option maxHeartbeats 1000000 in
theorem C_cellM {X : En} {I : FI} {L : FL} {q : Nat × Nat} {s : Nat} (hrs : s < 4) (hmi : I (rowN s) 1 = -1) {x v : Int32} : Ev X 9 mX7_cell (0, 0) [.ref 0, .int (nI s), .int x, .int v] S0 I L (R0 q) (AgLR (some (.int (-11))) (I) L q) := by
  refine ev_of (by decide +kernel) rfl ?_
  show SW X _ _ _ 0 [some (.ref 0), some (.int (nI s)), some (.int x), some (.int v), none] [] S0 I L (R0 q) _
  refine s_aload_n (tb_ok aX7_cell_0 0 rfl) rfl ?_
  refine s_iload_n (tb_ok aX7_cell_0 1 rfl) rfl ?_
  refine s_cVp (as := [.int (nI s)]) (tb_ok aX7_cell_0 2 rfl) v_RX7_248 (E_rowAt hrs) (by decide) rfl rfl rfl rfl rfl (Nat.le_of_ble_eq_true rfl) (by decide) ?_
  refine s_astore (ls' := [some (.ref 0), some (.int (nI s)), some (.int x), some (.int v), some (.ref (rowN s))]) (tb_ok aX7_cell_0 3 rfl) rfl rfl ?_
  refine s_aload (tb_ok aX7_cell_0 4 rfl) rfl ?_
  refine s_ifnonnull (tgt := 15) (tb_ok aX7_cell_0 5 rfl) (by decide) ?_
  refine s_aload (tb_ok aX7_cell_0 8 rfl) rfl ?_
  refine s_cVp (as := []) (tb_ok aX7_cell_0 9 rfl) v_RX7_252 (E_isMissing (row0 q hrs)) (by decide) (row0 q hrs).1 rfl rfl rfl rfl (Nat.le_of_ble_eq_true rfl) (by decide) ?_
  refine s_topi (bI_t hmi) ?_
  refine s_if_eq (tgt := 26) (tb_ok aX7_cell_0 10 rfl) (by decide) (fun c20 => ?_) (fun c20 => ?_)
  · exact absurd c20 (by decide)
  · refine s_bipush (v := -11) (tb_ok aX7_cell_0 11 rfl) (by decide) ?_
    refine s_iret (tb_ok aX7_cell_0 12 rfl) rfl ?_
    exact ⟨rfl, rfl, AgL.rf, rfl, rfl⟩

set_option maxRecDepth 100000 in
set_option maxHeartbeats 1000000 in
theorem C_cellX {X : En} {I : FI} {L : FL} {q : Nat × Nat} {x : Int32} (hx : x < 0 ∨ nI 4 ≤ x) {w v : Int32} : Ev X 9 mX7_cell (0, 0) [.ref 0, .int x, .int w, .int v] S0 I L (R0 q) (AgLR (some (.int (-2))) (I) L q) := by
  refine ev_of (by decide +kernel) rfl ?_
  show SW X _ _ _ 0 [some (.ref 0), some (.int x), some (.int w), some (.int v), none] [] S0 I L (R0 q) _
  refine s_aload_n (tb_ok aX7_cell_0 0 rfl) rfl ?_
  refine s_iload_n (tb_ok aX7_cell_0 1 rfl) rfl ?_
  refine s_cVp (as := [.int x]) (tb_ok aX7_cell_0 2 rfl) v_RX7_248 (E_rowAtN hx) (by decide) rfl rfl rfl rfl rfl (Nat.le_of_ble_eq_true rfl) (by decide) ?_
  refine s_astoreN (ls' := [some (.ref 0), some (.int x), some (.int w), some (.int v), some (.null)]) (tb_ok aX7_cell_0 3 rfl) rfl rfl ?_
  refine s_aloadq (r := none) (tb_ok aX7_cell_0 4 rfl) rfl ?_
  refine s_ifnonnullN (tb_ok aX7_cell_0 5 rfl) ?_
  refine s_bipush (v := -2) (tb_ok aX7_cell_0 6 rfl) (by decide) ?_
  refine s_iret (tb_ok aX7_cell_0 7 rfl) rfl ?_
  exact ⟨rfl, rfl, AgL.rf, rfl, rfl⟩

theorem cvt0 : ∀ r, r < 100 → cvt 0 (nI r) = nI r := by decide
/-- a film: its row, its items; else nothing that matters -/
def FlmC (I : FI) (s n : Nat) (g : Nat → Int32) (I' : FI) : Prop := AgF s I I' ∧ I' (rowN s) 1 = 0 ∧ I' (rowN s) 2 = nI n ∧ ∀ t, t < n → I' (rowN s + 1) t = g t
theorem rw_b {s : Nat} (h : s < 4) : 54 ≤ rowN s ∧ rowN s + 1 < 62 ∧ W0 (rowN s) = false ∧ W0 (rowN s + 1) = false := by
  match s, h with
  | 0, _ => exact ⟨by decide, by decide, by decide, by decide⟩
  | 1, _ => exact ⟨by decide, by decide, by decide, by decide⟩
  | 2, _ => exact ⟨by decide, by decide, by decide, by decide⟩
  | 3, _ => exact ⟨by decide, by decide, by decide, by decide⟩
theorem rnW : ∀ i, i < 6 → W1 (ruleN i + 1) = false ∧ W1 (ruleN i + 2) = false := by decide
set_option maxRecDepth 100000 in
set_option maxHeartbeats 1000000 in
theorem C_film {X : En} {I : FI} {L : FL} {q : Nat × Nat} {m M ri : Nat} {sem : Nat → Sem} (h : CSt I q m M ri sem) {j : Nat} (hj : j < M) (hfa : okFa m (I 3)) (hto : okT (I (5 + 2 + j))) {s n : Nat} (hrs : s < 4) (hn : n ≤ 20) : Ev X 9 mX7_film (0, 0) [.ref 0, .int (nI s), .int (nI j), .int (nI n)] S0 I L (R0 q) (fun r' S' I' L' R' => r' = some (.int (nI n)) ∧ S' = S0 ∧ FlmC I s n (fun t => itP sem (I 2) (I 3) m (I 5 2) (I (5 + 2 + j)) (t + 1) 3) I' ∧ L' = L ∧ R' = R0 q) := by
  obtain ⟨hm, hm10, hM, hM5, hri, hq, hs⟩ := id h
  have hj5 : j < 5 := by omega
  have hob : S0[5 + 2 + j]? = some (5, 5) := ((orch5 q).2.2.2.1 j hj5).2
  have h27 : 5 + 2 + j ≠ 27 := (wT j hj5).2
  have hrb := rw_b hrs
  have loop : ∀ k, k ≤ n → ∀ (J : FI), (AgF s I J) → (J (rowN s) 1 = 0) → (J (rowN s) 2 = nI n) → (∀ t, t < k → J (rowN s + 1) t = (fun t => itP sem (I 2) (I 3) m (I 5 2) (I (5 + 2 + j)) (t + 1) 3) t) → (T5 (J 27) (itP sem (I 2) (I 3) m (I 5 2) (I (5 + 2 + j)) k)) → SW X 9 mX7_film (0, 0) 59 [some (.ref 0), some (.int (nI s)), some (.int (nI j)), some (.int (nI n)), some (.ref (rowN s)), some (.ref (5 + 2 + j)), some (.int (nI k))] [] S0 J L (R0 q) (KQ X (fun r' S' I' L' R' => r' = some (.int (nI n)) ∧ S' = S0 ∧ FlmC I s n (fun t => itP sem (I 2) (I 3) m (I 5 2) (I (5 + 2 + j)) (t + 1) 3) I' ∧ L' = L ∧ R' = R0 q)) := by
    refine for_up (P := fun k => ∀ (J : FI), (AgF s I J) → (J (rowN s) 1 = 0) → (J (rowN s) 2 = nI n) → (∀ t, t < k → J (rowN s + 1) t = (fun t => itP sem (I 2) (I 3) m (I 5 2) (I (5 + 2 + j)) (t + 1) 3) t) → (T5 (J 27) (itP sem (I 2) (I 3) m (I 5 2) (I (5 + 2 + j)) k)) → SW X 9 mX7_film (0, 0) 59 [some (.ref 0), some (.int (nI s)), some (.int (nI j)), some (.int (nI n)), some (.ref (rowN s)), some (.ref (5 + 2 + j)), some (.int (nI k))] [] S0 J L (R0 q) (KQ X (fun r' S' I' L' R' => r' = some (.int (nI n)) ∧ S' = S0 ∧ FlmC I s n (fun t => itP sem (I 2) (I 3) m (I 5 2) (I (5 + 2 + j)) (t + 1) 3) I' ∧ L' = L ∧ R' = R0 q))) n ?_ ?_
    · intro J hi hi1 hi2 hi3 hi4
      refine s_iload (tb_ok aX7_film_1 6 rfl) rfl ?_
      refine s_iload_n (tb_ok aX7_film_1 7 rfl) rfl ?_
      refine s_icmp_ge (tgt := 106) (tb_ok aX7_film_1 8 rfl) (by decide) (fun c62 => ?_) (fun c62 => ?_)
      · refine s_iload_n (tb_ok aX7_film_2 3 rfl) rfl ?_
        refine s_iret (tb_ok aX7_film_2 4 rfl) rfl ?_
        exact ⟨rfl, rfl, ⟨hi, hi1, hi2, hi3⟩, rfl, rfl⟩
      · simp (disch := omega) only [nI_ltI, nI_leI, nI_eq] at c62
        omega
    · intro k hk ih J hi hi1 hi2 hi3 hi4
      have j1 : J 1 = I 1 := hi 1 (by decide) (by decide) (by omega) (by omega)
      have j2 : J 2 = I 2 := hi 2 (by decide) (by decide) (by omega) (by omega)
      have j3 : J 3 = I 3 := hi 3 (by decide) (by decide) (by omega) (by omega)
      have j5 : J 5 = I 5 := hi 5 (by decide) (by decide) (by omega) (by omega)
      have jR : okRule J (ruleN ri) sem := hs.o0 (hi _ (rnW ri hri).1 (by have := rn_b hri; omega) (by have := rn_b hri; omega) (by have := rn_b hri; omega)) (hi _ (rnW ri hri).2 (by have := rn_b hri; omega) (by have := rn_b hri; omega) (by have := rn_b hri; omega))
      refine s_iload (tb_ok aX7_film_1 6 rfl) rfl ?_
      refine s_iload_n (tb_ok aX7_film_1 7 rfl) rfl ?_
      refine s_icmp_ge (tgt := 106) (tb_ok aX7_film_1 8 rfl) (by decide) (fun c62 => ?_) (fun c62 => ?_)
      · simp (disch := omega) only [nI_ltI, nI_leI, nI_eq] at c62
        omega
      · refine s_aload_n (tb_ok aX7_film_1 9 rfl) rfl ?_
        refine s_getR (r := 64) (tb_ok aX7_film_1 10 rfl) f_RX7_101 rfl rfl rfl ?_
        refine s_aload_n (tb_ok aX7_film_1 11 rfl) rfl ?_
        refine s_getR (r := 27) (tb_ok aX7_film_1 12 rfl) f_RX7_36 rfl rfl rfl ?_
        refine s_aload_n (tb_ok aX7_film_1 13 rfl) rfl ?_
        refine s_getR (r := 5) (tb_ok aX7_film_1 14 rfl) f_RX7_19 rfl rfl rfl ?_
        refine s_getI (tb_ok aX7_film_1 15 rfl) f_RX7_127 rfl rfl rfl ?_
        refine s_iload (tb_ok aX7_film_1 16 rfl) rfl ?_
        refine s_iadd (tb_ok aX7_film_1 17 rfl) ?_
        refine s_cV (as := [.ref 27, _]) (tb_ok aX7_film_1 18 rfl) v_RX7_285 (E_pass (by rw [j1]; exact hm) hm10 hri hq jR (o := 27) rfl _) (by decide) rfl rfl rfl rfl rfl (Nat.le_of_ble_eq_true rfl) (by decide) (fun r1 S1 I1 L1 R1 q1 => ?_)
        obtain ⟨rfl, rfl, hA, rfl, rfl⟩ := q1
        have h27 : T5 (I1 27) (itP sem (I 2) (I 3) m (I 5 2) (I (5 + 2 + j)) (k + 1)) := by
          rw [hA.atO (by decide), j2, j3, j5]
          exact T5.pas hi4 sem (I 2) (I 3) m (I 5 2 + nI k)
        have hok1 : okT (itP sem (I 2) (I 3) m (I 5 2) (I (5 + 2 + j)) (k + 1)) := okT.itP hfa hto (I 5 2) (k + 1)
        have hr2 : I1 (rowN s) 2 = nI n := by rw [hA.at1 (rw_b hrs).2.2.1 (by omega)]; exact hi2
        have hr1 : I1 (rowN s) 1 = 0 := by rw [hA.at1 (rw_b hrs).2.2.1 (by omega)]; exact hi1
        refine s_aload (tb_ok aX7_film_1 19 rfl) rfl ?_
        refine s_iload (tb_ok aX7_film_1 20 rfl) rfl ?_
        refine s_aload_n (tb_ok aX7_film_1 21 rfl) rfl ?_
        refine s_getR (r := 27) (tb_ok aX7_film_1 22 rfl) f_RX7_36 rfl rfl rfl ?_
        refine s_getI (tb_ok aX7_film_1 23 rfl) f_RX7_219 rfl rfl rfl ?_
        refine s_cV (as := [.int (nI k), _]) (tb_ok aX7_film_2 0 rfl) v_RX7_288 (E_Rput (row0 q hrs) _ _) (by decide) (row0 q hrs).1 rfl rfl rfl rfl (Nat.le_of_ble_eq_true rfl) (by decide) (fun r2 S2 I2 L2 R2 q2 => ?_)
        rw [if_pos ⟨nI_pos (by omega), by rw [hr2]; simp (disch := omega) only [nI_ltI]; omega, by simp (disch := omega) only [nI_ltI]; omega⟩, nI_clamp (by omega), hr1] at q2
        obtain ⟨rfl, rfl, rfl, rfl, rfl⟩ := q2
        refine s_iinc (v := nI (k + 1)) (ls' := [some (.ref 0), some (.int (nI s)), some (.int (nI j)), some (.int (nI n)), some (.ref (rowN s)), some (.ref (5 + 2 + j)), some (.int (nI (k + 1)))]) (tb_ok aX7_film_2 1 rfl) rfl (nI_1 _) rfl rfl ?_
        refine s_goto (tgt := 59) (tb_ok aX7_film_2 2 rfl) (by decide) ?_
        refine ih _ ?_ ?_ ?_ ?_ ?_
        · intro a h1 h2 h3 h4
          rw [up2_n _ _ h4, hA.at1 (W1_0 h1) (fun e => by rw [e] at h1; cases h1)]
          exact hi a h1 h2 h3 h4
        · rw [up2_n _ _ (by omega)]; exact hr1
        · rw [up2_n _ _ (by omega)]; exact hr2
        · intro t ht
          by_cases e : t = k
          · subst e
            rw [up2_oo]
            show cvt 0 _ = itP sem (I 2) (I 3) m (I 5 2) (I (5 + 2 + j)) (t + 1) 3
            obtain ⟨a, ha, ea⟩ := hok1.2.2.2.1
            rw [h27 3 (by decide), ea]
            exact cvt0 a ha
          · rw [up2_nn _ _ (fun e2 => e e2.2), hA.at1 (rw_b hrs).2.2.2 (by omega)]
            exact hi3 t (by omega)
        · rw [up2_n _ _ (by omega)]; exact h27
  refine ev_of (by decide +kernel) rfl ?_
  show SW X _ _ _ 0 [some (.ref 0), some (.int (nI s)), some (.int (nI j)), some (.int (nI n)), none, none, none] [] S0 I L (R0 q) _
  refine s_aload_n (tb_ok aX7_film_0 0 rfl) rfl ?_
  refine s_iload_n (tb_ok aX7_film_0 1 rfl) rfl ?_
  refine s_cVp (as := [.int (nI s)]) (tb_ok aX7_film_0 2 rfl) v_RX7_248 (E_rowAt hrs) (by decide) rfl rfl rfl rfl rfl (Nat.le_of_ble_eq_true rfl) (by decide) ?_
  refine s_astore (ls' := [some (.ref 0), some (.int (nI s)), some (.int (nI j)), some (.int (nI n)), some (.ref (rowN s)), none, none]) (tb_ok aX7_film_0 3 rfl) rfl rfl ?_
  refine s_aload_n (tb_ok aX7_film_0 4 rfl) rfl ?_
  refine s_getR (r := 5) (tb_ok aX7_film_0 5 rfl) f_RX7_19 rfl rfl rfl ?_
  refine s_iload_n (tb_ok aX7_film_0 6 rfl) rfl ?_
  refine s_cVp (as := [.int (nI j)]) (tb_ok aX7_film_0 7 rfl) v_RX7_115 (E_at (orch5 q) hM hM5 hj) (by decide) rfl rfl rfl rfl rfl (Nat.le_of_ble_eq_true rfl) (by decide) ?_
  refine s_astore (ls' := [some (.ref 0), some (.int (nI s)), some (.int (nI j)), some (.int (nI n)), some (.ref (rowN s)), some (.ref (5 + 2 + j)), none]) (tb_ok aX7_film_0 8 rfl) rfl rfl ?_
  refine s_aload (tb_ok aX7_film_0 9 rfl) rfl ?_
  refine s_ifnull (tb_ok aX7_film_0 10 rfl) ?_
  refine s_aload (tb_ok aX7_film_0 11 rfl) rfl ?_
  refine s_ifnull (tb_ok aX7_film_0 12 rfl) ?_
  refine s_iload_n (tb_ok aX7_film_0 13 rfl) rfl ?_
  refine s_if_lt (tgt := 37) (tb_ok aX7_film_0 14 rfl) (by decide) (fun c28 => ?_) (fun c28 => ?_)
  · exact absurd c28 (nI_pos (by omega))
  · refine s_iload_n (tb_ok aX7_film_0 15 rfl) rfl ?_
    refine s_bipush (v := nI 20) (tb_ok aX7_film_0 16 rfl) (by decide) ?_
    refine s_icmp_le (tgt := 40) (tb_ok aX7_film_0 17 rfl) (by decide) (fun c34 => ?_) (fun c34 => ?_)
    · refine s_aload (tb_ok aX7_film_0 20 rfl) rfl ?_
      refine s_iconst (v := 0) (tb_ok aX7_film_0 21 rfl) (by decide) ?_
      refine s_iload_n (tb_ok aX7_film_0 22 rfl) rfl ?_
      refine s_cV (as := [.int (0), .int (nI n)]) (tb_ok aX7_film_0 23 rfl) v_RX7_278 (E_Rbegin (row0 q hrs) _ _) (by decide) (row0 q hrs).1 rfl rfl rfl rfl (Nat.le_of_ble_eq_true rfl) (by decide) (fun r1 S1 I1 L1 R1 q1 => ?_)
      obtain ⟨rfl, rfl, rfl, rfl, rfl⟩ := q1
      refine s_aload_n (tb_ok aX7_film_1 0 rfl) rfl ?_
      refine s_getR (r := 27) (tb_ok aX7_film_1 1 rfl) f_RX7_36 rfl rfl rfl ?_
      refine s_aload (tb_ok aX7_film_1 2 rfl) rfl ?_
      refine s_cV (as := [.ref (5 + 2 + j)]) (tb_ok aX7_film_1 3 rfl) v_RX7_281 (E_Tbecome (by rfl : S0[27]? = some (5, 5)) hob) (by decide) rfl rfl rfl rfl rfl (Nat.le_of_ble_eq_true rfl) (by decide) (fun r2 S2 I2 L2 R2 q2 => ?_)
      obtain ⟨rfl, rfl, rfl, rfl, rfl⟩ := q2
      refine s_iconst (v := nI 0) (tb_ok aX7_film_1 4 rfl) (by decide) ?_
      refine s_istore (ls' := [some (.ref 0), some (.int (nI s)), some (.int (nI j)), some (.int (nI n)), some (.ref (rowN s)), some (.ref (5 + 2 + j)), some (.int (nI 0))]) (tb_ok aX7_film_1 5 rfl) rfl rfl ?_
      refine loop 0 (Nat.zero_le _) _ ?_ ?_ ?_ (fun t ht => absurd ht (Nat.not_lt_zero t)) ?_
      · intro a h1 h2 h3 h4
        rw [setO_n (fun e => by rw [e] at h1; cases h1), setO_n h4, setO_n h3]
      · rw [setO_n (by omega), setO_n (by omega), setO_o]; rfl
      · rw [setO_n (by omega), setO_n (by omega), setO_o]; rfl
      · rw [setO_o]
        refine T5.tr T5.cp ?_
        rw [setO_n (by omega), setO_n (by omega)]
        exact T5.rf
    · exact absurd (nI_s hn (by decide)) c34

set_option maxRecDepth 100000 in
set_option maxHeartbeats 1000000 in
theorem C_filmX {X : En} {I : FI} {L : FL} {q : Nat × Nat} {m M ri : Nat} {sem : Nat → Sem} (h : CSt I q m M ri sem) {j : Nat} (hj : j < M) {x w : Int32} (hx : x < 0 ∨ nI 4 ≤ x) : Ev X 9 mX7_film (0, 0) [.ref 0, .int x, .int (nI j), .int w] S0 I L (R0 q) (AgLR (some (.int (-2))) (I) L q) := by
  obtain ⟨hm, hm10, hM, hM5, hri, hq, hs⟩ := id h
  have hj5 : j < 5 := by omega
  have hob : S0[5 + 2 + j]? = some (5, 5) := ((orch5 q).2.2.2.1 j hj5).2
  have h27 : 5 + 2 + j ≠ 27 := (wT j hj5).2
  refine ev_of (by decide +kernel) rfl ?_
  show SW X _ _ _ 0 [some (.ref 0), some (.int x), some (.int (nI j)), some (.int w), none, none, none] [] S0 I L (R0 q) _
  refine s_aload_n (tb_ok aX7_film_0 0 rfl) rfl ?_
  refine s_iload_n (tb_ok aX7_film_0 1 rfl) rfl ?_
  refine s_cVp (as := [.int x]) (tb_ok aX7_film_0 2 rfl) v_RX7_248 (E_rowAtN hx) (by decide) rfl rfl rfl rfl rfl (Nat.le_of_ble_eq_true rfl) (by decide) ?_
  refine s_astoreN (ls' := [some (.ref 0), some (.int x), some (.int (nI j)), some (.int w), some (.null), none, none]) (tb_ok aX7_film_0 3 rfl) rfl rfl ?_
  refine s_aload_n (tb_ok aX7_film_0 4 rfl) rfl ?_
  refine s_getR (r := 5) (tb_ok aX7_film_0 5 rfl) f_RX7_19 rfl rfl rfl ?_
  refine s_iload_n (tb_ok aX7_film_0 6 rfl) rfl ?_
  refine s_cVp (as := [.int (nI j)]) (tb_ok aX7_film_0 7 rfl) v_RX7_115 (E_at (orch5 q) hM hM5 hj) (by decide) rfl rfl rfl rfl rfl (Nat.le_of_ble_eq_true rfl) (by decide) ?_
  refine s_astore (ls' := [some (.ref 0), some (.int x), some (.int (nI j)), some (.int w), some (.null), some (.ref (5 + 2 + j)), none]) (tb_ok aX7_film_0 8 rfl) rfl rfl ?_
  refine s_aloadq (r := none) (tb_ok aX7_film_0 9 rfl) rfl ?_
  refine s_ifnullN (tgt := 37) (tb_ok aX7_film_0 10 rfl) (by decide) ?_
  refine s_bipush (v := -2) (tb_ok aX7_film_0 18 rfl) (by decide) ?_
  refine s_iret (tb_ok aX7_film_0 19 rfl) rfl ?_
  exact ⟨rfl, rfl, AgL.rf, rfl, rfl⟩

set_option maxRecDepth 100000 in
set_option maxHeartbeats 1000000 in
theorem C_filmH1 {X : En} {I : FI} {L : FL} {q : Nat × Nat} {m M ri : Nat} {sem : Nat → Sem} (h : CSt I q m M ri sem) {x : Int32} (hx : x < 0 ∨ nI M ≤ x) {s : Nat} (hrs : s < 4) {w : Int32} : Ev X 9 mX7_film (0, 0) [.ref 0, .int (nI s), .int x, .int w] S0 I L (R0 q) (AgLR (some (.int (-2))) (I) L q) := by
  obtain ⟨hm, hm10, hM, hM5, hri, hq, hs⟩ := id h
  refine ev_of (by decide +kernel) rfl ?_
  show SW X _ _ _ 0 [some (.ref 0), some (.int (nI s)), some (.int x), some (.int w), none, none, none] [] S0 I L (R0 q) _
  refine s_aload_n (tb_ok aX7_film_0 0 rfl) rfl ?_
  refine s_iload_n (tb_ok aX7_film_0 1 rfl) rfl ?_
  refine s_cVp (as := [.int (nI s)]) (tb_ok aX7_film_0 2 rfl) v_RX7_248 (E_rowAt hrs) (by decide) rfl rfl rfl rfl rfl (Nat.le_of_ble_eq_true rfl) (by decide) ?_
  refine s_astore (ls' := [some (.ref 0), some (.int (nI s)), some (.int x), some (.int w), some (.ref (rowN s)), none, none]) (tb_ok aX7_film_0 3 rfl) rfl rfl ?_
  refine s_aload_n (tb_ok aX7_film_0 4 rfl) rfl ?_
  refine s_getR (r := 5) (tb_ok aX7_film_0 5 rfl) f_RX7_19 rfl rfl rfl ?_
  refine s_iload_n (tb_ok aX7_film_0 6 rfl) rfl ?_
  refine s_cVp (as := [.int x]) (tb_ok aX7_film_0 7 rfl) v_RX7_115 (E_atN (orch5 q) hM hM5 hx) (by decide) rfl rfl rfl rfl rfl (Nat.le_of_ble_eq_true rfl) (by decide) ?_
  refine s_astoreN (ls' := [some (.ref 0), some (.int (nI s)), some (.int x), some (.int w), some (.ref (rowN s)), some (.null), none]) (tb_ok aX7_film_0 8 rfl) rfl rfl ?_
  refine s_aload (tb_ok aX7_film_0 9 rfl) rfl ?_
  refine s_ifnull (tb_ok aX7_film_0 10 rfl) ?_
  refine s_aloadq (r := none) (tb_ok aX7_film_0 11 rfl) rfl ?_
  refine s_ifnullN (tgt := 37) (tb_ok aX7_film_0 12 rfl) (by decide) ?_
  refine s_bipush (v := -2) (tb_ok aX7_film_0 18 rfl) (by decide) ?_
  refine s_iret (tb_ok aX7_film_0 19 rfl) rfl ?_
  exact ⟨rfl, rfl, AgL.rf, rfl, rfl⟩

set_option maxRecDepth 100000 in
set_option maxHeartbeats 1000000 in
theorem C_filmH2 {X : En} {I : FI} {L : FL} {q : Nat × Nat} {m M ri : Nat} {sem : Nat → Sem} (h : CSt I q m M ri sem) {x : Int32} (hx : x < 0 ∨ nI M ≤ x) {z w : Int32} (hz : z < 0 ∨ nI 4 ≤ z) : Ev X 9 mX7_film (0, 0) [.ref 0, .int z, .int x, .int w] S0 I L (R0 q) (AgLR (some (.int (-2))) (I) L q) := by
  obtain ⟨hm, hm10, hM, hM5, hri, hq, hs⟩ := id h
  refine ev_of (by decide +kernel) rfl ?_
  show SW X _ _ _ 0 [some (.ref 0), some (.int z), some (.int x), some (.int w), none, none, none] [] S0 I L (R0 q) _
  refine s_aload_n (tb_ok aX7_film_0 0 rfl) rfl ?_
  refine s_iload_n (tb_ok aX7_film_0 1 rfl) rfl ?_
  refine s_cVp (as := [.int z]) (tb_ok aX7_film_0 2 rfl) v_RX7_248 (E_rowAtN hz) (by decide) rfl rfl rfl rfl rfl (Nat.le_of_ble_eq_true rfl) (by decide) ?_
  refine s_astoreN (ls' := [some (.ref 0), some (.int z), some (.int x), some (.int w), some (.null), none, none]) (tb_ok aX7_film_0 3 rfl) rfl rfl ?_
  refine s_aload_n (tb_ok aX7_film_0 4 rfl) rfl ?_
  refine s_getR (r := 5) (tb_ok aX7_film_0 5 rfl) f_RX7_19 rfl rfl rfl ?_
  refine s_iload_n (tb_ok aX7_film_0 6 rfl) rfl ?_
  refine s_cVp (as := [.int x]) (tb_ok aX7_film_0 7 rfl) v_RX7_115 (E_atN (orch5 q) hM hM5 hx) (by decide) rfl rfl rfl rfl rfl (Nat.le_of_ble_eq_true rfl) (by decide) ?_
  refine s_astoreN (ls' := [some (.ref 0), some (.int z), some (.int x), some (.int w), some (.null), some (.null), none]) (tb_ok aX7_film_0 8 rfl) rfl rfl ?_
  refine s_aloadq (r := none) (tb_ok aX7_film_0 9 rfl) rfl ?_
  refine s_ifnullN (tgt := 37) (tb_ok aX7_film_0 10 rfl) (by decide) ?_
  refine s_bipush (v := -2) (tb_ok aX7_film_0 18 rfl) (by decide) ?_
  refine s_iret (tb_ok aX7_film_0 19 rfl) rfl ?_
  exact ⟨rfl, rfl, AgL.rf, rfl, rfl⟩

set_option maxRecDepth 100000 in
set_option maxHeartbeats 1000000 in
theorem C_filmW {X : En} {I : FI} {L : FL} {q : Nat × Nat} {m M ri : Nat} {sem : Nat → Sem} (h : CSt I q m M ri sem) {j : Nat} (hj : j < M) {s : Nat} (hrs : s < 4) {w : Int32} (hw : ¬ (¬ w < 0 ∧ w ≤ 20)) : Ev X 9 mX7_film (0, 0) [.ref 0, .int (nI s), .int (nI j), .int w] S0 I L (R0 q) (AgLR (some (.int (-2))) (I) L q) := by
  obtain ⟨hm, hm10, hM, hM5, hri, hq, hs⟩ := id h
  have hj5 : j < 5 := by omega
  have hob : S0[5 + 2 + j]? = some (5, 5) := ((orch5 q).2.2.2.1 j hj5).2
  have h27 : 5 + 2 + j ≠ 27 := (wT j hj5).2
  refine ev_of (by decide +kernel) rfl ?_
  show SW X _ _ _ 0 [some (.ref 0), some (.int (nI s)), some (.int (nI j)), some (.int w), none, none, none] [] S0 I L (R0 q) _
  refine s_aload_n (tb_ok aX7_film_0 0 rfl) rfl ?_
  refine s_iload_n (tb_ok aX7_film_0 1 rfl) rfl ?_
  refine s_cVp (as := [.int (nI s)]) (tb_ok aX7_film_0 2 rfl) v_RX7_248 (E_rowAt hrs) (by decide) rfl rfl rfl rfl rfl (Nat.le_of_ble_eq_true rfl) (by decide) ?_
  refine s_astore (ls' := [some (.ref 0), some (.int (nI s)), some (.int (nI j)), some (.int w), some (.ref (rowN s)), none, none]) (tb_ok aX7_film_0 3 rfl) rfl rfl ?_
  refine s_aload_n (tb_ok aX7_film_0 4 rfl) rfl ?_
  refine s_getR (r := 5) (tb_ok aX7_film_0 5 rfl) f_RX7_19 rfl rfl rfl ?_
  refine s_iload_n (tb_ok aX7_film_0 6 rfl) rfl ?_
  refine s_cVp (as := [.int (nI j)]) (tb_ok aX7_film_0 7 rfl) v_RX7_115 (E_at (orch5 q) hM hM5 hj) (by decide) rfl rfl rfl rfl rfl (Nat.le_of_ble_eq_true rfl) (by decide) ?_
  refine s_astore (ls' := [some (.ref 0), some (.int (nI s)), some (.int (nI j)), some (.int w), some (.ref (rowN s)), some (.ref (5 + 2 + j)), none]) (tb_ok aX7_film_0 8 rfl) rfl rfl ?_
  refine s_aload (tb_ok aX7_film_0 9 rfl) rfl ?_
  refine s_ifnull (tb_ok aX7_film_0 10 rfl) ?_
  refine s_aload (tb_ok aX7_film_0 11 rfl) rfl ?_
  refine s_ifnull (tb_ok aX7_film_0 12 rfl) ?_
  refine s_iload_n (tb_ok aX7_film_0 13 rfl) rfl ?_
  refine s_if_lt (tgt := 37) (tb_ok aX7_film_0 14 rfl) (by decide) (fun c28 => ?_) (fun c28 => ?_)
  · refine s_bipush (v := -2) (tb_ok aX7_film_0 18 rfl) (by decide) ?_
    refine s_iret (tb_ok aX7_film_0 19 rfl) rfl ?_
    exact ⟨rfl, rfl, AgL.rf, rfl, rfl⟩
  · refine s_iload_n (tb_ok aX7_film_0 15 rfl) rfl ?_
    refine s_bipush (v := 20) (tb_ok aX7_film_0 16 rfl) (by decide) ?_
    refine s_icmp_le (tgt := 40) (tb_ok aX7_film_0 17 rfl) (by decide) (fun c34 => ?_) (fun c34 => ?_)
    · exact absurd ⟨c28, c34⟩ hw
    · refine s_bipush (v := -2) (tb_ok aX7_film_0 18 rfl) (by decide) ?_
      refine s_iret (tb_ok aX7_film_0 19 rfl) rfl ?_
      exact ⟨rfl, rfl, AgL.rf, rfl, rfl⟩
