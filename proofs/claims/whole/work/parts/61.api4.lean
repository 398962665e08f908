/-! the class: texts, force, tell, day, film, image, back, sheets -/
theorem AgW.l {I J : FI} (h : AgW I J) : AgL I J := h.v.l
/-- all but a row -/
def AgF (s : Nat) (I I' : FI) : Prop := ∀ a, W1 a = false → a ≠ 4 → a ≠ rowN s → a ≠ rowN s + 1 → I' a = I a
set_option maxRecDepth 100000 in
set_option maxHeartbeats 1000000 in
theorem C_force {X : En} {I : FI} {L : FL} {q : Nat × Nat} {tx i : Nat} (htx : I 0 10 = nI tx) (htx6 : tx ≤ 6) (hi : i < tx) : Ev X 9 mX7_force (0, 0) [.ref 0, .int (nI i)] S0 I L (R0 q) (PureR (some (.int (I 5 3))) S0 (up2 I 5 3 (nI i)) L (R0 (ruleN i, q.2))) := by
  refine ev_of (by decide +kernel) rfl ?_
  show SW X _ _ _ 0 [some (.ref 0), some (.int (nI i)), none, none] [] S0 I L (R0 q) _
  refine s_iload_n (tb_ok aX7_force_0 0 rfl) rfl ?_
  refine s_aload_n (tb_ok aX7_force_0 1 rfl) rfl ?_
  refine s_getI (x := (nI tx)) (tb_ok aX7_force_0 2 rfl) f_RX7_51 rfl rfl htx ?_
  refine s_icmp_ge (tgt := 16) (tb_ok aX7_force_0 3 rfl) (by decide) (fun c5 => ?_) (fun c5 => ?_)
  · simp (disch := omega) only [nI_leI] at c5
    omega
  · refine s_aload_n (tb_ok aX7_force_0 4 rfl) rfl ?_
    refine s_iload_n (tb_ok aX7_force_0 5 rfl) rfl ?_
    refine s_cVp (as := [.int (nI i)]) (tb_ok aX7_force_0 6 rfl) v_RX7_168 (E_ruleAt (by omega)) (by decide) rfl rfl rfl rfl rfl (Nat.le_of_ble_eq_true rfl) (by decide) ?_
    refine s_goto (tgt := 17) (tb_ok aX7_force_0 7 rfl) (by decide) ?_
    refine s_astore_n (ls' := [some (.ref 0), some (.int (nI i)), some (.ref (ruleN i)), none]) (tb_ok aX7_force_0 9 rfl) rfl rfl ?_
    refine s_aload_n (tb_ok aX7_force_0 10 rfl) rfl ?_
    refine s_ifnonnull (tgt := 25) (tb_ok aX7_force_0 11 rfl) (by decide) ?_
    refine s_aload_n (tb_ok aX7_force_0 14 rfl) rfl ?_
    refine s_getR (r := 5) (tb_ok aX7_force_0 15 rfl) f_RX7_19 rfl rfl rfl ?_
    refine s_getI (tb_ok aX7_force_0 16 rfl) f_RX7_172 rfl rfl rfl ?_
    refine s_name (fun x1 ex1 => ?_)
    refine s_istore_n (ls' := [some (.ref 0), some (.int (nI i)), some (.ref (ruleN i)), some (.int x1)]) (tb_ok aX7_force_0 17 rfl) rfl rfl ?_
    refine s_aload_n (tb_ok aX7_force_0 18 rfl) rfl ?_
    refine s_getR (r := 5) (tb_ok aX7_force_0 19 rfl) f_RX7_19 rfl rfl rfl ?_
    refine s_iload_n (tb_ok aX7_force_0 20 rfl) rfl ?_
    refine s_putI (tb_ok aX7_force_0 21 rfl) f_RX7_172 rfl rfl ?_
    refine s_aload_n (tb_ok aX7_force_0 22 rfl) rfl ?_
    refine s_getR (r := 64) (tb_ok aX7_force_0 23 rfl) f_RX7_101 rfl rfl rfl ?_
    refine s_aload_n (tb_ok aX7_force_1 0 rfl) rfl ?_
    refine s_putR (tb_ok aX7_force_1 1 rfl) f_RX7_175 rfl rfl ?_
    rw [R0_wy]
    refine s_iload_n (tb_ok aX7_force_1 2 rfl) rfl ?_
    refine s_iret (tb_ok aX7_force_1 3 rfl) rfl ?_
    rw [ex1]
    exact pureR

set_option maxRecDepth 100000 in
set_option maxHeartbeats 1000000 in
theorem C_forceL {X : En} {I : FI} {L : FL} {q : Nat × Nat} {tx : Nat} {x : Int32} (htx : I 0 10 = nI tx) (hx0 : x < 0) : Ev X 9 mX7_force (0, 0) [.ref 0, .int x] S0 I L (R0 q) (AgLR (some (.int (-2))) (I) L q) := by
  refine ev_of (by decide +kernel) rfl ?_
  show SW X _ _ _ 0 [some (.ref 0), some (.int x), none, none] [] S0 I L (R0 q) _
  refine s_iload_n (tb_ok aX7_force_0 0 rfl) rfl ?_
  refine s_aload_n (tb_ok aX7_force_0 1 rfl) rfl ?_
  refine s_getI (x := (nI tx)) (tb_ok aX7_force_0 2 rfl) f_RX7_51 rfl rfl htx ?_
  refine s_icmp_ge (tgt := 16) (tb_ok aX7_force_0 3 rfl) (by decide) (fun c5 => ?_) (fun c5 => ?_)
  · refine s_null (tb_ok aX7_force_0 8 rfl) ?_
    refine s_astoreN_n (ls' := [some (.ref 0), some (.int x), some (.null), none]) (tb_ok aX7_force_0 9 rfl) rfl rfl ?_
    refine s_aloadq_n (r := none) (tb_ok aX7_force_0 10 rfl) rfl ?_
    refine s_ifnonnullN (tb_ok aX7_force_0 11 rfl) ?_
    refine s_bipush (v := -2) (tb_ok aX7_force_0 12 rfl) (by decide) ?_
    refine s_iret (tb_ok aX7_force_0 13 rfl) rfl ?_
    exact ⟨rfl, rfl, AgL.rf, rfl, rfl⟩
  · refine s_aload_n (tb_ok aX7_force_0 4 rfl) rfl ?_
    refine s_iload_n (tb_ok aX7_force_0 5 rfl) rfl ?_
    refine s_cVp (as := [.int x]) (tb_ok aX7_force_0 6 rfl) v_RX7_168 (E_ruleAtN (Or.inl hx0)) (by decide) rfl rfl rfl rfl rfl (Nat.le_of_ble_eq_true rfl) (by decide) ?_
    refine s_goto (tgt := 17) (tb_ok aX7_force_0 7 rfl) (by decide) ?_
    refine s_astoreN_n (ls' := [some (.ref 0), some (.int x), some (.null), none]) (tb_ok aX7_force_0 9 rfl) rfl rfl ?_
    refine s_aloadq_n (r := none) (tb_ok aX7_force_0 10 rfl) rfl ?_
    refine s_ifnonnullN (tb_ok aX7_force_0 11 rfl) ?_
    refine s_bipush (v := -2) (tb_ok aX7_force_0 12 rfl) (by decide) ?_
    refine s_iret (tb_ok aX7_force_0 13 rfl) rfl ?_
    exact ⟨rfl, rfl, AgL.rf, rfl, rfl⟩

set_option maxRecDepth 100000 in
set_option maxHeartbeats 1000000 in
theorem C_forceH {X : En} {I : FI} {L : FL} {q : Nat × Nat} {tx : Nat} {x : Int32} (htx : I 0 10 = nI tx) (hx : nI tx ≤ x) : Ev X 9 mX7_force (0, 0) [.ref 0, .int x] S0 I L (R0 q) (AgLR (some (.int (-2))) (I) L q) := by
  refine ev_of (by decide +kernel) rfl ?_
  show SW X _ _ _ 0 [some (.ref 0), some (.int x), none, none] [] S0 I L (R0 q) _
  refine s_iload_n (tb_ok aX7_force_0 0 rfl) rfl ?_
  refine s_aload_n (tb_ok aX7_force_0 1 rfl) rfl ?_
  refine s_getI (x := (nI tx)) (tb_ok aX7_force_0 2 rfl) f_RX7_51 rfl rfl htx ?_
  refine s_icmp_ge (tgt := 16) (tb_ok aX7_force_0 3 rfl) (by decide) (fun c5 => ?_) (fun c5 => ?_)
  · refine s_null (tb_ok aX7_force_0 8 rfl) ?_
    refine s_astoreN_n (ls' := [some (.ref 0), some (.int x), some (.null), none]) (tb_ok aX7_force_0 9 rfl) rfl rfl ?_
    refine s_aloadq_n (r := none) (tb_ok aX7_force_0 10 rfl) rfl ?_
    refine s_ifnonnullN (tb_ok aX7_force_0 11 rfl) ?_
    refine s_bipush (v := -2) (tb_ok aX7_force_0 12 rfl) (by decide) ?_
    refine s_iret (tb_ok aX7_force_0 13 rfl) rfl ?_
    exact ⟨rfl, rfl, AgL.rf, rfl, rfl⟩
  · exact absurd hx c5

set_option maxRecDepth 100000 in
set_option maxHeartbeats 1000000 in
theorem C_textF {X : En} {I : FI} {L : FL} {q : Nat × Nat} (htx : I 0 10 = nI 6) : Ev X 60 mX7_text (0, 0) [.ref 0] S0 I L (R0 q) (AgLR (some (.int (-4))) (I) L q) := by
  refine ev_of (by decide +kernel) rfl ?_
  show SW X _ _ _ 0 [some (.ref 0), none, none] [] S0 I L (R0 q) _
  refine s_aload_n (tb_ok aX7_text_0 0 rfl) rfl ?_
  refine s_aload_n (tb_ok aX7_text_0 1 rfl) rfl ?_
  refine s_getI (x := (nI 6)) (tb_ok aX7_text_0 2 rfl) f_RX7_51 rfl rfl htx ?_
  refine s_cVp (as := [.int (nI 6)]) (tb_ok aX7_text_0 3 rfl) v_RX7_168 (E_ruleAtN (Or.inr (by simp (disch := omega) only [nI_leI]; omega))) (by decide) rfl rfl rfl rfl rfl (Nat.le_of_ble_eq_true rfl) (by decide) ?_
  refine s_astoreN_n (ls' := [some (.ref 0), some (.null), none]) (tb_ok aX7_text_0 4 rfl) rfl rfl ?_
  refine s_aloadq_n (r := none) (tb_ok aX7_text_0 5 rfl) rfl ?_
  refine s_ifnonnullN (tb_ok aX7_text_0 6 rfl) ?_
  refine s_bipush (v := -4) (tb_ok aX7_text_0 7 rfl) (by decide) ?_
  refine s_iret (tb_ok aX7_text_0 8 rfl) rfl ?_
  exact ⟨rfl, rfl, AgL.rf, rfl, rfl⟩

/-- what a text leaves with the class: refused (some place), or taken -/
def ZC (tx : Nat) : TR → Int32 → FI → Prop
  | .inl p, v, I => v = nI tx ∧ I 0 10 = nI (tx + 1) ∧ okRule I (ruleN tx) (sem3 p.2.2.2.1 p.2.2.2.2.1 p.2.2.2.2.2)
  | .inr f, v, I => v = -100 - nI f ∧ I 0 10 = nI tx
def AgX2 (tx : Nat) (I I' : FI) : Prop := (∀ a, a ≠ 62 → a ≠ ruleN tx → a ≠ ruleN tx + 1 → a ≠ ruleN tx + 2 → a ≠ 0 → I' a = I a) ∧ I' 62 1 = 0 ∧ ∀ k, k ≠ 10 → I' 0 k = I 0 k
theorem rn_b {i : Nat} (h : i < 6) : 30 ≤ ruleN i ∧ ruleN i + 3 < 54 := by unfold ruleN; omega
theorem okRule.o0 {I J : FI} {o : Nat} {sem : Nat → Sem} (h : okRule I o sem) (h1 : J (o + 1) = I (o + 1)) (h2 : J (o + 2) = I (o + 2)) : okRule J o sem := by
  obtain ⟨e, a, b, c, d, g⟩ := h
  exact ⟨e, fun j hj => by rw [h2]; exact a j hj, b, c, d, fun pt hp nm w => by rw [h1]; exact g pt hp nm w⟩
set_option maxRecDepth 100000 in
set_option maxHeartbeats 1000000 in
theorem C_text {X : En} {I : FI} {L : FL} {q : Nat × Nat} {tx n : Nat} (htx : I 0 10 = nI tx) (htx6 : tx < 6) (hn : I 62 1 = nI n) (hn2 : n ≤ 160) : Ev X 60 mX7_text (0, 0) [.ref 0] S0 I L (R0 q) (fun r S' I' L' R' => S' = S0 ∧ L' = L ∧ R' = R0 (q.1, ruleN tx) ∧ AgX2 tx I I' ∧ ∃ v, r = some (.int v) ∧ ZC tx (readP (I 63) n (I 62 6)) v I') := by
  have hrg : ∀ g, readP (I 63) n (I 62 6) = .inr g → g ≤ n := fun g hg => by have hni := read_nice (I 63) n (I 62 6); rw [hg] at hni; exact hni
  refine ev_of (by decide +kernel) rfl ?_
  show SW X _ _ _ 0 [some (.ref 0), none, none] [] S0 I L (R0 q) _
  refine s_aload_n (tb_ok aX7_text_0 0 rfl) rfl ?_
  refine s_aload_n (tb_ok aX7_text_0 1 rfl) rfl ?_
  refine s_getI (x := (nI tx)) (tb_ok aX7_text_0 2 rfl) f_RX7_51 rfl rfl htx ?_
  refine s_cVp (as := [.int (nI tx)]) (tb_ok aX7_text_0 3 rfl) v_RX7_168 (E_ruleAt htx6) (by decide) rfl rfl rfl rfl rfl (Nat.le_of_ble_eq_true rfl) (by decide) ?_
  refine s_astore_n (ls' := [some (.ref 0), some (.ref (ruleN tx)), none]) (tb_ok aX7_text_0 4 rfl) rfl rfl ?_
  refine s_aload_n (tb_ok aX7_text_0 5 rfl) rfl ?_
  refine s_ifnonnull (tgt := 16) (tb_ok aX7_text_0 6 rfl) (by decide) ?_
  refine s_aload_n (tb_ok aX7_text_0 9 rfl) rfl ?_
  refine s_getR (r := 62) (tb_ok aX7_text_0 10 rfl) f_RX7_69 rfl rfl rfl ?_
  refine s_aload_n (tb_ok aX7_text_0 11 rfl) rfl ?_
  refine s_cV (as := [.ref (ruleN tx)]) (tb_ok aX7_text_0 12 rfl) v_RX7_89 (E_readInto (R := R0 q) rfl rfl rfl (rule0 q htx6) (by have := rn_b htx6; omega) hn hn2) (by decide) rfl rfl rfl rfl rfl (Nat.le_of_ble_eq_true rfl) (by decide) (fun r1 S1 I1 L1 R1 q1 => ?_)
  obtain ⟨rfl, rfl, rfl, hfr, hz⟩ := q1
  rw [R0_rd]
  cases hr : readP (I 63) n (I 62 6) with
  | inr g =>
    rw [hr] at hz
    have hz : r1 = some (.int (nI g)) := hz
    subst hz
    refine s_istore_n (ls' := [some (.ref 0), some (.ref (ruleN tx)), some (.int (nI g))]) (tb_ok aX7_text_0 13 rfl) rfl rfl ?_
    refine s_aload_n (tb_ok aX7_text_0 14 rfl) rfl ?_
    refine s_getR (r := 62) (tb_ok aX7_text_0 15 rfl) f_RX7_69 rfl rfl rfl ?_
    refine s_cV (as := []) (tb_ok aX7_text_0 16 rfl) v_RX7_93 (E_rclear (isRd q htx6)) (by decide) rfl rfl rfl rfl rfl (Nat.le_of_ble_eq_true rfl) (by decide) (fun r2 S2 I2 L2 R2 q2 => ?_)
    obtain ⟨rfl, rfl, rfl, rfl, rfl⟩ := q2
    refine s_iload_n (tb_ok aX7_text_0 17 rfl) rfl ?_
    refine s_iconst (v := -1) (tb_ok aX7_text_0 18 rfl) (by decide) ?_
    refine s_icmp_eq (tgt := 42) (tb_ok aX7_text_0 19 rfl) (by decide) (fun c34 => ?_) (fun c34 => ?_)
    · exact absurd c34 (nI_m1 (by have h160 := hrg g hr; omega))
    · refine s_bipush (v := -100) (tb_ok aX7_text_0 20 rfl) (by decide) ?_
      refine s_iload_n (tb_ok aX7_text_0 21 rfl) rfl ?_
      refine s_isub (tb_ok aX7_text_0 22 rfl) ?_
      refine s_iret (tb_ok aX7_text_0 23 rfl) rfl ?_
      have hb := rn_b htx6
      refine ⟨rfl, rfl, rfl, ?_, _, rfl, ?_⟩
      · refine ⟨fun a a1 a2 a3 a4 a5 => ?_, ?_, fun k hk => ?_⟩
        · rw [up2_n _ _ a1]; exact hfr.1 a a1 a2 a3 a4
        · exact up2_oo _ _ _ _
        · rw [up2_n _ _ (by omega)]; exact congrFun (hfr.1 0 (by omega) (by omega) (by omega) (by omega)) k
      · exact ⟨rfl, (congrFun ((up2_n _ _ (by omega)).trans (hfr.1 0 (by omega) (by omega) (by omega) (by omega))) 10).trans htx⟩
  | inl p =>
    rw [hr] at hz
    obtain ⟨hz, hok⟩ := hz
    subst hz
    refine s_istore_n (ls' := [some (.ref 0), some (.ref (ruleN tx)), some (.int (-1))]) (tb_ok aX7_text_0 13 rfl) rfl rfl ?_
    refine s_aload_n (tb_ok aX7_text_0 14 rfl) rfl ?_
    refine s_getR (r := 62) (tb_ok aX7_text_0 15 rfl) f_RX7_69 rfl rfl rfl ?_
    refine s_cV (as := []) (tb_ok aX7_text_0 16 rfl) v_RX7_93 (E_rclear (isRd q htx6)) (by decide) rfl rfl rfl rfl rfl (Nat.le_of_ble_eq_true rfl) (by decide) (fun r3 S3 I3 L3 R3 q3 => ?_)
    obtain ⟨rfl, rfl, rfl, rfl, rfl⟩ := q3
    refine s_iload_n (tb_ok aX7_text_0 17 rfl) rfl ?_
    refine s_iconst (v := -1) (tb_ok aX7_text_0 18 rfl) (by decide) ?_
    refine s_icmp_eq (tgt := 42) (tb_ok aX7_text_0 19 rfl) (by decide) (fun c34 => ?_) (fun c34 => ?_)
    · refine s_aload_n (tb_ok aX7_text_1 0 rfl) rfl ?_
      refine s_dup (tb_ok aX7_text_1 1 rfl) rfl ?_
      refine s_getI (x := (nI tx)) (tb_ok aX7_text_1 2 rfl) f_RX7_51 rfl rfl ((congrFun ((up2_n _ _ (by have hb := rn_b htx6; omega)).trans (hfr.1 0 (by omega) (by have hb := rn_b htx6; omega) (by have hb := rn_b htx6; omega) (by have hb := rn_b htx6; omega))) 10).trans htx) ?_
      refine s_iconst (v := 1) (tb_ok aX7_text_1 3 rfl) (by decide) ?_
      refine s_iadd (tb_ok aX7_text_1 4 rfl) ?_
      refine s_topi (z := (nI (tx + 1))) (nI_1 tx) ?_
      refine s_putI (tb_ok aX7_text_1 5 rfl) f_RX7_51 rfl rfl ?_
      refine s_aload_n (tb_ok aX7_text_1 6 rfl) rfl ?_
      refine s_getI (x := (nI (tx + 1))) (tb_ok aX7_text_1 7 rfl) f_RX7_51 rfl rfl (up2_oo _ _ _ _) ?_
      refine s_iconst (v := 1) (tb_ok aX7_text_1 8 rfl) (by decide) ?_
      refine s_isub (tb_ok aX7_text_1 9 rfl) ?_
      refine s_topi (z := (nI tx)) (nI_sub' (a := 1) (b := tx + 1) (by omega)) ?_
      refine s_iret (tb_ok aX7_text_1 10 rfl) rfl ?_
      have hb := rn_b htx6
      refine ⟨rfl, rfl, rfl, ?_, _, rfl, ?_⟩
      · refine ⟨fun a a1 a2 a3 a4 a5 => ?_, ?_, fun k hk => ?_⟩
        · rw [up2_n _ _ a5, up2_n _ _ a1]; exact hfr.1 a a1 a2 a3 a4
        · rw [up2_n _ _ (by omega)]; exact up2_oo _ _ _ _
        · rw [up2_nn _ _ (fun e => hk e.2), up2_n _ _ (by omega)]; exact congrFun (hfr.1 0 (by omega) (by omega) (by omega) (by omega)) k
      · exact ⟨rfl, up2_oo _ _ _ _, hok.o0 (by rw [up2_n _ _ (by omega), up2_n _ _ (by omega)]) (by rw [up2_n _ _ (by omega), up2_n _ _ (by omega)])⟩
    · exact absurd c34 (by decide)
