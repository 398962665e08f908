/-! the reference: calls that change something -/
theorem RSt.learn {I : FI} {m : Nat} {fr fa : Nat → Int32} {M : Nat} {T : Nat → Nat → Int32} {d : Nat} {sem : Nat → Sem} (h : RSt I m fr fa M T d sem) (hm : m < 10) {x : Int32} {g : Nat} (hg : g < 12) : RSt (up2 (up2 (up2 I 70 m x) 71 m (nI g)) 66 10 (nI (m + 1))) (m + 1) (upd fr m x) (upd fa m (nI g)) M T d sem := by
  obtain ⟨⟨a1, a2, a3⟩, hfa, hb, hd, hx, ho⟩ := h
  refine ⟨⟨rfl, by omega, fun k hk => ?_⟩, fun k hk => ?_, hb, hd, hx, ho⟩
  · by_cases e : k = m
    · subst e
      rw [upd_o, upd_o]
      exact ⟨by rw [up2_nn _ _ (fun e => by omega), up2_nn _ _ (fun e => by omega), up2_oo], by rw [up2_nn _ _ (fun e => by omega), up2_oo]⟩
    · rw [upd_ne e, upd_ne e]
      exact ⟨by rw [up2_nn _ _ (fun e => by omega), up2_nn _ _ (fun e => by omega), up2_nn _ _ (fun e2 => e e2.2)]; exact (a3 k (by omega)).1, by rw [up2_nn _ _ (fun e => by omega), up2_nn _ _ (fun e2 => e e2.2), up2_nn _ _ (fun e => by omega)]; exact (a3 k (by omega)).2⟩
  · by_cases e : k = m
    · subst e; rw [upd_o]; exact ⟨g, hg, rfl⟩
    · rw [upd_ne e]; exact hfa k (by omega)
def house6 (I : FI) (M : Nat) (k n : Int32) : FI := up2 (up2 (up2 (up2 (up2 (up2 I 72 M k) 73 (4 * M) n) 73 (4 * M + 1) 0) 73 (4 * M + 2) 50) 73 (4 * M + 3) 0) 66 13 (nI (M + 1))
theorem RSt.hous {I : FI} {m : Nat} {fr fa : Nat → Int32} {M : Nat} {T : Nat → Nat → Int32} {d : Nat} {sem : Nat → Sem} (h : RSt I m fr fa M T d sem) (hM : M < 5) {k n : Nat} (hk : k < 6) (hn : n < 10) : RSt (house6 I M (nI k) (nI n)) m fr fa (M + 1) (uT T M (mkT (nI k) (nI n) 0 50 0)) d sem := by
  obtain ⟨ha, hfa, ⟨b1, b2, b3⟩, hd, hx, ho⟩ := h
  refine ⟨ha, hfa, ⟨rfl, by omega, fun j hj => ?_⟩, hd, hx, fun j hj => ?_⟩
  · unfold house6
    by_cases e : j = M
    · subst e
      rw [uT_o]
      refine ⟨?_, ?_, ?_, ?_, ?_⟩
      · rw [up2_nn _ _ (fun e => by omega), up2_nn _ _ (fun e => by omega), up2_nn _ _ (fun e => by omega), up2_nn _ _ (fun e => by omega), up2_nn _ _ (fun e => by omega), up2_oo]; rfl
      · rw [up2_nn _ _ (fun e => by omega), up2_nn _ _ (fun e => by omega), up2_nn _ _ (fun e => by omega), up2_nn _ _ (fun e => by omega), up2_oo]; rfl
      · rw [up2_nn _ _ (fun e => by omega), up2_nn _ _ (fun e => by omega), up2_nn _ _ (fun e => by omega), up2_oo]; rfl
      · rw [up2_nn _ _ (fun e => by omega), up2_nn _ _ (fun e => by omega), up2_oo]; rfl
      · rw [up2_nn _ _ (fun e => by omega), up2_oo]; rfl
    · rw [uT_n e]
      obtain ⟨e0, e1, e2, e3, e4⟩ := b3 j (by omega)
      refine ⟨?_, ?_, ?_, ?_, ?_⟩ <;> (rw [up2_nn _ _ (fun e => by omega), up2_nn _ _ (fun e => by omega), up2_nn _ _ (fun e => by omega), up2_nn _ _ (fun e => by omega), up2_nn _ _ (fun e => by omega), up2_nn _ _ (fun e => by omega)]; assumption)
  · by_cases e : j = M
    · subst e
      rw [uT_o]
      exact ⟨⟨k, hk, rfl⟩, ⟨n, hn, rfl⟩, ⟨0, by omega, rfl⟩, ⟨50, by omega, rfl⟩, ⟨0, by omega, rfl⟩⟩
    · rw [uT_n e]; exact ho j (by omega)
set_option maxRecDepth 100000 in
set_option maxHeartbeats 1000000 in
theorem R_learns {X : En} {L : FL} {q : Nat × Nat} {I : FI} {m : Nat} {fr fa : Nat → Int32} {M : Nat} {T : Nat → Nat → Int32} {d : Nat} {sem : Nat → Sem} (h : RSt I m fr fa M T d sem) {x : Int32} (hx : ¬ x < 0 ∧ ¬ 4095 < x) {g : Nat} (hg : g < 12) (hm : m < 10) : Ev X 3 mX8_learns (0, 0) [.ref 66, .int x, .int (nI g)] S0 I L (R0 q) (PureR (some (.int (nI m))) S0 (up2 (up2 (up2 I 70 m x) 71 m (nI g)) 66 10 (nI (m + 1))) L (R0 q)) := by
  refine ev_of (by decide +kernel) rfl ?_
  show SW X _ _ _ 0 [some (.ref 66), some (.int x), some (.int (nI g))] [] S0 I L (R0 q) _
  refine s_iload_n (tb_ok aX8_learns_0 0 rfl) rfl ?_
  refine s_i2l (tb_ok aX8_learns_0 1 rfl) ?_
  refine s_lconst (v := 0) (tb_ok aX8_learns_0 2 rfl) (by decide) ?_
  refine s_ldc2 (tb_ok aX8_learns_0 3 rfl) k_RX8_79 ?_
  refine s_cSp (as := [_, .long (0), .long (4095)]) (tb_ok aX8_learns_0 4 rfl) v_RX8_73 (R_in _ _ _) (by decide) rfl rfl (Nat.le_of_ble_eq_true rfl) ?_
  refine s_topi (bI_t ((in_iff (lo := 0) (hi := 4095) rfl (by decide) (by decide)).mpr hx)) ?_
  refine s_if_eq (tgt := 19) (tb_ok aX8_learns_0 5 rfl) (by decide) (fun c9 => ?_) (fun c9 => ?_)
  · exact absurd c9 (by decide)
  · refine s_iload_n (tb_ok aX8_learns_0 6 rfl) rfl ?_
    refine s_cSp (as := [.int (nI g)]) (tb_ok aX8_learns_0 7 rfl) v_RX8_81 (R_isFact _) (by decide) rfl rfl (Nat.le_of_ble_eq_true rfl) ?_
    refine s_topi (bI_t (inN (n := g) (hi := 11) (by omega) (by decide))) ?_
    refine s_if_ne (tgt := 22) (tb_ok aX8_learns_0 8 rfl) (by decide) (fun c16 => ?_) (fun c16 => ?_)
    · refine s_aload_n (tb_ok aX8_learns_0 11 rfl) rfl ?_
      refine s_getI (x := (nI m)) (tb_ok aX8_learns_0 12 rfl) f_RX8_85 rfl rfl h.1.1 ?_
      refine s_bipush (v := nI 10) (tb_ok aX8_learns_0 13 rfl) (by decide) ?_
      refine s_icmp_ne (tgt := 34) (tb_ok aX8_learns_0 14 rfl) (by decide) (fun c28 => ?_) (fun c28 => ?_)
      · refine s_aload_n (tb_ok aX8_learns_0 17 rfl) rfl ?_
        refine s_getR (r := 70) (tb_ok aX8_learns_0 18 rfl) f_RX8_23 rfl rfl rfl ?_
        refine s_aload_n (tb_ok aX8_learns_0 19 rfl) rfl ?_
        refine s_getI (x := (nI m)) (tb_ok aX8_learns_0 20 rfl) f_RX8_85 rfl rfl h.1.1 ?_
        refine s_iload_n (tb_ok aX8_learns_0 21 rfl) rfl ?_
        refine s_iastN (tb_ok aX8_learns_0 22 rfl) rfl (by omega) (by decide) ?_
        refine s_aload_n (tb_ok aX8_learns_0 23 rfl) rfl ?_
        refine s_getR (r := 71) (tb_ok aX8_learns_1 0 rfl) f_RX8_26 rfl rfl rfl ?_
        refine s_aload_n (tb_ok aX8_learns_1 1 rfl) rfl ?_
        refine s_getI (x := (nI m)) (tb_ok aX8_learns_1 2 rfl) f_RX8_85 rfl rfl h.1.1 ?_
        refine s_iload_n (tb_ok aX8_learns_1 3 rfl) rfl ?_
        refine s_iastN (tb_ok aX8_learns_1 4 rfl) rfl (by omega) (by decide) ?_
        refine s_aload_n (tb_ok aX8_learns_1 5 rfl) rfl ?_
        refine s_dup (tb_ok aX8_learns_1 6 rfl) rfl ?_
        refine s_getI (x := (nI m)) (tb_ok aX8_learns_1 7 rfl) f_RX8_85 rfl rfl h.1.1 ?_
        refine s_iconst (v := 1) (tb_ok aX8_learns_1 8 rfl) (by decide) ?_
        refine s_iadd (tb_ok aX8_learns_1 9 rfl) ?_
        refine s_topi (z := (nI (m + 1))) (nI_add' m 1) ?_
        refine s_putI (tb_ok aX8_learns_1 10 rfl) f_RX8_85 rfl rfl ?_
        refine s_aload_n (tb_ok aX8_learns_1 11 rfl) rfl ?_
        refine s_getI (x := (nI (m + 1))) (tb_ok aX8_learns_1 12 rfl) f_RX8_85 rfl rfl rfl ?_
        refine s_iconst (v := 1) (tb_ok aX8_learns_1 13 rfl) (by decide) ?_
        refine s_isub (tb_ok aX8_learns_1 14 rfl) ?_
        refine s_topi (z := (nI m)) (nI_sub' (a := 1) (b := m + 1) (by omega)) ?_
        refine s_iret (tb_ok aX8_learns_1 15 rfl) rfl ?_
        exact pureR
      · simp (disch := omega) only [nI_ltI, nI_leI, nI_eq] at c28
        omega
    · exact absurd c16 (by decide)

set_option maxRecDepth 100000 in
set_option maxHeartbeats 1000000 in
theorem R_learnsF {X : En} {L : FL} {q : Nat × Nat} {I : FI} {m : Nat} {fr fa : Nat → Int32} {M : Nat} {T : Nat → Nat → Int32} {d : Nat} {sem : Nat → Sem} (h : RSt I m fr fa M T d sem) {x : Int32} (hx : ¬ x < 0 ∧ ¬ 4095 < x) {g : Nat} (hg : g < 12) (hm : m = 10) : Ev X 3 mX8_learns (0, 0) [.ref 66, .int x, .int (nI g)] S0 I L (R0 q) (PureR (some (.int (-4))) S0 (I) L (R0 q)) := by
  subst hm
  refine ev_of (by decide +kernel) rfl ?_
  show SW X _ _ _ 0 [some (.ref 66), some (.int x), some (.int (nI g))] [] S0 I L (R0 q) _
  refine s_iload_n (tb_ok aX8_learns_0 0 rfl) rfl ?_
  refine s_i2l (tb_ok aX8_learns_0 1 rfl) ?_
  refine s_lconst (v := 0) (tb_ok aX8_learns_0 2 rfl) (by decide) ?_
  refine s_ldc2 (tb_ok aX8_learns_0 3 rfl) k_RX8_79 ?_
  refine s_cSp (as := [_, .long (0), .long (4095)]) (tb_ok aX8_learns_0 4 rfl) v_RX8_73 (R_in _ _ _) (by decide) rfl rfl (Nat.le_of_ble_eq_true rfl) ?_
  refine s_topi (bI_t ((in_iff (lo := 0) (hi := 4095) rfl (by decide) (by decide)).mpr hx)) ?_
  refine s_if_eq (tgt := 19) (tb_ok aX8_learns_0 5 rfl) (by decide) (fun c9 => ?_) (fun c9 => ?_)
  · exact absurd c9 (by decide)
  · refine s_iload_n (tb_ok aX8_learns_0 6 rfl) rfl ?_
    refine s_cSp (as := [.int (nI g)]) (tb_ok aX8_learns_0 7 rfl) v_RX8_81 (R_isFact _) (by decide) rfl rfl (Nat.le_of_ble_eq_true rfl) ?_
    refine s_topi (bI_t (inN (n := g) (hi := 11) (by omega) (by decide))) ?_
    refine s_if_ne (tgt := 22) (tb_ok aX8_learns_0 8 rfl) (by decide) (fun c16 => ?_) (fun c16 => ?_)
    · refine s_aload_n (tb_ok aX8_learns_0 11 rfl) rfl ?_
      refine s_getI (x := (nI 10)) (tb_ok aX8_learns_0 12 rfl) f_RX8_85 rfl rfl h.1.1 ?_
      refine s_bipush (v := nI 10) (tb_ok aX8_learns_0 13 rfl) (by decide) ?_
      refine s_icmp_ne (tgt := 34) (tb_ok aX8_learns_0 14 rfl) (by decide) (fun c28 => ?_) (fun c28 => ?_)
      · exact absurd c28 (by decide)
      · refine s_bipush (v := -4) (tb_ok aX8_learns_0 15 rfl) (by decide) ?_
        refine s_iret (tb_ok aX8_learns_0 16 rfl) rfl ?_
        exact pureR
    · exact absurd c16 (by decide)

set_option maxRecDepth 100000 in
set_option maxHeartbeats 1000000 in
theorem R_learnsB {X : En} {L : FL} {q : Nat × Nat} {I : FI} {m : Nat} {fr fa : Nat → Int32} {M : Nat} {T : Nat → Nat → Int32} {d : Nat} {sem : Nat → Sem} (h : RSt I m fr fa M T d sem) {x w : Int32} (hv : ¬ ((¬ x < 0 ∧ ¬ 4095 < x) ∧ (¬ w < 0 ∧ ¬ 11 < w))) : Ev X 3 mX8_learns (0, 0) [.ref 66, .int x, .int w] S0 I L (R0 q) (PureR (some (.int (-2))) S0 (I) L (R0 q)) := by
  refine ev_of (by decide +kernel) rfl ?_
  show SW X _ _ _ 0 [some (.ref 66), some (.int x), some (.int w)] [] S0 I L (R0 q) _
  refine s_iload_n (tb_ok aX8_learns_0 0 rfl) rfl ?_
  refine s_i2l (tb_ok aX8_learns_0 1 rfl) ?_
  refine s_lconst (v := 0) (tb_ok aX8_learns_0 2 rfl) (by decide) ?_
  refine s_ldc2 (tb_ok aX8_learns_0 3 rfl) k_RX8_79 ?_
  refine s_cSp (as := [_, .long (0), .long (4095)]) (tb_ok aX8_learns_0 4 rfl) v_RX8_73 (R_in _ _ _) (by decide) rfl rfl (Nat.le_of_ble_eq_true rfl) ?_
  refine s_topi (bI_congr (in_iff (lo := 0) (hi := 4095) rfl (by decide) (by decide))) ?_
  refine s_if_eq (tgt := 19) (tb_ok aX8_learns_0 5 rfl) (by decide) (fun c9 => ?_) (fun c9 => ?_)
  · refine s_bipush (v := -2) (tb_ok aX8_learns_0 9 rfl) (by decide) ?_
    refine s_iret (tb_ok aX8_learns_0 10 rfl) rfl ?_
    exact pureR
  · refine s_iload_n (tb_ok aX8_learns_0 6 rfl) rfl ?_
    refine s_cSp (as := [.int w]) (tb_ok aX8_learns_0 7 rfl) v_RX8_81 (R_isFact _) (by decide) rfl rfl (Nat.le_of_ble_eq_true rfl) ?_
    refine s_if_ne (tgt := 22) (tb_ok aX8_learns_0 8 rfl) (by decide) (fun c16 => ?_) (fun c16 => ?_)
    · exact absurd ⟨bI_n c9, bI_n c16⟩ hv
    · refine s_bipush (v := -2) (tb_ok aX8_learns_0 9 rfl) (by decide) ?_
      refine s_iret (tb_ok aX8_learns_0 10 rfl) rfl ?_
      exact pureR

set_option maxRecDepth 100000 in
set_option maxHeartbeats 1000000 in
theorem R_lays0x {X : En} {L : FL} {q : Nat × Nat} {I : FI} (x v : Int32) : Ev X 0 mX8_lays (0, 0) [.ref 66, .int (0), .int x, .int v] S0 I L (R0 q) (PureR none S0 (up2 I 66 7 v) L (R0 q)) := by
  refine ev_of (by decide +kernel) rfl ?_
  show SW X _ _ _ 0 [some (.ref 66), some (.int (0)), some (.int x), some (.int v)] [] S0 I L (R0 q) _
  refine s_iload_n (tb_ok aX8_lays_0 0 rfl) rfl ?_
  refine s_if_ne (tgt := 12) (tb_ok aX8_lays_0 1 rfl) (by decide) (fun c1 => ?_) (fun c1 => ?_)
  · exact absurd c1 (by decide)
  · refine s_aload_n (tb_ok aX8_lays_0 2 rfl) rfl ?_
    refine s_iload_n (tb_ok aX8_lays_0 3 rfl) rfl ?_
    refine s_putI (tb_ok aX8_lays_0 4 rfl) f_RX8_105 rfl rfl ?_
    refine s_goto (tgt := 53) (tb_ok aX8_lays_0 5 rfl) (by decide) ?_
    refine s_vret (tb_ok aX8_lays_1 9 rfl) rfl ?_
    exact pureR

set_option maxRecDepth 100000 in
set_option maxHeartbeats 1000000 in
theorem R_set0 {X : En} {L : FL} {q : Nat × Nat} {I : FI} {m : Nat} {fr fa : Nat → Int32} {M : Nat} {T : Nat → Nat → Int32} {d : Nat} {sem : Nat → Sem} (h : RSt I m fr fa M T d sem) (hd : d ≤ 5000) {x v : Int32} (hv : ¬ v < 0 ∧ ¬ 999 < v) : Ev X 62 mX8_set (0, 0) [.ref 66, .int (0), .int x, .int v] S0 I L (R0 q) (AfI q (some (.int (nI d))) (fun I' => FrE eB I' (up2 I 66 7 v))) := by
  have hM5 := h.M5
  refine ev_of (by decide +kernel) rfl ?_
  show SW X _ _ _ 0 [some (.ref 66), some (.int (0)), some (.int x), some (.int v), none] [] S0 I L (R0 q) _
  refine s_iload_n (tb_ok aX8_set_0 0 rfl) rfl ?_
  refine s_i2l (tb_ok aX8_set_0 1 rfl) ?_
  refine s_lconst (v := 0) (tb_ok aX8_set_0 2 rfl) (by decide) ?_
  refine s_ldc2 (tb_ok aX8_set_0 3 rfl) k_RX8_88 ?_
  refine s_cSp (as := [_, .long (0), .long (4)]) (tb_ok aX8_set_0 4 rfl) v_RX8_73 (R_in _ _ _) (by decide) rfl rfl (Nat.le_of_ble_eq_true rfl) ?_
  refine s_topi (bI_t (by decide)) ?_
  refine s_if_eq (tgt := 38) (tb_ok aX8_set_0 5 rfl) (by decide) (fun c9 => ?_) (fun c9 => ?_)
  · exact absurd c9 (by decide)
  · refine s_iload_n (tb_ok aX8_set_0 6 rfl) rfl ?_
    refine s_if_le (tgt := 24) (tb_ok aX8_set_0 7 rfl) (by decide) (fun c13 => ?_) (fun c13 => ?_)
    · refine s_iload_n (tb_ok aX8_set_0 12 rfl) rfl ?_
      refine s_i2l (tb_ok aX8_set_0 13 rfl) ?_
      refine s_lconst (v := 0) (tb_ok aX8_set_0 14 rfl) (by decide) ?_
      refine s_iload_n (tb_ok aX8_set_0 15 rfl) rfl ?_
      refine s_cSp (as := [.int (0)]) (tb_ok aX8_set_0 16 rfl) v_RX8_93 (R_most0) (by decide) rfl rfl (Nat.le_of_ble_eq_true rfl) ?_
      refine s_i2l (tb_ok aX8_set_0 17 rfl) ?_
      refine s_cSp (as := [_, .long (0), _]) (tb_ok aX8_set_0 18 rfl) v_RX8_73 (R_in _ _ _) (by decide) rfl rfl (Nat.le_of_ble_eq_true rfl) ?_
      refine s_topi (bI_t ((in_iff (lo := 0) (hi := 999) rfl (by decide) (by decide)).mpr hv)) ?_
      refine s_if_ne (tgt := 41) (tb_ok aX8_set_0 19 rfl) (by decide) (fun c35 => ?_) (fun c35 => ?_)
      · refine s_aload_n (tb_ok aX8_set_0 22 rfl) rfl ?_
        refine s_iload_n (tb_ok aX8_set_0 23 rfl) rfl ?_
        refine s_iload_n (tb_ok aX8_set_1 0 rfl) rfl ?_
        refine s_cV (as := [.int x, .int (0)]) (tb_ok aX8_set_1 1 rfl) v_RX8_97 (R_told0 h hd _) (by decide) rfl rfl rfl rfl rfl (Nat.le_of_ble_eq_true rfl) (by decide) (fun r1 S1 I1 L1 R1 q1 => ?_)
        obtain ⟨rfl, rfl, rfl, hf1⟩ := q1
        refine s_name (fun x1 ex1 => ?_)
        refine s_istore (ls' := [some (.ref 66), some (.int (0)), some (.int x), some (.int v), some (.int x1)]) (tb_ok aX8_set_1 2 rfl) rfl rfl ?_
        refine s_aload_n (tb_ok aX8_set_1 3 rfl) rfl ?_
        refine s_iload_n (tb_ok aX8_set_1 4 rfl) rfl ?_
        refine s_iload_n (tb_ok aX8_set_1 5 rfl) rfl ?_
        refine s_iload_n (tb_ok aX8_set_1 6 rfl) rfl ?_
        refine s_cV (as := [.int (0), .int x, .int v]) (tb_ok aX8_set_1 7 rfl) v_RX8_101 (R_lays0x _ _) (by decide) rfl rfl rfl rfl rfl (Nat.le_of_ble_eq_true rfl) (by decide) (fun r2 S2 I2 L2 R2 q2 => ?_)
        obtain ⟨rfl, rfl, rfl, rfl, rfl⟩ := q2
        refine s_iload (tb_ok aX8_set_1 8 rfl) rfl ?_
        refine s_iret (tb_ok aX8_set_1 9 rfl) rfl ?_
        exact ⟨by rw [ex1], rfl, rfl, eC_up (c := (66, 7)) (eB_eC hf1) v⟩
      · exact absurd c35 (by decide)
    · exact absurd c13 (by decide)

set_option maxRecDepth 100000 in
set_option maxHeartbeats 1000000 in
theorem R_setV0 {X : En} {L : FL} {q : Nat × Nat} {I : FI} {m : Nat} {fr fa : Nat → Int32} {M : Nat} {T : Nat → Nat → Int32} {d : Nat} {sem : Nat → Sem} (h : RSt I m fr fa M T d sem) {x v : Int32} (hv : ¬ (¬ v < 0 ∧ ¬ 999 < v)) : Ev X 62 mX8_set (0, 0) [.ref 66, .int (0), .int x, .int v] S0 I L (R0 q) (AfZ q eB I (-2)) := by
  have hM5 := h.M5
  refine ev_of (by decide +kernel) rfl ?_
  show SW X _ _ _ 0 [some (.ref 66), some (.int (0)), some (.int x), some (.int v), none] [] S0 I L (R0 q) _
  refine s_iload_n (tb_ok aX8_set_0 0 rfl) rfl ?_
  refine s_i2l (tb_ok aX8_set_0 1 rfl) ?_
  refine s_lconst (v := 0) (tb_ok aX8_set_0 2 rfl) (by decide) ?_
  refine s_ldc2 (tb_ok aX8_set_0 3 rfl) k_RX8_88 ?_
  refine s_cSp (as := [_, .long (0), .long (4)]) (tb_ok aX8_set_0 4 rfl) v_RX8_73 (R_in _ _ _) (by decide) rfl rfl (Nat.le_of_ble_eq_true rfl) ?_
  refine s_topi (bI_t (by decide)) ?_
  refine s_if_eq (tgt := 38) (tb_ok aX8_set_0 5 rfl) (by decide) (fun c9 => ?_) (fun c9 => ?_)
  · exact absurd c9 (by decide)
  · refine s_iload_n (tb_ok aX8_set_0 6 rfl) rfl ?_
    refine s_if_le (tgt := 24) (tb_ok aX8_set_0 7 rfl) (by decide) (fun c13 => ?_) (fun c13 => ?_)
    · refine s_iload_n (tb_ok aX8_set_0 12 rfl) rfl ?_
      refine s_i2l (tb_ok aX8_set_0 13 rfl) ?_
      refine s_lconst (v := 0) (tb_ok aX8_set_0 14 rfl) (by decide) ?_
      refine s_iload_n (tb_ok aX8_set_0 15 rfl) rfl ?_
      refine s_cSp (as := [.int (0)]) (tb_ok aX8_set_0 16 rfl) v_RX8_93 (R_most0) (by decide) rfl rfl (Nat.le_of_ble_eq_true rfl) ?_
      refine s_i2l (tb_ok aX8_set_0 17 rfl) ?_
      refine s_cSp (as := [_, .long (0), _]) (tb_ok aX8_set_0 18 rfl) v_RX8_73 (R_in _ _ _) (by decide) rfl rfl (Nat.le_of_ble_eq_true rfl) ?_
      refine s_topi (bI_congr (in_iff (lo := 0) (hi := 999) rfl (by decide) (by decide))) ?_
      refine s_if_ne (tgt := 41) (tb_ok aX8_set_0 19 rfl) (by decide) (fun c35 => ?_) (fun c35 => ?_)
      · exact absurd (bI_n c35) hv
      · refine s_bipush (v := -2) (tb_ok aX8_set_0 20 rfl) (by decide) ?_
        refine s_iret (tb_ok aX8_set_0 21 rfl) rfl ?_
        exact afZ rfl FrE.refl
    · exact absurd c13 (by decide)

set_option maxRecDepth 100000 in
set_option maxHeartbeats 1000000 in
theorem R_set1 {X : En} {L : FL} {q : Nat × Nat} {I : FI} {m : Nat} {fr fa : Nat → Int32} {M : Nat} {T : Nat → Nat → Int32} {d : Nat} {sem : Nat → Sem} (h : RSt I m fr fa M T d sem) (hd : d ≤ 5000) {j : Nat} (hj : j < M) {v : Int32} (hv : ¬ v < 0 ∧ ¬ 9 < v) : Ev X 62 mX8_set (0, 0) [.ref 66, .int (1), .int (nI j), .int v] S0 I L (R0 q) (AfI q (some (.int (T j 1))) (fun I' => FrE eB I' (up2 I 73 (4 * j) v))) := by
  have hM5 := h.M5
  refine ev_of (by decide +kernel) rfl ?_
  show SW X _ _ _ 0 [some (.ref 66), some (.int (1)), some (.int (nI j)), some (.int v), none] [] S0 I L (R0 q) _
  refine s_iload_n (tb_ok aX8_set_0 0 rfl) rfl ?_
  refine s_i2l (tb_ok aX8_set_0 1 rfl) ?_
  refine s_lconst (v := 0) (tb_ok aX8_set_0 2 rfl) (by decide) ?_
  refine s_ldc2 (tb_ok aX8_set_0 3 rfl) k_RX8_88 ?_
  refine s_cSp (as := [_, .long (0), .long (4)]) (tb_ok aX8_set_0 4 rfl) v_RX8_73 (R_in _ _ _) (by decide) rfl rfl (Nat.le_of_ble_eq_true rfl) ?_
  refine s_topi (bI_t (by decide)) ?_
  refine s_if_eq (tgt := 38) (tb_ok aX8_set_0 5 rfl) (by decide) (fun c9 => ?_) (fun c9 => ?_)
  · exact absurd c9 (by decide)
  · refine s_iload_n (tb_ok aX8_set_0 6 rfl) rfl ?_
    refine s_if_le (tgt := 24) (tb_ok aX8_set_0 7 rfl) (by decide) (fun c13 => ?_) (fun c13 => ?_)
    · exact absurd c13 (by decide)
    · refine s_aload_n (tb_ok aX8_set_0 8 rfl) rfl ?_
      refine s_iload_n (tb_ok aX8_set_0 9 rfl) rfl ?_
      refine s_cVp (as := [.int (nI j)]) (tb_ok aX8_set_0 10 rfl) v_RX8_90 (R_isHouse h.mn _) (by decide) rfl rfl rfl rfl rfl (Nat.le_of_ble_eq_true rfl) (by decide) ?_
      refine s_topi (bI_t (vH_t hj hM5)) ?_
      refine s_if_eq (tgt := 38) (tb_ok aX8_set_0 11 rfl) (by decide) (fun c21 => ?_) (fun c21 => ?_)
      · exact absurd c21 (by decide)
      · refine s_iload_n (tb_ok aX8_set_0 12 rfl) rfl ?_
        refine s_i2l (tb_ok aX8_set_0 13 rfl) ?_
        refine s_lconst (v := 0) (tb_ok aX8_set_0 14 rfl) (by decide) ?_
        refine s_iload_n (tb_ok aX8_set_0 15 rfl) rfl ?_
        refine s_cSp (as := [.int (1)]) (tb_ok aX8_set_0 16 rfl) v_RX8_93 (R_most1) (by decide) rfl rfl (Nat.le_of_ble_eq_true rfl) ?_
        refine s_i2l (tb_ok aX8_set_0 17 rfl) ?_
        refine s_cSp (as := [_, .long (0), _]) (tb_ok aX8_set_0 18 rfl) v_RX8_73 (R_in _ _ _) (by decide) rfl rfl (Nat.le_of_ble_eq_true rfl) ?_
        refine s_topi (bI_t ((in_iff (lo := 0) (hi := 9) rfl (by decide) (by decide)).mpr hv)) ?_
        refine s_if_ne (tgt := 41) (tb_ok aX8_set_0 19 rfl) (by decide) (fun c35 => ?_) (fun c35 => ?_)
        · refine s_aload_n (tb_ok aX8_set_0 22 rfl) rfl ?_
          refine s_iload_n (tb_ok aX8_set_0 23 rfl) rfl ?_
          refine s_iload_n (tb_ok aX8_set_1 0 rfl) rfl ?_
          refine s_cV (as := [.int (nI j), .int (1)]) (tb_ok aX8_set_1 1 rfl) v_RX8_97 (R_told1 h hd hj) (by decide) rfl rfl rfl rfl rfl (Nat.le_of_ble_eq_true rfl) (by decide) (fun r1 S1 I1 L1 R1 q1 => ?_)
          obtain ⟨rfl, rfl, rfl, hf1⟩ := q1
          refine s_name (fun x1 ex1 => ?_)
          refine s_istore (ls' := [some (.ref 66), some (.int (1)), some (.int (nI j)), some (.int v), some (.int x1)]) (tb_ok aX8_set_1 2 rfl) rfl rfl ?_
          refine s_aload_n (tb_ok aX8_set_1 3 rfl) rfl ?_
          refine s_iload_n (tb_ok aX8_set_1 4 rfl) rfl ?_
          refine s_iload_n (tb_ok aX8_set_1 5 rfl) rfl ?_
          refine s_iload_n (tb_ok aX8_set_1 6 rfl) rfl ?_
          refine s_cV (as := [.int (1), .int (nI j), .int v]) (tb_ok aX8_set_1 7 rfl) v_RX8_101 (R_lays1 (by omega) _) (by decide) rfl rfl rfl rfl rfl (Nat.le_of_ble_eq_true rfl) (by decide) (fun r2 S2 I2 L2 R2 q2 => ?_)
          obtain ⟨rfl, rfl, rfl, rfl, rfl⟩ := q2
          refine s_iload (tb_ok aX8_set_1 8 rfl) rfl ?_
          refine s_iret (tb_ok aX8_set_1 9 rfl) rfl ?_
          exact ⟨by rw [ex1], rfl, rfl, eC_up (c := (73, (4 * j))) (eB_eC hf1) v⟩
        · exact absurd c35 (by decide)

set_option maxRecDepth 100000 in
set_option maxHeartbeats 1000000 in
theorem R_setV1 {X : En} {L : FL} {q : Nat × Nat} {I : FI} {m : Nat} {fr fa : Nat → Int32} {M : Nat} {T : Nat → Nat → Int32} {d : Nat} {sem : Nat → Sem} (h : RSt I m fr fa M T d sem) {j : Nat} (hj : j < M) {v : Int32} (hv : ¬ (¬ v < 0 ∧ ¬ 9 < v)) : Ev X 62 mX8_set (0, 0) [.ref 66, .int (1), .int (nI j), .int v] S0 I L (R0 q) (AfZ q eB I (-2)) := by
  have hM5 := h.M5
  refine ev_of (by decide +kernel) rfl ?_
  show SW X _ _ _ 0 [some (.ref 66), some (.int (1)), some (.int (nI j)), some (.int v), none] [] S0 I L (R0 q) _
  refine s_iload_n (tb_ok aX8_set_0 0 rfl) rfl ?_
  refine s_i2l (tb_ok aX8_set_0 1 rfl) ?_
  refine s_lconst (v := 0) (tb_ok aX8_set_0 2 rfl) (by decide) ?_
  refine s_ldc2 (tb_ok aX8_set_0 3 rfl) k_RX8_88 ?_
  refine s_cSp (as := [_, .long (0), .long (4)]) (tb_ok aX8_set_0 4 rfl) v_RX8_73 (R_in _ _ _) (by decide) rfl rfl (Nat.le_of_ble_eq_true rfl) ?_
  refine s_topi (bI_t (by decide)) ?_
  refine s_if_eq (tgt := 38) (tb_ok aX8_set_0 5 rfl) (by decide) (fun c9 => ?_) (fun c9 => ?_)
  · exact absurd c9 (by decide)
  · refine s_iload_n (tb_ok aX8_set_0 6 rfl) rfl ?_
    refine s_if_le (tgt := 24) (tb_ok aX8_set_0 7 rfl) (by decide) (fun c13 => ?_) (fun c13 => ?_)
    · exact absurd c13 (by decide)
    · refine s_aload_n (tb_ok aX8_set_0 8 rfl) rfl ?_
      refine s_iload_n (tb_ok aX8_set_0 9 rfl) rfl ?_
      refine s_cVp (as := [.int (nI j)]) (tb_ok aX8_set_0 10 rfl) v_RX8_90 (R_isHouse h.mn _) (by decide) rfl rfl rfl rfl rfl (Nat.le_of_ble_eq_true rfl) (by decide) ?_
      refine s_topi (bI_t (vH_t hj hM5)) ?_
      refine s_if_eq (tgt := 38) (tb_ok aX8_set_0 11 rfl) (by decide) (fun c21 => ?_) (fun c21 => ?_)
      · exact absurd c21 (by decide)
      · refine s_iload_n (tb_ok aX8_set_0 12 rfl) rfl ?_
        refine s_i2l (tb_ok aX8_set_0 13 rfl) ?_
        refine s_lconst (v := 0) (tb_ok aX8_set_0 14 rfl) (by decide) ?_
        refine s_iload_n (tb_ok aX8_set_0 15 rfl) rfl ?_
        refine s_cSp (as := [.int (1)]) (tb_ok aX8_set_0 16 rfl) v_RX8_93 (R_most1) (by decide) rfl rfl (Nat.le_of_ble_eq_true rfl) ?_
        refine s_i2l (tb_ok aX8_set_0 17 rfl) ?_
        refine s_cSp (as := [_, .long (0), _]) (tb_ok aX8_set_0 18 rfl) v_RX8_73 (R_in _ _ _) (by decide) rfl rfl (Nat.le_of_ble_eq_true rfl) ?_
        refine s_topi (bI_congr (in_iff (lo := 0) (hi := 9) rfl (by decide) (by decide))) ?_
        refine s_if_ne (tgt := 41) (tb_ok aX8_set_0 19 rfl) (by decide) (fun c35 => ?_) (fun c35 => ?_)
        · exact absurd (bI_n c35) hv
        · refine s_bipush (v := -2) (tb_ok aX8_set_0 20 rfl) (by decide) ?_
          refine s_iret (tb_ok aX8_set_0 21 rfl) rfl ?_
          exact afZ rfl FrE.refl

set_option maxRecDepth 100000 in
set_option maxHeartbeats 1000000 in
theorem R_set2 {X : En} {L : FL} {q : Nat × Nat} {I : FI} {m : Nat} {fr fa : Nat → Int32} {M : Nat} {T : Nat → Nat → Int32} {d : Nat} {sem : Nat → Sem} (h : RSt I m fr fa M T d sem) (hd : d ≤ 5000) {j : Nat} (hj : j < M) {v : Int32} (hv : ¬ v < 0 ∧ ¬ 4095 < v) : Ev X 62 mX8_set (0, 0) [.ref 66, .int (2), .int (nI j), .int v] S0 I L (R0 q) (AfI q (some (.int (T j 2))) (fun I' => FrE eB I' (up2 I 73 (4 * j + 1) v))) := by
  have hM5 := h.M5
  refine ev_of (by decide +kernel) rfl ?_
  show SW X _ _ _ 0 [some (.ref 66), some (.int (2)), some (.int (nI j)), some (.int v), none] [] S0 I L (R0 q) _
  refine s_iload_n (tb_ok aX8_set_0 0 rfl) rfl ?_
  refine s_i2l (tb_ok aX8_set_0 1 rfl) ?_
  refine s_lconst (v := 0) (tb_ok aX8_set_0 2 rfl) (by decide) ?_
  refine s_ldc2 (tb_ok aX8_set_0 3 rfl) k_RX8_88 ?_
  refine s_cSp (as := [_, .long (0), .long (4)]) (tb_ok aX8_set_0 4 rfl) v_RX8_73 (R_in _ _ _) (by decide) rfl rfl (Nat.le_of_ble_eq_true rfl) ?_
  refine s_topi (bI_t (by decide)) ?_
  refine s_if_eq (tgt := 38) (tb_ok aX8_set_0 5 rfl) (by decide) (fun c9 => ?_) (fun c9 => ?_)
  · exact absurd c9 (by decide)
  · refine s_iload_n (tb_ok aX8_set_0 6 rfl) rfl ?_
    refine s_if_le (tgt := 24) (tb_ok aX8_set_0 7 rfl) (by decide) (fun c13 => ?_) (fun c13 => ?_)
    · exact absurd c13 (by decide)
    · refine s_aload_n (tb_ok aX8_set_0 8 rfl) rfl ?_
      refine s_iload_n (tb_ok aX8_set_0 9 rfl) rfl ?_
      refine s_cVp (as := [.int (nI j)]) (tb_ok aX8_set_0 10 rfl) v_RX8_90 (R_isHouse h.mn _) (by decide) rfl rfl rfl rfl rfl (Nat.le_of_ble_eq_true rfl) (by decide) ?_
      refine s_topi (bI_t (vH_t hj hM5)) ?_
      refine s_if_eq (tgt := 38) (tb_ok aX8_set_0 11 rfl) (by decide) (fun c21 => ?_) (fun c21 => ?_)
      · exact absurd c21 (by decide)
      · refine s_iload_n (tb_ok aX8_set_0 12 rfl) rfl ?_
        refine s_i2l (tb_ok aX8_set_0 13 rfl) ?_
        refine s_lconst (v := 0) (tb_ok aX8_set_0 14 rfl) (by decide) ?_
        refine s_iload_n (tb_ok aX8_set_0 15 rfl) rfl ?_
        refine s_cSp (as := [.int (2)]) (tb_ok aX8_set_0 16 rfl) v_RX8_93 (R_most2) (by decide) rfl rfl (Nat.le_of_ble_eq_true rfl) ?_
        refine s_i2l (tb_ok aX8_set_0 17 rfl) ?_
        refine s_cSp (as := [_, .long (0), _]) (tb_ok aX8_set_0 18 rfl) v_RX8_73 (R_in _ _ _) (by decide) rfl rfl (Nat.le_of_ble_eq_true rfl) ?_
        refine s_topi (bI_t ((in_iff (lo := 0) (hi := 4095) rfl (by decide) (by decide)).mpr hv)) ?_
        refine s_if_ne (tgt := 41) (tb_ok aX8_set_0 19 rfl) (by decide) (fun c35 => ?_) (fun c35 => ?_)
        · refine s_aload_n (tb_ok aX8_set_0 22 rfl) rfl ?_
          refine s_iload_n (tb_ok aX8_set_0 23 rfl) rfl ?_
          refine s_iload_n (tb_ok aX8_set_1 0 rfl) rfl ?_
          refine s_cV (as := [.int (nI j), .int (2)]) (tb_ok aX8_set_1 1 rfl) v_RX8_97 (R_told2 h hd hj) (by decide) rfl rfl rfl rfl rfl (Nat.le_of_ble_eq_true rfl) (by decide) (fun r1 S1 I1 L1 R1 q1 => ?_)
          obtain ⟨rfl, rfl, rfl, hf1⟩ := q1
          refine s_name (fun x1 ex1 => ?_)
          refine s_istore (ls' := [some (.ref 66), some (.int (2)), some (.int (nI j)), some (.int v), some (.int x1)]) (tb_ok aX8_set_1 2 rfl) rfl rfl ?_
          refine s_aload_n (tb_ok aX8_set_1 3 rfl) rfl ?_
          refine s_iload_n (tb_ok aX8_set_1 4 rfl) rfl ?_
          refine s_iload_n (tb_ok aX8_set_1 5 rfl) rfl ?_
          refine s_iload_n (tb_ok aX8_set_1 6 rfl) rfl ?_
          refine s_cV (as := [.int (2), .int (nI j), .int v]) (tb_ok aX8_set_1 7 rfl) v_RX8_101 (R_lays2 (by omega) _) (by decide) rfl rfl rfl rfl rfl (Nat.le_of_ble_eq_true rfl) (by decide) (fun r2 S2 I2 L2 R2 q2 => ?_)
          obtain ⟨rfl, rfl, rfl, rfl, rfl⟩ := q2
          refine s_iload (tb_ok aX8_set_1 8 rfl) rfl ?_
          refine s_iret (tb_ok aX8_set_1 9 rfl) rfl ?_
          exact ⟨by rw [ex1], rfl, rfl, eC_up (c := (73, (4 * j + 1))) (eB_eC hf1) v⟩
        · exact absurd c35 (by decide)

set_option maxRecDepth 100000 in
set_option maxHeartbeats 1000000 in
theorem R_setV2 {X : En} {L : FL} {q : Nat × Nat} {I : FI} {m : Nat} {fr fa : Nat → Int32} {M : Nat} {T : Nat → Nat → Int32} {d : Nat} {sem : Nat → Sem} (h : RSt I m fr fa M T d sem) {j : Nat} (hj : j < M) {v : Int32} (hv : ¬ (¬ v < 0 ∧ ¬ 4095 < v)) : Ev X 62 mX8_set (0, 0) [.ref 66, .int (2), .int (nI j), .int v] S0 I L (R0 q) (AfZ q eB I (-2)) := by
  have hM5 := h.M5
  refine ev_of (by decide +kernel) rfl ?_
  show SW X _ _ _ 0 [some (.ref 66), some (.int (2)), some (.int (nI j)), some (.int v), none] [] S0 I L (R0 q) _
  refine s_iload_n (tb_ok aX8_set_0 0 rfl) rfl ?_
  refine s_i2l (tb_ok aX8_set_0 1 rfl) ?_
  refine s_lconst (v := 0) (tb_ok aX8_set_0 2 rfl) (by decide) ?_
  refine s_ldc2 (tb_ok aX8_set_0 3 rfl) k_RX8_88 ?_
  refine s_cSp (as := [_, .long (0), .long (4)]) (tb_ok aX8_set_0 4 rfl) v_RX8_73 (R_in _ _ _) (by decide) rfl rfl (Nat.le_of_ble_eq_true rfl) ?_
  refine s_topi (bI_t (by decide)) ?_
  refine s_if_eq (tgt := 38) (tb_ok aX8_set_0 5 rfl) (by decide) (fun c9 => ?_) (fun c9 => ?_)
  · exact absurd c9 (by decide)
  · refine s_iload_n (tb_ok aX8_set_0 6 rfl) rfl ?_
    refine s_if_le (tgt := 24) (tb_ok aX8_set_0 7 rfl) (by decide) (fun c13 => ?_) (fun c13 => ?_)
    · exact absurd c13 (by decide)
    · refine s_aload_n (tb_ok aX8_set_0 8 rfl) rfl ?_
      refine s_iload_n (tb_ok aX8_set_0 9 rfl) rfl ?_
      refine s_cVp (as := [.int (nI j)]) (tb_ok aX8_set_0 10 rfl) v_RX8_90 (R_isHouse h.mn _) (by decide) rfl rfl rfl rfl rfl (Nat.le_of_ble_eq_true rfl) (by decide) ?_
      refine s_topi (bI_t (vH_t hj hM5)) ?_
      refine s_if_eq (tgt := 38) (tb_ok aX8_set_0 11 rfl) (by decide) (fun c21 => ?_) (fun c21 => ?_)
      · exact absurd c21 (by decide)
      · refine s_iload_n (tb_ok aX8_set_0 12 rfl) rfl ?_
        refine s_i2l (tb_ok aX8_set_0 13 rfl) ?_
        refine s_lconst (v := 0) (tb_ok aX8_set_0 14 rfl) (by decide) ?_
        refine s_iload_n (tb_ok aX8_set_0 15 rfl) rfl ?_
        refine s_cSp (as := [.int (2)]) (tb_ok aX8_set_0 16 rfl) v_RX8_93 (R_most2) (by decide) rfl rfl (Nat.le_of_ble_eq_true rfl) ?_
        refine s_i2l (tb_ok aX8_set_0 17 rfl) ?_
        refine s_cSp (as := [_, .long (0), _]) (tb_ok aX8_set_0 18 rfl) v_RX8_73 (R_in _ _ _) (by decide) rfl rfl (Nat.le_of_ble_eq_true rfl) ?_
        refine s_topi (bI_congr (in_iff (lo := 0) (hi := 4095) rfl (by decide) (by decide))) ?_
        refine s_if_ne (tgt := 41) (tb_ok aX8_set_0 19 rfl) (by decide) (fun c35 => ?_) (fun c35 => ?_)
        · exact absurd (bI_n c35) hv
        · refine s_bipush (v := -2) (tb_ok aX8_set_0 20 rfl) (by decide) ?_
          refine s_iret (tb_ok aX8_set_0 21 rfl) rfl ?_
          exact afZ rfl FrE.refl

set_option maxRecDepth 100000 in
set_option maxHeartbeats 1000000 in
theorem R_set3 {X : En} {L : FL} {q : Nat × Nat} {I : FI} {m : Nat} {fr fa : Nat → Int32} {M : Nat} {T : Nat → Nat → Int32} {d : Nat} {sem : Nat → Sem} (h : RSt I m fr fa M T d sem) (hd : d ≤ 5000) {j : Nat} (hj : j < M) {v : Int32} (hv : ¬ v < 0 ∧ ¬ 99 < v) : Ev X 62 mX8_set (0, 0) [.ref 66, .int (3), .int (nI j), .int v] S0 I L (R0 q) (AfI q (some (.int (T j 3))) (fun I' => FrE eB I' (up2 I 73 (4 * j + 2) v))) := by
  have hM5 := h.M5
  refine ev_of (by decide +kernel) rfl ?_
  show SW X _ _ _ 0 [some (.ref 66), some (.int (3)), some (.int (nI j)), some (.int v), none] [] S0 I L (R0 q) _
  refine s_iload_n (tb_ok aX8_set_0 0 rfl) rfl ?_
  refine s_i2l (tb_ok aX8_set_0 1 rfl) ?_
  refine s_lconst (v := 0) (tb_ok aX8_set_0 2 rfl) (by decide) ?_
  refine s_ldc2 (tb_ok aX8_set_0 3 rfl) k_RX8_88 ?_
  refine s_cSp (as := [_, .long (0), .long (4)]) (tb_ok aX8_set_0 4 rfl) v_RX8_73 (R_in _ _ _) (by decide) rfl rfl (Nat.le_of_ble_eq_true rfl) ?_
  refine s_topi (bI_t (by decide)) ?_
  refine s_if_eq (tgt := 38) (tb_ok aX8_set_0 5 rfl) (by decide) (fun c9 => ?_) (fun c9 => ?_)
  · exact absurd c9 (by decide)
  · refine s_iload_n (tb_ok aX8_set_0 6 rfl) rfl ?_
    refine s_if_le (tgt := 24) (tb_ok aX8_set_0 7 rfl) (by decide) (fun c13 => ?_) (fun c13 => ?_)
    · exact absurd c13 (by decide)
    · refine s_aload_n (tb_ok aX8_set_0 8 rfl) rfl ?_
      refine s_iload_n (tb_ok aX8_set_0 9 rfl) rfl ?_
      refine s_cVp (as := [.int (nI j)]) (tb_ok aX8_set_0 10 rfl) v_RX8_90 (R_isHouse h.mn _) (by decide) rfl rfl rfl rfl rfl (Nat.le_of_ble_eq_true rfl) (by decide) ?_
      refine s_topi (bI_t (vH_t hj hM5)) ?_
      refine s_if_eq (tgt := 38) (tb_ok aX8_set_0 11 rfl) (by decide) (fun c21 => ?_) (fun c21 => ?_)
      · exact absurd c21 (by decide)
      · refine s_iload_n (tb_ok aX8_set_0 12 rfl) rfl ?_
        refine s_i2l (tb_ok aX8_set_0 13 rfl) ?_
        refine s_lconst (v := 0) (tb_ok aX8_set_0 14 rfl) (by decide) ?_
        refine s_iload_n (tb_ok aX8_set_0 15 rfl) rfl ?_
        refine s_cSp (as := [.int (3)]) (tb_ok aX8_set_0 16 rfl) v_RX8_93 (R_most3) (by decide) rfl rfl (Nat.le_of_ble_eq_true rfl) ?_
        refine s_i2l (tb_ok aX8_set_0 17 rfl) ?_
        refine s_cSp (as := [_, .long (0), _]) (tb_ok aX8_set_0 18 rfl) v_RX8_73 (R_in _ _ _) (by decide) rfl rfl (Nat.le_of_ble_eq_true rfl) ?_
        refine s_topi (bI_t ((in_iff (lo := 0) (hi := 99) rfl (by decide) (by decide)).mpr hv)) ?_
        refine s_if_ne (tgt := 41) (tb_ok aX8_set_0 19 rfl) (by decide) (fun c35 => ?_) (fun c35 => ?_)
        · refine s_aload_n (tb_ok aX8_set_0 22 rfl) rfl ?_
          refine s_iload_n (tb_ok aX8_set_0 23 rfl) rfl ?_
          refine s_iload_n (tb_ok aX8_set_1 0 rfl) rfl ?_
          refine s_cV (as := [.int (nI j), .int (3)]) (tb_ok aX8_set_1 1 rfl) v_RX8_97 (R_told3 h hd hj) (by decide) rfl rfl rfl rfl rfl (Nat.le_of_ble_eq_true rfl) (by decide) (fun r1 S1 I1 L1 R1 q1 => ?_)
          obtain ⟨rfl, rfl, rfl, hf1⟩ := q1
          refine s_name (fun x1 ex1 => ?_)
          refine s_istore (ls' := [some (.ref 66), some (.int (3)), some (.int (nI j)), some (.int v), some (.int x1)]) (tb_ok aX8_set_1 2 rfl) rfl rfl ?_
          refine s_aload_n (tb_ok aX8_set_1 3 rfl) rfl ?_
          refine s_iload_n (tb_ok aX8_set_1 4 rfl) rfl ?_
          refine s_iload_n (tb_ok aX8_set_1 5 rfl) rfl ?_
          refine s_iload_n (tb_ok aX8_set_1 6 rfl) rfl ?_
          refine s_cV (as := [.int (3), .int (nI j), .int v]) (tb_ok aX8_set_1 7 rfl) v_RX8_101 (R_lays3 (by omega) _) (by decide) rfl rfl rfl rfl rfl (Nat.le_of_ble_eq_true rfl) (by decide) (fun r2 S2 I2 L2 R2 q2 => ?_)
          obtain ⟨rfl, rfl, rfl, rfl, rfl⟩ := q2
          refine s_iload (tb_ok aX8_set_1 8 rfl) rfl ?_
          refine s_iret (tb_ok aX8_set_1 9 rfl) rfl ?_
          exact ⟨by rw [ex1], rfl, rfl, eC_up (c := (73, (4 * j + 2))) (eB_eC hf1) v⟩
        · exact absurd c35 (by decide)

set_option maxRecDepth 100000 in
set_option maxHeartbeats 1000000 in
theorem R_setV3 {X : En} {L : FL} {q : Nat × Nat} {I : FI} {m : Nat} {fr fa : Nat → Int32} {M : Nat} {T : Nat → Nat → Int32} {d : Nat} {sem : Nat → Sem} (h : RSt I m fr fa M T d sem) {j : Nat} (hj : j < M) {v : Int32} (hv : ¬ (¬ v < 0 ∧ ¬ 99 < v)) : Ev X 62 mX8_set (0, 0) [.ref 66, .int (3), .int (nI j), .int v] S0 I L (R0 q) (AfZ q eB I (-2)) := by
  have hM5 := h.M5
  refine ev_of (by decide +kernel) rfl ?_
  show SW X _ _ _ 0 [some (.ref 66), some (.int (3)), some (.int (nI j)), some (.int v), none] [] S0 I L (R0 q) _
  refine s_iload_n (tb_ok aX8_set_0 0 rfl) rfl ?_
  refine s_i2l (tb_ok aX8_set_0 1 rfl) ?_
  refine s_lconst (v := 0) (tb_ok aX8_set_0 2 rfl) (by decide) ?_
  refine s_ldc2 (tb_ok aX8_set_0 3 rfl) k_RX8_88 ?_
  refine s_cSp (as := [_, .long (0), .long (4)]) (tb_ok aX8_set_0 4 rfl) v_RX8_73 (R_in _ _ _) (by decide) rfl rfl (Nat.le_of_ble_eq_true rfl) ?_
  refine s_topi (bI_t (by decide)) ?_
  refine s_if_eq (tgt := 38) (tb_ok aX8_set_0 5 rfl) (by decide) (fun c9 => ?_) (fun c9 => ?_)
  · exact absurd c9 (by decide)
  · refine s_iload_n (tb_ok aX8_set_0 6 rfl) rfl ?_
    refine s_if_le (tgt := 24) (tb_ok aX8_set_0 7 rfl) (by decide) (fun c13 => ?_) (fun c13 => ?_)
    · exact absurd c13 (by decide)
    · refine s_aload_n (tb_ok aX8_set_0 8 rfl) rfl ?_
      refine s_iload_n (tb_ok aX8_set_0 9 rfl) rfl ?_
      refine s_cVp (as := [.int (nI j)]) (tb_ok aX8_set_0 10 rfl) v_RX8_90 (R_isHouse h.mn _) (by decide) rfl rfl rfl rfl rfl (Nat.le_of_ble_eq_true rfl) (by decide) ?_
      refine s_topi (bI_t (vH_t hj hM5)) ?_
      refine s_if_eq (tgt := 38) (tb_ok aX8_set_0 11 rfl) (by decide) (fun c21 => ?_) (fun c21 => ?_)
      · exact absurd c21 (by decide)
      · refine s_iload_n (tb_ok aX8_set_0 12 rfl) rfl ?_
        refine s_i2l (tb_ok aX8_set_0 13 rfl) ?_
        refine s_lconst (v := 0) (tb_ok aX8_set_0 14 rfl) (by decide) ?_
        refine s_iload_n (tb_ok aX8_set_0 15 rfl) rfl ?_
        refine s_cSp (as := [.int (3)]) (tb_ok aX8_set_0 16 rfl) v_RX8_93 (R_most3) (by decide) rfl rfl (Nat.le_of_ble_eq_true rfl) ?_
        refine s_i2l (tb_ok aX8_set_0 17 rfl) ?_
        refine s_cSp (as := [_, .long (0), _]) (tb_ok aX8_set_0 18 rfl) v_RX8_73 (R_in _ _ _) (by decide) rfl rfl (Nat.le_of_ble_eq_true rfl) ?_
        refine s_topi (bI_congr (in_iff (lo := 0) (hi := 99) rfl (by decide) (by decide))) ?_
        refine s_if_ne (tgt := 41) (tb_ok aX8_set_0 19 rfl) (by decide) (fun c35 => ?_) (fun c35 => ?_)
        · exact absurd (bI_n c35) hv
        · refine s_bipush (v := -2) (tb_ok aX8_set_0 20 rfl) (by decide) ?_
          refine s_iret (tb_ok aX8_set_0 21 rfl) rfl ?_
          exact afZ rfl FrE.refl

set_option maxRecDepth 100000 in
set_option maxHeartbeats 1000000 in
theorem R_set4 {X : En} {L : FL} {q : Nat × Nat} {I : FI} {m : Nat} {fr fa : Nat → Int32} {M : Nat} {T : Nat → Nat → Int32} {d : Nat} {sem : Nat → Sem} (h : RSt I m fr fa M T d sem) (hd : d ≤ 5000) {j : Nat} (hj : j < M) {v : Int32} (hv : ¬ v < 0 ∧ ¬ 99 < v) : Ev X 62 mX8_set (0, 0) [.ref 66, .int (4), .int (nI j), .int v] S0 I L (R0 q) (AfI q (some (.int (T j 4))) (fun I' => FrE eB I' (up2 I 73 (4 * j + 3) v))) := by
  have hM5 := h.M5
  refine ev_of (by decide +kernel) rfl ?_
  show SW X _ _ _ 0 [some (.ref 66), some (.int (4)), some (.int (nI j)), some (.int v), none] [] S0 I L (R0 q) _
  refine s_iload_n (tb_ok aX8_set_0 0 rfl) rfl ?_
  refine s_i2l (tb_ok aX8_set_0 1 rfl) ?_
  refine s_lconst (v := 0) (tb_ok aX8_set_0 2 rfl) (by decide) ?_
  refine s_ldc2 (tb_ok aX8_set_0 3 rfl) k_RX8_88 ?_
  refine s_cSp (as := [_, .long (0), .long (4)]) (tb_ok aX8_set_0 4 rfl) v_RX8_73 (R_in _ _ _) (by decide) rfl rfl (Nat.le_of_ble_eq_true rfl) ?_
  refine s_topi (bI_t (by decide)) ?_
  refine s_if_eq (tgt := 38) (tb_ok aX8_set_0 5 rfl) (by decide) (fun c9 => ?_) (fun c9 => ?_)
  · exact absurd c9 (by decide)
  · refine s_iload_n (tb_ok aX8_set_0 6 rfl) rfl ?_
    refine s_if_le (tgt := 24) (tb_ok aX8_set_0 7 rfl) (by decide) (fun c13 => ?_) (fun c13 => ?_)
    · exact absurd c13 (by decide)
    · refine s_aload_n (tb_ok aX8_set_0 8 rfl) rfl ?_
      refine s_iload_n (tb_ok aX8_set_0 9 rfl) rfl ?_
      refine s_cVp (as := [.int (nI j)]) (tb_ok aX8_set_0 10 rfl) v_RX8_90 (R_isHouse h.mn _) (by decide) rfl rfl rfl rfl rfl (Nat.le_of_ble_eq_true rfl) (by decide) ?_
      refine s_topi (bI_t (vH_t hj hM5)) ?_
      refine s_if_eq (tgt := 38) (tb_ok aX8_set_0 11 rfl) (by decide) (fun c21 => ?_) (fun c21 => ?_)
      · exact absurd c21 (by decide)
      · refine s_iload_n (tb_ok aX8_set_0 12 rfl) rfl ?_
        refine s_i2l (tb_ok aX8_set_0 13 rfl) ?_
        refine s_lconst (v := 0) (tb_ok aX8_set_0 14 rfl) (by decide) ?_
        refine s_iload_n (tb_ok aX8_set_0 15 rfl) rfl ?_
        refine s_cSp (as := [.int (4)]) (tb_ok aX8_set_0 16 rfl) v_RX8_93 (R_most4) (by decide) rfl rfl (Nat.le_of_ble_eq_true rfl) ?_
        refine s_i2l (tb_ok aX8_set_0 17 rfl) ?_
        refine s_cSp (as := [_, .long (0), _]) (tb_ok aX8_set_0 18 rfl) v_RX8_73 (R_in _ _ _) (by decide) rfl rfl (Nat.le_of_ble_eq_true rfl) ?_
        refine s_topi (bI_t ((in_iff (lo := 0) (hi := 99) rfl (by decide) (by decide)).mpr hv)) ?_
        refine s_if_ne (tgt := 41) (tb_ok aX8_set_0 19 rfl) (by decide) (fun c35 => ?_) (fun c35 => ?_)
        · refine s_aload_n (tb_ok aX8_set_0 22 rfl) rfl ?_
          refine s_iload_n (tb_ok aX8_set_0 23 rfl) rfl ?_
          refine s_iload_n (tb_ok aX8_set_1 0 rfl) rfl ?_
          refine s_cV (as := [.int (nI j), .int (4)]) (tb_ok aX8_set_1 1 rfl) v_RX8_97 (R_told4 h hd hj) (by decide) rfl rfl rfl rfl rfl (Nat.le_of_ble_eq_true rfl) (by decide) (fun r1 S1 I1 L1 R1 q1 => ?_)
          obtain ⟨rfl, rfl, rfl, hf1⟩ := q1
          refine s_name (fun x1 ex1 => ?_)
          refine s_istore (ls' := [some (.ref 66), some (.int (4)), some (.int (nI j)), some (.int v), some (.int x1)]) (tb_ok aX8_set_1 2 rfl) rfl rfl ?_
          refine s_aload_n (tb_ok aX8_set_1 3 rfl) rfl ?_
          refine s_iload_n (tb_ok aX8_set_1 4 rfl) rfl ?_
          refine s_iload_n (tb_ok aX8_set_1 5 rfl) rfl ?_
          refine s_iload_n (tb_ok aX8_set_1 6 rfl) rfl ?_
          refine s_cV (as := [.int (4), .int (nI j), .int v]) (tb_ok aX8_set_1 7 rfl) v_RX8_101 (R_lays4 (by omega) _) (by decide) rfl rfl rfl rfl rfl (Nat.le_of_ble_eq_true rfl) (by decide) (fun r2 S2 I2 L2 R2 q2 => ?_)
          obtain ⟨rfl, rfl, rfl, rfl, rfl⟩ := q2
          refine s_iload (tb_ok aX8_set_1 8 rfl) rfl ?_
          refine s_iret (tb_ok aX8_set_1 9 rfl) rfl ?_
          exact ⟨by rw [ex1], rfl, rfl, eC_up (c := (73, (4 * j + 3))) (eB_eC hf1) v⟩
        · exact absurd c35 (by decide)

set_option maxRecDepth 100000 in
set_option maxHeartbeats 1000000 in
theorem R_setV4 {X : En} {L : FL} {q : Nat × Nat} {I : FI} {m : Nat} {fr fa : Nat → Int32} {M : Nat} {T : Nat → Nat → Int32} {d : Nat} {sem : Nat → Sem} (h : RSt I m fr fa M T d sem) {j : Nat} (hj : j < M) {v : Int32} (hv : ¬ (¬ v < 0 ∧ ¬ 99 < v)) : Ev X 62 mX8_set (0, 0) [.ref 66, .int (4), .int (nI j), .int v] S0 I L (R0 q) (AfZ q eB I (-2)) := by
  have hM5 := h.M5
  refine ev_of (by decide +kernel) rfl ?_
  show SW X _ _ _ 0 [some (.ref 66), some (.int (4)), some (.int (nI j)), some (.int v), none] [] S0 I L (R0 q) _
  refine s_iload_n (tb_ok aX8_set_0 0 rfl) rfl ?_
  refine s_i2l (tb_ok aX8_set_0 1 rfl) ?_
  refine s_lconst (v := 0) (tb_ok aX8_set_0 2 rfl) (by decide) ?_
  refine s_ldc2 (tb_ok aX8_set_0 3 rfl) k_RX8_88 ?_
  refine s_cSp (as := [_, .long (0), .long (4)]) (tb_ok aX8_set_0 4 rfl) v_RX8_73 (R_in _ _ _) (by decide) rfl rfl (Nat.le_of_ble_eq_true rfl) ?_
  refine s_topi (bI_t (by decide)) ?_
  refine s_if_eq (tgt := 38) (tb_ok aX8_set_0 5 rfl) (by decide) (fun c9 => ?_) (fun c9 => ?_)
  · exact absurd c9 (by decide)
  · refine s_iload_n (tb_ok aX8_set_0 6 rfl) rfl ?_
    refine s_if_le (tgt := 24) (tb_ok aX8_set_0 7 rfl) (by decide) (fun c13 => ?_) (fun c13 => ?_)
    · exact absurd c13 (by decide)
    · refine s_aload_n (tb_ok aX8_set_0 8 rfl) rfl ?_
      refine s_iload_n (tb_ok aX8_set_0 9 rfl) rfl ?_
      refine s_cVp (as := [.int (nI j)]) (tb_ok aX8_set_0 10 rfl) v_RX8_90 (R_isHouse h.mn _) (by decide) rfl rfl rfl rfl rfl (Nat.le_of_ble_eq_true rfl) (by decide) ?_
      refine s_topi (bI_t (vH_t hj hM5)) ?_
      refine s_if_eq (tgt := 38) (tb_ok aX8_set_0 11 rfl) (by decide) (fun c21 => ?_) (fun c21 => ?_)
      · exact absurd c21 (by decide)
      · refine s_iload_n (tb_ok aX8_set_0 12 rfl) rfl ?_
        refine s_i2l (tb_ok aX8_set_0 13 rfl) ?_
        refine s_lconst (v := 0) (tb_ok aX8_set_0 14 rfl) (by decide) ?_
        refine s_iload_n (tb_ok aX8_set_0 15 rfl) rfl ?_
        refine s_cSp (as := [.int (4)]) (tb_ok aX8_set_0 16 rfl) v_RX8_93 (R_most4) (by decide) rfl rfl (Nat.le_of_ble_eq_true rfl) ?_
        refine s_i2l (tb_ok aX8_set_0 17 rfl) ?_
        refine s_cSp (as := [_, .long (0), _]) (tb_ok aX8_set_0 18 rfl) v_RX8_73 (R_in _ _ _) (by decide) rfl rfl (Nat.le_of_ble_eq_true rfl) ?_
        refine s_topi (bI_congr (in_iff (lo := 0) (hi := 99) rfl (by decide) (by decide))) ?_
        refine s_if_ne (tgt := 41) (tb_ok aX8_set_0 19 rfl) (by decide) (fun c35 => ?_) (fun c35 => ?_)
        · exact absurd (bI_n c35) hv
        · refine s_bipush (v := -2) (tb_ok aX8_set_0 20 rfl) (by decide) ?_
          refine s_iret (tb_ok aX8_set_0 21 rfl) rfl ?_
          exact afZ rfl FrE.refl

set_option maxRecDepth 100000 in
set_option maxHeartbeats 1000000 in
theorem R_setB {X : En} {L : FL} {q : Nat × Nat} {I : FI} {m : Nat} {fr fa : Nat → Int32} {M : Nat} {T : Nat → Nat → Int32} {d : Nat} {sem : Nat → Sem} (h : RSt I m fr fa M T d sem) {x w v : Int32} (hv : ¬ ((¬ w < 0 ∧ ¬ 4 < w) ∧ (0 < w → vH x M))) : Ev X 62 mX8_set (0, 0) [.ref 66, .int w, .int x, .int v] S0 I L (R0 q) (AfZ q eB I (-2)) := by
  have hM5 := h.M5
  refine ev_of (by decide +kernel) rfl ?_
  show SW X _ _ _ 0 [some (.ref 66), some (.int w), some (.int x), some (.int v), none] [] S0 I L (R0 q) _
  refine s_iload_n (tb_ok aX8_set_0 0 rfl) rfl ?_
  refine s_i2l (tb_ok aX8_set_0 1 rfl) ?_
  refine s_lconst (v := 0) (tb_ok aX8_set_0 2 rfl) (by decide) ?_
  refine s_ldc2 (tb_ok aX8_set_0 3 rfl) k_RX8_88 ?_
  refine s_cSp (as := [_, .long (0), .long (4)]) (tb_ok aX8_set_0 4 rfl) v_RX8_73 (R_in _ _ _) (by decide) rfl rfl (Nat.le_of_ble_eq_true rfl) ?_
  refine s_topi (bI_congr (in_iff (lo := 0) (hi := 4) rfl (by decide) (by decide))) ?_
  refine s_if_eq (tgt := 38) (tb_ok aX8_set_0 5 rfl) (by decide) (fun c9 => ?_) (fun c9 => ?_)
  · refine s_bipush (v := -2) (tb_ok aX8_set_0 20 rfl) (by decide) ?_
    refine s_iret (tb_ok aX8_set_0 21 rfl) rfl ?_
    exact afZ rfl FrE.refl
  · refine s_iload_n (tb_ok aX8_set_0 6 rfl) rfl ?_
    refine s_if_le (tgt := 24) (tb_ok aX8_set_0 7 rfl) (by decide) (fun c13 => ?_) (fun c13 => ?_)
    · exact absurd ⟨bI_n c9, fun h_ => by first | exact bI_n c21 | exact absurd h_ (Int32.not_lt.mpr c13)⟩ hv
    · refine s_aload_n (tb_ok aX8_set_0 8 rfl) rfl ?_
      refine s_iload_n (tb_ok aX8_set_0 9 rfl) rfl ?_
      refine s_cVp (as := [.int x]) (tb_ok aX8_set_0 10 rfl) v_RX8_90 (R_isHouse h.mn _) (by decide) rfl rfl rfl rfl rfl (Nat.le_of_ble_eq_true rfl) (by decide) ?_
      refine s_if_eq (tgt := 38) (tb_ok aX8_set_0 11 rfl) (by decide) (fun c21 => ?_) (fun c21 => ?_)
      · refine s_bipush (v := -2) (tb_ok aX8_set_0 20 rfl) (by decide) ?_
        refine s_iret (tb_ok aX8_set_0 21 rfl) rfl ?_
        exact afZ rfl FrE.refl
      · exact absurd ⟨bI_n c9, fun h_ => by first | exact bI_n c21 | exact absurd h_ (Int32.not_lt.mpr c13)⟩ hv

set_option maxRecDepth 100000 in
set_option maxHeartbeats 1000000 in
theorem R_house {X : En} {L : FL} {q : Nat × Nat} {I : FI} {m : Nat} {fr fa : Nat → Int32} {M : Nat} {T : Nat → Nat → Int32} {d : Nat} {sem : Nat → Sem} (h : RSt I m fr fa M T d sem) {k n : Nat} (hk : k < 6) (hn : n < 10) (hM : M < 5) : Ev X 3 mX8_house (0, 0) [.ref 66, .int (nI k), .int (nI n)] S0 I L (R0 q) (PureR (some (.int (nI M))) S0 (house6 I M (nI k) (nI n)) L (R0 q)) := by
  refine ev_of (by decide +kernel) rfl ?_
  show SW X _ _ _ 0 [some (.ref 66), some (.int (nI k)), some (.int (nI n))] [] S0 I L (R0 q) _
  refine s_iload_n (tb_ok aX8_house_0 0 rfl) rfl ?_
  refine s_i2l (tb_ok aX8_house_0 1 rfl) ?_
  refine s_lconst (v := 0) (tb_ok aX8_house_0 2 rfl) (by decide) ?_
  refine s_ldc2 (tb_ok aX8_house_0 3 rfl) k_RX8_111 ?_
  refine s_cSp (as := [_, .long (0), .long (5)]) (tb_ok aX8_house_0 4 rfl) v_RX8_73 (R_in _ _ _) (by decide) rfl rfl (Nat.le_of_ble_eq_true rfl) ?_
  refine s_topi (bI_t ((in_iff (x := nI k) (lo := 0) (hi := 5) rfl (by decide) (by decide)).mpr (inN (hi := 5) (by omega) (by decide)))) ?_
  refine s_if_eq (tgt := 24) (tb_ok aX8_house_0 5 rfl) (by decide) (fun c9 => ?_) (fun c9 => ?_)
  · exact absurd c9 (by decide)
  · refine s_iload_n (tb_ok aX8_house_0 6 rfl) rfl ?_
    refine s_i2l (tb_ok aX8_house_0 7 rfl) ?_
    refine s_lconst (v := 0) (tb_ok aX8_house_0 8 rfl) (by decide) ?_
    refine s_ldc2 (tb_ok aX8_house_0 9 rfl) k_RX8_113 ?_
    refine s_cSp (as := [_, .long (0), .long (9)]) (tb_ok aX8_house_0 10 rfl) v_RX8_73 (R_in _ _ _) (by decide) rfl rfl (Nat.le_of_ble_eq_true rfl) ?_
    refine s_topi (bI_t ((in_iff (x := nI n) (lo := 0) (hi := 9) rfl (by decide) (by decide)).mpr (inN (hi := 9) (by omega) (by decide)))) ?_
    refine s_if_ne (tgt := 27) (tb_ok aX8_house_0 11 rfl) (by decide) (fun c21 => ?_) (fun c21 => ?_)
    · refine s_aload_n (tb_ok aX8_house_0 14 rfl) rfl ?_
      refine s_getI (x := (nI M)) (tb_ok aX8_house_0 15 rfl) f_RX8_70 rfl rfl h.mn ?_
      refine s_iconst (v := nI 5) (tb_ok aX8_house_0 16 rfl) (by decide) ?_
      refine s_icmp_ne (tgt := 38) (tb_ok aX8_house_0 17 rfl) (by decide) (fun c32 => ?_) (fun c32 => ?_)
      · refine s_aload_n (tb_ok aX8_house_0 20 rfl) rfl ?_
        refine s_getR (r := 72) (tb_ok aX8_house_0 21 rfl) f_RX8_29 rfl rfl rfl ?_
        refine s_aload_n (tb_ok aX8_house_0 22 rfl) rfl ?_
        refine s_getI (x := (nI M)) (tb_ok aX8_house_0 23 rfl) f_RX8_70 rfl rfl h.mn ?_
        refine s_iload_n (tb_ok aX8_house_1 0 rfl) rfl ?_
        refine s_iastN (tb_ok aX8_house_1 1 rfl) rfl (by omega) (by decide) ?_
        refine s_aload_n (tb_ok aX8_house_1 2 rfl) rfl ?_
        refine s_getR (r := 73) (tb_ok aX8_house_1 3 rfl) f_RX8_32 rfl rfl rfl ?_
        refine s_iconst (v := 4) (tb_ok aX8_house_1 4 rfl) (by decide) ?_
        refine s_aload_n (tb_ok aX8_house_1 5 rfl) rfl ?_
        refine s_getI (x := (nI M)) (tb_ok aX8_house_1 6 rfl) f_RX8_70 rfl rfl h.mn ?_
        refine s_imul (tb_ok aX8_house_1 7 rfl) ?_
        refine s_topi (z := (nI (4 * M))) (nI_mul 4 M) ?_
        refine s_iload_n (tb_ok aX8_house_1 8 rfl) rfl ?_
        refine s_iastN (tb_ok aX8_house_1 9 rfl) rfl (by omega) (by decide) ?_
        refine s_aload_n (tb_ok aX8_house_1 10 rfl) rfl ?_
        refine s_getR (r := 73) (tb_ok aX8_house_1 11 rfl) f_RX8_32 rfl rfl rfl ?_
        refine s_iconst (v := 4) (tb_ok aX8_house_1 12 rfl) (by decide) ?_
        refine s_aload_n (tb_ok aX8_house_1 13 rfl) rfl ?_
        refine s_getI (x := (nI M)) (tb_ok aX8_house_1 14 rfl) f_RX8_70 rfl rfl h.mn ?_
        refine s_imul (tb_ok aX8_house_1 15 rfl) ?_
        refine s_topi (z := (nI (4 * M))) (nI_mul 4 M) ?_
        refine s_iconst (v := 1) (tb_ok aX8_house_1 16 rfl) (by decide) ?_
        refine s_iadd (tb_ok aX8_house_1 17 rfl) ?_
        refine s_topi (z := (nI (4 * M + 1))) (nI_add' (4 * M) 1) ?_
        refine s_iconst (v := 0) (tb_ok aX8_house_1 18 rfl) (by decide) ?_
        refine s_iastN (tb_ok aX8_house_1 19 rfl) rfl (by omega) (by decide) ?_
        refine s_aload_n (tb_ok aX8_house_1 20 rfl) rfl ?_
        refine s_getR (r := 73) (tb_ok aX8_house_1 21 rfl) f_RX8_32 rfl rfl rfl ?_
        refine s_iconst (v := 4) (tb_ok aX8_house_1 22 rfl) (by decide) ?_
        refine s_aload_n (tb_ok aX8_house_1 23 rfl) rfl ?_
        refine s_getI (x := (nI M)) (tb_ok aX8_house_2 0 rfl) f_RX8_70 rfl rfl h.mn ?_
        refine s_imul (tb_ok aX8_house_2 1 rfl) ?_
        refine s_topi (z := (nI (4 * M))) (nI_mul 4 M) ?_
        refine s_iconst (v := 2) (tb_ok aX8_house_2 2 rfl) (by decide) ?_
        refine s_iadd (tb_ok aX8_house_2 3 rfl) ?_
        refine s_topi (z := (nI (4 * M + 2))) (nI_add' (4 * M) 2) ?_
        refine s_bipush (v := 50) (tb_ok aX8_house_2 4 rfl) (by decide) ?_
        refine s_iastN (tb_ok aX8_house_2 5 rfl) rfl (by omega) (by decide) ?_
        refine s_aload_n (tb_ok aX8_house_2 6 rfl) rfl ?_
        refine s_getR (r := 73) (tb_ok aX8_house_2 7 rfl) f_RX8_32 rfl rfl rfl ?_
        refine s_iconst (v := 4) (tb_ok aX8_house_2 8 rfl) (by decide) ?_
        refine s_aload_n (tb_ok aX8_house_2 9 rfl) rfl ?_
        refine s_getI (x := (nI M)) (tb_ok aX8_house_2 10 rfl) f_RX8_70 rfl rfl h.mn ?_
        refine s_imul (tb_ok aX8_house_2 11 rfl) ?_
        refine s_topi (z := (nI (4 * M))) (nI_mul 4 M) ?_
        refine s_iconst (v := 3) (tb_ok aX8_house_2 12 rfl) (by decide) ?_
        refine s_iadd (tb_ok aX8_house_2 13 rfl) ?_
        refine s_topi (z := (nI (4 * M + 3))) (nI_add' (4 * M) 3) ?_
        refine s_iconst (v := 0) (tb_ok aX8_house_2 14 rfl) (by decide) ?_
        refine s_iastN (tb_ok aX8_house_2 15 rfl) rfl (by omega) (by decide) ?_
        refine s_aload_n (tb_ok aX8_house_2 16 rfl) rfl ?_
        refine s_dup (tb_ok aX8_house_2 17 rfl) rfl ?_
        refine s_getI (x := (nI M)) (tb_ok aX8_house_2 18 rfl) f_RX8_70 rfl rfl h.mn ?_
        refine s_iconst (v := 1) (tb_ok aX8_house_2 19 rfl) (by decide) ?_
        refine s_iadd (tb_ok aX8_house_2 20 rfl) ?_
        refine s_topi (z := (nI (M + 1))) (nI_add' M 1) ?_
        refine s_putI (tb_ok aX8_house_2 21 rfl) f_RX8_70 rfl rfl ?_
        refine s_aload_n (tb_ok aX8_house_2 22 rfl) rfl ?_
        refine s_getI (x := (nI (M + 1))) (tb_ok aX8_house_2 23 rfl) f_RX8_70 rfl rfl rfl ?_
        refine s_iconst (v := 1) (tb_ok aX8_house_3 0 rfl) (by decide) ?_
        refine s_isub (tb_ok aX8_house_3 1 rfl) ?_
        refine s_topi (z := (nI M)) (nI_sub' (a := 1) (b := M + 1) (by omega)) ?_
        refine s_iret (tb_ok aX8_house_3 2 rfl) rfl ?_
        exact pureR
      · simp (disch := omega) only [nI_ltI, nI_leI, nI_eq] at c32
        omega
    · exact absurd c21 (by decide)

set_option maxRecDepth 100000 in
set_option maxHeartbeats 1000000 in
theorem R_houseF {X : En} {L : FL} {q : Nat × Nat} {I : FI} {m : Nat} {fr fa : Nat → Int32} {M : Nat} {T : Nat → Nat → Int32} {d : Nat} {sem : Nat → Sem} (h : RSt I m fr fa M T d sem) {k n : Nat} (hk : k < 6) (hn : n < 10) (hM : M = 5) : Ev X 3 mX8_house (0, 0) [.ref 66, .int (nI k), .int (nI n)] S0 I L (R0 q) (PureR (some (.int (-4))) S0 (I) L (R0 q)) := by
  subst hM
  refine ev_of (by decide +kernel) rfl ?_
  show SW X _ _ _ 0 [some (.ref 66), some (.int (nI k)), some (.int (nI n))] [] S0 I L (R0 q) _
  refine s_iload_n (tb_ok aX8_house_0 0 rfl) rfl ?_
  refine s_i2l (tb_ok aX8_house_0 1 rfl) ?_
  refine s_lconst (v := 0) (tb_ok aX8_house_0 2 rfl) (by decide) ?_
  refine s_ldc2 (tb_ok aX8_house_0 3 rfl) k_RX8_111 ?_
  refine s_cSp (as := [_, .long (0), .long (5)]) (tb_ok aX8_house_0 4 rfl) v_RX8_73 (R_in _ _ _) (by decide) rfl rfl (Nat.le_of_ble_eq_true rfl) ?_
  refine s_topi (bI_t ((in_iff (x := nI k) (lo := 0) (hi := 5) rfl (by decide) (by decide)).mpr (inN (hi := 5) (by omega) (by decide)))) ?_
  refine s_if_eq (tgt := 24) (tb_ok aX8_house_0 5 rfl) (by decide) (fun c9 => ?_) (fun c9 => ?_)
  · exact absurd c9 (by decide)
  · refine s_iload_n (tb_ok aX8_house_0 6 rfl) rfl ?_
    refine s_i2l (tb_ok aX8_house_0 7 rfl) ?_
    refine s_lconst (v := 0) (tb_ok aX8_house_0 8 rfl) (by decide) ?_
    refine s_ldc2 (tb_ok aX8_house_0 9 rfl) k_RX8_113 ?_
    refine s_cSp (as := [_, .long (0), .long (9)]) (tb_ok aX8_house_0 10 rfl) v_RX8_73 (R_in _ _ _) (by decide) rfl rfl (Nat.le_of_ble_eq_true rfl) ?_
    refine s_topi (bI_t ((in_iff (x := nI n) (lo := 0) (hi := 9) rfl (by decide) (by decide)).mpr (inN (hi := 9) (by omega) (by decide)))) ?_
    refine s_if_ne (tgt := 27) (tb_ok aX8_house_0 11 rfl) (by decide) (fun c21 => ?_) (fun c21 => ?_)
    · refine s_aload_n (tb_ok aX8_house_0 14 rfl) rfl ?_
      refine s_getI (x := (nI 5)) (tb_ok aX8_house_0 15 rfl) f_RX8_70 rfl rfl h.mn ?_
      refine s_iconst (v := nI 5) (tb_ok aX8_house_0 16 rfl) (by decide) ?_
      refine s_icmp_ne (tgt := 38) (tb_ok aX8_house_0 17 rfl) (by decide) (fun c32 => ?_) (fun c32 => ?_)
      · exact absurd c32 (by decide)
      · refine s_bipush (v := -4) (tb_ok aX8_house_0 18 rfl) (by decide) ?_
        refine s_iret (tb_ok aX8_house_0 19 rfl) rfl ?_
        exact pureR
    · exact absurd c21 (by decide)

set_option maxRecDepth 100000 in
set_option maxHeartbeats 1000000 in
theorem R_houseB {X : En} {L : FL} {q : Nat × Nat} {I : FI} {x w : Int32} (hv : ¬ ((¬ x < 0 ∧ ¬ 5 < x) ∧ (¬ w < 0 ∧ ¬ 9 < w))) : Ev X 3 mX8_house (0, 0) [.ref 66, .int x, .int w] S0 I L (R0 q) (PureR (some (.int (-2))) S0 (I) L (R0 q)) := by
  refine ev_of (by decide +kernel) rfl ?_
  show SW X _ _ _ 0 [some (.ref 66), some (.int x), some (.int w)] [] S0 I L (R0 q) _
  refine s_iload_n (tb_ok aX8_house_0 0 rfl) rfl ?_
  refine s_i2l (tb_ok aX8_house_0 1 rfl) ?_
  refine s_lconst (v := 0) (tb_ok aX8_house_0 2 rfl) (by decide) ?_
  refine s_ldc2 (tb_ok aX8_house_0 3 rfl) k_RX8_111 ?_
  refine s_cSp (as := [_, .long (0), .long (5)]) (tb_ok aX8_house_0 4 rfl) v_RX8_73 (R_in _ _ _) (by decide) rfl rfl (Nat.le_of_ble_eq_true rfl) ?_
  refine s_topi (bI_congr (in_iff (lo := 0) (hi := 5) rfl (by decide) (by decide))) ?_
  refine s_if_eq (tgt := 24) (tb_ok aX8_house_0 5 rfl) (by decide) (fun c9 => ?_) (fun c9 => ?_)
  · refine s_bipush (v := -2) (tb_ok aX8_house_0 12 rfl) (by decide) ?_
    refine s_iret (tb_ok aX8_house_0 13 rfl) rfl ?_
    exact pureR
  · refine s_iload_n (tb_ok aX8_house_0 6 rfl) rfl ?_
    refine s_i2l (tb_ok aX8_house_0 7 rfl) ?_
    refine s_lconst (v := 0) (tb_ok aX8_house_0 8 rfl) (by decide) ?_
    refine s_ldc2 (tb_ok aX8_house_0 9 rfl) k_RX8_113 ?_
    refine s_cSp (as := [_, .long (0), .long (9)]) (tb_ok aX8_house_0 10 rfl) v_RX8_73 (R_in _ _ _) (by decide) rfl rfl (Nat.le_of_ble_eq_true rfl) ?_
    refine s_topi (bI_congr (in_iff (lo := 0) (hi := 9) rfl (by decide) (by decide))) ?_
    refine s_if_ne (tgt := 27) (tb_ok aX8_house_0 11 rfl) (by decide) (fun c21 => ?_) (fun c21 => ?_)
    · exact absurd ⟨bI_n c9, bI_n c21⟩ hv
    · refine s_bipush (v := -2) (tb_ok aX8_house_0 12 rfl) (by decide) ?_
      refine s_iret (tb_ok aX8_house_0 13 rfl) rfl ?_
      exact pureR

set_option maxRecDepth 100000 in
set_option maxHeartbeats 1000000 in
theorem R_feed {X : En} {L : FL} {q : Nat × Nat} {I : FI} {n : Nat} {x : Int32} (hx : ¬ x < 0 ∧ ¬ 255 < x) (hn : I 66 6 = nI n) (hn2 : n < 160) : Ev X 3 mX8_feed (0, 0) [.ref 66, .int x] S0 I L (R0 q) (PureR (some (.int (nI (n + 1)))) S0 (up2 (up2 I 69 n x) 66 6 (nI (n + 1))) L (R0 q)) := by
  refine ev_of (by decide +kernel) rfl ?_
  show SW X _ _ _ 0 [some (.ref 66), some (.int x)] [] S0 I L (R0 q) _
  refine s_iload_n (tb_ok aX8_feed_0 0 rfl) rfl ?_
  refine s_i2l (tb_ok aX8_feed_0 1 rfl) ?_
  refine s_lconst (v := 0) (tb_ok aX8_feed_0 2 rfl) (by decide) ?_
  refine s_ldc2 (tb_ok aX8_feed_0 3 rfl) k_RX8_136 ?_
  refine s_cSp (as := [_, .long (0), .long (255)]) (tb_ok aX8_feed_0 4 rfl) v_RX8_73 (R_in _ _ _) (by decide) rfl rfl (Nat.le_of_ble_eq_true rfl) ?_
  refine s_topi (bI_t ((in_iff (lo := 0) (hi := 255) rfl (by decide) (by decide)).mpr hx)) ?_
  refine s_if_ne (tgt := 15) (tb_ok aX8_feed_0 5 rfl) (by decide) (fun c9 => ?_) (fun c9 => ?_)
  · refine s_aload_n (tb_ok aX8_feed_0 8 rfl) rfl ?_
    refine s_getI (x := (nI n)) (tb_ok aX8_feed_0 9 rfl) f_RX8_138 rfl rfl hn ?_
    refine s_sipush (v := nI 160) (tb_ok aX8_feed_0 10 rfl) (by decide) ?_
    refine s_icmp_ne (tgt := 28) (tb_ok aX8_feed_0 11 rfl) (by decide) (fun c22 => ?_) (fun c22 => ?_)
    · refine s_aload_n (tb_ok aX8_feed_0 14 rfl) rfl ?_
      refine s_getR (r := 69) (tb_ok aX8_feed_0 15 rfl) f_RX8_20 rfl rfl rfl ?_
      refine s_aload_n (tb_ok aX8_feed_0 16 rfl) rfl ?_
      refine s_getI (x := (nI n)) (tb_ok aX8_feed_0 17 rfl) f_RX8_138 rfl rfl hn ?_
      refine s_iload_n (tb_ok aX8_feed_0 18 rfl) rfl ?_
      refine s_iastN (tb_ok aX8_feed_0 19 rfl) rfl (by omega) (by decide) ?_
      refine s_aload_n (tb_ok aX8_feed_0 20 rfl) rfl ?_
      refine s_dup (tb_ok aX8_feed_0 21 rfl) rfl ?_
      refine s_getI (x := (nI n)) (tb_ok aX8_feed_0 22 rfl) f_RX8_138 rfl rfl hn ?_
      refine s_iconst (v := 1) (tb_ok aX8_feed_0 23 rfl) (by decide) ?_
      refine s_iadd (tb_ok aX8_feed_1 0 rfl) ?_
      refine s_topi (z := (nI (n + 1))) (nI_add' n 1) ?_
      refine s_putI (tb_ok aX8_feed_1 1 rfl) f_RX8_138 rfl rfl ?_
      refine s_aload_n (tb_ok aX8_feed_1 2 rfl) rfl ?_
      refine s_getI (x := (nI (n + 1))) (tb_ok aX8_feed_1 3 rfl) f_RX8_138 rfl rfl rfl ?_
      refine s_iret (tb_ok aX8_feed_1 4 rfl) rfl ?_
      exact pureR
    · simp (disch := omega) only [nI_ltI, nI_leI, nI_eq] at c22
      omega
  · exact absurd c9 (by decide)

set_option maxRecDepth 100000 in
set_option maxHeartbeats 1000000 in
theorem R_feedF {X : En} {L : FL} {q : Nat × Nat} {I : FI} {x : Int32} (hx : ¬ x < 0 ∧ ¬ 255 < x) (hn : I 66 6 = nI 160) : Ev X 3 mX8_feed (0, 0) [.ref 66, .int x] S0 I L (R0 q) (PureR (some (.int (-4))) S0 (I) L (R0 q)) := by
  refine ev_of (by decide +kernel) rfl ?_
  show SW X _ _ _ 0 [some (.ref 66), some (.int x)] [] S0 I L (R0 q) _
  refine s_iload_n (tb_ok aX8_feed_0 0 rfl) rfl ?_
  refine s_i2l (tb_ok aX8_feed_0 1 rfl) ?_
  refine s_lconst (v := 0) (tb_ok aX8_feed_0 2 rfl) (by decide) ?_
  refine s_ldc2 (tb_ok aX8_feed_0 3 rfl) k_RX8_136 ?_
  refine s_cSp (as := [_, .long (0), .long (255)]) (tb_ok aX8_feed_0 4 rfl) v_RX8_73 (R_in _ _ _) (by decide) rfl rfl (Nat.le_of_ble_eq_true rfl) ?_
  refine s_topi (bI_t ((in_iff (lo := 0) (hi := 255) rfl (by decide) (by decide)).mpr hx)) ?_
  refine s_if_ne (tgt := 15) (tb_ok aX8_feed_0 5 rfl) (by decide) (fun c9 => ?_) (fun c9 => ?_)
  · refine s_aload_n (tb_ok aX8_feed_0 8 rfl) rfl ?_
    refine s_getI (x := (nI 160)) (tb_ok aX8_feed_0 9 rfl) f_RX8_138 rfl rfl hn ?_
    refine s_sipush (v := nI 160) (tb_ok aX8_feed_0 10 rfl) (by decide) ?_
    refine s_icmp_ne (tgt := 28) (tb_ok aX8_feed_0 11 rfl) (by decide) (fun c22 => ?_) (fun c22 => ?_)
    · exact absurd c22 (by decide)
    · refine s_bipush (v := -4) (tb_ok aX8_feed_0 12 rfl) (by decide) ?_
      refine s_iret (tb_ok aX8_feed_0 13 rfl) rfl ?_
      exact pureR
  · exact absurd c9 (by decide)

set_option maxRecDepth 100000 in
set_option maxHeartbeats 1000000 in
theorem R_feedB {X : En} {L : FL} {q : Nat × Nat} {I : FI} {x : Int32} (hx : ¬ (¬ x < 0 ∧ ¬ 255 < x)) : Ev X 3 mX8_feed (0, 0) [.ref 66, .int x] S0 I L (R0 q) (PureR (some (.int (-2))) S0 (I) L (R0 q)) := by
  refine ev_of (by decide +kernel) rfl ?_
  show SW X _ _ _ 0 [some (.ref 66), some (.int x)] [] S0 I L (R0 q) _
  refine s_iload_n (tb_ok aX8_feed_0 0 rfl) rfl ?_
  refine s_i2l (tb_ok aX8_feed_0 1 rfl) ?_
  refine s_lconst (v := 0) (tb_ok aX8_feed_0 2 rfl) (by decide) ?_
  refine s_ldc2 (tb_ok aX8_feed_0 3 rfl) k_RX8_136 ?_
  refine s_cSp (as := [_, .long (0), .long (255)]) (tb_ok aX8_feed_0 4 rfl) v_RX8_73 (R_in _ _ _) (by decide) rfl rfl (Nat.le_of_ble_eq_true rfl) ?_
  refine s_topi (bI_congr (in_iff (lo := 0) (hi := 255) rfl (by decide) (by decide))) ?_
  refine s_if_ne (tgt := 15) (tb_ok aX8_feed_0 5 rfl) (by decide) (fun c9 => ?_) (fun c9 => ?_)
  · exact absurd (bI_n c9) hx
  · refine s_bipush (v := -2) (tb_ok aX8_feed_0 6 rfl) (by decide) ?_
    refine s_iret (tb_ok aX8_feed_0 7 rfl) rfl ?_
    exact pureR

set_option maxRecDepth 100000 in
set_option maxHeartbeats 1000000 in
theorem R_force {X : En} {L : FL} {q : Nat × Nat} {I : FI} {tx i : Nat} (htx : I 66 3 = nI tx) (htx6 : tx ≤ 6) (hi : i < tx) : Ev X 3 mX8_force (0, 0) [.ref 66, .int (nI i)] S0 I L (R0 q) (PureR (some (.int (I 66 4))) S0 (up2 I 66 4 (nI i)) L (R0 q)) := by
  refine ev_of (by decide +kernel) rfl ?_
  show SW X _ _ _ 0 [some (.ref 66), some (.int (nI i)), none] [] S0 I L (R0 q) _
  refine s_iload_n (tb_ok aX8_force_0 0 rfl) rfl ?_
  refine s_i2l (tb_ok aX8_force_0 1 rfl) ?_
  refine s_lconst (v := 0) (tb_ok aX8_force_0 2 rfl) (by decide) ?_
  refine s_aload_n (tb_ok aX8_force_0 3 rfl) rfl ?_
  refine s_getI (x := (nI tx)) (tb_ok aX8_force_0 4 rfl) f_RX8_67 rfl rfl htx ?_
  refine s_iconst (v := 1) (tb_ok aX8_force_0 5 rfl) (by decide) ?_
  refine s_isub (tb_ok aX8_force_0 6 rfl) ?_
  refine s_i2l (tb_ok aX8_force_0 7 rfl) ?_
  refine s_cSp (as := [_, .long (0), _]) (tb_ok aX8_force_0 8 rfl) v_RX8_73 (R_in _ _ _) (by decide) rfl rfl (Nat.le_of_ble_eq_true rfl) ?_
  refine s_topi (bI_t (in_m.mpr (vH_m hi (by omega)))) ?_
  refine s_if_ne (tgt := 19) (tb_ok aX8_force_0 9 rfl) (by decide) (fun c13 => ?_) (fun c13 => ?_)
  · refine s_aload_n (tb_ok aX8_force_0 12 rfl) rfl ?_
    refine s_getI (tb_ok aX8_force_0 13 rfl) f_RX8_108 rfl rfl rfl ?_
    refine s_name (fun x1 ex1 => ?_)
    refine s_istore_n (ls' := [some (.ref 66), some (.int (nI i)), some (.int x1)]) (tb_ok aX8_force_0 14 rfl) rfl rfl ?_
    refine s_aload_n (tb_ok aX8_force_0 15 rfl) rfl ?_
    refine s_iload_n (tb_ok aX8_force_0 16 rfl) rfl ?_
    refine s_putI (tb_ok aX8_force_0 17 rfl) f_RX8_108 rfl rfl ?_
    refine s_iload_n (tb_ok aX8_force_0 18 rfl) rfl ?_
    refine s_iret (tb_ok aX8_force_0 19 rfl) rfl ?_
    rw [ex1]
    exact pureR
  · exact absurd c13 (by decide)

set_option maxRecDepth 100000 in
set_option maxHeartbeats 1000000 in
theorem R_forceB {X : En} {L : FL} {q : Nat × Nat} {I : FI} {tx : Nat} {x : Int32} (htx : I 66 3 = nI tx) (hv : ¬ vH x tx) : Ev X 3 mX8_force (0, 0) [.ref 66, .int x] S0 I L (R0 q) (PureR (some (.int (-2))) S0 (I) L (R0 q)) := by
  refine ev_of (by decide +kernel) rfl ?_
  show SW X _ _ _ 0 [some (.ref 66), some (.int x), none] [] S0 I L (R0 q) _
  refine s_iload_n (tb_ok aX8_force_0 0 rfl) rfl ?_
  refine s_i2l (tb_ok aX8_force_0 1 rfl) ?_
  refine s_lconst (v := 0) (tb_ok aX8_force_0 2 rfl) (by decide) ?_
  refine s_aload_n (tb_ok aX8_force_0 3 rfl) rfl ?_
  refine s_getI (x := (nI tx)) (tb_ok aX8_force_0 4 rfl) f_RX8_67 rfl rfl htx ?_
  refine s_iconst (v := 1) (tb_ok aX8_force_0 5 rfl) (by decide) ?_
  refine s_isub (tb_ok aX8_force_0 6 rfl) ?_
  refine s_i2l (tb_ok aX8_force_0 7 rfl) ?_
  refine s_cSp (as := [_, .long (0), _]) (tb_ok aX8_force_0 8 rfl) v_RX8_73 (R_in _ _ _) (by decide) rfl rfl (Nat.le_of_ble_eq_true rfl) ?_
  refine s_topi (bI_congr in_m) ?_
  refine s_if_ne (tgt := 19) (tb_ok aX8_force_0 9 rfl) (by decide) (fun c13 => ?_) (fun c13 => ?_)
  · exact absurd (bI_n c13) hv
  · refine s_bipush (v := -2) (tb_ok aX8_force_0 10 rfl) (by decide) ?_
    refine s_iret (tb_ok aX8_force_0 11 rfl) rfl ?_
    exact pureR

set_option maxRecDepth 100000 in
set_option maxHeartbeats 1000000 in
theorem R_tell {X : En} {L : FL} {q : Nat × Nat} {I : FI} {m : Nat} {fr fa : Nat → Int32} {M : Nat} {T : Nat → Nat → Int32} {d : Nat} {sem : Nat → Sem} (h : RSt I m fr fa M T d sem) (hd : d ≤ 5000) {j : Nat} (hj : j < M) {g : Nat} (hg : g < 12) (hk : knI (T j) (nI g) = 0) : Ev X 60 mX8_tell (0, 0) [.ref 66, .int (nI j), .int (nI g)] S0 I L (R0 q) (AfI q (some (.int (wlI sem fr fa m (T j) (nI g) (nI d)))) (fun I' => RSt I' m fr fa M (uT T j (heaP sem fr fa m (T j) (nI g) (nI d))) d sem ∧ FrE eP I' I)) := by
  have hM5 := h.M5
  refine ev_of (by decide +kernel) rfl ?_
  show SW X _ _ _ 0 [some (.ref 66), some (.int (nI j)), some (.int (nI g))] [] S0 I L (R0 q) _
  refine s_aload_n (tb_ok aX8_tell_0 0 rfl) rfl ?_
  refine s_iload_n (tb_ok aX8_tell_0 1 rfl) rfl ?_
  refine s_cVp (as := [.int (nI j)]) (tb_ok aX8_tell_0 2 rfl) v_RX8_90 (R_isHouse h.mn _) (by decide) rfl rfl rfl rfl rfl (Nat.le_of_ble_eq_true rfl) (by decide) ?_
  refine s_topi (bI_t (vH_t hj hM5)) ?_
  refine s_if_eq (tgt := 15) (tb_ok aX8_tell_0 3 rfl) (by decide) (fun c5 => ?_) (fun c5 => ?_)
  · exact absurd c5 (by decide)
  · refine s_iload_n (tb_ok aX8_tell_0 4 rfl) rfl ?_
    refine s_cSp (as := [.int (nI g)]) (tb_ok aX8_tell_0 5 rfl) v_RX8_81 (R_isFact _) (by decide) rfl rfl (Nat.le_of_ble_eq_true rfl) ?_
    refine s_topi (bI_t (inN (n := g) (hi := 11) (by omega) (by decide))) ?_
    refine s_if_ne (tgt := 18) (tb_ok aX8_tell_0 6 rfl) (by decide) (fun c12 => ?_) (fun c12 => ?_)
    · refine s_aload_n (tb_ok aX8_tell_0 9 rfl) rfl ?_
      refine s_iload_n (tb_ok aX8_tell_0 10 rfl) rfl ?_
      refine s_iload_n (tb_ok aX8_tell_0 11 rfl) rfl ?_
      refine s_cVp (as := [.int (nI j), .int (nI g)]) (tb_ok aX8_tell_0 12 rfl) v_RX8_372 (R_knowsIt h hj _) (by decide) rfl rfl rfl rfl rfl (Nat.le_of_ble_eq_true rfl) (by decide) ?_
      rw [hk]
      refine s_if_eq (tgt := 32) (tb_ok aX8_tell_0 13 rfl) (by decide) (fun c24 => ?_) (fun c24 => ?_)
      · refine s_aload_n (tb_ok aX8_tell_0 16 rfl) rfl ?_
        refine s_iload_n (tb_ok aX8_tell_0 17 rfl) rfl ?_
        refine s_iload_n (tb_ok aX8_tell_0 18 rfl) rfl ?_
        refine s_cV (as := [.int (nI j), .int (nI g)]) (tb_ok aX8_tell_0 19 rfl) v_RX8_378 (R_hears h hj hg) (by decide) rfl rfl rfl rfl rfl (Nat.le_of_ble_eq_true rfl) (by decide) (fun r1 S1 I1 L1 R1 q1 => ?_)
        obtain ⟨rfl, rfl, rfl, hh⟩ := q1
        refine s_iret (tb_ok aX8_tell_0 20 rfl) rfl ?_
        exact ⟨rfl, rfl, rfl, hh⟩
      · exact absurd c24 (by decide)
    · exact absurd c12 (by decide)

set_option maxRecDepth 100000 in
set_option maxHeartbeats 1000000 in
theorem R_tellK {X : En} {L : FL} {q : Nat × Nat} {I : FI} {m : Nat} {fr fa : Nat → Int32} {M : Nat} {T : Nat → Nat → Int32} {d : Nat} {sem : Nat → Sem} (h : RSt I m fr fa M T d sem) (hd : d ≤ 5000) {j : Nat} (hj : j < M) {g : Nat} (hg : g < 12) (hk : ¬ knI (T j) (nI g) = 0) : Ev X 60 mX8_tell (0, 0) [.ref 66, .int (nI j), .int (nI g)] S0 I L (R0 q) (AfZ q eB I (-3)) := by
  have hM5 := h.M5
  refine ev_of (by decide +kernel) rfl ?_
  show SW X _ _ _ 0 [some (.ref 66), some (.int (nI j)), some (.int (nI g))] [] S0 I L (R0 q) _
  refine s_aload_n (tb_ok aX8_tell_0 0 rfl) rfl ?_
  refine s_iload_n (tb_ok aX8_tell_0 1 rfl) rfl ?_
  refine s_cVp (as := [.int (nI j)]) (tb_ok aX8_tell_0 2 rfl) v_RX8_90 (R_isHouse h.mn _) (by decide) rfl rfl rfl rfl rfl (Nat.le_of_ble_eq_true rfl) (by decide) ?_
  refine s_topi (bI_t (vH_t hj hM5)) ?_
  refine s_if_eq (tgt := 15) (tb_ok aX8_tell_0 3 rfl) (by decide) (fun c5 => ?_) (fun c5 => ?_)
  · exact absurd c5 (by decide)
  · refine s_iload_n (tb_ok aX8_tell_0 4 rfl) rfl ?_
    refine s_cSp (as := [.int (nI g)]) (tb_ok aX8_tell_0 5 rfl) v_RX8_81 (R_isFact _) (by decide) rfl rfl (Nat.le_of_ble_eq_true rfl) ?_
    refine s_topi (bI_t (inN (n := g) (hi := 11) (by omega) (by decide))) ?_
    refine s_if_ne (tgt := 18) (tb_ok aX8_tell_0 6 rfl) (by decide) (fun c12 => ?_) (fun c12 => ?_)
    · refine s_aload_n (tb_ok aX8_tell_0 9 rfl) rfl ?_
      refine s_iload_n (tb_ok aX8_tell_0 10 rfl) rfl ?_
      refine s_iload_n (tb_ok aX8_tell_0 11 rfl) rfl ?_
      refine s_cVp (as := [.int (nI j), .int (nI g)]) (tb_ok aX8_tell_0 12 rfl) v_RX8_372 (R_knowsIt h hj _) (by decide) rfl rfl rfl rfl rfl (Nat.le_of_ble_eq_true rfl) (by decide) ?_
      refine s_if_eq (tgt := 32) (tb_ok aX8_tell_0 13 rfl) (by decide) (fun c24 => ?_) (fun c24 => ?_)
      · exact absurd c24 hk
      · refine s_bipush (v := -3) (tb_ok aX8_tell_0 14 rfl) (by decide) ?_
        refine s_goto (tgt := 38) (tb_ok aX8_tell_0 15 rfl) (by decide) ?_
        refine s_iret (tb_ok aX8_tell_0 20 rfl) rfl ?_
        exact afZ rfl FrE.refl
    · exact absurd c12 (by decide)

set_option maxRecDepth 100000 in
set_option maxHeartbeats 1000000 in
theorem R_tellB {X : En} {L : FL} {q : Nat × Nat} {I : FI} {m : Nat} {fr fa : Nat → Int32} {M : Nat} {T : Nat → Nat → Int32} {d : Nat} {sem : Nat → Sem} (h : RSt I m fr fa M T d sem) {x w : Int32} (hv : ¬ (vH x M ∧ (¬ w < 0 ∧ ¬ 11 < w))) : Ev X 60 mX8_tell (0, 0) [.ref 66, .int x, .int w] S0 I L (R0 q) (AfZ q eB I (-2)) := by
  have hM5 := h.M5
  refine ev_of (by decide +kernel) rfl ?_
  show SW X _ _ _ 0 [some (.ref 66), some (.int x), some (.int w)] [] S0 I L (R0 q) _
  refine s_aload_n (tb_ok aX8_tell_0 0 rfl) rfl ?_
  refine s_iload_n (tb_ok aX8_tell_0 1 rfl) rfl ?_
  refine s_cVp (as := [.int x]) (tb_ok aX8_tell_0 2 rfl) v_RX8_90 (R_isHouse h.mn _) (by decide) rfl rfl rfl rfl rfl (Nat.le_of_ble_eq_true rfl) (by decide) ?_
  refine s_if_eq (tgt := 15) (tb_ok aX8_tell_0 3 rfl) (by decide) (fun c5 => ?_) (fun c5 => ?_)
  · refine s_bipush (v := -2) (tb_ok aX8_tell_0 7 rfl) (by decide) ?_
    refine s_iret (tb_ok aX8_tell_0 8 rfl) rfl ?_
    exact afZ rfl FrE.refl
  · refine s_iload_n (tb_ok aX8_tell_0 4 rfl) rfl ?_
    refine s_cSp (as := [.int w]) (tb_ok aX8_tell_0 5 rfl) v_RX8_81 (R_isFact _) (by decide) rfl rfl (Nat.le_of_ble_eq_true rfl) ?_
    refine s_if_ne (tgt := 18) (tb_ok aX8_tell_0 6 rfl) (by decide) (fun c12 => ?_) (fun c12 => ?_)
    · exact absurd ⟨bI_n c5, bI_n c12⟩ hv
    · refine s_bipush (v := -2) (tb_ok aX8_tell_0 7 rfl) (by decide) ?_
      refine s_iret (tb_ok aX8_tell_0 8 rfl) rfl ?_
      exact afZ rfl FrE.refl

set_option maxRecDepth 100000 in
set_option maxHeartbeats 1000000 in
theorem R_day {X : En} {L : FL} {q : Nat × Nat} {I : FI} {m : Nat} {fr fa : Nat → Int32} {M : Nat} {T : Nat → Nat → Int32} {d : Nat} {sem : Nat → Sem} (h : RSt I m fr fa M T d sem) (hd : d < 999) : Ev X 60 mX8_day (0, 0) [.ref 66] S0 I L (R0 q) (AfI q (some (.int (pdS sem fr fa m T (nI d) M))) (fun I' => RSt I' m fr fa M (fun j => pasP sem fr fa m (T j) (nI d)) (d + 1) sem ∧ FrE eP I' I)) := by
  have hM5 := h.M5
  refine ev_of (by decide +kernel) rfl ?_
  show SW X _ _ _ 0 [some (.ref 66)] [] S0 I L (R0 q) _
  refine s_aload_n (tb_ok aX8_day_0 0 rfl) rfl ?_
  refine s_getI (x := (nI d)) (tb_ok aX8_day_0 1 rfl) f_RX8_105 rfl rfl h.day ?_
  refine s_sipush (v := nI 999) (tb_ok aX8_day_0 2 rfl) (by decide) ?_
  refine s_icmp_ne (tgt := 15) (tb_ok aX8_day_0 3 rfl) (by decide) (fun c7 => ?_) (fun c7 => ?_)
  · refine s_aload_n (tb_ok aX8_day_0 6 rfl) rfl ?_
    refine s_cV (as := []) (tb_ok aX8_day_0 7 rfl) v_RX8_381 (R_passes h (by omega)) (by decide) rfl rfl rfl rfl rfl (Nat.le_of_ble_eq_true rfl) (by decide) (fun r1 S1 I1 L1 R1 q1 => ?_)
    obtain ⟨rfl, rfl, rfl, hh⟩ := q1
    refine s_iret (tb_ok aX8_day_0 8 rfl) rfl ?_
    exact ⟨rfl, rfl, rfl, hh⟩
  · simp (disch := omega) only [nI_ltI, nI_leI, nI_eq] at c7
    omega

set_option maxRecDepth 100000 in
set_option maxHeartbeats 1000000 in
theorem R_dayE {X : En} {L : FL} {q : Nat × Nat} {I : FI} {m : Nat} {fr fa : Nat → Int32} {M : Nat} {T : Nat → Nat → Int32} {d : Nat} {sem : Nat → Sem} (h : RSt I m fr fa M T d sem) (hd : d = 999) : Ev X 60 mX8_day (0, 0) [.ref 66] S0 I L (R0 q) (AfZ q eB I (-3)) := by
  have hM5 := h.M5
  subst hd
  refine ev_of (by decide +kernel) rfl ?_
  show SW X _ _ _ 0 [some (.ref 66)] [] S0 I L (R0 q) _
  refine s_aload_n (tb_ok aX8_day_0 0 rfl) rfl ?_
  refine s_getI (x := (nI 999)) (tb_ok aX8_day_0 1 rfl) f_RX8_105 rfl rfl h.day ?_
  refine s_sipush (v := nI 999) (tb_ok aX8_day_0 2 rfl) (by decide) ?_
  refine s_icmp_ne (tgt := 15) (tb_ok aX8_day_0 3 rfl) (by decide) (fun c7 => ?_) (fun c7 => ?_)
  · exact absurd c7 (by decide)
  · refine s_bipush (v := -3) (tb_ok aX8_day_0 4 rfl) (by decide) ?_
    refine s_goto (tgt := 19) (tb_ok aX8_day_0 5 rfl) (by decide) ?_
    refine s_iret (tb_ok aX8_day_0 8 rfl) rfl ?_
    exact afZ rfl FrE.refl
