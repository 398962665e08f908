/-! the reference: when, baskets, the first other, drawn, missed -/
section WHN
variable {sem : Nat → (Nat → Int32) → Int32} {fr fa : Nat → Int32} {m : Nat} {day : Int32} {f : Nat → Int32} {fact : Int32}
theorem whn_k {n k : Nat} (h : ¬ knI (itP sem fr fa m day f k) fact = 0) : whnS sem fr fa m day f fact n k = nI k := by
  cases n with
  | zero => unfold whnS; rw [if_neg h]
  | succ n => unfold whnS; rw [if_neg h]
theorem whn_0 {k : Nat} (h : knI (itP sem fr fa m day f k) fact = 0) : whnS sem fr fa m day f fact 0 k = -1 := by unfold whnS; rw [if_pos h]
theorem whn_s {n k : Nat} (h : knI (itP sem fr fa m day f k) fact = 0) : whnS sem fr fa m day f fact (n + 1) k = whnS sem fr fa m day f fact n (k + 1) := by
  show (if knI (itP sem fr fa m day f k) fact = 0 then whnS sem fr fa m day f fact n (k + 1) else nI k) = _
  exact if_pos h
end WHN
set_option maxRecDepth 100000 in
set_option maxHeartbeats 1000000 in
theorem R_whenOf {X : En} {L : FL} {q : Nat × Nat} {I : FI} {m : Nat} {fr fa : Nat → Int32} {M : Nat} {T : Nat → Nat → Int32} {d : Nat} {sem : Nat → Sem} (h : RSt I m fr fa M T d sem) (hd : d ≤ 5000) {j : Nat} (hj : j < M) (fact : Int32) : Ev X 56 mX8_whenOf (0, 0) [.ref 66, .int (nI j), .int fact] S0 I L (R0 q) (AfZ q eB I (whnS sem fr fa m (nI d) (T j) fact 40 0)) := by
  have hM5 := h.M5
  have loop : ∀ k, k ≤ 41 → ∀ (I1 : FI), ∀ (L1 : FL), (RSt I1 m fr fa M (itT sem fr fa m d T k) (d + k) sem) → (Mid I I1) → (whnS sem fr fa m (nI d) (T j) fact 40 0 = if k ≤ 40 then whnS sem fr fa m (nI d) (T j) fact (40 - k) k else -1) → SW X 56 mX8_whenOf (0, 0) 6 [some (.ref 66), some (.int (nI j)), some (.int fact), some (.int (nI k))] [] S0 I1 L1 (R0 q) (KQ X (AfZ q eB I (whnS sem fr fa m (nI d) (T j) fact 40 0))) := by
    refine for_up (P := fun k => ∀ (I1 : FI), ∀ (L1 : FL), (RSt I1 m fr fa M (itT sem fr fa m d T k) (d + k) sem) → (Mid I I1) → (whnS sem fr fa m (nI d) (T j) fact 40 0 = if k ≤ 40 then whnS sem fr fa m (nI d) (T j) fact (40 - k) k else -1) → SW X 56 mX8_whenOf (0, 0) 6 [some (.ref 66), some (.int (nI j)), some (.int fact), some (.int (nI k))] [] S0 I1 L1 (R0 q) (KQ X (AfZ q eB I (whnS sem fr fa m (nI d) (T j) fact 40 0)))) 41 ?_ ?_
    · intro I1 L1 hi hi1 hi2
      refine s_iload_n (tb_ok aX8_whenOf_0 4 rfl) rfl ?_
      refine s_bipush (v := nI 40) (tb_ok aX8_whenOf_0 5 rfl) (by decide) ?_
      refine s_icmp_gt (tgt := 32) (tb_ok aX8_whenOf_0 6 rfl) (by decide) (fun c9 => ?_) (fun c9 => ?_)
      · refine s_aload_n (tb_ok aX8_whenOf_0 17 rfl) rfl ?_
        refine s_cV (as := []) (tb_ok aX8_whenOf_0 18 rfl) v_RX8_397 (R_laysBack) (by decide) rfl rfl rfl rfl rfl (Nat.le_of_ble_eq_true rfl) (by decide) (fun r1 S1 I1 L1 R1 q1 => ?_)
        obtain ⟨rfl, rfl, rfl, rfl, rfl⟩ := q1
        refine s_iload_n (tb_ok aX8_whenOf_0 19 rfl) rfl ?_
        refine s_bipush (v := nI 40) (tb_ok aX8_whenOf_0 20 rfl) (by decide) ?_
        refine s_icmp_le (tgt := 46) (tb_ok aX8_whenOf_0 21 rfl) (by decide) (fun c39 => ?_) (fun c39 => ?_)
        · simp (disch := omega) only [nI_ltI, nI_leI, nI_eq] at c39
          omega
        · refine s_iconst (v := -1) (tb_ok aX8_whenOf_0 22 rfl) (by decide) ?_
          refine s_goto (tgt := 47) (tb_ok aX8_whenOf_0 23 rfl) (by decide) ?_
          refine s_iret (tb_ok aX8_whenOf_1 1 rfl) rfl ?_
          exact afZ (by rw [hi2]; exact (if_neg (by omega)).symm) hi1.back
      · simp (disch := omega) only [nI_ltI, nI_leI, nI_eq] at c9
        omega
    · intro k hk ih I1 L1 hi hi1 hi2
      refine s_iload_n (tb_ok aX8_whenOf_0 4 rfl) rfl ?_
      refine s_bipush (v := nI 40) (tb_ok aX8_whenOf_0 5 rfl) (by decide) ?_
      refine s_icmp_gt (tgt := 32) (tb_ok aX8_whenOf_0 6 rfl) (by decide) (fun c9 => ?_) (fun c9 => ?_)
      · simp (disch := omega) only [nI_ltI, nI_leI, nI_eq] at c9
        omega
      · refine s_aload_n (tb_ok aX8_whenOf_0 7 rfl) rfl ?_
        refine s_iload_n (tb_ok aX8_whenOf_0 8 rfl) rfl ?_
        refine s_iload_n (tb_ok aX8_whenOf_0 9 rfl) rfl ?_
        refine s_cVp (as := [.int (nI j), .int fact]) (tb_ok aX8_whenOf_0 10 rfl) v_RX8_372 (R_knowsIt hi hj _) (by decide) rfl rfl rfl rfl rfl (Nat.le_of_ble_eq_true rfl) (by decide) ?_
        refine s_if_ne (tgt := 32) (tb_ok aX8_whenOf_0 11 rfl) (by decide) (fun c18 => ?_) (fun c18 => ?_)
        · have hk40 : k ≤ 40 := by simp (disch := omega) only [nI_ltI] at c9; omega
          refine s_aload_n (tb_ok aX8_whenOf_0 17 rfl) rfl ?_
          refine s_cV (as := []) (tb_ok aX8_whenOf_0 18 rfl) v_RX8_397 (R_laysBack) (by decide) rfl rfl rfl rfl rfl (Nat.le_of_ble_eq_true rfl) (by decide) (fun r1 S1 I1 L1 R1 q1 => ?_)
          obtain ⟨rfl, rfl, rfl, rfl, rfl⟩ := q1
          refine s_iload_n (tb_ok aX8_whenOf_0 19 rfl) rfl ?_
          refine s_bipush (v := nI 40) (tb_ok aX8_whenOf_0 20 rfl) (by decide) ?_
          refine s_icmp_le (tgt := 46) (tb_ok aX8_whenOf_0 21 rfl) (by decide) (fun c39 => ?_) (fun c39 => ?_)
          · refine s_iload_n (tb_ok aX8_whenOf_1 0 rfl) rfl ?_
            refine s_iret (tb_ok aX8_whenOf_1 1 rfl) rfl ?_
            refine afZ ?_ hi1.back
            rw [hi2, if_pos (by omega)]
            exact (whn_k c18).symm
          · simp (disch := omega) only [nI_ltI, nI_leI, nI_eq] at c39
            omega
        · have hk40 : k ≤ 40 := by simp (disch := omega) only [nI_ltI] at c9; omega
          refine s_aload_n (tb_ok aX8_whenOf_0 12 rfl) rfl ?_
          refine s_cV (as := []) (tb_ok aX8_whenOf_0 13 rfl) v_RX8_381 (R_passes hi (by omega)) (by decide) rfl rfl rfl rfl rfl (Nat.le_of_ble_eq_true rfl) (by decide) (fun r2 S2 I2 L2 R2 q2 => ?_)
          obtain ⟨rfl, rfl, rfl, hp, hpf⟩ := q2
          have hp := hp.its
          refine s_pop (tb_ok aX8_whenOf_0 14 rfl) rfl ?_
          refine s_iinc (v := nI (k + 1)) (ls' := [some (.ref 66), some (.int (nI j)), some (.int fact), some (.int (nI (k + 1)))]) (tb_ok aX8_whenOf_0 15 rfl) rfl (nI_1 _) rfl rfl ?_
          refine s_goto (tgt := 6) (tb_ok aX8_whenOf_0 16 rfl) (by decide) ?_
          refine ih _ _ hp (hi1.go hpf) ?_
          rw [hi2, if_pos hk40]
          by_cases h40 : k = 40
          · subst h40
            rw [if_neg (by omega)]
            exact whn_0 c18
          · rw [if_pos (by omega), show 40 - k = (40 - (k + 1)) + 1 by omega]
            exact whn_s c18
  refine ev_of (by decide +kernel) rfl ?_
  show SW X _ _ _ 0 [some (.ref 66), some (.int (nI j)), some (.int fact), none] [] S0 I L (R0 q) _
  refine s_aload_n (tb_ok aX8_whenOf_0 0 rfl) rfl ?_
  refine s_cV (as := []) (tb_ok aX8_whenOf_0 1 rfl) v_RX8_394 (R_laysAside) (by decide) rfl rfl rfl rfl rfl (Nat.le_of_ble_eq_true rfl) (by decide) (fun r1 S1 I1 L1 R1 q1 => ?_)
  obtain ⟨rfl, rfl, rfl, rfl, rfl⟩ := q1
  have ha := h.see (see_eB (aside_B (I := I)))
  refine s_iconst (v := nI 0) (tb_ok aX8_whenOf_0 2 rfl) (by decide) ?_
  refine s_istore_n (ls' := [some (.ref 66), some (.int (nI j)), some (.int fact), some (.int (nI 0))]) (tb_ok aX8_whenOf_0 3 rfl) rfl rfl ?_
  exact loop 0 (Nat.zero_le _) _ _ ha mid_0 rfl

theorem nI_m1 {n : Nat} (h : n < 2 ^ 31) : ¬ nI n = -1 := fun e => by
  have h5 := congrArg Int32.toInt e
  rw [nI_int h] at h5
  have h6 : (-1 : Int32).toInt = -1 := by decide
  omega
set_option maxRecDepth 100000 in
set_option maxHeartbeats 1000000 in
theorem R_bsk {X : En} {L : FL} {q : Nat × Nat} {I : FI} {m : Nat} {fr fa : Nat → Int32} {M : Nat} {T : Nat → Nat → Int32} {d : Nat} {sem : Nat → Sem} (h : RSt I m fr fa M T d sem) (hd : d ≤ 5000) {j : Nat} (hj : j < M) {n : Nat} (hn : n ≤ 40) : Ev X 56 mX8_basketBy (0, 0) [.ref 66, .int (nI j), .int (-1), .int (nI n), .int (0)] S0 I L (R0 q) (AfZ q eB I (T j 3 - itT sem fr fa m d T n j 3)) := by
  have hM5 := h.M5
  have loop : ∀ k, k ≤ n → ∀ (b0 : Int32), ∀ (I1 : FI), ∀ (L1 : FL), (b0 = T j 3) → (RSt I1 m fr fa M (itT sem fr fa m d T k) (d + k) sem) → (Mid I I1) → SW X 56 mX8_basketBy (0, 0) 43 [some (.ref 66), some (.int (nI j)), some (.int (-1)), some (.int (nI n)), some (.int (0)), some (.int b0), some (.int (nI k))] [] S0 I1 L1 (R0 q) (KQ X (AfZ q eB I (T j 3 - itT sem fr fa m d T n j 3))) := by
    refine for_up (P := fun k => ∀ (b0 : Int32), ∀ (I1 : FI), ∀ (L1 : FL), (b0 = T j 3) → (RSt I1 m fr fa M (itT sem fr fa m d T k) (d + k) sem) → (Mid I I1) → SW X 56 mX8_basketBy (0, 0) 43 [some (.ref 66), some (.int (nI j)), some (.int (-1)), some (.int (nI n)), some (.int (0)), some (.int b0), some (.int (nI k))] [] S0 I1 L1 (R0 q) (KQ X (AfZ q eB I (T j 3 - itT sem fr fa m d T n j 3)))) n ?_ ?_
    · intro b0 I1 L1 hi hi1 hi2
      refine s_iload (tb_ok aX8_basketBy_1 2 rfl) rfl ?_
      refine s_iload_n (tb_ok aX8_basketBy_1 3 rfl) rfl ?_
      refine s_icmp_ge (tgt := 60) (tb_ok aX8_basketBy_1 4 rfl) (by decide) (fun c46 => ?_) (fun c46 => ?_)
      · refine s_iload (tb_ok aX8_basketBy_1 10 rfl) rfl ?_
        refine s_iload (tb_ok aX8_basketBy_1 11 rfl) rfl ?_
        refine s_if_eq (tgt := 74) (tb_ok aX8_basketBy_1 12 rfl) (by decide) (fun c64 => ?_) (fun c64 => ?_)
        · refine s_aload_n (tb_ok aX8_basketBy_1 16 rfl) rfl ?_
          refine s_getR (r := 73) (tb_ok aX8_basketBy_1 17 rfl) f_RX8_32 rfl rfl rfl ?_
          refine s_iconst (v := 4) (tb_ok aX8_basketBy_1 18 rfl) (by decide) ?_
          refine s_iload_n (tb_ok aX8_basketBy_1 19 rfl) rfl ?_
          refine s_imul (tb_ok aX8_basketBy_1 20 rfl) ?_
          refine s_topi (z := (nI (4 * j))) (nI_mul 4 j) ?_
          refine s_iconst (v := 2) (tb_ok aX8_basketBy_1 21 rfl) (by decide) ?_
          refine s_iadd (tb_ok aX8_basketBy_1 22 rfl) ?_
          refine s_topi (z := (nI (4 * j + 2))) (nI_add' (4 * j) 2) ?_
          refine s_ialdX (x := ((itT sem fr fa m d T n) j 3)) (tb_ok aX8_basketBy_1 23 rfl) rfl (by omega) (by decide) (hi1.c3 hj) ?_
          refine s_isub (tb_ok aX8_basketBy_2 0 rfl) ?_
          refine s_name (fun x1 ex1 => ?_)
          refine s_istore (ls' := [some (.ref 66), some (.int (nI j)), some (.int (-1)), some (.int (nI n)), some (.int (0)), some (.int b0), some (.int x1)]) (tb_ok aX8_basketBy_2 1 rfl) rfl rfl ?_
          refine s_aload_n (tb_ok aX8_basketBy_2 2 rfl) rfl ?_
          refine s_cV (as := []) (tb_ok aX8_basketBy_2 3 rfl) v_RX8_397 (R_laysBack) (by decide) rfl rfl rfl rfl rfl (Nat.le_of_ble_eq_true rfl) (by decide) (fun r1 S1 I1 L1 R1 q1 => ?_)
          obtain ⟨rfl, rfl, rfl, rfl, rfl⟩ := q1
          refine s_iload (tb_ok aX8_basketBy_2 4 rfl) rfl ?_
          refine s_iret (tb_ok aX8_basketBy_2 5 rfl) rfl ?_
          refine afZ ?_ hi2.back
          rw [ex1, hi]
        · exact absurd c64 (by decide)
      · simp (disch := omega) only [nI_ltI, nI_leI, nI_eq] at c46
        omega
    · intro k hk ih b0 I1 L1 hi hi1 hi2
      refine s_iload (tb_ok aX8_basketBy_1 2 rfl) rfl ?_
      refine s_iload_n (tb_ok aX8_basketBy_1 3 rfl) rfl ?_
      refine s_icmp_ge (tgt := 60) (tb_ok aX8_basketBy_1 4 rfl) (by decide) (fun c46 => ?_) (fun c46 => ?_)
      · simp (disch := omega) only [nI_ltI, nI_leI, nI_eq] at c46
        omega
      · refine s_aload_n (tb_ok aX8_basketBy_1 5 rfl) rfl ?_
        refine s_cV (as := []) (tb_ok aX8_basketBy_1 6 rfl) v_RX8_381 (R_passes hi1 (by omega)) (by decide) rfl rfl rfl rfl rfl (Nat.le_of_ble_eq_true rfl) (by decide) (fun r1 S1 I1 L1 R1 q1 => ?_)
        obtain ⟨rfl, rfl, rfl, hp, hpf⟩ := q1
        have hp := hp.its
        refine s_pop (tb_ok aX8_basketBy_1 7 rfl) rfl ?_
        refine s_iinc (v := nI (k + 1)) (ls' := [some (.ref 66), some (.int (nI j)), some (.int (-1)), some (.int (nI n)), some (.int (0)), some (.int b0), some (.int (nI (k + 1)))]) (tb_ok aX8_basketBy_1 8 rfl) rfl (nI_1 _) rfl rfl ?_
        refine s_goto (tgt := 43) (tb_ok aX8_basketBy_1 9 rfl) (by decide) ?_
        exact ih _ _ _ hi hp (hi2.go hpf)
  refine ev_of (by decide +kernel) rfl ?_
  show SW X _ _ _ 0 [some (.ref 66), some (.int (nI j)), some (.int (-1)), some (.int (nI n)), some (.int (0)), none, none] [] S0 I L (R0 q) _
  refine s_iload (tb_ok aX8_basketBy_0 0 rfl) rfl ?_
  refine s_if_eq (tgt := 12) (tb_ok aX8_basketBy_0 1 rfl) (by decide) (fun c2 => ?_) (fun c2 => ?_)
  · refine s_aload_n (tb_ok aX8_basketBy_0 5 rfl) rfl ?_
    refine s_getR (r := 73) (tb_ok aX8_basketBy_0 6 rfl) f_RX8_32 rfl rfl rfl ?_
    refine s_iconst (v := 4) (tb_ok aX8_basketBy_0 7 rfl) (by decide) ?_
    refine s_iload_n (tb_ok aX8_basketBy_0 8 rfl) rfl ?_
    refine s_imul (tb_ok aX8_basketBy_0 9 rfl) ?_
    refine s_topi (z := (nI (4 * j))) (nI_mul 4 j) ?_
    refine s_iconst (v := 2) (tb_ok aX8_basketBy_0 10 rfl) (by decide) ?_
    refine s_iadd (tb_ok aX8_basketBy_0 11 rfl) ?_
    refine s_topi (z := (nI (4 * j + 2))) (nI_add' (4 * j) 2) ?_
    refine s_ialdX (x := (T j 3)) (tb_ok aX8_basketBy_0 12 rfl) rfl (by omega) (by decide) (h.c3 hj) ?_
    refine s_name (fun x1 ex1 => ?_)
    refine s_istore (ls' := [some (.ref 66), some (.int (nI j)), some (.int (-1)), some (.int (nI n)), some (.int (0)), some (.int x1), none]) (tb_ok aX8_basketBy_0 13 rfl) rfl rfl ?_
    refine s_aload_n (tb_ok aX8_basketBy_0 14 rfl) rfl ?_
    refine s_cV (as := []) (tb_ok aX8_basketBy_0 15 rfl) v_RX8_394 (R_laysAside) (by decide) rfl rfl rfl rfl rfl (Nat.le_of_ble_eq_true rfl) (by decide) (fun r1 S1 I1 L1 R1 q1 => ?_)
    obtain ⟨rfl, rfl, rfl, rfl, rfl⟩ := q1
    have ha := h.see (see_eB (aside_B (I := I)))
    refine s_iload_n (tb_ok aX8_basketBy_0 16 rfl) rfl ?_
    refine s_iconst (v := -1) (tb_ok aX8_basketBy_0 17 rfl) (by decide) ?_
    refine s_icmp_eq (tgt := 40) (tb_ok aX8_basketBy_0 18 rfl) (by decide) (fun c30 => ?_) (fun c30 => ?_)
    · refine s_iconst (v := nI 0) (tb_ok aX8_basketBy_1 0 rfl) (by decide) ?_
      refine s_istore (ls' := [some (.ref 66), some (.int (nI j)), some (.int (-1)), some (.int (nI n)), some (.int (0)), some (.int x1), some (.int (nI 0))]) (tb_ok aX8_basketBy_1 1 rfl) rfl rfl ?_
      exact loop 0 (Nat.zero_le _) x1 _ _ ex1 ha mid_0
    · exact absurd rfl c30
  · exact absurd c2 (by decide)

set_option maxRecDepth 100000 in
set_option maxHeartbeats 1000000 in
theorem R_bskH {X : En} {L : FL} {q : Nat × Nat} {I : FI} {m : Nat} {fr fa : Nat → Int32} {M : Nat} {T : Nat → Nat → Int32} {d : Nat} {sem : Nat → Sem} (h : RSt I m fr fa M T d sem) (hd : d ≤ 5000) {j : Nat} (hj : j < M) {g : Nat} (hg : g < 12) {n : Nat} (hn : n ≤ 40) : Ev X 56 mX8_basketBy (0, 0) [.ref 66, .int (nI j), .int (nI g), .int (nI n), .int (0)] S0 I L (R0 q) (AfZ q eB I (T j 3 - itT sem fr fa m d (uT T j (heaP sem fr fa m (T j) (nI g) (nI d))) n j 3)) := by
  have hM5 := h.M5
  have loop : ∀ k, k ≤ n → ∀ (b0 : Int32), ∀ (I1 : FI), ∀ (L1 : FL), (b0 = T j 3) → (RSt I1 m fr fa M (itT sem fr fa m d (uT T j (heaP sem fr fa m (T j) (nI g) (nI d))) k) (d + k) sem) → (Mid I I1) → SW X 56 mX8_basketBy (0, 0) 43 [some (.ref 66), some (.int (nI j)), some (.int (nI g)), some (.int (nI n)), some (.int (0)), some (.int b0), some (.int (nI k))] [] S0 I1 L1 (R0 q) (KQ X (AfZ q eB I (T j 3 - itT sem fr fa m d (uT T j (heaP sem fr fa m (T j) (nI g) (nI d))) n j 3))) := by
    refine for_up (P := fun k => ∀ (b0 : Int32), ∀ (I1 : FI), ∀ (L1 : FL), (b0 = T j 3) → (RSt I1 m fr fa M (itT sem fr fa m d (uT T j (heaP sem fr fa m (T j) (nI g) (nI d))) k) (d + k) sem) → (Mid I I1) → SW X 56 mX8_basketBy (0, 0) 43 [some (.ref 66), some (.int (nI j)), some (.int (nI g)), some (.int (nI n)), some (.int (0)), some (.int b0), some (.int (nI k))] [] S0 I1 L1 (R0 q) (KQ X (AfZ q eB I (T j 3 - itT sem fr fa m d (uT T j (heaP sem fr fa m (T j) (nI g) (nI d))) n j 3)))) n ?_ ?_
    · intro b0 I1 L1 hi hi1 hi2
      refine s_iload (tb_ok aX8_basketBy_1 2 rfl) rfl ?_
      refine s_iload_n (tb_ok aX8_basketBy_1 3 rfl) rfl ?_
      refine s_icmp_ge (tgt := 60) (tb_ok aX8_basketBy_1 4 rfl) (by decide) (fun c46 => ?_) (fun c46 => ?_)
      · refine s_iload (tb_ok aX8_basketBy_1 10 rfl) rfl ?_
        refine s_iload (tb_ok aX8_basketBy_1 11 rfl) rfl ?_
        refine s_if_eq (tgt := 74) (tb_ok aX8_basketBy_1 12 rfl) (by decide) (fun c64 => ?_) (fun c64 => ?_)
        · refine s_aload_n (tb_ok aX8_basketBy_1 16 rfl) rfl ?_
          refine s_getR (r := 73) (tb_ok aX8_basketBy_1 17 rfl) f_RX8_32 rfl rfl rfl ?_
          refine s_iconst (v := 4) (tb_ok aX8_basketBy_1 18 rfl) (by decide) ?_
          refine s_iload_n (tb_ok aX8_basketBy_1 19 rfl) rfl ?_
          refine s_imul (tb_ok aX8_basketBy_1 20 rfl) ?_
          refine s_topi (z := (nI (4 * j))) (nI_mul 4 j) ?_
          refine s_iconst (v := 2) (tb_ok aX8_basketBy_1 21 rfl) (by decide) ?_
          refine s_iadd (tb_ok aX8_basketBy_1 22 rfl) ?_
          refine s_topi (z := (nI (4 * j + 2))) (nI_add' (4 * j) 2) ?_
          refine s_ialdX (x := ((itT sem fr fa m d (uT T j (heaP sem fr fa m (T j) (nI g) (nI d))) n) j 3)) (tb_ok aX8_basketBy_1 23 rfl) rfl (by omega) (by decide) (hi1.c3 hj) ?_
          refine s_isub (tb_ok aX8_basketBy_2 0 rfl) ?_
          refine s_name (fun x1 ex1 => ?_)
          refine s_istore (ls' := [some (.ref 66), some (.int (nI j)), some (.int (nI g)), some (.int (nI n)), some (.int (0)), some (.int b0), some (.int x1)]) (tb_ok aX8_basketBy_2 1 rfl) rfl rfl ?_
          refine s_aload_n (tb_ok aX8_basketBy_2 2 rfl) rfl ?_
          refine s_cV (as := []) (tb_ok aX8_basketBy_2 3 rfl) v_RX8_397 (R_laysBack) (by decide) rfl rfl rfl rfl rfl (Nat.le_of_ble_eq_true rfl) (by decide) (fun r1 S1 I1 L1 R1 q1 => ?_)
          obtain ⟨rfl, rfl, rfl, rfl, rfl⟩ := q1
          refine s_iload (tb_ok aX8_basketBy_2 4 rfl) rfl ?_
          refine s_iret (tb_ok aX8_basketBy_2 5 rfl) rfl ?_
          refine afZ ?_ hi2.back
          rw [ex1, hi]
        · exact absurd c64 (by decide)
      · simp (disch := omega) only [nI_ltI, nI_leI, nI_eq] at c46
        omega
    · intro k hk ih b0 I1 L1 hi hi1 hi2
      refine s_iload (tb_ok aX8_basketBy_1 2 rfl) rfl ?_
      refine s_iload_n (tb_ok aX8_basketBy_1 3 rfl) rfl ?_
      refine s_icmp_ge (tgt := 60) (tb_ok aX8_basketBy_1 4 rfl) (by decide) (fun c46 => ?_) (fun c46 => ?_)
      · simp (disch := omega) only [nI_ltI, nI_leI, nI_eq] at c46
        omega
      · refine s_aload_n (tb_ok aX8_basketBy_1 5 rfl) rfl ?_
        refine s_cV (as := []) (tb_ok aX8_basketBy_1 6 rfl) v_RX8_381 (R_passes hi1 (by omega)) (by decide) rfl rfl rfl rfl rfl (Nat.le_of_ble_eq_true rfl) (by decide) (fun r1 S1 I1 L1 R1 q1 => ?_)
        obtain ⟨rfl, rfl, rfl, hp, hpf⟩ := q1
        have hp := hp.its
        refine s_pop (tb_ok aX8_basketBy_1 7 rfl) rfl ?_
        refine s_iinc (v := nI (k + 1)) (ls' := [some (.ref 66), some (.int (nI j)), some (.int (nI g)), some (.int (nI n)), some (.int (0)), some (.int b0), some (.int (nI (k + 1)))]) (tb_ok aX8_basketBy_1 8 rfl) rfl (nI_1 _) rfl rfl ?_
        refine s_goto (tgt := 43) (tb_ok aX8_basketBy_1 9 rfl) (by decide) ?_
        exact ih _ _ _ hi hp (hi2.go hpf)
  refine ev_of (by decide +kernel) rfl ?_
  show SW X _ _ _ 0 [some (.ref 66), some (.int (nI j)), some (.int (nI g)), some (.int (nI n)), some (.int (0)), none, none] [] S0 I L (R0 q) _
  refine s_iload (tb_ok aX8_basketBy_0 0 rfl) rfl ?_
  refine s_if_eq (tgt := 12) (tb_ok aX8_basketBy_0 1 rfl) (by decide) (fun c2 => ?_) (fun c2 => ?_)
  · refine s_aload_n (tb_ok aX8_basketBy_0 5 rfl) rfl ?_
    refine s_getR (r := 73) (tb_ok aX8_basketBy_0 6 rfl) f_RX8_32 rfl rfl rfl ?_
    refine s_iconst (v := 4) (tb_ok aX8_basketBy_0 7 rfl) (by decide) ?_
    refine s_iload_n (tb_ok aX8_basketBy_0 8 rfl) rfl ?_
    refine s_imul (tb_ok aX8_basketBy_0 9 rfl) ?_
    refine s_topi (z := (nI (4 * j))) (nI_mul 4 j) ?_
    refine s_iconst (v := 2) (tb_ok aX8_basketBy_0 10 rfl) (by decide) ?_
    refine s_iadd (tb_ok aX8_basketBy_0 11 rfl) ?_
    refine s_topi (z := (nI (4 * j + 2))) (nI_add' (4 * j) 2) ?_
    refine s_ialdX (x := (T j 3)) (tb_ok aX8_basketBy_0 12 rfl) rfl (by omega) (by decide) (h.c3 hj) ?_
    refine s_name (fun x1 ex1 => ?_)
    refine s_istore (ls' := [some (.ref 66), some (.int (nI j)), some (.int (nI g)), some (.int (nI n)), some (.int (0)), some (.int x1), none]) (tb_ok aX8_basketBy_0 13 rfl) rfl rfl ?_
    refine s_aload_n (tb_ok aX8_basketBy_0 14 rfl) rfl ?_
    refine s_cV (as := []) (tb_ok aX8_basketBy_0 15 rfl) v_RX8_394 (R_laysAside) (by decide) rfl rfl rfl rfl rfl (Nat.le_of_ble_eq_true rfl) (by decide) (fun r1 S1 I1 L1 R1 q1 => ?_)
    obtain ⟨rfl, rfl, rfl, rfl, rfl⟩ := q1
    have ha := h.see (see_eB (aside_B (I := I)))
    refine s_iload_n (tb_ok aX8_basketBy_0 16 rfl) rfl ?_
    refine s_iconst (v := -1) (tb_ok aX8_basketBy_0 17 rfl) (by decide) ?_
    refine s_icmp_eq (tgt := 40) (tb_ok aX8_basketBy_0 18 rfl) (by decide) (fun c30 => ?_) (fun c30 => ?_)
    · exact absurd c30 (nI_m1 (by omega))
    · refine s_aload_n (tb_ok aX8_basketBy_0 19 rfl) rfl ?_
      refine s_iload_n (tb_ok aX8_basketBy_0 20 rfl) rfl ?_
      refine s_iload_n (tb_ok aX8_basketBy_0 21 rfl) rfl ?_
      refine s_cV (as := [.int (nI j), .int (nI g)]) (tb_ok aX8_basketBy_0 22 rfl) v_RX8_378 (R_hears ha hj hg) (by decide) rfl rfl rfl rfl rfl (Nat.le_of_ble_eq_true rfl) (by decide) (fun r2 S2 I2 L2 R2 q2 => ?_)
      obtain ⟨rfl, rfl, rfl, hh, hhf⟩ := q2
      refine s_pop (tb_ok aX8_basketBy_0 23 rfl) rfl ?_
      refine s_iconst (v := nI 0) (tb_ok aX8_basketBy_1 0 rfl) (by decide) ?_
      refine s_istore (ls' := [some (.ref 66), some (.int (nI j)), some (.int (nI g)), some (.int (nI n)), some (.int (0)), some (.int x1), some (.int (nI 0))]) (tb_ok aX8_basketBy_1 1 rfl) rfl rfl ?_
      exact loop 0 (Nat.zero_le _) x1 _ _ ex1 hh (mid_0.go hhf)
  · exact absurd c2 (by decide)

set_option maxRecDepth 100000 in
set_option maxHeartbeats 1000000 in
theorem R_bskA {X : En} {L : FL} {q : Nat × Nat} {I : FI} {m : Nat} {fr fa : Nat → Int32} {M : Nat} {T : Nat → Nat → Int32} {d : Nat} {sem : Nat → Sem} (h : RSt I m fr fa M T d sem) (hd : d ≤ 5000) {n : Nat} (hn : n ≤ 40) : Ev X 56 mX8_basketBy (0, 0) [.ref 66, .int (0), .int (-1), .int (nI n), .int (1)] S0 I L (R0 q) (AfZ q eB I (apS T M 5 - apS (itT sem fr fa m d T n) M 5)) := by
  have hM5 := h.M5
  have loop : ∀ k, k ≤ n → ∀ (b0 : Int32), ∀ (I1 : FI), ∀ (L1 : FL), (b0 = apS T M 5) → (RSt I1 m fr fa M (itT sem fr fa m d T k) (d + k) sem) → (Mid I I1) → SW X 56 mX8_basketBy (0, 0) 43 [some (.ref 66), some (.int (0)), some (.int (-1)), some (.int (nI n)), some (.int (1)), some (.int b0), some (.int (nI k))] [] S0 I1 L1 (R0 q) (KQ X (AfZ q eB I (apS T M 5 - apS (itT sem fr fa m d T n) M 5))) := by
    refine for_up (P := fun k => ∀ (b0 : Int32), ∀ (I1 : FI), ∀ (L1 : FL), (b0 = apS T M 5) → (RSt I1 m fr fa M (itT sem fr fa m d T k) (d + k) sem) → (Mid I I1) → SW X 56 mX8_basketBy (0, 0) 43 [some (.ref 66), some (.int (0)), some (.int (-1)), some (.int (nI n)), some (.int (1)), some (.int b0), some (.int (nI k))] [] S0 I1 L1 (R0 q) (KQ X (AfZ q eB I (apS T M 5 - apS (itT sem fr fa m d T n) M 5)))) n ?_ ?_
    · intro b0 I1 L1 hi hi1 hi2
      refine s_iload (tb_ok aX8_basketBy_1 2 rfl) rfl ?_
      refine s_iload_n (tb_ok aX8_basketBy_1 3 rfl) rfl ?_
      refine s_icmp_ge (tgt := 60) (tb_ok aX8_basketBy_1 4 rfl) (by decide) (fun c46 => ?_) (fun c46 => ?_)
      · refine s_iload (tb_ok aX8_basketBy_1 10 rfl) rfl ?_
        refine s_iload (tb_ok aX8_basketBy_1 11 rfl) rfl ?_
        refine s_if_eq (tgt := 74) (tb_ok aX8_basketBy_1 12 rfl) (by decide) (fun c64 => ?_) (fun c64 => ?_)
        · exact absurd c64 (by decide)
        · refine s_aload_n (tb_ok aX8_basketBy_1 13 rfl) rfl ?_
          refine s_cVp (as := []) (tb_ok aX8_basketBy_1 14 rfl) v_RX8_391 (R_applesAll hi1) (by decide) rfl rfl rfl rfl rfl (Nat.le_of_ble_eq_true rfl) (by decide) ?_
          refine s_goto (tgt := 84) (tb_ok aX8_basketBy_1 15 rfl) (by decide) ?_
          refine s_isub (tb_ok aX8_basketBy_2 0 rfl) ?_
          refine s_name (fun x1 ex1 => ?_)
          refine s_istore (ls' := [some (.ref 66), some (.int (0)), some (.int (-1)), some (.int (nI n)), some (.int (1)), some (.int b0), some (.int x1)]) (tb_ok aX8_basketBy_2 1 rfl) rfl rfl ?_
          refine s_aload_n (tb_ok aX8_basketBy_2 2 rfl) rfl ?_
          refine s_cV (as := []) (tb_ok aX8_basketBy_2 3 rfl) v_RX8_397 (R_laysBack) (by decide) rfl rfl rfl rfl rfl (Nat.le_of_ble_eq_true rfl) (by decide) (fun r1 S1 I1 L1 R1 q1 => ?_)
          obtain ⟨rfl, rfl, rfl, rfl, rfl⟩ := q1
          refine s_iload (tb_ok aX8_basketBy_2 4 rfl) rfl ?_
          refine s_iret (tb_ok aX8_basketBy_2 5 rfl) rfl ?_
          refine afZ ?_ hi2.back
          rw [ex1, hi]
      · simp (disch := omega) only [nI_ltI, nI_leI, nI_eq] at c46
        omega
    · intro k hk ih b0 I1 L1 hi hi1 hi2
      refine s_iload (tb_ok aX8_basketBy_1 2 rfl) rfl ?_
      refine s_iload_n (tb_ok aX8_basketBy_1 3 rfl) rfl ?_
      refine s_icmp_ge (tgt := 60) (tb_ok aX8_basketBy_1 4 rfl) (by decide) (fun c46 => ?_) (fun c46 => ?_)
      · simp (disch := omega) only [nI_ltI, nI_leI, nI_eq] at c46
        omega
      · refine s_aload_n (tb_ok aX8_basketBy_1 5 rfl) rfl ?_
        refine s_cV (as := []) (tb_ok aX8_basketBy_1 6 rfl) v_RX8_381 (R_passes hi1 (by omega)) (by decide) rfl rfl rfl rfl rfl (Nat.le_of_ble_eq_true rfl) (by decide) (fun r1 S1 I1 L1 R1 q1 => ?_)
        obtain ⟨rfl, rfl, rfl, hp, hpf⟩ := q1
        have hp := hp.its
        refine s_pop (tb_ok aX8_basketBy_1 7 rfl) rfl ?_
        refine s_iinc (v := nI (k + 1)) (ls' := [some (.ref 66), some (.int (0)), some (.int (-1)), some (.int (nI n)), some (.int (1)), some (.int b0), some (.int (nI (k + 1)))]) (tb_ok aX8_basketBy_1 8 rfl) rfl (nI_1 _) rfl rfl ?_
        refine s_goto (tgt := 43) (tb_ok aX8_basketBy_1 9 rfl) (by decide) ?_
        exact ih _ _ _ hi hp (hi2.go hpf)
  refine ev_of (by decide +kernel) rfl ?_
  show SW X _ _ _ 0 [some (.ref 66), some (.int (0)), some (.int (-1)), some (.int (nI n)), some (.int (1)), none, none] [] S0 I L (R0 q) _
  refine s_iload (tb_ok aX8_basketBy_0 0 rfl) rfl ?_
  refine s_if_eq (tgt := 12) (tb_ok aX8_basketBy_0 1 rfl) (by decide) (fun c2 => ?_) (fun c2 => ?_)
  · exact absurd c2 (by decide)
  · refine s_aload_n (tb_ok aX8_basketBy_0 2 rfl) rfl ?_
    refine s_cVp (as := []) (tb_ok aX8_basketBy_0 3 rfl) v_RX8_391 (R_applesAll h) (by decide) rfl rfl rfl rfl rfl (Nat.le_of_ble_eq_true rfl) (by decide) ?_
    refine s_goto (tgt := 22) (tb_ok aX8_basketBy_0 4 rfl) (by decide) ?_
    refine s_name (fun x1 ex1 => ?_)
    refine s_istore (ls' := [some (.ref 66), some (.int (0)), some (.int (-1)), some (.int (nI n)), some (.int (1)), some (.int x1), none]) (tb_ok aX8_basketBy_0 13 rfl) rfl rfl ?_
    refine s_aload_n (tb_ok aX8_basketBy_0 14 rfl) rfl ?_
    refine s_cV (as := []) (tb_ok aX8_basketBy_0 15 rfl) v_RX8_394 (R_laysAside) (by decide) rfl rfl rfl rfl rfl (Nat.le_of_ble_eq_true rfl) (by decide) (fun r1 S1 I1 L1 R1 q1 => ?_)
    obtain ⟨rfl, rfl, rfl, rfl, rfl⟩ := q1
    have ha := h.see (see_eB (aside_B (I := I)))
    refine s_iload_n (tb_ok aX8_basketBy_0 16 rfl) rfl ?_
    refine s_iconst (v := -1) (tb_ok aX8_basketBy_0 17 rfl) (by decide) ?_
    refine s_icmp_eq (tgt := 40) (tb_ok aX8_basketBy_0 18 rfl) (by decide) (fun c30 => ?_) (fun c30 => ?_)
    · refine s_iconst (v := nI 0) (tb_ok aX8_basketBy_1 0 rfl) (by decide) ?_
      refine s_istore (ls' := [some (.ref 66), some (.int (0)), some (.int (-1)), some (.int (nI n)), some (.int (1)), some (.int x1), some (.int (nI 0))]) (tb_ok aX8_basketBy_1 1 rfl) rfl rfl ?_
      exact loop 0 (Nat.zero_le _) x1 _ _ ex1 ha mid_0
    · exact absurd rfl c30

set_option maxRecDepth 100000 in
set_option maxHeartbeats 1000000 in
theorem R_bskAH {X : En} {L : FL} {q : Nat × Nat} {I : FI} {m : Nat} {fr fa : Nat → Int32} {M : Nat} {T : Nat → Nat → Int32} {d : Nat} {sem : Nat → Sem} (h : RSt I m fr fa M T d sem) (hd : d ≤ 5000) {j : Nat} (hj : j < M) {g : Nat} (hg : g < 12) {n : Nat} (hn : n ≤ 40) : Ev X 56 mX8_basketBy (0, 0) [.ref 66, .int (nI j), .int (nI g), .int (nI n), .int (1)] S0 I L (R0 q) (AfZ q eB I (apS T M 5 - apS (itT sem fr fa m d (uT T j (heaP sem fr fa m (T j) (nI g) (nI d))) n) M 5)) := by
  have hM5 := h.M5
  have loop : ∀ k, k ≤ n → ∀ (b0 : Int32), ∀ (I1 : FI), ∀ (L1 : FL), (b0 = apS T M 5) → (RSt I1 m fr fa M (itT sem fr fa m d (uT T j (heaP sem fr fa m (T j) (nI g) (nI d))) k) (d + k) sem) → (Mid I I1) → SW X 56 mX8_basketBy (0, 0) 43 [some (.ref 66), some (.int (nI j)), some (.int (nI g)), some (.int (nI n)), some (.int (1)), some (.int b0), some (.int (nI k))] [] S0 I1 L1 (R0 q) (KQ X (AfZ q eB I (apS T M 5 - apS (itT sem fr fa m d (uT T j (heaP sem fr fa m (T j) (nI g) (nI d))) n) M 5))) := by
    refine for_up (P := fun k => ∀ (b0 : Int32), ∀ (I1 : FI), ∀ (L1 : FL), (b0 = apS T M 5) → (RSt I1 m fr fa M (itT sem fr fa m d (uT T j (heaP sem fr fa m (T j) (nI g) (nI d))) k) (d + k) sem) → (Mid I I1) → SW X 56 mX8_basketBy (0, 0) 43 [some (.ref 66), some (.int (nI j)), some (.int (nI g)), some (.int (nI n)), some (.int (1)), some (.int b0), some (.int (nI k))] [] S0 I1 L1 (R0 q) (KQ X (AfZ q eB I (apS T M 5 - apS (itT sem fr fa m d (uT T j (heaP sem fr fa m (T j) (nI g) (nI d))) n) M 5)))) n ?_ ?_
    · intro b0 I1 L1 hi hi1 hi2
      refine s_iload (tb_ok aX8_basketBy_1 2 rfl) rfl ?_
      refine s_iload_n (tb_ok aX8_basketBy_1 3 rfl) rfl ?_
      refine s_icmp_ge (tgt := 60) (tb_ok aX8_basketBy_1 4 rfl) (by decide) (fun c46 => ?_) (fun c46 => ?_)
      · refine s_iload (tb_ok aX8_basketBy_1 10 rfl) rfl ?_
        refine s_iload (tb_ok aX8_basketBy_1 11 rfl) rfl ?_
        refine s_if_eq (tgt := 74) (tb_ok aX8_basketBy_1 12 rfl) (by decide) (fun c64 => ?_) (fun c64 => ?_)
        · exact absurd c64 (by decide)
        · refine s_aload_n (tb_ok aX8_basketBy_1 13 rfl) rfl ?_
          refine s_cVp (as := []) (tb_ok aX8_basketBy_1 14 rfl) v_RX8_391 (R_applesAll hi1) (by decide) rfl rfl rfl rfl rfl (Nat.le_of_ble_eq_true rfl) (by decide) ?_
          refine s_goto (tgt := 84) (tb_ok aX8_basketBy_1 15 rfl) (by decide) ?_
          refine s_isub (tb_ok aX8_basketBy_2 0 rfl) ?_
          refine s_name (fun x1 ex1 => ?_)
          refine s_istore (ls' := [some (.ref 66), some (.int (nI j)), some (.int (nI g)), some (.int (nI n)), some (.int (1)), some (.int b0), some (.int x1)]) (tb_ok aX8_basketBy_2 1 rfl) rfl rfl ?_
          refine s_aload_n (tb_ok aX8_basketBy_2 2 rfl) rfl ?_
          refine s_cV (as := []) (tb_ok aX8_basketBy_2 3 rfl) v_RX8_397 (R_laysBack) (by decide) rfl rfl rfl rfl rfl (Nat.le_of_ble_eq_true rfl) (by decide) (fun r1 S1 I1 L1 R1 q1 => ?_)
          obtain ⟨rfl, rfl, rfl, rfl, rfl⟩ := q1
          refine s_iload (tb_ok aX8_basketBy_2 4 rfl) rfl ?_
          refine s_iret (tb_ok aX8_basketBy_2 5 rfl) rfl ?_
          refine afZ ?_ hi2.back
          rw [ex1, hi]
      · simp (disch := omega) only [nI_ltI, nI_leI, nI_eq] at c46
        omega
    · intro k hk ih b0 I1 L1 hi hi1 hi2
      refine s_iload (tb_ok aX8_basketBy_1 2 rfl) rfl ?_
      refine s_iload_n (tb_ok aX8_basketBy_1 3 rfl) rfl ?_
      refine s_icmp_ge (tgt := 60) (tb_ok aX8_basketBy_1 4 rfl) (by decide) (fun c46 => ?_) (fun c46 => ?_)
      · simp (disch := omega) only [nI_ltI, nI_leI, nI_eq] at c46
        omega
      · refine s_aload_n (tb_ok aX8_basketBy_1 5 rfl) rfl ?_
        refine s_cV (as := []) (tb_ok aX8_basketBy_1 6 rfl) v_RX8_381 (R_passes hi1 (by omega)) (by decide) rfl rfl rfl rfl rfl (Nat.le_of_ble_eq_true rfl) (by decide) (fun r1 S1 I1 L1 R1 q1 => ?_)
        obtain ⟨rfl, rfl, rfl, hp, hpf⟩ := q1
        have hp := hp.its
        refine s_pop (tb_ok aX8_basketBy_1 7 rfl) rfl ?_
        refine s_iinc (v := nI (k + 1)) (ls' := [some (.ref 66), some (.int (nI j)), some (.int (nI g)), some (.int (nI n)), some (.int (1)), some (.int b0), some (.int (nI (k + 1)))]) (tb_ok aX8_basketBy_1 8 rfl) rfl (nI_1 _) rfl rfl ?_
        refine s_goto (tgt := 43) (tb_ok aX8_basketBy_1 9 rfl) (by decide) ?_
        exact ih _ _ _ hi hp (hi2.go hpf)
  refine ev_of (by decide +kernel) rfl ?_
  show SW X _ _ _ 0 [some (.ref 66), some (.int (nI j)), some (.int (nI g)), some (.int (nI n)), some (.int (1)), none, none] [] S0 I L (R0 q) _
  refine s_iload (tb_ok aX8_basketBy_0 0 rfl) rfl ?_
  refine s_if_eq (tgt := 12) (tb_ok aX8_basketBy_0 1 rfl) (by decide) (fun c2 => ?_) (fun c2 => ?_)
  · exact absurd c2 (by decide)
  · refine s_aload_n (tb_ok aX8_basketBy_0 2 rfl) rfl ?_
    refine s_cVp (as := []) (tb_ok aX8_basketBy_0 3 rfl) v_RX8_391 (R_applesAll h) (by decide) rfl rfl rfl rfl rfl (Nat.le_of_ble_eq_true rfl) (by decide) ?_
    refine s_goto (tgt := 22) (tb_ok aX8_basketBy_0 4 rfl) (by decide) ?_
    refine s_name (fun x1 ex1 => ?_)
    refine s_istore (ls' := [some (.ref 66), some (.int (nI j)), some (.int (nI g)), some (.int (nI n)), some (.int (1)), some (.int x1), none]) (tb_ok aX8_basketBy_0 13 rfl) rfl rfl ?_
    refine s_aload_n (tb_ok aX8_basketBy_0 14 rfl) rfl ?_
    refine s_cV (as := []) (tb_ok aX8_basketBy_0 15 rfl) v_RX8_394 (R_laysAside) (by decide) rfl rfl rfl rfl rfl (Nat.le_of_ble_eq_true rfl) (by decide) (fun r1 S1 I1 L1 R1 q1 => ?_)
    obtain ⟨rfl, rfl, rfl, rfl, rfl⟩ := q1
    have ha := h.see (see_eB (aside_B (I := I)))
    refine s_iload_n (tb_ok aX8_basketBy_0 16 rfl) rfl ?_
    refine s_iconst (v := -1) (tb_ok aX8_basketBy_0 17 rfl) (by decide) ?_
    refine s_icmp_eq (tgt := 40) (tb_ok aX8_basketBy_0 18 rfl) (by decide) (fun c30 => ?_) (fun c30 => ?_)
    · exact absurd c30 (nI_m1 (by omega))
    · refine s_aload_n (tb_ok aX8_basketBy_0 19 rfl) rfl ?_
      refine s_iload_n (tb_ok aX8_basketBy_0 20 rfl) rfl ?_
      refine s_iload_n (tb_ok aX8_basketBy_0 21 rfl) rfl ?_
      refine s_cV (as := [.int (nI j), .int (nI g)]) (tb_ok aX8_basketBy_0 22 rfl) v_RX8_378 (R_hears ha hj hg) (by decide) rfl rfl rfl rfl rfl (Nat.le_of_ble_eq_true rfl) (by decide) (fun r2 S2 I2 L2 R2 q2 => ?_)
      obtain ⟨rfl, rfl, rfl, hh, hhf⟩ := q2
      refine s_pop (tb_ok aX8_basketBy_0 23 rfl) rfl ?_
      refine s_iconst (v := nI 0) (tb_ok aX8_basketBy_1 0 rfl) (by decide) ?_
      refine s_istore (ls' := [some (.ref 66), some (.int (nI j)), some (.int (nI g)), some (.int (nI n)), some (.int (1)), some (.int x1), some (.int (nI 0))]) (tb_ok aX8_basketBy_1 1 rfl) rfl rfl ?_
      exact loop 0 (Nat.zero_le _) x1 _ _ ex1 hh (mid_0.go hhf)

section FST
variable {sem : Nat → (Nat → Int32) → Int32} {fr fa : Nat → Int32} {m : Nat} {day : Int32} {f it : Nat → Int32} {z : Nat}
theorem fst_e {n k : Nat} (h : ¬ k < z) : fstS sem fr fa m day f it z n k = -1 := by
  cases n with
  | zero => rfl
  | succ n => unfold fstS; rw [if_neg h]
theorem fst_s {n k : Nat} (h : k < z) (e : itP sem fr fa m day f (k + 1) 3 = it k) : fstS sem fr fa m day f it z (n + 1) k = fstS sem fr fa m day f it z n (k + 1) := by
  show (if k < z then (if itP sem fr fa m day f (k + 1) 3 = it k then fstS sem fr fa m day f it z n (k + 1) else nI k) else -1) = _
  rw [if_pos h, if_pos e]
theorem fst_n {n k : Nat} (h : k < z) (e : ¬ itP sem fr fa m day f (k + 1) 3 = it k) : fstS sem fr fa m day f it z (n + 1) k = nI k := by unfold fstS; rw [if_pos h, if_neg e]
end FST
theorem Mid.at {I A : FI} (h : Mid I A) {o : Nat} (ho : 74 < o) (k : Nat) : A o k = I o k := h.2.2 o k (fun e => by
  rcases e with e | e
  · rcases e with ⟨e, _⟩ | ⟨e, _⟩ | ⟨e, _⟩ <;> omega
  · rcases e with ⟨e, _⟩ | ⟨e, _⟩ | ⟨e, _⟩ <;> omega)
set_option maxRecDepth 100000 in
set_option maxHeartbeats 1000000 in
theorem L_first {X : En} {L : FL} {q : Nat × Nat} {I : FI} {m : Nat} {fr fa : Nat → Int32} {M : Nat} {T : Nat → Nat → Int32} {d : Nat} {sem : Nat → Sem} (h : RSt I m fr fa M T d sem) (hd : d ≤ 5000) {s z j v k : Nat} (hs : s < 4) (hj : j < M) (hz : I 80 s = nI z) {I1 : FI} {L1 : FL} {Q : Int32} (hi1 : Mid I I1) (hv20 : v < 100) (hv : nI v = Q) : SW X 56 mX8_firstOther (0, 0) 9 [some (.ref 66), some (.int (nI s)), some (.int (nI j)), some (.int (nI v)), some (.int (nI k))] [] S0 I1 L1 (R0 q) (KQ X (AfZ q eB I Q)) := by
  have hM5 := h.M5
  refine s_iload (tb_ok aX8_firstOther_0 6 rfl) rfl ?_
  refine s_aload_n (tb_ok aX8_firstOther_0 7 rfl) rfl ?_
  refine s_getR (r := 80) (tb_ok aX8_firstOther_0 8 rfl) f_RX8_57 rfl rfl rfl ?_
  refine s_iload_n (tb_ok aX8_firstOther_0 9 rfl) rfl ?_
  refine s_ialdX (x := (nI z)) (tb_ok aX8_firstOther_0 10 rfl) rfl (by omega) (by decide) ((hi1.at (by decide) _).trans hz) ?_
  refine s_icmp_ge (tgt := 68) (tb_ok aX8_firstOther_0 11 rfl) (by decide) (fun c17 => ?_) (fun c17 => ?_)
  · refine s_aload_n (tb_ok aX8_firstOther_1 17 rfl) rfl ?_
    refine s_cV (as := []) (tb_ok aX8_firstOther_1 18 rfl) v_RX8_397 (R_laysBack) (by decide) rfl rfl rfl rfl rfl (Nat.le_of_ble_eq_true rfl) (by decide) (fun r1 S1 I1 L1 R1 q1 => ?_)
    obtain ⟨rfl, rfl, rfl, rfl, rfl⟩ := q1
    refine s_iload_n (tb_ok aX8_firstOther_1 19 rfl) rfl ?_
    refine s_iret (tb_ok aX8_firstOther_1 20 rfl) rfl ?_
    exact afZ hv hi1.back
  · refine s_iload_n (tb_ok aX8_firstOther_0 12 rfl) rfl ?_
    refine s_iconst (v := -1) (tb_ok aX8_firstOther_0 13 rfl) (by decide) ?_
    refine s_icmp_ne (tgt := 68) (tb_ok aX8_firstOther_0 14 rfl) (by decide) (fun c22 => ?_) (fun c22 => ?_)
    · refine s_aload_n (tb_ok aX8_firstOther_1 17 rfl) rfl ?_
      refine s_cV (as := []) (tb_ok aX8_firstOther_1 18 rfl) v_RX8_397 (R_laysBack) (by decide) rfl rfl rfl rfl rfl (Nat.le_of_ble_eq_true rfl) (by decide) (fun r2 S2 I2 L2 R2 q2 => ?_)
      obtain ⟨rfl, rfl, rfl, rfl, rfl⟩ := q2
      refine s_iload_n (tb_ok aX8_firstOther_1 19 rfl) rfl ?_
      refine s_iret (tb_ok aX8_firstOther_1 20 rfl) rfl ?_
      exact afZ hv hi1.back
    · exact absurd c22 (nI_m1 (by omega))

set_option maxRecDepth 100000 in
set_option maxHeartbeats 1000000 in
theorem R_firstOther {X : En} {L : FL} {q : Nat × Nat} {I : FI} {m : Nat} {fr fa : Nat → Int32} {M : Nat} {T : Nat → Nat → Int32} {d : Nat} {sem : Nat → Sem} (h : RSt I m fr fa M T d sem) (hd : d ≤ 5000) {s z j : Nat} (hs : s < 4) (hj : j < M) (hz : I 80 s = nI z) (hz20 : z ≤ 20) : Ev X 56 mX8_firstOther (0, 0) [.ref 66, .int (nI s), .int (nI j)] S0 I L (R0 q) (AfZ q eB I (fstP sem fr fa m (nI d) (T j) (fun t => I 81 (40 * s + t)) z)) := by
  have hM5 := h.M5
  have loop : ∀ k, k ≤ z → ∀ (I1 : FI), ∀ (L1 : FL), (RSt I1 m fr fa M (itT sem fr fa m d T k) (d + k) sem) → (Mid I I1) → (fstS sem fr fa m (nI d) (T j) (fun t => I 81 (40 * s + t)) z 20 0 = fstS sem fr fa m (nI d) (T j) (fun t => I 81 (40 * s + t)) z (20 - k) k) → SW X 56 mX8_firstOther (0, 0) 9 [some (.ref 66), some (.int (nI s)), some (.int (nI j)), some (.int (-1)), some (.int (nI k))] [] S0 I1 L1 (R0 q) (KQ X (AfZ q eB I (fstS sem fr fa m (nI d) (T j) (fun t => I 81 (40 * s + t)) z 20 0))) := by
    refine for_up (P := fun k => ∀ (I1 : FI), ∀ (L1 : FL), (RSt I1 m fr fa M (itT sem fr fa m d T k) (d + k) sem) → (Mid I I1) → (fstS sem fr fa m (nI d) (T j) (fun t => I 81 (40 * s + t)) z 20 0 = fstS sem fr fa m (nI d) (T j) (fun t => I 81 (40 * s + t)) z (20 - k) k) → SW X 56 mX8_firstOther (0, 0) 9 [some (.ref 66), some (.int (nI s)), some (.int (nI j)), some (.int (-1)), some (.int (nI k))] [] S0 I1 L1 (R0 q) (KQ X (AfZ q eB I (fstS sem fr fa m (nI d) (T j) (fun t => I 81 (40 * s + t)) z 20 0)))) z ?_ ?_
    · intro I1 L1 hi hi1 hi2
      refine s_iload (tb_ok aX8_firstOther_0 6 rfl) rfl ?_
      refine s_aload_n (tb_ok aX8_firstOther_0 7 rfl) rfl ?_
      refine s_getR (r := 80) (tb_ok aX8_firstOther_0 8 rfl) f_RX8_57 rfl rfl rfl ?_
      refine s_iload_n (tb_ok aX8_firstOther_0 9 rfl) rfl ?_
      refine s_ialdX (x := (nI z)) (tb_ok aX8_firstOther_0 10 rfl) rfl (by omega) (by decide) ((hi1.at (by decide) _).trans hz) ?_
      refine s_icmp_ge (tgt := 68) (tb_ok aX8_firstOther_0 11 rfl) (by decide) (fun c17 => ?_) (fun c17 => ?_)
      · refine s_aload_n (tb_ok aX8_firstOther_1 17 rfl) rfl ?_
        refine s_cV (as := []) (tb_ok aX8_firstOther_1 18 rfl) v_RX8_397 (R_laysBack) (by decide) rfl rfl rfl rfl rfl (Nat.le_of_ble_eq_true rfl) (by decide) (fun r1 S1 I1 L1 R1 q1 => ?_)
        obtain ⟨rfl, rfl, rfl, rfl, rfl⟩ := q1
        refine s_iload_n (tb_ok aX8_firstOther_1 19 rfl) rfl ?_
        refine s_iret (tb_ok aX8_firstOther_1 20 rfl) rfl ?_
        exact afZ (by rw [hi2]; exact (fst_e (by omega)).symm) hi1.back
      · simp (disch := omega) only [nI_ltI, nI_leI, nI_eq] at c17
        omega
    · intro k hk ih I1 L1 hi hi1 hi2
      refine s_iload (tb_ok aX8_firstOther_0 6 rfl) rfl ?_
      refine s_aload_n (tb_ok aX8_firstOther_0 7 rfl) rfl ?_
      refine s_getR (r := 80) (tb_ok aX8_firstOther_0 8 rfl) f_RX8_57 rfl rfl rfl ?_
      refine s_iload_n (tb_ok aX8_firstOther_0 9 rfl) rfl ?_
      refine s_ialdX (x := (nI z)) (tb_ok aX8_firstOther_0 10 rfl) rfl (by omega) (by decide) ((hi1.at (by decide) _).trans hz) ?_
      refine s_icmp_ge (tgt := 68) (tb_ok aX8_firstOther_0 11 rfl) (by decide) (fun c17 => ?_) (fun c17 => ?_)
      · simp (disch := omega) only [nI_ltI, nI_leI, nI_eq] at c17
        omega
      · refine s_iload_n (tb_ok aX8_firstOther_0 12 rfl) rfl ?_
        refine s_iconst (v := -1) (tb_ok aX8_firstOther_0 13 rfl) (by decide) ?_
        refine s_icmp_ne (tgt := 68) (tb_ok aX8_firstOther_0 14 rfl) (by decide) (fun c22 => ?_) (fun c22 => ?_)
        · exact absurd rfl c22
        · refine s_aload_n (tb_ok aX8_firstOther_0 15 rfl) rfl ?_
          refine s_cV (as := []) (tb_ok aX8_firstOther_0 16 rfl) v_RX8_381 (R_passes hi (by omega)) (by decide) rfl rfl rfl rfl rfl (Nat.le_of_ble_eq_true rfl) (by decide) (fun r1 S1 I1 L1 R1 q1 => ?_)
          obtain ⟨rfl, rfl, rfl, hp, hpf⟩ := q1
          have hp := hp.its
          refine s_pop (tb_ok aX8_firstOther_0 17 rfl) rfl ?_
          refine s_aload_n (tb_ok aX8_firstOther_0 18 rfl) rfl ?_
          refine s_getR (r := 73) (tb_ok aX8_firstOther_0 19 rfl) f_RX8_32 rfl rfl rfl ?_
          refine s_iconst (v := 4) (tb_ok aX8_firstOther_0 20 rfl) (by decide) ?_
          refine s_iload_n (tb_ok aX8_firstOther_0 21 rfl) rfl ?_
          refine s_imul (tb_ok aX8_firstOther_0 22 rfl) ?_
          refine s_topi (z := (nI (4 * j))) (nI_mul 4 j) ?_
          refine s_iconst (v := 2) (tb_ok aX8_firstOther_0 23 rfl) (by decide) ?_
          refine s_iadd (tb_ok aX8_firstOther_1 0 rfl) ?_
          refine s_topi (z := (nI (4 * j + 2))) (nI_add' (4 * j) 2) ?_
          refine s_ialdX (x := ((itT sem fr fa m d T (k + 1)) j 3)) (tb_ok aX8_firstOther_1 1 rfl) rfl (by omega) (by decide) (hp.c3 hj) ?_
          refine s_aload_n (tb_ok aX8_firstOther_1 2 rfl) rfl ?_
          refine s_getR (r := 81) (tb_ok aX8_firstOther_1 3 rfl) f_RX8_60 rfl rfl rfl ?_
          refine s_bipush (v := 40) (tb_ok aX8_firstOther_1 4 rfl) (by decide) ?_
          refine s_iload_n (tb_ok aX8_firstOther_1 5 rfl) rfl ?_
          refine s_imul (tb_ok aX8_firstOther_1 6 rfl) ?_
          refine s_topi (z := (nI (40 * s))) (nI_mul 40 s) ?_
          refine s_iload (tb_ok aX8_firstOther_1 7 rfl) rfl ?_
          refine s_iadd (tb_ok aX8_firstOther_1 8 rfl) ?_
          refine s_topi (z := (nI (40 * s + k))) (nI_add' (40 * s) k) ?_
          refine s_ialdX (x := (I 81 (40 * s + k))) (tb_ok aX8_firstOther_1 9 rfl) rfl (by omega) (by decide) (Mid.at (hi1.go hpf) (by decide) _) ?_
          refine s_icmp_ne (tgt := 59) (tb_ok aX8_firstOther_1 10 rfl) (by decide) (fun c52 => ?_) (fun c52 => ?_)
          · refine s_iload (tb_ok aX8_firstOther_1 13 rfl) rfl ?_
            refine s_istore_n (ls' := [some (.ref 66), some (.int (nI s)), some (.int (nI j)), some (.int (nI k)), some (.int (nI k))]) (tb_ok aX8_firstOther_1 14 rfl) rfl rfl ?_
            refine s_iinc (v := nI (k + 1)) (ls' := [some (.ref 66), some (.int (nI s)), some (.int (nI j)), some (.int (nI k)), some (.int (nI (k + 1)))]) (tb_ok aX8_firstOther_1 15 rfl) rfl (nI_1 _) rfl rfl ?_
            refine s_goto (tgt := 9) (tb_ok aX8_firstOther_1 16 rfl) (by decide) ?_
            refine L_first (L := L) h hd hs hj hz (hi1.go hpf) (by omega) ?_
            rw [hi2, show 20 - k = (20 - (k + 1)) + 1 by omega]
            refine (fst_n hk ?_).symm
            exact c52
          · refine s_iconst (v := -1) (tb_ok aX8_firstOther_1 11 rfl) (by decide) ?_
            refine s_goto (tgt := 61) (tb_ok aX8_firstOther_1 12 rfl) (by decide) ?_
            refine s_istore_n (ls' := [some (.ref 66), some (.int (nI s)), some (.int (nI j)), some (.int (-1)), some (.int (nI k))]) (tb_ok aX8_firstOther_1 14 rfl) rfl rfl ?_
            refine s_iinc (v := nI (k + 1)) (ls' := [some (.ref 66), some (.int (nI s)), some (.int (nI j)), some (.int (-1)), some (.int (nI (k + 1)))]) (tb_ok aX8_firstOther_1 15 rfl) rfl (nI_1 _) rfl rfl ?_
            refine s_goto (tgt := 9) (tb_ok aX8_firstOther_1 16 rfl) (by decide) ?_
            refine ih _ _ hp (hi1.go hpf) ?_
            rw [hi2, show 20 - k = (20 - (k + 1)) + 1 by omega]
            exact fst_s hk c52
  refine ev_of (by decide +kernel) rfl ?_
  show SW X _ _ _ 0 [some (.ref 66), some (.int (nI s)), some (.int (nI j)), none, none] [] S0 I L (R0 q) _
  refine s_aload_n (tb_ok aX8_firstOther_0 0 rfl) rfl ?_
  refine s_cV (as := []) (tb_ok aX8_firstOther_0 1 rfl) v_RX8_394 (R_laysAside) (by decide) rfl rfl rfl rfl rfl (Nat.le_of_ble_eq_true rfl) (by decide) (fun r1 S1 I1 L1 R1 q1 => ?_)
  obtain ⟨rfl, rfl, rfl, rfl, rfl⟩ := q1
  have ha := h.see (see_eB (aside_B (I := I)))
  refine s_iconst (v := -1) (tb_ok aX8_firstOther_0 2 rfl) (by decide) ?_
  refine s_istore_n (ls' := [some (.ref 66), some (.int (nI s)), some (.int (nI j)), some (.int (-1)), none]) (tb_ok aX8_firstOther_0 3 rfl) rfl rfl ?_
  refine s_iconst (v := nI 0) (tb_ok aX8_firstOther_0 4 rfl) (by decide) ?_
  refine s_istore (ls' := [some (.ref 66), some (.int (nI s)), some (.int (nI j)), some (.int (-1)), some (.int (nI 0))]) (tb_ok aX8_firstOther_0 5 rfl) rfl rfl ?_
  exact loop 0 (Nat.zero_le _) _ _ ha mid_0 rfl
