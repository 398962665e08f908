/-! the reference: calls that only ask -/
theorem inN {n hi : Nat} (h : n ≤ hi) (hh : hi < 2 ^ 31) : ¬ nI n < nI 0 ∧ ¬ nI hi < nI n := by
  simp (disch := omega) only [nI_ltI]
  omega
abbrev vH (x : Int32) (M : Nat) : Prop := ¬ x < 0 ∧ ¬ nI M - 1 < x
theorem vH_t {j M : Nat} (h : j < M) (hM : M ≤ 5) : vH (nI j) M := by
  refine ⟨nI_pos (by omega), fun h2 => ?_⟩
  have e : nI M - 1 = nI (M - 1) := nI_sub' (a := 1) (by omega)
  rw [e] at h2
  simp (disch := omega) only [nI_ltI] at h2
  omega
theorem vH_N {x : Int32} {M : Nat} (hM : M ≤ 5) (h : vH x M) : ∃ j, j < M ∧ x = nI j := by
  obtain ⟨h1, h2⟩ := h
  obtain ⟨j, hj, rfl⟩ := nI_of h1
  refine ⟨j, ?_, rfl⟩
  by_cases h0 : M = 0
  · subst h0
    exfalso
    refine h2 ?_
    have e : nI 0 - 1 = -1 := by decide
    rw [e, Int32.lt_iff_toInt_lt, nI_int hj]
    have h6 : (-1 : Int32).toInt = -1 := by decide
    omega
  · have e : nI M - 1 = nI (M - 1) := nI_sub' (a := 1) (by omega)
    rw [e] at h2
    simp (disch := omega) only [nI_ltI] at h2
    omega
theorem vH_f {x : Int32} {M : Nat} (hM : M ≤ 5) : (x < 0 ∨ nI M ≤ x) ↔ ¬ vH x M := by
  constructor
  · intro h hv
    obtain ⟨j, hj, rfl⟩ := vH_N hM hv
    rcases h with h | h
    · exact nI_pos (by omega) h
    · simp (disch := omega) only [nI_leI] at h
      omega
  · intro h
    by_cases h0 : x < 0
    · exact Or.inl h0
    · obtain ⟨j, hj, rfl⟩ := nI_of h0
      refine Or.inr ?_
      simp (disch := omega) only [nI_leI]
      exact Classical.byContradiction (fun h2 => h (vH_t (by omega) hM))
theorem nat_N {x hi : Int32} {h : Nat} (e : hi = nI h) (hh : h < 2 ^ 31) (hv : ¬ x < 0 ∧ ¬ hi < x) : ∃ n, n ≤ h ∧ x = nI n := by
  obtain ⟨n, hn, rfl⟩ := nI_of hv.1
  refine ⟨n, ?_, rfl⟩
  have h2 := hv.2
  rw [e] at h2
  simp (disch := omega) only [nI_ltI] at h2
  omega
theorem eS_eB {A B : FI} (h : FrE eS A B) : FrE eB A B := h.mono (fun _ _ e => Or.inl e)
set_option maxRecDepth 100000 in
set_option maxHeartbeats 1000000 in
theorem R_told0 {X : En} {L : FL} {q : Nat × Nat} {I : FI} {m : Nat} {fr fa : Nat → Int32} {M : Nat} {T : Nat → Nat → Int32} {d : Nat} {sem : Nat → Sem} (h : RSt I m fr fa M T d sem) (hd : d ≤ 5000) (x : Int32) : Ev X 60 mX8_told (0, 0) [.ref 66, .int x, .int (0)] S0 I L (R0 q) (AfZ q eB I (nI d)) := by
  have hM5 := h.M5
  refine ev_of (by decide +kernel) rfl ?_
  show SW X _ _ _ 0 [some (.ref 66), some (.int x), some (.int (0))] [] S0 I L (R0 q) _
  refine s_iload_n (tb_ok aX8_told_0 0 rfl) rfl ?_
  refine s_i2l (tb_ok aX8_told_0 1 rfl) ?_
  refine s_lconst (v := 0) (tb_ok aX8_told_0 2 rfl) (by decide) ?_
  refine s_ldc2 (tb_ok aX8_told_0 3 rfl) k_RX8_77 ?_
  refine s_cSp (as := [_, .long (0), .long (11)]) (tb_ok aX8_told_0 4 rfl) v_RX8_73 (R_in _ _ _) (by decide) rfl rfl (Nat.le_of_ble_eq_true rfl) ?_
  refine s_topi (bI_t (by decide)) ?_
  refine s_if_eq (tgt := 24) (tb_ok aX8_told_0 5 rfl) (by decide) (fun c9 => ?_) (fun c9 => ?_)
  · exact absurd c9 (by decide)
  · refine s_iload_n (tb_ok aX8_told_0 6 rfl) rfl ?_
    refine s_if_le (tgt := 27) (tb_ok aX8_told_0 7 rfl) (by decide) (fun c13 => ?_) (fun c13 => ?_)
    · refine s_iload_n (tb_ok aX8_told_0 14 rfl) rfl ?_
      refine s_bipush (v := 6) (tb_ok aX8_told_0 15 rfl) (by decide) ?_
      refine s_icmp_ge (tgt := 71) (tb_ok aX8_told_0 16 rfl) (by decide) (fun c30 => ?_) (fun c30 => ?_)
      · exact absurd c30 (by decide)
      · refine s_iload_n (tb_ok aX8_told_0 17 rfl) rfl ?_
        refine s_if_ne (tgt := 44) (tb_ok aX8_told_0 18 rfl) (by decide) (fun c34 => ?_) (fun c34 => ?_)
        · exact absurd c34 (by decide)
        · refine s_aload_n (tb_ok aX8_told_0 19 rfl) rfl ?_
          refine s_getI (x := (nI d)) (tb_ok aX8_told_0 20 rfl) f_RX8_105 rfl rfl h.day ?_
          refine s_goto (tgt := 70) (tb_ok aX8_told_0 21 rfl) (by decide) ?_
          refine s_iret (tb_ok aX8_told_1 16 rfl) rfl ?_
          exact afZ rfl FrE.refl
    · exact absurd c13 (by decide)

set_option maxRecDepth 100000 in
set_option maxHeartbeats 1000000 in
theorem R_told1 {X : En} {L : FL} {q : Nat × Nat} {I : FI} {m : Nat} {fr fa : Nat → Int32} {M : Nat} {T : Nat → Nat → Int32} {d : Nat} {sem : Nat → Sem} (h : RSt I m fr fa M T d sem) (hd : d ≤ 5000) {j : Nat} (hj : j < M) : Ev X 60 mX8_told (0, 0) [.ref 66, .int (nI j), .int (1)] S0 I L (R0 q) (AfZ q eB I (T j 1)) := by
  have hM5 := h.M5
  obtain ⟨_, _, ⟨v, hv, ev⟩, _, _⟩ := h.ok hj
  have hz : nx fr fa m (clo fr fa m (-1) 12 (T j 2)) (-1) = 0 := by rw [ev]; exact h.z hv (-1)
  refine ev_of (by decide +kernel) rfl ?_
  show SW X _ _ _ 0 [some (.ref 66), some (.int (nI j)), some (.int (1))] [] S0 I L (R0 q) _
  refine s_iload_n (tb_ok aX8_told_0 0 rfl) rfl ?_
  refine s_i2l (tb_ok aX8_told_0 1 rfl) ?_
  refine s_lconst (v := 0) (tb_ok aX8_told_0 2 rfl) (by decide) ?_
  refine s_ldc2 (tb_ok aX8_told_0 3 rfl) k_RX8_77 ?_
  refine s_cSp (as := [_, .long (0), .long (11)]) (tb_ok aX8_told_0 4 rfl) v_RX8_73 (R_in _ _ _) (by decide) rfl rfl (Nat.le_of_ble_eq_true rfl) ?_
  refine s_topi (bI_t (by decide)) ?_
  refine s_if_eq (tgt := 24) (tb_ok aX8_told_0 5 rfl) (by decide) (fun c9 => ?_) (fun c9 => ?_)
  · exact absurd c9 (by decide)
  · refine s_iload_n (tb_ok aX8_told_0 6 rfl) rfl ?_
    refine s_if_le (tgt := 27) (tb_ok aX8_told_0 7 rfl) (by decide) (fun c13 => ?_) (fun c13 => ?_)
    · exact absurd c13 (by decide)
    · refine s_aload_n (tb_ok aX8_told_0 8 rfl) rfl ?_
      refine s_iload_n (tb_ok aX8_told_0 9 rfl) rfl ?_
      refine s_cVp (as := [.int (nI j)]) (tb_ok aX8_told_0 10 rfl) v_RX8_90 (R_isHouse h.mn _) (by decide) rfl rfl rfl rfl rfl (Nat.le_of_ble_eq_true rfl) (by decide) ?_
      refine s_topi (bI_t (vH_t hj hM5)) ?_
      refine s_if_ne (tgt := 27) (tb_ok aX8_told_0 11 rfl) (by decide) (fun c21 => ?_) (fun c21 => ?_)
      · refine s_iload_n (tb_ok aX8_told_0 14 rfl) rfl ?_
        refine s_bipush (v := 6) (tb_ok aX8_told_0 15 rfl) (by decide) ?_
        refine s_icmp_ge (tgt := 71) (tb_ok aX8_told_0 16 rfl) (by decide) (fun c30 => ?_) (fun c30 => ?_)
        · exact absurd c30 (by decide)
        · refine s_iload_n (tb_ok aX8_told_0 17 rfl) rfl ?_
          refine s_if_ne (tgt := 44) (tb_ok aX8_told_0 18 rfl) (by decide) (fun c34 => ?_) (fun c34 => ?_)
          · refine s_iload_n (tb_ok aX8_told_0 22 rfl) rfl ?_
            refine s_iconst (v := 5) (tb_ok aX8_told_0 23 rfl) (by decide) ?_
            refine s_icmp_ge (tgt := 64) (tb_ok aX8_told_1 0 rfl) (by decide) (fun c46 => ?_) (fun c46 => ?_)
            · exact absurd c46 (by decide)
            · refine s_aload_n (tb_ok aX8_told_1 1 rfl) rfl ?_
              refine s_getR (r := 73) (tb_ok aX8_told_1 2 rfl) f_RX8_32 rfl rfl rfl ?_
              refine s_iconst (v := 4) (tb_ok aX8_told_1 3 rfl) (by decide) ?_
              refine s_iload_n (tb_ok aX8_told_1 4 rfl) rfl ?_
              refine s_imul (tb_ok aX8_told_1 5 rfl) ?_
              refine s_topi (z := (nI (4 * j))) (nI_mul 4 j) ?_
              refine s_iload_n (tb_ok aX8_told_1 6 rfl) rfl ?_
              refine s_iadd (tb_ok aX8_told_1 7 rfl) ?_
              refine s_topi (z := (nI (4 * j + 1))) (nI_add' (4 * j) 1) ?_
              refine s_iconst (v := 1) (tb_ok aX8_told_1 8 rfl) (by decide) ?_
              refine s_isub (tb_ok aX8_told_1 9 rfl) ?_
              refine s_topi (z := (nI (4 * j))) (nI_sub' (a := 1) (b := 4 * j + 1) (by omega)) ?_
              refine s_ialdX (x := (T j 1)) (tb_ok aX8_told_1 10 rfl) rfl (by omega) (by decide) (h.c1 hj) ?_
              refine s_goto (tgt := 70) (tb_ok aX8_told_1 11 rfl) (by decide) ?_
              refine s_iret (tb_ok aX8_told_1 16 rfl) rfl ?_
              exact afZ rfl FrE.refl
          · exact absurd c34 (by decide)
      · exact absurd c21 (by decide)

set_option maxRecDepth 100000 in
set_option maxHeartbeats 1000000 in
theorem R_told2 {X : En} {L : FL} {q : Nat × Nat} {I : FI} {m : Nat} {fr fa : Nat → Int32} {M : Nat} {T : Nat → Nat → Int32} {d : Nat} {sem : Nat → Sem} (h : RSt I m fr fa M T d sem) (hd : d ≤ 5000) {j : Nat} (hj : j < M) : Ev X 60 mX8_told (0, 0) [.ref 66, .int (nI j), .int (2)] S0 I L (R0 q) (AfZ q eB I (T j 2)) := by
  have hM5 := h.M5
  obtain ⟨_, _, ⟨v, hv, ev⟩, _, _⟩ := h.ok hj
  have hz : nx fr fa m (clo fr fa m (-1) 12 (T j 2)) (-1) = 0 := by rw [ev]; exact h.z hv (-1)
  refine ev_of (by decide +kernel) rfl ?_
  show SW X _ _ _ 0 [some (.ref 66), some (.int (nI j)), some (.int (2))] [] S0 I L (R0 q) _
  refine s_iload_n (tb_ok aX8_told_0 0 rfl) rfl ?_
  refine s_i2l (tb_ok aX8_told_0 1 rfl) ?_
  refine s_lconst (v := 0) (tb_ok aX8_told_0 2 rfl) (by decide) ?_
  refine s_ldc2 (tb_ok aX8_told_0 3 rfl) k_RX8_77 ?_
  refine s_cSp (as := [_, .long (0), .long (11)]) (tb_ok aX8_told_0 4 rfl) v_RX8_73 (R_in _ _ _) (by decide) rfl rfl (Nat.le_of_ble_eq_true rfl) ?_
  refine s_topi (bI_t (by decide)) ?_
  refine s_if_eq (tgt := 24) (tb_ok aX8_told_0 5 rfl) (by decide) (fun c9 => ?_) (fun c9 => ?_)
  · exact absurd c9 (by decide)
  · refine s_iload_n (tb_ok aX8_told_0 6 rfl) rfl ?_
    refine s_if_le (tgt := 27) (tb_ok aX8_told_0 7 rfl) (by decide) (fun c13 => ?_) (fun c13 => ?_)
    · exact absurd c13 (by decide)
    · refine s_aload_n (tb_ok aX8_told_0 8 rfl) rfl ?_
      refine s_iload_n (tb_ok aX8_told_0 9 rfl) rfl ?_
      refine s_cVp (as := [.int (nI j)]) (tb_ok aX8_told_0 10 rfl) v_RX8_90 (R_isHouse h.mn _) (by decide) rfl rfl rfl rfl rfl (Nat.le_of_ble_eq_true rfl) (by decide) ?_
      refine s_topi (bI_t (vH_t hj hM5)) ?_
      refine s_if_ne (tgt := 27) (tb_ok aX8_told_0 11 rfl) (by decide) (fun c21 => ?_) (fun c21 => ?_)
      · refine s_iload_n (tb_ok aX8_told_0 14 rfl) rfl ?_
        refine s_bipush (v := 6) (tb_ok aX8_told_0 15 rfl) (by decide) ?_
        refine s_icmp_ge (tgt := 71) (tb_ok aX8_told_0 16 rfl) (by decide) (fun c30 => ?_) (fun c30 => ?_)
        · exact absurd c30 (by decide)
        · refine s_iload_n (tb_ok aX8_told_0 17 rfl) rfl ?_
          refine s_if_ne (tgt := 44) (tb_ok aX8_told_0 18 rfl) (by decide) (fun c34 => ?_) (fun c34 => ?_)
          · refine s_iload_n (tb_ok aX8_told_0 22 rfl) rfl ?_
            refine s_iconst (v := 5) (tb_ok aX8_told_0 23 rfl) (by decide) ?_
            refine s_icmp_ge (tgt := 64) (tb_ok aX8_told_1 0 rfl) (by decide) (fun c46 => ?_) (fun c46 => ?_)
            · exact absurd c46 (by decide)
            · refine s_aload_n (tb_ok aX8_told_1 1 rfl) rfl ?_
              refine s_getR (r := 73) (tb_ok aX8_told_1 2 rfl) f_RX8_32 rfl rfl rfl ?_
              refine s_iconst (v := 4) (tb_ok aX8_told_1 3 rfl) (by decide) ?_
              refine s_iload_n (tb_ok aX8_told_1 4 rfl) rfl ?_
              refine s_imul (tb_ok aX8_told_1 5 rfl) ?_
              refine s_topi (z := (nI (4 * j))) (nI_mul 4 j) ?_
              refine s_iload_n (tb_ok aX8_told_1 6 rfl) rfl ?_
              refine s_iadd (tb_ok aX8_told_1 7 rfl) ?_
              refine s_topi (z := (nI (4 * j + 2))) (nI_add' (4 * j) 2) ?_
              refine s_iconst (v := 1) (tb_ok aX8_told_1 8 rfl) (by decide) ?_
              refine s_isub (tb_ok aX8_told_1 9 rfl) ?_
              refine s_topi (z := (nI (4 * j + 1))) (nI_sub' (a := 1) (b := 4 * j + 2) (by omega)) ?_
              refine s_ialdX (x := (T j 2)) (tb_ok aX8_told_1 10 rfl) rfl (by omega) (by decide) (h.c2 hj) ?_
              refine s_goto (tgt := 70) (tb_ok aX8_told_1 11 rfl) (by decide) ?_
              refine s_iret (tb_ok aX8_told_1 16 rfl) rfl ?_
              exact afZ rfl FrE.refl
          · exact absurd c34 (by decide)
      · exact absurd c21 (by decide)

set_option maxRecDepth 100000 in
set_option maxHeartbeats 1000000 in
theorem R_told3 {X : En} {L : FL} {q : Nat × Nat} {I : FI} {m : Nat} {fr fa : Nat → Int32} {M : Nat} {T : Nat → Nat → Int32} {d : Nat} {sem : Nat → Sem} (h : RSt I m fr fa M T d sem) (hd : d ≤ 5000) {j : Nat} (hj : j < M) : Ev X 60 mX8_told (0, 0) [.ref 66, .int (nI j), .int (3)] S0 I L (R0 q) (AfZ q eB I (T j 3)) := by
  have hM5 := h.M5
  obtain ⟨_, _, ⟨v, hv, ev⟩, _, _⟩ := h.ok hj
  have hz : nx fr fa m (clo fr fa m (-1) 12 (T j 2)) (-1) = 0 := by rw [ev]; exact h.z hv (-1)
  refine ev_of (by decide +kernel) rfl ?_
  show SW X _ _ _ 0 [some (.ref 66), some (.int (nI j)), some (.int (3))] [] S0 I L (R0 q) _
  refine s_iload_n (tb_ok aX8_told_0 0 rfl) rfl ?_
  refine s_i2l (tb_ok aX8_told_0 1 rfl) ?_
  refine s_lconst (v := 0) (tb_ok aX8_told_0 2 rfl) (by decide) ?_
  refine s_ldc2 (tb_ok aX8_told_0 3 rfl) k_RX8_77 ?_
  refine s_cSp (as := [_, .long (0), .long (11)]) (tb_ok aX8_told_0 4 rfl) v_RX8_73 (R_in _ _ _) (by decide) rfl rfl (Nat.le_of_ble_eq_true rfl) ?_
  refine s_topi (bI_t (by decide)) ?_
  refine s_if_eq (tgt := 24) (tb_ok aX8_told_0 5 rfl) (by decide) (fun c9 => ?_) (fun c9 => ?_)
  · exact absurd c9 (by decide)
  · refine s_iload_n (tb_ok aX8_told_0 6 rfl) rfl ?_
    refine s_if_le (tgt := 27) (tb_ok aX8_told_0 7 rfl) (by decide) (fun c13 => ?_) (fun c13 => ?_)
    · exact absurd c13 (by decide)
    · refine s_aload_n (tb_ok aX8_told_0 8 rfl) rfl ?_
      refine s_iload_n (tb_ok aX8_told_0 9 rfl) rfl ?_
      refine s_cVp (as := [.int (nI j)]) (tb_ok aX8_told_0 10 rfl) v_RX8_90 (R_isHouse h.mn _) (by decide) rfl rfl rfl rfl rfl (Nat.le_of_ble_eq_true rfl) (by decide) ?_
      refine s_topi (bI_t (vH_t hj hM5)) ?_
      refine s_if_ne (tgt := 27) (tb_ok aX8_told_0 11 rfl) (by decide) (fun c21 => ?_) (fun c21 => ?_)
      · refine s_iload_n (tb_ok aX8_told_0 14 rfl) rfl ?_
        refine s_bipush (v := 6) (tb_ok aX8_told_0 15 rfl) (by decide) ?_
        refine s_icmp_ge (tgt := 71) (tb_ok aX8_told_0 16 rfl) (by decide) (fun c30 => ?_) (fun c30 => ?_)
        · exact absurd c30 (by decide)
        · refine s_iload_n (tb_ok aX8_told_0 17 rfl) rfl ?_
          refine s_if_ne (tgt := 44) (tb_ok aX8_told_0 18 rfl) (by decide) (fun c34 => ?_) (fun c34 => ?_)
          · refine s_iload_n (tb_ok aX8_told_0 22 rfl) rfl ?_
            refine s_iconst (v := 5) (tb_ok aX8_told_0 23 rfl) (by decide) ?_
            refine s_icmp_ge (tgt := 64) (tb_ok aX8_told_1 0 rfl) (by decide) (fun c46 => ?_) (fun c46 => ?_)
            · exact absurd c46 (by decide)
            · refine s_aload_n (tb_ok aX8_told_1 1 rfl) rfl ?_
              refine s_getR (r := 73) (tb_ok aX8_told_1 2 rfl) f_RX8_32 rfl rfl rfl ?_
              refine s_iconst (v := 4) (tb_ok aX8_told_1 3 rfl) (by decide) ?_
              refine s_iload_n (tb_ok aX8_told_1 4 rfl) rfl ?_
              refine s_imul (tb_ok aX8_told_1 5 rfl) ?_
              refine s_topi (z := (nI (4 * j))) (nI_mul 4 j) ?_
              refine s_iload_n (tb_ok aX8_told_1 6 rfl) rfl ?_
              refine s_iadd (tb_ok aX8_told_1 7 rfl) ?_
              refine s_topi (z := (nI (4 * j + 3))) (nI_add' (4 * j) 3) ?_
              refine s_iconst (v := 1) (tb_ok aX8_told_1 8 rfl) (by decide) ?_
              refine s_isub (tb_ok aX8_told_1 9 rfl) ?_
              refine s_topi (z := (nI (4 * j + 2))) (nI_sub' (a := 1) (b := 4 * j + 3) (by omega)) ?_
              refine s_ialdX (x := (T j 3)) (tb_ok aX8_told_1 10 rfl) rfl (by omega) (by decide) (h.c3 hj) ?_
              refine s_goto (tgt := 70) (tb_ok aX8_told_1 11 rfl) (by decide) ?_
              refine s_iret (tb_ok aX8_told_1 16 rfl) rfl ?_
              exact afZ rfl FrE.refl
          · exact absurd c34 (by decide)
      · exact absurd c21 (by decide)

set_option maxRecDepth 100000 in
set_option maxHeartbeats 1000000 in
theorem R_told4 {X : En} {L : FL} {q : Nat × Nat} {I : FI} {m : Nat} {fr fa : Nat → Int32} {M : Nat} {T : Nat → Nat → Int32} {d : Nat} {sem : Nat → Sem} (h : RSt I m fr fa M T d sem) (hd : d ≤ 5000) {j : Nat} (hj : j < M) : Ev X 60 mX8_told (0, 0) [.ref 66, .int (nI j), .int (4)] S0 I L (R0 q) (AfZ q eB I (T j 4)) := by
  have hM5 := h.M5
  obtain ⟨_, _, ⟨v, hv, ev⟩, _, _⟩ := h.ok hj
  have hz : nx fr fa m (clo fr fa m (-1) 12 (T j 2)) (-1) = 0 := by rw [ev]; exact h.z hv (-1)
  refine ev_of (by decide +kernel) rfl ?_
  show SW X _ _ _ 0 [some (.ref 66), some (.int (nI j)), some (.int (4))] [] S0 I L (R0 q) _
  refine s_iload_n (tb_ok aX8_told_0 0 rfl) rfl ?_
  refine s_i2l (tb_ok aX8_told_0 1 rfl) ?_
  refine s_lconst (v := 0) (tb_ok aX8_told_0 2 rfl) (by decide) ?_
  refine s_ldc2 (tb_ok aX8_told_0 3 rfl) k_RX8_77 ?_
  refine s_cSp (as := [_, .long (0), .long (11)]) (tb_ok aX8_told_0 4 rfl) v_RX8_73 (R_in _ _ _) (by decide) rfl rfl (Nat.le_of_ble_eq_true rfl) ?_
  refine s_topi (bI_t (by decide)) ?_
  refine s_if_eq (tgt := 24) (tb_ok aX8_told_0 5 rfl) (by decide) (fun c9 => ?_) (fun c9 => ?_)
  · exact absurd c9 (by decide)
  · refine s_iload_n (tb_ok aX8_told_0 6 rfl) rfl ?_
    refine s_if_le (tgt := 27) (tb_ok aX8_told_0 7 rfl) (by decide) (fun c13 => ?_) (fun c13 => ?_)
    · exact absurd c13 (by decide)
    · refine s_aload_n (tb_ok aX8_told_0 8 rfl) rfl ?_
      refine s_iload_n (tb_ok aX8_told_0 9 rfl) rfl ?_
      refine s_cVp (as := [.int (nI j)]) (tb_ok aX8_told_0 10 rfl) v_RX8_90 (R_isHouse h.mn _) (by decide) rfl rfl rfl rfl rfl (Nat.le_of_ble_eq_true rfl) (by decide) ?_
      refine s_topi (bI_t (vH_t hj hM5)) ?_
      refine s_if_ne (tgt := 27) (tb_ok aX8_told_0 11 rfl) (by decide) (fun c21 => ?_) (fun c21 => ?_)
      · refine s_iload_n (tb_ok aX8_told_0 14 rfl) rfl ?_
        refine s_bipush (v := 6) (tb_ok aX8_told_0 15 rfl) (by decide) ?_
        refine s_icmp_ge (tgt := 71) (tb_ok aX8_told_0 16 rfl) (by decide) (fun c30 => ?_) (fun c30 => ?_)
        · exact absurd c30 (by decide)
        · refine s_iload_n (tb_ok aX8_told_0 17 rfl) rfl ?_
          refine s_if_ne (tgt := 44) (tb_ok aX8_told_0 18 rfl) (by decide) (fun c34 => ?_) (fun c34 => ?_)
          · refine s_iload_n (tb_ok aX8_told_0 22 rfl) rfl ?_
            refine s_iconst (v := 5) (tb_ok aX8_told_0 23 rfl) (by decide) ?_
            refine s_icmp_ge (tgt := 64) (tb_ok aX8_told_1 0 rfl) (by decide) (fun c46 => ?_) (fun c46 => ?_)
            · exact absurd c46 (by decide)
            · refine s_aload_n (tb_ok aX8_told_1 1 rfl) rfl ?_
              refine s_getR (r := 73) (tb_ok aX8_told_1 2 rfl) f_RX8_32 rfl rfl rfl ?_
              refine s_iconst (v := 4) (tb_ok aX8_told_1 3 rfl) (by decide) ?_
              refine s_iload_n (tb_ok aX8_told_1 4 rfl) rfl ?_
              refine s_imul (tb_ok aX8_told_1 5 rfl) ?_
              refine s_topi (z := (nI (4 * j))) (nI_mul 4 j) ?_
              refine s_iload_n (tb_ok aX8_told_1 6 rfl) rfl ?_
              refine s_iadd (tb_ok aX8_told_1 7 rfl) ?_
              refine s_topi (z := (nI (4 * j + 4))) (nI_add' (4 * j) 4) ?_
              refine s_iconst (v := 1) (tb_ok aX8_told_1 8 rfl) (by decide) ?_
              refine s_isub (tb_ok aX8_told_1 9 rfl) ?_
              refine s_topi (z := (nI (4 * j + 3))) (nI_sub' (a := 1) (b := 4 * j + 4) (by omega)) ?_
              refine s_ialdX (x := (T j 4)) (tb_ok aX8_told_1 10 rfl) rfl (by omega) (by decide) (h.c4 hj) ?_
              refine s_goto (tgt := 70) (tb_ok aX8_told_1 11 rfl) (by decide) ?_
              refine s_iret (tb_ok aX8_told_1 16 rfl) rfl ?_
              exact afZ rfl FrE.refl
          · exact absurd c34 (by decide)
      · exact absurd c21 (by decide)

set_option maxRecDepth 100000 in
set_option maxHeartbeats 1000000 in
theorem R_told5 {X : En} {L : FL} {q : Nat × Nat} {I : FI} {m : Nat} {fr fa : Nat → Int32} {M : Nat} {T : Nat → Nat → Int32} {d : Nat} {sem : Nat → Sem} (h : RSt I m fr fa M T d sem) (hd : d ≤ 5000) {j : Nat} (hj : j < M) : Ev X 60 mX8_told (0, 0) [.ref 66, .int (nI j), .int (5)] S0 I L (R0 q) (AfZ q eB I (T j 0)) := by
  have hM5 := h.M5
  obtain ⟨_, _, ⟨v, hv, ev⟩, _, _⟩ := h.ok hj
  have hz : nx fr fa m (clo fr fa m (-1) 12 (T j 2)) (-1) = 0 := by rw [ev]; exact h.z hv (-1)
  refine ev_of (by decide +kernel) rfl ?_
  show SW X _ _ _ 0 [some (.ref 66), some (.int (nI j)), some (.int (5))] [] S0 I L (R0 q) _
  refine s_iload_n (tb_ok aX8_told_0 0 rfl) rfl ?_
  refine s_i2l (tb_ok aX8_told_0 1 rfl) ?_
  refine s_lconst (v := 0) (tb_ok aX8_told_0 2 rfl) (by decide) ?_
  refine s_ldc2 (tb_ok aX8_told_0 3 rfl) k_RX8_77 ?_
  refine s_cSp (as := [_, .long (0), .long (11)]) (tb_ok aX8_told_0 4 rfl) v_RX8_73 (R_in _ _ _) (by decide) rfl rfl (Nat.le_of_ble_eq_true rfl) ?_
  refine s_topi (bI_t (by decide)) ?_
  refine s_if_eq (tgt := 24) (tb_ok aX8_told_0 5 rfl) (by decide) (fun c9 => ?_) (fun c9 => ?_)
  · exact absurd c9 (by decide)
  · refine s_iload_n (tb_ok aX8_told_0 6 rfl) rfl ?_
    refine s_if_le (tgt := 27) (tb_ok aX8_told_0 7 rfl) (by decide) (fun c13 => ?_) (fun c13 => ?_)
    · exact absurd c13 (by decide)
    · refine s_aload_n (tb_ok aX8_told_0 8 rfl) rfl ?_
      refine s_iload_n (tb_ok aX8_told_0 9 rfl) rfl ?_
      refine s_cVp (as := [.int (nI j)]) (tb_ok aX8_told_0 10 rfl) v_RX8_90 (R_isHouse h.mn _) (by decide) rfl rfl rfl rfl rfl (Nat.le_of_ble_eq_true rfl) (by decide) ?_
      refine s_topi (bI_t (vH_t hj hM5)) ?_
      refine s_if_ne (tgt := 27) (tb_ok aX8_told_0 11 rfl) (by decide) (fun c21 => ?_) (fun c21 => ?_)
      · refine s_iload_n (tb_ok aX8_told_0 14 rfl) rfl ?_
        refine s_bipush (v := 6) (tb_ok aX8_told_0 15 rfl) (by decide) ?_
        refine s_icmp_ge (tgt := 71) (tb_ok aX8_told_0 16 rfl) (by decide) (fun c30 => ?_) (fun c30 => ?_)
        · exact absurd c30 (by decide)
        · refine s_iload_n (tb_ok aX8_told_0 17 rfl) rfl ?_
          refine s_if_ne (tgt := 44) (tb_ok aX8_told_0 18 rfl) (by decide) (fun c34 => ?_) (fun c34 => ?_)
          · refine s_iload_n (tb_ok aX8_told_0 22 rfl) rfl ?_
            refine s_iconst (v := 5) (tb_ok aX8_told_0 23 rfl) (by decide) ?_
            refine s_icmp_ge (tgt := 64) (tb_ok aX8_told_1 0 rfl) (by decide) (fun c46 => ?_) (fun c46 => ?_)
            · refine s_aload_n (tb_ok aX8_told_1 12 rfl) rfl ?_
              refine s_getR (r := 72) (tb_ok aX8_told_1 13 rfl) f_RX8_29 rfl rfl rfl ?_
              refine s_iload_n (tb_ok aX8_told_1 14 rfl) rfl ?_
              refine s_ialdX (x := (T j 0)) (tb_ok aX8_told_1 15 rfl) rfl (by omega) (by decide) (h.c0 hj) ?_
              refine s_iret (tb_ok aX8_told_1 16 rfl) rfl ?_
              exact afZ rfl FrE.refl
            · exact absurd c46 (by decide)
          · exact absurd c34 (by decide)
      · exact absurd c21 (by decide)

set_option maxRecDepth 100000 in
set_option maxHeartbeats 1000000 in
theorem R_told6 {X : En} {L : FL} {q : Nat × Nat} {I : FI} {m : Nat} {fr fa : Nat → Int32} {M : Nat} {T : Nat → Nat → Int32} {d : Nat} {sem : Nat → Sem} (h : RSt I m fr fa M T d sem) (hd : d ≤ 5000) {j : Nat} (hj : j < M) : Ev X 60 mX8_told (0, 0) [.ref 66, .int (nI j), .int (6)] S0 I L (R0 q) (AfZ q eB I (nx fr fa m (T j 2) (-1))) := by
  have hM5 := h.M5
  obtain ⟨_, _, ⟨v, hv, ev⟩, _, _⟩ := h.ok hj
  have hz : nx fr fa m (clo fr fa m (-1) 12 (T j 2)) (-1) = 0 := by rw [ev]; exact h.z hv (-1)
  refine ev_of (by decide +kernel) rfl ?_
  show SW X _ _ _ 0 [some (.ref 66), some (.int (nI j)), some (.int (6))] [] S0 I L (R0 q) _
  refine s_iload_n (tb_ok aX8_told_0 0 rfl) rfl ?_
  refine s_i2l (tb_ok aX8_told_0 1 rfl) ?_
  refine s_lconst (v := 0) (tb_ok aX8_told_0 2 rfl) (by decide) ?_
  refine s_ldc2 (tb_ok aX8_told_0 3 rfl) k_RX8_77 ?_
  refine s_cSp (as := [_, .long (0), .long (11)]) (tb_ok aX8_told_0 4 rfl) v_RX8_73 (R_in _ _ _) (by decide) rfl rfl (Nat.le_of_ble_eq_true rfl) ?_
  refine s_topi (bI_t (by decide)) ?_
  refine s_if_eq (tgt := 24) (tb_ok aX8_told_0 5 rfl) (by decide) (fun c9 => ?_) (fun c9 => ?_)
  · exact absurd c9 (by decide)
  · refine s_iload_n (tb_ok aX8_told_0 6 rfl) rfl ?_
    refine s_if_le (tgt := 27) (tb_ok aX8_told_0 7 rfl) (by decide) (fun c13 => ?_) (fun c13 => ?_)
    · exact absurd c13 (by decide)
    · refine s_aload_n (tb_ok aX8_told_0 8 rfl) rfl ?_
      refine s_iload_n (tb_ok aX8_told_0 9 rfl) rfl ?_
      refine s_cVp (as := [.int (nI j)]) (tb_ok aX8_told_0 10 rfl) v_RX8_90 (R_isHouse h.mn _) (by decide) rfl rfl rfl rfl rfl (Nat.le_of_ble_eq_true rfl) (by decide) ?_
      refine s_topi (bI_t (vH_t hj hM5)) ?_
      refine s_if_ne (tgt := 27) (tb_ok aX8_told_0 11 rfl) (by decide) (fun c21 => ?_) (fun c21 => ?_)
      · refine s_iload_n (tb_ok aX8_told_0 14 rfl) rfl ?_
        refine s_bipush (v := 6) (tb_ok aX8_told_0 15 rfl) (by decide) ?_
        refine s_icmp_ge (tgt := 71) (tb_ok aX8_told_0 16 rfl) (by decide) (fun c30 => ?_) (fun c30 => ?_)
        · refine s_iload_n (tb_ok aX8_told_1 17 rfl) rfl ?_
          refine s_bipush (v := 9) (tb_ok aX8_told_1 18 rfl) (by decide) ?_
          refine s_icmp_ge (tgt := 121) (tb_ok aX8_told_1 19 rfl) (by decide) (fun c74 => ?_) (fun c74 => ?_)
          · exact absurd c74 (by decide)
          · refine s_iload_n (tb_ok aX8_told_1 20 rfl) rfl ?_
            refine s_bipush (v := 6) (tb_ok aX8_told_1 21 rfl) (by decide) ?_
            refine s_icmp_ne (tgt := 96) (tb_ok aX8_told_1 22 rfl) (by decide) (fun c80 => ?_) (fun c80 => ?_)
            · exact absurd c80 (by decide)
            · refine s_aload_n (tb_ok aX8_told_1 23 rfl) rfl ?_
              refine s_aload_n (tb_ok aX8_told_2 0 rfl) rfl ?_
              refine s_iload_n (tb_ok aX8_told_2 1 rfl) rfl ?_
              refine s_cVp (as := [.int (nI j)]) (tb_ok aX8_told_2 2 rfl) v_RX8_115 (R_knows h hj) (by decide) rfl rfl rfl rfl rfl (Nat.le_of_ble_eq_true rfl) (by decide) ?_
              refine s_iconst (v := -1) (tb_ok aX8_told_2 3 rfl) (by decide) ?_
              refine s_cVp (as := [.int (T j 2), .int (-1)]) (tb_ok aX8_told_2 4 rfl) v_RX8_118 (R_followsOf h.1 _ _) (by decide) rfl rfl rfl rfl rfl (Nat.le_of_ble_eq_true rfl) (by decide) ?_
              refine s_goto (tgt := 120) (tb_ok aX8_told_2 5 rfl) (by decide) ?_
              refine s_iret (tb_ok aX8_told_2 19 rfl) rfl ?_
              exact afZ rfl FrE.refl
        · exact absurd c30 (by decide)
      · exact absurd c21 (by decide)

set_option maxRecDepth 100000 in
set_option maxHeartbeats 1000000 in
theorem R_told7 {X : En} {L : FL} {q : Nat × Nat} {I : FI} {m : Nat} {fr fa : Nat → Int32} {M : Nat} {T : Nat → Nat → Int32} {d : Nat} {sem : Nat → Sem} (h : RSt I m fr fa M T d sem) (hd : d ≤ 5000) {j : Nat} (hj : j < M) : Ev X 60 mX8_told (0, 0) [.ref 66, .int (nI j), .int (7)] S0 I L (R0 q) (AfZ q eB I (undP fr fa m (T j) (nI d))) := by
  have hM5 := h.M5
  obtain ⟨_, _, ⟨v, hv, ev⟩, _, _⟩ := h.ok hj
  have hz : nx fr fa m (clo fr fa m (-1) 12 (T j 2)) (-1) = 0 := by rw [ev]; exact h.z hv (-1)
  refine ev_of (by decide +kernel) rfl ?_
  show SW X _ _ _ 0 [some (.ref 66), some (.int (nI j)), some (.int (7))] [] S0 I L (R0 q) _
  refine s_iload_n (tb_ok aX8_told_0 0 rfl) rfl ?_
  refine s_i2l (tb_ok aX8_told_0 1 rfl) ?_
  refine s_lconst (v := 0) (tb_ok aX8_told_0 2 rfl) (by decide) ?_
  refine s_ldc2 (tb_ok aX8_told_0 3 rfl) k_RX8_77 ?_
  refine s_cSp (as := [_, .long (0), .long (11)]) (tb_ok aX8_told_0 4 rfl) v_RX8_73 (R_in _ _ _) (by decide) rfl rfl (Nat.le_of_ble_eq_true rfl) ?_
  refine s_topi (bI_t (by decide)) ?_
  refine s_if_eq (tgt := 24) (tb_ok aX8_told_0 5 rfl) (by decide) (fun c9 => ?_) (fun c9 => ?_)
  · exact absurd c9 (by decide)
  · refine s_iload_n (tb_ok aX8_told_0 6 rfl) rfl ?_
    refine s_if_le (tgt := 27) (tb_ok aX8_told_0 7 rfl) (by decide) (fun c13 => ?_) (fun c13 => ?_)
    · exact absurd c13 (by decide)
    · refine s_aload_n (tb_ok aX8_told_0 8 rfl) rfl ?_
      refine s_iload_n (tb_ok aX8_told_0 9 rfl) rfl ?_
      refine s_cVp (as := [.int (nI j)]) (tb_ok aX8_told_0 10 rfl) v_RX8_90 (R_isHouse h.mn _) (by decide) rfl rfl rfl rfl rfl (Nat.le_of_ble_eq_true rfl) (by decide) ?_
      refine s_topi (bI_t (vH_t hj hM5)) ?_
      refine s_if_ne (tgt := 27) (tb_ok aX8_told_0 11 rfl) (by decide) (fun c21 => ?_) (fun c21 => ?_)
      · refine s_iload_n (tb_ok aX8_told_0 14 rfl) rfl ?_
        refine s_bipush (v := 6) (tb_ok aX8_told_0 15 rfl) (by decide) ?_
        refine s_icmp_ge (tgt := 71) (tb_ok aX8_told_0 16 rfl) (by decide) (fun c30 => ?_) (fun c30 => ?_)
        · refine s_iload_n (tb_ok aX8_told_1 17 rfl) rfl ?_
          refine s_bipush (v := 9) (tb_ok aX8_told_1 18 rfl) (by decide) ?_
          refine s_icmp_ge (tgt := 121) (tb_ok aX8_told_1 19 rfl) (by decide) (fun c74 => ?_) (fun c74 => ?_)
          · exact absurd c74 (by decide)
          · refine s_iload_n (tb_ok aX8_told_1 20 rfl) rfl ?_
            refine s_bipush (v := 6) (tb_ok aX8_told_1 21 rfl) (by decide) ?_
            refine s_icmp_ne (tgt := 96) (tb_ok aX8_told_1 22 rfl) (by decide) (fun c80 => ?_) (fun c80 => ?_)
            · refine s_iload_n (tb_ok aX8_told_2 6 rfl) rfl ?_
              refine s_bipush (v := 7) (tb_ok aX8_told_2 7 rfl) (by decide) ?_
              refine s_icmp_ne (tgt := 110) (tb_ok aX8_told_2 8 rfl) (by decide) (fun c99 => ?_) (fun c99 => ?_)
              · exact absurd c99 (by decide)
              · refine s_aload_n (tb_ok aX8_told_2 9 rfl) rfl ?_
                refine s_iload_n (tb_ok aX8_told_2 10 rfl) rfl ?_
                refine s_cVp (as := [.int (nI j)]) (tb_ok aX8_told_2 11 rfl) v_RX8_121 (R_und h hj (by omega)) (by decide) rfl rfl rfl rfl rfl (Nat.le_of_ble_eq_true rfl) (by decide) ?_
                refine s_goto (tgt := 120) (tb_ok aX8_told_2 12 rfl) (by decide) ?_
                refine s_iret (tb_ok aX8_told_2 19 rfl) rfl ?_
                exact afZ rfl FrE.refl
            · exact absurd c80 (by decide)
        · exact absurd c30 (by decide)
      · exact absurd c21 (by decide)

set_option maxRecDepth 100000 in
set_option maxHeartbeats 1000000 in
theorem R_told8 {X : En} {L : FL} {q : Nat × Nat} {I : FI} {m : Nat} {fr fa : Nat → Int32} {M : Nat} {T : Nat → Nat → Int32} {d : Nat} {sem : Nat → Sem} (h : RSt I m fr fa M T d sem) (hd : d ≤ 5000) {j : Nat} (hj : j < M) : Ev X 60 mX8_told (0, 0) [.ref 66, .int (nI j), .int (8)] S0 I L (R0 q) (AfZ q eB I (falS sem (T j) (undP fr fa m (T j) (nI d)) (nI d) 12)) := by
  have hM5 := h.M5
  obtain ⟨_, _, ⟨v, hv, ev⟩, _, _⟩ := h.ok hj
  have hz : nx fr fa m (clo fr fa m (-1) 12 (T j 2)) (-1) = 0 := by rw [ev]; exact h.z hv (-1)
  refine ev_of (by decide +kernel) rfl ?_
  show SW X _ _ _ 0 [some (.ref 66), some (.int (nI j)), some (.int (8))] [] S0 I L (R0 q) _
  refine s_iload_n (tb_ok aX8_told_0 0 rfl) rfl ?_
  refine s_i2l (tb_ok aX8_told_0 1 rfl) ?_
  refine s_lconst (v := 0) (tb_ok aX8_told_0 2 rfl) (by decide) ?_
  refine s_ldc2 (tb_ok aX8_told_0 3 rfl) k_RX8_77 ?_
  refine s_cSp (as := [_, .long (0), .long (11)]) (tb_ok aX8_told_0 4 rfl) v_RX8_73 (R_in _ _ _) (by decide) rfl rfl (Nat.le_of_ble_eq_true rfl) ?_
  refine s_topi (bI_t (by decide)) ?_
  refine s_if_eq (tgt := 24) (tb_ok aX8_told_0 5 rfl) (by decide) (fun c9 => ?_) (fun c9 => ?_)
  · exact absurd c9 (by decide)
  · refine s_iload_n (tb_ok aX8_told_0 6 rfl) rfl ?_
    refine s_if_le (tgt := 27) (tb_ok aX8_told_0 7 rfl) (by decide) (fun c13 => ?_) (fun c13 => ?_)
    · exact absurd c13 (by decide)
    · refine s_aload_n (tb_ok aX8_told_0 8 rfl) rfl ?_
      refine s_iload_n (tb_ok aX8_told_0 9 rfl) rfl ?_
      refine s_cVp (as := [.int (nI j)]) (tb_ok aX8_told_0 10 rfl) v_RX8_90 (R_isHouse h.mn _) (by decide) rfl rfl rfl rfl rfl (Nat.le_of_ble_eq_true rfl) (by decide) ?_
      refine s_topi (bI_t (vH_t hj hM5)) ?_
      refine s_if_ne (tgt := 27) (tb_ok aX8_told_0 11 rfl) (by decide) (fun c21 => ?_) (fun c21 => ?_)
      · refine s_iload_n (tb_ok aX8_told_0 14 rfl) rfl ?_
        refine s_bipush (v := 6) (tb_ok aX8_told_0 15 rfl) (by decide) ?_
        refine s_icmp_ge (tgt := 71) (tb_ok aX8_told_0 16 rfl) (by decide) (fun c30 => ?_) (fun c30 => ?_)
        · refine s_iload_n (tb_ok aX8_told_1 17 rfl) rfl ?_
          refine s_bipush (v := 9) (tb_ok aX8_told_1 18 rfl) (by decide) ?_
          refine s_icmp_ge (tgt := 121) (tb_ok aX8_told_1 19 rfl) (by decide) (fun c74 => ?_) (fun c74 => ?_)
          · exact absurd c74 (by decide)
          · refine s_iload_n (tb_ok aX8_told_1 20 rfl) rfl ?_
            refine s_bipush (v := 6) (tb_ok aX8_told_1 21 rfl) (by decide) ?_
            refine s_icmp_ne (tgt := 96) (tb_ok aX8_told_1 22 rfl) (by decide) (fun c80 => ?_) (fun c80 => ?_)
            · refine s_iload_n (tb_ok aX8_told_2 6 rfl) rfl ?_
              refine s_bipush (v := 7) (tb_ok aX8_told_2 7 rfl) (by decide) ?_
              refine s_icmp_ne (tgt := 110) (tb_ok aX8_told_2 8 rfl) (by decide) (fun c99 => ?_) (fun c99 => ?_)
              · refine s_aload_n (tb_ok aX8_told_2 13 rfl) rfl ?_
                refine s_iload_n (tb_ok aX8_told_2 14 rfl) rfl ?_
                refine s_aload_n (tb_ok aX8_told_2 15 rfl) rfl ?_
                refine s_iload_n (tb_ok aX8_told_2 16 rfl) rfl ?_
                refine s_cVp (as := [.int (nI j)]) (tb_ok aX8_told_2 17 rfl) v_RX8_121 (R_und h hj (by omega)) (by decide) rfl rfl rfl rfl rfl (Nat.le_of_ble_eq_true rfl) (by decide) ?_
                refine s_cV (as := [.int (nI j), _]) (tb_ok aX8_told_2 18 rfl) v_RX8_124 (R_fallsFor h hj _) (by decide) rfl rfl rfl rfl rfl (Nat.le_of_ble_eq_true rfl) (by decide) (fun r1 S1 I1 L1 R1 q1 => ?_)
                obtain ⟨rfl, rfl, rfl, hf4⟩ := q1
                refine s_iret (tb_ok aX8_told_2 19 rfl) rfl ?_
                exact afZ rfl (eS_eB hf4)
              · exact absurd c99 (by decide)
            · exact absurd c80 (by decide)
        · exact absurd c30 (by decide)
      · exact absurd c21 (by decide)

set_option maxRecDepth 100000 in
set_option maxHeartbeats 1000000 in
theorem R_told9 {X : En} {L : FL} {q : Nat × Nat} {I : FI} {m : Nat} {fr fa : Nat → Int32} {M : Nat} {T : Nat → Nat → Int32} {d : Nat} {sem : Nat → Sem} (h : RSt I m fr fa M T d sem) (hd : d ≤ 5000) {j : Nat} (hj : j < M) : Ev X 60 mX8_told (0, 0) [.ref 66, .int (nI j), .int (9)] S0 I L (R0 q) (AfZ q eB I (clo fr fa m (-1) 12 (T j 2))) := by
  have hM5 := h.M5
  obtain ⟨_, _, ⟨v, hv, ev⟩, _, _⟩ := h.ok hj
  have hz : nx fr fa m (clo fr fa m (-1) 12 (T j 2)) (-1) = 0 := by rw [ev]; exact h.z hv (-1)
  refine ev_of (by decide +kernel) rfl ?_
  show SW X _ _ _ 0 [some (.ref 66), some (.int (nI j)), some (.int (9))] [] S0 I L (R0 q) _
  refine s_iload_n (tb_ok aX8_told_0 0 rfl) rfl ?_
  refine s_i2l (tb_ok aX8_told_0 1 rfl) ?_
  refine s_lconst (v := 0) (tb_ok aX8_told_0 2 rfl) (by decide) ?_
  refine s_ldc2 (tb_ok aX8_told_0 3 rfl) k_RX8_77 ?_
  refine s_cSp (as := [_, .long (0), .long (11)]) (tb_ok aX8_told_0 4 rfl) v_RX8_73 (R_in _ _ _) (by decide) rfl rfl (Nat.le_of_ble_eq_true rfl) ?_
  refine s_topi (bI_t (by decide)) ?_
  refine s_if_eq (tgt := 24) (tb_ok aX8_told_0 5 rfl) (by decide) (fun c9 => ?_) (fun c9 => ?_)
  · exact absurd c9 (by decide)
  · refine s_iload_n (tb_ok aX8_told_0 6 rfl) rfl ?_
    refine s_if_le (tgt := 27) (tb_ok aX8_told_0 7 rfl) (by decide) (fun c13 => ?_) (fun c13 => ?_)
    · exact absurd c13 (by decide)
    · refine s_aload_n (tb_ok aX8_told_0 8 rfl) rfl ?_
      refine s_iload_n (tb_ok aX8_told_0 9 rfl) rfl ?_
      refine s_cVp (as := [.int (nI j)]) (tb_ok aX8_told_0 10 rfl) v_RX8_90 (R_isHouse h.mn _) (by decide) rfl rfl rfl rfl rfl (Nat.le_of_ble_eq_true rfl) (by decide) ?_
      refine s_topi (bI_t (vH_t hj hM5)) ?_
      refine s_if_ne (tgt := 27) (tb_ok aX8_told_0 11 rfl) (by decide) (fun c21 => ?_) (fun c21 => ?_)
      · refine s_iload_n (tb_ok aX8_told_0 14 rfl) rfl ?_
        refine s_bipush (v := 6) (tb_ok aX8_told_0 15 rfl) (by decide) ?_
        refine s_icmp_ge (tgt := 71) (tb_ok aX8_told_0 16 rfl) (by decide) (fun c30 => ?_) (fun c30 => ?_)
        · refine s_iload_n (tb_ok aX8_told_1 17 rfl) rfl ?_
          refine s_bipush (v := 9) (tb_ok aX8_told_1 18 rfl) (by decide) ?_
          refine s_icmp_ge (tgt := 121) (tb_ok aX8_told_1 19 rfl) (by decide) (fun c74 => ?_) (fun c74 => ?_)
          · refine s_iload_n (tb_ok aX8_told_2 20 rfl) rfl ?_
            refine s_bipush (v := 9) (tb_ok aX8_told_2 21 rfl) (by decide) ?_
            refine s_icmp_ne (tgt := 140) (tb_ok aX8_told_2 22 rfl) (by decide) (fun c124 => ?_) (fun c124 => ?_)
            · exact absurd c124 (by decide)
            · refine s_aload_n (tb_ok aX8_told_2 23 rfl) rfl ?_
              refine s_aload_n (tb_ok aX8_told_3 0 rfl) rfl ?_
              refine s_iload_n (tb_ok aX8_told_3 1 rfl) rfl ?_
              refine s_cVp (as := [.int (nI j)]) (tb_ok aX8_told_3 2 rfl) v_RX8_115 (R_knows h hj) (by decide) rfl rfl rfl rfl rfl (Nat.le_of_ble_eq_true rfl) (by decide) ?_
              refine s_iconst (v := -1) (tb_ok aX8_told_3 3 rfl) (by decide) ?_
              refine s_cVp (as := [.int (T j 2), .int (-1)]) (tb_ok aX8_told_3 4 rfl) v_RX8_127 (R_allOf h.1 hz) (by decide) rfl rfl rfl rfl rfl (Nat.le_of_ble_eq_true rfl) (by decide) ?_
              refine s_goto (tgt := 159) (tb_ok aX8_told_3 5 rfl) (by decide) ?_
              refine s_iret (tb_ok aX8_told_3 16 rfl) rfl ?_
              exact afZ rfl FrE.refl
          · exact absurd c74 (by decide)
        · exact absurd c30 (by decide)
      · exact absurd c21 (by decide)

set_option maxRecDepth 100000 in
set_option maxHeartbeats 1000000 in
theorem R_told10 {X : En} {L : FL} {q : Nat × Nat} {I : FI} {m : Nat} {fr fa : Nat → Int32} {M : Nat} {T : Nat → Nat → Int32} {d : Nat} {sem : Nat → Sem} (h : RSt I m fr fa M T d sem) (hd : d ≤ 5000) {j : Nat} (hj : j < M) : Ev X 60 mX8_told (0, 0) [.ref 66, .int (nI j), .int (10)] S0 I L (R0 q) (AfZ q eB I (4095 &&& ~~~(itP sem fr fa m (nI d) (T j) 40 2))) := by
  have hM5 := h.M5
  obtain ⟨_, _, ⟨v, hv, ev⟩, _, _⟩ := h.ok hj
  have hz : nx fr fa m (clo fr fa m (-1) 12 (T j 2)) (-1) = 0 := by rw [ev]; exact h.z hv (-1)
  refine ev_of (by decide +kernel) rfl ?_
  show SW X _ _ _ 0 [some (.ref 66), some (.int (nI j)), some (.int (10))] [] S0 I L (R0 q) _
  refine s_iload_n (tb_ok aX8_told_0 0 rfl) rfl ?_
  refine s_i2l (tb_ok aX8_told_0 1 rfl) ?_
  refine s_lconst (v := 0) (tb_ok aX8_told_0 2 rfl) (by decide) ?_
  refine s_ldc2 (tb_ok aX8_told_0 3 rfl) k_RX8_77 ?_
  refine s_cSp (as := [_, .long (0), .long (11)]) (tb_ok aX8_told_0 4 rfl) v_RX8_73 (R_in _ _ _) (by decide) rfl rfl (Nat.le_of_ble_eq_true rfl) ?_
  refine s_topi (bI_t (by decide)) ?_
  refine s_if_eq (tgt := 24) (tb_ok aX8_told_0 5 rfl) (by decide) (fun c9 => ?_) (fun c9 => ?_)
  · exact absurd c9 (by decide)
  · refine s_iload_n (tb_ok aX8_told_0 6 rfl) rfl ?_
    refine s_if_le (tgt := 27) (tb_ok aX8_told_0 7 rfl) (by decide) (fun c13 => ?_) (fun c13 => ?_)
    · exact absurd c13 (by decide)
    · refine s_aload_n (tb_ok aX8_told_0 8 rfl) rfl ?_
      refine s_iload_n (tb_ok aX8_told_0 9 rfl) rfl ?_
      refine s_cVp (as := [.int (nI j)]) (tb_ok aX8_told_0 10 rfl) v_RX8_90 (R_isHouse h.mn _) (by decide) rfl rfl rfl rfl rfl (Nat.le_of_ble_eq_true rfl) (by decide) ?_
      refine s_topi (bI_t (vH_t hj hM5)) ?_
      refine s_if_ne (tgt := 27) (tb_ok aX8_told_0 11 rfl) (by decide) (fun c21 => ?_) (fun c21 => ?_)
      · refine s_iload_n (tb_ok aX8_told_0 14 rfl) rfl ?_
        refine s_bipush (v := 6) (tb_ok aX8_told_0 15 rfl) (by decide) ?_
        refine s_icmp_ge (tgt := 71) (tb_ok aX8_told_0 16 rfl) (by decide) (fun c30 => ?_) (fun c30 => ?_)
        · refine s_iload_n (tb_ok aX8_told_1 17 rfl) rfl ?_
          refine s_bipush (v := 9) (tb_ok aX8_told_1 18 rfl) (by decide) ?_
          refine s_icmp_ge (tgt := 121) (tb_ok aX8_told_1 19 rfl) (by decide) (fun c74 => ?_) (fun c74 => ?_)
          · refine s_iload_n (tb_ok aX8_told_2 20 rfl) rfl ?_
            refine s_bipush (v := 9) (tb_ok aX8_told_2 21 rfl) (by decide) ?_
            refine s_icmp_ne (tgt := 140) (tb_ok aX8_told_2 22 rfl) (by decide) (fun c124 => ?_) (fun c124 => ?_)
            · refine s_iload_n (tb_ok aX8_told_3 6 rfl) rfl ?_
              refine s_bipush (v := 10) (tb_ok aX8_told_3 7 rfl) (by decide) ?_
              refine s_icmp_ne (tgt := 154) (tb_ok aX8_told_3 8 rfl) (by decide) (fun c143 => ?_) (fun c143 => ?_)
              · exact absurd c143 (by decide)
              · refine s_aload_n (tb_ok aX8_told_3 9 rfl) rfl ?_
                refine s_iload_n (tb_ok aX8_told_3 10 rfl) rfl ?_
                refine s_cV (as := [.int (nI j)]) (tb_ok aX8_told_3 11 rfl) v_RX8_130 (R_neverOf h hd hj) (by decide) rfl rfl rfl rfl rfl (Nat.le_of_ble_eq_true rfl) (by decide) (fun r1 S1 I1 L1 R1 q1 => ?_)
                obtain ⟨rfl, rfl, rfl, hf4⟩ := q1
                refine s_goto (tgt := 159) (tb_ok aX8_told_3 12 rfl) (by decide) ?_
                refine s_iret (tb_ok aX8_told_3 16 rfl) rfl ?_
                exact afZ rfl hf4
            · exact absurd c124 (by decide)
          · exact absurd c74 (by decide)
        · exact absurd c30 (by decide)
      · exact absurd c21 (by decide)

set_option maxRecDepth 100000 in
set_option maxHeartbeats 1000000 in
theorem R_told11 {X : En} {L : FL} {q : Nat × Nat} {I : FI} {m : Nat} {fr fa : Nat → Int32} {M : Nat} {T : Nat → Nat → Int32} {d : Nat} {sem : Nat → Sem} (h : RSt I m fr fa M T d sem) (hd : d ≤ 5000) {j : Nat} (hj : j < M) : Ev X 60 mX8_told (0, 0) [.ref 66, .int (nI j), .int (11)] S0 I L (R0 q) (AfZ q eB I ((msF fr fa m (T j 2) m).2)) := by
  have hM5 := h.M5
  obtain ⟨_, _, ⟨v, hv, ev⟩, _, _⟩ := h.ok hj
  have hz : nx fr fa m (clo fr fa m (-1) 12 (T j 2)) (-1) = 0 := by rw [ev]; exact h.z hv (-1)
  refine ev_of (by decide +kernel) rfl ?_
  show SW X _ _ _ 0 [some (.ref 66), some (.int (nI j)), some (.int (11))] [] S0 I L (R0 q) _
  refine s_iload_n (tb_ok aX8_told_0 0 rfl) rfl ?_
  refine s_i2l (tb_ok aX8_told_0 1 rfl) ?_
  refine s_lconst (v := 0) (tb_ok aX8_told_0 2 rfl) (by decide) ?_
  refine s_ldc2 (tb_ok aX8_told_0 3 rfl) k_RX8_77 ?_
  refine s_cSp (as := [_, .long (0), .long (11)]) (tb_ok aX8_told_0 4 rfl) v_RX8_73 (R_in _ _ _) (by decide) rfl rfl (Nat.le_of_ble_eq_true rfl) ?_
  refine s_topi (bI_t (by decide)) ?_
  refine s_if_eq (tgt := 24) (tb_ok aX8_told_0 5 rfl) (by decide) (fun c9 => ?_) (fun c9 => ?_)
  · exact absurd c9 (by decide)
  · refine s_iload_n (tb_ok aX8_told_0 6 rfl) rfl ?_
    refine s_if_le (tgt := 27) (tb_ok aX8_told_0 7 rfl) (by decide) (fun c13 => ?_) (fun c13 => ?_)
    · exact absurd c13 (by decide)
    · refine s_aload_n (tb_ok aX8_told_0 8 rfl) rfl ?_
      refine s_iload_n (tb_ok aX8_told_0 9 rfl) rfl ?_
      refine s_cVp (as := [.int (nI j)]) (tb_ok aX8_told_0 10 rfl) v_RX8_90 (R_isHouse h.mn _) (by decide) rfl rfl rfl rfl rfl (Nat.le_of_ble_eq_true rfl) (by decide) ?_
      refine s_topi (bI_t (vH_t hj hM5)) ?_
      refine s_if_ne (tgt := 27) (tb_ok aX8_told_0 11 rfl) (by decide) (fun c21 => ?_) (fun c21 => ?_)
      · refine s_iload_n (tb_ok aX8_told_0 14 rfl) rfl ?_
        refine s_bipush (v := 6) (tb_ok aX8_told_0 15 rfl) (by decide) ?_
        refine s_icmp_ge (tgt := 71) (tb_ok aX8_told_0 16 rfl) (by decide) (fun c30 => ?_) (fun c30 => ?_)
        · refine s_iload_n (tb_ok aX8_told_1 17 rfl) rfl ?_
          refine s_bipush (v := 9) (tb_ok aX8_told_1 18 rfl) (by decide) ?_
          refine s_icmp_ge (tgt := 121) (tb_ok aX8_told_1 19 rfl) (by decide) (fun c74 => ?_) (fun c74 => ?_)
          · refine s_iload_n (tb_ok aX8_told_2 20 rfl) rfl ?_
            refine s_bipush (v := 9) (tb_ok aX8_told_2 21 rfl) (by decide) ?_
            refine s_icmp_ne (tgt := 140) (tb_ok aX8_told_2 22 rfl) (by decide) (fun c124 => ?_) (fun c124 => ?_)
            · refine s_iload_n (tb_ok aX8_told_3 6 rfl) rfl ?_
              refine s_bipush (v := 10) (tb_ok aX8_told_3 7 rfl) (by decide) ?_
              refine s_icmp_ne (tgt := 154) (tb_ok aX8_told_3 8 rfl) (by decide) (fun c143 => ?_) (fun c143 => ?_)
              · refine s_aload_n (tb_ok aX8_told_3 13 rfl) rfl ?_
                refine s_iload_n (tb_ok aX8_told_3 14 rfl) rfl ?_
                refine s_cVp (as := [.int (nI j)]) (tb_ok aX8_told_3 15 rfl) v_RX8_133 (R_missOf h hj) (by decide) rfl rfl rfl rfl rfl (Nat.le_of_ble_eq_true rfl) (by decide) ?_
                refine s_iret (tb_ok aX8_told_3 16 rfl) rfl ?_
                exact afZ rfl FrE.refl
              · exact absurd c143 (by decide)
            · exact absurd c124 (by decide)
          · exact absurd c74 (by decide)
        · exact absurd c30 (by decide)
      · exact absurd c21 (by decide)

set_option maxRecDepth 100000 in
set_option maxHeartbeats 1000000 in
theorem R_toldB {X : En} {L : FL} {q : Nat × Nat} {I : FI} {m : Nat} {fr fa : Nat → Int32} {M : Nat} {T : Nat → Nat → Int32} {d : Nat} {sem : Nat → Sem} (h : RSt I m fr fa M T d sem) {x w : Int32} (hv : ¬ ((¬ w < 0 ∧ ¬ 11 < w) ∧ (0 < w → vH x M))) : Ev X 60 mX8_told (0, 0) [.ref 66, .int x, .int w] S0 I L (R0 q) (AfZ q eB I (-2)) := by
  have hM5 := h.M5
  refine ev_of (by decide +kernel) rfl ?_
  show SW X _ _ _ 0 [some (.ref 66), some (.int x), some (.int w)] [] S0 I L (R0 q) _
  refine s_iload_n (tb_ok aX8_told_0 0 rfl) rfl ?_
  refine s_i2l (tb_ok aX8_told_0 1 rfl) ?_
  refine s_lconst (v := 0) (tb_ok aX8_told_0 2 rfl) (by decide) ?_
  refine s_ldc2 (tb_ok aX8_told_0 3 rfl) k_RX8_77 ?_
  refine s_cSp (as := [_, .long (0), .long (11)]) (tb_ok aX8_told_0 4 rfl) v_RX8_73 (R_in _ _ _) (by decide) rfl rfl (Nat.le_of_ble_eq_true rfl) ?_
  refine s_topi (bI_congr (in_iff (lo := 0) (hi := 11) rfl (by decide) (by decide))) ?_
  refine s_if_eq (tgt := 24) (tb_ok aX8_told_0 5 rfl) (by decide) (fun c9 => ?_) (fun c9 => ?_)
  · refine s_bipush (v := -2) (tb_ok aX8_told_0 12 rfl) (by decide) ?_
    refine s_iret (tb_ok aX8_told_0 13 rfl) rfl ?_
    exact afZ rfl FrE.refl
  · refine s_iload_n (tb_ok aX8_told_0 6 rfl) rfl ?_
    refine s_if_le (tgt := 27) (tb_ok aX8_told_0 7 rfl) (by decide) (fun c13 => ?_) (fun c13 => ?_)
    · exact absurd ⟨bI_n c9, fun h_ => by first | exact bI_n c21 | exact absurd h_ (Int32.not_lt.mpr c13)⟩ hv
    · refine s_aload_n (tb_ok aX8_told_0 8 rfl) rfl ?_
      refine s_iload_n (tb_ok aX8_told_0 9 rfl) rfl ?_
      refine s_cVp (as := [.int x]) (tb_ok aX8_told_0 10 rfl) v_RX8_90 (R_isHouse h.mn _) (by decide) rfl rfl rfl rfl rfl (Nat.le_of_ble_eq_true rfl) (by decide) ?_
      refine s_if_ne (tgt := 27) (tb_ok aX8_told_0 11 rfl) (by decide) (fun c21 => ?_) (fun c21 => ?_)
      · exact absurd ⟨bI_n c9, fun h_ => by first | exact bI_n c21 | exact absurd h_ (Int32.not_lt.mpr c13)⟩ hv
      · refine s_bipush (v := -2) (tb_ok aX8_told_0 12 rfl) (by decide) ?_
        refine s_iret (tb_ok aX8_told_0 13 rfl) rfl ?_
        exact afZ rfl FrE.refl

set_option maxRecDepth 100000 in
set_option maxHeartbeats 1000000 in
theorem R_follows0 {X : En} {L : FL} {q : Nat × Nat} {I : FI} {m : Nat} {fr fa : Nat → Int32} {M : Nat} {T : Nat → Nat → Int32} {d : Nat} {sem : Nat → Sem} (h : RSt I m fr fa M T d sem) {v : Nat} (hv : v < 4096) : Ev X 60 mX8_follows (0, 0) [.ref 66, .int (nI v), .int (0)] S0 I L (R0 q) (AfZ q eB I (nx fr fa m (nI v) (-1))) := by
  have hM5 := h.M5
  have hz : nx fr fa m (clo fr fa m (-1) 12 (nI v)) (-1) = 0 := h.z hv (-1)
  refine ev_of (by decide +kernel) rfl ?_
  show SW X _ _ _ 0 [some (.ref 66), some (.int (nI v)), some (.int (0))] [] S0 I L (R0 q) _
  refine s_iload_n (tb_ok aX8_follows_0 0 rfl) rfl ?_
  refine s_i2l (tb_ok aX8_follows_0 1 rfl) ?_
  refine s_lconst (v := 0) (tb_ok aX8_follows_0 2 rfl) (by decide) ?_
  refine s_ldc2 (tb_ok aX8_follows_0 3 rfl) k_RX8_79 ?_
  refine s_cSp (as := [_, .long (0), .long (4095)]) (tb_ok aX8_follows_0 4 rfl) v_RX8_73 (R_in _ _ _) (by decide) rfl rfl (Nat.le_of_ble_eq_true rfl) ?_
  refine s_topi (bI_t ((in_iff (x := nI v) (lo := 0) (hi := 4095) rfl (by decide) (by decide)).mpr (inN (hi := 4095) (by omega) (by decide)))) ?_
  refine s_if_eq (tgt := 24) (tb_ok aX8_follows_0 5 rfl) (by decide) (fun c9 => ?_) (fun c9 => ?_)
  · exact absurd c9 (by decide)
  · refine s_iload_n (tb_ok aX8_follows_0 6 rfl) rfl ?_
    refine s_i2l (tb_ok aX8_follows_0 7 rfl) ?_
    refine s_lconst (v := 0) (tb_ok aX8_follows_0 8 rfl) (by decide) ?_
    refine s_ldc2 (tb_ok aX8_follows_0 9 rfl) k_RX8_352 ?_
    refine s_cSp (as := [_, .long (0), .long (2)]) (tb_ok aX8_follows_0 10 rfl) v_RX8_73 (R_in _ _ _) (by decide) rfl rfl (Nat.le_of_ble_eq_true rfl) ?_
    refine s_topi (bI_t (by decide)) ?_
    refine s_if_ne (tgt := 27) (tb_ok aX8_follows_0 11 rfl) (by decide) (fun c21 => ?_) (fun c21 => ?_)
    · refine s_iload_n (tb_ok aX8_follows_0 14 rfl) rfl ?_
      refine s_if_ne (tgt := 40) (tb_ok aX8_follows_0 15 rfl) (by decide) (fun c28 => ?_) (fun c28 => ?_)
      · exact absurd c28 (by decide)
      · refine s_aload_n (tb_ok aX8_follows_0 16 rfl) rfl ?_
        refine s_iload_n (tb_ok aX8_follows_0 17 rfl) rfl ?_
        refine s_iconst (v := -1) (tb_ok aX8_follows_0 18 rfl) (by decide) ?_
        refine s_cVp (as := [.int (nI v), .int (-1)]) (tb_ok aX8_follows_0 19 rfl) v_RX8_118 (R_followsOf h.1 _ _) (by decide) rfl rfl rfl rfl rfl (Nat.le_of_ble_eq_true rfl) (by decide) ?_
        refine s_goto (tgt := 59) (tb_ok aX8_follows_0 20 rfl) (by decide) ?_
        refine s_iret (tb_ok aX8_follows_1 8 rfl) rfl ?_
        exact afZ rfl FrE.refl
    · exact absurd c21 (by decide)

set_option maxRecDepth 100000 in
set_option maxHeartbeats 1000000 in
theorem R_follows1 {X : En} {L : FL} {q : Nat × Nat} {I : FI} {m : Nat} {fr fa : Nat → Int32} {M : Nat} {T : Nat → Nat → Int32} {d : Nat} {sem : Nat → Sem} (h : RSt I m fr fa M T d sem) {v : Nat} (hv : v < 4096) : Ev X 60 mX8_follows (0, 0) [.ref 66, .int (nI v), .int (1)] S0 I L (R0 q) (AfZ q eB I (clo fr fa m (-1) 12 (nI v))) := by
  have hM5 := h.M5
  have hz : nx fr fa m (clo fr fa m (-1) 12 (nI v)) (-1) = 0 := h.z hv (-1)
  refine ev_of (by decide +kernel) rfl ?_
  show SW X _ _ _ 0 [some (.ref 66), some (.int (nI v)), some (.int (1))] [] S0 I L (R0 q) _
  refine s_iload_n (tb_ok aX8_follows_0 0 rfl) rfl ?_
  refine s_i2l (tb_ok aX8_follows_0 1 rfl) ?_
  refine s_lconst (v := 0) (tb_ok aX8_follows_0 2 rfl) (by decide) ?_
  refine s_ldc2 (tb_ok aX8_follows_0 3 rfl) k_RX8_79 ?_
  refine s_cSp (as := [_, .long (0), .long (4095)]) (tb_ok aX8_follows_0 4 rfl) v_RX8_73 (R_in _ _ _) (by decide) rfl rfl (Nat.le_of_ble_eq_true rfl) ?_
  refine s_topi (bI_t ((in_iff (x := nI v) (lo := 0) (hi := 4095) rfl (by decide) (by decide)).mpr (inN (hi := 4095) (by omega) (by decide)))) ?_
  refine s_if_eq (tgt := 24) (tb_ok aX8_follows_0 5 rfl) (by decide) (fun c9 => ?_) (fun c9 => ?_)
  · exact absurd c9 (by decide)
  · refine s_iload_n (tb_ok aX8_follows_0 6 rfl) rfl ?_
    refine s_i2l (tb_ok aX8_follows_0 7 rfl) ?_
    refine s_lconst (v := 0) (tb_ok aX8_follows_0 8 rfl) (by decide) ?_
    refine s_ldc2 (tb_ok aX8_follows_0 9 rfl) k_RX8_352 ?_
    refine s_cSp (as := [_, .long (0), .long (2)]) (tb_ok aX8_follows_0 10 rfl) v_RX8_73 (R_in _ _ _) (by decide) rfl rfl (Nat.le_of_ble_eq_true rfl) ?_
    refine s_topi (bI_t (by decide)) ?_
    refine s_if_ne (tgt := 27) (tb_ok aX8_follows_0 11 rfl) (by decide) (fun c21 => ?_) (fun c21 => ?_)
    · refine s_iload_n (tb_ok aX8_follows_0 14 rfl) rfl ?_
      refine s_if_ne (tgt := 40) (tb_ok aX8_follows_0 15 rfl) (by decide) (fun c28 => ?_) (fun c28 => ?_)
      · refine s_iload_n (tb_ok aX8_follows_0 21 rfl) rfl ?_
        refine s_iconst (v := 1) (tb_ok aX8_follows_0 22 rfl) (by decide) ?_
        refine s_icmp_ne (tgt := 54) (tb_ok aX8_follows_0 23 rfl) (by decide) (fun c42 => ?_) (fun c42 => ?_)
        · exact absurd c42 (by decide)
        · refine s_aload_n (tb_ok aX8_follows_1 0 rfl) rfl ?_
          refine s_iload_n (tb_ok aX8_follows_1 1 rfl) rfl ?_
          refine s_iconst (v := -1) (tb_ok aX8_follows_1 2 rfl) (by decide) ?_
          refine s_cVp (as := [.int (nI v), .int (-1)]) (tb_ok aX8_follows_1 3 rfl) v_RX8_127 (R_allOf h.1 hz) (by decide) rfl rfl rfl rfl rfl (Nat.le_of_ble_eq_true rfl) (by decide) ?_
          refine s_goto (tgt := 59) (tb_ok aX8_follows_1 4 rfl) (by decide) ?_
          refine s_iret (tb_ok aX8_follows_1 8 rfl) rfl ?_
          exact afZ rfl FrE.refl
      · exact absurd c28 (by decide)
    · exact absurd c21 (by decide)

set_option maxRecDepth 100000 in
set_option maxHeartbeats 1000000 in
theorem R_follows2 {X : En} {L : FL} {q : Nat × Nat} {I : FI} {m : Nat} {fr fa : Nat → Int32} {M : Nat} {T : Nat → Nat → Int32} {d : Nat} {sem : Nat → Sem} (h : RSt I m fr fa M T d sem) {v : Nat} (hv : v < 4096) : Ev X 60 mX8_follows (0, 0) [.ref 66, .int (nI v), .int (2)] S0 I L (R0 q) (AfZ q eB I (nI (rnd fr fa m 12 (nI v) 0))) := by
  have hM5 := h.M5
  have hz : nx fr fa m (clo fr fa m (-1) 12 (nI v)) (-1) = 0 := h.z hv (-1)
  refine ev_of (by decide +kernel) rfl ?_
  show SW X _ _ _ 0 [some (.ref 66), some (.int (nI v)), some (.int (2))] [] S0 I L (R0 q) _
  refine s_iload_n (tb_ok aX8_follows_0 0 rfl) rfl ?_
  refine s_i2l (tb_ok aX8_follows_0 1 rfl) ?_
  refine s_lconst (v := 0) (tb_ok aX8_follows_0 2 rfl) (by decide) ?_
  refine s_ldc2 (tb_ok aX8_follows_0 3 rfl) k_RX8_79 ?_
  refine s_cSp (as := [_, .long (0), .long (4095)]) (tb_ok aX8_follows_0 4 rfl) v_RX8_73 (R_in _ _ _) (by decide) rfl rfl (Nat.le_of_ble_eq_true rfl) ?_
  refine s_topi (bI_t ((in_iff (x := nI v) (lo := 0) (hi := 4095) rfl (by decide) (by decide)).mpr (inN (hi := 4095) (by omega) (by decide)))) ?_
  refine s_if_eq (tgt := 24) (tb_ok aX8_follows_0 5 rfl) (by decide) (fun c9 => ?_) (fun c9 => ?_)
  · exact absurd c9 (by decide)
  · refine s_iload_n (tb_ok aX8_follows_0 6 rfl) rfl ?_
    refine s_i2l (tb_ok aX8_follows_0 7 rfl) ?_
    refine s_lconst (v := 0) (tb_ok aX8_follows_0 8 rfl) (by decide) ?_
    refine s_ldc2 (tb_ok aX8_follows_0 9 rfl) k_RX8_352 ?_
    refine s_cSp (as := [_, .long (0), .long (2)]) (tb_ok aX8_follows_0 10 rfl) v_RX8_73 (R_in _ _ _) (by decide) rfl rfl (Nat.le_of_ble_eq_true rfl) ?_
    refine s_topi (bI_t (by decide)) ?_
    refine s_if_ne (tgt := 27) (tb_ok aX8_follows_0 11 rfl) (by decide) (fun c21 => ?_) (fun c21 => ?_)
    · refine s_iload_n (tb_ok aX8_follows_0 14 rfl) rfl ?_
      refine s_if_ne (tgt := 40) (tb_ok aX8_follows_0 15 rfl) (by decide) (fun c28 => ?_) (fun c28 => ?_)
      · refine s_iload_n (tb_ok aX8_follows_0 21 rfl) rfl ?_
        refine s_iconst (v := 1) (tb_ok aX8_follows_0 22 rfl) (by decide) ?_
        refine s_icmp_ne (tgt := 54) (tb_ok aX8_follows_0 23 rfl) (by decide) (fun c42 => ?_) (fun c42 => ?_)
        · refine s_aload_n (tb_ok aX8_follows_1 5 rfl) rfl ?_
          refine s_iload_n (tb_ok aX8_follows_1 6 rfl) rfl ?_
          refine s_cVp (as := [.int (nI v)]) (tb_ok aX8_follows_1 7 rfl) v_RX8_354 (R_roundsOf h.1 hz) (by decide) rfl rfl rfl rfl rfl (Nat.le_of_ble_eq_true rfl) (by decide) ?_
          refine s_iret (tb_ok aX8_follows_1 8 rfl) rfl ?_
          exact afZ rfl FrE.refl
        · exact absurd c42 (by decide)
      · exact absurd c28 (by decide)
    · exact absurd c21 (by decide)

set_option maxRecDepth 100000 in
set_option maxHeartbeats 1000000 in
theorem R_followsB {X : En} {L : FL} {q : Nat × Nat} {I : FI} {m : Nat} {fr fa : Nat → Int32} {M : Nat} {T : Nat → Nat → Int32} {d : Nat} {sem : Nat → Sem} (h : RSt I m fr fa M T d sem) {x w : Int32} (hv : ¬ ((¬ x < 0 ∧ ¬ 4095 < x) ∧ (¬ w < 0 ∧ ¬ 2 < w))) : Ev X 60 mX8_follows (0, 0) [.ref 66, .int x, .int w] S0 I L (R0 q) (AfZ q eB I (-2)) := by
  have hM5 := h.M5
  refine ev_of (by decide +kernel) rfl ?_
  show SW X _ _ _ 0 [some (.ref 66), some (.int x), some (.int w)] [] S0 I L (R0 q) _
  refine s_iload_n (tb_ok aX8_follows_0 0 rfl) rfl ?_
  refine s_i2l (tb_ok aX8_follows_0 1 rfl) ?_
  refine s_lconst (v := 0) (tb_ok aX8_follows_0 2 rfl) (by decide) ?_
  refine s_ldc2 (tb_ok aX8_follows_0 3 rfl) k_RX8_79 ?_
  refine s_cSp (as := [_, .long (0), .long (4095)]) (tb_ok aX8_follows_0 4 rfl) v_RX8_73 (R_in _ _ _) (by decide) rfl rfl (Nat.le_of_ble_eq_true rfl) ?_
  refine s_topi (bI_congr (in_iff (lo := 0) (hi := 4095) rfl (by decide) (by decide))) ?_
  refine s_if_eq (tgt := 24) (tb_ok aX8_follows_0 5 rfl) (by decide) (fun c9 => ?_) (fun c9 => ?_)
  · refine s_bipush (v := -2) (tb_ok aX8_follows_0 12 rfl) (by decide) ?_
    refine s_iret (tb_ok aX8_follows_0 13 rfl) rfl ?_
    exact afZ rfl FrE.refl
  · refine s_iload_n (tb_ok aX8_follows_0 6 rfl) rfl ?_
    refine s_i2l (tb_ok aX8_follows_0 7 rfl) ?_
    refine s_lconst (v := 0) (tb_ok aX8_follows_0 8 rfl) (by decide) ?_
    refine s_ldc2 (tb_ok aX8_follows_0 9 rfl) k_RX8_352 ?_
    refine s_cSp (as := [_, .long (0), .long (2)]) (tb_ok aX8_follows_0 10 rfl) v_RX8_73 (R_in _ _ _) (by decide) rfl rfl (Nat.le_of_ble_eq_true rfl) ?_
    refine s_topi (bI_congr (in_iff (lo := 0) (hi := 2) rfl (by decide) (by decide))) ?_
    refine s_if_ne (tgt := 27) (tb_ok aX8_follows_0 11 rfl) (by decide) (fun c21 => ?_) (fun c21 => ?_)
    · exact absurd ⟨bI_n c9, bI_n c21⟩ hv
    · refine s_bipush (v := -2) (tb_ok aX8_follows_0 12 rfl) (by decide) ?_
      refine s_iret (tb_ok aX8_follows_0 13 rfl) rfl ?_
      exact afZ rfl FrE.refl

set_option maxRecDepth 100000 in
set_option maxHeartbeats 1000000 in
theorem R_run0 {X : En} {L : FL} {q : Nat × Nat} {I : FI} {m : Nat} {fr fa : Nat → Int32} {M : Nat} {T : Nat → Nat → Int32} {d : Nat} {sem : Nat → Sem} (h : RSt I m fr fa M T d sem) (hd : d ≤ 5000) {j : Nat} (hj : j < M) {n : Nat} (hn : n ≤ 40) : Ev X 60 mX8_run (0, 0) [.ref 66, .int (nI j), .int (nI n), .int (0)] S0 I L (R0 q) (AfZ q eB I (itP sem fr fa m (nI d) (T j) n 2)) := by
  have hM5 := h.M5
  have loop : ∀ k, k ≤ n → ∀ (b0 : Int32), ∀ (I1 : FI), ∀ (L1 : FL), (b0 = apS T M 5) → (RSt I1 m fr fa M (itT sem fr fa m d T k) (d + k) sem) → (Mid I I1) → SW X 60 mX8_run (0, 0) 48 [some (.ref 66), some (.int (nI j)), some (.int (nI n)), some (.int (0)), some (.int b0), some (.int (nI k))] [] S0 I1 L1 (R0 q) (KQ X (AfZ q eB I (itP sem fr fa m (nI d) (T j) n 2))) := by
    refine for_up (P := fun k => ∀ (b0 : Int32), ∀ (I1 : FI), ∀ (L1 : FL), (b0 = apS T M 5) → (RSt I1 m fr fa M (itT sem fr fa m d T k) (d + k) sem) → (Mid I I1) → SW X 60 mX8_run (0, 0) 48 [some (.ref 66), some (.int (nI j)), some (.int (nI n)), some (.int (0)), some (.int b0), some (.int (nI k))] [] S0 I1 L1 (R0 q) (KQ X (AfZ q eB I (itP sem fr fa m (nI d) (T j) n 2)))) n ?_ ?_
    · intro b0 I1 L1 hi hi1 hi2
      refine s_iload (tb_ok aX8_run_1 1 rfl) rfl ?_
      refine s_iload_n (tb_ok aX8_run_1 2 rfl) rfl ?_
      refine s_icmp_ge (tgt := 65) (tb_ok aX8_run_1 3 rfl) (by decide) (fun c51 => ?_) (fun c51 => ?_)
      · refine s_iload_n (tb_ok aX8_run_1 9 rfl) rfl ?_
        refine s_iconst (v := 3) (tb_ok aX8_run_1 10 rfl) (by decide) ?_
        refine s_icmp_ge (tgt := 85) (tb_ok aX8_run_1 11 rfl) (by decide) (fun c67 => ?_) (fun c67 => ?_)
        · exact absurd c67 (by decide)
        · refine s_aload_n (tb_ok aX8_run_1 12 rfl) rfl ?_
          refine s_getR (r := 73) (tb_ok aX8_run_1 13 rfl) f_RX8_32 rfl rfl rfl ?_
          refine s_iconst (v := 4) (tb_ok aX8_run_1 14 rfl) (by decide) ?_
          refine s_iload_n (tb_ok aX8_run_1 15 rfl) rfl ?_
          refine s_imul (tb_ok aX8_run_1 16 rfl) ?_
          refine s_topi (z := (nI (4 * j))) (nI_mul 4 j) ?_
          refine s_iload_n (tb_ok aX8_run_1 17 rfl) rfl ?_
          refine s_iadd (tb_ok aX8_run_1 18 rfl) ?_
          refine s_topi (z := (nI (4 * j + 0))) (nI_add' (4 * j) 0) ?_
          refine s_iconst (v := 1) (tb_ok aX8_run_1 19 rfl) (by decide) ?_
          refine s_iadd (tb_ok aX8_run_1 20 rfl) ?_
          refine s_topi (z := (nI (4 * j + 1))) (nI_add' (4 * j + 0) 1) ?_
          refine s_ialdX (x := ((itT sem fr fa m d T n) j 2)) (tb_ok aX8_run_1 21 rfl) rfl (by omega) (by decide) (hi1.c2 hj) ?_
          refine s_goto (tgt := 92) (tb_ok aX8_run_1 22 rfl) (by decide) ?_
          refine s_name (fun x1 ex1 => ?_)
          refine s_istore (ls' := [some (.ref 66), some (.int (nI j)), some (.int (nI n)), some (.int (0)), some (.int b0), some (.int x1)]) (tb_ok aX8_run_2 3 rfl) rfl rfl ?_
          refine s_aload_n (tb_ok aX8_run_2 4 rfl) rfl ?_
          refine s_cV (as := []) (tb_ok aX8_run_2 5 rfl) v_RX8_397 (R_laysBack) (by decide) rfl rfl rfl rfl rfl (Nat.le_of_ble_eq_true rfl) (by decide) (fun r1 S1 I1 L1 R1 q1 => ?_)
          obtain ⟨rfl, rfl, rfl, rfl, rfl⟩ := q1
          refine s_iload (tb_ok aX8_run_2 6 rfl) rfl ?_
          refine s_iret (tb_ok aX8_run_2 7 rfl) rfl ?_
          refine afZ ?_ hi2.back
          exact ex1
      · simp (disch := omega) only [nI_ltI, nI_leI, nI_eq] at c51
        omega
    · intro k hk ih b0 I1 L1 hi hi1 hi2
      refine s_iload (tb_ok aX8_run_1 1 rfl) rfl ?_
      refine s_iload_n (tb_ok aX8_run_1 2 rfl) rfl ?_
      refine s_icmp_ge (tgt := 65) (tb_ok aX8_run_1 3 rfl) (by decide) (fun c51 => ?_) (fun c51 => ?_)
      · simp (disch := omega) only [nI_ltI, nI_leI, nI_eq] at c51
        omega
      · refine s_aload_n (tb_ok aX8_run_1 4 rfl) rfl ?_
        refine s_cV (as := []) (tb_ok aX8_run_1 5 rfl) v_RX8_381 (R_passes hi1 (by omega)) (by decide) rfl rfl rfl rfl rfl (Nat.le_of_ble_eq_true rfl) (by decide) (fun r1 S1 I1 L1 R1 q1 => ?_)
        obtain ⟨rfl, rfl, rfl, hp, hpf⟩ := q1
        have hp := hp.its
        refine s_pop (tb_ok aX8_run_1 6 rfl) rfl ?_
        refine s_iinc (v := nI (k + 1)) (ls' := [some (.ref 66), some (.int (nI j)), some (.int (nI n)), some (.int (0)), some (.int b0), some (.int (nI (k + 1)))]) (tb_ok aX8_run_1 7 rfl) rfl (nI_1 _) rfl rfl ?_
        refine s_goto (tgt := 48) (tb_ok aX8_run_1 8 rfl) (by decide) ?_
        exact ih _ _ _ hi hp (hi2.go hpf)
  refine ev_of (by decide +kernel) rfl ?_
  show SW X _ _ _ 0 [some (.ref 66), some (.int (nI j)), some (.int (nI n)), some (.int (0)), none, none] [] S0 I L (R0 q) _
  refine s_aload_n (tb_ok aX8_run_0 0 rfl) rfl ?_
  refine s_iload_n (tb_ok aX8_run_0 1 rfl) rfl ?_
  refine s_cVp (as := [.int (nI j)]) (tb_ok aX8_run_0 2 rfl) v_RX8_90 (R_isHouse h.mn _) (by decide) rfl rfl rfl rfl rfl (Nat.le_of_ble_eq_true rfl) (by decide) ?_
  refine s_topi (bI_t (vH_t hj hM5)) ?_
  refine s_if_eq (tgt := 32) (tb_ok aX8_run_0 3 rfl) (by decide) (fun c5 => ?_) (fun c5 => ?_)
  · exact absurd c5 (by decide)
  · refine s_iload_n (tb_ok aX8_run_0 4 rfl) rfl ?_
    refine s_i2l (tb_ok aX8_run_0 5 rfl) ?_
    refine s_lconst (v := 0) (tb_ok aX8_run_0 6 rfl) (by decide) ?_
    refine s_ldc2 (tb_ok aX8_run_0 7 rfl) k_RX8_387 ?_
    refine s_cSp (as := [_, .long (0), .long (40)]) (tb_ok aX8_run_0 8 rfl) v_RX8_73 (R_in _ _ _) (by decide) rfl rfl (Nat.le_of_ble_eq_true rfl) ?_
    refine s_topi (bI_t ((in_iff (x := nI n) (lo := 0) (hi := 40) rfl (by decide) (by decide)).mpr (inN (hi := 40) hn (by decide)))) ?_
    refine s_if_eq (tgt := 32) (tb_ok aX8_run_0 9 rfl) (by decide) (fun c17 => ?_) (fun c17 => ?_)
    · exact absurd c17 (by decide)
    · refine s_iload_n (tb_ok aX8_run_0 10 rfl) rfl ?_
      refine s_i2l (tb_ok aX8_run_0 11 rfl) ?_
      refine s_lconst (v := 0) (tb_ok aX8_run_0 12 rfl) (by decide) ?_
      refine s_ldc2 (tb_ok aX8_run_0 13 rfl) k_RX8_389 ?_
      refine s_cSp (as := [_, .long (0), .long (3)]) (tb_ok aX8_run_0 14 rfl) v_RX8_73 (R_in _ _ _) (by decide) rfl rfl (Nat.le_of_ble_eq_true rfl) ?_
      refine s_topi (bI_t (by decide)) ?_
      refine s_if_ne (tgt := 35) (tb_ok aX8_run_0 15 rfl) (by decide) (fun c29 => ?_) (fun c29 => ?_)
      · refine s_aload_n (tb_ok aX8_run_0 18 rfl) rfl ?_
        refine s_cVp (as := []) (tb_ok aX8_run_0 19 rfl) v_RX8_391 (R_applesAll h) (by decide) rfl rfl rfl rfl rfl (Nat.le_of_ble_eq_true rfl) (by decide) ?_
        refine s_name (fun x1 ex1 => ?_)
        refine s_istore (ls' := [some (.ref 66), some (.int (nI j)), some (.int (nI n)), some (.int (0)), some (.int x1), none]) (tb_ok aX8_run_0 20 rfl) rfl rfl ?_
        refine s_aload_n (tb_ok aX8_run_0 21 rfl) rfl ?_
        refine s_cV (as := []) (tb_ok aX8_run_0 22 rfl) v_RX8_394 (R_laysAside) (by decide) rfl rfl rfl rfl rfl (Nat.le_of_ble_eq_true rfl) (by decide) (fun r1 S1 I1 L1 R1 q1 => ?_)
        obtain ⟨rfl, rfl, rfl, rfl, rfl⟩ := q1
        have ha := h.see (see_eB (aside_B (I := I)))
        refine s_iconst (v := nI 0) (tb_ok aX8_run_0 23 rfl) (by decide) ?_
        refine s_istore (ls' := [some (.ref 66), some (.int (nI j)), some (.int (nI n)), some (.int (0)), some (.int x1), some (.int (nI 0))]) (tb_ok aX8_run_1 0 rfl) rfl rfl ?_
        exact loop 0 (Nat.zero_le _) _ _ _ ex1 ha mid_0
      · exact absurd c29 (by decide)

set_option maxRecDepth 100000 in
set_option maxHeartbeats 1000000 in
theorem R_run1 {X : En} {L : FL} {q : Nat × Nat} {I : FI} {m : Nat} {fr fa : Nat → Int32} {M : Nat} {T : Nat → Nat → Int32} {d : Nat} {sem : Nat → Sem} (h : RSt I m fr fa M T d sem) (hd : d ≤ 5000) {j : Nat} (hj : j < M) {n : Nat} (hn : n ≤ 40) : Ev X 60 mX8_run (0, 0) [.ref 66, .int (nI j), .int (nI n), .int (1)] S0 I L (R0 q) (AfZ q eB I (itP sem fr fa m (nI d) (T j) n 3)) := by
  have hM5 := h.M5
  have loop : ∀ k, k ≤ n → ∀ (b0 : Int32), ∀ (I1 : FI), ∀ (L1 : FL), (b0 = apS T M 5) → (RSt I1 m fr fa M (itT sem fr fa m d T k) (d + k) sem) → (Mid I I1) → SW X 60 mX8_run (0, 0) 48 [some (.ref 66), some (.int (nI j)), some (.int (nI n)), some (.int (1)), some (.int b0), some (.int (nI k))] [] S0 I1 L1 (R0 q) (KQ X (AfZ q eB I (itP sem fr fa m (nI d) (T j) n 3))) := by
    refine for_up (P := fun k => ∀ (b0 : Int32), ∀ (I1 : FI), ∀ (L1 : FL), (b0 = apS T M 5) → (RSt I1 m fr fa M (itT sem fr fa m d T k) (d + k) sem) → (Mid I I1) → SW X 60 mX8_run (0, 0) 48 [some (.ref 66), some (.int (nI j)), some (.int (nI n)), some (.int (1)), some (.int b0), some (.int (nI k))] [] S0 I1 L1 (R0 q) (KQ X (AfZ q eB I (itP sem fr fa m (nI d) (T j) n 3)))) n ?_ ?_
    · intro b0 I1 L1 hi hi1 hi2
      refine s_iload (tb_ok aX8_run_1 1 rfl) rfl ?_
      refine s_iload_n (tb_ok aX8_run_1 2 rfl) rfl ?_
      refine s_icmp_ge (tgt := 65) (tb_ok aX8_run_1 3 rfl) (by decide) (fun c51 => ?_) (fun c51 => ?_)
      · refine s_iload_n (tb_ok aX8_run_1 9 rfl) rfl ?_
        refine s_iconst (v := 3) (tb_ok aX8_run_1 10 rfl) (by decide) ?_
        refine s_icmp_ge (tgt := 85) (tb_ok aX8_run_1 11 rfl) (by decide) (fun c67 => ?_) (fun c67 => ?_)
        · exact absurd c67 (by decide)
        · refine s_aload_n (tb_ok aX8_run_1 12 rfl) rfl ?_
          refine s_getR (r := 73) (tb_ok aX8_run_1 13 rfl) f_RX8_32 rfl rfl rfl ?_
          refine s_iconst (v := 4) (tb_ok aX8_run_1 14 rfl) (by decide) ?_
          refine s_iload_n (tb_ok aX8_run_1 15 rfl) rfl ?_
          refine s_imul (tb_ok aX8_run_1 16 rfl) ?_
          refine s_topi (z := (nI (4 * j))) (nI_mul 4 j) ?_
          refine s_iload_n (tb_ok aX8_run_1 17 rfl) rfl ?_
          refine s_iadd (tb_ok aX8_run_1 18 rfl) ?_
          refine s_topi (z := (nI (4 * j + 1))) (nI_add' (4 * j) 1) ?_
          refine s_iconst (v := 1) (tb_ok aX8_run_1 19 rfl) (by decide) ?_
          refine s_iadd (tb_ok aX8_run_1 20 rfl) ?_
          refine s_topi (z := (nI (4 * j + 2))) (nI_add' (4 * j + 1) 1) ?_
          refine s_ialdX (x := ((itT sem fr fa m d T n) j 3)) (tb_ok aX8_run_1 21 rfl) rfl (by omega) (by decide) (hi1.c3 hj) ?_
          refine s_goto (tgt := 92) (tb_ok aX8_run_1 22 rfl) (by decide) ?_
          refine s_name (fun x1 ex1 => ?_)
          refine s_istore (ls' := [some (.ref 66), some (.int (nI j)), some (.int (nI n)), some (.int (1)), some (.int b0), some (.int x1)]) (tb_ok aX8_run_2 3 rfl) rfl rfl ?_
          refine s_aload_n (tb_ok aX8_run_2 4 rfl) rfl ?_
          refine s_cV (as := []) (tb_ok aX8_run_2 5 rfl) v_RX8_397 (R_laysBack) (by decide) rfl rfl rfl rfl rfl (Nat.le_of_ble_eq_true rfl) (by decide) (fun r1 S1 I1 L1 R1 q1 => ?_)
          obtain ⟨rfl, rfl, rfl, rfl, rfl⟩ := q1
          refine s_iload (tb_ok aX8_run_2 6 rfl) rfl ?_
          refine s_iret (tb_ok aX8_run_2 7 rfl) rfl ?_
          refine afZ ?_ hi2.back
          exact ex1
      · simp (disch := omega) only [nI_ltI, nI_leI, nI_eq] at c51
        omega
    · intro k hk ih b0 I1 L1 hi hi1 hi2
      refine s_iload (tb_ok aX8_run_1 1 rfl) rfl ?_
      refine s_iload_n (tb_ok aX8_run_1 2 rfl) rfl ?_
      refine s_icmp_ge (tgt := 65) (tb_ok aX8_run_1 3 rfl) (by decide) (fun c51 => ?_) (fun c51 => ?_)
      · simp (disch := omega) only [nI_ltI, nI_leI, nI_eq] at c51
        omega
      · refine s_aload_n (tb_ok aX8_run_1 4 rfl) rfl ?_
        refine s_cV (as := []) (tb_ok aX8_run_1 5 rfl) v_RX8_381 (R_passes hi1 (by omega)) (by decide) rfl rfl rfl rfl rfl (Nat.le_of_ble_eq_true rfl) (by decide) (fun r1 S1 I1 L1 R1 q1 => ?_)
        obtain ⟨rfl, rfl, rfl, hp, hpf⟩ := q1
        have hp := hp.its
        refine s_pop (tb_ok aX8_run_1 6 rfl) rfl ?_
        refine s_iinc (v := nI (k + 1)) (ls' := [some (.ref 66), some (.int (nI j)), some (.int (nI n)), some (.int (1)), some (.int b0), some (.int (nI (k + 1)))]) (tb_ok aX8_run_1 7 rfl) rfl (nI_1 _) rfl rfl ?_
        refine s_goto (tgt := 48) (tb_ok aX8_run_1 8 rfl) (by decide) ?_
        exact ih _ _ _ hi hp (hi2.go hpf)
  refine ev_of (by decide +kernel) rfl ?_
  show SW X _ _ _ 0 [some (.ref 66), some (.int (nI j)), some (.int (nI n)), some (.int (1)), none, none] [] S0 I L (R0 q) _
  refine s_aload_n (tb_ok aX8_run_0 0 rfl) rfl ?_
  refine s_iload_n (tb_ok aX8_run_0 1 rfl) rfl ?_
  refine s_cVp (as := [.int (nI j)]) (tb_ok aX8_run_0 2 rfl) v_RX8_90 (R_isHouse h.mn _) (by decide) rfl rfl rfl rfl rfl (Nat.le_of_ble_eq_true rfl) (by decide) ?_
  refine s_topi (bI_t (vH_t hj hM5)) ?_
  refine s_if_eq (tgt := 32) (tb_ok aX8_run_0 3 rfl) (by decide) (fun c5 => ?_) (fun c5 => ?_)
  · exact absurd c5 (by decide)
  · refine s_iload_n (tb_ok aX8_run_0 4 rfl) rfl ?_
    refine s_i2l (tb_ok aX8_run_0 5 rfl) ?_
    refine s_lconst (v := 0) (tb_ok aX8_run_0 6 rfl) (by decide) ?_
    refine s_ldc2 (tb_ok aX8_run_0 7 rfl) k_RX8_387 ?_
    refine s_cSp (as := [_, .long (0), .long (40)]) (tb_ok aX8_run_0 8 rfl) v_RX8_73 (R_in _ _ _) (by decide) rfl rfl (Nat.le_of_ble_eq_true rfl) ?_
    refine s_topi (bI_t ((in_iff (x := nI n) (lo := 0) (hi := 40) rfl (by decide) (by decide)).mpr (inN (hi := 40) hn (by decide)))) ?_
    refine s_if_eq (tgt := 32) (tb_ok aX8_run_0 9 rfl) (by decide) (fun c17 => ?_) (fun c17 => ?_)
    · exact absurd c17 (by decide)
    · refine s_iload_n (tb_ok aX8_run_0 10 rfl) rfl ?_
      refine s_i2l (tb_ok aX8_run_0 11 rfl) ?_
      refine s_lconst (v := 0) (tb_ok aX8_run_0 12 rfl) (by decide) ?_
      refine s_ldc2 (tb_ok aX8_run_0 13 rfl) k_RX8_389 ?_
      refine s_cSp (as := [_, .long (0), .long (3)]) (tb_ok aX8_run_0 14 rfl) v_RX8_73 (R_in _ _ _) (by decide) rfl rfl (Nat.le_of_ble_eq_true rfl) ?_
      refine s_topi (bI_t (by decide)) ?_
      refine s_if_ne (tgt := 35) (tb_ok aX8_run_0 15 rfl) (by decide) (fun c29 => ?_) (fun c29 => ?_)
      · refine s_aload_n (tb_ok aX8_run_0 18 rfl) rfl ?_
        refine s_cVp (as := []) (tb_ok aX8_run_0 19 rfl) v_RX8_391 (R_applesAll h) (by decide) rfl rfl rfl rfl rfl (Nat.le_of_ble_eq_true rfl) (by decide) ?_
        refine s_name (fun x1 ex1 => ?_)
        refine s_istore (ls' := [some (.ref 66), some (.int (nI j)), some (.int (nI n)), some (.int (1)), some (.int x1), none]) (tb_ok aX8_run_0 20 rfl) rfl rfl ?_
        refine s_aload_n (tb_ok aX8_run_0 21 rfl) rfl ?_
        refine s_cV (as := []) (tb_ok aX8_run_0 22 rfl) v_RX8_394 (R_laysAside) (by decide) rfl rfl rfl rfl rfl (Nat.le_of_ble_eq_true rfl) (by decide) (fun r1 S1 I1 L1 R1 q1 => ?_)
        obtain ⟨rfl, rfl, rfl, rfl, rfl⟩ := q1
        have ha := h.see (see_eB (aside_B (I := I)))
        refine s_iconst (v := nI 0) (tb_ok aX8_run_0 23 rfl) (by decide) ?_
        refine s_istore (ls' := [some (.ref 66), some (.int (nI j)), some (.int (nI n)), some (.int (1)), some (.int x1), some (.int (nI 0))]) (tb_ok aX8_run_1 0 rfl) rfl rfl ?_
        exact loop 0 (Nat.zero_le _) _ _ _ ex1 ha mid_0
      · exact absurd c29 (by decide)

set_option maxRecDepth 100000 in
set_option maxHeartbeats 1000000 in
theorem R_run2 {X : En} {L : FL} {q : Nat × Nat} {I : FI} {m : Nat} {fr fa : Nat → Int32} {M : Nat} {T : Nat → Nat → Int32} {d : Nat} {sem : Nat → Sem} (h : RSt I m fr fa M T d sem) (hd : d ≤ 5000) {j : Nat} (hj : j < M) {n : Nat} (hn : n ≤ 40) : Ev X 60 mX8_run (0, 0) [.ref 66, .int (nI j), .int (nI n), .int (2)] S0 I L (R0 q) (AfZ q eB I (itP sem fr fa m (nI d) (T j) n 4)) := by
  have hM5 := h.M5
  have loop : ∀ k, k ≤ n → ∀ (b0 : Int32), ∀ (I1 : FI), ∀ (L1 : FL), (b0 = apS T M 5) → (RSt I1 m fr fa M (itT sem fr fa m d T k) (d + k) sem) → (Mid I I1) → SW X 60 mX8_run (0, 0) 48 [some (.ref 66), some (.int (nI j)), some (.int (nI n)), some (.int (2)), some (.int b0), some (.int (nI k))] [] S0 I1 L1 (R0 q) (KQ X (AfZ q eB I (itP sem fr fa m (nI d) (T j) n 4))) := by
    refine for_up (P := fun k => ∀ (b0 : Int32), ∀ (I1 : FI), ∀ (L1 : FL), (b0 = apS T M 5) → (RSt I1 m fr fa M (itT sem fr fa m d T k) (d + k) sem) → (Mid I I1) → SW X 60 mX8_run (0, 0) 48 [some (.ref 66), some (.int (nI j)), some (.int (nI n)), some (.int (2)), some (.int b0), some (.int (nI k))] [] S0 I1 L1 (R0 q) (KQ X (AfZ q eB I (itP sem fr fa m (nI d) (T j) n 4)))) n ?_ ?_
    · intro b0 I1 L1 hi hi1 hi2
      refine s_iload (tb_ok aX8_run_1 1 rfl) rfl ?_
      refine s_iload_n (tb_ok aX8_run_1 2 rfl) rfl ?_
      refine s_icmp_ge (tgt := 65) (tb_ok aX8_run_1 3 rfl) (by decide) (fun c51 => ?_) (fun c51 => ?_)
      · refine s_iload_n (tb_ok aX8_run_1 9 rfl) rfl ?_
        refine s_iconst (v := 3) (tb_ok aX8_run_1 10 rfl) (by decide) ?_
        refine s_icmp_ge (tgt := 85) (tb_ok aX8_run_1 11 rfl) (by decide) (fun c67 => ?_) (fun c67 => ?_)
        · exact absurd c67 (by decide)
        · refine s_aload_n (tb_ok aX8_run_1 12 rfl) rfl ?_
          refine s_getR (r := 73) (tb_ok aX8_run_1 13 rfl) f_RX8_32 rfl rfl rfl ?_
          refine s_iconst (v := 4) (tb_ok aX8_run_1 14 rfl) (by decide) ?_
          refine s_iload_n (tb_ok aX8_run_1 15 rfl) rfl ?_
          refine s_imul (tb_ok aX8_run_1 16 rfl) ?_
          refine s_topi (z := (nI (4 * j))) (nI_mul 4 j) ?_
          refine s_iload_n (tb_ok aX8_run_1 17 rfl) rfl ?_
          refine s_iadd (tb_ok aX8_run_1 18 rfl) ?_
          refine s_topi (z := (nI (4 * j + 2))) (nI_add' (4 * j) 2) ?_
          refine s_iconst (v := 1) (tb_ok aX8_run_1 19 rfl) (by decide) ?_
          refine s_iadd (tb_ok aX8_run_1 20 rfl) ?_
          refine s_topi (z := (nI (4 * j + 3))) (nI_add' (4 * j + 2) 1) ?_
          refine s_ialdX (x := ((itT sem fr fa m d T n) j 4)) (tb_ok aX8_run_1 21 rfl) rfl (by omega) (by decide) (hi1.c4 hj) ?_
          refine s_goto (tgt := 92) (tb_ok aX8_run_1 22 rfl) (by decide) ?_
          refine s_name (fun x1 ex1 => ?_)
          refine s_istore (ls' := [some (.ref 66), some (.int (nI j)), some (.int (nI n)), some (.int (2)), some (.int b0), some (.int x1)]) (tb_ok aX8_run_2 3 rfl) rfl rfl ?_
          refine s_aload_n (tb_ok aX8_run_2 4 rfl) rfl ?_
          refine s_cV (as := []) (tb_ok aX8_run_2 5 rfl) v_RX8_397 (R_laysBack) (by decide) rfl rfl rfl rfl rfl (Nat.le_of_ble_eq_true rfl) (by decide) (fun r1 S1 I1 L1 R1 q1 => ?_)
          obtain ⟨rfl, rfl, rfl, rfl, rfl⟩ := q1
          refine s_iload (tb_ok aX8_run_2 6 rfl) rfl ?_
          refine s_iret (tb_ok aX8_run_2 7 rfl) rfl ?_
          refine afZ ?_ hi2.back
          exact ex1
      · simp (disch := omega) only [nI_ltI, nI_leI, nI_eq] at c51
        omega
    · intro k hk ih b0 I1 L1 hi hi1 hi2
      refine s_iload (tb_ok aX8_run_1 1 rfl) rfl ?_
      refine s_iload_n (tb_ok aX8_run_1 2 rfl) rfl ?_
      refine s_icmp_ge (tgt := 65) (tb_ok aX8_run_1 3 rfl) (by decide) (fun c51 => ?_) (fun c51 => ?_)
      · simp (disch := omega) only [nI_ltI, nI_leI, nI_eq] at c51
        omega
      · refine s_aload_n (tb_ok aX8_run_1 4 rfl) rfl ?_
        refine s_cV (as := []) (tb_ok aX8_run_1 5 rfl) v_RX8_381 (R_passes hi1 (by omega)) (by decide) rfl rfl rfl rfl rfl (Nat.le_of_ble_eq_true rfl) (by decide) (fun r1 S1 I1 L1 R1 q1 => ?_)
        obtain ⟨rfl, rfl, rfl, hp, hpf⟩ := q1
        have hp := hp.its
        refine s_pop (tb_ok aX8_run_1 6 rfl) rfl ?_
        refine s_iinc (v := nI (k + 1)) (ls' := [some (.ref 66), some (.int (nI j)), some (.int (nI n)), some (.int (2)), some (.int b0), some (.int (nI (k + 1)))]) (tb_ok aX8_run_1 7 rfl) rfl (nI_1 _) rfl rfl ?_
        refine s_goto (tgt := 48) (tb_ok aX8_run_1 8 rfl) (by decide) ?_
        exact ih _ _ _ hi hp (hi2.go hpf)
  refine ev_of (by decide +kernel) rfl ?_
  show SW X _ _ _ 0 [some (.ref 66), some (.int (nI j)), some (.int (nI n)), some (.int (2)), none, none] [] S0 I L (R0 q) _
  refine s_aload_n (tb_ok aX8_run_0 0 rfl) rfl ?_
  refine s_iload_n (tb_ok aX8_run_0 1 rfl) rfl ?_
  refine s_cVp (as := [.int (nI j)]) (tb_ok aX8_run_0 2 rfl) v_RX8_90 (R_isHouse h.mn _) (by decide) rfl rfl rfl rfl rfl (Nat.le_of_ble_eq_true rfl) (by decide) ?_
  refine s_topi (bI_t (vH_t hj hM5)) ?_
  refine s_if_eq (tgt := 32) (tb_ok aX8_run_0 3 rfl) (by decide) (fun c5 => ?_) (fun c5 => ?_)
  · exact absurd c5 (by decide)
  · refine s_iload_n (tb_ok aX8_run_0 4 rfl) rfl ?_
    refine s_i2l (tb_ok aX8_run_0 5 rfl) ?_
    refine s_lconst (v := 0) (tb_ok aX8_run_0 6 rfl) (by decide) ?_
    refine s_ldc2 (tb_ok aX8_run_0 7 rfl) k_RX8_387 ?_
    refine s_cSp (as := [_, .long (0), .long (40)]) (tb_ok aX8_run_0 8 rfl) v_RX8_73 (R_in _ _ _) (by decide) rfl rfl (Nat.le_of_ble_eq_true rfl) ?_
    refine s_topi (bI_t ((in_iff (x := nI n) (lo := 0) (hi := 40) rfl (by decide) (by decide)).mpr (inN (hi := 40) hn (by decide)))) ?_
    refine s_if_eq (tgt := 32) (tb_ok aX8_run_0 9 rfl) (by decide) (fun c17 => ?_) (fun c17 => ?_)
    · exact absurd c17 (by decide)
    · refine s_iload_n (tb_ok aX8_run_0 10 rfl) rfl ?_
      refine s_i2l (tb_ok aX8_run_0 11 rfl) ?_
      refine s_lconst (v := 0) (tb_ok aX8_run_0 12 rfl) (by decide) ?_
      refine s_ldc2 (tb_ok aX8_run_0 13 rfl) k_RX8_389 ?_
      refine s_cSp (as := [_, .long (0), .long (3)]) (tb_ok aX8_run_0 14 rfl) v_RX8_73 (R_in _ _ _) (by decide) rfl rfl (Nat.le_of_ble_eq_true rfl) ?_
      refine s_topi (bI_t (by decide)) ?_
      refine s_if_ne (tgt := 35) (tb_ok aX8_run_0 15 rfl) (by decide) (fun c29 => ?_) (fun c29 => ?_)
      · refine s_aload_n (tb_ok aX8_run_0 18 rfl) rfl ?_
        refine s_cVp (as := []) (tb_ok aX8_run_0 19 rfl) v_RX8_391 (R_applesAll h) (by decide) rfl rfl rfl rfl rfl (Nat.le_of_ble_eq_true rfl) (by decide) ?_
        refine s_name (fun x1 ex1 => ?_)
        refine s_istore (ls' := [some (.ref 66), some (.int (nI j)), some (.int (nI n)), some (.int (2)), some (.int x1), none]) (tb_ok aX8_run_0 20 rfl) rfl rfl ?_
        refine s_aload_n (tb_ok aX8_run_0 21 rfl) rfl ?_
        refine s_cV (as := []) (tb_ok aX8_run_0 22 rfl) v_RX8_394 (R_laysAside) (by decide) rfl rfl rfl rfl rfl (Nat.le_of_ble_eq_true rfl) (by decide) (fun r1 S1 I1 L1 R1 q1 => ?_)
        obtain ⟨rfl, rfl, rfl, rfl, rfl⟩ := q1
        have ha := h.see (see_eB (aside_B (I := I)))
        refine s_iconst (v := nI 0) (tb_ok aX8_run_0 23 rfl) (by decide) ?_
        refine s_istore (ls' := [some (.ref 66), some (.int (nI j)), some (.int (nI n)), some (.int (2)), some (.int x1), some (.int (nI 0))]) (tb_ok aX8_run_1 0 rfl) rfl rfl ?_
        exact loop 0 (Nat.zero_le _) _ _ _ ex1 ha mid_0
      · exact absurd c29 (by decide)

set_option maxRecDepth 100000 in
set_option maxHeartbeats 1000000 in
theorem R_run3 {X : En} {L : FL} {q : Nat × Nat} {I : FI} {m : Nat} {fr fa : Nat → Int32} {M : Nat} {T : Nat → Nat → Int32} {d : Nat} {sem : Nat → Sem} (h : RSt I m fr fa M T d sem) (hd : d ≤ 5000) {j : Nat} (hj : j < M) {n : Nat} (hn : n ≤ 40) : Ev X 60 mX8_run (0, 0) [.ref 66, .int (nI j), .int (nI n), .int (3)] S0 I L (R0 q) (AfZ q eB I (apS T M 5 - apS (itT sem fr fa m d T n) M 5)) := by
  have hM5 := h.M5
  have loop : ∀ k, k ≤ n → ∀ (b0 : Int32), ∀ (I1 : FI), ∀ (L1 : FL), (b0 = apS T M 5) → (RSt I1 m fr fa M (itT sem fr fa m d T k) (d + k) sem) → (Mid I I1) → SW X 60 mX8_run (0, 0) 48 [some (.ref 66), some (.int (nI j)), some (.int (nI n)), some (.int (3)), some (.int b0), some (.int (nI k))] [] S0 I1 L1 (R0 q) (KQ X (AfZ q eB I (apS T M 5 - apS (itT sem fr fa m d T n) M 5))) := by
    refine for_up (P := fun k => ∀ (b0 : Int32), ∀ (I1 : FI), ∀ (L1 : FL), (b0 = apS T M 5) → (RSt I1 m fr fa M (itT sem fr fa m d T k) (d + k) sem) → (Mid I I1) → SW X 60 mX8_run (0, 0) 48 [some (.ref 66), some (.int (nI j)), some (.int (nI n)), some (.int (3)), some (.int b0), some (.int (nI k))] [] S0 I1 L1 (R0 q) (KQ X (AfZ q eB I (apS T M 5 - apS (itT sem fr fa m d T n) M 5)))) n ?_ ?_
    · intro b0 I1 L1 hi hi1 hi2
      refine s_iload (tb_ok aX8_run_1 1 rfl) rfl ?_
      refine s_iload_n (tb_ok aX8_run_1 2 rfl) rfl ?_
      refine s_icmp_ge (tgt := 65) (tb_ok aX8_run_1 3 rfl) (by decide) (fun c51 => ?_) (fun c51 => ?_)
      · refine s_iload_n (tb_ok aX8_run_1 9 rfl) rfl ?_
        refine s_iconst (v := 3) (tb_ok aX8_run_1 10 rfl) (by decide) ?_
        refine s_icmp_ge (tgt := 85) (tb_ok aX8_run_1 11 rfl) (by decide) (fun c67 => ?_) (fun c67 => ?_)
        · refine s_iload (tb_ok aX8_run_1 23 rfl) rfl ?_
          refine s_aload_n (tb_ok aX8_run_2 0 rfl) rfl ?_
          refine s_cVp (as := []) (tb_ok aX8_run_2 1 rfl) v_RX8_391 (R_applesAll hi1) (by decide) rfl rfl rfl rfl rfl (Nat.le_of_ble_eq_true rfl) (by decide) ?_
          refine s_isub (tb_ok aX8_run_2 2 rfl) ?_
          refine s_name (fun x1 ex1 => ?_)
          refine s_istore (ls' := [some (.ref 66), some (.int (nI j)), some (.int (nI n)), some (.int (3)), some (.int b0), some (.int x1)]) (tb_ok aX8_run_2 3 rfl) rfl rfl ?_
          refine s_aload_n (tb_ok aX8_run_2 4 rfl) rfl ?_
          refine s_cV (as := []) (tb_ok aX8_run_2 5 rfl) v_RX8_397 (R_laysBack) (by decide) rfl rfl rfl rfl rfl (Nat.le_of_ble_eq_true rfl) (by decide) (fun r1 S1 I1 L1 R1 q1 => ?_)
          obtain ⟨rfl, rfl, rfl, rfl, rfl⟩ := q1
          refine s_iload (tb_ok aX8_run_2 6 rfl) rfl ?_
          refine s_iret (tb_ok aX8_run_2 7 rfl) rfl ?_
          refine afZ ?_ hi2.back
          rw [ex1, hi]
        · exact absurd c67 (by decide)
      · simp (disch := omega) only [nI_ltI, nI_leI, nI_eq] at c51
        omega
    · intro k hk ih b0 I1 L1 hi hi1 hi2
      refine s_iload (tb_ok aX8_run_1 1 rfl) rfl ?_
      refine s_iload_n (tb_ok aX8_run_1 2 rfl) rfl ?_
      refine s_icmp_ge (tgt := 65) (tb_ok aX8_run_1 3 rfl) (by decide) (fun c51 => ?_) (fun c51 => ?_)
      · simp (disch := omega) only [nI_ltI, nI_leI, nI_eq] at c51
        omega
      · refine s_aload_n (tb_ok aX8_run_1 4 rfl) rfl ?_
        refine s_cV (as := []) (tb_ok aX8_run_1 5 rfl) v_RX8_381 (R_passes hi1 (by omega)) (by decide) rfl rfl rfl rfl rfl (Nat.le_of_ble_eq_true rfl) (by decide) (fun r1 S1 I1 L1 R1 q1 => ?_)
        obtain ⟨rfl, rfl, rfl, hp, hpf⟩ := q1
        have hp := hp.its
        refine s_pop (tb_ok aX8_run_1 6 rfl) rfl ?_
        refine s_iinc (v := nI (k + 1)) (ls' := [some (.ref 66), some (.int (nI j)), some (.int (nI n)), some (.int (3)), some (.int b0), some (.int (nI (k + 1)))]) (tb_ok aX8_run_1 7 rfl) rfl (nI_1 _) rfl rfl ?_
        refine s_goto (tgt := 48) (tb_ok aX8_run_1 8 rfl) (by decide) ?_
        exact ih _ _ _ hi hp (hi2.go hpf)
  refine ev_of (by decide +kernel) rfl ?_
  show SW X _ _ _ 0 [some (.ref 66), some (.int (nI j)), some (.int (nI n)), some (.int (3)), none, none] [] S0 I L (R0 q) _
  refine s_aload_n (tb_ok aX8_run_0 0 rfl) rfl ?_
  refine s_iload_n (tb_ok aX8_run_0 1 rfl) rfl ?_
  refine s_cVp (as := [.int (nI j)]) (tb_ok aX8_run_0 2 rfl) v_RX8_90 (R_isHouse h.mn _) (by decide) rfl rfl rfl rfl rfl (Nat.le_of_ble_eq_true rfl) (by decide) ?_
  refine s_topi (bI_t (vH_t hj hM5)) ?_
  refine s_if_eq (tgt := 32) (tb_ok aX8_run_0 3 rfl) (by decide) (fun c5 => ?_) (fun c5 => ?_)
  · exact absurd c5 (by decide)
  · refine s_iload_n (tb_ok aX8_run_0 4 rfl) rfl ?_
    refine s_i2l (tb_ok aX8_run_0 5 rfl) ?_
    refine s_lconst (v := 0) (tb_ok aX8_run_0 6 rfl) (by decide) ?_
    refine s_ldc2 (tb_ok aX8_run_0 7 rfl) k_RX8_387 ?_
    refine s_cSp (as := [_, .long (0), .long (40)]) (tb_ok aX8_run_0 8 rfl) v_RX8_73 (R_in _ _ _) (by decide) rfl rfl (Nat.le_of_ble_eq_true rfl) ?_
    refine s_topi (bI_t ((in_iff (x := nI n) (lo := 0) (hi := 40) rfl (by decide) (by decide)).mpr (inN (hi := 40) hn (by decide)))) ?_
    refine s_if_eq (tgt := 32) (tb_ok aX8_run_0 9 rfl) (by decide) (fun c17 => ?_) (fun c17 => ?_)
    · exact absurd c17 (by decide)
    · refine s_iload_n (tb_ok aX8_run_0 10 rfl) rfl ?_
      refine s_i2l (tb_ok aX8_run_0 11 rfl) ?_
      refine s_lconst (v := 0) (tb_ok aX8_run_0 12 rfl) (by decide) ?_
      refine s_ldc2 (tb_ok aX8_run_0 13 rfl) k_RX8_389 ?_
      refine s_cSp (as := [_, .long (0), .long (3)]) (tb_ok aX8_run_0 14 rfl) v_RX8_73 (R_in _ _ _) (by decide) rfl rfl (Nat.le_of_ble_eq_true rfl) ?_
      refine s_topi (bI_t (by decide)) ?_
      refine s_if_ne (tgt := 35) (tb_ok aX8_run_0 15 rfl) (by decide) (fun c29 => ?_) (fun c29 => ?_)
      · refine s_aload_n (tb_ok aX8_run_0 18 rfl) rfl ?_
        refine s_cVp (as := []) (tb_ok aX8_run_0 19 rfl) v_RX8_391 (R_applesAll h) (by decide) rfl rfl rfl rfl rfl (Nat.le_of_ble_eq_true rfl) (by decide) ?_
        refine s_name (fun x1 ex1 => ?_)
        refine s_istore (ls' := [some (.ref 66), some (.int (nI j)), some (.int (nI n)), some (.int (3)), some (.int x1), none]) (tb_ok aX8_run_0 20 rfl) rfl rfl ?_
        refine s_aload_n (tb_ok aX8_run_0 21 rfl) rfl ?_
        refine s_cV (as := []) (tb_ok aX8_run_0 22 rfl) v_RX8_394 (R_laysAside) (by decide) rfl rfl rfl rfl rfl (Nat.le_of_ble_eq_true rfl) (by decide) (fun r1 S1 I1 L1 R1 q1 => ?_)
        obtain ⟨rfl, rfl, rfl, rfl, rfl⟩ := q1
        have ha := h.see (see_eB (aside_B (I := I)))
        refine s_iconst (v := nI 0) (tb_ok aX8_run_0 23 rfl) (by decide) ?_
        refine s_istore (ls' := [some (.ref 66), some (.int (nI j)), some (.int (nI n)), some (.int (3)), some (.int x1), some (.int (nI 0))]) (tb_ok aX8_run_1 0 rfl) rfl rfl ?_
        exact loop 0 (Nat.zero_le _) _ _ _ ex1 ha mid_0
      · exact absurd c29 (by decide)

set_option maxRecDepth 100000 in
set_option maxHeartbeats 1000000 in
theorem R_runB {X : En} {L : FL} {q : Nat × Nat} {I : FI} {m : Nat} {fr fa : Nat → Int32} {M : Nat} {T : Nat → Nat → Int32} {d : Nat} {sem : Nat → Sem} (h : RSt I m fr fa M T d sem) {x z w : Int32} (hv : ¬ (vH x M ∧ (¬ z < 0 ∧ ¬ 40 < z) ∧ (¬ w < 0 ∧ ¬ 3 < w))) : Ev X 60 mX8_run (0, 0) [.ref 66, .int x, .int z, .int w] S0 I L (R0 q) (AfZ q eB I (-2)) := by
  have hM5 := h.M5
  refine ev_of (by decide +kernel) rfl ?_
  show SW X _ _ _ 0 [some (.ref 66), some (.int x), some (.int z), some (.int w), none, none] [] S0 I L (R0 q) _
  refine s_aload_n (tb_ok aX8_run_0 0 rfl) rfl ?_
  refine s_iload_n (tb_ok aX8_run_0 1 rfl) rfl ?_
  refine s_cVp (as := [.int x]) (tb_ok aX8_run_0 2 rfl) v_RX8_90 (R_isHouse h.mn _) (by decide) rfl rfl rfl rfl rfl (Nat.le_of_ble_eq_true rfl) (by decide) ?_
  refine s_if_eq (tgt := 32) (tb_ok aX8_run_0 3 rfl) (by decide) (fun c5 => ?_) (fun c5 => ?_)
  · refine s_bipush (v := -2) (tb_ok aX8_run_0 16 rfl) (by decide) ?_
    refine s_iret (tb_ok aX8_run_0 17 rfl) rfl ?_
    exact afZ rfl FrE.refl
  · refine s_iload_n (tb_ok aX8_run_0 4 rfl) rfl ?_
    refine s_i2l (tb_ok aX8_run_0 5 rfl) ?_
    refine s_lconst (v := 0) (tb_ok aX8_run_0 6 rfl) (by decide) ?_
    refine s_ldc2 (tb_ok aX8_run_0 7 rfl) k_RX8_387 ?_
    refine s_cSp (as := [_, .long (0), .long (40)]) (tb_ok aX8_run_0 8 rfl) v_RX8_73 (R_in _ _ _) (by decide) rfl rfl (Nat.le_of_ble_eq_true rfl) ?_
    refine s_topi (bI_congr (in_iff (lo := 0) (hi := 40) rfl (by decide) (by decide))) ?_
    refine s_if_eq (tgt := 32) (tb_ok aX8_run_0 9 rfl) (by decide) (fun c17 => ?_) (fun c17 => ?_)
    · refine s_bipush (v := -2) (tb_ok aX8_run_0 16 rfl) (by decide) ?_
      refine s_iret (tb_ok aX8_run_0 17 rfl) rfl ?_
      exact afZ rfl FrE.refl
    · refine s_iload_n (tb_ok aX8_run_0 10 rfl) rfl ?_
      refine s_i2l (tb_ok aX8_run_0 11 rfl) ?_
      refine s_lconst (v := 0) (tb_ok aX8_run_0 12 rfl) (by decide) ?_
      refine s_ldc2 (tb_ok aX8_run_0 13 rfl) k_RX8_389 ?_
      refine s_cSp (as := [_, .long (0), .long (3)]) (tb_ok aX8_run_0 14 rfl) v_RX8_73 (R_in _ _ _) (by decide) rfl rfl (Nat.le_of_ble_eq_true rfl) ?_
      refine s_topi (bI_congr (in_iff (lo := 0) (hi := 3) rfl (by decide) (by decide))) ?_
      refine s_if_ne (tgt := 35) (tb_ok aX8_run_0 15 rfl) (by decide) (fun c29 => ?_) (fun c29 => ?_)
      · exact absurd ⟨bI_n c5, bI_n c17, bI_n c29⟩ hv
      · refine s_bipush (v := -2) (tb_ok aX8_run_0 16 rfl) (by decide) ?_
        refine s_iret (tb_ok aX8_run_0 17 rfl) rfl ?_
        exact afZ rfl FrE.refl

theorem tak_01 {sem : Nat → (Nat → Int32) → Int32} {fr fa : Nat → Int32} {m : Nat} {f : Nat → Int32} {fact day : Int32} : takI sem fr fa m f fact day = 0 ∨ takI sem fr fa m f fact day = 1 := by
  unfold takI
  by_cases h2 : f 0 = 2
  · rw [if_pos h2]; exact Or.inr rfl
  rw [if_neg h2]
  by_cases h4 : f 0 = 4
  · rw [if_pos h4]; exact bI_01 _
  rw [if_neg h4]; exact bI_01 _
/-- the size of the fewest, or of nothing -/
def fwB (fr fa : Nat → Int32) (m : Nat) (kn ak : Int32) : Int32 := bcF (few fr fa m kn ak)
theorem few_ok {fr fa : Nat → Int32} {m v g : Nat} (hfa : okFa m fa) (hv : v < 4096) (hg : g < 12) : ∃ w, w < 4096 ∧ few fr fa m (nI v) (nI g) = nI w := by
  unfold few
  by_cases h0 : ¬ ((clo fr fa m (-1) 12 (nI v)) >>> (nI g &&& 31)) &&& 1 = 0
  · rw [if_pos h0]; exact ⟨0, by omega, rfl⟩
  rw [if_neg h0]
  have key : ∀ n f, f + n = 12 → ∃ w, w < 4096 ∧ fwF fr fa m (nI v) (nI g) n f = nI w := by
    intro n
    induction n with
    | zero => intro f _; exact ⟨2 ^ g, p_lt hg, shl_2 hg⟩
    | succ n ih =>
      intro f hf
      unfold fwF
      split
      · exact ⟨2 ^ f, p_lt (by omega), shl_2 (by omega)⟩
      · exact ih (f + 1) (by omega)
  exact key 12 0 rfl
set_option maxRecDepth 100000 in
set_option maxHeartbeats 1000000 in
theorem R_asks0 {X : En} {L : FL} {q : Nat × Nat} {I : FI} {m : Nat} {fr fa : Nat → Int32} {M : Nat} {T : Nat → Nat → Int32} {d : Nat} {sem : Nat → Sem} (h : RSt I m fr fa M T d sem) (hd : d ≤ 5000) {j : Nat} (hj : j < M) {g : Nat} (hg : g < 12) : Ev X 60 mX8_asks (0, 0) [.ref 66, .int (nI j), .int (nI g), .int (0)] S0 I L (R0 q) (AfZ q eB I (whnS sem fr fa m (nI d) (T j) (nI g) 40 0)) := by
  have hM5 := h.M5
  refine ev_of (by decide +kernel) rfl ?_
  show SW X _ _ _ 0 [some (.ref 66), some (.int (nI j)), some (.int (nI g)), some (.int (0))] [] S0 I L (R0 q) _
  refine s_aload_n (tb_ok aX8_asks_0 0 rfl) rfl ?_
  refine s_iload_n (tb_ok aX8_asks_0 1 rfl) rfl ?_
  refine s_cVp (as := [.int (nI j)]) (tb_ok aX8_asks_0 2 rfl) v_RX8_90 (R_isHouse h.mn _) (by decide) rfl rfl rfl rfl rfl (Nat.le_of_ble_eq_true rfl) (by decide) ?_
  refine s_topi (bI_t (vH_t hj hM5)) ?_
  refine s_if_eq (tgt := 27) (tb_ok aX8_asks_0 3 rfl) (by decide) (fun c5 => ?_) (fun c5 => ?_)
  · exact absurd c5 (by decide)
  · refine s_iload_n (tb_ok aX8_asks_0 4 rfl) rfl ?_
    refine s_cSp (as := [.int (nI g)]) (tb_ok aX8_asks_0 5 rfl) v_RX8_81 (R_isFact _) (by decide) rfl rfl (Nat.le_of_ble_eq_true rfl) ?_
    refine s_topi (bI_t (inN (n := g) (hi := 11) (by omega) (by decide))) ?_
    refine s_if_eq (tgt := 27) (tb_ok aX8_asks_0 6 rfl) (by decide) (fun c12 => ?_) (fun c12 => ?_)
    · exact absurd c12 (by decide)
    · refine s_iload_n (tb_ok aX8_asks_0 7 rfl) rfl ?_
      refine s_i2l (tb_ok aX8_asks_0 8 rfl) ?_
      refine s_lconst (v := 0) (tb_ok aX8_asks_0 9 rfl) (by decide) ?_
      refine s_ldc2 (tb_ok aX8_asks_0 10 rfl) k_RX8_88 ?_
      refine s_cSp (as := [_, .long (0), .long (4)]) (tb_ok aX8_asks_0 11 rfl) v_RX8_73 (R_in _ _ _) (by decide) rfl rfl (Nat.le_of_ble_eq_true rfl) ?_
      refine s_topi (bI_t (by decide)) ?_
      refine s_if_ne (tgt := 30) (tb_ok aX8_asks_0 12 rfl) (by decide) (fun c24 => ?_) (fun c24 => ?_)
      · refine s_iload_n (tb_ok aX8_asks_0 15 rfl) rfl ?_
        refine s_iconst (v := 2) (tb_ok aX8_asks_0 16 rfl) (by decide) ?_
        refine s_icmp_le (tgt := 64) (tb_ok aX8_asks_0 17 rfl) (by decide) (fun c32 => ?_) (fun c32 => ?_)
        · refine s_iload_n (tb_ok aX8_asks_1 11 rfl) rfl ?_
          refine s_if_ne (tgt := 77) (tb_ok aX8_asks_1 12 rfl) (by decide) (fun c65 => ?_) (fun c65 => ?_)
          · exact absurd c65 (by decide)
          · refine s_aload_n (tb_ok aX8_asks_1 13 rfl) rfl ?_
            refine s_iload_n (tb_ok aX8_asks_1 14 rfl) rfl ?_
            refine s_iload_n (tb_ok aX8_asks_1 15 rfl) rfl ?_
            refine s_cV (as := [.int (nI j), .int (nI g)]) (tb_ok aX8_asks_1 16 rfl) v_RX8_400 (R_whenOf h hd hj _) (by decide) rfl rfl rfl rfl rfl (Nat.le_of_ble_eq_true rfl) (by decide) (fun r1 S1 I1 L1 R1 q1 => ?_)
            obtain ⟨rfl, rfl, rfl, hf4⟩ := q1
            refine s_goto (tgt := 100) (tb_ok aX8_asks_1 17 rfl) (by decide) ?_
            refine s_iret (tb_ok aX8_asks_2 7 rfl) rfl ?_
            exact afZ rfl hf4
        · exact absurd c32 (by decide)
      · exact absurd c24 (by decide)

set_option maxRecDepth 100000 in
set_option maxHeartbeats 1000000 in
theorem R_asks1 {X : En} {L : FL} {q : Nat × Nat} {I : FI} {m : Nat} {fr fa : Nat → Int32} {M : Nat} {T : Nat → Nat → Int32} {d : Nat} {sem : Nat → Sem} (h : RSt I m fr fa M T d sem) (hd : d ≤ 5000) {j : Nat} (hj : j < M) {g : Nat} (hg : g < 12) : Ev X 60 mX8_asks (0, 0) [.ref 66, .int (nI j), .int (nI g), .int (1)] S0 I L (R0 q) (AfZ q eB I (few fr fa m (T j 2) (nI g))) := by
  have hM5 := h.M5
  refine ev_of (by decide +kernel) rfl ?_
  show SW X _ _ _ 0 [some (.ref 66), some (.int (nI j)), some (.int (nI g)), some (.int (1))] [] S0 I L (R0 q) _
  refine s_aload_n (tb_ok aX8_asks_0 0 rfl) rfl ?_
  refine s_iload_n (tb_ok aX8_asks_0 1 rfl) rfl ?_
  refine s_cVp (as := [.int (nI j)]) (tb_ok aX8_asks_0 2 rfl) v_RX8_90 (R_isHouse h.mn _) (by decide) rfl rfl rfl rfl rfl (Nat.le_of_ble_eq_true rfl) (by decide) ?_
  refine s_topi (bI_t (vH_t hj hM5)) ?_
  refine s_if_eq (tgt := 27) (tb_ok aX8_asks_0 3 rfl) (by decide) (fun c5 => ?_) (fun c5 => ?_)
  · exact absurd c5 (by decide)
  · refine s_iload_n (tb_ok aX8_asks_0 4 rfl) rfl ?_
    refine s_cSp (as := [.int (nI g)]) (tb_ok aX8_asks_0 5 rfl) v_RX8_81 (R_isFact _) (by decide) rfl rfl (Nat.le_of_ble_eq_true rfl) ?_
    refine s_topi (bI_t (inN (n := g) (hi := 11) (by omega) (by decide))) ?_
    refine s_if_eq (tgt := 27) (tb_ok aX8_asks_0 6 rfl) (by decide) (fun c12 => ?_) (fun c12 => ?_)
    · exact absurd c12 (by decide)
    · refine s_iload_n (tb_ok aX8_asks_0 7 rfl) rfl ?_
      refine s_i2l (tb_ok aX8_asks_0 8 rfl) ?_
      refine s_lconst (v := 0) (tb_ok aX8_asks_0 9 rfl) (by decide) ?_
      refine s_ldc2 (tb_ok aX8_asks_0 10 rfl) k_RX8_88 ?_
      refine s_cSp (as := [_, .long (0), .long (4)]) (tb_ok aX8_asks_0 11 rfl) v_RX8_73 (R_in _ _ _) (by decide) rfl rfl (Nat.le_of_ble_eq_true rfl) ?_
      refine s_topi (bI_t (by decide)) ?_
      refine s_if_ne (tgt := 30) (tb_ok aX8_asks_0 12 rfl) (by decide) (fun c24 => ?_) (fun c24 => ?_)
      · refine s_iload_n (tb_ok aX8_asks_0 15 rfl) rfl ?_
        refine s_iconst (v := 2) (tb_ok aX8_asks_0 16 rfl) (by decide) ?_
        refine s_icmp_le (tgt := 64) (tb_ok aX8_asks_0 17 rfl) (by decide) (fun c32 => ?_) (fun c32 => ?_)
        · refine s_iload_n (tb_ok aX8_asks_1 11 rfl) rfl ?_
          refine s_if_ne (tgt := 77) (tb_ok aX8_asks_1 12 rfl) (by decide) (fun c65 => ?_) (fun c65 => ?_)
          · refine s_iload_n (tb_ok aX8_asks_1 18 rfl) rfl ?_
            refine s_iconst (v := 1) (tb_ok aX8_asks_1 19 rfl) (by decide) ?_
            refine s_icmp_ne (tgt := 91) (tb_ok aX8_asks_1 20 rfl) (by decide) (fun c79 => ?_) (fun c79 => ?_)
            · exact absurd c79 (by decide)
            · refine s_aload_n (tb_ok aX8_asks_1 21 rfl) rfl ?_
              refine s_iload_n (tb_ok aX8_asks_1 22 rfl) rfl ?_
              refine s_iload_n (tb_ok aX8_asks_1 23 rfl) rfl ?_
              refine s_cVp (as := [.int (nI j), .int (nI g)]) (tb_ok aX8_asks_2 0 rfl) v_RX8_403 (R_fewestOf h hj hg) (by decide) rfl rfl rfl rfl rfl (Nat.le_of_ble_eq_true rfl) (by decide) ?_
              refine s_goto (tgt := 100) (tb_ok aX8_asks_2 1 rfl) (by decide) ?_
              refine s_iret (tb_ok aX8_asks_2 7 rfl) rfl ?_
              exact afZ rfl FrE.refl
          · exact absurd c65 (by decide)
        · exact absurd c32 (by decide)
      · exact absurd c24 (by decide)

set_option maxRecDepth 100000 in
set_option maxHeartbeats 1000000 in
theorem R_asks2 {X : En} {L : FL} {q : Nat × Nat} {I : FI} {m : Nat} {fr fa : Nat → Int32} {M : Nat} {T : Nat → Nat → Int32} {d : Nat} {sem : Nat → Sem} (h : RSt I m fr fa M T d sem) (hd : d ≤ 5000) {j : Nat} (hj : j < M) {g : Nat} (hg : g < 12) : Ev X 60 mX8_asks (0, 0) [.ref 66, .int (nI j), .int (nI g), .int (2)] S0 I L (R0 q) (AfZ q eB I (bcF (few fr fa m (T j 2) (nI g)))) := by
  have hM5 := h.M5
  obtain ⟨_, _, ⟨v, hv, ev⟩, _, _⟩ := h.ok hj
  obtain ⟨w, hw, ew⟩ := few_ok (fr := fr) (v := v) h.2.1 hv hg
  rw [← ev] at ew
  refine ev_of (by decide +kernel) rfl ?_
  show SW X _ _ _ 0 [some (.ref 66), some (.int (nI j)), some (.int (nI g)), some (.int (2))] [] S0 I L (R0 q) _
  refine s_aload_n (tb_ok aX8_asks_0 0 rfl) rfl ?_
  refine s_iload_n (tb_ok aX8_asks_0 1 rfl) rfl ?_
  refine s_cVp (as := [.int (nI j)]) (tb_ok aX8_asks_0 2 rfl) v_RX8_90 (R_isHouse h.mn _) (by decide) rfl rfl rfl rfl rfl (Nat.le_of_ble_eq_true rfl) (by decide) ?_
  refine s_topi (bI_t (vH_t hj hM5)) ?_
  refine s_if_eq (tgt := 27) (tb_ok aX8_asks_0 3 rfl) (by decide) (fun c5 => ?_) (fun c5 => ?_)
  · exact absurd c5 (by decide)
  · refine s_iload_n (tb_ok aX8_asks_0 4 rfl) rfl ?_
    refine s_cSp (as := [.int (nI g)]) (tb_ok aX8_asks_0 5 rfl) v_RX8_81 (R_isFact _) (by decide) rfl rfl (Nat.le_of_ble_eq_true rfl) ?_
    refine s_topi (bI_t (inN (n := g) (hi := 11) (by omega) (by decide))) ?_
    refine s_if_eq (tgt := 27) (tb_ok aX8_asks_0 6 rfl) (by decide) (fun c12 => ?_) (fun c12 => ?_)
    · exact absurd c12 (by decide)
    · refine s_iload_n (tb_ok aX8_asks_0 7 rfl) rfl ?_
      refine s_i2l (tb_ok aX8_asks_0 8 rfl) ?_
      refine s_lconst (v := 0) (tb_ok aX8_asks_0 9 rfl) (by decide) ?_
      refine s_ldc2 (tb_ok aX8_asks_0 10 rfl) k_RX8_88 ?_
      refine s_cSp (as := [_, .long (0), .long (4)]) (tb_ok aX8_asks_0 11 rfl) v_RX8_73 (R_in _ _ _) (by decide) rfl rfl (Nat.le_of_ble_eq_true rfl) ?_
      refine s_topi (bI_t (by decide)) ?_
      refine s_if_ne (tgt := 30) (tb_ok aX8_asks_0 12 rfl) (by decide) (fun c24 => ?_) (fun c24 => ?_)
      · refine s_iload_n (tb_ok aX8_asks_0 15 rfl) rfl ?_
        refine s_iconst (v := 2) (tb_ok aX8_asks_0 16 rfl) (by decide) ?_
        refine s_icmp_le (tgt := 64) (tb_ok aX8_asks_0 17 rfl) (by decide) (fun c32 => ?_) (fun c32 => ?_)
        · refine s_iload_n (tb_ok aX8_asks_1 11 rfl) rfl ?_
          refine s_if_ne (tgt := 77) (tb_ok aX8_asks_1 12 rfl) (by decide) (fun c65 => ?_) (fun c65 => ?_)
          · refine s_iload_n (tb_ok aX8_asks_1 18 rfl) rfl ?_
            refine s_iconst (v := 1) (tb_ok aX8_asks_1 19 rfl) (by decide) ?_
            refine s_icmp_ne (tgt := 91) (tb_ok aX8_asks_1 20 rfl) (by decide) (fun c79 => ?_) (fun c79 => ?_)
            · refine s_aload_n (tb_ok aX8_asks_2 2 rfl) rfl ?_
              refine s_iload_n (tb_ok aX8_asks_2 3 rfl) rfl ?_
              refine s_iload_n (tb_ok aX8_asks_2 4 rfl) rfl ?_
              refine s_cVp (as := [.int (nI j), .int (nI g)]) (tb_ok aX8_asks_2 5 rfl) v_RX8_403 (R_fewestOf h hj hg) (by decide) rfl rfl rfl rfl rfl (Nat.le_of_ble_eq_true rfl) (by decide) ?_
              refine s_cSp (as := [_]) (tb_ok aX8_asks_2 6 rfl) v_RX8_345 (R_bitsX ew hw) (by decide) rfl rfl (Nat.le_of_ble_eq_true rfl) ?_
              refine s_iret (tb_ok aX8_asks_2 7 rfl) rfl ?_
              exact afZ rfl FrE.refl
            · exact absurd c79 (by decide)
          · exact absurd c65 (by decide)
        · exact absurd c32 (by decide)
      · exact absurd c24 (by decide)

set_option maxRecDepth 100000 in
set_option maxHeartbeats 1000000 in
theorem R_asks3 {X : En} {L : FL} {q : Nat × Nat} {I : FI} {m : Nat} {fr fa : Nat → Int32} {M : Nat} {T : Nat → Nat → Int32} {d : Nat} {sem : Nat → Sem} (h : RSt I m fr fa M T d sem) (hd : d ≤ 5000) {j : Nat} (hj : j < M) {g : Nat} (hg : g < 12) : Ev X 60 mX8_asks (0, 0) [.ref 66, .int (nI j), .int (nI g), .int (3)] S0 I L (R0 q) (AfZ q eB I (takI sem fr fa m (T j) (nI g) (nI d))) := by
  have hM5 := h.M5
  refine ev_of (by decide +kernel) rfl ?_
  show SW X _ _ _ 0 [some (.ref 66), some (.int (nI j)), some (.int (nI g)), some (.int (3))] [] S0 I L (R0 q) _
  refine s_aload_n (tb_ok aX8_asks_0 0 rfl) rfl ?_
  refine s_iload_n (tb_ok aX8_asks_0 1 rfl) rfl ?_
  refine s_cVp (as := [.int (nI j)]) (tb_ok aX8_asks_0 2 rfl) v_RX8_90 (R_isHouse h.mn _) (by decide) rfl rfl rfl rfl rfl (Nat.le_of_ble_eq_true rfl) (by decide) ?_
  refine s_topi (bI_t (vH_t hj hM5)) ?_
  refine s_if_eq (tgt := 27) (tb_ok aX8_asks_0 3 rfl) (by decide) (fun c5 => ?_) (fun c5 => ?_)
  · exact absurd c5 (by decide)
  · refine s_iload_n (tb_ok aX8_asks_0 4 rfl) rfl ?_
    refine s_cSp (as := [.int (nI g)]) (tb_ok aX8_asks_0 5 rfl) v_RX8_81 (R_isFact _) (by decide) rfl rfl (Nat.le_of_ble_eq_true rfl) ?_
    refine s_topi (bI_t (inN (n := g) (hi := 11) (by omega) (by decide))) ?_
    refine s_if_eq (tgt := 27) (tb_ok aX8_asks_0 6 rfl) (by decide) (fun c12 => ?_) (fun c12 => ?_)
    · exact absurd c12 (by decide)
    · refine s_iload_n (tb_ok aX8_asks_0 7 rfl) rfl ?_
      refine s_i2l (tb_ok aX8_asks_0 8 rfl) ?_
      refine s_lconst (v := 0) (tb_ok aX8_asks_0 9 rfl) (by decide) ?_
      refine s_ldc2 (tb_ok aX8_asks_0 10 rfl) k_RX8_88 ?_
      refine s_cSp (as := [_, .long (0), .long (4)]) (tb_ok aX8_asks_0 11 rfl) v_RX8_73 (R_in _ _ _) (by decide) rfl rfl (Nat.le_of_ble_eq_true rfl) ?_
      refine s_topi (bI_t (by decide)) ?_
      refine s_if_ne (tgt := 30) (tb_ok aX8_asks_0 12 rfl) (by decide) (fun c24 => ?_) (fun c24 => ?_)
      · refine s_iload_n (tb_ok aX8_asks_0 15 rfl) rfl ?_
        refine s_iconst (v := 2) (tb_ok aX8_asks_0 16 rfl) (by decide) ?_
        refine s_icmp_le (tgt := 64) (tb_ok aX8_asks_0 17 rfl) (by decide) (fun c32 => ?_) (fun c32 => ?_)
        · exact absurd c32 (by decide)
        · refine s_iload_n (tb_ok aX8_asks_0 18 rfl) rfl ?_
          refine s_iconst (v := 3) (tb_ok aX8_asks_0 19 rfl) (by decide) ?_
          refine s_icmp_ne (tgt := 57) (tb_ok aX8_asks_0 20 rfl) (by decide) (fun c37 => ?_) (fun c37 => ?_)
          · exact absurd c37 (by decide)
          · refine s_aload_n (tb_ok aX8_asks_0 21 rfl) rfl ?_
            refine s_iload_n (tb_ok aX8_asks_0 22 rfl) rfl ?_
            refine s_iload_n (tb_ok aX8_asks_0 23 rfl) rfl ?_
            refine s_cV (as := [.int (nI j), .int (nI g)]) (tb_ok aX8_asks_1 0 rfl) v_RX8_375 (R_takes h hj _) (by decide) rfl rfl rfl rfl rfl (Nat.le_of_ble_eq_true rfl) (by decide) (fun r1 S1 I1 L1 R1 q1 => ?_)
            obtain ⟨rfl, rfl, rfl, hf4⟩ := q1
            refine s_if_eq (tgt := 53) (tb_ok aX8_asks_1 1 rfl) (by decide) (fun c46 => ?_) (fun c46 => ?_)
            · refine s_iconst (v := 0) (tb_ok aX8_asks_1 4 rfl) (by decide) ?_
              refine s_goto (tgt := 63) (tb_ok aX8_asks_1 5 rfl) (by decide) ?_
              refine s_iret (tb_ok aX8_asks_1 10 rfl) rfl ?_
              rcases tak_01 (sem := sem) (fr := fr) (fa := fa) (m := m) (f := T j) (fact := nI g) (day := nI d) with ht | ht
              · exact afZ ht.symm (eS_eB hf4)
              · rw [ht] at c46; exact absurd c46 (by decide)
            · refine s_iconst (v := 1) (tb_ok aX8_asks_1 2 rfl) (by decide) ?_
              refine s_goto (tgt := 63) (tb_ok aX8_asks_1 3 rfl) (by decide) ?_
              refine s_iret (tb_ok aX8_asks_1 10 rfl) rfl ?_
              rcases tak_01 (sem := sem) (fr := fr) (fa := fa) (m := m) (f := T j) (fact := nI g) (day := nI d) with ht | ht
              · exact absurd ht c46
              · exact afZ ht.symm (eS_eB hf4)
      · exact absurd c24 (by decide)

set_option maxRecDepth 100000 in
set_option maxHeartbeats 1000000 in
theorem R_asks4 {X : En} {L : FL} {q : Nat × Nat} {I : FI} {m : Nat} {fr fa : Nat → Int32} {M : Nat} {T : Nat → Nat → Int32} {d : Nat} {sem : Nat → Sem} (h : RSt I m fr fa M T d sem) (hd : d ≤ 5000) {j : Nat} (hj : j < M) {g : Nat} (hg : g < 12) : Ev X 60 mX8_asks (0, 0) [.ref 66, .int (nI j), .int (nI g), .int (4)] S0 I L (R0 q) (AfZ q eB I (fallP sem (T j) (nI g) (nI d))) := by
  have hM5 := h.M5
  refine ev_of (by decide +kernel) rfl ?_
  show SW X _ _ _ 0 [some (.ref 66), some (.int (nI j)), some (.int (nI g)), some (.int (4))] [] S0 I L (R0 q) _
  refine s_aload_n (tb_ok aX8_asks_0 0 rfl) rfl ?_
  refine s_iload_n (tb_ok aX8_asks_0 1 rfl) rfl ?_
  refine s_cVp (as := [.int (nI j)]) (tb_ok aX8_asks_0 2 rfl) v_RX8_90 (R_isHouse h.mn _) (by decide) rfl rfl rfl rfl rfl (Nat.le_of_ble_eq_true rfl) (by decide) ?_
  refine s_topi (bI_t (vH_t hj hM5)) ?_
  refine s_if_eq (tgt := 27) (tb_ok aX8_asks_0 3 rfl) (by decide) (fun c5 => ?_) (fun c5 => ?_)
  · exact absurd c5 (by decide)
  · refine s_iload_n (tb_ok aX8_asks_0 4 rfl) rfl ?_
    refine s_cSp (as := [.int (nI g)]) (tb_ok aX8_asks_0 5 rfl) v_RX8_81 (R_isFact _) (by decide) rfl rfl (Nat.le_of_ble_eq_true rfl) ?_
    refine s_topi (bI_t (inN (n := g) (hi := 11) (by omega) (by decide))) ?_
    refine s_if_eq (tgt := 27) (tb_ok aX8_asks_0 6 rfl) (by decide) (fun c12 => ?_) (fun c12 => ?_)
    · exact absurd c12 (by decide)
    · refine s_iload_n (tb_ok aX8_asks_0 7 rfl) rfl ?_
      refine s_i2l (tb_ok aX8_asks_0 8 rfl) ?_
      refine s_lconst (v := 0) (tb_ok aX8_asks_0 9 rfl) (by decide) ?_
      refine s_ldc2 (tb_ok aX8_asks_0 10 rfl) k_RX8_88 ?_
      refine s_cSp (as := [_, .long (0), .long (4)]) (tb_ok aX8_asks_0 11 rfl) v_RX8_73 (R_in _ _ _) (by decide) rfl rfl (Nat.le_of_ble_eq_true rfl) ?_
      refine s_topi (bI_t (by decide)) ?_
      refine s_if_ne (tgt := 30) (tb_ok aX8_asks_0 12 rfl) (by decide) (fun c24 => ?_) (fun c24 => ?_)
      · refine s_iload_n (tb_ok aX8_asks_0 15 rfl) rfl ?_
        refine s_iconst (v := 2) (tb_ok aX8_asks_0 16 rfl) (by decide) ?_
        refine s_icmp_le (tgt := 64) (tb_ok aX8_asks_0 17 rfl) (by decide) (fun c32 => ?_) (fun c32 => ?_)
        · exact absurd c32 (by decide)
        · refine s_iload_n (tb_ok aX8_asks_0 18 rfl) rfl ?_
          refine s_iconst (v := 3) (tb_ok aX8_asks_0 19 rfl) (by decide) ?_
          refine s_icmp_ne (tgt := 57) (tb_ok aX8_asks_0 20 rfl) (by decide) (fun c37 => ?_) (fun c37 => ?_)
          · refine s_aload_n (tb_ok aX8_asks_1 6 rfl) rfl ?_
            refine s_iload_n (tb_ok aX8_asks_1 7 rfl) rfl ?_
            refine s_iload_n (tb_ok aX8_asks_1 8 rfl) rfl ?_
            refine s_cV (as := [.int (nI j), .int (nI g)]) (tb_ok aX8_asks_1 9 rfl) v_RX8_369 (R_fall h hj _) (by decide) rfl rfl rfl rfl rfl (Nat.le_of_ble_eq_true rfl) (by decide) (fun r1 S1 I1 L1 R1 q1 => ?_)
            obtain ⟨rfl, rfl, rfl, hf4⟩ := q1
            refine s_iret (tb_ok aX8_asks_1 10 rfl) rfl ?_
            exact afZ rfl (eS_eB hf4)
          · exact absurd c37 (by decide)
      · exact absurd c24 (by decide)

set_option maxRecDepth 100000 in
set_option maxHeartbeats 1000000 in
theorem R_asksB {X : En} {L : FL} {q : Nat × Nat} {I : FI} {m : Nat} {fr fa : Nat → Int32} {M : Nat} {T : Nat → Nat → Int32} {d : Nat} {sem : Nat → Sem} (h : RSt I m fr fa M T d sem) {x z w : Int32} (hv : ¬ (vH x M ∧ (¬ z < 0 ∧ ¬ 11 < z) ∧ (¬ w < 0 ∧ ¬ 4 < w))) : Ev X 60 mX8_asks (0, 0) [.ref 66, .int x, .int z, .int w] S0 I L (R0 q) (AfZ q eB I (-2)) := by
  have hM5 := h.M5
  refine ev_of (by decide +kernel) rfl ?_
  show SW X _ _ _ 0 [some (.ref 66), some (.int x), some (.int z), some (.int w)] [] S0 I L (R0 q) _
  refine s_aload_n (tb_ok aX8_asks_0 0 rfl) rfl ?_
  refine s_iload_n (tb_ok aX8_asks_0 1 rfl) rfl ?_
  refine s_cVp (as := [.int x]) (tb_ok aX8_asks_0 2 rfl) v_RX8_90 (R_isHouse h.mn _) (by decide) rfl rfl rfl rfl rfl (Nat.le_of_ble_eq_true rfl) (by decide) ?_
  refine s_if_eq (tgt := 27) (tb_ok aX8_asks_0 3 rfl) (by decide) (fun c5 => ?_) (fun c5 => ?_)
  · refine s_bipush (v := -2) (tb_ok aX8_asks_0 13 rfl) (by decide) ?_
    refine s_iret (tb_ok aX8_asks_0 14 rfl) rfl ?_
    exact afZ rfl FrE.refl
  · refine s_iload_n (tb_ok aX8_asks_0 4 rfl) rfl ?_
    refine s_cSp (as := [.int z]) (tb_ok aX8_asks_0 5 rfl) v_RX8_81 (R_isFact _) (by decide) rfl rfl (Nat.le_of_ble_eq_true rfl) ?_
    refine s_if_eq (tgt := 27) (tb_ok aX8_asks_0 6 rfl) (by decide) (fun c12 => ?_) (fun c12 => ?_)
    · refine s_bipush (v := -2) (tb_ok aX8_asks_0 13 rfl) (by decide) ?_
      refine s_iret (tb_ok aX8_asks_0 14 rfl) rfl ?_
      exact afZ rfl FrE.refl
    · refine s_iload_n (tb_ok aX8_asks_0 7 rfl) rfl ?_
      refine s_i2l (tb_ok aX8_asks_0 8 rfl) ?_
      refine s_lconst (v := 0) (tb_ok aX8_asks_0 9 rfl) (by decide) ?_
      refine s_ldc2 (tb_ok aX8_asks_0 10 rfl) k_RX8_88 ?_
      refine s_cSp (as := [_, .long (0), .long (4)]) (tb_ok aX8_asks_0 11 rfl) v_RX8_73 (R_in _ _ _) (by decide) rfl rfl (Nat.le_of_ble_eq_true rfl) ?_
      refine s_topi (bI_congr (in_iff (lo := 0) (hi := 4) rfl (by decide) (by decide))) ?_
      refine s_if_ne (tgt := 30) (tb_ok aX8_asks_0 12 rfl) (by decide) (fun c24 => ?_) (fun c24 => ?_)
      · exact absurd ⟨bI_n c5, bI_n c12, bI_n c24⟩ hv
      · refine s_bipush (v := -2) (tb_ok aX8_asks_0 13 rfl) (by decide) ?_
        refine s_iret (tb_ok aX8_asks_0 14 rfl) rfl ?_
        exact afZ rfl FrE.refl

set_option maxRecDepth 100000 in
set_option maxHeartbeats 1000000 in
theorem R_drawnP {X : En} {L : FL} {q : Nat × Nat} {I : FI} {m : Nat} {fr fa : Nat → Int32} {M : Nat} {T : Nat → Nat → Int32} {d : Nat} {sem : Nat → Sem} (h : RSt I m fr fa M T d sem) (hd : d ≤ 5000) (seed : Int32) : Ev X 60 mX8_drawn (0, 0) [.ref 66, .int seed] S0 I L (R0 q) (AfZ q eB I (drwP sem fr fa m M (nI d) T seed)) := by
  have hM5 := h.M5
  refine ev_of (by decide +kernel) rfl ?_
  show SW X _ _ _ 0 [some (.ref 66), some (.int seed)] [] S0 I L (R0 q) _
  refine s_aload_n (tb_ok aX8_drawn_0 0 rfl) rfl ?_
  refine s_iload_n (tb_ok aX8_drawn_0 1 rfl) rfl ?_
  refine s_cV (as := [.int seed]) (tb_ok aX8_drawn_0 2 rfl) v_RX8_430 (R_drawn h hd _) (by decide) rfl rfl rfl rfl rfl (Nat.le_of_ble_eq_true rfl) (by decide) (fun r1 S1 I1 L1 R1 q1 => ?_)
  obtain ⟨rfl, rfl, rfl, hf4⟩ := q1
  refine s_iret (tb_ok aX8_drawn_0 3 rfl) rfl ?_
  exact afZ rfl hf4

set_option maxRecDepth 100000 in
set_option maxHeartbeats 1000000 in
theorem R_count0 {X : En} {L : FL} {q : Nat × Nat} {I : FI} {m : Nat} {fr fa : Nat → Int32} {M : Nat} {T : Nat → Nat → Int32} {d : Nat} {sem : Nat → Sem} (h : RSt I m fr fa M T d sem) : Ev X 60 mX8_count (0, 0) [.ref 66, .int (0)] S0 I L (R0 q) (AfZ q eB I (nI M)) := by
  have hM5 := h.M5
  refine ev_of (by decide +kernel) rfl ?_
  show SW X _ _ _ 0 [some (.ref 66), some (.int (0))] [] S0 I L (R0 q) _
  refine s_iload_n (tb_ok aX8_count_0 0 rfl) rfl ?_
  refine s_i2l (tb_ok aX8_count_0 1 rfl) ?_
  refine s_lconst (v := 0) (tb_ok aX8_count_0 2 rfl) (by decide) ?_
  refine s_ldc2 (tb_ok aX8_count_0 3 rfl) k_RX8_111 ?_
  refine s_cSp (as := [_, .long (0), .long (5)]) (tb_ok aX8_count_0 4 rfl) v_RX8_73 (R_in _ _ _) (by decide) rfl rfl (Nat.le_of_ble_eq_true rfl) ?_
  refine s_topi (bI_t (by decide)) ?_
  refine s_if_ne (tgt := 15) (tb_ok aX8_count_0 5 rfl) (by decide) (fun c9 => ?_) (fun c9 => ?_)
  · refine s_iload_n (tb_ok aX8_count_0 8 rfl) rfl ?_
    refine s_if_ne (tgt := 26) (tb_ok aX8_count_0 9 rfl) (by decide) (fun c16 => ?_) (fun c16 => ?_)
    · exact absurd c16 (by decide)
    · refine s_aload_n (tb_ok aX8_count_0 10 rfl) rfl ?_
      refine s_getI (x := (nI M)) (tb_ok aX8_count_0 11 rfl) f_RX8_70 rfl rfl h.mn ?_
      refine s_goto (tgt := 78) (tb_ok aX8_count_0 12 rfl) (by decide) ?_
      refine s_iret (tb_ok aX8_count_1 15 rfl) rfl ?_
      exact afZ rfl FrE.refl
  · exact absurd c9 (by decide)

set_option maxRecDepth 100000 in
set_option maxHeartbeats 1000000 in
theorem R_count1 {X : En} {L : FL} {q : Nat × Nat} {I : FI} {m : Nat} {fr fa : Nat → Int32} {M : Nat} {T : Nat → Nat → Int32} {d : Nat} {sem : Nat → Sem} (h : RSt I m fr fa M T d sem) : Ev X 60 mX8_count (0, 0) [.ref 66, .int (1)] S0 I L (R0 q) (AfZ q eB I (nI m)) := by
  have hM5 := h.M5
  refine ev_of (by decide +kernel) rfl ?_
  show SW X _ _ _ 0 [some (.ref 66), some (.int (1))] [] S0 I L (R0 q) _
  refine s_iload_n (tb_ok aX8_count_0 0 rfl) rfl ?_
  refine s_i2l (tb_ok aX8_count_0 1 rfl) ?_
  refine s_lconst (v := 0) (tb_ok aX8_count_0 2 rfl) (by decide) ?_
  refine s_ldc2 (tb_ok aX8_count_0 3 rfl) k_RX8_111 ?_
  refine s_cSp (as := [_, .long (0), .long (5)]) (tb_ok aX8_count_0 4 rfl) v_RX8_73 (R_in _ _ _) (by decide) rfl rfl (Nat.le_of_ble_eq_true rfl) ?_
  refine s_topi (bI_t (by decide)) ?_
  refine s_if_ne (tgt := 15) (tb_ok aX8_count_0 5 rfl) (by decide) (fun c9 => ?_) (fun c9 => ?_)
  · refine s_iload_n (tb_ok aX8_count_0 8 rfl) rfl ?_
    refine s_if_ne (tgt := 26) (tb_ok aX8_count_0 9 rfl) (by decide) (fun c16 => ?_) (fun c16 => ?_)
    · refine s_iload_n (tb_ok aX8_count_0 13 rfl) rfl ?_
      refine s_iconst (v := 1) (tb_ok aX8_count_0 14 rfl) (by decide) ?_
      refine s_icmp_ne (tgt := 38) (tb_ok aX8_count_0 15 rfl) (by decide) (fun c28 => ?_) (fun c28 => ?_)
      · exact absurd c28 (by decide)
      · refine s_aload_n (tb_ok aX8_count_0 16 rfl) rfl ?_
        refine s_getI (x := (nI m)) (tb_ok aX8_count_0 17 rfl) f_RX8_85 rfl rfl h.1.1 ?_
        refine s_goto (tgt := 78) (tb_ok aX8_count_0 18 rfl) (by decide) ?_
        refine s_iret (tb_ok aX8_count_1 15 rfl) rfl ?_
        exact afZ rfl FrE.refl
    · exact absurd c16 (by decide)
  · exact absurd c9 (by decide)

set_option maxRecDepth 100000 in
set_option maxHeartbeats 1000000 in
theorem R_count2 {X : En} {L : FL} {q : Nat × Nat} {I : FI} {m : Nat} {fr fa : Nat → Int32} {M : Nat} {T : Nat → Nat → Int32} {d : Nat} {sem : Nat → Sem} (h : RSt I m fr fa M T d sem) : Ev X 60 mX8_count (0, 0) [.ref 66, .int (2)] S0 I L (R0 q) (AfZ q eB I (apS T M 5)) := by
  have hM5 := h.M5
  refine ev_of (by decide +kernel) rfl ?_
  show SW X _ _ _ 0 [some (.ref 66), some (.int (2))] [] S0 I L (R0 q) _
  refine s_iload_n (tb_ok aX8_count_0 0 rfl) rfl ?_
  refine s_i2l (tb_ok aX8_count_0 1 rfl) ?_
  refine s_lconst (v := 0) (tb_ok aX8_count_0 2 rfl) (by decide) ?_
  refine s_ldc2 (tb_ok aX8_count_0 3 rfl) k_RX8_111 ?_
  refine s_cSp (as := [_, .long (0), .long (5)]) (tb_ok aX8_count_0 4 rfl) v_RX8_73 (R_in _ _ _) (by decide) rfl rfl (Nat.le_of_ble_eq_true rfl) ?_
  refine s_topi (bI_t (by decide)) ?_
  refine s_if_ne (tgt := 15) (tb_ok aX8_count_0 5 rfl) (by decide) (fun c9 => ?_) (fun c9 => ?_)
  · refine s_iload_n (tb_ok aX8_count_0 8 rfl) rfl ?_
    refine s_if_ne (tgt := 26) (tb_ok aX8_count_0 9 rfl) (by decide) (fun c16 => ?_) (fun c16 => ?_)
    · refine s_iload_n (tb_ok aX8_count_0 13 rfl) rfl ?_
      refine s_iconst (v := 1) (tb_ok aX8_count_0 14 rfl) (by decide) ?_
      refine s_icmp_ne (tgt := 38) (tb_ok aX8_count_0 15 rfl) (by decide) (fun c28 => ?_) (fun c28 => ?_)
      · refine s_iload_n (tb_ok aX8_count_0 19 rfl) rfl ?_
        refine s_iconst (v := 2) (tb_ok aX8_count_0 20 rfl) (by decide) ?_
        refine s_icmp_ne (tgt := 50) (tb_ok aX8_count_0 21 rfl) (by decide) (fun c40 => ?_) (fun c40 => ?_)
        · exact absurd c40 (by decide)
        · refine s_aload_n (tb_ok aX8_count_0 22 rfl) rfl ?_
          refine s_cVp (as := []) (tb_ok aX8_count_0 23 rfl) v_RX8_391 (R_applesAll h) (by decide) rfl rfl rfl rfl rfl (Nat.le_of_ble_eq_true rfl) (by decide) ?_
          refine s_goto (tgt := 78) (tb_ok aX8_count_1 0 rfl) (by decide) ?_
          refine s_iret (tb_ok aX8_count_1 15 rfl) rfl ?_
          exact afZ rfl FrE.refl
      · exact absurd c28 (by decide)
    · exact absurd c16 (by decide)
  · exact absurd c9 (by decide)

set_option maxRecDepth 100000 in
set_option maxHeartbeats 1000000 in
theorem R_count3 {X : En} {L : FL} {q : Nat × Nat} {I : FI} {m : Nat} {fr fa : Nat → Int32} {M : Nat} {T : Nat → Nat → Int32} {d : Nat} {sem : Nat → Sem} (h : RSt I m fr fa M T d sem) : Ev X 60 mX8_count (0, 0) [.ref 66, .int (3)] S0 I L (R0 q) (AfZ q eB I (I 66 3)) := by
  have hM5 := h.M5
  refine ev_of (by decide +kernel) rfl ?_
  show SW X _ _ _ 0 [some (.ref 66), some (.int (3))] [] S0 I L (R0 q) _
  refine s_iload_n (tb_ok aX8_count_0 0 rfl) rfl ?_
  refine s_i2l (tb_ok aX8_count_0 1 rfl) ?_
  refine s_lconst (v := 0) (tb_ok aX8_count_0 2 rfl) (by decide) ?_
  refine s_ldc2 (tb_ok aX8_count_0 3 rfl) k_RX8_111 ?_
  refine s_cSp (as := [_, .long (0), .long (5)]) (tb_ok aX8_count_0 4 rfl) v_RX8_73 (R_in _ _ _) (by decide) rfl rfl (Nat.le_of_ble_eq_true rfl) ?_
  refine s_topi (bI_t (by decide)) ?_
  refine s_if_ne (tgt := 15) (tb_ok aX8_count_0 5 rfl) (by decide) (fun c9 => ?_) (fun c9 => ?_)
  · refine s_iload_n (tb_ok aX8_count_0 8 rfl) rfl ?_
    refine s_if_ne (tgt := 26) (tb_ok aX8_count_0 9 rfl) (by decide) (fun c16 => ?_) (fun c16 => ?_)
    · refine s_iload_n (tb_ok aX8_count_0 13 rfl) rfl ?_
      refine s_iconst (v := 1) (tb_ok aX8_count_0 14 rfl) (by decide) ?_
      refine s_icmp_ne (tgt := 38) (tb_ok aX8_count_0 15 rfl) (by decide) (fun c28 => ?_) (fun c28 => ?_)
      · refine s_iload_n (tb_ok aX8_count_0 19 rfl) rfl ?_
        refine s_iconst (v := 2) (tb_ok aX8_count_0 20 rfl) (by decide) ?_
        refine s_icmp_ne (tgt := 50) (tb_ok aX8_count_0 21 rfl) (by decide) (fun c40 => ?_) (fun c40 => ?_)
        · refine s_iload_n (tb_ok aX8_count_1 1 rfl) rfl ?_
          refine s_iconst (v := 3) (tb_ok aX8_count_1 2 rfl) (by decide) ?_
          refine s_icmp_ne (tgt := 62) (tb_ok aX8_count_1 3 rfl) (by decide) (fun c52 => ?_) (fun c52 => ?_)
          · exact absurd c52 (by decide)
          · refine s_aload_n (tb_ok aX8_count_1 4 rfl) rfl ?_
            refine s_getI (tb_ok aX8_count_1 5 rfl) f_RX8_67 rfl rfl rfl ?_
            refine s_goto (tgt := 78) (tb_ok aX8_count_1 6 rfl) (by decide) ?_
            refine s_iret (tb_ok aX8_count_1 15 rfl) rfl ?_
            exact afZ rfl FrE.refl
        · exact absurd c40 (by decide)
      · exact absurd c28 (by decide)
    · exact absurd c16 (by decide)
  · exact absurd c9 (by decide)

set_option maxRecDepth 100000 in
set_option maxHeartbeats 1000000 in
theorem R_count4 {X : En} {L : FL} {q : Nat × Nat} {I : FI} {m : Nat} {fr fa : Nat → Int32} {M : Nat} {T : Nat → Nat → Int32} {d : Nat} {sem : Nat → Sem} (h : RSt I m fr fa M T d sem) : Ev X 60 mX8_count (0, 0) [.ref 66, .int (4)] S0 I L (R0 q) (AfZ q eB I (I 66 6)) := by
  have hM5 := h.M5
  refine ev_of (by decide +kernel) rfl ?_
  show SW X _ _ _ 0 [some (.ref 66), some (.int (4))] [] S0 I L (R0 q) _
  refine s_iload_n (tb_ok aX8_count_0 0 rfl) rfl ?_
  refine s_i2l (tb_ok aX8_count_0 1 rfl) ?_
  refine s_lconst (v := 0) (tb_ok aX8_count_0 2 rfl) (by decide) ?_
  refine s_ldc2 (tb_ok aX8_count_0 3 rfl) k_RX8_111 ?_
  refine s_cSp (as := [_, .long (0), .long (5)]) (tb_ok aX8_count_0 4 rfl) v_RX8_73 (R_in _ _ _) (by decide) rfl rfl (Nat.le_of_ble_eq_true rfl) ?_
  refine s_topi (bI_t (by decide)) ?_
  refine s_if_ne (tgt := 15) (tb_ok aX8_count_0 5 rfl) (by decide) (fun c9 => ?_) (fun c9 => ?_)
  · refine s_iload_n (tb_ok aX8_count_0 8 rfl) rfl ?_
    refine s_if_ne (tgt := 26) (tb_ok aX8_count_0 9 rfl) (by decide) (fun c16 => ?_) (fun c16 => ?_)
    · refine s_iload_n (tb_ok aX8_count_0 13 rfl) rfl ?_
      refine s_iconst (v := 1) (tb_ok aX8_count_0 14 rfl) (by decide) ?_
      refine s_icmp_ne (tgt := 38) (tb_ok aX8_count_0 15 rfl) (by decide) (fun c28 => ?_) (fun c28 => ?_)
      · refine s_iload_n (tb_ok aX8_count_0 19 rfl) rfl ?_
        refine s_iconst (v := 2) (tb_ok aX8_count_0 20 rfl) (by decide) ?_
        refine s_icmp_ne (tgt := 50) (tb_ok aX8_count_0 21 rfl) (by decide) (fun c40 => ?_) (fun c40 => ?_)
        · refine s_iload_n (tb_ok aX8_count_1 1 rfl) rfl ?_
          refine s_iconst (v := 3) (tb_ok aX8_count_1 2 rfl) (by decide) ?_
          refine s_icmp_ne (tgt := 62) (tb_ok aX8_count_1 3 rfl) (by decide) (fun c52 => ?_) (fun c52 => ?_)
          · refine s_iload_n (tb_ok aX8_count_1 7 rfl) rfl ?_
            refine s_iconst (v := 4) (tb_ok aX8_count_1 8 rfl) (by decide) ?_
            refine s_icmp_ne (tgt := 74) (tb_ok aX8_count_1 9 rfl) (by decide) (fun c64 => ?_) (fun c64 => ?_)
            · exact absurd c64 (by decide)
            · refine s_aload_n (tb_ok aX8_count_1 10 rfl) rfl ?_
              refine s_getI (tb_ok aX8_count_1 11 rfl) f_RX8_138 rfl rfl rfl ?_
              refine s_goto (tgt := 78) (tb_ok aX8_count_1 12 rfl) (by decide) ?_
              refine s_iret (tb_ok aX8_count_1 15 rfl) rfl ?_
              exact afZ rfl FrE.refl
          · exact absurd c52 (by decide)
        · exact absurd c40 (by decide)
      · exact absurd c28 (by decide)
    · exact absurd c16 (by decide)
  · exact absurd c9 (by decide)

set_option maxRecDepth 100000 in
set_option maxHeartbeats 1000000 in
theorem R_count5 {X : En} {L : FL} {q : Nat × Nat} {I : FI} {m : Nat} {fr fa : Nat → Int32} {M : Nat} {T : Nat → Nat → Int32} {d : Nat} {sem : Nat → Sem} (h : RSt I m fr fa M T d sem) : Ev X 60 mX8_count (0, 0) [.ref 66, .int (5)] S0 I L (R0 q) (AfZ q eB I (I 66 4)) := by
  have hM5 := h.M5
  refine ev_of (by decide +kernel) rfl ?_
  show SW X _ _ _ 0 [some (.ref 66), some (.int (5))] [] S0 I L (R0 q) _
  refine s_iload_n (tb_ok aX8_count_0 0 rfl) rfl ?_
  refine s_i2l (tb_ok aX8_count_0 1 rfl) ?_
  refine s_lconst (v := 0) (tb_ok aX8_count_0 2 rfl) (by decide) ?_
  refine s_ldc2 (tb_ok aX8_count_0 3 rfl) k_RX8_111 ?_
  refine s_cSp (as := [_, .long (0), .long (5)]) (tb_ok aX8_count_0 4 rfl) v_RX8_73 (R_in _ _ _) (by decide) rfl rfl (Nat.le_of_ble_eq_true rfl) ?_
  refine s_topi (bI_t (by decide)) ?_
  refine s_if_ne (tgt := 15) (tb_ok aX8_count_0 5 rfl) (by decide) (fun c9 => ?_) (fun c9 => ?_)
  · refine s_iload_n (tb_ok aX8_count_0 8 rfl) rfl ?_
    refine s_if_ne (tgt := 26) (tb_ok aX8_count_0 9 rfl) (by decide) (fun c16 => ?_) (fun c16 => ?_)
    · refine s_iload_n (tb_ok aX8_count_0 13 rfl) rfl ?_
      refine s_iconst (v := 1) (tb_ok aX8_count_0 14 rfl) (by decide) ?_
      refine s_icmp_ne (tgt := 38) (tb_ok aX8_count_0 15 rfl) (by decide) (fun c28 => ?_) (fun c28 => ?_)
      · refine s_iload_n (tb_ok aX8_count_0 19 rfl) rfl ?_
        refine s_iconst (v := 2) (tb_ok aX8_count_0 20 rfl) (by decide) ?_
        refine s_icmp_ne (tgt := 50) (tb_ok aX8_count_0 21 rfl) (by decide) (fun c40 => ?_) (fun c40 => ?_)
        · refine s_iload_n (tb_ok aX8_count_1 1 rfl) rfl ?_
          refine s_iconst (v := 3) (tb_ok aX8_count_1 2 rfl) (by decide) ?_
          refine s_icmp_ne (tgt := 62) (tb_ok aX8_count_1 3 rfl) (by decide) (fun c52 => ?_) (fun c52 => ?_)
          · refine s_iload_n (tb_ok aX8_count_1 7 rfl) rfl ?_
            refine s_iconst (v := 4) (tb_ok aX8_count_1 8 rfl) (by decide) ?_
            refine s_icmp_ne (tgt := 74) (tb_ok aX8_count_1 9 rfl) (by decide) (fun c64 => ?_) (fun c64 => ?_)
            · refine s_aload_n (tb_ok aX8_count_1 13 rfl) rfl ?_
              refine s_getI (tb_ok aX8_count_1 14 rfl) f_RX8_108 rfl rfl rfl ?_
              refine s_iret (tb_ok aX8_count_1 15 rfl) rfl ?_
              exact afZ rfl FrE.refl
            · exact absurd c64 (by decide)
          · exact absurd c52 (by decide)
        · exact absurd c40 (by decide)
      · exact absurd c28 (by decide)
    · exact absurd c16 (by decide)
  · exact absurd c9 (by decide)

set_option maxRecDepth 100000 in
set_option maxHeartbeats 1000000 in
theorem R_countB {X : En} {L : FL} {q : Nat × Nat} {I : FI} {m : Nat} {fr fa : Nat → Int32} {M : Nat} {T : Nat → Nat → Int32} {d : Nat} {sem : Nat → Sem} (h : RSt I m fr fa M T d sem) {w : Int32} (hv : ¬ (¬ w < 0 ∧ ¬ 5 < w)) : Ev X 60 mX8_count (0, 0) [.ref 66, .int w] S0 I L (R0 q) (AfZ q eB I (-2)) := by
  have hM5 := h.M5
  refine ev_of (by decide +kernel) rfl ?_
  show SW X _ _ _ 0 [some (.ref 66), some (.int w)] [] S0 I L (R0 q) _
  refine s_iload_n (tb_ok aX8_count_0 0 rfl) rfl ?_
  refine s_i2l (tb_ok aX8_count_0 1 rfl) ?_
  refine s_lconst (v := 0) (tb_ok aX8_count_0 2 rfl) (by decide) ?_
  refine s_ldc2 (tb_ok aX8_count_0 3 rfl) k_RX8_111 ?_
  refine s_cSp (as := [_, .long (0), .long (5)]) (tb_ok aX8_count_0 4 rfl) v_RX8_73 (R_in _ _ _) (by decide) rfl rfl (Nat.le_of_ble_eq_true rfl) ?_
  refine s_topi (bI_congr (in_iff (lo := 0) (hi := 5) rfl (by decide) (by decide))) ?_
  refine s_if_ne (tgt := 15) (tb_ok aX8_count_0 5 rfl) (by decide) (fun c9 => ?_) (fun c9 => ?_)
  · exact absurd (bI_n c9) hv
  · refine s_bipush (v := -2) (tb_ok aX8_count_0 6 rfl) (by decide) ?_
    refine s_iret (tb_ok aX8_count_0 7 rfl) rfl ?_
    exact afZ rfl FrE.refl
