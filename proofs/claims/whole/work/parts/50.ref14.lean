/-! the reference: laws, the best, whom, of which kind, the chance -/
def okFr (m : Nat) (fr : Nat → Int32) : Prop := ∀ k, k < m → ∃ v, v < 4096 ∧ fr k = nI v
set_option maxRecDepth 100000 in
set_option maxHeartbeats 1000000 in
theorem R_laws0 {X : En} {L : FL} {q : Nat × Nat} {I : FI} {m : Nat} {fr fa : Nat → Int32} {M : Nat} {T : Nat → Nat → Int32} {d : Nat} {sem : Nat → Sem} (h : RSt I m fr fa M T d sem) (hfr : okFr m fr) : Ev X 60 mX8_laws (0, 0) [.ref 66, .int (0)] S0 I L (R0 q) (AfZ q eB I (idl fr fa m m)) := by
  have hzi : ∀ k, k < m → nx fr fa m (clo fr fa m (nI k) 12 (fr k)) (nI k) = 0 := fun k hk => by obtain ⟨v, hv, ev⟩ := hfr k hk; rw [ev]; exact h.z hv _
  have hzs : ∀ f, f < 12 → nx fr fa m (clo fr fa m (-1) 12 ((1 : Int32) <<< (nI f &&& 31))) (-1) = 0 := fun f hf => by obtain ⟨v, hv, ev⟩ := shl_N hf; rw [ev]; exact h.z hv _
  refine ev_of (by decide +kernel) rfl ?_
  show SW X _ _ _ 0 [some (.ref 66), some (.int (0)), none, none] [] S0 I L (R0 q) _
  refine s_iload_n (tb_ok aX8_laws_0 0 rfl) rfl ?_
  refine s_i2l (tb_ok aX8_laws_0 1 rfl) ?_
  refine s_lconst (v := 0) (tb_ok aX8_laws_0 2 rfl) (by decide) ?_
  refine s_ldc2 (tb_ok aX8_laws_0 3 rfl) k_RX8_352 ?_
  refine s_cSp (as := [_, .long (0), .long (2)]) (tb_ok aX8_laws_0 4 rfl) v_RX8_73 (R_in _ _ _) (by decide) rfl rfl (Nat.le_of_ble_eq_true rfl) ?_
  refine s_topi (bI_t (by decide)) ?_
  refine s_if_eq (tgt := 40) (tb_ok aX8_laws_0 5 rfl) (by decide) (fun c9 => ?_) (fun c9 => ?_)
  · exact absurd c9 (by decide)
  · refine s_iload_n (tb_ok aX8_laws_0 6 rfl) rfl ?_
    refine s_if_ne (tgt := 23) (tb_ok aX8_laws_0 7 rfl) (by decide) (fun c13 => ?_) (fun c13 => ?_)
    · exact absurd c13 (by decide)
    · refine s_aload_n (tb_ok aX8_laws_0 8 rfl) rfl ?_
      refine s_cVp (as := []) (tb_ok aX8_laws_0 9 rfl) v_RX8_357 (R_idleSet h.1 hzi) (by decide) rfl rfl rfl rfl rfl (Nat.le_of_ble_eq_true rfl) (by decide) ?_
      refine s_goto (tgt := 39) (tb_ok aX8_laws_0 10 rfl) (by decide) ?_
      refine s_iret (tb_ok aX8_laws_0 19 rfl) rfl ?_
      exact afZ rfl FrE.refl

set_option maxRecDepth 100000 in
set_option maxHeartbeats 1000000 in
theorem R_laws1 {X : En} {L : FL} {q : Nat × Nat} {I : FI} {m : Nat} {fr fa : Nat → Int32} {M : Nat} {T : Nat → Nat → Int32} {d : Nat} {sem : Nat → Sem} (h : RSt I m fr fa M T d sem) (hfr : okFr m fr) : Ev X 60 mX8_laws (0, 0) [.ref 66, .int (1)] S0 I L (R0 q) (AfZ q eB I (rts fa m)) := by
  have hzi : ∀ k, k < m → nx fr fa m (clo fr fa m (nI k) 12 (fr k)) (nI k) = 0 := fun k hk => by obtain ⟨v, hv, ev⟩ := hfr k hk; rw [ev]; exact h.z hv _
  have hzs : ∀ f, f < 12 → nx fr fa m (clo fr fa m (-1) 12 ((1 : Int32) <<< (nI f &&& 31))) (-1) = 0 := fun f hf => by obtain ⟨v, hv, ev⟩ := shl_N hf; rw [ev]; exact h.z hv _
  refine ev_of (by decide +kernel) rfl ?_
  show SW X _ _ _ 0 [some (.ref 66), some (.int (1)), none, none] [] S0 I L (R0 q) _
  refine s_iload_n (tb_ok aX8_laws_0 0 rfl) rfl ?_
  refine s_i2l (tb_ok aX8_laws_0 1 rfl) ?_
  refine s_lconst (v := 0) (tb_ok aX8_laws_0 2 rfl) (by decide) ?_
  refine s_ldc2 (tb_ok aX8_laws_0 3 rfl) k_RX8_352 ?_
  refine s_cSp (as := [_, .long (0), .long (2)]) (tb_ok aX8_laws_0 4 rfl) v_RX8_73 (R_in _ _ _) (by decide) rfl rfl (Nat.le_of_ble_eq_true rfl) ?_
  refine s_topi (bI_t (by decide)) ?_
  refine s_if_eq (tgt := 40) (tb_ok aX8_laws_0 5 rfl) (by decide) (fun c9 => ?_) (fun c9 => ?_)
  · exact absurd c9 (by decide)
  · refine s_iload_n (tb_ok aX8_laws_0 6 rfl) rfl ?_
    refine s_if_ne (tgt := 23) (tb_ok aX8_laws_0 7 rfl) (by decide) (fun c13 => ?_) (fun c13 => ?_)
    · refine s_iload_n (tb_ok aX8_laws_0 11 rfl) rfl ?_
      refine s_iconst (v := 1) (tb_ok aX8_laws_0 12 rfl) (by decide) ?_
      refine s_icmp_ne (tgt := 35) (tb_ok aX8_laws_0 13 rfl) (by decide) (fun c25 => ?_) (fun c25 => ?_)
      · exact absurd c25 (by decide)
      · refine s_aload_n (tb_ok aX8_laws_0 14 rfl) rfl ?_
        refine s_cVp (as := []) (tb_ok aX8_laws_0 15 rfl) v_RX8_360 (R_rootSet h.1) (by decide) rfl rfl rfl rfl rfl (Nat.le_of_ble_eq_true rfl) (by decide) ?_
        refine s_goto (tgt := 39) (tb_ok aX8_laws_0 16 rfl) (by decide) ?_
        refine s_iret (tb_ok aX8_laws_0 19 rfl) rfl ?_
        exact afZ rfl FrE.refl
    · exact absurd c13 (by decide)

set_option maxRecDepth 100000 in
set_option maxHeartbeats 1000000 in
theorem R_laws2 {X : En} {L : FL} {q : Nat × Nat} {I : FI} {m : Nat} {fr fa : Nat → Int32} {M : Nat} {T : Nat → Nat → Int32} {d : Nat} {sem : Nat → Sem} (h : RSt I m fr fa M T d sem) (hfr : okFr m fr) : Ev X 60 mX8_laws (0, 0) [.ref 66, .int (2)] S0 I L (R0 q) (AfZ q eB I (smT (cl1 fr fa m) 12)) := by
  have hzi : ∀ k, k < m → nx fr fa m (clo fr fa m (nI k) 12 (fr k)) (nI k) = 0 := fun k hk => by obtain ⟨v, hv, ev⟩ := hfr k hk; rw [ev]; exact h.z hv _
  have hzs : ∀ f, f < 12 → nx fr fa m (clo fr fa m (-1) 12 ((1 : Int32) <<< (nI f &&& 31))) (-1) = 0 := fun f hf => by obtain ⟨v, hv, ev⟩ := shl_N hf; rw [ev]; exact h.z hv _
  refine ev_of (by decide +kernel) rfl ?_
  show SW X _ _ _ 0 [some (.ref 66), some (.int (2)), none, none] [] S0 I L (R0 q) _
  refine s_iload_n (tb_ok aX8_laws_0 0 rfl) rfl ?_
  refine s_i2l (tb_ok aX8_laws_0 1 rfl) ?_
  refine s_lconst (v := 0) (tb_ok aX8_laws_0 2 rfl) (by decide) ?_
  refine s_ldc2 (tb_ok aX8_laws_0 3 rfl) k_RX8_352 ?_
  refine s_cSp (as := [_, .long (0), .long (2)]) (tb_ok aX8_laws_0 4 rfl) v_RX8_73 (R_in _ _ _) (by decide) rfl rfl (Nat.le_of_ble_eq_true rfl) ?_
  refine s_topi (bI_t (by decide)) ?_
  refine s_if_eq (tgt := 40) (tb_ok aX8_laws_0 5 rfl) (by decide) (fun c9 => ?_) (fun c9 => ?_)
  · exact absurd c9 (by decide)
  · refine s_iload_n (tb_ok aX8_laws_0 6 rfl) rfl ?_
    refine s_if_ne (tgt := 23) (tb_ok aX8_laws_0 7 rfl) (by decide) (fun c13 => ?_) (fun c13 => ?_)
    · refine s_iload_n (tb_ok aX8_laws_0 11 rfl) rfl ?_
      refine s_iconst (v := 1) (tb_ok aX8_laws_0 12 rfl) (by decide) ?_
      refine s_icmp_ne (tgt := 35) (tb_ok aX8_laws_0 13 rfl) (by decide) (fun c25 => ?_) (fun c25 => ?_)
      · refine s_aload_n (tb_ok aX8_laws_0 17 rfl) rfl ?_
        refine s_cVp (as := []) (tb_ok aX8_laws_0 18 rfl) v_RX8_363 (R_sameMany h.1 hzs) (by decide) rfl rfl rfl rfl rfl (Nat.le_of_ble_eq_true rfl) (by decide) ?_
        refine s_iret (tb_ok aX8_laws_0 19 rfl) rfl ?_
        exact afZ rfl FrE.refl
      · exact absurd c25 (by decide)
    · exact absurd c13 (by decide)

theorem i10 {i : Nat} (h : i < 10) : nI (10 + i) - 10 = nI i := by
  have e := nI_sub' (a := 10) (b := 10 + i) (by omega)
  rw [show 10 + i - 10 = i by omega] at e
  exact e
theorem i20 {i : Nat} (h : i < 10) : nI (20 + i) - 20 = nI i := by
  have e := nI_sub' (a := 20) (b := 20 + i) (by omega)
  rw [show 20 + i - 20 = i by omega] at e
  exact e
theorem vH_m {j M : Nat} (h : j < M) (hM : M ≤ 10) : vH (nI j) M := by
  refine ⟨nI_pos (by omega), fun h2 => ?_⟩
  have e : nI M - 1 = nI (M - 1) := nI_sub' (a := 1) (by omega)
  rw [e] at h2
  simp (disch := omega) only [nI_ltI] at h2
  omega
theorem in_m {x : Int32} {M : Nat} : (¬ x.toInt64 < 0 ∧ ¬ (nI M - 1).toInt64 < x.toInt64) ↔ vH x M := in_iff (lo := 0) (hi := nI M - 1) rfl (by decide) (Int32.toInt_toInt64 _)
set_option maxRecDepth 100000 in
set_option maxHeartbeats 1000000 in
theorem R_lawsF {X : En} {L : FL} {q : Nat × Nat} {I : FI} {m : Nat} {fr fa : Nat → Int32} {M : Nat} {T : Nat → Nat → Int32} {d : Nat} {sem : Nat → Sem} (h : RSt I m fr fa M T d sem) {i : Nat} (hi : i < m) : Ev X 60 mX8_laws (0, 0) [.ref 66, .int (nI (10 + i))] S0 I L (R0 q) (AfZ q eB I (fr i)) := by
  have hM5 := h.M5
  have hm10 := h.1.2.1
  refine ev_of (by decide +kernel) rfl ?_
  show SW X _ _ _ 0 [some (.ref 66), some (.int (nI (10 + i))), none, none] [] S0 I L (R0 q) _
  refine s_iload_n (tb_ok aX8_laws_0 0 rfl) rfl ?_
  refine s_i2l (tb_ok aX8_laws_0 1 rfl) ?_
  refine s_lconst (v := 0) (tb_ok aX8_laws_0 2 rfl) (by decide) ?_
  refine s_ldc2 (tb_ok aX8_laws_0 3 rfl) k_RX8_352 ?_
  refine s_cSp (as := [_, .long (0), .long (2)]) (tb_ok aX8_laws_0 4 rfl) v_RX8_73 (R_in _ _ _) (by decide) rfl rfl (Nat.le_of_ble_eq_true rfl) ?_
  refine s_topi (bI_congr (in_iff (lo := 0) (hi := 2) rfl (by decide) (by decide))) ?_
  refine s_if_eq (tgt := 40) (tb_ok aX8_laws_0 5 rfl) (by decide) (fun c9 => ?_) (fun c9 => ?_)
  · refine s_iload_n (tb_ok aX8_laws_0 20 rfl) rfl ?_
    refine s_bipush (v := nI 20) (tb_ok aX8_laws_0 21 rfl) (by decide) ?_
    refine s_icmp_ge (tgt := 50) (tb_ok aX8_laws_0 22 rfl) (by decide) (fun c43 => ?_) (fun c43 => ?_)
    · simp (disch := omega) only [nI_leI] at c43
      omega
    · refine s_iconst (v := 1) (tb_ok aX8_laws_0 23 rfl) (by decide) ?_
      refine s_goto (tgt := 51) (tb_ok aX8_laws_1 0 rfl) (by decide) ?_
      refine s_istore_n (ls' := [some (.ref 66), some (.int (nI (10 + i))), some (.int (1)), none]) (tb_ok aX8_laws_1 2 rfl) rfl rfl ?_
      refine s_iload_n (tb_ok aX8_laws_1 3 rfl) rfl ?_
      refine s_if_eq (tgt := 63) (tb_ok aX8_laws_1 4 rfl) (by decide) (fun c53 => ?_) (fun c53 => ?_)
      · exact absurd c53 (by decide)
      · refine s_iload_n (tb_ok aX8_laws_1 5 rfl) rfl ?_
        refine s_bipush (v := 10) (tb_ok aX8_laws_1 6 rfl) (by decide) ?_
        refine s_isub (tb_ok aX8_laws_1 7 rfl) ?_
        refine s_topi (z := (nI i)) (i10 (by omega)) ?_
        refine s_goto (tgt := 67) (tb_ok aX8_laws_1 8 rfl) (by decide) ?_
        refine s_istore_n (ls' := [some (.ref 66), some (.int (nI (10 + i))), some (.int (1)), some (.int (nI i))]) (tb_ok aX8_laws_1 12 rfl) rfl rfl ?_
        refine s_iload_n (tb_ok aX8_laws_1 13 rfl) rfl ?_
        refine s_i2l (tb_ok aX8_laws_1 14 rfl) ?_
        refine s_lconst (v := 0) (tb_ok aX8_laws_1 15 rfl) (by decide) ?_
        refine s_aload_n (tb_ok aX8_laws_1 16 rfl) rfl ?_
        refine s_getI (x := (nI m)) (tb_ok aX8_laws_1 17 rfl) f_RX8_85 rfl rfl h.1.1 ?_
        refine s_iconst (v := 1) (tb_ok aX8_laws_1 18 rfl) (by decide) ?_
        refine s_isub (tb_ok aX8_laws_1 19 rfl) ?_
        refine s_i2l (tb_ok aX8_laws_1 20 rfl) ?_
        refine s_cSp (as := [_, .long (0), _]) (tb_ok aX8_laws_1 21 rfl) v_RX8_73 (R_in _ _ _) (by decide) rfl rfl (Nat.le_of_ble_eq_true rfl) ?_
        refine s_topi (bI_t (in_m.mpr (vH_m hi h.1.2.1))) ?_
        refine s_if_ne (tgt := 89) (tb_ok aX8_laws_1 22 rfl) (by decide) (fun c81 => ?_) (fun c81 => ?_)
        · refine s_iload_n (tb_ok aX8_laws_2 1 rfl) rfl ?_
          refine s_if_eq (tgt := 102) (tb_ok aX8_laws_2 2 rfl) (by decide) (fun c90 => ?_) (fun c90 => ?_)
          · exact absurd c90 (by decide)
          · refine s_aload_n (tb_ok aX8_laws_2 3 rfl) rfl ?_
            refine s_getR (r := 70) (tb_ok aX8_laws_2 4 rfl) f_RX8_23 rfl rfl rfl ?_
            refine s_iload_n (tb_ok aX8_laws_2 5 rfl) rfl ?_
            refine s_ialdX (x := (fr i)) (tb_ok aX8_laws_2 6 rfl) rfl (by omega) (by decide) (h.1.2.2 i hi).1 ?_
            refine s_goto (tgt := 108) (tb_ok aX8_laws_2 7 rfl) (by decide) ?_
            refine s_iret (tb_ok aX8_laws_2 12 rfl) rfl ?_
            exact afZ rfl FrE.refl
        · exact absurd c81 (by decide)
  · have h9 := bI_n c9
    have h92 := h9.2
    have e2_ : (2 : Int32) = nI 2 := rfl
    rw [e2_] at h92
    simp (disch := omega) only [nI_ltI] at h92
    omega

set_option maxRecDepth 100000 in
set_option maxHeartbeats 1000000 in
theorem R_lawsA {X : En} {L : FL} {q : Nat × Nat} {I : FI} {m : Nat} {fr fa : Nat → Int32} {M : Nat} {T : Nat → Nat → Int32} {d : Nat} {sem : Nat → Sem} (h : RSt I m fr fa M T d sem) {i : Nat} (hi : i < m) : Ev X 60 mX8_laws (0, 0) [.ref 66, .int (nI (20 + i))] S0 I L (R0 q) (AfZ q eB I (fa i)) := by
  have hM5 := h.M5
  have hm10 := h.1.2.1
  refine ev_of (by decide +kernel) rfl ?_
  show SW X _ _ _ 0 [some (.ref 66), some (.int (nI (20 + i))), none, none] [] S0 I L (R0 q) _
  refine s_iload_n (tb_ok aX8_laws_0 0 rfl) rfl ?_
  refine s_i2l (tb_ok aX8_laws_0 1 rfl) ?_
  refine s_lconst (v := 0) (tb_ok aX8_laws_0 2 rfl) (by decide) ?_
  refine s_ldc2 (tb_ok aX8_laws_0 3 rfl) k_RX8_352 ?_
  refine s_cSp (as := [_, .long (0), .long (2)]) (tb_ok aX8_laws_0 4 rfl) v_RX8_73 (R_in _ _ _) (by decide) rfl rfl (Nat.le_of_ble_eq_true rfl) ?_
  refine s_topi (bI_congr (in_iff (lo := 0) (hi := 2) rfl (by decide) (by decide))) ?_
  refine s_if_eq (tgt := 40) (tb_ok aX8_laws_0 5 rfl) (by decide) (fun c9 => ?_) (fun c9 => ?_)
  · refine s_iload_n (tb_ok aX8_laws_0 20 rfl) rfl ?_
    refine s_bipush (v := nI 20) (tb_ok aX8_laws_0 21 rfl) (by decide) ?_
    refine s_icmp_ge (tgt := 50) (tb_ok aX8_laws_0 22 rfl) (by decide) (fun c43 => ?_) (fun c43 => ?_)
    · refine s_iconst (v := 0) (tb_ok aX8_laws_1 1 rfl) (by decide) ?_
      refine s_istore_n (ls' := [some (.ref 66), some (.int (nI (20 + i))), some (.int (0)), none]) (tb_ok aX8_laws_1 2 rfl) rfl rfl ?_
      refine s_iload_n (tb_ok aX8_laws_1 3 rfl) rfl ?_
      refine s_if_eq (tgt := 63) (tb_ok aX8_laws_1 4 rfl) (by decide) (fun c53 => ?_) (fun c53 => ?_)
      · refine s_iload_n (tb_ok aX8_laws_1 9 rfl) rfl ?_
        refine s_bipush (v := 20) (tb_ok aX8_laws_1 10 rfl) (by decide) ?_
        refine s_isub (tb_ok aX8_laws_1 11 rfl) ?_
        refine s_topi (z := (nI i)) (i20 (by omega)) ?_
        refine s_istore_n (ls' := [some (.ref 66), some (.int (nI (20 + i))), some (.int (0)), some (.int (nI i))]) (tb_ok aX8_laws_1 12 rfl) rfl rfl ?_
        refine s_iload_n (tb_ok aX8_laws_1 13 rfl) rfl ?_
        refine s_i2l (tb_ok aX8_laws_1 14 rfl) ?_
        refine s_lconst (v := 0) (tb_ok aX8_laws_1 15 rfl) (by decide) ?_
        refine s_aload_n (tb_ok aX8_laws_1 16 rfl) rfl ?_
        refine s_getI (x := (nI m)) (tb_ok aX8_laws_1 17 rfl) f_RX8_85 rfl rfl h.1.1 ?_
        refine s_iconst (v := 1) (tb_ok aX8_laws_1 18 rfl) (by decide) ?_
        refine s_isub (tb_ok aX8_laws_1 19 rfl) ?_
        refine s_i2l (tb_ok aX8_laws_1 20 rfl) ?_
        refine s_cSp (as := [_, .long (0), _]) (tb_ok aX8_laws_1 21 rfl) v_RX8_73 (R_in _ _ _) (by decide) rfl rfl (Nat.le_of_ble_eq_true rfl) ?_
        refine s_topi (bI_t (in_m.mpr (vH_m hi h.1.2.1))) ?_
        refine s_if_ne (tgt := 89) (tb_ok aX8_laws_1 22 rfl) (by decide) (fun c81 => ?_) (fun c81 => ?_)
        · refine s_iload_n (tb_ok aX8_laws_2 1 rfl) rfl ?_
          refine s_if_eq (tgt := 102) (tb_ok aX8_laws_2 2 rfl) (by decide) (fun c90 => ?_) (fun c90 => ?_)
          · refine s_aload_n (tb_ok aX8_laws_2 8 rfl) rfl ?_
            refine s_getR (r := 71) (tb_ok aX8_laws_2 9 rfl) f_RX8_26 rfl rfl rfl ?_
            refine s_iload_n (tb_ok aX8_laws_2 10 rfl) rfl ?_
            refine s_ialdX (x := (fa i)) (tb_ok aX8_laws_2 11 rfl) rfl (by omega) (by decide) (h.1.2.2 i hi).2 ?_
            refine s_iret (tb_ok aX8_laws_2 12 rfl) rfl ?_
            exact afZ rfl FrE.refl
          · exact absurd c90 (by decide)
        · exact absurd c81 (by decide)
      · exact absurd c53 (by decide)
    · simp (disch := omega) only [nI_leI] at c43
      omega
  · have h9 := bI_n c9
    have h92 := h9.2
    have e2_ : (2 : Int32) = nI 2 := rfl
    rw [e2_] at h92
    simp (disch := omega) only [nI_ltI] at h92
    omega

set_option maxRecDepth 100000 in
set_option maxHeartbeats 1000000 in
theorem R_lawsB {X : En} {L : FL} {q : Nat × Nat} {I : FI} {m : Nat} {fr fa : Nat → Int32} {M : Nat} {T : Nat → Nat → Int32} {d : Nat} {sem : Nat → Sem} (h : RSt I m fr fa M T d sem) {w : Int32} (hv : ¬ (¬ w < 0 ∧ ¬ 2 < w)) (hv1 : w < 20 → ¬ vH (w - 10) m) (hv2 : 20 ≤ w → ¬ vH (w - 20) m) : Ev X 60 mX8_laws (0, 0) [.ref 66, .int w] S0 I L (R0 q) (AfZ q eB I (-2)) := by
  refine ev_of (by decide +kernel) rfl ?_
  show SW X _ _ _ 0 [some (.ref 66), some (.int w), none, none] [] S0 I L (R0 q) _
  refine s_iload_n (tb_ok aX8_laws_0 0 rfl) rfl ?_
  refine s_i2l (tb_ok aX8_laws_0 1 rfl) ?_
  refine s_lconst (v := 0) (tb_ok aX8_laws_0 2 rfl) (by decide) ?_
  refine s_ldc2 (tb_ok aX8_laws_0 3 rfl) k_RX8_352 ?_
  refine s_cSp (as := [_, .long (0), .long (2)]) (tb_ok aX8_laws_0 4 rfl) v_RX8_73 (R_in _ _ _) (by decide) rfl rfl (Nat.le_of_ble_eq_true rfl) ?_
  refine s_topi (bI_congr (in_iff (lo := 0) (hi := 2) rfl (by decide) (by decide))) ?_
  refine s_if_eq (tgt := 40) (tb_ok aX8_laws_0 5 rfl) (by decide) (fun c9 => ?_) (fun c9 => ?_)
  · refine s_iload_n (tb_ok aX8_laws_0 20 rfl) rfl ?_
    refine s_bipush (v := 20) (tb_ok aX8_laws_0 21 rfl) (by decide) ?_
    refine s_icmp_ge (tgt := 50) (tb_ok aX8_laws_0 22 rfl) (by decide) (fun c43 => ?_) (fun c43 => ?_)
    · refine s_iconst (v := 0) (tb_ok aX8_laws_1 1 rfl) (by decide) ?_
      refine s_istore_n (ls' := [some (.ref 66), some (.int w), some (.int (0)), none]) (tb_ok aX8_laws_1 2 rfl) rfl rfl ?_
      refine s_iload_n (tb_ok aX8_laws_1 3 rfl) rfl ?_
      refine s_if_eq (tgt := 63) (tb_ok aX8_laws_1 4 rfl) (by decide) (fun c53 => ?_) (fun c53 => ?_)
      · refine s_iload_n (tb_ok aX8_laws_1 9 rfl) rfl ?_
        refine s_bipush (v := 20) (tb_ok aX8_laws_1 10 rfl) (by decide) ?_
        refine s_isub (tb_ok aX8_laws_1 11 rfl) ?_
        refine s_name (fun x1 ex1 => ?_)
        refine s_istore_n (ls' := [some (.ref 66), some (.int w), some (.int (0)), some (.int x1)]) (tb_ok aX8_laws_1 12 rfl) rfl rfl ?_
        refine s_iload_n (tb_ok aX8_laws_1 13 rfl) rfl ?_
        refine s_i2l (tb_ok aX8_laws_1 14 rfl) ?_
        refine s_lconst (v := 0) (tb_ok aX8_laws_1 15 rfl) (by decide) ?_
        refine s_aload_n (tb_ok aX8_laws_1 16 rfl) rfl ?_
        refine s_getI (x := (nI m)) (tb_ok aX8_laws_1 17 rfl) f_RX8_85 rfl rfl h.1.1 ?_
        refine s_iconst (v := 1) (tb_ok aX8_laws_1 18 rfl) (by decide) ?_
        refine s_isub (tb_ok aX8_laws_1 19 rfl) ?_
        refine s_i2l (tb_ok aX8_laws_1 20 rfl) ?_
        refine s_cSp (as := [_, .long (0), _]) (tb_ok aX8_laws_1 21 rfl) v_RX8_73 (R_in _ _ _) (by decide) rfl rfl (Nat.le_of_ble_eq_true rfl) ?_
        refine s_topi (bI_congr in_m) ?_
        refine s_if_ne (tgt := 89) (tb_ok aX8_laws_1 22 rfl) (by decide) (fun c81 => ?_) (fun c81 => ?_)
        · first | exact absurd (ex1 ▸ bI_n c81) (hv1 (Int32.not_le.mp c43)) | exact absurd (ex1 ▸ bI_n c81) (hv2 c43)
        · refine s_bipush (v := -2) (tb_ok aX8_laws_1 23 rfl) (by decide) ?_
          refine s_goto (tgt := 108) (tb_ok aX8_laws_2 0 rfl) (by decide) ?_
          refine s_iret (tb_ok aX8_laws_2 12 rfl) rfl ?_
          exact afZ rfl FrE.refl
      · exact absurd c53 (by decide)
    · refine s_iconst (v := 1) (tb_ok aX8_laws_0 23 rfl) (by decide) ?_
      refine s_goto (tgt := 51) (tb_ok aX8_laws_1 0 rfl) (by decide) ?_
      refine s_istore_n (ls' := [some (.ref 66), some (.int w), some (.int (1)), none]) (tb_ok aX8_laws_1 2 rfl) rfl rfl ?_
      refine s_iload_n (tb_ok aX8_laws_1 3 rfl) rfl ?_
      refine s_if_eq (tgt := 63) (tb_ok aX8_laws_1 4 rfl) (by decide) (fun c53 => ?_) (fun c53 => ?_)
      · exact absurd c53 (by decide)
      · refine s_iload_n (tb_ok aX8_laws_1 5 rfl) rfl ?_
        refine s_bipush (v := 10) (tb_ok aX8_laws_1 6 rfl) (by decide) ?_
        refine s_isub (tb_ok aX8_laws_1 7 rfl) ?_
        refine s_goto (tgt := 67) (tb_ok aX8_laws_1 8 rfl) (by decide) ?_
        refine s_name (fun x2 ex2 => ?_)
        refine s_istore_n (ls' := [some (.ref 66), some (.int w), some (.int (1)), some (.int x2)]) (tb_ok aX8_laws_1 12 rfl) rfl rfl ?_
        refine s_iload_n (tb_ok aX8_laws_1 13 rfl) rfl ?_
        refine s_i2l (tb_ok aX8_laws_1 14 rfl) ?_
        refine s_lconst (v := 0) (tb_ok aX8_laws_1 15 rfl) (by decide) ?_
        refine s_aload_n (tb_ok aX8_laws_1 16 rfl) rfl ?_
        refine s_getI (x := (nI m)) (tb_ok aX8_laws_1 17 rfl) f_RX8_85 rfl rfl h.1.1 ?_
        refine s_iconst (v := 1) (tb_ok aX8_laws_1 18 rfl) (by decide) ?_
        refine s_isub (tb_ok aX8_laws_1 19 rfl) ?_
        refine s_i2l (tb_ok aX8_laws_1 20 rfl) ?_
        refine s_cSp (as := [_, .long (0), _]) (tb_ok aX8_laws_1 21 rfl) v_RX8_73 (R_in _ _ _) (by decide) rfl rfl (Nat.le_of_ble_eq_true rfl) ?_
        refine s_topi (bI_congr in_m) ?_
        refine s_if_ne (tgt := 89) (tb_ok aX8_laws_1 22 rfl) (by decide) (fun c81 => ?_) (fun c81 => ?_)
        · first | exact absurd (ex2 ▸ bI_n c81) (hv1 (Int32.not_le.mp c43)) | exact absurd (ex2 ▸ bI_n c81) (hv2 c43)
        · refine s_bipush (v := -2) (tb_ok aX8_laws_1 23 rfl) (by decide) ?_
          refine s_goto (tgt := 108) (tb_ok aX8_laws_2 0 rfl) (by decide) ?_
          refine s_iret (tb_ok aX8_laws_2 12 rfl) rfl ?_
          exact afZ rfl FrE.refl
  · exact absurd (bI_n c9) hv

/-- the best of k, the most of it -/
def mxS (ok v : Nat → Int32) (m0 : Int32) : Nat → Int32 × Int32
  | 0 => (-1, m0)
  | k + 1 => if ¬ ok k = 0 ∧ (mxS ok v m0 k).2 < v k then (nI k, v k) else mxS ok v m0 k
theorem mxS_0 {ok v : Nat → Int32} {m0 : Int32} (h : 0 ≤ m0) : ∀ k, 0 ≤ (mxS ok v m0 k).2 := by
  intro k
  induction k with
  | zero => exact h
  | succ k ih =>
    by_cases hc : ¬ ok k = 0 ∧ (mxS ok v m0 k).2 < v k
    · rw [show mxS ok v m0 (k + 1) = (nI k, v k) from if_pos hc]
      exact Int32.le_trans ih (Int32.le_of_lt hc.2)
    · rw [show mxS ok v m0 (k + 1) = mxS ok v m0 k from if_neg hc]
      exact ih
theorem pas_le {sem : Nat → (Nat → Int32) → Int32} {fr fa : Nat → Int32} {m : Nat} {f : Nat → Int32} (hf : okT f) (day : Int32) {a : Nat} (ha : f 3 = nI a) (h100 : a < 100) : ∃ b, b ≤ a ∧ pasP sem fr fa m f day 3 = nI b := by
  rw [pasP_3]
  obtain ⟨s, hs, es⟩ := falS_N (sem := sem) f (undP fr fa m f day) day 12
  show ∃ b, b ≤ a ∧ upd _ 3 _ 3 = nI b
  rw [upd_o, es, ha]
  by_cases h : (0 : Int32) < nI a - nI s
  · rw [if_pos h]
    by_cases hsa : s ≤ a
    · rw [nI_sub' hsa]; exact ⟨a - s, by omega, rfl⟩
    · exfalso
      have e0 : (0 : Int32).toInt = 0 := by decide
      rw [Int32.lt_iff_toInt_lt, Int32.toInt_sub, nI_int (by omega), nI_int (by omega), e0, Int.bmod_eq_of_le (by omega) (by omega)] at h
      omega
  · rw [if_neg h]; exact ⟨0, by omega, rfl⟩
theorem it_le {sem : Nat → (Nat → Int32) → Int32} {fr fa : Nat → Int32} {m : Nat} (hfa : okFa m fa) {f : Nat → Int32} (hf : okT f) (day : Int32) {a : Nat} (ha : f 3 = nI a) (h100 : a < 100) : ∀ k, ∃ b, b ≤ a ∧ itP sem fr fa m day f k 3 = nI b := by
  intro k
  induction k with
  | zero => exact ⟨a, Nat.le_refl _, ha⟩
  | succ k ih =>
    obtain ⟨b, hb, eb⟩ := ih
    obtain ⟨c, hc, ec⟩ := pas_le (sem := sem) (fr := fr) (fa := fa) (m := m) (okT.itP hfa hf day k) (day + nI k) eb (by omega)
    exact ⟨c, by omega, ec⟩
theorem bsk_0 {sem : Nat → (Nat → Int32) → Int32} {fr fa : Nat → Int32} {m : Nat} (hfa : okFa m fa) {f : Nat → Int32} (hf : okT f) (day : Int32) (n : Nat) : 0 ≤ f 3 - itP sem fr fa m day f n 3 := by
  obtain ⟨a, ha, ea⟩ := hf.2.2.2.1
  obtain ⟨b, hb, eb⟩ := it_le (sem := sem) (fr := fr) hfa hf day ea ha n
  rw [ea, eb, nI_sub' hb]
  exact Int32.not_lt.mp (nI_pos (by omega))
theorem or_0 (x : Int32) : x ||| 0 = x := by simp
theorem upd_same {f : Nat → Int32} {k : Nat} : upd f k (f k) = f := by
  funext j
  by_cases e : j = k
  · subst e; exact upd_o
  · exact upd_ne e
theorem wl_ne {sem : Nat → (Nat → Int32) → Int32} {fr fa : Nat → Int32} {m : Nat} {f : Nat → Int32} {fact day : Int32} : ¬ wlI sem fr fa m f fact day = 0 ↔ knI f fact = 0 ∧ ¬ takI sem fr fa m f fact day = 0 := by
  unfold wlI
  exact ⟨fun h => bI_n h, fun h h2 => bI_0.mp h2 h⟩
theorem hea_yes {sem : Nat → (Nat → Int32) → Int32} {fr fa : Nat → Int32} {m : Nat} {f : Nat → Int32} {fact day : Int32} (h : ¬ wlI sem fr fa m f fact day = 0) : heaP sem fr fa m f fact day = upd f 2 (f 2 ||| ((1 : Int32) <<< (fact &&& 31))) := if_neg h
set_option maxRecDepth 100000 in
set_option maxHeartbeats 1000000 in
theorem R_best0 {X : En} {L : FL} {q : Nat × Nat} {I : FI} {m : Nat} {fr fa : Nat → Int32} {M : Nat} {T : Nat → Nat → Int32} {d : Nat} {sem : Nat → Sem} (h : RSt I m fr fa M T d sem) (hd : d ≤ 5000) {j : Nat} (hj : j < M) {n : Nat} (hn : n ≤ 40) : Ev X 60 mX8_best (0, 0) [.ref 66, .int (nI j), .int (nI n), .int (0)] S0 I L (R0 q) (AfZ q eB I ((mxS (fun k => wlI sem fr fa m (T j) (nI k) (nI d)) (fun k => bskP sem fr fa m (nI d) (T j) ((1 : Int32) <<< (nI k &&& 31)) n) (bskP sem fr fa m (nI d) (T j) 0 n) 12).1)) := by
  have hM5 := h.M5
  have hm0 : 0 ≤ bskP sem fr fa m (nI d) (T j) 0 n := by show 0 ≤ T j 3 - itP sem fr fa m (nI d) (upd (T j) 2 (T j 2 ||| 0)) n 3; rw [or_0, upd_same]; exact bsk_0 h.2.1 (h.ok hj) _ _
  have loop : ∀ k, k ≤ 12 → ∀ (I1 : FI), ∀ (L1 : FL), ∀ (o7 : Option Value), (FrE eB I1 I) → SW X 60 mX8_best (0, 0) 49 [some (.ref 66), some (.int (nI j)), some (.int (nI n)), some (.int (0)), some (.int (mxS (fun k => wlI sem fr fa m (T j) (nI k) (nI d)) (fun k => bskP sem fr fa m (nI d) (T j) ((1 : Int32) <<< (nI k &&& 31)) n) (bskP sem fr fa m (nI d) (T j) 0 n) k).1), some (.int (mxS (fun k => wlI sem fr fa m (T j) (nI k) (nI d)) (fun k => bskP sem fr fa m (nI d) (T j) ((1 : Int32) <<< (nI k &&& 31)) n) (bskP sem fr fa m (nI d) (T j) 0 n) k).2), some (.int (nI k)), o7] [] S0 I1 L1 (R0 q) (KQ X (AfZ q eB I ((mxS (fun k => wlI sem fr fa m (T j) (nI k) (nI d)) (fun k => bskP sem fr fa m (nI d) (T j) ((1 : Int32) <<< (nI k &&& 31)) n) (bskP sem fr fa m (nI d) (T j) 0 n) 12).1))) := by
    refine for_up (P := fun k => ∀ (I1 : FI), ∀ (L1 : FL), ∀ (o7 : Option Value), (FrE eB I1 I) → SW X 60 mX8_best (0, 0) 49 [some (.ref 66), some (.int (nI j)), some (.int (nI n)), some (.int (0)), some (.int (mxS (fun k => wlI sem fr fa m (T j) (nI k) (nI d)) (fun k => bskP sem fr fa m (nI d) (T j) ((1 : Int32) <<< (nI k &&& 31)) n) (bskP sem fr fa m (nI d) (T j) 0 n) k).1), some (.int (mxS (fun k => wlI sem fr fa m (T j) (nI k) (nI d)) (fun k => bskP sem fr fa m (nI d) (T j) ((1 : Int32) <<< (nI k &&& 31)) n) (bskP sem fr fa m (nI d) (T j) 0 n) k).2), some (.int (nI k)), o7] [] S0 I1 L1 (R0 q) (KQ X (AfZ q eB I ((mxS (fun k => wlI sem fr fa m (T j) (nI k) (nI d)) (fun k => bskP sem fr fa m (nI d) (T j) ((1 : Int32) <<< (nI k &&& 31)) n) (bskP sem fr fa m (nI d) (T j) 0 n) 12).1)))) 12 ?_ ?_
    · intro I1 L1 o7 hi
      refine s_iload (tb_ok aX8_best_1 5 rfl) rfl ?_
      refine s_bipush (v := nI 12) (tb_ok aX8_best_1 6 rfl) (by decide) ?_
      refine s_icmp_ge (tgt := 112) (tb_ok aX8_best_1 7 rfl) (by decide) (fun c53 => ?_) (fun c53 => ?_)
      · refine s_iload_n (tb_ok aX8_best_2 12 rfl) rfl ?_
        refine s_if_ne (tgt := 121) (tb_ok aX8_best_2 13 rfl) (by decide) (fun c113 => ?_) (fun c113 => ?_)
        · exact absurd c113 (by decide)
        · refine s_iload (tb_ok aX8_best_2 14 rfl) rfl ?_
          refine s_goto (tgt := 123) (tb_ok aX8_best_2 15 rfl) (by decide) ?_
          refine s_iret (tb_ok aX8_best_2 17 rfl) rfl ?_
          exact afZ rfl hi
      · exact absurd c53 (by decide)
    · intro k hk ih I1 L1 o7 hi
      have h1 := h.see (see_eB hi)
      refine s_iload (tb_ok aX8_best_1 5 rfl) rfl ?_
      refine s_bipush (v := nI 12) (tb_ok aX8_best_1 6 rfl) (by decide) ?_
      refine s_icmp_ge (tgt := 112) (tb_ok aX8_best_1 7 rfl) (by decide) (fun c53 => ?_) (fun c53 => ?_)
      · simp (disch := omega) only [nI_ltI, nI_leI, nI_eq] at c53
        omega
      · refine s_aload_n (tb_ok aX8_best_1 8 rfl) rfl ?_
        refine s_iload_n (tb_ok aX8_best_1 9 rfl) rfl ?_
        refine s_iload (tb_ok aX8_best_1 10 rfl) rfl ?_
        refine s_cVp (as := [.int (nI j), .int (nI k)]) (tb_ok aX8_best_1 11 rfl) v_RX8_372 (R_knowsIt h1 hj _) (by decide) rfl rfl rfl rfl rfl (Nat.le_of_ble_eq_true rfl) (by decide) ?_
        refine s_if_ne (tgt := 76) (tb_ok aX8_best_1 12 rfl) (by decide) (fun c63 => ?_) (fun c63 => ?_)
        · refine s_iconst (v := -1) (tb_ok aX8_best_1 18 rfl) (by decide) ?_
          refine s_goto (tgt := 89) (tb_ok aX8_best_1 19 rfl) (by decide) ?_
          refine s_istore (ls' := [some (.ref 66), some (.int (nI j)), some (.int (nI n)), some (.int (0)), some (.int (mxS (fun k => wlI sem fr fa m (T j) (nI k) (nI d)) (fun k => bskP sem fr fa m (nI d) (T j) ((1 : Int32) <<< (nI k &&& 31)) n) (bskP sem fr fa m (nI d) (T j) 0 n) k).1), some (.int (mxS (fun k => wlI sem fr fa m (T j) (nI k) (nI d)) (fun k => bskP sem fr fa m (nI d) (T j) ((1 : Int32) <<< (nI k &&& 31)) n) (bskP sem fr fa m (nI d) (T j) 0 n) k).2), some (.int (nI k)), some (.int (-1))]) (tb_ok aX8_best_2 2 rfl) rfl rfl ?_
          refine s_iload (tb_ok aX8_best_2 3 rfl) rfl ?_
          refine s_iload (tb_ok aX8_best_2 4 rfl) rfl ?_
          refine s_icmp_le (tgt := 106) (tb_ok aX8_best_2 5 rfl) (by decide) (fun c95 => ?_) (fun c95 => ?_)
          · refine s_iinc (v := nI (k + 1)) (ls' := [some (.ref 66), some (.int (nI j)), some (.int (nI n)), some (.int (0)), some (.int (mxS (fun k => wlI sem fr fa m (T j) (nI k) (nI d)) (fun k => bskP sem fr fa m (nI d) (T j) ((1 : Int32) <<< (nI k &&& 31)) n) (bskP sem fr fa m (nI d) (T j) 0 n) k).1), some (.int (mxS (fun k => wlI sem fr fa m (T j) (nI k) (nI d)) (fun k => bskP sem fr fa m (nI d) (T j) ((1 : Int32) <<< (nI k &&& 31)) n) (bskP sem fr fa m (nI d) (T j) 0 n) k).2), some (.int (nI (k + 1))), some (.int (-1))]) (tb_ok aX8_best_2 10 rfl) rfl (nI_1 _) rfl rfl ?_
            refine s_goto (tgt := 49) (tb_ok aX8_best_2 11 rfl) (by decide) ?_
            have hw : ¬ ¬ wlI sem fr fa m (T j) (nI k) (nI d) = 0 := fun h_ => by have h__ := wl_ne.mp h_; first | exact c63 h__.1 | exact h__.2 c73
            refine s_ls ?_ (ih _ _ (some (.int (-1))) hi)
            rw [show (mxS (fun k => wlI sem fr fa m (T j) (nI k) (nI d)) (fun k => bskP sem fr fa m (nI d) (T j) ((1 : Int32) <<< (nI k &&& 31)) n) (bskP sem fr fa m (nI d) (T j) 0 n) (k + 1)) = (mxS (fun k => wlI sem fr fa m (T j) (nI k) (nI d)) (fun k => bskP sem fr fa m (nI d) (T j) ((1 : Int32) <<< (nI k &&& 31)) n) (bskP sem fr fa m (nI d) (T j) 0 n) k) from if_neg (fun h_ => hw h_.1)]
          · have h0_ := mxS_0 (ok := (fun k => wlI sem fr fa m (T j) (nI k) (nI d))) (v := (fun k => bskP sem fr fa m (nI d) (T j) ((1 : Int32) <<< (nI k &&& 31)) n)) hm0 k
            exact absurd (Int32.le_trans (by decide) h0_) c95
        · refine s_aload_n (tb_ok aX8_best_1 13 rfl) rfl ?_
          refine s_iload_n (tb_ok aX8_best_1 14 rfl) rfl ?_
          refine s_iload (tb_ok aX8_best_1 15 rfl) rfl ?_
          refine s_cV (as := [.int (nI j), .int (nI k)]) (tb_ok aX8_best_1 16 rfl) v_RX8_375 (R_takes h1 hj _) (by decide) rfl rfl rfl rfl rfl (Nat.le_of_ble_eq_true rfl) (by decide) (fun r1 S1 I1 L1 R1 q1 => ?_)
          obtain ⟨rfl, rfl, rfl, hf6⟩ := q1
          have h6 := RSt.see h1 (see_eS hf6)
          refine s_if_ne (tgt := 80) (tb_ok aX8_best_1 17 rfl) (by decide) (fun c73 => ?_) (fun c73 => ?_)
          · refine s_aload_n (tb_ok aX8_best_1 20 rfl) rfl ?_
            refine s_iload_n (tb_ok aX8_best_1 21 rfl) rfl ?_
            refine s_iload (tb_ok aX8_best_1 22 rfl) rfl ?_
            refine s_iload_n (tb_ok aX8_best_1 23 rfl) rfl ?_
            refine s_iconst (v := 0) (tb_ok aX8_best_2 0 rfl) (by decide) ?_
            refine s_cV (as := [.int (nI j), .int (nI k), .int (nI n), .int (0)]) (tb_ok aX8_best_2 1 rfl) v_RX8_406 (R_bskH h6 hd hj hk hn) (by decide) rfl rfl rfl rfl rfl (Nat.le_of_ble_eq_true rfl) (by decide) (fun r2 S2 I2 L2 R2 q2 => ?_)
            obtain ⟨rfl, rfl, rfl, hf4⟩ := q2
            refine s_name (fun x1 ex1 => ?_)
            refine s_istore (ls' := [some (.ref 66), some (.int (nI j)), some (.int (nI n)), some (.int (0)), some (.int (mxS (fun k => wlI sem fr fa m (T j) (nI k) (nI d)) (fun k => bskP sem fr fa m (nI d) (T j) ((1 : Int32) <<< (nI k &&& 31)) n) (bskP sem fr fa m (nI d) (T j) 0 n) k).1), some (.int (mxS (fun k => wlI sem fr fa m (T j) (nI k) (nI d)) (fun k => bskP sem fr fa m (nI d) (T j) ((1 : Int32) <<< (nI k &&& 31)) n) (bskP sem fr fa m (nI d) (T j) 0 n) k).2), some (.int (nI k)), some (.int x1)]) (tb_ok aX8_best_2 2 rfl) rfl rfl ?_
            refine s_iload (tb_ok aX8_best_2 3 rfl) rfl ?_
            refine s_iload (tb_ok aX8_best_2 4 rfl) rfl ?_
            refine s_icmp_le (tgt := 106) (tb_ok aX8_best_2 5 rfl) (by decide) (fun c95 => ?_) (fun c95 => ?_)
            · refine s_iinc (v := nI (k + 1)) (ls' := [some (.ref 66), some (.int (nI j)), some (.int (nI n)), some (.int (0)), some (.int (mxS (fun k => wlI sem fr fa m (T j) (nI k) (nI d)) (fun k => bskP sem fr fa m (nI d) (T j) ((1 : Int32) <<< (nI k &&& 31)) n) (bskP sem fr fa m (nI d) (T j) 0 n) k).1), some (.int (mxS (fun k => wlI sem fr fa m (T j) (nI k) (nI d)) (fun k => bskP sem fr fa m (nI d) (T j) ((1 : Int32) <<< (nI k &&& 31)) n) (bskP sem fr fa m (nI d) (T j) 0 n) k).2), some (.int (nI (k + 1))), some (.int x1)]) (tb_ok aX8_best_2 10 rfl) rfl (nI_1 _) rfl rfl ?_
              refine s_goto (tgt := 49) (tb_ok aX8_best_2 11 rfl) (by decide) ?_
              have hw : ¬ wlI sem fr fa m (T j) (nI k) (nI d) = 0 := wl_ne.mpr ⟨c63, c73⟩
              have ev : x1 = bskP sem fr fa m (nI d) (T j) ((1 : Int32) <<< (nI k &&& 31)) n := by rw [ex1]; unfold itT; rw [uT_o, hea_yes hw]; rfl
              refine s_ls ?_ (ih _ _ (some (.int x1)) ((hf4.trans (eS_eB hf6)).trans hi))
              rw [ev] at c95
              rw [show (mxS (fun k => wlI sem fr fa m (T j) (nI k) (nI d)) (fun k => bskP sem fr fa m (nI d) (T j) ((1 : Int32) <<< (nI k &&& 31)) n) (bskP sem fr fa m (nI d) (T j) 0 n) (k + 1)) = (mxS (fun k => wlI sem fr fa m (T j) (nI k) (nI d)) (fun k => bskP sem fr fa m (nI d) (T j) ((1 : Int32) <<< (nI k &&& 31)) n) (bskP sem fr fa m (nI d) (T j) 0 n) k) from if_neg (fun h_ => Int32.not_lt.mpr c95 h_.2)]
            · refine s_iload (tb_ok aX8_best_2 6 rfl) rfl ?_
              refine s_istore (ls' := [some (.ref 66), some (.int (nI j)), some (.int (nI n)), some (.int (0)), some (.int (nI k)), some (.int (mxS (fun k => wlI sem fr fa m (T j) (nI k) (nI d)) (fun k => bskP sem fr fa m (nI d) (T j) ((1 : Int32) <<< (nI k &&& 31)) n) (bskP sem fr fa m (nI d) (T j) 0 n) k).2), some (.int (nI k)), some (.int x1)]) (tb_ok aX8_best_2 7 rfl) rfl rfl ?_
              refine s_iload (tb_ok aX8_best_2 8 rfl) rfl ?_
              refine s_istore (ls' := [some (.ref 66), some (.int (nI j)), some (.int (nI n)), some (.int (0)), some (.int (nI k)), some (.int x1), some (.int (nI k)), some (.int x1)]) (tb_ok aX8_best_2 9 rfl) rfl rfl ?_
              refine s_iinc (v := nI (k + 1)) (ls' := [some (.ref 66), some (.int (nI j)), some (.int (nI n)), some (.int (0)), some (.int (nI k)), some (.int x1), some (.int (nI (k + 1))), some (.int x1)]) (tb_ok aX8_best_2 10 rfl) rfl (nI_1 _) rfl rfl ?_
              refine s_goto (tgt := 49) (tb_ok aX8_best_2 11 rfl) (by decide) ?_
              have hw : ¬ wlI sem fr fa m (T j) (nI k) (nI d) = 0 := wl_ne.mpr ⟨c63, c73⟩
              have ev : x1 = bskP sem fr fa m (nI d) (T j) ((1 : Int32) <<< (nI k &&& 31)) n := by rw [ex1]; unfold itT; rw [uT_o, hea_yes hw]; rfl
              refine s_ls ?_ (ih _ _ (some (.int x1)) ((hf4.trans (eS_eB hf6)).trans hi))
              rw [ev] at c95
              rw [show (mxS (fun k => wlI sem fr fa m (T j) (nI k) (nI d)) (fun k => bskP sem fr fa m (nI d) (T j) ((1 : Int32) <<< (nI k &&& 31)) n) (bskP sem fr fa m (nI d) (T j) 0 n) (k + 1)) = (nI k, bskP sem fr fa m (nI d) (T j) ((1 : Int32) <<< (nI k &&& 31)) n) from if_pos ⟨hw, Int32.not_le.mp c95⟩, ev]
          · refine s_iconst (v := -1) (tb_ok aX8_best_1 18 rfl) (by decide) ?_
            refine s_goto (tgt := 89) (tb_ok aX8_best_1 19 rfl) (by decide) ?_
            refine s_istore (ls' := [some (.ref 66), some (.int (nI j)), some (.int (nI n)), some (.int (0)), some (.int (mxS (fun k => wlI sem fr fa m (T j) (nI k) (nI d)) (fun k => bskP sem fr fa m (nI d) (T j) ((1 : Int32) <<< (nI k &&& 31)) n) (bskP sem fr fa m (nI d) (T j) 0 n) k).1), some (.int (mxS (fun k => wlI sem fr fa m (T j) (nI k) (nI d)) (fun k => bskP sem fr fa m (nI d) (T j) ((1 : Int32) <<< (nI k &&& 31)) n) (bskP sem fr fa m (nI d) (T j) 0 n) k).2), some (.int (nI k)), some (.int (-1))]) (tb_ok aX8_best_2 2 rfl) rfl rfl ?_
            refine s_iload (tb_ok aX8_best_2 3 rfl) rfl ?_
            refine s_iload (tb_ok aX8_best_2 4 rfl) rfl ?_
            refine s_icmp_le (tgt := 106) (tb_ok aX8_best_2 5 rfl) (by decide) (fun c95 => ?_) (fun c95 => ?_)
            · refine s_iinc (v := nI (k + 1)) (ls' := [some (.ref 66), some (.int (nI j)), some (.int (nI n)), some (.int (0)), some (.int (mxS (fun k => wlI sem fr fa m (T j) (nI k) (nI d)) (fun k => bskP sem fr fa m (nI d) (T j) ((1 : Int32) <<< (nI k &&& 31)) n) (bskP sem fr fa m (nI d) (T j) 0 n) k).1), some (.int (mxS (fun k => wlI sem fr fa m (T j) (nI k) (nI d)) (fun k => bskP sem fr fa m (nI d) (T j) ((1 : Int32) <<< (nI k &&& 31)) n) (bskP sem fr fa m (nI d) (T j) 0 n) k).2), some (.int (nI (k + 1))), some (.int (-1))]) (tb_ok aX8_best_2 10 rfl) rfl (nI_1 _) rfl rfl ?_
              refine s_goto (tgt := 49) (tb_ok aX8_best_2 11 rfl) (by decide) ?_
              have hw : ¬ ¬ wlI sem fr fa m (T j) (nI k) (nI d) = 0 := fun h_ => by have h__ := wl_ne.mp h_; first | exact c63 h__.1 | exact h__.2 c73
              refine s_ls ?_ (ih _ _ (some (.int (-1))) ((eS_eB hf6).trans hi))
              rw [show (mxS (fun k => wlI sem fr fa m (T j) (nI k) (nI d)) (fun k => bskP sem fr fa m (nI d) (T j) ((1 : Int32) <<< (nI k &&& 31)) n) (bskP sem fr fa m (nI d) (T j) 0 n) (k + 1)) = (mxS (fun k => wlI sem fr fa m (T j) (nI k) (nI d)) (fun k => bskP sem fr fa m (nI d) (T j) ((1 : Int32) <<< (nI k &&& 31)) n) (bskP sem fr fa m (nI d) (T j) 0 n) k) from if_neg (fun h_ => hw h_.1)]
            · have h0_ := mxS_0 (ok := (fun k => wlI sem fr fa m (T j) (nI k) (nI d))) (v := (fun k => bskP sem fr fa m (nI d) (T j) ((1 : Int32) <<< (nI k &&& 31)) n)) hm0 k
              exact absurd (Int32.le_trans (by decide) h0_) c95
  refine ev_of (by decide +kernel) rfl ?_
  show SW X _ _ _ 0 [some (.ref 66), some (.int (nI j)), some (.int (nI n)), some (.int (0)), none, none, none, none] [] S0 I L (R0 q) _
  refine s_aload_n (tb_ok aX8_best_0 0 rfl) rfl ?_
  refine s_iload_n (tb_ok aX8_best_0 1 rfl) rfl ?_
  refine s_cVp (as := [.int (nI j)]) (tb_ok aX8_best_0 2 rfl) v_RX8_90 (R_isHouse h.mn _) (by decide) rfl rfl rfl rfl rfl (Nat.le_of_ble_eq_true rfl) (by decide) ?_
  refine s_topi (bI_t (vH_t hj hM5)) ?_
  refine s_if_eq (tgt := 30) (tb_ok aX8_best_0 3 rfl) (by decide) (fun c5 => ?_) (fun c5 => ?_)
  · exact absurd c5 (by decide)
  · refine s_iload_n (tb_ok aX8_best_0 4 rfl) rfl ?_
    refine s_i2l (tb_ok aX8_best_0 5 rfl) ?_
    refine s_lconst (v := 0) (tb_ok aX8_best_0 6 rfl) (by decide) ?_
    refine s_ldc2 (tb_ok aX8_best_0 7 rfl) k_RX8_387 ?_
    refine s_cSp (as := [_, .long (0), .long (40)]) (tb_ok aX8_best_0 8 rfl) v_RX8_73 (R_in _ _ _) (by decide) rfl rfl (Nat.le_of_ble_eq_true rfl) ?_
    refine s_topi (bI_t ((in_iff (x := nI n) (lo := 0) (hi := 40) rfl (by decide) (by decide)).mpr (inN (hi := 40) hn (by decide)))) ?_
    refine s_if_eq (tgt := 30) (tb_ok aX8_best_0 9 rfl) (by decide) (fun c17 => ?_) (fun c17 => ?_)
    · exact absurd c17 (by decide)
    · refine s_iload_n (tb_ok aX8_best_0 10 rfl) rfl ?_
      refine s_i2l (tb_ok aX8_best_0 11 rfl) ?_
      refine s_lconst (v := 0) (tb_ok aX8_best_0 12 rfl) (by decide) ?_
      refine s_lconst (v := 1) (tb_ok aX8_best_0 13 rfl) (by decide) ?_
      refine s_cSp (as := [_, .long (0), .long (1)]) (tb_ok aX8_best_0 14 rfl) v_RX8_73 (R_in _ _ _) (by decide) rfl rfl (Nat.le_of_ble_eq_true rfl) ?_
      refine s_topi (bI_t (by decide)) ?_
      refine s_if_ne (tgt := 33) (tb_ok aX8_best_0 15 rfl) (by decide) (fun c27 => ?_) (fun c27 => ?_)
      · refine s_iconst (v := -1) (tb_ok aX8_best_0 18 rfl) (by decide) ?_
        refine s_istore (ls' := [some (.ref 66), some (.int (nI j)), some (.int (nI n)), some (.int (0)), some (.int (-1)), none, none, none]) (tb_ok aX8_best_0 19 rfl) rfl rfl ?_
        refine s_aload_n (tb_ok aX8_best_0 20 rfl) rfl ?_
        refine s_iload_n (tb_ok aX8_best_0 21 rfl) rfl ?_
        refine s_iconst (v := -1) (tb_ok aX8_best_0 22 rfl) (by decide) ?_
        refine s_iload_n (tb_ok aX8_best_0 23 rfl) rfl ?_
        refine s_iconst (v := 0) (tb_ok aX8_best_1 0 rfl) (by decide) ?_
        refine s_cV (as := [.int (nI j), .int (-1), .int (nI n), .int (0)]) (tb_ok aX8_best_1 1 rfl) v_RX8_406 (R_bsk h hd hj hn) (by decide) rfl rfl rfl rfl rfl (Nat.le_of_ble_eq_true rfl) (by decide) (fun r1 S1 I1 L1 R1 q1 => ?_)
        obtain ⟨rfl, rfl, rfl, hf4⟩ := q1
        refine s_name (fun x1 ex1 => ?_)
        refine s_istore (ls' := [some (.ref 66), some (.int (nI j)), some (.int (nI n)), some (.int (0)), some (.int (-1)), some (.int x1), none, none]) (tb_ok aX8_best_1 2 rfl) rfl rfl ?_
        refine s_iconst (v := nI 0) (tb_ok aX8_best_1 3 rfl) (by decide) ?_
        refine s_istore (ls' := [some (.ref 66), some (.int (nI j)), some (.int (nI n)), some (.int (0)), some (.int (-1)), some (.int x1), some (.int (nI 0)), none]) (tb_ok aX8_best_1 4 rfl) rfl rfl ?_
        have e0 : x1 = bskP sem fr fa m (nI d) (T j) 0 n := by rw [ex1]; show _ = T j 3 - itP sem fr fa m (nI d) (upd (T j) 2 (T j 2 ||| 0)) n 3; rw [or_0, upd_same]; rfl
        subst e0
        exact loop 0 (Nat.zero_le _) _ _ _ hf4
      · exact absurd c27 (by decide)

set_option maxRecDepth 100000 in
set_option maxHeartbeats 1000000 in
theorem R_best1 {X : En} {L : FL} {q : Nat × Nat} {I : FI} {m : Nat} {fr fa : Nat → Int32} {M : Nat} {T : Nat → Nat → Int32} {d : Nat} {sem : Nat → Sem} (h : RSt I m fr fa M T d sem) (hd : d ≤ 5000) {j : Nat} (hj : j < M) {n : Nat} (hn : n ≤ 40) : Ev X 60 mX8_best (0, 0) [.ref 66, .int (nI j), .int (nI n), .int (1)] S0 I L (R0 q) (AfZ q eB I ((mxS (fun k => wlI sem fr fa m (T j) (nI k) (nI d)) (fun k => bskP sem fr fa m (nI d) (T j) ((1 : Int32) <<< (nI k &&& 31)) n) (bskP sem fr fa m (nI d) (T j) 0 n) 12).2)) := by
  have hM5 := h.M5
  have hm0 : 0 ≤ bskP sem fr fa m (nI d) (T j) 0 n := by show 0 ≤ T j 3 - itP sem fr fa m (nI d) (upd (T j) 2 (T j 2 ||| 0)) n 3; rw [or_0, upd_same]; exact bsk_0 h.2.1 (h.ok hj) _ _
  have loop : ∀ k, k ≤ 12 → ∀ (I1 : FI), ∀ (L1 : FL), ∀ (o7 : Option Value), (FrE eB I1 I) → SW X 60 mX8_best (0, 0) 49 [some (.ref 66), some (.int (nI j)), some (.int (nI n)), some (.int (1)), some (.int (mxS (fun k => wlI sem fr fa m (T j) (nI k) (nI d)) (fun k => bskP sem fr fa m (nI d) (T j) ((1 : Int32) <<< (nI k &&& 31)) n) (bskP sem fr fa m (nI d) (T j) 0 n) k).1), some (.int (mxS (fun k => wlI sem fr fa m (T j) (nI k) (nI d)) (fun k => bskP sem fr fa m (nI d) (T j) ((1 : Int32) <<< (nI k &&& 31)) n) (bskP sem fr fa m (nI d) (T j) 0 n) k).2), some (.int (nI k)), o7] [] S0 I1 L1 (R0 q) (KQ X (AfZ q eB I ((mxS (fun k => wlI sem fr fa m (T j) (nI k) (nI d)) (fun k => bskP sem fr fa m (nI d) (T j) ((1 : Int32) <<< (nI k &&& 31)) n) (bskP sem fr fa m (nI d) (T j) 0 n) 12).2))) := by
    refine for_up (P := fun k => ∀ (I1 : FI), ∀ (L1 : FL), ∀ (o7 : Option Value), (FrE eB I1 I) → SW X 60 mX8_best (0, 0) 49 [some (.ref 66), some (.int (nI j)), some (.int (nI n)), some (.int (1)), some (.int (mxS (fun k => wlI sem fr fa m (T j) (nI k) (nI d)) (fun k => bskP sem fr fa m (nI d) (T j) ((1 : Int32) <<< (nI k &&& 31)) n) (bskP sem fr fa m (nI d) (T j) 0 n) k).1), some (.int (mxS (fun k => wlI sem fr fa m (T j) (nI k) (nI d)) (fun k => bskP sem fr fa m (nI d) (T j) ((1 : Int32) <<< (nI k &&& 31)) n) (bskP sem fr fa m (nI d) (T j) 0 n) k).2), some (.int (nI k)), o7] [] S0 I1 L1 (R0 q) (KQ X (AfZ q eB I ((mxS (fun k => wlI sem fr fa m (T j) (nI k) (nI d)) (fun k => bskP sem fr fa m (nI d) (T j) ((1 : Int32) <<< (nI k &&& 31)) n) (bskP sem fr fa m (nI d) (T j) 0 n) 12).2)))) 12 ?_ ?_
    · intro I1 L1 o7 hi
      refine s_iload (tb_ok aX8_best_1 5 rfl) rfl ?_
      refine s_bipush (v := nI 12) (tb_ok aX8_best_1 6 rfl) (by decide) ?_
      refine s_icmp_ge (tgt := 112) (tb_ok aX8_best_1 7 rfl) (by decide) (fun c53 => ?_) (fun c53 => ?_)
      · refine s_iload_n (tb_ok aX8_best_2 12 rfl) rfl ?_
        refine s_if_ne (tgt := 121) (tb_ok aX8_best_2 13 rfl) (by decide) (fun c113 => ?_) (fun c113 => ?_)
        · refine s_iload (tb_ok aX8_best_2 16 rfl) rfl ?_
          refine s_iret (tb_ok aX8_best_2 17 rfl) rfl ?_
          exact afZ rfl hi
        · exact absurd c113 (by decide)
      · exact absurd c53 (by decide)
    · intro k hk ih I1 L1 o7 hi
      have h1 := h.see (see_eB hi)
      refine s_iload (tb_ok aX8_best_1 5 rfl) rfl ?_
      refine s_bipush (v := nI 12) (tb_ok aX8_best_1 6 rfl) (by decide) ?_
      refine s_icmp_ge (tgt := 112) (tb_ok aX8_best_1 7 rfl) (by decide) (fun c53 => ?_) (fun c53 => ?_)
      · simp (disch := omega) only [nI_ltI, nI_leI, nI_eq] at c53
        omega
      · refine s_aload_n (tb_ok aX8_best_1 8 rfl) rfl ?_
        refine s_iload_n (tb_ok aX8_best_1 9 rfl) rfl ?_
        refine s_iload (tb_ok aX8_best_1 10 rfl) rfl ?_
        refine s_cVp (as := [.int (nI j), .int (nI k)]) (tb_ok aX8_best_1 11 rfl) v_RX8_372 (R_knowsIt h1 hj _) (by decide) rfl rfl rfl rfl rfl (Nat.le_of_ble_eq_true rfl) (by decide) ?_
        refine s_if_ne (tgt := 76) (tb_ok aX8_best_1 12 rfl) (by decide) (fun c63 => ?_) (fun c63 => ?_)
        · refine s_iconst (v := -1) (tb_ok aX8_best_1 18 rfl) (by decide) ?_
          refine s_goto (tgt := 89) (tb_ok aX8_best_1 19 rfl) (by decide) ?_
          refine s_istore (ls' := [some (.ref 66), some (.int (nI j)), some (.int (nI n)), some (.int (1)), some (.int (mxS (fun k => wlI sem fr fa m (T j) (nI k) (nI d)) (fun k => bskP sem fr fa m (nI d) (T j) ((1 : Int32) <<< (nI k &&& 31)) n) (bskP sem fr fa m (nI d) (T j) 0 n) k).1), some (.int (mxS (fun k => wlI sem fr fa m (T j) (nI k) (nI d)) (fun k => bskP sem fr fa m (nI d) (T j) ((1 : Int32) <<< (nI k &&& 31)) n) (bskP sem fr fa m (nI d) (T j) 0 n) k).2), some (.int (nI k)), some (.int (-1))]) (tb_ok aX8_best_2 2 rfl) rfl rfl ?_
          refine s_iload (tb_ok aX8_best_2 3 rfl) rfl ?_
          refine s_iload (tb_ok aX8_best_2 4 rfl) rfl ?_
          refine s_icmp_le (tgt := 106) (tb_ok aX8_best_2 5 rfl) (by decide) (fun c95 => ?_) (fun c95 => ?_)
          · refine s_iinc (v := nI (k + 1)) (ls' := [some (.ref 66), some (.int (nI j)), some (.int (nI n)), some (.int (1)), some (.int (mxS (fun k => wlI sem fr fa m (T j) (nI k) (nI d)) (fun k => bskP sem fr fa m (nI d) (T j) ((1 : Int32) <<< (nI k &&& 31)) n) (bskP sem fr fa m (nI d) (T j) 0 n) k).1), some (.int (mxS (fun k => wlI sem fr fa m (T j) (nI k) (nI d)) (fun k => bskP sem fr fa m (nI d) (T j) ((1 : Int32) <<< (nI k &&& 31)) n) (bskP sem fr fa m (nI d) (T j) 0 n) k).2), some (.int (nI (k + 1))), some (.int (-1))]) (tb_ok aX8_best_2 10 rfl) rfl (nI_1 _) rfl rfl ?_
            refine s_goto (tgt := 49) (tb_ok aX8_best_2 11 rfl) (by decide) ?_
            have hw : ¬ ¬ wlI sem fr fa m (T j) (nI k) (nI d) = 0 := fun h_ => by have h__ := wl_ne.mp h_; first | exact c63 h__.1 | exact h__.2 c73
            refine s_ls ?_ (ih _ _ (some (.int (-1))) hi)
            rw [show (mxS (fun k => wlI sem fr fa m (T j) (nI k) (nI d)) (fun k => bskP sem fr fa m (nI d) (T j) ((1 : Int32) <<< (nI k &&& 31)) n) (bskP sem fr fa m (nI d) (T j) 0 n) (k + 1)) = (mxS (fun k => wlI sem fr fa m (T j) (nI k) (nI d)) (fun k => bskP sem fr fa m (nI d) (T j) ((1 : Int32) <<< (nI k &&& 31)) n) (bskP sem fr fa m (nI d) (T j) 0 n) k) from if_neg (fun h_ => hw h_.1)]
          · have h0_ := mxS_0 (ok := (fun k => wlI sem fr fa m (T j) (nI k) (nI d))) (v := (fun k => bskP sem fr fa m (nI d) (T j) ((1 : Int32) <<< (nI k &&& 31)) n)) hm0 k
            exact absurd (Int32.le_trans (by decide) h0_) c95
        · refine s_aload_n (tb_ok aX8_best_1 13 rfl) rfl ?_
          refine s_iload_n (tb_ok aX8_best_1 14 rfl) rfl ?_
          refine s_iload (tb_ok aX8_best_1 15 rfl) rfl ?_
          refine s_cV (as := [.int (nI j), .int (nI k)]) (tb_ok aX8_best_1 16 rfl) v_RX8_375 (R_takes h1 hj _) (by decide) rfl rfl rfl rfl rfl (Nat.le_of_ble_eq_true rfl) (by decide) (fun r1 S1 I1 L1 R1 q1 => ?_)
          obtain ⟨rfl, rfl, rfl, hf6⟩ := q1
          have h6 := RSt.see h1 (see_eS hf6)
          refine s_if_ne (tgt := 80) (tb_ok aX8_best_1 17 rfl) (by decide) (fun c73 => ?_) (fun c73 => ?_)
          · refine s_aload_n (tb_ok aX8_best_1 20 rfl) rfl ?_
            refine s_iload_n (tb_ok aX8_best_1 21 rfl) rfl ?_
            refine s_iload (tb_ok aX8_best_1 22 rfl) rfl ?_
            refine s_iload_n (tb_ok aX8_best_1 23 rfl) rfl ?_
            refine s_iconst (v := 0) (tb_ok aX8_best_2 0 rfl) (by decide) ?_
            refine s_cV (as := [.int (nI j), .int (nI k), .int (nI n), .int (0)]) (tb_ok aX8_best_2 1 rfl) v_RX8_406 (R_bskH h6 hd hj hk hn) (by decide) rfl rfl rfl rfl rfl (Nat.le_of_ble_eq_true rfl) (by decide) (fun r2 S2 I2 L2 R2 q2 => ?_)
            obtain ⟨rfl, rfl, rfl, hf4⟩ := q2
            refine s_name (fun x1 ex1 => ?_)
            refine s_istore (ls' := [some (.ref 66), some (.int (nI j)), some (.int (nI n)), some (.int (1)), some (.int (mxS (fun k => wlI sem fr fa m (T j) (nI k) (nI d)) (fun k => bskP sem fr fa m (nI d) (T j) ((1 : Int32) <<< (nI k &&& 31)) n) (bskP sem fr fa m (nI d) (T j) 0 n) k).1), some (.int (mxS (fun k => wlI sem fr fa m (T j) (nI k) (nI d)) (fun k => bskP sem fr fa m (nI d) (T j) ((1 : Int32) <<< (nI k &&& 31)) n) (bskP sem fr fa m (nI d) (T j) 0 n) k).2), some (.int (nI k)), some (.int x1)]) (tb_ok aX8_best_2 2 rfl) rfl rfl ?_
            refine s_iload (tb_ok aX8_best_2 3 rfl) rfl ?_
            refine s_iload (tb_ok aX8_best_2 4 rfl) rfl ?_
            refine s_icmp_le (tgt := 106) (tb_ok aX8_best_2 5 rfl) (by decide) (fun c95 => ?_) (fun c95 => ?_)
            · refine s_iinc (v := nI (k + 1)) (ls' := [some (.ref 66), some (.int (nI j)), some (.int (nI n)), some (.int (1)), some (.int (mxS (fun k => wlI sem fr fa m (T j) (nI k) (nI d)) (fun k => bskP sem fr fa m (nI d) (T j) ((1 : Int32) <<< (nI k &&& 31)) n) (bskP sem fr fa m (nI d) (T j) 0 n) k).1), some (.int (mxS (fun k => wlI sem fr fa m (T j) (nI k) (nI d)) (fun k => bskP sem fr fa m (nI d) (T j) ((1 : Int32) <<< (nI k &&& 31)) n) (bskP sem fr fa m (nI d) (T j) 0 n) k).2), some (.int (nI (k + 1))), some (.int x1)]) (tb_ok aX8_best_2 10 rfl) rfl (nI_1 _) rfl rfl ?_
              refine s_goto (tgt := 49) (tb_ok aX8_best_2 11 rfl) (by decide) ?_
              have hw : ¬ wlI sem fr fa m (T j) (nI k) (nI d) = 0 := wl_ne.mpr ⟨c63, c73⟩
              have ev : x1 = bskP sem fr fa m (nI d) (T j) ((1 : Int32) <<< (nI k &&& 31)) n := by rw [ex1]; unfold itT; rw [uT_o, hea_yes hw]; rfl
              refine s_ls ?_ (ih _ _ (some (.int x1)) ((hf4.trans (eS_eB hf6)).trans hi))
              rw [ev] at c95
              rw [show (mxS (fun k => wlI sem fr fa m (T j) (nI k) (nI d)) (fun k => bskP sem fr fa m (nI d) (T j) ((1 : Int32) <<< (nI k &&& 31)) n) (bskP sem fr fa m (nI d) (T j) 0 n) (k + 1)) = (mxS (fun k => wlI sem fr fa m (T j) (nI k) (nI d)) (fun k => bskP sem fr fa m (nI d) (T j) ((1 : Int32) <<< (nI k &&& 31)) n) (bskP sem fr fa m (nI d) (T j) 0 n) k) from if_neg (fun h_ => Int32.not_lt.mpr c95 h_.2)]
            · refine s_iload (tb_ok aX8_best_2 6 rfl) rfl ?_
              refine s_istore (ls' := [some (.ref 66), some (.int (nI j)), some (.int (nI n)), some (.int (1)), some (.int (nI k)), some (.int (mxS (fun k => wlI sem fr fa m (T j) (nI k) (nI d)) (fun k => bskP sem fr fa m (nI d) (T j) ((1 : Int32) <<< (nI k &&& 31)) n) (bskP sem fr fa m (nI d) (T j) 0 n) k).2), some (.int (nI k)), some (.int x1)]) (tb_ok aX8_best_2 7 rfl) rfl rfl ?_
              refine s_iload (tb_ok aX8_best_2 8 rfl) rfl ?_
              refine s_istore (ls' := [some (.ref 66), some (.int (nI j)), some (.int (nI n)), some (.int (1)), some (.int (nI k)), some (.int x1), some (.int (nI k)), some (.int x1)]) (tb_ok aX8_best_2 9 rfl) rfl rfl ?_
              refine s_iinc (v := nI (k + 1)) (ls' := [some (.ref 66), some (.int (nI j)), some (.int (nI n)), some (.int (1)), some (.int (nI k)), some (.int x1), some (.int (nI (k + 1))), some (.int x1)]) (tb_ok aX8_best_2 10 rfl) rfl (nI_1 _) rfl rfl ?_
              refine s_goto (tgt := 49) (tb_ok aX8_best_2 11 rfl) (by decide) ?_
              have hw : ¬ wlI sem fr fa m (T j) (nI k) (nI d) = 0 := wl_ne.mpr ⟨c63, c73⟩
              have ev : x1 = bskP sem fr fa m (nI d) (T j) ((1 : Int32) <<< (nI k &&& 31)) n := by rw [ex1]; unfold itT; rw [uT_o, hea_yes hw]; rfl
              refine s_ls ?_ (ih _ _ (some (.int x1)) ((hf4.trans (eS_eB hf6)).trans hi))
              rw [ev] at c95
              rw [show (mxS (fun k => wlI sem fr fa m (T j) (nI k) (nI d)) (fun k => bskP sem fr fa m (nI d) (T j) ((1 : Int32) <<< (nI k &&& 31)) n) (bskP sem fr fa m (nI d) (T j) 0 n) (k + 1)) = (nI k, bskP sem fr fa m (nI d) (T j) ((1 : Int32) <<< (nI k &&& 31)) n) from if_pos ⟨hw, Int32.not_le.mp c95⟩, ev]
          · refine s_iconst (v := -1) (tb_ok aX8_best_1 18 rfl) (by decide) ?_
            refine s_goto (tgt := 89) (tb_ok aX8_best_1 19 rfl) (by decide) ?_
            refine s_istore (ls' := [some (.ref 66), some (.int (nI j)), some (.int (nI n)), some (.int (1)), some (.int (mxS (fun k => wlI sem fr fa m (T j) (nI k) (nI d)) (fun k => bskP sem fr fa m (nI d) (T j) ((1 : Int32) <<< (nI k &&& 31)) n) (bskP sem fr fa m (nI d) (T j) 0 n) k).1), some (.int (mxS (fun k => wlI sem fr fa m (T j) (nI k) (nI d)) (fun k => bskP sem fr fa m (nI d) (T j) ((1 : Int32) <<< (nI k &&& 31)) n) (bskP sem fr fa m (nI d) (T j) 0 n) k).2), some (.int (nI k)), some (.int (-1))]) (tb_ok aX8_best_2 2 rfl) rfl rfl ?_
            refine s_iload (tb_ok aX8_best_2 3 rfl) rfl ?_
            refine s_iload (tb_ok aX8_best_2 4 rfl) rfl ?_
            refine s_icmp_le (tgt := 106) (tb_ok aX8_best_2 5 rfl) (by decide) (fun c95 => ?_) (fun c95 => ?_)
            · refine s_iinc (v := nI (k + 1)) (ls' := [some (.ref 66), some (.int (nI j)), some (.int (nI n)), some (.int (1)), some (.int (mxS (fun k => wlI sem fr fa m (T j) (nI k) (nI d)) (fun k => bskP sem fr fa m (nI d) (T j) ((1 : Int32) <<< (nI k &&& 31)) n) (bskP sem fr fa m (nI d) (T j) 0 n) k).1), some (.int (mxS (fun k => wlI sem fr fa m (T j) (nI k) (nI d)) (fun k => bskP sem fr fa m (nI d) (T j) ((1 : Int32) <<< (nI k &&& 31)) n) (bskP sem fr fa m (nI d) (T j) 0 n) k).2), some (.int (nI (k + 1))), some (.int (-1))]) (tb_ok aX8_best_2 10 rfl) rfl (nI_1 _) rfl rfl ?_
              refine s_goto (tgt := 49) (tb_ok aX8_best_2 11 rfl) (by decide) ?_
              have hw : ¬ ¬ wlI sem fr fa m (T j) (nI k) (nI d) = 0 := fun h_ => by have h__ := wl_ne.mp h_; first | exact c63 h__.1 | exact h__.2 c73
              refine s_ls ?_ (ih _ _ (some (.int (-1))) ((eS_eB hf6).trans hi))
              rw [show (mxS (fun k => wlI sem fr fa m (T j) (nI k) (nI d)) (fun k => bskP sem fr fa m (nI d) (T j) ((1 : Int32) <<< (nI k &&& 31)) n) (bskP sem fr fa m (nI d) (T j) 0 n) (k + 1)) = (mxS (fun k => wlI sem fr fa m (T j) (nI k) (nI d)) (fun k => bskP sem fr fa m (nI d) (T j) ((1 : Int32) <<< (nI k &&& 31)) n) (bskP sem fr fa m (nI d) (T j) 0 n) k) from if_neg (fun h_ => hw h_.1)]
            · have h0_ := mxS_0 (ok := (fun k => wlI sem fr fa m (T j) (nI k) (nI d))) (v := (fun k => bskP sem fr fa m (nI d) (T j) ((1 : Int32) <<< (nI k &&& 31)) n)) hm0 k
              exact absurd (Int32.le_trans (by decide) h0_) c95
  refine ev_of (by decide +kernel) rfl ?_
  show SW X _ _ _ 0 [some (.ref 66), some (.int (nI j)), some (.int (nI n)), some (.int (1)), none, none, none, none] [] S0 I L (R0 q) _
  refine s_aload_n (tb_ok aX8_best_0 0 rfl) rfl ?_
  refine s_iload_n (tb_ok aX8_best_0 1 rfl) rfl ?_
  refine s_cVp (as := [.int (nI j)]) (tb_ok aX8_best_0 2 rfl) v_RX8_90 (R_isHouse h.mn _) (by decide) rfl rfl rfl rfl rfl (Nat.le_of_ble_eq_true rfl) (by decide) ?_
  refine s_topi (bI_t (vH_t hj hM5)) ?_
  refine s_if_eq (tgt := 30) (tb_ok aX8_best_0 3 rfl) (by decide) (fun c5 => ?_) (fun c5 => ?_)
  · exact absurd c5 (by decide)
  · refine s_iload_n (tb_ok aX8_best_0 4 rfl) rfl ?_
    refine s_i2l (tb_ok aX8_best_0 5 rfl) ?_
    refine s_lconst (v := 0) (tb_ok aX8_best_0 6 rfl) (by decide) ?_
    refine s_ldc2 (tb_ok aX8_best_0 7 rfl) k_RX8_387 ?_
    refine s_cSp (as := [_, .long (0), .long (40)]) (tb_ok aX8_best_0 8 rfl) v_RX8_73 (R_in _ _ _) (by decide) rfl rfl (Nat.le_of_ble_eq_true rfl) ?_
    refine s_topi (bI_t ((in_iff (x := nI n) (lo := 0) (hi := 40) rfl (by decide) (by decide)).mpr (inN (hi := 40) hn (by decide)))) ?_
    refine s_if_eq (tgt := 30) (tb_ok aX8_best_0 9 rfl) (by decide) (fun c17 => ?_) (fun c17 => ?_)
    · exact absurd c17 (by decide)
    · refine s_iload_n (tb_ok aX8_best_0 10 rfl) rfl ?_
      refine s_i2l (tb_ok aX8_best_0 11 rfl) ?_
      refine s_lconst (v := 0) (tb_ok aX8_best_0 12 rfl) (by decide) ?_
      refine s_lconst (v := 1) (tb_ok aX8_best_0 13 rfl) (by decide) ?_
      refine s_cSp (as := [_, .long (0), .long (1)]) (tb_ok aX8_best_0 14 rfl) v_RX8_73 (R_in _ _ _) (by decide) rfl rfl (Nat.le_of_ble_eq_true rfl) ?_
      refine s_topi (bI_t (by decide)) ?_
      refine s_if_ne (tgt := 33) (tb_ok aX8_best_0 15 rfl) (by decide) (fun c27 => ?_) (fun c27 => ?_)
      · refine s_iconst (v := -1) (tb_ok aX8_best_0 18 rfl) (by decide) ?_
        refine s_istore (ls' := [some (.ref 66), some (.int (nI j)), some (.int (nI n)), some (.int (1)), some (.int (-1)), none, none, none]) (tb_ok aX8_best_0 19 rfl) rfl rfl ?_
        refine s_aload_n (tb_ok aX8_best_0 20 rfl) rfl ?_
        refine s_iload_n (tb_ok aX8_best_0 21 rfl) rfl ?_
        refine s_iconst (v := -1) (tb_ok aX8_best_0 22 rfl) (by decide) ?_
        refine s_iload_n (tb_ok aX8_best_0 23 rfl) rfl ?_
        refine s_iconst (v := 0) (tb_ok aX8_best_1 0 rfl) (by decide) ?_
        refine s_cV (as := [.int (nI j), .int (-1), .int (nI n), .int (0)]) (tb_ok aX8_best_1 1 rfl) v_RX8_406 (R_bsk h hd hj hn) (by decide) rfl rfl rfl rfl rfl (Nat.le_of_ble_eq_true rfl) (by decide) (fun r1 S1 I1 L1 R1 q1 => ?_)
        obtain ⟨rfl, rfl, rfl, hf4⟩ := q1
        refine s_name (fun x1 ex1 => ?_)
        refine s_istore (ls' := [some (.ref 66), some (.int (nI j)), some (.int (nI n)), some (.int (1)), some (.int (-1)), some (.int x1), none, none]) (tb_ok aX8_best_1 2 rfl) rfl rfl ?_
        refine s_iconst (v := nI 0) (tb_ok aX8_best_1 3 rfl) (by decide) ?_
        refine s_istore (ls' := [some (.ref 66), some (.int (nI j)), some (.int (nI n)), some (.int (1)), some (.int (-1)), some (.int x1), some (.int (nI 0)), none]) (tb_ok aX8_best_1 4 rfl) rfl rfl ?_
        have e0 : x1 = bskP sem fr fa m (nI d) (T j) 0 n := by rw [ex1]; show _ = T j 3 - itP sem fr fa m (nI d) (upd (T j) 2 (T j 2 ||| 0)) n 3; rw [or_0, upd_same]; rfl
        subst e0
        exact loop 0 (Nat.zero_le _) _ _ _ hf4
      · exact absurd c27 (by decide)

set_option maxRecDepth 100000 in
set_option maxHeartbeats 1000000 in
theorem R_bestB {X : En} {L : FL} {q : Nat × Nat} {I : FI} {m : Nat} {fr fa : Nat → Int32} {M : Nat} {T : Nat → Nat → Int32} {d : Nat} {sem : Nat → Sem} (h : RSt I m fr fa M T d sem) {x z w : Int32} (hv : ¬ (vH x M ∧ (¬ z < 0 ∧ ¬ 40 < z) ∧ (¬ w < 0 ∧ ¬ 1 < w))) : Ev X 60 mX8_best (0, 0) [.ref 66, .int x, .int z, .int w] S0 I L (R0 q) (AfZ q eB I (-2)) := by
  have hM5 := h.M5
  refine ev_of (by decide +kernel) rfl ?_
  show SW X _ _ _ 0 [some (.ref 66), some (.int x), some (.int z), some (.int w), none, none, none, none] [] S0 I L (R0 q) _
  refine s_aload_n (tb_ok aX8_best_0 0 rfl) rfl ?_
  refine s_iload_n (tb_ok aX8_best_0 1 rfl) rfl ?_
  refine s_cVp (as := [.int x]) (tb_ok aX8_best_0 2 rfl) v_RX8_90 (R_isHouse h.mn _) (by decide) rfl rfl rfl rfl rfl (Nat.le_of_ble_eq_true rfl) (by decide) ?_
  refine s_if_eq (tgt := 30) (tb_ok aX8_best_0 3 rfl) (by decide) (fun c5 => ?_) (fun c5 => ?_)
  · refine s_bipush (v := -2) (tb_ok aX8_best_0 16 rfl) (by decide) ?_
    refine s_iret (tb_ok aX8_best_0 17 rfl) rfl ?_
    exact afZ rfl FrE.refl
  · refine s_iload_n (tb_ok aX8_best_0 4 rfl) rfl ?_
    refine s_i2l (tb_ok aX8_best_0 5 rfl) ?_
    refine s_lconst (v := 0) (tb_ok aX8_best_0 6 rfl) (by decide) ?_
    refine s_ldc2 (tb_ok aX8_best_0 7 rfl) k_RX8_387 ?_
    refine s_cSp (as := [_, .long (0), .long (40)]) (tb_ok aX8_best_0 8 rfl) v_RX8_73 (R_in _ _ _) (by decide) rfl rfl (Nat.le_of_ble_eq_true rfl) ?_
    refine s_topi (bI_congr (in_iff (lo := 0) (hi := 40) rfl (by decide) (by decide))) ?_
    refine s_if_eq (tgt := 30) (tb_ok aX8_best_0 9 rfl) (by decide) (fun c17 => ?_) (fun c17 => ?_)
    · refine s_bipush (v := -2) (tb_ok aX8_best_0 16 rfl) (by decide) ?_
      refine s_iret (tb_ok aX8_best_0 17 rfl) rfl ?_
      exact afZ rfl FrE.refl
    · refine s_iload_n (tb_ok aX8_best_0 10 rfl) rfl ?_
      refine s_i2l (tb_ok aX8_best_0 11 rfl) ?_
      refine s_lconst (v := 0) (tb_ok aX8_best_0 12 rfl) (by decide) ?_
      refine s_lconst (v := 1) (tb_ok aX8_best_0 13 rfl) (by decide) ?_
      refine s_cSp (as := [_, .long (0), .long (1)]) (tb_ok aX8_best_0 14 rfl) v_RX8_73 (R_in _ _ _) (by decide) rfl rfl (Nat.le_of_ble_eq_true rfl) ?_
      refine s_topi (bI_congr (in_iff (lo := 0) (hi := 1) rfl (by decide) (by decide))) ?_
      refine s_if_ne (tgt := 33) (tb_ok aX8_best_0 15 rfl) (by decide) (fun c27 => ?_) (fun c27 => ?_)
      · exact absurd ⟨bI_n c5, bI_n c17, bI_n c27⟩ hv
      · refine s_bipush (v := -2) (tb_ok aX8_best_0 16 rfl) (by decide) ?_
        refine s_iret (tb_ok aX8_best_0 17 rfl) rfl ?_
        exact afZ rfl FrE.refl
