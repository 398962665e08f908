/-! the reference: films, copies, houses told by a sheet, images -/
theorem see_78 {A I : FI} (h : ∀ o k, o < 74 → A o k = I o k) : Sees A I := ⟨h _ _ (by omega), h _ _ (by omega), h _ _ (by omega), h _ _ (by omega), fun k => ⟨h _ _ (by omega), h _ _ (by omega), h _ _ (by omega), h _ _ (by omega), h _ _ (by omega), h _ _ (by omega)⟩⟩
theorem Mid.put {I A : FI} (h : Mid I A) {o : Nat} (ho : 74 < o) (k : Nat) (v : Int32) : Mid (up2 I o k v) (up2 A o k v) := by
  refine ⟨fun i hi => ?_, ?_, fun a j hn => ?_⟩
  · rw [up2_nn _ _ (fun e => by omega), up2_nn _ _ (fun e => by omega)]; exact h.1 i hi
  · rw [up2_nn _ _ (fun e => by omega), up2_nn _ _ (fun e => by omega)]; exact h.2.1
  · by_cases e : a = o ∧ j = k
    · rw [e.1, e.2, up2_oo, up2_oo]
    · rw [up2_nn _ _ e, up2_nn _ _ e]; exact h.2.2 a j hn
theorem flO_c {I : FI} {o p : Nat} {g h : Nat → Int32} {k : Nat} {x : Int32} (hop : o ≠ p) (hx : x = g k) : up2 (flO (flO I o g k) p h k) o k x = flO (flO I o g (k + 1)) p h k := by
  funext a j
  by_cases e : a = o ∧ j = k
  · obtain ⟨e1, e2⟩ := e
    subst e1 e2
    rw [up2_oo]
    unfold flO
    rw [if_neg (by omega), if_pos (by omega), hx]
  · rw [up2_nn _ _ e]
    unfold flO
    by_cases h1 : a = p ∧ j < k
    · rw [if_pos h1, if_pos h1]
    · rw [if_neg h1, if_neg h1]
      by_cases h2 : a = o ∧ j < k
      · rw [if_pos h2, if_pos ⟨h2.1, by omega⟩]
      · rw [if_neg h2, if_neg (fun h3 => h2 ⟨h3.1, by
          rcases Nat.lt_or_eq_of_le (Nat.le_of_lt_succ h3.2) with h4 | h4
          · exact h4
          · exact absurd ⟨h3.1, h4⟩ e⟩)]
def flmW (I : FI) (s n : Nat) : FI := flB (up2 (up2 (up2 I 78 s 1) 79 s 0) 80 s (nI n)) 81 (40 * s) (fun _ => 0) n
set_option maxRecDepth 100000 in
set_option maxHeartbeats 1000000 in
theorem R_film {X : En} {L : FL} {q : Nat × Nat} {I : FI} {m : Nat} {fr fa : Nat → Int32} {M : Nat} {T : Nat → Nat → Int32} {d : Nat} {sem : Nat → Sem} (h : RSt I m fr fa M T d sem) (hd : d ≤ 5000) {j : Nat} (hj : j < M) {s n : Nat} (hs : s < 4) (hn : n ≤ 20) : Ev X 60 mX8_film (0, 0) [.ref 66, .int (nI s), .int (nI j), .int (nI n)] S0 I L (R0 q) (AfI q (some (.int (nI n))) (fun I' => FrE eB I' (flB (flmW I s n) 81 (40 * s) (fun t => itP sem fr fa m (nI d) (T j) (t + 1) 3) n))) := by
  have hM5 := h.M5
  have loop : ∀ k, k ≤ n → ∀ (I1 : FI), ∀ (L1 : FL), (RSt I1 m fr fa M (itT sem fr fa m d T k) (d + k) sem) → (Mid (flB (flmW I s n) 81 (40 * s) (fun t => itP sem fr fa m (nI d) (T j) (t + 1) 3) k) I1) → SW X 60 mX8_film (0, 0) 45 [some (.ref 66), some (.int (nI s)), some (.int (nI j)), some (.int (nI n)), some (.int (nI k))] [] S0 I1 L1 (R0 q) (KQ X (AfI q (some (.int (nI n))) (fun I' => FrE eB I' (flB (flmW I s n) 81 (40 * s) (fun t => itP sem fr fa m (nI d) (T j) (t + 1) 3) n)))) := by
    refine for_up (P := fun k => ∀ (I1 : FI), ∀ (L1 : FL), (RSt I1 m fr fa M (itT sem fr fa m d T k) (d + k) sem) → (Mid (flB (flmW I s n) 81 (40 * s) (fun t => itP sem fr fa m (nI d) (T j) (t + 1) 3) k) I1) → SW X 60 mX8_film (0, 0) 45 [some (.ref 66), some (.int (nI s)), some (.int (nI j)), some (.int (nI n)), some (.int (nI k))] [] S0 I1 L1 (R0 q) (KQ X (AfI q (some (.int (nI n))) (fun I' => FrE eB I' (flB (flmW I s n) 81 (40 * s) (fun t => itP sem fr fa m (nI d) (T j) (t + 1) 3) n))))) n ?_ ?_
    · intro I1 L1 hi hi1
      refine s_iload (tb_ok aX8_film_1 1 rfl) rfl ?_
      refine s_iload_n (tb_ok aX8_film_1 2 rfl) rfl ?_
      refine s_icmp_ge (tgt := 84) (tb_ok aX8_film_1 3 rfl) (by decide) (fun c48 => ?_) (fun c48 => ?_)
      · refine s_aload_n (tb_ok aX8_film_2 1 rfl) rfl ?_
        refine s_cV (as := []) (tb_ok aX8_film_2 2 rfl) v_RX8_397 (R_laysBack) (by decide) rfl rfl rfl rfl rfl (Nat.le_of_ble_eq_true rfl) (by decide) (fun r1 S1 I1 L1 R1 q1 => ?_)
        obtain ⟨rfl, rfl, rfl, rfl, rfl⟩ := q1
        refine s_iload_n (tb_ok aX8_film_2 3 rfl) rfl ?_
        refine s_iret (tb_ok aX8_film_2 4 rfl) rfl ?_
        exact ⟨rfl, rfl, rfl, hi1.back⟩
      · simp (disch := omega) only [nI_ltI, nI_leI, nI_eq] at c48
        omega
    · intro k hk ih I1 L1 hi hi1
      refine s_iload (tb_ok aX8_film_1 1 rfl) rfl ?_
      refine s_iload_n (tb_ok aX8_film_1 2 rfl) rfl ?_
      refine s_icmp_ge (tgt := 84) (tb_ok aX8_film_1 3 rfl) (by decide) (fun c48 => ?_) (fun c48 => ?_)
      · simp (disch := omega) only [nI_ltI, nI_leI, nI_eq] at c48
        omega
      · refine s_aload_n (tb_ok aX8_film_1 4 rfl) rfl ?_
        refine s_cV (as := []) (tb_ok aX8_film_1 5 rfl) v_RX8_381 (R_passes hi (by omega)) (by decide) rfl rfl rfl rfl rfl (Nat.le_of_ble_eq_true rfl) (by decide) (fun r1 S1 I1 L1 R1 q1 => ?_)
        obtain ⟨rfl, rfl, rfl, hp, hpf⟩ := q1
        have hp := hp.its
        refine s_pop (tb_ok aX8_film_1 6 rfl) rfl ?_
        refine s_aload_n (tb_ok aX8_film_1 7 rfl) rfl ?_
        refine s_getR (r := 81) (tb_ok aX8_film_1 8 rfl) f_RX8_60 rfl rfl rfl ?_
        refine s_bipush (v := 40) (tb_ok aX8_film_1 9 rfl) (by decide) ?_
        refine s_iload_n (tb_ok aX8_film_1 10 rfl) rfl ?_
        refine s_imul (tb_ok aX8_film_1 11 rfl) ?_
        refine s_topi (z := (nI (40 * s))) (nI_mul 40 s) ?_
        refine s_iload (tb_ok aX8_film_1 12 rfl) rfl ?_
        refine s_iadd (tb_ok aX8_film_1 13 rfl) ?_
        refine s_topi (z := (nI (40 * s + k))) (nI_add' (40 * s) k) ?_
        refine s_aload_n (tb_ok aX8_film_1 14 rfl) rfl ?_
        refine s_getR (r := 73) (tb_ok aX8_film_1 15 rfl) f_RX8_32 rfl rfl rfl ?_
        refine s_iconst (v := 4) (tb_ok aX8_film_1 16 rfl) (by decide) ?_
        refine s_iload_n (tb_ok aX8_film_1 17 rfl) rfl ?_
        refine s_imul (tb_ok aX8_film_1 18 rfl) ?_
        refine s_topi (z := (nI (4 * j))) (nI_mul 4 j) ?_
        refine s_iconst (v := 2) (tb_ok aX8_film_1 19 rfl) (by decide) ?_
        refine s_iadd (tb_ok aX8_film_1 20 rfl) ?_
        refine s_topi (z := (nI (4 * j + 2))) (nI_add' (4 * j) 2) ?_
        refine s_ialdX (x := ((itT sem fr fa m d T (k + 1)) j 3)) (tb_ok aX8_film_1 21 rfl) rfl (by omega) (by decide) (hp.c3 hj) ?_
        refine s_iastN (tb_ok aX8_film_1 22 rfl) rfl (by omega) (by decide) ?_
        refine s_iinc (v := nI (k + 1)) (ls' := [some (.ref 66), some (.int (nI s)), some (.int (nI j)), some (.int (nI n)), some (.int (nI (k + 1)))]) (tb_ok aX8_film_1 23 rfl) rfl (nI_1 _) rfl rfl ?_
        refine s_goto (tgt := 45) (tb_ok aX8_film_2 0 rfl) (by decide) ?_
        refine ih _ _ (hp.see (see_78 (fun o k2 ho => up2_nn _ _ (fun e => by omega)))) ?_
        rw [← flB_s (g := (fun t => itP sem fr fa m (nI d) (T j) (t + 1) 3)) (k := k) (x := itT sem fr fa m d T (k + 1) j 3) rfl]
        exact (hi1.go hpf).put (by decide) _ _
  refine ev_of (by decide +kernel) rfl ?_
  show SW X _ _ _ 0 [some (.ref 66), some (.int (nI s)), some (.int (nI j)), some (.int (nI n)), none] [] S0 I L (R0 q) _
  refine s_iload_n (tb_ok aX8_film_0 0 rfl) rfl ?_
  refine s_cSp (as := [.int (nI s)]) (tb_ok aX8_film_0 1 rfl) v_RX8_413 (R_isSheet _) (by decide) rfl rfl (Nat.le_of_ble_eq_true rfl) ?_
  refine s_topi (bI_t (inN (n := s) (hi := 3) (by omega) (by decide))) ?_
  refine s_if_eq (tgt := 27) (tb_ok aX8_film_0 2 rfl) (by decide) (fun c4 => ?_) (fun c4 => ?_)
  · exact absurd c4 (by decide)
  · refine s_aload_n (tb_ok aX8_film_0 3 rfl) rfl ?_
    refine s_iload_n (tb_ok aX8_film_0 4 rfl) rfl ?_
    refine s_cVp (as := [.int (nI j)]) (tb_ok aX8_film_0 5 rfl) v_RX8_90 (R_isHouse h.mn _) (by decide) rfl rfl rfl rfl rfl (Nat.le_of_ble_eq_true rfl) (by decide) ?_
    refine s_topi (bI_t (vH_t hj hM5)) ?_
    refine s_if_eq (tgt := 27) (tb_ok aX8_film_0 6 rfl) (by decide) (fun c12 => ?_) (fun c12 => ?_)
    · exact absurd c12 (by decide)
    · refine s_iload_n (tb_ok aX8_film_0 7 rfl) rfl ?_
      refine s_i2l (tb_ok aX8_film_0 8 rfl) ?_
      refine s_lconst (v := 0) (tb_ok aX8_film_0 9 rfl) (by decide) ?_
      refine s_ldc2 (tb_ok aX8_film_0 10 rfl) k_RX8_424 ?_
      refine s_cSp (as := [_, .long (0), .long (20)]) (tb_ok aX8_film_0 11 rfl) v_RX8_73 (R_in _ _ _) (by decide) rfl rfl (Nat.le_of_ble_eq_true rfl) ?_
      refine s_topi (bI_t ((in_iff (x := nI n) (lo := 0) (hi := 20) rfl (by decide) (by decide)).mpr (inN (hi := 20) hn (by decide)))) ?_
      refine s_if_ne (tgt := 30) (tb_ok aX8_film_0 12 rfl) (by decide) (fun c24 => ?_) (fun c24 => ?_)
      · refine s_aload_n (tb_ok aX8_film_0 15 rfl) rfl ?_
        refine s_iload_n (tb_ok aX8_film_0 16 rfl) rfl ?_
        refine s_iconst (v := 0) (tb_ok aX8_film_0 17 rfl) (by decide) ?_
        refine s_iload_n (tb_ok aX8_film_0 18 rfl) rfl ?_
        refine s_cV (as := [.int (nI s), .int (0), .int (nI n)]) (tb_ok aX8_film_0 19 rfl) v_RX8_426 (R_sheet0 hs (by omega)) (by decide) rfl rfl rfl rfl rfl (Nat.le_of_ble_eq_true rfl) (by decide) (fun r1 S1 I1 L1 R1 q1 => ?_)
        obtain ⟨rfl, rfl, rfl, rfl, rfl⟩ := q1
        show SW X 60 mX8_film (0, 0) _ _ _ S0 (flmW I s n) _ _ _
        refine s_pop (tb_ok aX8_film_0 20 rfl) rfl ?_
        refine s_aload_n (tb_ok aX8_film_0 21 rfl) rfl ?_
        refine s_cV (as := []) (tb_ok aX8_film_0 22 rfl) v_RX8_394 (R_laysAside) (by decide) rfl rfl rfl rfl rfl (Nat.le_of_ble_eq_true rfl) (by decide) (fun r2 S2 I2 L2 R2 q2 => ?_)
        obtain ⟨rfl, rfl, rfl, rfl, rfl⟩ := q2
        have hw : RSt (flmW I s n) m fr fa M T d sem := h.see (see_78 (fun o k ho => by unfold flmW; rw [flB_n (by omega), up2_nn _ _ (fun e => by omega), up2_nn _ _ (fun e => by omega), up2_nn _ _ (fun e => by omega)]))
        have ha := hw.see (see_eB (aside_B (I := (flmW I s n))))
        refine s_iconst (v := nI 0) (tb_ok aX8_film_0 23 rfl) (by decide) ?_
        refine s_istore (ls' := [some (.ref 66), some (.int (nI s)), some (.int (nI j)), some (.int (nI n)), some (.int (nI 0))]) (tb_ok aX8_film_1 0 rfl) rfl rfl ?_
        refine loop 0 (Nat.zero_le _) _ _ ha ?_
        rw [flB_0]
        exact mid_0
      · exact absurd c24 (by decide)

set_option maxRecDepth 100000 in
set_option maxHeartbeats 1000000 in
theorem R_filmB {X : En} {L : FL} {q : Nat × Nat} {I : FI} {m : Nat} {fr fa : Nat → Int32} {M : Nat} {T : Nat → Nat → Int32} {d : Nat} {sem : Nat → Sem} (h : RSt I m fr fa M T d sem) {x z w : Int32} (hv : ¬ ((¬ x < 0 ∧ ¬ 3 < x) ∧ vH z M ∧ (¬ w < 0 ∧ ¬ 20 < w))) : Ev X 60 mX8_film (0, 0) [.ref 66, .int x, .int z, .int w] S0 I L (R0 q) (AfZ q eB I (-2)) := by
  have hM5 := h.M5
  refine ev_of (by decide +kernel) rfl ?_
  show SW X _ _ _ 0 [some (.ref 66), some (.int x), some (.int z), some (.int w), none] [] S0 I L (R0 q) _
  refine s_iload_n (tb_ok aX8_film_0 0 rfl) rfl ?_
  refine s_cSp (as := [.int x]) (tb_ok aX8_film_0 1 rfl) v_RX8_413 (R_isSheet _) (by decide) rfl rfl (Nat.le_of_ble_eq_true rfl) ?_
  refine s_if_eq (tgt := 27) (tb_ok aX8_film_0 2 rfl) (by decide) (fun c4 => ?_) (fun c4 => ?_)
  · refine s_bipush (v := -2) (tb_ok aX8_film_0 13 rfl) (by decide) ?_
    refine s_iret (tb_ok aX8_film_0 14 rfl) rfl ?_
    exact afZ rfl FrE.refl
  · refine s_aload_n (tb_ok aX8_film_0 3 rfl) rfl ?_
    refine s_iload_n (tb_ok aX8_film_0 4 rfl) rfl ?_
    refine s_cVp (as := [.int z]) (tb_ok aX8_film_0 5 rfl) v_RX8_90 (R_isHouse h.mn _) (by decide) rfl rfl rfl rfl rfl (Nat.le_of_ble_eq_true rfl) (by decide) ?_
    refine s_if_eq (tgt := 27) (tb_ok aX8_film_0 6 rfl) (by decide) (fun c12 => ?_) (fun c12 => ?_)
    · refine s_bipush (v := -2) (tb_ok aX8_film_0 13 rfl) (by decide) ?_
      refine s_iret (tb_ok aX8_film_0 14 rfl) rfl ?_
      exact afZ rfl FrE.refl
    · refine s_iload_n (tb_ok aX8_film_0 7 rfl) rfl ?_
      refine s_i2l (tb_ok aX8_film_0 8 rfl) ?_
      refine s_lconst (v := 0) (tb_ok aX8_film_0 9 rfl) (by decide) ?_
      refine s_ldc2 (tb_ok aX8_film_0 10 rfl) k_RX8_424 ?_
      refine s_cSp (as := [_, .long (0), .long (20)]) (tb_ok aX8_film_0 11 rfl) v_RX8_73 (R_in _ _ _) (by decide) rfl rfl (Nat.le_of_ble_eq_true rfl) ?_
      refine s_topi (bI_congr (in_iff (lo := 0) (hi := 20) rfl (by decide) (by decide))) ?_
      refine s_if_ne (tgt := 30) (tb_ok aX8_film_0 12 rfl) (by decide) (fun c24 => ?_) (fun c24 => ?_)
      · exact absurd ⟨bI_n c4, bI_n c12, bI_n c24⟩ hv
      · refine s_bipush (v := -2) (tb_ok aX8_film_0 13 rfl) (by decide) ?_
        refine s_iret (tb_ok aX8_film_0 14 rfl) rfl ?_
        exact afZ rfl FrE.refl

set_option maxRecDepth 100000 in
set_option maxHeartbeats 1000000 in
theorem R_image {X : En} {L : FL} {q : Nat × Nat} {I : FI} : Ev X 3 mX8_image (0, 0) [.ref 66] S0 I L (R0 q) ((PureR (some (.int (I 66 13))) S0 ((up2 (up2 (up2 (up2 (flO (flO (flO I 75 (I 70) 10) 76 (I 71) 10) 77 (I 73) 20) 66 34 (I 66 10)) 66 35 (I 66 13)) 66 36 (I 66 7)) 66 37 (I 66 4))) L (R0 q))) := by
  have loop2 : ∀ k, k ≤ 20 → SW X 3 mX8_image (0, 0) 40 [some (.ref 66), some (.int (nI k))] [] S0 (flO (flO (flO I 75 (I 70) 10) 76 (I 71) 10) 77 (I 73) k) L (R0 q) (KQ X (PureR (some (.int (I 66 13))) S0 ((up2 (up2 (up2 (up2 (flO (flO (flO I 75 (I 70) 10) 76 (I 71) 10) 77 (I 73) 20) 66 34 (I 66 10)) 66 35 (I 66 13)) 66 36 (I 66 7)) 66 37 (I 66 4))) L (R0 q))) := by
    refine for_up (P := fun k => SW X 3 mX8_image (0, 0) 40 [some (.ref 66), some (.int (nI k))] [] S0 (flO (flO (flO I 75 (I 70) 10) 76 (I 71) 10) 77 (I 73) k) L (R0 q) (KQ X (PureR (some (.int (I 66 13))) S0 ((up2 (up2 (up2 (up2 (flO (flO (flO I 75 (I 70) 10) 76 (I 71) 10) 77 (I 73) 20) 66 34 (I 66 10)) 66 35 (I 66 13)) 66 36 (I 66 7)) 66 37 (I 66 4))) L (R0 q)))) 20 ?_ ?_
    · refine s_iload_n (tb_ok aX8_image_1 1 rfl) rfl ?_
      refine s_bipush (v := nI 20) (tb_ok aX8_image_1 2 rfl) (by decide) ?_
      refine s_icmp_ge (tgt := 64) (tb_ok aX8_image_1 3 rfl) (by decide) (fun c43 => ?_) (fun c43 => ?_)
      · refine s_aload_n (tb_ok aX8_image_1 14 rfl) rfl ?_
        refine s_aload_n (tb_ok aX8_image_1 15 rfl) rfl ?_
        refine s_getI (tb_ok aX8_image_1 16 rfl) f_RX8_85 rfl rfl rfl ?_
        refine s_putI (tb_ok aX8_image_1 17 rfl) f_RX8_437 rfl rfl ?_
        refine s_aload_n (tb_ok aX8_image_1 18 rfl) rfl ?_
        refine s_aload_n (tb_ok aX8_image_1 19 rfl) rfl ?_
        refine s_getI (tb_ok aX8_image_1 20 rfl) f_RX8_70 rfl rfl rfl ?_
        refine s_putI (tb_ok aX8_image_1 21 rfl) f_RX8_47 rfl rfl ?_
        refine s_aload_n (tb_ok aX8_image_1 22 rfl) rfl ?_
        refine s_aload_n (tb_ok aX8_image_1 23 rfl) rfl ?_
        refine s_getI (tb_ok aX8_image_2 0 rfl) f_RX8_105 rfl rfl rfl ?_
        refine s_putI (tb_ok aX8_image_2 1 rfl) f_RX8_440 rfl rfl ?_
        refine s_aload_n (tb_ok aX8_image_2 2 rfl) rfl ?_
        refine s_aload_n (tb_ok aX8_image_2 3 rfl) rfl ?_
        refine s_getI (tb_ok aX8_image_2 4 rfl) f_RX8_108 rfl rfl rfl ?_
        refine s_putI (tb_ok aX8_image_2 5 rfl) f_RX8_443 rfl rfl ?_
        refine s_aload_n (tb_ok aX8_image_2 6 rfl) rfl ?_
        refine s_getI (tb_ok aX8_image_2 7 rfl) f_RX8_70 rfl rfl rfl ?_
        refine s_iret (tb_ok aX8_image_2 8 rfl) rfl ?_
        exact pureR
      · exact absurd c43 (by decide)
    · intro k hk ih
      refine s_iload_n (tb_ok aX8_image_1 1 rfl) rfl ?_
      refine s_bipush (v := nI 20) (tb_ok aX8_image_1 2 rfl) (by decide) ?_
      refine s_icmp_ge (tgt := 64) (tb_ok aX8_image_1 3 rfl) (by decide) (fun c43 => ?_) (fun c43 => ?_)
      · simp (disch := omega) only [nI_ltI, nI_leI, nI_eq] at c43
        omega
      · refine s_aload_n (tb_ok aX8_image_1 4 rfl) rfl ?_
        refine s_getR (r := 77) (tb_ok aX8_image_1 5 rfl) f_RX8_44 rfl rfl rfl ?_
        refine s_iload_n (tb_ok aX8_image_1 6 rfl) rfl ?_
        refine s_aload_n (tb_ok aX8_image_1 7 rfl) rfl ?_
        refine s_getR (r := 73) (tb_ok aX8_image_1 8 rfl) f_RX8_32 rfl rfl rfl ?_
        refine s_iload_n (tb_ok aX8_image_1 9 rfl) rfl ?_
        refine s_ialdN (tb_ok aX8_image_1 10 rfl) rfl (by omega) (by decide) ?_
        refine s_iastN (tb_ok aX8_image_1 11 rfl) rfl (by omega) (by decide) ?_
        refine s_iinc (v := nI (k + 1)) (ls' := [some (.ref 66), some (.int (nI (k + 1)))]) (tb_ok aX8_image_1 12 rfl) rfl (nI_1 _) rfl rfl ?_
        refine s_goto (tgt := 40) (tb_ok aX8_image_1 13 rfl) (by decide) ?_
        rw [flO_s (show (flO (flO (flO I 75 (I 70) 10) 76 (I 71) 10) 77 (I 73) k) 73 k = I 73 k by rw [flO_n (by decide), flO_n (by decide), flO_n (by decide)])]
        exact ih
  have loop1 : ∀ k, k ≤ 10 → SW X 3 mX8_image (0, 0) 2 [some (.ref 66), some (.int (nI k))] [] S0 (flO (flO I 75 (I 70) k) 76 (I 71) k) L (R0 q) (KQ X (PureR (some (.int (I 66 13))) S0 ((up2 (up2 (up2 (up2 (flO (flO (flO I 75 (I 70) 10) 76 (I 71) 10) 77 (I 73) 20) 66 34 (I 66 10)) 66 35 (I 66 13)) 66 36 (I 66 7)) 66 37 (I 66 4))) L (R0 q))) := by
    refine for_up (P := fun k => SW X 3 mX8_image (0, 0) 2 [some (.ref 66), some (.int (nI k))] [] S0 (flO (flO I 75 (I 70) k) 76 (I 71) k) L (R0 q) (KQ X (PureR (some (.int (I 66 13))) S0 ((up2 (up2 (up2 (up2 (flO (flO (flO I 75 (I 70) 10) 76 (I 71) 10) 77 (I 73) 20) 66 34 (I 66 10)) 66 35 (I 66 13)) 66 36 (I 66 7)) 66 37 (I 66 4))) L (R0 q)))) 10 ?_ ?_
    · refine s_iload_n (tb_ok aX8_image_0 2 rfl) rfl ?_
      refine s_bipush (v := nI 10) (tb_ok aX8_image_0 3 rfl) (by decide) ?_
      refine s_icmp_ge (tgt := 38) (tb_ok aX8_image_0 4 rfl) (by decide) (fun c5 => ?_) (fun c5 => ?_)
      · refine s_iconst (v := nI 0) (tb_ok aX8_image_0 23 rfl) (by decide) ?_
        refine s_istore_n (ls' := [some (.ref 66), some (.int (nI 0))]) (tb_ok aX8_image_1 0 rfl) rfl rfl ?_
        refine s_eqI (flO_0 (o := 77) (g := (I 73))).symm ?_
        exact loop2 0 (Nat.zero_le _)
      · exact absurd c5 (by decide)
    · intro k hk ih
      refine s_iload_n (tb_ok aX8_image_0 2 rfl) rfl ?_
      refine s_bipush (v := nI 10) (tb_ok aX8_image_0 3 rfl) (by decide) ?_
      refine s_icmp_ge (tgt := 38) (tb_ok aX8_image_0 4 rfl) (by decide) (fun c5 => ?_) (fun c5 => ?_)
      · simp (disch := omega) only [nI_ltI, nI_leI, nI_eq] at c5
        omega
      · refine s_aload_n (tb_ok aX8_image_0 5 rfl) rfl ?_
        refine s_getR (r := 75) (tb_ok aX8_image_0 6 rfl) f_RX8_38 rfl rfl rfl ?_
        refine s_iload_n (tb_ok aX8_image_0 7 rfl) rfl ?_
        refine s_aload_n (tb_ok aX8_image_0 8 rfl) rfl ?_
        refine s_getR (r := 70) (tb_ok aX8_image_0 9 rfl) f_RX8_23 rfl rfl rfl ?_
        refine s_iload_n (tb_ok aX8_image_0 10 rfl) rfl ?_
        refine s_ialdN (tb_ok aX8_image_0 11 rfl) rfl (by omega) (by decide) ?_
        refine s_iastN (tb_ok aX8_image_0 12 rfl) rfl (by omega) (by decide) ?_
        refine s_aload_n (tb_ok aX8_image_0 13 rfl) rfl ?_
        refine s_getR (r := 76) (tb_ok aX8_image_0 14 rfl) f_RX8_41 rfl rfl rfl ?_
        refine s_iload_n (tb_ok aX8_image_0 15 rfl) rfl ?_
        refine s_aload_n (tb_ok aX8_image_0 16 rfl) rfl ?_
        refine s_getR (r := 71) (tb_ok aX8_image_0 17 rfl) f_RX8_26 rfl rfl rfl ?_
        refine s_iload_n (tb_ok aX8_image_0 18 rfl) rfl ?_
        refine s_ialdN (tb_ok aX8_image_0 19 rfl) rfl (by omega) (by decide) ?_
        refine s_iastN (tb_ok aX8_image_0 20 rfl) rfl (by omega) (by decide) ?_
        refine s_iinc (v := nI (k + 1)) (ls' := [some (.ref 66), some (.int (nI (k + 1)))]) (tb_ok aX8_image_0 21 rfl) rfl (nI_1 _) rfl rfl ?_
        refine s_goto (tgt := 2) (tb_ok aX8_image_0 22 rfl) (by decide) ?_
        rw [flO_c (by decide) (show (flO (flO I 75 (I 70) k) 76 (I 71) k) 70 k = I 70 k by rw [flO_n (by decide), flO_n (by decide)])]
        refine s_eqI (flO_s ?_) ?_
        · first | rfl | (rw [up2_nn _ _ (fun e => by omega), flO_n (by decide), flO_n (by decide)]) | (rw [flO_n (by decide), flO_n (by decide)])
        exact ih
  refine ev_of (by decide +kernel) rfl ?_
  show SW X _ _ _ 0 [some (.ref 66), none] [] S0 I L (R0 q) _
  refine s_iconst (v := nI 0) (tb_ok aX8_image_0 0 rfl) (by decide) ?_
  refine s_istore_n (ls' := [some (.ref 66), some (.int (nI 0))]) (tb_ok aX8_image_0 1 rfl) rfl rfl ?_
  refine s_eqI (flO_0 (o := 75) (g := (I 70))).symm ?_
  refine s_eqI (flO_0 (I := flO I 75 (I 70) 0) (o := 76) (g := (I 71))).symm ?_
  exact loop1 0 (Nat.zero_le _)

set_option maxRecDepth 100000 in
set_option maxHeartbeats 1000000 in
theorem R_back {X : En} {L : FL} {q : Nat × Nat} {I : FI} (hk : ¬ I 66 35 = -1) : Ev X 3 mX8_back (0, 0) [.ref 66] S0 I L (R0 q) ((PureR (some (.int (I 66 35))) S0 ((up2 (up2 (up2 (up2 (flO (flO (flO I 70 (I 75) 10) 71 (I 76) 10) 73 (I 77) 20) 66 10 (I 66 34)) 66 13 (I 66 35)) 66 7 (I 66 36)) 66 4 (I 66 37))) L (R0 q))) := by
  have loop2 : ∀ k, k ≤ 20 → SW X 3 mX8_back (0, 0) 51 [some (.ref 66), some (.int (nI k))] [] S0 (flO (flO (flO I 70 (I 75) 10) 71 (I 76) 10) 73 (I 77) k) L (R0 q) (KQ X (PureR (some (.int (I 66 35))) S0 ((up2 (up2 (up2 (up2 (flO (flO (flO I 70 (I 75) 10) 71 (I 76) 10) 73 (I 77) 20) 66 10 (I 66 34)) 66 13 (I 66 35)) 66 7 (I 66 36)) 66 4 (I 66 37))) L (R0 q))) := by
    refine for_up (P := fun k => SW X 3 mX8_back (0, 0) 51 [some (.ref 66), some (.int (nI k))] [] S0 (flO (flO (flO I 70 (I 75) 10) 71 (I 76) 10) 73 (I 77) k) L (R0 q) (KQ X (PureR (some (.int (I 66 35))) S0 ((up2 (up2 (up2 (up2 (flO (flO (flO I 70 (I 75) 10) 71 (I 76) 10) 73 (I 77) 20) 66 10 (I 66 34)) 66 13 (I 66 35)) 66 7 (I 66 36)) 66 4 (I 66 37))) L (R0 q)))) 20 ?_ ?_
    · refine s_iload_n (tb_ok aX8_back_1 7 rfl) rfl ?_
      refine s_bipush (v := nI 20) (tb_ok aX8_back_1 8 rfl) (by decide) ?_
      refine s_icmp_ge (tgt := 75) (tb_ok aX8_back_1 9 rfl) (by decide) (fun c54 => ?_) (fun c54 => ?_)
      · refine s_aload_n (tb_ok aX8_back_1 20 rfl) rfl ?_
        refine s_aload_n (tb_ok aX8_back_1 21 rfl) rfl ?_
        refine s_getI (tb_ok aX8_back_1 22 rfl) f_RX8_437 rfl rfl rfl ?_
        refine s_putI (tb_ok aX8_back_1 23 rfl) f_RX8_85 rfl rfl ?_
        refine s_aload_n (tb_ok aX8_back_2 0 rfl) rfl ?_
        refine s_aload_n (tb_ok aX8_back_2 1 rfl) rfl ?_
        refine s_getI (tb_ok aX8_back_2 2 rfl) f_RX8_47 rfl rfl rfl ?_
        refine s_putI (tb_ok aX8_back_2 3 rfl) f_RX8_70 rfl rfl ?_
        refine s_aload_n (tb_ok aX8_back_2 4 rfl) rfl ?_
        refine s_aload_n (tb_ok aX8_back_2 5 rfl) rfl ?_
        refine s_getI (tb_ok aX8_back_2 6 rfl) f_RX8_440 rfl rfl rfl ?_
        refine s_putI (tb_ok aX8_back_2 7 rfl) f_RX8_105 rfl rfl ?_
        refine s_aload_n (tb_ok aX8_back_2 8 rfl) rfl ?_
        refine s_aload_n (tb_ok aX8_back_2 9 rfl) rfl ?_
        refine s_getI (tb_ok aX8_back_2 10 rfl) f_RX8_443 rfl rfl rfl ?_
        refine s_putI (tb_ok aX8_back_2 11 rfl) f_RX8_108 rfl rfl ?_
        refine s_aload_n (tb_ok aX8_back_2 12 rfl) rfl ?_
        refine s_getI (tb_ok aX8_back_2 13 rfl) f_RX8_70 rfl rfl rfl ?_
        refine s_iret (tb_ok aX8_back_2 14 rfl) rfl ?_
        exact pureR
      · exact absurd c54 (by decide)
    · intro k hk ih
      refine s_iload_n (tb_ok aX8_back_1 7 rfl) rfl ?_
      refine s_bipush (v := nI 20) (tb_ok aX8_back_1 8 rfl) (by decide) ?_
      refine s_icmp_ge (tgt := 75) (tb_ok aX8_back_1 9 rfl) (by decide) (fun c54 => ?_) (fun c54 => ?_)
      · simp (disch := omega) only [nI_ltI, nI_leI, nI_eq] at c54
        omega
      · refine s_aload_n (tb_ok aX8_back_1 10 rfl) rfl ?_
        refine s_getR (r := 73) (tb_ok aX8_back_1 11 rfl) f_RX8_32 rfl rfl rfl ?_
        refine s_iload_n (tb_ok aX8_back_1 12 rfl) rfl ?_
        refine s_aload_n (tb_ok aX8_back_1 13 rfl) rfl ?_
        refine s_getR (r := 77) (tb_ok aX8_back_1 14 rfl) f_RX8_44 rfl rfl rfl ?_
        refine s_iload_n (tb_ok aX8_back_1 15 rfl) rfl ?_
        refine s_ialdN (tb_ok aX8_back_1 16 rfl) rfl (by omega) (by decide) ?_
        refine s_iastN (tb_ok aX8_back_1 17 rfl) rfl (by omega) (by decide) ?_
        refine s_iinc (v := nI (k + 1)) (ls' := [some (.ref 66), some (.int (nI (k + 1)))]) (tb_ok aX8_back_1 18 rfl) rfl (nI_1 _) rfl rfl ?_
        refine s_goto (tgt := 51) (tb_ok aX8_back_1 19 rfl) (by decide) ?_
        rw [flO_s (show (flO (flO (flO I 70 (I 75) 10) 71 (I 76) 10) 73 (I 77) k) 77 k = I 77 k by rw [flO_n (by decide), flO_n (by decide), flO_n (by decide)])]
        exact ih
  have loop1 : ∀ k, k ≤ 10 → SW X 3 mX8_back (0, 0) 13 [some (.ref 66), some (.int (nI k))] [] S0 (flO (flO I 70 (I 75) k) 71 (I 76) k) L (R0 q) (KQ X (PureR (some (.int (I 66 35))) S0 ((up2 (up2 (up2 (up2 (flO (flO (flO I 70 (I 75) 10) 71 (I 76) 10) 73 (I 77) 20) 66 10 (I 66 34)) 66 13 (I 66 35)) 66 7 (I 66 36)) 66 4 (I 66 37))) L (R0 q))) := by
    refine for_up (P := fun k => SW X 3 mX8_back (0, 0) 13 [some (.ref 66), some (.int (nI k))] [] S0 (flO (flO I 70 (I 75) k) 71 (I 76) k) L (R0 q) (KQ X (PureR (some (.int (I 66 35))) S0 ((up2 (up2 (up2 (up2 (flO (flO (flO I 70 (I 75) 10) 71 (I 76) 10) 73 (I 77) 20) 66 10 (I 66 34)) 66 13 (I 66 35)) 66 7 (I 66 36)) 66 4 (I 66 37))) L (R0 q)))) 10 ?_ ?_
    · refine s_iload_n (tb_ok aX8_back_0 8 rfl) rfl ?_
      refine s_bipush (v := nI 10) (tb_ok aX8_back_0 9 rfl) (by decide) ?_
      refine s_icmp_ge (tgt := 49) (tb_ok aX8_back_0 10 rfl) (by decide) (fun c16 => ?_) (fun c16 => ?_)
      · refine s_iconst (v := nI 0) (tb_ok aX8_back_1 5 rfl) (by decide) ?_
        refine s_istore_n (ls' := [some (.ref 66), some (.int (nI 0))]) (tb_ok aX8_back_1 6 rfl) rfl rfl ?_
        refine s_eqI (flO_0 (o := 73) (g := (I 77))).symm ?_
        exact loop2 0 (Nat.zero_le _)
      · exact absurd c16 (by decide)
    · intro k hk ih
      refine s_iload_n (tb_ok aX8_back_0 8 rfl) rfl ?_
      refine s_bipush (v := nI 10) (tb_ok aX8_back_0 9 rfl) (by decide) ?_
      refine s_icmp_ge (tgt := 49) (tb_ok aX8_back_0 10 rfl) (by decide) (fun c16 => ?_) (fun c16 => ?_)
      · simp (disch := omega) only [nI_ltI, nI_leI, nI_eq] at c16
        omega
      · refine s_aload_n (tb_ok aX8_back_0 11 rfl) rfl ?_
        refine s_getR (r := 70) (tb_ok aX8_back_0 12 rfl) f_RX8_23 rfl rfl rfl ?_
        refine s_iload_n (tb_ok aX8_back_0 13 rfl) rfl ?_
        refine s_aload_n (tb_ok aX8_back_0 14 rfl) rfl ?_
        refine s_getR (r := 75) (tb_ok aX8_back_0 15 rfl) f_RX8_38 rfl rfl rfl ?_
        refine s_iload_n (tb_ok aX8_back_0 16 rfl) rfl ?_
        refine s_ialdN (tb_ok aX8_back_0 17 rfl) rfl (by omega) (by decide) ?_
        refine s_iastN (tb_ok aX8_back_0 18 rfl) rfl (by omega) (by decide) ?_
        refine s_aload_n (tb_ok aX8_back_0 19 rfl) rfl ?_
        refine s_getR (r := 71) (tb_ok aX8_back_0 20 rfl) f_RX8_26 rfl rfl rfl ?_
        refine s_iload_n (tb_ok aX8_back_0 21 rfl) rfl ?_
        refine s_aload_n (tb_ok aX8_back_0 22 rfl) rfl ?_
        refine s_getR (r := 76) (tb_ok aX8_back_0 23 rfl) f_RX8_41 rfl rfl rfl ?_
        refine s_iload_n (tb_ok aX8_back_1 0 rfl) rfl ?_
        refine s_ialdN (tb_ok aX8_back_1 1 rfl) rfl (by omega) (by decide) ?_
        refine s_iastN (tb_ok aX8_back_1 2 rfl) rfl (by omega) (by decide) ?_
        refine s_iinc (v := nI (k + 1)) (ls' := [some (.ref 66), some (.int (nI (k + 1)))]) (tb_ok aX8_back_1 3 rfl) rfl (nI_1 _) rfl rfl ?_
        refine s_goto (tgt := 13) (tb_ok aX8_back_1 4 rfl) (by decide) ?_
        rw [flO_c (by decide) (show (flO (flO I 70 (I 75) k) 71 (I 76) k) 75 k = I 75 k by rw [flO_n (by decide), flO_n (by decide)])]
        refine s_eqI (flO_s ?_) ?_
        · first | rfl | (rw [up2_nn _ _ (fun e => by omega), flO_n (by decide), flO_n (by decide)]) | (rw [flO_n (by decide), flO_n (by decide)])
        exact ih
  refine ev_of (by decide +kernel) rfl ?_
  show SW X _ _ _ 0 [some (.ref 66), none] [] S0 I L (R0 q) _
  refine s_aload_n (tb_ok aX8_back_0 0 rfl) rfl ?_
  refine s_getI (tb_ok aX8_back_0 1 rfl) f_RX8_47 rfl rfl rfl ?_
  refine s_iconst (v := -1) (tb_ok aX8_back_0 2 rfl) (by decide) ?_
  refine s_icmp_ne (tgt := 11) (tb_ok aX8_back_0 3 rfl) (by decide) (fun c5 => ?_) (fun c5 => ?_)
  · refine s_iconst (v := nI 0) (tb_ok aX8_back_0 6 rfl) (by decide) ?_
    refine s_istore_n (ls' := [some (.ref 66), some (.int (nI 0))]) (tb_ok aX8_back_0 7 rfl) rfl rfl ?_
    refine s_eqI (flO_0 (o := 70) (g := (I 75))).symm ?_
    refine s_eqI (flO_0 (I := flO I 70 (I 75) 0) (o := 71) (g := (I 76))).symm ?_
    exact loop1 0 (Nat.zero_le _)
  · exact absurd c5 hk

set_option maxRecDepth 100000 in
set_option maxHeartbeats 1000000 in
theorem R_backN {X : En} {L : FL} {q : Nat × Nat} {I : FI} (hk : I 66 35 = -1) : Ev X 3 mX8_back (0, 0) [.ref 66] S0 I L (R0 q) (PureR (some (.int (-3))) S0 (I) L (R0 q)) := by
  refine ev_of (by decide +kernel) rfl ?_
  show SW X _ _ _ 0 [some (.ref 66), none] [] S0 I L (R0 q) _
  refine s_aload_n (tb_ok aX8_back_0 0 rfl) rfl ?_
  refine s_getI (x := (-1)) (tb_ok aX8_back_0 1 rfl) f_RX8_47 rfl rfl hk ?_
  refine s_iconst (v := -1) (tb_ok aX8_back_0 2 rfl) (by decide) ?_
  refine s_icmp_ne (tgt := 11) (tb_ok aX8_back_0 3 rfl) (by decide) (fun c5 => ?_) (fun c5 => ?_)
  · exact absurd c5 (by decide)
  · refine s_bipush (v := -3) (tb_ok aX8_back_0 4 rfl) (by decide) ?_
    refine s_iret (tb_ok aX8_back_0 5 rfl) rfl ?_
    exact pureR

theorem nsub {z n : Nat} (h : n ≤ z) (hz : z < 2 ^ 31) {i : Nat} (hi : i + n ≤ z) : nI i ≤ nI z - nI n := by
  rw [nI_sub' h]
  simp (disch := omega) only [nI_leI]
  omega
set_option maxRecDepth 100000 in
set_option maxHeartbeats 1000000 in
theorem R_copy0 {X : En} {L : FL} {q : Nat × Nat} {I : FI} {s o : Nat} (hs : s < 4) (ho : o < 4) (h1 : I 78 s = 1) (h2 : I 78 o = 1) {zs zo : Nat} (hzs : I 80 s = nI zs) (hzo : I 80 o = nI zo) (hzs4 : zs ≤ 40) (hzo4 : zo ≤ 40) (hso : I 79 s = I 79 o) {i j n : Nat} (hi : i + n ≤ zs) (hj : j + n ≤ zo) (hup : ¬ (s = o ∧ i < j)) : Ev X 3 mX8_copy (0, 0) [.ref 66, .int (nI s), .int (nI i), .int (nI o), .int (nI j), .int (nI n)] S0 I L (R0 q) (PureR (some (.int (nI n))) S0 (flB I 81 (40 * o + j) (fun q => I 81 (40 * s + i + q)) n) L (R0 q)) := by
  have loop : ∀ k, k ≤ n → ∀ (o8 : Option Value), SW X 3 mX8_copy (0, 0) 121 [some (.ref 66), some (.int (nI s)), some (.int (nI i)), some (.int (nI o)), some (.int (nI j)), some (.int (nI n)), some (.int (0)), some (.int (nI k)), o8] [] S0 (flB I 81 (40 * o + j) (fun q => I 81 (40 * s + i + q)) k) L (R0 q) (KQ X (PureR (some (.int (nI n))) S0 (flB I 81 (40 * o + j) (fun q => I 81 (40 * s + i + q)) n) L (R0 q))) := by
    refine for_up (P := fun k => ∀ (o8 : Option Value), SW X 3 mX8_copy (0, 0) 121 [some (.ref 66), some (.int (nI s)), some (.int (nI i)), some (.int (nI o)), some (.int (nI j)), some (.int (nI n)), some (.int (0)), some (.int (nI k)), o8] [] S0 (flB I 81 (40 * o + j) (fun q => I 81 (40 * s + i + q)) k) L (R0 q) (KQ X (PureR (some (.int (nI n))) S0 (flB I 81 (40 * o + j) (fun q => I 81 (40 * s + i + q)) n) L (R0 q)))) n ?_ ?_
    · intro o8 
      refine s_iload (tb_ok aX8_copy_2 19 rfl) rfl ?_
      refine s_iload (tb_ok aX8_copy_2 20 rfl) rfl ?_
      refine s_icmp_ge (tgt := 182) (tb_ok aX8_copy_2 21 rfl) (by decide) (fun c125 => ?_) (fun c125 => ?_)
      · refine s_iload (tb_ok aX8_copy_4 6 rfl) rfl ?_
        refine s_iret (tb_ok aX8_copy_4 7 rfl) rfl ?_
        exact pureR
      · simp (disch := omega) only [nI_ltI, nI_leI, nI_eq] at c125
        omega
    · intro k hk ih o8 
      refine s_iload (tb_ok aX8_copy_2 19 rfl) rfl ?_
      refine s_iload (tb_ok aX8_copy_2 20 rfl) rfl ?_
      refine s_icmp_ge (tgt := 182) (tb_ok aX8_copy_2 21 rfl) (by decide) (fun c125 => ?_) (fun c125 => ?_)
      · simp (disch := omega) only [nI_ltI, nI_leI, nI_eq] at c125
        omega
      · refine s_iload (tb_ok aX8_copy_2 22 rfl) rfl ?_
        refine s_if_eq (tgt := 143) (tb_ok aX8_copy_2 23 rfl) (by decide) (fun c130 => ?_) (fun c130 => ?_)
        · refine s_iload (tb_ok aX8_copy_3 6 rfl) rfl ?_
          refine s_istore (ls' := [some (.ref 66), some (.int (nI s)), some (.int (nI i)), some (.int (nI o)), some (.int (nI j)), some (.int (nI n)), some (.int (0)), some (.int (nI k)), some (.int (nI k))]) (tb_ok aX8_copy_3 7 rfl) rfl rfl ?_
          refine s_aload_n (tb_ok aX8_copy_3 8 rfl) rfl ?_
          refine s_getR (r := 81) (tb_ok aX8_copy_3 9 rfl) f_RX8_60 rfl rfl rfl ?_
          refine s_bipush (v := 40) (tb_ok aX8_copy_3 10 rfl) (by decide) ?_
          refine s_iload_n (tb_ok aX8_copy_3 11 rfl) rfl ?_
          refine s_imul (tb_ok aX8_copy_3 12 rfl) ?_
          refine s_topi (z := (nI (40 * o))) (nI_mul 40 o) ?_
          refine s_iload (tb_ok aX8_copy_3 13 rfl) rfl ?_
          refine s_iadd (tb_ok aX8_copy_3 14 rfl) ?_
          refine s_topi (z := (nI (40 * o + j))) (nI_add' (40 * o) j) ?_
          refine s_iload (tb_ok aX8_copy_3 15 rfl) rfl ?_
          refine s_iadd (tb_ok aX8_copy_3 16 rfl) ?_
          refine s_topi (z := (nI (40 * o + j + k))) (nI_add' (40 * o + j) k) ?_
          refine s_aload_n (tb_ok aX8_copy_3 17 rfl) rfl ?_
          refine s_getR (r := 81) (tb_ok aX8_copy_3 18 rfl) f_RX8_60 rfl rfl rfl ?_
          refine s_bipush (v := 40) (tb_ok aX8_copy_3 19 rfl) (by decide) ?_
          refine s_iload_n (tb_ok aX8_copy_3 20 rfl) rfl ?_
          refine s_imul (tb_ok aX8_copy_3 21 rfl) ?_
          refine s_topi (z := (nI (40 * s))) (nI_mul 40 s) ?_
          refine s_iload_n (tb_ok aX8_copy_3 22 rfl) rfl ?_
          refine s_iadd (tb_ok aX8_copy_3 23 rfl) ?_
          refine s_topi (z := (nI (40 * s + i))) (nI_add' (40 * s) i) ?_
          refine s_iload (tb_ok aX8_copy_4 0 rfl) rfl ?_
          refine s_iadd (tb_ok aX8_copy_4 1 rfl) ?_
          refine s_topi (z := (nI (40 * s + i + k))) (nI_add' (40 * s + i) k) ?_
          refine s_ialdN (tb_ok aX8_copy_4 2 rfl) rfl (by omega) (by decide) ?_
          refine s_iastN (tb_ok aX8_copy_4 3 rfl) rfl (by omega) (by decide) ?_
          refine s_iinc (v := nI (k + 1)) (ls' := [some (.ref 66), some (.int (nI s)), some (.int (nI i)), some (.int (nI o)), some (.int (nI j)), some (.int (nI n)), some (.int (0)), some (.int (nI (k + 1))), some (.int (nI k))]) (tb_ok aX8_copy_4 4 rfl) rfl (nI_1 _) rfl rfl ?_
          refine s_goto (tgt := 121) (tb_ok aX8_copy_4 5 rfl) (by decide) ?_
          have hrd : (flB I 81 (40 * o + j) (fun q => I 81 (40 * s + i + q)) k) 81 (40 * s + i + k) = I 81 (40 * s + i + k) := flB_n (by omega)
          rw [hrd, flB_s (g := (fun q => I 81 (40 * s + i + q))) (k := k) rfl]
          exact ih _
        · exact absurd c130 (by decide)
  refine ev_of (by decide +kernel) rfl ?_
  show SW X _ _ _ 0 [some (.ref 66), some (.int (nI s)), some (.int (nI i)), some (.int (nI o)), some (.int (nI j)), some (.int (nI n)), none, none, none] [] S0 I L (R0 q) _
  refine s_iload_n (tb_ok aX8_copy_0 0 rfl) rfl ?_
  refine s_cSp (as := [.int (nI s)]) (tb_ok aX8_copy_0 1 rfl) v_RX8_413 (R_isSheet _) (by decide) rfl rfl (Nat.le_of_ble_eq_true rfl) ?_
  refine s_topi (bI_t (inN (n := s) (hi := 3) (by omega) (by decide))) ?_
  refine s_if_eq (tgt := 14) (tb_ok aX8_copy_0 2 rfl) (by decide) (fun c4 => ?_) (fun c4 => ?_)
  · exact absurd c4 (by decide)
  · refine s_iload_n (tb_ok aX8_copy_0 3 rfl) rfl ?_
    refine s_cSp (as := [.int (nI o)]) (tb_ok aX8_copy_0 4 rfl) v_RX8_413 (R_isSheet _) (by decide) rfl rfl (Nat.le_of_ble_eq_true rfl) ?_
    refine s_topi (bI_t (inN (n := o) (hi := 3) (by omega) (by decide))) ?_
    refine s_if_ne (tgt := 17) (tb_ok aX8_copy_0 5 rfl) (by decide) (fun c11 => ?_) (fun c11 => ?_)
    · refine s_aload_n (tb_ok aX8_copy_0 8 rfl) rfl ?_
      refine s_getR (r := 78) (tb_ok aX8_copy_0 9 rfl) f_RX8_50 rfl rfl rfl ?_
      refine s_iload_n (tb_ok aX8_copy_0 10 rfl) rfl ?_
      refine s_bald (x := (1)) (tb_ok aX8_copy_0 11 rfl) rfl (lw_in hs (by decide)) (by rw [nI_clamp (by omega)]; exact h1) ?_
      refine s_if_eq (tgt := 35) (tb_ok aX8_copy_0 12 rfl) (by decide) (fun c23 => ?_) (fun c23 => ?_)
      · exact absurd c23 (by decide)
      · refine s_aload_n (tb_ok aX8_copy_0 13 rfl) rfl ?_
        refine s_getR (r := 78) (tb_ok aX8_copy_0 14 rfl) f_RX8_50 rfl rfl rfl ?_
        refine s_iload_n (tb_ok aX8_copy_0 15 rfl) rfl ?_
        refine s_bald (x := (1)) (tb_ok aX8_copy_0 16 rfl) rfl (lw_in ho (by decide)) (by rw [nI_clamp (by omega)]; exact h2) ?_
        refine s_if_ne (tgt := 38) (tb_ok aX8_copy_0 17 rfl) (by decide) (fun c32 => ?_) (fun c32 => ?_)
        · refine s_aload_n (tb_ok aX8_copy_0 20 rfl) rfl ?_
          refine s_getR (r := 79) (tb_ok aX8_copy_0 21 rfl) f_RX8_54 rfl rfl rfl ?_
          refine s_iload_n (tb_ok aX8_copy_0 22 rfl) rfl ?_
          refine s_ialdN (tb_ok aX8_copy_0 23 rfl) rfl (by omega) (by decide) ?_
          refine s_aload_n (tb_ok aX8_copy_1 0 rfl) rfl ?_
          refine s_getR (r := 79) (tb_ok aX8_copy_1 1 rfl) f_RX8_54 rfl rfl rfl ?_
          refine s_iload_n (tb_ok aX8_copy_1 2 rfl) rfl ?_
          refine s_ialdN (tb_ok aX8_copy_1 3 rfl) rfl (by omega) (by decide) ?_
          refine s_icmp_eq (tgt := 56) (tb_ok aX8_copy_1 4 rfl) (by decide) (fun c50 => ?_) (fun c50 => ?_)
          · refine s_iload (tb_ok aX8_copy_1 7 rfl) rfl ?_
            refine s_if_lt (tgt := 97) (tb_ok aX8_copy_1 8 rfl) (by decide) (fun c58 => ?_) (fun c58 => ?_)
            · exact absurd c58 (nI_pos (by omega))
            · refine s_iload_n (tb_ok aX8_copy_1 9 rfl) rfl ?_
              refine s_if_lt (tgt := 97) (tb_ok aX8_copy_1 10 rfl) (by decide) (fun c62 => ?_) (fun c62 => ?_)
              · exact absurd c62 (nI_pos (by omega))
              · refine s_iload (tb_ok aX8_copy_1 11 rfl) rfl ?_
                refine s_if_lt (tgt := 97) (tb_ok aX8_copy_1 12 rfl) (by decide) (fun c67 => ?_) (fun c67 => ?_)
                · exact absurd c67 (nI_pos (by omega))
                · refine s_iload_n (tb_ok aX8_copy_1 13 rfl) rfl ?_
                  refine s_aload_n (tb_ok aX8_copy_1 14 rfl) rfl ?_
                  refine s_getR (r := 80) (tb_ok aX8_copy_1 15 rfl) f_RX8_57 rfl rfl rfl ?_
                  refine s_iload_n (tb_ok aX8_copy_1 16 rfl) rfl ?_
                  refine s_ialdX (x := (nI zs)) (tb_ok aX8_copy_1 17 rfl) rfl (by omega) (by decide) hzs ?_
                  refine s_iload (tb_ok aX8_copy_1 18 rfl) rfl ?_
                  refine s_isub (tb_ok aX8_copy_1 19 rfl) ?_
                  refine s_icmp_gt (tgt := 97) (tb_ok aX8_copy_1 20 rfl) (by decide) (fun c80 => ?_) (fun c80 => ?_)
                  · exact absurd c80 (Int32.not_lt.mpr (nsub (by omega) (by omega) hi))
                  · refine s_iload (tb_ok aX8_copy_1 21 rfl) rfl ?_
                    refine s_aload_n (tb_ok aX8_copy_1 22 rfl) rfl ?_
                    refine s_getR (r := 80) (tb_ok aX8_copy_1 23 rfl) f_RX8_57 rfl rfl rfl ?_
                    refine s_iload_n (tb_ok aX8_copy_2 0 rfl) rfl ?_
                    refine s_ialdX (x := (nI zo)) (tb_ok aX8_copy_2 1 rfl) rfl (by omega) (by decide) hzo ?_
                    refine s_iload (tb_ok aX8_copy_2 2 rfl) rfl ?_
                    refine s_isub (tb_ok aX8_copy_2 3 rfl) ?_
                    refine s_icmp_le (tgt := 100) (tb_ok aX8_copy_2 4 rfl) (by decide) (fun c94 => ?_) (fun c94 => ?_)
                    · refine s_iload_n (tb_ok aX8_copy_2 7 rfl) rfl ?_
                      refine s_iload_n (tb_ok aX8_copy_2 8 rfl) rfl ?_
                      refine s_icmp_ne (tgt := 115) (tb_ok aX8_copy_2 9 rfl) (by decide) (fun c102 => ?_) (fun c102 => ?_)
                      · refine s_iconst (v := 0) (tb_ok aX8_copy_2 15 rfl) (by decide) ?_
                        refine s_istore (ls' := [some (.ref 66), some (.int (nI s)), some (.int (nI i)), some (.int (nI o)), some (.int (nI j)), some (.int (nI n)), some (.int (0)), none, none]) (tb_ok aX8_copy_2 16 rfl) rfl rfl ?_
                        refine s_iconst (v := nI 0) (tb_ok aX8_copy_2 17 rfl) (by decide) ?_
                        refine s_istore (ls' := [some (.ref 66), some (.int (nI s)), some (.int (nI i)), some (.int (nI o)), some (.int (nI j)), some (.int (nI n)), some (.int (0)), some (.int (nI 0)), none]) (tb_ok aX8_copy_2 18 rfl) rfl rfl ?_
                        refine s_eqI (flB_0 (o := 81) (b := 40 * o + j) (g := (fun q => I 81 (40 * s + i + q)))).symm ?_
                        exact loop 0 (Nat.zero_le _) _
                      · refine s_iload_n (tb_ok aX8_copy_2 10 rfl) rfl ?_
                        refine s_iload (tb_ok aX8_copy_2 11 rfl) rfl ?_
                        refine s_icmp_ge (tgt := 115) (tb_ok aX8_copy_2 12 rfl) (by decide) (fun c108 => ?_) (fun c108 => ?_)
                        · refine s_iconst (v := 0) (tb_ok aX8_copy_2 15 rfl) (by decide) ?_
                          refine s_istore (ls' := [some (.ref 66), some (.int (nI s)), some (.int (nI i)), some (.int (nI o)), some (.int (nI j)), some (.int (nI n)), some (.int (0)), none, none]) (tb_ok aX8_copy_2 16 rfl) rfl rfl ?_
                          refine s_iconst (v := nI 0) (tb_ok aX8_copy_2 17 rfl) (by decide) ?_
                          refine s_istore (ls' := [some (.ref 66), some (.int (nI s)), some (.int (nI i)), some (.int (nI o)), some (.int (nI j)), some (.int (nI n)), some (.int (0)), some (.int (nI 0)), none]) (tb_ok aX8_copy_2 18 rfl) rfl rfl ?_
                          refine s_eqI (flB_0 (o := 81) (b := 40 * o + j) (g := (fun q => I 81 (40 * s + i + q)))).symm ?_
                          exact loop 0 (Nat.zero_le _) _
                        · simp (disch := omega) only [nI_leI, nI_eq] at c102 c108
                          omega
                    · exact absurd (nsub (by omega) (by omega) hj) c94
          · exact absurd hso c50
        · exact absurd c32 (by decide)
    · exact absurd c11 (by decide)

set_option maxRecDepth 100000 in
set_option maxHeartbeats 1000000 in
theorem R_copy1 {X : En} {L : FL} {q : Nat × Nat} {I : FI} {s o : Nat} (hs : s < 4) (ho : o < 4) (h1 : I 78 s = 1) (h2 : I 78 o = 1) {zs zo : Nat} (hzs : I 80 s = nI zs) (hzo : I 80 o = nI zo) (hzs4 : zs ≤ 40) (hzo4 : zo ≤ 40) (hso : I 79 s = I 79 o) {i j n : Nat} (hi : i + n ≤ zs) (hj : j + n ≤ zo) (hup : s = o ∧ i < j) : Ev X 3 mX8_copy (0, 0) [.ref 66, .int (nI s), .int (nI i), .int (nI o), .int (nI j), .int (nI n)] S0 I L (R0 q) (PureR (some (.int (nI n))) S0 (flB I 81 (40 * o + j) (fun q => I 81 (40 * s + i + q)) n) L (R0 q)) := by
  have loop : ∀ k, k ≤ n → ∀ (o8 : Option Value), SW X 3 mX8_copy (0, 0) 121 [some (.ref 66), some (.int (nI s)), some (.int (nI i)), some (.int (nI o)), some (.int (nI j)), some (.int (nI n)), some (.int (1)), some (.int (nI k)), o8] [] S0 (flB I 81 (40 * o + j + (n - k)) (fun q => I 81 (40 * s + i + (n - k + q))) k) L (R0 q) (KQ X (PureR (some (.int (nI n))) S0 (flB I 81 (40 * o + j) (fun q => I 81 (40 * s + i + q)) n) L (R0 q))) := by
    refine for_up (P := fun k => ∀ (o8 : Option Value), SW X 3 mX8_copy (0, 0) 121 [some (.ref 66), some (.int (nI s)), some (.int (nI i)), some (.int (nI o)), some (.int (nI j)), some (.int (nI n)), some (.int (1)), some (.int (nI k)), o8] [] S0 (flB I 81 (40 * o + j + (n - k)) (fun q => I 81 (40 * s + i + (n - k + q))) k) L (R0 q) (KQ X (PureR (some (.int (nI n))) S0 (flB I 81 (40 * o + j) (fun q => I 81 (40 * s + i + q)) n) L (R0 q)))) n ?_ ?_
    · intro o8 
      refine s_iload (tb_ok aX8_copy_2 19 rfl) rfl ?_
      refine s_iload (tb_ok aX8_copy_2 20 rfl) rfl ?_
      refine s_icmp_ge (tgt := 182) (tb_ok aX8_copy_2 21 rfl) (by decide) (fun c125 => ?_) (fun c125 => ?_)
      · refine s_iload (tb_ok aX8_copy_4 6 rfl) rfl ?_
        refine s_iret (tb_ok aX8_copy_4 7 rfl) rfl ?_
        rw [Nat.sub_self]
        simp only [Nat.add_zero, Nat.zero_add]
        exact pureR
      · simp (disch := omega) only [nI_ltI, nI_leI, nI_eq] at c125
        omega
    · intro k hk ih o8 
      refine s_iload (tb_ok aX8_copy_2 19 rfl) rfl ?_
      refine s_iload (tb_ok aX8_copy_2 20 rfl) rfl ?_
      refine s_icmp_ge (tgt := 182) (tb_ok aX8_copy_2 21 rfl) (by decide) (fun c125 => ?_) (fun c125 => ?_)
      · simp (disch := omega) only [nI_ltI, nI_leI, nI_eq] at c125
        omega
      · refine s_iload (tb_ok aX8_copy_2 22 rfl) rfl ?_
        refine s_if_eq (tgt := 143) (tb_ok aX8_copy_2 23 rfl) (by decide) (fun c130 => ?_) (fun c130 => ?_)
        · exact absurd c130 (by decide)
        · refine s_iload (tb_ok aX8_copy_3 0 rfl) rfl ?_
          refine s_iconst (v := 1) (tb_ok aX8_copy_3 1 rfl) (by decide) ?_
          refine s_isub (tb_ok aX8_copy_3 2 rfl) ?_
          refine s_topi (z := (nI (n - 1))) (nI_sub' (a := 1) (by omega)) ?_
          refine s_iload (tb_ok aX8_copy_3 3 rfl) rfl ?_
          refine s_isub (tb_ok aX8_copy_3 4 rfl) ?_
          refine s_topi (z := (nI (n - 1 - k))) (nI_sub' (by omega)) ?_
          refine s_goto (tgt := 145) (tb_ok aX8_copy_3 5 rfl) (by decide) ?_
          refine s_istore (ls' := [some (.ref 66), some (.int (nI s)), some (.int (nI i)), some (.int (nI o)), some (.int (nI j)), some (.int (nI n)), some (.int (1)), some (.int (nI k)), some (.int (nI (n - 1 - k)))]) (tb_ok aX8_copy_3 7 rfl) rfl rfl ?_
          refine s_aload_n (tb_ok aX8_copy_3 8 rfl) rfl ?_
          refine s_getR (r := 81) (tb_ok aX8_copy_3 9 rfl) f_RX8_60 rfl rfl rfl ?_
          refine s_bipush (v := 40) (tb_ok aX8_copy_3 10 rfl) (by decide) ?_
          refine s_iload_n (tb_ok aX8_copy_3 11 rfl) rfl ?_
          refine s_imul (tb_ok aX8_copy_3 12 rfl) ?_
          refine s_topi (z := (nI (40 * o))) (nI_mul 40 o) ?_
          refine s_iload (tb_ok aX8_copy_3 13 rfl) rfl ?_
          refine s_iadd (tb_ok aX8_copy_3 14 rfl) ?_
          refine s_topi (z := (nI (40 * o + j))) (nI_add' (40 * o) j) ?_
          refine s_iload (tb_ok aX8_copy_3 15 rfl) rfl ?_
          refine s_iadd (tb_ok aX8_copy_3 16 rfl) ?_
          refine s_topi (z := (nI (40 * o + j + (n - 1 - k)))) (nI_add' (40 * o + j) (n - 1 - k)) ?_
          refine s_aload_n (tb_ok aX8_copy_3 17 rfl) rfl ?_
          refine s_getR (r := 81) (tb_ok aX8_copy_3 18 rfl) f_RX8_60 rfl rfl rfl ?_
          refine s_bipush (v := 40) (tb_ok aX8_copy_3 19 rfl) (by decide) ?_
          refine s_iload_n (tb_ok aX8_copy_3 20 rfl) rfl ?_
          refine s_imul (tb_ok aX8_copy_3 21 rfl) ?_
          refine s_topi (z := (nI (40 * s))) (nI_mul 40 s) ?_
          refine s_iload_n (tb_ok aX8_copy_3 22 rfl) rfl ?_
          refine s_iadd (tb_ok aX8_copy_3 23 rfl) ?_
          refine s_topi (z := (nI (40 * s + i))) (nI_add' (40 * s) i) ?_
          refine s_iload (tb_ok aX8_copy_4 0 rfl) rfl ?_
          refine s_iadd (tb_ok aX8_copy_4 1 rfl) ?_
          refine s_topi (z := (nI (40 * s + i + (n - 1 - k)))) (nI_add' (40 * s + i) (n - 1 - k)) ?_
          refine s_ialdN (tb_ok aX8_copy_4 2 rfl) rfl (by omega) (by decide) ?_
          refine s_iastN (tb_ok aX8_copy_4 3 rfl) rfl (by omega) (by decide) ?_
          refine s_iinc (v := nI (k + 1)) (ls' := [some (.ref 66), some (.int (nI s)), some (.int (nI i)), some (.int (nI o)), some (.int (nI j)), some (.int (nI n)), some (.int (1)), some (.int (nI (k + 1))), some (.int (nI (n - 1 - k)))]) (tb_ok aX8_copy_4 4 rfl) rfl (nI_1 _) rfl rfl ?_
          refine s_goto (tgt := 121) (tb_ok aX8_copy_4 5 rfl) (by decide) ?_
          have e1 : n - k = n - (k + 1) + 1 := by omega
          have hrd : (flB I 81 (40 * o + j + (n - k)) (fun q => I 81 (40 * s + i + (n - k + q))) k) 81 (40 * s + i + (n - 1 - k)) = I 81 (40 * s + i + (n - 1 - k)) := flB_n (by omega)
          rw [hrd]
          refine s_eqI ?_ (ih _)
          rw [show n - 1 - k = n - (k + 1) by omega, e1]
          refine (congrArg (fun W => up2 W 81 _ _) ?_).trans ((flB_d (I := I) (o := 81) (b := 40 * o + j + (n - (k + 1))) (g := fun q => I 81 (40 * s + i + (q - (40 * o + j)))) (k := k) ?_).trans ?_)
          · rw [show 40 * o + j + (n - (k + 1) + 1) = 40 * o + j + (n - (k + 1)) + 1 by omega]
            congr 1
            funext q
            congr 1
            omega
          · congr 1
            omega
          · congr 1
            funext q
            congr 1
            omega
  refine ev_of (by decide +kernel) rfl ?_
  show SW X _ _ _ 0 [some (.ref 66), some (.int (nI s)), some (.int (nI i)), some (.int (nI o)), some (.int (nI j)), some (.int (nI n)), none, none, none] [] S0 I L (R0 q) _
  refine s_iload_n (tb_ok aX8_copy_0 0 rfl) rfl ?_
  refine s_cSp (as := [.int (nI s)]) (tb_ok aX8_copy_0 1 rfl) v_RX8_413 (R_isSheet _) (by decide) rfl rfl (Nat.le_of_ble_eq_true rfl) ?_
  refine s_topi (bI_t (inN (n := s) (hi := 3) (by omega) (by decide))) ?_
  refine s_if_eq (tgt := 14) (tb_ok aX8_copy_0 2 rfl) (by decide) (fun c4 => ?_) (fun c4 => ?_)
  · exact absurd c4 (by decide)
  · refine s_iload_n (tb_ok aX8_copy_0 3 rfl) rfl ?_
    refine s_cSp (as := [.int (nI o)]) (tb_ok aX8_copy_0 4 rfl) v_RX8_413 (R_isSheet _) (by decide) rfl rfl (Nat.le_of_ble_eq_true rfl) ?_
    refine s_topi (bI_t (inN (n := o) (hi := 3) (by omega) (by decide))) ?_
    refine s_if_ne (tgt := 17) (tb_ok aX8_copy_0 5 rfl) (by decide) (fun c11 => ?_) (fun c11 => ?_)
    · refine s_aload_n (tb_ok aX8_copy_0 8 rfl) rfl ?_
      refine s_getR (r := 78) (tb_ok aX8_copy_0 9 rfl) f_RX8_50 rfl rfl rfl ?_
      refine s_iload_n (tb_ok aX8_copy_0 10 rfl) rfl ?_
      refine s_bald (x := (1)) (tb_ok aX8_copy_0 11 rfl) rfl (lw_in hs (by decide)) (by rw [nI_clamp (by omega)]; exact h1) ?_
      refine s_if_eq (tgt := 35) (tb_ok aX8_copy_0 12 rfl) (by decide) (fun c23 => ?_) (fun c23 => ?_)
      · exact absurd c23 (by decide)
      · refine s_aload_n (tb_ok aX8_copy_0 13 rfl) rfl ?_
        refine s_getR (r := 78) (tb_ok aX8_copy_0 14 rfl) f_RX8_50 rfl rfl rfl ?_
        refine s_iload_n (tb_ok aX8_copy_0 15 rfl) rfl ?_
        refine s_bald (x := (1)) (tb_ok aX8_copy_0 16 rfl) rfl (lw_in ho (by decide)) (by rw [nI_clamp (by omega)]; exact h2) ?_
        refine s_if_ne (tgt := 38) (tb_ok aX8_copy_0 17 rfl) (by decide) (fun c32 => ?_) (fun c32 => ?_)
        · refine s_aload_n (tb_ok aX8_copy_0 20 rfl) rfl ?_
          refine s_getR (r := 79) (tb_ok aX8_copy_0 21 rfl) f_RX8_54 rfl rfl rfl ?_
          refine s_iload_n (tb_ok aX8_copy_0 22 rfl) rfl ?_
          refine s_ialdN (tb_ok aX8_copy_0 23 rfl) rfl (by omega) (by decide) ?_
          refine s_aload_n (tb_ok aX8_copy_1 0 rfl) rfl ?_
          refine s_getR (r := 79) (tb_ok aX8_copy_1 1 rfl) f_RX8_54 rfl rfl rfl ?_
          refine s_iload_n (tb_ok aX8_copy_1 2 rfl) rfl ?_
          refine s_ialdN (tb_ok aX8_copy_1 3 rfl) rfl (by omega) (by decide) ?_
          refine s_icmp_eq (tgt := 56) (tb_ok aX8_copy_1 4 rfl) (by decide) (fun c50 => ?_) (fun c50 => ?_)
          · refine s_iload (tb_ok aX8_copy_1 7 rfl) rfl ?_
            refine s_if_lt (tgt := 97) (tb_ok aX8_copy_1 8 rfl) (by decide) (fun c58 => ?_) (fun c58 => ?_)
            · exact absurd c58 (nI_pos (by omega))
            · refine s_iload_n (tb_ok aX8_copy_1 9 rfl) rfl ?_
              refine s_if_lt (tgt := 97) (tb_ok aX8_copy_1 10 rfl) (by decide) (fun c62 => ?_) (fun c62 => ?_)
              · exact absurd c62 (nI_pos (by omega))
              · refine s_iload (tb_ok aX8_copy_1 11 rfl) rfl ?_
                refine s_if_lt (tgt := 97) (tb_ok aX8_copy_1 12 rfl) (by decide) (fun c67 => ?_) (fun c67 => ?_)
                · exact absurd c67 (nI_pos (by omega))
                · refine s_iload_n (tb_ok aX8_copy_1 13 rfl) rfl ?_
                  refine s_aload_n (tb_ok aX8_copy_1 14 rfl) rfl ?_
                  refine s_getR (r := 80) (tb_ok aX8_copy_1 15 rfl) f_RX8_57 rfl rfl rfl ?_
                  refine s_iload_n (tb_ok aX8_copy_1 16 rfl) rfl ?_
                  refine s_ialdX (x := (nI zs)) (tb_ok aX8_copy_1 17 rfl) rfl (by omega) (by decide) hzs ?_
                  refine s_iload (tb_ok aX8_copy_1 18 rfl) rfl ?_
                  refine s_isub (tb_ok aX8_copy_1 19 rfl) ?_
                  refine s_icmp_gt (tgt := 97) (tb_ok aX8_copy_1 20 rfl) (by decide) (fun c80 => ?_) (fun c80 => ?_)
                  · exact absurd c80 (Int32.not_lt.mpr (nsub (by omega) (by omega) hi))
                  · refine s_iload (tb_ok aX8_copy_1 21 rfl) rfl ?_
                    refine s_aload_n (tb_ok aX8_copy_1 22 rfl) rfl ?_
                    refine s_getR (r := 80) (tb_ok aX8_copy_1 23 rfl) f_RX8_57 rfl rfl rfl ?_
                    refine s_iload_n (tb_ok aX8_copy_2 0 rfl) rfl ?_
                    refine s_ialdX (x := (nI zo)) (tb_ok aX8_copy_2 1 rfl) rfl (by omega) (by decide) hzo ?_
                    refine s_iload (tb_ok aX8_copy_2 2 rfl) rfl ?_
                    refine s_isub (tb_ok aX8_copy_2 3 rfl) ?_
                    refine s_icmp_le (tgt := 100) (tb_ok aX8_copy_2 4 rfl) (by decide) (fun c94 => ?_) (fun c94 => ?_)
                    · refine s_iload_n (tb_ok aX8_copy_2 7 rfl) rfl ?_
                      refine s_iload_n (tb_ok aX8_copy_2 8 rfl) rfl ?_
                      refine s_icmp_ne (tgt := 115) (tb_ok aX8_copy_2 9 rfl) (by decide) (fun c102 => ?_) (fun c102 => ?_)
                      · simp (disch := omega) only [nI_eq] at c102
                        omega
                      · refine s_iload_n (tb_ok aX8_copy_2 10 rfl) rfl ?_
                        refine s_iload (tb_ok aX8_copy_2 11 rfl) rfl ?_
                        refine s_icmp_ge (tgt := 115) (tb_ok aX8_copy_2 12 rfl) (by decide) (fun c108 => ?_) (fun c108 => ?_)
                        · simp (disch := omega) only [nI_leI] at c108
                          omega
                        · refine s_iconst (v := 1) (tb_ok aX8_copy_2 13 rfl) (by decide) ?_
                          refine s_goto (tgt := 116) (tb_ok aX8_copy_2 14 rfl) (by decide) ?_
                          refine s_istore (ls' := [some (.ref 66), some (.int (nI s)), some (.int (nI i)), some (.int (nI o)), some (.int (nI j)), some (.int (nI n)), some (.int (1)), none, none]) (tb_ok aX8_copy_2 16 rfl) rfl rfl ?_
                          refine s_iconst (v := nI 0) (tb_ok aX8_copy_2 17 rfl) (by decide) ?_
                          refine s_istore (ls' := [some (.ref 66), some (.int (nI s)), some (.int (nI i)), some (.int (nI o)), some (.int (nI j)), some (.int (nI n)), some (.int (1)), some (.int (nI 0)), none]) (tb_ok aX8_copy_2 18 rfl) rfl rfl ?_
                          refine s_eqI (flB_0 (o := 81) (b := 40 * o + j + (n - 0)) (g := fun q => I 81 (40 * s + i + (n - 0 + q)))).symm ?_
                          exact loop 0 (Nat.zero_le _) _
                    · exact absurd (nsub (by omega) (by omega) hj) c94
          · exact absurd hso c50
        · exact absurd c32 (by decide)
    · exact absurd c11 (by decide)

set_option maxRecDepth 100000 in
set_option maxHeartbeats 1000000 in
theorem R_copyO {X : En} {L : FL} {q : Nat × Nat} {I : FI} {s o : Nat} (hs : s < 4) (ho : o < 4) (h1 : I 78 s = 1) (h2 : I 78 o = 1) {zs zo : Nat} (hzs : I 80 s = nI zs) (hzo : I 80 o = nI zo) (hzs4 : zs ≤ 40) (hzo4 : zo ≤ 40) (hso : I 79 s = I 79 o) {x z w : Int32} (hv : ¬ (¬ w < 0 ∧ ¬ x < 0 ∧ ¬ z < 0 ∧ ¬ nI zs - w < x ∧ z ≤ nI zo - w)) : Ev X 3 mX8_copy (0, 0) [.ref 66, .int (nI s), .int x, .int (nI o), .int z, .int w] S0 I L (R0 q) (PureR (some (.int (-12))) S0 (I) L (R0 q)) := by
  refine ev_of (by decide +kernel) rfl ?_
  show SW X _ _ _ 0 [some (.ref 66), some (.int (nI s)), some (.int x), some (.int (nI o)), some (.int z), some (.int w), none, none, none] [] S0 I L (R0 q) _
  refine s_iload_n (tb_ok aX8_copy_0 0 rfl) rfl ?_
  refine s_cSp (as := [.int (nI s)]) (tb_ok aX8_copy_0 1 rfl) v_RX8_413 (R_isSheet _) (by decide) rfl rfl (Nat.le_of_ble_eq_true rfl) ?_
  refine s_topi (bI_t (inN (n := s) (hi := 3) (by omega) (by decide))) ?_
  refine s_if_eq (tgt := 14) (tb_ok aX8_copy_0 2 rfl) (by decide) (fun c4 => ?_) (fun c4 => ?_)
  · exact absurd c4 (by decide)
  · refine s_iload_n (tb_ok aX8_copy_0 3 rfl) rfl ?_
    refine s_cSp (as := [.int (nI o)]) (tb_ok aX8_copy_0 4 rfl) v_RX8_413 (R_isSheet _) (by decide) rfl rfl (Nat.le_of_ble_eq_true rfl) ?_
    refine s_topi (bI_t (inN (n := o) (hi := 3) (by omega) (by decide))) ?_
    refine s_if_ne (tgt := 17) (tb_ok aX8_copy_0 5 rfl) (by decide) (fun c11 => ?_) (fun c11 => ?_)
    · refine s_aload_n (tb_ok aX8_copy_0 8 rfl) rfl ?_
      refine s_getR (r := 78) (tb_ok aX8_copy_0 9 rfl) f_RX8_50 rfl rfl rfl ?_
      refine s_iload_n (tb_ok aX8_copy_0 10 rfl) rfl ?_
      refine s_bald (x := (1)) (tb_ok aX8_copy_0 11 rfl) rfl (lw_in hs (by decide)) (by rw [nI_clamp (by omega)]; exact h1) ?_
      refine s_if_eq (tgt := 35) (tb_ok aX8_copy_0 12 rfl) (by decide) (fun c23 => ?_) (fun c23 => ?_)
      · exact absurd c23 (by decide)
      · refine s_aload_n (tb_ok aX8_copy_0 13 rfl) rfl ?_
        refine s_getR (r := 78) (tb_ok aX8_copy_0 14 rfl) f_RX8_50 rfl rfl rfl ?_
        refine s_iload_n (tb_ok aX8_copy_0 15 rfl) rfl ?_
        refine s_bald (x := (1)) (tb_ok aX8_copy_0 16 rfl) rfl (lw_in ho (by decide)) (by rw [nI_clamp (by omega)]; exact h2) ?_
        refine s_if_ne (tgt := 38) (tb_ok aX8_copy_0 17 rfl) (by decide) (fun c32 => ?_) (fun c32 => ?_)
        · refine s_aload_n (tb_ok aX8_copy_0 20 rfl) rfl ?_
          refine s_getR (r := 79) (tb_ok aX8_copy_0 21 rfl) f_RX8_54 rfl rfl rfl ?_
          refine s_iload_n (tb_ok aX8_copy_0 22 rfl) rfl ?_
          refine s_ialdN (tb_ok aX8_copy_0 23 rfl) rfl (by omega) (by decide) ?_
          refine s_aload_n (tb_ok aX8_copy_1 0 rfl) rfl ?_
          refine s_getR (r := 79) (tb_ok aX8_copy_1 1 rfl) f_RX8_54 rfl rfl rfl ?_
          refine s_iload_n (tb_ok aX8_copy_1 2 rfl) rfl ?_
          refine s_ialdN (tb_ok aX8_copy_1 3 rfl) rfl (by omega) (by decide) ?_
          refine s_icmp_eq (tgt := 56) (tb_ok aX8_copy_1 4 rfl) (by decide) (fun c50 => ?_) (fun c50 => ?_)
          · refine s_iload (tb_ok aX8_copy_1 7 rfl) rfl ?_
            refine s_if_lt (tgt := 97) (tb_ok aX8_copy_1 8 rfl) (by decide) (fun c58 => ?_) (fun c58 => ?_)
            · refine s_bipush (v := -12) (tb_ok aX8_copy_2 5 rfl) (by decide) ?_
              refine s_iret (tb_ok aX8_copy_2 6 rfl) rfl ?_
              exact pureR
            · refine s_iload_n (tb_ok aX8_copy_1 9 rfl) rfl ?_
              refine s_if_lt (tgt := 97) (tb_ok aX8_copy_1 10 rfl) (by decide) (fun c62 => ?_) (fun c62 => ?_)
              · refine s_bipush (v := -12) (tb_ok aX8_copy_2 5 rfl) (by decide) ?_
                refine s_iret (tb_ok aX8_copy_2 6 rfl) rfl ?_
                exact pureR
              · refine s_iload (tb_ok aX8_copy_1 11 rfl) rfl ?_
                refine s_if_lt (tgt := 97) (tb_ok aX8_copy_1 12 rfl) (by decide) (fun c67 => ?_) (fun c67 => ?_)
                · refine s_bipush (v := -12) (tb_ok aX8_copy_2 5 rfl) (by decide) ?_
                  refine s_iret (tb_ok aX8_copy_2 6 rfl) rfl ?_
                  exact pureR
                · refine s_iload_n (tb_ok aX8_copy_1 13 rfl) rfl ?_
                  refine s_aload_n (tb_ok aX8_copy_1 14 rfl) rfl ?_
                  refine s_getR (r := 80) (tb_ok aX8_copy_1 15 rfl) f_RX8_57 rfl rfl rfl ?_
                  refine s_iload_n (tb_ok aX8_copy_1 16 rfl) rfl ?_
                  refine s_ialdX (x := (nI zs)) (tb_ok aX8_copy_1 17 rfl) rfl (by omega) (by decide) hzs ?_
                  refine s_iload (tb_ok aX8_copy_1 18 rfl) rfl ?_
                  refine s_isub (tb_ok aX8_copy_1 19 rfl) ?_
                  refine s_icmp_gt (tgt := 97) (tb_ok aX8_copy_1 20 rfl) (by decide) (fun c80 => ?_) (fun c80 => ?_)
                  · refine s_bipush (v := -12) (tb_ok aX8_copy_2 5 rfl) (by decide) ?_
                    refine s_iret (tb_ok aX8_copy_2 6 rfl) rfl ?_
                    exact pureR
                  · refine s_iload (tb_ok aX8_copy_1 21 rfl) rfl ?_
                    refine s_aload_n (tb_ok aX8_copy_1 22 rfl) rfl ?_
                    refine s_getR (r := 80) (tb_ok aX8_copy_1 23 rfl) f_RX8_57 rfl rfl rfl ?_
                    refine s_iload_n (tb_ok aX8_copy_2 0 rfl) rfl ?_
                    refine s_ialdX (x := (nI zo)) (tb_ok aX8_copy_2 1 rfl) rfl (by omega) (by decide) hzo ?_
                    refine s_iload (tb_ok aX8_copy_2 2 rfl) rfl ?_
                    refine s_isub (tb_ok aX8_copy_2 3 rfl) ?_
                    refine s_icmp_le (tgt := 100) (tb_ok aX8_copy_2 4 rfl) (by decide) (fun c94 => ?_) (fun c94 => ?_)
                    · exact absurd ⟨c58, c62, c67, c80, c94⟩ hv
                    · refine s_bipush (v := -12) (tb_ok aX8_copy_2 5 rfl) (by decide) ?_
                      refine s_iret (tb_ok aX8_copy_2 6 rfl) rfl ?_
                      exact pureR
          · exact absurd hso c50
        · exact absurd c32 (by decide)
    · exact absurd c11 (by decide)

set_option maxRecDepth 100000 in
set_option maxHeartbeats 1000000 in
theorem R_copyU {X : En} {L : FL} {q : Nat × Nat} {I : FI} {s o : Nat} (hs : s < 4) (ho : o < 4) (h1 : I 78 s = 1) (h2 : I 78 o = 1) {zs zo : Nat} (hzs : I 80 s = nI zs) (hzo : I 80 o = nI zo) (hzs4 : zs ≤ 40) (hzo4 : zo ≤ 40) (hso : ¬ I 79 s = I 79 o) {x z w : Int32} : Ev X 3 mX8_copy (0, 0) [.ref 66, .int (nI s), .int x, .int (nI o), .int z, .int w] S0 I L (R0 q) (PureR (some (.int (-13))) S0 (I) L (R0 q)) := by
  refine ev_of (by decide +kernel) rfl ?_
  show SW X _ _ _ 0 [some (.ref 66), some (.int (nI s)), some (.int x), some (.int (nI o)), some (.int z), some (.int w), none, none, none] [] S0 I L (R0 q) _
  refine s_iload_n (tb_ok aX8_copy_0 0 rfl) rfl ?_
  refine s_cSp (as := [.int (nI s)]) (tb_ok aX8_copy_0 1 rfl) v_RX8_413 (R_isSheet _) (by decide) rfl rfl (Nat.le_of_ble_eq_true rfl) ?_
  refine s_topi (bI_t (inN (n := s) (hi := 3) (by omega) (by decide))) ?_
  refine s_if_eq (tgt := 14) (tb_ok aX8_copy_0 2 rfl) (by decide) (fun c4 => ?_) (fun c4 => ?_)
  · exact absurd c4 (by decide)
  · refine s_iload_n (tb_ok aX8_copy_0 3 rfl) rfl ?_
    refine s_cSp (as := [.int (nI o)]) (tb_ok aX8_copy_0 4 rfl) v_RX8_413 (R_isSheet _) (by decide) rfl rfl (Nat.le_of_ble_eq_true rfl) ?_
    refine s_topi (bI_t (inN (n := o) (hi := 3) (by omega) (by decide))) ?_
    refine s_if_ne (tgt := 17) (tb_ok aX8_copy_0 5 rfl) (by decide) (fun c11 => ?_) (fun c11 => ?_)
    · refine s_aload_n (tb_ok aX8_copy_0 8 rfl) rfl ?_
      refine s_getR (r := 78) (tb_ok aX8_copy_0 9 rfl) f_RX8_50 rfl rfl rfl ?_
      refine s_iload_n (tb_ok aX8_copy_0 10 rfl) rfl ?_
      refine s_bald (x := (1)) (tb_ok aX8_copy_0 11 rfl) rfl (lw_in hs (by decide)) (by rw [nI_clamp (by omega)]; exact h1) ?_
      refine s_if_eq (tgt := 35) (tb_ok aX8_copy_0 12 rfl) (by decide) (fun c23 => ?_) (fun c23 => ?_)
      · exact absurd c23 (by decide)
      · refine s_aload_n (tb_ok aX8_copy_0 13 rfl) rfl ?_
        refine s_getR (r := 78) (tb_ok aX8_copy_0 14 rfl) f_RX8_50 rfl rfl rfl ?_
        refine s_iload_n (tb_ok aX8_copy_0 15 rfl) rfl ?_
        refine s_bald (x := (1)) (tb_ok aX8_copy_0 16 rfl) rfl (lw_in ho (by decide)) (by rw [nI_clamp (by omega)]; exact h2) ?_
        refine s_if_ne (tgt := 38) (tb_ok aX8_copy_0 17 rfl) (by decide) (fun c32 => ?_) (fun c32 => ?_)
        · refine s_aload_n (tb_ok aX8_copy_0 20 rfl) rfl ?_
          refine s_getR (r := 79) (tb_ok aX8_copy_0 21 rfl) f_RX8_54 rfl rfl rfl ?_
          refine s_iload_n (tb_ok aX8_copy_0 22 rfl) rfl ?_
          refine s_ialdN (tb_ok aX8_copy_0 23 rfl) rfl (by omega) (by decide) ?_
          refine s_aload_n (tb_ok aX8_copy_1 0 rfl) rfl ?_
          refine s_getR (r := 79) (tb_ok aX8_copy_1 1 rfl) f_RX8_54 rfl rfl rfl ?_
          refine s_iload_n (tb_ok aX8_copy_1 2 rfl) rfl ?_
          refine s_ialdN (tb_ok aX8_copy_1 3 rfl) rfl (by omega) (by decide) ?_
          refine s_icmp_eq (tgt := 56) (tb_ok aX8_copy_1 4 rfl) (by decide) (fun c50 => ?_) (fun c50 => ?_)
          · exact absurd c50 hso
          · refine s_bipush (v := -13) (tb_ok aX8_copy_1 5 rfl) (by decide) ?_
            refine s_iret (tb_ok aX8_copy_1 6 rfl) rfl ?_
            exact pureR
        · exact absurd c32 (by decide)
    · exact absurd c11 (by decide)

set_option maxRecDepth 100000 in
set_option maxHeartbeats 1000000 in
theorem R_copyN1 {X : En} {L : FL} {q : Nat × Nat} {I : FI} {s o : Nat} (hs : s < 4) (ho : o < 4) (h1 : I 78 s = 0) {x z w : Int32} : Ev X 3 mX8_copy (0, 0) [.ref 66, .int (nI s), .int x, .int (nI o), .int z, .int w] S0 I L (R0 q) (PureR (some (.int (-11))) S0 (I) L (R0 q)) := by
  refine ev_of (by decide +kernel) rfl ?_
  show SW X _ _ _ 0 [some (.ref 66), some (.int (nI s)), some (.int x), some (.int (nI o)), some (.int z), some (.int w), none, none, none] [] S0 I L (R0 q) _
  refine s_iload_n (tb_ok aX8_copy_0 0 rfl) rfl ?_
  refine s_cSp (as := [.int (nI s)]) (tb_ok aX8_copy_0 1 rfl) v_RX8_413 (R_isSheet _) (by decide) rfl rfl (Nat.le_of_ble_eq_true rfl) ?_
  refine s_topi (bI_t (inN (n := s) (hi := 3) (by omega) (by decide))) ?_
  refine s_if_eq (tgt := 14) (tb_ok aX8_copy_0 2 rfl) (by decide) (fun c4 => ?_) (fun c4 => ?_)
  · exact absurd c4 (by decide)
  · refine s_iload_n (tb_ok aX8_copy_0 3 rfl) rfl ?_
    refine s_cSp (as := [.int (nI o)]) (tb_ok aX8_copy_0 4 rfl) v_RX8_413 (R_isSheet _) (by decide) rfl rfl (Nat.le_of_ble_eq_true rfl) ?_
    refine s_topi (bI_t (inN (n := o) (hi := 3) (by omega) (by decide))) ?_
    refine s_if_ne (tgt := 17) (tb_ok aX8_copy_0 5 rfl) (by decide) (fun c11 => ?_) (fun c11 => ?_)
    · refine s_aload_n (tb_ok aX8_copy_0 8 rfl) rfl ?_
      refine s_getR (r := 78) (tb_ok aX8_copy_0 9 rfl) f_RX8_50 rfl rfl rfl ?_
      refine s_iload_n (tb_ok aX8_copy_0 10 rfl) rfl ?_
      refine s_bald (x := (0)) (tb_ok aX8_copy_0 11 rfl) rfl (lw_in hs (by decide)) (by rw [nI_clamp (by omega)]; exact h1) ?_
      refine s_if_eq (tgt := 35) (tb_ok aX8_copy_0 12 rfl) (by decide) (fun c23 => ?_) (fun c23 => ?_)
      · refine s_bipush (v := -11) (tb_ok aX8_copy_0 18 rfl) (by decide) ?_
        refine s_iret (tb_ok aX8_copy_0 19 rfl) rfl ?_
        exact pureR
      · exact absurd c23 (by decide)
    · exact absurd c11 (by decide)

set_option maxRecDepth 100000 in
set_option maxHeartbeats 1000000 in
theorem R_copyN2 {X : En} {L : FL} {q : Nat × Nat} {I : FI} {s o : Nat} (hs : s < 4) (ho : o < 4) (h1 : I 78 s = 1) (h2 : I 78 o = 0) {x z w : Int32} : Ev X 3 mX8_copy (0, 0) [.ref 66, .int (nI s), .int x, .int (nI o), .int z, .int w] S0 I L (R0 q) (PureR (some (.int (-11))) S0 (I) L (R0 q)) := by
  refine ev_of (by decide +kernel) rfl ?_
  show SW X _ _ _ 0 [some (.ref 66), some (.int (nI s)), some (.int x), some (.int (nI o)), some (.int z), some (.int w), none, none, none] [] S0 I L (R0 q) _
  refine s_iload_n (tb_ok aX8_copy_0 0 rfl) rfl ?_
  refine s_cSp (as := [.int (nI s)]) (tb_ok aX8_copy_0 1 rfl) v_RX8_413 (R_isSheet _) (by decide) rfl rfl (Nat.le_of_ble_eq_true rfl) ?_
  refine s_topi (bI_t (inN (n := s) (hi := 3) (by omega) (by decide))) ?_
  refine s_if_eq (tgt := 14) (tb_ok aX8_copy_0 2 rfl) (by decide) (fun c4 => ?_) (fun c4 => ?_)
  · exact absurd c4 (by decide)
  · refine s_iload_n (tb_ok aX8_copy_0 3 rfl) rfl ?_
    refine s_cSp (as := [.int (nI o)]) (tb_ok aX8_copy_0 4 rfl) v_RX8_413 (R_isSheet _) (by decide) rfl rfl (Nat.le_of_ble_eq_true rfl) ?_
    refine s_topi (bI_t (inN (n := o) (hi := 3) (by omega) (by decide))) ?_
    refine s_if_ne (tgt := 17) (tb_ok aX8_copy_0 5 rfl) (by decide) (fun c11 => ?_) (fun c11 => ?_)
    · refine s_aload_n (tb_ok aX8_copy_0 8 rfl) rfl ?_
      refine s_getR (r := 78) (tb_ok aX8_copy_0 9 rfl) f_RX8_50 rfl rfl rfl ?_
      refine s_iload_n (tb_ok aX8_copy_0 10 rfl) rfl ?_
      refine s_bald (x := (1)) (tb_ok aX8_copy_0 11 rfl) rfl (lw_in hs (by decide)) (by rw [nI_clamp (by omega)]; exact h1) ?_
      refine s_if_eq (tgt := 35) (tb_ok aX8_copy_0 12 rfl) (by decide) (fun c23 => ?_) (fun c23 => ?_)
      · exact absurd c23 (by decide)
      · refine s_aload_n (tb_ok aX8_copy_0 13 rfl) rfl ?_
        refine s_getR (r := 78) (tb_ok aX8_copy_0 14 rfl) f_RX8_50 rfl rfl rfl ?_
        refine s_iload_n (tb_ok aX8_copy_0 15 rfl) rfl ?_
        refine s_bald (x := (0)) (tb_ok aX8_copy_0 16 rfl) rfl (lw_in ho (by decide)) (by rw [nI_clamp (by omega)]; exact h2) ?_
        refine s_if_ne (tgt := 38) (tb_ok aX8_copy_0 17 rfl) (by decide) (fun c32 => ?_) (fun c32 => ?_)
        · exact absurd c32 (by decide)
        · refine s_bipush (v := -11) (tb_ok aX8_copy_0 18 rfl) (by decide) ?_
          refine s_iret (tb_ok aX8_copy_0 19 rfl) rfl ?_
          exact pureR
    · exact absurd c11 (by decide)

set_option maxRecDepth 100000 in
set_option maxHeartbeats 1000000 in
theorem R_copyB {X : En} {L : FL} {q : Nat × Nat} {I : FI} {a b x z w : Int32} (hv : ¬ ((¬ a < 0 ∧ ¬ 3 < a) ∧ (¬ b < 0 ∧ ¬ 3 < b))) : Ev X 3 mX8_copy (0, 0) [.ref 66, .int a, .int x, .int b, .int z, .int w] S0 I L (R0 q) (PureR (some (.int (-2))) S0 (I) L (R0 q)) := by
  refine ev_of (by decide +kernel) rfl ?_
  show SW X _ _ _ 0 [some (.ref 66), some (.int a), some (.int x), some (.int b), some (.int z), some (.int w), none, none, none] [] S0 I L (R0 q) _
  refine s_iload_n (tb_ok aX8_copy_0 0 rfl) rfl ?_
  refine s_cSp (as := [.int a]) (tb_ok aX8_copy_0 1 rfl) v_RX8_413 (R_isSheet _) (by decide) rfl rfl (Nat.le_of_ble_eq_true rfl) ?_
  refine s_if_eq (tgt := 14) (tb_ok aX8_copy_0 2 rfl) (by decide) (fun c4 => ?_) (fun c4 => ?_)
  · refine s_bipush (v := -2) (tb_ok aX8_copy_0 6 rfl) (by decide) ?_
    refine s_iret (tb_ok aX8_copy_0 7 rfl) rfl ?_
    exact pureR
  · refine s_iload_n (tb_ok aX8_copy_0 3 rfl) rfl ?_
    refine s_cSp (as := [.int b]) (tb_ok aX8_copy_0 4 rfl) v_RX8_413 (R_isSheet _) (by decide) rfl rfl (Nat.le_of_ble_eq_true rfl) ?_
    refine s_if_ne (tgt := 17) (tb_ok aX8_copy_0 5 rfl) (by decide) (fun c11 => ?_) (fun c11 => ?_)
    · exact absurd ⟨bI_n c4, bI_n c11⟩ hv
    · refine s_bipush (v := -2) (tb_ok aX8_copy_0 6 rfl) (by decide) ?_
      refine s_iret (tb_ok aX8_copy_0 7 rfl) rfl ?_
      exact pureR
