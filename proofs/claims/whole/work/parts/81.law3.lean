/-! the law's loop -/
theorem and31 (x : Int32) : ∃ k, k < 32 ∧ x &&& 31 = nI k := by
  refine ⟨(x &&& 31).toBitVec.toNat, ?_, ?_⟩
  · rw [Int32.toBitVec_and, BitVec.toNat_and]
    exact Nat.lt_of_le_of_lt Nat.and_le_right (by decide)
  · unfold nI
    apply Int32.toBitVec_inj.mp
    simp
theorem loop_go {n i : Nat} (hi : i ≤ 10000) (hn : n ≤ 3072) (h : ¬ nI n - 6 < nI i) : i + 6 ≤ n := by
  rw [Int32.lt_iff_toInt_lt, Int32.toInt_sub, nI_int (by omega), nI_int (by omega), show (6 : Int32).toInt = 6 from rfl, Int.bmod_eq_of_le (by omega) (by omega)] at h
  omega
set_option maxRecDepth 100000 in
set_option maxHeartbeats 1000000 in
theorem law_loop {X : En} {nm : String} {n : Nat} {xs : Nat → Int32} (hn : n ≤ 3072) : ∀ (f i : Nat), n ≤ i + f → i ≤ n + 6 → ∀ (q : Nat × Nat) (I : FI) (L : FL), Inv q I → SW X 100 (mL nm) (0, 0) 18 (LSt i) [] S0 I L (R0 q) (KL X n xs) := by
  intro f
  induction f with
  | zero =>
    intro i hf hi q I L g
    refine s_iload_n (x := nI i) (tb_ok aL_law_0 10 rfl) rfl ?_
    refine s_aload_n (o := 1000040) (tb_ok aL_law_0 11 rfl) rfl ?_
    refine s_scl (tb_ok aL_law_0 12 rfl) ?_
    refine s_bipush (v := 6) (tb_ok aL_law_0 13 rfl) (by decide) ?_
    refine s_isub (tb_ok aL_law_0 14 rfl) ?_
    refine s_icmp_gt (tgt := 1084) (tb_ok aL_law_0 15 rfl) (by decide) (fun _ => ?_) (fun h => ?_)
    · refine s_iconst (v := 1) (tb_ok aL_law_32 16 rfl) (by decide) ?_
      exact s_lend rfl rfl (tb_ok aL_law_32 17 rfl)
    · exact absurd (loop_go (by omega) hn h) (by omega)
  | succ f ih =>
    intro i hf hi q I L g
    refine s_iload_n (x := nI i) (tb_ok aL_law_0 10 rfl) rfl ?_
    refine s_aload_n (o := 1000040) (tb_ok aL_law_0 11 rfl) rfl ?_
    refine s_scl (tb_ok aL_law_0 12 rfl) ?_
    refine s_bipush (v := 6) (tb_ok aL_law_0 13 rfl) (by decide) ?_
    refine s_isub (tb_ok aL_law_0 14 rfl) ?_
    refine s_icmp_gt (tgt := 1084) (tb_ok aL_law_0 15 rfl) (by decide) (fun _ => ?_) (fun h => ?_)
    · refine s_iconst (v := 1) (tb_ok aL_law_32 16 rfl) (by decide) ?_
      exact s_lend rfl rfl (tb_ok aL_law_32 17 rfl)
    · have h6 : i + 6 ≤ n := loop_go (by omega) hn h
      have kk : ∀ q' I' L', Inv q' I' → SW X 100 (mL nm) (0, 0) 1078 (LSt i) [] S0 I' L' (R0 q') (KL X n xs) := fun q2 I2 L2 g2 => by
        refine s_iinc (v := nI (i + 6)) (ls' := LSt (i + 6)) (tb_ok aL_law_32 14 rfl) rfl (nI_add' i 6) rfl rfl ?_
        refine s_goto (tgt := 18) (tb_ok aL_law_32 15 rfl) (by decide) ?_
        exact ih (i + 6) (by omega) (by omega) q2 I2 L2 g2
      refine s_aload_n (o := 1000040) (tb_ok aL_law_0 16 rfl) rfl ?_
      refine s_iload_n (x := nI i) (tb_ok aL_law_0 17 rfl) rfl ?_
      refine s_scr (tb_ok aL_law_0 18 rfl) (by omega) hn ?_
      refine s_bipush (v := 31) (tb_ok aL_law_0 19 rfl) (by decide) ?_
      refine s_iand (tb_ok aL_law_0 20 rfl) ?_
      obtain ⟨k, hk, ek⟩ := and31 (xs i)
      refine s_topi (z := nI k) ek ?_
      by_cases h27 : k < 27
      · have hk27 : k = 0 ∨ k = 1 ∨ k = 2 ∨ k = 3 ∨ k = 4 ∨ k = 5 ∨ k = 6 ∨ k = 7 ∨ k = 8 ∨ k = 9 ∨ k = 10 ∨ k = 11 ∨ k = 12 ∨ k = 13 ∨ k = 14 ∨ k = 15 ∨ k = 16 ∨ k = 17 ∨ k = 18 ∨ k = 19 ∨ k = 20 ∨ k = 21 ∨ k = 22 ∨ k = 23 ∨ k = 24 ∨ k = 25 ∨ k = 26 := by omega
        rcases hk27 with rfl | rfl | rfl | rfl | rfl | rfl | rfl | rfl | rfl | rfl | rfl | rfl | rfl | rfl | rfl | rfl | rfl | rfl | rfl | rfl | rfl | rfl | rfl | rfl | rfl | rfl | rfl
        · exact s_tableIn (off := 123) (tgt := 156) (tb_ok aL_law_0 21 rfl) (by decide) (by decide) rfl (by decide) (law_0 h6 hn g kk)
        · exact s_tableIn (off := 156) (tgt := 189) (tb_ok aL_law_0 21 rfl) (by decide) (by decide) rfl (by decide) (law_1 h6 hn g kk)
        · exact s_tableIn (off := 199) (tgt := 232) (tb_ok aL_law_0 21 rfl) (by decide) (by decide) rfl (by decide) (law_2 h6 hn g kk)
        · exact s_tableIn (off := 232) (tgt := 265) (tb_ok aL_law_0 21 rfl) (by decide) (by decide) rfl (by decide) (law_3 h6 hn g kk)
        · exact s_tableIn (off := 265) (tgt := 298) (tb_ok aL_law_0 21 rfl) (by decide) (by decide) rfl (by decide) (law_4 h6 hn g kk)
        · exact s_tableIn (off := 288) (tgt := 321) (tb_ok aL_law_0 21 rfl) (by decide) (by decide) rfl (by decide) (law_5 h6 hn g kk)
        · exact s_tableIn (off := 301) (tgt := 334) (tb_ok aL_law_0 21 rfl) (by decide) (by decide) rfl (by decide) (law_6 h6 hn g kk)
        · exact s_tableIn (off := 324) (tgt := 357) (tb_ok aL_law_0 21 rfl) (by decide) (by decide) rfl (by decide) (law_7 h6 hn g kk)
        · exact s_tableIn (off := 357) (tgt := 390) (tb_ok aL_law_0 21 rfl) (by decide) (by decide) rfl (by decide) (law_8 h6 hn g kk)
        · exact s_tableIn (off := 380) (tgt := 413) (tb_ok aL_law_0 21 rfl) (by decide) (by decide) rfl (by decide) (law_9 h6 hn g kk)
        · exact s_tableIn (off := 413) (tgt := 446) (tb_ok aL_law_0 21 rfl) (by decide) (by decide) rfl (by decide) (law_10 h6 hn g kk)
        · exact s_tableIn (off := 426) (tgt := 459) (tb_ok aL_law_0 21 rfl) (by decide) (by decide) rfl (by decide) (law_11 h6 hn g kk)
        · exact s_tableIn (off := 469) (tgt := 502) (tb_ok aL_law_0 21 rfl) (by decide) (by decide) rfl (by decide) (law_12 h6 hn g kk)
        · exact s_tableIn (off := 512) (tgt := 545) (tb_ok aL_law_0 21 rfl) (by decide) (by decide) rfl (by decide) (law_13 h6 hn g kk)
        · exact s_tableIn (off := 555) (tgt := 588) (tb_ok aL_law_0 21 rfl) (by decide) (by decide) rfl (by decide) (law_14 h6 hn g kk)
        · exact s_tableIn (off := 598) (tgt := 631) (tb_ok aL_law_0 21 rfl) (by decide) (by decide) rfl (by decide) (law_15 h6 hn g kk)
        · exact s_tableIn (off := 641) (tgt := 674) (tb_ok aL_law_0 21 rfl) (by decide) (by decide) rfl (by decide) (law_16 h6 hn g kk)
        · exact s_tableIn (off := 684) (tgt := 717) (tb_ok aL_law_0 21 rfl) (by decide) (by decide) rfl (by decide) (law_17 h6 hn g kk)
        · exact s_tableIn (off := 707) (tgt := 740) (tb_ok aL_law_0 21 rfl) (by decide) (by decide) rfl (by decide) (law_18 h6 hn g kk)
        · exact s_tableIn (off := 761) (tgt := 794) (tb_ok aL_law_0 21 rfl) (by decide) (by decide) rfl (by decide) (law_19 h6 hn g kk)
        · exact s_tableIn (off := 774) (tgt := 807) (tb_ok aL_law_0 21 rfl) (by decide) (by decide) rfl (by decide) (law_20 h6 hn g kk)
        · exact s_tableIn (off := 787) (tgt := 820) (tb_ok aL_law_0 21 rfl) (by decide) (by decide) rfl (by decide) (law_21 h6 hn g kk)
        · exact s_tableIn (off := 810) (tgt := 843) (tb_ok aL_law_0 21 rfl) (by decide) (by decide) rfl (by decide) (law_22 h6 hn g kk)
        · exact s_tableIn (off := 853) (tgt := 886) (tb_ok aL_law_0 21 rfl) (by decide) (by decide) rfl (by decide) (law_23 h6 hn g kk)
        · exact s_tableIn (off := 896) (tgt := 929) (tb_ok aL_law_0 21 rfl) (by decide) (by decide) rfl (by decide) (law_24 h6 hn g kk)
        · exact s_tableIn (off := 959) (tgt := 992) (tb_ok aL_law_0 21 rfl) (by decide) (by decide) rfl (by decide) (law_25 h6 hn g kk)
        · exact s_tableIn (off := 1012) (tgt := 1045) (tb_ok aL_law_0 21 rfl) (by decide) (by decide) rfl (by decide) (law_26 h6 hn g kk)
      · refine s_tableOut (tgt := 1078) (tb_ok aL_law_0 21 rfl) (Or.inr ?_) (by decide) (kk _ _ _ g)
        rw [nI_int (by omega)]
        omega
