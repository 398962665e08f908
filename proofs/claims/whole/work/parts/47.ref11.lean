/-! the reference: who fits, drawn baskets, what is missed, the fewest -/
theorem bitS_s {fits : Nat → Int32} {k : Nat} (h : fits k = -1) : bitS fits (k + 1) = bitS fits k ||| ((1 : Int32) <<< (nI k &&& 31)) := by
  show (if fits k = -1 then _ else _) = _
  exact if_pos h
theorem bitS_n {fits : Nat → Int32} {k : Nat} (h : ¬ fits k = -1) : bitS fits (k + 1) = bitS fits k := by
  show (if fits k = -1 then _ else _) = _
  exact if_neg h
theorem bitS_c {f g : Nat → Int32} : ∀ k, (∀ j, j < k → f j = g j) → bitS f k = bitS g k := by
  intro k
  induction k with
  | zero => intro _; rfl
  | succ k ih =>
    intro h
    have e := ih (fun j hj => h j (by omega))
    by_cases h1 : f k = -1
    · rw [bitS_s h1, bitS_s (by rw [← h k (by omega)]; exact h1), e]
    · rw [bitS_n h1, bitS_n (by rw [← h k (by omega)]; exact h1), e]
theorem bitS_M {f : Nat → Int32} {M : Nat} : ∀ k, M ≤ k → bitS (fun i => if i < M then f i else 0) k = bitS f M := by
  intro k
  induction k with
  | zero => intro h; rw [show M = 0 by omega]; rfl
  | succ k ih =>
    intro h
    by_cases e : M = k + 1
    · subst e
      exact bitS_c _ (fun j hj => if_pos hj)
    · rw [bitS_n (by rw [if_neg (by omega)]; decide)]
      exact ih (by omega)
theorem or_shl0 (x : Int32) (k : Int32) : x ||| ((0 : Int32) <<< k) = x := by
  apply Int32.toBitVec_inj.mp
  rw [Int32.toBitVec_or, Int32.toBitVec_shiftLeft]
  simp
theorem okT.xor {f : Nat → Int32} (hf : okT f) {g : Nat} (hg : g < 12) : okT (upd f 2 (f 2 ^^^ ((1 : Int32) <<< (nI g &&& 31)))) := by
  obtain ⟨h0, h1, ⟨v, hv, ev⟩, h3, h4⟩ := hf
  obtain ⟨u, hu, eu⟩ := shl_N hg
  refine ⟨?_, ?_, ?_, ?_, ?_⟩
  · rw [upd_ne (by decide)]; exact h0
  · rw [upd_ne (by decide)]; exact h1
  · rw [upd_o, ev, eu]
    refine ⟨v ^^^ u, Nat.xor_lt_two_pow (n := 12) hv hu, ?_⟩
    apply Int32.toBitVec_inj.mp
    show BitVec.ofNat 32 v ^^^ BitVec.ofNat 32 u = BitVec.ofNat 32 (v ^^^ u)
    exact (BitVec.ofNat_xor).symm
  · rw [upd_ne (by decide)]; exact h3
  · rw [upd_ne (by decide)]; exact h4
theorem xorxor (x y : Int32) : (x ^^^ y) ^^^ y = x := by
  apply Int32.toBitVec_inj.mp
  rw [Int32.toBitVec_xor, Int32.toBitVec_xor, BitVec.xor_assoc, BitVec.xor_self, BitVec.xor_zero]
theorem eB81 {A I : FI} (h : FrE eB A I) {o : Nat} (ho : 74 < o) (k : Nat) : A o k = I o k := h o k (fun e => by rcases e with ⟨e, _⟩ | ⟨e, _⟩ | ⟨e, _⟩ <;> omega)
theorem fst_81 {A I : FI} (h : FrE eB A I) {s : Nat} : (fun t => A 81 (40 * s + t)) = (fun t => I 81 (40 * s + t)) := by funext t; exact eB81 h (by decide) _
set_option maxRecDepth 100000 in
set_option maxHeartbeats 1000000 in
theorem R_likeSet {X : En} {L : FL} {q : Nat × Nat} {I : FI} {m : Nat} {fr fa : Nat → Int32} {M : Nat} {T : Nat → Nat → Int32} {d : Nat} {sem : Nat → Sem} (h : RSt I m fr fa M T d sem) (hd : d ≤ 5000) {s z : Nat} (hs : s < 4) (hz : I 80 s = nI z) (hz20 : z ≤ 20) : Ev X 57 mX8_likeSet (0, 0) [.ref 66, .int (nI s)] S0 I L (R0 q) (AfZ q eB I (bitS (fun i => fstP sem fr fa m (nI d) (T i) (fun t => I 81 (40 * s + t)) z) M)) := by
  have hM5 := h.M5
  have loop : ∀ k, k ≤ M → ∀ (I1 : FI), ∀ (L1 : FL), (FrE eB I1 I) → SW X 57 mX8_likeSet (0, 0) 4 [some (.ref 66), some (.int (nI s)), some (.int (bitS (fun i => fstP sem fr fa m (nI d) (T i) (fun t => I 81 (40 * s + t)) z) k)), some (.int (nI k))] [] S0 I1 L1 (R0 q) (KQ X (AfZ q eB I (bitS (fun i => fstP sem fr fa m (nI d) (T i) (fun t => I 81 (40 * s + t)) z) M))) := by
    refine for_up (P := fun k => ∀ (I1 : FI), ∀ (L1 : FL), (FrE eB I1 I) → SW X 57 mX8_likeSet (0, 0) 4 [some (.ref 66), some (.int (nI s)), some (.int (bitS (fun i => fstP sem fr fa m (nI d) (T i) (fun t => I 81 (40 * s + t)) z) k)), some (.int (nI k))] [] S0 I1 L1 (R0 q) (KQ X (AfZ q eB I (bitS (fun i => fstP sem fr fa m (nI d) (T i) (fun t => I 81 (40 * s + t)) z) M)))) M ?_ ?_
    · intro I1 L1 hi
      refine s_iload_n (tb_ok aX8_likeSet_0 4 rfl) rfl ?_
      refine s_aload_n (tb_ok aX8_likeSet_0 5 rfl) rfl ?_
      refine s_getI (x := (nI M)) (tb_ok aX8_likeSet_0 6 rfl) f_RX8_70 rfl rfl (h.see (see_eB hi)).mn ?_
      refine s_icmp_ge (tgt := 38) (tb_ok aX8_likeSet_0 7 rfl) (by decide) (fun c9 => ?_) (fun c9 => ?_)
      · refine s_iload_n (tb_ok aX8_likeSet_1 0 rfl) rfl ?_
        refine s_iret (tb_ok aX8_likeSet_1 1 rfl) rfl ?_
        exact afZ rfl hi
      · simp (disch := omega) only [nI_ltI, nI_leI, nI_eq] at c9
        omega
    · intro k hk ih I1 L1 hi
      refine s_iload_n (tb_ok aX8_likeSet_0 4 rfl) rfl ?_
      refine s_aload_n (tb_ok aX8_likeSet_0 5 rfl) rfl ?_
      refine s_getI (x := (nI M)) (tb_ok aX8_likeSet_0 6 rfl) f_RX8_70 rfl rfl (h.see (see_eB hi)).mn ?_
      refine s_icmp_ge (tgt := 38) (tb_ok aX8_likeSet_0 7 rfl) (by decide) (fun c9 => ?_) (fun c9 => ?_)
      · simp (disch := omega) only [nI_ltI, nI_leI, nI_eq] at c9
        omega
      · refine s_iload_n (tb_ok aX8_likeSet_0 8 rfl) rfl ?_
        refine s_aload_n (tb_ok aX8_likeSet_0 9 rfl) rfl ?_
        refine s_iload_n (tb_ok aX8_likeSet_0 10 rfl) rfl ?_
        refine s_iload_n (tb_ok aX8_likeSet_0 11 rfl) rfl ?_
        refine s_cV (as := [.int (nI s), .int (nI k)]) (tb_ok aX8_likeSet_0 12 rfl) v_RX8_410 (R_firstOther (h.see (see_eB hi)) hd hs hk ((eB81 hi (by decide) _).trans hz) hz20) (by decide) rfl rfl rfl rfl rfl (Nat.le_of_ble_eq_true rfl) (by decide) (fun r1 S1 I1 L1 R1 q1 => ?_)
        obtain ⟨rfl, rfl, rfl, hf9⟩ := q1
        refine s_iconst (v := -1) (tb_ok aX8_likeSet_0 13 rfl) (by decide) ?_
        refine s_icmp_ne (tgt := 27) (tb_ok aX8_likeSet_0 14 rfl) (by decide) (fun c20 => ?_) (fun c20 => ?_)
        · refine s_iconst (v := 0) (tb_ok aX8_likeSet_0 17 rfl) (by decide) ?_
          refine s_iload_n (tb_ok aX8_likeSet_0 18 rfl) rfl ?_
          refine s_ishl (tb_ok aX8_likeSet_0 19 rfl) ?_
          refine s_ior (tb_ok aX8_likeSet_0 20 rfl) ?_
          refine s_topi (z := (bitS (fun i => fstP sem fr fa m (nI d) (T i) (fun t => I 81 (40 * s + t)) z) (k + 1))) (by rw [bitS_n (by rw [← fst_81 hi]; exact c20)]; exact or_shl0 _ _) ?_
          refine s_name (fun x1 ex1 => ?_)
          refine s_istore_n (ls' := [some (.ref 66), some (.int (nI s)), some (.int x1), some (.int (nI k))]) (tb_ok aX8_likeSet_0 21 rfl) rfl rfl ?_
          refine s_iinc (v := nI (k + 1)) (ls' := [some (.ref 66), some (.int (nI s)), some (.int x1), some (.int (nI (k + 1)))]) (tb_ok aX8_likeSet_0 22 rfl) rfl (nI_1 _) rfl rfl ?_
          refine s_goto (tgt := 4) (tb_ok aX8_likeSet_0 23 rfl) (by decide) ?_
          subst ex1
          exact ih _ _ (hf9.trans hi)
        · refine s_iconst (v := 1) (tb_ok aX8_likeSet_0 15 rfl) (by decide) ?_
          refine s_goto (tgt := 28) (tb_ok aX8_likeSet_0 16 rfl) (by decide) ?_
          refine s_iload_n (tb_ok aX8_likeSet_0 18 rfl) rfl ?_
          refine s_ishl (tb_ok aX8_likeSet_0 19 rfl) ?_
          refine s_ior (tb_ok aX8_likeSet_0 20 rfl) ?_
          refine s_topi (z := (bitS (fun i => fstP sem fr fa m (nI d) (T i) (fun t => I 81 (40 * s + t)) z) (k + 1))) (by rw [bitS_s (by rw [← fst_81 hi]; exact c20)]) ?_
          refine s_name (fun x2 ex2 => ?_)
          refine s_istore_n (ls' := [some (.ref 66), some (.int (nI s)), some (.int x2), some (.int (nI k))]) (tb_ok aX8_likeSet_0 21 rfl) rfl rfl ?_
          refine s_iinc (v := nI (k + 1)) (ls' := [some (.ref 66), some (.int (nI s)), some (.int x2), some (.int (nI (k + 1)))]) (tb_ok aX8_likeSet_0 22 rfl) rfl (nI_1 _) rfl rfl ?_
          refine s_goto (tgt := 4) (tb_ok aX8_likeSet_0 23 rfl) (by decide) ?_
          subst ex2
          exact ih _ _ (hf9.trans hi)
  refine ev_of (by decide +kernel) rfl ?_
  show SW X _ _ _ 0 [some (.ref 66), some (.int (nI s)), none, none] [] S0 I L (R0 q) _
  refine s_iconst (v := 0) (tb_ok aX8_likeSet_0 0 rfl) (by decide) ?_
  refine s_istore_n (ls' := [some (.ref 66), some (.int (nI s)), some (.int (0)), none]) (tb_ok aX8_likeSet_0 1 rfl) rfl rfl ?_
  refine s_iconst (v := nI 0) (tb_ok aX8_likeSet_0 2 rfl) (by decide) ?_
  refine s_istore_n (ls' := [some (.ref 66), some (.int (nI s)), some (.int (0)), some (.int (nI 0))]) (tb_ok aX8_likeSet_0 3 rfl) rfl rfl ?_
  exact loop 0 (Nat.zero_le _) I L FrE.refl

set_option maxRecDepth 100000 in
set_option maxHeartbeats 1000000 in
theorem R_turnedSet {X : En} {L : FL} {q : Nat × Nat} {I : FI} {m : Nat} {fr fa : Nat → Int32} {M : Nat} {T : Nat → Nat → Int32} {d : Nat} {sem : Nat → Sem} (h : RSt I m fr fa M T d sem) (hd : d ≤ 5000) {s z : Nat} (hs : s < 4) (hz : I 80 s = nI z) (hz20 : z ≤ 20) {j : Nat} (hj : j < M) : Ev X 57 mX8_turnedSet (0, 0) [.ref 66, .int (nI s), .int (nI j)] S0 I L (R0 q) (AfZ q eB I (bitS (fun g => fstP sem fr fa m (nI d) (upd (T j) 2 (T j 2 ^^^ ((1 : Int32) <<< (nI g &&& 31)))) (fun t => I 81 (40 * s + t)) z) 12)) := by
  have hM5 := h.M5
  have loop : ∀ k, k ≤ 12 → ∀ (I1 : FI), ∀ (L1 : FL), (FrE eB I1 I) → SW X 57 mX8_turnedSet (0, 0) 5 [some (.ref 66), some (.int (nI s)), some (.int (nI j)), some (.int (bitS (fun g => fstP sem fr fa m (nI d) (upd (T j) 2 (T j 2 ^^^ ((1 : Int32) <<< (nI g &&& 31)))) (fun t => I 81 (40 * s + t)) z) k)), some (.int (nI k))] [] S0 I1 L1 (R0 q) (KQ X (AfZ q eB I (bitS (fun g => fstP sem fr fa m (nI d) (upd (T j) 2 (T j 2 ^^^ ((1 : Int32) <<< (nI g &&& 31)))) (fun t => I 81 (40 * s + t)) z) 12))) := by
    refine for_up (P := fun k => ∀ (I1 : FI), ∀ (L1 : FL), (FrE eB I1 I) → SW X 57 mX8_turnedSet (0, 0) 5 [some (.ref 66), some (.int (nI s)), some (.int (nI j)), some (.int (bitS (fun g => fstP sem fr fa m (nI d) (upd (T j) 2 (T j 2 ^^^ ((1 : Int32) <<< (nI g &&& 31)))) (fun t => I 81 (40 * s + t)) z) k)), some (.int (nI k))] [] S0 I1 L1 (R0 q) (KQ X (AfZ q eB I (bitS (fun g => fstP sem fr fa m (nI d) (upd (T j) 2 (T j 2 ^^^ ((1 : Int32) <<< (nI g &&& 31)))) (fun t => I 81 (40 * s + t)) z) 12)))) 12 ?_ ?_
    · intro I1 L1 hi
      refine s_iload (tb_ok aX8_turnedSet_0 4 rfl) rfl ?_
      refine s_bipush (v := nI 12) (tb_ok aX8_turnedSet_0 5 rfl) (by decide) ?_
      refine s_icmp_ge (tgt := 73) (tb_ok aX8_turnedSet_0 6 rfl) (by decide) (fun c9 => ?_) (fun c9 => ?_)
      · refine s_iload_n (tb_ok aX8_turnedSet_2 3 rfl) rfl ?_
        refine s_iret (tb_ok aX8_turnedSet_2 4 rfl) rfl ?_
        exact afZ rfl hi
      · simp (disch := omega) only [nI_ltI, nI_leI, nI_eq] at c9
        omega
    · intro k hk ih I1 L1 hi
      refine s_iload (tb_ok aX8_turnedSet_0 4 rfl) rfl ?_
      refine s_bipush (v := nI 12) (tb_ok aX8_turnedSet_0 5 rfl) (by decide) ?_
      refine s_icmp_ge (tgt := 73) (tb_ok aX8_turnedSet_0 6 rfl) (by decide) (fun c9 => ?_) (fun c9 => ?_)
      · simp (disch := omega) only [nI_ltI, nI_leI, nI_eq] at c9
        omega
      · refine s_aload_n (tb_ok aX8_turnedSet_0 7 rfl) rfl ?_
        refine s_getR (r := 73) (tb_ok aX8_turnedSet_0 8 rfl) f_RX8_32 rfl rfl rfl ?_
        refine s_iconst (v := 4) (tb_ok aX8_turnedSet_0 9 rfl) (by decide) ?_
        refine s_iload_n (tb_ok aX8_turnedSet_0 10 rfl) rfl ?_
        refine s_imul (tb_ok aX8_turnedSet_0 11 rfl) ?_
        refine s_topi (z := (nI (4 * j))) (nI_mul 4 j) ?_
        refine s_iconst (v := 1) (tb_ok aX8_turnedSet_0 12 rfl) (by decide) ?_
        refine s_iadd (tb_ok aX8_turnedSet_0 13 rfl) ?_
        refine s_topi (z := (nI (4 * j + 1))) (nI_add' (4 * j) 1) ?_
        refine s_dup2 (tb_ok aX8_turnedSet_0 14 rfl) rfl rfl ?_
        refine s_ialdX (x := (T j 2)) (tb_ok aX8_turnedSet_0 15 rfl) rfl (by omega) (by decide) ((h.see (see_eB hi)).c2 hj) ?_
        refine s_iconst (v := 1) (tb_ok aX8_turnedSet_0 16 rfl) (by decide) ?_
        refine s_iload (tb_ok aX8_turnedSet_0 17 rfl) rfl ?_
        refine s_ishl (tb_ok aX8_turnedSet_0 18 rfl) ?_
        refine s_ixor (tb_ok aX8_turnedSet_0 19 rfl) ?_
        refine s_iastN (tb_ok aX8_turnedSet_0 20 rfl) rfl (by omega) (by decide) ?_
        have h1 := h.see (see_eB hi)
        have h2 := h1.row hj (i := 1) (v := T j 2 ^^^ ((1 : Int32) <<< (nI k &&& 31))) (by decide) ((h1.ok hj).xor hk)
        refine s_iload_n (tb_ok aX8_turnedSet_0 21 rfl) rfl ?_
        refine s_aload_n (tb_ok aX8_turnedSet_0 22 rfl) rfl ?_
        refine s_iload_n (tb_ok aX8_turnedSet_0 23 rfl) rfl ?_
        refine s_iload_n (tb_ok aX8_turnedSet_1 0 rfl) rfl ?_
        refine s_cV (as := [.int (nI s), .int (nI j)]) (tb_ok aX8_turnedSet_1 1 rfl) v_RX8_410 (R_firstOther h2 hd hs hj ((eB81 hi (by decide) _).trans hz) hz20) (by decide) rfl rfl rfl rfl rfl (Nat.le_of_ble_eq_true rfl) (by decide) (fun r1 S1 I1 L1 R1 q1 => ?_)
        rw [uT_o] at q1
        obtain ⟨rfl, rfl, rfl, hf9⟩ := q1
        have h9 := h2.see (see_eB hf9)
        refine s_iconst (v := -1) (tb_ok aX8_turnedSet_1 2 rfl) (by decide) ?_
        refine s_icmp_ne (tgt := 44) (tb_ok aX8_turnedSet_1 3 rfl) (by decide) (fun c37 => ?_) (fun c37 => ?_)
        · refine s_iconst (v := 0) (tb_ok aX8_turnedSet_1 6 rfl) (by decide) ?_
          refine s_iload (tb_ok aX8_turnedSet_1 7 rfl) rfl ?_
          refine s_ishl (tb_ok aX8_turnedSet_1 8 rfl) ?_
          refine s_ior (tb_ok aX8_turnedSet_1 9 rfl) ?_
          refine s_topi (z := (bitS (fun g => fstP sem fr fa m (nI d) (upd (T j) 2 (T j 2 ^^^ ((1 : Int32) <<< (nI g &&& 31)))) (fun t => I 81 (40 * s + t)) z) (k + 1))) (by rw [bitS_n (by show ¬ fstP sem fr fa m (nI d) _ _ z = -1; rw [← fst_81 hi]; exact c37)]; exact or_shl0 _ _) ?_
          refine s_name (fun x1 ex1 => ?_)
          refine s_istore_n (ls' := [some (.ref 66), some (.int (nI s)), some (.int (nI j)), some (.int x1), some (.int (nI k))]) (tb_ok aX8_turnedSet_1 10 rfl) rfl rfl ?_
          refine s_aload_n (tb_ok aX8_turnedSet_1 11 rfl) rfl ?_
          refine s_getR (r := 73) (tb_ok aX8_turnedSet_1 12 rfl) f_RX8_32 rfl rfl rfl ?_
          refine s_iconst (v := 4) (tb_ok aX8_turnedSet_1 13 rfl) (by decide) ?_
          refine s_iload_n (tb_ok aX8_turnedSet_1 14 rfl) rfl ?_
          refine s_imul (tb_ok aX8_turnedSet_1 15 rfl) ?_
          refine s_topi (z := (nI (4 * j))) (nI_mul 4 j) ?_
          refine s_iconst (v := 1) (tb_ok aX8_turnedSet_1 16 rfl) (by decide) ?_
          refine s_iadd (tb_ok aX8_turnedSet_1 17 rfl) ?_
          refine s_topi (z := (nI (4 * j + 1))) (nI_add' (4 * j) 1) ?_
          refine s_dup2 (tb_ok aX8_turnedSet_1 18 rfl) rfl rfl ?_
          refine s_ialdX (x := ((uT T j (upd (T j) 2 (T j 2 ^^^ ((1 : Int32) <<< (nI k &&& 31))))) j 2)) (tb_ok aX8_turnedSet_1 19 rfl) rfl (by omega) (by decide) (h9.c2 hj) ?_
          refine s_iconst (v := 1) (tb_ok aX8_turnedSet_1 20 rfl) (by decide) ?_
          refine s_iload (tb_ok aX8_turnedSet_1 21 rfl) rfl ?_
          refine s_ishl (tb_ok aX8_turnedSet_1 22 rfl) ?_
          refine s_ixor (tb_ok aX8_turnedSet_1 23 rfl) ?_
          refine s_iastN (tb_ok aX8_turnedSet_2 0 rfl) rfl (by omega) (by decide) ?_
          refine s_iinc (v := nI (k + 1)) (ls' := [some (.ref 66), some (.int (nI s)), some (.int (nI j)), some (.int x1), some (.int (nI (k + 1)))]) (tb_ok aX8_turnedSet_2 1 rfl) rfl (nI_1 _) rfl rfl ?_
          refine s_goto (tgt := 5) (tb_ok aX8_turnedSet_2 2 rfl) (by decide) ?_
          subst ex1
          refine ih _ _ ?_
          intro o k2 hn
          by_cases he : o = 73 ∧ k2 = 4 * j + 1
          · obtain ⟨e1, e2⟩ := he
            rw [e1, e2, up2_oo, uT_o, upd_o, xorxor]
            exact (h.c2 hj).symm
          · rw [up2_nn _ _ he, hf9 o k2 hn, up2_nn _ _ he]
            exact hi o k2 hn
        · refine s_iconst (v := 1) (tb_ok aX8_turnedSet_1 4 rfl) (by decide) ?_
          refine s_goto (tgt := 45) (tb_ok aX8_turnedSet_1 5 rfl) (by decide) ?_
          refine s_iload (tb_ok aX8_turnedSet_1 7 rfl) rfl ?_
          refine s_ishl (tb_ok aX8_turnedSet_1 8 rfl) ?_
          refine s_ior (tb_ok aX8_turnedSet_1 9 rfl) ?_
          refine s_topi (z := (bitS (fun g => fstP sem fr fa m (nI d) (upd (T j) 2 (T j 2 ^^^ ((1 : Int32) <<< (nI g &&& 31)))) (fun t => I 81 (40 * s + t)) z) (k + 1))) (by rw [bitS_s (by show fstP sem fr fa m (nI d) _ _ z = -1; rw [← fst_81 hi]; exact c37)]) ?_
          refine s_name (fun x2 ex2 => ?_)
          refine s_istore_n (ls' := [some (.ref 66), some (.int (nI s)), some (.int (nI j)), some (.int x2), some (.int (nI k))]) (tb_ok aX8_turnedSet_1 10 rfl) rfl rfl ?_
          refine s_aload_n (tb_ok aX8_turnedSet_1 11 rfl) rfl ?_
          refine s_getR (r := 73) (tb_ok aX8_turnedSet_1 12 rfl) f_RX8_32 rfl rfl rfl ?_
          refine s_iconst (v := 4) (tb_ok aX8_turnedSet_1 13 rfl) (by decide) ?_
          refine s_iload_n (tb_ok aX8_turnedSet_1 14 rfl) rfl ?_
          refine s_imul (tb_ok aX8_turnedSet_1 15 rfl) ?_
          refine s_topi (z := (nI (4 * j))) (nI_mul 4 j) ?_
          refine s_iconst (v := 1) (tb_ok aX8_turnedSet_1 16 rfl) (by decide) ?_
          refine s_iadd (tb_ok aX8_turnedSet_1 17 rfl) ?_
          refine s_topi (z := (nI (4 * j + 1))) (nI_add' (4 * j) 1) ?_
          refine s_dup2 (tb_ok aX8_turnedSet_1 18 rfl) rfl rfl ?_
          refine s_ialdX (x := ((uT T j (upd (T j) 2 (T j 2 ^^^ ((1 : Int32) <<< (nI k &&& 31))))) j 2)) (tb_ok aX8_turnedSet_1 19 rfl) rfl (by omega) (by decide) (h9.c2 hj) ?_
          refine s_iconst (v := 1) (tb_ok aX8_turnedSet_1 20 rfl) (by decide) ?_
          refine s_iload (tb_ok aX8_turnedSet_1 21 rfl) rfl ?_
          refine s_ishl (tb_ok aX8_turnedSet_1 22 rfl) ?_
          refine s_ixor (tb_ok aX8_turnedSet_1 23 rfl) ?_
          refine s_iastN (tb_ok aX8_turnedSet_2 0 rfl) rfl (by omega) (by decide) ?_
          refine s_iinc (v := nI (k + 1)) (ls' := [some (.ref 66), some (.int (nI s)), some (.int (nI j)), some (.int x2), some (.int (nI (k + 1)))]) (tb_ok aX8_turnedSet_2 1 rfl) rfl (nI_1 _) rfl rfl ?_
          refine s_goto (tgt := 5) (tb_ok aX8_turnedSet_2 2 rfl) (by decide) ?_
          subst ex2
          refine ih _ _ ?_
          intro o k2 hn
          by_cases he : o = 73 ∧ k2 = 4 * j + 1
          · obtain ⟨e1, e2⟩ := he
            rw [e1, e2, up2_oo, uT_o, upd_o, xorxor]
            exact (h.c2 hj).symm
          · rw [up2_nn _ _ he, hf9 o k2 hn, up2_nn _ _ he]
            exact hi o k2 hn
  refine ev_of (by decide +kernel) rfl ?_
  show SW X _ _ _ 0 [some (.ref 66), some (.int (nI s)), some (.int (nI j)), none, none] [] S0 I L (R0 q) _
  refine s_iconst (v := 0) (tb_ok aX8_turnedSet_0 0 rfl) (by decide) ?_
  refine s_istore_n (ls' := [some (.ref 66), some (.int (nI s)), some (.int (nI j)), some (.int (0)), none]) (tb_ok aX8_turnedSet_0 1 rfl) rfl rfl ?_
  refine s_iconst (v := nI 0) (tb_ok aX8_turnedSet_0 2 rfl) (by decide) ?_
  refine s_istore (ls' := [some (.ref 66), some (.int (nI s)), some (.int (nI j)), some (.int (0)), some (.int (nI 0))]) (tb_ok aX8_turnedSet_0 3 rfl) rfl rfl ?_
  exact loop 0 (Nat.zero_le _) I L FrE.refl

theorem rem_N {a b : Nat} (ha : a < 2 ^ 31) (hb : b < 2 ^ 31) : nI a - nI a / nI b * nI b = nI (a % b) := by
  have h1 : a / b * b ≤ a := Nat.div_mul_le_self a b
  rw [nI_div ha hb, nI_mul, nI_sub' h1]
  congr 1
  have := Nat.div_add_mod a b
  rw [Nat.mul_comm] at this
  omega
set_option maxRecDepth 100000 in
set_option maxHeartbeats 1000000 in
theorem R_drawn {X : En} {L : FL} {q : Nat × Nat} {I : FI} {m : Nat} {fr fa : Nat → Int32} {M : Nat} {T : Nat → Nat → Int32} {d : Nat} {sem : Nat → Sem} (h : RSt I m fr fa M T d sem) (hd : d ≤ 5000) (seed : Int32) : Ev X 57 mX8_basketsDrawn (0, 0) [.ref 66, .int seed] S0 I L (R0 q) (AfZ q eB I (drwP sem fr fa m M (nI d) T seed)) := by
  have hM5 := h.M5
  have loop : 0 < M → ∀ k, k ≤ 10 → ∀ (b0 : Int32), ∀ (I1 : FI), ∀ (L1 : FL), (RSt I1 m fr fa M (drS sem fr fa m M (nI d) T seed k).2 (d + k) sem) → (b0 = apS T M 5) → (Mid I I1) → SW X 57 mX8_basketsDrawn (0, 0) 23 [some (.ref 66), some (.int seed), some (.int b0), some (.int (drS sem fr fa m M (nI d) T seed k).1), some (.int (nI k))] [] S0 I1 L1 (R0 q) (KQ X (AfZ q eB I (drwP sem fr fa m M (nI d) T seed))) := by
    intro hM0
    refine for_up (P := fun k => ∀ (b0 : Int32), ∀ (I1 : FI), ∀ (L1 : FL), (RSt I1 m fr fa M (drS sem fr fa m M (nI d) T seed k).2 (d + k) sem) → (b0 = apS T M 5) → (Mid I I1) → SW X 57 mX8_basketsDrawn (0, 0) 23 [some (.ref 66), some (.int seed), some (.int b0), some (.int (drS sem fr fa m M (nI d) T seed k).1), some (.int (nI k))] [] S0 I1 L1 (R0 q) (KQ X (AfZ q eB I (drwP sem fr fa m M (nI d) T seed)))) 10 ?_ ?_
    · intro b0 I1 L1 hi hi1 hi2
      refine s_iload (tb_ok aX8_basketsDrawn_0 14 rfl) rfl ?_
      refine s_bipush (v := nI 10) (tb_ok aX8_basketsDrawn_0 15 rfl) (by decide) ?_
      refine s_icmp_ge (tgt := 72) (tb_ok aX8_basketsDrawn_0 16 rfl) (by decide) (fun c27 => ?_) (fun c27 => ?_)
      · refine s_iload_n (tb_ok aX8_basketsDrawn_1 18 rfl) rfl ?_
        refine s_aload_n (tb_ok aX8_basketsDrawn_1 19 rfl) rfl ?_
        refine s_cVp (as := []) (tb_ok aX8_basketsDrawn_1 20 rfl) v_RX8_391 (R_applesAll hi) (by decide) rfl rfl rfl rfl rfl (Nat.le_of_ble_eq_true rfl) (by decide) ?_
        refine s_isub (tb_ok aX8_basketsDrawn_1 21 rfl) ?_
        refine s_name (fun x1 ex1 => ?_)
        refine s_istore (ls' := [some (.ref 66), some (.int seed), some (.int b0), some (.int (drS sem fr fa m M (nI d) T seed 10).1), some (.int x1)]) (tb_ok aX8_basketsDrawn_1 22 rfl) rfl rfl ?_
        refine s_aload_n (tb_ok aX8_basketsDrawn_1 23 rfl) rfl ?_
        refine s_cV (as := []) (tb_ok aX8_basketsDrawn_2 0 rfl) v_RX8_397 (R_laysBack) (by decide) rfl rfl rfl rfl rfl (Nat.le_of_ble_eq_true rfl) (by decide) (fun r1 S1 I1 L1 R1 q1 => ?_)
        obtain ⟨rfl, rfl, rfl, rfl, rfl⟩ := q1
        refine s_iload (tb_ok aX8_basketsDrawn_2 1 rfl) rfl ?_
        refine s_iret (tb_ok aX8_basketsDrawn_2 2 rfl) rfl ?_
        refine afZ ?_ hi2.back
        rw [ex1, hi1]
        unfold drwP
        rw [if_neg (by omega)]
      · simp (disch := omega) only [nI_ltI, nI_leI, nI_eq] at c27
        omega
    · intro k hk ih b0 I1 L1 hi hi1 hi2
      refine s_iload (tb_ok aX8_basketsDrawn_0 14 rfl) rfl ?_
      refine s_bipush (v := nI 10) (tb_ok aX8_basketsDrawn_0 15 rfl) (by decide) ?_
      refine s_icmp_ge (tgt := 72) (tb_ok aX8_basketsDrawn_0 16 rfl) (by decide) (fun c27 => ?_) (fun c27 => ?_)
      · simp (disch := omega) only [nI_ltI, nI_leI, nI_eq] at c27
        omega
      · refine s_iload_n (tb_ok aX8_basketsDrawn_0 17 rfl) rfl ?_
        refine s_ldcw (tb_ok aX8_basketsDrawn_0 18 rfl) k_RX8_429 ?_
        refine s_imul (tb_ok aX8_basketsDrawn_0 19 rfl) ?_
        refine s_sipush (v := 12345) (tb_ok aX8_basketsDrawn_0 20 rfl) (by decide) ?_
        refine s_iadd (tb_ok aX8_basketsDrawn_0 21 rfl) ?_
        refine s_name (fun x1 ex1 => ?_)
        refine s_istore_n (ls' := [some (.ref 66), some (.int seed), some (.int b0), some (.int x1), some (.int (nI k))]) (tb_ok aX8_basketsDrawn_0 22 rfl) rfl rfl ?_
        have ez : x1 = (drZ (drS sem fr fa m M (nI d) T seed k).1) := ex1
        rw [ez]
        have hjm : ((drZ (drS sem fr fa m M (nI d) T seed k).1).toBitVec.toNat / 512 % M) < M := Nat.mod_lt _ (by omega)
        have hgm : ((drZ (drS sem fr fa m M (nI d) T seed k).1).toBitVec.toNat / 131072 % 12) < 12 := Nat.mod_lt _ (by omega)
        have hzl := z_lt (drZ (drS sem fr fa m M (nI d) T seed k).1)
        refine s_aload_n (tb_ok aX8_basketsDrawn_0 23 rfl) rfl ?_
        refine s_iload_n (tb_ok aX8_basketsDrawn_1 0 rfl) rfl ?_
        refine s_bipush (v := nI 9) (tb_ok aX8_basketsDrawn_1 1 rfl) (by decide) ?_
        refine s_iushr (tb_ok aX8_basketsDrawn_1 2 rfl) ?_
        refine s_topi (z := (nI ((drZ (drS sem fr fa m M (nI d) T seed k).1).toBitVec.toNat / 512))) (us9 _) ?_
        refine s_aload_n (tb_ok aX8_basketsDrawn_1 3 rfl) rfl ?_
        refine s_getI (x := (nI M)) (tb_ok aX8_basketsDrawn_1 4 rfl) f_RX8_70 rfl rfl hi.mn ?_
        refine s_irem (tb_ok aX8_basketsDrawn_1 5 rfl) (fun e_ => by have := (nI_eq (a := M) (b := 0) (by omega) (by omega)).mp e_; omega) ?_
        refine s_topi (z := (nI ((drZ (drS sem fr fa m M (nI d) T seed k).1).toBitVec.toNat / 512 % M))) (rem_N (by omega) (by omega)) ?_
        refine s_iload_n (tb_ok aX8_basketsDrawn_1 6 rfl) rfl ?_
        refine s_bipush (v := nI 17) (tb_ok aX8_basketsDrawn_1 7 rfl) (by decide) ?_
        refine s_iushr (tb_ok aX8_basketsDrawn_1 8 rfl) ?_
        refine s_topi (z := (nI ((drZ (drS sem fr fa m M (nI d) T seed k).1).toBitVec.toNat / 131072))) (us17 _) ?_
        refine s_bipush (v := nI 12) (tb_ok aX8_basketsDrawn_1 9 rfl) (by decide) ?_
        refine s_irem (tb_ok aX8_basketsDrawn_1 10 rfl) (by decide) ?_
        refine s_topi (z := (nI ((drZ (drS sem fr fa m M (nI d) T seed k).1).toBitVec.toNat / 131072 % 12))) (rem_N (b := 12) (by omega) (by omega)) ?_
        refine s_cV (as := [.int (nI ((drZ (drS sem fr fa m M (nI d) T seed k).1).toBitVec.toNat / 512 % M)), .int (nI ((drZ (drS sem fr fa m M (nI d) T seed k).1).toBitVec.toNat / 131072 % 12))]) (tb_ok aX8_basketsDrawn_1 11 rfl) v_RX8_378 (R_hears hi hjm hgm) (by decide) rfl rfl rfl rfl rfl (Nat.le_of_ble_eq_true rfl) (by decide) (fun r1 S1 I1 L1 R1 q1 => ?_)
        obtain ⟨rfl, rfl, rfl, hh, hhf⟩ := q1
        refine s_pop (tb_ok aX8_basketsDrawn_1 12 rfl) rfl ?_
        refine s_aload_n (tb_ok aX8_basketsDrawn_1 13 rfl) rfl ?_
        refine s_cV (as := []) (tb_ok aX8_basketsDrawn_1 14 rfl) v_RX8_381 (R_passes hh (by omega)) (by decide) rfl rfl rfl rfl rfl (Nat.le_of_ble_eq_true rfl) (by decide) (fun r2 S2 I2 L2 R2 q2 => ?_)
        obtain ⟨rfl, rfl, rfl, hp, hpf⟩ := q2
        refine s_pop (tb_ok aX8_basketsDrawn_1 15 rfl) rfl ?_
        refine s_iinc (v := nI (k + 1)) (ls' := [some (.ref 66), some (.int seed), some (.int b0), some (.int (drZ (drS sem fr fa m M (nI d) T seed k).1)), some (.int (nI (k + 1)))]) (tb_ok aX8_basketsDrawn_1 16 rfl) rfl (nI_1 _) rfl rfl ?_
        refine s_goto (tgt := 23) (tb_ok aX8_basketsDrawn_1 17 rfl) (by decide) ?_
        rw [show (drZ (drS sem fr fa m M (nI d) T seed k).1) = (drS sem fr fa m M (nI d) T seed (k + 1)).1 from rfl]
        refine ih _ _ _ ?_ hi1 ((hi2.go hhf).go hpf)
        refine RSt.congr hp (fun a ha => ?_)
        show pasP sem fr fa m (if a = _ then _ else _) (nI d + nI k) = pasP sem fr fa m _ _
        rw [nI_add']
        congr 1
        by_cases e : a = ((drZ (drS sem fr fa m M (nI d) T seed k).1).toBitVec.toNat / 512 % M)
        · rw [if_pos e, e, uT_o]
        · rw [if_neg e, uT_n e]
  refine ev_of (by decide +kernel) rfl ?_
  show SW X _ _ _ 0 [some (.ref 66), some (.int seed), none, none, none] [] S0 I L (R0 q) _
  refine s_aload_n (tb_ok aX8_basketsDrawn_0 0 rfl) rfl ?_
  refine s_getI (x := (nI M)) (tb_ok aX8_basketsDrawn_0 1 rfl) f_RX8_70 rfl rfl h.mn ?_
  refine s_if_ne (tgt := 9) (tb_ok aX8_basketsDrawn_0 2 rfl) (by decide) (fun c4 => ?_) (fun c4 => ?_)
  · refine s_aload_n (tb_ok aX8_basketsDrawn_0 5 rfl) rfl ?_
    refine s_cVp (as := []) (tb_ok aX8_basketsDrawn_0 6 rfl) v_RX8_391 (R_applesAll h) (by decide) rfl rfl rfl rfl rfl (Nat.le_of_ble_eq_true rfl) (by decide) ?_
    refine s_name (fun x1 ex1 => ?_)
    refine s_istore_n (ls' := [some (.ref 66), some (.int seed), some (.int x1), none, none]) (tb_ok aX8_basketsDrawn_0 7 rfl) rfl rfl ?_
    refine s_aload_n (tb_ok aX8_basketsDrawn_0 8 rfl) rfl ?_
    refine s_cV (as := []) (tb_ok aX8_basketsDrawn_0 9 rfl) v_RX8_394 (R_laysAside) (by decide) rfl rfl rfl rfl rfl (Nat.le_of_ble_eq_true rfl) (by decide) (fun r1 S1 I1 L1 R1 q1 => ?_)
    obtain ⟨rfl, rfl, rfl, rfl, rfl⟩ := q1
    have ha := h.see (see_eB (aside_B (I := I)))
    refine s_iload_n (tb_ok aX8_basketsDrawn_0 10 rfl) rfl ?_
    refine s_istore_n (ls' := [some (.ref 66), some (.int seed), some (.int x1), some (.int seed), none]) (tb_ok aX8_basketsDrawn_0 11 rfl) rfl rfl ?_
    refine s_iconst (v := nI 0) (tb_ok aX8_basketsDrawn_0 12 rfl) (by decide) ?_
    refine s_istore (ls' := [some (.ref 66), some (.int seed), some (.int x1), some (.int seed), some (.int (nI 0))]) (tb_ok aX8_basketsDrawn_0 13 rfl) rfl rfl ?_
    have hM0 : 0 < M := by
      rcases Nat.eq_zero_or_pos M with h_ | h_
      · rw [h_] at c4; exact absurd rfl c4
      · exact h_
    exact loop hM0 0 (Nat.zero_le _) x1 _ _ ha ex1 mid_0
  · refine s_iconst (v := 0) (tb_ok aX8_basketsDrawn_0 3 rfl) (by decide) ?_
    refine s_iret (tb_ok aX8_basketsDrawn_0 4 rfl) rfl ?_
    refine afZ ?_ FrE.refl
    have hM0 := (nI_eq (a := M) (b := 0) (by omega) (by omega)).mp c4
    unfold drwP
    rw [if_pos hM0]

set_option maxRecDepth 100000 in
set_option maxHeartbeats 1000000 in
theorem R_missOf {X : En} {L : FL} {q : Nat × Nat} {I : FI} {m : Nat} {fr fa : Nat → Int32} {M : Nat} {T : Nat → Nat → Int32} {d : Nat} {sem : Nat → Sem} (h : RSt I m fr fa M T d sem) {j : Nat} (hj : j < M) : Ev X 2 mX8_missOf (0, 0) [.ref 66, .int (nI j)] S0 I L (R0 q) (PureR (some (.int (msF fr fa m (T j 2) m).2)) S0 I L (R0 q)) := by
  have hM5 := h.M5
  have hm10 := h.1.2.1
  have hmn := h.1.1
  obtain ⟨_, _, ⟨v, hv, ev⟩, _, _⟩ := h.ok hj
  have hcl : ∀ wo, ∃ w, w < 4096 ∧ clo fr fa m wo 12 (T j 2) = nI w := fun wo => by rw [ev]; obtain ⟨w, a, b, _⟩ := clo_w (fr := fr) (wo := wo) h.2.1 hv; exact ⟨w, a, b⟩
  have loop : ∀ k, k ≤ m → ∀ (o5 : Option Value), SW X 2 mX8_missOf (0, 0) 19 [some (.ref 66), some (.int (nI j)), some (.int (msF fr fa m (T j 2) k).2), some (.int (msF fr fa m (T j 2) k).1), some (.int (nI k)), o5] [] S0 I L (R0 q) (KQ X (PureR (some (.int (msF fr fa m (T j 2) m).2)) S0 I L (R0 q))) := by
    refine for_up (P := fun k => ∀ (o5 : Option Value), SW X 2 mX8_missOf (0, 0) 19 [some (.ref 66), some (.int (nI j)), some (.int (msF fr fa m (T j 2) k).2), some (.int (msF fr fa m (T j 2) k).1), some (.int (nI k)), o5] [] S0 I L (R0 q) (KQ X (PureR (some (.int (msF fr fa m (T j 2) m).2)) S0 I L (R0 q)))) m ?_ ?_
    · intro o5 
      refine s_iload (tb_ok aX8_missOf_0 12 rfl) rfl ?_
      refine s_aload_n (tb_ok aX8_missOf_0 13 rfl) rfl ?_
      refine s_getI (x := (nI m)) (tb_ok aX8_missOf_0 14 rfl) f_RX8_85 rfl rfl hmn ?_
      refine s_icmp_ge (tgt := 62) (tb_ok aX8_missOf_0 15 rfl) (by decide) (fun c25 => ?_) (fun c25 => ?_)
      · refine s_iload_n (tb_ok aX8_missOf_1 9 rfl) rfl ?_
        refine s_iret (tb_ok aX8_missOf_1 10 rfl) rfl ?_
        exact pureR
      · simp (disch := omega) only [nI_ltI, nI_leI, nI_eq] at c25
        omega
    · intro k hk ih o5 
      refine s_iload (tb_ok aX8_missOf_0 12 rfl) rfl ?_
      refine s_aload_n (tb_ok aX8_missOf_0 13 rfl) rfl ?_
      refine s_getI (x := (nI m)) (tb_ok aX8_missOf_0 14 rfl) f_RX8_85 rfl rfl hmn ?_
      refine s_icmp_ge (tgt := 62) (tb_ok aX8_missOf_0 15 rfl) (by decide) (fun c25 => ?_) (fun c25 => ?_)
      · simp (disch := omega) only [nI_ltI, nI_leI, nI_eq] at c25
        omega
      · refine s_aload_n (tb_ok aX8_missOf_0 16 rfl) rfl ?_
        refine s_aload_n (tb_ok aX8_missOf_0 17 rfl) rfl ?_
        refine s_iload_n (tb_ok aX8_missOf_0 18 rfl) rfl ?_
        refine s_cVp (as := [.int (nI j)]) (tb_ok aX8_missOf_0 19 rfl) v_RX8_115 (R_knows h hj) (by decide) rfl rfl rfl rfl rfl (Nat.le_of_ble_eq_true rfl) (by decide) ?_
        refine s_iload (tb_ok aX8_missOf_0 20 rfl) rfl ?_
        refine s_cVp (as := [.int (T j 2), .int (nI k)]) (tb_ok aX8_missOf_0 21 rfl) v_RX8_127 (R_allOf h.1 (by rw [ev]; exact h.z hv _)) (by decide) rfl rfl rfl rfl rfl (Nat.le_of_ble_eq_true rfl) (by decide) ?_
        obtain ⟨w, hw1, hw2⟩ := hcl (nI k)
        refine s_cSp (as := [_]) (tb_ok aX8_missOf_0 22 rfl) v_RX8_345 (R_bitsX hw2 hw1) (by decide) rfl rfl (Nat.le_of_ble_eq_true rfl) ?_
        refine s_name (fun x1 ex1 => ?_)
        refine s_istore (ls' := [some (.ref 66), some (.int (nI j)), some (.int (msF fr fa m (T j 2) k).2), some (.int (msF fr fa m (T j 2) k).1), some (.int (nI k)), some (.int x1)]) (tb_ok aX8_missOf_0 23 rfl) rfl rfl ?_
        refine s_iload (tb_ok aX8_missOf_1 0 rfl) rfl ?_
        refine s_iload_n (tb_ok aX8_missOf_1 1 rfl) rfl ?_
        refine s_icmp_ge (tgt := 56) (tb_ok aX8_missOf_1 2 rfl) (by decide) (fun c47 => ?_) (fun c47 => ?_)
        · refine s_iinc (v := nI (k + 1)) (ls' := [some (.ref 66), some (.int (nI j)), some (.int (msF fr fa m (T j 2) k).2), some (.int (msF fr fa m (T j 2) k).1), some (.int (nI (k + 1))), some (.int x1)]) (tb_ok aX8_missOf_1 7 rfl) rfl (nI_1 _) rfl rfl ?_
          refine s_goto (tgt := 19) (tb_ok aX8_missOf_1 8 rfl) (by decide) ?_
          refine s_ls ?_ (ih (some (.int x1)))
          rw [show msF fr fa m (T j 2) (k + 1) = msF fr fa m (T j 2) k from if_neg (by rw [← ex1]; exact Int32.not_lt.mpr c47)]
        · refine s_iload (tb_ok aX8_missOf_1 3 rfl) rfl ?_
          refine s_istore_n (ls' := [some (.ref 66), some (.int (nI j)), some (.int (nI k)), some (.int (msF fr fa m (T j 2) k).1), some (.int (nI k)), some (.int x1)]) (tb_ok aX8_missOf_1 4 rfl) rfl rfl ?_
          refine s_iload (tb_ok aX8_missOf_1 5 rfl) rfl ?_
          refine s_istore_n (ls' := [some (.ref 66), some (.int (nI j)), some (.int (nI k)), some (.int x1), some (.int (nI k)), some (.int x1)]) (tb_ok aX8_missOf_1 6 rfl) rfl rfl ?_
          refine s_iinc (v := nI (k + 1)) (ls' := [some (.ref 66), some (.int (nI j)), some (.int (nI k)), some (.int x1), some (.int (nI (k + 1))), some (.int x1)]) (tb_ok aX8_missOf_1 7 rfl) rfl (nI_1 _) rfl rfl ?_
          refine s_goto (tgt := 19) (tb_ok aX8_missOf_1 8 rfl) (by decide) ?_
          refine s_ls ?_ (ih (some (.int x1)))
          rw [show msF fr fa m (T j 2) (k + 1) = (bcF (clo fr fa m (nI k) 12 (T j 2)), nI k) from if_pos (by rw [← ex1]; exact Int32.not_le.mp c47), ex1]
  refine ev_of (by decide +kernel) rfl ?_
  show SW X _ _ _ 0 [some (.ref 66), some (.int (nI j)), none, none, none, none] [] S0 I L (R0 q) _
  refine s_iconst (v := -1) (tb_ok aX8_missOf_0 0 rfl) (by decide) ?_
  refine s_istore_n (ls' := [some (.ref 66), some (.int (nI j)), some (.int (-1)), none, none, none]) (tb_ok aX8_missOf_0 1 rfl) rfl rfl ?_
  refine s_aload_n (tb_ok aX8_missOf_0 2 rfl) rfl ?_
  refine s_aload_n (tb_ok aX8_missOf_0 3 rfl) rfl ?_
  refine s_iload_n (tb_ok aX8_missOf_0 4 rfl) rfl ?_
  refine s_cVp (as := [.int (nI j)]) (tb_ok aX8_missOf_0 5 rfl) v_RX8_115 (R_knows h hj) (by decide) rfl rfl rfl rfl rfl (Nat.le_of_ble_eq_true rfl) (by decide) ?_
  refine s_iconst (v := -1) (tb_ok aX8_missOf_0 6 rfl) (by decide) ?_
  refine s_cVp (as := [.int (T j 2), .int (-1)]) (tb_ok aX8_missOf_0 7 rfl) v_RX8_127 (R_allOf h.1 (by rw [ev]; exact h.z hv _)) (by decide) rfl rfl rfl rfl rfl (Nat.le_of_ble_eq_true rfl) (by decide) ?_
  obtain ⟨w, hw1, hw2⟩ := hcl (-1)
  refine s_cSp (as := [_]) (tb_ok aX8_missOf_0 8 rfl) v_RX8_345 (R_bitsX hw2 hw1) (by decide) rfl rfl (Nat.le_of_ble_eq_true rfl) ?_
  refine s_name (fun x1 ex1 => ?_)
  refine s_istore_n (ls' := [some (.ref 66), some (.int (nI j)), some (.int (-1)), some (.int x1), none, none]) (tb_ok aX8_missOf_0 9 rfl) rfl rfl ?_
  refine s_iconst (v := nI 0) (tb_ok aX8_missOf_0 10 rfl) (by decide) ?_
  refine s_istore (ls' := [some (.ref 66), some (.int (nI j)), some (.int (-1)), some (.int x1), some (.int (nI 0)), none]) (tb_ok aX8_missOf_0 11 rfl) rfl rfl ?_
  subst ex1
  exact loop 0 (Nat.zero_le _) _
