/-! the reference: the next token; words -/
def RMd (I0 I : FI) (o i : Nat) (k a : Int32) : Prop := FrX I I0 ∧ I 66 27 = 0 ∧ I 66 26 = nI o ∧ I 66 22 = nI i ∧ I 66 23 = k ∧ I 66 24 = a
theorem RMd.p22 {I0 I : FI} {o i : Nat} {k a : Int32} (h : RMd I0 I o i k a) (j : Nat) : RMd I0 (up2 I 66 22 (nI j)) o j k a := ⟨h.1.put (by omega) (by omega) _, h.2.1, h.2.2.1, rfl, h.2.2.2.2.1, h.2.2.2.2.2⟩
theorem RMd.p23 {I0 I : FI} {o i : Nat} {k a : Int32} (h : RMd I0 I o i k a) (j : Int32) : RMd I0 (up2 I 66 23 j) o i j a := ⟨h.1.put (by omega) (by omega) _, h.2.1, h.2.2.1, h.2.2.2.1, rfl, h.2.2.2.2.2⟩
theorem RMd.p24 {I0 I : FI} {o i : Nat} {k a : Int32} (h : RMd I0 I o i k a) (j : Int32) : RMd I0 (up2 I 66 24 j) o i k j := ⟨h.1.put (by omega) (by omega) _, h.2.1, h.2.2.1, h.2.2.2.1, h.2.2.2.2.1, rfl⟩
theorem i64_nI {n : Nat} (h : n < 2 ^ 31) : (nI n).toInt64.toInt = (n : Int) := by rw [Int32.toInt_toInt64, nI_int h]
theorem nuL_step {m j : Nat} (hm : m < 1000) (hj : j < 10) : (10 : Int64) * (nI m).toInt64 + (nI (48 + j)).toInt64 - 48 = (nI (m * 10 + j)).toInt64 := by
  apply Int64.toInt_inj.mp
  rw [Int64.toInt_sub, Int64.toInt_add, Int64.toInt_mul, i64_nI (by omega), i64_nI (by omega), i64_nI (by omega)]
  have e1 : (10 : Int64).toInt = 10 := by decide
  have e2 : (48 : Int64).toInt = 48 := by decide
  rw [e1, e2]
  rw [Int.bmod_eq_of_le (n := 10 * (m : Int)) (by omega) (by omega), Int.bmod_eq_of_le (n := 10 * (m : Int) + ((48 + j : Nat) : Int)) (by omega) (by omega), Int.bmod_eq_of_le (by omega) (by omega)]
  omega
theorem nuL {t : Nat → Int32} {p c : Nat} (hc : c < 4) (hd : ∀ j, j < c → dgP (t (p + j))) (hd2 : dgP (t (p + c))) : (10 : Int64) * (nuV t p c).toInt64 + (t (p + c)).toInt64 - 48 = (nuV t p (c + 1)).toInt64 := by
  obtain ⟨m, hm, em⟩ := nuV_lt (t := t) (p := p) c hd
  obtain ⟨j, hj, ej⟩ := dg_nI hd2
  have h10 : 10 ^ c ≤ 10 ^ 3 := Nat.pow_le_pow_right (by omega) (by omega)
  have e : nuV t p (c + 1) = nI (m * 10 + j) := by
    show nuV t p c * 10 + t (p + c) - 48 = _
    rw [em, ej]
    have e1 : nI m * 10 = nI (m * 10) := nI_mul m 10
    have e2 : nI (48 + j) = nI j + 48 := by rw [Nat.add_comm]; exact (nI_add' j 48).symm
    rw [e1, e2, ← Int32.add_assoc, Int32.add_sub_cancel, nI_add']
  rw [e, em, ej]
  exact nuL_step (by omega) hj
theorem btx_ge {t : Nat → Int32} {n i : Nat} (h : 0 ≤ btx t n i) : i < n := Classical.byContradiction (fun h1 => by
  unfold btx at h
  rw [if_neg h1] at h
  exact absurd h (by decide))
theorem wdS_pl' (v w : Int32) (p e : Nat) : (wdS v w p e).pl = p := by
  unfold wdS
  by_cases h : w < 6
  · rw [if_pos h]
  · rw [if_neg h]
set_option maxRecDepth 100000 in
set_option maxHeartbeats 1000000 in
theorem R_nextA {X : En} {q : Nat × Nat} {I0 : FI} {F n : Nat} {t nm : Nat → Int32} (hT : TxX I0 F n t nm) {L : FL} {o : Nat} {kk a : Int32} {K : Kt} : ∀ k i I, i + k = n → RMd I0 I o i kk a → (∀ I', RMd I0 I' o (scan blP t n i) kk a → SW X 2 mX8_next (0, 0) 39 [some (.ref 66), none, none] [] S0 I' L (R0 q) K) → SW X 2 mX8_next (0, 0) 0 [some (.ref 66), none, none] [] S0 I L (R0 q) K := by
  obtain ⟨hF, hn, hn160, hFn, ht, ht0, hnm⟩ := id hT
  intro k
  induction k with
  | zero =>
    intro i I hik h hK
    refine s_aload_n (tb_ok aX8_next_0 0 rfl) rfl ?_
    refine s_aload_n (tb_ok aX8_next_0 1 rfl) rfl ?_
    refine s_getI (x := (nI i)) (tb_ok aX8_next_0 2 rfl) f_RX8_147 rfl rfl h.2.2.2.1 ?_
    refine s_cVp (as := [.int (nI i)]) (tb_ok aX8_next_0 3 rfl) v_RX8_150 (R_byteAt hT (i := i) h.1 (by omega)) (by decide) rfl rfl rfl rfl rfl (Nat.le_of_ble_eq_true rfl) (by decide) ?_
    refine s_bipush (v := 32) (tb_ok aX8_next_0 4 rfl) (by decide) ?_
    refine s_icmp_eq (tgt := 26) (tb_ok aX8_next_0 5 rfl) (by decide) (fun c10 => ?_) (fun c10 => ?_)
    · exact absurd (btx_lt (p := blP) (by decide) (by first | exact Or.inl c10 | exact Or.inr c23)).1 (by omega)
    · refine s_aload_n (tb_ok aX8_next_0 6 rfl) rfl ?_
      refine s_aload_n (tb_ok aX8_next_0 7 rfl) rfl ?_
      refine s_getI (x := (nI i)) (tb_ok aX8_next_0 8 rfl) f_RX8_147 rfl rfl h.2.2.2.1 ?_
      refine s_cVp (as := [.int (nI i)]) (tb_ok aX8_next_0 9 rfl) v_RX8_150 (R_byteAt hT (i := i) h.1 (by omega)) (by decide) rfl rfl rfl rfl rfl (Nat.le_of_ble_eq_true rfl) (by decide) ?_
      refine s_bipush (v := 10) (tb_ok aX8_next_0 10 rfl) (by decide) ?_
      refine s_icmp_ne (tgt := 39) (tb_ok aX8_next_0 11 rfl) (by decide) (fun c23 => ?_) (fun c23 => ?_)
      · refine hK _ ?_
        rw [scan_e (fun h_ => h_.2.elim (fun e_ => c10 ((if_pos h_.1).trans e_)) (fun e_ => c23 ((if_pos h_.1).trans e_)))]
        exact h
      · exact absurd (btx_lt (p := blP) (by decide) (by first | exact Or.inl c10 | exact Or.inr c23)).1 (by omega)
  | succ k ih =>
    intro i I hik h hK
    refine s_aload_n (tb_ok aX8_next_0 0 rfl) rfl ?_
    refine s_aload_n (tb_ok aX8_next_0 1 rfl) rfl ?_
    refine s_getI (x := (nI i)) (tb_ok aX8_next_0 2 rfl) f_RX8_147 rfl rfl h.2.2.2.1 ?_
    refine s_cVp (as := [.int (nI i)]) (tb_ok aX8_next_0 3 rfl) v_RX8_150 (R_byteAt hT (i := i) h.1 (by omega)) (by decide) rfl rfl rfl rfl rfl (Nat.le_of_ble_eq_true rfl) (by decide) ?_
    refine s_bipush (v := 32) (tb_ok aX8_next_0 4 rfl) (by decide) ?_
    refine s_icmp_eq (tgt := 26) (tb_ok aX8_next_0 5 rfl) (by decide) (fun c10 => ?_) (fun c10 => ?_)
    · have hb1 : blP (btx t n i) := by first | exact Or.inl c10 | exact Or.inr c23
      have hb2 := btx_lt (p := blP) (by decide) hb1
      refine s_aload_n (tb_ok aX8_next_0 12 rfl) rfl ?_
      refine s_dup (tb_ok aX8_next_0 13 rfl) rfl ?_
      refine s_getI (x := (nI i)) (tb_ok aX8_next_0 14 rfl) f_RX8_147 rfl rfl h.2.2.2.1 ?_
      refine s_iconst (v := 1) (tb_ok aX8_next_0 15 rfl) (by decide) ?_
      refine s_iadd (tb_ok aX8_next_0 16 rfl) ?_
      refine s_topi (z := (nI (i + 1))) (nI_1 i) ?_
      refine s_putI (tb_ok aX8_next_0 17 rfl) f_RX8_147 rfl rfl ?_
      have g1 := h.p22 ((i + 1))
      refine s_goto (tgt := 0) (tb_ok aX8_next_0 18 rfl) (by decide) ?_
      refine ih (i + 1) _ (by omega) g1 ?_
      rw [← scan_s hb2.1 hb2.2]
      exact hK
    · refine s_aload_n (tb_ok aX8_next_0 6 rfl) rfl ?_
      refine s_aload_n (tb_ok aX8_next_0 7 rfl) rfl ?_
      refine s_getI (x := (nI i)) (tb_ok aX8_next_0 8 rfl) f_RX8_147 rfl rfl h.2.2.2.1 ?_
      refine s_cVp (as := [.int (nI i)]) (tb_ok aX8_next_0 9 rfl) v_RX8_150 (R_byteAt hT (i := i) h.1 (by omega)) (by decide) rfl rfl rfl rfl rfl (Nat.le_of_ble_eq_true rfl) (by decide) ?_
      refine s_bipush (v := 10) (tb_ok aX8_next_0 10 rfl) (by decide) ?_
      refine s_icmp_ne (tgt := 39) (tb_ok aX8_next_0 11 rfl) (by decide) (fun c23 => ?_) (fun c23 => ?_)
      · refine hK _ ?_
        rw [scan_e (fun h_ => h_.2.elim (fun e_ => c10 ((if_pos h_.1).trans e_)) (fun e_ => c23 ((if_pos h_.1).trans e_)))]
        exact h
      · have hb1 : blP (btx t n i) := by first | exact Or.inl c10 | exact Or.inr c23
        have hb2 := btx_lt (p := blP) (by decide) hb1
        refine s_aload_n (tb_ok aX8_next_0 12 rfl) rfl ?_
        refine s_dup (tb_ok aX8_next_0 13 rfl) rfl ?_
        refine s_getI (x := (nI i)) (tb_ok aX8_next_0 14 rfl) f_RX8_147 rfl rfl h.2.2.2.1 ?_
        refine s_iconst (v := 1) (tb_ok aX8_next_0 15 rfl) (by decide) ?_
        refine s_iadd (tb_ok aX8_next_0 16 rfl) ?_
        refine s_topi (z := (nI (i + 1))) (nI_1 i) ?_
        refine s_putI (tb_ok aX8_next_0 17 rfl) f_RX8_147 rfl rfl ?_
        have g2 := h.p22 ((i + 1))
        refine s_goto (tgt := 0) (tb_ok aX8_next_0 18 rfl) (by decide) ?_
        refine ih (i + 1) _ (by omega) g2 ?_
        rw [← scan_s hb2.1 hb2.2]
        exact hK

set_option maxRecDepth 100000 in
set_option maxHeartbeats 1000000 in
theorem R_nextB {X : En} {q : Nat × Nat} {I0 : FI} {F n : Nat} {t nm : Nat → Int32} (hT : TxX I0 F n t nm) {L : FL} {o : Nat} {kk a : Int32} {Q : Pst} (o1 : Option Value) : ∀ k i I, i + k = n → RMd I0 I o i kk a → (∀ I', RMd I0 I' o (scan ltP t n i) kk a → Q none S0 I' L (R0 q)) → SW X 2 mX8_next (0, 0) 100 [some (.ref 66), o1, none] [] S0 I L (R0 q) (KQ X Q) := by
  obtain ⟨hF, hn, hn160, hFn, ht, ht0, hnm⟩ := id hT
  intro k
  induction k with
  | zero =>
    intro i I hik h hK
    refine s_aload_n (tb_ok aX8_next_2 2 rfl) rfl ?_
    refine s_aload_n (tb_ok aX8_next_2 3 rfl) rfl ?_
    refine s_getI (x := (nI i)) (tb_ok aX8_next_2 4 rfl) f_RX8_147 rfl rfl h.2.2.2.1 ?_
    refine s_cVp (as := [.int (nI i)]) (tb_ok aX8_next_2 5 rfl) v_RX8_150 (R_byteAt hT (i := i) h.1 (by omega)) (by decide) rfl rfl rfl rfl rfl (Nat.le_of_ble_eq_true rfl) (by decide) ?_
    refine s_i2l (tb_ok aX8_next_2 6 rfl) ?_
    refine s_ldc2 (tb_ok aX8_next_2 7 rfl) k_RX8_159 ?_
    refine s_ldc2 (tb_ok aX8_next_2 8 rfl) k_RX8_161 ?_
    refine s_cSp (as := [_, .long (97), .long (122)]) (tb_ok aX8_next_2 9 rfl) v_RX8_73 (R_in _ _ _) (by decide) rfl rfl (Nat.le_of_ble_eq_true rfl) ?_
    refine s_topi (bI_congr (in_iff (lo := 97) (hi := 122) rfl (by decide) (by decide))) ?_
    refine s_if_eq (tgt := 321) (tb_ok aX8_next_2 10 rfl) (by decide) (fun c118 => ?_) (fun c118 => ?_)
    · refine s_vret (tb_ok aX8_next_6 19 rfl) rfl ?_
      refine hK _ ?_
      rw [scan_e (fun h_ => bI_0.mp c118 (by rw [show btx t n i = t i from if_pos h_.1]; exact h_.2))]
      exact h
    · exact absurd (btx_lt (p := ltP) (by decide) (bI_n c118)).1 (by omega)
  | succ k ih =>
    intro i I hik h hK
    refine s_aload_n (tb_ok aX8_next_2 2 rfl) rfl ?_
    refine s_aload_n (tb_ok aX8_next_2 3 rfl) rfl ?_
    refine s_getI (x := (nI i)) (tb_ok aX8_next_2 4 rfl) f_RX8_147 rfl rfl h.2.2.2.1 ?_
    refine s_cVp (as := [.int (nI i)]) (tb_ok aX8_next_2 5 rfl) v_RX8_150 (R_byteAt hT (i := i) h.1 (by omega)) (by decide) rfl rfl rfl rfl rfl (Nat.le_of_ble_eq_true rfl) (by decide) ?_
    refine s_i2l (tb_ok aX8_next_2 6 rfl) ?_
    refine s_ldc2 (tb_ok aX8_next_2 7 rfl) k_RX8_159 ?_
    refine s_ldc2 (tb_ok aX8_next_2 8 rfl) k_RX8_161 ?_
    refine s_cSp (as := [_, .long (97), .long (122)]) (tb_ok aX8_next_2 9 rfl) v_RX8_73 (R_in _ _ _) (by decide) rfl rfl (Nat.le_of_ble_eq_true rfl) ?_
    refine s_topi (bI_congr (in_iff (lo := 97) (hi := 122) rfl (by decide) (by decide))) ?_
    refine s_if_eq (tgt := 321) (tb_ok aX8_next_2 10 rfl) (by decide) (fun c118 => ?_) (fun c118 => ?_)
    · refine s_vret (tb_ok aX8_next_6 19 rfl) rfl ?_
      refine hK _ ?_
      rw [scan_e (fun h_ => bI_0.mp c118 (by rw [show btx t n i = t i from if_pos h_.1]; exact h_.2))]
      exact h
    · have hb2 := btx_lt (p := ltP) (by decide) (bI_n c118)
      refine s_aload_n (tb_ok aX8_next_2 11 rfl) rfl ?_
      refine s_dup (tb_ok aX8_next_2 12 rfl) rfl ?_
      refine s_getI (x := (nI i)) (tb_ok aX8_next_2 13 rfl) f_RX8_147 rfl rfl h.2.2.2.1 ?_
      refine s_iconst (v := 1) (tb_ok aX8_next_2 14 rfl) (by decide) ?_
      refine s_iadd (tb_ok aX8_next_2 15 rfl) ?_
      refine s_topi (z := (nI (i + 1))) (nI_1 i) ?_
      refine s_putI (tb_ok aX8_next_2 16 rfl) f_RX8_147 rfl rfl ?_
      have g3 := h.p22 ((i + 1))
      refine s_goto (tgt := 100) (tb_ok aX8_next_2 17 rfl) (by decide) ?_
      refine ih (i + 1) _ (by omega) g3 ?_
      rw [← scan_s hb2.1 hb2.2]
      exact hK

set_option maxRecDepth 100000 in
set_option maxHeartbeats 1000000 in
theorem R_nextC {X : En} {q : Nat × Nat} {I0 : FI} {F n : Nat} {t nm : Nat → Int32} (hT : TxX I0 F n t nm) {p o : Nat} {kk a : Int32} {Q : Pst} (bb : Int32) : ∀ k i c I L, i + k = n → i = p + c → RMd I0 I o i kk a → (∀ j, j < c → dgP (t (p + j))) → (c ≤ 4 → L 66 25 = (nuV t p c).toInt64) → (∀ I' L', RMd I0 I' o (scan dgP t n i) (if scan dgP t n i - p ≤ 4 then 2 else 4) a → (scan dgP t n i - p ≤ 4 → L' 66 25 = (nuV t p (scan dgP t n i - p)).toInt64) → Q none S0 I' L' (R0 q)) → SW X 2 mX8_next (0, 0) 160 [some (.ref 66), some (.int bb), some (.int (nI c))] [] S0 I L (R0 q) (KQ X Q) := by
  obtain ⟨hF, hn, hn160, hFn, ht, ht0, hnm⟩ := id hT
  intro k
  induction k with
  | zero =>
    intro i c I L hik hpc h hd hL hK
    refine s_aload_n (tb_ok aX8_next_3 8 rfl) rfl ?_
    refine s_aload_n (tb_ok aX8_next_3 9 rfl) rfl ?_
    refine s_getI (x := (nI i)) (tb_ok aX8_next_3 10 rfl) f_RX8_147 rfl rfl h.2.2.2.1 ?_
    refine s_cVp (as := [.int (nI i)]) (tb_ok aX8_next_3 11 rfl) v_RX8_150 (R_byteAt hT (i := i) h.1 (by omega)) (by decide) rfl rfl rfl rfl rfl (Nat.le_of_ble_eq_true rfl) (by decide) ?_
    refine s_i2l (tb_ok aX8_next_3 12 rfl) ?_
    refine s_ldc2 (tb_ok aX8_next_3 13 rfl) k_RX8_163 ?_
    refine s_ldc2 (tb_ok aX8_next_3 14 rfl) k_RX8_165 ?_
    refine s_cSp (as := [_, .long (48), .long (57)]) (tb_ok aX8_next_3 15 rfl) v_RX8_73 (R_in _ _ _) (by decide) rfl rfl (Nat.le_of_ble_eq_true rfl) ?_
    refine s_topi (bI_congr (in_iff (lo := 48) (hi := 57) rfl (by decide) (by decide))) ?_
    refine s_if_eq (tgt := 235) (tb_ok aX8_next_3 16 rfl) (by decide) (fun c178 => ?_) (fun c178 => ?_)
    · have hse := scan_e (t := t) (n := n) (p := dgP) (i := i) (fun h_ => bI_0.mp c178 (by rw [show btx t n i = t i from if_pos h_.1]; exact h_.2))
      rw [hse] at hK
      refine s_aload_n (tb_ok aX8_next_4 21 rfl) rfl ?_
      refine s_iload_n (tb_ok aX8_next_4 22 rfl) rfl ?_
      refine s_iconst (v := nI 4) (tb_ok aX8_next_4 23 rfl) (by decide) ?_
      refine s_icmp_le (tgt := 245) (tb_ok aX8_next_5 0 rfl) (by decide) (fun c238 => ?_) (fun c238 => ?_)
      · refine s_iconst (v := 2) (tb_ok aX8_next_5 3 rfl) (by decide) ?_
        refine s_putI (tb_ok aX8_next_5 4 rfl) f_RX8_156 rfl rfl ?_
        have g4 := h.p23 (2)
        refine s_goto (tgt := 321) (tb_ok aX8_next_5 5 rfl) (by decide) ?_
        refine s_vret (tb_ok aX8_next_6 19 rfl) rfl ?_
        refine hK _ _ ?_ (fun h_ => ?_)
        · rw [show i - p = c by omega]
          simp (disch := omega) only [nI_leI] at c238
          rw [if_pos (by omega)]
          exact g4
        · rw [show i - p = c by omega] at *
          exact hL h_
      · refine s_iconst (v := 4) (tb_ok aX8_next_5 1 rfl) (by decide) ?_
        refine s_goto (tgt := 246) (tb_ok aX8_next_5 2 rfl) (by decide) ?_
        refine s_putI (tb_ok aX8_next_5 4 rfl) f_RX8_156 rfl rfl ?_
        have g5 := h.p23 (4)
        refine s_goto (tgt := 321) (tb_ok aX8_next_5 5 rfl) (by decide) ?_
        refine s_vret (tb_ok aX8_next_6 19 rfl) rfl ?_
        refine hK _ _ ?_ (fun h_ => ?_)
        · rw [show i - p = c by omega]
          simp (disch := omega) only [nI_leI] at c238
          rw [if_neg (by omega)]
          exact g5
        · rw [show i - p = c by omega] at *
          exact hL h_
    · exact absurd (btx_lt (p := dgP) (by decide) (bI_n c178)).1 (by omega)
  | succ k ih =>
    intro i c I L hik hpc h hd hL hK
    refine s_aload_n (tb_ok aX8_next_3 8 rfl) rfl ?_
    refine s_aload_n (tb_ok aX8_next_3 9 rfl) rfl ?_
    refine s_getI (x := (nI i)) (tb_ok aX8_next_3 10 rfl) f_RX8_147 rfl rfl h.2.2.2.1 ?_
    refine s_cVp (as := [.int (nI i)]) (tb_ok aX8_next_3 11 rfl) v_RX8_150 (R_byteAt hT (i := i) h.1 (by omega)) (by decide) rfl rfl rfl rfl rfl (Nat.le_of_ble_eq_true rfl) (by decide) ?_
    refine s_i2l (tb_ok aX8_next_3 12 rfl) ?_
    refine s_ldc2 (tb_ok aX8_next_3 13 rfl) k_RX8_163 ?_
    refine s_ldc2 (tb_ok aX8_next_3 14 rfl) k_RX8_165 ?_
    refine s_cSp (as := [_, .long (48), .long (57)]) (tb_ok aX8_next_3 15 rfl) v_RX8_73 (R_in _ _ _) (by decide) rfl rfl (Nat.le_of_ble_eq_true rfl) ?_
    refine s_topi (bI_congr (in_iff (lo := 48) (hi := 57) rfl (by decide) (by decide))) ?_
    refine s_if_eq (tgt := 235) (tb_ok aX8_next_3 16 rfl) (by decide) (fun c178 => ?_) (fun c178 => ?_)
    · have hse := scan_e (t := t) (n := n) (p := dgP) (i := i) (fun h_ => bI_0.mp c178 (by rw [show btx t n i = t i from if_pos h_.1]; exact h_.2))
      rw [hse] at hK
      refine s_aload_n (tb_ok aX8_next_4 21 rfl) rfl ?_
      refine s_iload_n (tb_ok aX8_next_4 22 rfl) rfl ?_
      refine s_iconst (v := nI 4) (tb_ok aX8_next_4 23 rfl) (by decide) ?_
      refine s_icmp_le (tgt := 245) (tb_ok aX8_next_5 0 rfl) (by decide) (fun c238 => ?_) (fun c238 => ?_)
      · refine s_iconst (v := 2) (tb_ok aX8_next_5 3 rfl) (by decide) ?_
        refine s_putI (tb_ok aX8_next_5 4 rfl) f_RX8_156 rfl rfl ?_
        have g6 := h.p23 (2)
        refine s_goto (tgt := 321) (tb_ok aX8_next_5 5 rfl) (by decide) ?_
        refine s_vret (tb_ok aX8_next_6 19 rfl) rfl ?_
        refine hK _ _ ?_ (fun h_ => ?_)
        · rw [show i - p = c by omega]
          simp (disch := omega) only [nI_leI] at c238
          rw [if_pos (by omega)]
          exact g6
        · rw [show i - p = c by omega] at *
          exact hL h_
      · refine s_iconst (v := 4) (tb_ok aX8_next_5 1 rfl) (by decide) ?_
        refine s_goto (tgt := 246) (tb_ok aX8_next_5 2 rfl) (by decide) ?_
        refine s_putI (tb_ok aX8_next_5 4 rfl) f_RX8_156 rfl rfl ?_
        have g7 := h.p23 (4)
        refine s_goto (tgt := 321) (tb_ok aX8_next_5 5 rfl) (by decide) ?_
        refine s_vret (tb_ok aX8_next_6 19 rfl) rfl ?_
        refine hK _ _ ?_ (fun h_ => ?_)
        · rw [show i - p = c by omega]
          simp (disch := omega) only [nI_leI] at c238
          rw [if_neg (by omega)]
          exact g7
        · rw [show i - p = c by omega] at *
          exact hL h_
    · have hb2 := btx_lt (p := dgP) (by decide) (bI_n c178)
      refine s_aload_n (tb_ok aX8_next_3 17 rfl) rfl ?_
      refine s_iload_n (tb_ok aX8_next_3 18 rfl) rfl ?_
      refine s_iconst (v := nI 4) (tb_ok aX8_next_3 19 rfl) (by decide) ?_
      refine s_icmp_ge (tgt := 212) (tb_ok aX8_next_3 20 rfl) (by decide) (fun c184 => ?_) (fun c184 => ?_)
      · simp (disch := omega) only [nI_leI] at c184
        refine s_aload_n (tb_ok aX8_next_4 10 rfl) rfl ?_
        refine s_getL (tb_ok aX8_next_4 11 rfl) f_RX8_167 rfl rfl rfl ?_
        refine s_putL (tb_ok aX8_next_4 12 rfl) f_RX8_167 rfl rfl ?_
        have hL2 : c + 1 ≤ 4 → (up2 L 66 25 (L 66 25)) 66 25 = (nuV t p (c + 1)).toInt64 := fun h_ => by omega
        refine s_iinc (v := nI (c + 1)) (ls' := [some (.ref 66), some (.int bb), some (.int (nI (c + 1)))]) (tb_ok aX8_next_4 13 rfl) rfl (nI_1 _) rfl rfl ?_
        refine s_aload_n (tb_ok aX8_next_4 14 rfl) rfl ?_
        refine s_dup (tb_ok aX8_next_4 15 rfl) rfl ?_
        refine s_getI (x := (nI i)) (tb_ok aX8_next_4 16 rfl) f_RX8_147 rfl rfl h.2.2.2.1 ?_
        refine s_iconst (v := 1) (tb_ok aX8_next_4 17 rfl) (by decide) ?_
        refine s_iadd (tb_ok aX8_next_4 18 rfl) ?_
        refine s_topi (z := (nI (i + 1))) (nI_1 i) ?_
        refine s_putI (tb_ok aX8_next_4 19 rfl) f_RX8_147 rfl rfl ?_
        have g8 := h.p22 ((i + 1))
        refine s_goto (tgt := 160) (tb_ok aX8_next_4 20 rfl) (by decide) ?_
        refine ih (i + 1) (c + 1) _ _ (by omega) (by omega) g8 (fun j hj => ?_) hL2 ?_
        · by_cases e_ : j = c
          · rw [e_, ← hpc]; exact hb2.2
          · exact hd j (by omega)
        · rw [← scan_s hb2.1 hb2.2]
          exact hK
      · simp (disch := omega) only [nI_leI] at c184
        refine s_ldc2 (tb_ok aX8_next_3 21 rfl) k_RX8_171 ?_
        refine s_aload_n (tb_ok aX8_next_3 22 rfl) rfl ?_
        refine s_getL (tb_ok aX8_next_3 23 rfl) f_RX8_167 rfl rfl rfl ?_
        refine s_lmul (tb_ok aX8_next_4 0 rfl) ?_
        refine s_aload_n (tb_ok aX8_next_4 1 rfl) rfl ?_
        refine s_aload_n (tb_ok aX8_next_4 2 rfl) rfl ?_
        refine s_getI (x := (nI i)) (tb_ok aX8_next_4 3 rfl) f_RX8_147 rfl rfl h.2.2.2.1 ?_
        refine s_cVp (as := [.int (nI i)]) (tb_ok aX8_next_4 4 rfl) v_RX8_150 (R_byteAt hT (i := i) h.1 (by omega)) (by decide) rfl rfl rfl rfl rfl (Nat.le_of_ble_eq_true rfl) (by decide) ?_
        refine s_i2l (tb_ok aX8_next_4 5 rfl) ?_
        refine s_ladd (tb_ok aX8_next_4 6 rfl) ?_
        refine s_ldc2 (tb_ok aX8_next_4 7 rfl) k_RX8_163 ?_
        refine s_lsub (tb_ok aX8_next_4 8 rfl) ?_
        refine s_goto (tgt := 216) (tb_ok aX8_next_4 9 rfl) (by decide) ?_
        refine s_putL (tb_ok aX8_next_4 12 rfl) f_RX8_167 rfl rfl ?_
        have hL2 : c + 1 ≤ 4 → (up2 L 66 25 (10 * L 66 25 + (btx t n i).toInt64 - 48)) 66 25 = (nuV t p (c + 1)).toInt64 := by
          intro _
          rw [up2_oo, hL (by omega), show btx t n i = t i from if_pos hb2.1]
          subst hpc
          exact nuL (by omega) hd hb2.2
        refine s_iinc (v := nI (c + 1)) (ls' := [some (.ref 66), some (.int bb), some (.int (nI (c + 1)))]) (tb_ok aX8_next_4 13 rfl) rfl (nI_1 _) rfl rfl ?_
        refine s_aload_n (tb_ok aX8_next_4 14 rfl) rfl ?_
        refine s_dup (tb_ok aX8_next_4 15 rfl) rfl ?_
        refine s_getI (x := (nI i)) (tb_ok aX8_next_4 16 rfl) f_RX8_147 rfl rfl h.2.2.2.1 ?_
        refine s_iconst (v := 1) (tb_ok aX8_next_4 17 rfl) (by decide) ?_
        refine s_iadd (tb_ok aX8_next_4 18 rfl) ?_
        refine s_topi (z := (nI (i + 1))) (nI_1 i) ?_
        refine s_putI (tb_ok aX8_next_4 19 rfl) f_RX8_147 rfl rfl ?_
        have g9 := h.p22 ((i + 1))
        refine s_goto (tgt := 160) (tb_ok aX8_next_4 20 rfl) (by decide) ?_
        refine ih (i + 1) (c + 1) _ _ (by omega) (by omega) g9 (fun j hj => ?_) hL2 ?_
        · by_cases e_ : j = c
          · rw [e_, ← hpc]; exact hb2.2
          · exact hd j (by omega)
        · rw [← scan_s hb2.1 hb2.2]
          exact hK

set_option maxRecDepth 100000 in
set_option maxHeartbeats 1000000 in
theorem R_next0 {X : En} {q : Nat × Nat} {I0 : FI} {F n : Nat} {t nm : Nat → Int32} (hT : TxX I0 F n t nm) {I : FI} {L : FL} {o i : Nat} {kk a : Int32} (h : RMd I0 I o i kk a) (hi : i ≤ n) (v : Int32) : Ev X 2 mX8_next (0, 0) [.ref 66] S0 I L (R0 q) (AfT q t n o I0 (lex t n i v) none) := by
  obtain ⟨hF, hn, hn160, hFn, ht, ht0, hnm⟩ := id hT
  refine ev_of (by decide +kernel) rfl ?_
  show SW X 2 _ _ 0 [some (.ref 66), none, none] [] S0 I L (R0 q) _
  have hw := (lex_wf (t := t) hi v).1
  have hlx : lex t n i v = lexS t n v (scan blP t n i) := rfl
  have hp2 : scan blP t n i ≤ n := scan_le hi
  rw [hlx] at hw ⊢
  refine R_nextA hT (n - i) i I (by omega) h (fun I1 h1 => ?_)
  generalize scan blP t n i = p at hw h1 hp2 ⊢
  refine s_aload_n (tb_ok aX8_next_0 19 rfl) rfl ?_
  refine s_aload_n (tb_ok aX8_next_0 20 rfl) rfl ?_
  refine s_getI (x := (nI p)) (tb_ok aX8_next_0 21 rfl) f_RX8_147 rfl rfl h1.2.2.2.1 ?_
  refine s_putI (tb_ok aX8_next_0 22 rfl) f_RX8_153 rfl rfl ?_
  have g2 := h1.p24 (nI p)
  refine s_aload_n (tb_ok aX8_next_0 23 rfl) rfl ?_
  refine s_aload_n (tb_ok aX8_next_1 0 rfl) rfl ?_
  refine s_getI (x := (nI p)) (tb_ok aX8_next_1 1 rfl) f_RX8_147 rfl rfl g2.2.2.2.1 ?_
  refine s_cVp (as := [.int (nI p)]) (tb_ok aX8_next_1 2 rfl) v_RX8_150 (R_byteAt hT (i := p) g2.1 (by omega)) (by decide) rfl rfl rfl rfl rfl (Nat.le_of_ble_eq_true rfl) (by decide) ?_
  refine s_name (fun x1 ex1 => ?_)
  refine s_istore_n (ls' := [some (.ref 66), some (.int x1), none]) (tb_ok aX8_next_1 3 rfl) rfl rfl ?_
  refine s_aload_n (tb_ok aX8_next_1 4 rfl) rfl ?_
  refine s_iconst (v := 4) (tb_ok aX8_next_1 5 rfl) (by decide) ?_
  refine s_putI (tb_ok aX8_next_1 6 rfl) f_RX8_156 rfl rfl ?_
  have g3 := g2.p23 (4)
  refine s_iload_n (tb_ok aX8_next_1 7 rfl) rfl ?_
  refine s_if_ge (tgt := 81) (tb_ok aX8_next_1 8 rfl) (by decide) (fun c62 => ?_) (fun c62 => ?_)
  · have hpn : p < n := btx_ge (ex1 ▸ c62)
    have ex2 : x1 = t p := ex1.trans (if_pos hpn)
    refine s_iload_n (tb_ok aX8_next_1 17 rfl) rfl ?_
    refine s_i2l (tb_ok aX8_next_1 18 rfl) ?_
    refine s_ldc2 (tb_ok aX8_next_1 19 rfl) k_RX8_159 ?_
    refine s_ldc2 (tb_ok aX8_next_1 20 rfl) k_RX8_161 ?_
    refine s_cSp (as := [_, .long (97), .long (122)]) (tb_ok aX8_next_1 21 rfl) v_RX8_73 (R_in _ _ _) (by decide) rfl rfl (Nat.le_of_ble_eq_true rfl) ?_
    refine s_topi (bI_congr (in_iff (lo := 97) (hi := 122) rfl (by decide) (by decide))) ?_
    refine s_if_eq (tgt := 134) (tb_ok aX8_next_1 22 rfl) (by decide) (fun c92 => ?_) (fun c92 => ?_)
    · have n92 : ¬ ltP (t p) := fun h_ => bI_0.mp c92 (ex2.symm ▸ h_)
      refine s_iload_n (tb_ok aX8_next_2 18 rfl) rfl ?_
      refine s_i2l (tb_ok aX8_next_2 19 rfl) ?_
      refine s_ldc2 (tb_ok aX8_next_2 20 rfl) k_RX8_163 ?_
      refine s_ldc2 (tb_ok aX8_next_2 21 rfl) k_RX8_165 ?_
      refine s_cSp (as := [_, .long (48), .long (57)]) (tb_ok aX8_next_2 22 rfl) v_RX8_73 (R_in _ _ _) (by decide) rfl rfl (Nat.le_of_ble_eq_true rfl) ?_
      refine s_topi (bI_congr (in_iff (lo := 48) (hi := 57) rfl (by decide) (by decide))) ?_
      refine s_if_eq (tgt := 252) (tb_ok aX8_next_2 23 rfl) (by decide) (fun c145 => ?_) (fun c145 => ?_)
      · have n145 : ¬ dgP (t p) := fun h_ => bI_0.mp c145 (ex2.symm ▸ h_)
        refine s_iload_n (tb_ok aX8_next_5 6 rfl) rfl ?_
        refine s_bipush (v := 40) (tb_ok aX8_next_5 7 rfl) (by decide) ?_
        refine s_icmp_eq (tgt := 300) (tb_ok aX8_next_5 8 rfl) (by decide) (fun c255 => ?_) (fun c255 => ?_)
        · have hs : sgP x1 := by first | exact Or.inl c255 | exact Or.inr (Or.inl c261) | exact Or.inr (Or.inr (Or.inl c267)) | exact Or.inr (Or.inr (Or.inr (Or.inl c273))) | exact Or.inr (Or.inr (Or.inr (Or.inr (Or.inl c279)))) | exact Or.inr (Or.inr (Or.inr (Or.inr (Or.inr (Or.inl c285))))) | exact Or.inr (Or.inr (Or.inr (Or.inr (Or.inr (Or.inr (Or.inl c291)))))) | exact Or.inr (Or.inr (Or.inr (Or.inr (Or.inr (Or.inr (Or.inr c297))))))
          refine s_aload_n (tb_ok aX8_next_6 6 rfl) rfl ?_
          refine s_iconst (v := 3) (tb_ok aX8_next_6 7 rfl) (by decide) ?_
          refine s_putI (tb_ok aX8_next_6 8 rfl) f_RX8_156 rfl rfl ?_
          have g4 := g3.p23 (3)
          refine s_aload_n (tb_ok aX8_next_6 9 rfl) rfl ?_
          refine s_iload_n (tb_ok aX8_next_6 10 rfl) rfl ?_
          refine s_i2l (tb_ok aX8_next_6 11 rfl) ?_
          refine s_putL (tb_ok aX8_next_6 12 rfl) f_RX8_167 rfl rfl ?_
          refine s_aload_n (tb_ok aX8_next_6 13 rfl) rfl ?_
          refine s_dup (tb_ok aX8_next_6 14 rfl) rfl ?_
          refine s_getI (x := (nI p)) (tb_ok aX8_next_6 15 rfl) f_RX8_147 rfl rfl g4.2.2.2.1 ?_
          refine s_iconst (v := 1) (tb_ok aX8_next_6 16 rfl) (by decide) ?_
          refine s_iadd (tb_ok aX8_next_6 17 rfl) ?_
          refine s_topi (z := (nI (p + 1))) (nI_1 p) ?_
          refine s_putI (tb_ok aX8_next_6 18 rfl) f_RX8_147 rfl rfl ?_
          have g5 := g4.p22 ((p + 1))
          refine s_vret (tb_ok aX8_next_6 19 rfl) rfl ?_
          have hl : lexS t n v p = (t p, v, p, p + 1) := by unfold lexS; rw [if_neg (by omega), if_neg n92, if_neg n145, if_pos (ex2 ▸ hs)]
          rw [hl] at hw ⊢
          exact ⟨rfl, rfl, rfl, g5.1, hw, g5.2.1, g5.2.2.1, g5.2.2.2.2.2, Or.inr (Or.inr (Or.inr (Or.inr ⟨ex2 ▸ hs, g5.2.2.2.2.1, g5.2.2.2.1, by rw [up2_oo, ex2]⟩)))⟩
        · refine s_iload_n (tb_ok aX8_next_5 9 rfl) rfl ?_
          refine s_bipush (v := 41) (tb_ok aX8_next_5 10 rfl) (by decide) ?_
          refine s_icmp_eq (tgt := 300) (tb_ok aX8_next_5 11 rfl) (by decide) (fun c261 => ?_) (fun c261 => ?_)
          · have hs : sgP x1 := by first | exact Or.inl c255 | exact Or.inr (Or.inl c261) | exact Or.inr (Or.inr (Or.inl c267)) | exact Or.inr (Or.inr (Or.inr (Or.inl c273))) | exact Or.inr (Or.inr (Or.inr (Or.inr (Or.inl c279)))) | exact Or.inr (Or.inr (Or.inr (Or.inr (Or.inr (Or.inl c285))))) | exact Or.inr (Or.inr (Or.inr (Or.inr (Or.inr (Or.inr (Or.inl c291)))))) | exact Or.inr (Or.inr (Or.inr (Or.inr (Or.inr (Or.inr (Or.inr c297))))))
            refine s_aload_n (tb_ok aX8_next_6 6 rfl) rfl ?_
            refine s_iconst (v := 3) (tb_ok aX8_next_6 7 rfl) (by decide) ?_
            refine s_putI (tb_ok aX8_next_6 8 rfl) f_RX8_156 rfl rfl ?_
            have g6 := g3.p23 (3)
            refine s_aload_n (tb_ok aX8_next_6 9 rfl) rfl ?_
            refine s_iload_n (tb_ok aX8_next_6 10 rfl) rfl ?_
            refine s_i2l (tb_ok aX8_next_6 11 rfl) ?_
            refine s_putL (tb_ok aX8_next_6 12 rfl) f_RX8_167 rfl rfl ?_
            refine s_aload_n (tb_ok aX8_next_6 13 rfl) rfl ?_
            refine s_dup (tb_ok aX8_next_6 14 rfl) rfl ?_
            refine s_getI (x := (nI p)) (tb_ok aX8_next_6 15 rfl) f_RX8_147 rfl rfl g6.2.2.2.1 ?_
            refine s_iconst (v := 1) (tb_ok aX8_next_6 16 rfl) (by decide) ?_
            refine s_iadd (tb_ok aX8_next_6 17 rfl) ?_
            refine s_topi (z := (nI (p + 1))) (nI_1 p) ?_
            refine s_putI (tb_ok aX8_next_6 18 rfl) f_RX8_147 rfl rfl ?_
            have g7 := g6.p22 ((p + 1))
            refine s_vret (tb_ok aX8_next_6 19 rfl) rfl ?_
            have hl : lexS t n v p = (t p, v, p, p + 1) := by unfold lexS; rw [if_neg (by omega), if_neg n92, if_neg n145, if_pos (ex2 ▸ hs)]
            rw [hl] at hw ⊢
            exact ⟨rfl, rfl, rfl, g7.1, hw, g7.2.1, g7.2.2.1, g7.2.2.2.2.2, Or.inr (Or.inr (Or.inr (Or.inr ⟨ex2 ▸ hs, g7.2.2.2.2.1, g7.2.2.2.1, by rw [up2_oo, ex2]⟩)))⟩
          · refine s_iload_n (tb_ok aX8_next_5 12 rfl) rfl ?_
            refine s_bipush (v := 59) (tb_ok aX8_next_5 13 rfl) (by decide) ?_
            refine s_icmp_eq (tgt := 300) (tb_ok aX8_next_5 14 rfl) (by decide) (fun c267 => ?_) (fun c267 => ?_)
            · have hs : sgP x1 := by first | exact Or.inl c255 | exact Or.inr (Or.inl c261) | exact Or.inr (Or.inr (Or.inl c267)) | exact Or.inr (Or.inr (Or.inr (Or.inl c273))) | exact Or.inr (Or.inr (Or.inr (Or.inr (Or.inl c279)))) | exact Or.inr (Or.inr (Or.inr (Or.inr (Or.inr (Or.inl c285))))) | exact Or.inr (Or.inr (Or.inr (Or.inr (Or.inr (Or.inr (Or.inl c291)))))) | exact Or.inr (Or.inr (Or.inr (Or.inr (Or.inr (Or.inr (Or.inr c297))))))
              refine s_aload_n (tb_ok aX8_next_6 6 rfl) rfl ?_
              refine s_iconst (v := 3) (tb_ok aX8_next_6 7 rfl) (by decide) ?_
              refine s_putI (tb_ok aX8_next_6 8 rfl) f_RX8_156 rfl rfl ?_
              have g8 := g3.p23 (3)
              refine s_aload_n (tb_ok aX8_next_6 9 rfl) rfl ?_
              refine s_iload_n (tb_ok aX8_next_6 10 rfl) rfl ?_
              refine s_i2l (tb_ok aX8_next_6 11 rfl) ?_
              refine s_putL (tb_ok aX8_next_6 12 rfl) f_RX8_167 rfl rfl ?_
              refine s_aload_n (tb_ok aX8_next_6 13 rfl) rfl ?_
              refine s_dup (tb_ok aX8_next_6 14 rfl) rfl ?_
              refine s_getI (x := (nI p)) (tb_ok aX8_next_6 15 rfl) f_RX8_147 rfl rfl g8.2.2.2.1 ?_
              refine s_iconst (v := 1) (tb_ok aX8_next_6 16 rfl) (by decide) ?_
              refine s_iadd (tb_ok aX8_next_6 17 rfl) ?_
              refine s_topi (z := (nI (p + 1))) (nI_1 p) ?_
              refine s_putI (tb_ok aX8_next_6 18 rfl) f_RX8_147 rfl rfl ?_
              have g9 := g8.p22 ((p + 1))
              refine s_vret (tb_ok aX8_next_6 19 rfl) rfl ?_
              have hl : lexS t n v p = (t p, v, p, p + 1) := by unfold lexS; rw [if_neg (by omega), if_neg n92, if_neg n145, if_pos (ex2 ▸ hs)]
              rw [hl] at hw ⊢
              exact ⟨rfl, rfl, rfl, g9.1, hw, g9.2.1, g9.2.2.1, g9.2.2.2.2.2, Or.inr (Or.inr (Or.inr (Or.inr ⟨ex2 ▸ hs, g9.2.2.2.2.1, g9.2.2.2.1, by rw [up2_oo, ex2]⟩)))⟩
            · refine s_iload_n (tb_ok aX8_next_5 15 rfl) rfl ?_
              refine s_bipush (v := 43) (tb_ok aX8_next_5 16 rfl) (by decide) ?_
              refine s_icmp_eq (tgt := 300) (tb_ok aX8_next_5 17 rfl) (by decide) (fun c273 => ?_) (fun c273 => ?_)
              · have hs : sgP x1 := by first | exact Or.inl c255 | exact Or.inr (Or.inl c261) | exact Or.inr (Or.inr (Or.inl c267)) | exact Or.inr (Or.inr (Or.inr (Or.inl c273))) | exact Or.inr (Or.inr (Or.inr (Or.inr (Or.inl c279)))) | exact Or.inr (Or.inr (Or.inr (Or.inr (Or.inr (Or.inl c285))))) | exact Or.inr (Or.inr (Or.inr (Or.inr (Or.inr (Or.inr (Or.inl c291)))))) | exact Or.inr (Or.inr (Or.inr (Or.inr (Or.inr (Or.inr (Or.inr c297))))))
                refine s_aload_n (tb_ok aX8_next_6 6 rfl) rfl ?_
                refine s_iconst (v := 3) (tb_ok aX8_next_6 7 rfl) (by decide) ?_
                refine s_putI (tb_ok aX8_next_6 8 rfl) f_RX8_156 rfl rfl ?_
                have g10 := g3.p23 (3)
                refine s_aload_n (tb_ok aX8_next_6 9 rfl) rfl ?_
                refine s_iload_n (tb_ok aX8_next_6 10 rfl) rfl ?_
                refine s_i2l (tb_ok aX8_next_6 11 rfl) ?_
                refine s_putL (tb_ok aX8_next_6 12 rfl) f_RX8_167 rfl rfl ?_
                refine s_aload_n (tb_ok aX8_next_6 13 rfl) rfl ?_
                refine s_dup (tb_ok aX8_next_6 14 rfl) rfl ?_
                refine s_getI (x := (nI p)) (tb_ok aX8_next_6 15 rfl) f_RX8_147 rfl rfl g10.2.2.2.1 ?_
                refine s_iconst (v := 1) (tb_ok aX8_next_6 16 rfl) (by decide) ?_
                refine s_iadd (tb_ok aX8_next_6 17 rfl) ?_
                refine s_topi (z := (nI (p + 1))) (nI_1 p) ?_
                refine s_putI (tb_ok aX8_next_6 18 rfl) f_RX8_147 rfl rfl ?_
                have g11 := g10.p22 ((p + 1))
                refine s_vret (tb_ok aX8_next_6 19 rfl) rfl ?_
                have hl : lexS t n v p = (t p, v, p, p + 1) := by unfold lexS; rw [if_neg (by omega), if_neg n92, if_neg n145, if_pos (ex2 ▸ hs)]
                rw [hl] at hw ⊢
                exact ⟨rfl, rfl, rfl, g11.1, hw, g11.2.1, g11.2.2.1, g11.2.2.2.2.2, Or.inr (Or.inr (Or.inr (Or.inr ⟨ex2 ▸ hs, g11.2.2.2.2.1, g11.2.2.2.1, by rw [up2_oo, ex2]⟩)))⟩
              · refine s_iload_n (tb_ok aX8_next_5 18 rfl) rfl ?_
                refine s_bipush (v := 45) (tb_ok aX8_next_5 19 rfl) (by decide) ?_
                refine s_icmp_eq (tgt := 300) (tb_ok aX8_next_5 20 rfl) (by decide) (fun c279 => ?_) (fun c279 => ?_)
                · have hs : sgP x1 := by first | exact Or.inl c255 | exact Or.inr (Or.inl c261) | exact Or.inr (Or.inr (Or.inl c267)) | exact Or.inr (Or.inr (Or.inr (Or.inl c273))) | exact Or.inr (Or.inr (Or.inr (Or.inr (Or.inl c279)))) | exact Or.inr (Or.inr (Or.inr (Or.inr (Or.inr (Or.inl c285))))) | exact Or.inr (Or.inr (Or.inr (Or.inr (Or.inr (Or.inr (Or.inl c291)))))) | exact Or.inr (Or.inr (Or.inr (Or.inr (Or.inr (Or.inr (Or.inr c297))))))
                  refine s_aload_n (tb_ok aX8_next_6 6 rfl) rfl ?_
                  refine s_iconst (v := 3) (tb_ok aX8_next_6 7 rfl) (by decide) ?_
                  refine s_putI (tb_ok aX8_next_6 8 rfl) f_RX8_156 rfl rfl ?_
                  have g12 := g3.p23 (3)
                  refine s_aload_n (tb_ok aX8_next_6 9 rfl) rfl ?_
                  refine s_iload_n (tb_ok aX8_next_6 10 rfl) rfl ?_
                  refine s_i2l (tb_ok aX8_next_6 11 rfl) ?_
                  refine s_putL (tb_ok aX8_next_6 12 rfl) f_RX8_167 rfl rfl ?_
                  refine s_aload_n (tb_ok aX8_next_6 13 rfl) rfl ?_
                  refine s_dup (tb_ok aX8_next_6 14 rfl) rfl ?_
                  refine s_getI (x := (nI p)) (tb_ok aX8_next_6 15 rfl) f_RX8_147 rfl rfl g12.2.2.2.1 ?_
                  refine s_iconst (v := 1) (tb_ok aX8_next_6 16 rfl) (by decide) ?_
                  refine s_iadd (tb_ok aX8_next_6 17 rfl) ?_
                  refine s_topi (z := (nI (p + 1))) (nI_1 p) ?_
                  refine s_putI (tb_ok aX8_next_6 18 rfl) f_RX8_147 rfl rfl ?_
                  have g13 := g12.p22 ((p + 1))
                  refine s_vret (tb_ok aX8_next_6 19 rfl) rfl ?_
                  have hl : lexS t n v p = (t p, v, p, p + 1) := by unfold lexS; rw [if_neg (by omega), if_neg n92, if_neg n145, if_pos (ex2 ▸ hs)]
                  rw [hl] at hw ⊢
                  exact ⟨rfl, rfl, rfl, g13.1, hw, g13.2.1, g13.2.2.1, g13.2.2.2.2.2, Or.inr (Or.inr (Or.inr (Or.inr ⟨ex2 ▸ hs, g13.2.2.2.2.1, g13.2.2.2.1, by rw [up2_oo, ex2]⟩)))⟩
                · refine s_iload_n (tb_ok aX8_next_5 21 rfl) rfl ?_
                  refine s_bipush (v := 42) (tb_ok aX8_next_5 22 rfl) (by decide) ?_
                  refine s_icmp_eq (tgt := 300) (tb_ok aX8_next_5 23 rfl) (by decide) (fun c285 => ?_) (fun c285 => ?_)
                  · have hs : sgP x1 := by first | exact Or.inl c255 | exact Or.inr (Or.inl c261) | exact Or.inr (Or.inr (Or.inl c267)) | exact Or.inr (Or.inr (Or.inr (Or.inl c273))) | exact Or.inr (Or.inr (Or.inr (Or.inr (Or.inl c279)))) | exact Or.inr (Or.inr (Or.inr (Or.inr (Or.inr (Or.inl c285))))) | exact Or.inr (Or.inr (Or.inr (Or.inr (Or.inr (Or.inr (Or.inl c291)))))) | exact Or.inr (Or.inr (Or.inr (Or.inr (Or.inr (Or.inr (Or.inr c297))))))
                    refine s_aload_n (tb_ok aX8_next_6 6 rfl) rfl ?_
                    refine s_iconst (v := 3) (tb_ok aX8_next_6 7 rfl) (by decide) ?_
                    refine s_putI (tb_ok aX8_next_6 8 rfl) f_RX8_156 rfl rfl ?_
                    have g14 := g3.p23 (3)
                    refine s_aload_n (tb_ok aX8_next_6 9 rfl) rfl ?_
                    refine s_iload_n (tb_ok aX8_next_6 10 rfl) rfl ?_
                    refine s_i2l (tb_ok aX8_next_6 11 rfl) ?_
                    refine s_putL (tb_ok aX8_next_6 12 rfl) f_RX8_167 rfl rfl ?_
                    refine s_aload_n (tb_ok aX8_next_6 13 rfl) rfl ?_
                    refine s_dup (tb_ok aX8_next_6 14 rfl) rfl ?_
                    refine s_getI (x := (nI p)) (tb_ok aX8_next_6 15 rfl) f_RX8_147 rfl rfl g14.2.2.2.1 ?_
                    refine s_iconst (v := 1) (tb_ok aX8_next_6 16 rfl) (by decide) ?_
                    refine s_iadd (tb_ok aX8_next_6 17 rfl) ?_
                    refine s_topi (z := (nI (p + 1))) (nI_1 p) ?_
                    refine s_putI (tb_ok aX8_next_6 18 rfl) f_RX8_147 rfl rfl ?_
                    have g15 := g14.p22 ((p + 1))
                    refine s_vret (tb_ok aX8_next_6 19 rfl) rfl ?_
                    have hl : lexS t n v p = (t p, v, p, p + 1) := by unfold lexS; rw [if_neg (by omega), if_neg n92, if_neg n145, if_pos (ex2 ▸ hs)]
                    rw [hl] at hw ⊢
                    exact ⟨rfl, rfl, rfl, g15.1, hw, g15.2.1, g15.2.2.1, g15.2.2.2.2.2, Or.inr (Or.inr (Or.inr (Or.inr ⟨ex2 ▸ hs, g15.2.2.2.2.1, g15.2.2.2.1, by rw [up2_oo, ex2]⟩)))⟩
                  · refine s_iload_n (tb_ok aX8_next_6 0 rfl) rfl ?_
                    refine s_bipush (v := 60) (tb_ok aX8_next_6 1 rfl) (by decide) ?_
                    refine s_icmp_eq (tgt := 300) (tb_ok aX8_next_6 2 rfl) (by decide) (fun c291 => ?_) (fun c291 => ?_)
                    · have hs : sgP x1 := by first | exact Or.inl c255 | exact Or.inr (Or.inl c261) | exact Or.inr (Or.inr (Or.inl c267)) | exact Or.inr (Or.inr (Or.inr (Or.inl c273))) | exact Or.inr (Or.inr (Or.inr (Or.inr (Or.inl c279)))) | exact Or.inr (Or.inr (Or.inr (Or.inr (Or.inr (Or.inl c285))))) | exact Or.inr (Or.inr (Or.inr (Or.inr (Or.inr (Or.inr (Or.inl c291)))))) | exact Or.inr (Or.inr (Or.inr (Or.inr (Or.inr (Or.inr (Or.inr c297))))))
                      refine s_aload_n (tb_ok aX8_next_6 6 rfl) rfl ?_
                      refine s_iconst (v := 3) (tb_ok aX8_next_6 7 rfl) (by decide) ?_
                      refine s_putI (tb_ok aX8_next_6 8 rfl) f_RX8_156 rfl rfl ?_
                      have g16 := g3.p23 (3)
                      refine s_aload_n (tb_ok aX8_next_6 9 rfl) rfl ?_
                      refine s_iload_n (tb_ok aX8_next_6 10 rfl) rfl ?_
                      refine s_i2l (tb_ok aX8_next_6 11 rfl) ?_
                      refine s_putL (tb_ok aX8_next_6 12 rfl) f_RX8_167 rfl rfl ?_
                      refine s_aload_n (tb_ok aX8_next_6 13 rfl) rfl ?_
                      refine s_dup (tb_ok aX8_next_6 14 rfl) rfl ?_
                      refine s_getI (x := (nI p)) (tb_ok aX8_next_6 15 rfl) f_RX8_147 rfl rfl g16.2.2.2.1 ?_
                      refine s_iconst (v := 1) (tb_ok aX8_next_6 16 rfl) (by decide) ?_
                      refine s_iadd (tb_ok aX8_next_6 17 rfl) ?_
                      refine s_topi (z := (nI (p + 1))) (nI_1 p) ?_
                      refine s_putI (tb_ok aX8_next_6 18 rfl) f_RX8_147 rfl rfl ?_
                      have g17 := g16.p22 ((p + 1))
                      refine s_vret (tb_ok aX8_next_6 19 rfl) rfl ?_
                      have hl : lexS t n v p = (t p, v, p, p + 1) := by unfold lexS; rw [if_neg (by omega), if_neg n92, if_neg n145, if_pos (ex2 ▸ hs)]
                      rw [hl] at hw ⊢
                      exact ⟨rfl, rfl, rfl, g17.1, hw, g17.2.1, g17.2.2.1, g17.2.2.2.2.2, Or.inr (Or.inr (Or.inr (Or.inr ⟨ex2 ▸ hs, g17.2.2.2.2.1, g17.2.2.2.1, by rw [up2_oo, ex2]⟩)))⟩
                    · refine s_iload_n (tb_ok aX8_next_6 3 rfl) rfl ?_
                      refine s_bipush (v := 61) (tb_ok aX8_next_6 4 rfl) (by decide) ?_
                      refine s_icmp_ne (tgt := 321) (tb_ok aX8_next_6 5 rfl) (by decide) (fun c297 => ?_) (fun c297 => ?_)
                      · refine s_vret (tb_ok aX8_next_6 19 rfl) rfl ?_
                        have hns : ¬ sgP (t p) := by
                          rw [← ex2]
                          rintro (e_ | e_ | e_ | e_ | e_ | e_ | e_ | e_)
                          · exact c255 e_
                          · exact c261 e_
                          · exact c267 e_
                          · exact c273 e_
                          · exact c279 e_
                          · exact c285 e_
                          · exact c291 e_
                          · exact c297 e_
                        have hl : lexS t n v p = (1, v, p, p + 1) := by unfold lexS; rw [if_neg (by omega), if_neg n92, if_neg n145, if_neg hns]
                        rw [hl] at hw ⊢
                        exact ⟨rfl, rfl, rfl, g3.1, hw, g3.2.1, g3.2.2.1, g3.2.2.2.2.2, Or.inr (Or.inl ⟨rfl, g3.2.2.2.2.1⟩)⟩
                      · have hs : sgP x1 := by first | exact Or.inl c255 | exact Or.inr (Or.inl c261) | exact Or.inr (Or.inr (Or.inl c267)) | exact Or.inr (Or.inr (Or.inr (Or.inl c273))) | exact Or.inr (Or.inr (Or.inr (Or.inr (Or.inl c279)))) | exact Or.inr (Or.inr (Or.inr (Or.inr (Or.inr (Or.inl c285))))) | exact Or.inr (Or.inr (Or.inr (Or.inr (Or.inr (Or.inr (Or.inl c291)))))) | exact Or.inr (Or.inr (Or.inr (Or.inr (Or.inr (Or.inr (Or.inr c297))))))
                        refine s_aload_n (tb_ok aX8_next_6 6 rfl) rfl ?_
                        refine s_iconst (v := 3) (tb_ok aX8_next_6 7 rfl) (by decide) ?_
                        refine s_putI (tb_ok aX8_next_6 8 rfl) f_RX8_156 rfl rfl ?_
                        have g18 := g3.p23 (3)
                        refine s_aload_n (tb_ok aX8_next_6 9 rfl) rfl ?_
                        refine s_iload_n (tb_ok aX8_next_6 10 rfl) rfl ?_
                        refine s_i2l (tb_ok aX8_next_6 11 rfl) ?_
                        refine s_putL (tb_ok aX8_next_6 12 rfl) f_RX8_167 rfl rfl ?_
                        refine s_aload_n (tb_ok aX8_next_6 13 rfl) rfl ?_
                        refine s_dup (tb_ok aX8_next_6 14 rfl) rfl ?_
                        refine s_getI (x := (nI p)) (tb_ok aX8_next_6 15 rfl) f_RX8_147 rfl rfl g18.2.2.2.1 ?_
                        refine s_iconst (v := 1) (tb_ok aX8_next_6 16 rfl) (by decide) ?_
                        refine s_iadd (tb_ok aX8_next_6 17 rfl) ?_
                        refine s_topi (z := (nI (p + 1))) (nI_1 p) ?_
                        refine s_putI (tb_ok aX8_next_6 18 rfl) f_RX8_147 rfl rfl ?_
                        have g19 := g18.p22 ((p + 1))
                        refine s_vret (tb_ok aX8_next_6 19 rfl) rfl ?_
                        have hl : lexS t n v p = (t p, v, p, p + 1) := by unfold lexS; rw [if_neg (by omega), if_neg n92, if_neg n145, if_pos (ex2 ▸ hs)]
                        rw [hl] at hw ⊢
                        exact ⟨rfl, rfl, rfl, g19.1, hw, g19.2.1, g19.2.2.1, g19.2.2.2.2.2, Or.inr (Or.inr (Or.inr (Or.inr ⟨ex2 ▸ hs, g19.2.2.2.2.1, g19.2.2.2.1, by rw [up2_oo, ex2]⟩)))⟩
      · refine s_aload_n (tb_ok aX8_next_3 0 rfl) rfl ?_
        refine s_iconst (v := 2) (tb_ok aX8_next_3 1 rfl) (by decide) ?_
        refine s_putI (tb_ok aX8_next_3 2 rfl) f_RX8_156 rfl rfl ?_
        have g20 := g3.p23 (2)
        refine s_aload_n (tb_ok aX8_next_3 3 rfl) rfl ?_
        refine s_lconst (v := 0) (tb_ok aX8_next_3 4 rfl) (by decide) ?_
        refine s_putL (tb_ok aX8_next_3 5 rfl) f_RX8_167 rfl rfl ?_
        refine s_iconst (v := nI 0) (tb_ok aX8_next_3 6 rfl) (by decide) ?_
        refine s_istore_n (ls' := [some (.ref 66), some (.int x1), some (.int (nI 0))]) (tb_ok aX8_next_3 7 rfl) rfl rfl ?_
        have hl : lexS t n v p = (if scan dgP t n p - p ≤ 4 then 2 else 1, nuV t p (scan dgP t n p - p), p, scan dgP t n p) := by unfold lexS; rw [if_neg (by omega), if_neg n92, if_pos (ex2 ▸ bI_n c145)]
        rw [hl] at hw ⊢
        have hgt : p < scan dgP t n p := scan_gt hpn (ex2 ▸ bI_n c145)
        have hle : scan dgP t n p ≤ n := scan_le hp2
        refine R_nextC hT _ (n - p) p 0 _ _ (by omega) rfl g20 (fun j hj => by omega) (fun _ => rfl) (fun I2 L2 h2 hL2 => ?_)
        refine ⟨rfl, rfl, rfl, h2.1, hw, h2.2.1, h2.2.2.1, h2.2.2.2.2.2, ?_⟩
        by_cases h4 : scan dgP t n p - p ≤ 4
        · rw [if_pos h4] at h2 ⊢
          obtain ⟨m, hm, em⟩ := nuV_lt (t := t) (p := p) (scan dgP t n p - p) (fun j hj => scan_p (i := p) (n := n) (by omega) (by omega))
          have h10 : 10 ^ (scan dgP t n p - p) ≤ 10 ^ 4 := Nat.pow_le_pow_right (by omega) h4
          exact Or.inr (Or.inr (Or.inl ⟨rfl, h2.2.2.2.2.1, h2.2.2.2.1, m, by omega, em, by rw [hL2 h4, em]⟩))
        · rw [if_neg h4] at h2 ⊢
          exact Or.inr (Or.inl ⟨rfl, h2.2.2.2.2.1⟩)
    · refine s_aload_n (tb_ok aX8_next_1 23 rfl) rfl ?_
      refine s_iconst (v := 1) (tb_ok aX8_next_2 0 rfl) (by decide) ?_
      refine s_putI (tb_ok aX8_next_2 1 rfl) f_RX8_156 rfl rfl ?_
      have g21 := g3.p23 (1)
      have hl : lexS t n v p = wdS v (wrdI (slc t p (scan ltP t n p - p)) wordsL 0) p (scan ltP t n p) := by unfold lexS; rw [if_neg (by omega), if_pos (ex2 ▸ bI_n c92)]
      rw [hl] at hw ⊢
      have hgt : p < scan ltP t n p := scan_gt hpn (ex2 ▸ bI_n c92)
      have hle : scan ltP t n p ≤ n := scan_le hp2
      refine R_nextB hT _ (n - p) p _ (by omega) g21 (fun I2 h2 => ?_)
      refine ⟨rfl, rfl, rfl, h2.1, hw, h2.2.1, h2.2.2.1, ?_, Or.inr (Or.inr (Or.inr (Or.inl ⟨h2.2.2.2.2.1, scan ltP t n p, v, h2.2.2.2.1, by omega, ?_, ?_, ?_⟩)))⟩
      · rw [wdS_pl']; exact h2.2.2.2.2.2
      · rw [wdS_pl']; exact hgt
      · rw [wdS_pl']; exact fun j a b => scan_p a b
      · rw [wdS_pl']
  · refine s_aload_n (tb_ok aX8_next_1 9 rfl) rfl ?_
    refine s_iconst (v := 0) (tb_ok aX8_next_1 10 rfl) (by decide) ?_
    refine s_putI (tb_ok aX8_next_1 11 rfl) f_RX8_156 rfl rfl ?_
    have g22 := g3.p23 (0)
    refine s_aload_n (tb_ok aX8_next_1 12 rfl) rfl ?_
    refine s_aload_n (tb_ok aX8_next_1 13 rfl) rfl ?_
    refine s_getI (x := (nI n)) (tb_ok aX8_next_1 14 rfl) f_RX8_141 rfl rfl ((FrX.at g22.1 (by decide)).trans hn) ?_
    refine s_putI (tb_ok aX8_next_1 15 rfl) f_RX8_153 rfl rfl ?_
    have g23 := g22.p24 (nI n)
    refine s_goto (tgt := 321) (tb_ok aX8_next_1 16 rfl) (by decide) ?_
    refine s_vret (tb_ok aX8_next_6 19 rfl) rfl ?_
    have hpn : ¬ p < n := fun h_ => by
      have e_ : x1 = t p := ex1.trans (if_pos h_)
      rw [e_] at c62
      exact c62 (Int32.not_lt.mp (ht0 p h_))
    have hq : n = p := by omega
    have hl : lexS t n v p = (0, v, p, p) := by unfold lexS; rw [if_pos (by omega)]
    rw [hl] at hw ⊢
    refine ⟨rfl, rfl, rfl, g23.1, hw, g23.2.1, g23.2.2.1, ?_, Or.inl ⟨rfl, g23.2.2.2.2.1⟩⟩
    show _ = nI p
    rw [← hq]
    exact g23.2.2.2.2.2
