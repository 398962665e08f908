/-! the reference: houses told by a sheet -/
abbrev hok (x z : Int32) : Prop := (¬ x < 0 ∧ ¬ 5 < x) ∧ (¬ z < 0 ∧ ¬ 9 < z)
def hsS (it : Nat → Int32) (M : Nat) (T : Nat → Nat → Int32) : Nat → Nat × (Nat → Nat → Int32) × Nat
  | 0 => (M, T, 0)
  | k + 1 => if hok (it (2 * k)) (it (2 * k + 1)) ∧ (hsS it M T k).1 < 5 then ((hsS it M T k).1 + 1, uT (hsS it M T k).2.1 (hsS it M T k).1 (mkT (it (2 * k)) (it (2 * k + 1)) 0 50 0), (hsS it M T k).2.2 + 1) else hsS it M T k
theorem hsS_c (it : Nat → Int32) (M : Nat) (T : Nat → Nat → Int32) : ∀ k, (hsS it M T k).2.2 ≤ k := by
  intro k
  induction k with
  | zero => exact Nat.le_refl _
  | succ k ih =>
    unfold hsS
    split
    · show (hsS it M T k).2.2 + 1 ≤ k + 1
      omega
    · omega
def eH (o k : Nat) : Prop := (o = 66 ∧ k = 13) ∨ o = 72 ∨ (o = 73 ∧ k < 20)
theorem house6_fr {I : FI} {M : Nat} (hM : M < 5) (k n : Int32) : FrE eH (house6 I M k n) I := by
  unfold house6
  exact FrE.put (FrE.put (FrE.put (FrE.put (FrE.put (FrE.put FrE.refl (Or.inr (Or.inl rfl)) _) (Or.inr (Or.inr ⟨rfl, by omega⟩)) _) (Or.inr (Or.inr ⟨rfl, by omega⟩)) _) (Or.inr (Or.inr ⟨rfl, by omega⟩)) _) (Or.inr (Or.inr ⟨rfl, by omega⟩)) _) (Or.inl ⟨rfl, rfl⟩) _
def AfO2 (q : Nat × Nat) (I : FI) (m : Nat) (fr fa : Nat → Int32) (M : Nat) (T : Nat → Nat → Int32) (d : Nat) (sem : Nat → Sem) (x z : Int32) : Pst := fun r S' I' L' R' => S' = S0 ∧ R' = R0 q ∧ FrE eH I' I ∧ ∃ v, r = some (.int v) ∧ ((hok x z ∧ M < 5 ∧ v = nI M ∧ RSt I' m fr fa (M + 1) (uT T M (mkT x z 0 50 0)) d sem) ∨ (¬ (hok x z ∧ M < 5) ∧ v < 0 ∧ RSt I' m fr fa M T d sem))
theorem R_houseC {X : En} {L : FL} {q : Nat × Nat} {I : FI} {m : Nat} {fr fa : Nat → Int32} {M : Nat} {T : Nat → Nat → Int32} {d : Nat} {sem : Nat → Sem} (h : RSt I m fr fa M T d sem) (x z : Int32) : Ev X 3 mX8_house (0, 0) [.ref 66, .int x, .int z] S0 I L (R0 q) (AfO2 q I m fr fa M T d sem x z) := by
  by_cases hc : hok x z
  · obtain ⟨k, hk, rfl⟩ := nat_N (x := x) (hi := 5) (h := 5) rfl (by decide) hc.1
    obtain ⟨n, hn, rfl⟩ := nat_N (x := z) (hi := 9) (h := 9) rfl (by decide) hc.2
    by_cases hM : M < 5
    · exact ev_mono (R_house h (k := k) (n := n) (by omega) (by omega) hM) (fun r S' I' L' R' g => by
        obtain ⟨rfl, rfl, rfl, rfl, rfl⟩ := g
        exact ⟨rfl, rfl, house6_fr hM _ _, _, rfl, Or.inl ⟨hc, hM, rfl, h.hous hM (by omega) (by omega)⟩⟩)
    · have h5 : M = 5 := by have := h.M5; omega
      exact ev_mono (R_houseF h (k := k) (n := n) (by omega) (by omega) h5) (fun r S' I' L' R' g => by
        obtain ⟨rfl, rfl, rfl, rfl, rfl⟩ := g
        exact ⟨rfl, rfl, FrE.refl, _, rfl, Or.inr ⟨fun h2 => hM h2.2, by decide, h⟩⟩)
  · exact ev_mono (R_houseB hc) (fun r S' I' L' R' g => by
      obtain ⟨rfl, rfl, rfl, rfl, rfl⟩ := g
      exact ⟨rfl, rfl, FrE.refl, _, rfl, Or.inr ⟨fun h2 => hc h2.1, by decide, h⟩⟩)
theorem fitI {a z k : Nat} (ha : a < 2 ^ 31) (hz : z ≤ 40) (hk : k ≤ 5) : nI a ≤ nI z - nI (2 * k) - 2 ↔ a + 2 * k + 2 ≤ z := by
  rw [Int32.le_iff_toInt_le, Int32.toInt_sub, Int32.toInt_sub, nI_int ha, nI_int (by omega), nI_int (by omega), show (2 : Int32).toInt = 2 from rfl]
  rw [Int.bmod_eq_of_le (n := (z : Int) - ((2 * k : Nat) : Int)) (by omega) (by omega), Int.bmod_eq_of_le (by omega) (by omega)]
  omega
set_option maxRecDepth 100000 in
set_option maxHeartbeats 1000000 in
theorem R_housesA {X : En} {L : FL} {q : Nat × Nat} {I : FI} {m : Nat} {fr fa : Nat → Int32} {M : Nat} {T : Nat → Nat → Int32} {d : Nat} {sem : Nat → Sem} (h : RSt I m fr fa M T d sem) {s z : Nat} (hs : s < 4) (hth : I 78 s = 1) (hz : I 80 s = nI z) (hz40 : z ≤ 40) {so : Int32} (hso : ¬ so < 0 ∧ ¬ 2 < so) (hsort : I 79 s = so) {a n : Nat} (hn : n ≤ 5) (hfit : a + 2 * n ≤ z) : Ev X 4 mX8_houses (0, 0) [.ref 66, .int (nI s), .int so, .int (nI a), .int (nI n)] S0 I L (R0 q) (AfI q (some (.int (nI (hsS (fun q => I 81 (40 * s + a + q)) M T n).2.2))) (fun I' => RSt I' m fr fa (hsS (fun q => I 81 (40 * s + a + q)) M T n).1 (hsS (fun q => I 81 (40 * s + a + q)) M T n).2.1 d sem ∧ FrE eH I' I)) := by
  have loop : ∀ k, k ≤ n → ∀ (I1 : FI), ∀ (L1 : FL), ∀ (o7 : Option Value), (RSt I1 m fr fa (hsS (fun q => I 81 (40 * s + a + q)) M T k).1 (hsS (fun q => I 81 (40 * s + a + q)) M T k).2.1 d sem) → (FrE eH I1 I) → SW X 4 mX8_houses (0, 0) 75 [some (.ref 66), some (.int (nI s)), some (.int so), some (.int (nI a)), some (.int (nI n)), some (.int (nI (hsS (fun q => I 81 (40 * s + a + q)) M T k).2.2)), some (.int (nI k)), o7] [] S0 I1 L1 (R0 q) (KQ X (AfI q (some (.int (nI (hsS (fun q => I 81 (40 * s + a + q)) M T n).2.2))) (fun I' => RSt I' m fr fa (hsS (fun q => I 81 (40 * s + a + q)) M T n).1 (hsS (fun q => I 81 (40 * s + a + q)) M T n).2.1 d sem ∧ FrE eH I' I))) := by
    refine for_up (P := fun k => ∀ (I1 : FI), ∀ (L1 : FL), ∀ (o7 : Option Value), (RSt I1 m fr fa (hsS (fun q => I 81 (40 * s + a + q)) M T k).1 (hsS (fun q => I 81 (40 * s + a + q)) M T k).2.1 d sem) → (FrE eH I1 I) → SW X 4 mX8_houses (0, 0) 75 [some (.ref 66), some (.int (nI s)), some (.int so), some (.int (nI a)), some (.int (nI n)), some (.int (nI (hsS (fun q => I 81 (40 * s + a + q)) M T k).2.2)), some (.int (nI k)), o7] [] S0 I1 L1 (R0 q) (KQ X (AfI q (some (.int (nI (hsS (fun q => I 81 (40 * s + a + q)) M T n).2.2))) (fun I' => RSt I' m fr fa (hsS (fun q => I 81 (40 * s + a + q)) M T n).1 (hsS (fun q => I 81 (40 * s + a + q)) M T n).2.1 d sem ∧ FrE eH I' I)))) n ?_ ?_
    · intro I1 L1 o7 hi hi1
      refine s_iload (tb_ok aX8_houses_1 17 rfl) rfl ?_
      refine s_iload (tb_ok aX8_houses_1 18 rfl) rfl ?_
      refine s_icmp_ge (tgt := 158) (tb_ok aX8_houses_1 19 rfl) (by decide) (fun c79 => ?_) (fun c79 => ?_)
      · refine s_iload (tb_ok aX8_houses_3 19 rfl) rfl ?_
        refine s_iret (tb_ok aX8_houses_3 20 rfl) rfl ?_
        exact ⟨rfl, rfl, rfl, hi, hi1⟩
      · simp (disch := omega) only [nI_ltI, nI_leI, nI_eq] at c79
        omega
    · intro k hk ih I1 L1 o7 hi hi1
      refine s_iload (tb_ok aX8_houses_1 17 rfl) rfl ?_
      refine s_iload (tb_ok aX8_houses_1 18 rfl) rfl ?_
      refine s_icmp_ge (tgt := 158) (tb_ok aX8_houses_1 19 rfl) (by decide) (fun c79 => ?_) (fun c79 => ?_)
      · simp (disch := omega) only [nI_ltI, nI_leI, nI_eq] at c79
        omega
      · refine s_iload_n (tb_ok aX8_houses_1 20 rfl) rfl ?_
        refine s_if_lt (tgt := 103) (tb_ok aX8_houses_1 21 rfl) (by decide) (fun c83 => ?_) (fun c83 => ?_)
        · exact absurd c83 (nI_pos (by omega))
        · refine s_iload_n (tb_ok aX8_houses_1 22 rfl) rfl ?_
          refine s_aload_n (tb_ok aX8_houses_1 23 rfl) rfl ?_
          refine s_getR (r := 80) (tb_ok aX8_houses_2 0 rfl) f_RX8_57 rfl rfl rfl ?_
          refine s_iload_n (tb_ok aX8_houses_2 1 rfl) rfl ?_
          refine s_ialdX (x := (nI z)) (tb_ok aX8_houses_2 2 rfl) rfl (by omega) (by decide) ((hi1 80 _ (fun e => by rcases e with ⟨e, _⟩ | e | ⟨e, _⟩ <;> omega)).trans hz) ?_
          refine s_iconst (v := 2) (tb_ok aX8_houses_2 3 rfl) (by decide) ?_
          refine s_iload (tb_ok aX8_houses_2 4 rfl) rfl ?_
          refine s_imul (tb_ok aX8_houses_2 5 rfl) ?_
          refine s_topi (z := (nI (2 * k))) (nI_mul 2 k) ?_
          refine s_isub (tb_ok aX8_houses_2 6 rfl) ?_
          refine s_iconst (v := 2) (tb_ok aX8_houses_2 7 rfl) (by decide) ?_
          refine s_isub (tb_ok aX8_houses_2 8 rfl) ?_
          refine s_icmp_le (tgt := 106) (tb_ok aX8_houses_2 9 rfl) (by decide) (fun c100 => ?_) (fun c100 => ?_)
          · refine s_bipush (v := 40) (tb_ok aX8_houses_2 12 rfl) (by decide) ?_
            refine s_iload_n (tb_ok aX8_houses_2 13 rfl) rfl ?_
            refine s_imul (tb_ok aX8_houses_2 14 rfl) ?_
            refine s_topi (z := (nI (40 * s))) (nI_mul 40 s) ?_
            refine s_iload_n (tb_ok aX8_houses_2 15 rfl) rfl ?_
            refine s_iadd (tb_ok aX8_houses_2 16 rfl) ?_
            refine s_topi (z := (nI (40 * s + a))) (nI_add' (40 * s) a) ?_
            refine s_iconst (v := 2) (tb_ok aX8_houses_2 17 rfl) (by decide) ?_
            refine s_iload (tb_ok aX8_houses_2 18 rfl) rfl ?_
            refine s_imul (tb_ok aX8_houses_2 19 rfl) ?_
            refine s_topi (z := (nI (2 * k))) (nI_mul 2 k) ?_
            refine s_iadd (tb_ok aX8_houses_2 20 rfl) ?_
            refine s_topi (z := (nI (40 * s + a + 2 * k))) (nI_add' (40 * s + a) (2 * k)) ?_
            refine s_istore (ls' := [some (.ref 66), some (.int (nI s)), some (.int so), some (.int (nI a)), some (.int (nI n)), some (.int (nI (hsS (fun q => I 81 (40 * s + a + q)) M T k).2.2)), some (.int (nI k)), some (.int (nI (40 * s + a + 2 * k)))]) (tb_ok aX8_houses_2 21 rfl) rfl rfl ?_
            refine s_iload (tb_ok aX8_houses_2 22 rfl) rfl ?_
            refine s_aload_n (tb_ok aX8_houses_2 23 rfl) rfl ?_
            refine s_aload_n (tb_ok aX8_houses_3 0 rfl) rfl ?_
            refine s_getR (r := 81) (tb_ok aX8_houses_3 1 rfl) f_RX8_60 rfl rfl rfl ?_
            refine s_iload (tb_ok aX8_houses_3 2 rfl) rfl ?_
            refine s_ialdX (x := (I 81 (40 * s + a + 2 * k))) (tb_ok aX8_houses_3 3 rfl) rfl (by omega) (by decide) (hi1 81 _ (fun e => by rcases e with ⟨e, _⟩ | e | ⟨e, _⟩ <;> omega)) ?_
            refine s_aload_n (tb_ok aX8_houses_3 4 rfl) rfl ?_
            refine s_getR (r := 81) (tb_ok aX8_houses_3 5 rfl) f_RX8_60 rfl rfl rfl ?_
            refine s_iload (tb_ok aX8_houses_3 6 rfl) rfl ?_
            refine s_iconst (v := 1) (tb_ok aX8_houses_3 7 rfl) (by decide) ?_
            refine s_iadd (tb_ok aX8_houses_3 8 rfl) ?_
            refine s_topi (z := (nI (40 * s + a + (2 * k + 1)))) (nI_add' (40 * s + a + 2 * k) 1) ?_
            refine s_ialdX (x := (I 81 (40 * s + a + (2 * k + 1)))) (tb_ok aX8_houses_3 9 rfl) rfl (by omega) (by decide) (hi1 81 _ (fun e => by rcases e with ⟨e, _⟩ | e | ⟨e, _⟩ <;> omega)) ?_
            refine s_cV (as := [.int (I 81 (40 * s + a + 2 * k)), .int (I 81 (40 * s + a + (2 * k + 1)))]) (tb_ok aX8_houses_3 10 rfl) v_RX8_448 (R_houseC hi _ _) (by decide) rfl rfl rfl rfl rfl (Nat.le_of_ble_eq_true rfl) (by decide) (fun r1 S1 I1 L1 R1 q1 => ?_)
            obtain ⟨rfl, rfl, hfh, v0, rfl, hh⟩ := q1
            refine s_if_lt (tgt := 148) (tb_ok aX8_houses_3 11 rfl) (by decide) (fun c141 => ?_) (fun c141 => ?_)
            · refine s_iconst (v := 0) (tb_ok aX8_houses_3 14 rfl) (by decide) ?_
              refine s_iadd (tb_ok aX8_houses_3 15 rfl) ?_
              refine s_topi (z := (nI ((hsS (fun q => I 81 (40 * s + a + q)) M T k).2.2 + 0))) (nI_add' ((hsS (fun q => I 81 (40 * s + a + q)) M T k).2.2) 0) ?_
              refine s_name (fun x1 ex1 => ?_)
              refine s_istore (ls' := [some (.ref 66), some (.int (nI s)), some (.int so), some (.int (nI a)), some (.int (nI n)), some (.int x1), some (.int (nI k)), some (.int (nI (40 * s + a + 2 * k)))]) (tb_ok aX8_houses_3 16 rfl) rfl rfl ?_
              refine s_iinc (v := nI (k + 1)) (ls' := [some (.ref 66), some (.int (nI s)), some (.int so), some (.int (nI a)), some (.int (nI n)), some (.int x1), some (.int (nI (k + 1))), some (.int (nI (40 * s + a + 2 * k)))]) (tb_ok aX8_houses_3 17 rfl) rfl (nI_1 _) rfl rfl ?_
              refine s_goto (tgt := 75) (tb_ok aX8_houses_3 18 rfl) (by decide) ?_
              rcases hh with ⟨h1, h2, h3, h4⟩ | ⟨h1, h2, h4⟩
              · rw [h3] at c141; exact absurd c141 (nI_pos (by omega))
              · have e_ : (hsS (fun q => I 81 (40 * s + a + q)) M T (k + 1)) = (hsS (fun q => I 81 (40 * s + a + q)) M T k) := if_neg h1
                subst ex1
                refine s_ls ?_ (ih _ _ (some (.int (nI (40 * s + a + 2 * k)))) ?_ (hfh.trans hi1))
                · simp only [e_, Nat.add_zero]
                · rw [e_]; exact h4
            · refine s_iconst (v := 1) (tb_ok aX8_houses_3 12 rfl) (by decide) ?_
              refine s_goto (tgt := 149) (tb_ok aX8_houses_3 13 rfl) (by decide) ?_
              refine s_iadd (tb_ok aX8_houses_3 15 rfl) ?_
              refine s_topi (z := (nI ((hsS (fun q => I 81 (40 * s + a + q)) M T k).2.2 + 1))) (nI_add' ((hsS (fun q => I 81 (40 * s + a + q)) M T k).2.2) 1) ?_
              refine s_name (fun x2 ex2 => ?_)
              refine s_istore (ls' := [some (.ref 66), some (.int (nI s)), some (.int so), some (.int (nI a)), some (.int (nI n)), some (.int x2), some (.int (nI k)), some (.int (nI (40 * s + a + 2 * k)))]) (tb_ok aX8_houses_3 16 rfl) rfl rfl ?_
              refine s_iinc (v := nI (k + 1)) (ls' := [some (.ref 66), some (.int (nI s)), some (.int so), some (.int (nI a)), some (.int (nI n)), some (.int x2), some (.int (nI (k + 1))), some (.int (nI (40 * s + a + 2 * k)))]) (tb_ok aX8_houses_3 17 rfl) rfl (nI_1 _) rfl rfl ?_
              refine s_goto (tgt := 75) (tb_ok aX8_houses_3 18 rfl) (by decide) ?_
              rcases hh with ⟨h1, h2, h3, h4⟩ | ⟨h1, h2, h4⟩
              · have e_ : (hsS (fun q => I 81 (40 * s + a + q)) M T (k + 1)) = ((hsS (fun q => I 81 (40 * s + a + q)) M T k).1 + 1, uT (hsS (fun q => I 81 (40 * s + a + q)) M T k).2.1 (hsS (fun q => I 81 (40 * s + a + q)) M T k).1 (mkT ((fun q => I 81 (40 * s + a + q)) (2 * k)) ((fun q => I 81 (40 * s + a + q)) (2 * k + 1)) 0 50 0), (hsS (fun q => I 81 (40 * s + a + q)) M T k).2.2 + 1) := if_pos ⟨h1, h2⟩
                subst ex2
                refine s_ls ?_ (ih _ _ (some (.int (nI (40 * s + a + 2 * k)))) ?_ (hfh.trans hi1))
                · simp only [e_]
                · rw [e_]; exact h4
              · exact absurd h2 c141
          · exact absurd ((fitI (by omega) hz40 (by omega)).mpr (by omega)) c100
  refine ev_of (by decide +kernel) rfl ?_
  show SW X _ _ _ 0 [some (.ref 66), some (.int (nI s)), some (.int so), some (.int (nI a)), some (.int (nI n)), none, none, none] [] S0 I L (R0 q) _
  refine s_iload_n (tb_ok aX8_houses_0 0 rfl) rfl ?_
  refine s_cSp (as := [.int (nI s)]) (tb_ok aX8_houses_0 1 rfl) v_RX8_413 (R_isSheet _) (by decide) rfl rfl (Nat.le_of_ble_eq_true rfl) ?_
  refine s_topi (bI_t (inN (n := s) (hi := 3) (by omega) (by decide))) ?_
  refine s_if_eq (tgt := 32) (tb_ok aX8_houses_0 2 rfl) (by decide) (fun c4 => ?_) (fun c4 => ?_)
  · exact absurd c4 (by decide)
  · refine s_iload_n (tb_ok aX8_houses_0 3 rfl) rfl ?_
    refine s_i2l (tb_ok aX8_houses_0 4 rfl) ?_
    refine s_lconst (v := 0) (tb_ok aX8_houses_0 5 rfl) (by decide) ?_
    refine s_ldc2 (tb_ok aX8_houses_0 6 rfl) k_RX8_352 ?_
    refine s_cSp (as := [_, .long (0), .long (2)]) (tb_ok aX8_houses_0 7 rfl) v_RX8_73 (R_in _ _ _) (by decide) rfl rfl (Nat.le_of_ble_eq_true rfl) ?_
    refine s_topi (bI_t ((in_iff (lo := 0) (hi := 2) rfl (by decide) (by decide)).mpr hso)) ?_
    refine s_if_eq (tgt := 32) (tb_ok aX8_houses_0 8 rfl) (by decide) (fun c16 => ?_) (fun c16 => ?_)
    · exact absurd c16 (by decide)
    · refine s_iload (tb_ok aX8_houses_0 9 rfl) rfl ?_
      refine s_i2l (tb_ok aX8_houses_0 10 rfl) ?_
      refine s_lconst (v := 0) (tb_ok aX8_houses_0 11 rfl) (by decide) ?_
      refine s_ldc2 (tb_ok aX8_houses_0 12 rfl) k_RX8_111 ?_
      refine s_cSp (as := [_, .long (0), .long (5)]) (tb_ok aX8_houses_0 13 rfl) v_RX8_73 (R_in _ _ _) (by decide) rfl rfl (Nat.le_of_ble_eq_true rfl) ?_
      refine s_topi (bI_t ((in_iff (x := nI n) (lo := 0) (hi := 5) rfl (by decide) (by decide)).mpr (inN (hi := 5) hn (by decide)))) ?_
      refine s_if_ne (tgt := 35) (tb_ok aX8_houses_0 14 rfl) (by decide) (fun c29 => ?_) (fun c29 => ?_)
      · refine s_aload_n (tb_ok aX8_houses_0 17 rfl) rfl ?_
        refine s_getR (r := 78) (tb_ok aX8_houses_0 18 rfl) f_RX8_50 rfl rfl rfl ?_
        refine s_iload_n (tb_ok aX8_houses_0 19 rfl) rfl ?_
        refine s_bald (x := (1)) (tb_ok aX8_houses_0 20 rfl) rfl (lw_in hs (by decide)) (by rw [nI_clamp (by omega)]; exact hth) ?_
        refine s_if_eq (tgt := 57) (tb_ok aX8_houses_0 21 rfl) (by decide) (fun c41 => ?_) (fun c41 => ?_)
        · exact absurd c41 (by decide)
        · refine s_aload_n (tb_ok aX8_houses_0 22 rfl) rfl ?_
          refine s_getR (r := 79) (tb_ok aX8_houses_0 23 rfl) f_RX8_54 rfl rfl rfl ?_
          refine s_iload_n (tb_ok aX8_houses_1 0 rfl) rfl ?_
          refine s_ialdX (x := so) (tb_ok aX8_houses_1 1 rfl) rfl (by omega) (by decide) hsort ?_
          refine s_iload_n (tb_ok aX8_houses_1 2 rfl) rfl ?_
          refine s_icmp_eq (tgt := 57) (tb_ok aX8_houses_1 3 rfl) (by decide) (fun c51 => ?_) (fun c51 => ?_)
          · refine s_aload_n (tb_ok aX8_houses_1 6 rfl) rfl ?_
            refine s_getR (r := 78) (tb_ok aX8_houses_1 7 rfl) f_RX8_50 rfl rfl rfl ?_
            refine s_iload_n (tb_ok aX8_houses_1 8 rfl) rfl ?_
            refine s_bald (x := (1)) (tb_ok aX8_houses_1 9 rfl) rfl (lw_in hs (by decide)) (by rw [nI_clamp (by omega)]; exact hth) ?_
            refine s_if_ne (tgt := 69) (tb_ok aX8_houses_1 10 rfl) (by decide) (fun c63 => ?_) (fun c63 => ?_)
            · refine s_iconst (v := nI 0) (tb_ok aX8_houses_1 13 rfl) (by decide) ?_
              refine s_istore (ls' := [some (.ref 66), some (.int (nI s)), some (.int so), some (.int (nI a)), some (.int (nI n)), some (.int (nI 0)), none, none]) (tb_ok aX8_houses_1 14 rfl) rfl rfl ?_
              refine s_iconst (v := nI 0) (tb_ok aX8_houses_1 15 rfl) (by decide) ?_
              refine s_istore (ls' := [some (.ref 66), some (.int (nI s)), some (.int so), some (.int (nI a)), some (.int (nI n)), some (.int (nI 0)), some (.int (nI 0)), none]) (tb_ok aX8_houses_1 16 rfl) rfl rfl ?_
              exact loop 0 (Nat.zero_le _) _ _ _ h FrE.refl
            · exact absurd c63 (by decide)
          · exact absurd rfl c51
      · exact absurd c29 (by decide)

set_option maxRecDepth 100000 in
set_option maxHeartbeats 1000000 in
theorem R_housesO {X : En} {L : FL} {q : Nat × Nat} {I : FI} {m : Nat} {fr fa : Nat → Int32} {M : Nat} {T : Nat → Nat → Int32} {d : Nat} {sem : Nat → Sem} (h : RSt I m fr fa M T d sem) {s z : Nat} (hs : s < 4) (hth : I 78 s = 1) (hz : I 80 s = nI z) (hz40 : z ≤ 40) {so : Int32} (hso : ¬ so < 0 ∧ ¬ 2 < so) (hsort : I 79 s = so) {a n : Nat} (hn : n ≤ 5) {K : Nat} (hK : K < n) (ha : a < 2 ^ 31) (hfit : 0 < K → a + 2 * K ≤ z) (hout : z < a + 2 * K + 2) : Ev X 4 mX8_houses (0, 0) [.ref 66, .int (nI s), .int so, .int (nI a), .int (nI n)] S0 I L (R0 q) (AfI q (some (.int (-12))) (fun I' => RSt I' m fr fa (hsS (fun q => I 81 (40 * s + a + q)) M T K).1 (hsS (fun q => I 81 (40 * s + a + q)) M T K).2.1 d sem ∧ FrE eH I' I)) := by
  have loop : ∀ k, k ≤ K → ∀ (I1 : FI), ∀ (L1 : FL), ∀ (o7 : Option Value), (RSt I1 m fr fa (hsS (fun q => I 81 (40 * s + a + q)) M T k).1 (hsS (fun q => I 81 (40 * s + a + q)) M T k).2.1 d sem) → (FrE eH I1 I) → SW X 4 mX8_houses (0, 0) 75 [some (.ref 66), some (.int (nI s)), some (.int so), some (.int (nI a)), some (.int (nI n)), some (.int (nI (hsS (fun q => I 81 (40 * s + a + q)) M T k).2.2)), some (.int (nI k)), o7] [] S0 I1 L1 (R0 q) (KQ X (AfI q (some (.int (-12))) (fun I' => RSt I' m fr fa (hsS (fun q => I 81 (40 * s + a + q)) M T K).1 (hsS (fun q => I 81 (40 * s + a + q)) M T K).2.1 d sem ∧ FrE eH I' I))) := by
    refine for_up (P := fun k => ∀ (I1 : FI), ∀ (L1 : FL), ∀ (o7 : Option Value), (RSt I1 m fr fa (hsS (fun q => I 81 (40 * s + a + q)) M T k).1 (hsS (fun q => I 81 (40 * s + a + q)) M T k).2.1 d sem) → (FrE eH I1 I) → SW X 4 mX8_houses (0, 0) 75 [some (.ref 66), some (.int (nI s)), some (.int so), some (.int (nI a)), some (.int (nI n)), some (.int (nI (hsS (fun q => I 81 (40 * s + a + q)) M T k).2.2)), some (.int (nI k)), o7] [] S0 I1 L1 (R0 q) (KQ X (AfI q (some (.int (-12))) (fun I' => RSt I' m fr fa (hsS (fun q => I 81 (40 * s + a + q)) M T K).1 (hsS (fun q => I 81 (40 * s + a + q)) M T K).2.1 d sem ∧ FrE eH I' I)))) K ?_ ?_
    · intro I1 L1 o7 hi hi1
      refine s_iload (tb_ok aX8_houses_1 17 rfl) rfl ?_
      refine s_iload (tb_ok aX8_houses_1 18 rfl) rfl ?_
      refine s_icmp_ge (tgt := 158) (tb_ok aX8_houses_1 19 rfl) (by decide) (fun c79 => ?_) (fun c79 => ?_)
      · simp (disch := omega) only [nI_ltI, nI_leI, nI_eq] at c79
        omega
      · refine s_iload_n (tb_ok aX8_houses_1 20 rfl) rfl ?_
        refine s_if_lt (tgt := 103) (tb_ok aX8_houses_1 21 rfl) (by decide) (fun c83 => ?_) (fun c83 => ?_)
        · exact absurd c83 (nI_pos ha)
        · refine s_iload_n (tb_ok aX8_houses_1 22 rfl) rfl ?_
          refine s_aload_n (tb_ok aX8_houses_1 23 rfl) rfl ?_
          refine s_getR (r := 80) (tb_ok aX8_houses_2 0 rfl) f_RX8_57 rfl rfl rfl ?_
          refine s_iload_n (tb_ok aX8_houses_2 1 rfl) rfl ?_
          refine s_ialdX (x := (nI z)) (tb_ok aX8_houses_2 2 rfl) rfl (by omega) (by decide) ((hi1 80 _ (fun e => by rcases e with ⟨e, _⟩ | e | ⟨e, _⟩ <;> omega)).trans hz) ?_
          refine s_iconst (v := 2) (tb_ok aX8_houses_2 3 rfl) (by decide) ?_
          refine s_iload (tb_ok aX8_houses_2 4 rfl) rfl ?_
          refine s_imul (tb_ok aX8_houses_2 5 rfl) ?_
          refine s_topi (z := (nI (2 * K))) (nI_mul 2 K) ?_
          refine s_isub (tb_ok aX8_houses_2 6 rfl) ?_
          refine s_iconst (v := 2) (tb_ok aX8_houses_2 7 rfl) (by decide) ?_
          refine s_isub (tb_ok aX8_houses_2 8 rfl) ?_
          refine s_icmp_le (tgt := 106) (tb_ok aX8_houses_2 9 rfl) (by decide) (fun c100 => ?_) (fun c100 => ?_)
          · have := (fitI ha hz40 (by omega)).mp c100
            omega
          · refine s_bipush (v := -12) (tb_ok aX8_houses_2 10 rfl) (by decide) ?_
            refine s_iret (tb_ok aX8_houses_2 11 rfl) rfl ?_
            exact ⟨rfl, rfl, rfl, hi, hi1⟩
    · intro k hk ih I1 L1 o7 hi hi1
      refine s_iload (tb_ok aX8_houses_1 17 rfl) rfl ?_
      refine s_iload (tb_ok aX8_houses_1 18 rfl) rfl ?_
      refine s_icmp_ge (tgt := 158) (tb_ok aX8_houses_1 19 rfl) (by decide) (fun c79 => ?_) (fun c79 => ?_)
      · simp (disch := omega) only [nI_ltI, nI_leI, nI_eq] at c79
        omega
      · refine s_iload_n (tb_ok aX8_houses_1 20 rfl) rfl ?_
        refine s_if_lt (tgt := 103) (tb_ok aX8_houses_1 21 rfl) (by decide) (fun c83 => ?_) (fun c83 => ?_)
        · exact absurd c83 (nI_pos (by omega))
        · refine s_iload_n (tb_ok aX8_houses_1 22 rfl) rfl ?_
          refine s_aload_n (tb_ok aX8_houses_1 23 rfl) rfl ?_
          refine s_getR (r := 80) (tb_ok aX8_houses_2 0 rfl) f_RX8_57 rfl rfl rfl ?_
          refine s_iload_n (tb_ok aX8_houses_2 1 rfl) rfl ?_
          refine s_ialdX (x := (nI z)) (tb_ok aX8_houses_2 2 rfl) rfl (by omega) (by decide) ((hi1 80 _ (fun e => by rcases e with ⟨e, _⟩ | e | ⟨e, _⟩ <;> omega)).trans hz) ?_
          refine s_iconst (v := 2) (tb_ok aX8_houses_2 3 rfl) (by decide) ?_
          refine s_iload (tb_ok aX8_houses_2 4 rfl) rfl ?_
          refine s_imul (tb_ok aX8_houses_2 5 rfl) ?_
          refine s_topi (z := (nI (2 * k))) (nI_mul 2 k) ?_
          refine s_isub (tb_ok aX8_houses_2 6 rfl) ?_
          refine s_iconst (v := 2) (tb_ok aX8_houses_2 7 rfl) (by decide) ?_
          refine s_isub (tb_ok aX8_houses_2 8 rfl) ?_
          refine s_icmp_le (tgt := 106) (tb_ok aX8_houses_2 9 rfl) (by decide) (fun c100 => ?_) (fun c100 => ?_)
          · refine s_bipush (v := 40) (tb_ok aX8_houses_2 12 rfl) (by decide) ?_
            refine s_iload_n (tb_ok aX8_houses_2 13 rfl) rfl ?_
            refine s_imul (tb_ok aX8_houses_2 14 rfl) ?_
            refine s_topi (z := (nI (40 * s))) (nI_mul 40 s) ?_
            refine s_iload_n (tb_ok aX8_houses_2 15 rfl) rfl ?_
            refine s_iadd (tb_ok aX8_houses_2 16 rfl) ?_
            refine s_topi (z := (nI (40 * s + a))) (nI_add' (40 * s) a) ?_
            refine s_iconst (v := 2) (tb_ok aX8_houses_2 17 rfl) (by decide) ?_
            refine s_iload (tb_ok aX8_houses_2 18 rfl) rfl ?_
            refine s_imul (tb_ok aX8_houses_2 19 rfl) ?_
            refine s_topi (z := (nI (2 * k))) (nI_mul 2 k) ?_
            refine s_iadd (tb_ok aX8_houses_2 20 rfl) ?_
            refine s_topi (z := (nI (40 * s + a + 2 * k))) (nI_add' (40 * s + a) (2 * k)) ?_
            refine s_istore (ls' := [some (.ref 66), some (.int (nI s)), some (.int so), some (.int (nI a)), some (.int (nI n)), some (.int (nI (hsS (fun q => I 81 (40 * s + a + q)) M T k).2.2)), some (.int (nI k)), some (.int (nI (40 * s + a + 2 * k)))]) (tb_ok aX8_houses_2 21 rfl) rfl rfl ?_
            refine s_iload (tb_ok aX8_houses_2 22 rfl) rfl ?_
            refine s_aload_n (tb_ok aX8_houses_2 23 rfl) rfl ?_
            refine s_aload_n (tb_ok aX8_houses_3 0 rfl) rfl ?_
            refine s_getR (r := 81) (tb_ok aX8_houses_3 1 rfl) f_RX8_60 rfl rfl rfl ?_
            refine s_iload (tb_ok aX8_houses_3 2 rfl) rfl ?_
            refine s_ialdX (x := (I 81 (40 * s + a + 2 * k))) (tb_ok aX8_houses_3 3 rfl) rfl (by omega) (by decide) (hi1 81 _ (fun e => by rcases e with ⟨e, _⟩ | e | ⟨e, _⟩ <;> omega)) ?_
            refine s_aload_n (tb_ok aX8_houses_3 4 rfl) rfl ?_
            refine s_getR (r := 81) (tb_ok aX8_houses_3 5 rfl) f_RX8_60 rfl rfl rfl ?_
            refine s_iload (tb_ok aX8_houses_3 6 rfl) rfl ?_
            refine s_iconst (v := 1) (tb_ok aX8_houses_3 7 rfl) (by decide) ?_
            refine s_iadd (tb_ok aX8_houses_3 8 rfl) ?_
            refine s_topi (z := (nI (40 * s + a + (2 * k + 1)))) (nI_add' (40 * s + a + 2 * k) 1) ?_
            refine s_ialdX (x := (I 81 (40 * s + a + (2 * k + 1)))) (tb_ok aX8_houses_3 9 rfl) rfl (by omega) (by decide) (hi1 81 _ (fun e => by rcases e with ⟨e, _⟩ | e | ⟨e, _⟩ <;> omega)) ?_
            refine s_cV (as := [.int (I 81 (40 * s + a + 2 * k)), .int (I 81 (40 * s + a + (2 * k + 1)))]) (tb_ok aX8_houses_3 10 rfl) v_RX8_448 (R_houseC hi _ _) (by decide) rfl rfl rfl rfl rfl (Nat.le_of_ble_eq_true rfl) (by decide) (fun r1 S1 I1 L1 R1 q1 => ?_)
            obtain ⟨rfl, rfl, hfh, v0, rfl, hh⟩ := q1
            refine s_if_lt (tgt := 148) (tb_ok aX8_houses_3 11 rfl) (by decide) (fun c141 => ?_) (fun c141 => ?_)
            · refine s_iconst (v := 0) (tb_ok aX8_houses_3 14 rfl) (by decide) ?_
              refine s_iadd (tb_ok aX8_houses_3 15 rfl) ?_
              refine s_topi (z := (nI ((hsS (fun q => I 81 (40 * s + a + q)) M T k).2.2 + 0))) (nI_add' ((hsS (fun q => I 81 (40 * s + a + q)) M T k).2.2) 0) ?_
              refine s_name (fun x1 ex1 => ?_)
              refine s_istore (ls' := [some (.ref 66), some (.int (nI s)), some (.int so), some (.int (nI a)), some (.int (nI n)), some (.int x1), some (.int (nI k)), some (.int (nI (40 * s + a + 2 * k)))]) (tb_ok aX8_houses_3 16 rfl) rfl rfl ?_
              refine s_iinc (v := nI (k + 1)) (ls' := [some (.ref 66), some (.int (nI s)), some (.int so), some (.int (nI a)), some (.int (nI n)), some (.int x1), some (.int (nI (k + 1))), some (.int (nI (40 * s + a + 2 * k)))]) (tb_ok aX8_houses_3 17 rfl) rfl (nI_1 _) rfl rfl ?_
              refine s_goto (tgt := 75) (tb_ok aX8_houses_3 18 rfl) (by decide) ?_
              rcases hh with ⟨h1, h2, h3, h4⟩ | ⟨h1, h2, h4⟩
              · rw [h3] at c141; exact absurd c141 (nI_pos (by omega))
              · have e_ : (hsS (fun q => I 81 (40 * s + a + q)) M T (k + 1)) = (hsS (fun q => I 81 (40 * s + a + q)) M T k) := if_neg h1
                subst ex1
                refine s_ls ?_ (ih _ _ (some (.int (nI (40 * s + a + 2 * k)))) ?_ (hfh.trans hi1))
                · simp only [e_, Nat.add_zero]
                · rw [e_]; exact h4
            · refine s_iconst (v := 1) (tb_ok aX8_houses_3 12 rfl) (by decide) ?_
              refine s_goto (tgt := 149) (tb_ok aX8_houses_3 13 rfl) (by decide) ?_
              refine s_iadd (tb_ok aX8_houses_3 15 rfl) ?_
              refine s_topi (z := (nI ((hsS (fun q => I 81 (40 * s + a + q)) M T k).2.2 + 1))) (nI_add' ((hsS (fun q => I 81 (40 * s + a + q)) M T k).2.2) 1) ?_
              refine s_name (fun x2 ex2 => ?_)
              refine s_istore (ls' := [some (.ref 66), some (.int (nI s)), some (.int so), some (.int (nI a)), some (.int (nI n)), some (.int x2), some (.int (nI k)), some (.int (nI (40 * s + a + 2 * k)))]) (tb_ok aX8_houses_3 16 rfl) rfl rfl ?_
              refine s_iinc (v := nI (k + 1)) (ls' := [some (.ref 66), some (.int (nI s)), some (.int so), some (.int (nI a)), some (.int (nI n)), some (.int x2), some (.int (nI (k + 1))), some (.int (nI (40 * s + a + 2 * k)))]) (tb_ok aX8_houses_3 17 rfl) rfl (nI_1 _) rfl rfl ?_
              refine s_goto (tgt := 75) (tb_ok aX8_houses_3 18 rfl) (by decide) ?_
              rcases hh with ⟨h1, h2, h3, h4⟩ | ⟨h1, h2, h4⟩
              · have e_ : (hsS (fun q => I 81 (40 * s + a + q)) M T (k + 1)) = ((hsS (fun q => I 81 (40 * s + a + q)) M T k).1 + 1, uT (hsS (fun q => I 81 (40 * s + a + q)) M T k).2.1 (hsS (fun q => I 81 (40 * s + a + q)) M T k).1 (mkT ((fun q => I 81 (40 * s + a + q)) (2 * k)) ((fun q => I 81 (40 * s + a + q)) (2 * k + 1)) 0 50 0), (hsS (fun q => I 81 (40 * s + a + q)) M T k).2.2 + 1) := if_pos ⟨h1, h2⟩
                subst ex2
                refine s_ls ?_ (ih _ _ (some (.int (nI (40 * s + a + 2 * k)))) ?_ (hfh.trans hi1))
                · simp only [e_]
                · rw [e_]; exact h4
              · exact absurd h2 c141
          · exact absurd ((fitI (by omega) hz40 (by omega)).mpr (by omega)) c100
  refine ev_of (by decide +kernel) rfl ?_
  show SW X _ _ _ 0 [some (.ref 66), some (.int (nI s)), some (.int so), some (.int (nI a)), some (.int (nI n)), none, none, none] [] S0 I L (R0 q) _
  refine s_iload_n (tb_ok aX8_houses_0 0 rfl) rfl ?_
  refine s_cSp (as := [.int (nI s)]) (tb_ok aX8_houses_0 1 rfl) v_RX8_413 (R_isSheet _) (by decide) rfl rfl (Nat.le_of_ble_eq_true rfl) ?_
  refine s_topi (bI_t (inN (n := s) (hi := 3) (by omega) (by decide))) ?_
  refine s_if_eq (tgt := 32) (tb_ok aX8_houses_0 2 rfl) (by decide) (fun c4 => ?_) (fun c4 => ?_)
  · exact absurd c4 (by decide)
  · refine s_iload_n (tb_ok aX8_houses_0 3 rfl) rfl ?_
    refine s_i2l (tb_ok aX8_houses_0 4 rfl) ?_
    refine s_lconst (v := 0) (tb_ok aX8_houses_0 5 rfl) (by decide) ?_
    refine s_ldc2 (tb_ok aX8_houses_0 6 rfl) k_RX8_352 ?_
    refine s_cSp (as := [_, .long (0), .long (2)]) (tb_ok aX8_houses_0 7 rfl) v_RX8_73 (R_in _ _ _) (by decide) rfl rfl (Nat.le_of_ble_eq_true rfl) ?_
    refine s_topi (bI_t ((in_iff (lo := 0) (hi := 2) rfl (by decide) (by decide)).mpr hso)) ?_
    refine s_if_eq (tgt := 32) (tb_ok aX8_houses_0 8 rfl) (by decide) (fun c16 => ?_) (fun c16 => ?_)
    · exact absurd c16 (by decide)
    · refine s_iload (tb_ok aX8_houses_0 9 rfl) rfl ?_
      refine s_i2l (tb_ok aX8_houses_0 10 rfl) ?_
      refine s_lconst (v := 0) (tb_ok aX8_houses_0 11 rfl) (by decide) ?_
      refine s_ldc2 (tb_ok aX8_houses_0 12 rfl) k_RX8_111 ?_
      refine s_cSp (as := [_, .long (0), .long (5)]) (tb_ok aX8_houses_0 13 rfl) v_RX8_73 (R_in _ _ _) (by decide) rfl rfl (Nat.le_of_ble_eq_true rfl) ?_
      refine s_topi (bI_t ((in_iff (x := nI n) (lo := 0) (hi := 5) rfl (by decide) (by decide)).mpr (inN (hi := 5) hn (by decide)))) ?_
      refine s_if_ne (tgt := 35) (tb_ok aX8_houses_0 14 rfl) (by decide) (fun c29 => ?_) (fun c29 => ?_)
      · refine s_aload_n (tb_ok aX8_houses_0 17 rfl) rfl ?_
        refine s_getR (r := 78) (tb_ok aX8_houses_0 18 rfl) f_RX8_50 rfl rfl rfl ?_
        refine s_iload_n (tb_ok aX8_houses_0 19 rfl) rfl ?_
        refine s_bald (x := (1)) (tb_ok aX8_houses_0 20 rfl) rfl (lw_in hs (by decide)) (by rw [nI_clamp (by omega)]; exact hth) ?_
        refine s_if_eq (tgt := 57) (tb_ok aX8_houses_0 21 rfl) (by decide) (fun c41 => ?_) (fun c41 => ?_)
        · exact absurd c41 (by decide)
        · refine s_aload_n (tb_ok aX8_houses_0 22 rfl) rfl ?_
          refine s_getR (r := 79) (tb_ok aX8_houses_0 23 rfl) f_RX8_54 rfl rfl rfl ?_
          refine s_iload_n (tb_ok aX8_houses_1 0 rfl) rfl ?_
          refine s_ialdX (x := so) (tb_ok aX8_houses_1 1 rfl) rfl (by omega) (by decide) hsort ?_
          refine s_iload_n (tb_ok aX8_houses_1 2 rfl) rfl ?_
          refine s_icmp_eq (tgt := 57) (tb_ok aX8_houses_1 3 rfl) (by decide) (fun c51 => ?_) (fun c51 => ?_)
          · refine s_aload_n (tb_ok aX8_houses_1 6 rfl) rfl ?_
            refine s_getR (r := 78) (tb_ok aX8_houses_1 7 rfl) f_RX8_50 rfl rfl rfl ?_
            refine s_iload_n (tb_ok aX8_houses_1 8 rfl) rfl ?_
            refine s_bald (x := (1)) (tb_ok aX8_houses_1 9 rfl) rfl (lw_in hs (by decide)) (by rw [nI_clamp (by omega)]; exact hth) ?_
            refine s_if_ne (tgt := 69) (tb_ok aX8_houses_1 10 rfl) (by decide) (fun c63 => ?_) (fun c63 => ?_)
            · refine s_iconst (v := nI 0) (tb_ok aX8_houses_1 13 rfl) (by decide) ?_
              refine s_istore (ls' := [some (.ref 66), some (.int (nI s)), some (.int so), some (.int (nI a)), some (.int (nI n)), some (.int (nI 0)), none, none]) (tb_ok aX8_houses_1 14 rfl) rfl rfl ?_
              refine s_iconst (v := nI 0) (tb_ok aX8_houses_1 15 rfl) (by decide) ?_
              refine s_istore (ls' := [some (.ref 66), some (.int (nI s)), some (.int so), some (.int (nI a)), some (.int (nI n)), some (.int (nI 0)), some (.int (nI 0)), none]) (tb_ok aX8_houses_1 16 rfl) rfl rfl ?_
              exact loop 0 (Nat.zero_le _) _ _ _ h FrE.refl
            · exact absurd c63 (by decide)
          · exact absurd rfl c51
      · exact absurd c29 (by decide)

set_option maxRecDepth 100000 in
set_option maxHeartbeats 1000000 in
theorem R_housesM {X : En} {L : FL} {q : Nat × Nat} {I : FI} {s n : Nat} (hs : s < 4) {so x : Int32} (hso : ¬ so < 0 ∧ ¬ 2 < so) (hn : n ≤ 5) (hth : I 78 s = 0) : Ev X 4 mX8_houses (0, 0) [.ref 66, .int (nI s), .int so, .int x, .int (nI n)] S0 I L (R0 q) (PureR (some (.int (-11))) S0 (I) L (R0 q)) := by
  refine ev_of (by decide +kernel) rfl ?_
  show SW X _ _ _ 0 [some (.ref 66), some (.int (nI s)), some (.int so), some (.int x), some (.int (nI n)), none, none, none] [] S0 I L (R0 q) _
  refine s_iload_n (tb_ok aX8_houses_0 0 rfl) rfl ?_
  refine s_cSp (as := [.int (nI s)]) (tb_ok aX8_houses_0 1 rfl) v_RX8_413 (R_isSheet _) (by decide) rfl rfl (Nat.le_of_ble_eq_true rfl) ?_
  refine s_topi (bI_t (inN (n := s) (hi := 3) (by omega) (by decide))) ?_
  refine s_if_eq (tgt := 32) (tb_ok aX8_houses_0 2 rfl) (by decide) (fun c4 => ?_) (fun c4 => ?_)
  · exact absurd c4 (by decide)
  · refine s_iload_n (tb_ok aX8_houses_0 3 rfl) rfl ?_
    refine s_i2l (tb_ok aX8_houses_0 4 rfl) ?_
    refine s_lconst (v := 0) (tb_ok aX8_houses_0 5 rfl) (by decide) ?_
    refine s_ldc2 (tb_ok aX8_houses_0 6 rfl) k_RX8_352 ?_
    refine s_cSp (as := [_, .long (0), .long (2)]) (tb_ok aX8_houses_0 7 rfl) v_RX8_73 (R_in _ _ _) (by decide) rfl rfl (Nat.le_of_ble_eq_true rfl) ?_
    refine s_topi (bI_t ((in_iff (lo := 0) (hi := 2) rfl (by decide) (by decide)).mpr hso)) ?_
    refine s_if_eq (tgt := 32) (tb_ok aX8_houses_0 8 rfl) (by decide) (fun c16 => ?_) (fun c16 => ?_)
    · exact absurd c16 (by decide)
    · refine s_iload (tb_ok aX8_houses_0 9 rfl) rfl ?_
      refine s_i2l (tb_ok aX8_houses_0 10 rfl) ?_
      refine s_lconst (v := 0) (tb_ok aX8_houses_0 11 rfl) (by decide) ?_
      refine s_ldc2 (tb_ok aX8_houses_0 12 rfl) k_RX8_111 ?_
      refine s_cSp (as := [_, .long (0), .long (5)]) (tb_ok aX8_houses_0 13 rfl) v_RX8_73 (R_in _ _ _) (by decide) rfl rfl (Nat.le_of_ble_eq_true rfl) ?_
      refine s_topi (bI_t ((in_iff (x := nI n) (lo := 0) (hi := 5) rfl (by decide) (by decide)).mpr (inN (hi := 5) hn (by decide)))) ?_
      refine s_if_ne (tgt := 35) (tb_ok aX8_houses_0 14 rfl) (by decide) (fun c29 => ?_) (fun c29 => ?_)
      · refine s_aload_n (tb_ok aX8_houses_0 17 rfl) rfl ?_
        refine s_getR (r := 78) (tb_ok aX8_houses_0 18 rfl) f_RX8_50 rfl rfl rfl ?_
        refine s_iload_n (tb_ok aX8_houses_0 19 rfl) rfl ?_
        refine s_bald (x := (0)) (tb_ok aX8_houses_0 20 rfl) rfl (lw_in hs (by decide)) (by rw [nI_clamp (by omega)]; exact hth) ?_
        refine s_if_eq (tgt := 57) (tb_ok aX8_houses_0 21 rfl) (by decide) (fun c41 => ?_) (fun c41 => ?_)
        · refine s_aload_n (tb_ok aX8_houses_1 6 rfl) rfl ?_
          refine s_getR (r := 78) (tb_ok aX8_houses_1 7 rfl) f_RX8_50 rfl rfl rfl ?_
          refine s_iload_n (tb_ok aX8_houses_1 8 rfl) rfl ?_
          refine s_bald (x := (0)) (tb_ok aX8_houses_1 9 rfl) rfl (lw_in hs (by decide)) (by rw [nI_clamp (by omega)]; exact hth) ?_
          refine s_if_ne (tgt := 69) (tb_ok aX8_houses_1 10 rfl) (by decide) (fun c63 => ?_) (fun c63 => ?_)
          · exact absurd c63 (by decide)
          · refine s_bipush (v := -11) (tb_ok aX8_houses_1 11 rfl) (by decide) ?_
            refine s_iret (tb_ok aX8_houses_1 12 rfl) rfl ?_
            exact pureR
        · exact absurd c41 (by decide)
      · exact absurd c29 (by decide)

set_option maxRecDepth 100000 in
set_option maxHeartbeats 1000000 in
theorem R_housesU {X : En} {L : FL} {q : Nat × Nat} {I : FI} {s n : Nat} (hs : s < 4) {so x : Int32} (hso : ¬ so < 0 ∧ ¬ 2 < so) (hn : n ≤ 5) (hth : I 78 s = 1) (hu : ¬ I 79 s = so) : Ev X 4 mX8_houses (0, 0) [.ref 66, .int (nI s), .int so, .int x, .int (nI n)] S0 I L (R0 q) (PureR (some (.int (-13))) S0 (I) L (R0 q)) := by
  refine ev_of (by decide +kernel) rfl ?_
  show SW X _ _ _ 0 [some (.ref 66), some (.int (nI s)), some (.int so), some (.int x), some (.int (nI n)), none, none, none] [] S0 I L (R0 q) _
  refine s_iload_n (tb_ok aX8_houses_0 0 rfl) rfl ?_
  refine s_cSp (as := [.int (nI s)]) (tb_ok aX8_houses_0 1 rfl) v_RX8_413 (R_isSheet _) (by decide) rfl rfl (Nat.le_of_ble_eq_true rfl) ?_
  refine s_topi (bI_t (inN (n := s) (hi := 3) (by omega) (by decide))) ?_
  refine s_if_eq (tgt := 32) (tb_ok aX8_houses_0 2 rfl) (by decide) (fun c4 => ?_) (fun c4 => ?_)
  · exact absurd c4 (by decide)
  · refine s_iload_n (tb_ok aX8_houses_0 3 rfl) rfl ?_
    refine s_i2l (tb_ok aX8_houses_0 4 rfl) ?_
    refine s_lconst (v := 0) (tb_ok aX8_houses_0 5 rfl) (by decide) ?_
    refine s_ldc2 (tb_ok aX8_houses_0 6 rfl) k_RX8_352 ?_
    refine s_cSp (as := [_, .long (0), .long (2)]) (tb_ok aX8_houses_0 7 rfl) v_RX8_73 (R_in _ _ _) (by decide) rfl rfl (Nat.le_of_ble_eq_true rfl) ?_
    refine s_topi (bI_t ((in_iff (lo := 0) (hi := 2) rfl (by decide) (by decide)).mpr hso)) ?_
    refine s_if_eq (tgt := 32) (tb_ok aX8_houses_0 8 rfl) (by decide) (fun c16 => ?_) (fun c16 => ?_)
    · exact absurd c16 (by decide)
    · refine s_iload (tb_ok aX8_houses_0 9 rfl) rfl ?_
      refine s_i2l (tb_ok aX8_houses_0 10 rfl) ?_
      refine s_lconst (v := 0) (tb_ok aX8_houses_0 11 rfl) (by decide) ?_
      refine s_ldc2 (tb_ok aX8_houses_0 12 rfl) k_RX8_111 ?_
      refine s_cSp (as := [_, .long (0), .long (5)]) (tb_ok aX8_houses_0 13 rfl) v_RX8_73 (R_in _ _ _) (by decide) rfl rfl (Nat.le_of_ble_eq_true rfl) ?_
      refine s_topi (bI_t ((in_iff (x := nI n) (lo := 0) (hi := 5) rfl (by decide) (by decide)).mpr (inN (hi := 5) hn (by decide)))) ?_
      refine s_if_ne (tgt := 35) (tb_ok aX8_houses_0 14 rfl) (by decide) (fun c29 => ?_) (fun c29 => ?_)
      · refine s_aload_n (tb_ok aX8_houses_0 17 rfl) rfl ?_
        refine s_getR (r := 78) (tb_ok aX8_houses_0 18 rfl) f_RX8_50 rfl rfl rfl ?_
        refine s_iload_n (tb_ok aX8_houses_0 19 rfl) rfl ?_
        refine s_bald (x := (1)) (tb_ok aX8_houses_0 20 rfl) rfl (lw_in hs (by decide)) (by rw [nI_clamp (by omega)]; exact hth) ?_
        refine s_if_eq (tgt := 57) (tb_ok aX8_houses_0 21 rfl) (by decide) (fun c41 => ?_) (fun c41 => ?_)
        · exact absurd c41 (by decide)
        · refine s_aload_n (tb_ok aX8_houses_0 22 rfl) rfl ?_
          refine s_getR (r := 79) (tb_ok aX8_houses_0 23 rfl) f_RX8_54 rfl rfl rfl ?_
          refine s_iload_n (tb_ok aX8_houses_1 0 rfl) rfl ?_
          refine s_ialdN (tb_ok aX8_houses_1 1 rfl) rfl (by omega) (by decide) ?_
          refine s_iload_n (tb_ok aX8_houses_1 2 rfl) rfl ?_
          refine s_icmp_eq (tgt := 57) (tb_ok aX8_houses_1 3 rfl) (by decide) (fun c51 => ?_) (fun c51 => ?_)
          · exact absurd c51 hu
          · refine s_bipush (v := -13) (tb_ok aX8_houses_1 4 rfl) (by decide) ?_
            refine s_iret (tb_ok aX8_houses_1 5 rfl) rfl ?_
            exact pureR
      · exact absurd c29 (by decide)

set_option maxRecDepth 100000 in
set_option maxHeartbeats 1000000 in
theorem R_housesL {X : En} {L : FL} {q : Nat × Nat} {I : FI} {s n : Nat} (hs : s < 4) {so x : Int32} (hso : ¬ so < 0 ∧ ¬ 2 < so) (hn : n ≤ 5) (hth : I 78 s = 1) (hu : I 79 s = so) (hx : x < 0) (hn1 : 0 < n) : Ev X 4 mX8_houses (0, 0) [.ref 66, .int (nI s), .int so, .int x, .int (nI n)] S0 I L (R0 q) (PureR (some (.int (-12))) S0 (I) L (R0 q)) := by
  refine ev_of (by decide +kernel) rfl ?_
  show SW X _ _ _ 0 [some (.ref 66), some (.int (nI s)), some (.int so), some (.int x), some (.int (nI n)), none, none, none] [] S0 I L (R0 q) _
  refine s_iload_n (tb_ok aX8_houses_0 0 rfl) rfl ?_
  refine s_cSp (as := [.int (nI s)]) (tb_ok aX8_houses_0 1 rfl) v_RX8_413 (R_isSheet _) (by decide) rfl rfl (Nat.le_of_ble_eq_true rfl) ?_
  refine s_topi (bI_t (inN (n := s) (hi := 3) (by omega) (by decide))) ?_
  refine s_if_eq (tgt := 32) (tb_ok aX8_houses_0 2 rfl) (by decide) (fun c4 => ?_) (fun c4 => ?_)
  · exact absurd c4 (by decide)
  · refine s_iload_n (tb_ok aX8_houses_0 3 rfl) rfl ?_
    refine s_i2l (tb_ok aX8_houses_0 4 rfl) ?_
    refine s_lconst (v := 0) (tb_ok aX8_houses_0 5 rfl) (by decide) ?_
    refine s_ldc2 (tb_ok aX8_houses_0 6 rfl) k_RX8_352 ?_
    refine s_cSp (as := [_, .long (0), .long (2)]) (tb_ok aX8_houses_0 7 rfl) v_RX8_73 (R_in _ _ _) (by decide) rfl rfl (Nat.le_of_ble_eq_true rfl) ?_
    refine s_topi (bI_t ((in_iff (lo := 0) (hi := 2) rfl (by decide) (by decide)).mpr hso)) ?_
    refine s_if_eq (tgt := 32) (tb_ok aX8_houses_0 8 rfl) (by decide) (fun c16 => ?_) (fun c16 => ?_)
    · exact absurd c16 (by decide)
    · refine s_iload (tb_ok aX8_houses_0 9 rfl) rfl ?_
      refine s_i2l (tb_ok aX8_houses_0 10 rfl) ?_
      refine s_lconst (v := 0) (tb_ok aX8_houses_0 11 rfl) (by decide) ?_
      refine s_ldc2 (tb_ok aX8_houses_0 12 rfl) k_RX8_111 ?_
      refine s_cSp (as := [_, .long (0), .long (5)]) (tb_ok aX8_houses_0 13 rfl) v_RX8_73 (R_in _ _ _) (by decide) rfl rfl (Nat.le_of_ble_eq_true rfl) ?_
      refine s_topi (bI_t ((in_iff (x := nI n) (lo := 0) (hi := 5) rfl (by decide) (by decide)).mpr (inN (hi := 5) hn (by decide)))) ?_
      refine s_if_ne (tgt := 35) (tb_ok aX8_houses_0 14 rfl) (by decide) (fun c29 => ?_) (fun c29 => ?_)
      · refine s_aload_n (tb_ok aX8_houses_0 17 rfl) rfl ?_
        refine s_getR (r := 78) (tb_ok aX8_houses_0 18 rfl) f_RX8_50 rfl rfl rfl ?_
        refine s_iload_n (tb_ok aX8_houses_0 19 rfl) rfl ?_
        refine s_bald (x := (1)) (tb_ok aX8_houses_0 20 rfl) rfl (lw_in hs (by decide)) (by rw [nI_clamp (by omega)]; exact hth) ?_
        refine s_if_eq (tgt := 57) (tb_ok aX8_houses_0 21 rfl) (by decide) (fun c41 => ?_) (fun c41 => ?_)
        · exact absurd c41 (by decide)
        · refine s_aload_n (tb_ok aX8_houses_0 22 rfl) rfl ?_
          refine s_getR (r := 79) (tb_ok aX8_houses_0 23 rfl) f_RX8_54 rfl rfl rfl ?_
          refine s_iload_n (tb_ok aX8_houses_1 0 rfl) rfl ?_
          refine s_ialdX (x := so) (tb_ok aX8_houses_1 1 rfl) rfl (by omega) (by decide) hu ?_
          refine s_iload_n (tb_ok aX8_houses_1 2 rfl) rfl ?_
          refine s_icmp_eq (tgt := 57) (tb_ok aX8_houses_1 3 rfl) (by decide) (fun c51 => ?_) (fun c51 => ?_)
          · refine s_aload_n (tb_ok aX8_houses_1 6 rfl) rfl ?_
            refine s_getR (r := 78) (tb_ok aX8_houses_1 7 rfl) f_RX8_50 rfl rfl rfl ?_
            refine s_iload_n (tb_ok aX8_houses_1 8 rfl) rfl ?_
            refine s_bald (x := (1)) (tb_ok aX8_houses_1 9 rfl) rfl (lw_in hs (by decide)) (by rw [nI_clamp (by omega)]; exact hth) ?_
            refine s_if_ne (tgt := 69) (tb_ok aX8_houses_1 10 rfl) (by decide) (fun c63 => ?_) (fun c63 => ?_)
            · refine s_iconst (v := nI 0) (tb_ok aX8_houses_1 13 rfl) (by decide) ?_
              refine s_istore (ls' := [some (.ref 66), some (.int (nI s)), some (.int so), some (.int x), some (.int (nI n)), some (.int (nI 0)), none, none]) (tb_ok aX8_houses_1 14 rfl) rfl rfl ?_
              refine s_iconst (v := nI 0) (tb_ok aX8_houses_1 15 rfl) (by decide) ?_
              refine s_istore (ls' := [some (.ref 66), some (.int (nI s)), some (.int so), some (.int x), some (.int (nI n)), some (.int (nI 0)), some (.int (nI 0)), none]) (tb_ok aX8_houses_1 16 rfl) rfl rfl ?_
              refine s_iload (tb_ok aX8_houses_1 17 rfl) rfl ?_
              refine s_iload (tb_ok aX8_houses_1 18 rfl) rfl ?_
              refine s_icmp_ge (tgt := 158) (tb_ok aX8_houses_1 19 rfl) (by decide) (fun c79 => ?_) (fun c79 => ?_)
              · simp (disch := omega) only [nI_leI] at c79
                omega
              · refine s_iload_n (tb_ok aX8_houses_1 20 rfl) rfl ?_
                refine s_if_lt (tgt := 103) (tb_ok aX8_houses_1 21 rfl) (by decide) (fun c83 => ?_) (fun c83 => ?_)
                · refine s_bipush (v := -12) (tb_ok aX8_houses_2 10 rfl) (by decide) ?_
                  refine s_iret (tb_ok aX8_houses_2 11 rfl) rfl ?_
                  exact pureR
                · exact absurd hx c83
            · exact absurd c63 (by decide)
          · exact absurd rfl c51
      · exact absurd c29 (by decide)

set_option maxRecDepth 100000 in
set_option maxHeartbeats 1000000 in
theorem R_housesZ {X : En} {L : FL} {q : Nat × Nat} {I : FI} {s n : Nat} (hs : s < 4) {so x : Int32} (hso : ¬ so < 0 ∧ ¬ 2 < so) (hn : n ≤ 5) (hth : I 78 s = 1) (hu : I 79 s = so) (hn0 : n = 0) : Ev X 4 mX8_houses (0, 0) [.ref 66, .int (nI s), .int so, .int x, .int (nI n)] S0 I L (R0 q) (PureR (some (.int 0)) S0 (I) L (R0 q)) := by
  refine ev_of (by decide +kernel) rfl ?_
  show SW X _ _ _ 0 [some (.ref 66), some (.int (nI s)), some (.int so), some (.int x), some (.int (nI n)), none, none, none] [] S0 I L (R0 q) _
  refine s_iload_n (tb_ok aX8_houses_0 0 rfl) rfl ?_
  refine s_cSp (as := [.int (nI s)]) (tb_ok aX8_houses_0 1 rfl) v_RX8_413 (R_isSheet _) (by decide) rfl rfl (Nat.le_of_ble_eq_true rfl) ?_
  refine s_topi (bI_t (inN (n := s) (hi := 3) (by omega) (by decide))) ?_
  refine s_if_eq (tgt := 32) (tb_ok aX8_houses_0 2 rfl) (by decide) (fun c4 => ?_) (fun c4 => ?_)
  · exact absurd c4 (by decide)
  · refine s_iload_n (tb_ok aX8_houses_0 3 rfl) rfl ?_
    refine s_i2l (tb_ok aX8_houses_0 4 rfl) ?_
    refine s_lconst (v := 0) (tb_ok aX8_houses_0 5 rfl) (by decide) ?_
    refine s_ldc2 (tb_ok aX8_houses_0 6 rfl) k_RX8_352 ?_
    refine s_cSp (as := [_, .long (0), .long (2)]) (tb_ok aX8_houses_0 7 rfl) v_RX8_73 (R_in _ _ _) (by decide) rfl rfl (Nat.le_of_ble_eq_true rfl) ?_
    refine s_topi (bI_t ((in_iff (lo := 0) (hi := 2) rfl (by decide) (by decide)).mpr hso)) ?_
    refine s_if_eq (tgt := 32) (tb_ok aX8_houses_0 8 rfl) (by decide) (fun c16 => ?_) (fun c16 => ?_)
    · exact absurd c16 (by decide)
    · refine s_iload (tb_ok aX8_houses_0 9 rfl) rfl ?_
      refine s_i2l (tb_ok aX8_houses_0 10 rfl) ?_
      refine s_lconst (v := 0) (tb_ok aX8_houses_0 11 rfl) (by decide) ?_
      refine s_ldc2 (tb_ok aX8_houses_0 12 rfl) k_RX8_111 ?_
      refine s_cSp (as := [_, .long (0), .long (5)]) (tb_ok aX8_houses_0 13 rfl) v_RX8_73 (R_in _ _ _) (by decide) rfl rfl (Nat.le_of_ble_eq_true rfl) ?_
      refine s_topi (bI_t ((in_iff (x := nI n) (lo := 0) (hi := 5) rfl (by decide) (by decide)).mpr (inN (hi := 5) hn (by decide)))) ?_
      refine s_if_ne (tgt := 35) (tb_ok aX8_houses_0 14 rfl) (by decide) (fun c29 => ?_) (fun c29 => ?_)
      · refine s_aload_n (tb_ok aX8_houses_0 17 rfl) rfl ?_
        refine s_getR (r := 78) (tb_ok aX8_houses_0 18 rfl) f_RX8_50 rfl rfl rfl ?_
        refine s_iload_n (tb_ok aX8_houses_0 19 rfl) rfl ?_
        refine s_bald (x := (1)) (tb_ok aX8_houses_0 20 rfl) rfl (lw_in hs (by decide)) (by rw [nI_clamp (by omega)]; exact hth) ?_
        refine s_if_eq (tgt := 57) (tb_ok aX8_houses_0 21 rfl) (by decide) (fun c41 => ?_) (fun c41 => ?_)
        · exact absurd c41 (by decide)
        · refine s_aload_n (tb_ok aX8_houses_0 22 rfl) rfl ?_
          refine s_getR (r := 79) (tb_ok aX8_houses_0 23 rfl) f_RX8_54 rfl rfl rfl ?_
          refine s_iload_n (tb_ok aX8_houses_1 0 rfl) rfl ?_
          refine s_ialdX (x := so) (tb_ok aX8_houses_1 1 rfl) rfl (by omega) (by decide) hu ?_
          refine s_iload_n (tb_ok aX8_houses_1 2 rfl) rfl ?_
          refine s_icmp_eq (tgt := 57) (tb_ok aX8_houses_1 3 rfl) (by decide) (fun c51 => ?_) (fun c51 => ?_)
          · refine s_aload_n (tb_ok aX8_houses_1 6 rfl) rfl ?_
            refine s_getR (r := 78) (tb_ok aX8_houses_1 7 rfl) f_RX8_50 rfl rfl rfl ?_
            refine s_iload_n (tb_ok aX8_houses_1 8 rfl) rfl ?_
            refine s_bald (x := (1)) (tb_ok aX8_houses_1 9 rfl) rfl (lw_in hs (by decide)) (by rw [nI_clamp (by omega)]; exact hth) ?_
            refine s_if_ne (tgt := 69) (tb_ok aX8_houses_1 10 rfl) (by decide) (fun c63 => ?_) (fun c63 => ?_)
            · refine s_iconst (v := nI 0) (tb_ok aX8_houses_1 13 rfl) (by decide) ?_
              refine s_istore (ls' := [some (.ref 66), some (.int (nI s)), some (.int so), some (.int x), some (.int (nI n)), some (.int (nI 0)), none, none]) (tb_ok aX8_houses_1 14 rfl) rfl rfl ?_
              refine s_iconst (v := nI 0) (tb_ok aX8_houses_1 15 rfl) (by decide) ?_
              refine s_istore (ls' := [some (.ref 66), some (.int (nI s)), some (.int so), some (.int x), some (.int (nI n)), some (.int (nI 0)), some (.int (nI 0)), none]) (tb_ok aX8_houses_1 16 rfl) rfl rfl ?_
              refine s_iload (tb_ok aX8_houses_1 17 rfl) rfl ?_
              refine s_iload (tb_ok aX8_houses_1 18 rfl) rfl ?_
              refine s_icmp_ge (tgt := 158) (tb_ok aX8_houses_1 19 rfl) (by decide) (fun c79 => ?_) (fun c79 => ?_)
              · refine s_iload (tb_ok aX8_houses_3 19 rfl) rfl ?_
                refine s_iret (tb_ok aX8_houses_3 20 rfl) rfl ?_
                exact pureR
              · simp (disch := omega) only [nI_leI] at c79
                omega
            · exact absurd c63 (by decide)
          · exact absurd rfl c51
      · exact absurd c29 (by decide)

set_option maxRecDepth 100000 in
set_option maxHeartbeats 1000000 in
theorem R_housesB {X : En} {L : FL} {q : Nat × Nat} {I : FI} {w so x z : Int32} (hv : ¬ ((¬ w < 0 ∧ ¬ 3 < w) ∧ (¬ so < 0 ∧ ¬ 2 < so) ∧ (¬ z < 0 ∧ ¬ 5 < z))) : Ev X 4 mX8_houses (0, 0) [.ref 66, .int w, .int so, .int x, .int z] S0 I L (R0 q) (PureR (some (.int (-2))) S0 (I) L (R0 q)) := by
  refine ev_of (by decide +kernel) rfl ?_
  show SW X _ _ _ 0 [some (.ref 66), some (.int w), some (.int so), some (.int x), some (.int z), none, none, none] [] S0 I L (R0 q) _
  refine s_iload_n (tb_ok aX8_houses_0 0 rfl) rfl ?_
  refine s_cSp (as := [.int w]) (tb_ok aX8_houses_0 1 rfl) v_RX8_413 (R_isSheet _) (by decide) rfl rfl (Nat.le_of_ble_eq_true rfl) ?_
  refine s_if_eq (tgt := 32) (tb_ok aX8_houses_0 2 rfl) (by decide) (fun c4 => ?_) (fun c4 => ?_)
  · refine s_bipush (v := -2) (tb_ok aX8_houses_0 15 rfl) (by decide) ?_
    refine s_iret (tb_ok aX8_houses_0 16 rfl) rfl ?_
    exact pureR
  · refine s_iload_n (tb_ok aX8_houses_0 3 rfl) rfl ?_
    refine s_i2l (tb_ok aX8_houses_0 4 rfl) ?_
    refine s_lconst (v := 0) (tb_ok aX8_houses_0 5 rfl) (by decide) ?_
    refine s_ldc2 (tb_ok aX8_houses_0 6 rfl) k_RX8_352 ?_
    refine s_cSp (as := [_, .long (0), .long (2)]) (tb_ok aX8_houses_0 7 rfl) v_RX8_73 (R_in _ _ _) (by decide) rfl rfl (Nat.le_of_ble_eq_true rfl) ?_
    refine s_topi (bI_congr (in_iff (lo := 0) (hi := 2) rfl (by decide) (by decide))) ?_
    refine s_if_eq (tgt := 32) (tb_ok aX8_houses_0 8 rfl) (by decide) (fun c16 => ?_) (fun c16 => ?_)
    · refine s_bipush (v := -2) (tb_ok aX8_houses_0 15 rfl) (by decide) ?_
      refine s_iret (tb_ok aX8_houses_0 16 rfl) rfl ?_
      exact pureR
    · refine s_iload (tb_ok aX8_houses_0 9 rfl) rfl ?_
      refine s_i2l (tb_ok aX8_houses_0 10 rfl) ?_
      refine s_lconst (v := 0) (tb_ok aX8_houses_0 11 rfl) (by decide) ?_
      refine s_ldc2 (tb_ok aX8_houses_0 12 rfl) k_RX8_111 ?_
      refine s_cSp (as := [_, .long (0), .long (5)]) (tb_ok aX8_houses_0 13 rfl) v_RX8_73 (R_in _ _ _) (by decide) rfl rfl (Nat.le_of_ble_eq_true rfl) ?_
      refine s_topi (bI_congr (in_iff (lo := 0) (hi := 5) rfl (by decide) (by decide))) ?_
      refine s_if_ne (tgt := 35) (tb_ok aX8_houses_0 14 rfl) (by decide) (fun c29 => ?_) (fun c29 => ?_)
      · exact absurd ⟨bI_n c4, bI_n c16, bI_n c29⟩ hv
      · refine s_bipush (v := -2) (tb_ok aX8_houses_0 15 rfl) (by decide) ?_
        refine s_iret (tb_ok aX8_houses_0 16 rfl) rfl ?_
        exact pureR
