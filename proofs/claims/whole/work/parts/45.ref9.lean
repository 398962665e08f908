/-! the reference: a day, and days that are laid back -/
theorem i_subsub (x y : Int32) : x - (x - y) = y := by
  apply Int32.toBitVec_inj.mp
  apply BitVec.eq_of_toNat_eq
  simp only [Int32.toBitVec_sub, BitVec.toNat_sub]
  have := x.toBitVec.isLt
  have := y.toBitVec.isLt
  omega
theorem i_four (a b c e : Int32) : (a - b) + (c - e) = (a + c) - (b + e) := by
  rw [Int32.sub_eq_add_neg, Int32.sub_eq_add_neg, Int32.sub_eq_add_neg, Int32.neg_add, Int32.sub_eq_add_neg]
  ac_rfl
theorem pas_less {a s : Nat} (ha : a < 100) (hs : s ≤ 1200) : nI a - (if nI s < nI a then nI s else nI a) = if 0 < nI a - nI s then nI a - nI s else 0 := by
  by_cases h : s < a
  · rw [if_pos (nI_lt h (by omega)), nI_sub' (by omega), if_pos (show (0 : Int32) < nI (a - s) from nI_lt (a := 0) (by omega) (by omega))]
  · rw [if_neg (fun h2 => by simp (disch := omega) only [nI_ltI] at h2; omega), nI_sub' (Nat.le_refl _), if_neg ?_]
    · rw [Nat.sub_self]; rfl
    · intro h2
      have e0 : (0 : Int32).toInt = 0 := by decide
      rw [Int32.lt_iff_toInt_lt, Int32.toInt_sub, nI_int (by omega), nI_int (by omega), e0, Int.bmod_eq_of_le (by omega) (by omega)] at h2
      omega
section PAS
variable {A I : FI} {m : Nat} {fr fa : Nat → Int32} {M : Nat} {T : Nat → Nat → Int32} {d : Nat} {sem : Nat → Sem}
theorem pasA_eq {f : Nat → Int32} (hf : okT f) {set less day : Int32} (e1 : set = undP fr fa m f day) (e2 : less = if falS sem f set day 12 < f 3 then falS sem f set day 12 else f 3) : pasA sem fr fa m f day = upd (upd f 2 (f 2 ||| set)) 3 (f 3 - less) := by
  obtain ⟨s, hs, es⟩ := falS_N (sem := sem) f (undP fr fa m f day) day 12
  obtain ⟨_, _, _, ⟨a, ha, ea⟩, _⟩ := hf
  unfold pasA
  rw [e2, e1, es, ea, pas_less ha (by omega)]
theorem RSt.pas1 (h : RSt I m fr fa M T d sem) {k : Nat} (hk : k < M) {set less : Int32} (e1 : set = undP fr fa m (T k) (nI d)) (e2 : less = if falS sem (T k) set (nI d) 12 < T k 3 then falS sem (T k) set (nI d) 12 else T k 3) : RSt (up2 (up2 I 73 (4 * k + 1) (T k 2 ||| set)) 73 (4 * k + 2) (T k 3 - less)) m fr fa M (uT T k (pasA sem fr fa m (T k) (nI d))) d sem := by
  obtain ⟨u, hu, eu⟩ := und_N (fr := fr) h.2.1 (h.ok hk) (nI d)
  have hpa := pasA_eq (sem := sem) (h.ok hk) e1 e2
  have r1 := h.row hk (i := 1) (v := T k 2 ||| set) (by decide) (by rw [e1, eu]; exact (h.ok hk).or hu)
  have r2 := r1.row hk (i := 2) (v := T k 3 - less) (by decide) (by rw [uT_o]; show okT (upd (upd (T k) 2 (T k 2 ||| set)) 3 (T k 3 - less)); rw [← hpa]; exact okT.pasA h.2.1 (h.ok hk) _)
  refine r2.congr (fun j hj => ?_)
  by_cases e : j = k
  · subst e; rw [uT_o, uT_o, uT_o, hpa]
  · rw [uT_n e, uT_n e, uT_n e]
theorem RSt.pas2 (h : RSt I m fr fa M T d sem) {k : Nat} (hk : k < M) {f : Nat → Int32} (hf : okT f) {day v : Int32} (hT : T k = pasA sem fr fa m f day) (e : v = held (f 4 + held (sem 1 (nmT (pasA sem fr fa m f day) 0 day)) (-9) 9) 0 99) : RSt (up2 I 73 (4 * k + 3) v) m fr fa M (uT T k (pasP sem fr fa m f day)) d sem := by
  have hpp : pasP sem fr fa m f day = upd (T k) 4 v := by rw [hT, e]; rfl
  rw [hpp]
  exact h.row hk (i := 3) (by decide) (by rw [← hpp]; exact okT.pasP h.2.1 hf _)
end PAS
def pdS (sem : Nat → (Nat → Int32) → Int32) (fr fa : Nat → Int32) (m : Nat) (T : Nat → Nat → Int32) (day : Int32) : Nat → Int32
  | 0 => 0
  | k + 1 => pdS sem fr fa m T day k + (T k 3 - pasP sem fr fa m (T k) day 3)
theorem pasP_3 {sem : Nat → (Nat → Int32) → Int32} {fr fa : Nat → Int32} {m : Nat} {f : Nat → Int32} {day : Int32} : pasP sem fr fa m f day 3 = pasA sem fr fa m f day 3 := upd_ne (by decide)
theorem pasP_4 {sem : Nat → (Nat → Int32) → Int32} {fr fa : Nat → Int32} {m : Nat} {f : Nat → Int32} {day : Int32} : pasA sem fr fa m f day 4 = f 4 := by unfold pasA; rw [upd_ne (by decide), upd_ne (by decide)]
theorem pdS_ap {sem : Nat → (Nat → Int32) → Int32} {fr fa : Nat → Int32} {m : Nat} {T : Nat → Nat → Int32} {day : Int32} {M : Nat} : ∀ k, k ≤ M → pdS sem fr fa m T day k = apS T M k - apS (fun j => pasP sem fr fa m (T j) day) M k := by
  intro k
  induction k with
  | zero => intro _; show (0 : Int32) = 0 - 0; decide
  | succ k ih =>
    intro h
    unfold pdS apS
    rw [if_pos (by omega), if_pos (by omega), ih (by omega)]
    exact i_four _ _ _ _
set_option maxRecDepth 100000 in
set_option maxHeartbeats 1000000 in
theorem R_passes {X : En} {L : FL} {q : Nat × Nat} {I : FI} {m : Nat} {fr fa : Nat → Int32} {M : Nat} {T : Nat → Nat → Int32} {d : Nat} {sem : Nat → Sem} (h : RSt I m fr fa M T d sem) (hd : d < 2 ^ 30) : Ev X 55 mX8_passes (0, 0) [.ref 66] S0 I L (R0 q) (AfI q (some (.int (pdS sem fr fa m T (nI d) M))) (fun I' => RSt I' m fr fa M (fun j => pasP sem fr fa m (T j) (nI d)) (d + 1) sem ∧ FrE eP I' I)) := by
  have hM5 := h.M5
  have loop : ∀ k, k ≤ M → ∀ (I1 : FI), ∀ (L1 : FL), ∀ (T1 : Nat → Nat → Int32), ∀ (o3 o4 o5 : Option Value), (RSt I1 m fr fa M T1 d sem) → (FrE eP I1 I) → (∀ a, a < k → T1 a = pasP sem fr fa m (T a) (nI d)) → (∀ a, k ≤ a → T1 a = T a) → SW X 55 mX8_passes (0, 0) 4 [some (.ref 66), some (.int (pdS sem fr fa m T (nI d) k)), some (.int (nI k)), o3, o4, o5] [] S0 I1 L1 (R0 q) (KQ X (AfI q (some (.int (pdS sem fr fa m T (nI d) M))) (fun I' => RSt I' m fr fa M (fun j => pasP sem fr fa m (T j) (nI d)) (d + 1) sem ∧ FrE eP I' I))) := by
    refine for_up (P := fun k => ∀ (I1 : FI), ∀ (L1 : FL), ∀ (T1 : Nat → Nat → Int32), ∀ (o3 o4 o5 : Option Value), (RSt I1 m fr fa M T1 d sem) → (FrE eP I1 I) → (∀ a, a < k → T1 a = pasP sem fr fa m (T a) (nI d)) → (∀ a, k ≤ a → T1 a = T a) → SW X 55 mX8_passes (0, 0) 4 [some (.ref 66), some (.int (pdS sem fr fa m T (nI d) k)), some (.int (nI k)), o3, o4, o5] [] S0 I1 L1 (R0 q) (KQ X (AfI q (some (.int (pdS sem fr fa m T (nI d) M))) (fun I' => RSt I' m fr fa M (fun j => pasP sem fr fa m (T j) (nI d)) (d + 1) sem ∧ FrE eP I' I)))) M ?_ ?_
    · intro I1 L1 T1 o3 o4 o5 hi hi1 hi2 hb
      refine s_iload_n (tb_ok aX8_passes_0 4 rfl) rfl ?_
      refine s_aload_n (tb_ok aX8_passes_0 5 rfl) rfl ?_
      refine s_getI (x := (nI M)) (tb_ok aX8_passes_0 6 rfl) f_RX8_70 rfl rfl hi.mn ?_
      refine s_icmp_ge (tgt := 132) (tb_ok aX8_passes_0 7 rfl) (by decide) (fun c9 => ?_) (fun c9 => ?_)
      · refine s_aload_n (tb_ok aX8_passes_3 21 rfl) rfl ?_
        refine s_dup (tb_ok aX8_passes_3 22 rfl) rfl ?_
        refine s_getI (x := (nI d)) (tb_ok aX8_passes_3 23 rfl) f_RX8_105 rfl rfl hi.day ?_
        refine s_iconst (v := 1) (tb_ok aX8_passes_4 0 rfl) (by decide) ?_
        refine s_iadd (tb_ok aX8_passes_4 1 rfl) ?_
        refine s_topi (z := (nI (d + 1))) (nI_add' d 1) ?_
        refine s_putI (tb_ok aX8_passes_4 2 rfl) f_RX8_105 rfl rfl ?_
        refine s_iload_n (tb_ok aX8_passes_4 3 rfl) rfl ?_
        refine s_iret (tb_ok aX8_passes_4 4 rfl) rfl ?_
        refine ⟨rfl, rfl, rfl, (hi.setDay (d + 1)).congr (fun j hj => (hi2 j hj).symm), hi1.put (Or.inr (Or.inl ⟨rfl, rfl⟩)) _⟩
      · simp (disch := omega) only [nI_ltI, nI_leI, nI_eq] at c9
        omega
    · intro k hk ih I1 L1 T1 o3 o4 o5 hi hi1 hi2 hb
      refine s_iload_n (tb_ok aX8_passes_0 4 rfl) rfl ?_
      refine s_aload_n (tb_ok aX8_passes_0 5 rfl) rfl ?_
      refine s_getI (x := (nI M)) (tb_ok aX8_passes_0 6 rfl) f_RX8_70 rfl rfl hi.mn ?_
      refine s_icmp_ge (tgt := 132) (tb_ok aX8_passes_0 7 rfl) (by decide) (fun c9 => ?_) (fun c9 => ?_)
      · simp (disch := omega) only [nI_ltI, nI_leI, nI_eq] at c9
        omega
      · refine s_aload_n (tb_ok aX8_passes_0 8 rfl) rfl ?_
        refine s_iload_n (tb_ok aX8_passes_0 9 rfl) rfl ?_
        refine s_cVp (as := [.int (nI k)]) (tb_ok aX8_passes_0 10 rfl) v_RX8_121 (R_und hi hk hd) (by decide) rfl rfl rfl rfl rfl (Nat.le_of_ble_eq_true rfl) (by decide) ?_
        refine s_name (fun x1 ex1 => ?_)
        refine s_istore_n (ls' := [some (.ref 66), some (.int (pdS sem fr fa m T (nI d) k)), some (.int (nI k)), some (.int x1), o4, o5]) (tb_ok aX8_passes_0 11 rfl) rfl rfl ?_
        refine s_aload_n (tb_ok aX8_passes_0 12 rfl) rfl ?_
        refine s_iload_n (tb_ok aX8_passes_0 13 rfl) rfl ?_
        refine s_iload_n (tb_ok aX8_passes_0 14 rfl) rfl ?_
        refine s_cV (as := [.int (nI k), .int x1]) (tb_ok aX8_passes_0 15 rfl) v_RX8_124 (R_fallsFor hi hk _) (by decide) rfl rfl rfl rfl rfl (Nat.le_of_ble_eq_true rfl) (by decide) (fun r1 S1 I1 L1 R1 q1 => ?_)
        obtain ⟨rfl, rfl, rfl, hf4⟩ := q1
        have h4 := hi.see (see_eS hf4)
        refine s_name (fun x2 ex2 => ?_)
        refine s_istore (ls' := [some (.ref 66), some (.int (pdS sem fr fa m T (nI d) k)), some (.int (nI k)), some (.int x1), some (.int x2), o5]) (tb_ok aX8_passes_0 16 rfl) rfl rfl ?_
        refine s_iload (tb_ok aX8_passes_0 17 rfl) rfl ?_
        refine s_aload_n (tb_ok aX8_passes_0 18 rfl) rfl ?_
        refine s_getR (r := 73) (tb_ok aX8_passes_0 19 rfl) f_RX8_32 rfl rfl rfl ?_
        refine s_iconst (v := 4) (tb_ok aX8_passes_0 20 rfl) (by decide) ?_
        refine s_iload_n (tb_ok aX8_passes_0 21 rfl) rfl ?_
        refine s_imul (tb_ok aX8_passes_0 22 rfl) ?_
        refine s_topi (z := (nI (4 * k))) (nI_mul 4 k) ?_
        refine s_iconst (v := 2) (tb_ok aX8_passes_0 23 rfl) (by decide) ?_
        refine s_iadd (tb_ok aX8_passes_1 0 rfl) ?_
        refine s_topi (z := (nI (4 * k + 2))) (nI_add' (4 * k) 2) ?_
        refine s_ialdX (x := (T1 k 3)) (tb_ok aX8_passes_1 1 rfl) rfl (by omega) (by decide) (h4.c3 hk) ?_
        refine s_icmp_ge (tgt := 46) (tb_ok aX8_passes_1 2 rfl) (by decide) (fun c38 => ?_) (fun c38 => ?_)
        · refine s_aload_n (tb_ok aX8_passes_1 5 rfl) rfl ?_
          refine s_getR (r := 73) (tb_ok aX8_passes_1 6 rfl) f_RX8_32 rfl rfl rfl ?_
          refine s_iconst (v := 4) (tb_ok aX8_passes_1 7 rfl) (by decide) ?_
          refine s_iload_n (tb_ok aX8_passes_1 8 rfl) rfl ?_
          refine s_imul (tb_ok aX8_passes_1 9 rfl) ?_
          refine s_topi (z := (nI (4 * k))) (nI_mul 4 k) ?_
          refine s_iconst (v := 2) (tb_ok aX8_passes_1 10 rfl) (by decide) ?_
          refine s_iadd (tb_ok aX8_passes_1 11 rfl) ?_
          refine s_topi (z := (nI (4 * k + 2))) (nI_add' (4 * k) 2) ?_
          refine s_ialdX (x := (T1 k 3)) (tb_ok aX8_passes_1 12 rfl) rfl (by omega) (by decide) (h4.c3 hk) ?_
          refine s_name (fun x3 ex3 => ?_)
          refine s_istore (ls' := [some (.ref 66), some (.int (pdS sem fr fa m T (nI d) k)), some (.int (nI k)), some (.int x1), some (.int x2), some (.int x3)]) (tb_ok aX8_passes_1 13 rfl) rfl rfl ?_
          have el : x3 = if falS sem (T1 k) x1 (nI d) 12 < T1 k 3 then falS sem (T1 k) x1 (nI d) 12 else T1 k 3 := by
            rw [if_neg (by rw [← ex2]; exact Int32.not_lt.mpr c38)]; exact ex3
          refine s_aload_n (tb_ok aX8_passes_1 14 rfl) rfl ?_
          refine s_getR (r := 73) (tb_ok aX8_passes_1 15 rfl) f_RX8_32 rfl rfl rfl ?_
          refine s_iconst (v := 4) (tb_ok aX8_passes_1 16 rfl) (by decide) ?_
          refine s_iload_n (tb_ok aX8_passes_1 17 rfl) rfl ?_
          refine s_imul (tb_ok aX8_passes_1 18 rfl) ?_
          refine s_topi (z := (nI (4 * k))) (nI_mul 4 k) ?_
          refine s_iconst (v := 1) (tb_ok aX8_passes_1 19 rfl) (by decide) ?_
          refine s_iadd (tb_ok aX8_passes_1 20 rfl) ?_
          refine s_topi (z := (nI (4 * k + 1))) (nI_add' (4 * k) 1) ?_
          refine s_dup2 (tb_ok aX8_passes_1 21 rfl) rfl rfl ?_
          refine s_ialdX (x := (T1 k 2)) (tb_ok aX8_passes_1 22 rfl) rfl (by omega) (by decide) (h4.c2 hk) ?_
          refine s_iload_n (tb_ok aX8_passes_1 23 rfl) rfl ?_
          refine s_ior (tb_ok aX8_passes_2 0 rfl) ?_
          refine s_iastN (tb_ok aX8_passes_2 1 rfl) rfl (by omega) (by decide) ?_
          refine s_aload_n (tb_ok aX8_passes_2 2 rfl) rfl ?_
          refine s_getR (r := 73) (tb_ok aX8_passes_2 3 rfl) f_RX8_32 rfl rfl rfl ?_
          refine s_iconst (v := 4) (tb_ok aX8_passes_2 4 rfl) (by decide) ?_
          refine s_iload_n (tb_ok aX8_passes_2 5 rfl) rfl ?_
          refine s_imul (tb_ok aX8_passes_2 6 rfl) ?_
          refine s_topi (z := (nI (4 * k))) (nI_mul 4 k) ?_
          refine s_iconst (v := 2) (tb_ok aX8_passes_2 7 rfl) (by decide) ?_
          refine s_iadd (tb_ok aX8_passes_2 8 rfl) ?_
          refine s_topi (z := (nI (4 * k + 2))) (nI_add' (4 * k) 2) ?_
          refine s_dup2 (tb_ok aX8_passes_2 9 rfl) rfl rfl ?_
          refine s_ialdX (x := (T1 k 3)) (tb_ok aX8_passes_2 10 rfl) rfl (by omega) (by decide) ((up2_nn _ _ (by omega)).trans (h4.c3 hk)) ?_
          refine s_iload (tb_ok aX8_passes_2 11 rfl) rfl ?_
          refine s_isub (tb_ok aX8_passes_2 12 rfl) ?_
          refine s_iastN (tb_ok aX8_passes_2 13 rfl) rfl (by omega) (by decide) ?_
          have h5 := h4.pas1 hk ex1 el
          have hpa := pasA_eq (sem := sem) (h4.ok hk) ex1 el
          obtain ⟨T3, hT3⟩ : ∃ T3, T3 = uT T1 k (pasA sem fr fa m (T1 k) (nI d)) := ⟨_, rfl⟩
          rw [← hT3] at h5
          have e3k : T3 k = pasA sem fr fa m (T1 k) (nI d) := by rw [hT3, uT_o]
          have ek : T1 k = T k := hb k (Nat.le_refl _)
          refine s_iload_n (tb_ok aX8_passes_2 14 rfl) rfl ?_
          refine s_iload (tb_ok aX8_passes_2 15 rfl) rfl ?_
          refine s_iadd (tb_ok aX8_passes_2 16 rfl) ?_
          refine s_name (fun x4 ex4 => ?_)
          refine s_istore_n (ls' := [some (.ref 66), some (.int x4), some (.int (nI k)), some (.int x1), some (.int x2), some (.int x3)]) (tb_ok aX8_passes_2 17 rfl) rfl rfl ?_
          refine s_aload_n (tb_ok aX8_passes_2 18 rfl) rfl ?_
          refine s_getR (r := 73) (tb_ok aX8_passes_2 19 rfl) f_RX8_32 rfl rfl rfl ?_
          refine s_iconst (v := 4) (tb_ok aX8_passes_2 20 rfl) (by decide) ?_
          refine s_iload_n (tb_ok aX8_passes_2 21 rfl) rfl ?_
          refine s_imul (tb_ok aX8_passes_2 22 rfl) ?_
          refine s_topi (z := (nI (4 * k))) (nI_mul 4 k) ?_
          refine s_iconst (v := 3) (tb_ok aX8_passes_2 23 rfl) (by decide) ?_
          refine s_iadd (tb_ok aX8_passes_3 0 rfl) ?_
          refine s_topi (z := (nI (4 * k + 3))) (nI_add' (4 * k) 3) ?_
          refine s_aload_n (tb_ok aX8_passes_3 1 rfl) rfl ?_
          refine s_getR (r := 73) (tb_ok aX8_passes_3 2 rfl) f_RX8_32 rfl rfl rfl ?_
          refine s_iconst (v := 4) (tb_ok aX8_passes_3 3 rfl) (by decide) ?_
          refine s_iload_n (tb_ok aX8_passes_3 4 rfl) rfl ?_
          refine s_imul (tb_ok aX8_passes_3 5 rfl) ?_
          refine s_topi (z := (nI (4 * k))) (nI_mul 4 k) ?_
          refine s_iconst (v := 3) (tb_ok aX8_passes_3 6 rfl) (by decide) ?_
          refine s_iadd (tb_ok aX8_passes_3 7 rfl) ?_
          refine s_topi (z := (nI (4 * k + 3))) (nI_add' (4 * k) 3) ?_
          refine s_ialdX (x := (T3 k 4)) (tb_ok aX8_passes_3 8 rfl) rfl (by omega) (by decide) (h5.c4 hk) ?_
          refine s_aload_n (tb_ok aX8_passes_3 9 rfl) rfl ?_
          refine s_iconst (v := 1) (tb_ok aX8_passes_3 10 rfl) (by decide) ?_
          refine s_iload_n (tb_ok aX8_passes_3 11 rfl) rfl ?_
          refine s_iconst (v := 0) (tb_ok aX8_passes_3 12 rfl) (by decide) ?_
          refine s_cV (as := [.int (1), .int (nI k), .int (0)]) (tb_ok aX8_passes_3 13 rfl) v_RX8_366 (R_says1 h5 hk _) (by decide) rfl rfl rfl rfl rfl (Nat.le_of_ble_eq_true rfl) (by decide) (fun r2 S2 I2 L2 R2 q2 => ?_)
          obtain ⟨rfl, rfl, rfl, hf6⟩ := q2
          have h6 := h5.see (see_eS hf6)
          refine s_iadd (tb_ok aX8_passes_3 14 rfl) ?_
          refine s_iconst (v := 0) (tb_ok aX8_passes_3 15 rfl) (by decide) ?_
          refine s_bipush (v := 99) (tb_ok aX8_passes_3 16 rfl) (by decide) ?_
          refine s_cSp (as := [_, .int (0), .int (99)]) (tb_ok aX8_passes_3 17 rfl) v_RX8_348 (R_within _ _ _) (by decide) rfl rfl (Nat.le_of_ble_eq_true rfl) ?_
          rw [wit_held (by decide)]
          refine s_iastN (tb_ok aX8_passes_3 18 rfl) rfl (by omega) (by decide) ?_
          refine s_iinc (v := nI (k + 1)) (ls' := [some (.ref 66), some (.int x4), some (.int (nI (k + 1))), some (.int x1), some (.int x2), some (.int x3)]) (tb_ok aX8_passes_3 19 rfl) rfl (nI_1 _) rfl rfl ?_
          refine s_goto (tgt := 4) (tb_ok aX8_passes_3 20 rfl) (by decide) ?_
          have h7 := h6.pas2 hk (h4.ok hk) e3k (v := held (T3 k 4 + held (sem 1 (nmT (T3 k) 0 (nI d))) (-9) 9) 0 99) (by rw [e3k, pasP_4])
          have es : x4 = pdS sem fr fa m T (nI d) (k + 1) := by
            rw [ex4]
            show _ = pdS sem fr fa m T (nI d) k + (T k 3 - pasP sem fr fa m (T k) (nI d) 3)
            rw [pasP_3, ← ek, hpa, upd_o, i_subsub]
          subst es
          refine ih _ _ _ _ _ _ h7 ?_ (fun a ha => ?_) (fun a ha => ?_)
          · exact FrE.put (FrE.trans (eS_eP hf6) (FrE.put (FrE.put (FrE.trans (eS_eP hf4) hi1) (Or.inr (Or.inr ⟨rfl, by omega⟩)) _) (Or.inr (Or.inr ⟨rfl, by omega⟩)) _)) (Or.inr (Or.inr ⟨rfl, by omega⟩)) _
          · by_cases e_ : a = k
            · subst e_; rw [uT_o, ek]
            · rw [uT_n e_, hT3, uT_n e_]; exact hi2 a (by omega)
          · rw [uT_n (by omega), hT3, uT_n (by omega)]; exact hb a (by omega)
        · refine s_iload (tb_ok aX8_passes_1 3 rfl) rfl ?_
          refine s_goto (tgt := 56) (tb_ok aX8_passes_1 4 rfl) (by decide) ?_
          refine s_istore (ls' := [some (.ref 66), some (.int (pdS sem fr fa m T (nI d) k)), some (.int (nI k)), some (.int x1), some (.int x2), some (.int x2)]) (tb_ok aX8_passes_1 13 rfl) rfl rfl ?_
          have el : x2 = if falS sem (T1 k) x1 (nI d) 12 < T1 k 3 then falS sem (T1 k) x1 (nI d) 12 else T1 k 3 := by
            rw [if_pos (by rw [← ex2]; exact Int32.not_le.mp c38)]; exact ex2
          refine s_aload_n (tb_ok aX8_passes_1 14 rfl) rfl ?_
          refine s_getR (r := 73) (tb_ok aX8_passes_1 15 rfl) f_RX8_32 rfl rfl rfl ?_
          refine s_iconst (v := 4) (tb_ok aX8_passes_1 16 rfl) (by decide) ?_
          refine s_iload_n (tb_ok aX8_passes_1 17 rfl) rfl ?_
          refine s_imul (tb_ok aX8_passes_1 18 rfl) ?_
          refine s_topi (z := (nI (4 * k))) (nI_mul 4 k) ?_
          refine s_iconst (v := 1) (tb_ok aX8_passes_1 19 rfl) (by decide) ?_
          refine s_iadd (tb_ok aX8_passes_1 20 rfl) ?_
          refine s_topi (z := (nI (4 * k + 1))) (nI_add' (4 * k) 1) ?_
          refine s_dup2 (tb_ok aX8_passes_1 21 rfl) rfl rfl ?_
          refine s_ialdX (x := (T1 k 2)) (tb_ok aX8_passes_1 22 rfl) rfl (by omega) (by decide) (h4.c2 hk) ?_
          refine s_iload_n (tb_ok aX8_passes_1 23 rfl) rfl ?_
          refine s_ior (tb_ok aX8_passes_2 0 rfl) ?_
          refine s_iastN (tb_ok aX8_passes_2 1 rfl) rfl (by omega) (by decide) ?_
          refine s_aload_n (tb_ok aX8_passes_2 2 rfl) rfl ?_
          refine s_getR (r := 73) (tb_ok aX8_passes_2 3 rfl) f_RX8_32 rfl rfl rfl ?_
          refine s_iconst (v := 4) (tb_ok aX8_passes_2 4 rfl) (by decide) ?_
          refine s_iload_n (tb_ok aX8_passes_2 5 rfl) rfl ?_
          refine s_imul (tb_ok aX8_passes_2 6 rfl) ?_
          refine s_topi (z := (nI (4 * k))) (nI_mul 4 k) ?_
          refine s_iconst (v := 2) (tb_ok aX8_passes_2 7 rfl) (by decide) ?_
          refine s_iadd (tb_ok aX8_passes_2 8 rfl) ?_
          refine s_topi (z := (nI (4 * k + 2))) (nI_add' (4 * k) 2) ?_
          refine s_dup2 (tb_ok aX8_passes_2 9 rfl) rfl rfl ?_
          refine s_ialdX (x := (T1 k 3)) (tb_ok aX8_passes_2 10 rfl) rfl (by omega) (by decide) ((up2_nn _ _ (by omega)).trans (h4.c3 hk)) ?_
          refine s_iload (tb_ok aX8_passes_2 11 rfl) rfl ?_
          refine s_isub (tb_ok aX8_passes_2 12 rfl) ?_
          refine s_iastN (tb_ok aX8_passes_2 13 rfl) rfl (by omega) (by decide) ?_
          have h5 := h4.pas1 hk ex1 el
          have hpa := pasA_eq (sem := sem) (h4.ok hk) ex1 el
          obtain ⟨T3, hT3⟩ : ∃ T3, T3 = uT T1 k (pasA sem fr fa m (T1 k) (nI d)) := ⟨_, rfl⟩
          rw [← hT3] at h5
          have e3k : T3 k = pasA sem fr fa m (T1 k) (nI d) := by rw [hT3, uT_o]
          have ek : T1 k = T k := hb k (Nat.le_refl _)
          refine s_iload_n (tb_ok aX8_passes_2 14 rfl) rfl ?_
          refine s_iload (tb_ok aX8_passes_2 15 rfl) rfl ?_
          refine s_iadd (tb_ok aX8_passes_2 16 rfl) ?_
          refine s_name (fun x5 ex5 => ?_)
          refine s_istore_n (ls' := [some (.ref 66), some (.int x5), some (.int (nI k)), some (.int x1), some (.int x2), some (.int x2)]) (tb_ok aX8_passes_2 17 rfl) rfl rfl ?_
          refine s_aload_n (tb_ok aX8_passes_2 18 rfl) rfl ?_
          refine s_getR (r := 73) (tb_ok aX8_passes_2 19 rfl) f_RX8_32 rfl rfl rfl ?_
          refine s_iconst (v := 4) (tb_ok aX8_passes_2 20 rfl) (by decide) ?_
          refine s_iload_n (tb_ok aX8_passes_2 21 rfl) rfl ?_
          refine s_imul (tb_ok aX8_passes_2 22 rfl) ?_
          refine s_topi (z := (nI (4 * k))) (nI_mul 4 k) ?_
          refine s_iconst (v := 3) (tb_ok aX8_passes_2 23 rfl) (by decide) ?_
          refine s_iadd (tb_ok aX8_passes_3 0 rfl) ?_
          refine s_topi (z := (nI (4 * k + 3))) (nI_add' (4 * k) 3) ?_
          refine s_aload_n (tb_ok aX8_passes_3 1 rfl) rfl ?_
          refine s_getR (r := 73) (tb_ok aX8_passes_3 2 rfl) f_RX8_32 rfl rfl rfl ?_
          refine s_iconst (v := 4) (tb_ok aX8_passes_3 3 rfl) (by decide) ?_
          refine s_iload_n (tb_ok aX8_passes_3 4 rfl) rfl ?_
          refine s_imul (tb_ok aX8_passes_3 5 rfl) ?_
          refine s_topi (z := (nI (4 * k))) (nI_mul 4 k) ?_
          refine s_iconst (v := 3) (tb_ok aX8_passes_3 6 rfl) (by decide) ?_
          refine s_iadd (tb_ok aX8_passes_3 7 rfl) ?_
          refine s_topi (z := (nI (4 * k + 3))) (nI_add' (4 * k) 3) ?_
          refine s_ialdX (x := (T3 k 4)) (tb_ok aX8_passes_3 8 rfl) rfl (by omega) (by decide) (h5.c4 hk) ?_
          refine s_aload_n (tb_ok aX8_passes_3 9 rfl) rfl ?_
          refine s_iconst (v := 1) (tb_ok aX8_passes_3 10 rfl) (by decide) ?_
          refine s_iload_n (tb_ok aX8_passes_3 11 rfl) rfl ?_
          refine s_iconst (v := 0) (tb_ok aX8_passes_3 12 rfl) (by decide) ?_
          refine s_cV (as := [.int (1), .int (nI k), .int (0)]) (tb_ok aX8_passes_3 13 rfl) v_RX8_366 (R_says1 h5 hk _) (by decide) rfl rfl rfl rfl rfl (Nat.le_of_ble_eq_true rfl) (by decide) (fun r3 S3 I3 L3 R3 q3 => ?_)
          obtain ⟨rfl, rfl, rfl, hf6⟩ := q3
          have h6 := h5.see (see_eS hf6)
          refine s_iadd (tb_ok aX8_passes_3 14 rfl) ?_
          refine s_iconst (v := 0) (tb_ok aX8_passes_3 15 rfl) (by decide) ?_
          refine s_bipush (v := 99) (tb_ok aX8_passes_3 16 rfl) (by decide) ?_
          refine s_cSp (as := [_, .int (0), .int (99)]) (tb_ok aX8_passes_3 17 rfl) v_RX8_348 (R_within _ _ _) (by decide) rfl rfl (Nat.le_of_ble_eq_true rfl) ?_
          rw [wit_held (by decide)]
          refine s_iastN (tb_ok aX8_passes_3 18 rfl) rfl (by omega) (by decide) ?_
          refine s_iinc (v := nI (k + 1)) (ls' := [some (.ref 66), some (.int x5), some (.int (nI (k + 1))), some (.int x1), some (.int x2), some (.int x2)]) (tb_ok aX8_passes_3 19 rfl) rfl (nI_1 _) rfl rfl ?_
          refine s_goto (tgt := 4) (tb_ok aX8_passes_3 20 rfl) (by decide) ?_
          have h7 := h6.pas2 hk (h4.ok hk) e3k (v := held (T3 k 4 + held (sem 1 (nmT (T3 k) 0 (nI d))) (-9) 9) 0 99) (by rw [e3k, pasP_4])
          have es : x5 = pdS sem fr fa m T (nI d) (k + 1) := by
            rw [ex5]
            show _ = pdS sem fr fa m T (nI d) k + (T k 3 - pasP sem fr fa m (T k) (nI d) 3)
            rw [pasP_3, ← ek, hpa, upd_o, i_subsub]
          subst es
          refine ih _ _ _ _ _ _ h7 ?_ (fun a ha => ?_) (fun a ha => ?_)
          · exact FrE.put (FrE.trans (eS_eP hf6) (FrE.put (FrE.put (FrE.trans (eS_eP hf4) hi1) (Or.inr (Or.inr ⟨rfl, by omega⟩)) _) (Or.inr (Or.inr ⟨rfl, by omega⟩)) _)) (Or.inr (Or.inr ⟨rfl, by omega⟩)) _
          · by_cases e_ : a = k
            · subst e_; rw [uT_o, ek]
            · rw [uT_n e_, hT3, uT_n e_]; exact hi2 a (by omega)
          · rw [uT_n (by omega), hT3, uT_n (by omega)]; exact hb a (by omega)
  refine ev_of (by decide +kernel) rfl ?_
  show SW X _ _ _ 0 [some (.ref 66), none, none, none, none, none] [] S0 I L (R0 q) _
  refine s_iconst (v := 0) (tb_ok aX8_passes_0 0 rfl) (by decide) ?_
  refine s_istore_n (ls' := [some (.ref 66), some (.int (0)), none, none, none, none]) (tb_ok aX8_passes_0 1 rfl) rfl rfl ?_
  refine s_iconst (v := nI 0) (tb_ok aX8_passes_0 2 rfl) (by decide) ?_
  refine s_istore_n (ls' := [some (.ref 66), some (.int (0)), some (.int (nI 0)), none, none, none]) (tb_ok aX8_passes_0 3 rfl) rfl rfl ?_
  exact loop 0 (Nat.zero_le _) I L T _ _ _ h FrE.refl (fun a ha => by omega) (fun a _ => rfl)

/-- the days since are to be laid back -/
def eM (o k : Nat) : Prop := eB o k ∨ eP o k
def Mid (I A : FI) : Prop := (∀ k, k < 20 → A 74 k = I 73 k) ∧ A 66 30 = I 66 7 ∧ FrE eM A I
theorem mid_0 {I : FI} : Mid I (up2 (flO I 74 (I 73) 20) 66 30 (I 66 7)) := by
  refine ⟨fun k hk => ?_, up2_oo _ _ _ _, FrE.put (fun o k hn => ?_) (Or.inl (Or.inr (Or.inl ⟨rfl, rfl⟩))) _⟩
  · rw [up2_nn _ _ (fun e => by omega), flO_at hk]
  · have h2 : ¬ (o = 74 ∧ k < 20) := fun e => hn (Or.inl (Or.inr (Or.inr e)))
    unfold flO
    rw [if_neg h2]
theorem aside_B {I : FI} : FrE eB (up2 (flO I 74 (I 73) 20) 66 30 (I 66 7)) I := by
  refine FrE.put (fun o k hn => ?_) (Or.inr (Or.inl ⟨rfl, rfl⟩)) _
  have h2 : ¬ (o = 74 ∧ k < 20) := fun e => hn (Or.inr (Or.inr e))
  unfold flO
  rw [if_neg h2]
theorem Mid.go {I A B : FI} (h : Mid I A) (hf : FrE eP B A) : Mid I B := by
  refine ⟨fun k hk => ?_, ?_, (hf.mono (fun _ _ e => Or.inr e)).trans h.2.2⟩
  · rw [hf 74 k (fun e => by rcases e with ⟨e, _⟩ | ⟨e, _⟩ | ⟨e, _⟩ <;> omega)]; exact h.1 k hk
  · rw [hf 66 30 (fun e => by rcases e with ⟨_, _, e⟩ | ⟨_, e⟩ | ⟨e, _⟩ <;> omega)]; exact h.2.1
theorem Mid.back {I A : FI} (h : Mid I A) : FrE eB (up2 (flO A 73 (A 74) 20) 66 7 (A 66 30)) I := by
  intro o k hn
  by_cases h1 : o = 66 ∧ k = 7
  · rw [h1.1, h1.2, up2_oo]; exact h.2.1
  rw [up2_nn _ _ h1]
  unfold flO
  by_cases h2 : o = 73 ∧ k < 20
  · rw [if_pos h2, h2.1]; exact h.1 k h2.2
  · rw [if_neg h2]
    exact h.2.2 o k (fun e => by
      rcases e with e | e | e | e
      · exact hn e
      · exact hn (Or.inl e)
      · exact h1 e
      · exact h2 e)
theorem it_s {sem : Nat → (Nat → Int32) → Int32} {fr fa : Nat → Int32} {m : Nat} {f : Nat → Int32} {d k : Nat} : pasP sem fr fa m (itP sem fr fa m (nI d) f k) (nI (d + k)) = itP sem fr fa m (nI d) f (k + 1) := by
  show _ = pasP sem fr fa m (itP sem fr fa m (nI d) f k) (nI d + nI k)
  rw [nI_add']
def itT (sem : Nat → (Nat → Int32) → Int32) (fr fa : Nat → Int32) (m d : Nat) (T : Nat → Nat → Int32) (k : Nat) : Nat → Nat → Int32 := fun j => itP sem fr fa m (nI d) (T j) k
theorem RSt.its {I : FI} {m : Nat} {fr fa : Nat → Int32} {M : Nat} {T : Nat → Nat → Int32} {d k : Nat} {sem : Nat → Sem} (h : RSt I m fr fa M (fun j => pasP sem fr fa m (itT sem fr fa m d T k j) (nI (d + k))) (d + k + 1) sem) : RSt I m fr fa M (itT sem fr fa m d T (k + 1)) (d + (k + 1)) sem := by
  have e : (fun j => pasP sem fr fa m (itT sem fr fa m d T k j) (nI (d + k))) = itT sem fr fa m d T (k + 1) := by
    funext j
    exact it_s
  rw [e] at h
  exact h
set_option maxRecDepth 100000 in
set_option maxHeartbeats 1000000 in
theorem R_neverOf {X : En} {L : FL} {q : Nat × Nat} {I : FI} {m : Nat} {fr fa : Nat → Int32} {M : Nat} {T : Nat → Nat → Int32} {d : Nat} {sem : Nat → Sem} (h : RSt I m fr fa M T d sem) (hd : d ≤ 5000) {j : Nat} (hj : j < M) : Ev X 56 mX8_neverOf (0, 0) [.ref 66, .int (nI j)] S0 I L (R0 q) (AfZ q eB I (4095 &&& ~~~(itP sem fr fa m (nI d) (T j) 40 2))) := by
  have hM5 := h.M5
  have loop : ∀ k, k ≤ 40 → ∀ (I1 : FI), ∀ (L1 : FL), (RSt I1 m fr fa M (itT sem fr fa m d T k) (d + k) sem) → (Mid I I1) → SW X 56 mX8_neverOf (0, 0) 6 [some (.ref 66), some (.int (nI j)), some (.int (nI k))] [] S0 I1 L1 (R0 q) (KQ X (AfZ q eB I (4095 &&& ~~~(itP sem fr fa m (nI d) (T j) 40 2)))) := by
    refine for_up (P := fun k => ∀ (I1 : FI), ∀ (L1 : FL), (RSt I1 m fr fa M (itT sem fr fa m d T k) (d + k) sem) → (Mid I I1) → SW X 56 mX8_neverOf (0, 0) 6 [some (.ref 66), some (.int (nI j)), some (.int (nI k))] [] S0 I1 L1 (R0 q) (KQ X (AfZ q eB I (4095 &&& ~~~(itP sem fr fa m (nI d) (T j) 40 2))))) 40 ?_ ?_
    · intro I1 L1 hi hi1
      refine s_iload_n (tb_ok aX8_neverOf_0 4 rfl) rfl ?_
      refine s_bipush (v := nI 40) (tb_ok aX8_neverOf_0 5 rfl) (by decide) ?_
      refine s_icmp_ge (tgt := 23) (tb_ok aX8_neverOf_0 6 rfl) (by decide) (fun c9 => ?_) (fun c9 => ?_)
      · refine s_sipush (v := 4095) (tb_ok aX8_neverOf_0 12 rfl) (by decide) ?_
        refine s_aload_n (tb_ok aX8_neverOf_0 13 rfl) rfl ?_
        refine s_iload_n (tb_ok aX8_neverOf_0 14 rfl) rfl ?_
        refine s_cVp (as := [.int (nI j)]) (tb_ok aX8_neverOf_0 15 rfl) v_RX8_115 (R_knows hi hj) (by decide) rfl rfl rfl rfl rfl (Nat.le_of_ble_eq_true rfl) (by decide) ?_
        refine s_iconst (v := -1) (tb_ok aX8_neverOf_0 16 rfl) (by decide) ?_
        refine s_ixor (tb_ok aX8_neverOf_0 17 rfl) ?_
        refine s_topi (z := (~~~(itT sem fr fa m d T 40 j 2))) xor_m1 ?_
        refine s_iand (tb_ok aX8_neverOf_0 18 rfl) ?_
        refine s_name (fun x1 ex1 => ?_)
        refine s_istore_n (ls' := [some (.ref 66), some (.int (nI j)), some (.int x1)]) (tb_ok aX8_neverOf_0 19 rfl) rfl rfl ?_
        refine s_aload_n (tb_ok aX8_neverOf_0 20 rfl) rfl ?_
        refine s_cV (as := []) (tb_ok aX8_neverOf_0 21 rfl) v_RX8_397 (R_laysBack) (by decide) rfl rfl rfl rfl rfl (Nat.le_of_ble_eq_true rfl) (by decide) (fun r1 S1 I1 L1 R1 q1 => ?_)
        obtain ⟨rfl, rfl, rfl, rfl, rfl⟩ := q1
        refine s_iload_n (tb_ok aX8_neverOf_0 22 rfl) rfl ?_
        refine s_iret (tb_ok aX8_neverOf_0 23 rfl) rfl ?_
        exact afZ ex1 hi1.back
      · simp (disch := omega) only [nI_ltI, nI_leI, nI_eq] at c9
        omega
    · intro k hk ih I1 L1 hi hi1
      refine s_iload_n (tb_ok aX8_neverOf_0 4 rfl) rfl ?_
      refine s_bipush (v := nI 40) (tb_ok aX8_neverOf_0 5 rfl) (by decide) ?_
      refine s_icmp_ge (tgt := 23) (tb_ok aX8_neverOf_0 6 rfl) (by decide) (fun c9 => ?_) (fun c9 => ?_)
      · simp (disch := omega) only [nI_ltI, nI_leI, nI_eq] at c9
        omega
      · refine s_aload_n (tb_ok aX8_neverOf_0 7 rfl) rfl ?_
        refine s_cV (as := []) (tb_ok aX8_neverOf_0 8 rfl) v_RX8_381 (R_passes hi (by omega)) (by decide) rfl rfl rfl rfl rfl (Nat.le_of_ble_eq_true rfl) (by decide) (fun r1 S1 I1 L1 R1 q1 => ?_)
        obtain ⟨rfl, rfl, rfl, hp, hpf⟩ := q1
        have hp := hp.its
        refine s_pop (tb_ok aX8_neverOf_0 9 rfl) rfl ?_
        refine s_iinc (v := nI (k + 1)) (ls' := [some (.ref 66), some (.int (nI j)), some (.int (nI (k + 1)))]) (tb_ok aX8_neverOf_0 10 rfl) rfl (nI_1 _) rfl rfl ?_
        refine s_goto (tgt := 6) (tb_ok aX8_neverOf_0 11 rfl) (by decide) ?_
        exact ih _ _ hp (hi1.go hpf)
  refine ev_of (by decide +kernel) rfl ?_
  show SW X _ _ _ 0 [some (.ref 66), some (.int (nI j)), none] [] S0 I L (R0 q) _
  refine s_aload_n (tb_ok aX8_neverOf_0 0 rfl) rfl ?_
  refine s_cV (as := []) (tb_ok aX8_neverOf_0 1 rfl) v_RX8_394 (R_laysAside) (by decide) rfl rfl rfl rfl rfl (Nat.le_of_ble_eq_true rfl) (by decide) (fun r1 S1 I1 L1 R1 q1 => ?_)
  obtain ⟨rfl, rfl, rfl, rfl, rfl⟩ := q1
  have ha := h.see (see_eB (aside_B (I := I)))
  refine s_iconst (v := nI 0) (tb_ok aX8_neverOf_0 2 rfl) (by decide) ?_
  refine s_istore_n (ls' := [some (.ref 66), some (.int (nI j)), some (.int (nI 0))]) (tb_ok aX8_neverOf_0 3 rfl) rfl rfl ?_
  exact loop 0 (Nat.zero_le _) _ _ ha mid_0
