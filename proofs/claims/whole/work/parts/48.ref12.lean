/-! the reference: the fewest things to tell -/
theorem smod12 : ∀ i, i < 12 → ((nI i &&& 31).toBitVec.smod 32).toNat = i := by decide
theorem bit_at (x : Int32) {i : Nat} (hi : i < 12) : (x >>> (nI i &&& 31)) &&& 1 = 0 ↔ x.toBitVec.getLsbD i = false := by
  have hb : ((x >>> (nI i &&& 31)) &&& 1).toBitVec.getLsbD 0 = x.toBitVec.getLsbD i := by
    rw [Int32.toBitVec_and, Int32.toBitVec_shiftRight, BitVec.getLsbD_and, BitVec.getLsbD_sshiftRight', smod12 i hi, if_pos (by omega)]
    rw [show (1 : Int32).toBitVec.getLsbD 0 = true from rfl]
    simp
  rcases and1 (x >>> (nI i &&& 31)) with h | h
  · rw [h] at hb ⊢
    rw [← hb]
    decide
  · rw [h] at hb ⊢
    rw [← hb]
    decide
theorem bit_N {v i : Nat} (hi : i < 12) : (nI v >>> (nI i &&& 31)) &&& 1 = 0 ↔ v.testBit i = false := by
  rw [bit_at _ hi]
  show (BitVec.ofNat 32 v).getLsbD i = false ↔ _
  rw [BitVec.getLsbD_ofNat]
  simp only [show decide (i < 32) = true from decide_eq_true (by omega), Bool.true_and]
theorem shl_2 {j : Nat} (hj : j < 12) : (1 : Int32) <<< (nI j &&& 31) = nI (2 ^ j) := by
  match j, hj with
  | 0, _ => rfl
  | 1, _ => rfl
  | 2, _ => rfl
  | 3, _ => rfl
  | 4, _ => rfl
  | 5, _ => rfl
  | 6, _ => rfl
  | 7, _ => rfl
  | 8, _ => rfl
  | 9, _ => rfl
  | 10, _ => rfl
  | 11, _ => rfl
theorem p_lt {j : Nat} (hj : j < 12) : 2 ^ j < 4096 := Nat.lt_of_lt_of_le (Nat.pow_lt_pow_right (by omega) hj) (by decide)
theorem nI_an {a b : Nat} (ha : a < 4096) : nI a &&& nI b = nI (a &&& b) := by
  apply Int32.toBitVec_inj.mp
  show BitVec.ofNat 32 a &&& BitVec.ofNat 32 b = BitVec.ofNat 32 (a &&& b)
  exact (BitVec.ofNat_and).symm
theorem pw_and {v i : Nat} (hi : i < 12) : nI (2 ^ i) &&& nI v = 0 ↔ v.testBit i = false := by
  rw [nI_an (p_lt hi)]
  have hle : 2 ^ i &&& v ≤ 2 ^ i := Nat.and_le_left
  have hp := p_lt hi
  rw [show (0 : Int32) = nI 0 from rfl, nI_eq (by omega) (by omega)]
  constructor
  · intro h
    have h2 := congrArg (fun x => Nat.testBit x i) h
    simpa [Nat.testBit_and, Nat.testBit_two_pow_self] using h2
  · intro h
    apply Nat.eq_of_testBit_eq
    intro j
    rw [Nat.testBit_and, Nat.zero_testBit]
    by_cases e : i = j
    · subst e; rw [h, Bool.and_false]
    · rw [Nat.testBit_two_pow_of_ne e, Bool.false_and]
theorem bc_0 : ∀ v, v < 4096 → v ≠ 0 → ¬ bcF (nI v) < 1 := by
  have key : ∀ a, a < 64 → ∀ b, b < 64 → 64 * a + b ≠ 0 → ¬ bcF (nI (64 * a + b)) < 1 := by decide +kernel
  intro v hv h0
  have h := key (v / 64) (by omega) (v % 64) (by omega)
  rw [show 64 * (v / 64) + v % 64 = v by omega] at h
  exact h h0
theorem bc_2 : ∀ v, v < 4096 → v ≠ 0 → (∀ i, i < 12 → v ≠ 2 ^ i) → ¬ bcF (nI v) < 2 := by
  have key : ∀ a, a < 64 → ∀ b, b < 64 → 64 * a + b ≠ 0 → (∀ i, i < 12 → 64 * a + b ≠ 2 ^ i) → ¬ bcF (nI (64 * a + b)) < 2 := by decide +kernel
  intro v hv h0 h1
  have h := key (v / 64) (by omega) (v % 64) (by omega)
  rw [show 64 * (v / 64) + v % 64 = v by omega] at h
  exact h h0 h1
theorem bc_p : ∀ i, i < 12 → bcF (nI (2 ^ i)) = 1 := by decide +kernel
theorem bc_00 : bcF (nI 0) = 0 := by decide +kernel
section FEW
variable {fr fa : Nat → Int32} {m v g : Nat}
abbrev wsF (fr fa : Nat → Int32) (m v g s : Nat) : Prop := nI s &&& nI v = 0 ∧ ¬ (clo fr fa m (-1) 12 (nI v ||| nI s) >>> (nI g &&& 31)) &&& 1 = 0
def fwR (fr fa : Nat → Int32) (m v g : Nat) : Nat → Int32
  | 0 => -1
  | s + 1 => if wsF fr fa m v g s ∧ (fwR fr fa m v g s = -1 ∨ bcF (nI s) < bcF (fwR fr fa m v g s)) then nI s else fwR fr fa m v g s
theorem fwR_N : ∀ s, fwR fr fa m v g s = -1 ∨ ∃ w, w < s ∧ fwR fr fa m v g s = nI w := by
  intro s
  induction s with
  | zero => exact Or.inl rfl
  | succ s ih =>
    by_cases h : wsF fr fa m v g s ∧ (fwR fr fa m v g s = -1 ∨ bcF (nI s) < bcF (fwR fr fa m v g s))
    · exact Or.inr ⟨s, by omega, if_pos h⟩
    · have e : fwR fr fa m v g (s + 1) = fwR fr fa m v g s := if_neg h
      rw [e]
      rcases ih with h1 | ⟨w, h1, h2⟩
      · exact Or.inl h1
      · exact Or.inr ⟨w, by omega, h2⟩
theorem fwF_spec : ∀ n f, f + n = 12 → (∃ i, f ≤ i ∧ i < 12 ∧ wsF fr fa m v g (2 ^ i)) → ∃ p, f ≤ p ∧ p < 12 ∧ wsF fr fa m v g (2 ^ p) ∧ (∀ i, f ≤ i → i < p → ¬ wsF fr fa m v g (2 ^ i)) ∧ fwF fr fa m (nI v) (nI g) n f = nI (2 ^ p) := by
  intro n
  induction n with
  | zero => intro f hf ⟨i, h1, h2, _⟩; omega
  | succ n ih =>
    intro f hf ⟨i, h1, h2, h3⟩
    have hf12 : f < 12 := by omega
    have hc : ((nI v >>> (nI f &&& 31)) &&& 1 = 0 ∧ ¬ ((clo fr fa m (-1) 12 (nI v ||| ((1 : Int32) <<< (nI f &&& 31)))) >>> (nI g &&& 31)) &&& 1 = 0) ↔ wsF fr fa m v g (2 ^ f) := by
      unfold wsF
      rw [shl_2 hf12, bit_N hf12, pw_and hf12]
    by_cases hw : wsF fr fa m v g (2 ^ f)
    · refine ⟨f, Nat.le_refl _, hf12, hw, fun j a b => by omega, ?_⟩
      show (if (nI v >>> (nI f &&& 31)) &&& 1 = 0 ∧ ¬ ((clo fr fa m (-1) 12 (nI v ||| ((1 : Int32) <<< (nI f &&& 31)))) >>> (nI g &&& 31)) &&& 1 = 0 then (1 : Int32) <<< (nI f &&& 31) else fwF fr fa m (nI v) (nI g) n (f + 1)) = _
      rw [if_pos (hc.mpr hw), shl_2 hf12]
    · obtain ⟨p, p1, p2, p3, p4, p5⟩ := ih (f + 1) (by omega) ⟨i, by
        rcases Nat.lt_or_eq_of_le h1 with h | h
        · omega
        · subst h; exact absurd h3 hw, h2, h3⟩
      refine ⟨p, by omega, p2, p3, fun j a b => ?_, ?_⟩
      · rcases Nat.lt_or_eq_of_le a with h | h
        · exact p4 j (by omega) b
        · subst h; exact hw
      · show (if (nI v >>> (nI f &&& 31)) &&& 1 = 0 ∧ ¬ ((clo fr fa m (-1) 12 (nI v ||| ((1 : Int32) <<< (nI f &&& 31)))) >>> (nI g &&& 31)) &&& 1 = 0 then (1 : Int32) <<< (nI f &&& 31) else fwF fr fa m (nI v) (nI g) n (f + 1)) = _
        rw [if_neg (fun h => hw (hc.mp h))]
        exact p5
theorem fwR_few (hfa : okFa m fa) (hv : v < 4096) (hg : g < 12) : fwR fr fa m v g 4096 = few fr fa m (nI v) (nI g) := by
  unfold few
  have hv0 : nI v ||| nI 0 = nI v := by rw [nI_or, Nat.or_zero]
  have h00 : nI 0 &&& nI v = 0 := by
    rw [nI_an (by omega), Nat.zero_and]; rfl
  by_cases h0 : ¬ ((clo fr fa m (-1) 12 (nI v)) >>> (nI g &&& 31)) &&& 1 = 0
  · rw [if_pos h0]
    have hw : wsF fr fa m v g 0 := ⟨h00, by rw [hv0]; exact h0⟩
    have key : ∀ s, s < 4096 → fwR fr fa m v g (s + 1) = nI 0 := by
      intro s
      induction s with
      | zero => intro _; exact if_pos ⟨hw, Or.inl rfl⟩
      | succ s ih =>
        intro hs
        have e := ih (by omega)
        show (if wsF fr fa m v g (s + 1) ∧ (fwR fr fa m v g (s + 1) = -1 ∨ bcF (nI (s + 1)) < bcF (fwR fr fa m v g (s + 1))) then nI (s + 1) else fwR fr fa m v g (s + 1)) = nI 0
        rw [e, bc_00, if_neg ?_]
        rintro ⟨_, h | h⟩
        · exact nI_m1 (by omega) h
        · have := bc_0 (s + 1) (by omega) (by omega)
          refine this (Int32.lt_of_lt_of_le h (by decide))
    exact key 4095 (by omega)
  · rw [if_neg h0]
    have h0 : ((clo fr fa m (-1) 12 (nI v)) >>> (nI g &&& 31)) &&& 1 = 0 := Classical.not_not.mp h0
    have hn0 : ¬ wsF fr fa m v g 0 := fun h => h.2 (by rw [hv0]; exact h0)
    obtain ⟨w, hw, ew, hwm⟩ := clo_w (fr := fr) (wo := -1) hfa hv
    have hvg : v.testBit g = false := by
      rw [ew, bit_N hg] at h0
      cases hb : v.testBit g with
      | false => rfl
      | true => rw [hwm g hb] at h0; cases h0
    have hself : wsF fr fa m v g (2 ^ g) := by
      refine ⟨(pw_and hg).mpr hvg, fun h => ?_⟩
      rw [nI_or] at h
      obtain ⟨u, hu, eu, hum⟩ := clo_w (fr := fr) (wo := -1) hfa (or_4096 hv (p_lt hg))
      rw [eu, bit_N hg, hum g (by rw [Nat.testBit_or, Nat.testBit_two_pow_self, Bool.or_true])] at h
      cases h
    obtain ⟨p, p1, p2, p3, p4, p5⟩ := fwF_spec (fr := fr) (fa := fa) (m := m) (v := v) (g := g) 12 0 rfl ⟨g, Nat.zero_le _, hg, hself⟩
    rw [p5]
    have hp := p_lt p2
    have low : ∀ s, s ≤ 2 ^ p → fwR fr fa m v g s = -1 ∨ ∃ w, w < 4096 ∧ fwR fr fa m v g s = nI w ∧ ¬ bcF (nI w) < 2 := by
      intro s
      induction s with
      | zero => intro _; exact Or.inl rfl
      | succ s ih =>
        intro hs
        by_cases h : wsF fr fa m v g s ∧ (fwR fr fa m v g s = -1 ∨ bcF (nI s) < bcF (fwR fr fa m v g s))
        · refine Or.inr ⟨s, by omega, if_pos h, bc_2 s (by omega) (fun e => hn0 (e ▸ h.1)) (fun i hi e => ?_)⟩
          rcases Nat.lt_or_ge i p with hip | hip
          · exact p4 i (Nat.zero_le _) hip (e ▸ h.1)
          · have : 2 ^ p ≤ 2 ^ i := Nat.pow_le_pow_right (by omega) hip
            omega
        · have e : fwR fr fa m v g (s + 1) = fwR fr fa m v g s := if_neg h
          rw [e]
          exact ih (by omega)
    have at_p : fwR fr fa m v g (2 ^ p + 1) = nI (2 ^ p) := by
      refine if_pos ⟨p3, ?_⟩
      rcases low (2 ^ p) (Nat.le_refl _) with h | ⟨w, hw, ew2, hb⟩
      · exact Or.inl h
      · refine Or.inr ?_
        rw [ew2, bc_p p p2]
        exact Int32.lt_of_lt_of_le (by decide) (Int32.not_lt.mp hb)
    have key : ∀ k, 2 ^ p + 1 + k ≤ 4096 → fwR fr fa m v g (2 ^ p + 1 + k) = nI (2 ^ p) := by
      intro k
      induction k with
      | zero => intro _; exact at_p
      | succ k ih =>
        intro hs
        have e := ih (by omega)
        show (if wsF fr fa m v g (2 ^ p + 1 + k) ∧ (fwR fr fa m v g (2 ^ p + 1 + k) = -1 ∨ bcF (nI (2 ^ p + 1 + k)) < bcF (fwR fr fa m v g (2 ^ p + 1 + k))) then nI (2 ^ p + 1 + k) else fwR fr fa m v g (2 ^ p + 1 + k)) = nI (2 ^ p)
        rw [e, bc_p p p2, if_neg ?_]
        rintro ⟨_, h | h⟩
        · exact nI_m1 (by omega) h
        · exact bc_0 (2 ^ p + 1 + k) (by omega) (by generalize 2 ^ p = P; omega) h
    have hsum : 2 ^ p + 1 + (4095 - 2 ^ p) = 4096 := by
      generalize 2 ^ p = P at hp
      omega
    have h := key (4095 - 2 ^ p) (Nat.le_of_eq hsum)
    rw [hsum] at h
    exact h
end FEW
set_option maxRecDepth 100000 in
set_option maxHeartbeats 1000000 in
theorem R_fewest0 {X : En} {L : FL} {q : Nat × Nat} {I : FI} {m : Nat} {fr fa : Nat → Int32} {M : Nat} {T : Nat → Nat → Int32} {d : Nat} {sem : Nat → Sem} (h : RSt I m fr fa M T d sem) {j g v : Nat} (hj : j < M) (hv : v < 4096) (ev : T j 2 = nI v) : Ev X 2 mX8_fewestOf (0, 0) [.ref 66, .int (nI j), .int (nI g)] S0 I L (R0 q) (PureR (some (.int (fwR fr fa m v g 4096))) S0 I L (R0 q)) := by
  have hM5 := h.M5
  have loop : ∀ k, k ≤ 4096 → ∀ (o6 : Option Value), SW X 2 mX8_fewestOf (0, 0) 12 [some (.ref 66), some (.int (nI j)), some (.int (nI g)), some (.int (nI v)), some (.int (fwR fr fa m v g k)), some (.int (nI k)), o6] [] S0 I L (R0 q) (KQ X (PureR (some (.int (fwR fr fa m v g 4096))) S0 I L (R0 q))) := by
    refine for_up (P := fun k => ∀ (o6 : Option Value), SW X 2 mX8_fewestOf (0, 0) 12 [some (.ref 66), some (.int (nI j)), some (.int (nI g)), some (.int (nI v)), some (.int (fwR fr fa m v g k)), some (.int (nI k)), o6] [] S0 I L (R0 q) (KQ X (PureR (some (.int (fwR fr fa m v g 4096))) S0 I L (R0 q)))) 4096 ?_ ?_
    · intro o6 
      refine s_iload (tb_ok aX8_fewestOf_0 8 rfl) rfl ?_
      refine s_sipush (v := nI 4095) (tb_ok aX8_fewestOf_0 9 rfl) (by decide) ?_
      refine s_icmp_gt (tgt := 85) (tb_ok aX8_fewestOf_0 10 rfl) (by decide) (fun c17 => ?_) (fun c17 => ?_)
      · refine s_iload (tb_ok aX8_fewestOf_1 21 rfl) rfl ?_
        refine s_iret (tb_ok aX8_fewestOf_1 22 rfl) rfl ?_
        exact pureR
      · exact absurd c17 (by decide)
    · intro k hk ih o6 
      refine s_iload (tb_ok aX8_fewestOf_0 8 rfl) rfl ?_
      refine s_sipush (v := nI 4095) (tb_ok aX8_fewestOf_0 9 rfl) (by decide) ?_
      refine s_icmp_gt (tgt := 85) (tb_ok aX8_fewestOf_0 10 rfl) (by decide) (fun c17 => ?_) (fun c17 => ?_)
      · simp (disch := omega) only [nI_ltI, nI_leI, nI_eq] at c17
        omega
      · refine s_iload (tb_ok aX8_fewestOf_0 11 rfl) rfl ?_
        refine s_iconst (v := -1) (tb_ok aX8_fewestOf_0 12 rfl) (by decide) ?_
        refine s_icmp_eq (tgt := 39) (tb_ok aX8_fewestOf_0 13 rfl) (by decide) (fun c23 => ?_) (fun c23 => ?_)
        · refine s_iconst (v := 1) (tb_ok aX8_fewestOf_0 19 rfl) (by decide) ?_
          refine s_goto (tgt := 44) (tb_ok aX8_fewestOf_0 20 rfl) (by decide) ?_
          refine s_istore (ls' := [some (.ref 66), some (.int (nI j)), some (.int (nI g)), some (.int (nI v)), some (.int (fwR fr fa m v g k)), some (.int (nI k)), some (.int (1))]) (tb_ok aX8_fewestOf_0 22 rfl) rfl rfl ?_
          refine s_iload (tb_ok aX8_fewestOf_0 23 rfl) rfl ?_
          refine s_iload_n (tb_ok aX8_fewestOf_1 0 rfl) rfl ?_
          refine s_iand (tb_ok aX8_fewestOf_1 1 rfl) ?_
          refine s_if_ne (tgt := 79) (tb_ok aX8_fewestOf_1 2 rfl) (by decide) (fun c50 => ?_) (fun c50 => ?_)
          · refine s_iinc (v := nI (k + 1)) (ls' := [some (.ref 66), some (.int (nI j)), some (.int (nI g)), some (.int (nI v)), some (.int (fwR fr fa m v g k)), some (.int (nI (k + 1))), some (.int (1))]) (tb_ok aX8_fewestOf_1 19 rfl) rfl (nI_1 _) rfl rfl ?_
            refine s_goto (tgt := 12) (tb_ok aX8_fewestOf_1 20 rfl) (by decide) ?_
            refine s_ls ?_ (ih (some (.int (1))))
            rw [show fwR fr fa m v g (k + 1) = fwR fr fa m v g k from if_neg (fun h_ => by first | exact c50 h_.1.1 | exact c72 (and1_1.mpr h_.1.2) | exact h_.2.elim c23 (fun k_ => Int32.not_le.mpr k_ c36))]
          · refine s_iload (tb_ok aX8_fewestOf_1 3 rfl) rfl ?_
            refine s_if_eq (tgt := 79) (tb_ok aX8_fewestOf_1 4 rfl) (by decide) (fun c55 => ?_) (fun c55 => ?_)
            · exact absurd c55 (by decide)
            · refine s_aload_n (tb_ok aX8_fewestOf_1 5 rfl) rfl ?_
              refine s_iload_n (tb_ok aX8_fewestOf_1 6 rfl) rfl ?_
              refine s_iload (tb_ok aX8_fewestOf_1 7 rfl) rfl ?_
              refine s_ior (tb_ok aX8_fewestOf_1 8 rfl) ?_
              refine s_iconst (v := -1) (tb_ok aX8_fewestOf_1 9 rfl) (by decide) ?_
              refine s_cVp (as := [_, .int (-1)]) (tb_ok aX8_fewestOf_1 10 rfl) v_RX8_127 (R_allOf h.1 (by rw [nI_or]; exact h.z (or_4096 hv (by omega)) _)) (by decide) rfl rfl rfl rfl rfl (Nat.le_of_ble_eq_true rfl) (by decide) ?_
              refine s_iload_n (tb_ok aX8_fewestOf_1 11 rfl) rfl ?_
              refine s_ishr (tb_ok aX8_fewestOf_1 12 rfl) ?_
              refine s_iconst (v := 1) (tb_ok aX8_fewestOf_1 13 rfl) (by decide) ?_
              refine s_iand (tb_ok aX8_fewestOf_1 14 rfl) ?_
              refine s_iconst (v := 1) (tb_ok aX8_fewestOf_1 15 rfl) (by decide) ?_
              refine s_icmp_ne (tgt := 79) (tb_ok aX8_fewestOf_1 16 rfl) (by decide) (fun c72 => ?_) (fun c72 => ?_)
              · refine s_iinc (v := nI (k + 1)) (ls' := [some (.ref 66), some (.int (nI j)), some (.int (nI g)), some (.int (nI v)), some (.int (fwR fr fa m v g k)), some (.int (nI (k + 1))), some (.int (1))]) (tb_ok aX8_fewestOf_1 19 rfl) rfl (nI_1 _) rfl rfl ?_
                refine s_goto (tgt := 12) (tb_ok aX8_fewestOf_1 20 rfl) (by decide) ?_
                refine s_ls ?_ (ih (some (.int (1))))
                rw [show fwR fr fa m v g (k + 1) = fwR fr fa m v g k from if_neg (fun h_ => by first | exact c50 h_.1.1 | exact c72 (and1_1.mpr h_.1.2) | exact h_.2.elim c23 (fun k_ => Int32.not_le.mpr k_ c36))]
              · refine s_iload (tb_ok aX8_fewestOf_1 17 rfl) rfl ?_
                refine s_istore (ls' := [some (.ref 66), some (.int (nI j)), some (.int (nI g)), some (.int (nI v)), some (.int (nI k)), some (.int (nI k)), some (.int (1))]) (tb_ok aX8_fewestOf_1 18 rfl) rfl rfl ?_
                refine s_iinc (v := nI (k + 1)) (ls' := [some (.ref 66), some (.int (nI j)), some (.int (nI g)), some (.int (nI v)), some (.int (nI k)), some (.int (nI (k + 1))), some (.int (1))]) (tb_ok aX8_fewestOf_1 19 rfl) rfl (nI_1 _) rfl rfl ?_
                refine s_goto (tgt := 12) (tb_ok aX8_fewestOf_1 20 rfl) (by decide) ?_
                refine s_ls ?_ (ih (some (.int (1))))
                rw [show fwR fr fa m v g (k + 1) = nI k from if_pos ⟨⟨c50, and1_1.mp c72⟩, by first | exact Or.inl c23 | exact Or.inr (Int32.not_le.mp c36)⟩]
        · rcases fwR_N (fr := fr) (fa := fa) (m := m) (v := v) (g := g) k with ew | ⟨w, hw, ew⟩
          · exact absurd ew c23
          refine s_iload (tb_ok aX8_fewestOf_0 14 rfl) rfl ?_
          refine s_cSp (as := [.int (nI k)]) (tb_ok aX8_fewestOf_0 15 rfl) v_RX8_345 (R_bitsOf (by omega)) (by decide) rfl rfl (Nat.le_of_ble_eq_true rfl) ?_
          refine s_iload (tb_ok aX8_fewestOf_0 16 rfl) rfl ?_
          refine s_cSp (as := [.int (fwR fr fa m v g k)]) (tb_ok aX8_fewestOf_0 17 rfl) v_RX8_345 (R_bitsX ew (by omega)) (by decide) rfl rfl (Nat.le_of_ble_eq_true rfl) ?_
          refine s_icmp_ge (tgt := 43) (tb_ok aX8_fewestOf_0 18 rfl) (by decide) (fun c36 => ?_) (fun c36 => ?_)
          · refine s_iconst (v := 0) (tb_ok aX8_fewestOf_0 21 rfl) (by decide) ?_
            refine s_istore (ls' := [some (.ref 66), some (.int (nI j)), some (.int (nI g)), some (.int (nI v)), some (.int (fwR fr fa m v g k)), some (.int (nI k)), some (.int (0))]) (tb_ok aX8_fewestOf_0 22 rfl) rfl rfl ?_
            refine s_iload (tb_ok aX8_fewestOf_0 23 rfl) rfl ?_
            refine s_iload_n (tb_ok aX8_fewestOf_1 0 rfl) rfl ?_
            refine s_iand (tb_ok aX8_fewestOf_1 1 rfl) ?_
            refine s_if_ne (tgt := 79) (tb_ok aX8_fewestOf_1 2 rfl) (by decide) (fun c50 => ?_) (fun c50 => ?_)
            · refine s_iinc (v := nI (k + 1)) (ls' := [some (.ref 66), some (.int (nI j)), some (.int (nI g)), some (.int (nI v)), some (.int (fwR fr fa m v g k)), some (.int (nI (k + 1))), some (.int (0))]) (tb_ok aX8_fewestOf_1 19 rfl) rfl (nI_1 _) rfl rfl ?_
              refine s_goto (tgt := 12) (tb_ok aX8_fewestOf_1 20 rfl) (by decide) ?_
              refine s_ls ?_ (ih (some (.int (0))))
              rw [show fwR fr fa m v g (k + 1) = fwR fr fa m v g k from if_neg (fun h_ => by first | exact c50 h_.1.1 | exact c72 (and1_1.mpr h_.1.2) | exact h_.2.elim c23 (fun k_ => Int32.not_le.mpr k_ c36))]
            · refine s_iload (tb_ok aX8_fewestOf_1 3 rfl) rfl ?_
              refine s_if_eq (tgt := 79) (tb_ok aX8_fewestOf_1 4 rfl) (by decide) (fun c55 => ?_) (fun c55 => ?_)
              · refine s_iinc (v := nI (k + 1)) (ls' := [some (.ref 66), some (.int (nI j)), some (.int (nI g)), some (.int (nI v)), some (.int (fwR fr fa m v g k)), some (.int (nI (k + 1))), some (.int (0))]) (tb_ok aX8_fewestOf_1 19 rfl) rfl (nI_1 _) rfl rfl ?_
                refine s_goto (tgt := 12) (tb_ok aX8_fewestOf_1 20 rfl) (by decide) ?_
                refine s_ls ?_ (ih (some (.int (0))))
                rw [show fwR fr fa m v g (k + 1) = fwR fr fa m v g k from if_neg (fun h_ => by first | exact c50 h_.1.1 | exact c72 (and1_1.mpr h_.1.2) | exact h_.2.elim c23 (fun k_ => Int32.not_le.mpr k_ c36))]
              · exact absurd c55 (by decide)
          · refine s_iconst (v := 1) (tb_ok aX8_fewestOf_0 19 rfl) (by decide) ?_
            refine s_goto (tgt := 44) (tb_ok aX8_fewestOf_0 20 rfl) (by decide) ?_
            refine s_istore (ls' := [some (.ref 66), some (.int (nI j)), some (.int (nI g)), some (.int (nI v)), some (.int (fwR fr fa m v g k)), some (.int (nI k)), some (.int (1))]) (tb_ok aX8_fewestOf_0 22 rfl) rfl rfl ?_
            refine s_iload (tb_ok aX8_fewestOf_0 23 rfl) rfl ?_
            refine s_iload_n (tb_ok aX8_fewestOf_1 0 rfl) rfl ?_
            refine s_iand (tb_ok aX8_fewestOf_1 1 rfl) ?_
            refine s_if_ne (tgt := 79) (tb_ok aX8_fewestOf_1 2 rfl) (by decide) (fun c50 => ?_) (fun c50 => ?_)
            · refine s_iinc (v := nI (k + 1)) (ls' := [some (.ref 66), some (.int (nI j)), some (.int (nI g)), some (.int (nI v)), some (.int (fwR fr fa m v g k)), some (.int (nI (k + 1))), some (.int (1))]) (tb_ok aX8_fewestOf_1 19 rfl) rfl (nI_1 _) rfl rfl ?_
              refine s_goto (tgt := 12) (tb_ok aX8_fewestOf_1 20 rfl) (by decide) ?_
              refine s_ls ?_ (ih (some (.int (1))))
              rw [show fwR fr fa m v g (k + 1) = fwR fr fa m v g k from if_neg (fun h_ => by first | exact c50 h_.1.1 | exact c72 (and1_1.mpr h_.1.2) | exact h_.2.elim c23 (fun k_ => Int32.not_le.mpr k_ c36))]
            · refine s_iload (tb_ok aX8_fewestOf_1 3 rfl) rfl ?_
              refine s_if_eq (tgt := 79) (tb_ok aX8_fewestOf_1 4 rfl) (by decide) (fun c55 => ?_) (fun c55 => ?_)
              · exact absurd c55 (by decide)
              · refine s_aload_n (tb_ok aX8_fewestOf_1 5 rfl) rfl ?_
                refine s_iload_n (tb_ok aX8_fewestOf_1 6 rfl) rfl ?_
                refine s_iload (tb_ok aX8_fewestOf_1 7 rfl) rfl ?_
                refine s_ior (tb_ok aX8_fewestOf_1 8 rfl) ?_
                refine s_iconst (v := -1) (tb_ok aX8_fewestOf_1 9 rfl) (by decide) ?_
                refine s_cVp (as := [_, .int (-1)]) (tb_ok aX8_fewestOf_1 10 rfl) v_RX8_127 (R_allOf h.1 (by rw [nI_or]; exact h.z (or_4096 hv (by omega)) _)) (by decide) rfl rfl rfl rfl rfl (Nat.le_of_ble_eq_true rfl) (by decide) ?_
                refine s_iload_n (tb_ok aX8_fewestOf_1 11 rfl) rfl ?_
                refine s_ishr (tb_ok aX8_fewestOf_1 12 rfl) ?_
                refine s_iconst (v := 1) (tb_ok aX8_fewestOf_1 13 rfl) (by decide) ?_
                refine s_iand (tb_ok aX8_fewestOf_1 14 rfl) ?_
                refine s_iconst (v := 1) (tb_ok aX8_fewestOf_1 15 rfl) (by decide) ?_
                refine s_icmp_ne (tgt := 79) (tb_ok aX8_fewestOf_1 16 rfl) (by decide) (fun c72 => ?_) (fun c72 => ?_)
                · refine s_iinc (v := nI (k + 1)) (ls' := [some (.ref 66), some (.int (nI j)), some (.int (nI g)), some (.int (nI v)), some (.int (fwR fr fa m v g k)), some (.int (nI (k + 1))), some (.int (1))]) (tb_ok aX8_fewestOf_1 19 rfl) rfl (nI_1 _) rfl rfl ?_
                  refine s_goto (tgt := 12) (tb_ok aX8_fewestOf_1 20 rfl) (by decide) ?_
                  refine s_ls ?_ (ih (some (.int (1))))
                  rw [show fwR fr fa m v g (k + 1) = fwR fr fa m v g k from if_neg (fun h_ => by first | exact c50 h_.1.1 | exact c72 (and1_1.mpr h_.1.2) | exact h_.2.elim c23 (fun k_ => Int32.not_le.mpr k_ c36))]
                · refine s_iload (tb_ok aX8_fewestOf_1 17 rfl) rfl ?_
                  refine s_istore (ls' := [some (.ref 66), some (.int (nI j)), some (.int (nI g)), some (.int (nI v)), some (.int (nI k)), some (.int (nI k)), some (.int (1))]) (tb_ok aX8_fewestOf_1 18 rfl) rfl rfl ?_
                  refine s_iinc (v := nI (k + 1)) (ls' := [some (.ref 66), some (.int (nI j)), some (.int (nI g)), some (.int (nI v)), some (.int (nI k)), some (.int (nI (k + 1))), some (.int (1))]) (tb_ok aX8_fewestOf_1 19 rfl) rfl (nI_1 _) rfl rfl ?_
                  refine s_goto (tgt := 12) (tb_ok aX8_fewestOf_1 20 rfl) (by decide) ?_
                  refine s_ls ?_ (ih (some (.int (1))))
                  rw [show fwR fr fa m v g (k + 1) = nI k from if_pos ⟨⟨c50, and1_1.mp c72⟩, by first | exact Or.inl c23 | exact Or.inr (Int32.not_le.mp c36)⟩]
  refine ev_of (by decide +kernel) rfl ?_
  show SW X _ _ _ 0 [some (.ref 66), some (.int (nI j)), some (.int (nI g)), none, none, none, none] [] S0 I L (R0 q) _
  refine s_aload_n (tb_ok aX8_fewestOf_0 0 rfl) rfl ?_
  refine s_iload_n (tb_ok aX8_fewestOf_0 1 rfl) rfl ?_
  refine s_cVp (as := [.int (nI j)]) (tb_ok aX8_fewestOf_0 2 rfl) v_RX8_115 (R_knows h hj) (by decide) rfl rfl rfl rfl rfl (Nat.le_of_ble_eq_true rfl) (by decide) ?_
  rw [ev]
  refine s_istore_n (ls' := [some (.ref 66), some (.int (nI j)), some (.int (nI g)), some (.int (nI v)), none, none, none]) (tb_ok aX8_fewestOf_0 3 rfl) rfl rfl ?_
  refine s_iconst (v := -1) (tb_ok aX8_fewestOf_0 4 rfl) (by decide) ?_
  refine s_istore (ls' := [some (.ref 66), some (.int (nI j)), some (.int (nI g)), some (.int (nI v)), some (.int (-1)), none, none]) (tb_ok aX8_fewestOf_0 5 rfl) rfl rfl ?_
  refine s_iconst (v := nI 0) (tb_ok aX8_fewestOf_0 6 rfl) (by decide) ?_
  refine s_istore (ls' := [some (.ref 66), some (.int (nI j)), some (.int (nI g)), some (.int (nI v)), some (.int (-1)), some (.int (nI 0)), none]) (tb_ok aX8_fewestOf_0 7 rfl) rfl rfl ?_
  exact loop 0 (Nat.zero_le _) _

theorem R_fewestOf {X : En} {L : FL} {q : Nat × Nat} {I : FI} {m : Nat} {fr fa : Nat → Int32} {M : Nat} {T : Nat → Nat → Int32} {d : Nat} {sem : Nat → Sem} (h : RSt I m fr fa M T d sem) {j g : Nat} (hj : j < M) (hg : g < 12) : Ev X 2 mX8_fewestOf (0, 0) [.ref 66, .int (nI j), .int (nI g)] S0 I L (R0 q) (PureR (some (.int (few fr fa m (T j 2) (nI g)))) S0 I L (R0 q)) := by
  obtain ⟨_, _, ⟨v, hv, ev⟩, _, _⟩ := h.ok hj
  have e := R_fewest0 (X := X) (L := L) (q := q) h (g := g) hj hv ev
  rw [fwR_few h.2.1 hv hg, ← ev] at e
  exact e
theorem few_N {fr fa : Nat → Int32} {m v g : Nat} (hfa : okFa m fa) (hv : v < 4096) (hg : g < 12) : ∃ w, w < 4096 ∧ few fr fa m (nI v) (nI g) = nI w ∨ few fr fa m (nI v) (nI g) = -1 := by
  rw [← fwR_few hfa hv hg]
  rcases fwR_N (fr := fr) (fa := fa) (m := m) (v := v) (g := g) 4096 with h | ⟨w, h1, h2⟩
  · exact ⟨0, Or.inr h⟩
  · exact ⟨w, Or.inl ⟨h1, h2⟩⟩