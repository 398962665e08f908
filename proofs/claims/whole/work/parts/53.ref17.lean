/-! the reference: what was told, read back -/
section TEL
variable {A I : FI} {m : Nat} {fr fa : Nat → Int32} {M : Nat} {T : Nat → Nat → Int32} {d : Nat} {sem : Nat → Sem}
theorem RSt.kind (h : RSt I m fr fa M T d sem) {j : Nat} {v : Int32} (hj : j < M) (hk : okT (upd (T j) 0 v)) : RSt (up2 I 72 j v) m fr fa M (uT T j (upd (T j) 0 v)) d sem := by
  obtain ⟨⟨a1, a2, a3⟩, hfa, ⟨b1, b2, b3⟩, hd, hx, ho⟩ := h
  refine ⟨⟨a1, a2, a3⟩, hfa, ⟨b1, b2, fun a ha => ?_⟩, hd, hx, fun a ha => ?_⟩
  · obtain ⟨e0, e1, e2, e3, e4⟩ := b3 a ha
    by_cases ha2 : a = j
    · subst ha2
      rw [uT_o]
      exact ⟨by rw [up2_oo, upd_o], by rw [upd_ne (by decide)]; exact e1, by rw [upd_ne (by decide)]; exact e2, by rw [upd_ne (by decide)]; exact e3, by rw [upd_ne (by decide)]; exact e4⟩
    · rw [uT_n ha2]
      exact ⟨by rw [up2_nn _ _ (fun e => by omega)]; exact e0, e1, e2, e3, e4⟩
  · by_cases ha2 : a = j
    · subst ha2; rw [uT_o]; exact hk
    · rw [uT_n ha2]; exact ho a ha
/-- the text at place i -/
def RT1 (I : FI) (i : Nat) (sem : Nat → Sem) : Prop := ∃ (n : Nat) (t : Nat → Int32), I 68 i = nI n ∧ n ≤ 160 ∧ (∀ k, k < n → I 67 (160 * i + k) = t k) ∧ (∀ k, k < n → ¬ t k < 0) ∧ ∃ v0 c1 c2 c3 f1 f2 f3, readP t n v0 = .inl (c1, c2, c3, f1, f2, f3) ∧ sem = sem3 f1 f2 f3
theorem RSt.rule (h : RSt I m fr fa M T d sem) {i : Nat} {sem2 : Nat → Sem} (hi : i < 6) (ht : RT1 I i sem2) : RSt (up2 I 66 4 (nI i)) m fr fa M T d sem2 := by
  obtain ⟨a, hfa, b, hd, _, ho⟩ := h
  obtain ⟨n, t, e1, e2, e3, e4, e5⟩ := ht
  exact ⟨a, hfa, b, hd, ⟨i, n, t, up2_oo _ _ _ _, hi, e1, e2, e3, e4, e5⟩, ho⟩
end TEL
def eC (c : Nat × Nat) (o k : Nat) : Prop := eB o k ∨ (o = c.1 ∧ k = c.2)
theorem eC_up {c : Nat × Nat} {A I : FI} (h : FrE (eC c) A I) (v : Int32) : FrE eB (up2 A c.1 c.2 v) (up2 I c.1 c.2 v) := fun o k hn => by
  by_cases e : o = c.1 ∧ k = c.2
  · rw [e.1, e.2, up2_oo, up2_oo]
  · rw [up2_nn _ _ e, up2_nn _ _ e]
    exact h o k (fun h2 => h2.elim hn e)
theorem eC_up2 {c : Nat × Nat} {A I : FI} {v : Int32} (h : FrE eB A (up2 I c.1 c.2 v)) : FrE (eC c) A I := fun o k hn => by
  rw [h o k (fun e => hn (Or.inl e)), up2_nn _ _ (fun e => hn (Or.inr e))]
theorem eC_back {c : Nat × Nat} {A I : FI} (h : FrE (eC c) A I) {v : Int32} (hv : v = I c.1 c.2) : FrE eB (up2 A c.1 c.2 v) I := fun o k hn => by
  by_cases e : o = c.1 ∧ k = c.2
  · rw [e.1, e.2, up2_oo]; exact hv
  · rw [up2_nn _ _ e]
    exact h o k (fun h2 => h2.elim hn e)
theorem eB_eC {c : Nat × Nat} {A I : FI} (h : FrE eB A I) : FrE (eC c) A I := h.mono (fun _ _ e => Or.inl e)
def dnI : Nat → Int32
  | 0 => -1
  | k + 1 => nI k
theorem dn_s {k : Nat} (h : k < 2 ^ 31) : nI k + Int32.ofInt (-1) = dnI k := by
  cases k with
  | zero => rfl
  | succ k =>
    show nI (k + 1) + Int32.ofInt (-1) = nI k
    have e : nI (k + 1) = nI k + 1 := (nI_1 k).symm
    rw [e, Int32.add_assoc]
    exact Int32.add_zero _
theorem lst_add {f : Nat → Int32} : ∀ n v, v + n < 1000 → lstS f (n + 1) v = if lstS f n v = -1 then (if f (v + n) = -1 then nI (v + n) else -1) else lstS f n v := by
  intro n
  induction n with
  | zero => intro v _; rfl
  | succ n ih =>
    intro v hv
    show (if f v = -1 then nI v else lstS f (n + 1) (v + 1)) = _
    rw [show lstS f (n + 1) v = (if f v = -1 then nI v else lstS f n (v + 1)) from rfl]
    by_cases h : f v = -1
    · rw [if_pos h, if_pos h, if_neg (nI_m1 (by omega))]
    · rw [if_neg h, if_neg h, ih (v + 1) (by omega), show v + 1 + n = v + (n + 1) by omega]
set_option maxRecDepth 100000 in
set_option maxHeartbeats 1000000 in
theorem R_most0 {X : En} {S : Sh} {I : FI} {L : FL} {R : FR} : Ev X 0 mX8_mostOf (0, 0) [.int (0)] S I L R (PureR (some (.int (999))) S I L R) := by
  refine ev_of (by decide +kernel) rfl ?_
  show SW X _ _ _ 0 [some (.int (0))] [] S I L R _
  refine s_iload_n (tb_ok aX8_mostOf_0 0 rfl) rfl ?_
  refine s_if_ne (tgt := 10) (tb_ok aX8_mostOf_0 1 rfl) (by decide) (fun c1 => ?_) (fun c1 => ?_)
  · exact absurd c1 (by decide)
  · refine s_sipush (v := 999) (tb_ok aX8_mostOf_0 2 rfl) (by decide) ?_
    refine s_goto (tgt := 33) (tb_ok aX8_mostOf_0 3 rfl) (by decide) ?_
    refine s_iret (tb_ok aX8_mostOf_0 15 rfl) rfl ?_
    exact pureR

set_option maxRecDepth 100000 in
set_option maxHeartbeats 1000000 in
theorem R_most1 {X : En} {S : Sh} {I : FI} {L : FL} {R : FR} : Ev X 0 mX8_mostOf (0, 0) [.int (1)] S I L R (PureR (some (.int (9))) S I L R) := by
  refine ev_of (by decide +kernel) rfl ?_
  show SW X _ _ _ 0 [some (.int (1))] [] S I L R _
  refine s_iload_n (tb_ok aX8_mostOf_0 0 rfl) rfl ?_
  refine s_if_ne (tgt := 10) (tb_ok aX8_mostOf_0 1 rfl) (by decide) (fun c1 => ?_) (fun c1 => ?_)
  · refine s_iload_n (tb_ok aX8_mostOf_0 4 rfl) rfl ?_
    refine s_iconst (v := 1) (tb_ok aX8_mostOf_0 5 rfl) (by decide) ?_
    refine s_icmp_ne (tgt := 20) (tb_ok aX8_mostOf_0 6 rfl) (by decide) (fun c12 => ?_) (fun c12 => ?_)
    · exact absurd c12 (by decide)
    · refine s_bipush (v := 9) (tb_ok aX8_mostOf_0 7 rfl) (by decide) ?_
      refine s_goto (tgt := 33) (tb_ok aX8_mostOf_0 8 rfl) (by decide) ?_
      refine s_iret (tb_ok aX8_mostOf_0 15 rfl) rfl ?_
      exact pureR
  · exact absurd c1 (by decide)

set_option maxRecDepth 100000 in
set_option maxHeartbeats 1000000 in
theorem R_most2 {X : En} {S : Sh} {I : FI} {L : FL} {R : FR} : Ev X 0 mX8_mostOf (0, 0) [.int (2)] S I L R (PureR (some (.int (4095))) S I L R) := by
  refine ev_of (by decide +kernel) rfl ?_
  show SW X _ _ _ 0 [some (.int (2))] [] S I L R _
  refine s_iload_n (tb_ok aX8_mostOf_0 0 rfl) rfl ?_
  refine s_if_ne (tgt := 10) (tb_ok aX8_mostOf_0 1 rfl) (by decide) (fun c1 => ?_) (fun c1 => ?_)
  · refine s_iload_n (tb_ok aX8_mostOf_0 4 rfl) rfl ?_
    refine s_iconst (v := 1) (tb_ok aX8_mostOf_0 5 rfl) (by decide) ?_
    refine s_icmp_ne (tgt := 20) (tb_ok aX8_mostOf_0 6 rfl) (by decide) (fun c12 => ?_) (fun c12 => ?_)
    · refine s_iload_n (tb_ok aX8_mostOf_0 9 rfl) rfl ?_
      refine s_iconst (v := 2) (tb_ok aX8_mostOf_0 10 rfl) (by decide) ?_
      refine s_icmp_ne (tgt := 31) (tb_ok aX8_mostOf_0 11 rfl) (by decide) (fun c22 => ?_) (fun c22 => ?_)
      · exact absurd c22 (by decide)
      · refine s_sipush (v := 4095) (tb_ok aX8_mostOf_0 12 rfl) (by decide) ?_
        refine s_goto (tgt := 33) (tb_ok aX8_mostOf_0 13 rfl) (by decide) ?_
        refine s_iret (tb_ok aX8_mostOf_0 15 rfl) rfl ?_
        exact pureR
    · exact absurd c12 (by decide)
  · exact absurd c1 (by decide)

set_option maxRecDepth 100000 in
set_option maxHeartbeats 1000000 in
theorem R_most3 {X : En} {S : Sh} {I : FI} {L : FL} {R : FR} : Ev X 0 mX8_mostOf (0, 0) [.int (3)] S I L R (PureR (some (.int (99))) S I L R) := by
  refine ev_of (by decide +kernel) rfl ?_
  show SW X _ _ _ 0 [some (.int (3))] [] S I L R _
  refine s_iload_n (tb_ok aX8_mostOf_0 0 rfl) rfl ?_
  refine s_if_ne (tgt := 10) (tb_ok aX8_mostOf_0 1 rfl) (by decide) (fun c1 => ?_) (fun c1 => ?_)
  · refine s_iload_n (tb_ok aX8_mostOf_0 4 rfl) rfl ?_
    refine s_iconst (v := 1) (tb_ok aX8_mostOf_0 5 rfl) (by decide) ?_
    refine s_icmp_ne (tgt := 20) (tb_ok aX8_mostOf_0 6 rfl) (by decide) (fun c12 => ?_) (fun c12 => ?_)
    · refine s_iload_n (tb_ok aX8_mostOf_0 9 rfl) rfl ?_
      refine s_iconst (v := 2) (tb_ok aX8_mostOf_0 10 rfl) (by decide) ?_
      refine s_icmp_ne (tgt := 31) (tb_ok aX8_mostOf_0 11 rfl) (by decide) (fun c22 => ?_) (fun c22 => ?_)
      · refine s_bipush (v := 99) (tb_ok aX8_mostOf_0 14 rfl) (by decide) ?_
        refine s_iret (tb_ok aX8_mostOf_0 15 rfl) rfl ?_
        exact pureR
      · exact absurd c22 (by decide)
    · exact absurd c12 (by decide)
  · exact absurd c1 (by decide)

set_option maxRecDepth 100000 in
set_option maxHeartbeats 1000000 in
theorem R_most4 {X : En} {S : Sh} {I : FI} {L : FL} {R : FR} : Ev X 0 mX8_mostOf (0, 0) [.int (4)] S I L R (PureR (some (.int (99))) S I L R) := by
  refine ev_of (by decide +kernel) rfl ?_
  show SW X _ _ _ 0 [some (.int (4))] [] S I L R _
  refine s_iload_n (tb_ok aX8_mostOf_0 0 rfl) rfl ?_
  refine s_if_ne (tgt := 10) (tb_ok aX8_mostOf_0 1 rfl) (by decide) (fun c1 => ?_) (fun c1 => ?_)
  · refine s_iload_n (tb_ok aX8_mostOf_0 4 rfl) rfl ?_
    refine s_iconst (v := 1) (tb_ok aX8_mostOf_0 5 rfl) (by decide) ?_
    refine s_icmp_ne (tgt := 20) (tb_ok aX8_mostOf_0 6 rfl) (by decide) (fun c12 => ?_) (fun c12 => ?_)
    · refine s_iload_n (tb_ok aX8_mostOf_0 9 rfl) rfl ?_
      refine s_iconst (v := 2) (tb_ok aX8_mostOf_0 10 rfl) (by decide) ?_
      refine s_icmp_ne (tgt := 31) (tb_ok aX8_mostOf_0 11 rfl) (by decide) (fun c22 => ?_) (fun c22 => ?_)
      · refine s_bipush (v := 99) (tb_ok aX8_mostOf_0 14 rfl) (by decide) ?_
        refine s_iret (tb_ok aX8_mostOf_0 15 rfl) rfl ?_
        exact pureR
      · exact absurd c22 (by decide)
    · exact absurd c12 (by decide)
  · exact absurd c1 (by decide)

set_option maxRecDepth 100000 in
set_option maxHeartbeats 1000000 in
theorem R_lays0 {X : En} {L : FL} {q : Nat × Nat} {I : FI} {j : Nat} (hj : j < 5) (v : Int32) : Ev X 0 mX8_lays (0, 0) [.ref 66, .int (0), .int (nI j), .int v] S0 I L (R0 q) (PureR none S0 (up2 I 66 7 v) L (R0 q)) := by
  refine ev_of (by decide +kernel) rfl ?_
  show SW X _ _ _ 0 [some (.ref 66), some (.int (0)), some (.int (nI j)), some (.int v)] [] S0 I L (R0 q) _
  refine s_iload_n (tb_ok aX8_lays_0 0 rfl) rfl ?_
  refine s_if_ne (tgt := 12) (tb_ok aX8_lays_0 1 rfl) (by decide) (fun c1 => ?_) (fun c1 => ?_)
  · exact absurd c1 (by decide)
  · refine s_aload_n (tb_ok aX8_lays_0 2 rfl) rfl ?_
    refine s_iload_n (tb_ok aX8_lays_0 3 rfl) rfl ?_
    refine s_putI (tb_ok aX8_lays_0 4 rfl) f_RX8_105 rfl rfl ?_
    refine s_goto (tgt := 53) (tb_ok aX8_lays_0 5 rfl) (by decide) ?_
    refine s_vret (tb_ok aX8_lays_1 9 rfl) rfl ?_
    exact pureR

set_option maxRecDepth 100000 in
set_option maxHeartbeats 1000000 in
theorem R_lays1 {X : En} {L : FL} {q : Nat × Nat} {I : FI} {j : Nat} (hj : j < 5) (v : Int32) : Ev X 0 mX8_lays (0, 0) [.ref 66, .int (1), .int (nI j), .int v] S0 I L (R0 q) (PureR none S0 (up2 I 73 (4 * j) v) L (R0 q)) := by
  refine ev_of (by decide +kernel) rfl ?_
  show SW X _ _ _ 0 [some (.ref 66), some (.int (1)), some (.int (nI j)), some (.int v)] [] S0 I L (R0 q) _
  refine s_iload_n (tb_ok aX8_lays_0 0 rfl) rfl ?_
  refine s_if_ne (tgt := 12) (tb_ok aX8_lays_0 1 rfl) (by decide) (fun c1 => ?_) (fun c1 => ?_)
  · refine s_iload_n (tb_ok aX8_lays_0 6 rfl) rfl ?_
    refine s_iconst (v := 5) (tb_ok aX8_lays_0 7 rfl) (by decide) ?_
    refine s_icmp_ge (tgt := 33) (tb_ok aX8_lays_0 8 rfl) (by decide) (fun c14 => ?_) (fun c14 => ?_)
    · exact absurd c14 (by decide)
    · refine s_aload_n (tb_ok aX8_lays_0 9 rfl) rfl ?_
      refine s_getR (r := 73) (tb_ok aX8_lays_0 10 rfl) f_RX8_32 rfl rfl rfl ?_
      refine s_iconst (v := 4) (tb_ok aX8_lays_0 11 rfl) (by decide) ?_
      refine s_iload_n (tb_ok aX8_lays_0 12 rfl) rfl ?_
      refine s_imul (tb_ok aX8_lays_0 13 rfl) ?_
      refine s_topi (z := (nI (4 * j))) (nI_mul 4 j) ?_
      refine s_iload_n (tb_ok aX8_lays_0 14 rfl) rfl ?_
      refine s_iadd (tb_ok aX8_lays_0 15 rfl) ?_
      refine s_topi (z := (nI (4 * j + 1))) (nI_add' (4 * j) 1) ?_
      refine s_iconst (v := 1) (tb_ok aX8_lays_0 16 rfl) (by decide) ?_
      refine s_isub (tb_ok aX8_lays_0 17 rfl) ?_
      refine s_topi (z := (nI (4 * j))) (nI_sub' (a := 1) (b := 4 * j + 1) (by omega)) ?_
      refine s_iload_n (tb_ok aX8_lays_0 18 rfl) rfl ?_
      refine s_iastN (tb_ok aX8_lays_0 19 rfl) rfl (by omega) (by decide) ?_
      refine s_goto (tgt := 53) (tb_ok aX8_lays_0 20 rfl) (by decide) ?_
      refine s_vret (tb_ok aX8_lays_1 9 rfl) rfl ?_
      exact pureR
  · exact absurd c1 (by decide)

set_option maxRecDepth 100000 in
set_option maxHeartbeats 1000000 in
theorem R_lays2 {X : En} {L : FL} {q : Nat × Nat} {I : FI} {j : Nat} (hj : j < 5) (v : Int32) : Ev X 0 mX8_lays (0, 0) [.ref 66, .int (2), .int (nI j), .int v] S0 I L (R0 q) (PureR none S0 (up2 I 73 (4 * j + 1) v) L (R0 q)) := by
  refine ev_of (by decide +kernel) rfl ?_
  show SW X _ _ _ 0 [some (.ref 66), some (.int (2)), some (.int (nI j)), some (.int v)] [] S0 I L (R0 q) _
  refine s_iload_n (tb_ok aX8_lays_0 0 rfl) rfl ?_
  refine s_if_ne (tgt := 12) (tb_ok aX8_lays_0 1 rfl) (by decide) (fun c1 => ?_) (fun c1 => ?_)
  · refine s_iload_n (tb_ok aX8_lays_0 6 rfl) rfl ?_
    refine s_iconst (v := 5) (tb_ok aX8_lays_0 7 rfl) (by decide) ?_
    refine s_icmp_ge (tgt := 33) (tb_ok aX8_lays_0 8 rfl) (by decide) (fun c14 => ?_) (fun c14 => ?_)
    · exact absurd c14 (by decide)
    · refine s_aload_n (tb_ok aX8_lays_0 9 rfl) rfl ?_
      refine s_getR (r := 73) (tb_ok aX8_lays_0 10 rfl) f_RX8_32 rfl rfl rfl ?_
      refine s_iconst (v := 4) (tb_ok aX8_lays_0 11 rfl) (by decide) ?_
      refine s_iload_n (tb_ok aX8_lays_0 12 rfl) rfl ?_
      refine s_imul (tb_ok aX8_lays_0 13 rfl) ?_
      refine s_topi (z := (nI (4 * j))) (nI_mul 4 j) ?_
      refine s_iload_n (tb_ok aX8_lays_0 14 rfl) rfl ?_
      refine s_iadd (tb_ok aX8_lays_0 15 rfl) ?_
      refine s_topi (z := (nI (4 * j + 2))) (nI_add' (4 * j) 2) ?_
      refine s_iconst (v := 1) (tb_ok aX8_lays_0 16 rfl) (by decide) ?_
      refine s_isub (tb_ok aX8_lays_0 17 rfl) ?_
      refine s_topi (z := (nI (4 * j + 1))) (nI_sub' (a := 1) (b := 4 * j + 2) (by omega)) ?_
      refine s_iload_n (tb_ok aX8_lays_0 18 rfl) rfl ?_
      refine s_iastN (tb_ok aX8_lays_0 19 rfl) rfl (by omega) (by decide) ?_
      refine s_goto (tgt := 53) (tb_ok aX8_lays_0 20 rfl) (by decide) ?_
      refine s_vret (tb_ok aX8_lays_1 9 rfl) rfl ?_
      exact pureR
  · exact absurd c1 (by decide)

set_option maxRecDepth 100000 in
set_option maxHeartbeats 1000000 in
theorem R_lays3 {X : En} {L : FL} {q : Nat × Nat} {I : FI} {j : Nat} (hj : j < 5) (v : Int32) : Ev X 0 mX8_lays (0, 0) [.ref 66, .int (3), .int (nI j), .int v] S0 I L (R0 q) (PureR none S0 (up2 I 73 (4 * j + 2) v) L (R0 q)) := by
  refine ev_of (by decide +kernel) rfl ?_
  show SW X _ _ _ 0 [some (.ref 66), some (.int (3)), some (.int (nI j)), some (.int v)] [] S0 I L (R0 q) _
  refine s_iload_n (tb_ok aX8_lays_0 0 rfl) rfl ?_
  refine s_if_ne (tgt := 12) (tb_ok aX8_lays_0 1 rfl) (by decide) (fun c1 => ?_) (fun c1 => ?_)
  · refine s_iload_n (tb_ok aX8_lays_0 6 rfl) rfl ?_
    refine s_iconst (v := 5) (tb_ok aX8_lays_0 7 rfl) (by decide) ?_
    refine s_icmp_ge (tgt := 33) (tb_ok aX8_lays_0 8 rfl) (by decide) (fun c14 => ?_) (fun c14 => ?_)
    · exact absurd c14 (by decide)
    · refine s_aload_n (tb_ok aX8_lays_0 9 rfl) rfl ?_
      refine s_getR (r := 73) (tb_ok aX8_lays_0 10 rfl) f_RX8_32 rfl rfl rfl ?_
      refine s_iconst (v := 4) (tb_ok aX8_lays_0 11 rfl) (by decide) ?_
      refine s_iload_n (tb_ok aX8_lays_0 12 rfl) rfl ?_
      refine s_imul (tb_ok aX8_lays_0 13 rfl) ?_
      refine s_topi (z := (nI (4 * j))) (nI_mul 4 j) ?_
      refine s_iload_n (tb_ok aX8_lays_0 14 rfl) rfl ?_
      refine s_iadd (tb_ok aX8_lays_0 15 rfl) ?_
      refine s_topi (z := (nI (4 * j + 3))) (nI_add' (4 * j) 3) ?_
      refine s_iconst (v := 1) (tb_ok aX8_lays_0 16 rfl) (by decide) ?_
      refine s_isub (tb_ok aX8_lays_0 17 rfl) ?_
      refine s_topi (z := (nI (4 * j + 2))) (nI_sub' (a := 1) (b := 4 * j + 3) (by omega)) ?_
      refine s_iload_n (tb_ok aX8_lays_0 18 rfl) rfl ?_
      refine s_iastN (tb_ok aX8_lays_0 19 rfl) rfl (by omega) (by decide) ?_
      refine s_goto (tgt := 53) (tb_ok aX8_lays_0 20 rfl) (by decide) ?_
      refine s_vret (tb_ok aX8_lays_1 9 rfl) rfl ?_
      exact pureR
  · exact absurd c1 (by decide)

set_option maxRecDepth 100000 in
set_option maxHeartbeats 1000000 in
theorem R_lays4 {X : En} {L : FL} {q : Nat × Nat} {I : FI} {j : Nat} (hj : j < 5) (v : Int32) : Ev X 0 mX8_lays (0, 0) [.ref 66, .int (4), .int (nI j), .int v] S0 I L (R0 q) (PureR none S0 (up2 I 73 (4 * j + 3) v) L (R0 q)) := by
  refine ev_of (by decide +kernel) rfl ?_
  show SW X _ _ _ 0 [some (.ref 66), some (.int (4)), some (.int (nI j)), some (.int v)] [] S0 I L (R0 q) _
  refine s_iload_n (tb_ok aX8_lays_0 0 rfl) rfl ?_
  refine s_if_ne (tgt := 12) (tb_ok aX8_lays_0 1 rfl) (by decide) (fun c1 => ?_) (fun c1 => ?_)
  · refine s_iload_n (tb_ok aX8_lays_0 6 rfl) rfl ?_
    refine s_iconst (v := 5) (tb_ok aX8_lays_0 7 rfl) (by decide) ?_
    refine s_icmp_ge (tgt := 33) (tb_ok aX8_lays_0 8 rfl) (by decide) (fun c14 => ?_) (fun c14 => ?_)
    · exact absurd c14 (by decide)
    · refine s_aload_n (tb_ok aX8_lays_0 9 rfl) rfl ?_
      refine s_getR (r := 73) (tb_ok aX8_lays_0 10 rfl) f_RX8_32 rfl rfl rfl ?_
      refine s_iconst (v := 4) (tb_ok aX8_lays_0 11 rfl) (by decide) ?_
      refine s_iload_n (tb_ok aX8_lays_0 12 rfl) rfl ?_
      refine s_imul (tb_ok aX8_lays_0 13 rfl) ?_
      refine s_topi (z := (nI (4 * j))) (nI_mul 4 j) ?_
      refine s_iload_n (tb_ok aX8_lays_0 14 rfl) rfl ?_
      refine s_iadd (tb_ok aX8_lays_0 15 rfl) ?_
      refine s_topi (z := (nI (4 * j + 4))) (nI_add' (4 * j) 4) ?_
      refine s_iconst (v := 1) (tb_ok aX8_lays_0 16 rfl) (by decide) ?_
      refine s_isub (tb_ok aX8_lays_0 17 rfl) ?_
      refine s_topi (z := (nI (4 * j + 3))) (nI_sub' (a := 1) (b := 4 * j + 4) (by omega)) ?_
      refine s_iload_n (tb_ok aX8_lays_0 18 rfl) rfl ?_
      refine s_iastN (tb_ok aX8_lays_0 19 rfl) rfl (by omega) (by decide) ?_
      refine s_goto (tgt := 53) (tb_ok aX8_lays_0 20 rfl) (by decide) ?_
      refine s_vret (tb_ok aX8_lays_1 9 rfl) rfl ?_
      exact pureR
  · exact absurd c1 (by decide)

set_option maxRecDepth 100000 in
set_option maxHeartbeats 1000000 in
theorem R_lays5 {X : En} {L : FL} {q : Nat × Nat} {I : FI} {j : Nat} (hj : j < 5) (v : Int32) : Ev X 0 mX8_lays (0, 0) [.ref 66, .int (5), .int (nI j), .int v] S0 I L (R0 q) (PureR none S0 (up2 I 72 j v) L (R0 q)) := by
  refine ev_of (by decide +kernel) rfl ?_
  show SW X _ _ _ 0 [some (.ref 66), some (.int (5)), some (.int (nI j)), some (.int v)] [] S0 I L (R0 q) _
  refine s_iload_n (tb_ok aX8_lays_0 0 rfl) rfl ?_
  refine s_if_ne (tgt := 12) (tb_ok aX8_lays_0 1 rfl) (by decide) (fun c1 => ?_) (fun c1 => ?_)
  · refine s_iload_n (tb_ok aX8_lays_0 6 rfl) rfl ?_
    refine s_iconst (v := 5) (tb_ok aX8_lays_0 7 rfl) (by decide) ?_
    refine s_icmp_ge (tgt := 33) (tb_ok aX8_lays_0 8 rfl) (by decide) (fun c14 => ?_) (fun c14 => ?_)
    · refine s_iload_n (tb_ok aX8_lays_0 21 rfl) rfl ?_
      refine s_iconst (v := 5) (tb_ok aX8_lays_0 22 rfl) (by decide) ?_
      refine s_icmp_ne (tgt := 48) (tb_ok aX8_lays_0 23 rfl) (by decide) (fun c35 => ?_) (fun c35 => ?_)
      · exact absurd c35 (by decide)
      · refine s_aload_n (tb_ok aX8_lays_1 0 rfl) rfl ?_
        refine s_getR (r := 72) (tb_ok aX8_lays_1 1 rfl) f_RX8_29 rfl rfl rfl ?_
        refine s_iload_n (tb_ok aX8_lays_1 2 rfl) rfl ?_
        refine s_iload_n (tb_ok aX8_lays_1 3 rfl) rfl ?_
        refine s_iastN (tb_ok aX8_lays_1 4 rfl) rfl (by omega) (by decide) ?_
        refine s_goto (tgt := 53) (tb_ok aX8_lays_1 5 rfl) (by decide) ?_
        refine s_vret (tb_ok aX8_lays_1 9 rfl) rfl ?_
        exact pureR
    · exact absurd c14 (by decide)
  · exact absurd c1 (by decide)

set_option maxRecDepth 100000 in
set_option maxHeartbeats 1000000 in
theorem R_lays6 {X : En} {L : FL} {q : Nat × Nat} {I : FI} {j : Nat} (hj : j < 5) (v : Int32) : Ev X 0 mX8_lays (0, 0) [.ref 66, .int (6), .int (nI j), .int v] S0 I L (R0 q) (PureR none S0 (up2 I 66 4 v) L (R0 q)) := by
  refine ev_of (by decide +kernel) rfl ?_
  show SW X _ _ _ 0 [some (.ref 66), some (.int (6)), some (.int (nI j)), some (.int v)] [] S0 I L (R0 q) _
  refine s_iload_n (tb_ok aX8_lays_0 0 rfl) rfl ?_
  refine s_if_ne (tgt := 12) (tb_ok aX8_lays_0 1 rfl) (by decide) (fun c1 => ?_) (fun c1 => ?_)
  · refine s_iload_n (tb_ok aX8_lays_0 6 rfl) rfl ?_
    refine s_iconst (v := 5) (tb_ok aX8_lays_0 7 rfl) (by decide) ?_
    refine s_icmp_ge (tgt := 33) (tb_ok aX8_lays_0 8 rfl) (by decide) (fun c14 => ?_) (fun c14 => ?_)
    · refine s_iload_n (tb_ok aX8_lays_0 21 rfl) rfl ?_
      refine s_iconst (v := 5) (tb_ok aX8_lays_0 22 rfl) (by decide) ?_
      refine s_icmp_ne (tgt := 48) (tb_ok aX8_lays_0 23 rfl) (by decide) (fun c35 => ?_) (fun c35 => ?_)
      · refine s_aload_n (tb_ok aX8_lays_1 6 rfl) rfl ?_
        refine s_iload_n (tb_ok aX8_lays_1 7 rfl) rfl ?_
        refine s_putI (tb_ok aX8_lays_1 8 rfl) f_RX8_108 rfl rfl ?_
        refine s_vret (tb_ok aX8_lays_1 9 rfl) rfl ?_
        exact pureR
      · exact absurd c35 (by decide)
    · exact absurd c14 (by decide)
  · exact absurd c1 (by decide)

set_option maxRecDepth 100000 in
set_option maxHeartbeats 1000000 in
theorem R_tells0 {X : En} {L : FL} {q : Nat × Nat} {I : FI} {m : Nat} {fr fa : Nat → Int32} {M : Nat} {T : Nat → Nat → Int32} {d : Nat} {sem : Nat → Sem} (h : RSt I m fr fa M T d sem) (hd : d ≤ 5000) {j : Nat} (hj : j < M) {s z : Nat} (hs : s < 4) (hth : I 78 s = 1) (hz : I 80 s = nI z) (hz20 : z ≤ 20) : Ev X 61 mX8_tells (0, 0) [.ref 66, .int (nI s), .int (nI j), .int (0)] S0 I L (R0 q) (AfZ q eB I (fstP sem fr fa m (nI d) (T j) (fun t => I 81 (40 * s + t)) z)) := by
  have hM5 := h.M5
  refine ev_of (by decide +kernel) rfl ?_
  show SW X _ _ _ 0 [some (.ref 66), some (.int (nI s)), some (.int (nI j)), some (.int (0)), none, none, none, none, none, none, none] [] S0 I L (R0 q) _
  refine s_iload_n (tb_ok aX8_tells_0 0 rfl) rfl ?_
  refine s_cSp (as := [.int (nI s)]) (tb_ok aX8_tells_0 1 rfl) v_RX8_413 (R_isSheet _) (by decide) rfl rfl (Nat.le_of_ble_eq_true rfl) ?_
  refine s_topi (bI_t (inN (n := s) (hi := 3) (by omega) (by decide))) ?_
  refine s_if_eq (tgt := 27) (tb_ok aX8_tells_0 2 rfl) (by decide) (fun c4 => ?_) (fun c4 => ?_)
  · exact absurd c4 (by decide)
  · refine s_aload_n (tb_ok aX8_tells_0 3 rfl) rfl ?_
    refine s_iload_n (tb_ok aX8_tells_0 4 rfl) rfl ?_
    refine s_cVp (as := [.int (nI j)]) (tb_ok aX8_tells_0 5 rfl) v_RX8_90 (R_isHouse h.mn _) (by decide) rfl rfl rfl rfl rfl (Nat.le_of_ble_eq_true rfl) (by decide) ?_
    refine s_topi (bI_t (vH_t hj hM5)) ?_
    refine s_if_eq (tgt := 27) (tb_ok aX8_tells_0 6 rfl) (by decide) (fun c12 => ?_) (fun c12 => ?_)
    · exact absurd c12 (by decide)
    · refine s_iload_n (tb_ok aX8_tells_0 7 rfl) rfl ?_
      refine s_i2l (tb_ok aX8_tells_0 8 rfl) ?_
      refine s_lconst (v := 0) (tb_ok aX8_tells_0 9 rfl) (by decide) ?_
      refine s_ldc2 (tb_ok aX8_tells_0 10 rfl) k_RX8_416 ?_
      refine s_cSp (as := [_, .long (0), .long (7)]) (tb_ok aX8_tells_0 11 rfl) v_RX8_73 (R_in _ _ _) (by decide) rfl rfl (Nat.le_of_ble_eq_true rfl) ?_
      refine s_topi (bI_t (by decide)) ?_
      refine s_if_ne (tgt := 30) (tb_ok aX8_tells_0 12 rfl) (by decide) (fun c24 => ?_) (fun c24 => ?_)
      · refine s_aload_n (tb_ok aX8_tells_0 15 rfl) rfl ?_
        refine s_getR (r := 78) (tb_ok aX8_tells_0 16 rfl) f_RX8_50 rfl rfl rfl ?_
        refine s_iload_n (tb_ok aX8_tells_0 17 rfl) rfl ?_
        refine s_bald (x := (1)) (tb_ok aX8_tells_0 18 rfl) rfl (lw_in hs (by decide)) (by rw [nI_clamp (by omega)]; exact hth) ?_
        refine s_if_ne (tgt := 42) (tb_ok aX8_tells_0 19 rfl) (by decide) (fun c36 => ?_) (fun c36 => ?_)
        · refine s_aload_n (tb_ok aX8_tells_0 22 rfl) rfl ?_
          refine s_getR (r := 80) (tb_ok aX8_tells_0 23 rfl) f_RX8_57 rfl rfl rfl ?_
          refine s_iload_n (tb_ok aX8_tells_1 0 rfl) rfl ?_
          refine s_ialdX (x := (nI z)) (tb_ok aX8_tells_1 1 rfl) rfl (by omega) (by decide) hz ?_
          refine s_bipush (v := nI 20) (tb_ok aX8_tells_1 2 rfl) (by decide) ?_
          refine s_icmp_le (tgt := 56) (tb_ok aX8_tells_1 3 rfl) (by decide) (fun c50 => ?_) (fun c50 => ?_)
          · refine s_iload_n (tb_ok aX8_tells_1 6 rfl) rfl ?_
            refine s_if_eq (tgt := 66) (tb_ok aX8_tells_1 7 rfl) (by decide) (fun c57 => ?_) (fun c57 => ?_)
            · refine s_iload_n (tb_ok aX8_tells_1 11 rfl) rfl ?_
              refine s_if_ne (tgt := 79) (tb_ok aX8_tells_1 12 rfl) (by decide) (fun c67 => ?_) (fun c67 => ?_)
              · exact absurd c67 (by decide)
              · refine s_aload_n (tb_ok aX8_tells_1 13 rfl) rfl ?_
                refine s_iload_n (tb_ok aX8_tells_1 14 rfl) rfl ?_
                refine s_iload_n (tb_ok aX8_tells_1 15 rfl) rfl ?_
                refine s_cV (as := [.int (nI s), .int (nI j)]) (tb_ok aX8_tells_1 16 rfl) v_RX8_410 (R_firstOther h hd hs hj hz hz20) (by decide) rfl rfl rfl rfl rfl (Nat.le_of_ble_eq_true rfl) (by decide) (fun r1 S1 I1 L1 R1 q1 => ?_)
                obtain ⟨rfl, rfl, rfl, hf9⟩ := q1
                refine s_goto (tgt := 84) (tb_ok aX8_tells_1 17 rfl) (by decide) ?_
                refine s_iret (tb_ok aX8_tells_1 21 rfl) rfl ?_
                exact afZ rfl hf9
            · exact absurd c57 (by decide)
          · simp (disch := omega) only [nI_ltI, nI_leI, nI_eq] at c50
            omega
        · exact absurd c36 (by decide)
      · exact absurd c24 (by decide)

set_option maxRecDepth 100000 in
set_option maxHeartbeats 1000000 in
theorem R_tells7 {X : En} {L : FL} {q : Nat × Nat} {I : FI} {m : Nat} {fr fa : Nat → Int32} {M : Nat} {T : Nat → Nat → Int32} {d : Nat} {sem : Nat → Sem} (h : RSt I m fr fa M T d sem) (hd : d ≤ 5000) {j : Nat} (hj : j < M) {s z : Nat} (hs : s < 4) (hth : I 78 s = 1) (hz : I 80 s = nI z) (hz20 : z ≤ 20) : Ev X 61 mX8_tells (0, 0) [.ref 66, .int (nI s), .int (nI j), .int (7)] S0 I L (R0 q) (AfZ q eB I (bitS (fun i => fstP sem fr fa m (nI d) (T i) (fun t => I 81 (40 * s + t)) z) M)) := by
  have hM5 := h.M5
  refine ev_of (by decide +kernel) rfl ?_
  show SW X _ _ _ 0 [some (.ref 66), some (.int (nI s)), some (.int (nI j)), some (.int (7)), none, none, none, none, none, none, none] [] S0 I L (R0 q) _
  refine s_iload_n (tb_ok aX8_tells_0 0 rfl) rfl ?_
  refine s_cSp (as := [.int (nI s)]) (tb_ok aX8_tells_0 1 rfl) v_RX8_413 (R_isSheet _) (by decide) rfl rfl (Nat.le_of_ble_eq_true rfl) ?_
  refine s_topi (bI_t (inN (n := s) (hi := 3) (by omega) (by decide))) ?_
  refine s_if_eq (tgt := 27) (tb_ok aX8_tells_0 2 rfl) (by decide) (fun c4 => ?_) (fun c4 => ?_)
  · exact absurd c4 (by decide)
  · refine s_aload_n (tb_ok aX8_tells_0 3 rfl) rfl ?_
    refine s_iload_n (tb_ok aX8_tells_0 4 rfl) rfl ?_
    refine s_cVp (as := [.int (nI j)]) (tb_ok aX8_tells_0 5 rfl) v_RX8_90 (R_isHouse h.mn _) (by decide) rfl rfl rfl rfl rfl (Nat.le_of_ble_eq_true rfl) (by decide) ?_
    refine s_topi (bI_t (vH_t hj hM5)) ?_
    refine s_if_eq (tgt := 27) (tb_ok aX8_tells_0 6 rfl) (by decide) (fun c12 => ?_) (fun c12 => ?_)
    · exact absurd c12 (by decide)
    · refine s_iload_n (tb_ok aX8_tells_0 7 rfl) rfl ?_
      refine s_i2l (tb_ok aX8_tells_0 8 rfl) ?_
      refine s_lconst (v := 0) (tb_ok aX8_tells_0 9 rfl) (by decide) ?_
      refine s_ldc2 (tb_ok aX8_tells_0 10 rfl) k_RX8_416 ?_
      refine s_cSp (as := [_, .long (0), .long (7)]) (tb_ok aX8_tells_0 11 rfl) v_RX8_73 (R_in _ _ _) (by decide) rfl rfl (Nat.le_of_ble_eq_true rfl) ?_
      refine s_topi (bI_t (by decide)) ?_
      refine s_if_ne (tgt := 30) (tb_ok aX8_tells_0 12 rfl) (by decide) (fun c24 => ?_) (fun c24 => ?_)
      · refine s_aload_n (tb_ok aX8_tells_0 15 rfl) rfl ?_
        refine s_getR (r := 78) (tb_ok aX8_tells_0 16 rfl) f_RX8_50 rfl rfl rfl ?_
        refine s_iload_n (tb_ok aX8_tells_0 17 rfl) rfl ?_
        refine s_bald (x := (1)) (tb_ok aX8_tells_0 18 rfl) rfl (lw_in hs (by decide)) (by rw [nI_clamp (by omega)]; exact hth) ?_
        refine s_if_ne (tgt := 42) (tb_ok aX8_tells_0 19 rfl) (by decide) (fun c36 => ?_) (fun c36 => ?_)
        · refine s_aload_n (tb_ok aX8_tells_0 22 rfl) rfl ?_
          refine s_getR (r := 80) (tb_ok aX8_tells_0 23 rfl) f_RX8_57 rfl rfl rfl ?_
          refine s_iload_n (tb_ok aX8_tells_1 0 rfl) rfl ?_
          refine s_ialdX (x := (nI z)) (tb_ok aX8_tells_1 1 rfl) rfl (by omega) (by decide) hz ?_
          refine s_bipush (v := nI 20) (tb_ok aX8_tells_1 2 rfl) (by decide) ?_
          refine s_icmp_le (tgt := 56) (tb_ok aX8_tells_1 3 rfl) (by decide) (fun c50 => ?_) (fun c50 => ?_)
          · refine s_iload_n (tb_ok aX8_tells_1 6 rfl) rfl ?_
            refine s_if_eq (tgt := 66) (tb_ok aX8_tells_1 7 rfl) (by decide) (fun c57 => ?_) (fun c57 => ?_)
            · exact absurd c57 (by decide)
            · refine s_iload_n (tb_ok aX8_tells_1 8 rfl) rfl ?_
              refine s_bipush (v := 7) (tb_ok aX8_tells_1 9 rfl) (by decide) ?_
              refine s_icmp_ne (tgt := 85) (tb_ok aX8_tells_1 10 rfl) (by decide) (fun c63 => ?_) (fun c63 => ?_)
              · exact absurd c63 (by decide)
              · refine s_iload_n (tb_ok aX8_tells_1 11 rfl) rfl ?_
                refine s_if_ne (tgt := 79) (tb_ok aX8_tells_1 12 rfl) (by decide) (fun c67 => ?_) (fun c67 => ?_)
                · refine s_aload_n (tb_ok aX8_tells_1 18 rfl) rfl ?_
                  refine s_iload_n (tb_ok aX8_tells_1 19 rfl) rfl ?_
                  refine s_cV (as := [.int (nI s)]) (tb_ok aX8_tells_1 20 rfl) v_RX8_418 (R_likeSet h hd hs hz hz20) (by decide) rfl rfl rfl rfl rfl (Nat.le_of_ble_eq_true rfl) (by decide) (fun r1 S1 I1 L1 R1 q1 => ?_)
                  obtain ⟨rfl, rfl, rfl, hf9⟩ := q1
                  refine s_iret (tb_ok aX8_tells_1 21 rfl) rfl ?_
                  exact afZ rfl hf9
                · exact absurd c67 (by decide)
          · simp (disch := omega) only [nI_ltI, nI_leI, nI_eq] at c50
            omega
        · exact absurd c36 (by decide)
      · exact absurd c24 (by decide)

set_option maxRecDepth 100000 in
set_option maxHeartbeats 1000000 in
theorem R_tells5 {X : En} {L : FL} {q : Nat × Nat} {I : FI} {m : Nat} {fr fa : Nat → Int32} {M : Nat} {T : Nat → Nat → Int32} {d : Nat} {sem : Nat → Sem} (h : RSt I m fr fa M T d sem) (hd : d ≤ 5000) {j : Nat} (hj : j < M) {s z : Nat} (hs : s < 4) (hth : I 78 s = 1) (hz : I 80 s = nI z) (hz20 : z ≤ 20) : Ev X 61 mX8_tells (0, 0) [.ref 66, .int (nI s), .int (nI j), .int (5)] S0 I L (R0 q) (AfZ q eB I (bitS (fun g => fstP sem fr fa m (nI d) (upd (T j) 2 (T j 2 ^^^ ((1 : Int32) <<< (nI g &&& 31)))) (fun t => I 81 (40 * s + t)) z) 12)) := by
  have hM5 := h.M5
  refine ev_of (by decide +kernel) rfl ?_
  show SW X _ _ _ 0 [some (.ref 66), some (.int (nI s)), some (.int (nI j)), some (.int (5)), none, none, none, none, none, none, none] [] S0 I L (R0 q) _
  refine s_iload_n (tb_ok aX8_tells_0 0 rfl) rfl ?_
  refine s_cSp (as := [.int (nI s)]) (tb_ok aX8_tells_0 1 rfl) v_RX8_413 (R_isSheet _) (by decide) rfl rfl (Nat.le_of_ble_eq_true rfl) ?_
  refine s_topi (bI_t (inN (n := s) (hi := 3) (by omega) (by decide))) ?_
  refine s_if_eq (tgt := 27) (tb_ok aX8_tells_0 2 rfl) (by decide) (fun c4 => ?_) (fun c4 => ?_)
  · exact absurd c4 (by decide)
  · refine s_aload_n (tb_ok aX8_tells_0 3 rfl) rfl ?_
    refine s_iload_n (tb_ok aX8_tells_0 4 rfl) rfl ?_
    refine s_cVp (as := [.int (nI j)]) (tb_ok aX8_tells_0 5 rfl) v_RX8_90 (R_isHouse h.mn _) (by decide) rfl rfl rfl rfl rfl (Nat.le_of_ble_eq_true rfl) (by decide) ?_
    refine s_topi (bI_t (vH_t hj hM5)) ?_
    refine s_if_eq (tgt := 27) (tb_ok aX8_tells_0 6 rfl) (by decide) (fun c12 => ?_) (fun c12 => ?_)
    · exact absurd c12 (by decide)
    · refine s_iload_n (tb_ok aX8_tells_0 7 rfl) rfl ?_
      refine s_i2l (tb_ok aX8_tells_0 8 rfl) ?_
      refine s_lconst (v := 0) (tb_ok aX8_tells_0 9 rfl) (by decide) ?_
      refine s_ldc2 (tb_ok aX8_tells_0 10 rfl) k_RX8_416 ?_
      refine s_cSp (as := [_, .long (0), .long (7)]) (tb_ok aX8_tells_0 11 rfl) v_RX8_73 (R_in _ _ _) (by decide) rfl rfl (Nat.le_of_ble_eq_true rfl) ?_
      refine s_topi (bI_t (by decide)) ?_
      refine s_if_ne (tgt := 30) (tb_ok aX8_tells_0 12 rfl) (by decide) (fun c24 => ?_) (fun c24 => ?_)
      · refine s_aload_n (tb_ok aX8_tells_0 15 rfl) rfl ?_
        refine s_getR (r := 78) (tb_ok aX8_tells_0 16 rfl) f_RX8_50 rfl rfl rfl ?_
        refine s_iload_n (tb_ok aX8_tells_0 17 rfl) rfl ?_
        refine s_bald (x := (1)) (tb_ok aX8_tells_0 18 rfl) rfl (lw_in hs (by decide)) (by rw [nI_clamp (by omega)]; exact hth) ?_
        refine s_if_ne (tgt := 42) (tb_ok aX8_tells_0 19 rfl) (by decide) (fun c36 => ?_) (fun c36 => ?_)
        · refine s_aload_n (tb_ok aX8_tells_0 22 rfl) rfl ?_
          refine s_getR (r := 80) (tb_ok aX8_tells_0 23 rfl) f_RX8_57 rfl rfl rfl ?_
          refine s_iload_n (tb_ok aX8_tells_1 0 rfl) rfl ?_
          refine s_ialdX (x := (nI z)) (tb_ok aX8_tells_1 1 rfl) rfl (by omega) (by decide) hz ?_
          refine s_bipush (v := nI 20) (tb_ok aX8_tells_1 2 rfl) (by decide) ?_
          refine s_icmp_le (tgt := 56) (tb_ok aX8_tells_1 3 rfl) (by decide) (fun c50 => ?_) (fun c50 => ?_)
          · refine s_iload_n (tb_ok aX8_tells_1 6 rfl) rfl ?_
            refine s_if_eq (tgt := 66) (tb_ok aX8_tells_1 7 rfl) (by decide) (fun c57 => ?_) (fun c57 => ?_)
            · exact absurd c57 (by decide)
            · refine s_iload_n (tb_ok aX8_tells_1 8 rfl) rfl ?_
              refine s_bipush (v := 7) (tb_ok aX8_tells_1 9 rfl) (by decide) ?_
              refine s_icmp_ne (tgt := 85) (tb_ok aX8_tells_1 10 rfl) (by decide) (fun c63 => ?_) (fun c63 => ?_)
              · refine s_iload_n (tb_ok aX8_tells_1 22 rfl) rfl ?_
                refine s_iconst (v := 5) (tb_ok aX8_tells_1 23 rfl) (by decide) ?_
                refine s_icmp_ne (tgt := 97) (tb_ok aX8_tells_2 0 rfl) (by decide) (fun c87 => ?_) (fun c87 => ?_)
                · exact absurd c87 (by decide)
                · refine s_aload_n (tb_ok aX8_tells_2 1 rfl) rfl ?_
                  refine s_iload_n (tb_ok aX8_tells_2 2 rfl) rfl ?_
                  refine s_iload_n (tb_ok aX8_tells_2 3 rfl) rfl ?_
                  refine s_cV (as := [.int (nI s), .int (nI j)]) (tb_ok aX8_tells_2 4 rfl) v_RX8_421 (R_turnedSet h hd hs hz hz20 hj) (by decide) rfl rfl rfl rfl rfl (Nat.le_of_ble_eq_true rfl) (by decide) (fun r1 S1 I1 L1 R1 q1 => ?_)
                  obtain ⟨rfl, rfl, rfl, hf9⟩ := q1
                  refine s_iret (tb_ok aX8_tells_2 5 rfl) rfl ?_
                  exact afZ rfl hf9
              · exact absurd c63 (by decide)
          · simp (disch := omega) only [nI_ltI, nI_leI, nI_eq] at c50
            omega
        · exact absurd c36 (by decide)
      · exact absurd c24 (by decide)

set_option maxRecDepth 100000 in
set_option maxHeartbeats 1000000 in
theorem R_tells1 {X : En} {L : FL} {q : Nat × Nat} {I : FI} {m : Nat} {fr fa : Nat → Int32} {M : Nat} {T : Nat → Nat → Int32} {d : Nat} {sem : Nat → Sem} (h : RSt I m fr fa M T d sem) (hd : d ≤ 5000) {j : Nat} (hj : j < M) {s z : Nat} (hs : s < 4) (hth : I 78 s = 1) (hz : I 80 s = nI z) (hz20 : z ≤ 20) : Ev X 61 mX8_tells (0, 0) [.ref 66, .int (nI s), .int (nI j), .int (1)] S0 I L (R0 q) (AfZ q eB I (bitS (fun v => fstP sem fr fa m (nI d) (upd (T j) 0 (nI v)) (fun t => I 81 (40 * s + t)) z) 6)) := by
  have hM5 := h.M5
  have loop : ∀ (was lst : Int32), was = I 72 (j) → ∀ k, ∀ (I1 : FI) (L1 : FL) (b7 b8 b9 : Int32), k ≤ 6 → FrE (eC (72, j)) I1 I → b7 ||| bitS (fun v => fstP sem fr fa m (nI d) (upd (T j) 0 (nI v)) (fun t => I 81 (40 * s + t)) z) k = bitS (fun v => fstP sem fr fa m (nI d) (upd (T j) 0 (nI v)) (fun t => I 81 (40 * s + t)) z) 6 → SW X 61 mX8_tells (0, 0) 198 [some (.ref 66), some (.int (nI s)), some (.int (nI j)), some (.int (1)), some (.int (5)), some (.int was), some (.int lst), some (.int b7), some (.int b8), some (.int b9), some (.int (dnI k))] [] S0 I1 L1 (R0 q) (KQ X (AfZ q eB I (bitS (fun v => fstP sem fr fa m (nI d) (upd (T j) 0 (nI v)) (fun t => I 81 (40 * s + t)) z) 6))) := by
    intro was lst hwas k
    induction k with
    | zero =>
      intro I1 L1 b7 b8 b9 _ hi hinv
      show SW X 61 mX8_tells (0, 0) 198 [some (.ref 66), some (.int (nI s)), some (.int (nI j)), some (.int (1)), some (.int (5)), some (.int was), some (.int lst), some (.int b7), some (.int b8), some (.int b9), some (.int (-1))] [] S0 I1 L1 (R0 q) (KQ X (AfZ q eB I (bitS (fun v => fstP sem fr fa m (nI d) (upd (T j) 0 (nI v)) (fun t => I 81 (40 * s + t)) z) 6)))
      refine s_iload (tb_ok aX8_tells_4 10 rfl) rfl ?_
      refine s_if_lt (tgt := 255) (tb_ok aX8_tells_4 11 rfl) (by decide) (fun c200 => ?_) (fun c200 => ?_)
      · refine s_aload_n (tb_ok aX8_tells_5 15 rfl) rfl ?_
        refine s_iload (tb_ok aX8_tells_5 16 rfl) rfl ?_
        refine s_iload_n (tb_ok aX8_tells_5 17 rfl) rfl ?_
        refine s_iload (tb_ok aX8_tells_5 18 rfl) rfl ?_
        refine s_cV (as := [.int (5), .int (nI j), .int was]) (tb_ok aX8_tells_5 19 rfl) v_RX8_101 (R_lays5 (by omega) _) (by decide) rfl rfl rfl rfl rfl (Nat.le_of_ble_eq_true rfl) (by decide) (fun r1 S1 I1 L1 R1 q1 => ?_)
        obtain ⟨rfl, rfl, rfl, rfl, rfl⟩ := q1
        refine s_iload_n (tb_ok aX8_tells_5 20 rfl) rfl ?_
        refine s_iconst (v := 3) (tb_ok aX8_tells_5 21 rfl) (by decide) ?_
        refine s_icmp_ne (tgt := 274) (tb_ok aX8_tells_5 22 rfl) (by decide) (fun c266 => ?_) (fun c266 => ?_)
        · refine s_iload_n (tb_ok aX8_tells_6 1 rfl) rfl ?_
          refine s_iconst (v := 4) (tb_ok aX8_tells_6 2 rfl) (by decide) ?_
          refine s_icmp_ne (tgt := 284) (tb_ok aX8_tells_6 3 rfl) (by decide) (fun c276 => ?_) (fun c276 => ?_)
          · refine s_iload (tb_ok aX8_tells_6 6 rfl) rfl ?_
            refine s_iret (tb_ok aX8_tells_6 7 rfl) rfl ?_
            refine afZ ?_ (eC_back (c := (72, j)) hi hwas)
            rw [← hinv]
            exact (or_0 _).symm
          · exact absurd c276 (by decide)
        · exact absurd c266 (by decide)
      · exact absurd c200 (by decide)
    | succ k ih =>
      intro I1 L1 b7 b8 b9 hkN hi hinv
      show SW X 61 mX8_tells (0, 0) 198 [some (.ref 66), some (.int (nI s)), some (.int (nI j)), some (.int (1)), some (.int (5)), some (.int was), some (.int lst), some (.int b7), some (.int b8), some (.int b9), some (.int (nI k))] [] S0 I1 L1 (R0 q) (KQ X (AfZ q eB I (bitS (fun v => fstP sem fr fa m (nI d) (upd (T j) 0 (nI v)) (fun t => I 81 (40 * s + t)) z) 6)))
      refine s_iload (tb_ok aX8_tells_4 10 rfl) rfl ?_
      refine s_if_lt (tgt := 255) (tb_ok aX8_tells_4 11 rfl) (by decide) (fun c200 => ?_) (fun c200 => ?_)
      · exact absurd c200 (nI_pos (by omega))
      · refine s_aload_n (tb_ok aX8_tells_4 12 rfl) rfl ?_
        refine s_iload (tb_ok aX8_tells_4 13 rfl) rfl ?_
        refine s_iload_n (tb_ok aX8_tells_4 14 rfl) rfl ?_
        refine s_iload (tb_ok aX8_tells_4 15 rfl) rfl ?_
        refine s_cV (as := [.int (5), .int (nI j), .int (nI k)]) (tb_ok aX8_tells_4 16 rfl) v_RX8_101 (R_lays5 (by omega) _) (by decide) rfl rfl rfl rfl rfl (Nat.le_of_ble_eq_true rfl) (by decide) (fun r1 S1 I1 L1 R1 q1 => ?_)
        obtain ⟨rfl, rfl, rfl, rfl, rfl⟩ := q1
        have hok : okT (upd (T j) 0 (nI k)) := ⟨⟨k, by omega, rfl⟩, (h.ok hj).2⟩
        have hfu := eC_up (c := (72, j)) hi (nI k)
        have h2 := (h.kind hj (v := nI k) hok).see (see_eB hfu)
        refine s_aload_n (tb_ok aX8_tells_4 17 rfl) rfl ?_
        refine s_iload_n (tb_ok aX8_tells_4 18 rfl) rfl ?_
        refine s_iload_n (tb_ok aX8_tells_4 19 rfl) rfl ?_
        refine s_cV (as := [.int (nI s), .int (nI j)]) (tb_ok aX8_tells_4 20 rfl) v_RX8_410 (R_firstOther h2 hd hs hj ((eB81 hfu (by decide) _).trans hz) hz20) (by decide) rfl rfl rfl rfl rfl (Nat.le_of_ble_eq_true rfl) (by decide) (fun r2 S2 I2 L2 R2 q2 => ?_)
        rw [uT_o] at q2
        rw [fst_81 hfu] at q2
        obtain ⟨rfl, rfl, rfl, hf9⟩ := q2
        refine s_iconst (v := -1) (tb_ok aX8_tells_4 21 rfl) (by decide) ?_
        refine s_icmp_ne (tgt := 249) (tb_ok aX8_tells_4 22 rfl) (by decide) (fun c219 => ?_) (fun c219 => ?_)
        · refine s_iinc (v := dnI k) (ls' := [some (.ref 66), some (.int (nI s)), some (.int (nI j)), some (.int (1)), some (.int (5)), some (.int was), some (.int lst), some (.int b7), some (.int b8), some (.int b9), some (.int (dnI k))]) (tb_ok aX8_tells_5 13 rfl) rfl (dn_s (by omega)) rfl rfl ?_
          refine s_goto (tgt := 198) (tb_ok aX8_tells_5 14 rfl) (by decide) ?_
          refine ih _ _ _ _ _ (by omega) (eC_up2 (hf9.trans hfu)) ?_
          rw [← hinv, bitS_n (fits := (fun v => fstP sem fr fa m (nI d) (upd (T j) 0 (nI v)) (fun t => I 81 (40 * s + t)) z)) (k := k) c219]
        · refine s_iload (tb_ok aX8_tells_4 23 rfl) rfl ?_
          refine s_iload (tb_ok aX8_tells_5 0 rfl) rfl ?_
          refine s_bipush (v := nI 10) (tb_ok aX8_tells_5 1 rfl) (by decide) ?_
          refine s_icmp_ge (tgt := 238) (tb_ok aX8_tells_5 2 rfl) (by decide) (fun c228 => ?_) (fun c228 => ?_)
          · simp (disch := omega) only [nI_leI] at c228
            omega
          · refine s_iconst (v := 1) (tb_ok aX8_tells_5 3 rfl) (by decide) ?_
            refine s_iload (tb_ok aX8_tells_5 4 rfl) rfl ?_
            refine s_ishl (tb_ok aX8_tells_5 5 rfl) ?_
            refine s_goto (tgt := 239) (tb_ok aX8_tells_5 6 rfl) (by decide) ?_
            refine s_ior (tb_ok aX8_tells_5 8 rfl) ?_
            refine s_name (fun x1 ex1 => ?_)
            refine s_istore (ls' := [some (.ref 66), some (.int (nI s)), some (.int (nI j)), some (.int (1)), some (.int (5)), some (.int was), some (.int lst), some (.int x1), some (.int b8), some (.int b9), some (.int (nI k))]) (tb_ok aX8_tells_5 9 rfl) rfl rfl ?_
            obtain ⟨x2, ex2⟩ : ∃ q : Int32, q = b8 + Int32.ofInt (1) := ⟨_, rfl⟩
            refine s_iinc (v := x2) (ls' := [some (.ref 66), some (.int (nI s)), some (.int (nI j)), some (.int (1)), some (.int (5)), some (.int was), some (.int lst), some (.int x1), some (.int x2), some (.int b9), some (.int (nI k))]) (tb_ok aX8_tells_5 10 rfl) rfl ex2.symm rfl rfl ?_
            refine s_iload (tb_ok aX8_tells_5 11 rfl) rfl ?_
            refine s_istore (ls' := [some (.ref 66), some (.int (nI s)), some (.int (nI j)), some (.int (1)), some (.int (5)), some (.int was), some (.int lst), some (.int x1), some (.int x2), some (.int (nI k)), some (.int (nI k))]) (tb_ok aX8_tells_5 12 rfl) rfl rfl ?_
            refine s_iinc (v := dnI k) (ls' := [some (.ref 66), some (.int (nI s)), some (.int (nI j)), some (.int (1)), some (.int (5)), some (.int was), some (.int lst), some (.int x1), some (.int x2), some (.int (nI k)), some (.int (dnI k))]) (tb_ok aX8_tells_5 13 rfl) rfl (dn_s (by omega)) rfl rfl ?_
            refine s_goto (tgt := 198) (tb_ok aX8_tells_5 14 rfl) (by decide) ?_
            refine ih _ _ _ _ _ (by omega) (eC_up2 (hf9.trans hfu)) ?_
            rw [ex1, ← hinv, bitS_s (fits := (fun v => fstP sem fr fa m (nI d) (upd (T j) 0 (nI v)) (fun t => I 81 (40 * s + t)) z)) (k := k) c219]
            ac_rfl
  refine ev_of (by decide +kernel) rfl ?_
  show SW X _ _ _ 0 [some (.ref 66), some (.int (nI s)), some (.int (nI j)), some (.int (1)), none, none, none, none, none, none, none] [] S0 I L (R0 q) _
  refine s_iload_n (tb_ok aX8_tells_0 0 rfl) rfl ?_
  refine s_cSp (as := [.int (nI s)]) (tb_ok aX8_tells_0 1 rfl) v_RX8_413 (R_isSheet _) (by decide) rfl rfl (Nat.le_of_ble_eq_true rfl) ?_
  refine s_topi (bI_t (inN (n := s) (hi := 3) (by omega) (by decide))) ?_
  refine s_if_eq (tgt := 27) (tb_ok aX8_tells_0 2 rfl) (by decide) (fun c4 => ?_) (fun c4 => ?_)
  · exact absurd c4 (by decide)
  · refine s_aload_n (tb_ok aX8_tells_0 3 rfl) rfl ?_
    refine s_iload_n (tb_ok aX8_tells_0 4 rfl) rfl ?_
    refine s_cVp (as := [.int (nI j)]) (tb_ok aX8_tells_0 5 rfl) v_RX8_90 (R_isHouse h.mn _) (by decide) rfl rfl rfl rfl rfl (Nat.le_of_ble_eq_true rfl) (by decide) ?_
    refine s_topi (bI_t (vH_t hj hM5)) ?_
    refine s_if_eq (tgt := 27) (tb_ok aX8_tells_0 6 rfl) (by decide) (fun c12 => ?_) (fun c12 => ?_)
    · exact absurd c12 (by decide)
    · refine s_iload_n (tb_ok aX8_tells_0 7 rfl) rfl ?_
      refine s_i2l (tb_ok aX8_tells_0 8 rfl) ?_
      refine s_lconst (v := 0) (tb_ok aX8_tells_0 9 rfl) (by decide) ?_
      refine s_ldc2 (tb_ok aX8_tells_0 10 rfl) k_RX8_416 ?_
      refine s_cSp (as := [_, .long (0), .long (7)]) (tb_ok aX8_tells_0 11 rfl) v_RX8_73 (R_in _ _ _) (by decide) rfl rfl (Nat.le_of_ble_eq_true rfl) ?_
      refine s_topi (bI_t (by decide)) ?_
      refine s_if_ne (tgt := 30) (tb_ok aX8_tells_0 12 rfl) (by decide) (fun c24 => ?_) (fun c24 => ?_)
      · refine s_aload_n (tb_ok aX8_tells_0 15 rfl) rfl ?_
        refine s_getR (r := 78) (tb_ok aX8_tells_0 16 rfl) f_RX8_50 rfl rfl rfl ?_
        refine s_iload_n (tb_ok aX8_tells_0 17 rfl) rfl ?_
        refine s_bald (x := (1)) (tb_ok aX8_tells_0 18 rfl) rfl (lw_in hs (by decide)) (by rw [nI_clamp (by omega)]; exact hth) ?_
        refine s_if_ne (tgt := 42) (tb_ok aX8_tells_0 19 rfl) (by decide) (fun c36 => ?_) (fun c36 => ?_)
        · refine s_aload_n (tb_ok aX8_tells_0 22 rfl) rfl ?_
          refine s_getR (r := 80) (tb_ok aX8_tells_0 23 rfl) f_RX8_57 rfl rfl rfl ?_
          refine s_iload_n (tb_ok aX8_tells_1 0 rfl) rfl ?_
          refine s_ialdX (x := (nI z)) (tb_ok aX8_tells_1 1 rfl) rfl (by omega) (by decide) hz ?_
          refine s_bipush (v := nI 20) (tb_ok aX8_tells_1 2 rfl) (by decide) ?_
          refine s_icmp_le (tgt := 56) (tb_ok aX8_tells_1 3 rfl) (by decide) (fun c50 => ?_) (fun c50 => ?_)
          · refine s_iload_n (tb_ok aX8_tells_1 6 rfl) rfl ?_
            refine s_if_eq (tgt := 66) (tb_ok aX8_tells_1 7 rfl) (by decide) (fun c57 => ?_) (fun c57 => ?_)
            · exact absurd c57 (by decide)
            · refine s_iload_n (tb_ok aX8_tells_1 8 rfl) rfl ?_
              refine s_bipush (v := 7) (tb_ok aX8_tells_1 9 rfl) (by decide) ?_
              refine s_icmp_ne (tgt := 85) (tb_ok aX8_tells_1 10 rfl) (by decide) (fun c63 => ?_) (fun c63 => ?_)
              · refine s_iload_n (tb_ok aX8_tells_1 22 rfl) rfl ?_
                refine s_iconst (v := 5) (tb_ok aX8_tells_1 23 rfl) (by decide) ?_
                refine s_icmp_ne (tgt := 97) (tb_ok aX8_tells_2 0 rfl) (by decide) (fun c87 => ?_) (fun c87 => ?_)
                · refine s_iload_n (tb_ok aX8_tells_2 6 rfl) rfl ?_
                  refine s_iconst (v := 1) (tb_ok aX8_tells_2 7 rfl) (by decide) ?_
                  refine s_icmp_ne (tgt := 106) (tb_ok aX8_tells_2 8 rfl) (by decide) (fun c99 => ?_) (fun c99 => ?_)
                  · exact absurd c99 (by decide)
                  · refine s_iconst (v := 5) (tb_ok aX8_tells_2 9 rfl) (by decide) ?_
                    refine s_goto (tgt := 127) (tb_ok aX8_tells_2 10 rfl) (by decide) ?_
                    refine s_istore (ls' := [some (.ref 66), some (.int (nI s)), some (.int (nI j)), some (.int (1)), some (.int (5)), none, none, none, none, none, none]) (tb_ok aX8_tells_2 22 rfl) rfl rfl ?_
                    refine s_iload (tb_ok aX8_tells_2 23 rfl) rfl ?_
                    refine s_bipush (v := 6) (tb_ok aX8_tells_3 0 rfl) (by decide) ?_
                    refine s_icmp_ne (tgt := 143) (tb_ok aX8_tells_3 1 rfl) (by decide) (fun c133 => ?_) (fun c133 => ?_)
                    · refine s_aload_n (tb_ok aX8_tells_3 5 rfl) rfl ?_
                      refine s_iload_n (tb_ok aX8_tells_3 6 rfl) rfl ?_
                      refine s_iload (tb_ok aX8_tells_3 7 rfl) rfl ?_
                      refine s_cV (as := [.int (nI j), .int (5)]) (tb_ok aX8_tells_3 8 rfl) v_RX8_97 (R_told5 h hd hj) (by decide) rfl rfl rfl rfl rfl (Nat.le_of_ble_eq_true rfl) (by decide) (fun r1 S1 I1 L1 R1 q1 => ?_)
                      obtain ⟨rfl, rfl, rfl, hf1⟩ := q1
                      refine s_name (fun x1 ex1 => ?_)
                      refine s_istore (ls' := [some (.ref 66), some (.int (nI s)), some (.int (nI j)), some (.int (1)), some (.int (5)), some (.int x1), none, none, none, none, none]) (tb_ok aX8_tells_3 9 rfl) rfl rfl ?_
                      refine s_iload (tb_ok aX8_tells_3 10 rfl) rfl ?_
                      refine s_bipush (v := 6) (tb_ok aX8_tells_3 11 rfl) (by decide) ?_
                      refine s_icmp_ne (tgt := 168) (tb_ok aX8_tells_3 12 rfl) (by decide) (fun c156 => ?_) (fun c156 => ?_)
                      · refine s_iload (tb_ok aX8_tells_3 18 rfl) rfl ?_
                        refine s_iconst (v := 5) (tb_ok aX8_tells_3 19 rfl) (by decide) ?_
                        refine s_icmp_ne (tgt := 178) (tb_ok aX8_tells_3 20 rfl) (by decide) (fun c171 => ?_) (fun c171 => ?_)
                        · exact absurd c171 (by decide)
                        · refine s_iconst (v := 5) (tb_ok aX8_tells_3 21 rfl) (by decide) ?_
                          refine s_goto (tgt := 183) (tb_ok aX8_tells_3 22 rfl) (by decide) ?_
                          refine s_istore (ls' := [some (.ref 66), some (.int (nI s)), some (.int (nI j)), some (.int (1)), some (.int (5)), some (.int x1), some (.int (5)), none, none, none, none]) (tb_ok aX8_tells_4 1 rfl) rfl rfl ?_
                          refine s_iconst (v := 0) (tb_ok aX8_tells_4 2 rfl) (by decide) ?_
                          refine s_istore (ls' := [some (.ref 66), some (.int (nI s)), some (.int (nI j)), some (.int (1)), some (.int (5)), some (.int x1), some (.int (5)), some (.int (0)), none, none, none]) (tb_ok aX8_tells_4 3 rfl) rfl rfl ?_
                          refine s_iconst (v := 0) (tb_ok aX8_tells_4 4 rfl) (by decide) ?_
                          refine s_istore (ls' := [some (.ref 66), some (.int (nI s)), some (.int (nI j)), some (.int (1)), some (.int (5)), some (.int x1), some (.int (5)), some (.int (0)), some (.int (0)), none, none]) (tb_ok aX8_tells_4 5 rfl) rfl rfl ?_
                          refine s_iconst (v := -1) (tb_ok aX8_tells_4 6 rfl) (by decide) ?_
                          refine s_istore (ls' := [some (.ref 66), some (.int (nI s)), some (.int (nI j)), some (.int (1)), some (.int (5)), some (.int x1), some (.int (5)), some (.int (0)), some (.int (0)), some (.int (-1)), none]) (tb_ok aX8_tells_4 7 rfl) rfl rfl ?_
                          refine s_iload (tb_ok aX8_tells_4 8 rfl) rfl ?_
                          refine s_istore (ls' := [some (.ref 66), some (.int (nI s)), some (.int (nI j)), some (.int (1)), some (.int (5)), some (.int x1), some (.int (5)), some (.int (0)), some (.int (0)), some (.int (-1)), some (.int (5))]) (tb_ok aX8_tells_4 9 rfl) rfl rfl ?_
                          exact loop _ _ (ex1.trans (h.c0 hj).symm) (6) _ _ 0 0 (-1) (Nat.le_refl _) (eB_eC hf1) (Int32.zero_or)
                      · exact absurd c156 (by decide)
                    · exact absurd c133 (by decide)
                · exact absurd c87 (by decide)
              · exact absurd c63 (by decide)
          · simp (disch := omega) only [nI_ltI, nI_leI, nI_eq] at c50
            omega
        · exact absurd c36 (by decide)
      · exact absurd c24 (by decide)

set_option maxRecDepth 100000 in
set_option maxHeartbeats 1000000 in
theorem R_tells2 {X : En} {L : FL} {q : Nat × Nat} {I : FI} {m : Nat} {fr fa : Nat → Int32} {M : Nat} {T : Nat → Nat → Int32} {d : Nat} {sem : Nat → Sem} (h : RSt I m fr fa M T d sem) (hd : d ≤ 5000) {j : Nat} (hj : j < M) {s z : Nat} (hs : s < 4) (hth : I 78 s = 1) (hz : I 80 s = nI z) (hz20 : z ≤ 20) : Ev X 61 mX8_tells (0, 0) [.ref 66, .int (nI s), .int (nI j), .int (2)] S0 I L (R0 q) (AfZ q eB I (bitS (fun v => fstP sem fr fa m (nI d) (upd (T j) 1 (nI v)) (fun t => I 81 (40 * s + t)) z) 10)) := by
  have hM5 := h.M5
  have loop : ∀ (was lst : Int32), was = I 73 (4 * j) → ∀ k, ∀ (I1 : FI) (L1 : FL) (b7 b8 b9 : Int32), k ≤ 10 → FrE (eC (73, 4 * j)) I1 I → b7 ||| bitS (fun v => fstP sem fr fa m (nI d) (upd (T j) 1 (nI v)) (fun t => I 81 (40 * s + t)) z) k = bitS (fun v => fstP sem fr fa m (nI d) (upd (T j) 1 (nI v)) (fun t => I 81 (40 * s + t)) z) 10 → SW X 61 mX8_tells (0, 0) 198 [some (.ref 66), some (.int (nI s)), some (.int (nI j)), some (.int (2)), some (.int (1)), some (.int was), some (.int lst), some (.int b7), some (.int b8), some (.int b9), some (.int (dnI k))] [] S0 I1 L1 (R0 q) (KQ X (AfZ q eB I (bitS (fun v => fstP sem fr fa m (nI d) (upd (T j) 1 (nI v)) (fun t => I 81 (40 * s + t)) z) 10))) := by
    intro was lst hwas k
    induction k with
    | zero =>
      intro I1 L1 b7 b8 b9 _ hi hinv
      show SW X 61 mX8_tells (0, 0) 198 [some (.ref 66), some (.int (nI s)), some (.int (nI j)), some (.int (2)), some (.int (1)), some (.int was), some (.int lst), some (.int b7), some (.int b8), some (.int b9), some (.int (-1))] [] S0 I1 L1 (R0 q) (KQ X (AfZ q eB I (bitS (fun v => fstP sem fr fa m (nI d) (upd (T j) 1 (nI v)) (fun t => I 81 (40 * s + t)) z) 10)))
      refine s_iload (tb_ok aX8_tells_4 10 rfl) rfl ?_
      refine s_if_lt (tgt := 255) (tb_ok aX8_tells_4 11 rfl) (by decide) (fun c200 => ?_) (fun c200 => ?_)
      · refine s_aload_n (tb_ok aX8_tells_5 15 rfl) rfl ?_
        refine s_iload (tb_ok aX8_tells_5 16 rfl) rfl ?_
        refine s_iload_n (tb_ok aX8_tells_5 17 rfl) rfl ?_
        refine s_iload (tb_ok aX8_tells_5 18 rfl) rfl ?_
        refine s_cV (as := [.int (1), .int (nI j), .int was]) (tb_ok aX8_tells_5 19 rfl) v_RX8_101 (R_lays1 (by omega) _) (by decide) rfl rfl rfl rfl rfl (Nat.le_of_ble_eq_true rfl) (by decide) (fun r1 S1 I1 L1 R1 q1 => ?_)
        obtain ⟨rfl, rfl, rfl, rfl, rfl⟩ := q1
        refine s_iload_n (tb_ok aX8_tells_5 20 rfl) rfl ?_
        refine s_iconst (v := 3) (tb_ok aX8_tells_5 21 rfl) (by decide) ?_
        refine s_icmp_ne (tgt := 274) (tb_ok aX8_tells_5 22 rfl) (by decide) (fun c266 => ?_) (fun c266 => ?_)
        · refine s_iload_n (tb_ok aX8_tells_6 1 rfl) rfl ?_
          refine s_iconst (v := 4) (tb_ok aX8_tells_6 2 rfl) (by decide) ?_
          refine s_icmp_ne (tgt := 284) (tb_ok aX8_tells_6 3 rfl) (by decide) (fun c276 => ?_) (fun c276 => ?_)
          · refine s_iload (tb_ok aX8_tells_6 6 rfl) rfl ?_
            refine s_iret (tb_ok aX8_tells_6 7 rfl) rfl ?_
            refine afZ ?_ (eC_back (c := (73, 4 * j)) hi hwas)
            rw [← hinv]
            exact (or_0 _).symm
          · exact absurd c276 (by decide)
        · exact absurd c266 (by decide)
      · exact absurd c200 (by decide)
    | succ k ih =>
      intro I1 L1 b7 b8 b9 hkN hi hinv
      show SW X 61 mX8_tells (0, 0) 198 [some (.ref 66), some (.int (nI s)), some (.int (nI j)), some (.int (2)), some (.int (1)), some (.int was), some (.int lst), some (.int b7), some (.int b8), some (.int b9), some (.int (nI k))] [] S0 I1 L1 (R0 q) (KQ X (AfZ q eB I (bitS (fun v => fstP sem fr fa m (nI d) (upd (T j) 1 (nI v)) (fun t => I 81 (40 * s + t)) z) 10)))
      refine s_iload (tb_ok aX8_tells_4 10 rfl) rfl ?_
      refine s_if_lt (tgt := 255) (tb_ok aX8_tells_4 11 rfl) (by decide) (fun c200 => ?_) (fun c200 => ?_)
      · exact absurd c200 (nI_pos (by omega))
      · refine s_aload_n (tb_ok aX8_tells_4 12 rfl) rfl ?_
        refine s_iload (tb_ok aX8_tells_4 13 rfl) rfl ?_
        refine s_iload_n (tb_ok aX8_tells_4 14 rfl) rfl ?_
        refine s_iload (tb_ok aX8_tells_4 15 rfl) rfl ?_
        refine s_cV (as := [.int (1), .int (nI j), .int (nI k)]) (tb_ok aX8_tells_4 16 rfl) v_RX8_101 (R_lays1 (by omega) _) (by decide) rfl rfl rfl rfl rfl (Nat.le_of_ble_eq_true rfl) (by decide) (fun r1 S1 I1 L1 R1 q1 => ?_)
        obtain ⟨rfl, rfl, rfl, rfl, rfl⟩ := q1
        have hok : okT (upd (T j) 1 (nI k)) := ⟨(h.ok hj).1, ⟨k, by omega, rfl⟩, (h.ok hj).2.2⟩
        have hfu := eC_up (c := (73, 4 * j)) hi (nI k)
        have h2 := (h.row hj (i := 0) (v := nI k) (by decide) hok).see (see_eB hfu)
        refine s_aload_n (tb_ok aX8_tells_4 17 rfl) rfl ?_
        refine s_iload_n (tb_ok aX8_tells_4 18 rfl) rfl ?_
        refine s_iload_n (tb_ok aX8_tells_4 19 rfl) rfl ?_
        refine s_cV (as := [.int (nI s), .int (nI j)]) (tb_ok aX8_tells_4 20 rfl) v_RX8_410 (R_firstOther h2 hd hs hj ((eB81 hfu (by decide) _).trans hz) hz20) (by decide) rfl rfl rfl rfl rfl (Nat.le_of_ble_eq_true rfl) (by decide) (fun r2 S2 I2 L2 R2 q2 => ?_)
        rw [uT_o] at q2
        rw [fst_81 hfu] at q2
        obtain ⟨rfl, rfl, rfl, hf9⟩ := q2
        refine s_iconst (v := -1) (tb_ok aX8_tells_4 21 rfl) (by decide) ?_
        refine s_icmp_ne (tgt := 249) (tb_ok aX8_tells_4 22 rfl) (by decide) (fun c219 => ?_) (fun c219 => ?_)
        · refine s_iinc (v := dnI k) (ls' := [some (.ref 66), some (.int (nI s)), some (.int (nI j)), some (.int (2)), some (.int (1)), some (.int was), some (.int lst), some (.int b7), some (.int b8), some (.int b9), some (.int (dnI k))]) (tb_ok aX8_tells_5 13 rfl) rfl (dn_s (by omega)) rfl rfl ?_
          refine s_goto (tgt := 198) (tb_ok aX8_tells_5 14 rfl) (by decide) ?_
          refine ih _ _ _ _ _ (by omega) (eC_up2 (hf9.trans hfu)) ?_
          rw [← hinv, bitS_n (fits := (fun v => fstP sem fr fa m (nI d) (upd (T j) 1 (nI v)) (fun t => I 81 (40 * s + t)) z)) (k := k) c219]
        · refine s_iload (tb_ok aX8_tells_4 23 rfl) rfl ?_
          refine s_iload (tb_ok aX8_tells_5 0 rfl) rfl ?_
          refine s_bipush (v := nI 10) (tb_ok aX8_tells_5 1 rfl) (by decide) ?_
          refine s_icmp_ge (tgt := 238) (tb_ok aX8_tells_5 2 rfl) (by decide) (fun c228 => ?_) (fun c228 => ?_)
          · simp (disch := omega) only [nI_leI] at c228
            omega
          · refine s_iconst (v := 1) (tb_ok aX8_tells_5 3 rfl) (by decide) ?_
            refine s_iload (tb_ok aX8_tells_5 4 rfl) rfl ?_
            refine s_ishl (tb_ok aX8_tells_5 5 rfl) ?_
            refine s_goto (tgt := 239) (tb_ok aX8_tells_5 6 rfl) (by decide) ?_
            refine s_ior (tb_ok aX8_tells_5 8 rfl) ?_
            refine s_name (fun x1 ex1 => ?_)
            refine s_istore (ls' := [some (.ref 66), some (.int (nI s)), some (.int (nI j)), some (.int (2)), some (.int (1)), some (.int was), some (.int lst), some (.int x1), some (.int b8), some (.int b9), some (.int (nI k))]) (tb_ok aX8_tells_5 9 rfl) rfl rfl ?_
            obtain ⟨x2, ex2⟩ : ∃ q : Int32, q = b8 + Int32.ofInt (1) := ⟨_, rfl⟩
            refine s_iinc (v := x2) (ls' := [some (.ref 66), some (.int (nI s)), some (.int (nI j)), some (.int (2)), some (.int (1)), some (.int was), some (.int lst), some (.int x1), some (.int x2), some (.int b9), some (.int (nI k))]) (tb_ok aX8_tells_5 10 rfl) rfl ex2.symm rfl rfl ?_
            refine s_iload (tb_ok aX8_tells_5 11 rfl) rfl ?_
            refine s_istore (ls' := [some (.ref 66), some (.int (nI s)), some (.int (nI j)), some (.int (2)), some (.int (1)), some (.int was), some (.int lst), some (.int x1), some (.int x2), some (.int (nI k)), some (.int (nI k))]) (tb_ok aX8_tells_5 12 rfl) rfl rfl ?_
            refine s_iinc (v := dnI k) (ls' := [some (.ref 66), some (.int (nI s)), some (.int (nI j)), some (.int (2)), some (.int (1)), some (.int was), some (.int lst), some (.int x1), some (.int x2), some (.int (nI k)), some (.int (dnI k))]) (tb_ok aX8_tells_5 13 rfl) rfl (dn_s (by omega)) rfl rfl ?_
            refine s_goto (tgt := 198) (tb_ok aX8_tells_5 14 rfl) (by decide) ?_
            refine ih _ _ _ _ _ (by omega) (eC_up2 (hf9.trans hfu)) ?_
            rw [ex1, ← hinv, bitS_s (fits := (fun v => fstP sem fr fa m (nI d) (upd (T j) 1 (nI v)) (fun t => I 81 (40 * s + t)) z)) (k := k) c219]
            ac_rfl
  refine ev_of (by decide +kernel) rfl ?_
  show SW X _ _ _ 0 [some (.ref 66), some (.int (nI s)), some (.int (nI j)), some (.int (2)), none, none, none, none, none, none, none] [] S0 I L (R0 q) _
  refine s_iload_n (tb_ok aX8_tells_0 0 rfl) rfl ?_
  refine s_cSp (as := [.int (nI s)]) (tb_ok aX8_tells_0 1 rfl) v_RX8_413 (R_isSheet _) (by decide) rfl rfl (Nat.le_of_ble_eq_true rfl) ?_
  refine s_topi (bI_t (inN (n := s) (hi := 3) (by omega) (by decide))) ?_
  refine s_if_eq (tgt := 27) (tb_ok aX8_tells_0 2 rfl) (by decide) (fun c4 => ?_) (fun c4 => ?_)
  · exact absurd c4 (by decide)
  · refine s_aload_n (tb_ok aX8_tells_0 3 rfl) rfl ?_
    refine s_iload_n (tb_ok aX8_tells_0 4 rfl) rfl ?_
    refine s_cVp (as := [.int (nI j)]) (tb_ok aX8_tells_0 5 rfl) v_RX8_90 (R_isHouse h.mn _) (by decide) rfl rfl rfl rfl rfl (Nat.le_of_ble_eq_true rfl) (by decide) ?_
    refine s_topi (bI_t (vH_t hj hM5)) ?_
    refine s_if_eq (tgt := 27) (tb_ok aX8_tells_0 6 rfl) (by decide) (fun c12 => ?_) (fun c12 => ?_)
    · exact absurd c12 (by decide)
    · refine s_iload_n (tb_ok aX8_tells_0 7 rfl) rfl ?_
      refine s_i2l (tb_ok aX8_tells_0 8 rfl) ?_
      refine s_lconst (v := 0) (tb_ok aX8_tells_0 9 rfl) (by decide) ?_
      refine s_ldc2 (tb_ok aX8_tells_0 10 rfl) k_RX8_416 ?_
      refine s_cSp (as := [_, .long (0), .long (7)]) (tb_ok aX8_tells_0 11 rfl) v_RX8_73 (R_in _ _ _) (by decide) rfl rfl (Nat.le_of_ble_eq_true rfl) ?_
      refine s_topi (bI_t (by decide)) ?_
      refine s_if_ne (tgt := 30) (tb_ok aX8_tells_0 12 rfl) (by decide) (fun c24 => ?_) (fun c24 => ?_)
      · refine s_aload_n (tb_ok aX8_tells_0 15 rfl) rfl ?_
        refine s_getR (r := 78) (tb_ok aX8_tells_0 16 rfl) f_RX8_50 rfl rfl rfl ?_
        refine s_iload_n (tb_ok aX8_tells_0 17 rfl) rfl ?_
        refine s_bald (x := (1)) (tb_ok aX8_tells_0 18 rfl) rfl (lw_in hs (by decide)) (by rw [nI_clamp (by omega)]; exact hth) ?_
        refine s_if_ne (tgt := 42) (tb_ok aX8_tells_0 19 rfl) (by decide) (fun c36 => ?_) (fun c36 => ?_)
        · refine s_aload_n (tb_ok aX8_tells_0 22 rfl) rfl ?_
          refine s_getR (r := 80) (tb_ok aX8_tells_0 23 rfl) f_RX8_57 rfl rfl rfl ?_
          refine s_iload_n (tb_ok aX8_tells_1 0 rfl) rfl ?_
          refine s_ialdX (x := (nI z)) (tb_ok aX8_tells_1 1 rfl) rfl (by omega) (by decide) hz ?_
          refine s_bipush (v := nI 20) (tb_ok aX8_tells_1 2 rfl) (by decide) ?_
          refine s_icmp_le (tgt := 56) (tb_ok aX8_tells_1 3 rfl) (by decide) (fun c50 => ?_) (fun c50 => ?_)
          · refine s_iload_n (tb_ok aX8_tells_1 6 rfl) rfl ?_
            refine s_if_eq (tgt := 66) (tb_ok aX8_tells_1 7 rfl) (by decide) (fun c57 => ?_) (fun c57 => ?_)
            · exact absurd c57 (by decide)
            · refine s_iload_n (tb_ok aX8_tells_1 8 rfl) rfl ?_
              refine s_bipush (v := 7) (tb_ok aX8_tells_1 9 rfl) (by decide) ?_
              refine s_icmp_ne (tgt := 85) (tb_ok aX8_tells_1 10 rfl) (by decide) (fun c63 => ?_) (fun c63 => ?_)
              · refine s_iload_n (tb_ok aX8_tells_1 22 rfl) rfl ?_
                refine s_iconst (v := 5) (tb_ok aX8_tells_1 23 rfl) (by decide) ?_
                refine s_icmp_ne (tgt := 97) (tb_ok aX8_tells_2 0 rfl) (by decide) (fun c87 => ?_) (fun c87 => ?_)
                · refine s_iload_n (tb_ok aX8_tells_2 6 rfl) rfl ?_
                  refine s_iconst (v := 1) (tb_ok aX8_tells_2 7 rfl) (by decide) ?_
                  refine s_icmp_ne (tgt := 106) (tb_ok aX8_tells_2 8 rfl) (by decide) (fun c99 => ?_) (fun c99 => ?_)
                  · refine s_iload_n (tb_ok aX8_tells_2 11 rfl) rfl ?_
                    refine s_iconst (v := 2) (tb_ok aX8_tells_2 12 rfl) (by decide) ?_
                    refine s_icmp_ne (tgt := 115) (tb_ok aX8_tells_2 13 rfl) (by decide) (fun c108 => ?_) (fun c108 => ?_)
                    · exact absurd c108 (by decide)
                    · refine s_iconst (v := 1) (tb_ok aX8_tells_2 14 rfl) (by decide) ?_
                      refine s_goto (tgt := 127) (tb_ok aX8_tells_2 15 rfl) (by decide) ?_
                      refine s_istore (ls' := [some (.ref 66), some (.int (nI s)), some (.int (nI j)), some (.int (2)), some (.int (1)), none, none, none, none, none, none]) (tb_ok aX8_tells_2 22 rfl) rfl rfl ?_
                      refine s_iload (tb_ok aX8_tells_2 23 rfl) rfl ?_
                      refine s_bipush (v := 6) (tb_ok aX8_tells_3 0 rfl) (by decide) ?_
                      refine s_icmp_ne (tgt := 143) (tb_ok aX8_tells_3 1 rfl) (by decide) (fun c133 => ?_) (fun c133 => ?_)
                      · refine s_aload_n (tb_ok aX8_tells_3 5 rfl) rfl ?_
                        refine s_iload_n (tb_ok aX8_tells_3 6 rfl) rfl ?_
                        refine s_iload (tb_ok aX8_tells_3 7 rfl) rfl ?_
                        refine s_cV (as := [.int (nI j), .int (1)]) (tb_ok aX8_tells_3 8 rfl) v_RX8_97 (R_told1 h hd hj) (by decide) rfl rfl rfl rfl rfl (Nat.le_of_ble_eq_true rfl) (by decide) (fun r1 S1 I1 L1 R1 q1 => ?_)
                        obtain ⟨rfl, rfl, rfl, hf1⟩ := q1
                        refine s_name (fun x1 ex1 => ?_)
                        refine s_istore (ls' := [some (.ref 66), some (.int (nI s)), some (.int (nI j)), some (.int (2)), some (.int (1)), some (.int x1), none, none, none, none, none]) (tb_ok aX8_tells_3 9 rfl) rfl rfl ?_
                        refine s_iload (tb_ok aX8_tells_3 10 rfl) rfl ?_
                        refine s_bipush (v := 6) (tb_ok aX8_tells_3 11 rfl) (by decide) ?_
                        refine s_icmp_ne (tgt := 168) (tb_ok aX8_tells_3 12 rfl) (by decide) (fun c156 => ?_) (fun c156 => ?_)
                        · refine s_iload (tb_ok aX8_tells_3 18 rfl) rfl ?_
                          refine s_iconst (v := 5) (tb_ok aX8_tells_3 19 rfl) (by decide) ?_
                          refine s_icmp_ne (tgt := 178) (tb_ok aX8_tells_3 20 rfl) (by decide) (fun c171 => ?_) (fun c171 => ?_)
                          · refine s_iload (tb_ok aX8_tells_3 23 rfl) rfl ?_
                            refine s_cSp (as := [.int (1)]) (tb_ok aX8_tells_4 0 rfl) v_RX8_93 (R_most1) (by decide) rfl rfl (Nat.le_of_ble_eq_true rfl) ?_
                            refine s_istore (ls' := [some (.ref 66), some (.int (nI s)), some (.int (nI j)), some (.int (2)), some (.int (1)), some (.int x1), some (.int (9)), none, none, none, none]) (tb_ok aX8_tells_4 1 rfl) rfl rfl ?_
                            refine s_iconst (v := 0) (tb_ok aX8_tells_4 2 rfl) (by decide) ?_
                            refine s_istore (ls' := [some (.ref 66), some (.int (nI s)), some (.int (nI j)), some (.int (2)), some (.int (1)), some (.int x1), some (.int (9)), some (.int (0)), none, none, none]) (tb_ok aX8_tells_4 3 rfl) rfl rfl ?_
                            refine s_iconst (v := 0) (tb_ok aX8_tells_4 4 rfl) (by decide) ?_
                            refine s_istore (ls' := [some (.ref 66), some (.int (nI s)), some (.int (nI j)), some (.int (2)), some (.int (1)), some (.int x1), some (.int (9)), some (.int (0)), some (.int (0)), none, none]) (tb_ok aX8_tells_4 5 rfl) rfl rfl ?_
                            refine s_iconst (v := -1) (tb_ok aX8_tells_4 6 rfl) (by decide) ?_
                            refine s_istore (ls' := [some (.ref 66), some (.int (nI s)), some (.int (nI j)), some (.int (2)), some (.int (1)), some (.int x1), some (.int (9)), some (.int (0)), some (.int (0)), some (.int (-1)), none]) (tb_ok aX8_tells_4 7 rfl) rfl rfl ?_
                            refine s_iload (tb_ok aX8_tells_4 8 rfl) rfl ?_
                            refine s_istore (ls' := [some (.ref 66), some (.int (nI s)), some (.int (nI j)), some (.int (2)), some (.int (1)), some (.int x1), some (.int (9)), some (.int (0)), some (.int (0)), some (.int (-1)), some (.int (9))]) (tb_ok aX8_tells_4 9 rfl) rfl rfl ?_
                            exact loop _ _ (ex1.trans (h.c1 hj).symm) (10) _ _ 0 0 (-1) (Nat.le_refl _) (eB_eC hf1) (Int32.zero_or)
                          · exact absurd c171 (by decide)
                        · exact absurd c156 (by decide)
                      · exact absurd c133 (by decide)
                  · exact absurd c99 (by decide)
                · exact absurd c87 (by decide)
              · exact absurd c63 (by decide)
          · simp (disch := omega) only [nI_ltI, nI_leI, nI_eq] at c50
            omega
        · exact absurd c36 (by decide)
      · exact absurd c24 (by decide)

set_option maxRecDepth 100000 in
set_option maxHeartbeats 1000000 in
theorem R_tells3 {X : En} {L : FL} {q : Nat × Nat} {I : FI} {m : Nat} {fr fa : Nat → Int32} {M : Nat} {T : Nat → Nat → Int32} {d : Nat} {sem : Nat → Sem} (h : RSt I m fr fa M T d sem) (hd : d ≤ 5000) {j : Nat} (hj : j < M) {s z : Nat} (hs : s < 4) (hth : I 78 s = 1) (hz : I 80 s = nI z) (hz20 : z ≤ 20) : Ev X 61 mX8_tells (0, 0) [.ref 66, .int (nI s), .int (nI j), .int (3)] S0 I L (R0 q) (AfZ q eB I (cntS (fun v => fstP sem fr fa m (nI d) (upd (T j) 4 (nI v)) (fun t => I 81 (40 * s + t)) z) 100)) := by
  have hM5 := h.M5
  have loop : ∀ (was lst : Int32), was = I 73 (4 * j + 3) → ∀ k, ∀ (I1 : FI) (L1 : FL) (b7 b8 b9 : Int32), k ≤ 100 → FrE (eC (73, 4 * j + 3)) I1 I → b8 + cntS (fun v => fstP sem fr fa m (nI d) (upd (T j) 4 (nI v)) (fun t => I 81 (40 * s + t)) z) k = cntS (fun v => fstP sem fr fa m (nI d) (upd (T j) 4 (nI v)) (fun t => I 81 (40 * s + t)) z) 100 → SW X 61 mX8_tells (0, 0) 198 [some (.ref 66), some (.int (nI s)), some (.int (nI j)), some (.int (3)), some (.int (4)), some (.int was), some (.int lst), some (.int b7), some (.int b8), some (.int b9), some (.int (dnI k))] [] S0 I1 L1 (R0 q) (KQ X (AfZ q eB I (cntS (fun v => fstP sem fr fa m (nI d) (upd (T j) 4 (nI v)) (fun t => I 81 (40 * s + t)) z) 100))) := by
    intro was lst hwas k
    induction k with
    | zero =>
      intro I1 L1 b7 b8 b9 _ hi hinv
      show SW X 61 mX8_tells (0, 0) 198 [some (.ref 66), some (.int (nI s)), some (.int (nI j)), some (.int (3)), some (.int (4)), some (.int was), some (.int lst), some (.int b7), some (.int b8), some (.int b9), some (.int (-1))] [] S0 I1 L1 (R0 q) (KQ X (AfZ q eB I (cntS (fun v => fstP sem fr fa m (nI d) (upd (T j) 4 (nI v)) (fun t => I 81 (40 * s + t)) z) 100)))
      refine s_iload (tb_ok aX8_tells_4 10 rfl) rfl ?_
      refine s_if_lt (tgt := 255) (tb_ok aX8_tells_4 11 rfl) (by decide) (fun c200 => ?_) (fun c200 => ?_)
      · refine s_aload_n (tb_ok aX8_tells_5 15 rfl) rfl ?_
        refine s_iload (tb_ok aX8_tells_5 16 rfl) rfl ?_
        refine s_iload_n (tb_ok aX8_tells_5 17 rfl) rfl ?_
        refine s_iload (tb_ok aX8_tells_5 18 rfl) rfl ?_
        refine s_cV (as := [.int (4), .int (nI j), .int was]) (tb_ok aX8_tells_5 19 rfl) v_RX8_101 (R_lays4 (by omega) _) (by decide) rfl rfl rfl rfl rfl (Nat.le_of_ble_eq_true rfl) (by decide) (fun r1 S1 I1 L1 R1 q1 => ?_)
        obtain ⟨rfl, rfl, rfl, rfl, rfl⟩ := q1
        refine s_iload_n (tb_ok aX8_tells_5 20 rfl) rfl ?_
        refine s_iconst (v := 3) (tb_ok aX8_tells_5 21 rfl) (by decide) ?_
        refine s_icmp_ne (tgt := 274) (tb_ok aX8_tells_5 22 rfl) (by decide) (fun c266 => ?_) (fun c266 => ?_)
        · exact absurd c266 (by decide)
        · refine s_iload (tb_ok aX8_tells_5 23 rfl) rfl ?_
          refine s_goto (tgt := 286) (tb_ok aX8_tells_6 0 rfl) (by decide) ?_
          refine s_iret (tb_ok aX8_tells_6 7 rfl) rfl ?_
          refine afZ ?_ (eC_back (c := (73, 4 * j + 3)) hi hwas)
          rw [← hinv]
          exact (Int32.add_zero _).symm
      · exact absurd c200 (by decide)
    | succ k ih =>
      intro I1 L1 b7 b8 b9 hkN hi hinv
      show SW X 61 mX8_tells (0, 0) 198 [some (.ref 66), some (.int (nI s)), some (.int (nI j)), some (.int (3)), some (.int (4)), some (.int was), some (.int lst), some (.int b7), some (.int b8), some (.int b9), some (.int (nI k))] [] S0 I1 L1 (R0 q) (KQ X (AfZ q eB I (cntS (fun v => fstP sem fr fa m (nI d) (upd (T j) 4 (nI v)) (fun t => I 81 (40 * s + t)) z) 100)))
      refine s_iload (tb_ok aX8_tells_4 10 rfl) rfl ?_
      refine s_if_lt (tgt := 255) (tb_ok aX8_tells_4 11 rfl) (by decide) (fun c200 => ?_) (fun c200 => ?_)
      · exact absurd c200 (nI_pos (by omega))
      · refine s_aload_n (tb_ok aX8_tells_4 12 rfl) rfl ?_
        refine s_iload (tb_ok aX8_tells_4 13 rfl) rfl ?_
        refine s_iload_n (tb_ok aX8_tells_4 14 rfl) rfl ?_
        refine s_iload (tb_ok aX8_tells_4 15 rfl) rfl ?_
        refine s_cV (as := [.int (4), .int (nI j), .int (nI k)]) (tb_ok aX8_tells_4 16 rfl) v_RX8_101 (R_lays4 (by omega) _) (by decide) rfl rfl rfl rfl rfl (Nat.le_of_ble_eq_true rfl) (by decide) (fun r1 S1 I1 L1 R1 q1 => ?_)
        obtain ⟨rfl, rfl, rfl, rfl, rfl⟩ := q1
        have hok : okT (upd (T j) 4 (nI k)) := ⟨(h.ok hj).1, (h.ok hj).2.1, (h.ok hj).2.2.1, (h.ok hj).2.2.2.1, k, by omega, rfl⟩
        have hfu := eC_up (c := (73, 4 * j + 3)) hi (nI k)
        have h2 := (h.row hj (i := 3) (v := nI k) (by decide) hok).see (see_eB hfu)
        refine s_aload_n (tb_ok aX8_tells_4 17 rfl) rfl ?_
        refine s_iload_n (tb_ok aX8_tells_4 18 rfl) rfl ?_
        refine s_iload_n (tb_ok aX8_tells_4 19 rfl) rfl ?_
        refine s_cV (as := [.int (nI s), .int (nI j)]) (tb_ok aX8_tells_4 20 rfl) v_RX8_410 (R_firstOther h2 hd hs hj ((eB81 hfu (by decide) _).trans hz) hz20) (by decide) rfl rfl rfl rfl rfl (Nat.le_of_ble_eq_true rfl) (by decide) (fun r2 S2 I2 L2 R2 q2 => ?_)
        rw [uT_o] at q2
        rw [fst_81 hfu] at q2
        obtain ⟨rfl, rfl, rfl, hf9⟩ := q2
        refine s_iconst (v := -1) (tb_ok aX8_tells_4 21 rfl) (by decide) ?_
        refine s_icmp_ne (tgt := 249) (tb_ok aX8_tells_4 22 rfl) (by decide) (fun c219 => ?_) (fun c219 => ?_)
        · refine s_iinc (v := dnI k) (ls' := [some (.ref 66), some (.int (nI s)), some (.int (nI j)), some (.int (3)), some (.int (4)), some (.int was), some (.int lst), some (.int b7), some (.int b8), some (.int b9), some (.int (dnI k))]) (tb_ok aX8_tells_5 13 rfl) rfl (dn_s (by omega)) rfl rfl ?_
          refine s_goto (tgt := 198) (tb_ok aX8_tells_5 14 rfl) (by decide) ?_
          refine ih _ _ _ _ _ (by omega) (eC_up2 (hf9.trans hfu)) ?_
          rw [← hinv, show cntS (fun v => fstP sem fr fa m (nI d) (upd (T j) 4 (nI v)) (fun t => I 81 (40 * s + t)) z) (k + 1) = cntS (fun v => fstP sem fr fa m (nI d) (upd (T j) 4 (nI v)) (fun t => I 81 (40 * s + t)) z) k from if_neg c219]
        · refine s_iload (tb_ok aX8_tells_4 23 rfl) rfl ?_
          refine s_iload (tb_ok aX8_tells_5 0 rfl) rfl ?_
          refine s_bipush (v := nI 10) (tb_ok aX8_tells_5 1 rfl) (by decide) ?_
          refine s_icmp_ge (tgt := 238) (tb_ok aX8_tells_5 2 rfl) (by decide) (fun c228 => ?_) (fun c228 => ?_)
          · refine s_iconst (v := 0) (tb_ok aX8_tells_5 7 rfl) (by decide) ?_
            refine s_ior (tb_ok aX8_tells_5 8 rfl) ?_
            refine s_name (fun x1 ex1 => ?_)
            refine s_istore (ls' := [some (.ref 66), some (.int (nI s)), some (.int (nI j)), some (.int (3)), some (.int (4)), some (.int was), some (.int lst), some (.int x1), some (.int b8), some (.int b9), some (.int (nI k))]) (tb_ok aX8_tells_5 9 rfl) rfl rfl ?_
            obtain ⟨x2, ex2⟩ : ∃ q : Int32, q = b8 + Int32.ofInt (1) := ⟨_, rfl⟩
            refine s_iinc (v := x2) (ls' := [some (.ref 66), some (.int (nI s)), some (.int (nI j)), some (.int (3)), some (.int (4)), some (.int was), some (.int lst), some (.int x1), some (.int x2), some (.int b9), some (.int (nI k))]) (tb_ok aX8_tells_5 10 rfl) rfl ex2.symm rfl rfl ?_
            refine s_iload (tb_ok aX8_tells_5 11 rfl) rfl ?_
            refine s_istore (ls' := [some (.ref 66), some (.int (nI s)), some (.int (nI j)), some (.int (3)), some (.int (4)), some (.int was), some (.int lst), some (.int x1), some (.int x2), some (.int (nI k)), some (.int (nI k))]) (tb_ok aX8_tells_5 12 rfl) rfl rfl ?_
            refine s_iinc (v := dnI k) (ls' := [some (.ref 66), some (.int (nI s)), some (.int (nI j)), some (.int (3)), some (.int (4)), some (.int was), some (.int lst), some (.int x1), some (.int x2), some (.int (nI k)), some (.int (dnI k))]) (tb_ok aX8_tells_5 13 rfl) rfl (dn_s (by omega)) rfl rfl ?_
            refine s_goto (tgt := 198) (tb_ok aX8_tells_5 14 rfl) (by decide) ?_
            refine ih _ _ _ _ _ (by omega) (eC_up2 (hf9.trans hfu)) ?_
            rw [ex2, ← hinv, show cntS (fun v => fstP sem fr fa m (nI d) (upd (T j) 4 (nI v)) (fun t => I 81 (40 * s + t)) z) (k + 1) = cntS (fun v => fstP sem fr fa m (nI d) (upd (T j) 4 (nI v)) (fun t => I 81 (40 * s + t)) z) k + 1 from if_pos c219]
            show b8 + 1 + _ = _
            ac_rfl
          · refine s_iconst (v := 1) (tb_ok aX8_tells_5 3 rfl) (by decide) ?_
            refine s_iload (tb_ok aX8_tells_5 4 rfl) rfl ?_
            refine s_ishl (tb_ok aX8_tells_5 5 rfl) ?_
            refine s_goto (tgt := 239) (tb_ok aX8_tells_5 6 rfl) (by decide) ?_
            refine s_ior (tb_ok aX8_tells_5 8 rfl) ?_
            refine s_name (fun x3 ex3 => ?_)
            refine s_istore (ls' := [some (.ref 66), some (.int (nI s)), some (.int (nI j)), some (.int (3)), some (.int (4)), some (.int was), some (.int lst), some (.int x3), some (.int b8), some (.int b9), some (.int (nI k))]) (tb_ok aX8_tells_5 9 rfl) rfl rfl ?_
            obtain ⟨x4, ex4⟩ : ∃ q : Int32, q = b8 + Int32.ofInt (1) := ⟨_, rfl⟩
            refine s_iinc (v := x4) (ls' := [some (.ref 66), some (.int (nI s)), some (.int (nI j)), some (.int (3)), some (.int (4)), some (.int was), some (.int lst), some (.int x3), some (.int x4), some (.int b9), some (.int (nI k))]) (tb_ok aX8_tells_5 10 rfl) rfl ex4.symm rfl rfl ?_
            refine s_iload (tb_ok aX8_tells_5 11 rfl) rfl ?_
            refine s_istore (ls' := [some (.ref 66), some (.int (nI s)), some (.int (nI j)), some (.int (3)), some (.int (4)), some (.int was), some (.int lst), some (.int x3), some (.int x4), some (.int (nI k)), some (.int (nI k))]) (tb_ok aX8_tells_5 12 rfl) rfl rfl ?_
            refine s_iinc (v := dnI k) (ls' := [some (.ref 66), some (.int (nI s)), some (.int (nI j)), some (.int (3)), some (.int (4)), some (.int was), some (.int lst), some (.int x3), some (.int x4), some (.int (nI k)), some (.int (dnI k))]) (tb_ok aX8_tells_5 13 rfl) rfl (dn_s (by omega)) rfl rfl ?_
            refine s_goto (tgt := 198) (tb_ok aX8_tells_5 14 rfl) (by decide) ?_
            refine ih _ _ _ _ _ (by omega) (eC_up2 (hf9.trans hfu)) ?_
            rw [ex4, ← hinv, show cntS (fun v => fstP sem fr fa m (nI d) (upd (T j) 4 (nI v)) (fun t => I 81 (40 * s + t)) z) (k + 1) = cntS (fun v => fstP sem fr fa m (nI d) (upd (T j) 4 (nI v)) (fun t => I 81 (40 * s + t)) z) k + 1 from if_pos c219]
            show b8 + 1 + _ = _
            ac_rfl
  refine ev_of (by decide +kernel) rfl ?_
  show SW X _ _ _ 0 [some (.ref 66), some (.int (nI s)), some (.int (nI j)), some (.int (3)), none, none, none, none, none, none, none] [] S0 I L (R0 q) _
  refine s_iload_n (tb_ok aX8_tells_0 0 rfl) rfl ?_
  refine s_cSp (as := [.int (nI s)]) (tb_ok aX8_tells_0 1 rfl) v_RX8_413 (R_isSheet _) (by decide) rfl rfl (Nat.le_of_ble_eq_true rfl) ?_
  refine s_topi (bI_t (inN (n := s) (hi := 3) (by omega) (by decide))) ?_
  refine s_if_eq (tgt := 27) (tb_ok aX8_tells_0 2 rfl) (by decide) (fun c4 => ?_) (fun c4 => ?_)
  · exact absurd c4 (by decide)
  · refine s_aload_n (tb_ok aX8_tells_0 3 rfl) rfl ?_
    refine s_iload_n (tb_ok aX8_tells_0 4 rfl) rfl ?_
    refine s_cVp (as := [.int (nI j)]) (tb_ok aX8_tells_0 5 rfl) v_RX8_90 (R_isHouse h.mn _) (by decide) rfl rfl rfl rfl rfl (Nat.le_of_ble_eq_true rfl) (by decide) ?_
    refine s_topi (bI_t (vH_t hj hM5)) ?_
    refine s_if_eq (tgt := 27) (tb_ok aX8_tells_0 6 rfl) (by decide) (fun c12 => ?_) (fun c12 => ?_)
    · exact absurd c12 (by decide)
    · refine s_iload_n (tb_ok aX8_tells_0 7 rfl) rfl ?_
      refine s_i2l (tb_ok aX8_tells_0 8 rfl) ?_
      refine s_lconst (v := 0) (tb_ok aX8_tells_0 9 rfl) (by decide) ?_
      refine s_ldc2 (tb_ok aX8_tells_0 10 rfl) k_RX8_416 ?_
      refine s_cSp (as := [_, .long (0), .long (7)]) (tb_ok aX8_tells_0 11 rfl) v_RX8_73 (R_in _ _ _) (by decide) rfl rfl (Nat.le_of_ble_eq_true rfl) ?_
      refine s_topi (bI_t (by decide)) ?_
      refine s_if_ne (tgt := 30) (tb_ok aX8_tells_0 12 rfl) (by decide) (fun c24 => ?_) (fun c24 => ?_)
      · refine s_aload_n (tb_ok aX8_tells_0 15 rfl) rfl ?_
        refine s_getR (r := 78) (tb_ok aX8_tells_0 16 rfl) f_RX8_50 rfl rfl rfl ?_
        refine s_iload_n (tb_ok aX8_tells_0 17 rfl) rfl ?_
        refine s_bald (x := (1)) (tb_ok aX8_tells_0 18 rfl) rfl (lw_in hs (by decide)) (by rw [nI_clamp (by omega)]; exact hth) ?_
        refine s_if_ne (tgt := 42) (tb_ok aX8_tells_0 19 rfl) (by decide) (fun c36 => ?_) (fun c36 => ?_)
        · refine s_aload_n (tb_ok aX8_tells_0 22 rfl) rfl ?_
          refine s_getR (r := 80) (tb_ok aX8_tells_0 23 rfl) f_RX8_57 rfl rfl rfl ?_
          refine s_iload_n (tb_ok aX8_tells_1 0 rfl) rfl ?_
          refine s_ialdX (x := (nI z)) (tb_ok aX8_tells_1 1 rfl) rfl (by omega) (by decide) hz ?_
          refine s_bipush (v := nI 20) (tb_ok aX8_tells_1 2 rfl) (by decide) ?_
          refine s_icmp_le (tgt := 56) (tb_ok aX8_tells_1 3 rfl) (by decide) (fun c50 => ?_) (fun c50 => ?_)
          · refine s_iload_n (tb_ok aX8_tells_1 6 rfl) rfl ?_
            refine s_if_eq (tgt := 66) (tb_ok aX8_tells_1 7 rfl) (by decide) (fun c57 => ?_) (fun c57 => ?_)
            · exact absurd c57 (by decide)
            · refine s_iload_n (tb_ok aX8_tells_1 8 rfl) rfl ?_
              refine s_bipush (v := 7) (tb_ok aX8_tells_1 9 rfl) (by decide) ?_
              refine s_icmp_ne (tgt := 85) (tb_ok aX8_tells_1 10 rfl) (by decide) (fun c63 => ?_) (fun c63 => ?_)
              · refine s_iload_n (tb_ok aX8_tells_1 22 rfl) rfl ?_
                refine s_iconst (v := 5) (tb_ok aX8_tells_1 23 rfl) (by decide) ?_
                refine s_icmp_ne (tgt := 97) (tb_ok aX8_tells_2 0 rfl) (by decide) (fun c87 => ?_) (fun c87 => ?_)
                · refine s_iload_n (tb_ok aX8_tells_2 6 rfl) rfl ?_
                  refine s_iconst (v := 1) (tb_ok aX8_tells_2 7 rfl) (by decide) ?_
                  refine s_icmp_ne (tgt := 106) (tb_ok aX8_tells_2 8 rfl) (by decide) (fun c99 => ?_) (fun c99 => ?_)
                  · refine s_iload_n (tb_ok aX8_tells_2 11 rfl) rfl ?_
                    refine s_iconst (v := 2) (tb_ok aX8_tells_2 12 rfl) (by decide) ?_
                    refine s_icmp_ne (tgt := 115) (tb_ok aX8_tells_2 13 rfl) (by decide) (fun c108 => ?_) (fun c108 => ?_)
                    · refine s_iload_n (tb_ok aX8_tells_2 16 rfl) rfl ?_
                      refine s_bipush (v := 6) (tb_ok aX8_tells_2 17 rfl) (by decide) ?_
                      refine s_icmp_ne (tgt := 126) (tb_ok aX8_tells_2 18 rfl) (by decide) (fun c118 => ?_) (fun c118 => ?_)
                      · refine s_iconst (v := 4) (tb_ok aX8_tells_2 21 rfl) (by decide) ?_
                        refine s_istore (ls' := [some (.ref 66), some (.int (nI s)), some (.int (nI j)), some (.int (3)), some (.int (4)), none, none, none, none, none, none]) (tb_ok aX8_tells_2 22 rfl) rfl rfl ?_
                        refine s_iload (tb_ok aX8_tells_2 23 rfl) rfl ?_
                        refine s_bipush (v := 6) (tb_ok aX8_tells_3 0 rfl) (by decide) ?_
                        refine s_icmp_ne (tgt := 143) (tb_ok aX8_tells_3 1 rfl) (by decide) (fun c133 => ?_) (fun c133 => ?_)
                        · refine s_aload_n (tb_ok aX8_tells_3 5 rfl) rfl ?_
                          refine s_iload_n (tb_ok aX8_tells_3 6 rfl) rfl ?_
                          refine s_iload (tb_ok aX8_tells_3 7 rfl) rfl ?_
                          refine s_cV (as := [.int (nI j), .int (4)]) (tb_ok aX8_tells_3 8 rfl) v_RX8_97 (R_told4 h hd hj) (by decide) rfl rfl rfl rfl rfl (Nat.le_of_ble_eq_true rfl) (by decide) (fun r1 S1 I1 L1 R1 q1 => ?_)
                          obtain ⟨rfl, rfl, rfl, hf1⟩ := q1
                          refine s_name (fun x1 ex1 => ?_)
                          refine s_istore (ls' := [some (.ref 66), some (.int (nI s)), some (.int (nI j)), some (.int (3)), some (.int (4)), some (.int x1), none, none, none, none, none]) (tb_ok aX8_tells_3 9 rfl) rfl rfl ?_
                          refine s_iload (tb_ok aX8_tells_3 10 rfl) rfl ?_
                          refine s_bipush (v := 6) (tb_ok aX8_tells_3 11 rfl) (by decide) ?_
                          refine s_icmp_ne (tgt := 168) (tb_ok aX8_tells_3 12 rfl) (by decide) (fun c156 => ?_) (fun c156 => ?_)
                          · refine s_iload (tb_ok aX8_tells_3 18 rfl) rfl ?_
                            refine s_iconst (v := 5) (tb_ok aX8_tells_3 19 rfl) (by decide) ?_
                            refine s_icmp_ne (tgt := 178) (tb_ok aX8_tells_3 20 rfl) (by decide) (fun c171 => ?_) (fun c171 => ?_)
                            · refine s_iload (tb_ok aX8_tells_3 23 rfl) rfl ?_
                              refine s_cSp (as := [.int (4)]) (tb_ok aX8_tells_4 0 rfl) v_RX8_93 (R_most4) (by decide) rfl rfl (Nat.le_of_ble_eq_true rfl) ?_
                              refine s_istore (ls' := [some (.ref 66), some (.int (nI s)), some (.int (nI j)), some (.int (3)), some (.int (4)), some (.int x1), some (.int (99)), none, none, none, none]) (tb_ok aX8_tells_4 1 rfl) rfl rfl ?_
                              refine s_iconst (v := 0) (tb_ok aX8_tells_4 2 rfl) (by decide) ?_
                              refine s_istore (ls' := [some (.ref 66), some (.int (nI s)), some (.int (nI j)), some (.int (3)), some (.int (4)), some (.int x1), some (.int (99)), some (.int (0)), none, none, none]) (tb_ok aX8_tells_4 3 rfl) rfl rfl ?_
                              refine s_iconst (v := 0) (tb_ok aX8_tells_4 4 rfl) (by decide) ?_
                              refine s_istore (ls' := [some (.ref 66), some (.int (nI s)), some (.int (nI j)), some (.int (3)), some (.int (4)), some (.int x1), some (.int (99)), some (.int (0)), some (.int (0)), none, none]) (tb_ok aX8_tells_4 5 rfl) rfl rfl ?_
                              refine s_iconst (v := -1) (tb_ok aX8_tells_4 6 rfl) (by decide) ?_
                              refine s_istore (ls' := [some (.ref 66), some (.int (nI s)), some (.int (nI j)), some (.int (3)), some (.int (4)), some (.int x1), some (.int (99)), some (.int (0)), some (.int (0)), some (.int (-1)), none]) (tb_ok aX8_tells_4 7 rfl) rfl rfl ?_
                              refine s_iload (tb_ok aX8_tells_4 8 rfl) rfl ?_
                              refine s_istore (ls' := [some (.ref 66), some (.int (nI s)), some (.int (nI j)), some (.int (3)), some (.int (4)), some (.int x1), some (.int (99)), some (.int (0)), some (.int (0)), some (.int (-1)), some (.int (99))]) (tb_ok aX8_tells_4 9 rfl) rfl rfl ?_
                              exact loop _ _ (ex1.trans (h.c4 hj).symm) (100) _ _ 0 0 (-1) (Nat.le_refl _) (eB_eC hf1) (Int32.zero_add _)
                            · exact absurd c171 (by decide)
                          · exact absurd c156 (by decide)
                        · exact absurd c133 (by decide)
                      · exact absurd c118 (by decide)
                    · exact absurd c108 (by decide)
                  · exact absurd c99 (by decide)
                · exact absurd c87 (by decide)
              · exact absurd c63 (by decide)
          · simp (disch := omega) only [nI_ltI, nI_leI, nI_eq] at c50
            omega
        · exact absurd c36 (by decide)
      · exact absurd c24 (by decide)

set_option maxRecDepth 100000 in
set_option maxHeartbeats 1000000 in
theorem R_tells4 {X : En} {L : FL} {q : Nat × Nat} {I : FI} {m : Nat} {fr fa : Nat → Int32} {M : Nat} {T : Nat → Nat → Int32} {d : Nat} {sem : Nat → Sem} (h : RSt I m fr fa M T d sem) (hd : d ≤ 5000) {j : Nat} (hj : j < M) {s z : Nat} (hs : s < 4) (hth : I 78 s = 1) (hz : I 80 s = nI z) (hz20 : z ≤ 20) : Ev X 61 mX8_tells (0, 0) [.ref 66, .int (nI s), .int (nI j), .int (4)] S0 I L (R0 q) (AfZ q eB I (lstS (fun v => fstP sem fr fa m (nI d) (upd (T j) 4 (nI v)) (fun t => I 81 (40 * s + t)) z) 100 0)) := by
  have hM5 := h.M5
  have loop : ∀ (was lst : Int32), was = I 73 (4 * j + 3) → ∀ k, ∀ (I1 : FI) (L1 : FL) (b7 b8 b9 : Int32), k ≤ 100 → FrE (eC (73, 4 * j + 3)) I1 I → (if lstS (fun v => fstP sem fr fa m (nI d) (upd (T j) 4 (nI v)) (fun t => I 81 (40 * s + t)) z) k 0 = -1 then b9 else lstS (fun v => fstP sem fr fa m (nI d) (upd (T j) 4 (nI v)) (fun t => I 81 (40 * s + t)) z) k 0) = lstS (fun v => fstP sem fr fa m (nI d) (upd (T j) 4 (nI v)) (fun t => I 81 (40 * s + t)) z) 100 0 → SW X 61 mX8_tells (0, 0) 198 [some (.ref 66), some (.int (nI s)), some (.int (nI j)), some (.int (4)), some (.int (4)), some (.int was), some (.int lst), some (.int b7), some (.int b8), some (.int b9), some (.int (dnI k))] [] S0 I1 L1 (R0 q) (KQ X (AfZ q eB I (lstS (fun v => fstP sem fr fa m (nI d) (upd (T j) 4 (nI v)) (fun t => I 81 (40 * s + t)) z) 100 0))) := by
    intro was lst hwas k
    induction k with
    | zero =>
      intro I1 L1 b7 b8 b9 _ hi hinv
      show SW X 61 mX8_tells (0, 0) 198 [some (.ref 66), some (.int (nI s)), some (.int (nI j)), some (.int (4)), some (.int (4)), some (.int was), some (.int lst), some (.int b7), some (.int b8), some (.int b9), some (.int (-1))] [] S0 I1 L1 (R0 q) (KQ X (AfZ q eB I (lstS (fun v => fstP sem fr fa m (nI d) (upd (T j) 4 (nI v)) (fun t => I 81 (40 * s + t)) z) 100 0)))
      refine s_iload (tb_ok aX8_tells_4 10 rfl) rfl ?_
      refine s_if_lt (tgt := 255) (tb_ok aX8_tells_4 11 rfl) (by decide) (fun c200 => ?_) (fun c200 => ?_)
      · refine s_aload_n (tb_ok aX8_tells_5 15 rfl) rfl ?_
        refine s_iload (tb_ok aX8_tells_5 16 rfl) rfl ?_
        refine s_iload_n (tb_ok aX8_tells_5 17 rfl) rfl ?_
        refine s_iload (tb_ok aX8_tells_5 18 rfl) rfl ?_
        refine s_cV (as := [.int (4), .int (nI j), .int was]) (tb_ok aX8_tells_5 19 rfl) v_RX8_101 (R_lays4 (by omega) _) (by decide) rfl rfl rfl rfl rfl (Nat.le_of_ble_eq_true rfl) (by decide) (fun r1 S1 I1 L1 R1 q1 => ?_)
        obtain ⟨rfl, rfl, rfl, rfl, rfl⟩ := q1
        refine s_iload_n (tb_ok aX8_tells_5 20 rfl) rfl ?_
        refine s_iconst (v := 3) (tb_ok aX8_tells_5 21 rfl) (by decide) ?_
        refine s_icmp_ne (tgt := 274) (tb_ok aX8_tells_5 22 rfl) (by decide) (fun c266 => ?_) (fun c266 => ?_)
        · refine s_iload_n (tb_ok aX8_tells_6 1 rfl) rfl ?_
          refine s_iconst (v := 4) (tb_ok aX8_tells_6 2 rfl) (by decide) ?_
          refine s_icmp_ne (tgt := 284) (tb_ok aX8_tells_6 3 rfl) (by decide) (fun c276 => ?_) (fun c276 => ?_)
          · exact absurd c276 (by decide)
          · refine s_iload (tb_ok aX8_tells_6 4 rfl) rfl ?_
            refine s_goto (tgt := 286) (tb_ok aX8_tells_6 5 rfl) (by decide) ?_
            refine s_iret (tb_ok aX8_tells_6 7 rfl) rfl ?_
            refine afZ ?_ (eC_back (c := (73, 4 * j + 3)) hi hwas)
            rw [← hinv]
            rfl
        · exact absurd c266 (by decide)
      · exact absurd c200 (by decide)
    | succ k ih =>
      intro I1 L1 b7 b8 b9 hkN hi hinv
      show SW X 61 mX8_tells (0, 0) 198 [some (.ref 66), some (.int (nI s)), some (.int (nI j)), some (.int (4)), some (.int (4)), some (.int was), some (.int lst), some (.int b7), some (.int b8), some (.int b9), some (.int (nI k))] [] S0 I1 L1 (R0 q) (KQ X (AfZ q eB I (lstS (fun v => fstP sem fr fa m (nI d) (upd (T j) 4 (nI v)) (fun t => I 81 (40 * s + t)) z) 100 0)))
      refine s_iload (tb_ok aX8_tells_4 10 rfl) rfl ?_
      refine s_if_lt (tgt := 255) (tb_ok aX8_tells_4 11 rfl) (by decide) (fun c200 => ?_) (fun c200 => ?_)
      · exact absurd c200 (nI_pos (by omega))
      · refine s_aload_n (tb_ok aX8_tells_4 12 rfl) rfl ?_
        refine s_iload (tb_ok aX8_tells_4 13 rfl) rfl ?_
        refine s_iload_n (tb_ok aX8_tells_4 14 rfl) rfl ?_
        refine s_iload (tb_ok aX8_tells_4 15 rfl) rfl ?_
        refine s_cV (as := [.int (4), .int (nI j), .int (nI k)]) (tb_ok aX8_tells_4 16 rfl) v_RX8_101 (R_lays4 (by omega) _) (by decide) rfl rfl rfl rfl rfl (Nat.le_of_ble_eq_true rfl) (by decide) (fun r1 S1 I1 L1 R1 q1 => ?_)
        obtain ⟨rfl, rfl, rfl, rfl, rfl⟩ := q1
        have hok : okT (upd (T j) 4 (nI k)) := ⟨(h.ok hj).1, (h.ok hj).2.1, (h.ok hj).2.2.1, (h.ok hj).2.2.2.1, k, by omega, rfl⟩
        have hfu := eC_up (c := (73, 4 * j + 3)) hi (nI k)
        have h2 := (h.row hj (i := 3) (v := nI k) (by decide) hok).see (see_eB hfu)
        refine s_aload_n (tb_ok aX8_tells_4 17 rfl) rfl ?_
        refine s_iload_n (tb_ok aX8_tells_4 18 rfl) rfl ?_
        refine s_iload_n (tb_ok aX8_tells_4 19 rfl) rfl ?_
        refine s_cV (as := [.int (nI s), .int (nI j)]) (tb_ok aX8_tells_4 20 rfl) v_RX8_410 (R_firstOther h2 hd hs hj ((eB81 hfu (by decide) _).trans hz) hz20) (by decide) rfl rfl rfl rfl rfl (Nat.le_of_ble_eq_true rfl) (by decide) (fun r2 S2 I2 L2 R2 q2 => ?_)
        rw [uT_o] at q2
        rw [fst_81 hfu] at q2
        obtain ⟨rfl, rfl, rfl, hf9⟩ := q2
        refine s_iconst (v := -1) (tb_ok aX8_tells_4 21 rfl) (by decide) ?_
        refine s_icmp_ne (tgt := 249) (tb_ok aX8_tells_4 22 rfl) (by decide) (fun c219 => ?_) (fun c219 => ?_)
        · refine s_iinc (v := dnI k) (ls' := [some (.ref 66), some (.int (nI s)), some (.int (nI j)), some (.int (4)), some (.int (4)), some (.int was), some (.int lst), some (.int b7), some (.int b8), some (.int b9), some (.int (dnI k))]) (tb_ok aX8_tells_5 13 rfl) rfl (dn_s (by omega)) rfl rfl ?_
          refine s_goto (tgt := 198) (tb_ok aX8_tells_5 14 rfl) (by decide) ?_
          refine ih _ _ _ _ _ (by omega) (eC_up2 (hf9.trans hfu)) ?_
          rw [← hinv, lst_add (f := (fun v => fstP sem fr fa m (nI d) (upd (T j) 4 (nI v)) (fun t => I 81 (40 * s + t)) z)) k 0 (by omega), Nat.zero_add, if_neg (show ¬ (fun v => fstP sem fr fa m (nI d) (upd (T j) 4 (nI v)) (fun t => I 81 (40 * s + t)) z) k = -1 from c219)]
          by_cases hl : lstS (fun v => fstP sem fr fa m (nI d) (upd (T j) 4 (nI v)) (fun t => I 81 (40 * s + t)) z) k 0 = -1
          · rw [if_pos hl, if_pos hl, if_pos rfl]
          · rw [if_neg hl, if_neg hl, if_neg hl]
        · refine s_iload (tb_ok aX8_tells_4 23 rfl) rfl ?_
          refine s_iload (tb_ok aX8_tells_5 0 rfl) rfl ?_
          refine s_bipush (v := nI 10) (tb_ok aX8_tells_5 1 rfl) (by decide) ?_
          refine s_icmp_ge (tgt := 238) (tb_ok aX8_tells_5 2 rfl) (by decide) (fun c228 => ?_) (fun c228 => ?_)
          · refine s_iconst (v := 0) (tb_ok aX8_tells_5 7 rfl) (by decide) ?_
            refine s_ior (tb_ok aX8_tells_5 8 rfl) ?_
            refine s_name (fun x1 ex1 => ?_)
            refine s_istore (ls' := [some (.ref 66), some (.int (nI s)), some (.int (nI j)), some (.int (4)), some (.int (4)), some (.int was), some (.int lst), some (.int x1), some (.int b8), some (.int b9), some (.int (nI k))]) (tb_ok aX8_tells_5 9 rfl) rfl rfl ?_
            obtain ⟨x2, ex2⟩ : ∃ q : Int32, q = b8 + Int32.ofInt (1) := ⟨_, rfl⟩
            refine s_iinc (v := x2) (ls' := [some (.ref 66), some (.int (nI s)), some (.int (nI j)), some (.int (4)), some (.int (4)), some (.int was), some (.int lst), some (.int x1), some (.int x2), some (.int b9), some (.int (nI k))]) (tb_ok aX8_tells_5 10 rfl) rfl ex2.symm rfl rfl ?_
            refine s_iload (tb_ok aX8_tells_5 11 rfl) rfl ?_
            refine s_istore (ls' := [some (.ref 66), some (.int (nI s)), some (.int (nI j)), some (.int (4)), some (.int (4)), some (.int was), some (.int lst), some (.int x1), some (.int x2), some (.int (nI k)), some (.int (nI k))]) (tb_ok aX8_tells_5 12 rfl) rfl rfl ?_
            refine s_iinc (v := dnI k) (ls' := [some (.ref 66), some (.int (nI s)), some (.int (nI j)), some (.int (4)), some (.int (4)), some (.int was), some (.int lst), some (.int x1), some (.int x2), some (.int (nI k)), some (.int (dnI k))]) (tb_ok aX8_tells_5 13 rfl) rfl (dn_s (by omega)) rfl rfl ?_
            refine s_goto (tgt := 198) (tb_ok aX8_tells_5 14 rfl) (by decide) ?_
            refine ih _ _ _ _ _ (by omega) (eC_up2 (hf9.trans hfu)) ?_
            rw [← hinv, lst_add (f := (fun v => fstP sem fr fa m (nI d) (upd (T j) 4 (nI v)) (fun t => I 81 (40 * s + t)) z)) k 0 (by omega), Nat.zero_add, if_pos (show (fun v => fstP sem fr fa m (nI d) (upd (T j) 4 (nI v)) (fun t => I 81 (40 * s + t)) z) k = -1 from c219)]
            by_cases hl : lstS (fun v => fstP sem fr fa m (nI d) (upd (T j) 4 (nI v)) (fun t => I 81 (40 * s + t)) z) k 0 = -1
            · rw [if_pos hl, if_neg (nI_m1 (by omega))]
            · rw [if_neg hl, if_neg hl]
          · refine s_iconst (v := 1) (tb_ok aX8_tells_5 3 rfl) (by decide) ?_
            refine s_iload (tb_ok aX8_tells_5 4 rfl) rfl ?_
            refine s_ishl (tb_ok aX8_tells_5 5 rfl) ?_
            refine s_goto (tgt := 239) (tb_ok aX8_tells_5 6 rfl) (by decide) ?_
            refine s_ior (tb_ok aX8_tells_5 8 rfl) ?_
            refine s_name (fun x3 ex3 => ?_)
            refine s_istore (ls' := [some (.ref 66), some (.int (nI s)), some (.int (nI j)), some (.int (4)), some (.int (4)), some (.int was), some (.int lst), some (.int x3), some (.int b8), some (.int b9), some (.int (nI k))]) (tb_ok aX8_tells_5 9 rfl) rfl rfl ?_
            obtain ⟨x4, ex4⟩ : ∃ q : Int32, q = b8 + Int32.ofInt (1) := ⟨_, rfl⟩
            refine s_iinc (v := x4) (ls' := [some (.ref 66), some (.int (nI s)), some (.int (nI j)), some (.int (4)), some (.int (4)), some (.int was), some (.int lst), some (.int x3), some (.int x4), some (.int b9), some (.int (nI k))]) (tb_ok aX8_tells_5 10 rfl) rfl ex4.symm rfl rfl ?_
            refine s_iload (tb_ok aX8_tells_5 11 rfl) rfl ?_
            refine s_istore (ls' := [some (.ref 66), some (.int (nI s)), some (.int (nI j)), some (.int (4)), some (.int (4)), some (.int was), some (.int lst), some (.int x3), some (.int x4), some (.int (nI k)), some (.int (nI k))]) (tb_ok aX8_tells_5 12 rfl) rfl rfl ?_
            refine s_iinc (v := dnI k) (ls' := [some (.ref 66), some (.int (nI s)), some (.int (nI j)), some (.int (4)), some (.int (4)), some (.int was), some (.int lst), some (.int x3), some (.int x4), some (.int (nI k)), some (.int (dnI k))]) (tb_ok aX8_tells_5 13 rfl) rfl (dn_s (by omega)) rfl rfl ?_
            refine s_goto (tgt := 198) (tb_ok aX8_tells_5 14 rfl) (by decide) ?_
            refine ih _ _ _ _ _ (by omega) (eC_up2 (hf9.trans hfu)) ?_
            rw [← hinv, lst_add (f := (fun v => fstP sem fr fa m (nI d) (upd (T j) 4 (nI v)) (fun t => I 81 (40 * s + t)) z)) k 0 (by omega), Nat.zero_add, if_pos (show (fun v => fstP sem fr fa m (nI d) (upd (T j) 4 (nI v)) (fun t => I 81 (40 * s + t)) z) k = -1 from c219)]
            by_cases hl : lstS (fun v => fstP sem fr fa m (nI d) (upd (T j) 4 (nI v)) (fun t => I 81 (40 * s + t)) z) k 0 = -1
            · rw [if_pos hl, if_neg (nI_m1 (by omega))]
            · rw [if_neg hl, if_neg hl]
  refine ev_of (by decide +kernel) rfl ?_
  show SW X _ _ _ 0 [some (.ref 66), some (.int (nI s)), some (.int (nI j)), some (.int (4)), none, none, none, none, none, none, none] [] S0 I L (R0 q) _
  refine s_iload_n (tb_ok aX8_tells_0 0 rfl) rfl ?_
  refine s_cSp (as := [.int (nI s)]) (tb_ok aX8_tells_0 1 rfl) v_RX8_413 (R_isSheet _) (by decide) rfl rfl (Nat.le_of_ble_eq_true rfl) ?_
  refine s_topi (bI_t (inN (n := s) (hi := 3) (by omega) (by decide))) ?_
  refine s_if_eq (tgt := 27) (tb_ok aX8_tells_0 2 rfl) (by decide) (fun c4 => ?_) (fun c4 => ?_)
  · exact absurd c4 (by decide)
  · refine s_aload_n (tb_ok aX8_tells_0 3 rfl) rfl ?_
    refine s_iload_n (tb_ok aX8_tells_0 4 rfl) rfl ?_
    refine s_cVp (as := [.int (nI j)]) (tb_ok aX8_tells_0 5 rfl) v_RX8_90 (R_isHouse h.mn _) (by decide) rfl rfl rfl rfl rfl (Nat.le_of_ble_eq_true rfl) (by decide) ?_
    refine s_topi (bI_t (vH_t hj hM5)) ?_
    refine s_if_eq (tgt := 27) (tb_ok aX8_tells_0 6 rfl) (by decide) (fun c12 => ?_) (fun c12 => ?_)
    · exact absurd c12 (by decide)
    · refine s_iload_n (tb_ok aX8_tells_0 7 rfl) rfl ?_
      refine s_i2l (tb_ok aX8_tells_0 8 rfl) ?_
      refine s_lconst (v := 0) (tb_ok aX8_tells_0 9 rfl) (by decide) ?_
      refine s_ldc2 (tb_ok aX8_tells_0 10 rfl) k_RX8_416 ?_
      refine s_cSp (as := [_, .long (0), .long (7)]) (tb_ok aX8_tells_0 11 rfl) v_RX8_73 (R_in _ _ _) (by decide) rfl rfl (Nat.le_of_ble_eq_true rfl) ?_
      refine s_topi (bI_t (by decide)) ?_
      refine s_if_ne (tgt := 30) (tb_ok aX8_tells_0 12 rfl) (by decide) (fun c24 => ?_) (fun c24 => ?_)
      · refine s_aload_n (tb_ok aX8_tells_0 15 rfl) rfl ?_
        refine s_getR (r := 78) (tb_ok aX8_tells_0 16 rfl) f_RX8_50 rfl rfl rfl ?_
        refine s_iload_n (tb_ok aX8_tells_0 17 rfl) rfl ?_
        refine s_bald (x := (1)) (tb_ok aX8_tells_0 18 rfl) rfl (lw_in hs (by decide)) (by rw [nI_clamp (by omega)]; exact hth) ?_
        refine s_if_ne (tgt := 42) (tb_ok aX8_tells_0 19 rfl) (by decide) (fun c36 => ?_) (fun c36 => ?_)
        · refine s_aload_n (tb_ok aX8_tells_0 22 rfl) rfl ?_
          refine s_getR (r := 80) (tb_ok aX8_tells_0 23 rfl) f_RX8_57 rfl rfl rfl ?_
          refine s_iload_n (tb_ok aX8_tells_1 0 rfl) rfl ?_
          refine s_ialdX (x := (nI z)) (tb_ok aX8_tells_1 1 rfl) rfl (by omega) (by decide) hz ?_
          refine s_bipush (v := nI 20) (tb_ok aX8_tells_1 2 rfl) (by decide) ?_
          refine s_icmp_le (tgt := 56) (tb_ok aX8_tells_1 3 rfl) (by decide) (fun c50 => ?_) (fun c50 => ?_)
          · refine s_iload_n (tb_ok aX8_tells_1 6 rfl) rfl ?_
            refine s_if_eq (tgt := 66) (tb_ok aX8_tells_1 7 rfl) (by decide) (fun c57 => ?_) (fun c57 => ?_)
            · exact absurd c57 (by decide)
            · refine s_iload_n (tb_ok aX8_tells_1 8 rfl) rfl ?_
              refine s_bipush (v := 7) (tb_ok aX8_tells_1 9 rfl) (by decide) ?_
              refine s_icmp_ne (tgt := 85) (tb_ok aX8_tells_1 10 rfl) (by decide) (fun c63 => ?_) (fun c63 => ?_)
              · refine s_iload_n (tb_ok aX8_tells_1 22 rfl) rfl ?_
                refine s_iconst (v := 5) (tb_ok aX8_tells_1 23 rfl) (by decide) ?_
                refine s_icmp_ne (tgt := 97) (tb_ok aX8_tells_2 0 rfl) (by decide) (fun c87 => ?_) (fun c87 => ?_)
                · refine s_iload_n (tb_ok aX8_tells_2 6 rfl) rfl ?_
                  refine s_iconst (v := 1) (tb_ok aX8_tells_2 7 rfl) (by decide) ?_
                  refine s_icmp_ne (tgt := 106) (tb_ok aX8_tells_2 8 rfl) (by decide) (fun c99 => ?_) (fun c99 => ?_)
                  · refine s_iload_n (tb_ok aX8_tells_2 11 rfl) rfl ?_
                    refine s_iconst (v := 2) (tb_ok aX8_tells_2 12 rfl) (by decide) ?_
                    refine s_icmp_ne (tgt := 115) (tb_ok aX8_tells_2 13 rfl) (by decide) (fun c108 => ?_) (fun c108 => ?_)
                    · refine s_iload_n (tb_ok aX8_tells_2 16 rfl) rfl ?_
                      refine s_bipush (v := 6) (tb_ok aX8_tells_2 17 rfl) (by decide) ?_
                      refine s_icmp_ne (tgt := 126) (tb_ok aX8_tells_2 18 rfl) (by decide) (fun c118 => ?_) (fun c118 => ?_)
                      · refine s_iconst (v := 4) (tb_ok aX8_tells_2 21 rfl) (by decide) ?_
                        refine s_istore (ls' := [some (.ref 66), some (.int (nI s)), some (.int (nI j)), some (.int (4)), some (.int (4)), none, none, none, none, none, none]) (tb_ok aX8_tells_2 22 rfl) rfl rfl ?_
                        refine s_iload (tb_ok aX8_tells_2 23 rfl) rfl ?_
                        refine s_bipush (v := 6) (tb_ok aX8_tells_3 0 rfl) (by decide) ?_
                        refine s_icmp_ne (tgt := 143) (tb_ok aX8_tells_3 1 rfl) (by decide) (fun c133 => ?_) (fun c133 => ?_)
                        · refine s_aload_n (tb_ok aX8_tells_3 5 rfl) rfl ?_
                          refine s_iload_n (tb_ok aX8_tells_3 6 rfl) rfl ?_
                          refine s_iload (tb_ok aX8_tells_3 7 rfl) rfl ?_
                          refine s_cV (as := [.int (nI j), .int (4)]) (tb_ok aX8_tells_3 8 rfl) v_RX8_97 (R_told4 h hd hj) (by decide) rfl rfl rfl rfl rfl (Nat.le_of_ble_eq_true rfl) (by decide) (fun r1 S1 I1 L1 R1 q1 => ?_)
                          obtain ⟨rfl, rfl, rfl, hf1⟩ := q1
                          refine s_name (fun x1 ex1 => ?_)
                          refine s_istore (ls' := [some (.ref 66), some (.int (nI s)), some (.int (nI j)), some (.int (4)), some (.int (4)), some (.int x1), none, none, none, none, none]) (tb_ok aX8_tells_3 9 rfl) rfl rfl ?_
                          refine s_iload (tb_ok aX8_tells_3 10 rfl) rfl ?_
                          refine s_bipush (v := 6) (tb_ok aX8_tells_3 11 rfl) (by decide) ?_
                          refine s_icmp_ne (tgt := 168) (tb_ok aX8_tells_3 12 rfl) (by decide) (fun c156 => ?_) (fun c156 => ?_)
                          · refine s_iload (tb_ok aX8_tells_3 18 rfl) rfl ?_
                            refine s_iconst (v := 5) (tb_ok aX8_tells_3 19 rfl) (by decide) ?_
                            refine s_icmp_ne (tgt := 178) (tb_ok aX8_tells_3 20 rfl) (by decide) (fun c171 => ?_) (fun c171 => ?_)
                            · refine s_iload (tb_ok aX8_tells_3 23 rfl) rfl ?_
                              refine s_cSp (as := [.int (4)]) (tb_ok aX8_tells_4 0 rfl) v_RX8_93 (R_most4) (by decide) rfl rfl (Nat.le_of_ble_eq_true rfl) ?_
                              refine s_istore (ls' := [some (.ref 66), some (.int (nI s)), some (.int (nI j)), some (.int (4)), some (.int (4)), some (.int x1), some (.int (99)), none, none, none, none]) (tb_ok aX8_tells_4 1 rfl) rfl rfl ?_
                              refine s_iconst (v := 0) (tb_ok aX8_tells_4 2 rfl) (by decide) ?_
                              refine s_istore (ls' := [some (.ref 66), some (.int (nI s)), some (.int (nI j)), some (.int (4)), some (.int (4)), some (.int x1), some (.int (99)), some (.int (0)), none, none, none]) (tb_ok aX8_tells_4 3 rfl) rfl rfl ?_
                              refine s_iconst (v := 0) (tb_ok aX8_tells_4 4 rfl) (by decide) ?_
                              refine s_istore (ls' := [some (.ref 66), some (.int (nI s)), some (.int (nI j)), some (.int (4)), some (.int (4)), some (.int x1), some (.int (99)), some (.int (0)), some (.int (0)), none, none]) (tb_ok aX8_tells_4 5 rfl) rfl rfl ?_
                              refine s_iconst (v := -1) (tb_ok aX8_tells_4 6 rfl) (by decide) ?_
                              refine s_istore (ls' := [some (.ref 66), some (.int (nI s)), some (.int (nI j)), some (.int (4)), some (.int (4)), some (.int x1), some (.int (99)), some (.int (0)), some (.int (0)), some (.int (-1)), none]) (tb_ok aX8_tells_4 7 rfl) rfl rfl ?_
                              refine s_iload (tb_ok aX8_tells_4 8 rfl) rfl ?_
                              refine s_istore (ls' := [some (.ref 66), some (.int (nI s)), some (.int (nI j)), some (.int (4)), some (.int (4)), some (.int x1), some (.int (99)), some (.int (0)), some (.int (0)), some (.int (-1)), some (.int (99))]) (tb_ok aX8_tells_4 9 rfl) rfl rfl ?_
                              exact loop _ _ (ex1.trans (h.c4 hj).symm) (100) _ _ 0 0 (-1) (Nat.le_refl _) (eB_eC hf1) (by split <;> first | (rename_i hl; exact hl.symm) | rfl)
                            · exact absurd c171 (by decide)
                          · exact absurd c156 (by decide)
                        · exact absurd c133 (by decide)
                      · exact absurd c118 (by decide)
                    · exact absurd c108 (by decide)
                  · exact absurd c99 (by decide)
                · exact absurd c87 (by decide)
              · exact absurd c63 (by decide)
          · simp (disch := omega) only [nI_ltI, nI_leI, nI_eq] at c50
            omega
        · exact absurd c36 (by decide)
      · exact absurd c24 (by decide)

set_option maxRecDepth 100000 in
set_option maxHeartbeats 1000000 in
theorem R_tells6 {X : En} {L : FL} {q : Nat × Nat} {I : FI} {m : Nat} {fr fa : Nat → Int32} {M : Nat} {T : Nat → Nat → Int32} {d : Nat} {sem : Nat → Sem} (h : RSt I m fr fa M T d sem) (hd : d ≤ 5000) {j : Nat} (hj : j < M) {s z : Nat} (hs : s < 4) (hth : I 78 s = 1) (hz : I 80 s = nI z) (hz20 : z ≤ 20) {tx : Nat} (htx : I 66 3 = nI tx) (htx6 : tx ≤ 6) (ht1 : 1 ≤ tx) {sems : Nat → Nat → Sem} (hts : ∀ i, i < tx → RT1 I i (sems i)) : Ev X 61 mX8_tells (0, 0) [.ref 66, .int (nI s), .int (nI j), .int (6)] S0 I L (R0 q) (AfZ q eB I (bitS (fun i => fstP (sems i) fr fa m (nI d) (T j) (fun t => I 81 (40 * s + t)) z) tx)) := by
  have hM5 := h.M5
  have loop : ∀ (was lst : Int32), was = I 66 (4) → ∀ k, ∀ (I1 : FI) (L1 : FL) (b7 b8 b9 : Int32), k ≤ tx → FrE (eC (66, 4)) I1 I → b7 ||| bitS (fun i => fstP (sems i) fr fa m (nI d) (T j) (fun t => I 81 (40 * s + t)) z) k = bitS (fun i => fstP (sems i) fr fa m (nI d) (T j) (fun t => I 81 (40 * s + t)) z) tx → SW X 61 mX8_tells (0, 0) 198 [some (.ref 66), some (.int (nI s)), some (.int (nI j)), some (.int (6)), some (.int (6)), some (.int was), some (.int lst), some (.int b7), some (.int b8), some (.int b9), some (.int (dnI k))] [] S0 I1 L1 (R0 q) (KQ X (AfZ q eB I (bitS (fun i => fstP (sems i) fr fa m (nI d) (T j) (fun t => I 81 (40 * s + t)) z) tx))) := by
    intro was lst hwas k
    induction k with
    | zero =>
      intro I1 L1 b7 b8 b9 _ hi hinv
      show SW X 61 mX8_tells (0, 0) 198 [some (.ref 66), some (.int (nI s)), some (.int (nI j)), some (.int (6)), some (.int (6)), some (.int was), some (.int lst), some (.int b7), some (.int b8), some (.int b9), some (.int (-1))] [] S0 I1 L1 (R0 q) (KQ X (AfZ q eB I (bitS (fun i => fstP (sems i) fr fa m (nI d) (T j) (fun t => I 81 (40 * s + t)) z) tx)))
      refine s_iload (tb_ok aX8_tells_4 10 rfl) rfl ?_
      refine s_if_lt (tgt := 255) (tb_ok aX8_tells_4 11 rfl) (by decide) (fun c200 => ?_) (fun c200 => ?_)
      · refine s_aload_n (tb_ok aX8_tells_5 15 rfl) rfl ?_
        refine s_iload (tb_ok aX8_tells_5 16 rfl) rfl ?_
        refine s_iload_n (tb_ok aX8_tells_5 17 rfl) rfl ?_
        refine s_iload (tb_ok aX8_tells_5 18 rfl) rfl ?_
        refine s_cV (as := [.int (6), .int (nI j), .int was]) (tb_ok aX8_tells_5 19 rfl) v_RX8_101 (R_lays6 (by omega) _) (by decide) rfl rfl rfl rfl rfl (Nat.le_of_ble_eq_true rfl) (by decide) (fun r1 S1 I1 L1 R1 q1 => ?_)
        obtain ⟨rfl, rfl, rfl, rfl, rfl⟩ := q1
        refine s_iload_n (tb_ok aX8_tells_5 20 rfl) rfl ?_
        refine s_iconst (v := 3) (tb_ok aX8_tells_5 21 rfl) (by decide) ?_
        refine s_icmp_ne (tgt := 274) (tb_ok aX8_tells_5 22 rfl) (by decide) (fun c266 => ?_) (fun c266 => ?_)
        · refine s_iload_n (tb_ok aX8_tells_6 1 rfl) rfl ?_
          refine s_iconst (v := 4) (tb_ok aX8_tells_6 2 rfl) (by decide) ?_
          refine s_icmp_ne (tgt := 284) (tb_ok aX8_tells_6 3 rfl) (by decide) (fun c276 => ?_) (fun c276 => ?_)
          · refine s_iload (tb_ok aX8_tells_6 6 rfl) rfl ?_
            refine s_iret (tb_ok aX8_tells_6 7 rfl) rfl ?_
            refine afZ ?_ (eC_back (c := (66, 4)) hi hwas)
            rw [← hinv]
            exact (or_0 _).symm
          · exact absurd c276 (by decide)
        · exact absurd c266 (by decide)
      · exact absurd c200 (by decide)
    | succ k ih =>
      intro I1 L1 b7 b8 b9 hkN hi hinv
      show SW X 61 mX8_tells (0, 0) 198 [some (.ref 66), some (.int (nI s)), some (.int (nI j)), some (.int (6)), some (.int (6)), some (.int was), some (.int lst), some (.int b7), some (.int b8), some (.int b9), some (.int (nI k))] [] S0 I1 L1 (R0 q) (KQ X (AfZ q eB I (bitS (fun i => fstP (sems i) fr fa m (nI d) (T j) (fun t => I 81 (40 * s + t)) z) tx)))
      refine s_iload (tb_ok aX8_tells_4 10 rfl) rfl ?_
      refine s_if_lt (tgt := 255) (tb_ok aX8_tells_4 11 rfl) (by decide) (fun c200 => ?_) (fun c200 => ?_)
      · exact absurd c200 (nI_pos (by omega))
      · refine s_aload_n (tb_ok aX8_tells_4 12 rfl) rfl ?_
        refine s_iload (tb_ok aX8_tells_4 13 rfl) rfl ?_
        refine s_iload_n (tb_ok aX8_tells_4 14 rfl) rfl ?_
        refine s_iload (tb_ok aX8_tells_4 15 rfl) rfl ?_
        refine s_cV (as := [.int (6), .int (nI j), .int (nI k)]) (tb_ok aX8_tells_4 16 rfl) v_RX8_101 (R_lays6 (by omega) _) (by decide) rfl rfl rfl rfl rfl (Nat.le_of_ble_eq_true rfl) (by decide) (fun r1 S1 I1 L1 R1 q1 => ?_)
        obtain ⟨rfl, rfl, rfl, rfl, rfl⟩ := q1
        have hfu := eC_up (c := (66, 4)) hi (nI k)
        have h2 := (h.rule (by omega) (hts k (by omega))).see (see_eB hfu)
        refine s_aload_n (tb_ok aX8_tells_4 17 rfl) rfl ?_
        refine s_iload_n (tb_ok aX8_tells_4 18 rfl) rfl ?_
        refine s_iload_n (tb_ok aX8_tells_4 19 rfl) rfl ?_
        refine s_cV (as := [.int (nI s), .int (nI j)]) (tb_ok aX8_tells_4 20 rfl) v_RX8_410 (R_firstOther h2 hd hs hj ((eB81 hfu (by decide) _).trans hz) hz20) (by decide) rfl rfl rfl rfl rfl (Nat.le_of_ble_eq_true rfl) (by decide) (fun r2 S2 I2 L2 R2 q2 => ?_)
        rw [fst_81 hfu] at q2
        obtain ⟨rfl, rfl, rfl, hf9⟩ := q2
        refine s_iconst (v := -1) (tb_ok aX8_tells_4 21 rfl) (by decide) ?_
        refine s_icmp_ne (tgt := 249) (tb_ok aX8_tells_4 22 rfl) (by decide) (fun c219 => ?_) (fun c219 => ?_)
        · refine s_iinc (v := dnI k) (ls' := [some (.ref 66), some (.int (nI s)), some (.int (nI j)), some (.int (6)), some (.int (6)), some (.int was), some (.int lst), some (.int b7), some (.int b8), some (.int b9), some (.int (dnI k))]) (tb_ok aX8_tells_5 13 rfl) rfl (dn_s (by omega)) rfl rfl ?_
          refine s_goto (tgt := 198) (tb_ok aX8_tells_5 14 rfl) (by decide) ?_
          refine ih _ _ _ _ _ (by omega) (eC_up2 (hf9.trans hfu)) ?_
          rw [← hinv, bitS_n (fits := (fun i => fstP (sems i) fr fa m (nI d) (T j) (fun t => I 81 (40 * s + t)) z)) (k := k) c219]
        · refine s_iload (tb_ok aX8_tells_4 23 rfl) rfl ?_
          refine s_iload (tb_ok aX8_tells_5 0 rfl) rfl ?_
          refine s_bipush (v := nI 10) (tb_ok aX8_tells_5 1 rfl) (by decide) ?_
          refine s_icmp_ge (tgt := 238) (tb_ok aX8_tells_5 2 rfl) (by decide) (fun c228 => ?_) (fun c228 => ?_)
          · simp (disch := omega) only [nI_leI] at c228
            omega
          · refine s_iconst (v := 1) (tb_ok aX8_tells_5 3 rfl) (by decide) ?_
            refine s_iload (tb_ok aX8_tells_5 4 rfl) rfl ?_
            refine s_ishl (tb_ok aX8_tells_5 5 rfl) ?_
            refine s_goto (tgt := 239) (tb_ok aX8_tells_5 6 rfl) (by decide) ?_
            refine s_ior (tb_ok aX8_tells_5 8 rfl) ?_
            refine s_name (fun x1 ex1 => ?_)
            refine s_istore (ls' := [some (.ref 66), some (.int (nI s)), some (.int (nI j)), some (.int (6)), some (.int (6)), some (.int was), some (.int lst), some (.int x1), some (.int b8), some (.int b9), some (.int (nI k))]) (tb_ok aX8_tells_5 9 rfl) rfl rfl ?_
            obtain ⟨x2, ex2⟩ : ∃ q : Int32, q = b8 + Int32.ofInt (1) := ⟨_, rfl⟩
            refine s_iinc (v := x2) (ls' := [some (.ref 66), some (.int (nI s)), some (.int (nI j)), some (.int (6)), some (.int (6)), some (.int was), some (.int lst), some (.int x1), some (.int x2), some (.int b9), some (.int (nI k))]) (tb_ok aX8_tells_5 10 rfl) rfl ex2.symm rfl rfl ?_
            refine s_iload (tb_ok aX8_tells_5 11 rfl) rfl ?_
            refine s_istore (ls' := [some (.ref 66), some (.int (nI s)), some (.int (nI j)), some (.int (6)), some (.int (6)), some (.int was), some (.int lst), some (.int x1), some (.int x2), some (.int (nI k)), some (.int (nI k))]) (tb_ok aX8_tells_5 12 rfl) rfl rfl ?_
            refine s_iinc (v := dnI k) (ls' := [some (.ref 66), some (.int (nI s)), some (.int (nI j)), some (.int (6)), some (.int (6)), some (.int was), some (.int lst), some (.int x1), some (.int x2), some (.int (nI k)), some (.int (dnI k))]) (tb_ok aX8_tells_5 13 rfl) rfl (dn_s (by omega)) rfl rfl ?_
            refine s_goto (tgt := 198) (tb_ok aX8_tells_5 14 rfl) (by decide) ?_
            refine ih _ _ _ _ _ (by omega) (eC_up2 (hf9.trans hfu)) ?_
            rw [ex1, ← hinv, bitS_s (fits := (fun i => fstP (sems i) fr fa m (nI d) (T j) (fun t => I 81 (40 * s + t)) z)) (k := k) c219]
            ac_rfl
  refine ev_of (by decide +kernel) rfl ?_
  show SW X _ _ _ 0 [some (.ref 66), some (.int (nI s)), some (.int (nI j)), some (.int (6)), none, none, none, none, none, none, none] [] S0 I L (R0 q) _
  refine s_iload_n (tb_ok aX8_tells_0 0 rfl) rfl ?_
  refine s_cSp (as := [.int (nI s)]) (tb_ok aX8_tells_0 1 rfl) v_RX8_413 (R_isSheet _) (by decide) rfl rfl (Nat.le_of_ble_eq_true rfl) ?_
  refine s_topi (bI_t (inN (n := s) (hi := 3) (by omega) (by decide))) ?_
  refine s_if_eq (tgt := 27) (tb_ok aX8_tells_0 2 rfl) (by decide) (fun c4 => ?_) (fun c4 => ?_)
  · exact absurd c4 (by decide)
  · refine s_aload_n (tb_ok aX8_tells_0 3 rfl) rfl ?_
    refine s_iload_n (tb_ok aX8_tells_0 4 rfl) rfl ?_
    refine s_cVp (as := [.int (nI j)]) (tb_ok aX8_tells_0 5 rfl) v_RX8_90 (R_isHouse h.mn _) (by decide) rfl rfl rfl rfl rfl (Nat.le_of_ble_eq_true rfl) (by decide) ?_
    refine s_topi (bI_t (vH_t hj hM5)) ?_
    refine s_if_eq (tgt := 27) (tb_ok aX8_tells_0 6 rfl) (by decide) (fun c12 => ?_) (fun c12 => ?_)
    · exact absurd c12 (by decide)
    · refine s_iload_n (tb_ok aX8_tells_0 7 rfl) rfl ?_
      refine s_i2l (tb_ok aX8_tells_0 8 rfl) ?_
      refine s_lconst (v := 0) (tb_ok aX8_tells_0 9 rfl) (by decide) ?_
      refine s_ldc2 (tb_ok aX8_tells_0 10 rfl) k_RX8_416 ?_
      refine s_cSp (as := [_, .long (0), .long (7)]) (tb_ok aX8_tells_0 11 rfl) v_RX8_73 (R_in _ _ _) (by decide) rfl rfl (Nat.le_of_ble_eq_true rfl) ?_
      refine s_topi (bI_t (by decide)) ?_
      refine s_if_ne (tgt := 30) (tb_ok aX8_tells_0 12 rfl) (by decide) (fun c24 => ?_) (fun c24 => ?_)
      · refine s_aload_n (tb_ok aX8_tells_0 15 rfl) rfl ?_
        refine s_getR (r := 78) (tb_ok aX8_tells_0 16 rfl) f_RX8_50 rfl rfl rfl ?_
        refine s_iload_n (tb_ok aX8_tells_0 17 rfl) rfl ?_
        refine s_bald (x := (1)) (tb_ok aX8_tells_0 18 rfl) rfl (lw_in hs (by decide)) (by rw [nI_clamp (by omega)]; exact hth) ?_
        refine s_if_ne (tgt := 42) (tb_ok aX8_tells_0 19 rfl) (by decide) (fun c36 => ?_) (fun c36 => ?_)
        · refine s_aload_n (tb_ok aX8_tells_0 22 rfl) rfl ?_
          refine s_getR (r := 80) (tb_ok aX8_tells_0 23 rfl) f_RX8_57 rfl rfl rfl ?_
          refine s_iload_n (tb_ok aX8_tells_1 0 rfl) rfl ?_
          refine s_ialdX (x := (nI z)) (tb_ok aX8_tells_1 1 rfl) rfl (by omega) (by decide) hz ?_
          refine s_bipush (v := nI 20) (tb_ok aX8_tells_1 2 rfl) (by decide) ?_
          refine s_icmp_le (tgt := 56) (tb_ok aX8_tells_1 3 rfl) (by decide) (fun c50 => ?_) (fun c50 => ?_)
          · refine s_iload_n (tb_ok aX8_tells_1 6 rfl) rfl ?_
            refine s_if_eq (tgt := 66) (tb_ok aX8_tells_1 7 rfl) (by decide) (fun c57 => ?_) (fun c57 => ?_)
            · exact absurd c57 (by decide)
            · refine s_iload_n (tb_ok aX8_tells_1 8 rfl) rfl ?_
              refine s_bipush (v := 7) (tb_ok aX8_tells_1 9 rfl) (by decide) ?_
              refine s_icmp_ne (tgt := 85) (tb_ok aX8_tells_1 10 rfl) (by decide) (fun c63 => ?_) (fun c63 => ?_)
              · refine s_iload_n (tb_ok aX8_tells_1 22 rfl) rfl ?_
                refine s_iconst (v := 5) (tb_ok aX8_tells_1 23 rfl) (by decide) ?_
                refine s_icmp_ne (tgt := 97) (tb_ok aX8_tells_2 0 rfl) (by decide) (fun c87 => ?_) (fun c87 => ?_)
                · refine s_iload_n (tb_ok aX8_tells_2 6 rfl) rfl ?_
                  refine s_iconst (v := 1) (tb_ok aX8_tells_2 7 rfl) (by decide) ?_
                  refine s_icmp_ne (tgt := 106) (tb_ok aX8_tells_2 8 rfl) (by decide) (fun c99 => ?_) (fun c99 => ?_)
                  · refine s_iload_n (tb_ok aX8_tells_2 11 rfl) rfl ?_
                    refine s_iconst (v := 2) (tb_ok aX8_tells_2 12 rfl) (by decide) ?_
                    refine s_icmp_ne (tgt := 115) (tb_ok aX8_tells_2 13 rfl) (by decide) (fun c108 => ?_) (fun c108 => ?_)
                    · refine s_iload_n (tb_ok aX8_tells_2 16 rfl) rfl ?_
                      refine s_bipush (v := 6) (tb_ok aX8_tells_2 17 rfl) (by decide) ?_
                      refine s_icmp_ne (tgt := 126) (tb_ok aX8_tells_2 18 rfl) (by decide) (fun c118 => ?_) (fun c118 => ?_)
                      · exact absurd c118 (by decide)
                      · refine s_bipush (v := 6) (tb_ok aX8_tells_2 19 rfl) (by decide) ?_
                        refine s_goto (tgt := 127) (tb_ok aX8_tells_2 20 rfl) (by decide) ?_
                        refine s_istore (ls' := [some (.ref 66), some (.int (nI s)), some (.int (nI j)), some (.int (6)), some (.int (6)), none, none, none, none, none, none]) (tb_ok aX8_tells_2 22 rfl) rfl rfl ?_
                        refine s_iload (tb_ok aX8_tells_2 23 rfl) rfl ?_
                        refine s_bipush (v := 6) (tb_ok aX8_tells_3 0 rfl) (by decide) ?_
                        refine s_icmp_ne (tgt := 143) (tb_ok aX8_tells_3 1 rfl) (by decide) (fun c133 => ?_) (fun c133 => ?_)
                        · exact absurd c133 (by decide)
                        · refine s_aload_n (tb_ok aX8_tells_3 2 rfl) rfl ?_
                          refine s_getI (tb_ok aX8_tells_3 3 rfl) f_RX8_108 rfl rfl rfl ?_
                          refine s_goto (tgt := 150) (tb_ok aX8_tells_3 4 rfl) (by decide) ?_
                          refine s_name (fun x1 ex1 => ?_)
                          refine s_istore (ls' := [some (.ref 66), some (.int (nI s)), some (.int (nI j)), some (.int (6)), some (.int (6)), some (.int x1), none, none, none, none, none]) (tb_ok aX8_tells_3 9 rfl) rfl rfl ?_
                          refine s_iload (tb_ok aX8_tells_3 10 rfl) rfl ?_
                          refine s_bipush (v := 6) (tb_ok aX8_tells_3 11 rfl) (by decide) ?_
                          refine s_icmp_ne (tgt := 168) (tb_ok aX8_tells_3 12 rfl) (by decide) (fun c156 => ?_) (fun c156 => ?_)
                          · exact absurd c156 (by decide)
                          · refine s_aload_n (tb_ok aX8_tells_3 13 rfl) rfl ?_
                            refine s_getI (x := (nI tx)) (tb_ok aX8_tells_3 14 rfl) f_RX8_67 rfl rfl htx ?_
                            refine s_iconst (v := 1) (tb_ok aX8_tells_3 15 rfl) (by decide) ?_
                            refine s_isub (tb_ok aX8_tells_3 16 rfl) ?_
                            refine s_topi (z := (nI (tx - 1))) (nI_sub' (a := 1) (by omega)) ?_
                            refine s_goto (tgt := 183) (tb_ok aX8_tells_3 17 rfl) (by decide) ?_
                            refine s_istore (ls' := [some (.ref 66), some (.int (nI s)), some (.int (nI j)), some (.int (6)), some (.int (6)), some (.int x1), some (.int (nI (tx - 1))), none, none, none, none]) (tb_ok aX8_tells_4 1 rfl) rfl rfl ?_
                            refine s_iconst (v := 0) (tb_ok aX8_tells_4 2 rfl) (by decide) ?_
                            refine s_istore (ls' := [some (.ref 66), some (.int (nI s)), some (.int (nI j)), some (.int (6)), some (.int (6)), some (.int x1), some (.int (nI (tx - 1))), some (.int (0)), none, none, none]) (tb_ok aX8_tells_4 3 rfl) rfl rfl ?_
                            refine s_iconst (v := 0) (tb_ok aX8_tells_4 4 rfl) (by decide) ?_
                            refine s_istore (ls' := [some (.ref 66), some (.int (nI s)), some (.int (nI j)), some (.int (6)), some (.int (6)), some (.int x1), some (.int (nI (tx - 1))), some (.int (0)), some (.int (0)), none, none]) (tb_ok aX8_tells_4 5 rfl) rfl rfl ?_
                            refine s_iconst (v := -1) (tb_ok aX8_tells_4 6 rfl) (by decide) ?_
                            refine s_istore (ls' := [some (.ref 66), some (.int (nI s)), some (.int (nI j)), some (.int (6)), some (.int (6)), some (.int x1), some (.int (nI (tx - 1))), some (.int (0)), some (.int (0)), some (.int (-1)), none]) (tb_ok aX8_tells_4 7 rfl) rfl rfl ?_
                            refine s_iload (tb_ok aX8_tells_4 8 rfl) rfl ?_
                            refine s_istore (ls' := [some (.ref 66), some (.int (nI s)), some (.int (nI j)), some (.int (6)), some (.int (6)), some (.int x1), some (.int (nI (tx - 1))), some (.int (0)), some (.int (0)), some (.int (-1)), some (.int (nI (tx - 1)))]) (tb_ok aX8_tells_4 9 rfl) rfl rfl ?_
                            obtain ⟨t0, rfl⟩ : ∃ t0, tx = t0 + 1 := ⟨tx - 1, by omega⟩
                            exact loop _ _ ex1 (t0 + 1) _ _ 0 0 (-1) (Nat.le_refl _) (eB_eC FrE.refl) (Int32.zero_or)
                    · exact absurd c108 (by decide)
                  · exact absurd c99 (by decide)
                · exact absurd c87 (by decide)
              · exact absurd c63 (by decide)
          · simp (disch := omega) only [nI_ltI, nI_leI, nI_eq] at c50
            omega
        · exact absurd c36 (by decide)
      · exact absurd c24 (by decide)

set_option maxRecDepth 100000 in
set_option maxHeartbeats 1000000 in
theorem R_tellsB {X : En} {L : FL} {q : Nat × Nat} {I : FI} {m : Nat} {fr fa : Nat → Int32} {M : Nat} {T : Nat → Nat → Int32} {d : Nat} {sem : Nat → Sem} (h : RSt I m fr fa M T d sem) {x z w : Int32} (hv : ¬ ((¬ x < 0 ∧ ¬ 3 < x) ∧ vH z M ∧ (¬ w < 0 ∧ ¬ 7 < w))) : Ev X 61 mX8_tells (0, 0) [.ref 66, .int x, .int z, .int w] S0 I L (R0 q) (AfZ q eB I (-2)) := by
  have hM5 := h.M5
  refine ev_of (by decide +kernel) rfl ?_
  show SW X _ _ _ 0 [some (.ref 66), some (.int x), some (.int z), some (.int w), none, none, none, none, none, none, none] [] S0 I L (R0 q) _
  refine s_iload_n (tb_ok aX8_tells_0 0 rfl) rfl ?_
  refine s_cSp (as := [.int x]) (tb_ok aX8_tells_0 1 rfl) v_RX8_413 (R_isSheet _) (by decide) rfl rfl (Nat.le_of_ble_eq_true rfl) ?_
  refine s_if_eq (tgt := 27) (tb_ok aX8_tells_0 2 rfl) (by decide) (fun c4 => ?_) (fun c4 => ?_)
  · refine s_bipush (v := -2) (tb_ok aX8_tells_0 13 rfl) (by decide) ?_
    refine s_iret (tb_ok aX8_tells_0 14 rfl) rfl ?_
    exact afZ rfl FrE.refl
  · refine s_aload_n (tb_ok aX8_tells_0 3 rfl) rfl ?_
    refine s_iload_n (tb_ok aX8_tells_0 4 rfl) rfl ?_
    refine s_cVp (as := [.int z]) (tb_ok aX8_tells_0 5 rfl) v_RX8_90 (R_isHouse h.mn _) (by decide) rfl rfl rfl rfl rfl (Nat.le_of_ble_eq_true rfl) (by decide) ?_
    refine s_if_eq (tgt := 27) (tb_ok aX8_tells_0 6 rfl) (by decide) (fun c12 => ?_) (fun c12 => ?_)
    · refine s_bipush (v := -2) (tb_ok aX8_tells_0 13 rfl) (by decide) ?_
      refine s_iret (tb_ok aX8_tells_0 14 rfl) rfl ?_
      exact afZ rfl FrE.refl
    · refine s_iload_n (tb_ok aX8_tells_0 7 rfl) rfl ?_
      refine s_i2l (tb_ok aX8_tells_0 8 rfl) ?_
      refine s_lconst (v := 0) (tb_ok aX8_tells_0 9 rfl) (by decide) ?_
      refine s_ldc2 (tb_ok aX8_tells_0 10 rfl) k_RX8_416 ?_
      refine s_cSp (as := [_, .long (0), .long (7)]) (tb_ok aX8_tells_0 11 rfl) v_RX8_73 (R_in _ _ _) (by decide) rfl rfl (Nat.le_of_ble_eq_true rfl) ?_
      refine s_topi (bI_congr (in_iff (lo := 0) (hi := 7) rfl (by decide) (by decide))) ?_
      refine s_if_ne (tgt := 30) (tb_ok aX8_tells_0 12 rfl) (by decide) (fun c24 => ?_) (fun c24 => ?_)
      · exact absurd ⟨bI_n c4, bI_n c12, bI_n c24⟩ hv
      · refine s_bipush (v := -2) (tb_ok aX8_tells_0 13 rfl) (by decide) ?_
        refine s_iret (tb_ok aX8_tells_0 14 rfl) rfl ?_
        exact afZ rfl FrE.refl

set_option maxRecDepth 100000 in
set_option maxHeartbeats 1000000 in
theorem R_tellsN {X : En} {L : FL} {q : Nat × Nat} {I : FI} {m : Nat} {fr fa : Nat → Int32} {M : Nat} {T : Nat → Nat → Int32} {d : Nat} {sem : Nat → Sem} (h : RSt I m fr fa M T d sem) {j : Nat} (hj : j < M) {s : Nat} (hs : s < 4) {w : Int32} (hw : ¬ w < 0 ∧ ¬ 7 < w) (hth : I 78 s = 0) : Ev X 61 mX8_tells (0, 0) [.ref 66, .int (nI s), .int (nI j), .int w] S0 I L (R0 q) (AfZ q eB I (-11)) := by
  have hM5 := h.M5
  refine ev_of (by decide +kernel) rfl ?_
  show SW X _ _ _ 0 [some (.ref 66), some (.int (nI s)), some (.int (nI j)), some (.int w), none, none, none, none, none, none, none] [] S0 I L (R0 q) _
  refine s_iload_n (tb_ok aX8_tells_0 0 rfl) rfl ?_
  refine s_cSp (as := [.int (nI s)]) (tb_ok aX8_tells_0 1 rfl) v_RX8_413 (R_isSheet _) (by decide) rfl rfl (Nat.le_of_ble_eq_true rfl) ?_
  refine s_topi (bI_t (inN (n := s) (hi := 3) (by omega) (by decide))) ?_
  refine s_if_eq (tgt := 27) (tb_ok aX8_tells_0 2 rfl) (by decide) (fun c4 => ?_) (fun c4 => ?_)
  · exact absurd c4 (by decide)
  · refine s_aload_n (tb_ok aX8_tells_0 3 rfl) rfl ?_
    refine s_iload_n (tb_ok aX8_tells_0 4 rfl) rfl ?_
    refine s_cVp (as := [.int (nI j)]) (tb_ok aX8_tells_0 5 rfl) v_RX8_90 (R_isHouse h.mn _) (by decide) rfl rfl rfl rfl rfl (Nat.le_of_ble_eq_true rfl) (by decide) ?_
    refine s_topi (bI_t (vH_t hj hM5)) ?_
    refine s_if_eq (tgt := 27) (tb_ok aX8_tells_0 6 rfl) (by decide) (fun c12 => ?_) (fun c12 => ?_)
    · exact absurd c12 (by decide)
    · refine s_iload_n (tb_ok aX8_tells_0 7 rfl) rfl ?_
      refine s_i2l (tb_ok aX8_tells_0 8 rfl) ?_
      refine s_lconst (v := 0) (tb_ok aX8_tells_0 9 rfl) (by decide) ?_
      refine s_ldc2 (tb_ok aX8_tells_0 10 rfl) k_RX8_416 ?_
      refine s_cSp (as := [_, .long (0), .long (7)]) (tb_ok aX8_tells_0 11 rfl) v_RX8_73 (R_in _ _ _) (by decide) rfl rfl (Nat.le_of_ble_eq_true rfl) ?_
      refine s_topi (bI_t ((in_iff (x := w) (lo := 0) (hi := 7) rfl (by decide) (by decide)).mpr hw)) ?_
      refine s_if_ne (tgt := 30) (tb_ok aX8_tells_0 12 rfl) (by decide) (fun c24 => ?_) (fun c24 => ?_)
      · refine s_aload_n (tb_ok aX8_tells_0 15 rfl) rfl ?_
        refine s_getR (r := 78) (tb_ok aX8_tells_0 16 rfl) f_RX8_50 rfl rfl rfl ?_
        refine s_iload_n (tb_ok aX8_tells_0 17 rfl) rfl ?_
        refine s_bald (x := (0)) (tb_ok aX8_tells_0 18 rfl) rfl (lw_in hs (by decide)) (by rw [nI_clamp (by omega)]; exact hth) ?_
        refine s_if_ne (tgt := 42) (tb_ok aX8_tells_0 19 rfl) (by decide) (fun c36 => ?_) (fun c36 => ?_)
        · exact absurd c36 (by decide)
        · refine s_bipush (v := -11) (tb_ok aX8_tells_0 20 rfl) (by decide) ?_
          refine s_iret (tb_ok aX8_tells_0 21 rfl) rfl ?_
          exact afZ rfl FrE.refl
      · exact absurd c24 (by decide)

set_option maxRecDepth 100000 in
set_option maxHeartbeats 1000000 in
theorem R_tellsL {X : En} {L : FL} {q : Nat × Nat} {I : FI} {m : Nat} {fr fa : Nat → Int32} {M : Nat} {T : Nat → Nat → Int32} {d : Nat} {sem : Nat → Sem} (h : RSt I m fr fa M T d sem) {j : Nat} (hj : j < M) {s : Nat} (hs : s < 4) {w : Int32} (hw : ¬ w < 0 ∧ ¬ 7 < w) (hth : I 78 s = 1) {z : Nat} (hz : I 80 s = nI z) (hz20 : 20 < z) (hz40 : z ≤ 40) : Ev X 61 mX8_tells (0, 0) [.ref 66, .int (nI s), .int (nI j), .int w] S0 I L (R0 q) (AfZ q eB I (-2)) := by
  have hM5 := h.M5
  refine ev_of (by decide +kernel) rfl ?_
  show SW X _ _ _ 0 [some (.ref 66), some (.int (nI s)), some (.int (nI j)), some (.int w), none, none, none, none, none, none, none] [] S0 I L (R0 q) _
  refine s_iload_n (tb_ok aX8_tells_0 0 rfl) rfl ?_
  refine s_cSp (as := [.int (nI s)]) (tb_ok aX8_tells_0 1 rfl) v_RX8_413 (R_isSheet _) (by decide) rfl rfl (Nat.le_of_ble_eq_true rfl) ?_
  refine s_topi (bI_t (inN (n := s) (hi := 3) (by omega) (by decide))) ?_
  refine s_if_eq (tgt := 27) (tb_ok aX8_tells_0 2 rfl) (by decide) (fun c4 => ?_) (fun c4 => ?_)
  · exact absurd c4 (by decide)
  · refine s_aload_n (tb_ok aX8_tells_0 3 rfl) rfl ?_
    refine s_iload_n (tb_ok aX8_tells_0 4 rfl) rfl ?_
    refine s_cVp (as := [.int (nI j)]) (tb_ok aX8_tells_0 5 rfl) v_RX8_90 (R_isHouse h.mn _) (by decide) rfl rfl rfl rfl rfl (Nat.le_of_ble_eq_true rfl) (by decide) ?_
    refine s_topi (bI_t (vH_t hj hM5)) ?_
    refine s_if_eq (tgt := 27) (tb_ok aX8_tells_0 6 rfl) (by decide) (fun c12 => ?_) (fun c12 => ?_)
    · exact absurd c12 (by decide)
    · refine s_iload_n (tb_ok aX8_tells_0 7 rfl) rfl ?_
      refine s_i2l (tb_ok aX8_tells_0 8 rfl) ?_
      refine s_lconst (v := 0) (tb_ok aX8_tells_0 9 rfl) (by decide) ?_
      refine s_ldc2 (tb_ok aX8_tells_0 10 rfl) k_RX8_416 ?_
      refine s_cSp (as := [_, .long (0), .long (7)]) (tb_ok aX8_tells_0 11 rfl) v_RX8_73 (R_in _ _ _) (by decide) rfl rfl (Nat.le_of_ble_eq_true rfl) ?_
      refine s_topi (bI_t ((in_iff (x := w) (lo := 0) (hi := 7) rfl (by decide) (by decide)).mpr hw)) ?_
      refine s_if_ne (tgt := 30) (tb_ok aX8_tells_0 12 rfl) (by decide) (fun c24 => ?_) (fun c24 => ?_)
      · refine s_aload_n (tb_ok aX8_tells_0 15 rfl) rfl ?_
        refine s_getR (r := 78) (tb_ok aX8_tells_0 16 rfl) f_RX8_50 rfl rfl rfl ?_
        refine s_iload_n (tb_ok aX8_tells_0 17 rfl) rfl ?_
        refine s_bald (x := (1)) (tb_ok aX8_tells_0 18 rfl) rfl (lw_in hs (by decide)) (by rw [nI_clamp (by omega)]; exact hth) ?_
        refine s_if_ne (tgt := 42) (tb_ok aX8_tells_0 19 rfl) (by decide) (fun c36 => ?_) (fun c36 => ?_)
        · refine s_aload_n (tb_ok aX8_tells_0 22 rfl) rfl ?_
          refine s_getR (r := 80) (tb_ok aX8_tells_0 23 rfl) f_RX8_57 rfl rfl rfl ?_
          refine s_iload_n (tb_ok aX8_tells_1 0 rfl) rfl ?_
          refine s_ialdX (x := (nI z)) (tb_ok aX8_tells_1 1 rfl) rfl (by omega) (by decide) hz ?_
          refine s_bipush (v := nI 20) (tb_ok aX8_tells_1 2 rfl) (by decide) ?_
          refine s_icmp_le (tgt := 56) (tb_ok aX8_tells_1 3 rfl) (by decide) (fun c50 => ?_) (fun c50 => ?_)
          · simp (disch := omega) only [nI_ltI, nI_leI, nI_eq] at c50
            omega
          · refine s_bipush (v := -2) (tb_ok aX8_tells_1 4 rfl) (by decide) ?_
            refine s_iret (tb_ok aX8_tells_1 5 rfl) rfl ?_
            exact afZ rfl FrE.refl
        · exact absurd c36 (by decide)
      · exact absurd c24 (by decide)
