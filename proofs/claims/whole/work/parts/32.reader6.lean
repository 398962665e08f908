/-! the Reader: one; all levels -/
def AfX (r n : Nat) (I0 : FI) (acc : List Int32) (s : St) (w : Int32) (S : Sh) (L : FL) (R : FR) : Pst := fun r' S' I' L' R' => r' = none ∧ S' = S ∧ L' = L ∧ R' = R ∧ (s.tok = w → OKs r n I0 acc (adv (I0 63) n s) I') ∧ (¬ s.tok = w → ERs r I0 s.pl I')
theorem A_expO {X : En} {S : Sh} {I I0 : FI} {L : FL} {R : FR} {r n : Nat} (hR : isRead S R r) (hn : I0 62 1 = nI n) (hn2 : n ≤ 160) {acc : List Int32} {s : St} {w : Int32} (h : OKs r n I0 acc s I) (hb : acc.length ≤ s.pl) : Ev X 7 mX2_expect (0, 0) [.ref 62, .int w] S I L R (AfX r n I0 acc s w S L R) := by
  by_cases hw : s.tok = w
  · exact ev_mono (A_exp hR hn hn2 h hw) (fun r' S' I' L' R' q => ⟨q.1, q.2.1, q.2.2.1, q.2.2.2.1, fun _ => q.2.2.2.2, fun h2 => absurd hw h2⟩)
  · exact ev_mono (A_expN hR hn hn2 h hb hw) (fun r' S' I' L' R' q => ⟨q.1, q.2.1, q.2.2.1, q.2.2.2.1, fun h2 => absurd h2 hw, fun _ => q.2.2.2.2⟩)
set_option maxRecDepth 100000 in
set_option maxHeartbeats 1000000 in
theorem CE_X2_readOne0 {X : En} {S : Sh} {I0 : FI} {L : FL} {R : FR} {r : Nat} (hR : isRead S R r) {d1 d2 d o : Nat} (hd : 7 < d) (hd1 : d1 < d) (hd2 : d2 < d) (ho : 5 ≤ o) (ho2 : o ≤ 100) : CtE X S L R r I0 d mX2_readOne o := by
  intro I f h
  obtain ⟨g1, g2, g3, g4, g5, g6⟩ := id hR
  refine ev_of (by decide +kernel) rfl ?_
  show SW X _ _ _ 0 [some (.ref 62), some (.int (nI o))] [] S I L R _
  refine s_aload_n (tb_ok aX2_readOne_0 0 rfl) rfl ?_
  refine s_getI (tb_ok aX2_readOne_0 1 rfl) f_RX2_47 g1 rfl rfl ?_
  refine s_iconst (v := 2) (tb_ok aX2_readOne_0 2 rfl) (by decide) ?_
  refine s_icmp_eq (tgt := 16) (tb_ok aX2_readOne_0 3 rfl) (by decide) (fun c5 => ?_) (fun c5 => ?_)
  · refine s_aload_n (tb_ok aX2_readOne_0 8 rfl) rfl ?_
    refine s_getR (r := r) (tb_ok aX2_readOne_0 9 rfl) f_RX2_22 g1 rfl g4 ?_
    refine s_aload_n (tb_ok aX2_readOne_0 10 rfl) rfl ?_
    refine s_getI (tb_ok aX2_readOne_0 11 rfl) f_RX2_77 g1 rfl rfl ?_
    refine s_cV (as := [_]) (tb_ok aX2_readOne_0 12 rfl) v_RX2_59 (A_addE _ hR h) (by omega) g5.1 rfl rfl rfl rfl (Nat.le_of_ble_eq_true rfl) (by decide) (fun r1 S1 I1 L1 R1 q1 => ?_)
    obtain ⟨rfl, rfl, rfl, rfl, h1⟩ := q1
    refine s_aload_n (tb_ok aX2_readOne_0 13 rfl) rfl ?_
    refine s_cV (as := []) (tb_ok aX2_readOne_0 14 rfl) v_RX2_34 (A_advE hR h1) (by omega) g1 rfl rfl rfl rfl (Nat.le_of_ble_eq_true rfl) (by decide) (fun r2 S2 I2 L2 R2 q2 => ?_)
    obtain ⟨rfl, rfl, rfl, rfl, h2⟩ := q2
    refine s_goto (tgt := 114) (tb_ok aX2_readOne_0 15 rfl) (by decide) ?_
    refine s_vret (tb_ok aX2_readOne_2 8 rfl) rfl ?_
    exact ⟨rfl, rfl, rfl, rfl, h2⟩
  · refine s_aload_n (tb_ok aX2_readOne_0 4 rfl) rfl ?_
    refine s_getI (tb_ok aX2_readOne_0 5 rfl) f_RX2_47 g1 rfl rfl ?_
    refine s_iconst (v := 3) (tb_ok aX2_readOne_0 6 rfl) (by decide) ?_
    refine s_icmp_ne (tgt := 34) (tb_ok aX2_readOne_0 7 rfl) (by decide) (fun c13 => ?_) (fun c13 => ?_)
    · refine s_aload_n (tb_ok aX2_readOne_0 16 rfl) rfl ?_
      refine s_getI (tb_ok aX2_readOne_0 17 rfl) f_RX2_47 g1 rfl rfl ?_
      refine s_bipush (v := 45) (tb_ok aX2_readOne_0 18 rfl) (by decide) ?_
      refine s_icmp_eq (tgt := 52) (tb_ok aX2_readOne_0 19 rfl) (by decide) (fun c40 => ?_) (fun c40 => ?_)
      · refine s_iload_n (tb_ok aX2_readOne_1 0 rfl) rfl ?_
        refine s_iconst (v := nI 5) (tb_ok aX2_readOne_1 1 rfl) (by decide) ?_
        refine s_icmp_lt (tgt := 64) (tb_ok aX2_readOne_1 2 rfl) (by decide) (fun c54 => ?_) (fun c54 => ?_)
        · simp (disch := omega) only [nI_ltI] at c54
          omega
        · refine s_aload_n (tb_ok aX2_readOne_1 3 rfl) rfl ?_
          refine s_cV (as := []) (tb_ok aX2_readOne_1 4 rfl) v_RX2_50 (A_failE hR h) (by omega) g1 rfl rfl rfl rfl (Nat.le_of_ble_eq_true rfl) (by decide) (fun r3 S3 I3 L3 R3 q3 => ?_)
          obtain ⟨rfl, rfl, rfl, rfl, h3⟩ := q3
          refine s_goto (tgt := 114) (tb_ok aX2_readOne_1 5 rfl) (by decide) ?_
          refine s_vret (tb_ok aX2_readOne_2 8 rfl) rfl ?_
          exact ⟨rfl, rfl, rfl, rfl, h3⟩
      · refine s_aload_n (tb_ok aX2_readOne_0 20 rfl) rfl ?_
        refine s_getI (tb_ok aX2_readOne_0 21 rfl) f_RX2_47 g1 rfl rfl ?_
        refine s_bipush (v := 40) (tb_ok aX2_readOne_0 22 rfl) (by decide) ?_
        refine s_icmp_ne (tgt := 57) (tb_ok aX2_readOne_0 23 rfl) (by decide) (fun c49 => ?_) (fun c49 => ?_)
        · refine s_aload_n (tb_ok aX2_readOne_1 3 rfl) rfl ?_
          refine s_cV (as := []) (tb_ok aX2_readOne_1 4 rfl) v_RX2_50 (A_failE hR h) (by omega) g1 rfl rfl rfl rfl (Nat.le_of_ble_eq_true rfl) (by decide) (fun r4 S4 I4 L4 R4 q4 => ?_)
          obtain ⟨rfl, rfl, rfl, rfl, h4⟩ := q4
          refine s_goto (tgt := 114) (tb_ok aX2_readOne_1 5 rfl) (by decide) ?_
          refine s_vret (tb_ok aX2_readOne_2 8 rfl) rfl ?_
          exact ⟨rfl, rfl, rfl, rfl, h4⟩
        · refine s_iload_n (tb_ok aX2_readOne_1 0 rfl) rfl ?_
          refine s_iconst (v := nI 5) (tb_ok aX2_readOne_1 1 rfl) (by decide) ?_
          refine s_icmp_lt (tgt := 64) (tb_ok aX2_readOne_1 2 rfl) (by decide) (fun c54 => ?_) (fun c54 => ?_)
          · simp (disch := omega) only [nI_ltI] at c54
            omega
          · refine s_aload_n (tb_ok aX2_readOne_1 3 rfl) rfl ?_
            refine s_cV (as := []) (tb_ok aX2_readOne_1 4 rfl) v_RX2_50 (A_failE hR h) (by omega) g1 rfl rfl rfl rfl (Nat.le_of_ble_eq_true rfl) (by decide) (fun r5 S5 I5 L5 R5 q5 => ?_)
            obtain ⟨rfl, rfl, rfl, rfl, h5⟩ := q5
            refine s_goto (tgt := 114) (tb_ok aX2_readOne_1 5 rfl) (by decide) ?_
            refine s_vret (tb_ok aX2_readOne_2 8 rfl) rfl ?_
            exact ⟨rfl, rfl, rfl, rfl, h5⟩
    · refine s_aload_n (tb_ok aX2_readOne_0 8 rfl) rfl ?_
      refine s_getR (r := r) (tb_ok aX2_readOne_0 9 rfl) f_RX2_22 g1 rfl g4 ?_
      refine s_aload_n (tb_ok aX2_readOne_0 10 rfl) rfl ?_
      refine s_getI (tb_ok aX2_readOne_0 11 rfl) f_RX2_77 g1 rfl rfl ?_
      refine s_cV (as := [_]) (tb_ok aX2_readOne_0 12 rfl) v_RX2_59 (A_addE _ hR h) (by omega) g5.1 rfl rfl rfl rfl (Nat.le_of_ble_eq_true rfl) (by decide) (fun r6 S6 I6 L6 R6 q6 => ?_)
      obtain ⟨rfl, rfl, rfl, rfl, h6⟩ := q6
      refine s_aload_n (tb_ok aX2_readOne_0 13 rfl) rfl ?_
      refine s_cV (as := []) (tb_ok aX2_readOne_0 14 rfl) v_RX2_34 (A_advE hR h6) (by omega) g1 rfl rfl rfl rfl (Nat.le_of_ble_eq_true rfl) (by decide) (fun r7 S7 I7 L7 R7 q7 => ?_)
      obtain ⟨rfl, rfl, rfl, rfl, h7⟩ := q7
      refine s_goto (tgt := 114) (tb_ok aX2_readOne_0 15 rfl) (by decide) ?_
      refine s_vret (tb_ok aX2_readOne_2 8 rfl) rfl ?_
      exact ⟨rfl, rfl, rfl, rfl, h7⟩

set_option maxRecDepth 100000 in
set_option maxHeartbeats 1000000 in
theorem CO_X2_readOne0 {X : En} {S : Sh} {I0 : FI} {L : FL} {R : FR} {r n : Nat} (hR : isRead S R r) (hn : I0 62 1 = nI n) (hn2 : n ≤ 160) {d1 d2 d o : Nat} (hd : 7 < d) (hd1 : d1 < d) (hd2 : d2 < d) (ho : 5 ≤ o) (ho2 : o ≤ 100) : CtO X S L R r n I0 d mX2_readOne o (oneP (I0 63) n none) := by
  intro I acc s h hb
  obtain ⟨g1, g2, g3, g4, g5, g6⟩ := id hR
  refine ev_of (by decide +kernel) rfl ?_
  show SW X _ _ _ 0 [some (.ref 62), some (.int (nI o))] [] S I L R _
  refine s_aload_n (tb_ok aX2_readOne_0 0 rfl) rfl ?_
  refine s_getI (x := (s).tok) (tb_ok aX2_readOne_0 1 rfl) f_RX2_47 g1 rfl h.2.2.2.2.1 ?_
  refine s_iconst (v := 2) (tb_ok aX2_readOne_0 2 rfl) (by decide) ?_
  refine s_icmp_eq (tgt := 16) (tb_ok aX2_readOne_0 3 rfl) (by decide) (fun c5 => ?_) (fun c5 => ?_)
  · have hop : s.tok = 2 ∨ s.tok = 3 := by first | exact Or.inl c5 | exact Or.inr c13
    have w_ := h.2.1.2.2.1 (by rcases hop with h_ | h_ <;> rw [h_] <;> decide)
    have hsq : (oneP (I0 63) n none) s = .inl ([s.val], (fun nm => atm nm s.val), adv (I0 63) n s) := by unfold oneP; rw [if_pos hop]
    refine s_aload_n (tb_ok aX2_readOne_0 8 rfl) rfl ?_
    refine s_getR (r := r) (tb_ok aX2_readOne_0 9 rfl) f_RX2_22 g1 rfl g4 ?_
    refine s_aload_n (tb_ok aX2_readOne_0 10 rfl) rfl ?_
    refine s_getI (x := (s).val) (tb_ok aX2_readOne_0 11 rfl) f_RX2_77 g1 rfl h.2.2.2.2.2.1 ?_
    refine s_cV (as := [.int (s).val]) (tb_ok aX2_readOne_0 12 rfl) v_RX2_59 (A_add (s).val hR h (by have hp_ := h.2.1.pl; have hq_ := h.2.1.2.1; (try simp only [List.length_append, List.length_cons, List.length_nil] at *); omega)) (by omega) g5.1 rfl rfl rfl rfl (Nat.le_of_ble_eq_true rfl) (by decide) (fun r1 S1 I1 L1 R1 q1 => ?_)
    obtain ⟨rfl, rfl, rfl, rfl, h8⟩ := q1
    refine s_aload_n (tb_ok aX2_readOne_0 13 rfl) rfl ?_
    refine s_cV (as := []) (tb_ok aX2_readOne_0 14 rfl) v_RX2_34 (A_adv hR hn hn2 h8) (by omega) g1 rfl rfl rfl rfl (Nat.le_of_ble_eq_true rfl) (by decide) (fun r2 S2 I2 L2 R2 q2 => ?_)
    obtain ⟨rfl, rfl, rfl, rfl, h9⟩ := q2
    have a10 := (adv_wf (t := I0 63) h8.2.1).2.2 (by rcases hop with h_ | h_ <;> rw [h_] <;> decide)
    refine s_goto (tgt := 114) (tb_ok aX2_readOne_0 15 rfl) (by decide) ?_
    refine s_vret (tb_ok aX2_readOne_2 8 rfl) rfl ?_
    refine ⟨rfl, rfl, rfl, rfl, ?_⟩
    rw [hsq]
    have h11 := h9
    exact ⟨h11, (by (try simp only [List.length_append, List.length_cons, List.length_nil] at *); omega)⟩
  · refine s_aload_n (tb_ok aX2_readOne_0 4 rfl) rfl ?_
    refine s_getI (x := (s).tok) (tb_ok aX2_readOne_0 5 rfl) f_RX2_47 g1 rfl h.2.2.2.2.1 ?_
    refine s_iconst (v := 3) (tb_ok aX2_readOne_0 6 rfl) (by decide) ?_
    refine s_icmp_ne (tgt := 34) (tb_ok aX2_readOne_0 7 rfl) (by decide) (fun c13 => ?_) (fun c13 => ?_)
    · have h23 : ¬ (s.tok = 2 ∨ s.tok = 3) := fun h_ => h_.elim c5 c13
      refine s_aload_n (tb_ok aX2_readOne_0 16 rfl) rfl ?_
      refine s_getI (x := (s).tok) (tb_ok aX2_readOne_0 17 rfl) f_RX2_47 g1 rfl h.2.2.2.2.1 ?_
      refine s_bipush (v := 45) (tb_ok aX2_readOne_0 18 rfl) (by decide) ?_
      refine s_icmp_eq (tgt := 52) (tb_ok aX2_readOne_0 19 rfl) (by decide) (fun c40 => ?_) (fun c40 => ?_)
      · have h45 : s.tok = 45 ∨ s.tok = 40 := by first | exact Or.inl c40 | exact Or.inr c49
        refine s_iload_n (tb_ok aX2_readOne_1 0 rfl) rfl ?_
        refine s_iconst (v := nI 5) (tb_ok aX2_readOne_1 1 rfl) (by decide) ?_
        refine s_icmp_lt (tgt := 64) (tb_ok aX2_readOne_1 2 rfl) (by decide) (fun c54 => ?_) (fun c54 => ?_)
        · simp (disch := omega) only [nI_ltI] at c54
          omega
        · have hsq : (oneP (I0 63) n none) s = .inr s.pl := by
            unfold oneP
            first | (rw [if_neg h23, if_pos h45]; done) | (rw [if_neg h23, if_neg (fun h_ => h_.elim c40 c49)])
          refine s_aload_n (tb_ok aX2_readOne_1 3 rfl) rfl ?_
          refine s_cV (as := []) (tb_ok aX2_readOne_1 4 rfl) v_RX2_50 (A_fail hR hn2 h (by (try simp only [List.length_append, List.length_cons, List.length_nil] at *); omega)) (by omega) g1 rfl rfl rfl rfl (Nat.le_of_ble_eq_true rfl) (by decide) (fun r3 S3 I3 L3 R3 q3 => ?_)
          obtain ⟨rfl, rfl, rfl, rfl, h12⟩ := q3
          refine s_goto (tgt := 114) (tb_ok aX2_readOne_1 5 rfl) (by decide) ?_
          refine s_vret (tb_ok aX2_readOne_2 8 rfl) rfl ?_
          refine ⟨rfl, rfl, rfl, rfl, ?_⟩
          rw [hsq]
          exact h12
      · refine s_aload_n (tb_ok aX2_readOne_0 20 rfl) rfl ?_
        refine s_getI (x := (s).tok) (tb_ok aX2_readOne_0 21 rfl) f_RX2_47 g1 rfl h.2.2.2.2.1 ?_
        refine s_bipush (v := 40) (tb_ok aX2_readOne_0 22 rfl) (by decide) ?_
        refine s_icmp_ne (tgt := 57) (tb_ok aX2_readOne_0 23 rfl) (by decide) (fun c49 => ?_) (fun c49 => ?_)
        · have hsq : (oneP (I0 63) n none) s = .inr s.pl := by
            unfold oneP
            first | (rw [if_neg h23, if_pos h45]; done) | (rw [if_neg h23, if_neg (fun h_ => h_.elim c40 c49)])
          refine s_aload_n (tb_ok aX2_readOne_1 3 rfl) rfl ?_
          refine s_cV (as := []) (tb_ok aX2_readOne_1 4 rfl) v_RX2_50 (A_fail hR hn2 h (by (try simp only [List.length_append, List.length_cons, List.length_nil] at *); omega)) (by omega) g1 rfl rfl rfl rfl (Nat.le_of_ble_eq_true rfl) (by decide) (fun r4 S4 I4 L4 R4 q4 => ?_)
          obtain ⟨rfl, rfl, rfl, rfl, h13⟩ := q4
          refine s_goto (tgt := 114) (tb_ok aX2_readOne_1 5 rfl) (by decide) ?_
          refine s_vret (tb_ok aX2_readOne_2 8 rfl) rfl ?_
          refine ⟨rfl, rfl, rfl, rfl, ?_⟩
          rw [hsq]
          exact h13
        · have h45 : s.tok = 45 ∨ s.tok = 40 := by first | exact Or.inl c40 | exact Or.inr c49
          refine s_iload_n (tb_ok aX2_readOne_1 0 rfl) rfl ?_
          refine s_iconst (v := nI 5) (tb_ok aX2_readOne_1 1 rfl) (by decide) ?_
          refine s_icmp_lt (tgt := 64) (tb_ok aX2_readOne_1 2 rfl) (by decide) (fun c54 => ?_) (fun c54 => ?_)
          · simp (disch := omega) only [nI_ltI] at c54
            omega
          · have hsq : (oneP (I0 63) n none) s = .inr s.pl := by
              unfold oneP
              first | (rw [if_neg h23, if_pos h45]; done) | (rw [if_neg h23, if_neg (fun h_ => h_.elim c40 c49)])
            refine s_aload_n (tb_ok aX2_readOne_1 3 rfl) rfl ?_
            refine s_cV (as := []) (tb_ok aX2_readOne_1 4 rfl) v_RX2_50 (A_fail hR hn2 h (by (try simp only [List.length_append, List.length_cons, List.length_nil] at *); omega)) (by omega) g1 rfl rfl rfl rfl (Nat.le_of_ble_eq_true rfl) (by decide) (fun r5 S5 I5 L5 R5 q5 => ?_)
            obtain ⟨rfl, rfl, rfl, rfl, h14⟩ := q5
            refine s_goto (tgt := 114) (tb_ok aX2_readOne_1 5 rfl) (by decide) ?_
            refine s_vret (tb_ok aX2_readOne_2 8 rfl) rfl ?_
            refine ⟨rfl, rfl, rfl, rfl, ?_⟩
            rw [hsq]
            exact h14
    · have hop : s.tok = 2 ∨ s.tok = 3 := by first | exact Or.inl c5 | exact Or.inr c13
      have w_ := h.2.1.2.2.1 (by rcases hop with h_ | h_ <;> rw [h_] <;> decide)
      have hsq : (oneP (I0 63) n none) s = .inl ([s.val], (fun nm => atm nm s.val), adv (I0 63) n s) := by unfold oneP; rw [if_pos hop]
      refine s_aload_n (tb_ok aX2_readOne_0 8 rfl) rfl ?_
      refine s_getR (r := r) (tb_ok aX2_readOne_0 9 rfl) f_RX2_22 g1 rfl g4 ?_
      refine s_aload_n (tb_ok aX2_readOne_0 10 rfl) rfl ?_
      refine s_getI (x := (s).val) (tb_ok aX2_readOne_0 11 rfl) f_RX2_77 g1 rfl h.2.2.2.2.2.1 ?_
      refine s_cV (as := [.int (s).val]) (tb_ok aX2_readOne_0 12 rfl) v_RX2_59 (A_add (s).val hR h (by have hp_ := h.2.1.pl; have hq_ := h.2.1.2.1; (try simp only [List.length_append, List.length_cons, List.length_nil] at *); omega)) (by omega) g5.1 rfl rfl rfl rfl (Nat.le_of_ble_eq_true rfl) (by decide) (fun r6 S6 I6 L6 R6 q6 => ?_)
      obtain ⟨rfl, rfl, rfl, rfl, h15⟩ := q6
      refine s_aload_n (tb_ok aX2_readOne_0 13 rfl) rfl ?_
      refine s_cV (as := []) (tb_ok aX2_readOne_0 14 rfl) v_RX2_34 (A_adv hR hn hn2 h15) (by omega) g1 rfl rfl rfl rfl (Nat.le_of_ble_eq_true rfl) (by decide) (fun r7 S7 I7 L7 R7 q7 => ?_)
      obtain ⟨rfl, rfl, rfl, rfl, h16⟩ := q7
      have a17 := (adv_wf (t := I0 63) h15.2.1).2.2 (by rcases hop with h_ | h_ <;> rw [h_] <;> decide)
      refine s_goto (tgt := 114) (tb_ok aX2_readOne_0 15 rfl) (by decide) ?_
      refine s_vret (tb_ok aX2_readOne_2 8 rfl) rfl ?_
      refine ⟨rfl, rfl, rfl, rfl, ?_⟩
      rw [hsq]
      have h18 := h16
      exact ⟨h18, (by (try simp only [List.length_append, List.length_cons, List.length_nil] at *); omega)⟩

set_option maxRecDepth 100000 in
set_option maxHeartbeats 1000000 in
theorem CE_X2_readOne1 {X : En} {S : Sh} {I0 : FI} {L : FL} {R : FR} {r : Nat} (hR : isRead S R r) {d1 d2 d o : Nat} (hd : 7 < d) (hd1 : d1 < d) (hd2 : d2 < d) (ho : o < 5) (hi : CtE X S L R r I0 d1 mX2_readOne (o + 1)) (hj : CtE X S L R r I0 d2 mX2_readEither (o + 1)) : CtE X S L R r I0 d mX2_readOne o := by
  intro I f h
  obtain ⟨g1, g2, g3, g4, g5, g6⟩ := id hR
  refine ev_of (by decide +kernel) rfl ?_
  show SW X _ _ _ 0 [some (.ref 62), some (.int (nI o))] [] S I L R _
  refine s_aload_n (tb_ok aX2_readOne_0 0 rfl) rfl ?_
  refine s_getI (tb_ok aX2_readOne_0 1 rfl) f_RX2_47 g1 rfl rfl ?_
  refine s_iconst (v := 2) (tb_ok aX2_readOne_0 2 rfl) (by decide) ?_
  refine s_icmp_eq (tgt := 16) (tb_ok aX2_readOne_0 3 rfl) (by decide) (fun c5 => ?_) (fun c5 => ?_)
  · refine s_aload_n (tb_ok aX2_readOne_0 8 rfl) rfl ?_
    refine s_getR (r := r) (tb_ok aX2_readOne_0 9 rfl) f_RX2_22 g1 rfl g4 ?_
    refine s_aload_n (tb_ok aX2_readOne_0 10 rfl) rfl ?_
    refine s_getI (tb_ok aX2_readOne_0 11 rfl) f_RX2_77 g1 rfl rfl ?_
    refine s_cV (as := [_]) (tb_ok aX2_readOne_0 12 rfl) v_RX2_59 (A_addE _ hR h) (by omega) g5.1 rfl rfl rfl rfl (Nat.le_of_ble_eq_true rfl) (by decide) (fun r1 S1 I1 L1 R1 q1 => ?_)
    obtain ⟨rfl, rfl, rfl, rfl, h1⟩ := q1
    refine s_aload_n (tb_ok aX2_readOne_0 13 rfl) rfl ?_
    refine s_cV (as := []) (tb_ok aX2_readOne_0 14 rfl) v_RX2_34 (A_advE hR h1) (by omega) g1 rfl rfl rfl rfl (Nat.le_of_ble_eq_true rfl) (by decide) (fun r2 S2 I2 L2 R2 q2 => ?_)
    obtain ⟨rfl, rfl, rfl, rfl, h2⟩ := q2
    refine s_goto (tgt := 114) (tb_ok aX2_readOne_0 15 rfl) (by decide) ?_
    refine s_vret (tb_ok aX2_readOne_2 8 rfl) rfl ?_
    exact ⟨rfl, rfl, rfl, rfl, h2⟩
  · refine s_aload_n (tb_ok aX2_readOne_0 4 rfl) rfl ?_
    refine s_getI (tb_ok aX2_readOne_0 5 rfl) f_RX2_47 g1 rfl rfl ?_
    refine s_iconst (v := 3) (tb_ok aX2_readOne_0 6 rfl) (by decide) ?_
    refine s_icmp_ne (tgt := 34) (tb_ok aX2_readOne_0 7 rfl) (by decide) (fun c13 => ?_) (fun c13 => ?_)
    · refine s_aload_n (tb_ok aX2_readOne_0 16 rfl) rfl ?_
      refine s_getI (tb_ok aX2_readOne_0 17 rfl) f_RX2_47 g1 rfl rfl ?_
      refine s_bipush (v := 45) (tb_ok aX2_readOne_0 18 rfl) (by decide) ?_
      refine s_icmp_eq (tgt := 52) (tb_ok aX2_readOne_0 19 rfl) (by decide) (fun c40 => ?_) (fun c40 => ?_)
      · refine s_iload_n (tb_ok aX2_readOne_1 0 rfl) rfl ?_
        refine s_iconst (v := nI 5) (tb_ok aX2_readOne_1 1 rfl) (by decide) ?_
        refine s_icmp_lt (tgt := 64) (tb_ok aX2_readOne_1 2 rfl) (by decide) (fun c54 => ?_) (fun c54 => ?_)
        · refine s_aload_n (tb_ok aX2_readOne_1 6 rfl) rfl ?_
          refine s_getI (tb_ok aX2_readOne_1 7 rfl) f_RX2_47 g1 rfl rfl ?_
          refine s_bipush (v := 45) (tb_ok aX2_readOne_1 8 rfl) (by decide) ?_
          refine s_icmp_ne (tgt := 97) (tb_ok aX2_readOne_1 9 rfl) (by decide) (fun c70 => ?_) (fun c70 => ?_)
          · refine s_aload_n (tb_ok aX2_readOne_1 22 rfl) rfl ?_
            refine s_cV (as := []) (tb_ok aX2_readOne_1 23 rfl) v_RX2_34 (A_advE hR h) (by omega) g1 rfl rfl rfl rfl (Nat.le_of_ble_eq_true rfl) (by decide) (fun r3 S3 I3 L3 R3 q3 => ?_)
            obtain ⟨rfl, rfl, rfl, rfl, h3⟩ := q3
            refine s_aload_n (tb_ok aX2_readOne_2 0 rfl) rfl ?_
            refine s_iload_n (tb_ok aX2_readOne_2 1 rfl) rfl ?_
            refine s_iconst (v := 1) (tb_ok aX2_readOne_2 2 rfl) (by decide) ?_
            refine s_iadd (tb_ok aX2_readOne_2 3 rfl) ?_
            refine s_topi (z := (nI (o + 1))) (nI_1 o) ?_
            refine s_cV (as := [.int (nI (o + 1))]) (tb_ok aX2_readOne_2 4 rfl) v_RX2_41 (hj _ _ h3) (by omega) g1 rfl rfl rfl rfl (Nat.le_of_ble_eq_true rfl) (by decide) (fun r4 S4 I4 L4 R4 q4 => ?_)
            obtain ⟨rfl, rfl, rfl, rfl, h4⟩ := q4
            refine s_aload_n (tb_ok aX2_readOne_2 5 rfl) rfl ?_
            refine s_bipush (v := 41) (tb_ok aX2_readOne_2 6 rfl) (by decide) ?_
            refine s_cV (as := [.int (41)]) (tb_ok aX2_readOne_2 7 rfl) v_RX2_37 (A_expE hR h4) (by omega) g1 rfl rfl rfl rfl (Nat.le_of_ble_eq_true rfl) (by decide) (fun r5 S5 I5 L5 R5 q5 => ?_)
            obtain ⟨rfl, rfl, rfl, rfl, h5⟩ := q5
            refine s_vret (tb_ok aX2_readOne_2 8 rfl) rfl ?_
            exact ⟨rfl, rfl, rfl, rfl, h5⟩
          · refine s_aload_n (tb_ok aX2_readOne_1 10 rfl) rfl ?_
            refine s_cV (as := []) (tb_ok aX2_readOne_1 11 rfl) v_RX2_34 (A_advE hR h) (by omega) g1 rfl rfl rfl rfl (Nat.le_of_ble_eq_true rfl) (by decide) (fun r6 S6 I6 L6 R6 q6 => ?_)
            obtain ⟨rfl, rfl, rfl, rfl, h6⟩ := q6
            refine s_aload_n (tb_ok aX2_readOne_1 12 rfl) rfl ?_
            refine s_iload_n (tb_ok aX2_readOne_1 13 rfl) rfl ?_
            refine s_iconst (v := 1) (tb_ok aX2_readOne_1 14 rfl) (by decide) ?_
            refine s_iadd (tb_ok aX2_readOne_1 15 rfl) ?_
            refine s_topi (z := (nI (o + 1))) (nI_1 o) ?_
            refine s_cV (as := [.int (nI (o + 1))]) (tb_ok aX2_readOne_1 16 rfl) v_RX2_74 (hi _ _ h6) (by omega) g1 rfl rfl rfl rfl (Nat.le_of_ble_eq_true rfl) (by decide) (fun r7 S7 I7 L7 R7 q7 => ?_)
            obtain ⟨rfl, rfl, rfl, rfl, h7⟩ := q7
            refine s_aload_n (tb_ok aX2_readOne_1 17 rfl) rfl ?_
            refine s_getR (r := r) (tb_ok aX2_readOne_1 18 rfl) f_RX2_22 g1 rfl g4 ?_
            refine s_sipush (v := 20000) (tb_ok aX2_readOne_1 19 rfl) (by decide) ?_
            refine s_cV (as := [.int (20000)]) (tb_ok aX2_readOne_1 20 rfl) v_RX2_59 (A_addE (20000) hR h7) (by omega) g5.1 rfl rfl rfl rfl (Nat.le_of_ble_eq_true rfl) (by decide) (fun r8 S8 I8 L8 R8 q8 => ?_)
            obtain ⟨rfl, rfl, rfl, rfl, h8⟩ := q8
            refine s_goto (tgt := 114) (tb_ok aX2_readOne_1 21 rfl) (by decide) ?_
            refine s_vret (tb_ok aX2_readOne_2 8 rfl) rfl ?_
            exact ⟨rfl, rfl, rfl, rfl, h8⟩
        · simp (disch := omega) only [nI_ltI] at c54
          omega
      · refine s_aload_n (tb_ok aX2_readOne_0 20 rfl) rfl ?_
        refine s_getI (tb_ok aX2_readOne_0 21 rfl) f_RX2_47 g1 rfl rfl ?_
        refine s_bipush (v := 40) (tb_ok aX2_readOne_0 22 rfl) (by decide) ?_
        refine s_icmp_ne (tgt := 57) (tb_ok aX2_readOne_0 23 rfl) (by decide) (fun c49 => ?_) (fun c49 => ?_)
        · refine s_aload_n (tb_ok aX2_readOne_1 3 rfl) rfl ?_
          refine s_cV (as := []) (tb_ok aX2_readOne_1 4 rfl) v_RX2_50 (A_failE hR h) (by omega) g1 rfl rfl rfl rfl (Nat.le_of_ble_eq_true rfl) (by decide) (fun r9 S9 I9 L9 R9 q9 => ?_)
          obtain ⟨rfl, rfl, rfl, rfl, h9⟩ := q9
          refine s_goto (tgt := 114) (tb_ok aX2_readOne_1 5 rfl) (by decide) ?_
          refine s_vret (tb_ok aX2_readOne_2 8 rfl) rfl ?_
          exact ⟨rfl, rfl, rfl, rfl, h9⟩
        · refine s_iload_n (tb_ok aX2_readOne_1 0 rfl) rfl ?_
          refine s_iconst (v := nI 5) (tb_ok aX2_readOne_1 1 rfl) (by decide) ?_
          refine s_icmp_lt (tgt := 64) (tb_ok aX2_readOne_1 2 rfl) (by decide) (fun c54 => ?_) (fun c54 => ?_)
          · refine s_aload_n (tb_ok aX2_readOne_1 6 rfl) rfl ?_
            refine s_getI (tb_ok aX2_readOne_1 7 rfl) f_RX2_47 g1 rfl rfl ?_
            refine s_bipush (v := 45) (tb_ok aX2_readOne_1 8 rfl) (by decide) ?_
            refine s_icmp_ne (tgt := 97) (tb_ok aX2_readOne_1 9 rfl) (by decide) (fun c70 => ?_) (fun c70 => ?_)
            · refine s_aload_n (tb_ok aX2_readOne_1 22 rfl) rfl ?_
              refine s_cV (as := []) (tb_ok aX2_readOne_1 23 rfl) v_RX2_34 (A_advE hR h) (by omega) g1 rfl rfl rfl rfl (Nat.le_of_ble_eq_true rfl) (by decide) (fun r10 S10 I10 L10 R10 q10 => ?_)
              obtain ⟨rfl, rfl, rfl, rfl, h10⟩ := q10
              refine s_aload_n (tb_ok aX2_readOne_2 0 rfl) rfl ?_
              refine s_iload_n (tb_ok aX2_readOne_2 1 rfl) rfl ?_
              refine s_iconst (v := 1) (tb_ok aX2_readOne_2 2 rfl) (by decide) ?_
              refine s_iadd (tb_ok aX2_readOne_2 3 rfl) ?_
              refine s_topi (z := (nI (o + 1))) (nI_1 o) ?_
              refine s_cV (as := [.int (nI (o + 1))]) (tb_ok aX2_readOne_2 4 rfl) v_RX2_41 (hj _ _ h10) (by omega) g1 rfl rfl rfl rfl (Nat.le_of_ble_eq_true rfl) (by decide) (fun r11 S11 I11 L11 R11 q11 => ?_)
              obtain ⟨rfl, rfl, rfl, rfl, h11⟩ := q11
              refine s_aload_n (tb_ok aX2_readOne_2 5 rfl) rfl ?_
              refine s_bipush (v := 41) (tb_ok aX2_readOne_2 6 rfl) (by decide) ?_
              refine s_cV (as := [.int (41)]) (tb_ok aX2_readOne_2 7 rfl) v_RX2_37 (A_expE hR h11) (by omega) g1 rfl rfl rfl rfl (Nat.le_of_ble_eq_true rfl) (by decide) (fun r12 S12 I12 L12 R12 q12 => ?_)
              obtain ⟨rfl, rfl, rfl, rfl, h12⟩ := q12
              refine s_vret (tb_ok aX2_readOne_2 8 rfl) rfl ?_
              exact ⟨rfl, rfl, rfl, rfl, h12⟩
            · refine s_aload_n (tb_ok aX2_readOne_1 10 rfl) rfl ?_
              refine s_cV (as := []) (tb_ok aX2_readOne_1 11 rfl) v_RX2_34 (A_advE hR h) (by omega) g1 rfl rfl rfl rfl (Nat.le_of_ble_eq_true rfl) (by decide) (fun r13 S13 I13 L13 R13 q13 => ?_)
              obtain ⟨rfl, rfl, rfl, rfl, h13⟩ := q13
              refine s_aload_n (tb_ok aX2_readOne_1 12 rfl) rfl ?_
              refine s_iload_n (tb_ok aX2_readOne_1 13 rfl) rfl ?_
              refine s_iconst (v := 1) (tb_ok aX2_readOne_1 14 rfl) (by decide) ?_
              refine s_iadd (tb_ok aX2_readOne_1 15 rfl) ?_
              refine s_topi (z := (nI (o + 1))) (nI_1 o) ?_
              refine s_cV (as := [.int (nI (o + 1))]) (tb_ok aX2_readOne_1 16 rfl) v_RX2_74 (hi _ _ h13) (by omega) g1 rfl rfl rfl rfl (Nat.le_of_ble_eq_true rfl) (by decide) (fun r14 S14 I14 L14 R14 q14 => ?_)
              obtain ⟨rfl, rfl, rfl, rfl, h14⟩ := q14
              refine s_aload_n (tb_ok aX2_readOne_1 17 rfl) rfl ?_
              refine s_getR (r := r) (tb_ok aX2_readOne_1 18 rfl) f_RX2_22 g1 rfl g4 ?_
              refine s_sipush (v := 20000) (tb_ok aX2_readOne_1 19 rfl) (by decide) ?_
              refine s_cV (as := [.int (20000)]) (tb_ok aX2_readOne_1 20 rfl) v_RX2_59 (A_addE (20000) hR h14) (by omega) g5.1 rfl rfl rfl rfl (Nat.le_of_ble_eq_true rfl) (by decide) (fun r15 S15 I15 L15 R15 q15 => ?_)
              obtain ⟨rfl, rfl, rfl, rfl, h15⟩ := q15
              refine s_goto (tgt := 114) (tb_ok aX2_readOne_1 21 rfl) (by decide) ?_
              refine s_vret (tb_ok aX2_readOne_2 8 rfl) rfl ?_
              exact ⟨rfl, rfl, rfl, rfl, h15⟩
          · simp (disch := omega) only [nI_ltI] at c54
            omega
    · refine s_aload_n (tb_ok aX2_readOne_0 8 rfl) rfl ?_
      refine s_getR (r := r) (tb_ok aX2_readOne_0 9 rfl) f_RX2_22 g1 rfl g4 ?_
      refine s_aload_n (tb_ok aX2_readOne_0 10 rfl) rfl ?_
      refine s_getI (tb_ok aX2_readOne_0 11 rfl) f_RX2_77 g1 rfl rfl ?_
      refine s_cV (as := [_]) (tb_ok aX2_readOne_0 12 rfl) v_RX2_59 (A_addE _ hR h) (by omega) g5.1 rfl rfl rfl rfl (Nat.le_of_ble_eq_true rfl) (by decide) (fun r16 S16 I16 L16 R16 q16 => ?_)
      obtain ⟨rfl, rfl, rfl, rfl, h16⟩ := q16
      refine s_aload_n (tb_ok aX2_readOne_0 13 rfl) rfl ?_
      refine s_cV (as := []) (tb_ok aX2_readOne_0 14 rfl) v_RX2_34 (A_advE hR h16) (by omega) g1 rfl rfl rfl rfl (Nat.le_of_ble_eq_true rfl) (by decide) (fun r17 S17 I17 L17 R17 q17 => ?_)
      obtain ⟨rfl, rfl, rfl, rfl, h17⟩ := q17
      refine s_goto (tgt := 114) (tb_ok aX2_readOne_0 15 rfl) (by decide) ?_
      refine s_vret (tb_ok aX2_readOne_2 8 rfl) rfl ?_
      exact ⟨rfl, rfl, rfl, rfl, h17⟩

set_option maxRecDepth 100000 in
set_option maxHeartbeats 1000000 in
theorem CO_X2_readOne1 {X : En} {S : Sh} {I0 : FI} {L : FL} {R : FR} {r n : Nat} (hR : isRead S R r) (hn : I0 62 1 = nI n) (hn2 : n ≤ 160) {d1 d2 d o : Nat} (hd : 7 < d) (hd1 : d1 < d) (hd2 : d2 < d) (ho : o < 5) {q : Pa × Pa × Pa} (hi : CtO X S L R r n I0 d1 mX2_readOne (o + 1) q.2.2) (hj : CtO X S L R r n I0 d2 mX2_readEither (o + 1) q.1) : CtO X S L R r n I0 d mX2_readOne o (oneP (I0 63) n (some q)) := by
  intro I acc s h hb
  obtain ⟨g1, g2, g3, g4, g5, g6⟩ := id hR
  refine ev_of (by decide +kernel) rfl ?_
  show SW X _ _ _ 0 [some (.ref 62), some (.int (nI o))] [] S I L R _
  refine s_aload_n (tb_ok aX2_readOne_0 0 rfl) rfl ?_
  refine s_getI (x := (s).tok) (tb_ok aX2_readOne_0 1 rfl) f_RX2_47 g1 rfl h.2.2.2.2.1 ?_
  refine s_iconst (v := 2) (tb_ok aX2_readOne_0 2 rfl) (by decide) ?_
  refine s_icmp_eq (tgt := 16) (tb_ok aX2_readOne_0 3 rfl) (by decide) (fun c5 => ?_) (fun c5 => ?_)
  · have hop : s.tok = 2 ∨ s.tok = 3 := by first | exact Or.inl c5 | exact Or.inr c13
    have w_ := h.2.1.2.2.1 (by rcases hop with h_ | h_ <;> rw [h_] <;> decide)
    have hsq : (oneP (I0 63) n (some q)) s = .inl ([s.val], (fun nm => atm nm s.val), adv (I0 63) n s) := by unfold oneP; rw [if_pos hop]
    refine s_aload_n (tb_ok aX2_readOne_0 8 rfl) rfl ?_
    refine s_getR (r := r) (tb_ok aX2_readOne_0 9 rfl) f_RX2_22 g1 rfl g4 ?_
    refine s_aload_n (tb_ok aX2_readOne_0 10 rfl) rfl ?_
    refine s_getI (x := (s).val) (tb_ok aX2_readOne_0 11 rfl) f_RX2_77 g1 rfl h.2.2.2.2.2.1 ?_
    refine s_cV (as := [.int (s).val]) (tb_ok aX2_readOne_0 12 rfl) v_RX2_59 (A_add (s).val hR h (by have hp_ := h.2.1.pl; have hq_ := h.2.1.2.1; (try simp only [List.length_append, List.length_cons, List.length_nil] at *); omega)) (by omega) g5.1 rfl rfl rfl rfl (Nat.le_of_ble_eq_true rfl) (by decide) (fun r1 S1 I1 L1 R1 q1 => ?_)
    obtain ⟨rfl, rfl, rfl, rfl, h18⟩ := q1
    refine s_aload_n (tb_ok aX2_readOne_0 13 rfl) rfl ?_
    refine s_cV (as := []) (tb_ok aX2_readOne_0 14 rfl) v_RX2_34 (A_adv hR hn hn2 h18) (by omega) g1 rfl rfl rfl rfl (Nat.le_of_ble_eq_true rfl) (by decide) (fun r2 S2 I2 L2 R2 q2 => ?_)
    obtain ⟨rfl, rfl, rfl, rfl, h19⟩ := q2
    have a20 := (adv_wf (t := I0 63) h18.2.1).2.2 (by rcases hop with h_ | h_ <;> rw [h_] <;> decide)
    refine s_goto (tgt := 114) (tb_ok aX2_readOne_0 15 rfl) (by decide) ?_
    refine s_vret (tb_ok aX2_readOne_2 8 rfl) rfl ?_
    refine ⟨rfl, rfl, rfl, rfl, ?_⟩
    rw [hsq]
    have h21 := h19
    exact ⟨h21, (by (try simp only [List.length_append, List.length_cons, List.length_nil] at *); omega)⟩
  · refine s_aload_n (tb_ok aX2_readOne_0 4 rfl) rfl ?_
    refine s_getI (x := (s).tok) (tb_ok aX2_readOne_0 5 rfl) f_RX2_47 g1 rfl h.2.2.2.2.1 ?_
    refine s_iconst (v := 3) (tb_ok aX2_readOne_0 6 rfl) (by decide) ?_
    refine s_icmp_ne (tgt := 34) (tb_ok aX2_readOne_0 7 rfl) (by decide) (fun c13 => ?_) (fun c13 => ?_)
    · have h23 : ¬ (s.tok = 2 ∨ s.tok = 3) := fun h_ => h_.elim c5 c13
      refine s_aload_n (tb_ok aX2_readOne_0 16 rfl) rfl ?_
      refine s_getI (x := (s).tok) (tb_ok aX2_readOne_0 17 rfl) f_RX2_47 g1 rfl h.2.2.2.2.1 ?_
      refine s_bipush (v := 45) (tb_ok aX2_readOne_0 18 rfl) (by decide) ?_
      refine s_icmp_eq (tgt := 52) (tb_ok aX2_readOne_0 19 rfl) (by decide) (fun c40 => ?_) (fun c40 => ?_)
      · have h45 : s.tok = 45 ∨ s.tok = 40 := by first | exact Or.inl c40 | exact Or.inr c49
        refine s_iload_n (tb_ok aX2_readOne_1 0 rfl) rfl ?_
        refine s_iconst (v := nI 5) (tb_ok aX2_readOne_1 1 rfl) (by decide) ?_
        refine s_icmp_lt (tgt := 64) (tb_ok aX2_readOne_1 2 rfl) (by decide) (fun c54 => ?_) (fun c54 => ?_)
        · refine s_aload_n (tb_ok aX2_readOne_1 6 rfl) rfl ?_
          refine s_getI (x := (s).tok) (tb_ok aX2_readOne_1 7 rfl) f_RX2_47 g1 rfl h.2.2.2.2.1 ?_
          refine s_bipush (v := 45) (tb_ok aX2_readOne_1 8 rfl) (by decide) ?_
          refine s_icmp_ne (tgt := 97) (tb_ok aX2_readOne_1 9 rfl) (by decide) (fun c70 => ?_) (fun c70 => ?_)
          · refine s_aload_n (tb_ok aX2_readOne_1 22 rfl) rfl ?_
            refine s_cV (as := []) (tb_ok aX2_readOne_1 23 rfl) v_RX2_34 (A_adv hR hn hn2 h) (by omega) g1 rfl rfl rfl rfl (Nat.le_of_ble_eq_true rfl) (by decide) (fun r3 S3 I3 L3 R3 q3 => ?_)
            obtain ⟨rfl, rfl, rfl, rfl, h22⟩ := q3
            have a23 := (adv_wf (t := I0 63) h.2.1).2.2 (by rcases h45 with h_ | h_ <;> rw [h_] <;> decide)
            refine s_aload_n (tb_ok aX2_readOne_2 0 rfl) rfl ?_
            refine s_iload_n (tb_ok aX2_readOne_2 1 rfl) rfl ?_
            refine s_iconst (v := 1) (tb_ok aX2_readOne_2 2 rfl) (by decide) ?_
            refine s_iadd (tb_ok aX2_readOne_2 3 rfl) ?_
            refine s_topi (z := (nI (o + 1))) (nI_1 o) ?_
            refine s_cV (as := [.int (nI (o + 1))]) (tb_ok aX2_readOne_2 4 rfl) v_RX2_41 (hj _ _ _ h22 (by (try simp only [List.length_append, List.length_cons, List.length_nil] at *); omega)) (by omega) g1 rfl rfl rfl rfl (Nat.le_of_ble_eq_true rfl) (by decide) (fun r4 S4 I4 L4 R4 q4 => ?_)
            obtain ⟨rfl, rfl, rfl, rfl, h24⟩ := q4
            cases e24_ : q.1 (adv (I0 63) n s) with
            | inr f24_ =>
              rw [e24_] at h24
              have h24 : ERs r I0 f24_ _ := h24
              have hsq : (oneP (I0 63) n (some q)) s = .inr f24_ := by
                unfold oneP
                rw [if_neg h23, if_pos h45]
                show (if s.tok = 45 then _ else _) = _
                rw [if_neg c70]
                simp only [e24_]
              refine s_aload_n (tb_ok aX2_readOne_2 5 rfl) rfl ?_
              refine s_bipush (v := 41) (tb_ok aX2_readOne_2 6 rfl) (by decide) ?_
              refine s_cV (as := [.int (41)]) (tb_ok aX2_readOne_2 7 rfl) v_RX2_37 (A_expE hR h24) (by omega) g1 rfl rfl rfl rfl (Nat.le_of_ble_eq_true rfl) (by decide) (fun r5 S5 I5 L5 R5 q5 => ?_)
              obtain ⟨rfl, rfl, rfl, rfl, h25⟩ := q5
              refine s_vret (tb_ok aX2_readOne_2 8 rfl) rfl ?_
              refine ⟨rfl, rfl, rfl, rfl, ?_⟩
              rw [hsq]
              exact h25
            | inl qq =>
              obtain ⟨c24_, v24_, s24_⟩ := qq
              rw [e24_] at h24
              obtain ⟨h24, b24_⟩ := h24
              have h24 : OKs r n I0 (acc ++ c24_) s24_ _ := h24
              have b24_ : ((adv (I0 63) n s)).pl + c24_.length ≤ (s24_).pl := b24_
              refine s_aload_n (tb_ok aX2_readOne_2 5 rfl) rfl ?_
              refine s_bipush (v := 41) (tb_ok aX2_readOne_2 6 rfl) (by decide) ?_
              refine s_cV (as := [.int (41)]) (tb_ok aX2_readOne_2 7 rfl) v_RX2_37 (A_expO hR hn hn2 h24 (by (try simp only [List.length_append, List.length_cons, List.length_nil] at *); omega)) (by omega) g1 rfl rfl rfl rfl (Nat.le_of_ble_eq_true rfl) (by decide) (fun r6 S6 I6 L6 R6 q6 => ?_)
              obtain ⟨rfl, rfl, rfl, rfl, h26⟩ := q6
              by_cases x27 : (s24_).tok = (41)
              · have h29 := h26.1 x27
                have a28 := (adv_wf (t := I0 63) h24.2.1).2.2 (by rw [x27]; decide)
                have hsq : (oneP (I0 63) n (some q)) s = .inl (c24_, v24_, adv (I0 63) n s24_) := by
                  unfold oneP
                  rw [if_neg h23, if_pos h45]
                  show (if s.tok = 45 then _ else _) = _
                  rw [if_neg c70]
                  simp only [e24_]
                  rw [if_pos x27]
                refine s_vret (tb_ok aX2_readOne_2 8 rfl) rfl ?_
                refine ⟨rfl, rfl, rfl, rfl, ?_⟩
                rw [hsq]
                have h31 := h29
                exact ⟨h31, (by (try simp only [List.length_append, List.length_cons, List.length_nil] at *); omega)⟩
              · have h30 := h26.2 x27
                have hsq : (oneP (I0 63) n (some q)) s = .inr (s24_).pl := by
                  unfold oneP
                  rw [if_neg h23, if_pos h45]
                  show (if s.tok = 45 then _ else _) = _
                  rw [if_neg c70]
                  simp only [e24_]
                  rw [if_neg x27]
                refine s_vret (tb_ok aX2_readOne_2 8 rfl) rfl ?_
                refine ⟨rfl, rfl, rfl, rfl, ?_⟩
                rw [hsq]
                exact h30
          · refine s_aload_n (tb_ok aX2_readOne_1 10 rfl) rfl ?_
            refine s_cV (as := []) (tb_ok aX2_readOne_1 11 rfl) v_RX2_34 (A_adv hR hn hn2 h) (by omega) g1 rfl rfl rfl rfl (Nat.le_of_ble_eq_true rfl) (by decide) (fun r7 S7 I7 L7 R7 q7 => ?_)
            obtain ⟨rfl, rfl, rfl, rfl, h32⟩ := q7
            have a33 := (adv_wf (t := I0 63) h.2.1).2.2 (by rcases h45 with h_ | h_ <;> rw [h_] <;> decide)
            refine s_aload_n (tb_ok aX2_readOne_1 12 rfl) rfl ?_
            refine s_iload_n (tb_ok aX2_readOne_1 13 rfl) rfl ?_
            refine s_iconst (v := 1) (tb_ok aX2_readOne_1 14 rfl) (by decide) ?_
            refine s_iadd (tb_ok aX2_readOne_1 15 rfl) ?_
            refine s_topi (z := (nI (o + 1))) (nI_1 o) ?_
            refine s_cV (as := [.int (nI (o + 1))]) (tb_ok aX2_readOne_1 16 rfl) v_RX2_74 (hi _ _ _ h32 (by (try simp only [List.length_append, List.length_cons, List.length_nil] at *); omega)) (by omega) g1 rfl rfl rfl rfl (Nat.le_of_ble_eq_true rfl) (by decide) (fun r8 S8 I8 L8 R8 q8 => ?_)
            obtain ⟨rfl, rfl, rfl, rfl, h34⟩ := q8
            cases e34_ : q.2.2 (adv (I0 63) n s) with
            | inr f34_ =>
              rw [e34_] at h34
              have h34 : ERs r I0 f34_ _ := h34
              have hsq : (oneP (I0 63) n (some q)) s = .inr f34_ := by
                unfold oneP
                rw [if_neg h23, if_pos h45]
                show (if s.tok = 45 then _ else _) = _
                rw [if_pos c70]
                simp only [e34_]
              refine s_aload_n (tb_ok aX2_readOne_1 17 rfl) rfl ?_
              refine s_getR (r := r) (tb_ok aX2_readOne_1 18 rfl) f_RX2_22 g1 rfl g4 ?_
              refine s_sipush (v := 20000) (tb_ok aX2_readOne_1 19 rfl) (by decide) ?_
              refine s_cV (as := [.int (20000)]) (tb_ok aX2_readOne_1 20 rfl) v_RX2_59 (A_addE (20000) hR h34) (by omega) g5.1 rfl rfl rfl rfl (Nat.le_of_ble_eq_true rfl) (by decide) (fun r9 S9 I9 L9 R9 q9 => ?_)
              obtain ⟨rfl, rfl, rfl, rfl, h35⟩ := q9
              refine s_goto (tgt := 114) (tb_ok aX2_readOne_1 21 rfl) (by decide) ?_
              refine s_vret (tb_ok aX2_readOne_2 8 rfl) rfl ?_
              refine ⟨rfl, rfl, rfl, rfl, ?_⟩
              rw [hsq]
              exact h35
            | inl qq =>
              obtain ⟨c34_, v34_, s34_⟩ := qq
              rw [e34_] at h34
              obtain ⟨h34, b34_⟩ := h34
              have h34 : OKs r n I0 (acc ++ c34_) s34_ _ := h34
              have b34_ : ((adv (I0 63) n s)).pl + c34_.length ≤ (s34_).pl := b34_
              have hsq : (oneP (I0 63) n (some q)) s = .inl (c34_ ++ [20000], (fun nm => of1 20000 (v34_ nm)), s34_) := by
                unfold oneP
                rw [if_neg h23, if_pos h45]
                show (if s.tok = 45 then _ else _) = _
                rw [if_pos c70]
                simp only [e34_]
              refine s_aload_n (tb_ok aX2_readOne_1 17 rfl) rfl ?_
              refine s_getR (r := r) (tb_ok aX2_readOne_1 18 rfl) f_RX2_22 g1 rfl g4 ?_
              refine s_sipush (v := 20000) (tb_ok aX2_readOne_1 19 rfl) (by decide) ?_
              refine s_cV (as := [.int (20000)]) (tb_ok aX2_readOne_1 20 rfl) v_RX2_59 (A_add (20000) hR h34 (by have hp_ := h34.2.1.pl; have hq_ := h34.2.1.2.1; (try simp only [List.length_append, List.length_cons, List.length_nil] at *); omega)) (by omega) g5.1 rfl rfl rfl rfl (Nat.le_of_ble_eq_true rfl) (by decide) (fun r10 S10 I10 L10 R10 q10 => ?_)
              obtain ⟨rfl, rfl, rfl, rfl, h36⟩ := q10
              refine s_goto (tgt := 114) (tb_ok aX2_readOne_1 21 rfl) (by decide) ?_
              refine s_vret (tb_ok aX2_readOne_2 8 rfl) rfl ?_
              refine ⟨rfl, rfl, rfl, rfl, ?_⟩
              rw [hsq]
              have h37 := h36
              rw [List.append_assoc acc] at h37
              exact ⟨h37, (by (try simp only [List.length_append, List.length_cons, List.length_nil] at *); omega)⟩
        · simp (disch := omega) only [nI_ltI] at c54
          omega
      · refine s_aload_n (tb_ok aX2_readOne_0 20 rfl) rfl ?_
        refine s_getI (x := (s).tok) (tb_ok aX2_readOne_0 21 rfl) f_RX2_47 g1 rfl h.2.2.2.2.1 ?_
        refine s_bipush (v := 40) (tb_ok aX2_readOne_0 22 rfl) (by decide) ?_
        refine s_icmp_ne (tgt := 57) (tb_ok aX2_readOne_0 23 rfl) (by decide) (fun c49 => ?_) (fun c49 => ?_)
        · have hsq : (oneP (I0 63) n (some q)) s = .inr s.pl := by
            unfold oneP
            first | (rw [if_neg h23, if_pos h45]; done) | (rw [if_neg h23, if_neg (fun h_ => h_.elim c40 c49)])
          refine s_aload_n (tb_ok aX2_readOne_1 3 rfl) rfl ?_
          refine s_cV (as := []) (tb_ok aX2_readOne_1 4 rfl) v_RX2_50 (A_fail hR hn2 h (by (try simp only [List.length_append, List.length_cons, List.length_nil] at *); omega)) (by omega) g1 rfl rfl rfl rfl (Nat.le_of_ble_eq_true rfl) (by decide) (fun r11 S11 I11 L11 R11 q11 => ?_)
          obtain ⟨rfl, rfl, rfl, rfl, h38⟩ := q11
          refine s_goto (tgt := 114) (tb_ok aX2_readOne_1 5 rfl) (by decide) ?_
          refine s_vret (tb_ok aX2_readOne_2 8 rfl) rfl ?_
          refine ⟨rfl, rfl, rfl, rfl, ?_⟩
          rw [hsq]
          exact h38
        · have h45 : s.tok = 45 ∨ s.tok = 40 := by first | exact Or.inl c40 | exact Or.inr c49
          refine s_iload_n (tb_ok aX2_readOne_1 0 rfl) rfl ?_
          refine s_iconst (v := nI 5) (tb_ok aX2_readOne_1 1 rfl) (by decide) ?_
          refine s_icmp_lt (tgt := 64) (tb_ok aX2_readOne_1 2 rfl) (by decide) (fun c54 => ?_) (fun c54 => ?_)
          · refine s_aload_n (tb_ok aX2_readOne_1 6 rfl) rfl ?_
            refine s_getI (x := (s).tok) (tb_ok aX2_readOne_1 7 rfl) f_RX2_47 g1 rfl h.2.2.2.2.1 ?_
            refine s_bipush (v := 45) (tb_ok aX2_readOne_1 8 rfl) (by decide) ?_
            refine s_icmp_ne (tgt := 97) (tb_ok aX2_readOne_1 9 rfl) (by decide) (fun c70 => ?_) (fun c70 => ?_)
            · refine s_aload_n (tb_ok aX2_readOne_1 22 rfl) rfl ?_
              refine s_cV (as := []) (tb_ok aX2_readOne_1 23 rfl) v_RX2_34 (A_adv hR hn hn2 h) (by omega) g1 rfl rfl rfl rfl (Nat.le_of_ble_eq_true rfl) (by decide) (fun r12 S12 I12 L12 R12 q12 => ?_)
              obtain ⟨rfl, rfl, rfl, rfl, h39⟩ := q12
              have a40 := (adv_wf (t := I0 63) h.2.1).2.2 (by rcases h45 with h_ | h_ <;> rw [h_] <;> decide)
              refine s_aload_n (tb_ok aX2_readOne_2 0 rfl) rfl ?_
              refine s_iload_n (tb_ok aX2_readOne_2 1 rfl) rfl ?_
              refine s_iconst (v := 1) (tb_ok aX2_readOne_2 2 rfl) (by decide) ?_
              refine s_iadd (tb_ok aX2_readOne_2 3 rfl) ?_
              refine s_topi (z := (nI (o + 1))) (nI_1 o) ?_
              refine s_cV (as := [.int (nI (o + 1))]) (tb_ok aX2_readOne_2 4 rfl) v_RX2_41 (hj _ _ _ h39 (by (try simp only [List.length_append, List.length_cons, List.length_nil] at *); omega)) (by omega) g1 rfl rfl rfl rfl (Nat.le_of_ble_eq_true rfl) (by decide) (fun r13 S13 I13 L13 R13 q13 => ?_)
              obtain ⟨rfl, rfl, rfl, rfl, h41⟩ := q13
              cases e41_ : q.1 (adv (I0 63) n s) with
              | inr f41_ =>
                rw [e41_] at h41
                have h41 : ERs r I0 f41_ _ := h41
                have hsq : (oneP (I0 63) n (some q)) s = .inr f41_ := by
                  unfold oneP
                  rw [if_neg h23, if_pos h45]
                  show (if s.tok = 45 then _ else _) = _
                  rw [if_neg c70]
                  simp only [e41_]
                refine s_aload_n (tb_ok aX2_readOne_2 5 rfl) rfl ?_
                refine s_bipush (v := 41) (tb_ok aX2_readOne_2 6 rfl) (by decide) ?_
                refine s_cV (as := [.int (41)]) (tb_ok aX2_readOne_2 7 rfl) v_RX2_37 (A_expE hR h41) (by omega) g1 rfl rfl rfl rfl (Nat.le_of_ble_eq_true rfl) (by decide) (fun r14 S14 I14 L14 R14 q14 => ?_)
                obtain ⟨rfl, rfl, rfl, rfl, h42⟩ := q14
                refine s_vret (tb_ok aX2_readOne_2 8 rfl) rfl ?_
                refine ⟨rfl, rfl, rfl, rfl, ?_⟩
                rw [hsq]
                exact h42
              | inl qq =>
                obtain ⟨c41_, v41_, s41_⟩ := qq
                rw [e41_] at h41
                obtain ⟨h41, b41_⟩ := h41
                have h41 : OKs r n I0 (acc ++ c41_) s41_ _ := h41
                have b41_ : ((adv (I0 63) n s)).pl + c41_.length ≤ (s41_).pl := b41_
                refine s_aload_n (tb_ok aX2_readOne_2 5 rfl) rfl ?_
                refine s_bipush (v := 41) (tb_ok aX2_readOne_2 6 rfl) (by decide) ?_
                refine s_cV (as := [.int (41)]) (tb_ok aX2_readOne_2 7 rfl) v_RX2_37 (A_expO hR hn hn2 h41 (by (try simp only [List.length_append, List.length_cons, List.length_nil] at *); omega)) (by omega) g1 rfl rfl rfl rfl (Nat.le_of_ble_eq_true rfl) (by decide) (fun r15 S15 I15 L15 R15 q15 => ?_)
                obtain ⟨rfl, rfl, rfl, rfl, h43⟩ := q15
                by_cases x44 : (s41_).tok = (41)
                · have h46 := h43.1 x44
                  have a45 := (adv_wf (t := I0 63) h41.2.1).2.2 (by rw [x44]; decide)
                  have hsq : (oneP (I0 63) n (some q)) s = .inl (c41_, v41_, adv (I0 63) n s41_) := by
                    unfold oneP
                    rw [if_neg h23, if_pos h45]
                    show (if s.tok = 45 then _ else _) = _
                    rw [if_neg c70]
                    simp only [e41_]
                    rw [if_pos x44]
                  refine s_vret (tb_ok aX2_readOne_2 8 rfl) rfl ?_
                  refine ⟨rfl, rfl, rfl, rfl, ?_⟩
                  rw [hsq]
                  have h48 := h46
                  exact ⟨h48, (by (try simp only [List.length_append, List.length_cons, List.length_nil] at *); omega)⟩
                · have h47 := h43.2 x44
                  have hsq : (oneP (I0 63) n (some q)) s = .inr (s41_).pl := by
                    unfold oneP
                    rw [if_neg h23, if_pos h45]
                    show (if s.tok = 45 then _ else _) = _
                    rw [if_neg c70]
                    simp only [e41_]
                    rw [if_neg x44]
                  refine s_vret (tb_ok aX2_readOne_2 8 rfl) rfl ?_
                  refine ⟨rfl, rfl, rfl, rfl, ?_⟩
                  rw [hsq]
                  exact h47
            · refine s_aload_n (tb_ok aX2_readOne_1 10 rfl) rfl ?_
              refine s_cV (as := []) (tb_ok aX2_readOne_1 11 rfl) v_RX2_34 (A_adv hR hn hn2 h) (by omega) g1 rfl rfl rfl rfl (Nat.le_of_ble_eq_true rfl) (by decide) (fun r16 S16 I16 L16 R16 q16 => ?_)
              obtain ⟨rfl, rfl, rfl, rfl, h49⟩ := q16
              have a50 := (adv_wf (t := I0 63) h.2.1).2.2 (by rcases h45 with h_ | h_ <;> rw [h_] <;> decide)
              refine s_aload_n (tb_ok aX2_readOne_1 12 rfl) rfl ?_
              refine s_iload_n (tb_ok aX2_readOne_1 13 rfl) rfl ?_
              refine s_iconst (v := 1) (tb_ok aX2_readOne_1 14 rfl) (by decide) ?_
              refine s_iadd (tb_ok aX2_readOne_1 15 rfl) ?_
              refine s_topi (z := (nI (o + 1))) (nI_1 o) ?_
              refine s_cV (as := [.int (nI (o + 1))]) (tb_ok aX2_readOne_1 16 rfl) v_RX2_74 (hi _ _ _ h49 (by (try simp only [List.length_append, List.length_cons, List.length_nil] at *); omega)) (by omega) g1 rfl rfl rfl rfl (Nat.le_of_ble_eq_true rfl) (by decide) (fun r17 S17 I17 L17 R17 q17 => ?_)
              obtain ⟨rfl, rfl, rfl, rfl, h51⟩ := q17
              cases e51_ : q.2.2 (adv (I0 63) n s) with
              | inr f51_ =>
                rw [e51_] at h51
                have h51 : ERs r I0 f51_ _ := h51
                have hsq : (oneP (I0 63) n (some q)) s = .inr f51_ := by
                  unfold oneP
                  rw [if_neg h23, if_pos h45]
                  show (if s.tok = 45 then _ else _) = _
                  rw [if_pos c70]
                  simp only [e51_]
                refine s_aload_n (tb_ok aX2_readOne_1 17 rfl) rfl ?_
                refine s_getR (r := r) (tb_ok aX2_readOne_1 18 rfl) f_RX2_22 g1 rfl g4 ?_
                refine s_sipush (v := 20000) (tb_ok aX2_readOne_1 19 rfl) (by decide) ?_
                refine s_cV (as := [.int (20000)]) (tb_ok aX2_readOne_1 20 rfl) v_RX2_59 (A_addE (20000) hR h51) (by omega) g5.1 rfl rfl rfl rfl (Nat.le_of_ble_eq_true rfl) (by decide) (fun r18 S18 I18 L18 R18 q18 => ?_)
                obtain ⟨rfl, rfl, rfl, rfl, h52⟩ := q18
                refine s_goto (tgt := 114) (tb_ok aX2_readOne_1 21 rfl) (by decide) ?_
                refine s_vret (tb_ok aX2_readOne_2 8 rfl) rfl ?_
                refine ⟨rfl, rfl, rfl, rfl, ?_⟩
                rw [hsq]
                exact h52
              | inl qq =>
                obtain ⟨c51_, v51_, s51_⟩ := qq
                rw [e51_] at h51
                obtain ⟨h51, b51_⟩ := h51
                have h51 : OKs r n I0 (acc ++ c51_) s51_ _ := h51
                have b51_ : ((adv (I0 63) n s)).pl + c51_.length ≤ (s51_).pl := b51_
                have hsq : (oneP (I0 63) n (some q)) s = .inl (c51_ ++ [20000], (fun nm => of1 20000 (v51_ nm)), s51_) := by
                  unfold oneP
                  rw [if_neg h23, if_pos h45]
                  show (if s.tok = 45 then _ else _) = _
                  rw [if_pos c70]
                  simp only [e51_]
                refine s_aload_n (tb_ok aX2_readOne_1 17 rfl) rfl ?_
                refine s_getR (r := r) (tb_ok aX2_readOne_1 18 rfl) f_RX2_22 g1 rfl g4 ?_
                refine s_sipush (v := 20000) (tb_ok aX2_readOne_1 19 rfl) (by decide) ?_
                refine s_cV (as := [.int (20000)]) (tb_ok aX2_readOne_1 20 rfl) v_RX2_59 (A_add (20000) hR h51 (by have hp_ := h51.2.1.pl; have hq_ := h51.2.1.2.1; (try simp only [List.length_append, List.length_cons, List.length_nil] at *); omega)) (by omega) g5.1 rfl rfl rfl rfl (Nat.le_of_ble_eq_true rfl) (by decide) (fun r19 S19 I19 L19 R19 q19 => ?_)
                obtain ⟨rfl, rfl, rfl, rfl, h53⟩ := q19
                refine s_goto (tgt := 114) (tb_ok aX2_readOne_1 21 rfl) (by decide) ?_
                refine s_vret (tb_ok aX2_readOne_2 8 rfl) rfl ?_
                refine ⟨rfl, rfl, rfl, rfl, ?_⟩
                rw [hsq]
                have h54 := h53
                rw [List.append_assoc acc] at h54
                exact ⟨h54, (by (try simp only [List.length_append, List.length_cons, List.length_nil] at *); omega)⟩
          · simp (disch := omega) only [nI_ltI] at c54
            omega
    · have hop : s.tok = 2 ∨ s.tok = 3 := by first | exact Or.inl c5 | exact Or.inr c13
      have w_ := h.2.1.2.2.1 (by rcases hop with h_ | h_ <;> rw [h_] <;> decide)
      have hsq : (oneP (I0 63) n (some q)) s = .inl ([s.val], (fun nm => atm nm s.val), adv (I0 63) n s) := by unfold oneP; rw [if_pos hop]
      refine s_aload_n (tb_ok aX2_readOne_0 8 rfl) rfl ?_
      refine s_getR (r := r) (tb_ok aX2_readOne_0 9 rfl) f_RX2_22 g1 rfl g4 ?_
      refine s_aload_n (tb_ok aX2_readOne_0 10 rfl) rfl ?_
      refine s_getI (x := (s).val) (tb_ok aX2_readOne_0 11 rfl) f_RX2_77 g1 rfl h.2.2.2.2.2.1 ?_
      refine s_cV (as := [.int (s).val]) (tb_ok aX2_readOne_0 12 rfl) v_RX2_59 (A_add (s).val hR h (by have hp_ := h.2.1.pl; have hq_ := h.2.1.2.1; (try simp only [List.length_append, List.length_cons, List.length_nil] at *); omega)) (by omega) g5.1 rfl rfl rfl rfl (Nat.le_of_ble_eq_true rfl) (by decide) (fun r20 S20 I20 L20 R20 q20 => ?_)
      obtain ⟨rfl, rfl, rfl, rfl, h55⟩ := q20
      refine s_aload_n (tb_ok aX2_readOne_0 13 rfl) rfl ?_
      refine s_cV (as := []) (tb_ok aX2_readOne_0 14 rfl) v_RX2_34 (A_adv hR hn hn2 h55) (by omega) g1 rfl rfl rfl rfl (Nat.le_of_ble_eq_true rfl) (by decide) (fun r21 S21 I21 L21 R21 q21 => ?_)
      obtain ⟨rfl, rfl, rfl, rfl, h56⟩ := q21
      have a57 := (adv_wf (t := I0 63) h55.2.1).2.2 (by rcases hop with h_ | h_ <;> rw [h_] <;> decide)
      refine s_goto (tgt := 114) (tb_ok aX2_readOne_0 15 rfl) (by decide) ?_
      refine s_vret (tb_ok aX2_readOne_2 8 rfl) rfl ?_
      refine ⟨rfl, rfl, rfl, rfl, ?_⟩
      rw [hsq]
      have h58 := h56
      exact ⟨h58, (by (try simp only [List.length_append, List.length_cons, List.length_nil] at *); omega)⟩

theorem CE_lev {X : En} {S : Sh} {I0 : FI} {L : FL} {R : FR} {r : Nat} (hR : isRead S R r) : ∀ k, k ≤ 5 → CtE X S L R r I0 (8 + 7 * k) mX2_readOne (5 - k) ∧ CtE X S L R r I0 (12 + 7 * k) mX2_readNot (5 - k) ∧ CtE X S L R r I0 (14 + 7 * k) mX2_readEither (5 - k) := by
  have up : ∀ k o, CtE X S L R r I0 (8 + 7 * k) mX2_readOne o → (CtE X S L R r I0 (11 + 7 * k) mX2_readCompared o → CtE X S L R r I0 (12 + 7 * k) mX2_readNot o) → CtE X S L R r I0 (8 + 7 * k) mX2_readOne o ∧ CtE X S L R r I0 (12 + 7 * k) mX2_readNot o ∧ CtE X S L R r I0 (14 + 7 * k) mX2_readEither o := by
    intro k o h1 h2
    have a := CE_X2_readSum hR (CE_X2_readTerm hR h1)
    have b := CE_X2_readCompared hR (d := 11 + 7 * k) (by omega) (by omega) a
    have c := h2 b
    exact ⟨h1, c, (show 12 + 7 * k + 1 + 1 = 14 + 7 * k by omega) ▸ CE_X2_readEither hR (CE_X2_readBoth hR c)⟩
  intro k
  induction k with
  | zero => intro _; exact up 0 5 (CE_X2_readOne0 hR (d1 := 0) (d2 := 0) (by omega) (by omega) (by omega) (by omega) (by omega)) (fun b => CE_X2_readNot0 hR (d2 := 0) (by omega) (by omega) (by omega) (by omega) (by omega) b)
  | succ k ih =>
    intro hk
    obtain ⟨i1, i2, i3⟩ := ih (by omega)
    have e : 5 - k = 5 - (k + 1) + 1 := by omega
    rw [e] at i1 i2 i3
    exact up (k + 1) (5 - (k + 1)) (CE_X2_readOne1 hR (by omega) (d1 := 8 + 7 * k) (by omega) (d2 := 14 + 7 * k) (by omega) (by omega) i1 i3) (fun b => CE_X2_readNot1 hR (by omega) (d1 := 11 + 7 * (k + 1)) (by omega) (d2 := 12 + 7 * k) (by omega) (by omega) b i2)
theorem CO_lev {X : En} {S : Sh} {I0 : FI} {L : FL} {R : FR} {r n : Nat} (hR : isRead S R r) (hn : I0 62 1 = nI n) (hn2 : n ≤ 160) : ∀ k, k ≤ 5 → CtO X S L R r n I0 (8 + 7 * k) mX2_readOne (5 - k) (oneP (I0 63) n (lev (I0 63) n k)) ∧ CtO X S L R r n I0 (12 + 7 * k) mX2_readNot (5 - k) (nottP (I0 63) n (lev (I0 63) n k)) ∧ CtO X S L R r n I0 (14 + 7 * k) mX2_readEither (5 - k) (eithP (I0 63) n (lev (I0 63) n k)) := by
  have up : ∀ k o sub, CtE X S L R r I0 (8 + 7 * k) mX2_readOne o → CtO X S L R r n I0 (8 + 7 * k) mX2_readOne o (oneP (I0 63) n sub) → (CtO X S L R r n I0 (11 + 7 * k) mX2_readCompared o (compP (I0 63) n sub) → CtO X S L R r n I0 (12 + 7 * k) mX2_readNot o (nottP (I0 63) n sub)) → CtO X S L R r n I0 (8 + 7 * k) mX2_readOne o (oneP (I0 63) n sub) ∧ CtO X S L R r n I0 (12 + 7 * k) mX2_readNot o (nottP (I0 63) n sub) ∧ CtO X S L R r n I0 (14 + 7 * k) mX2_readEither o (eithP (I0 63) n sub) := by
    intro k o sub h0 h1 h2
    have a0 := CE_X2_readSum hR (CE_X2_readTerm hR h0)
    have a := CO_X2_readSum hR hn hn2 (by omega) (CO_X2_readTerm hR hn hn2 (by omega) h1)
    have b := CO_X2_readCompared hR hn hn2 (d := 11 + 7 * k) (by omega) (by omega) a a0
    have c := h2 b
    exact ⟨h1, c, (show 12 + 7 * k + 1 + 1 = 14 + 7 * k by omega) ▸ CO_X2_readEither hR hn hn2 (by omega) (CO_X2_readBoth hR hn hn2 (by omega) c)⟩
  intro k
  induction k with
  | zero =>
    intro hk
    exact up 0 5 none (CE_lev hR 0 hk).1 (CO_X2_readOne0 hR hn hn2 (d1 := 0) (d2 := 0) (by omega) (by omega) (by omega) (by omega) (by omega)) (fun b => CO_X2_readNot0 hR hn hn2 (d2 := 0) (by omega) (by omega) (by omega) (by omega) (by omega) b)
  | succ k ih =>
    intro hk
    obtain ⟨i1, i2, i3⟩ := ih (by omega)
    have h0 := (CE_lev (X := X) (I0 := I0) (L := L) hR (k + 1) hk).1
    have e : 5 - k = 5 - (k + 1) + 1 := by omega
    rw [e] at i1 i2 i3
    exact up (k + 1) (5 - (k + 1)) (lev (I0 63) n (k + 1)) h0 (CO_X2_readOne1 hR hn hn2 (by omega) (d1 := 8 + 7 * k) (by omega) (d2 := 14 + 7 * k) (by omega) (by omega) i1 i3) (fun b => CO_X2_readNot1 hR hn hn2 (by omega) (d1 := 11 + 7 * (k + 1)) (by omega) (d2 := 12 + 7 * k) (by omega) (by omega) b i2)