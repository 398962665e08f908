/-! the Reader: comparisons, not, one, expect; all levels; a whole text -/
set_option maxRecDepth 100000 in
set_option maxHeartbeats 1000000 in
theorem A_exp {X : En} {S : Sh} {I0 : FI} {L : FL} {R : FR} {r n : Nat} (hR : isRead S R r) (hn : I0 62 1 = nI n) (hn2 : n ≤ 160) {I : FI} {acc : List Int32} {s : St} {w : Int32} (h : OKs r n I0 acc s I) (hw : s.tok = w) : Ev X 7 mX2_expect (0, 0) [.ref 62, .int w] S I L R (AfS r n I0 acc (adv (I0 63) n s) S L R) := by
  obtain ⟨g1, g2, g3, g4, g5, g6⟩ := id hR
  refine ev_of (by decide +kernel) rfl ?_
  show SW X _ _ _ 0 [some (.ref 62), some (.int w)] [] S I L R _
  refine s_aload_n (tb_ok aX2_expect_0 0 rfl) rfl ?_
  refine s_getI (x := (s).tok) (tb_ok aX2_expect_0 1 rfl) f_RX2_47 g1 rfl h.2.2.2.2.1 ?_
  refine s_iload_n (tb_ok aX2_expect_0 2 rfl) rfl ?_
  refine s_icmp_eq (tgt := 12) (tb_ok aX2_expect_0 3 rfl) (by decide) (fun c5 => ?_) (fun c5 => ?_)
  · refine s_aload_n (tb_ok aX2_expect_0 6 rfl) rfl ?_
    refine s_cV (as := []) (tb_ok aX2_expect_0 7 rfl) v_RX2_34 (A_adv hR hn hn2 h) (by omega) g1 rfl rfl rfl rfl (Nat.le_of_ble_eq_true rfl) (by decide) (fun r1 S1 I1 L1 R1 q1 => ?_)
    obtain ⟨rfl, rfl, rfl, rfl, h1⟩ := q1
    have a2 := (adv_wf (t := I0 63) h.2.1).2.1
    refine s_vret (tb_ok aX2_expect_0 8 rfl) rfl ?_
    exact ⟨rfl, rfl, rfl, rfl, h1⟩
  · contradiction

set_option maxRecDepth 100000 in
set_option maxHeartbeats 1000000 in
theorem A_expN {X : En} {S : Sh} {I0 : FI} {L : FL} {R : FR} {r n : Nat} (hR : isRead S R r) (hn : I0 62 1 = nI n) (hn2 : n ≤ 160) {I : FI} {acc : List Int32} {s : St} {w : Int32} (h : OKs r n I0 acc s I) (hb : acc.length ≤ s.pl) (hw : ¬ s.tok = w) : Ev X 7 mX2_expect (0, 0) [.ref 62, .int w] S I L R (AfE r s.pl I0 S L R) := by
  obtain ⟨g1, g2, g3, g4, g5, g6⟩ := id hR
  refine ev_of (by decide +kernel) rfl ?_
  show SW X _ _ _ 0 [some (.ref 62), some (.int w)] [] S I L R _
  refine s_aload_n (tb_ok aX2_expect_0 0 rfl) rfl ?_
  refine s_getI (x := (s).tok) (tb_ok aX2_expect_0 1 rfl) f_RX2_47 g1 rfl h.2.2.2.2.1 ?_
  refine s_iload_n (tb_ok aX2_expect_0 2 rfl) rfl ?_
  refine s_icmp_eq (tgt := 12) (tb_ok aX2_expect_0 3 rfl) (by decide) (fun c5 => ?_) (fun c5 => ?_)
  · contradiction
  · refine s_aload_n (tb_ok aX2_expect_0 4 rfl) rfl ?_
    refine s_cV (as := []) (tb_ok aX2_expect_0 5 rfl) v_RX2_50 (A_fail hR hn2 h (by (try simp only [List.length_append, List.length_cons, List.length_nil] at *); omega)) (by omega) g1 rfl rfl rfl rfl (Nat.le_of_ble_eq_true rfl) (by decide) (fun r1 S1 I1 L1 R1 q1 => ?_)
    obtain ⟨rfl, rfl, rfl, rfl, h3⟩ := q1
    refine s_aload_n (tb_ok aX2_expect_0 6 rfl) rfl ?_
    refine s_cV (as := []) (tb_ok aX2_expect_0 7 rfl) v_RX2_34 (A_advE hR h3) (by omega) g1 rfl rfl rfl rfl (Nat.le_of_ble_eq_true rfl) (by decide) (fun r2 S2 I2 L2 R2 q2 => ?_)
    obtain ⟨rfl, rfl, rfl, rfl, h4⟩ := q2
    refine s_vret (tb_ok aX2_expect_0 8 rfl) rfl ?_
    exact ⟨rfl, rfl, rfl, rfl, h4⟩

set_option maxRecDepth 100000 in
set_option maxHeartbeats 1000000 in
theorem A_expE {X : En} {S : Sh} {I0 : FI} {L : FL} {R : FR} {r : Nat} (hR : isRead S R r) {I : FI} {f : Nat} {w : Int32} (h : ERs r I0 f I) : Ev X 7 mX2_expect (0, 0) [.ref 62, .int w] S I L R (AfE r f I0 S L R) := by
  obtain ⟨g1, g2, g3, g4, g5, g6⟩ := id hR
  refine ev_of (by decide +kernel) rfl ?_
  show SW X _ _ _ 0 [some (.ref 62), some (.int w)] [] S I L R _
  refine s_aload_n (tb_ok aX2_expect_0 0 rfl) rfl ?_
  refine s_getI (tb_ok aX2_expect_0 1 rfl) f_RX2_47 g1 rfl rfl ?_
  refine s_iload_n (tb_ok aX2_expect_0 2 rfl) rfl ?_
  refine s_icmp_eq (tgt := 12) (tb_ok aX2_expect_0 3 rfl) (by decide) (fun c5 => ?_) (fun c5 => ?_)
  · refine s_aload_n (tb_ok aX2_expect_0 6 rfl) rfl ?_
    refine s_cV (as := []) (tb_ok aX2_expect_0 7 rfl) v_RX2_34 (A_advE hR h) (by omega) g1 rfl rfl rfl rfl (Nat.le_of_ble_eq_true rfl) (by decide) (fun r1 S1 I1 L1 R1 q1 => ?_)
    obtain ⟨rfl, rfl, rfl, rfl, h5⟩ := q1
    refine s_vret (tb_ok aX2_expect_0 8 rfl) rfl ?_
    exact ⟨rfl, rfl, rfl, rfl, h5⟩
  · refine s_aload_n (tb_ok aX2_expect_0 4 rfl) rfl ?_
    refine s_cV (as := []) (tb_ok aX2_expect_0 5 rfl) v_RX2_50 (A_failE hR h) (by omega) g1 rfl rfl rfl rfl (Nat.le_of_ble_eq_true rfl) (by decide) (fun r2 S2 I2 L2 R2 q2 => ?_)
    obtain ⟨rfl, rfl, rfl, rfl, h6⟩ := q2
    refine s_aload_n (tb_ok aX2_expect_0 6 rfl) rfl ?_
    refine s_cV (as := []) (tb_ok aX2_expect_0 7 rfl) v_RX2_34 (A_advE hR h6) (by omega) g1 rfl rfl rfl rfl (Nat.le_of_ble_eq_true rfl) (by decide) (fun r3 S3 I3 L3 R3 q3 => ?_)
    obtain ⟨rfl, rfl, rfl, rfl, h7⟩ := q3
    refine s_vret (tb_ok aX2_expect_0 8 rfl) rfl ?_
    exact ⟨rfl, rfl, rfl, rfl, h7⟩

set_option maxRecDepth 100000 in
set_option maxHeartbeats 1000000 in
theorem CE_X2_readCompared {X : En} {S : Sh} {I0 : FI} {L : FL} {R : FR} {r : Nat} (hR : isRead S R r) {d1 d o : Nat} (hd : 6 < d) (hd1 : d1 < d) (hi : CtE X S L R r I0 d1 mX2_readSum o) : CtE X S L R r I0 d mX2_readCompared o := by
  intro I f h
  obtain ⟨g1, g2, g3, g4, g5, g6⟩ := id hR
  refine ev_of (by decide +kernel) rfl ?_
  show SW X _ _ _ 0 [some (.ref 62), some (.int (nI o)), none] [] S I L R _
  refine s_aload_n (tb_ok aX2_readCompared_0 0 rfl) rfl ?_
  refine s_iload_n (tb_ok aX2_readCompared_0 1 rfl) rfl ?_
  refine s_cV (as := [.int (nI o)]) (tb_ok aX2_readCompared_0 2 rfl) v_RX2_68 (hi _ _ h) (by omega) g1 rfl rfl rfl rfl (Nat.le_of_ble_eq_true rfl) (by decide) (fun r1 S1 I1 L1 R1 q1 => ?_)
  obtain ⟨rfl, rfl, rfl, rfl, h8⟩ := q1
  refine s_aload_n (tb_ok aX2_readCompared_0 3 rfl) rfl ?_
  refine s_getI (tb_ok aX2_readCompared_0 4 rfl) f_RX2_47 g1 rfl rfl ?_
  refine s_name (fun x1 ex1 => ?_)
  refine s_istore_n (ls' := [some (.ref 62), some (.int (nI o)), some (.int x1)]) (tb_ok aX2_readCompared_0 5 rfl) rfl rfl ?_
  refine s_iload_n (tb_ok aX2_readCompared_0 6 rfl) rfl ?_
  refine s_bipush (v := 60) (tb_ok aX2_readCompared_0 7 rfl) (by decide) ?_
  refine s_icmp_eq (tgt := 22) (tb_ok aX2_readCompared_0 8 rfl) (by decide) (fun c13 => ?_) (fun c13 => ?_)
  · refine s_aload_n (tb_ok aX2_readCompared_0 12 rfl) rfl ?_
    refine s_cV (as := []) (tb_ok aX2_readCompared_0 13 rfl) v_RX2_34 (A_advE hR h8) (by omega) g1 rfl rfl rfl rfl (Nat.le_of_ble_eq_true rfl) (by decide) (fun r2 S2 I2 L2 R2 q2 => ?_)
    obtain ⟨rfl, rfl, rfl, rfl, h9⟩ := q2
    refine s_aload_n (tb_ok aX2_readCompared_0 14 rfl) rfl ?_
    refine s_iload_n (tb_ok aX2_readCompared_0 15 rfl) rfl ?_
    refine s_cV (as := [.int (nI o)]) (tb_ok aX2_readCompared_0 16 rfl) v_RX2_68 (hi _ _ h9) (by omega) g1 rfl rfl rfl rfl (Nat.le_of_ble_eq_true rfl) (by decide) (fun r3 S3 I3 L3 R3 q3 => ?_)
    obtain ⟨rfl, rfl, rfl, rfl, h10⟩ := q3
    refine s_aload_n (tb_ok aX2_readCompared_0 17 rfl) rfl ?_
    refine s_getR (r := r) (tb_ok aX2_readCompared_0 18 rfl) f_RX2_22 g1 rfl g4 ?_
    refine s_iload_n (tb_ok aX2_readCompared_0 19 rfl) rfl ?_
    refine s_bipush (v := 60) (tb_ok aX2_readCompared_0 20 rfl) (by decide) ?_
    refine s_icmp_ne (tgt := 47) (tb_ok aX2_readCompared_0 21 rfl) (by decide) (fun c38 => ?_) (fun c38 => ?_)
    · refine s_sipush (v := 30004) (tb_ok aX2_readCompared_1 0 rfl) (by decide) ?_
      refine s_cV (as := [.int (30004)]) (tb_ok aX2_readCompared_1 1 rfl) v_RX2_59 (A_addE (30004) hR h10) (by omega) g5.1 rfl rfl rfl rfl (Nat.le_of_ble_eq_true rfl) (by decide) (fun r4 S4 I4 L4 R4 q4 => ?_)
      obtain ⟨rfl, rfl, rfl, rfl, h11⟩ := q4
      refine s_vret (tb_ok aX2_readCompared_1 2 rfl) rfl ?_
      exact ⟨rfl, rfl, rfl, rfl, h11⟩
    · refine s_sipush (v := 30003) (tb_ok aX2_readCompared_0 22 rfl) (by decide) ?_
      refine s_goto (tgt := 50) (tb_ok aX2_readCompared_0 23 rfl) (by decide) ?_
      refine s_cV (as := [.int (30003)]) (tb_ok aX2_readCompared_1 1 rfl) v_RX2_59 (A_addE (30003) hR h10) (by omega) g5.1 rfl rfl rfl rfl (Nat.le_of_ble_eq_true rfl) (by decide) (fun r5 S5 I5 L5 R5 q5 => ?_)
      obtain ⟨rfl, rfl, rfl, rfl, h12⟩ := q5
      refine s_vret (tb_ok aX2_readCompared_1 2 rfl) rfl ?_
      exact ⟨rfl, rfl, rfl, rfl, h12⟩
  · refine s_iload_n (tb_ok aX2_readCompared_0 9 rfl) rfl ?_
    refine s_bipush (v := 61) (tb_ok aX2_readCompared_0 10 rfl) (by decide) ?_
    refine s_icmp_ne (tgt := 53) (tb_ok aX2_readCompared_0 11 rfl) (by decide) (fun c19 => ?_) (fun c19 => ?_)
    · refine s_vret (tb_ok aX2_readCompared_1 2 rfl) rfl ?_
      exact ⟨rfl, rfl, rfl, rfl, h8⟩
    · refine s_aload_n (tb_ok aX2_readCompared_0 12 rfl) rfl ?_
      refine s_cV (as := []) (tb_ok aX2_readCompared_0 13 rfl) v_RX2_34 (A_advE hR h8) (by omega) g1 rfl rfl rfl rfl (Nat.le_of_ble_eq_true rfl) (by decide) (fun r6 S6 I6 L6 R6 q6 => ?_)
      obtain ⟨rfl, rfl, rfl, rfl, h13⟩ := q6
      refine s_aload_n (tb_ok aX2_readCompared_0 14 rfl) rfl ?_
      refine s_iload_n (tb_ok aX2_readCompared_0 15 rfl) rfl ?_
      refine s_cV (as := [.int (nI o)]) (tb_ok aX2_readCompared_0 16 rfl) v_RX2_68 (hi _ _ h13) (by omega) g1 rfl rfl rfl rfl (Nat.le_of_ble_eq_true rfl) (by decide) (fun r7 S7 I7 L7 R7 q7 => ?_)
      obtain ⟨rfl, rfl, rfl, rfl, h14⟩ := q7
      refine s_aload_n (tb_ok aX2_readCompared_0 17 rfl) rfl ?_
      refine s_getR (r := r) (tb_ok aX2_readCompared_0 18 rfl) f_RX2_22 g1 rfl g4 ?_
      refine s_iload_n (tb_ok aX2_readCompared_0 19 rfl) rfl ?_
      refine s_bipush (v := 60) (tb_ok aX2_readCompared_0 20 rfl) (by decide) ?_
      refine s_icmp_ne (tgt := 47) (tb_ok aX2_readCompared_0 21 rfl) (by decide) (fun c38 => ?_) (fun c38 => ?_)
      · refine s_sipush (v := 30004) (tb_ok aX2_readCompared_1 0 rfl) (by decide) ?_
        refine s_cV (as := [.int (30004)]) (tb_ok aX2_readCompared_1 1 rfl) v_RX2_59 (A_addE (30004) hR h14) (by omega) g5.1 rfl rfl rfl rfl (Nat.le_of_ble_eq_true rfl) (by decide) (fun r8 S8 I8 L8 R8 q8 => ?_)
        obtain ⟨rfl, rfl, rfl, rfl, h15⟩ := q8
        refine s_vret (tb_ok aX2_readCompared_1 2 rfl) rfl ?_
        exact ⟨rfl, rfl, rfl, rfl, h15⟩
      · refine s_sipush (v := 30003) (tb_ok aX2_readCompared_0 22 rfl) (by decide) ?_
        refine s_goto (tgt := 50) (tb_ok aX2_readCompared_0 23 rfl) (by decide) ?_
        refine s_cV (as := [.int (30003)]) (tb_ok aX2_readCompared_1 1 rfl) v_RX2_59 (A_addE (30003) hR h14) (by omega) g5.1 rfl rfl rfl rfl (Nat.le_of_ble_eq_true rfl) (by decide) (fun r9 S9 I9 L9 R9 q9 => ?_)
        obtain ⟨rfl, rfl, rfl, rfl, h16⟩ := q9
        refine s_vret (tb_ok aX2_readCompared_1 2 rfl) rfl ?_
        exact ⟨rfl, rfl, rfl, rfl, h16⟩

set_option maxRecDepth 100000 in
set_option maxHeartbeats 1000000 in
theorem CO_X2_readCompared {X : En} {S : Sh} {I0 : FI} {L : FL} {R : FR} {r n : Nat} (hR : isRead S R r) (hn : I0 62 1 = nI n) (hn2 : n ≤ 160) {d1 d o : Nat} (hd : 6 < d) (hd1 : d1 < d) {P : Pa} (hi : CtO X S L R r n I0 d1 mX2_readSum o P) (hiE : CtE X S L R r I0 d1 mX2_readSum o) : CtO X S L R r n I0 d mX2_readCompared o (cmpP (I0 63) n P) := by
  intro I acc s h hb
  obtain ⟨g1, g2, g3, g4, g5, g6⟩ := id hR
  refine ev_of (by decide +kernel) rfl ?_
  show SW X _ _ _ 0 [some (.ref 62), some (.int (nI o)), none] [] S I L R _
  refine s_aload_n (tb_ok aX2_readCompared_0 0 rfl) rfl ?_
  refine s_iload_n (tb_ok aX2_readCompared_0 1 rfl) rfl ?_
  refine s_cV (as := [.int (nI o)]) (tb_ok aX2_readCompared_0 2 rfl) v_RX2_68 (hi _ _ _ h (by (try simp only [List.length_append, List.length_cons, List.length_nil] at *); omega)) (by omega) g1 rfl rfl rfl rfl (Nat.le_of_ble_eq_true rfl) (by decide) (fun r1 S1 I1 L1 R1 q1 => ?_)
  obtain ⟨rfl, rfl, rfl, rfl, h17⟩ := q1
  cases e17_ : P s with
  | inr f17_ =>
    rw [e17_] at h17
    have h17 : ERs r I0 f17_ _ := h17
    have hsq : (cmpP (I0 63) n P) s = .inr f17_ := by unfold cmpP; rw [e17_]
    refine s_aload_n (tb_ok aX2_readCompared_0 3 rfl) rfl ?_
    refine s_getI (tb_ok aX2_readCompared_0 4 rfl) f_RX2_47 g1 rfl rfl ?_
    refine s_name (fun x1 ex1 => ?_)
    refine s_istore_n (ls' := [some (.ref 62), some (.int (nI o)), some (.int x1)]) (tb_ok aX2_readCompared_0 5 rfl) rfl rfl ?_
    refine s_iload_n (tb_ok aX2_readCompared_0 6 rfl) rfl ?_
    refine s_bipush (v := 60) (tb_ok aX2_readCompared_0 7 rfl) (by decide) ?_
    refine s_icmp_eq (tgt := 22) (tb_ok aX2_readCompared_0 8 rfl) (by decide) (fun c13 => ?_) (fun c13 => ?_)
    · refine s_aload_n (tb_ok aX2_readCompared_0 12 rfl) rfl ?_
      refine s_cV (as := []) (tb_ok aX2_readCompared_0 13 rfl) v_RX2_34 (A_advE hR h17) (by omega) g1 rfl rfl rfl rfl (Nat.le_of_ble_eq_true rfl) (by decide) (fun r2 S2 I2 L2 R2 q2 => ?_)
      obtain ⟨rfl, rfl, rfl, rfl, h18⟩ := q2
      refine s_aload_n (tb_ok aX2_readCompared_0 14 rfl) rfl ?_
      refine s_iload_n (tb_ok aX2_readCompared_0 15 rfl) rfl ?_
      refine s_cV (as := [.int (nI o)]) (tb_ok aX2_readCompared_0 16 rfl) v_RX2_68 (hiE _ _ h18) (by omega) g1 rfl rfl rfl rfl (Nat.le_of_ble_eq_true rfl) (by decide) (fun r3 S3 I3 L3 R3 q3 => ?_)
      obtain ⟨rfl, rfl, rfl, rfl, h19⟩ := q3
      refine s_aload_n (tb_ok aX2_readCompared_0 17 rfl) rfl ?_
      refine s_getR (r := r) (tb_ok aX2_readCompared_0 18 rfl) f_RX2_22 g1 rfl g4 ?_
      refine s_iload_n (tb_ok aX2_readCompared_0 19 rfl) rfl ?_
      refine s_bipush (v := 60) (tb_ok aX2_readCompared_0 20 rfl) (by decide) ?_
      refine s_icmp_ne (tgt := 47) (tb_ok aX2_readCompared_0 21 rfl) (by decide) (fun c38 => ?_) (fun c38 => ?_)
      · refine s_sipush (v := 30004) (tb_ok aX2_readCompared_1 0 rfl) (by decide) ?_
        refine s_cV (as := [.int (30004)]) (tb_ok aX2_readCompared_1 1 rfl) v_RX2_59 (A_addE (30004) hR h19) (by omega) g5.1 rfl rfl rfl rfl (Nat.le_of_ble_eq_true rfl) (by decide) (fun r4 S4 I4 L4 R4 q4 => ?_)
        obtain ⟨rfl, rfl, rfl, rfl, h20⟩ := q4
        refine s_vret (tb_ok aX2_readCompared_1 2 rfl) rfl ?_
        refine ⟨rfl, rfl, rfl, rfl, ?_⟩
        rw [hsq]
        exact h20
      · refine s_sipush (v := 30003) (tb_ok aX2_readCompared_0 22 rfl) (by decide) ?_
        refine s_goto (tgt := 50) (tb_ok aX2_readCompared_0 23 rfl) (by decide) ?_
        refine s_cV (as := [.int (30003)]) (tb_ok aX2_readCompared_1 1 rfl) v_RX2_59 (A_addE (30003) hR h19) (by omega) g5.1 rfl rfl rfl rfl (Nat.le_of_ble_eq_true rfl) (by decide) (fun r5 S5 I5 L5 R5 q5 => ?_)
        obtain ⟨rfl, rfl, rfl, rfl, h21⟩ := q5
        refine s_vret (tb_ok aX2_readCompared_1 2 rfl) rfl ?_
        refine ⟨rfl, rfl, rfl, rfl, ?_⟩
        rw [hsq]
        exact h21
    · refine s_iload_n (tb_ok aX2_readCompared_0 9 rfl) rfl ?_
      refine s_bipush (v := 61) (tb_ok aX2_readCompared_0 10 rfl) (by decide) ?_
      refine s_icmp_ne (tgt := 53) (tb_ok aX2_readCompared_0 11 rfl) (by decide) (fun c19 => ?_) (fun c19 => ?_)
      · refine s_vret (tb_ok aX2_readCompared_1 2 rfl) rfl ?_
        refine ⟨rfl, rfl, rfl, rfl, ?_⟩
        rw [hsq]
        exact h17
      · refine s_aload_n (tb_ok aX2_readCompared_0 12 rfl) rfl ?_
        refine s_cV (as := []) (tb_ok aX2_readCompared_0 13 rfl) v_RX2_34 (A_advE hR h17) (by omega) g1 rfl rfl rfl rfl (Nat.le_of_ble_eq_true rfl) (by decide) (fun r6 S6 I6 L6 R6 q6 => ?_)
        obtain ⟨rfl, rfl, rfl, rfl, h22⟩ := q6
        refine s_aload_n (tb_ok aX2_readCompared_0 14 rfl) rfl ?_
        refine s_iload_n (tb_ok aX2_readCompared_0 15 rfl) rfl ?_
        refine s_cV (as := [.int (nI o)]) (tb_ok aX2_readCompared_0 16 rfl) v_RX2_68 (hiE _ _ h22) (by omega) g1 rfl rfl rfl rfl (Nat.le_of_ble_eq_true rfl) (by decide) (fun r7 S7 I7 L7 R7 q7 => ?_)
        obtain ⟨rfl, rfl, rfl, rfl, h23⟩ := q7
        refine s_aload_n (tb_ok aX2_readCompared_0 17 rfl) rfl ?_
        refine s_getR (r := r) (tb_ok aX2_readCompared_0 18 rfl) f_RX2_22 g1 rfl g4 ?_
        refine s_iload_n (tb_ok aX2_readCompared_0 19 rfl) rfl ?_
        refine s_bipush (v := 60) (tb_ok aX2_readCompared_0 20 rfl) (by decide) ?_
        refine s_icmp_ne (tgt := 47) (tb_ok aX2_readCompared_0 21 rfl) (by decide) (fun c38 => ?_) (fun c38 => ?_)
        · refine s_sipush (v := 30004) (tb_ok aX2_readCompared_1 0 rfl) (by decide) ?_
          refine s_cV (as := [.int (30004)]) (tb_ok aX2_readCompared_1 1 rfl) v_RX2_59 (A_addE (30004) hR h23) (by omega) g5.1 rfl rfl rfl rfl (Nat.le_of_ble_eq_true rfl) (by decide) (fun r8 S8 I8 L8 R8 q8 => ?_)
          obtain ⟨rfl, rfl, rfl, rfl, h24⟩ := q8
          refine s_vret (tb_ok aX2_readCompared_1 2 rfl) rfl ?_
          refine ⟨rfl, rfl, rfl, rfl, ?_⟩
          rw [hsq]
          exact h24
        · refine s_sipush (v := 30003) (tb_ok aX2_readCompared_0 22 rfl) (by decide) ?_
          refine s_goto (tgt := 50) (tb_ok aX2_readCompared_0 23 rfl) (by decide) ?_
          refine s_cV (as := [.int (30003)]) (tb_ok aX2_readCompared_1 1 rfl) v_RX2_59 (A_addE (30003) hR h23) (by omega) g5.1 rfl rfl rfl rfl (Nat.le_of_ble_eq_true rfl) (by decide) (fun r9 S9 I9 L9 R9 q9 => ?_)
          obtain ⟨rfl, rfl, rfl, rfl, h25⟩ := q9
          refine s_vret (tb_ok aX2_readCompared_1 2 rfl) rfl ?_
          refine ⟨rfl, rfl, rfl, rfl, ?_⟩
          rw [hsq]
          exact h25
  | inl qq =>
    obtain ⟨c17_, v17_, s17_⟩ := qq
    rw [e17_] at h17
    obtain ⟨h17, b17_⟩ := h17
    have h17 : OKs r n I0 (acc ++ c17_) s17_ _ := h17
    have b17_ : (s).pl + c17_.length ≤ (s17_).pl := b17_
    refine s_aload_n (tb_ok aX2_readCompared_0 3 rfl) rfl ?_
    refine s_getI (x := (s17_).tok) (tb_ok aX2_readCompared_0 4 rfl) f_RX2_47 g1 rfl h17.2.2.2.2.1 ?_
    refine s_name (fun x2 ex2 => ?_)
    refine s_istore_n (ls' := [some (.ref 62), some (.int (nI o)), some (.int x2)]) (tb_ok aX2_readCompared_0 5 rfl) rfl rfl ?_
    refine s_iload_n (tb_ok aX2_readCompared_0 6 rfl) rfl ?_
    refine s_bipush (v := 60) (tb_ok aX2_readCompared_0 7 rfl) (by decide) ?_
    refine s_icmp_eq (tgt := 22) (tb_ok aX2_readCompared_0 8 rfl) (by decide) (fun c13 => ?_) (fun c13 => ?_)
    · have hop : s17_.tok = 60 ∨ s17_.tok = 61 := by rw [← ex2]; first | exact Or.inl c13 | exact Or.inr c19
      refine s_aload_n (tb_ok aX2_readCompared_0 12 rfl) rfl ?_
      refine s_cV (as := []) (tb_ok aX2_readCompared_0 13 rfl) v_RX2_34 (A_adv hR hn hn2 h17) (by omega) g1 rfl rfl rfl rfl (Nat.le_of_ble_eq_true rfl) (by decide) (fun r10 S10 I10 L10 R10 q10 => ?_)
      obtain ⟨rfl, rfl, rfl, rfl, h26⟩ := q10
      have a27 := (adv_wf (t := I0 63) h17.2.1).2.2 (by rcases hop with h_ | h_ <;> rw [h_] <;> decide)
      refine s_aload_n (tb_ok aX2_readCompared_0 14 rfl) rfl ?_
      refine s_iload_n (tb_ok aX2_readCompared_0 15 rfl) rfl ?_
      refine s_cV (as := [.int (nI o)]) (tb_ok aX2_readCompared_0 16 rfl) v_RX2_68 (hi _ _ _ h26 (by (try simp only [List.length_append, List.length_cons, List.length_nil] at *); omega)) (by omega) g1 rfl rfl rfl rfl (Nat.le_of_ble_eq_true rfl) (by decide) (fun r11 S11 I11 L11 R11 q11 => ?_)
      obtain ⟨rfl, rfl, rfl, rfl, h28⟩ := q11
      cases e28_ : P (adv (I0 63) n s17_) with
      | inr f28_ =>
        rw [e28_] at h28
        have h28 : ERs r I0 f28_ _ := h28
        have hsq : (cmpP (I0 63) n P) s = .inr f28_ := by
          unfold cmpP
          rw [e17_]
          show (if s17_.tok = 60 ∨ s17_.tok = 61 then _ else _) = _
          rw [if_pos hop, e28_]
        refine s_aload_n (tb_ok aX2_readCompared_0 17 rfl) rfl ?_
        refine s_getR (r := r) (tb_ok aX2_readCompared_0 18 rfl) f_RX2_22 g1 rfl g4 ?_
        refine s_iload_n (tb_ok aX2_readCompared_0 19 rfl) rfl ?_
        refine s_bipush (v := 60) (tb_ok aX2_readCompared_0 20 rfl) (by decide) ?_
        refine s_icmp_ne (tgt := 47) (tb_ok aX2_readCompared_0 21 rfl) (by decide) (fun c38 => ?_) (fun c38 => ?_)
        · refine s_sipush (v := 30004) (tb_ok aX2_readCompared_1 0 rfl) (by decide) ?_
          refine s_cV (as := [.int (30004)]) (tb_ok aX2_readCompared_1 1 rfl) v_RX2_59 (A_addE (30004) hR h28) (by omega) g5.1 rfl rfl rfl rfl (Nat.le_of_ble_eq_true rfl) (by decide) (fun r12 S12 I12 L12 R12 q12 => ?_)
          obtain ⟨rfl, rfl, rfl, rfl, h29⟩ := q12
          refine s_vret (tb_ok aX2_readCompared_1 2 rfl) rfl ?_
          refine ⟨rfl, rfl, rfl, rfl, ?_⟩
          rw [hsq]
          exact h29
        · refine s_sipush (v := 30003) (tb_ok aX2_readCompared_0 22 rfl) (by decide) ?_
          refine s_goto (tgt := 50) (tb_ok aX2_readCompared_0 23 rfl) (by decide) ?_
          refine s_cV (as := [.int (30003)]) (tb_ok aX2_readCompared_1 1 rfl) v_RX2_59 (A_addE (30003) hR h28) (by omega) g5.1 rfl rfl rfl rfl (Nat.le_of_ble_eq_true rfl) (by decide) (fun r13 S13 I13 L13 R13 q13 => ?_)
          obtain ⟨rfl, rfl, rfl, rfl, h30⟩ := q13
          refine s_vret (tb_ok aX2_readCompared_1 2 rfl) rfl ?_
          refine ⟨rfl, rfl, rfl, rfl, ?_⟩
          rw [hsq]
          exact h30
      | inl qq =>
        obtain ⟨c28_, v28_, s28_⟩ := qq
        rw [e28_] at h28
        obtain ⟨h28, b28_⟩ := h28
        have h28 : OKs r n I0 ((acc ++ c17_) ++ c28_) s28_ _ := h28
        have b28_ : ((adv (I0 63) n s17_)).pl + c28_.length ≤ (s28_).pl := b28_
        have hsq : (cmpP (I0 63) n P) s = .inl (c17_ ++ c28_ ++ [cdC s17_.tok], (fun nm => of2 (cdC s17_.tok) (v17_ nm) (v28_ nm)), s28_) := by
          unfold cmpP
          rw [e17_]
          show (if s17_.tok = 60 ∨ s17_.tok = 61 then _ else _) = _
          rw [if_pos hop, e28_]
        refine s_aload_n (tb_ok aX2_readCompared_0 17 rfl) rfl ?_
        refine s_getR (r := r) (tb_ok aX2_readCompared_0 18 rfl) f_RX2_22 g1 rfl g4 ?_
        refine s_iload_n (tb_ok aX2_readCompared_0 19 rfl) rfl ?_
        refine s_bipush (v := 60) (tb_ok aX2_readCompared_0 20 rfl) (by decide) ?_
        refine s_icmp_ne (tgt := 47) (tb_ok aX2_readCompared_0 21 rfl) (by decide) (fun c38 => ?_) (fun c38 => ?_)
        · refine s_sipush (v := 30004) (tb_ok aX2_readCompared_1 0 rfl) (by decide) ?_
          refine s_topi (z := cdC s17_.tok) (by unfold cdC; rw [← ex2]; exact (if_neg c38).symm) ?_
          refine s_cV (as := [.int (cdC s17_.tok)]) (tb_ok aX2_readCompared_1 1 rfl) v_RX2_59 (A_add (cdC s17_.tok) hR h28 (by have hp_ := h28.2.1.pl; have hq_ := h28.2.1.2.1; (try simp only [List.length_append, List.length_cons, List.length_nil] at *); omega)) (by omega) g5.1 rfl rfl rfl rfl (Nat.le_of_ble_eq_true rfl) (by decide) (fun r14 S14 I14 L14 R14 q14 => ?_)
          obtain ⟨rfl, rfl, rfl, rfl, h31⟩ := q14
          refine s_vret (tb_ok aX2_readCompared_1 2 rfl) rfl ?_
          refine ⟨rfl, rfl, rfl, rfl, ?_⟩
          rw [hsq]
          have h32 := h31
          rw [List.append_assoc acc, List.append_assoc acc] at h32
          exact ⟨h32, (by (try simp only [List.length_append, List.length_cons, List.length_nil] at *); omega)⟩
        · refine s_sipush (v := 30003) (tb_ok aX2_readCompared_0 22 rfl) (by decide) ?_
          refine s_topi (z := cdC s17_.tok) (by unfold cdC; rw [← ex2]; exact (if_pos c38).symm) ?_
          refine s_goto (tgt := 50) (tb_ok aX2_readCompared_0 23 rfl) (by decide) ?_
          refine s_cV (as := [.int (cdC s17_.tok)]) (tb_ok aX2_readCompared_1 1 rfl) v_RX2_59 (A_add (cdC s17_.tok) hR h28 (by have hp_ := h28.2.1.pl; have hq_ := h28.2.1.2.1; (try simp only [List.length_append, List.length_cons, List.length_nil] at *); omega)) (by omega) g5.1 rfl rfl rfl rfl (Nat.le_of_ble_eq_true rfl) (by decide) (fun r15 S15 I15 L15 R15 q15 => ?_)
          obtain ⟨rfl, rfl, rfl, rfl, h33⟩ := q15
          refine s_vret (tb_ok aX2_readCompared_1 2 rfl) rfl ?_
          refine ⟨rfl, rfl, rfl, rfl, ?_⟩
          rw [hsq]
          have h34 := h33
          rw [List.append_assoc acc, List.append_assoc acc] at h34
          exact ⟨h34, (by (try simp only [List.length_append, List.length_cons, List.length_nil] at *); omega)⟩
    · refine s_iload_n (tb_ok aX2_readCompared_0 9 rfl) rfl ?_
      refine s_bipush (v := 61) (tb_ok aX2_readCompared_0 10 rfl) (by decide) ?_
      refine s_icmp_ne (tgt := 53) (tb_ok aX2_readCompared_0 11 rfl) (by decide) (fun c19 => ?_) (fun c19 => ?_)
      · refine s_vret (tb_ok aX2_readCompared_1 2 rfl) rfl ?_
        have hsq : (cmpP (I0 63) n P) s = .inl (c17_, v17_, s17_) := by
          unfold cmpP
          rw [e17_]
          show (if s17_.tok = 60 ∨ s17_.tok = 61 then _ else _) = _
          rw [← ex2, if_neg (fun h_ => h_.elim c13 c19)]
        refine ⟨rfl, rfl, rfl, rfl, ?_⟩
        rw [hsq]
        have h35 := h17
        exact ⟨h35, (by (try simp only [List.length_append, List.length_cons, List.length_nil] at *); omega)⟩
      · have hop : s17_.tok = 60 ∨ s17_.tok = 61 := by rw [← ex2]; first | exact Or.inl c13 | exact Or.inr c19
        refine s_aload_n (tb_ok aX2_readCompared_0 12 rfl) rfl ?_
        refine s_cV (as := []) (tb_ok aX2_readCompared_0 13 rfl) v_RX2_34 (A_adv hR hn hn2 h17) (by omega) g1 rfl rfl rfl rfl (Nat.le_of_ble_eq_true rfl) (by decide) (fun r16 S16 I16 L16 R16 q16 => ?_)
        obtain ⟨rfl, rfl, rfl, rfl, h36⟩ := q16
        have a37 := (adv_wf (t := I0 63) h17.2.1).2.2 (by rcases hop with h_ | h_ <;> rw [h_] <;> decide)
        refine s_aload_n (tb_ok aX2_readCompared_0 14 rfl) rfl ?_
        refine s_iload_n (tb_ok aX2_readCompared_0 15 rfl) rfl ?_
        refine s_cV (as := [.int (nI o)]) (tb_ok aX2_readCompared_0 16 rfl) v_RX2_68 (hi _ _ _ h36 (by (try simp only [List.length_append, List.length_cons, List.length_nil] at *); omega)) (by omega) g1 rfl rfl rfl rfl (Nat.le_of_ble_eq_true rfl) (by decide) (fun r17 S17 I17 L17 R17 q17 => ?_)
        obtain ⟨rfl, rfl, rfl, rfl, h38⟩ := q17
        cases e38_ : P (adv (I0 63) n s17_) with
        | inr f38_ =>
          rw [e38_] at h38
          have h38 : ERs r I0 f38_ _ := h38
          have hsq : (cmpP (I0 63) n P) s = .inr f38_ := by
            unfold cmpP
            rw [e17_]
            show (if s17_.tok = 60 ∨ s17_.tok = 61 then _ else _) = _
            rw [if_pos hop, e38_]
          refine s_aload_n (tb_ok aX2_readCompared_0 17 rfl) rfl ?_
          refine s_getR (r := r) (tb_ok aX2_readCompared_0 18 rfl) f_RX2_22 g1 rfl g4 ?_
          refine s_iload_n (tb_ok aX2_readCompared_0 19 rfl) rfl ?_
          refine s_bipush (v := 60) (tb_ok aX2_readCompared_0 20 rfl) (by decide) ?_
          refine s_icmp_ne (tgt := 47) (tb_ok aX2_readCompared_0 21 rfl) (by decide) (fun c38 => ?_) (fun c38 => ?_)
          · refine s_sipush (v := 30004) (tb_ok aX2_readCompared_1 0 rfl) (by decide) ?_
            refine s_cV (as := [.int (30004)]) (tb_ok aX2_readCompared_1 1 rfl) v_RX2_59 (A_addE (30004) hR h38) (by omega) g5.1 rfl rfl rfl rfl (Nat.le_of_ble_eq_true rfl) (by decide) (fun r18 S18 I18 L18 R18 q18 => ?_)
            obtain ⟨rfl, rfl, rfl, rfl, h39⟩ := q18
            refine s_vret (tb_ok aX2_readCompared_1 2 rfl) rfl ?_
            refine ⟨rfl, rfl, rfl, rfl, ?_⟩
            rw [hsq]
            exact h39
          · refine s_sipush (v := 30003) (tb_ok aX2_readCompared_0 22 rfl) (by decide) ?_
            refine s_goto (tgt := 50) (tb_ok aX2_readCompared_0 23 rfl) (by decide) ?_
            refine s_cV (as := [.int (30003)]) (tb_ok aX2_readCompared_1 1 rfl) v_RX2_59 (A_addE (30003) hR h38) (by omega) g5.1 rfl rfl rfl rfl (Nat.le_of_ble_eq_true rfl) (by decide) (fun r19 S19 I19 L19 R19 q19 => ?_)
            obtain ⟨rfl, rfl, rfl, rfl, h40⟩ := q19
            refine s_vret (tb_ok aX2_readCompared_1 2 rfl) rfl ?_
            refine ⟨rfl, rfl, rfl, rfl, ?_⟩
            rw [hsq]
            exact h40
        | inl qq =>
          obtain ⟨c38_, v38_, s38_⟩ := qq
          rw [e38_] at h38
          obtain ⟨h38, b38_⟩ := h38
          have h38 : OKs r n I0 ((acc ++ c17_) ++ c38_) s38_ _ := h38
          have b38_ : ((adv (I0 63) n s17_)).pl + c38_.length ≤ (s38_).pl := b38_
          have hsq : (cmpP (I0 63) n P) s = .inl (c17_ ++ c38_ ++ [cdC s17_.tok], (fun nm => of2 (cdC s17_.tok) (v17_ nm) (v38_ nm)), s38_) := by
            unfold cmpP
            rw [e17_]
            show (if s17_.tok = 60 ∨ s17_.tok = 61 then _ else _) = _
            rw [if_pos hop, e38_]
          refine s_aload_n (tb_ok aX2_readCompared_0 17 rfl) rfl ?_
          refine s_getR (r := r) (tb_ok aX2_readCompared_0 18 rfl) f_RX2_22 g1 rfl g4 ?_
          refine s_iload_n (tb_ok aX2_readCompared_0 19 rfl) rfl ?_
          refine s_bipush (v := 60) (tb_ok aX2_readCompared_0 20 rfl) (by decide) ?_
          refine s_icmp_ne (tgt := 47) (tb_ok aX2_readCompared_0 21 rfl) (by decide) (fun c38 => ?_) (fun c38 => ?_)
          · refine s_sipush (v := 30004) (tb_ok aX2_readCompared_1 0 rfl) (by decide) ?_
            refine s_topi (z := cdC s17_.tok) (by unfold cdC; rw [← ex2]; exact (if_neg c38).symm) ?_
            refine s_cV (as := [.int (cdC s17_.tok)]) (tb_ok aX2_readCompared_1 1 rfl) v_RX2_59 (A_add (cdC s17_.tok) hR h38 (by have hp_ := h38.2.1.pl; have hq_ := h38.2.1.2.1; (try simp only [List.length_append, List.length_cons, List.length_nil] at *); omega)) (by omega) g5.1 rfl rfl rfl rfl (Nat.le_of_ble_eq_true rfl) (by decide) (fun r20 S20 I20 L20 R20 q20 => ?_)
            obtain ⟨rfl, rfl, rfl, rfl, h41⟩ := q20
            refine s_vret (tb_ok aX2_readCompared_1 2 rfl) rfl ?_
            refine ⟨rfl, rfl, rfl, rfl, ?_⟩
            rw [hsq]
            have h42 := h41
            rw [List.append_assoc acc, List.append_assoc acc] at h42
            exact ⟨h42, (by (try simp only [List.length_append, List.length_cons, List.length_nil] at *); omega)⟩
          · refine s_sipush (v := 30003) (tb_ok aX2_readCompared_0 22 rfl) (by decide) ?_
            refine s_topi (z := cdC s17_.tok) (by unfold cdC; rw [← ex2]; exact (if_pos c38).symm) ?_
            refine s_goto (tgt := 50) (tb_ok aX2_readCompared_0 23 rfl) (by decide) ?_
            refine s_cV (as := [.int (cdC s17_.tok)]) (tb_ok aX2_readCompared_1 1 rfl) v_RX2_59 (A_add (cdC s17_.tok) hR h38 (by have hp_ := h38.2.1.pl; have hq_ := h38.2.1.2.1; (try simp only [List.length_append, List.length_cons, List.length_nil] at *); omega)) (by omega) g5.1 rfl rfl rfl rfl (Nat.le_of_ble_eq_true rfl) (by decide) (fun r21 S21 I21 L21 R21 q21 => ?_)
            obtain ⟨rfl, rfl, rfl, rfl, h43⟩ := q21
            refine s_vret (tb_ok aX2_readCompared_1 2 rfl) rfl ?_
            refine ⟨rfl, rfl, rfl, rfl, ?_⟩
            rw [hsq]
            have h44 := h43
            rw [List.append_assoc acc, List.append_assoc acc] at h44
            exact ⟨h44, (by (try simp only [List.length_append, List.length_cons, List.length_nil] at *); omega)⟩

set_option maxRecDepth 100000 in
set_option maxHeartbeats 1000000 in
theorem CE_X2_readNot0 {X : En} {S : Sh} {I0 : FI} {L : FL} {R : FR} {r : Nat} (hR : isRead S R r) {d1 d2 d o : Nat} (hd : 6 < d) (hd1 : d1 < d) (hd2 : d2 < d) (ho : 5 ≤ o) (ho2 : o ≤ 100) (hc : CtE X S L R r I0 d1 mX2_readCompared o) : CtE X S L R r I0 d mX2_readNot o := by
  intro I f h
  obtain ⟨g1, g2, g3, g4, g5, g6⟩ := id hR
  refine ev_of (by decide +kernel) rfl ?_
  show SW X _ _ _ 0 [some (.ref 62), some (.int (nI o))] [] S I L R _
  refine s_aload_n (tb_ok aX2_readNot_0 0 rfl) rfl ?_
  refine s_getI (tb_ok aX2_readNot_0 1 rfl) f_RX2_47 g1 rfl rfl ?_
  refine s_bipush (v := 9) (tb_ok aX2_readNot_0 2 rfl) (by decide) ?_
  refine s_icmp_eq (tgt := 17) (tb_ok aX2_readNot_0 3 rfl) (by decide) (fun c6 => ?_) (fun c6 => ?_)
  · refine s_iload_n (tb_ok aX2_readNot_0 8 rfl) rfl ?_
    refine s_iconst (v := nI 5) (tb_ok aX2_readNot_0 9 rfl) (by decide) ?_
    refine s_icmp_lt (tgt := 29) (tb_ok aX2_readNot_0 10 rfl) (by decide) (fun c19 => ?_) (fun c19 => ?_)
    · simp (disch := omega) only [nI_ltI] at c19
      omega
    · refine s_aload_n (tb_ok aX2_readNot_0 11 rfl) rfl ?_
      refine s_cV (as := []) (tb_ok aX2_readNot_0 12 rfl) v_RX2_50 (A_failE hR h) (by omega) g1 rfl rfl rfl rfl (Nat.le_of_ble_eq_true rfl) (by decide) (fun r1 S1 I1 L1 R1 q1 => ?_)
      obtain ⟨rfl, rfl, rfl, rfl, h1⟩ := q1
      refine s_goto (tgt := 50) (tb_ok aX2_readNot_0 13 rfl) (by decide) ?_
      refine s_vret (tb_ok aX2_readNot_1 1 rfl) rfl ?_
      exact ⟨rfl, rfl, rfl, rfl, h1⟩
  · refine s_aload_n (tb_ok aX2_readNot_0 4 rfl) rfl ?_
    refine s_iload_n (tb_ok aX2_readNot_0 5 rfl) rfl ?_
    refine s_cV (as := [.int (nI o)]) (tb_ok aX2_readNot_0 6 rfl) v_RX2_65 (hc _ _ h) (by omega) g1 rfl rfl rfl rfl (Nat.le_of_ble_eq_true rfl) (by decide) (fun r2 S2 I2 L2 R2 q2 => ?_)
    obtain ⟨rfl, rfl, rfl, rfl, h2⟩ := q2
    refine s_goto (tgt := 50) (tb_ok aX2_readNot_0 7 rfl) (by decide) ?_
    refine s_vret (tb_ok aX2_readNot_1 1 rfl) rfl ?_
    exact ⟨rfl, rfl, rfl, rfl, h2⟩

set_option maxRecDepth 100000 in
set_option maxHeartbeats 1000000 in
theorem CO_X2_readNot0 {X : En} {S : Sh} {I0 : FI} {L : FL} {R : FR} {r n : Nat} (hR : isRead S R r) (hn : I0 62 1 = nI n) (hn2 : n ≤ 160) {d1 d2 d o : Nat} (hd : 6 < d) (hd1 : d1 < d) (hd2 : d2 < d) (ho : 5 ≤ o) (ho2 : o ≤ 100) {C : Pa} (hc : CtO X S L R r n I0 d1 mX2_readCompared o C) : CtO X S L R r n I0 d mX2_readNot o (notP (I0 63) n none C) := by
  intro I acc s h hb
  obtain ⟨g1, g2, g3, g4, g5, g6⟩ := id hR
  refine ev_of (by decide +kernel) rfl ?_
  show SW X _ _ _ 0 [some (.ref 62), some (.int (nI o))] [] S I L R _
  refine s_aload_n (tb_ok aX2_readNot_0 0 rfl) rfl ?_
  refine s_getI (x := (s).tok) (tb_ok aX2_readNot_0 1 rfl) f_RX2_47 g1 rfl h.2.2.2.2.1 ?_
  refine s_bipush (v := 9) (tb_ok aX2_readNot_0 2 rfl) (by decide) ?_
  refine s_icmp_eq (tgt := 17) (tb_ok aX2_readNot_0 3 rfl) (by decide) (fun c6 => ?_) (fun c6 => ?_)
  · have hop : s.tok = 9 := c6
    refine s_iload_n (tb_ok aX2_readNot_0 8 rfl) rfl ?_
    refine s_iconst (v := nI 5) (tb_ok aX2_readNot_0 9 rfl) (by decide) ?_
    refine s_icmp_lt (tgt := 29) (tb_ok aX2_readNot_0 10 rfl) (by decide) (fun c19 => ?_) (fun c19 => ?_)
    · simp (disch := omega) only [nI_ltI] at c19
      omega
    · have hsq : (notP (I0 63) n none C) s = .inr s.pl := by unfold notP; rw [if_pos hop]
      refine s_aload_n (tb_ok aX2_readNot_0 11 rfl) rfl ?_
      refine s_cV (as := []) (tb_ok aX2_readNot_0 12 rfl) v_RX2_50 (A_fail hR hn2 h (by (try simp only [List.length_append, List.length_cons, List.length_nil] at *); omega)) (by omega) g1 rfl rfl rfl rfl (Nat.le_of_ble_eq_true rfl) (by decide) (fun r1 S1 I1 L1 R1 q1 => ?_)
      obtain ⟨rfl, rfl, rfl, rfl, h3⟩ := q1
      refine s_goto (tgt := 50) (tb_ok aX2_readNot_0 13 rfl) (by decide) ?_
      refine s_vret (tb_ok aX2_readNot_1 1 rfl) rfl ?_
      refine ⟨rfl, rfl, rfl, rfl, ?_⟩
      rw [hsq]
      exact h3
  · have hop : ¬ s.tok = 9 := c6
    refine s_aload_n (tb_ok aX2_readNot_0 4 rfl) rfl ?_
    refine s_iload_n (tb_ok aX2_readNot_0 5 rfl) rfl ?_
    refine s_cV (as := [.int (nI o)]) (tb_ok aX2_readNot_0 6 rfl) v_RX2_65 (hc _ _ _ h (by (try simp only [List.length_append, List.length_cons, List.length_nil] at *); omega)) (by omega) g1 rfl rfl rfl rfl (Nat.le_of_ble_eq_true rfl) (by decide) (fun r2 S2 I2 L2 R2 q2 => ?_)
    obtain ⟨rfl, rfl, rfl, rfl, h4⟩ := q2
    cases e4_ : C s with
    | inr f4_ =>
      rw [e4_] at h4
      have h4 : ERs r I0 f4_ _ := h4
      have hsq : (notP (I0 63) n none C) s = .inr f4_ := by unfold notP; rw [if_neg hop]; exact e4_
      refine s_goto (tgt := 50) (tb_ok aX2_readNot_0 7 rfl) (by decide) ?_
      refine s_vret (tb_ok aX2_readNot_1 1 rfl) rfl ?_
      refine ⟨rfl, rfl, rfl, rfl, ?_⟩
      rw [hsq]
      exact h4
    | inl qq =>
      obtain ⟨c4_, v4_, s4_⟩ := qq
      rw [e4_] at h4
      obtain ⟨h4, b4_⟩ := h4
      have h4 : OKs r n I0 (acc ++ c4_) s4_ _ := h4
      have b4_ : (s).pl + c4_.length ≤ (s4_).pl := b4_
      have hsq : (notP (I0 63) n none C) s = .inl (c4_, v4_, s4_) := by unfold notP; rw [if_neg hop]; exact e4_
      refine s_goto (tgt := 50) (tb_ok aX2_readNot_0 7 rfl) (by decide) ?_
      refine s_vret (tb_ok aX2_readNot_1 1 rfl) rfl ?_
      refine ⟨rfl, rfl, rfl, rfl, ?_⟩
      rw [hsq]
      have h5 := h4
      exact ⟨h5, (by (try simp only [List.length_append, List.length_cons, List.length_nil] at *); omega)⟩

set_option maxRecDepth 100000 in
set_option maxHeartbeats 1000000 in
theorem CE_X2_readNot1 {X : En} {S : Sh} {I0 : FI} {L : FL} {R : FR} {r : Nat} (hR : isRead S R r) {d1 d2 d o : Nat} (hd : 6 < d) (hd1 : d1 < d) (hd2 : d2 < d) (ho : o < 5) (hc : CtE X S L R r I0 d1 mX2_readCompared o) (hi : CtE X S L R r I0 d2 mX2_readNot (o + 1)) : CtE X S L R r I0 d mX2_readNot o := by
  intro I f h
  obtain ⟨g1, g2, g3, g4, g5, g6⟩ := id hR
  refine ev_of (by decide +kernel) rfl ?_
  show SW X _ _ _ 0 [some (.ref 62), some (.int (nI o))] [] S I L R _
  refine s_aload_n (tb_ok aX2_readNot_0 0 rfl) rfl ?_
  refine s_getI (tb_ok aX2_readNot_0 1 rfl) f_RX2_47 g1 rfl rfl ?_
  refine s_bipush (v := 9) (tb_ok aX2_readNot_0 2 rfl) (by decide) ?_
  refine s_icmp_eq (tgt := 17) (tb_ok aX2_readNot_0 3 rfl) (by decide) (fun c6 => ?_) (fun c6 => ?_)
  · refine s_iload_n (tb_ok aX2_readNot_0 8 rfl) rfl ?_
    refine s_iconst (v := nI 5) (tb_ok aX2_readNot_0 9 rfl) (by decide) ?_
    refine s_icmp_lt (tgt := 29) (tb_ok aX2_readNot_0 10 rfl) (by decide) (fun c19 => ?_) (fun c19 => ?_)
    · refine s_aload_n (tb_ok aX2_readNot_0 14 rfl) rfl ?_
      refine s_cV (as := []) (tb_ok aX2_readNot_0 15 rfl) v_RX2_34 (A_advE hR h) (by omega) g1 rfl rfl rfl rfl (Nat.le_of_ble_eq_true rfl) (by decide) (fun r1 S1 I1 L1 R1 q1 => ?_)
      obtain ⟨rfl, rfl, rfl, rfl, h1⟩ := q1
      refine s_aload_n (tb_ok aX2_readNot_0 16 rfl) rfl ?_
      refine s_iload_n (tb_ok aX2_readNot_0 17 rfl) rfl ?_
      refine s_iconst (v := 1) (tb_ok aX2_readNot_0 18 rfl) (by decide) ?_
      refine s_iadd (tb_ok aX2_readNot_0 19 rfl) ?_
      refine s_topi (z := (nI (o + 1))) (nI_1 o) ?_
      refine s_cV (as := [.int (nI (o + 1))]) (tb_ok aX2_readNot_0 20 rfl) v_RX2_62 (hi _ _ h1) (by omega) g1 rfl rfl rfl rfl (Nat.le_of_ble_eq_true rfl) (by decide) (fun r2 S2 I2 L2 R2 q2 => ?_)
      obtain ⟨rfl, rfl, rfl, rfl, h2⟩ := q2
      refine s_aload_n (tb_ok aX2_readNot_0 21 rfl) rfl ?_
      refine s_getR (r := r) (tb_ok aX2_readNot_0 22 rfl) f_RX2_22 g1 rfl g4 ?_
      refine s_sipush (v := 20001) (tb_ok aX2_readNot_0 23 rfl) (by decide) ?_
      refine s_cV (as := [.int (20001)]) (tb_ok aX2_readNot_1 0 rfl) v_RX2_59 (A_addE (20001) hR h2) (by omega) g5.1 rfl rfl rfl rfl (Nat.le_of_ble_eq_true rfl) (by decide) (fun r3 S3 I3 L3 R3 q3 => ?_)
      obtain ⟨rfl, rfl, rfl, rfl, h3⟩ := q3
      refine s_vret (tb_ok aX2_readNot_1 1 rfl) rfl ?_
      exact ⟨rfl, rfl, rfl, rfl, h3⟩
    · simp (disch := omega) only [nI_ltI] at c19
      omega
  · refine s_aload_n (tb_ok aX2_readNot_0 4 rfl) rfl ?_
    refine s_iload_n (tb_ok aX2_readNot_0 5 rfl) rfl ?_
    refine s_cV (as := [.int (nI o)]) (tb_ok aX2_readNot_0 6 rfl) v_RX2_65 (hc _ _ h) (by omega) g1 rfl rfl rfl rfl (Nat.le_of_ble_eq_true rfl) (by decide) (fun r4 S4 I4 L4 R4 q4 => ?_)
    obtain ⟨rfl, rfl, rfl, rfl, h4⟩ := q4
    refine s_goto (tgt := 50) (tb_ok aX2_readNot_0 7 rfl) (by decide) ?_
    refine s_vret (tb_ok aX2_readNot_1 1 rfl) rfl ?_
    exact ⟨rfl, rfl, rfl, rfl, h4⟩

set_option maxRecDepth 100000 in
set_option maxHeartbeats 1000000 in
theorem CO_X2_readNot1 {X : En} {S : Sh} {I0 : FI} {L : FL} {R : FR} {r n : Nat} (hR : isRead S R r) (hn : I0 62 1 = nI n) (hn2 : n ≤ 160) {d1 d2 d o : Nat} (hd : 6 < d) (hd1 : d1 < d) (hd2 : d2 < d) (ho : o < 5) {C : Pa} (hc : CtO X S L R r n I0 d1 mX2_readCompared o C) {q : Pa × Pa × Pa} (hi : CtO X S L R r n I0 d2 mX2_readNot (o + 1) q.2.1) : CtO X S L R r n I0 d mX2_readNot o (notP (I0 63) n (some q) C) := by
  intro I acc s h hb
  obtain ⟨g1, g2, g3, g4, g5, g6⟩ := id hR
  refine ev_of (by decide +kernel) rfl ?_
  show SW X _ _ _ 0 [some (.ref 62), some (.int (nI o))] [] S I L R _
  refine s_aload_n (tb_ok aX2_readNot_0 0 rfl) rfl ?_
  refine s_getI (x := (s).tok) (tb_ok aX2_readNot_0 1 rfl) f_RX2_47 g1 rfl h.2.2.2.2.1 ?_
  refine s_bipush (v := 9) (tb_ok aX2_readNot_0 2 rfl) (by decide) ?_
  refine s_icmp_eq (tgt := 17) (tb_ok aX2_readNot_0 3 rfl) (by decide) (fun c6 => ?_) (fun c6 => ?_)
  · have hop : s.tok = 9 := c6
    refine s_iload_n (tb_ok aX2_readNot_0 8 rfl) rfl ?_
    refine s_iconst (v := nI 5) (tb_ok aX2_readNot_0 9 rfl) (by decide) ?_
    refine s_icmp_lt (tgt := 29) (tb_ok aX2_readNot_0 10 rfl) (by decide) (fun c19 => ?_) (fun c19 => ?_)
    · refine s_aload_n (tb_ok aX2_readNot_0 14 rfl) rfl ?_
      refine s_cV (as := []) (tb_ok aX2_readNot_0 15 rfl) v_RX2_34 (A_adv hR hn hn2 h) (by omega) g1 rfl rfl rfl rfl (Nat.le_of_ble_eq_true rfl) (by decide) (fun r1 S1 I1 L1 R1 q1 => ?_)
      obtain ⟨rfl, rfl, rfl, rfl, h5⟩ := q1
      have a6 := (adv_wf (t := I0 63) h.2.1).2.2 (by rw [hop]; decide)
      refine s_aload_n (tb_ok aX2_readNot_0 16 rfl) rfl ?_
      refine s_iload_n (tb_ok aX2_readNot_0 17 rfl) rfl ?_
      refine s_iconst (v := 1) (tb_ok aX2_readNot_0 18 rfl) (by decide) ?_
      refine s_iadd (tb_ok aX2_readNot_0 19 rfl) ?_
      refine s_topi (z := (nI (o + 1))) (nI_1 o) ?_
      refine s_cV (as := [.int (nI (o + 1))]) (tb_ok aX2_readNot_0 20 rfl) v_RX2_62 (hi _ _ _ h5 (by (try simp only [List.length_append, List.length_cons, List.length_nil] at *); omega)) (by omega) g1 rfl rfl rfl rfl (Nat.le_of_ble_eq_true rfl) (by decide) (fun r2 S2 I2 L2 R2 q2 => ?_)
      obtain ⟨rfl, rfl, rfl, rfl, h7⟩ := q2
      cases e7_ : q.2.1 (adv (I0 63) n s) with
      | inr f7_ =>
        rw [e7_] at h7
        have h7 : ERs r I0 f7_ _ := h7
        have hsq : (notP (I0 63) n (some q) C) s = .inr f7_ := by unfold notP; rw [if_pos hop]; simp only [e7_]
        refine s_aload_n (tb_ok aX2_readNot_0 21 rfl) rfl ?_
        refine s_getR (r := r) (tb_ok aX2_readNot_0 22 rfl) f_RX2_22 g1 rfl g4 ?_
        refine s_sipush (v := 20001) (tb_ok aX2_readNot_0 23 rfl) (by decide) ?_
        refine s_cV (as := [.int (20001)]) (tb_ok aX2_readNot_1 0 rfl) v_RX2_59 (A_addE (20001) hR h7) (by omega) g5.1 rfl rfl rfl rfl (Nat.le_of_ble_eq_true rfl) (by decide) (fun r3 S3 I3 L3 R3 q3 => ?_)
        obtain ⟨rfl, rfl, rfl, rfl, h8⟩ := q3
        refine s_vret (tb_ok aX2_readNot_1 1 rfl) rfl ?_
        refine ⟨rfl, rfl, rfl, rfl, ?_⟩
        rw [hsq]
        exact h8
      | inl qq =>
        obtain ⟨c7_, v7_, s7_⟩ := qq
        rw [e7_] at h7
        obtain ⟨h7, b7_⟩ := h7
        have h7 : OKs r n I0 (acc ++ c7_) s7_ _ := h7
        have b7_ : ((adv (I0 63) n s)).pl + c7_.length ≤ (s7_).pl := b7_
        have hsq : (notP (I0 63) n (some q) C) s = .inl (c7_ ++ [20001], (fun nm => of1 20001 (v7_ nm)), s7_) := by unfold notP; rw [if_pos hop]; simp only [e7_]
        refine s_aload_n (tb_ok aX2_readNot_0 21 rfl) rfl ?_
        refine s_getR (r := r) (tb_ok aX2_readNot_0 22 rfl) f_RX2_22 g1 rfl g4 ?_
        refine s_sipush (v := 20001) (tb_ok aX2_readNot_0 23 rfl) (by decide) ?_
        refine s_cV (as := [.int (20001)]) (tb_ok aX2_readNot_1 0 rfl) v_RX2_59 (A_add (20001) hR h7 (by have hp_ := h7.2.1.pl; have hq_ := h7.2.1.2.1; (try simp only [List.length_append, List.length_cons, List.length_nil] at *); omega)) (by omega) g5.1 rfl rfl rfl rfl (Nat.le_of_ble_eq_true rfl) (by decide) (fun r4 S4 I4 L4 R4 q4 => ?_)
        obtain ⟨rfl, rfl, rfl, rfl, h9⟩ := q4
        refine s_vret (tb_ok aX2_readNot_1 1 rfl) rfl ?_
        refine ⟨rfl, rfl, rfl, rfl, ?_⟩
        rw [hsq]
        have h10 := h9
        rw [List.append_assoc acc] at h10
        exact ⟨h10, (by (try simp only [List.length_append, List.length_cons, List.length_nil] at *); omega)⟩
    · simp (disch := omega) only [nI_ltI] at c19
      omega
  · have hop : ¬ s.tok = 9 := c6
    refine s_aload_n (tb_ok aX2_readNot_0 4 rfl) rfl ?_
    refine s_iload_n (tb_ok aX2_readNot_0 5 rfl) rfl ?_
    refine s_cV (as := [.int (nI o)]) (tb_ok aX2_readNot_0 6 rfl) v_RX2_65 (hc _ _ _ h (by (try simp only [List.length_append, List.length_cons, List.length_nil] at *); omega)) (by omega) g1 rfl rfl rfl rfl (Nat.le_of_ble_eq_true rfl) (by decide) (fun r5 S5 I5 L5 R5 q5 => ?_)
    obtain ⟨rfl, rfl, rfl, rfl, h11⟩ := q5
    cases e11_ : C s with
    | inr f11_ =>
      rw [e11_] at h11
      have h11 : ERs r I0 f11_ _ := h11
      have hsq : (notP (I0 63) n (some q) C) s = .inr f11_ := by unfold notP; rw [if_neg hop]; exact e11_
      refine s_goto (tgt := 50) (tb_ok aX2_readNot_0 7 rfl) (by decide) ?_
      refine s_vret (tb_ok aX2_readNot_1 1 rfl) rfl ?_
      refine ⟨rfl, rfl, rfl, rfl, ?_⟩
      rw [hsq]
      exact h11
    | inl qq =>
      obtain ⟨c11_, v11_, s11_⟩ := qq
      rw [e11_] at h11
      obtain ⟨h11, b11_⟩ := h11
      have h11 : OKs r n I0 (acc ++ c11_) s11_ _ := h11
      have b11_ : (s).pl + c11_.length ≤ (s11_).pl := b11_
      have hsq : (notP (I0 63) n (some q) C) s = .inl (c11_, v11_, s11_) := by unfold notP; rw [if_neg hop]; exact e11_
      refine s_goto (tgt := 50) (tb_ok aX2_readNot_0 7 rfl) (by decide) ?_
      refine s_vret (tb_ok aX2_readNot_1 1 rfl) rfl ?_
      refine ⟨rfl, rfl, rfl, rfl, ?_⟩
      rw [hsq]
      have h12 := h11
      exact ⟨h12, (by (try simp only [List.length_append, List.length_cons, List.length_nil] at *); omega)⟩
