/-! the Reader: comparisons, not, one, expect; all levels; a whole text -/
set_option maxRecDepth 100000 in
set_option maxHeartbeats 1000000 in
theorem A_exp {X : En} {S : Sh} {I0 : FI} {L : FL} {R : FR} {r n : Nat} (hR : isRead S R r) (hn : I0 62 1 = nI n) (hn2 : n ≤ 160) {I : FI} {acc : List Int32} {s : St} {w : Int32} (h : OKs r n I0 acc s I) (hw : s.tok = w) : Ev X 7 mX2_expect (0, 0) [.ref 62, .int w] S I L R (AfS r n I0 acc (adv (I0 63) n s) S L R) := by
  obtain ⟨g1, g2, g3, g4, g5, g6⟩ := id hR
  refine ev_of (by decide +kernel) rfl ?_
  show SW X _ _ _ 0 [some (.ref 62), some (.int w)] [] S I L R _
  refine s_aload_n (tb_ok aX2_expect_0 0 rfl) rfl ?_
  refine s_getI (x := (s).tok) (tb_ok aX2_expect_0 1 rfl) f_RX2_47 g1 rfl h.2.2.2.2.1 ?_
  refine s_iload_n (tb_ok aX2_expect_0 2 rfl) rfl ?_
  refine s_icmp_eq (tgt := 12) (tb_ok aX2_expect_0 3 rfl) (by decide) (fun c5 => ?_) (fun c5 => ?_)
  · refine s_aload_n (tb_ok aX2_expect_0 6 rfl) rfl ?_
    refine s_cV (as := []) (tb_ok aX2_expect_0 7 rfl) v_RX2_34 (A_adv hR hn hn2 h) (by omega) g1 rfl rfl rfl rfl (Nat.le_of_ble_eq_true rfl) (by decide) (fun r1 S1 I1 L1 R1 q1 => ?_)
    obtain ⟨rfl, rfl, rfl, rfl, h1⟩ := q1
    have a2 := (adv_wf (t := I0 63) h.2.1).2.1
    refine s_vret (tb_ok aX2_expect_0 8 rfl) rfl ?_
    exact ⟨rfl, rfl, rfl, rfl, h1⟩
  · contradiction

set_option maxRecDepth 100000 in
set_option maxHeartbeats 1000000 in
theorem A_expN {X : En} {S : Sh} {I0 : FI} {L : FL} {R : FR} {r n : Nat} (hR : isRead S R r) (hn : I0 62 1 = nI n) (hn2 : n ≤ 160) {I : FI} {acc : List Int32} {s : St} {w : Int32} (h : OKs r n I0 acc s I) (hb : acc.length ≤ s.pl) (hw : ¬ s.tok = w) : Ev X 7 mX2_expect (0, 0) [.ref 62, .int w] S I L R (AfE r s.pl I0 S L R) := by
  obtain ⟨g1, g2, g3, g4, g5, g6⟩ := id hR
  refine ev_of (by decide +kernel) rfl ?_
  show SW X _ _ _ 0 [some (.ref 62), some (.int w)] [] S I L R _
  refine s_aload_n (tb_ok aX2_expect_0 0 rfl) rfl ?_
  refine s_getI (x := (s).tok) (tb_ok aX2_expect_0 1 rfl) f_RX2_47 g1 rfl h.2.2.2.2.1 ?_
  refine s_iload_n (tb_ok aX2_expect_0 2 rfl) rfl ?_
  refine s_icmp_eq (tgt := 12) (tb_ok aX2_expect_0 3 rfl) (by decide) (fun c5 => ?_) (fun c5 => ?_)
  · contradiction
  · refine s_aload_n (tb_ok aX2_expect_0 4 rfl) rfl ?_
    refine s_cV (as := []) (tb_ok aX2_expect_0 5 rfl) v_RX2_50 (A_fail hR hn2 h (by (try simp only [List.length_append, List.length_cons, List.length_nil] at *); omega)) (by omega) g1 rfl rfl rfl rfl (Nat.le_of_ble_eq_true rfl) (by decide) (fun r1 S1 I1 L1 R1 q1 => ?_)
    obtain ⟨rfl, rfl, rfl, rfl, h3⟩ := q1
    refine s_aload_n (tb_ok aX2_expect_0 6 rfl) rfl ?_
    refine s_cV (as := []) (tb_ok aX2_expect_0 7 rfl) v_RX2_34 (A_advE hR h3) (by omega) g1 rfl rfl rfl rfl (Nat.le_of_ble_eq_true rfl) (by decide) (fun r2 S2 I2 L2 R2 q2 => ?_)
    obtain ⟨rfl, rfl, rfl, rfl, h4⟩ := q2
    refine s_vret (tb_ok aX2_expect_0 8 rfl) rfl ?_
    exact ⟨rfl, rfl, rfl, rfl, h4⟩

set_option maxRecDepth 100000 in
set_option maxHeartbeats 1000000 in
theorem A_expE {X : En} {S : Sh} {I0 : FI} {L : FL} {R : FR} {r : Nat} (hR : isRead S R r) {I : FI} {f : Nat} {w : Int32} (h : ERs r I0 f I) : Ev X 7 mX2_expect (0, 0) [.ref 62, .int w] S I L R (AfE r f I0 S L R) := by
  obtain ⟨g1, g2, g3, g4, g5, g6⟩ := id hR
  refine ev_of (by decide +kernel) rfl ?_
  show SW X _ _ _ 0 [some (.ref 62), some (.int w)] [] S I L R _
  refine s_aload_n (tb_ok aX2_expect_0 0 rfl) rfl ?_
  refine s_getI (tb_ok aX2_expect_0 1 rfl) f_RX2_47 g1 rfl rfl ?_
  refine s_iload_n (tb_ok aX2_expect_0 2 rfl) rfl ?_
  refine s_icmp_eq (tgt := 12) (tb_ok aX2_expect_0 3 rfl) (by decide) (fun c5 => ?_) (fun c5 => ?_)
  · refine s_aload_n (tb_ok aX2_expect_0 6 rfl) rfl ?_
    refine s_cV (as := []) (tb_ok aX2_expect_0 7 rfl) v_RX2_34 (A_advE hR h) (by omega) g1 rfl rfl rfl rfl (Nat.le_of_ble_eq_true rfl) (by decide) (fun r1 S1 I1 L1 R1 q1 => ?_)
    obtain ⟨rfl, rfl, rfl, rfl, h5⟩ := q1
    refine s_vret (tb_ok aX2_expect_0 8 rfl) rfl ?_
    exact ⟨rfl, rfl, rfl, rfl, h5⟩
  · refine s_aload_n (tb_ok aX2_expect_0 4 rfl) rfl ?_
    refine s_cV (as := []) (tb_ok aX2_expect_0 5 rfl) v_RX2_50 (A_failE hR h) (by omega) g1 rfl rfl rfl rfl (Nat.le_of_ble_eq_true rfl) (by decide) (fun r2 S2 I2 L2 R2 q2 => ?_)
    obtain ⟨rfl, rfl, rfl, rfl, h6⟩ := q2
    refine s_aload_n (tb_ok aX2_expect_0 6 rfl) rfl ?_
    refine s_cV (as := []) (tb_ok aX2_expect_0 7 rfl) v_RX2_34 (A_advE hR h6) (by omega) g1 rfl rfl rfl rfl (Nat.le_of_ble_eq_true rfl) (by decide) (fun r3 S3 I3 L3 R3 q3 => ?_)
    obtain ⟨rfl, rfl, rfl, rfl, h7⟩ := q3
    refine s_vret (tb_ok aX2_expect_0 8 rfl) rfl ?_
    exact ⟨rfl, rfl, rfl, rfl, h7⟩

set_option maxRecDepth 100000 in
set_option maxHeartbeats 1000000 in
theorem CE_X2_readCompared {X : En} {S : Sh} {I0 : FI} {L : FL} {R : FR} {r : Nat} (hR : isRead S R r) {d1 d o : Nat} (hd : 6 < d) (hd1 : d1 < d) (hi : CtE X S L R r I0 d1 mX2_readSum o) : CtE X S L R r I0 d mX2_readCompared o := by
  intro I f h
  obtain ⟨g1, g2, g3, g4, g5, g6⟩ := id hR
  refine ev_of (by decide +kernel) rfl ?_
  show SW X _ _ _ 0 [some (.ref 62), some (.int (nI o)), none] [] S I L R _
  refine s_aload_n (tb_ok aX2_readCompared_0 0 rfl) rfl ?_
  refine s_iload_n (tb_ok aX2_readCompared_0 1 rfl) rfl ?_
  refine s_cV (as := [.int (nI o)]) (tb_ok aX2_readCompared_0 2 rfl) v_RX2_72 (hi _ _ h) (by omega) g1 rfl rfl rfl rfl (Nat.le_of_ble_eq_true rfl) (by decide) (fun r1 S1 I1 L1 R1 q1 => ?_)
  obtain ⟨rfl, rfl, rfl, rfl, h8⟩ := q1
  refine s_aload_n (tb_ok aX2_readCompared_0 3 rfl) rfl ?_
  refine s_getI (tb_ok aX2_readCompared_0 4 rfl) f_RX2_47 g1 rfl rfl ?_
  refine s_name (fun x1 ex1 => ?_)
  refine s_istore_n (ls' := [some (.ref 62), some (.int (nI o)), some (.int x1)]) (tb_ok aX2_readCompared_0 5 rfl) rfl rfl ?_
  refine s_iload_n (tb_ok aX2_readCompared_0 6 rfl) rfl ?_
  refine s_bipush (v := 60) (tb_ok aX2_readCompared_0 7 rfl) (by decide) ?_
  refine s_icmp_eq (tgt := 22) (tb_ok aX2_readCompared_0 8 rfl) (by decide) (fun c13 => ?_) (fun c13 => ?_)
  · refine s_aload_n (tb_ok aX2_readCompared_0 12 rfl) rfl ?_
    refine s_cV (as := []) (tb_ok aX2_readCompared_0 13 rfl) v_RX2_34 (A_advE hR h8) (by omega) g1 rfl rfl rfl rfl (Nat.le_of_ble_eq_true rfl) (by decide) (fun r2 S2 I2 L2 R2 q2 => ?_)
    obtain ⟨rfl, rfl, rfl, rfl, h9⟩ := q2
    refine s_aload_n (tb_ok aX2_readCompared_0 14 rfl) rfl ?_
    refine s_iload_n (tb_ok aX2_readCompared_0 15 rfl) rfl ?_
    refine s_cV (as := [.int (nI o)]) (tb_ok aX2_readCompared_0 16 rfl) v_RX2_72 (hi _ _ h9) (by omega) g1 rfl rfl rfl rfl (Nat.le_of_ble_eq_true rfl) (by decide) (fun r3 S3 I3 L3 R3 q3 => ?_)
    obtain ⟨rfl, rfl, rfl, rfl, h10⟩ := q3
    refine s_aload_n (tb_ok aX2_readCompared_0 17 rfl) rfl ?_
    refine s_getR (r := r) (tb_ok aX2_readCompared_0 18 rfl) f_RX2_22 g1 rfl g4 ?_
    refine s_iload_n (tb_ok aX2_readCompared_0 19 rfl) rfl ?_
    refine s_bipush (v := 60) (tb_ok aX2_readCompared_0 20 rfl) (by decide) ?_
    refine s_icmp_ne (tgt := 47) (tb_ok aX2_readCompared_0 21 rfl) (by decide) (fun c38 => ?_) (fun c38 => ?_)
    · refine s_sipush (v := 30004) (tb_ok aX2_readCompared_1 0 rfl) (by decide) ?_
      refine s_cV (as := [.int (30004)]) (tb_ok aX2_readCompared_1 1 rfl) v_RX2_59 (A_addE (30004) hR h10) (by omega) g5.1 rfl rfl rfl rfl (Nat.le_of_ble_eq_true rfl) (by decide) (fun r4 S4 I4 L4 R4 q4 => ?_)
      obtain ⟨rfl, rfl, rfl, rfl, h11⟩ := q4
      refine s_vret (tb_ok aX2_readCompared_1 2 rfl) rfl ?_
      exact ⟨rfl, rfl, rfl, rfl, h11⟩
    · refine s_sipush (v := 30003) (tb_ok aX2_readCompared_0 22 rfl) (by decide) ?_
      refine s_goto (tgt := 50) (tb_ok aX2_readCompared_0 23 rfl) (by decide) ?_
      refine s_cV (as := [.int (30003)]) (tb_ok aX2_readCompared_1 1 rfl) v_RX2_59 (A_addE (30003) hR h10) (by omega) g5.1 rfl rfl rfl rfl (Nat.le_of_ble_eq_true rfl) (by decide) (fun r5 S5 I5 L5 R5 q5 => ?_)
      obtain ⟨rfl, rfl, rfl, rfl, h12⟩ := q5
      refine s_vret (tb_ok aX2_readCompared_1 2 rfl) rfl ?_
      exact ⟨rfl, rfl, rfl, rfl, h12⟩
  · refine s_iload_n (tb_ok aX2_readCompared_0 9 rfl) rfl ?_
    refine s_bipush (v := 61) (tb_ok aX2_readCompared_0 10 rfl) (by decide) ?_
    refine s_icmp_ne (tgt := 53) (tb_ok aX2_readCompared_0 11 rfl) (by decide) (fun c19 => ?_) (fun c19 => ?_)
    · refine s_vret (tb_ok aX2_readCompared_1 2 rfl) rfl ?_
      exact ⟨rfl, rfl, rfl, rfl, h8⟩
    · refine s_aload_n (tb_ok aX2_readCompared_0 12 rfl) rfl ?_
      refine s_cV (as := []) (tb_ok aX2_readCompared_0 13 rfl) v_RX2_34 (A_advE hR h8) (by omega) g1 rfl rfl rfl rfl (Nat.le_of_ble_eq_true rfl) (by decide) (fun r6 S6 I6 L6 R6 q6 => ?_)
      obtain ⟨rfl, rfl, rfl, rfl, h13⟩ := q6
      refine s_aload_n (tb_ok aX2_readCompared_0 14 rfl) rfl ?_
      refine s_iload_n (tb_ok aX2_readCompared_0 15 rfl) rfl ?_
      refine s_cV (as := [.int (nI o)]) (tb_ok aX2_readCompared_0 16 rfl) v_RX2_72 (hi _ _ h13) (by omega) g1 rfl rfl rfl rfl (Nat.le_of_ble_eq_true rfl) (by decide) (fun r7 S7 I7 L7 R7 q7 => ?_)
      obtain ⟨rfl, rfl, rfl, rfl, h14⟩ := q7
      refine s_aload_n (tb_ok aX2_readCompared_0 17 rfl) rfl ?_
      refine s_getR (r := r) (tb_ok aX2_readCompared_0 18 rfl) f_RX2_22 g1 rfl g4 ?_
      refine s_iload_n (tb_ok aX2_readCompared_0 19 rfl) rfl ?_
      refine s_bipush (v := 60) (tb_ok aX2_readCompared_0 20 rfl) (by decide) ?_
      refine s_icmp_ne (tgt := 47) (tb_ok aX2_readCompared_0 21 rfl) (by decide) (fun c38 => ?_) (fun c38 => ?_)
      · refine s_sipush (v := 30004) (tb_ok aX2_readCompared_1 0 rfl) (by decide) ?_
        refine s_cV (as := [.int (30004)]) (tb_ok aX2_readCompared_1 1 rfl) v_RX2_59 (A_addE (30004) hR h14) (by omega) g5.1 rfl rfl rfl rfl (Nat.le_of_ble_eq_true rfl) (by decide) (fun r8 S8 I8 L8 R8 q8 => ?_)
        obtain ⟨rfl, rfl, rfl, rfl, h15⟩ := q8
        refine s_vret (tb_ok aX2_readCompared_1 2 rfl) rfl ?_
        exact ⟨rfl, rfl, rfl, rfl, h15⟩
      · refine s_sipush (v := 30003) (tb_ok aX2_readCompared_0 22 rfl) (by decide) ?_
        refine s_goto (tgt := 50) (tb_ok aX2_readCompared_0 23 rfl) (by decide) ?_
        refine s_cV (as := [.int (30003)]) (tb_ok aX2_readCompared_1 1 rfl) v_RX2_59 (A_addE (30003) hR h14) (by omega) g5.1 rfl rfl rfl rfl (Nat.le_of_ble_eq_true rfl) (by decide) (fun r9 S9 I9 L9 R9 q9 => ?_)
        obtain ⟨rfl, rfl, rfl, rfl, h16⟩ := q9
        refine s_vret (tb_ok aX2_readCompared_1 2 rfl) rfl ?_
        exact ⟨rfl, rfl, rfl, rfl, h16⟩

set_option maxRecDepth 100000 in
set_option maxHeartbeats 1000000 in
theorem CO_X2_readCompared {X : En} {S : Sh} {I0 : FI} {L : FL} {R : FR} {r n : Nat} (hR : isRead S R r) (hn : I0 62 1 = nI n) (hn2 : n ≤ 160) {d1 d o : Nat} (hd : 6 < d) (hd1 : d1 < d) {P : Pa} (hi : CtO X S L R r n I0 d1 mX2_readSum o P) (hiE : CtE X S L R r I0 d1 mX2_readSum o) : CtO X S L R r n I0 d mX2_readCompared o (cmpP (I0 63) n P) := by
  intro I acc s h hb
  obtain ⟨g1, g2, g3, g4, g5, g6⟩ := id hR
  refine ev_of (by decide +kernel) rfl ?_
  show SW X _ _ _ 0 [some (.ref 62), some (.int (nI o)), none] [] S I L R _
  refine s_aload_n (tb_ok aX2_readCompared_0 0 rfl) rfl ?_
  refine s_iload_n (tb_ok aX2_readCompared_0 1 rfl) rfl ?_
  refine s_cV (as := [.int (nI o)]) (tb_ok aX2_readCompared_0 2 rfl) v_RX2_72 (hi _ _ _ h (by (try simp only [List.length_append, List.length_cons, List.length_nil] at *); omega)) (by omega) g1 rfl rfl rfl rfl (Nat.le_of_ble_eq_true rfl) (by decide) (fun r1 S1 I1 L1 R1 q1 => ?_)
  obtain ⟨rfl, rfl, rfl, rfl, h17⟩ := q1
  cases e17_ : P s with
  | inr f17_ =>
    rw [e17_] at h17
    have h17 : ERs r I0 f17_ _ := h17
    have hsq : (cmpP (I0 63) n P) s = .inr f17_ := by unfold cmpP; rw [e17_]
    refine s_aload_n (tb_ok aX2_readCompared_0 3 rfl) rfl ?_
    refine s_getI (tb_ok aX2_readCompared_0 4 rfl) f_RX2_47 g1 rfl rfl ?_
    refine s_name (fun x1 ex1 => ?_)
    refine s_istore_n (ls' := [some (.ref 62), some (.int (nI o)), some (.int x1)]) (tb_ok aX2_readCompared_0 5 rfl) rfl rfl ?_
    refine s_iload_n (tb_ok aX2_readCompared_0 6 rfl) rfl ?_
    refine s_bipush (v := 60) (tb_ok aX2_readCompared_0 7 rfl) (by decide) ?_
    refine s_icmp_eq (tgt := 22) (tb_ok aX2_readCompared_0 8 rfl) (by decide) (fun c13 => ?_) (fun c13 => ?_)
    · refine s_aload_n (tb_ok aX2_readCompared_0 12 rfl) rfl ?_
      refine s_cV (as := []) (tb_ok aX2_readCompared_0 13 rfl) v_RX2_34 (A_advE hR h17) (by omega) g1 rfl rfl rfl rfl (Nat.le_of_ble_eq_true rfl) (by decide) (fun r2 S2 I2 L2 R2 q2 => ?_)
      obtain ⟨rfl, rfl, rfl, rfl, h18⟩ := q2
      refine s_aload_n (tb_ok aX2_readCompared_0 14 rfl) rfl ?_
      refine s_iload_n (tb_ok aX2_readCompared_0 15 rfl) rfl ?_
      refine s_cV (as := [.int (nI o)]) (tb_ok aX2_readCompared_0 16 rfl) v_RX2_72 (hiE _ _ h18) (by omega) g1 rfl rfl rfl rfl (Nat.le_of_ble_eq_true rfl) (by decide) (fun r3 S3 I3 L3 R3 q3 => ?_)
      obtain ⟨rfl, rfl, rfl, rfl, h19⟩ := q3
      refine s_aload_n (tb_ok aX2_readCompared_0 17 rfl) rfl ?_
      refine s_getR (r := r) (tb_ok aX2_readCompared_0 18 rfl) f_RX2_22 g1 rfl g4 ?_
      refine s_iload_n (tb_ok aX2_readCompared_0 19 rfl) rfl ?_
      refine s_bipush (v := 60) (tb_ok aX2_readCompared_0 20 rfl) (by decide) ?_
      refine s_icmp_ne (tgt := 47) (tb_ok aX2_readCompared_0 21 rfl) (by decide) (fun c38 => ?_) (fun c38 => ?_)
      · refine s_sipush (v := 30004) (tb_ok aX2_readCompared_1 0 rfl) (by decide) ?_
        refine s_cV (as := [.int (30004)]) (tb_ok aX2_readCompared_1 1 rfl) v_RX2_59 (A_addE (30004) hR h19) (by omega) g5.1 rfl rfl rfl rfl (Nat.le_of_ble_eq_true rfl) (by decide) (fun r4 S4 I4 L4 R4 q4 => ?_)
        obtain ⟨rfl, rfl, rfl, rfl, h20⟩ := q4
        refine s_vret (tb_ok aX2_readCompared_1 2 rfl) rfl ?_
        refine ⟨rfl, rfl, rfl, rfl, ?_⟩
        rw [hsq]
        exact h20
      · refine s_sipush (v := 30003) (tb_ok aX2_readCompared_0 22 rfl) (by decide) ?_
        refine s_goto (tgt := 50) (tb_ok aX2_readCompared_0 23 rfl) (by decide) ?_
        refine s_cV (as := [.int (30003)]) (tb_ok aX2_readCompared_1 1 rfl) v_RX2_59 (A_addE (30003) hR h19) (by omega) g5.1 rfl rfl rfl rfl (Nat.le_of_ble_eq_true rfl) (by decide) (fun r5 S5 I5 L5 R5 q5 => ?_)
        obtain ⟨rfl, rfl, rfl, rfl, h21⟩ := q5
        refine s_vret (tb_ok aX2_readCompared_1 2 rfl) rfl ?_
        refine ⟨rfl, rfl, rfl, rfl, ?_⟩
        rw [hsq]
        exact h21
    · refine s_iload_n (tb_ok aX2_readCompared_0 9 rfl) rfl ?_
      refine s_bipush (v := 61) (tb_ok aX2_readCompared_0 10 rfl) (by decide) ?_
      refine s_icmp_ne (tgt := 53) (tb_ok aX2_readCompared_0 11 rfl) (by decide) (fun c19 => ?_) (fun c19 => ?_)
      · refine s_vret (tb_ok aX2_readCompared_1 2 rfl) rfl ?_
        refine ⟨rfl, rfl, rfl, rfl, ?_⟩
        rw [hsq]
        exact h17
      · refine s_aload_n (tb_ok aX2_readCompared_0 12 rfl) rfl ?_
        refine s_cV (as := []) (tb_ok aX2_readCompared_0 13 rfl) v_RX2_34 (A_advE hR h17) (by omega) g1 rfl rfl rfl rfl (Nat.le_of_ble_eq_true rfl) (by decide) (fun r6 S6 I6 L6 R6 q6 => ?_)
        obtain ⟨rfl, rfl, rfl, rfl, h22⟩ := q6
        refine s_aload_n (tb_ok aX2_readCompared_0 14 rfl) rfl ?_
        refine s_iload_n (tb_ok aX2_readCompared_0 15 rfl) rfl ?_
        refine s_cV (as := [.int (nI o)]) (tb_ok aX2_readCompared_0 16 rfl) v_RX2_72 (hiE _ _ h22) (by omega) g1 rfl rfl rfl rfl (Nat.le_of_ble_eq_true rfl) (by decide) (fun r7 S7 I7 L7 R7 q7 => ?_)
        obtain ⟨rfl, rfl, rfl, rfl, h23⟩ := q7
        refine s_aload_n (tb_ok aX2_readCompared_0 17 rfl) rfl ?_
        refine s_getR (r := r) (tb_ok aX2_readCompared_0 18 rfl) f_RX2_22 g1 rfl g4 ?_
        refine s_iload_n (tb_ok aX2_readCompared_0 19 rfl) rfl ?_
        refine s_bipush (v := 60) (tb_ok aX2_readCompared_0 20 rfl) (by decide) ?_
        refine s_icmp_ne (tgt := 47) (tb_ok aX2_readCompared_0 21 rfl) (by decide) (fun c38 => ?_) (fun c38 => ?_)
        · refine s_sipush (v := 30004) (tb_ok aX2_readCompared_1 0 rfl) (by decide) ?_
          refine s_cV (as := [.int (30004)]) (tb_ok aX2_readCompared_1 1 rfl) v_RX2_59 (A_addE (30004) hR h23) (by omega) g5.1 rfl rfl rfl rfl (Nat.le_of_ble_eq_true rfl) (by decide) (fun r8 S8 I8 L8 R8 q8 => ?_)
          obtain ⟨rfl, rfl, rfl, rfl, h24⟩ := q8
          refine s_vret (tb_ok aX2_readCompared_1 2 rfl) rfl ?_
          refine ⟨rfl, rfl, rfl, rfl, ?_⟩
          rw [hsq]
          exact h24
        · refine s_sipush (v := 30003) (tb_ok aX2_readCompared_0 22 rfl) (by decide) ?_
          refine s_goto (tgt := 50) (tb_ok aX2_readCompared_0 23 rfl) (by decide) ?_
          refine s_cV (as := [.int (30003)]) (tb_ok aX2_readCompared_1 1 rfl) v_RX2_59 (A_addE (30003) hR h23) (by omega) g5.1 rfl rfl rfl rfl (Nat.le_of_ble_eq_true rfl) (by decide) (fun r9 S9 I9 L9 R9 q9 => ?_)
          obtain ⟨rfl, rfl, rfl, rfl, h25⟩ := q9
          refine s_vret (tb_ok aX2_readCompared_1 2 rfl) rfl ?_
          refine ⟨rfl, rfl, rfl, rfl, ?_⟩
          rw [hsq]
          exact h25
  | inl qq =>
    obtain ⟨c17_, v17_, s17_⟩ := qq
    rw [e17_] at h17
    obtain ⟨h17, b17_⟩ := h17
    have h17 : OKs r n I0 (acc ++ c17_) s17_ _ := h17
    have b17_ : (s).pl + c17_.length ≤ (s17_).pl := b17_
    refine s_aload_n (tb_ok aX2_readCompared_0 3 rfl) rfl ?_
    refine s_getI (x := (s17_).tok) (tb_ok aX2_readCompared_0 4 rfl) f_RX2_47 g1 rfl h17.2.2.2.2.1 ?_
    refine s_name (fun x2 ex2 => ?_)
    refine s_istore_n (ls' := [some (.ref 62), some (.int (nI o)), some (.int x2)]) (tb_ok aX2_readCompared_0 5 rfl) rfl rfl ?_
    refine s_iload_n (tb_ok aX2_readCompared_0 6 rfl) rfl ?_
    refine s_bipush (v := 60) (tb_ok aX2_readCompared_0 7 rfl) (by decide) ?_
    refine s_icmp_eq (tgt := 22) (tb_ok aX2_readCompared_0 8 rfl) (by decide) (fun c13 => ?_) (fun c13 => ?_)
    · have hop : s17_.tok = 60 ∨ s17_.tok = 61 := by rw [← ex2]; first | exact Or.inl c13 | exact Or.inr c19
      refine s_aload_n (tb_ok aX2_readCompared_0 12 rfl) rfl ?_
      refine s_cV (as := []) (tb_ok aX2_readCompared_0 13 rfl) v_RX2_34 (A_adv hR hn hn2 h17) (by omega) g1 rfl rfl rfl rfl (Nat.le_of_ble_eq_true rfl) (by decide) (fun r10 S10 I10 L10 R10 q10 => ?_)
      obtain ⟨rfl, rfl, rfl, rfl, h26⟩ := q10
      have a27 := (adv_wf (t := I0 63) h17.2.1).2.2 (by rcases hop with h_ | h_ <;> rw [h_] <;> decide)
      refine s_aload_n (tb_ok aX2_readCompared_0 14 rfl) rfl ?_
      refine s_iload_n (tb_ok aX2_readCompared_0 15 rfl) rfl ?_
      refine s_cV (as := [.int (nI o)]) (tb_ok aX2_readCompared_0 16 rfl) v_RX2_72 (hi _ _ _ h26 (by (try simp only [List.length_append, List.length_cons, List.length_nil] at *); omega)) (by omega) g1 rfl rfl rfl rfl (Nat.le_of_ble_eq_true rfl) (by decide) (fun r11 S11 I11 L11 R11 q11 => ?_)
      obtain ⟨rfl, rfl, rfl, rfl, h28⟩ := q11
      cases e28_ : P (adv (I0 63) n s17_) with
      | inr f28_ =>
        rw [e28_] at h28
        have h28 : ERs r I0 f28_ _ := h28
        have hsq : (cmpP (I0 63) n P) s = .inr f28_ := by
          unfold cmpP
          rw [e17_]
          show (if s17_.tok = 60 ∨ s17_.tok = 61 then _ else _) = _
          rw [if_pos hop, e28_]
        refine s_aload_n (tb_ok aX2_readCompared_0 17 rfl) rfl ?_
        refine s_getR (r := r) (tb_ok aX2_readCompared_0 18 rfl) f_RX2_22 g1 rfl g4 ?_
        refine s_iload_n (tb_ok aX2_readCompared_0 19 rfl) rfl ?_
        refine s_bipush (v := 60) (tb_ok aX2_readCompared_0 20 rfl) (by decide) ?_
        refine s_icmp_ne (tgt := 47) (tb_ok aX2_readCompared_0 21 rfl) (by decide) (fun c38 => ?_) (fun c38 => ?_)
        · refine s_sipush (v := 30004) (tb_ok aX2_readCompared_1 0 rfl) (by decide) ?_
          refine s_cV (as := [.int (30004)]) (tb_ok aX2_readCompared_1 1 rfl) v_RX2_59 (A_addE (30004) hR h28) (by omega) g5.1 rfl rfl rfl rfl (Nat.le_of_ble_eq_true rfl) (by decide) (fun r12 S12 I12 L12 R12 q12 => ?_)
          obtain ⟨rfl, rfl, rfl, rfl, h29⟩ := q12
          refine s_vret (tb_ok aX2_readCompared_1 2 rfl) rfl ?_
          refine ⟨rfl, rfl, rfl, rfl, ?_⟩
          rw [hsq]
          exact h29
        · refine s_sipush (v := 30003) (tb_ok aX2_readCompared_0 22 rfl) (by decide) ?_
          refine s_goto (tgt := 50) (tb_ok aX2_readCompared_0 23 rfl) (by decide) ?_
          refine s_cV (as := [.int (30003)]) (tb_ok aX2_readCompared_1 1 rfl) v_RX2_59 (A_addE (30003) hR h28) (by omega) g5.1 rfl rfl rfl rfl (Nat.le_of_ble_eq_true rfl) (by decide) (fun r13 S13 I13 L13 R13 q13 => ?_)
          obtain ⟨rfl, rfl, rfl, rfl, h30⟩ := q13
          refine s_vret (tb_ok aX2_readCompared_1 2 rfl) rfl ?_
          refine ⟨rfl, rfl, rfl, rfl, ?_⟩
          rw [hsq]
          exact h30
      | inl qq =>
        obtain ⟨c28_, v28_, s28_⟩ := qq
        rw [e28_] at h28
        obtain ⟨h28, b28_⟩ := h28
        have h28 : OKs r n I0 ((acc ++ c17_) ++ c28_) s28_ _ := h28
        have b28_ : ((adv (I0 63) n s17_)).pl + c28_.length ≤ (s28_).pl := b28_
        have hsq : (cmpP (I0 63) n P) s = .inl (c17_ ++ c28_ ++ [cdC s17_.tok], (fun nm => of2 (cdC s17_.tok) (v17_ nm) (v28_ nm)), s28_) := by
          unfold cmpP
          rw [e17_]
          show (if s17_.tok = 60 ∨ s17_.tok = 61 then _ else _) = _
          rw [if_pos hop, e28_]
        refine s_aload_n (tb_ok aX2_readCompared_0 17 rfl) rfl ?_
        refine s_getR (r := r) (tb_ok aX2_readCompared_0 18 rfl) f_RX2_22 g1 rfl g4 ?_
        refine s_iload_n (tb_ok aX2_readCompared_0 19 rfl) rfl ?_
        refine s_bipush (v := 60) (tb_ok aX2_readCompared_0 20 rfl) (by decide) ?_
        refine s_icmp_ne (tgt := 47) (tb_ok aX2_readCompared_0 21 rfl) (by decide) (fun c38 => ?_) (fun c38 => ?_)
        · refine s_sipush (v := 30004) (tb_ok aX2_readCompared_1 0 rfl) (by decide) ?_
          refine s_topi (z := cdC s17_.tok) (by unfold cdC; rw [← ex2]; exact (if_neg c38).symm) ?_
          refine s_cV (as := [.int (cdC s17_.tok)]) (tb_ok aX2_readCompared_1 1 rfl) v_RX2_59 (A_add (cdC s17_.tok) hR h28 (by have hp_ := h28.2.1.pl; have hq_ := h28.2.1.2.1; (try simp only [List.length_append, List.length_cons, List.length_nil] at *); omega)) (by omega) g5.1 rfl rfl rfl rfl (Nat.le_of_ble_eq_true rfl) (by decide) (fun r14 S14 I14 L14 R14 q14 => ?_)
          obtain ⟨rfl, rfl, rfl, rfl, h31⟩ := q14
          refine s_vret (tb_ok aX2_readCompared_1 2 rfl) rfl ?_
          refine ⟨rfl, rfl, rfl, rfl, ?_⟩
          rw [hsq]
          have h32 := h31
          rw [List.append_assoc acc, List.append_assoc acc] at h32
          exact ⟨h32, (by (try simp only [List.length_append, List.length_cons, List.length_nil] at *); omega)⟩
        · refine s_sipush (v := 30003) (tb_ok aX2_readCompared_0 22 rfl) (by decide) ?_
          refine s_topi (z := cdC s17_.tok) (by unfold cdC; rw [← ex2]; exact (if_pos c38).symm) ?_
          refine s_goto (tgt := 50) (tb_ok aX2_readCompared_0 23 rfl) (by decide) ?_
          refine s_cV (as := [.int (cdC s17_.tok)]) (tb_ok aX2_readCompared_1 1 rfl) v_RX2_59 (A_add (cdC s17_.tok) hR h28 (by have hp_ := h28.2.1.pl; have hq_ := h28.2.1.2.1; (try simp only [List.length_append, List.length_cons, List.length_nil] at *); omega)) (by omega) g5.1 rfl rfl rfl rfl (Nat.le_of_ble_eq_true rfl) (by decide) (fun r15 S15 I15 L15 R15 q15 => ?_)
          obtain ⟨rfl, rfl, rfl, rfl, h33⟩ := q15
          refine s_vret (tb_ok aX2_readCompared_1 2 rfl) rfl ?_
          refine ⟨rfl, rfl, rfl, rfl, ?_⟩
          rw [hsq]
          have h34 := h33
          rw [List.append_assoc acc, List.append_assoc acc] at h34
          exact ⟨h34, (by (try simp only [List.length_append, List.length_cons, List.length_nil] at *); omega)⟩
    · refine s_iload_n (tb_ok aX2_readCompared_0 9 rfl) rfl ?_
      refine s_bipush (v := 61) (tb_ok aX2_readCompared_0 10 rfl) (by decide) ?_
      refine s_icmp_ne (tgt := 53) (tb_ok aX2_readCompared_0 11 rfl) (by decide) (fun c19 => ?_) (fun c19 => ?_)
      · refine s_vret (tb_ok aX2_readCompared_1 2 rfl) rfl ?_
        have hsq : (cmpP (I0 63) n P) s = .inl (c17_, v17_, s17_) := by
          unfold cmpP
          rw [e17_]
          show (if s17_.tok = 60 ∨ s17_.tok = 61 then _ else _) = _
          rw [← ex2, if_neg (fun h_ => h_.elim c13 c19)]
        refine ⟨rfl, rfl, rfl, rfl, ?_⟩
        rw [hsq]
        have h35 := h17
        exact ⟨h35, (by (try simp only [List.length_append, List.length_cons, List.length_nil] at *); omega)⟩
      · have hop : s17_.tok = 60 ∨ s17_.tok = 61 := by rw [← ex2]; first | exact Or.inl c13 | exact Or.inr c19
        refine s_aload_n (tb_ok aX2_readCompared_0 12 rfl) rfl ?_
        refine s_cV (as := []) (tb_ok aX2_readCompared_0 13 rfl) v_RX2_34 (A_adv hR hn hn2 h17) (by omega) g1 rfl rfl rfl rfl (Nat.le_of_ble_eq_true rfl) (by decide) (fun r16 S16 I16 L16 R16 q16 => ?_)
        obtain ⟨rfl, rfl, rfl, rfl, h36⟩ := q16
        have a37 := (adv_wf (t := I0 63) h17.2.1).2.2 (by rcases hop with h_ | h_ <;> rw [h_] <;> decide)
        refine s_aload_n (tb_ok aX2_readCompared_0 14 rfl) rfl ?_
        refine s_iload_n (tb_ok aX2_readCompared_0 15 rfl) rfl ?_
        refine s_cV (as := [.int (nI o)]) (tb_ok aX2_readCompared_0 16 rfl) v_RX2_72 (hi _ _ _ h36 (by (try simp only [List.length_append, List.length_cons, List.length_nil] at *); omega)) (by omega) g1 rfl rfl rfl rfl (Nat.le_of_ble_eq_true rfl) (by decide) (fun r17 S17 I17 L17 R17 q17 => ?_)
        obtain ⟨rfl, rfl, rfl, rfl, h38⟩ := q17
        cases e38_ : P (adv (I0 63) n s17_) with
        | inr f38_ =>
          rw [e38_] at h38
          have h38 : ERs r I0 f38_ _ := h38
          have hsq : (cmpP (I0 63) n P) s = .inr f38_ := by
            unfold cmpP
            rw [e17_]
            show (if s17_.tok = 60 ∨ s17_.tok = 61 then _ else _) = _
            rw [if_pos hop, e38_]
          refine s_aload_n (tb_ok aX2_readCompared_0 17 rfl) rfl ?_
          refine s_getR (r := r) (tb_ok aX2_readCompared_0 18 rfl) f_RX2_22 g1 rfl g4 ?_
          refine s_iload_n (tb_ok aX2_readCompared_0 19 rfl) rfl ?_
          refine s_bipush (v := 60) (tb_ok aX2_readCompared_0 20 rfl) (by decide) ?_
          refine s_icmp_ne (tgt := 47) (tb_ok aX2_readCompared_0 21 rfl) (by decide) (fun c38 => ?_) (fun c38 => ?_)
          · refine s_sipush (v := 30004) (tb_ok aX2_readCompared_1 0 rfl) (by decide) ?_
            refine s_cV (as := [.int (30004)]) (tb_ok aX2_readCompared_1 1 rfl) v_RX2_59 (A_addE (30004) hR h38) (by omega) g5.1 rfl rfl rfl rfl (Nat.le_of_ble_eq_true rfl) (by decide) (fun r18 S18 I18 L18 R18 q18 => ?_)
            obtain ⟨rfl, rfl, rfl, rfl, h39⟩ := q18
            refine s_vret (tb_ok aX2_readCompared_1 2 rfl) rfl ?_
            refine ⟨rfl, rfl, rfl, rfl, ?_⟩
            rw [hsq]
            exact h39
          · refine s_sipush (v := 30003) (tb_ok aX2_readCompared_0 22 rfl) (by decide) ?_
            refine s_goto (tgt := 50) (tb_ok aX2_readCompared_0 23 rfl) (by decide) ?_
            refine s_cV (as := [.int (30003)]) (tb_ok aX2_readCompared_1 1 rfl) v_RX2_59 (A_addE (30003) hR h38) (by omega) g5.1 rfl rfl rfl rfl (Nat.le_of_ble_eq_true rfl) (by decide) (fun r19 S19 I19 L19 R19 q19 => ?_)
            obtain ⟨rfl, rfl, rfl, rfl, h40⟩ := q19
            refine s_vret (tb_ok aX2_readCompared_1 2 rfl) rfl ?_
            refine ⟨rfl, rfl, rfl, rfl, ?_⟩
            rw [hsq]
            exact h40
        | inl qq =>
          obtain ⟨c38_, v38_, s38_⟩ := qq
          rw [e38_] at h38
          obtain ⟨h38, b38_⟩ := h38
          have h38 : OKs r n I0 ((acc ++ c17_) ++ c38_) s38_ _ := h38
          have b38_ : ((adv (I0 63) n s17_)).pl + c38_.length ≤ (s38_).pl := b38_
          have hsq : (cmpP (I0 63) n P) s = .inl (c17_ ++ c38_ ++ [cdC s17_.tok], (fun nm => of2 (cdC s17_.tok) (v17_ nm) (v38_ nm)), s38_) := by
            unfold cmpP
            rw [e17_]
            show (if s17_.tok = 60 ∨ s17_.tok = 61 then _ else _) = _
            rw [if_pos hop, e38_]
          refine s_aload_n (tb_ok aX2_readCompared_0 17 rfl) rfl ?_
          refine s_getR (r := r) (tb_ok aX2_readCompared_0 18 rfl) f_RX2_22 g1 rfl g4 ?_
          refine s_iload_n (tb_ok aX2_readCompared_0 19 rfl) rfl ?_
          refine s_bipush (v := 60) (tb_ok aX2_readCompared_0 20 rfl) (by decide) ?_
          refine s_icmp_ne (tgt := 47) (tb_ok aX2_readCompared_0 21 rfl) (by decide) (fun c38 => ?_) (fun c38 => ?_)
          · refine s_sipush (v := 30004) (tb_ok aX2_readCompared_1 0 rfl) (by decide) ?_
            refine s_topi (z := cdC s17_.tok) (by unfold cdC; rw [← ex2]; exact (if_neg c38).symm) ?_
            refine s_cV (as := [.int (cdC s17_.tok)]) (tb_ok aX2_readCompared_1 1 rfl) v_RX2_59 (A_add (cdC s17_.tok) hR h38 (by have hp_ := h38.2.1.pl; have hq_ := h38.2.1.2.1; (try simp only [List.length_append, List.length_cons, List.length_nil] at *); omega)) (by omega) g5.1 rfl rfl rfl rfl (Nat.le_of_ble_eq_true rfl) (by decide) (fun r20 S20 I20 L20 R20 q20 => ?_)
            obtain ⟨rfl, rfl, rfl, rfl, h41⟩ := q20
            refine s_vret (tb_ok aX2_readCompared_1 2 rfl) rfl ?_
            refine ⟨rfl, rfl, rfl, rfl, ?_⟩
            rw [hsq]
            have h42 := h41
            rw [List.append_assoc acc, List.append_assoc acc] at h42
            exact ⟨h42, (by (try simp only [List.length_append, List.length_cons, List.length_nil] at *); omega)⟩
          · refine s_sipush (v := 30003) (tb_ok aX2_readCompared_0 22 rfl) (by decide) ?_
            refine s_topi (z := cdC s17_.tok) (by unfold cdC; rw [← ex2]; exact (if_pos c38).symm) ?_
            refine s_goto (tgt := 50) (tb_ok aX2_readCompared_0 23 rfl) (by decide) ?_
            refine s_cV (as := [.int (cdC s17_.tok)]) (tb_ok aX2_readCompared_1 1 rfl) v_RX2_59 (A_add (cdC s17_.tok) hR h38 (by have hp_ := h38.2.1.pl; have hq_ := h38.2.1.2.1; (try simp only [List.length_append, List.length_cons, List.length_nil] at *); omega)) (by omega) g5.1 rfl rfl rfl rfl (Nat.le_of_ble_eq_true rfl) (by decide) (fun r21 S21 I21 L21 R21 q21 => ?_)
            obtain ⟨rfl, rfl, rfl, rfl, h43⟩ := q21
            refine s_vret (tb_ok aX2_readCompared_1 2 rfl) rfl ?_
            refine ⟨rfl, rfl, rfl, rfl, ?_⟩
            rw [hsq]
            have h44 := h43
            rw [List.append_assoc acc, List.append_assoc acc] at h44
            exact ⟨h44, (by (try simp only [List.length_append, List.length_cons, List.length_nil] at *); omega)⟩

def opn (t : Nat → Int32) (n : Nat) (w : Int32) : Nat → St → Nat × St
  | 0, s => (0, s)
  | k + 1, s => if s.tok = w then ((opn t n w k (adv t n s)).1 + 1, (opn t n w k (adv t n s)).2) else (0, s)
def wrp (cd : Int32) : Nat → PR → PR
  | 0, r => r
  | m + 1, r => match wrp cd m r with
    | .inr f => .inr f
    | .inl (c, v, s) => .inl (c ++ [cd], (fun nm => of1 cd (v nm)), s)
theorem wrp_r {cd : Int32} {f : Nat} : ∀ m, wrp cd m (.inr f) = .inr f := by
  intro m
  induction m with
  | zero => rfl
  | succ m ih => rw [wrp, ih]
theorem wrp_l {cd : Int32} {c : List Int32} {v : Sem} {s : St} : ∀ m, ∃ v' : Sem, wrp cd m (.inl (c, v, s)) = .inl (c ++ List.replicate m cd, v', s) := by
  intro m
  induction m with
  | zero => exact ⟨v, by rw [wrp, List.replicate_zero, List.append_nil]⟩
  | succ m ih =>
    obtain ⟨v1, e⟩ := ih
    exact ⟨fun nm => of1 cd (v1 nm), by rw [wrp, e, List.replicate_succ', ← List.append_assoc]⟩
theorem opn_le {t : Nat → Int32} {n : Nat} {w : Int32} : ∀ (k : Nat) (s : St), (opn t n w k s).1 ≤ k := by
  intro k
  induction k with
  | zero => intro s; exact Nat.le_refl _
  | succ k ih =>
    intro s
    unfold opn
    by_cases h : s.tok = w
    · rw [if_pos h]; have := ih (adv t n s); show (opn t n w k (adv t n s)).1 + 1 ≤ k + 1; omega
    · rw [if_neg h]; exact Nat.zero_le _
theorem opn_wf {t : Nat → Int32} {n : Nat} {w : Int32} (hw : w ≠ 0) : ∀ (k : Nat) (s : St), Wf n s → Wf n (opn t n w k s).2 ∧ s.pl + (opn t n w k s).1 ≤ (opn t n w k s).2.pl := by
  intro k
  induction k with
  | zero => intro s h; exact ⟨h, Nat.le_refl _⟩
  | succ k ih =>
    intro s hs
    unfold opn
    by_cases h : s.tok = w
    · rw [if_pos h]
      obtain ⟨a1, a2, a3⟩ := adv_wf (t := t) hs
      obtain ⟨b1, b2⟩ := ih (adv t n s) a1
      have a4 := a3 (by rw [h]; exact hw)
      exact ⟨b1, by show s.pl + ((opn t n w k (adv t n s)).1 + 1) ≤ (opn t n w k (adv t n s)).2.pl; omega⟩
    · rw [if_neg h]; exact ⟨hs, Nat.le_refl _⟩
theorem not_opn {t : Nat → Int32} {n : Nat} : ∀ (k : Nat) (s : St), nottP t n (lev t n k) s = wrp 20001 (opn t n 9 k s).1 (compP t n (lev t n (k - (opn t n 9 k s).1)) (opn t n 9 k s).2) := by
  intro k
  induction k with
  | zero =>
    intro s
    show nottP t n none s = compP t n none s
    unfold nottP notP
    by_cases h : s.tok = 9
    · rw [if_pos h]
      have h1 : oneP t n none s = .inr s.pl := by
        unfold oneP
        rw [if_neg (by rw [h]; decide), if_neg (by rw [h]; decide)]
      unfold compP cmpP sumP seqP termP seqP
      simp only [h1]
    · rw [if_neg h]
  | succ k ih =>
    intro s
    unfold opn
    by_cases h : s.tok = 9
    · rw [if_pos h]
      show nottP t n (some (eithP t n (lev t n k), nottP t n (lev t n k), oneP t n (lev t n k))) s = wrp 20001 ((opn t n 9 k (adv t n s)).1 + 1) (compP t n (lev t n (k + 1 - ((opn t n 9 k (adv t n s)).1 + 1))) (opn t n 9 k (adv t n s)).2)
      rw [Nat.add_sub_add_right, wrp, ← ih (adv t n s)]
      conv => lhs; unfold nottP notP
      rw [if_pos h]
      first | done | rfl
    · rw [if_neg h]
      show nottP t n (lev t n (k + 1)) s = compP t n (lev t n (k + 1 - 0)) s
      rw [Nat.sub_zero]
      unfold nottP notP
      rw [if_neg h]
def AfOp (r n : Nat) (I0 : FI) (acc : List Int32) (m : Nat) (s : St) (S : Sh) (L : FL) (R : FR) : Pst := fun r' S' I' L' R' => r' = some (.int (nI m)) ∧ S' = S ∧ L' = L ∧ R' = R ∧ OKs r n I0 acc s I'
def AfOpE (r f : Nat) (I0 : FI) (o : Nat) (S : Sh) (L : FL) (R : FR) : Pst := fun r' S' I' L' R' => ∃ m, o + m ≤ 5 ∧ r' = some (.int (nI m)) ∧ S' = S ∧ L' = L ∧ R' = R ∧ ERs r I0 f I'
set_option maxRecDepth 100000 in
set_option maxHeartbeats 1000000 in
theorem A_open {X : En} {S : Sh} {I0 : FI} {L : FL} {R : FR} {r n : Nat} (hR : isRead S R r) (hn : I0 62 1 = nI n) (hn2 : n ≤ 160) {I : FI} {acc : List Int32} {s s' : St} {w : Int32} {o k m : Nat} (hk : o + k = 5) (h : OKs r n I0 acc s I) (ho : opn (I0 63) n w k s = (m, s')) : Ev X 7 mX2_readOpen (0, 0) [.ref 62, .int w, .int (nI o)] S I L R (AfOp r n I0 acc m s' S L R) := by
  obtain ⟨g1, g2, g3, g4, g5, g6⟩ := id hR
  have loop : ∀ k, ∀ (i : Nat) (s1 : St) (I : FI), o + i + k = 5 → OKs r n I0 acc s1 I → (opn (I0 63) n w k s1).1 + i = m → (opn (I0 63) n w k s1).2 = s' → SW X 7 mX2_readOpen (0, 0) 2 [some (.ref 62), some (.int w), some (.int (nI o)), some (.int (nI i))] [] S I L R (KQ X (AfOp r n I0 acc m s' S L R)) := by
    intro k
    induction k with
    | zero =>
      intro i s1 I hi h1 e1 e2
      refine s_iload_n (tb_ok aX2_readOpen_0 2 rfl) rfl ?_
      refine s_iload_n (tb_ok aX2_readOpen_0 3 rfl) rfl ?_
      refine s_iadd (tb_ok aX2_readOpen_0 4 rfl) ?_
      refine s_topi (z := (nI (o + i))) (nI_add' o i) ?_
      refine s_iconst (v := nI 5) (tb_ok aX2_readOpen_0 5 rfl) (by decide) ?_
      refine s_icmp_ge (tgt := 27) (tb_ok aX2_readOpen_0 6 rfl) (by decide) (fun c6 => ?_) (fun c6 => ?_)
      · refine s_iload_n (tb_ok aX2_readOpen_0 15 rfl) rfl ?_
        refine s_iret (tb_ok aX2_readOpen_0 16 rfl) rfl ?_
        first | (rw [opn, if_neg c14] at e1 e2) | rw [opn] at e1 e2
        have e1 : i = m := by rw [← e1]; exact (Nat.zero_add i).symm
        have e2 : s1 = s' := e2
        rw [e1, ← e2]
        exact ⟨rfl, rfl, rfl, rfl, h1⟩
      · exfalso
        simp (disch := omega) only [nI_leI] at c6
        omega
    | succ k ih =>
      intro i s1 I hi h1 e1 e2
      refine s_iload_n (tb_ok aX2_readOpen_0 2 rfl) rfl ?_
      refine s_iload_n (tb_ok aX2_readOpen_0 3 rfl) rfl ?_
      refine s_iadd (tb_ok aX2_readOpen_0 4 rfl) ?_
      refine s_topi (z := (nI (o + i))) (nI_add' o i) ?_
      refine s_iconst (v := nI 5) (tb_ok aX2_readOpen_0 5 rfl) (by decide) ?_
      refine s_icmp_ge (tgt := 27) (tb_ok aX2_readOpen_0 6 rfl) (by decide) (fun c6 => ?_) (fun c6 => ?_)
      · exfalso
        simp (disch := omega) only [nI_leI] at c6
        omega
      · refine s_aload_n (tb_ok aX2_readOpen_0 7 rfl) rfl ?_
        refine s_getI (x := (s1).tok) (tb_ok aX2_readOpen_0 8 rfl) f_RX2_47 g1 rfl h1.2.2.2.2.1 ?_
        refine s_iload_n (tb_ok aX2_readOpen_0 9 rfl) rfl ?_
        refine s_icmp_ne (tgt := 27) (tb_ok aX2_readOpen_0 10 rfl) (by decide) (fun c14 => ?_) (fun c14 => ?_)
        · refine s_iload_n (tb_ok aX2_readOpen_0 15 rfl) rfl ?_
          refine s_iret (tb_ok aX2_readOpen_0 16 rfl) rfl ?_
          first | (rw [opn, if_neg c14] at e1 e2) | rw [opn] at e1 e2
          have e1 : i = m := by rw [← e1]; exact (Nat.zero_add i).symm
          have e2 : s1 = s' := e2
          rw [e1, ← e2]
          exact ⟨rfl, rfl, rfl, rfl, h1⟩
        · refine s_aload_n (tb_ok aX2_readOpen_0 11 rfl) rfl ?_
          refine s_cV (as := []) (tb_ok aX2_readOpen_0 12 rfl) v_RX2_34 (A_adv hR hn hn2 h1) (by omega) g1 rfl rfl rfl rfl (Nat.le_of_ble_eq_true rfl) (by decide) (fun r1 S1 I1 L1 R1 q1 => ?_)
          obtain ⟨rfl, rfl, rfl, rfl, h45⟩ := q1
          have a46 := (adv_wf (t := I0 63) h1.2.1).2.1
          refine s_iinc (v := nI (i + 1)) (ls' := [some (.ref 62), some (.int w), some (.int (nI o)), some (.int (nI (i + 1)))]) (tb_ok aX2_readOpen_0 13 rfl) rfl (nI_1 _) rfl rfl ?_
          refine s_goto (tgt := 2) (tb_ok aX2_readOpen_0 14 rfl) (by decide) ?_
          rw [opn, if_pos c14] at e1 e2
          exact ih (i + 1) _ _ (by omega) h45 (by rw [← e1]; show _ + (i + 1) = _ + 1 + i; omega) e2
  refine ev_of (by decide +kernel) rfl ?_
  show SW X _ _ _ 0 [some (.ref 62), some (.int w), some (.int (nI o)), none] [] S I L R _
  refine s_iconst (v := nI 0) (tb_ok aX2_readOpen_0 0 rfl) (by decide) ?_
  refine s_istore_n (ls' := [some (.ref 62), some (.int w), some (.int (nI o)), some (.int (nI 0))]) (tb_ok aX2_readOpen_0 1 rfl) rfl rfl ?_
  exact loop k 0 s _ (by omega) h (congrArg Prod.fst ho) (congrArg Prod.snd ho)

set_option maxRecDepth 100000 in
set_option maxHeartbeats 1000000 in
theorem A_openE {X : En} {S : Sh} {I0 : FI} {L : FL} {R : FR} {r : Nat} (hR : isRead S R r) {I : FI} {f : Nat} {w : Int32} {o : Nat} (hk : o ≤ 5) (h : ERs r I0 f I) : Ev X 7 mX2_readOpen (0, 0) [.ref 62, .int w, .int (nI o)] S I L R (AfOpE r f I0 o S L R) := by
  obtain ⟨g1, g2, g3, g4, g5, g6⟩ := id hR
  have loop : ∀ k, ∀ (i : Nat) (I : FI), o + i + k = 5 → ERs r I0 f I → SW X 7 mX2_readOpen (0, 0) 2 [some (.ref 62), some (.int w), some (.int (nI o)), some (.int (nI i))] [] S I L R (KQ X (AfOpE r f I0 o S L R)) := by
    intro k
    induction k with
    | zero =>
      intro i I hi h1
      refine s_iload_n (tb_ok aX2_readOpen_0 2 rfl) rfl ?_
      refine s_iload_n (tb_ok aX2_readOpen_0 3 rfl) rfl ?_
      refine s_iadd (tb_ok aX2_readOpen_0 4 rfl) ?_
      refine s_topi (z := (nI (o + i))) (nI_add' o i) ?_
      refine s_iconst (v := nI 5) (tb_ok aX2_readOpen_0 5 rfl) (by decide) ?_
      refine s_icmp_ge (tgt := 27) (tb_ok aX2_readOpen_0 6 rfl) (by decide) (fun c6 => ?_) (fun c6 => ?_)
      · refine s_iload_n (tb_ok aX2_readOpen_0 15 rfl) rfl ?_
        refine s_iret (tb_ok aX2_readOpen_0 16 rfl) rfl ?_
        exact ⟨i, by omega, rfl, rfl, rfl, rfl, h1⟩
      · exfalso
        simp (disch := omega) only [nI_leI] at c6
        omega
    | succ k ih =>
      intro i I hi h1
      refine s_iload_n (tb_ok aX2_readOpen_0 2 rfl) rfl ?_
      refine s_iload_n (tb_ok aX2_readOpen_0 3 rfl) rfl ?_
      refine s_iadd (tb_ok aX2_readOpen_0 4 rfl) ?_
      refine s_topi (z := (nI (o + i))) (nI_add' o i) ?_
      refine s_iconst (v := nI 5) (tb_ok aX2_readOpen_0 5 rfl) (by decide) ?_
      refine s_icmp_ge (tgt := 27) (tb_ok aX2_readOpen_0 6 rfl) (by decide) (fun c6 => ?_) (fun c6 => ?_)
      · exfalso
        simp (disch := omega) only [nI_leI] at c6
        omega
      · refine s_aload_n (tb_ok aX2_readOpen_0 7 rfl) rfl ?_
        refine s_getI (tb_ok aX2_readOpen_0 8 rfl) f_RX2_47 g1 rfl rfl ?_
        refine s_iload_n (tb_ok aX2_readOpen_0 9 rfl) rfl ?_
        refine s_icmp_ne (tgt := 27) (tb_ok aX2_readOpen_0 10 rfl) (by decide) (fun c14 => ?_) (fun c14 => ?_)
        · refine s_iload_n (tb_ok aX2_readOpen_0 15 rfl) rfl ?_
          refine s_iret (tb_ok aX2_readOpen_0 16 rfl) rfl ?_
          exact ⟨i, by omega, rfl, rfl, rfl, rfl, h1⟩
        · refine s_aload_n (tb_ok aX2_readOpen_0 11 rfl) rfl ?_
          refine s_cV (as := []) (tb_ok aX2_readOpen_0 12 rfl) v_RX2_34 (A_advE hR h1) (by omega) g1 rfl rfl rfl rfl (Nat.le_of_ble_eq_true rfl) (by decide) (fun r1 S1 I1 L1 R1 q1 => ?_)
          obtain ⟨rfl, rfl, rfl, rfl, h47⟩ := q1
          refine s_iinc (v := nI (i + 1)) (ls' := [some (.ref 62), some (.int w), some (.int (nI o)), some (.int (nI (i + 1)))]) (tb_ok aX2_readOpen_0 13 rfl) rfl (nI_1 _) rfl rfl ?_
          refine s_goto (tgt := 2) (tb_ok aX2_readOpen_0 14 rfl) (by decide) ?_
          exact ih (i + 1) _ (by omega) h47
  refine ev_of (by decide +kernel) rfl ?_
  show SW X _ _ _ 0 [some (.ref 62), some (.int w), some (.int (nI o)), none] [] S I L R _
  refine s_iconst (v := nI 0) (tb_ok aX2_readOpen_0 0 rfl) (by decide) ?_
  refine s_istore_n (ls' := [some (.ref 62), some (.int w), some (.int (nI o)), some (.int (nI 0))]) (tb_ok aX2_readOpen_0 1 rfl) rfl rfl ?_
  exact loop (5 - o) 0 _ (by omega) h

set_option maxRecDepth 100000 in
set_option maxHeartbeats 1000000 in
theorem LCO_X2_readNot {X : En} {S : Sh} {I0 : FI} {L : FL} {R : FR} {r n : Nat} (hR : isRead S R r) (hn : I0 62 1 = nI n) (hn2 : n ≤ 160) {d o m : Nat} (hd : 0 < d) {Q : Pst} (hm : m ≤ 5) {s : St} : ∀ (j i : Nat), i + j = m → ∀ (I : FI) (acc : List Int32), OKs r n I0 acc s I → acc.length + j ≤ s.pl → (∀ I', OKs r n I0 (acc ++ List.replicate j (20001 : Int32)) s I' → Q none S I' L R) → SW X d mX2_readNot (0, 0) 17 [some (.ref 62), some (.int (nI o)), some (.int (nI m)), some (.int (nI i))] [] S I L R (KQ X Q) := by
  obtain ⟨g1, g2, g3, g4, g5, g6⟩ := id hR
  intro j
  induction j with
  | zero =>
    intro i hi I acc h hb hQ
    refine s_iload_n (tb_ok aX2_readNot_0 12 rfl) rfl ?_
    refine s_iload_n (tb_ok aX2_readNot_0 13 rfl) rfl ?_
    refine s_icmp_ge (tgt := 38) (tb_ok aX2_readNot_0 14 rfl) (by decide) (fun c19 => ?_) (fun c19 => ?_)
    · refine s_vret (tb_ok aX2_readNot_0 21 rfl) rfl ?_
      exact hQ _ (by rw [List.replicate_zero, List.append_nil]; exact h)
    · exfalso
      simp (disch := omega) only [nI_leI] at c19
      omega
  | succ j ih =>
    intro i hi I acc h hb hQ
    refine s_iload_n (tb_ok aX2_readNot_0 12 rfl) rfl ?_
    refine s_iload_n (tb_ok aX2_readNot_0 13 rfl) rfl ?_
    refine s_icmp_ge (tgt := 38) (tb_ok aX2_readNot_0 14 rfl) (by decide) (fun c19 => ?_) (fun c19 => ?_)
    · exfalso
      simp (disch := omega) only [nI_leI] at c19
      omega
    · refine s_aload_n (tb_ok aX2_readNot_0 15 rfl) rfl ?_
      refine s_getR (r := r) (tb_ok aX2_readNot_0 16 rfl) f_RX2_22 g1 rfl g4 ?_
      refine s_sipush (v := 20001) (tb_ok aX2_readNot_0 17 rfl) (by decide) ?_
      refine s_cV (as := [.int (20001)]) (tb_ok aX2_readNot_0 18 rfl) v_RX2_59 (A_add (20001) hR h (by have hp_ := h.2.1.pl; have hq_ := h.2.1.2.1; (try simp only [List.length_append, List.length_cons, List.length_nil] at *); omega)) (by omega) g5.1 rfl rfl rfl rfl (Nat.le_of_ble_eq_true rfl) (by decide) (fun r1 S1 I1 L1 R1 q1 => ?_)
      obtain ⟨rfl, rfl, rfl, rfl, h48⟩ := q1
      refine s_iinc (v := nI (i + 1)) (ls' := [some (.ref 62), some (.int (nI o)), some (.int (nI m)), some (.int (nI (i + 1)))]) (tb_ok aX2_readNot_0 19 rfl) rfl (nI_1 _) rfl rfl ?_
      refine s_goto (tgt := 17) (tb_ok aX2_readNot_0 20 rfl) (by decide) ?_
      exact ih (i + 1) (by omega) _ _ h48 (by (try simp only [List.length_append, List.length_cons, List.length_nil] at *); omega) (fun I2 h2 => hQ I2 (by rw [List.append_assoc] at h2; exact h2))

set_option maxRecDepth 100000 in
set_option maxHeartbeats 1000000 in
theorem LCE_X2_readNot {X : En} {S : Sh} {I0 : FI} {L : FL} {R : FR} {r : Nat} (hR : isRead S R r) {d o m f : Nat} (hd : 0 < d) {Q : Pst} (hm : m ≤ 5) : ∀ (j i : Nat), i + j = m → ∀ (I : FI), ERs r I0 f I → (∀ I', ERs r I0 f I' → Q none S I' L R) → SW X d mX2_readNot (0, 0) 17 [some (.ref 62), some (.int (nI o)), some (.int (nI m)), some (.int (nI i))] [] S I L R (KQ X Q) := by
  obtain ⟨g1, g2, g3, g4, g5, g6⟩ := id hR
  intro j
  induction j with
  | zero =>
    intro i hi I h hQ
    refine s_iload_n (tb_ok aX2_readNot_0 12 rfl) rfl ?_
    refine s_iload_n (tb_ok aX2_readNot_0 13 rfl) rfl ?_
    refine s_icmp_ge (tgt := 38) (tb_ok aX2_readNot_0 14 rfl) (by decide) (fun c19 => ?_) (fun c19 => ?_)
    · refine s_vret (tb_ok aX2_readNot_0 21 rfl) rfl ?_
      exact hQ _ h
    · exfalso
      simp (disch := omega) only [nI_leI] at c19
      omega
  | succ j ih =>
    intro i hi I h hQ
    refine s_iload_n (tb_ok aX2_readNot_0 12 rfl) rfl ?_
    refine s_iload_n (tb_ok aX2_readNot_0 13 rfl) rfl ?_
    refine s_icmp_ge (tgt := 38) (tb_ok aX2_readNot_0 14 rfl) (by decide) (fun c19 => ?_) (fun c19 => ?_)
    · exfalso
      simp (disch := omega) only [nI_leI] at c19
      omega
    · refine s_aload_n (tb_ok aX2_readNot_0 15 rfl) rfl ?_
      refine s_getR (r := r) (tb_ok aX2_readNot_0 16 rfl) f_RX2_22 g1 rfl g4 ?_
      refine s_sipush (v := 20001) (tb_ok aX2_readNot_0 17 rfl) (by decide) ?_
      refine s_cV (as := [.int (20001)]) (tb_ok aX2_readNot_0 18 rfl) v_RX2_59 (A_addE (20001) hR h) (by omega) g5.1 rfl rfl rfl rfl (Nat.le_of_ble_eq_true rfl) (by decide) (fun r1 S1 I1 L1 R1 q1 => ?_)
      obtain ⟨rfl, rfl, rfl, rfl, h49⟩ := q1
      refine s_iinc (v := nI (i + 1)) (ls' := [some (.ref 62), some (.int (nI o)), some (.int (nI m)), some (.int (nI (i + 1)))]) (tb_ok aX2_readNot_0 19 rfl) rfl (nI_1 _) rfl rfl ?_
      refine s_goto (tgt := 17) (tb_ok aX2_readNot_0 20 rfl) (by decide) ?_
      exact ih (i + 1) (by omega) _ h49 hQ

set_option maxRecDepth 100000 in
set_option maxHeartbeats 1000000 in
theorem CE_X2_readNot {X : En} {S : Sh} {I0 : FI} {L : FL} {R : FR} {r : Nat} (hR : isRead S R r) {d o k : Nat} (hd : 7 < d) (hk : o + k = 5) (hc : ∀ m, m ≤ k → ∃ d1, d1 < d ∧ CtE X S L R r I0 d1 mX2_readCompared (o + m)) : CtE X S L R r I0 d mX2_readNot o := by
  intro I f h
  obtain ⟨g1, g2, g3, g4, g5, g6⟩ := id hR
  refine ev_of (by decide +kernel) rfl ?_
  show SW X _ _ _ 0 [some (.ref 62), some (.int (nI o)), none, none] [] S I L R _
  refine s_aload_n (tb_ok aX2_readNot_0 0 rfl) rfl ?_
  refine s_bipush (v := 9) (tb_ok aX2_readNot_0 1 rfl) (by decide) ?_
  refine s_iload_n (tb_ok aX2_readNot_0 2 rfl) rfl ?_
  refine s_cV (as := [.int (9), .int (nI o)]) (tb_ok aX2_readNot_0 3 rfl) v_RX2_65 (A_openE hR (by omega) h) (by omega) g1 rfl rfl rfl rfl (Nat.le_of_ble_eq_true rfl) (by decide) (fun r1 S1 I1 L1 R1 q1 => ?_)
  obtain ⟨m, hm5, rfl, rfl, rfl, rfl, h50⟩ := q1
  obtain ⟨d1, hd1, hc0⟩ := hc m (by omega)
  refine s_istore_n (ls' := [some (.ref 62), some (.int (nI o)), some (.int (nI m)), none]) (tb_ok aX2_readNot_0 4 rfl) rfl rfl ?_
  refine s_aload_n (tb_ok aX2_readNot_0 5 rfl) rfl ?_
  refine s_iload_n (tb_ok aX2_readNot_0 6 rfl) rfl ?_
  refine s_iload_n (tb_ok aX2_readNot_0 7 rfl) rfl ?_
  refine s_iadd (tb_ok aX2_readNot_0 8 rfl) ?_
  refine s_topi (z := (nI (o + m))) (nI_add' o m) ?_
  refine s_cV (as := [.int (nI (o + m))]) (tb_ok aX2_readNot_0 9 rfl) v_RX2_69 (hc0 _ _ h50) (by omega) g1 rfl rfl rfl rfl (Nat.le_of_ble_eq_true rfl) (by decide) (fun r2 S2 I2 L2 R2 q2 => ?_)
  obtain ⟨rfl, rfl, rfl, rfl, h51⟩ := q2
  refine s_iconst (v := nI 0) (tb_ok aX2_readNot_0 10 rfl) (by decide) ?_
  refine s_istore_n (ls' := [some (.ref 62), some (.int (nI o)), some (.int (nI m)), some (.int (nI 0))]) (tb_ok aX2_readNot_0 11 rfl) rfl rfl ?_
  exact LCE_X2_readNot hR (by omega) (by omega) m 0 (by omega) _ h51 (fun I2 h2 => ⟨rfl, rfl, rfl, rfl, h2⟩)

set_option maxRecDepth 100000 in
set_option maxHeartbeats 1000000 in
theorem CO_X2_readNot {X : En} {S : Sh} {I0 : FI} {L : FL} {R : FR} {r n : Nat} (hR : isRead S R r) (hn : I0 62 1 = nI n) (hn2 : n ≤ 160) {d o k : Nat} (hd : 7 < d) (hk : o + k = 5) (hc : ∀ m, m ≤ k → ∃ d1, d1 < d ∧ CtO X S L R r n I0 d1 mX2_readCompared (o + m) (compP (I0 63) n (lev (I0 63) n (k - m))) ∧ CtE X S L R r I0 d1 mX2_readCompared (o + m)) : CtO X S L R r n I0 d mX2_readNot o (nottP (I0 63) n (lev (I0 63) n k)) := by
  intro I acc s h hb
  obtain ⟨g1, g2, g3, g4, g5, g6⟩ := id hR
  obtain ⟨m, s', ho⟩ : ∃ m s', opn (I0 63) n 9 k s = (m, s') := ⟨_, _, rfl⟩
  have hmk : m ≤ k := by have := opn_le (t := (I0 63)) (n := n) (w := 9) k s; rw [ho] at this; exact this
  have hwf := opn_wf (t := (I0 63)) (n := n) (w := 9) (by decide) k s h.2.1
  rw [ho] at hwf
  obtain ⟨hwf1, hwf2⟩ := hwf
  have hwf2 : s.pl + m ≤ s'.pl := hwf2
  have hno := not_opn (t := (I0 63)) (n := n) k s
  rw [ho] at hno
  have hno : (nottP (I0 63) n (lev (I0 63) n k)) s = wrp 20001 m (compP (I0 63) n (lev (I0 63) n (k - m)) s') := hno
  obtain ⟨d1, hd1, hc0, hcE0⟩ := hc m hmk
  refine ev_of (by decide +kernel) rfl ?_
  show SW X _ _ _ 0 [some (.ref 62), some (.int (nI o)), none, none] [] S I L R _
  refine s_aload_n (tb_ok aX2_readNot_0 0 rfl) rfl ?_
  refine s_bipush (v := 9) (tb_ok aX2_readNot_0 1 rfl) (by decide) ?_
  refine s_iload_n (tb_ok aX2_readNot_0 2 rfl) rfl ?_
  refine s_cV (as := [.int (9), .int (nI o)]) (tb_ok aX2_readNot_0 3 rfl) v_RX2_65 (A_open hR hn hn2 hk h ho) (by omega) g1 rfl rfl rfl rfl (Nat.le_of_ble_eq_true rfl) (by decide) (fun r1 S1 I1 L1 R1 q1 => ?_)
  obtain ⟨rfl, rfl, rfl, rfl, h52⟩ := q1
  refine s_istore_n (ls' := [some (.ref 62), some (.int (nI o)), some (.int (nI m)), none]) (tb_ok aX2_readNot_0 4 rfl) rfl rfl ?_
  refine s_aload_n (tb_ok aX2_readNot_0 5 rfl) rfl ?_
  refine s_iload_n (tb_ok aX2_readNot_0 6 rfl) rfl ?_
  refine s_iload_n (tb_ok aX2_readNot_0 7 rfl) rfl ?_
  refine s_iadd (tb_ok aX2_readNot_0 8 rfl) ?_
  refine s_topi (z := (nI (o + m))) (nI_add' o m) ?_
  refine s_cV (as := [.int (nI (o + m))]) (tb_ok aX2_readNot_0 9 rfl) v_RX2_69 (hc0 _ _ _ h52 (by (try simp only [List.length_append, List.length_cons, List.length_nil] at *); omega)) (by omega) g1 rfl rfl rfl rfl (Nat.le_of_ble_eq_true rfl) (by decide) (fun r2 S2 I2 L2 R2 q2 => ?_)
  obtain ⟨rfl, rfl, rfl, rfl, h53⟩ := q2
  cases e53_ : (compP (I0 63) n (lev (I0 63) n (k - m))) s' with
  | inr f53_ =>
    rw [e53_] at h53
    have h53 : ERs r I0 f53_ _ := h53
    have hsq : (nottP (I0 63) n (lev (I0 63) n k)) s = .inr f53_ := by rw [hno, e53_, wrp_r]
    refine s_iconst (v := nI 0) (tb_ok aX2_readNot_0 10 rfl) (by decide) ?_
    refine s_istore_n (ls' := [some (.ref 62), some (.int (nI o)), some (.int (nI m)), some (.int (nI 0))]) (tb_ok aX2_readNot_0 11 rfl) rfl rfl ?_
    refine LCE_X2_readNot hR (by omega) (by omega) m 0 (by omega) _ h53 (fun I2 h2 => ⟨rfl, rfl, rfl, rfl, ?_⟩)
    rw [hsq]
    exact h2
  | inl qq =>
    obtain ⟨c53_, v53_, s53_⟩ := qq
    rw [e53_] at h53
    obtain ⟨h53, b53_⟩ := h53
    have h53 : OKs r n I0 (acc ++ c53_) s53_ _ := h53
    have b53_ : (s').pl + c53_.length ≤ (s53_).pl := b53_
    obtain ⟨v2, ev2⟩ := wrp_l (cd := 20001) (c := c53_) (v := v53_) (s := s53_) m
    have hsq : (nottP (I0 63) n (lev (I0 63) n k)) s = .inl (c53_ ++ List.replicate m 20001, v2, s53_) := by rw [hno, e53_]; exact ev2
    refine s_iconst (v := nI 0) (tb_ok aX2_readNot_0 10 rfl) (by decide) ?_
    refine s_istore_n (ls' := [some (.ref 62), some (.int (nI o)), some (.int (nI m)), some (.int (nI 0))]) (tb_ok aX2_readNot_0 11 rfl) rfl rfl ?_
    refine LCO_X2_readNot hR hn hn2 (by omega) (by omega) m 0 (by omega) _ _ h53 (by (try simp only [List.length_append, List.length_cons, List.length_nil] at *); omega) (fun I2 h2 => ⟨rfl, rfl, rfl, rfl, ?_⟩)
    rw [hsq]
    rw [List.append_assoc] at h2
    exact ⟨h2, by simp only [List.length_append, List.length_replicate]; omega⟩
