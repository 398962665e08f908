/-! the Reader: one; all levels -/
def AfX (r n : Nat) (I0 : FI) (acc : List Int32) (s : St) (w : Int32) (S : Sh) (L : FL) (R : FR) : Pst := fun r' S' I' L' R' => r' = none ∧ S' = S ∧ L' = L ∧ R' = R ∧ (s.tok = w → OKs r n I0 acc (adv (I0 63) n s) I') ∧ (¬ s.tok = w → ERs r I0 s.pl I')
theorem A_expO {X : En} {S : Sh} {I I0 : FI} {L : FL} {R : FR} {r n : Nat} (hR : isRead S R r) (hn : I0 62 1 = nI n) (hn2 : n ≤ 160) {acc : List Int32} {s : St} {w : Int32} (h : OKs r n I0 acc s I) (hb : acc.length ≤ s.pl) : Ev X 7 mX2_expect (0, 0) [.ref 62, .int w] S I L R (AfX r n I0 acc s w S L R) := by
  by_cases hw : s.tok = w
  · exact ev_mono (A_exp hR hn hn2 h hw) (fun r' S' I' L' R' q => ⟨q.1, q.2.1, q.2.2.1, q.2.2.2.1, fun _ => q.2.2.2.2, fun h2 => absurd hw h2⟩)
  · exact ev_mono (A_expN hR hn hn2 h hb hw) (fun r' S' I' L' R' q => ⟨q.1, q.2.1, q.2.2.1, q.2.2.2.1, fun h2 => absurd h2 hw, fun _ => q.2.2.2.2⟩)
def oneQ (t : Nat → Int32) (n : Nat) (sub : Option (Pa × Pa × Pa)) : Pa := fun s =>
  if s.tok = 2 ∨ s.tok = 3 then .inl ([s.val], (fun nm => atm nm s.val), (adv t n s))
  else if s.tok = 40 then
    match sub with
    | none => .inr s.pl
    | some q =>
      match q.1 (adv t n s) with
      | .inr f => .inr f
      | .inl (c, v, s') => if s'.tok = 41 then .inl (c, v, (adv t n s')) else .inr s'.pl
  else .inr s.pl
theorem one_opn {t : Nat → Int32} {n : Nat} : ∀ (k : Nat) (s : St), oneP t n (lev t n k) s = wrp 20000 (opn t n 45 k s).1 (oneQ t n (lev t n (k - (opn t n 45 k s).1)) (opn t n 45 k s).2) := by
  intro k
  induction k with
  | zero =>
    intro s
    show oneP t n none s = oneQ t n none s
    unfold oneP oneQ
    by_cases h1 : s.tok = 2 ∨ s.tok = 3
    · rw [if_pos h1, if_pos h1]
    · rw [if_neg h1, if_neg h1]
      by_cases h2 : s.tok = 45 ∨ s.tok = 40
      · rw [if_pos h2]
        by_cases h3 : s.tok = 40
        · rw [if_pos h3]
        · rw [if_neg h3]
      · rw [if_neg h2, if_neg (fun h => h2 (Or.inr h))]
  | succ k ih =>
    intro s
    unfold opn
    by_cases h : s.tok = 45
    · rw [if_pos h]
      show oneP t n (some (eithP t n (lev t n k), nottP t n (lev t n k), oneP t n (lev t n k))) s = wrp 20000 ((opn t n 45 k (adv t n s)).1 + 1) (oneQ t n (lev t n (k + 1 - ((opn t n 45 k (adv t n s)).1 + 1))) (opn t n 45 k (adv t n s)).2)
      rw [Nat.add_sub_add_right, wrp, ← ih (adv t n s)]
      conv => lhs; unfold oneP
      rw [if_neg (by rw [h]; decide), if_pos (Or.inl h)]
      show (if s.tok = 45 then _ else _) = _
      rw [if_pos h]
      first | done | rfl
    · rw [if_neg h]
      show oneP t n (some (eithP t n (lev t n k), nottP t n (lev t n k), oneP t n (lev t n k))) s = oneQ t n (some (eithP t n (lev t n k), nottP t n (lev t n k), oneP t n (lev t n k))) s
      unfold oneP oneQ
      by_cases h1 : s.tok = 2 ∨ s.tok = 3
      · rw [if_pos h1, if_pos h1]
      · rw [if_neg h1, if_neg h1]
        by_cases h2 : s.tok = 40
        · rw [if_pos (Or.inr h2), if_pos h2]
          show (if s.tok = 45 then _ else _) = _
          rw [if_neg h]
          first | done | rfl
        · rw [if_neg (fun h3 => h3.elim h h2), if_neg h2]
set_option maxRecDepth 100000 in
set_option maxHeartbeats 1000000 in
theorem LCO_X2_readOne {X : En} {S : Sh} {I0 : FI} {L : FL} {R : FR} {r n : Nat} (hR : isRead S R r) (hn : I0 62 1 = nI n) (hn2 : n ≤ 160) {d o m : Nat} (hd : 0 < d) {Q : Pst} (hm : m ≤ 5) {s : St} : ∀ (j i : Nat), i + j = m → ∀ (I : FI) (acc : List Int32), OKs r n I0 acc s I → acc.length + j ≤ s.pl → (∀ I', OKs r n I0 (acc ++ List.replicate j (20000 : Int32)) s I' → Q none S I' L R) → SW X d mX2_readOne (0, 0) 87 [some (.ref 62), some (.int (nI o)), some (.int (nI m)), some (.int (nI (o + m))), some (.int (nI i))] [] S I L R (KQ X Q) := by
  obtain ⟨g1, g2, g3, g4, g5, g6⟩ := id hR
  intro j
  induction j with
  | zero =>
    intro i hi I acc h hb hQ
    refine s_iload (tb_ok aX2_readOne_1 23 rfl) rfl ?_
    refine s_iload_n (tb_ok aX2_readOne_2 0 rfl) rfl ?_
    refine s_icmp_ge (tgt := 109) (tb_ok aX2_readOne_2 1 rfl) (by decide) (fun c90 => ?_) (fun c90 => ?_)
    · refine s_vret (tb_ok aX2_readOne_2 8 rfl) rfl ?_
      exact hQ _ (by rw [List.replicate_zero, List.append_nil]; exact h)
    · exfalso
      simp (disch := omega) only [nI_leI] at c90
      omega
  | succ j ih =>
    intro i hi I acc h hb hQ
    refine s_iload (tb_ok aX2_readOne_1 23 rfl) rfl ?_
    refine s_iload_n (tb_ok aX2_readOne_2 0 rfl) rfl ?_
    refine s_icmp_ge (tgt := 109) (tb_ok aX2_readOne_2 1 rfl) (by decide) (fun c90 => ?_) (fun c90 => ?_)
    · exfalso
      simp (disch := omega) only [nI_leI] at c90
      omega
    · refine s_aload_n (tb_ok aX2_readOne_2 2 rfl) rfl ?_
      refine s_getR (r := r) (tb_ok aX2_readOne_2 3 rfl) f_RX2_22 g1 rfl g4 ?_
      refine s_sipush (v := 20000) (tb_ok aX2_readOne_2 4 rfl) (by decide) ?_
      refine s_cV (as := [.int (20000)]) (tb_ok aX2_readOne_2 5 rfl) v_RX2_59 (A_add (20000) hR h (by have hp_ := h.2.1.pl; have hq_ := h.2.1.2.1; (try simp only [List.length_append, List.length_cons, List.length_nil] at *); omega)) (by omega) g5.1 rfl rfl rfl rfl (Nat.le_of_ble_eq_true rfl) (by decide) (fun r1 S1 I1 L1 R1 q1 => ?_)
      obtain ⟨rfl, rfl, rfl, rfl, h1⟩ := q1
      refine s_iinc (v := nI (i + 1)) (ls' := [some (.ref 62), some (.int (nI o)), some (.int (nI m)), some (.int (nI (o + m))), some (.int (nI (i + 1)))]) (tb_ok aX2_readOne_2 6 rfl) rfl (nI_1 _) rfl rfl ?_
      refine s_goto (tgt := 87) (tb_ok aX2_readOne_2 7 rfl) (by decide) ?_
      exact ih (i + 1) (by omega) _ _ h1 (by (try simp only [List.length_append, List.length_cons, List.length_nil] at *); omega) (fun I2 h2 => hQ I2 (by rw [List.append_assoc] at h2; exact h2))

set_option maxRecDepth 100000 in
set_option maxHeartbeats 1000000 in
theorem LCE_X2_readOne {X : En} {S : Sh} {I0 : FI} {L : FL} {R : FR} {r : Nat} (hR : isRead S R r) {d o m f : Nat} (hd : 0 < d) {Q : Pst} (hm : m ≤ 5) : ∀ (j i : Nat), i + j = m → ∀ (I : FI), ERs r I0 f I → (∀ I', ERs r I0 f I' → Q none S I' L R) → SW X d mX2_readOne (0, 0) 87 [some (.ref 62), some (.int (nI o)), some (.int (nI m)), some (.int (nI (o + m))), some (.int (nI i))] [] S I L R (KQ X Q) := by
  obtain ⟨g1, g2, g3, g4, g5, g6⟩ := id hR
  intro j
  induction j with
  | zero =>
    intro i hi I h hQ
    refine s_iload (tb_ok aX2_readOne_1 23 rfl) rfl ?_
    refine s_iload_n (tb_ok aX2_readOne_2 0 rfl) rfl ?_
    refine s_icmp_ge (tgt := 109) (tb_ok aX2_readOne_2 1 rfl) (by decide) (fun c90 => ?_) (fun c90 => ?_)
    · refine s_vret (tb_ok aX2_readOne_2 8 rfl) rfl ?_
      exact hQ _ h
    · exfalso
      simp (disch := omega) only [nI_leI] at c90
      omega
  | succ j ih =>
    intro i hi I h hQ
    refine s_iload (tb_ok aX2_readOne_1 23 rfl) rfl ?_
    refine s_iload_n (tb_ok aX2_readOne_2 0 rfl) rfl ?_
    refine s_icmp_ge (tgt := 109) (tb_ok aX2_readOne_2 1 rfl) (by decide) (fun c90 => ?_) (fun c90 => ?_)
    · exfalso
      simp (disch := omega) only [nI_leI] at c90
      omega
    · refine s_aload_n (tb_ok aX2_readOne_2 2 rfl) rfl ?_
      refine s_getR (r := r) (tb_ok aX2_readOne_2 3 rfl) f_RX2_22 g1 rfl g4 ?_
      refine s_sipush (v := 20000) (tb_ok aX2_readOne_2 4 rfl) (by decide) ?_
      refine s_cV (as := [.int (20000)]) (tb_ok aX2_readOne_2 5 rfl) v_RX2_59 (A_addE (20000) hR h) (by omega) g5.1 rfl rfl rfl rfl (Nat.le_of_ble_eq_true rfl) (by decide) (fun r1 S1 I1 L1 R1 q1 => ?_)
      obtain ⟨rfl, rfl, rfl, rfl, h2⟩ := q1
      refine s_iinc (v := nI (i + 1)) (ls' := [some (.ref 62), some (.int (nI o)), some (.int (nI m)), some (.int (nI (o + m))), some (.int (nI (i + 1)))]) (tb_ok aX2_readOne_2 6 rfl) rfl (nI_1 _) rfl rfl ?_
      refine s_goto (tgt := 87) (tb_ok aX2_readOne_2 7 rfl) (by decide) ?_
      exact ih (i + 1) (by omega) _ h2 hQ

set_option maxRecDepth 100000 in
set_option maxHeartbeats 1000000 in
theorem CE_X2_readOne {X : En} {S : Sh} {I0 : FI} {L : FL} {R : FR} {r : Nat} (hR : isRead S R r) {d o k : Nat} (hd : 7 < d) (hk : o + k = 5) (hj : ∀ m, o + m < 5 → ∃ d1, d1 < d ∧ CtE X S L R r I0 d1 mX2_readEither (o + m + 1)) : CtE X S L R r I0 d mX2_readOne o := by
  intro I f h
  obtain ⟨g1, g2, g3, g4, g5, g6⟩ := id hR
  refine ev_of (by decide +kernel) rfl ?_
  show SW X _ _ _ 0 [some (.ref 62), some (.int (nI o)), none, none, none] [] S I L R _
  refine s_aload_n (tb_ok aX2_readOne_0 0 rfl) rfl ?_
  refine s_bipush (v := 45) (tb_ok aX2_readOne_0 1 rfl) (by decide) ?_
  refine s_iload_n (tb_ok aX2_readOne_0 2 rfl) rfl ?_
  refine s_cV (as := [.int (45), .int (nI o)]) (tb_ok aX2_readOne_0 3 rfl) v_RX2_65 (A_openE hR (by omega) h) (by omega) g1 rfl rfl rfl rfl (Nat.le_of_ble_eq_true rfl) (by decide) (fun r1 S1 I1 L1 R1 q1 => ?_)
  obtain ⟨m, hm5, rfl, rfl, rfl, rfl, h3⟩ := q1
  refine s_istore_n (ls' := [some (.ref 62), some (.int (nI o)), some (.int (nI m)), none, none]) (tb_ok aX2_readOne_0 4 rfl) rfl rfl ?_
  refine s_iload_n (tb_ok aX2_readOne_0 5 rfl) rfl ?_
  refine s_iload_n (tb_ok aX2_readOne_0 6 rfl) rfl ?_
  refine s_iadd (tb_ok aX2_readOne_0 7 rfl) ?_
  refine s_topi (z := (nI (o + m))) (nI_add' o m) ?_
  refine s_istore_n (ls' := [some (.ref 62), some (.int (nI o)), some (.int (nI m)), some (.int (nI (o + m))), none]) (tb_ok aX2_readOne_0 8 rfl) rfl rfl ?_
  refine s_aload_n (tb_ok aX2_readOne_0 9 rfl) rfl ?_
  refine s_getI (tb_ok aX2_readOne_0 10 rfl) f_RX2_47 g1 rfl rfl ?_
  refine s_iconst (v := 2) (tb_ok aX2_readOne_0 11 rfl) (by decide) ?_
  refine s_icmp_eq (tgt := 28) (tb_ok aX2_readOne_0 12 rfl) (by decide) (fun c17 => ?_) (fun c17 => ?_)
  · refine s_aload_n (tb_ok aX2_readOne_0 17 rfl) rfl ?_
    refine s_getR (r := r) (tb_ok aX2_readOne_0 18 rfl) f_RX2_22 g1 rfl g4 ?_
    refine s_aload_n (tb_ok aX2_readOne_0 19 rfl) rfl ?_
    refine s_getI (tb_ok aX2_readOne_0 20 rfl) f_RX2_81 g1 rfl rfl ?_
    refine s_cV (as := [_]) (tb_ok aX2_readOne_0 21 rfl) v_RX2_59 (A_addE _ hR h3) (by omega) g5.1 rfl rfl rfl rfl (Nat.le_of_ble_eq_true rfl) (by decide) (fun r2 S2 I2 L2 R2 q2 => ?_)
    obtain ⟨rfl, rfl, rfl, rfl, h4⟩ := q2
    refine s_aload_n (tb_ok aX2_readOne_0 22 rfl) rfl ?_
    refine s_cV (as := []) (tb_ok aX2_readOne_0 23 rfl) v_RX2_34 (A_advE hR h4) (by omega) g1 rfl rfl rfl rfl (Nat.le_of_ble_eq_true rfl) (by decide) (fun r3 S3 I3 L3 R3 q3 => ?_)
    obtain ⟨rfl, rfl, rfl, rfl, h5⟩ := q3
    refine s_goto (tgt := 84) (tb_ok aX2_readOne_1 0 rfl) (by decide) ?_
    refine s_iconst (v := nI 0) (tb_ok aX2_readOne_1 21 rfl) (by decide) ?_
    refine s_istore (ls' := [some (.ref 62), some (.int (nI o)), some (.int (nI m)), some (.int (nI (o + m))), some (.int (nI 0))]) (tb_ok aX2_readOne_1 22 rfl) rfl rfl ?_
    exact LCE_X2_readOne hR (by omega) (by omega) m 0 (by omega) _ h5 (fun I2 h2 => ⟨rfl, rfl, rfl, rfl, h2⟩)
  · refine s_aload_n (tb_ok aX2_readOne_0 13 rfl) rfl ?_
    refine s_getI (tb_ok aX2_readOne_0 14 rfl) f_RX2_47 g1 rfl rfl ?_
    refine s_iconst (v := 3) (tb_ok aX2_readOne_0 15 rfl) (by decide) ?_
    refine s_icmp_ne (tgt := 46) (tb_ok aX2_readOne_0 16 rfl) (by decide) (fun c25 => ?_) (fun c25 => ?_)
    · refine s_aload_n (tb_ok aX2_readOne_1 1 rfl) rfl ?_
      refine s_getI (tb_ok aX2_readOne_1 2 rfl) f_RX2_47 g1 rfl rfl ?_
      refine s_bipush (v := 40) (tb_ok aX2_readOne_1 3 rfl) (by decide) ?_
      refine s_icmp_ne (tgt := 80) (tb_ok aX2_readOne_1 4 rfl) (by decide) (fun c52 => ?_) (fun c52 => ?_)
      · refine s_aload_n (tb_ok aX2_readOne_1 19 rfl) rfl ?_
        refine s_cV (as := []) (tb_ok aX2_readOne_1 20 rfl) v_RX2_50 (A_failE hR h3) (by omega) g1 rfl rfl rfl rfl (Nat.le_of_ble_eq_true rfl) (by decide) (fun r4 S4 I4 L4 R4 q4 => ?_)
        obtain ⟨rfl, rfl, rfl, rfl, h6⟩ := q4
        refine s_iconst (v := nI 0) (tb_ok aX2_readOne_1 21 rfl) (by decide) ?_
        refine s_istore (ls' := [some (.ref 62), some (.int (nI o)), some (.int (nI m)), some (.int (nI (o + m))), some (.int (nI 0))]) (tb_ok aX2_readOne_1 22 rfl) rfl rfl ?_
        exact LCE_X2_readOne hR (by omega) (by omega) m 0 (by omega) _ h6 (fun I2 h2 => ⟨rfl, rfl, rfl, rfl, h2⟩)
      · refine s_iload_n (tb_ok aX2_readOne_1 5 rfl) rfl ?_
        refine s_iconst (v := nI 5) (tb_ok aX2_readOne_1 6 rfl) (by decide) ?_
        refine s_icmp_ge (tgt := 80) (tb_ok aX2_readOne_1 7 rfl) (by decide) (fun c57 => ?_) (fun c57 => ?_)
        · refine s_aload_n (tb_ok aX2_readOne_1 19 rfl) rfl ?_
          refine s_cV (as := []) (tb_ok aX2_readOne_1 20 rfl) v_RX2_50 (A_failE hR h3) (by omega) g1 rfl rfl rfl rfl (Nat.le_of_ble_eq_true rfl) (by decide) (fun r5 S5 I5 L5 R5 q5 => ?_)
          obtain ⟨rfl, rfl, rfl, rfl, h7⟩ := q5
          refine s_iconst (v := nI 0) (tb_ok aX2_readOne_1 21 rfl) (by decide) ?_
          refine s_istore (ls' := [some (.ref 62), some (.int (nI o)), some (.int (nI m)), some (.int (nI (o + m))), some (.int (nI 0))]) (tb_ok aX2_readOne_1 22 rfl) rfl rfl ?_
          exact LCE_X2_readOne hR (by omega) (by omega) m 0 (by omega) _ h7 (fun I2 h2 => ⟨rfl, rfl, rfl, rfl, h2⟩)
        · have hom : o + m < 5 := by
            simp (disch := omega) only [nI_leI] at c57
            omega
          obtain ⟨d1, hd1, hj0⟩ := hj m hom
          refine s_aload_n (tb_ok aX2_readOne_1 8 rfl) rfl ?_
          refine s_cV (as := []) (tb_ok aX2_readOne_1 9 rfl) v_RX2_34 (A_advE hR h3) (by omega) g1 rfl rfl rfl rfl (Nat.le_of_ble_eq_true rfl) (by decide) (fun r6 S6 I6 L6 R6 q6 => ?_)
          obtain ⟨rfl, rfl, rfl, rfl, h8⟩ := q6
          refine s_aload_n (tb_ok aX2_readOne_1 10 rfl) rfl ?_
          refine s_iload_n (tb_ok aX2_readOne_1 11 rfl) rfl ?_
          refine s_iconst (v := 1) (tb_ok aX2_readOne_1 12 rfl) (by decide) ?_
          refine s_iadd (tb_ok aX2_readOne_1 13 rfl) ?_
          refine s_topi (z := (nI (o + m + 1))) (nI_1 (o + m)) ?_
          refine s_cV (as := [.int (nI (o + m + 1))]) (tb_ok aX2_readOne_1 14 rfl) v_RX2_41 (hj0 _ _ h8) (by omega) g1 rfl rfl rfl rfl (Nat.le_of_ble_eq_true rfl) (by decide) (fun r7 S7 I7 L7 R7 q7 => ?_)
          obtain ⟨rfl, rfl, rfl, rfl, h9⟩ := q7
          refine s_aload_n (tb_ok aX2_readOne_1 15 rfl) rfl ?_
          refine s_bipush (v := 41) (tb_ok aX2_readOne_1 16 rfl) (by decide) ?_
          refine s_cV (as := [.int (41)]) (tb_ok aX2_readOne_1 17 rfl) v_RX2_37 (A_expE hR h9) (by omega) g1 rfl rfl rfl rfl (Nat.le_of_ble_eq_true rfl) (by decide) (fun r8 S8 I8 L8 R8 q8 => ?_)
          obtain ⟨rfl, rfl, rfl, rfl, h10⟩ := q8
          refine s_goto (tgt := 84) (tb_ok aX2_readOne_1 18 rfl) (by decide) ?_
          refine s_iconst (v := nI 0) (tb_ok aX2_readOne_1 21 rfl) (by decide) ?_
          refine s_istore (ls' := [some (.ref 62), some (.int (nI o)), some (.int (nI m)), some (.int (nI (o + m))), some (.int (nI 0))]) (tb_ok aX2_readOne_1 22 rfl) rfl rfl ?_
          exact LCE_X2_readOne hR (by omega) (by omega) m 0 (by omega) _ h10 (fun I2 h2 => ⟨rfl, rfl, rfl, rfl, h2⟩)
    · refine s_aload_n (tb_ok aX2_readOne_0 17 rfl) rfl ?_
      refine s_getR (r := r) (tb_ok aX2_readOne_0 18 rfl) f_RX2_22 g1 rfl g4 ?_
      refine s_aload_n (tb_ok aX2_readOne_0 19 rfl) rfl ?_
      refine s_getI (tb_ok aX2_readOne_0 20 rfl) f_RX2_81 g1 rfl rfl ?_
      refine s_cV (as := [_]) (tb_ok aX2_readOne_0 21 rfl) v_RX2_59 (A_addE _ hR h3) (by omega) g5.1 rfl rfl rfl rfl (Nat.le_of_ble_eq_true rfl) (by decide) (fun r9 S9 I9 L9 R9 q9 => ?_)
      obtain ⟨rfl, rfl, rfl, rfl, h11⟩ := q9
      refine s_aload_n (tb_ok aX2_readOne_0 22 rfl) rfl ?_
      refine s_cV (as := []) (tb_ok aX2_readOne_0 23 rfl) v_RX2_34 (A_advE hR h11) (by omega) g1 rfl rfl rfl rfl (Nat.le_of_ble_eq_true rfl) (by decide) (fun r10 S10 I10 L10 R10 q10 => ?_)
      obtain ⟨rfl, rfl, rfl, rfl, h12⟩ := q10
      refine s_goto (tgt := 84) (tb_ok aX2_readOne_1 0 rfl) (by decide) ?_
      refine s_iconst (v := nI 0) (tb_ok aX2_readOne_1 21 rfl) (by decide) ?_
      refine s_istore (ls' := [some (.ref 62), some (.int (nI o)), some (.int (nI m)), some (.int (nI (o + m))), some (.int (nI 0))]) (tb_ok aX2_readOne_1 22 rfl) rfl rfl ?_
      exact LCE_X2_readOne hR (by omega) (by omega) m 0 (by omega) _ h12 (fun I2 h2 => ⟨rfl, rfl, rfl, rfl, h2⟩)

set_option maxRecDepth 100000 in
set_option maxHeartbeats 1000000 in
theorem CO_X2_readOne {X : En} {S : Sh} {I0 : FI} {L : FL} {R : FR} {r n : Nat} (hR : isRead S R r) (hn : I0 62 1 = nI n) (hn2 : n ≤ 160) {d o k : Nat} (hd : 7 < d) (hk : o + k = 5) (hj : ∀ m, o + m < 5 → ∃ d1, d1 < d ∧ CtO X S L R r n I0 d1 mX2_readEither (o + m + 1) (eithP (I0 63) n (lev (I0 63) n (k - m - 1))) ∧ CtE X S L R r I0 d1 mX2_readEither (o + m + 1)) : CtO X S L R r n I0 d mX2_readOne o (oneP (I0 63) n (lev (I0 63) n k)) := by
  intro I acc s h hb
  obtain ⟨g1, g2, g3, g4, g5, g6⟩ := id hR
  obtain ⟨m, s', ho⟩ : ∃ m s', opn (I0 63) n 45 k s = (m, s') := ⟨_, _, rfl⟩
  have hmk : m ≤ k := by have := opn_le (t := (I0 63)) (n := n) (w := 45) k s; rw [ho] at this; exact this
  have hwf := opn_wf (t := (I0 63)) (n := n) (w := 45) (by decide) k s h.2.1
  rw [ho] at hwf
  obtain ⟨hwf1, hwf2⟩ := hwf
  have hwf2 : s.pl + m ≤ s'.pl := hwf2
  have hno := one_opn (t := (I0 63)) (n := n) k s
  rw [ho] at hno
  have hno : (oneP (I0 63) n (lev (I0 63) n k)) s = wrp 20000 m (oneQ (I0 63) n (lev (I0 63) n (k - m)) s') := hno
  refine ev_of (by decide +kernel) rfl ?_
  show SW X _ _ _ 0 [some (.ref 62), some (.int (nI o)), none, none, none] [] S I L R _
  refine s_aload_n (tb_ok aX2_readOne_0 0 rfl) rfl ?_
  refine s_bipush (v := 45) (tb_ok aX2_readOne_0 1 rfl) (by decide) ?_
  refine s_iload_n (tb_ok aX2_readOne_0 2 rfl) rfl ?_
  refine s_cV (as := [.int (45), .int (nI o)]) (tb_ok aX2_readOne_0 3 rfl) v_RX2_65 (A_open hR hn hn2 hk h ho) (by omega) g1 rfl rfl rfl rfl (Nat.le_of_ble_eq_true rfl) (by decide) (fun r1 S1 I1 L1 R1 q1 => ?_)
  obtain ⟨rfl, rfl, rfl, rfl, h13⟩ := q1
  refine s_istore_n (ls' := [some (.ref 62), some (.int (nI o)), some (.int (nI m)), none, none]) (tb_ok aX2_readOne_0 4 rfl) rfl rfl ?_
  refine s_iload_n (tb_ok aX2_readOne_0 5 rfl) rfl ?_
  refine s_iload_n (tb_ok aX2_readOne_0 6 rfl) rfl ?_
  refine s_iadd (tb_ok aX2_readOne_0 7 rfl) ?_
  refine s_topi (z := (nI (o + m))) (nI_add' o m) ?_
  refine s_istore_n (ls' := [some (.ref 62), some (.int (nI o)), some (.int (nI m)), some (.int (nI (o + m))), none]) (tb_ok aX2_readOne_0 8 rfl) rfl rfl ?_
  refine s_aload_n (tb_ok aX2_readOne_0 9 rfl) rfl ?_
  refine s_getI (x := (s').tok) (tb_ok aX2_readOne_0 10 rfl) f_RX2_47 g1 rfl h13.2.2.2.2.1 ?_
  refine s_iconst (v := 2) (tb_ok aX2_readOne_0 11 rfl) (by decide) ?_
  refine s_icmp_eq (tgt := 28) (tb_ok aX2_readOne_0 12 rfl) (by decide) (fun c17 => ?_) (fun c17 => ?_)
  · have hop : s'.tok = 2 ∨ s'.tok = 3 := by first | exact Or.inl c17 | exact Or.inr c25
    have hq : (oneQ (I0 63) n (lev (I0 63) n (k - m)) s') = .inl ([s'.val], (fun nm => atm nm s'.val), adv (I0 63) n s') := by unfold oneQ; rw [if_pos hop]
    have w_ := hwf1.2.2.1 (by rcases hop with h_ | h_ <;> rw [h_] <;> decide)
    obtain ⟨v2, ev2⟩ := wrp_l (cd := 20000) (c := [s'.val]) (v := (fun nm => atm nm s'.val)) (s := (adv (I0 63) n s')) m
    have hsq : (oneP (I0 63) n (lev (I0 63) n k)) s = .inl ([s'.val] ++ List.replicate m 20000, v2, (adv (I0 63) n s')) := by rw [hno, hq]; exact ev2
    refine s_aload_n (tb_ok aX2_readOne_0 17 rfl) rfl ?_
    refine s_getR (r := r) (tb_ok aX2_readOne_0 18 rfl) f_RX2_22 g1 rfl g4 ?_
    refine s_aload_n (tb_ok aX2_readOne_0 19 rfl) rfl ?_
    refine s_getI (x := (s').val) (tb_ok aX2_readOne_0 20 rfl) f_RX2_81 g1 rfl h13.2.2.2.2.2.1 ?_
    refine s_cV (as := [.int (s').val]) (tb_ok aX2_readOne_0 21 rfl) v_RX2_59 (A_add (s').val hR h13 (by have hp_ := h13.2.1.pl; have hq_ := h13.2.1.2.1; (try simp only [List.length_append, List.length_cons, List.length_nil] at *); omega)) (by omega) g5.1 rfl rfl rfl rfl (Nat.le_of_ble_eq_true rfl) (by decide) (fun r2 S2 I2 L2 R2 q2 => ?_)
    obtain ⟨rfl, rfl, rfl, rfl, h14⟩ := q2
    refine s_aload_n (tb_ok aX2_readOne_0 22 rfl) rfl ?_
    refine s_cV (as := []) (tb_ok aX2_readOne_0 23 rfl) v_RX2_34 (A_adv hR hn hn2 h14) (by omega) g1 rfl rfl rfl rfl (Nat.le_of_ble_eq_true rfl) (by decide) (fun r3 S3 I3 L3 R3 q3 => ?_)
    obtain ⟨rfl, rfl, rfl, rfl, h15⟩ := q3
    have a16 := (adv_wf (t := I0 63) h14.2.1).2.2 (by rcases hop with h_ | h_ <;> rw [h_] <;> decide)
    refine s_goto (tgt := 84) (tb_ok aX2_readOne_1 0 rfl) (by decide) ?_
    refine s_iconst (v := nI 0) (tb_ok aX2_readOne_1 21 rfl) (by decide) ?_
    refine s_istore (ls' := [some (.ref 62), some (.int (nI o)), some (.int (nI m)), some (.int (nI (o + m))), some (.int (nI 0))]) (tb_ok aX2_readOne_1 22 rfl) rfl rfl ?_
    refine LCO_X2_readOne hR hn hn2 (by omega) (by omega) m 0 (by omega) _ _ h15 (by (try simp only [List.length_append, List.length_cons, List.length_nil] at *); omega) (fun I2 h2 => ⟨rfl, rfl, rfl, rfl, ?_⟩)
    rw [hsq]
    rw [List.append_assoc] at h2
    exact ⟨h2, by simp only [List.length_append, List.length_replicate, List.length_cons, List.length_nil]; omega⟩
  · refine s_aload_n (tb_ok aX2_readOne_0 13 rfl) rfl ?_
    refine s_getI (x := (s').tok) (tb_ok aX2_readOne_0 14 rfl) f_RX2_47 g1 rfl h13.2.2.2.2.1 ?_
    refine s_iconst (v := 3) (tb_ok aX2_readOne_0 15 rfl) (by decide) ?_
    refine s_icmp_ne (tgt := 46) (tb_ok aX2_readOne_0 16 rfl) (by decide) (fun c25 => ?_) (fun c25 => ?_)
    · have hnn : ¬ (s'.tok = 2 ∨ s'.tok = 3) := fun h_ => h_.elim c17 c25
      refine s_aload_n (tb_ok aX2_readOne_1 1 rfl) rfl ?_
      refine s_getI (x := (s').tok) (tb_ok aX2_readOne_1 2 rfl) f_RX2_47 g1 rfl h13.2.2.2.2.1 ?_
      refine s_bipush (v := 40) (tb_ok aX2_readOne_1 3 rfl) (by decide) ?_
      refine s_icmp_ne (tgt := 80) (tb_ok aX2_readOne_1 4 rfl) (by decide) (fun c52 => ?_) (fun c52 => ?_)
      · have hq : (oneQ (I0 63) n (lev (I0 63) n (k - m)) s') = .inr s'.pl := by
          unfold oneQ
          rw [if_neg hnn]
          first | (rw [if_neg c52]; done) | (have e0 : k - m = 0 := by
                                               simp (disch := omega) only [nI_leI] at c57
                                               omega
                                             rw [if_pos c52, e0]
                                             first | done | rfl)
        have hsq : (oneP (I0 63) n (lev (I0 63) n k)) s = .inr s'.pl := by rw [hno, hq, wrp_r]
        refine s_aload_n (tb_ok aX2_readOne_1 19 rfl) rfl ?_
        refine s_cV (as := []) (tb_ok aX2_readOne_1 20 rfl) v_RX2_50 (A_fail hR hn2 h13 (by (try simp only [List.length_append, List.length_cons, List.length_nil] at *); omega)) (by omega) g1 rfl rfl rfl rfl (Nat.le_of_ble_eq_true rfl) (by decide) (fun r4 S4 I4 L4 R4 q4 => ?_)
        obtain ⟨rfl, rfl, rfl, rfl, h17⟩ := q4
        refine s_iconst (v := nI 0) (tb_ok aX2_readOne_1 21 rfl) (by decide) ?_
        refine s_istore (ls' := [some (.ref 62), some (.int (nI o)), some (.int (nI m)), some (.int (nI (o + m))), some (.int (nI 0))]) (tb_ok aX2_readOne_1 22 rfl) rfl rfl ?_
        refine LCE_X2_readOne hR (by omega) (by omega) m 0 (by omega) _ h17 (fun I2 h2 => ⟨rfl, rfl, rfl, rfl, ?_⟩)
        rw [hsq]
        exact h2
      · refine s_iload_n (tb_ok aX2_readOne_1 5 rfl) rfl ?_
        refine s_iconst (v := nI 5) (tb_ok aX2_readOne_1 6 rfl) (by decide) ?_
        refine s_icmp_ge (tgt := 80) (tb_ok aX2_readOne_1 7 rfl) (by decide) (fun c57 => ?_) (fun c57 => ?_)
        · have hq : (oneQ (I0 63) n (lev (I0 63) n (k - m)) s') = .inr s'.pl := by
            unfold oneQ
            rw [if_neg hnn]
            first | (rw [if_neg c52]; done) | (have e0 : k - m = 0 := by
                                                 simp (disch := omega) only [nI_leI] at c57
                                                 omega
                                               rw [if_pos c52, e0]
                                               first | done | rfl)
          have hsq : (oneP (I0 63) n (lev (I0 63) n k)) s = .inr s'.pl := by rw [hno, hq, wrp_r]
          refine s_aload_n (tb_ok aX2_readOne_1 19 rfl) rfl ?_
          refine s_cV (as := []) (tb_ok aX2_readOne_1 20 rfl) v_RX2_50 (A_fail hR hn2 h13 (by (try simp only [List.length_append, List.length_cons, List.length_nil] at *); omega)) (by omega) g1 rfl rfl rfl rfl (Nat.le_of_ble_eq_true rfl) (by decide) (fun r5 S5 I5 L5 R5 q5 => ?_)
          obtain ⟨rfl, rfl, rfl, rfl, h18⟩ := q5
          refine s_iconst (v := nI 0) (tb_ok aX2_readOne_1 21 rfl) (by decide) ?_
          refine s_istore (ls' := [some (.ref 62), some (.int (nI o)), some (.int (nI m)), some (.int (nI (o + m))), some (.int (nI 0))]) (tb_ok aX2_readOne_1 22 rfl) rfl rfl ?_
          refine LCE_X2_readOne hR (by omega) (by omega) m 0 (by omega) _ h18 (fun I2 h2 => ⟨rfl, rfl, rfl, rfl, ?_⟩)
          rw [hsq]
          exact h2
        · have hom : o + m < 5 := by
            simp (disch := omega) only [nI_leI] at c57
            omega
          obtain ⟨d1, hd1, hj0, hjE0⟩ := hj m hom
          obtain ⟨kk, ekk⟩ : ∃ kk, k - m = kk + 1 := ⟨k - m - 1, by omega⟩
          have eks : k - m - 1 = kk := by omega
          rw [eks] at hj0
          refine s_aload_n (tb_ok aX2_readOne_1 8 rfl) rfl ?_
          refine s_cV (as := []) (tb_ok aX2_readOne_1 9 rfl) v_RX2_34 (A_adv hR hn hn2 h13) (by omega) g1 rfl rfl rfl rfl (Nat.le_of_ble_eq_true rfl) (by decide) (fun r6 S6 I6 L6 R6 q6 => ?_)
          obtain ⟨rfl, rfl, rfl, rfl, h19⟩ := q6
          have a20 := (adv_wf (t := I0 63) h13.2.1).2.2 (by rw [c52]; decide)
          refine s_aload_n (tb_ok aX2_readOne_1 10 rfl) rfl ?_
          refine s_iload_n (tb_ok aX2_readOne_1 11 rfl) rfl ?_
          refine s_iconst (v := 1) (tb_ok aX2_readOne_1 12 rfl) (by decide) ?_
          refine s_iadd (tb_ok aX2_readOne_1 13 rfl) ?_
          refine s_topi (z := (nI (o + m + 1))) (nI_1 (o + m)) ?_
          refine s_cV (as := [.int (nI (o + m + 1))]) (tb_ok aX2_readOne_1 14 rfl) v_RX2_41 (hj0 _ _ _ h19 (by (try simp only [List.length_append, List.length_cons, List.length_nil] at *); omega)) (by omega) g1 rfl rfl rfl rfl (Nat.le_of_ble_eq_true rfl) (by decide) (fun r7 S7 I7 L7 R7 q7 => ?_)
          obtain ⟨rfl, rfl, rfl, rfl, h21⟩ := q7
          cases e21_ : (eithP (I0 63) n (lev (I0 63) n kk)) (adv (I0 63) n s') with
          | inr f21_ =>
            rw [e21_] at h21
            have h21 : ERs r I0 f21_ _ := h21
            have hq : (oneQ (I0 63) n (lev (I0 63) n (k - m)) s') = .inr f21_ := by
              rw [ekk]
              unfold oneQ
              rw [if_neg hnn, if_pos c52]
              show (match (eithP (I0 63) n (lev (I0 63) n kk)) (adv (I0 63) n s') with | .inr f => (.inr f : PR) | .inl (c, v, s2) => if s2.tok = 41 then .inl (c, v, (adv (I0 63) n s2)) else .inr s2.pl) = _
              rw [e21_]
            have hsq : (oneP (I0 63) n (lev (I0 63) n k)) s = .inr f21_ := by rw [hno, hq, wrp_r]
            refine s_aload_n (tb_ok aX2_readOne_1 15 rfl) rfl ?_
            refine s_bipush (v := 41) (tb_ok aX2_readOne_1 16 rfl) (by decide) ?_
            refine s_cV (as := [.int (41)]) (tb_ok aX2_readOne_1 17 rfl) v_RX2_37 (A_expE hR h21) (by omega) g1 rfl rfl rfl rfl (Nat.le_of_ble_eq_true rfl) (by decide) (fun r8 S8 I8 L8 R8 q8 => ?_)
            obtain ⟨rfl, rfl, rfl, rfl, h22⟩ := q8
            refine s_goto (tgt := 84) (tb_ok aX2_readOne_1 18 rfl) (by decide) ?_
            refine s_iconst (v := nI 0) (tb_ok aX2_readOne_1 21 rfl) (by decide) ?_
            refine s_istore (ls' := [some (.ref 62), some (.int (nI o)), some (.int (nI m)), some (.int (nI (o + m))), some (.int (nI 0))]) (tb_ok aX2_readOne_1 22 rfl) rfl rfl ?_
            refine LCE_X2_readOne hR (by omega) (by omega) m 0 (by omega) _ h22 (fun I2 h2 => ⟨rfl, rfl, rfl, rfl, ?_⟩)
            rw [hsq]
            exact h2
          | inl qq =>
            obtain ⟨c21_, v21_, s21_⟩ := qq
            rw [e21_] at h21
            obtain ⟨h21, b21_⟩ := h21
            have h21 : OKs r n I0 (acc ++ c21_) s21_ _ := h21
            have b21_ : ((adv (I0 63) n s')).pl + c21_.length ≤ (s21_).pl := b21_
            refine s_aload_n (tb_ok aX2_readOne_1 15 rfl) rfl ?_
            refine s_bipush (v := 41) (tb_ok aX2_readOne_1 16 rfl) (by decide) ?_
            refine s_cV (as := [.int (41)]) (tb_ok aX2_readOne_1 17 rfl) v_RX2_37 (A_expO hR hn hn2 h21 (by (try simp only [List.length_append, List.length_cons, List.length_nil] at *); omega)) (by omega) g1 rfl rfl rfl rfl (Nat.le_of_ble_eq_true rfl) (by decide) (fun r9 S9 I9 L9 R9 q9 => ?_)
            obtain ⟨rfl, rfl, rfl, rfl, h23⟩ := q9
            by_cases x24 : (s21_).tok = (41)
            · have h26 := h23.1 x24
              have a25 := (adv_wf (t := I0 63) h21.2.1).2.2 (by rw [x24]; decide)
              have hq : (oneQ (I0 63) n (lev (I0 63) n (k - m)) s') = .inl (c21_, v21_, adv (I0 63) n s21_) := by
                rw [ekk]
                unfold oneQ
                rw [if_neg hnn, if_pos c52]
                show (match (eithP (I0 63) n (lev (I0 63) n kk)) (adv (I0 63) n s') with | .inr f => (.inr f : PR) | .inl (c, v, s2) => if s2.tok = 41 then .inl (c, v, (adv (I0 63) n s2)) else .inr s2.pl) = _
                rw [e21_]
                show (if s21_.tok = 41 then _ else _) = _
                rw [if_pos x24]
              obtain ⟨v2, ev2⟩ := wrp_l (cd := 20000) (c := c21_) (v := v21_) (s := (adv (I0 63) n s21_)) m
              have hsq : (oneP (I0 63) n (lev (I0 63) n k)) s = .inl (c21_ ++ List.replicate m 20000, v2, (adv (I0 63) n s21_)) := by rw [hno, hq]; exact ev2
              refine s_goto (tgt := 84) (tb_ok aX2_readOne_1 18 rfl) (by decide) ?_
              refine s_iconst (v := nI 0) (tb_ok aX2_readOne_1 21 rfl) (by decide) ?_
              refine s_istore (ls' := [some (.ref 62), some (.int (nI o)), some (.int (nI m)), some (.int (nI (o + m))), some (.int (nI 0))]) (tb_ok aX2_readOne_1 22 rfl) rfl rfl ?_
              refine LCO_X2_readOne hR hn hn2 (by omega) (by omega) m 0 (by omega) _ _ h26 (by (try simp only [List.length_append, List.length_cons, List.length_nil] at *); omega) (fun I2 h2 => ⟨rfl, rfl, rfl, rfl, ?_⟩)
              rw [hsq]
              rw [List.append_assoc] at h2
              exact ⟨h2, by simp only [List.length_append, List.length_replicate, List.length_cons, List.length_nil]; omega⟩
            · have h27 := h23.2 x24
              have hq : (oneQ (I0 63) n (lev (I0 63) n (k - m)) s') = .inr (s21_).pl := by
                rw [ekk]
                unfold oneQ
                rw [if_neg hnn, if_pos c52]
                show (match (eithP (I0 63) n (lev (I0 63) n kk)) (adv (I0 63) n s') with | .inr f => (.inr f : PR) | .inl (c, v, s2) => if s2.tok = 41 then .inl (c, v, (adv (I0 63) n s2)) else .inr s2.pl) = _
                rw [e21_]
                show (if s21_.tok = 41 then _ else _) = _
                rw [if_neg x24]
              have hsq : (oneP (I0 63) n (lev (I0 63) n k)) s = .inr (s21_).pl := by rw [hno, hq, wrp_r]
              refine s_goto (tgt := 84) (tb_ok aX2_readOne_1 18 rfl) (by decide) ?_
              refine s_iconst (v := nI 0) (tb_ok aX2_readOne_1 21 rfl) (by decide) ?_
              refine s_istore (ls' := [some (.ref 62), some (.int (nI o)), some (.int (nI m)), some (.int (nI (o + m))), some (.int (nI 0))]) (tb_ok aX2_readOne_1 22 rfl) rfl rfl ?_
              refine LCE_X2_readOne hR (by omega) (by omega) m 0 (by omega) _ h27 (fun I2 h2 => ⟨rfl, rfl, rfl, rfl, ?_⟩)
              rw [hsq]
              exact h2
    · have hop : s'.tok = 2 ∨ s'.tok = 3 := by first | exact Or.inl c17 | exact Or.inr c25
      have hq : (oneQ (I0 63) n (lev (I0 63) n (k - m)) s') = .inl ([s'.val], (fun nm => atm nm s'.val), adv (I0 63) n s') := by unfold oneQ; rw [if_pos hop]
      have w_ := hwf1.2.2.1 (by rcases hop with h_ | h_ <;> rw [h_] <;> decide)
      obtain ⟨v2, ev2⟩ := wrp_l (cd := 20000) (c := [s'.val]) (v := (fun nm => atm nm s'.val)) (s := (adv (I0 63) n s')) m
      have hsq : (oneP (I0 63) n (lev (I0 63) n k)) s = .inl ([s'.val] ++ List.replicate m 20000, v2, (adv (I0 63) n s')) := by rw [hno, hq]; exact ev2
      refine s_aload_n (tb_ok aX2_readOne_0 17 rfl) rfl ?_
      refine s_getR (r := r) (tb_ok aX2_readOne_0 18 rfl) f_RX2_22 g1 rfl g4 ?_
      refine s_aload_n (tb_ok aX2_readOne_0 19 rfl) rfl ?_
      refine s_getI (x := (s').val) (tb_ok aX2_readOne_0 20 rfl) f_RX2_81 g1 rfl h13.2.2.2.2.2.1 ?_
      refine s_cV (as := [.int (s').val]) (tb_ok aX2_readOne_0 21 rfl) v_RX2_59 (A_add (s').val hR h13 (by have hp_ := h13.2.1.pl; have hq_ := h13.2.1.2.1; (try simp only [List.length_append, List.length_cons, List.length_nil] at *); omega)) (by omega) g5.1 rfl rfl rfl rfl (Nat.le_of_ble_eq_true rfl) (by decide) (fun r10 S10 I10 L10 R10 q10 => ?_)
      obtain ⟨rfl, rfl, rfl, rfl, h28⟩ := q10
      refine s_aload_n (tb_ok aX2_readOne_0 22 rfl) rfl ?_
      refine s_cV (as := []) (tb_ok aX2_readOne_0 23 rfl) v_RX2_34 (A_adv hR hn hn2 h28) (by omega) g1 rfl rfl rfl rfl (Nat.le_of_ble_eq_true rfl) (by decide) (fun r11 S11 I11 L11 R11 q11 => ?_)
      obtain ⟨rfl, rfl, rfl, rfl, h29⟩ := q11
      have a30 := (adv_wf (t := I0 63) h28.2.1).2.2 (by rcases hop with h_ | h_ <;> rw [h_] <;> decide)
      refine s_goto (tgt := 84) (tb_ok aX2_readOne_1 0 rfl) (by decide) ?_
      refine s_iconst (v := nI 0) (tb_ok aX2_readOne_1 21 rfl) (by decide) ?_
      refine s_istore (ls' := [some (.ref 62), some (.int (nI o)), some (.int (nI m)), some (.int (nI (o + m))), some (.int (nI 0))]) (tb_ok aX2_readOne_1 22 rfl) rfl rfl ?_
      refine LCO_X2_readOne hR hn hn2 (by omega) (by omega) m 0 (by omega) _ _ h29 (by (try simp only [List.length_append, List.length_cons, List.length_nil] at *); omega) (fun I2 h2 => ⟨rfl, rfl, rfl, rfl, ?_⟩)
      rw [hsq]
      rw [List.append_assoc] at h2
      exact ⟨h2, by simp only [List.length_append, List.length_replicate, List.length_cons, List.length_nil]; omega⟩

def AtE (X : En) (S : Sh) (L : FL) (R : FR) (r : Nat) (I0 : FI) (k : Nat) : Prop := CtE X S L R r I0 (11 + 7 * k) mX2_readCompared (5 - k) ∧ CtE X S L R r I0 (14 + 7 * k) mX2_readEither (5 - k)
theorem CE_lev {X : En} {S : Sh} {I0 : FI} {L : FL} {R : FR} {r : Nat} (hR : isRead S R r) : ∀ k, k ≤ 5 → ∀ j, j ≤ k → AtE X S L R r I0 j := by
  have up : ∀ k, k ≤ 5 → (∀ j, j < k → AtE X S L R r I0 j) → AtE X S L R r I0 k := by
    intro k hk ih
    have h1 : CtE X S L R r I0 (8 + 7 * k) mX2_readOne (5 - k) := CE_X2_readOne hR (k := k) (by omega) (by omega) (fun m hm => ⟨14 + 7 * (k - m - 1), by omega, (show 5 - (k - m - 1) = 5 - k + m + 1 by omega) ▸ (ih (k - m - 1) (by omega)).2⟩)
    have a := CE_X2_readSum hR (CE_X2_readTerm hR h1)
    have b := CE_X2_readCompared hR (d := 11 + 7 * k) (by omega) (by omega) a
    have c : CtE X S L R r I0 (12 + 7 * k) mX2_readNot (5 - k) := CE_X2_readNot hR (k := k) (by omega) (by omega) (fun m hm => by
      by_cases h0 : m = 0
      · subst h0; exact ⟨11 + 7 * k, by omega, b⟩
      · exact ⟨11 + 7 * (k - m), by omega, (show 5 - (k - m) = 5 - k + m by omega) ▸ (ih (k - m) (by omega)).1⟩)
    exact ⟨b, (show 12 + 7 * k + 1 + 1 = 14 + 7 * k by omega) ▸ CE_X2_readEither hR (CE_X2_readBoth hR c)⟩
  intro k
  induction k with
  | zero => intro hk j hj; rw [show j = 0 by omega]; exact up 0 hk (fun j h => absurd h (by omega))
  | succ k ih =>
    intro hk j hj
    by_cases e : j ≤ k
    · exact ih (by omega) j e
    · rw [show j = k + 1 by omega]; exact up (k + 1) hk (fun j h => ih (by omega) j (by omega))
def AtO (X : En) (S : Sh) (L : FL) (R : FR) (r n : Nat) (I0 : FI) (k : Nat) : Prop := CtO X S L R r n I0 (11 + 7 * k) mX2_readCompared (5 - k) (compP (I0 63) n (lev (I0 63) n k)) ∧ CtO X S L R r n I0 (14 + 7 * k) mX2_readEither (5 - k) (eithP (I0 63) n (lev (I0 63) n k))
theorem CO_lev {X : En} {S : Sh} {I0 : FI} {L : FL} {R : FR} {r n : Nat} (hR : isRead S R r) (hn : I0 62 1 = nI n) (hn2 : n ≤ 160) : ∀ k, k ≤ 5 → ∀ j, j ≤ k → AtO X S L R r n I0 j := by
  have up : ∀ k, k ≤ 5 → (∀ j, j < k → AtO X S L R r n I0 j) → AtO X S L R r n I0 k := by
    intro k hk ih
    have he : ∀ j, j ≤ 5 → AtE X S L R r I0 j := fun j hj => CE_lev hR 5 (by omega) j hj
    have h0 : CtE X S L R r I0 (8 + 7 * k) mX2_readOne (5 - k) := CE_X2_readOne hR (k := k) (by omega) (by omega) (fun m hm => ⟨14 + 7 * (k - m - 1), by omega, (show 5 - (k - m - 1) = 5 - k + m + 1 by omega) ▸ (he (k - m - 1) (by omega)).2⟩)
    have h1 : CtO X S L R r n I0 (8 + 7 * k) mX2_readOne (5 - k) (oneP (I0 63) n (lev (I0 63) n k)) := CO_X2_readOne hR hn hn2 (k := k) (by omega) (by omega) (fun m hm => ⟨14 + 7 * (k - m - 1), by omega, (show 5 - (k - m - 1) = 5 - k + m + 1 by omega) ▸ (ih (k - m - 1) (by omega)).2, (show 5 - (k - m - 1) = 5 - k + m + 1 by omega) ▸ (he (k - m - 1) (by omega)).2⟩)
    have a0 := CE_X2_readSum hR (CE_X2_readTerm hR h0)
    have a := CO_X2_readSum hR hn hn2 (by omega) (CO_X2_readTerm hR hn hn2 (by omega) h1)
    have b : CtO X S L R r n I0 (11 + 7 * k) mX2_readCompared (5 - k) (compP (I0 63) n (lev (I0 63) n k)) := CO_X2_readCompared hR hn hn2 (d := 11 + 7 * k) (by omega) (by omega) a a0
    have c : CtO X S L R r n I0 (12 + 7 * k) mX2_readNot (5 - k) (nottP (I0 63) n (lev (I0 63) n k)) := CO_X2_readNot hR hn hn2 (k := k) (by omega) (by omega) (fun m hm => by
      by_cases h0 : m = 0
      · subst h0; exact ⟨11 + 7 * k, by omega, b, (he k hk).1⟩
      · exact ⟨11 + 7 * (k - m), by omega, (show 5 - (k - m) = 5 - k + m by omega) ▸ (ih (k - m) (by omega)).1, (show 5 - (k - m) = 5 - k + m by omega) ▸ (he (k - m) (by omega)).1⟩)
    exact ⟨b, (show 12 + 7 * k + 1 + 1 = 14 + 7 * k by omega) ▸ CO_X2_readEither hR hn hn2 (by omega) (CO_X2_readBoth hR hn hn2 (by omega) c)⟩
  intro k
  induction k with
  | zero => intro hk j hj; rw [show j = 0 by omega]; exact up 0 hk (fun j h => absurd h (by omega))
  | succ k ih =>
    intro hk j hj
    by_cases e : j ≤ k
    · exact ih (by omega) j e
    · rw [show j = k + 1 by omega]; exact up (k + 1) hk (fun j h => ih (by omega) j (by omega))