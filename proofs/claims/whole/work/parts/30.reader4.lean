/-! the Reader: a text's parts, as the pure reading has them -/
def AfE (r f : Nat) (I0 : FI) (S : Sh) (L : FL) (R : FR) : Pst := fun r' S' I' L' R' => r' = none ∧ S' = S ∧ L' = L ∧ R' = R ∧ ERs r I0 f I'
def OkR (r n : Nat) (I0 : FI) (acc : List Int32) (s : St) : PR → FI → Prop
  | .inl q, I => OKs r n I0 (acc ++ q.1) q.2.2 I ∧ s.pl + q.1.length ≤ q.2.2.pl
  | .inr f, I => ERs r I0 f I
def AfO (r n : Nat) (I0 : FI) (acc : List Int32) (s : St) (res : PR) (S : Sh) (L : FL) (R : FR) : Pst := fun r' S' I' L' R' => r' = none ∧ S' = S ∧ L' = L ∧ R' = R ∧ OkR r n I0 acc s res I'
def AfS (r n : Nat) (I0 : FI) (acc : List Int32) (s : St) (S : Sh) (L : FL) (R : FR) : Pst := fun r' S' I' L' R' => r' = none ∧ S' = S ∧ L' = L ∧ R' = R ∧ OKs r n I0 acc s I'
def CtO (X : En) (S : Sh) (L : FL) (R : FR) (r n : Nat) (I0 : FI) (d : Nat) (y : MD) (o : Nat) (P : Pa) : Prop := ∀ (I : FI) (acc : List Int32) (s : St), OKs r n I0 acc s I → acc.length ≤ s.pl → Ev X d y (0, 0) [.ref 62, .int (nI o)] S I L R (AfO r n I0 acc s (P s) S L R)
def CtE (X : En) (S : Sh) (L : FL) (R : FR) (r : Nat) (I0 : FI) (d : Nat) (y : MD) (o : Nat) : Prop := ∀ (I : FI) (f : Nat), ERs r I0 f I → Ev X d y (0, 0) [.ref 62, .int (nI o)] S I L R (AfE r f I0 S L R)
theorem A_adv {X : En} {S : Sh} {I I0 : FI} {L : FL} {R : FR} {r n : Nat} {acc : List Int32} {s : St} (hR : isRead S R r) (hn : I0 62 1 = nI n) (hn2 : n ≤ 160) (h : OKs r n I0 acc s I) : Ev X 6 mX2_advance (0, 0) [.ref 62] S I L R (AfS r n I0 acc (adv (I0 63) n s) S L R) :=
  ev_mono (E_adv hR (n := n) (i := s.at_) (h.1.2.trans hn) hn2 h.2.1.2.1 h.2.2.1 h.2.2.2.2.2.2.1) (fun r' S' I' L' R' q => by
    obtain ⟨rfl, rfl, rfl, rfl, rfl⟩ := q
    exact ⟨rfl, rfl, rfl, rfl, h.go hR.2.2.2.2.2 hn⟩)
theorem A_advE {X : En} {S : Sh} {I I0 : FI} {L : FL} {R : FR} {r f : Nat} (hR : isRead S R r) (h : ERs r I0 f I) : Ev X 6 mX2_advance (0, 0) [.ref 62] S I L R (AfE r f I0 S L R) :=
  ev_mono (E_advF hR (OKs.ne (n := 0) h)) (fun r' S' I' L' R' q => by
    obtain ⟨rfl, rfl, rfl, rfl, rfl⟩ := q
    exact ⟨rfl, rfl, rfl, rfl, h⟩)
theorem A_fail {X : En} {S : Sh} {I I0 : FI} {L : FL} {R : FR} {r n : Nat} {acc : List Int32} {s : St} (hR : isRead S R r) (hn2 : n ≤ 160) (h : OKs r n I0 acc s I) (ha : acc.length ≤ s.pl) : Ev X 1 mX2_fail (0, 0) [.ref 62] S I L R (AfE r s.pl I0 S L R) :=
  ev_mono (E_fail hR) (fun r' S' I' L' R' q => by
    obtain ⟨rfl, rfl, rfl, rfl, rfl⟩ := q
    exact ⟨rfl, rfl, rfl, rfl, h.fail hR.2.2.2.2.2 hn2 (Nat.le_trans ha (Nat.le_trans h.2.1.pl hn2))⟩)
theorem A_failE {X : En} {S : Sh} {I I0 : FI} {L : FL} {R : FR} {r f : Nat} (hR : isRead S R r) (h : ERs r I0 f I) : Ev X 1 mX2_fail (0, 0) [.ref 62] S I L R (AfE r f I0 S L R) :=
  ev_mono (E_fail hR) (fun r' S' I' L' R' q => by
    obtain ⟨rfl, rfl, rfl, rfl, rfl⟩ := q
    exact ⟨rfl, rfl, rfl, rfl, h.fail⟩)
theorem A_add {X : En} {S : Sh} {I I0 : FI} {L : FL} {R : FR} {r n : Nat} {acc : List Int32} {s : St} (c : Int32) (hR : isRead S R r) (h : OKs r n I0 acc s I) (ha : acc.length < 160) : Ev X 0 mX4_add (0, 0) [.ref r, .int c] S I L R (AfS r n I0 (acc ++ [c]) s S L R) :=
  ev_mono (E_Uadd hR.2.2.2.2.1 c h.2.2.2.2.2.2.2.1 ha) (fun r' S' I' L' R' q => by
    obtain ⟨rfl, rfl, rfl, rfl, rfl⟩ := q
    exact ⟨rfl, rfl, rfl, rfl, h.lay hR.2.2.2.2.2⟩)
theorem A_addE {X : En} {S : Sh} {I I0 : FI} {L : FL} {R : FR} {r f : Nat} (c : Int32) (hR : isRead S R r) (h : ERs r I0 f I) : Ev X 0 mX4_add (0, 0) [.ref r, .int c] S I L R (AfE r f I0 S L R) := by
  obtain ⟨h1, h2, h3, k, hk, ek⟩ := id h
  by_cases h160 : k < 160
  · exact ev_mono (E_Uadd hR.2.2.2.2.1 c ek h160) (fun r' S' I' L' R' q => by
      obtain ⟨rfl, rfl, rfl, rfl, rfl⟩ := q
      exact ⟨rfl, rfl, rfl, rfl, h.lay hR.2.2.2.2.2 h160⟩)
  · exact ev_mono (E_UaddF hR.2.2.2.2.1 c ek (by omega) (by omega)) (fun r' S' I' L' R' q => by
      obtain ⟨rfl, rfl, rfl, rfl, rfl⟩ := q
      exact ⟨rfl, rfl, rfl, rfl, h⟩)
set_option maxRecDepth 100000 in
set_option maxHeartbeats 1000000 in
theorem LE_X2_readTerm {X : En} {S : Sh} {I0 : FI} {L : FL} {R : FR} {r : Nat} (hR : isRead S R r) {d o f : Nat} {Q : Pst} {I : FI} (x : Int32) (h : ERs r I0 f I) (hQ : ∀ I', ERs r I0 f I' → Q none S I' L R) : SW X d mX2_readTerm (0, 0) 7 [some (.ref 62), some (.int (nI o)), some (.int x)] [] S I L R (KQ X Q) := by
  obtain ⟨g1, g2, g3, g4, g5, g6⟩ := id hR
  refine s_iload_n (tb_ok aX2_readTerm_0 5 rfl) rfl ?_
  refine s_sipush (v := 160) (tb_ok aX2_readTerm_0 6 rfl) (by decide) ?_
  refine s_icmp_ge (tgt := 56) (tb_ok aX2_readTerm_0 7 rfl) (by decide) (fun c11 => ?_) (fun c11 => ?_)
  · refine s_vret (tb_ok aX2_readTerm_1 3 rfl) rfl ?_
    exact hQ _ h
  · refine s_aload_n (tb_ok aX2_readTerm_0 8 rfl) rfl ?_
    refine s_getI (tb_ok aX2_readTerm_0 9 rfl) f_RX2_47 g1 rfl rfl ?_
    refine s_bipush (v := 42) (tb_ok aX2_readTerm_0 10 rfl) (by decide) ?_
    refine s_icmp_ne (tgt := 56) (tb_ok aX2_readTerm_0 11 rfl) (by decide) (fun c20 => ?_) (fun c20 => ?_)
    · refine s_vret (tb_ok aX2_readTerm_1 3 rfl) rfl ?_
      exact hQ _ h
    · refine s_aload_n (tb_ok aX2_readTerm_0 12 rfl) rfl ?_
      refine s_getI (tb_ok aX2_readTerm_0 13 rfl) f_RX2_19 g1 rfl rfl ?_
      refine s_iconst (v := -1) (tb_ok aX2_readTerm_0 14 rfl) (by decide) ?_
      refine s_icmp_ne (tgt := 56) (tb_ok aX2_readTerm_0 15 rfl) (by decide) (fun c28 => ?_) (fun c28 => ?_)
      · refine s_vret (tb_ok aX2_readTerm_1 3 rfl) rfl ?_
        exact hQ _ h
      · exact absurd c28 (OKs.ne (n := 0) h)

set_option maxRecDepth 100000 in
set_option maxHeartbeats 1000000 in
theorem CE_X2_readTerm {X : En} {S : Sh} {I0 : FI} {L : FL} {R : FR} {r : Nat} (hR : isRead S R r) {d o : Nat} (hi : CtE X S L R r I0 d mX2_readOne o) : CtE X S L R r I0 (d + 1) mX2_readTerm o := by
  intro I f h
  obtain ⟨g1, g2, g3, g4, g5, g6⟩ := id hR
  refine ev_of (by decide +kernel) rfl ?_
  show SW X _ _ _ 0 [some (.ref 62), some (.int (nI o)), none] [] S I L R _
  refine s_aload_n (tb_ok aX2_readTerm_0 0 rfl) rfl ?_
  refine s_iload_n (tb_ok aX2_readTerm_0 1 rfl) rfl ?_
  refine s_cV (as := [.int (nI o)]) (tb_ok aX2_readTerm_0 2 rfl) v_RX2_78 (hi _ _ h) (by omega) g1 rfl rfl rfl rfl (Nat.le_of_ble_eq_true rfl) (by decide) (fun r1 S1 I1 L1 R1 q1 => ?_)
  obtain ⟨rfl, rfl, rfl, rfl, h1⟩ := q1
  refine s_iconst (v := 0) (tb_ok aX2_readTerm_0 3 rfl) (by decide) ?_
  refine s_istore_n (ls' := [some (.ref 62), some (.int (nI o)), some (.int (0))]) (tb_ok aX2_readTerm_0 4 rfl) rfl rfl ?_
  exact LE_X2_readTerm hR _ h1 (fun I' h' => ⟨rfl, rfl, rfl, rfl, h'⟩)

set_option maxRecDepth 100000 in
set_option maxHeartbeats 1000000 in
theorem CO_X2_readTerm {X : En} {S : Sh} {I0 : FI} {L : FL} {R : FR} {r n : Nat} (hR : isRead S R r) (hn : I0 62 1 = nI n) (hn2 : n ≤ 160) {d o : Nat} (hd : 6 ≤ d) {P : Pa} (hi : CtO X S L R r n I0 d mX2_readOne o P) : CtO X S L R r n I0 (d + 1) mX2_readTerm o (seqP (I0 63) n opT cdT P) := by
  intro I acc s h hb
  obtain ⟨g1, g2, g3, g4, g5, g6⟩ := id hR
  have loop : ∀ k, ∀ (i : Nat), i + k = 160 → ∀ (I : FI) (c : List Int32) (v : Sem) (s1 : St), OKs r n I0 (acc ++ c) s1 I → s.pl + c.length ≤ s1.pl → loopP (I0 63) n opT cdT P k c v s1 = (seqP (I0 63) n opT cdT P) s → SW X (d + 1) mX2_readTerm (0, 0) 7 [some (.ref 62), some (.int (nI o)), some (.int (nI i))] [] S I L R (KQ X (AfO r n I0 acc s ((seqP (I0 63) n opT cdT P) s) S L R)) := by
    intro k
    induction k with
    | zero =>
      intro i hik I c v s1 h1 hb1 hres
      refine s_iload_n (tb_ok aX2_readTerm_0 5 rfl) rfl ?_
      refine s_sipush (v := nI 160) (tb_ok aX2_readTerm_0 6 rfl) (by decide) ?_
      refine s_icmp_ge (tgt := 56) (tb_ok aX2_readTerm_0 7 rfl) (by decide) (fun c11 => ?_) (fun c11 => ?_)
      · refine s_vret (tb_ok aX2_readTerm_1 3 rfl) rfl ?_
        refine ⟨rfl, rfl, rfl, rfl, ?_⟩
        rw [← hres]
        exact ⟨h1, by omega⟩
      · exfalso
        have hi160 : i = 160 := by omega
        rw [hi160] at c11
        exact c11 (by decide)
    | succ k ih =>
      intro i hik I c v s1 h1 hb1 hres
      refine s_iload_n (tb_ok aX2_readTerm_0 5 rfl) rfl ?_
      refine s_sipush (v := nI 160) (tb_ok aX2_readTerm_0 6 rfl) (by decide) ?_
      refine s_icmp_ge (tgt := 56) (tb_ok aX2_readTerm_0 7 rfl) (by decide) (fun c11 => ?_) (fun c11 => ?_)
      · exfalso
        simp (disch := omega) only [nI_leI] at c11
        omega
      · refine s_aload_n (tb_ok aX2_readTerm_0 8 rfl) rfl ?_
        refine s_getI (x := (s1).tok) (tb_ok aX2_readTerm_0 9 rfl) f_RX2_47 g1 rfl h1.2.2.2.2.1 ?_
        refine s_bipush (v := 42) (tb_ok aX2_readTerm_0 10 rfl) (by decide) ?_
        refine s_icmp_ne (tgt := 56) (tb_ok aX2_readTerm_0 11 rfl) (by decide) (fun c20 => ?_) (fun c20 => ?_)
        · refine s_vret (tb_ok aX2_readTerm_1 3 rfl) rfl ?_
          refine ⟨rfl, rfl, rfl, rfl, ?_⟩
          rw [← hres]
          rw [loopP, if_neg c20]
          exact ⟨h1, by omega⟩
        · refine s_aload_n (tb_ok aX2_readTerm_0 12 rfl) rfl ?_
          refine s_getI (x := (-1)) (tb_ok aX2_readTerm_0 13 rfl) f_RX2_19 g1 rfl h1.2.2.2.2.2.2.1 ?_
          refine s_iconst (v := -1) (tb_ok aX2_readTerm_0 14 rfl) (by decide) ?_
          refine s_icmp_ne (tgt := 56) (tb_ok aX2_readTerm_0 15 rfl) (by decide) (fun c28 => ?_) (fun c28 => ?_)
          · exact absurd rfl c28
          · have hop : opT s1.tok := c20
            refine s_aload_n (tb_ok aX2_readTerm_0 16 rfl) rfl ?_
            refine s_cV (as := []) (tb_ok aX2_readTerm_0 17 rfl) v_RX2_34 (A_adv hR hn hn2 h1) (by omega) g1 rfl rfl rfl rfl (Nat.le_of_ble_eq_true rfl) (by decide) (fun r1 S1 I1 L1 R1 q1 => ?_)
            obtain ⟨rfl, rfl, rfl, rfl, h2⟩ := q1
            have a3 := (adv_wf (t := I0 63) h1.2.1).2.2 (by have h_ := hop; intro e_; rw [e_] at h_; exact absurd h_ (by decide))
            refine s_aload_n (tb_ok aX2_readTerm_0 18 rfl) rfl ?_
            refine s_iload_n (tb_ok aX2_readTerm_0 19 rfl) rfl ?_
            refine s_cV (as := [.int (nI o)]) (tb_ok aX2_readTerm_0 20 rfl) v_RX2_78 (hi _ _ _ h2 (by (try simp only [List.length_append, List.length_cons, List.length_nil] at *); omega)) (by omega) g1 rfl rfl rfl rfl (Nat.le_of_ble_eq_true rfl) (by decide) (fun r2 S2 I2 L2 R2 q2 => ?_)
            obtain ⟨rfl, rfl, rfl, rfl, h4⟩ := q2
            cases e4_ : P (adv (I0 63) n s1) with
            | inr f4_ =>
              rw [e4_] at h4
              have h4 : ERs r I0 f4_ _ := h4
              rw [loopP, if_pos hop, e4_] at hres
              refine s_aload_n (tb_ok aX2_readTerm_0 21 rfl) rfl ?_
              refine s_getR (r := r) (tb_ok aX2_readTerm_0 22 rfl) f_RX2_22 g1 rfl g4 ?_
              refine s_sipush (v := 30002) (tb_ok aX2_readTerm_0 23 rfl) (by decide) ?_
              refine s_cV (as := [.int (30002)]) (tb_ok aX2_readTerm_1 0 rfl) v_RX2_59 (A_addE (30002) hR h4) (by omega) g5.1 rfl rfl rfl rfl (Nat.le_of_ble_eq_true rfl) (by decide) (fun r3 S3 I3 L3 R3 q3 => ?_)
              obtain ⟨rfl, rfl, rfl, rfl, h5⟩ := q3
              refine s_iinc (v := nI (i + 1)) (ls' := [some (.ref 62), some (.int (nI o)), some (.int (nI (i + 1)))]) (tb_ok aX2_readTerm_1 1 rfl) rfl (nI_1 _) rfl rfl ?_
              refine s_goto (tgt := 7) (tb_ok aX2_readTerm_1 2 rfl) (by decide) ?_
              refine LE_X2_readTerm hR _ h5 (fun I' h' => ⟨rfl, rfl, rfl, rfl, ?_⟩)
              rw [← hres]
              exact h'
            | inl qq =>
              obtain ⟨c4_, v4_, s4_⟩ := qq
              rw [e4_] at h4
              obtain ⟨h4, b4_⟩ := h4
              have h4 : OKs r n I0 ((acc ++ c) ++ c4_) s4_ _ := h4
              have b4_ : ((adv (I0 63) n s1)).pl + c4_.length ≤ (s4_).pl := b4_
              rw [loopP, if_pos hop, e4_] at hres
              refine s_aload_n (tb_ok aX2_readTerm_0 21 rfl) rfl ?_
              refine s_getR (r := r) (tb_ok aX2_readTerm_0 22 rfl) f_RX2_22 g1 rfl g4 ?_
              refine s_sipush (v := 30002) (tb_ok aX2_readTerm_0 23 rfl) (by decide) ?_
              refine s_cV (as := [.int (30002)]) (tb_ok aX2_readTerm_1 0 rfl) v_RX2_59 (A_add (30002) hR h4 (by have hp_ := h4.2.1.pl; have hq_ := h4.2.1.2.1; (try simp only [List.length_append, List.length_cons, List.length_nil] at *); omega)) (by omega) g5.1 rfl rfl rfl rfl (Nat.le_of_ble_eq_true rfl) (by decide) (fun r4 S4 I4 L4 R4 q4 => ?_)
              obtain ⟨rfl, rfl, rfl, rfl, h6⟩ := q4
              refine s_iinc (v := nI (i + 1)) (ls' := [some (.ref 62), some (.int (nI o)), some (.int (nI (i + 1)))]) (tb_ok aX2_readTerm_1 1 rfl) rfl (nI_1 _) rfl rfl ?_
              refine s_goto (tgt := 7) (tb_ok aX2_readTerm_1 2 rfl) (by decide) ?_
              have h7 := h6
              rw [List.append_assoc acc, List.append_assoc acc] at h7
              refine ih (i + 1) (by omega) _ _ _ _ h7 (by (try simp only [List.length_append, List.length_cons, List.length_nil] at *); omega) hres
  refine ev_of (by decide +kernel) rfl ?_
  show SW X _ _ _ 0 [some (.ref 62), some (.int (nI o)), none] [] S I L R _
  refine s_aload_n (tb_ok aX2_readTerm_0 0 rfl) rfl ?_
  refine s_iload_n (tb_ok aX2_readTerm_0 1 rfl) rfl ?_
  refine s_cV (as := [.int (nI o)]) (tb_ok aX2_readTerm_0 2 rfl) v_RX2_78 (hi _ _ _ h (by (try simp only [List.length_append, List.length_cons, List.length_nil] at *); omega)) (by omega) g1 rfl rfl rfl rfl (Nat.le_of_ble_eq_true rfl) (by decide) (fun r1 S1 I1 L1 R1 q1 => ?_)
  obtain ⟨rfl, rfl, rfl, rfl, h8⟩ := q1
  cases e8_ : P s with
  | inr f8_ =>
    rw [e8_] at h8
    have h8 : ERs r I0 f8_ _ := h8
    have hsq : (seqP (I0 63) n opT cdT P) s = .inr f8_ := by unfold seqP; rw [e8_]
    refine s_iconst (v := nI 0) (tb_ok aX2_readTerm_0 3 rfl) (by decide) ?_
    refine s_istore_n (ls' := [some (.ref 62), some (.int (nI o)), some (.int (nI 0))]) (tb_ok aX2_readTerm_0 4 rfl) rfl rfl ?_
    refine LE_X2_readTerm hR _ h8 (fun I' h' => ⟨rfl, rfl, rfl, rfl, ?_⟩)
    rw [hsq]
    exact h'
  | inl qq =>
    obtain ⟨c8_, v8_, s8_⟩ := qq
    rw [e8_] at h8
    obtain ⟨h8, b8_⟩ := h8
    have h8 : OKs r n I0 (acc ++ c8_) s8_ _ := h8
    have b8_ : (s).pl + c8_.length ≤ (s8_).pl := b8_
    have hsq : (seqP (I0 63) n opT cdT P) s = loopP (I0 63) n opT cdT P 160 c8_ v8_ s8_ := by unfold seqP; rw [e8_]
    refine s_iconst (v := nI 0) (tb_ok aX2_readTerm_0 3 rfl) (by decide) ?_
    refine s_istore_n (ls' := [some (.ref 62), some (.int (nI o)), some (.int (nI 0))]) (tb_ok aX2_readTerm_0 4 rfl) rfl rfl ?_
    exact loop 160 0 (by omega) _ _ _ _ h8 (by (try simp only [List.length_append, List.length_cons, List.length_nil] at *); omega) hsq.symm

set_option maxRecDepth 100000 in
set_option maxHeartbeats 1000000 in
theorem LE_X2_readBoth {X : En} {S : Sh} {I0 : FI} {L : FL} {R : FR} {r : Nat} (hR : isRead S R r) {d o f : Nat} {Q : Pst} {I : FI} (x : Int32) (h : ERs r I0 f I) (hQ : ∀ I', ERs r I0 f I' → Q none S I' L R) : SW X d mX2_readBoth (0, 0) 7 [some (.ref 62), some (.int (nI o)), some (.int x)] [] S I L R (KQ X Q) := by
  obtain ⟨g1, g2, g3, g4, g5, g6⟩ := id hR
  refine s_iload_n (tb_ok aX2_readBoth_0 5 rfl) rfl ?_
  refine s_sipush (v := 160) (tb_ok aX2_readBoth_0 6 rfl) (by decide) ?_
  refine s_icmp_ge (tgt := 56) (tb_ok aX2_readBoth_0 7 rfl) (by decide) (fun c11 => ?_) (fun c11 => ?_)
  · refine s_vret (tb_ok aX2_readBoth_1 3 rfl) rfl ?_
    exact hQ _ h
  · refine s_aload_n (tb_ok aX2_readBoth_0 8 rfl) rfl ?_
    refine s_getI (tb_ok aX2_readBoth_0 9 rfl) f_RX2_47 g1 rfl rfl ?_
    refine s_bipush (v := 8) (tb_ok aX2_readBoth_0 10 rfl) (by decide) ?_
    refine s_icmp_ne (tgt := 56) (tb_ok aX2_readBoth_0 11 rfl) (by decide) (fun c20 => ?_) (fun c20 => ?_)
    · refine s_vret (tb_ok aX2_readBoth_1 3 rfl) rfl ?_
      exact hQ _ h
    · refine s_aload_n (tb_ok aX2_readBoth_0 12 rfl) rfl ?_
      refine s_getI (tb_ok aX2_readBoth_0 13 rfl) f_RX2_19 g1 rfl rfl ?_
      refine s_iconst (v := -1) (tb_ok aX2_readBoth_0 14 rfl) (by decide) ?_
      refine s_icmp_ne (tgt := 56) (tb_ok aX2_readBoth_0 15 rfl) (by decide) (fun c28 => ?_) (fun c28 => ?_)
      · refine s_vret (tb_ok aX2_readBoth_1 3 rfl) rfl ?_
        exact hQ _ h
      · exact absurd c28 (OKs.ne (n := 0) h)

set_option maxRecDepth 100000 in
set_option maxHeartbeats 1000000 in
theorem CE_X2_readBoth {X : En} {S : Sh} {I0 : FI} {L : FL} {R : FR} {r : Nat} (hR : isRead S R r) {d o : Nat} (hi : CtE X S L R r I0 d mX2_readNot o) : CtE X S L R r I0 (d + 1) mX2_readBoth o := by
  intro I f h
  obtain ⟨g1, g2, g3, g4, g5, g6⟩ := id hR
  refine ev_of (by decide +kernel) rfl ?_
  show SW X _ _ _ 0 [some (.ref 62), some (.int (nI o)), none] [] S I L R _
  refine s_aload_n (tb_ok aX2_readBoth_0 0 rfl) rfl ?_
  refine s_iload_n (tb_ok aX2_readBoth_0 1 rfl) rfl ?_
  refine s_cV (as := [.int (nI o)]) (tb_ok aX2_readBoth_0 2 rfl) v_RX2_62 (hi _ _ h) (by omega) g1 rfl rfl rfl rfl (Nat.le_of_ble_eq_true rfl) (by decide) (fun r1 S1 I1 L1 R1 q1 => ?_)
  obtain ⟨rfl, rfl, rfl, rfl, h9⟩ := q1
  refine s_iconst (v := 0) (tb_ok aX2_readBoth_0 3 rfl) (by decide) ?_
  refine s_istore_n (ls' := [some (.ref 62), some (.int (nI o)), some (.int (0))]) (tb_ok aX2_readBoth_0 4 rfl) rfl rfl ?_
  exact LE_X2_readBoth hR _ h9 (fun I' h' => ⟨rfl, rfl, rfl, rfl, h'⟩)

set_option maxRecDepth 100000 in
set_option maxHeartbeats 1000000 in
theorem CO_X2_readBoth {X : En} {S : Sh} {I0 : FI} {L : FL} {R : FR} {r n : Nat} (hR : isRead S R r) (hn : I0 62 1 = nI n) (hn2 : n ≤ 160) {d o : Nat} (hd : 6 ≤ d) {P : Pa} (hi : CtO X S L R r n I0 d mX2_readNot o P) : CtO X S L R r n I0 (d + 1) mX2_readBoth o (seqP (I0 63) n opB cdB P) := by
  intro I acc s h hb
  obtain ⟨g1, g2, g3, g4, g5, g6⟩ := id hR
  have loop : ∀ k, ∀ (i : Nat), i + k = 160 → ∀ (I : FI) (c : List Int32) (v : Sem) (s1 : St), OKs r n I0 (acc ++ c) s1 I → s.pl + c.length ≤ s1.pl → loopP (I0 63) n opB cdB P k c v s1 = (seqP (I0 63) n opB cdB P) s → SW X (d + 1) mX2_readBoth (0, 0) 7 [some (.ref 62), some (.int (nI o)), some (.int (nI i))] [] S I L R (KQ X (AfO r n I0 acc s ((seqP (I0 63) n opB cdB P) s) S L R)) := by
    intro k
    induction k with
    | zero =>
      intro i hik I c v s1 h1 hb1 hres
      refine s_iload_n (tb_ok aX2_readBoth_0 5 rfl) rfl ?_
      refine s_sipush (v := nI 160) (tb_ok aX2_readBoth_0 6 rfl) (by decide) ?_
      refine s_icmp_ge (tgt := 56) (tb_ok aX2_readBoth_0 7 rfl) (by decide) (fun c11 => ?_) (fun c11 => ?_)
      · refine s_vret (tb_ok aX2_readBoth_1 3 rfl) rfl ?_
        refine ⟨rfl, rfl, rfl, rfl, ?_⟩
        rw [← hres]
        exact ⟨h1, by omega⟩
      · exfalso
        have hi160 : i = 160 := by omega
        rw [hi160] at c11
        exact c11 (by decide)
    | succ k ih =>
      intro i hik I c v s1 h1 hb1 hres
      refine s_iload_n (tb_ok aX2_readBoth_0 5 rfl) rfl ?_
      refine s_sipush (v := nI 160) (tb_ok aX2_readBoth_0 6 rfl) (by decide) ?_
      refine s_icmp_ge (tgt := 56) (tb_ok aX2_readBoth_0 7 rfl) (by decide) (fun c11 => ?_) (fun c11 => ?_)
      · exfalso
        simp (disch := omega) only [nI_leI] at c11
        omega
      · refine s_aload_n (tb_ok aX2_readBoth_0 8 rfl) rfl ?_
        refine s_getI (x := (s1).tok) (tb_ok aX2_readBoth_0 9 rfl) f_RX2_47 g1 rfl h1.2.2.2.2.1 ?_
        refine s_bipush (v := 8) (tb_ok aX2_readBoth_0 10 rfl) (by decide) ?_
        refine s_icmp_ne (tgt := 56) (tb_ok aX2_readBoth_0 11 rfl) (by decide) (fun c20 => ?_) (fun c20 => ?_)
        · refine s_vret (tb_ok aX2_readBoth_1 3 rfl) rfl ?_
          refine ⟨rfl, rfl, rfl, rfl, ?_⟩
          rw [← hres]
          rw [loopP, if_neg c20]
          exact ⟨h1, by omega⟩
        · refine s_aload_n (tb_ok aX2_readBoth_0 12 rfl) rfl ?_
          refine s_getI (x := (-1)) (tb_ok aX2_readBoth_0 13 rfl) f_RX2_19 g1 rfl h1.2.2.2.2.2.2.1 ?_
          refine s_iconst (v := -1) (tb_ok aX2_readBoth_0 14 rfl) (by decide) ?_
          refine s_icmp_ne (tgt := 56) (tb_ok aX2_readBoth_0 15 rfl) (by decide) (fun c28 => ?_) (fun c28 => ?_)
          · exact absurd rfl c28
          · have hop : opB s1.tok := c20
            refine s_aload_n (tb_ok aX2_readBoth_0 16 rfl) rfl ?_
            refine s_cV (as := []) (tb_ok aX2_readBoth_0 17 rfl) v_RX2_34 (A_adv hR hn hn2 h1) (by omega) g1 rfl rfl rfl rfl (Nat.le_of_ble_eq_true rfl) (by decide) (fun r1 S1 I1 L1 R1 q1 => ?_)
            obtain ⟨rfl, rfl, rfl, rfl, h10⟩ := q1
            have a11 := (adv_wf (t := I0 63) h1.2.1).2.2 (by have h_ := hop; intro e_; rw [e_] at h_; exact absurd h_ (by decide))
            refine s_aload_n (tb_ok aX2_readBoth_0 18 rfl) rfl ?_
            refine s_iload_n (tb_ok aX2_readBoth_0 19 rfl) rfl ?_
            refine s_cV (as := [.int (nI o)]) (tb_ok aX2_readBoth_0 20 rfl) v_RX2_62 (hi _ _ _ h10 (by (try simp only [List.length_append, List.length_cons, List.length_nil] at *); omega)) (by omega) g1 rfl rfl rfl rfl (Nat.le_of_ble_eq_true rfl) (by decide) (fun r2 S2 I2 L2 R2 q2 => ?_)
            obtain ⟨rfl, rfl, rfl, rfl, h12⟩ := q2
            cases e12_ : P (adv (I0 63) n s1) with
            | inr f12_ =>
              rw [e12_] at h12
              have h12 : ERs r I0 f12_ _ := h12
              rw [loopP, if_pos hop, e12_] at hres
              refine s_aload_n (tb_ok aX2_readBoth_0 21 rfl) rfl ?_
              refine s_getR (r := r) (tb_ok aX2_readBoth_0 22 rfl) f_RX2_22 g1 rfl g4 ?_
              refine s_sipush (v := 30005) (tb_ok aX2_readBoth_0 23 rfl) (by decide) ?_
              refine s_cV (as := [.int (30005)]) (tb_ok aX2_readBoth_1 0 rfl) v_RX2_59 (A_addE (30005) hR h12) (by omega) g5.1 rfl rfl rfl rfl (Nat.le_of_ble_eq_true rfl) (by decide) (fun r3 S3 I3 L3 R3 q3 => ?_)
              obtain ⟨rfl, rfl, rfl, rfl, h13⟩ := q3
              refine s_iinc (v := nI (i + 1)) (ls' := [some (.ref 62), some (.int (nI o)), some (.int (nI (i + 1)))]) (tb_ok aX2_readBoth_1 1 rfl) rfl (nI_1 _) rfl rfl ?_
              refine s_goto (tgt := 7) (tb_ok aX2_readBoth_1 2 rfl) (by decide) ?_
              refine LE_X2_readBoth hR _ h13 (fun I' h' => ⟨rfl, rfl, rfl, rfl, ?_⟩)
              rw [← hres]
              exact h'
            | inl qq =>
              obtain ⟨c12_, v12_, s12_⟩ := qq
              rw [e12_] at h12
              obtain ⟨h12, b12_⟩ := h12
              have h12 : OKs r n I0 ((acc ++ c) ++ c12_) s12_ _ := h12
              have b12_ : ((adv (I0 63) n s1)).pl + c12_.length ≤ (s12_).pl := b12_
              rw [loopP, if_pos hop, e12_] at hres
              refine s_aload_n (tb_ok aX2_readBoth_0 21 rfl) rfl ?_
              refine s_getR (r := r) (tb_ok aX2_readBoth_0 22 rfl) f_RX2_22 g1 rfl g4 ?_
              refine s_sipush (v := 30005) (tb_ok aX2_readBoth_0 23 rfl) (by decide) ?_
              refine s_cV (as := [.int (30005)]) (tb_ok aX2_readBoth_1 0 rfl) v_RX2_59 (A_add (30005) hR h12 (by have hp_ := h12.2.1.pl; have hq_ := h12.2.1.2.1; (try simp only [List.length_append, List.length_cons, List.length_nil] at *); omega)) (by omega) g5.1 rfl rfl rfl rfl (Nat.le_of_ble_eq_true rfl) (by decide) (fun r4 S4 I4 L4 R4 q4 => ?_)
              obtain ⟨rfl, rfl, rfl, rfl, h14⟩ := q4
              refine s_iinc (v := nI (i + 1)) (ls' := [some (.ref 62), some (.int (nI o)), some (.int (nI (i + 1)))]) (tb_ok aX2_readBoth_1 1 rfl) rfl (nI_1 _) rfl rfl ?_
              refine s_goto (tgt := 7) (tb_ok aX2_readBoth_1 2 rfl) (by decide) ?_
              have h15 := h14
              rw [List.append_assoc acc, List.append_assoc acc] at h15
              refine ih (i + 1) (by omega) _ _ _ _ h15 (by (try simp only [List.length_append, List.length_cons, List.length_nil] at *); omega) hres
  refine ev_of (by decide +kernel) rfl ?_
  show SW X _ _ _ 0 [some (.ref 62), some (.int (nI o)), none] [] S I L R _
  refine s_aload_n (tb_ok aX2_readBoth_0 0 rfl) rfl ?_
  refine s_iload_n (tb_ok aX2_readBoth_0 1 rfl) rfl ?_
  refine s_cV (as := [.int (nI o)]) (tb_ok aX2_readBoth_0 2 rfl) v_RX2_62 (hi _ _ _ h (by (try simp only [List.length_append, List.length_cons, List.length_nil] at *); omega)) (by omega) g1 rfl rfl rfl rfl (Nat.le_of_ble_eq_true rfl) (by decide) (fun r1 S1 I1 L1 R1 q1 => ?_)
  obtain ⟨rfl, rfl, rfl, rfl, h16⟩ := q1
  cases e16_ : P s with
  | inr f16_ =>
    rw [e16_] at h16
    have h16 : ERs r I0 f16_ _ := h16
    have hsq : (seqP (I0 63) n opB cdB P) s = .inr f16_ := by unfold seqP; rw [e16_]
    refine s_iconst (v := nI 0) (tb_ok aX2_readBoth_0 3 rfl) (by decide) ?_
    refine s_istore_n (ls' := [some (.ref 62), some (.int (nI o)), some (.int (nI 0))]) (tb_ok aX2_readBoth_0 4 rfl) rfl rfl ?_
    refine LE_X2_readBoth hR _ h16 (fun I' h' => ⟨rfl, rfl, rfl, rfl, ?_⟩)
    rw [hsq]
    exact h'
  | inl qq =>
    obtain ⟨c16_, v16_, s16_⟩ := qq
    rw [e16_] at h16
    obtain ⟨h16, b16_⟩ := h16
    have h16 : OKs r n I0 (acc ++ c16_) s16_ _ := h16
    have b16_ : (s).pl + c16_.length ≤ (s16_).pl := b16_
    have hsq : (seqP (I0 63) n opB cdB P) s = loopP (I0 63) n opB cdB P 160 c16_ v16_ s16_ := by unfold seqP; rw [e16_]
    refine s_iconst (v := nI 0) (tb_ok aX2_readBoth_0 3 rfl) (by decide) ?_
    refine s_istore_n (ls' := [some (.ref 62), some (.int (nI o)), some (.int (nI 0))]) (tb_ok aX2_readBoth_0 4 rfl) rfl rfl ?_
    exact loop 160 0 (by omega) _ _ _ _ h16 (by (try simp only [List.length_append, List.length_cons, List.length_nil] at *); omega) hsq.symm

set_option maxRecDepth 100000 in
set_option maxHeartbeats 1000000 in
theorem LE_X2_readEither {X : En} {S : Sh} {I0 : FI} {L : FL} {R : FR} {r : Nat} (hR : isRead S R r) {d o f : Nat} {Q : Pst} {I : FI} (x : Int32) (h : ERs r I0 f I) (hQ : ∀ I', ERs r I0 f I' → Q none S I' L R) : SW X d mX2_readEither (0, 0) 7 [some (.ref 62), some (.int (nI o)), some (.int x)] [] S I L R (KQ X Q) := by
  obtain ⟨g1, g2, g3, g4, g5, g6⟩ := id hR
  refine s_iload_n (tb_ok aX2_readEither_0 5 rfl) rfl ?_
  refine s_sipush (v := 160) (tb_ok aX2_readEither_0 6 rfl) (by decide) ?_
  refine s_icmp_ge (tgt := 56) (tb_ok aX2_readEither_0 7 rfl) (by decide) (fun c11 => ?_) (fun c11 => ?_)
  · refine s_vret (tb_ok aX2_readEither_1 3 rfl) rfl ?_
    exact hQ _ h
  · refine s_aload_n (tb_ok aX2_readEither_0 8 rfl) rfl ?_
    refine s_getI (tb_ok aX2_readEither_0 9 rfl) f_RX2_47 g1 rfl rfl ?_
    refine s_bipush (v := 7) (tb_ok aX2_readEither_0 10 rfl) (by decide) ?_
    refine s_icmp_ne (tgt := 56) (tb_ok aX2_readEither_0 11 rfl) (by decide) (fun c20 => ?_) (fun c20 => ?_)
    · refine s_vret (tb_ok aX2_readEither_1 3 rfl) rfl ?_
      exact hQ _ h
    · refine s_aload_n (tb_ok aX2_readEither_0 12 rfl) rfl ?_
      refine s_getI (tb_ok aX2_readEither_0 13 rfl) f_RX2_19 g1 rfl rfl ?_
      refine s_iconst (v := -1) (tb_ok aX2_readEither_0 14 rfl) (by decide) ?_
      refine s_icmp_ne (tgt := 56) (tb_ok aX2_readEither_0 15 rfl) (by decide) (fun c28 => ?_) (fun c28 => ?_)
      · refine s_vret (tb_ok aX2_readEither_1 3 rfl) rfl ?_
        exact hQ _ h
      · exact absurd c28 (OKs.ne (n := 0) h)

set_option maxRecDepth 100000 in
set_option maxHeartbeats 1000000 in
theorem CE_X2_readEither {X : En} {S : Sh} {I0 : FI} {L : FL} {R : FR} {r : Nat} (hR : isRead S R r) {d o : Nat} (hi : CtE X S L R r I0 d mX2_readBoth o) : CtE X S L R r I0 (d + 1) mX2_readEither o := by
  intro I f h
  obtain ⟨g1, g2, g3, g4, g5, g6⟩ := id hR
  refine ev_of (by decide +kernel) rfl ?_
  show SW X _ _ _ 0 [some (.ref 62), some (.int (nI o)), none] [] S I L R _
  refine s_aload_n (tb_ok aX2_readEither_0 0 rfl) rfl ?_
  refine s_iload_n (tb_ok aX2_readEither_0 1 rfl) rfl ?_
  refine s_cV (as := [.int (nI o)]) (tb_ok aX2_readEither_0 2 rfl) v_RX2_56 (hi _ _ h) (by omega) g1 rfl rfl rfl rfl (Nat.le_of_ble_eq_true rfl) (by decide) (fun r1 S1 I1 L1 R1 q1 => ?_)
  obtain ⟨rfl, rfl, rfl, rfl, h17⟩ := q1
  refine s_iconst (v := 0) (tb_ok aX2_readEither_0 3 rfl) (by decide) ?_
  refine s_istore_n (ls' := [some (.ref 62), some (.int (nI o)), some (.int (0))]) (tb_ok aX2_readEither_0 4 rfl) rfl rfl ?_
  exact LE_X2_readEither hR _ h17 (fun I' h' => ⟨rfl, rfl, rfl, rfl, h'⟩)

set_option maxRecDepth 100000 in
set_option maxHeartbeats 1000000 in
theorem CO_X2_readEither {X : En} {S : Sh} {I0 : FI} {L : FL} {R : FR} {r n : Nat} (hR : isRead S R r) (hn : I0 62 1 = nI n) (hn2 : n ≤ 160) {d o : Nat} (hd : 6 ≤ d) {P : Pa} (hi : CtO X S L R r n I0 d mX2_readBoth o P) : CtO X S L R r n I0 (d + 1) mX2_readEither o (seqP (I0 63) n opE cdE P) := by
  intro I acc s h hb
  obtain ⟨g1, g2, g3, g4, g5, g6⟩ := id hR
  have loop : ∀ k, ∀ (i : Nat), i + k = 160 → ∀ (I : FI) (c : List Int32) (v : Sem) (s1 : St), OKs r n I0 (acc ++ c) s1 I → s.pl + c.length ≤ s1.pl → loopP (I0 63) n opE cdE P k c v s1 = (seqP (I0 63) n opE cdE P) s → SW X (d + 1) mX2_readEither (0, 0) 7 [some (.ref 62), some (.int (nI o)), some (.int (nI i))] [] S I L R (KQ X (AfO r n I0 acc s ((seqP (I0 63) n opE cdE P) s) S L R)) := by
    intro k
    induction k with
    | zero =>
      intro i hik I c v s1 h1 hb1 hres
      refine s_iload_n (tb_ok aX2_readEither_0 5 rfl) rfl ?_
      refine s_sipush (v := nI 160) (tb_ok aX2_readEither_0 6 rfl) (by decide) ?_
      refine s_icmp_ge (tgt := 56) (tb_ok aX2_readEither_0 7 rfl) (by decide) (fun c11 => ?_) (fun c11 => ?_)
      · refine s_vret (tb_ok aX2_readEither_1 3 rfl) rfl ?_
        refine ⟨rfl, rfl, rfl, rfl, ?_⟩
        rw [← hres]
        exact ⟨h1, by omega⟩
      · exfalso
        have hi160 : i = 160 := by omega
        rw [hi160] at c11
        exact c11 (by decide)
    | succ k ih =>
      intro i hik I c v s1 h1 hb1 hres
      refine s_iload_n (tb_ok aX2_readEither_0 5 rfl) rfl ?_
      refine s_sipush (v := nI 160) (tb_ok aX2_readEither_0 6 rfl) (by decide) ?_
      refine s_icmp_ge (tgt := 56) (tb_ok aX2_readEither_0 7 rfl) (by decide) (fun c11 => ?_) (fun c11 => ?_)
      · exfalso
        simp (disch := omega) only [nI_leI] at c11
        omega
      · refine s_aload_n (tb_ok aX2_readEither_0 8 rfl) rfl ?_
        refine s_getI (x := (s1).tok) (tb_ok aX2_readEither_0 9 rfl) f_RX2_47 g1 rfl h1.2.2.2.2.1 ?_
        refine s_bipush (v := 7) (tb_ok aX2_readEither_0 10 rfl) (by decide) ?_
        refine s_icmp_ne (tgt := 56) (tb_ok aX2_readEither_0 11 rfl) (by decide) (fun c20 => ?_) (fun c20 => ?_)
        · refine s_vret (tb_ok aX2_readEither_1 3 rfl) rfl ?_
          refine ⟨rfl, rfl, rfl, rfl, ?_⟩
          rw [← hres]
          rw [loopP, if_neg c20]
          exact ⟨h1, by omega⟩
        · refine s_aload_n (tb_ok aX2_readEither_0 12 rfl) rfl ?_
          refine s_getI (x := (-1)) (tb_ok aX2_readEither_0 13 rfl) f_RX2_19 g1 rfl h1.2.2.2.2.2.2.1 ?_
          refine s_iconst (v := -1) (tb_ok aX2_readEither_0 14 rfl) (by decide) ?_
          refine s_icmp_ne (tgt := 56) (tb_ok aX2_readEither_0 15 rfl) (by decide) (fun c28 => ?_) (fun c28 => ?_)
          · exact absurd rfl c28
          · have hop : opE s1.tok := c20
            refine s_aload_n (tb_ok aX2_readEither_0 16 rfl) rfl ?_
            refine s_cV (as := []) (tb_ok aX2_readEither_0 17 rfl) v_RX2_34 (A_adv hR hn hn2 h1) (by omega) g1 rfl rfl rfl rfl (Nat.le_of_ble_eq_true rfl) (by decide) (fun r1 S1 I1 L1 R1 q1 => ?_)
            obtain ⟨rfl, rfl, rfl, rfl, h18⟩ := q1
            have a19 := (adv_wf (t := I0 63) h1.2.1).2.2 (by have h_ := hop; intro e_; rw [e_] at h_; exact absurd h_ (by decide))
            refine s_aload_n (tb_ok aX2_readEither_0 18 rfl) rfl ?_
            refine s_iload_n (tb_ok aX2_readEither_0 19 rfl) rfl ?_
            refine s_cV (as := [.int (nI o)]) (tb_ok aX2_readEither_0 20 rfl) v_RX2_56 (hi _ _ _ h18 (by (try simp only [List.length_append, List.length_cons, List.length_nil] at *); omega)) (by omega) g1 rfl rfl rfl rfl (Nat.le_of_ble_eq_true rfl) (by decide) (fun r2 S2 I2 L2 R2 q2 => ?_)
            obtain ⟨rfl, rfl, rfl, rfl, h20⟩ := q2
            cases e20_ : P (adv (I0 63) n s1) with
            | inr f20_ =>
              rw [e20_] at h20
              have h20 : ERs r I0 f20_ _ := h20
              rw [loopP, if_pos hop, e20_] at hres
              refine s_aload_n (tb_ok aX2_readEither_0 21 rfl) rfl ?_
              refine s_getR (r := r) (tb_ok aX2_readEither_0 22 rfl) f_RX2_22 g1 rfl g4 ?_
              refine s_sipush (v := 30006) (tb_ok aX2_readEither_0 23 rfl) (by decide) ?_
              refine s_cV (as := [.int (30006)]) (tb_ok aX2_readEither_1 0 rfl) v_RX2_59 (A_addE (30006) hR h20) (by omega) g5.1 rfl rfl rfl rfl (Nat.le_of_ble_eq_true rfl) (by decide) (fun r3 S3 I3 L3 R3 q3 => ?_)
              obtain ⟨rfl, rfl, rfl, rfl, h21⟩ := q3
              refine s_iinc (v := nI (i + 1)) (ls' := [some (.ref 62), some (.int (nI o)), some (.int (nI (i + 1)))]) (tb_ok aX2_readEither_1 1 rfl) rfl (nI_1 _) rfl rfl ?_
              refine s_goto (tgt := 7) (tb_ok aX2_readEither_1 2 rfl) (by decide) ?_
              refine LE_X2_readEither hR _ h21 (fun I' h' => ⟨rfl, rfl, rfl, rfl, ?_⟩)
              rw [← hres]
              exact h'
            | inl qq =>
              obtain ⟨c20_, v20_, s20_⟩ := qq
              rw [e20_] at h20
              obtain ⟨h20, b20_⟩ := h20
              have h20 : OKs r n I0 ((acc ++ c) ++ c20_) s20_ _ := h20
              have b20_ : ((adv (I0 63) n s1)).pl + c20_.length ≤ (s20_).pl := b20_
              rw [loopP, if_pos hop, e20_] at hres
              refine s_aload_n (tb_ok aX2_readEither_0 21 rfl) rfl ?_
              refine s_getR (r := r) (tb_ok aX2_readEither_0 22 rfl) f_RX2_22 g1 rfl g4 ?_
              refine s_sipush (v := 30006) (tb_ok aX2_readEither_0 23 rfl) (by decide) ?_
              refine s_cV (as := [.int (30006)]) (tb_ok aX2_readEither_1 0 rfl) v_RX2_59 (A_add (30006) hR h20 (by have hp_ := h20.2.1.pl; have hq_ := h20.2.1.2.1; (try simp only [List.length_append, List.length_cons, List.length_nil] at *); omega)) (by omega) g5.1 rfl rfl rfl rfl (Nat.le_of_ble_eq_true rfl) (by decide) (fun r4 S4 I4 L4 R4 q4 => ?_)
              obtain ⟨rfl, rfl, rfl, rfl, h22⟩ := q4
              refine s_iinc (v := nI (i + 1)) (ls' := [some (.ref 62), some (.int (nI o)), some (.int (nI (i + 1)))]) (tb_ok aX2_readEither_1 1 rfl) rfl (nI_1 _) rfl rfl ?_
              refine s_goto (tgt := 7) (tb_ok aX2_readEither_1 2 rfl) (by decide) ?_
              have h23 := h22
              rw [List.append_assoc acc, List.append_assoc acc] at h23
              refine ih (i + 1) (by omega) _ _ _ _ h23 (by (try simp only [List.length_append, List.length_cons, List.length_nil] at *); omega) hres
  refine ev_of (by decide +kernel) rfl ?_
  show SW X _ _ _ 0 [some (.ref 62), some (.int (nI o)), none] [] S I L R _
  refine s_aload_n (tb_ok aX2_readEither_0 0 rfl) rfl ?_
  refine s_iload_n (tb_ok aX2_readEither_0 1 rfl) rfl ?_
  refine s_cV (as := [.int (nI o)]) (tb_ok aX2_readEither_0 2 rfl) v_RX2_56 (hi _ _ _ h (by (try simp only [List.length_append, List.length_cons, List.length_nil] at *); omega)) (by omega) g1 rfl rfl rfl rfl (Nat.le_of_ble_eq_true rfl) (by decide) (fun r1 S1 I1 L1 R1 q1 => ?_)
  obtain ⟨rfl, rfl, rfl, rfl, h24⟩ := q1
  cases e24_ : P s with
  | inr f24_ =>
    rw [e24_] at h24
    have h24 : ERs r I0 f24_ _ := h24
    have hsq : (seqP (I0 63) n opE cdE P) s = .inr f24_ := by unfold seqP; rw [e24_]
    refine s_iconst (v := nI 0) (tb_ok aX2_readEither_0 3 rfl) (by decide) ?_
    refine s_istore_n (ls' := [some (.ref 62), some (.int (nI o)), some (.int (nI 0))]) (tb_ok aX2_readEither_0 4 rfl) rfl rfl ?_
    refine LE_X2_readEither hR _ h24 (fun I' h' => ⟨rfl, rfl, rfl, rfl, ?_⟩)
    rw [hsq]
    exact h'
  | inl qq =>
    obtain ⟨c24_, v24_, s24_⟩ := qq
    rw [e24_] at h24
    obtain ⟨h24, b24_⟩ := h24
    have h24 : OKs r n I0 (acc ++ c24_) s24_ _ := h24
    have b24_ : (s).pl + c24_.length ≤ (s24_).pl := b24_
    have hsq : (seqP (I0 63) n opE cdE P) s = loopP (I0 63) n opE cdE P 160 c24_ v24_ s24_ := by unfold seqP; rw [e24_]
    refine s_iconst (v := nI 0) (tb_ok aX2_readEither_0 3 rfl) (by decide) ?_
    refine s_istore_n (ls' := [some (.ref 62), some (.int (nI o)), some (.int (nI 0))]) (tb_ok aX2_readEither_0 4 rfl) rfl rfl ?_
    exact loop 160 0 (by omega) _ _ _ _ h24 (by (try simp only [List.length_append, List.length_cons, List.length_nil] at *); omega) hsq.symm

set_option maxRecDepth 100000 in
set_option maxHeartbeats 1000000 in
theorem LE_X2_readSum {X : En} {S : Sh} {I0 : FI} {L : FL} {R : FR} {r : Nat} (hR : isRead S R r) {d o f : Nat} {Q : Pst} {I : FI} (x : Int32) (o3 : Option Value) (h : ERs r I0 f I) (hQ : ∀ I', ERs r I0 f I' → Q none S I' L R) : SW X d mX2_readSum (0, 0) 7 [some (.ref 62), some (.int (nI o)), some (.int x), o3] [] S I L R (KQ X Q) := by
  obtain ⟨g1, g2, g3, g4, g5, g6⟩ := id hR
  refine s_iload_n (tb_ok aX2_readSum_0 5 rfl) rfl ?_
  refine s_sipush (v := 160) (tb_ok aX2_readSum_0 6 rfl) (by decide) ?_
  refine s_icmp_ge (tgt := 82) (tb_ok aX2_readSum_0 7 rfl) (by decide) (fun c11 => ?_) (fun c11 => ?_)
  · refine s_vret (tb_ok aX2_readSum_1 15 rfl) rfl ?_
    exact hQ _ h
  · refine s_aload_n (tb_ok aX2_readSum_0 8 rfl) rfl ?_
    refine s_getI (tb_ok aX2_readSum_0 9 rfl) f_RX2_47 g1 rfl rfl ?_
    refine s_bipush (v := 43) (tb_ok aX2_readSum_0 10 rfl) (by decide) ?_
    refine s_icmp_eq (tgt := 32) (tb_ok aX2_readSum_0 11 rfl) (by decide) (fun c20 => ?_) (fun c20 => ?_)
    · refine s_aload_n (tb_ok aX2_readSum_0 16 rfl) rfl ?_
      refine s_getI (tb_ok aX2_readSum_0 17 rfl) f_RX2_19 g1 rfl rfl ?_
      refine s_iconst (v := -1) (tb_ok aX2_readSum_0 18 rfl) (by decide) ?_
      refine s_icmp_ne (tgt := 82) (tb_ok aX2_readSum_0 19 rfl) (by decide) (fun c37 => ?_) (fun c37 => ?_)
      · refine s_vret (tb_ok aX2_readSum_1 15 rfl) rfl ?_
        exact hQ _ h
      · exact absurd c37 (OKs.ne (n := 0) h)
    · refine s_aload_n (tb_ok aX2_readSum_0 12 rfl) rfl ?_
      refine s_getI (tb_ok aX2_readSum_0 13 rfl) f_RX2_47 g1 rfl rfl ?_
      refine s_bipush (v := 45) (tb_ok aX2_readSum_0 14 rfl) (by decide) ?_
      refine s_icmp_ne (tgt := 82) (tb_ok aX2_readSum_0 15 rfl) (by decide) (fun c29 => ?_) (fun c29 => ?_)
      · refine s_vret (tb_ok aX2_readSum_1 15 rfl) rfl ?_
        exact hQ _ h
      · refine s_aload_n (tb_ok aX2_readSum_0 16 rfl) rfl ?_
        refine s_getI (tb_ok aX2_readSum_0 17 rfl) f_RX2_19 g1 rfl rfl ?_
        refine s_iconst (v := -1) (tb_ok aX2_readSum_0 18 rfl) (by decide) ?_
        refine s_icmp_ne (tgt := 82) (tb_ok aX2_readSum_0 19 rfl) (by decide) (fun c37 => ?_) (fun c37 => ?_)
        · refine s_vret (tb_ok aX2_readSum_1 15 rfl) rfl ?_
          exact hQ _ h
        · exact absurd c37 (OKs.ne (n := 0) h)

set_option maxRecDepth 100000 in
set_option maxHeartbeats 1000000 in
theorem CE_X2_readSum {X : En} {S : Sh} {I0 : FI} {L : FL} {R : FR} {r : Nat} (hR : isRead S R r) {d o : Nat} (hi : CtE X S L R r I0 d mX2_readTerm o) : CtE X S L R r I0 (d + 1) mX2_readSum o := by
  intro I f h
  obtain ⟨g1, g2, g3, g4, g5, g6⟩ := id hR
  refine ev_of (by decide +kernel) rfl ?_
  show SW X _ _ _ 0 [some (.ref 62), some (.int (nI o)), none, none] [] S I L R _
  refine s_aload_n (tb_ok aX2_readSum_0 0 rfl) rfl ?_
  refine s_iload_n (tb_ok aX2_readSum_0 1 rfl) rfl ?_
  refine s_cV (as := [.int (nI o)]) (tb_ok aX2_readSum_0 2 rfl) v_RX2_75 (hi _ _ h) (by omega) g1 rfl rfl rfl rfl (Nat.le_of_ble_eq_true rfl) (by decide) (fun r1 S1 I1 L1 R1 q1 => ?_)
  obtain ⟨rfl, rfl, rfl, rfl, h25⟩ := q1
  refine s_iconst (v := 0) (tb_ok aX2_readSum_0 3 rfl) (by decide) ?_
  refine s_istore_n (ls' := [some (.ref 62), some (.int (nI o)), some (.int (0)), none]) (tb_ok aX2_readSum_0 4 rfl) rfl rfl ?_
  exact LE_X2_readSum hR _ _ h25 (fun I' h' => ⟨rfl, rfl, rfl, rfl, h'⟩)

set_option maxRecDepth 100000 in
set_option maxHeartbeats 1000000 in
theorem CO_X2_readSum {X : En} {S : Sh} {I0 : FI} {L : FL} {R : FR} {r n : Nat} (hR : isRead S R r) (hn : I0 62 1 = nI n) (hn2 : n ≤ 160) {d o : Nat} (hd : 6 ≤ d) {P : Pa} (hi : CtO X S L R r n I0 d mX2_readTerm o P) : CtO X S L R r n I0 (d + 1) mX2_readSum o (seqP (I0 63) n opS cdS P) := by
  intro I acc s h hb
  obtain ⟨g1, g2, g3, g4, g5, g6⟩ := id hR
  have loop : ∀ k, ∀ (i : Nat) (o3 : Option Value), i + k = 160 → ∀ (I : FI) (c : List Int32) (v : Sem) (s1 : St), OKs r n I0 (acc ++ c) s1 I → s.pl + c.length ≤ s1.pl → loopP (I0 63) n opS cdS P k c v s1 = (seqP (I0 63) n opS cdS P) s → SW X (d + 1) mX2_readSum (0, 0) 7 [some (.ref 62), some (.int (nI o)), some (.int (nI i)), o3] [] S I L R (KQ X (AfO r n I0 acc s ((seqP (I0 63) n opS cdS P) s) S L R)) := by
    intro k
    induction k with
    | zero =>
      intro i o3 hik I c v s1 h1 hb1 hres
      refine s_iload_n (tb_ok aX2_readSum_0 5 rfl) rfl ?_
      refine s_sipush (v := nI 160) (tb_ok aX2_readSum_0 6 rfl) (by decide) ?_
      refine s_icmp_ge (tgt := 82) (tb_ok aX2_readSum_0 7 rfl) (by decide) (fun c11 => ?_) (fun c11 => ?_)
      · refine s_vret (tb_ok aX2_readSum_1 15 rfl) rfl ?_
        refine ⟨rfl, rfl, rfl, rfl, ?_⟩
        rw [← hres]
        exact ⟨h1, by omega⟩
      · exfalso
        have hi160 : i = 160 := by omega
        rw [hi160] at c11
        exact c11 (by decide)
    | succ k ih =>
      intro i o3 hik I c v s1 h1 hb1 hres
      refine s_iload_n (tb_ok aX2_readSum_0 5 rfl) rfl ?_
      refine s_sipush (v := nI 160) (tb_ok aX2_readSum_0 6 rfl) (by decide) ?_
      refine s_icmp_ge (tgt := 82) (tb_ok aX2_readSum_0 7 rfl) (by decide) (fun c11 => ?_) (fun c11 => ?_)
      · exfalso
        simp (disch := omega) only [nI_leI] at c11
        omega
      · refine s_aload_n (tb_ok aX2_readSum_0 8 rfl) rfl ?_
        refine s_getI (x := (s1).tok) (tb_ok aX2_readSum_0 9 rfl) f_RX2_47 g1 rfl h1.2.2.2.2.1 ?_
        refine s_bipush (v := 43) (tb_ok aX2_readSum_0 10 rfl) (by decide) ?_
        refine s_icmp_eq (tgt := 32) (tb_ok aX2_readSum_0 11 rfl) (by decide) (fun c20 => ?_) (fun c20 => ?_)
        · have hop : opS s1.tok := by first | exact Or.inl c20 | exact Or.inr c29
          refine s_aload_n (tb_ok aX2_readSum_0 16 rfl) rfl ?_
          refine s_getI (x := (-1)) (tb_ok aX2_readSum_0 17 rfl) f_RX2_19 g1 rfl h1.2.2.2.2.2.2.1 ?_
          refine s_iconst (v := -1) (tb_ok aX2_readSum_0 18 rfl) (by decide) ?_
          refine s_icmp_ne (tgt := 82) (tb_ok aX2_readSum_0 19 rfl) (by decide) (fun c37 => ?_) (fun c37 => ?_)
          · exact absurd rfl c37
          · refine s_aload_n (tb_ok aX2_readSum_0 20 rfl) rfl ?_
            refine s_getI (x := (s1).tok) (tb_ok aX2_readSum_0 21 rfl) f_RX2_47 g1 rfl h1.2.2.2.2.1 ?_
            refine s_name (fun x1 ex1 => ?_)
            refine s_istore_n (ls' := [some (.ref 62), some (.int (nI o)), some (.int (nI i)), some (.int x1)]) (tb_ok aX2_readSum_0 22 rfl) rfl rfl ?_
            refine s_aload_n (tb_ok aX2_readSum_0 23 rfl) rfl ?_
            refine s_cV (as := []) (tb_ok aX2_readSum_1 0 rfl) v_RX2_34 (A_adv hR hn hn2 h1) (by omega) g1 rfl rfl rfl rfl (Nat.le_of_ble_eq_true rfl) (by decide) (fun r1 S1 I1 L1 R1 q1 => ?_)
            obtain ⟨rfl, rfl, rfl, rfl, h26⟩ := q1
            have a27 := (adv_wf (t := I0 63) h1.2.1).2.2 (by have h_ := hop; intro e_; rw [e_] at h_; exact absurd h_ (by decide))
            refine s_aload_n (tb_ok aX2_readSum_1 1 rfl) rfl ?_
            refine s_iload_n (tb_ok aX2_readSum_1 2 rfl) rfl ?_
            refine s_cV (as := [.int (nI o)]) (tb_ok aX2_readSum_1 3 rfl) v_RX2_75 (hi _ _ _ h26 (by (try simp only [List.length_append, List.length_cons, List.length_nil] at *); omega)) (by omega) g1 rfl rfl rfl rfl (Nat.le_of_ble_eq_true rfl) (by decide) (fun r2 S2 I2 L2 R2 q2 => ?_)
            obtain ⟨rfl, rfl, rfl, rfl, h28⟩ := q2
            cases e28_ : P (adv (I0 63) n s1) with
            | inr f28_ =>
              rw [e28_] at h28
              have h28 : ERs r I0 f28_ _ := h28
              rw [loopP, if_pos hop, e28_] at hres
              refine s_aload_n (tb_ok aX2_readSum_1 4 rfl) rfl ?_
              refine s_getR (r := r) (tb_ok aX2_readSum_1 5 rfl) f_RX2_22 g1 rfl g4 ?_
              refine s_iload_n (tb_ok aX2_readSum_1 6 rfl) rfl ?_
              refine s_bipush (v := 43) (tb_ok aX2_readSum_1 7 rfl) (by decide) ?_
              refine s_icmp_ne (tgt := 70) (tb_ok aX2_readSum_1 8 rfl) (by decide) (fun c61 => ?_) (fun c61 => ?_)
              · refine s_sipush (v := 30001) (tb_ok aX2_readSum_1 11 rfl) (by decide) ?_
                refine s_cV (as := [.int (30001)]) (tb_ok aX2_readSum_1 12 rfl) v_RX2_59 (A_addE (30001) hR h28) (by omega) g5.1 rfl rfl rfl rfl (Nat.le_of_ble_eq_true rfl) (by decide) (fun r3 S3 I3 L3 R3 q3 => ?_)
                obtain ⟨rfl, rfl, rfl, rfl, h29⟩ := q3
                refine s_iinc (v := nI (i + 1)) (ls' := [some (.ref 62), some (.int (nI o)), some (.int (nI (i + 1))), some (.int x1)]) (tb_ok aX2_readSum_1 13 rfl) rfl (nI_1 _) rfl rfl ?_
                refine s_goto (tgt := 7) (tb_ok aX2_readSum_1 14 rfl) (by decide) ?_
                refine LE_X2_readSum hR _ _ h29 (fun I' h' => ⟨rfl, rfl, rfl, rfl, ?_⟩)
                rw [← hres]
                exact h'
              · refine s_sipush (v := 30000) (tb_ok aX2_readSum_1 9 rfl) (by decide) ?_
                refine s_goto (tgt := 73) (tb_ok aX2_readSum_1 10 rfl) (by decide) ?_
                refine s_cV (as := [.int (30000)]) (tb_ok aX2_readSum_1 12 rfl) v_RX2_59 (A_addE (30000) hR h28) (by omega) g5.1 rfl rfl rfl rfl (Nat.le_of_ble_eq_true rfl) (by decide) (fun r4 S4 I4 L4 R4 q4 => ?_)
                obtain ⟨rfl, rfl, rfl, rfl, h30⟩ := q4
                refine s_iinc (v := nI (i + 1)) (ls' := [some (.ref 62), some (.int (nI o)), some (.int (nI (i + 1))), some (.int x1)]) (tb_ok aX2_readSum_1 13 rfl) rfl (nI_1 _) rfl rfl ?_
                refine s_goto (tgt := 7) (tb_ok aX2_readSum_1 14 rfl) (by decide) ?_
                refine LE_X2_readSum hR _ _ h30 (fun I' h' => ⟨rfl, rfl, rfl, rfl, ?_⟩)
                rw [← hres]
                exact h'
            | inl qq =>
              obtain ⟨c28_, v28_, s28_⟩ := qq
              rw [e28_] at h28
              obtain ⟨h28, b28_⟩ := h28
              have h28 : OKs r n I0 ((acc ++ c) ++ c28_) s28_ _ := h28
              have b28_ : ((adv (I0 63) n s1)).pl + c28_.length ≤ (s28_).pl := b28_
              rw [loopP, if_pos hop, e28_] at hres
              refine s_aload_n (tb_ok aX2_readSum_1 4 rfl) rfl ?_
              refine s_getR (r := r) (tb_ok aX2_readSum_1 5 rfl) f_RX2_22 g1 rfl g4 ?_
              refine s_iload_n (tb_ok aX2_readSum_1 6 rfl) rfl ?_
              refine s_bipush (v := 43) (tb_ok aX2_readSum_1 7 rfl) (by decide) ?_
              refine s_icmp_ne (tgt := 70) (tb_ok aX2_readSum_1 8 rfl) (by decide) (fun c61 => ?_) (fun c61 => ?_)
              · refine s_sipush (v := 30001) (tb_ok aX2_readSum_1 11 rfl) (by decide) ?_
                refine s_topi (z := cdS s1.tok) (by unfold cdS; rw [← ex1]; exact (if_neg c61).symm) ?_
                refine s_cV (as := [.int (cdS s1.tok)]) (tb_ok aX2_readSum_1 12 rfl) v_RX2_59 (A_add (cdS s1.tok) hR h28 (by have hp_ := h28.2.1.pl; have hq_ := h28.2.1.2.1; (try simp only [List.length_append, List.length_cons, List.length_nil] at *); omega)) (by omega) g5.1 rfl rfl rfl rfl (Nat.le_of_ble_eq_true rfl) (by decide) (fun r5 S5 I5 L5 R5 q5 => ?_)
                obtain ⟨rfl, rfl, rfl, rfl, h31⟩ := q5
                refine s_iinc (v := nI (i + 1)) (ls' := [some (.ref 62), some (.int (nI o)), some (.int (nI (i + 1))), some (.int x1)]) (tb_ok aX2_readSum_1 13 rfl) rfl (nI_1 _) rfl rfl ?_
                refine s_goto (tgt := 7) (tb_ok aX2_readSum_1 14 rfl) (by decide) ?_
                have h32 := h31
                rw [List.append_assoc acc, List.append_assoc acc] at h32
                refine ih (i + 1) _ (by omega) _ _ _ _ h32 (by (try simp only [List.length_append, List.length_cons, List.length_nil] at *); omega) hres
              · refine s_sipush (v := 30000) (tb_ok aX2_readSum_1 9 rfl) (by decide) ?_
                refine s_topi (z := cdS s1.tok) (by unfold cdS; rw [← ex1]; exact (if_pos c61).symm) ?_
                refine s_goto (tgt := 73) (tb_ok aX2_readSum_1 10 rfl) (by decide) ?_
                refine s_cV (as := [.int (cdS s1.tok)]) (tb_ok aX2_readSum_1 12 rfl) v_RX2_59 (A_add (cdS s1.tok) hR h28 (by have hp_ := h28.2.1.pl; have hq_ := h28.2.1.2.1; (try simp only [List.length_append, List.length_cons, List.length_nil] at *); omega)) (by omega) g5.1 rfl rfl rfl rfl (Nat.le_of_ble_eq_true rfl) (by decide) (fun r6 S6 I6 L6 R6 q6 => ?_)
                obtain ⟨rfl, rfl, rfl, rfl, h33⟩ := q6
                refine s_iinc (v := nI (i + 1)) (ls' := [some (.ref 62), some (.int (nI o)), some (.int (nI (i + 1))), some (.int x1)]) (tb_ok aX2_readSum_1 13 rfl) rfl (nI_1 _) rfl rfl ?_
                refine s_goto (tgt := 7) (tb_ok aX2_readSum_1 14 rfl) (by decide) ?_
                have h34 := h33
                rw [List.append_assoc acc, List.append_assoc acc] at h34
                refine ih (i + 1) _ (by omega) _ _ _ _ h34 (by (try simp only [List.length_append, List.length_cons, List.length_nil] at *); omega) hres
        · refine s_aload_n (tb_ok aX2_readSum_0 12 rfl) rfl ?_
          refine s_getI (x := (s1).tok) (tb_ok aX2_readSum_0 13 rfl) f_RX2_47 g1 rfl h1.2.2.2.2.1 ?_
          refine s_bipush (v := 45) (tb_ok aX2_readSum_0 14 rfl) (by decide) ?_
          refine s_icmp_ne (tgt := 82) (tb_ok aX2_readSum_0 15 rfl) (by decide) (fun c29 => ?_) (fun c29 => ?_)
          · refine s_vret (tb_ok aX2_readSum_1 15 rfl) rfl ?_
            refine ⟨rfl, rfl, rfl, rfl, ?_⟩
            rw [← hres]
            rw [loopP, if_neg (fun h_ => h_.elim c20 c29)]
            exact ⟨h1, by omega⟩
          · have hop : opS s1.tok := by first | exact Or.inl c20 | exact Or.inr c29
            refine s_aload_n (tb_ok aX2_readSum_0 16 rfl) rfl ?_
            refine s_getI (x := (-1)) (tb_ok aX2_readSum_0 17 rfl) f_RX2_19 g1 rfl h1.2.2.2.2.2.2.1 ?_
            refine s_iconst (v := -1) (tb_ok aX2_readSum_0 18 rfl) (by decide) ?_
            refine s_icmp_ne (tgt := 82) (tb_ok aX2_readSum_0 19 rfl) (by decide) (fun c37 => ?_) (fun c37 => ?_)
            · exact absurd rfl c37
            · refine s_aload_n (tb_ok aX2_readSum_0 20 rfl) rfl ?_
              refine s_getI (x := (s1).tok) (tb_ok aX2_readSum_0 21 rfl) f_RX2_47 g1 rfl h1.2.2.2.2.1 ?_
              refine s_name (fun x2 ex2 => ?_)
              refine s_istore_n (ls' := [some (.ref 62), some (.int (nI o)), some (.int (nI i)), some (.int x2)]) (tb_ok aX2_readSum_0 22 rfl) rfl rfl ?_
              refine s_aload_n (tb_ok aX2_readSum_0 23 rfl) rfl ?_
              refine s_cV (as := []) (tb_ok aX2_readSum_1 0 rfl) v_RX2_34 (A_adv hR hn hn2 h1) (by omega) g1 rfl rfl rfl rfl (Nat.le_of_ble_eq_true rfl) (by decide) (fun r7 S7 I7 L7 R7 q7 => ?_)
              obtain ⟨rfl, rfl, rfl, rfl, h35⟩ := q7
              have a36 := (adv_wf (t := I0 63) h1.2.1).2.2 (by have h_ := hop; intro e_; rw [e_] at h_; exact absurd h_ (by decide))
              refine s_aload_n (tb_ok aX2_readSum_1 1 rfl) rfl ?_
              refine s_iload_n (tb_ok aX2_readSum_1 2 rfl) rfl ?_
              refine s_cV (as := [.int (nI o)]) (tb_ok aX2_readSum_1 3 rfl) v_RX2_75 (hi _ _ _ h35 (by (try simp only [List.length_append, List.length_cons, List.length_nil] at *); omega)) (by omega) g1 rfl rfl rfl rfl (Nat.le_of_ble_eq_true rfl) (by decide) (fun r8 S8 I8 L8 R8 q8 => ?_)
              obtain ⟨rfl, rfl, rfl, rfl, h37⟩ := q8
              cases e37_ : P (adv (I0 63) n s1) with
              | inr f37_ =>
                rw [e37_] at h37
                have h37 : ERs r I0 f37_ _ := h37
                rw [loopP, if_pos hop, e37_] at hres
                refine s_aload_n (tb_ok aX2_readSum_1 4 rfl) rfl ?_
                refine s_getR (r := r) (tb_ok aX2_readSum_1 5 rfl) f_RX2_22 g1 rfl g4 ?_
                refine s_iload_n (tb_ok aX2_readSum_1 6 rfl) rfl ?_
                refine s_bipush (v := 43) (tb_ok aX2_readSum_1 7 rfl) (by decide) ?_
                refine s_icmp_ne (tgt := 70) (tb_ok aX2_readSum_1 8 rfl) (by decide) (fun c61 => ?_) (fun c61 => ?_)
                · refine s_sipush (v := 30001) (tb_ok aX2_readSum_1 11 rfl) (by decide) ?_
                  refine s_cV (as := [.int (30001)]) (tb_ok aX2_readSum_1 12 rfl) v_RX2_59 (A_addE (30001) hR h37) (by omega) g5.1 rfl rfl rfl rfl (Nat.le_of_ble_eq_true rfl) (by decide) (fun r9 S9 I9 L9 R9 q9 => ?_)
                  obtain ⟨rfl, rfl, rfl, rfl, h38⟩ := q9
                  refine s_iinc (v := nI (i + 1)) (ls' := [some (.ref 62), some (.int (nI o)), some (.int (nI (i + 1))), some (.int x2)]) (tb_ok aX2_readSum_1 13 rfl) rfl (nI_1 _) rfl rfl ?_
                  refine s_goto (tgt := 7) (tb_ok aX2_readSum_1 14 rfl) (by decide) ?_
                  refine LE_X2_readSum hR _ _ h38 (fun I' h' => ⟨rfl, rfl, rfl, rfl, ?_⟩)
                  rw [← hres]
                  exact h'
                · refine s_sipush (v := 30000) (tb_ok aX2_readSum_1 9 rfl) (by decide) ?_
                  refine s_goto (tgt := 73) (tb_ok aX2_readSum_1 10 rfl) (by decide) ?_
                  refine s_cV (as := [.int (30000)]) (tb_ok aX2_readSum_1 12 rfl) v_RX2_59 (A_addE (30000) hR h37) (by omega) g5.1 rfl rfl rfl rfl (Nat.le_of_ble_eq_true rfl) (by decide) (fun r10 S10 I10 L10 R10 q10 => ?_)
                  obtain ⟨rfl, rfl, rfl, rfl, h39⟩ := q10
                  refine s_iinc (v := nI (i + 1)) (ls' := [some (.ref 62), some (.int (nI o)), some (.int (nI (i + 1))), some (.int x2)]) (tb_ok aX2_readSum_1 13 rfl) rfl (nI_1 _) rfl rfl ?_
                  refine s_goto (tgt := 7) (tb_ok aX2_readSum_1 14 rfl) (by decide) ?_
                  refine LE_X2_readSum hR _ _ h39 (fun I' h' => ⟨rfl, rfl, rfl, rfl, ?_⟩)
                  rw [← hres]
                  exact h'
              | inl qq =>
                obtain ⟨c37_, v37_, s37_⟩ := qq
                rw [e37_] at h37
                obtain ⟨h37, b37_⟩ := h37
                have h37 : OKs r n I0 ((acc ++ c) ++ c37_) s37_ _ := h37
                have b37_ : ((adv (I0 63) n s1)).pl + c37_.length ≤ (s37_).pl := b37_
                rw [loopP, if_pos hop, e37_] at hres
                refine s_aload_n (tb_ok aX2_readSum_1 4 rfl) rfl ?_
                refine s_getR (r := r) (tb_ok aX2_readSum_1 5 rfl) f_RX2_22 g1 rfl g4 ?_
                refine s_iload_n (tb_ok aX2_readSum_1 6 rfl) rfl ?_
                refine s_bipush (v := 43) (tb_ok aX2_readSum_1 7 rfl) (by decide) ?_
                refine s_icmp_ne (tgt := 70) (tb_ok aX2_readSum_1 8 rfl) (by decide) (fun c61 => ?_) (fun c61 => ?_)
                · refine s_sipush (v := 30001) (tb_ok aX2_readSum_1 11 rfl) (by decide) ?_
                  refine s_topi (z := cdS s1.tok) (by unfold cdS; rw [← ex2]; exact (if_neg c61).symm) ?_
                  refine s_cV (as := [.int (cdS s1.tok)]) (tb_ok aX2_readSum_1 12 rfl) v_RX2_59 (A_add (cdS s1.tok) hR h37 (by have hp_ := h37.2.1.pl; have hq_ := h37.2.1.2.1; (try simp only [List.length_append, List.length_cons, List.length_nil] at *); omega)) (by omega) g5.1 rfl rfl rfl rfl (Nat.le_of_ble_eq_true rfl) (by decide) (fun r11 S11 I11 L11 R11 q11 => ?_)
                  obtain ⟨rfl, rfl, rfl, rfl, h40⟩ := q11
                  refine s_iinc (v := nI (i + 1)) (ls' := [some (.ref 62), some (.int (nI o)), some (.int (nI (i + 1))), some (.int x2)]) (tb_ok aX2_readSum_1 13 rfl) rfl (nI_1 _) rfl rfl ?_
                  refine s_goto (tgt := 7) (tb_ok aX2_readSum_1 14 rfl) (by decide) ?_
                  have h41 := h40
                  rw [List.append_assoc acc, List.append_assoc acc] at h41
                  refine ih (i + 1) _ (by omega) _ _ _ _ h41 (by (try simp only [List.length_append, List.length_cons, List.length_nil] at *); omega) hres
                · refine s_sipush (v := 30000) (tb_ok aX2_readSum_1 9 rfl) (by decide) ?_
                  refine s_topi (z := cdS s1.tok) (by unfold cdS; rw [← ex2]; exact (if_pos c61).symm) ?_
                  refine s_goto (tgt := 73) (tb_ok aX2_readSum_1 10 rfl) (by decide) ?_
                  refine s_cV (as := [.int (cdS s1.tok)]) (tb_ok aX2_readSum_1 12 rfl) v_RX2_59 (A_add (cdS s1.tok) hR h37 (by have hp_ := h37.2.1.pl; have hq_ := h37.2.1.2.1; (try simp only [List.length_append, List.length_cons, List.length_nil] at *); omega)) (by omega) g5.1 rfl rfl rfl rfl (Nat.le_of_ble_eq_true rfl) (by decide) (fun r12 S12 I12 L12 R12 q12 => ?_)
                  obtain ⟨rfl, rfl, rfl, rfl, h42⟩ := q12
                  refine s_iinc (v := nI (i + 1)) (ls' := [some (.ref 62), some (.int (nI o)), some (.int (nI (i + 1))), some (.int x2)]) (tb_ok aX2_readSum_1 13 rfl) rfl (nI_1 _) rfl rfl ?_
                  refine s_goto (tgt := 7) (tb_ok aX2_readSum_1 14 rfl) (by decide) ?_
                  have h43 := h42
                  rw [List.append_assoc acc, List.append_assoc acc] at h43
                  refine ih (i + 1) _ (by omega) _ _ _ _ h43 (by (try simp only [List.length_append, List.length_cons, List.length_nil] at *); omega) hres
  refine ev_of (by decide +kernel) rfl ?_
  show SW X _ _ _ 0 [some (.ref 62), some (.int (nI o)), none, none] [] S I L R _
  refine s_aload_n (tb_ok aX2_readSum_0 0 rfl) rfl ?_
  refine s_iload_n (tb_ok aX2_readSum_0 1 rfl) rfl ?_
  refine s_cV (as := [.int (nI o)]) (tb_ok aX2_readSum_0 2 rfl) v_RX2_75 (hi _ _ _ h (by (try simp only [List.length_append, List.length_cons, List.length_nil] at *); omega)) (by omega) g1 rfl rfl rfl rfl (Nat.le_of_ble_eq_true rfl) (by decide) (fun r1 S1 I1 L1 R1 q1 => ?_)
  obtain ⟨rfl, rfl, rfl, rfl, h44⟩ := q1
  cases e44_ : P s with
  | inr f44_ =>
    rw [e44_] at h44
    have h44 : ERs r I0 f44_ _ := h44
    have hsq : (seqP (I0 63) n opS cdS P) s = .inr f44_ := by unfold seqP; rw [e44_]
    refine s_iconst (v := nI 0) (tb_ok aX2_readSum_0 3 rfl) (by decide) ?_
    refine s_istore_n (ls' := [some (.ref 62), some (.int (nI o)), some (.int (nI 0)), none]) (tb_ok aX2_readSum_0 4 rfl) rfl rfl ?_
    refine LE_X2_readSum hR _ _ h44 (fun I' h' => ⟨rfl, rfl, rfl, rfl, ?_⟩)
    rw [hsq]
    exact h'
  | inl qq =>
    obtain ⟨c44_, v44_, s44_⟩ := qq
    rw [e44_] at h44
    obtain ⟨h44, b44_⟩ := h44
    have h44 : OKs r n I0 (acc ++ c44_) s44_ _ := h44
    have b44_ : (s).pl + c44_.length ≤ (s44_).pl := b44_
    have hsq : (seqP (I0 63) n opS cdS P) s = loopP (I0 63) n opS cdS P 160 c44_ v44_ s44_ := by unfold seqP; rw [e44_]
    refine s_iconst (v := nI 0) (tb_ok aX2_readSum_0 3 rfl) (by decide) ?_
    refine s_istore_n (ls' := [some (.ref 62), some (.int (nI o)), some (.int (nI 0)), none]) (tb_ok aX2_readSum_0 4 rfl) rfl rfl ?_
    exact loop 160 0 _ (by omega) _ _ _ _ h44 (by (try simp only [List.length_append, List.length_cons, List.length_nil] at *); omega) hsq.symm
