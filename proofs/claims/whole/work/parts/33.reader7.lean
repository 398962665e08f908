/-! the Reader: a whole text -/
theorem keyNZ : ∀ {p : Nat}, p < 3 → (4 : Int32) + nI p ≠ 0 := by
  intro p hp
  have : ∀ p, p < 3 → (4 : Int32) + nI p ≠ 0 := by decide
  exact this p hp
theorem OKs.ends {r n p : Nat} {I0 I : FI} {acc : List Int32} {s : St} (x : Int32) (hr : r + 3 < 62) (h : OKs r n I0 acc s I) : OKs r n (up2 I0 (r + 2) p x) acc s (up2 I (r + 2) p x) := by
  obtain ⟨h1, h2, h3, h4, h5, h6, h7, h8, h9⟩ := h
  have e62 : ∀ (A : FI) (a j : Nat), a ≠ r + 2 → up2 A (r + 2) p x a j = A a j := fun A a j ha => by rw [up2_n _ _ ha]
  have e2 : I (r + 2) = I0 (r + 2) := h1.1 _ (by omega) (by omega) (by omega)
  refine ⟨⟨fun a a1 a2 a3 => ?_, by rw [e62 _ _ _ (by omega), e62 _ _ _ (by omega)]; exact h1.2⟩, h2, by rw [e62 _ _ _ (by omega)]; exact h3, by rw [e62 _ _ _ (by omega)]; exact h4, by rw [e62 _ _ _ (by omega)]; exact h5, by rw [e62 _ _ _ (by omega)]; exact h6, by rw [e62 _ _ _ (by omega)]; exact h7, by rw [e62 _ _ _ (by omega)]; exact h8, fun j hj => by rw [e62 _ _ _ (by omega)]; exact h9 j hj⟩
  by_cases e : a = r + 2
  · subst e; rw [up2_o, up2_o, e2]
  · rw [up2_n _ _ e, up2_n _ _ e]; exact h1.1 a a1 a2 a3
theorem ERs.ends {r p f : Nat} {I0 I : FI} (x : Int32) (hr : r + 3 < 62) (h : ERs r I0 f I) : ERs r (up2 I0 (r + 2) p x) f (up2 I (r + 2) p x) := by
  obtain ⟨h1, h2, h3, k, hk, ek⟩ := h
  have e2 : I (r + 2) = I0 (r + 2) := h1.1 _ (by omega) (by omega) (by omega)
  refine ⟨⟨fun a a1 a2 a3 => ?_, by rw [up2_n _ _ (by omega), up2_n _ _ (by omega)]; exact h1.2⟩, h2, by rw [up2_n _ _ (by omega)]; exact h3, k, hk, by rw [up2_n _ _ (by omega)]; exact ek⟩
  by_cases e : a = r + 2
  · subst e; rw [up2_o, up2_o, e2]
  · rw [up2_n _ _ e, up2_n _ _ e]; exact h1.1 a a1 a2 a3
set_option maxRecDepth 100000 in
set_option maxHeartbeats 1000000 in
theorem RI_er {X : En} {S : Sh} {I0 : FI} {L : FL} {R : FR} {r : Nat} (hR : isRead S R r) {d k f : Nat} (hd : 7 < d) {Q : Pst} {I : FI} (h : ERs r I0 f I) (hQ : ∀ I', ERs r I0 f I' → Q (some (.int (nI f))) S I' L R) : SW X d mX2_readInto (0, 0) 28 [some (.ref 62), some (.ref r), some (.int (nI k))] [] S I L R (KQ X Q) := by
  obtain ⟨g1, g2, g3, g4, g5, g6⟩ := id hR
  refine s_iload_n (tb_ok aX2_readInto_0 16 rfl) rfl ?_
  refine s_iconst (v := nI 2) (tb_ok aX2_readInto_0 17 rfl) (by decide) ?_
  refine s_icmp_gt (tgt := 73) (tb_ok aX2_readInto_0 18 rfl) (by decide) (fun c30 => ?_) (fun c30 => ?_)
  · refine s_aload_n (tb_ok aX2_readInto_1 16 rfl) rfl ?_
    refine s_getI (tb_ok aX2_readInto_1 17 rfl) f_RX2_47 g1 rfl rfl ?_
    refine s_if_eq (tgt := 84) (tb_ok aX2_readInto_1 18 rfl) (by decide) (fun c77 => ?_) (fun c77 => ?_)
    · refine s_aload_n (tb_ok aX2_readInto_1 21 rfl) rfl ?_
      refine s_getI (tb_ok aX2_readInto_1 22 rfl) f_RX2_19 g1 rfl rfl ?_
      rw [h.2.2.1]
      refine s_iret (tb_ok aX2_readInto_1 23 rfl) rfl ?_
      exact hQ _ h
    · refine s_aload_n (tb_ok aX2_readInto_1 19 rfl) rfl ?_
      refine s_cV (as := []) (tb_ok aX2_readInto_1 20 rfl) v_RX2_50 (A_failE hR h) (by omega) g1 rfl rfl rfl rfl (Nat.le_of_ble_eq_true rfl) (by decide) (fun r1 S1 I1 L1 R1 q1 => ?_)
      obtain ⟨rfl, rfl, rfl, rfl, h1⟩ := q1
      refine s_aload_n (tb_ok aX2_readInto_1 21 rfl) rfl ?_
      refine s_getI (tb_ok aX2_readInto_1 22 rfl) f_RX2_19 g1 rfl rfl ?_
      rw [h1.2.2.1]
      refine s_iret (tb_ok aX2_readInto_1 23 rfl) rfl ?_
      exact hQ _ h1
  · refine s_aload_n (tb_ok aX2_readInto_0 19 rfl) rfl ?_
    refine s_getI (tb_ok aX2_readInto_0 20 rfl) f_RX2_19 g1 rfl rfl ?_
    refine s_iconst (v := -1) (tb_ok aX2_readInto_0 21 rfl) (by decide) ?_
    refine s_icmp_ne (tgt := 73) (tb_ok aX2_readInto_0 22 rfl) (by decide) (fun c38 => ?_) (fun c38 => ?_)
    · refine s_aload_n (tb_ok aX2_readInto_1 16 rfl) rfl ?_
      refine s_getI (tb_ok aX2_readInto_1 17 rfl) f_RX2_47 g1 rfl rfl ?_
      refine s_if_eq (tgt := 84) (tb_ok aX2_readInto_1 18 rfl) (by decide) (fun c77 => ?_) (fun c77 => ?_)
      · refine s_aload_n (tb_ok aX2_readInto_1 21 rfl) rfl ?_
        refine s_getI (tb_ok aX2_readInto_1 22 rfl) f_RX2_19 g1 rfl rfl ?_
        rw [h.2.2.1]
        refine s_iret (tb_ok aX2_readInto_1 23 rfl) rfl ?_
        exact hQ _ h
      · refine s_aload_n (tb_ok aX2_readInto_1 19 rfl) rfl ?_
        refine s_cV (as := []) (tb_ok aX2_readInto_1 20 rfl) v_RX2_50 (A_failE hR h) (by omega) g1 rfl rfl rfl rfl (Nat.le_of_ble_eq_true rfl) (by decide) (fun r2 S2 I2 L2 R2 q2 => ?_)
        obtain ⟨rfl, rfl, rfl, rfl, h2⟩ := q2
        refine s_aload_n (tb_ok aX2_readInto_1 21 rfl) rfl ?_
        refine s_getI (tb_ok aX2_readInto_1 22 rfl) f_RX2_19 g1 rfl rfl ?_
        rw [h2.2.2.1]
        refine s_iret (tb_ok aX2_readInto_1 23 rfl) rfl ?_
        exact hQ _ h2
    · exact absurd c38 (OKs.ne (n := 0) h)

set_option maxRecDepth 100000 in
set_option maxHeartbeats 1000000 in
theorem RI_end {X : En} {S : Sh} {I0 : FI} {L : FL} {R : FR} {r n : Nat} (hR : isRead S R r) (hn : I0 62 1 = nI n) (hn2 : n ≤ 160) {d : Nat} (hd : 7 < d) {Q : Pst} {I : FI} {acc : List Int32} {s : St} (h : OKs r n I0 acc s I) (hb : acc.length ≤ s.pl) (hE : ¬ s.tok = 0 → ∀ I', ERs r I0 s.pl I' → Q (some (.int (nI s.pl))) S I' L R) (hQ : s.tok = 0 → ∀ I', OKs r n I0 acc s I' → Q (some (.int (-1))) S I' L R) : SW X d mX2_readInto (0, 0) 28 [some (.ref 62), some (.ref r), some (.int (nI 3))] [] S I L R (KQ X Q) := by
  obtain ⟨g1, g2, g3, g4, g5, g6⟩ := id hR
  refine s_iload_n (tb_ok aX2_readInto_0 16 rfl) rfl ?_
  refine s_iconst (v := nI 2) (tb_ok aX2_readInto_0 17 rfl) (by decide) ?_
  refine s_icmp_gt (tgt := 73) (tb_ok aX2_readInto_0 18 rfl) (by decide) (fun c30 => ?_) (fun c30 => ?_)
  · refine s_aload_n (tb_ok aX2_readInto_1 16 rfl) rfl ?_
    refine s_getI (x := (s).tok) (tb_ok aX2_readInto_1 17 rfl) f_RX2_47 g1 rfl h.2.2.2.2.1 ?_
    refine s_if_eq (tgt := 84) (tb_ok aX2_readInto_1 18 rfl) (by decide) (fun c77 => ?_) (fun c77 => ?_)
    · refine s_aload_n (tb_ok aX2_readInto_1 21 rfl) rfl ?_
      refine s_getI (x := (-1)) (tb_ok aX2_readInto_1 22 rfl) f_RX2_19 g1 rfl h.2.2.2.2.2.2.1 ?_
      refine s_iret (tb_ok aX2_readInto_1 23 rfl) rfl ?_
      exact hQ c77 _ h
    · refine s_aload_n (tb_ok aX2_readInto_1 19 rfl) rfl ?_
      refine s_cV (as := []) (tb_ok aX2_readInto_1 20 rfl) v_RX2_50 (A_fail hR hn2 h (by (try simp only [List.length_append, List.length_cons, List.length_nil] at *); omega)) (by omega) g1 rfl rfl rfl rfl (Nat.le_of_ble_eq_true rfl) (by decide) (fun r1 S1 I1 L1 R1 q1 => ?_)
      obtain ⟨rfl, rfl, rfl, rfl, h3⟩ := q1
      refine s_aload_n (tb_ok aX2_readInto_1 21 rfl) rfl ?_
      refine s_getI (tb_ok aX2_readInto_1 22 rfl) f_RX2_19 g1 rfl rfl ?_
      rw [h3.2.2.1]
      refine s_iret (tb_ok aX2_readInto_1 23 rfl) rfl ?_
      exact hE c77 _ h3
  · exact absurd (by decide) c30

set_option maxRecDepth 100000 in
set_option maxHeartbeats 1000000 in
theorem RI_part {X : En} {S : Sh} {I0 : FI} {L : FL} {R : FR} {r n : Nat} (hR : isRead S R r) (hn : I0 62 1 = nI n) (hn2 : n ≤ 160) {p : Nat} (hp3 : p < 3) {K : Kt} {I : FI} {acc : List Int32} {s : St} (h : OKs r n I0 acc s I) (hb : acc.length ≤ s.pl)
  (kE : ∀ (I' : FI) (f : Nat) (x : Int32), (partP (I0 63) n (4 + nI p) s) = .inr f → ERs r (up2 I0 (r + 2) p x) f I' → SW X 57 mX2_readInto (0, 0) 28 [some (.ref 62), some (.ref r), some (.int (nI (p + 1)))] [] S I' L R K)
  (kO : ∀ (I' : FI) (c : List Int32) (v : Sem) (s' : St), (partP (I0 63) n (4 + nI p) s) = .inl (c, v, s') → OKs r n (up2 I0 (r + 2) p (nI (acc ++ c).length)) (acc ++ c) s' I' → s.pl + c.length ≤ s'.pl → SW X 57 mX2_readInto (0, 0) 28 [some (.ref 62), some (.ref r), some (.int (nI (p + 1)))] [] S I' L R K) : SW X 57 mX2_readInto (0, 0) 28 [some (.ref 62), some (.ref r), some (.int (nI p))] [] S I L R K := by
  obtain ⟨g1, g2, g3, g4, g5, g6⟩ := id hR
  have cE : CtE X S L R r I0 49 mX2_readEither 0 := (CE_lev hR 5 (by omega) 5 (by omega)).2
  have cO : CtO X S L R r n I0 49 mX2_readEither 0 (eithP (I0 63) n (lev (I0 63) n 5)) := (CO_lev hR hn hn2 5 (by omega) 5 (by omega)).2
  refine s_iload_n (tb_ok aX2_readInto_0 16 rfl) rfl ?_
  refine s_iconst (v := nI 2) (tb_ok aX2_readInto_0 17 rfl) (by decide) ?_
  refine s_icmp_gt (tgt := 73) (tb_ok aX2_readInto_0 18 rfl) (by decide) (fun c30 => ?_) (fun c30 => ?_)
  · simp (disch := omega) only [nI_ltI] at c30
    omega
  · refine s_aload_n (tb_ok aX2_readInto_0 19 rfl) rfl ?_
    refine s_getI (x := (-1)) (tb_ok aX2_readInto_0 20 rfl) f_RX2_19 g1 rfl h.2.2.2.2.2.2.1 ?_
    refine s_iconst (v := -1) (tb_ok aX2_readInto_0 21 rfl) (by decide) ?_
    refine s_icmp_ne (tgt := 73) (tb_ok aX2_readInto_0 22 rfl) (by decide) (fun c38 => ?_) (fun c38 => ?_)
    · exact absurd rfl c38
    · refine s_aload_n (tb_ok aX2_readInto_0 23 rfl) rfl ?_
      refine s_iconst (v := 4) (tb_ok aX2_readInto_1 0 rfl) (by decide) ?_
      refine s_iload_n (tb_ok aX2_readInto_1 1 rfl) rfl ?_
      refine s_iadd (tb_ok aX2_readInto_1 2 rfl) ?_
      refine s_topi (z := (4 + nI p)) rfl ?_
      refine s_cV (as := [.int (4 + nI p)]) (tb_ok aX2_readInto_1 3 rfl) v_RX2_37 (A_expO hR hn hn2 h (by (try simp only [List.length_append, List.length_cons, List.length_nil] at *); omega)) (by omega) g1 rfl rfl rfl rfl (Nat.le_of_ble_eq_true rfl) (by decide) (fun r1 S1 I1 L1 R1 q1 => ?_)
      obtain ⟨rfl, rfl, rfl, rfl, h4⟩ := q1
      by_cases x5 : (s).tok = (4 + nI p)
      · have h7 := h4.1 x5
        have a6 := (adv_wf (t := I0 63) h.2.1).2.2 (by rw [x5]; exact keyNZ hp3)
        have hop : s.tok = 4 + nI p := x5
        refine s_aload_n (tb_ok aX2_readInto_1 4 rfl) rfl ?_
        refine s_iconst (v := 0) (tb_ok aX2_readInto_1 5 rfl) (by decide) ?_
        refine s_cV (as := [.int (0)]) (tb_ok aX2_readInto_1 6 rfl) v_RX2_41 (cO _ _ _ h7 (by (try simp only [List.length_append, List.length_cons, List.length_nil] at *); omega)) (by omega) g1 rfl rfl rfl rfl (Nat.le_of_ble_eq_true rfl) (by decide) (fun r2 S2 I2 L2 R2 q2 => ?_)
        obtain ⟨rfl, rfl, rfl, rfl, h9⟩ := q2
        cases e9_ : (eithP (I0 63) n (lev (I0 63) n 5)) (adv (I0 63) n s) with
        | inr f9_ =>
          rw [e9_] at h9
          have h9 : ERs r I0 f9_ _ := h9
          have hsq : (partP (I0 63) n (4 + nI p) s) = .inr f9_ := by
            unfold partP
            rw [if_pos hop]
            simp only [e9_]
          refine s_aload_n (tb_ok aX2_readInto_1 7 rfl) rfl ?_
          refine s_bipush (v := 59) (tb_ok aX2_readInto_1 8 rfl) (by decide) ?_
          refine s_cV (as := [.int (59)]) (tb_ok aX2_readInto_1 9 rfl) v_RX2_37 (A_expE hR h9) (by omega) g1 rfl rfl rfl rfl (Nat.le_of_ble_eq_true rfl) (by decide) (fun r3 S3 I3 L3 R3 q3 => ?_)
          obtain ⟨rfl, rfl, rfl, rfl, h10⟩ := q3
          refine s_aload_n (tb_ok aX2_readInto_1 10 rfl) rfl ?_
          refine s_getR (r := r) (tb_ok aX2_readInto_1 11 rfl) f_RX2_22 g1 rfl g4 ?_
          refine s_iload_n (tb_ok aX2_readInto_1 12 rfl) rfl ?_
          refine s_cV (as := [.int (nI p)]) (tb_ok aX2_readInto_1 13 rfl) v_RX2_44 (E_Uend g5 hp3) (by omega) g5.1 rfl rfl rfl rfl (Nat.le_of_ble_eq_true rfl) (by decide) (fun r4 S4 I4 L4 R4 q4 => ?_)
          obtain ⟨rfl, rfl, rfl, rfl, rfl⟩ := q4
          refine s_iinc (v := nI (p + 1)) (ls' := [some (.ref 62), some (.ref r), some (.int (nI (p + 1)))]) (tb_ok aX2_readInto_1 14 rfl) rfl (nI_1 _) rfl rfl ?_
          refine s_goto (tgt := 28) (tb_ok aX2_readInto_1 15 rfl) (by decide) ?_
          exact kE _ _ _ hsq (h10.ends _ g6)
        | inl qq =>
          obtain ⟨c9_, v9_, s9_⟩ := qq
          rw [e9_] at h9
          obtain ⟨h9, b9_⟩ := h9
          have h9 : OKs r n I0 (acc ++ c9_) s9_ _ := h9
          have b9_ : ((adv (I0 63) n s)).pl + c9_.length ≤ (s9_).pl := b9_
          refine s_aload_n (tb_ok aX2_readInto_1 7 rfl) rfl ?_
          refine s_bipush (v := 59) (tb_ok aX2_readInto_1 8 rfl) (by decide) ?_
          refine s_cV (as := [.int (59)]) (tb_ok aX2_readInto_1 9 rfl) v_RX2_37 (A_expO hR hn hn2 h9 (by (try simp only [List.length_append, List.length_cons, List.length_nil] at *); omega)) (by omega) g1 rfl rfl rfl rfl (Nat.le_of_ble_eq_true rfl) (by decide) (fun r5 S5 I5 L5 R5 q5 => ?_)
          obtain ⟨rfl, rfl, rfl, rfl, h12⟩ := q5
          by_cases x13 : (s9_).tok = (59)
          · have h15 := h12.1 x13
            have a14 := (adv_wf (t := I0 63) h9.2.1).2.2 (by rw [x13]; decide)
            have hsq : (partP (I0 63) n (4 + nI p) s) = .inl (c9_, v9_, adv (I0 63) n s9_) := by
              unfold partP
              rw [if_pos hop]
              simp only [e9_]
              rw [if_pos x13]
            refine s_aload_n (tb_ok aX2_readInto_1 10 rfl) rfl ?_
            refine s_getR (r := r) (tb_ok aX2_readInto_1 11 rfl) f_RX2_22 g1 rfl g4 ?_
            refine s_iload_n (tb_ok aX2_readInto_1 12 rfl) rfl ?_
            refine s_cV (as := [.int (nI p)]) (tb_ok aX2_readInto_1 13 rfl) v_RX2_44 (E_Uend g5 hp3) (by omega) g5.1 rfl rfl rfl rfl (Nat.le_of_ble_eq_true rfl) (by decide) (fun r6 S6 I6 L6 R6 q6 => ?_)
            obtain ⟨rfl, rfl, rfl, rfl, rfl⟩ := q6
            have h17 := h15.ends (p := p) (nI ((acc ++ c9_)).length) g6
            rw [h15.2.2.2.2.2.2.2.1]
            refine s_iinc (v := nI (p + 1)) (ls' := [some (.ref 62), some (.ref r), some (.int (nI (p + 1)))]) (tb_ok aX2_readInto_1 14 rfl) rfl (nI_1 _) rfl rfl ?_
            refine s_goto (tgt := 28) (tb_ok aX2_readInto_1 15 rfl) (by decide) ?_
            exact kO _ _ _ _ hsq h17 (by (try simp only [List.length_append, List.length_cons, List.length_nil] at *); omega)
          · have h16 := h12.2 x13
            have hsq : (partP (I0 63) n (4 + nI p) s) = .inr (s9_).pl := by
              unfold partP
              rw [if_pos hop]
              simp only [e9_]
              rw [if_neg x13]
            refine s_aload_n (tb_ok aX2_readInto_1 10 rfl) rfl ?_
            refine s_getR (r := r) (tb_ok aX2_readInto_1 11 rfl) f_RX2_22 g1 rfl g4 ?_
            refine s_iload_n (tb_ok aX2_readInto_1 12 rfl) rfl ?_
            refine s_cV (as := [.int (nI p)]) (tb_ok aX2_readInto_1 13 rfl) v_RX2_44 (E_Uend g5 hp3) (by omega) g5.1 rfl rfl rfl rfl (Nat.le_of_ble_eq_true rfl) (by decide) (fun r7 S7 I7 L7 R7 q7 => ?_)
            obtain ⟨rfl, rfl, rfl, rfl, rfl⟩ := q7
            refine s_iinc (v := nI (p + 1)) (ls' := [some (.ref 62), some (.ref r), some (.int (nI (p + 1)))]) (tb_ok aX2_readInto_1 14 rfl) rfl (nI_1 _) rfl rfl ?_
            refine s_goto (tgt := 28) (tb_ok aX2_readInto_1 15 rfl) (by decide) ?_
            exact kE _ _ _ hsq (h16.ends _ g6)
      · have h8 := h4.2 x5
        have hsq : (partP (I0 63) n (4 + nI p) s) = .inr s.pl := by
          unfold partP
          rw [if_neg x5]
        refine s_aload_n (tb_ok aX2_readInto_1 4 rfl) rfl ?_
        refine s_iconst (v := 0) (tb_ok aX2_readInto_1 5 rfl) (by decide) ?_
        refine s_cV (as := [.int (0)]) (tb_ok aX2_readInto_1 6 rfl) v_RX2_41 (cE _ _ h8) (by omega) g1 rfl rfl rfl rfl (Nat.le_of_ble_eq_true rfl) (by decide) (fun r8 S8 I8 L8 R8 q8 => ?_)
        obtain ⟨rfl, rfl, rfl, rfl, h19⟩ := q8
        refine s_aload_n (tb_ok aX2_readInto_1 7 rfl) rfl ?_
        refine s_bipush (v := 59) (tb_ok aX2_readInto_1 8 rfl) (by decide) ?_
        refine s_cV (as := [.int (59)]) (tb_ok aX2_readInto_1 9 rfl) v_RX2_37 (A_expE hR h19) (by omega) g1 rfl rfl rfl rfl (Nat.le_of_ble_eq_true rfl) (by decide) (fun r9 S9 I9 L9 R9 q9 => ?_)
        obtain ⟨rfl, rfl, rfl, rfl, h20⟩ := q9
        refine s_aload_n (tb_ok aX2_readInto_1 10 rfl) rfl ?_
        refine s_getR (r := r) (tb_ok aX2_readInto_1 11 rfl) f_RX2_22 g1 rfl g4 ?_
        refine s_iload_n (tb_ok aX2_readInto_1 12 rfl) rfl ?_
        refine s_cV (as := [.int (nI p)]) (tb_ok aX2_readInto_1 13 rfl) v_RX2_44 (E_Uend g5 hp3) (by omega) g5.1 rfl rfl rfl rfl (Nat.le_of_ble_eq_true rfl) (by decide) (fun r10 S10 I10 L10 R10 q10 => ?_)
        obtain ⟨rfl, rfl, rfl, rfl, rfl⟩ := q10
        refine s_iinc (v := nI (p + 1)) (ls' := [some (.ref 62), some (.ref r), some (.int (nI (p + 1)))]) (tb_ok aX2_readInto_1 14 rfl) rfl (nI_1 _) rfl rfl ?_
        refine s_goto (tgt := 28) (tb_ok aX2_readInto_1 15 rfl) (by decide) ?_
        exact kE _ _ _ hsq (h20.ends _ g6)
