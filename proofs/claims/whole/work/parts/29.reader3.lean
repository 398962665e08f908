/-! the Reader: on by one token; put, clear, fail, expect -/
set_option maxRecDepth 100000 in
set_option maxHeartbeats 1000000 in
theorem E_advF {X : En} {S : Sh} {I : FI} {L : FL} {R : FR} {r : Nat} (hR : isRead S R r) (hf : ¬ I 62 7 = -1) : Ev X 6 mX2_advance (0, 0) [.ref 62] S I L R (PureR (none) S (I) L R) := by
  obtain ⟨g1, g2, g3, g4, g5, g6⟩ := id hR
  refine ev_of (by decide +kernel) rfl ?_
  show SW X _ _ _ 0 [some (.ref 62)] [] S I L R _
  refine s_aload_n (tb_ok aX2_advance_0 0 rfl) rfl ?_
  refine s_getI (tb_ok aX2_advance_0 1 rfl) f_RX2_19 g1 rfl rfl ?_
  refine s_iconst (v := -1) (tb_ok aX2_advance_0 2 rfl) (by decide) ?_
  refine s_icmp_eq (tgt := 9) (tb_ok aX2_advance_0 3 rfl) (by decide) (fun c5 => ?_) (fun c5 => ?_)
  · exact absurd c5 hf
  · refine s_vret (tb_ok aX2_advance_0 4 rfl) rfl ?_
    exact pureR

set_option maxRecDepth 100000 in
set_option maxHeartbeats 1000000 in
theorem E_adv {X : En} {S : Sh} {I : FI} {L : FL} {R : FR} {r : Nat} (hR : isRead S R r) {n i : Nat} (hn : I 62 1 = nI n) (hn2 : n ≤ 160) (hin : i ≤ n) (h3 : I 62 3 = nI i) (h7 : I 62 7 = -1) : Ev X 6 mX2_advance (0, 0) [.ref 62] S I L R (PureR (none) S (setO I 62 (rdS (I 62) (lex (I 63) n i (I 62 6)))) L R) := by
  obtain ⟨g1, g2, g3, g4, g5, g6⟩ := id hR
  show Ev X 6 mX2_advance (0, 0) [.ref 62] S I L R (PureR none S (setO I 62 (rdS (I 62) (lexS (I 63) n (I 62 6) (scan blP (I 63) n i)))) L R)
  obtain ⟨p, hp0⟩ : ∃ p, p = (scan blP (I 63) n i) := ⟨_, rfl⟩
  have hpn : p ≤ n := by rw [hp0]; exact scan_le hin
  have tail : SW X 6 mX2_advance (0, 0) 58 [some (.ref 62)] [] S (up2 I 62 3 (nI p)) L R (KQ X (PureR none S (setO I 62 (rdS (I 62) (lexS (I 63) n (I 62 6) (scan blP (I 63) n i)))) L R)) := by
    refine s_aload_n (tb_ok aX2_advance_1 4 rfl) rfl ?_
    refine s_aload_n (tb_ok aX2_advance_1 5 rfl) rfl ?_
    refine s_getI (x := (nI p)) (tb_ok aX2_advance_1 6 rfl) f_RX2_31 g1 rfl (by simp [up2]) ?_
    refine s_putI (tb_ok aX2_advance_1 7 rfl) f_RX2_53 g1 rfl ?_
    refine s_aload_n (tb_ok aX2_advance_1 8 rfl) rfl ?_
    refine s_getI (x := (nI p)) (tb_ok aX2_advance_1 9 rfl) f_RX2_31 g1 rfl (by simp [up2]) ?_
    refine s_if_lt (tgt := 94) (tb_ok aX2_advance_1 10 rfl) (by decide) (fun c70 => ?_) (fun c70 => ?_)
    · exact absurd c70 (nI_pos (by omega))
    · refine s_aload_n (tb_ok aX2_advance_1 11 rfl) rfl ?_
      refine s_getI (x := (nI p)) (tb_ok aX2_advance_1 12 rfl) f_RX2_31 g1 rfl (by simp [up2]) ?_
      refine s_aload_n (tb_ok aX2_advance_1 13 rfl) rfl ?_
      refine s_getI (x := (nI n)) (tb_ok aX2_advance_1 14 rfl) f_RX2_15 g1 rfl (by simp [up2]; exact hn) ?_
      refine s_icmp_ge (tgt := 94) (tb_ok aX2_advance_1 15 rfl) (by decide) (fun c81 => ?_) (fun c81 => ?_)
      · have hend : n ≤ p := by
          simp (disch := omega) only [nI_leI] at c81
          omega
        refine s_aload_n (tb_ok aX2_advance_1 20 rfl) rfl ?_
        refine s_iconst (v := 0) (tb_ok aX2_advance_1 21 rfl) (by decide) ?_
        refine s_putI (tb_ok aX2_advance_1 22 rfl) f_RX2_47 g1 rfl ?_
        refine s_goto (tgt := 188) (tb_ok aX2_advance_1 23 rfl) (by decide) ?_
        refine s_vret (tb_ok aX2_advance_3 18 rfl) rfl ?_
        refine ⟨rfl, rfl, ?_, rfl, rfl⟩
        rw [← hp0]
        unfold lexS
        rw [if_pos hend]
        simp only [up2_eq, setO_2, setO_o]
        refine congrArg (setO I 62) (rd_eq rfl rfl rfl rfl (fun j e3 e4 e5 e6 => ?_))
        simp [upd, e3, e4, e5, e6]
      · refine s_aload_n (tb_ok aX2_advance_1 16 rfl) rfl ?_
        refine s_getI (x := (nI p)) (tb_ok aX2_advance_1 17 rfl) f_RX2_31 g1 rfl (by simp [up2]) ?_
        refine s_sipush (v := nI 160) (tb_ok aX2_advance_1 18 rfl) (by decide) ?_
        refine s_icmp_lt (tgt := 102) (tb_ok aX2_advance_1 19 rfl) (by decide) (fun c91 => ?_) (fun c91 => ?_)
        · have hend : ¬ n ≤ p := by
            simp (disch := omega) only [nI_leI] at c81
            omega
          refine s_aload_n (tb_ok aX2_advance_2 0 rfl) rfl ?_
          refine s_getR (r := 63) (tb_ok aX2_advance_2 1 rfl) f_RX2_11 g1 rfl g2 ?_
          refine s_aload_n (tb_ok aX2_advance_2 2 rfl) rfl ?_
          refine s_getI (x := (nI p)) (tb_ok aX2_advance_2 3 rfl) f_RX2_31 g1 rfl (by simp [up2]) ?_
          refine s_ialdX (x := (I 63 p)) (tb_ok aX2_advance_2 4 rfl) g3 (by omega) (by decide) (by simp [up2]) ?_
          refine s_cSp (as := [.int (I 63 p)]) (tb_ok aX2_advance_2 5 rfl) v_RX2_88 (E_isLetter _) (by decide) rfl rfl (Nat.le_of_ble_eq_true rfl) ?_
          refine s_if_eq (tgt := 124) (tb_ok aX2_advance_2 6 rfl) (by decide) (fun c114 => ?_) (fun c114 => ?_)
          · have hlt : ¬ ltP (I 63 p) := bI_0.mp c114
            refine s_aload_n (tb_ok aX2_advance_2 10 rfl) rfl ?_
            refine s_getR (r := 63) (tb_ok aX2_advance_2 11 rfl) f_RX2_11 g1 rfl g2 ?_
            refine s_aload_n (tb_ok aX2_advance_2 12 rfl) rfl ?_
            refine s_getI (x := (nI p)) (tb_ok aX2_advance_2 13 rfl) f_RX2_31 g1 rfl (by simp [up2]) ?_
            refine s_ialdX (x := (I 63 p)) (tb_ok aX2_advance_2 14 rfl) g3 (by omega) (by decide) (by simp [up2]) ?_
            refine s_cSp (as := [.int (I 63 p)]) (tb_ok aX2_advance_2 15 rfl) v_RX2_94 (E_isDigit _) (by decide) rfl rfl (Nat.le_of_ble_eq_true rfl) ?_
            refine s_if_eq (tgt := 146) (tb_ok aX2_advance_2 16 rfl) (by decide) (fun c136 => ?_) (fun c136 => ?_)
            · have hdg : ¬ dgP (I 63 p) := bI_0.mp c136
              refine s_aload_n (tb_ok aX2_advance_2 20 rfl) rfl ?_
              refine s_aload_n (tb_ok aX2_advance_2 21 rfl) rfl ?_
              refine s_getR (r := 63) (tb_ok aX2_advance_2 22 rfl) f_RX2_11 g1 rfl g2 ?_
              refine s_aload_n (tb_ok aX2_advance_2 23 rfl) rfl ?_
              refine s_getI (x := (nI p)) (tb_ok aX2_advance_3 0 rfl) f_RX2_31 g1 rfl (by simp [up2]) ?_
              refine s_ialdX (x := (I 63 p)) (tb_ok aX2_advance_3 1 rfl) g3 (by omega) (by decide) (by simp [up2]) ?_
              refine s_cSp (as := [.int (I 63 p)]) (tb_ok aX2_advance_3 2 rfl) v_RX2_100 (E_isSign _) (by decide) rfl rfl (Nat.le_of_ble_eq_true rfl) ?_
              refine s_if_eq (tgt := 174) (tb_ok aX2_advance_3 3 rfl) (by decide) (fun c159 => ?_) (fun c159 => ?_)
              · have hsg : ¬ sgP (I 63 p) := bI_0.mp c159
                refine s_iconst (v := 1) (tb_ok aX2_advance_3 10 rfl) (by decide) ?_
                refine s_putI (tb_ok aX2_advance_3 11 rfl) f_RX2_47 g1 rfl ?_
                refine s_aload_n (tb_ok aX2_advance_3 12 rfl) rfl ?_
                refine s_dup (tb_ok aX2_advance_3 13 rfl) rfl ?_
                refine s_getI (x := (nI p)) (tb_ok aX2_advance_3 14 rfl) f_RX2_31 g1 rfl (by simp [up2]) ?_
                refine s_iconst (v := 1) (tb_ok aX2_advance_3 15 rfl) (by decide) ?_
                refine s_iadd (tb_ok aX2_advance_3 16 rfl) ?_
                refine s_putI (tb_ok aX2_advance_3 17 rfl) f_RX2_31 g1 rfl ?_
                refine s_vret (tb_ok aX2_advance_3 18 rfl) rfl ?_
                refine ⟨rfl, rfl, ?_, rfl, rfl⟩
                rw [← hp0]
                unfold lexS
                rw [if_neg hend, if_neg hlt, if_neg hdg]
                first | rw [if_pos hsg] | rw [if_neg hsg]
                simp only [up2_eq, setO_2, setO_o]
                refine congrArg (setO I 62) (rd_eq ?_ rfl rfl rfl (fun j e3 e4 e5 e6 => ?_))
                · show nI p + 1 = nI (p + 1)
                  exact nI_1 p
                · simp [upd, e3, e4, e5, e6]
              · have hsg : sgP (I 63 p) := bI_1.mp (by rcases bI_01 (sgP (I 63 p)) with h | h; exact absurd h c159; exact h)
                refine s_aload_n (tb_ok aX2_advance_3 4 rfl) rfl ?_
                refine s_getR (r := 63) (tb_ok aX2_advance_3 5 rfl) f_RX2_11 g1 rfl g2 ?_
                refine s_aload_n (tb_ok aX2_advance_3 6 rfl) rfl ?_
                refine s_getI (x := (nI p)) (tb_ok aX2_advance_3 7 rfl) f_RX2_31 g1 rfl (by simp [up2]) ?_
                refine s_ialdX (x := (I 63 p)) (tb_ok aX2_advance_3 8 rfl) g3 (by omega) (by decide) (by simp [up2]) ?_
                refine s_goto (tgt := 175) (tb_ok aX2_advance_3 9 rfl) (by decide) ?_
                refine s_putI (tb_ok aX2_advance_3 11 rfl) f_RX2_47 g1 rfl ?_
                refine s_aload_n (tb_ok aX2_advance_3 12 rfl) rfl ?_
                refine s_dup (tb_ok aX2_advance_3 13 rfl) rfl ?_
                refine s_getI (x := (nI p)) (tb_ok aX2_advance_3 14 rfl) f_RX2_31 g1 rfl (by simp [up2]) ?_
                refine s_iconst (v := 1) (tb_ok aX2_advance_3 15 rfl) (by decide) ?_
                refine s_iadd (tb_ok aX2_advance_3 16 rfl) ?_
                refine s_putI (tb_ok aX2_advance_3 17 rfl) f_RX2_31 g1 rfl ?_
                refine s_vret (tb_ok aX2_advance_3 18 rfl) rfl ?_
                refine ⟨rfl, rfl, ?_, rfl, rfl⟩
                rw [← hp0]
                unfold lexS
                rw [if_neg hend, if_neg hlt, if_neg hdg]
                first | rw [if_pos hsg] | rw [if_neg hsg]
                simp only [up2_eq, setO_2, setO_o]
                refine congrArg (setO I 62) (rd_eq ?_ rfl rfl rfl (fun j e3 e4 e5 e6 => ?_))
                · show nI p + 1 = nI (p + 1)
                  exact nI_1 p
                · simp [upd, e3, e4, e5, e6]
            · have hdg : dgP (I 63 p) := bI_1.mp (by rcases bI_01 (dgP (I 63 p)) with h | h; exact absurd h c136; exact h)
              refine s_aload_n (tb_ok aX2_advance_2 17 rfl) rfl ?_
              refine s_cV (as := []) (tb_ok aX2_advance_2 18 rfl) v_RX2_97 (E_readNumber hR (n := n) (p := p) (by simp [up2]; exact hn) hn2 (by simp [up2]) (by simp [up2]) (by omega) hdg) (by decide) g1 rfl rfl rfl rfl (Nat.le_of_ble_eq_true rfl) (by decide) (fun r1 S1 I1 L1 R1 q1 => ?_)
              obtain ⟨rfl, rfl, rfl, rfl, rfl⟩ := q1
              refine s_goto (tgt := 188) (tb_ok aX2_advance_2 19 rfl) (by decide) ?_
              refine s_vret (tb_ok aX2_advance_3 18 rfl) rfl ?_
              refine ⟨rfl, rfl, ?_, rfl, rfl⟩
              rw [← hp0]
              unfold lexS
              rw [if_neg hend, if_neg hlt, if_pos hdg]
              simp only [up2_eq, setO_2, setO_o]
              exact congrArg (setO I 62) (rdS_c (fun j e3 e4 e5 e6 => by simp [upd, e3, e4, e5, e6]))
          · have hlt : ltP (I 63 p) := bI_1.mp (by rcases bI_01 (ltP (I 63 p)) with h | h; exact absurd h c114; exact h)
            refine s_aload_n (tb_ok aX2_advance_2 7 rfl) rfl ?_
            refine s_cV (as := []) (tb_ok aX2_advance_2 8 rfl) v_RX2_91 (E_readWord hR (n := n) (p := p) (by simp [up2]; exact hn) hn2 (by simp [up2]) (by simp [up2]) (by omega) hlt) (by decide) g1 rfl rfl rfl rfl (Nat.le_of_ble_eq_true rfl) (by decide) (fun r2 S2 I2 L2 R2 q2 => ?_)
            obtain ⟨rfl, rfl, rfl, rfl, rfl⟩ := q2
            refine s_goto (tgt := 188) (tb_ok aX2_advance_2 9 rfl) (by decide) ?_
            refine s_vret (tb_ok aX2_advance_3 18 rfl) rfl ?_
            refine ⟨rfl, rfl, ?_, rfl, rfl⟩
            rw [← hp0]
            unfold lexS
            rw [if_neg hend, if_pos hlt]
            simp only [up2_eq, setO_2, setO_o]
            exact congrArg (setO I 62) (rdS_c (fun j e3 e4 e5 e6 => by simp [upd, e3, e4, e5, e6]))
        · exfalso
          simp (disch := omega) only [nI_ltI, nI_leI] at c91 c81
          omega
  have loop : ∀ k, k ≤ n → (i ≤ k) → (scan blP (I 63) n k = (scan blP (I 63) n i)) → SW X 6 mX2_advance (0, 0) 9 [some (.ref 62)] [] S (up2 I 62 3 (nI k)) L R (KQ X (PureR none S (setO I 62 (rdS (I 62) (lexS (I 63) n (I 62 6) (scan blP (I 63) n i)))) L R)) := by
    refine for_up (P := fun k => (i ≤ k) → (scan blP (I 63) n k = (scan blP (I 63) n i)) → SW X 6 mX2_advance (0, 0) 9 [some (.ref 62)] [] S (up2 I 62 3 (nI k)) L R (KQ X (PureR none S (setO I 62 (rdS (I 62) (lexS (I 63) n (I 62 6) (scan blP (I 63) n i)))) L R))) n ?_ ?_
    · intro hi hi0
      refine s_aload_n (tb_ok aX2_advance_0 5 rfl) rfl ?_
      refine s_getI (x := (nI n)) (tb_ok aX2_advance_0 6 rfl) f_RX2_31 g1 rfl (by simp [up2]) ?_
      refine s_aload_n (tb_ok aX2_advance_0 7 rfl) rfl ?_
      refine s_getI (x := (nI n)) (tb_ok aX2_advance_0 8 rfl) f_RX2_15 g1 rfl (by simp [up2]; exact hn) ?_
      refine s_icmp_ge (tgt := 58) (tb_ok aX2_advance_0 9 rfl) (by decide) (fun c17 => ?_) (fun c17 => ?_)
      · have e1 : n = p := by rw [hp0, ← hi0]; exact (scan_e (by omega)).symm
        refine s_eqI ?_ tail
        rw [← e1]
      · simp (disch := omega) only [nI_ltI, nI_leI, nI_eq] at c17
        omega
    · intro k hk ih hi hi0
      refine s_aload_n (tb_ok aX2_advance_0 5 rfl) rfl ?_
      refine s_getI (x := (nI k)) (tb_ok aX2_advance_0 6 rfl) f_RX2_31 g1 rfl (by simp [up2]) ?_
      refine s_aload_n (tb_ok aX2_advance_0 7 rfl) rfl ?_
      refine s_getI (x := (nI n)) (tb_ok aX2_advance_0 8 rfl) f_RX2_15 g1 rfl (by simp [up2]; exact hn) ?_
      refine s_icmp_ge (tgt := 58) (tb_ok aX2_advance_0 9 rfl) (by decide) (fun c17 => ?_) (fun c17 => ?_)
      · simp (disch := omega) only [nI_ltI, nI_leI, nI_eq] at c17
        omega
      · refine s_aload_n (tb_ok aX2_advance_0 10 rfl) rfl ?_
        refine s_getI (x := (nI k)) (tb_ok aX2_advance_0 11 rfl) f_RX2_31 g1 rfl (by simp [up2]) ?_
        refine s_sipush (v := nI 160) (tb_ok aX2_advance_0 12 rfl) (by decide) ?_
        refine s_icmp_ge (tgt := 58) (tb_ok aX2_advance_0 13 rfl) (by decide) (fun c27 => ?_) (fun c27 => ?_)
        · simp (disch := omega) only [nI_ltI, nI_leI, nI_eq] at c27
          omega
        · refine s_aload_n (tb_ok aX2_advance_0 14 rfl) rfl ?_
          refine s_getR (r := 63) (tb_ok aX2_advance_0 15 rfl) f_RX2_11 g1 rfl g2 ?_
          refine s_aload_n (tb_ok aX2_advance_0 16 rfl) rfl ?_
          refine s_getI (x := (nI k)) (tb_ok aX2_advance_0 17 rfl) f_RX2_31 g1 rfl (by simp [up2]) ?_
          refine s_ialdN (tb_ok aX2_advance_0 18 rfl) g3 (by omega) (by decide) ?_
          refine s_cSp (as := [_]) (tb_ok aX2_advance_0 19 rfl) v_RX2_84 (E_isBlank _) (by decide) rfl rfl (Nat.le_of_ble_eq_true rfl) ?_
          refine s_if_eq (tgt := 58) (tb_ok aX2_advance_0 20 rfl) (by decide) (fun c42 => ?_) (fun c42 => ?_)
          · have hnl : ¬ blP (I 63 k) := bI_0.mp c42
            have e1 : k = p := by rw [hp0, ← hi0]; exact (scan_e (fun h => hnl h.2)).symm
            refine s_eqI ?_ tail
            rw [← e1]
          · refine s_aload_n (tb_ok aX2_advance_0 21 rfl) rfl ?_
            refine s_dup (tb_ok aX2_advance_0 22 rfl) rfl ?_
            refine s_getI (x := (nI k)) (tb_ok aX2_advance_0 23 rfl) f_RX2_31 g1 rfl (by simp [up2]) ?_
            refine s_iconst (v := 1) (tb_ok aX2_advance_1 0 rfl) (by decide) ?_
            refine s_iadd (tb_ok aX2_advance_1 1 rfl) ?_
            refine s_putI (tb_ok aX2_advance_1 2 rfl) f_RX2_31 g1 rfl ?_
            refine s_goto (tgt := 9) (tb_ok aX2_advance_1 3 rfl) (by decide) ?_
            have hl2 : blP (I 63 k) := bI_1.mp (by rcases bI_01 (blP (I 63 k)) with h | h; exact absurd h c42; exact h)
            rw [nI_1, up2_2]
            exact ih (by omega) (by rw [← hi0]; exact (scan_s hk hl2).symm)
  refine ev_of (by decide +kernel) rfl ?_
  show SW X _ _ _ 0 [some (.ref 62)] [] S I L R _
  refine s_aload_n (tb_ok aX2_advance_0 0 rfl) rfl ?_
  refine s_getI (tb_ok aX2_advance_0 1 rfl) f_RX2_19 g1 rfl rfl ?_
  refine s_iconst (v := -1) (tb_ok aX2_advance_0 2 rfl) (by decide) ?_
  refine s_icmp_eq (tgt := 9) (tb_ok aX2_advance_0 3 rfl) (by decide) (fun c5 => ?_) (fun c5 => ?_)
  · exact s_eqI (up2_self h3).symm (loop i (by omega) (Nat.le_refl _) rfl)
  · exact absurd h7 c5

set_option maxRecDepth 100000 in
set_option maxHeartbeats 1000000 in
theorem E_put {X : En} {S : Sh} {I : FI} {L : FL} {R : FR} {r : Nat} (hR : isRead S R r) {n : Nat} (hn : I 62 1 = nI n) (hn2 : n < 160) (x : Int32) : Ev X 1 mX2_put (0, 0) [.ref 62, .int x] S I L R (PureR (some (.int 1)) S (up2 (up2 I 63 n x) 62 1 (nI (n + 1))) L R) := by
  obtain ⟨g1, g2, g3, g4, g5, g6⟩ := id hR
  refine ev_of (by decide +kernel) rfl ?_
  show SW X _ _ _ 0 [some (.ref 62), some (.int x)] [] S I L R _
  refine s_aload_n (tb_ok aX2_put_0 0 rfl) rfl ?_
  refine s_getI (x := (nI n)) (tb_ok aX2_put_0 1 rfl) f_RX2_15 g1 rfl hn ?_
  refine s_if_lt (tgt := 17) (tb_ok aX2_put_0 2 rfl) (by decide) (fun c4 => ?_) (fun c4 => ?_)
  · exact absurd c4 (nI_pos (by omega))
  · refine s_aload_n (tb_ok aX2_put_0 3 rfl) rfl ?_
    refine s_getI (x := (nI n)) (tb_ok aX2_put_0 4 rfl) f_RX2_15 g1 rfl hn ?_
    refine s_sipush (v := nI 160) (tb_ok aX2_put_0 5 rfl) (by decide) ?_
    refine s_icmp_lt (tgt := 19) (tb_ok aX2_put_0 6 rfl) (by decide) (fun c14 => ?_) (fun c14 => ?_)
    · refine s_aload_n (tb_ok aX2_put_0 9 rfl) rfl ?_
      refine s_getR (r := 63) (tb_ok aX2_put_0 10 rfl) f_RX2_11 g1 rfl g2 ?_
      refine s_aload_n (tb_ok aX2_put_0 11 rfl) rfl ?_
      refine s_getI (x := (nI n)) (tb_ok aX2_put_0 12 rfl) f_RX2_15 g1 rfl hn ?_
      refine s_iload_n (tb_ok aX2_put_0 13 rfl) rfl ?_
      refine s_iastN (tb_ok aX2_put_0 14 rfl) g3 (by omega) (by decide) ?_
      refine s_aload_n (tb_ok aX2_put_0 15 rfl) rfl ?_
      refine s_dup (tb_ok aX2_put_0 16 rfl) rfl ?_
      refine s_getI (x := (nI n)) (tb_ok aX2_put_0 17 rfl) f_RX2_15 g1 rfl (by simp [up2]; exact hn) ?_
      refine s_iconst (v := 1) (tb_ok aX2_put_0 18 rfl) (by decide) ?_
      refine s_iadd (tb_ok aX2_put_0 19 rfl) ?_
      refine s_topi (z := (nI (n + 1))) (nI_1 n) ?_
      refine s_putI (tb_ok aX2_put_0 20 rfl) f_RX2_15 g1 rfl ?_
      refine s_iconst (v := 1) (tb_ok aX2_put_0 21 rfl) (by decide) ?_
      refine s_zret (tb_ok aX2_put_0 22 rfl) rfl ?_ ?_
      exact Or.inr rfl
      exact pureR
    · simp (disch := omega) only [nI_ltI] at c14
      omega

set_option maxRecDepth 100000 in
set_option maxHeartbeats 1000000 in
theorem E_putF {X : En} {S : Sh} {I : FI} {L : FL} {R : FR} {r : Nat} (hR : isRead S R r) (hn : I 62 1 = nI 160) (x : Int32) : Ev X 1 mX2_put (0, 0) [.ref 62, .int x] S I L R (PureR (some (.int 0)) S (I) L R) := by
  obtain ⟨g1, g2, g3, g4, g5, g6⟩ := id hR
  refine ev_of (by decide +kernel) rfl ?_
  show SW X _ _ _ 0 [some (.ref 62), some (.int x)] [] S I L R _
  refine s_aload_n (tb_ok aX2_put_0 0 rfl) rfl ?_
  refine s_getI (x := (nI 160)) (tb_ok aX2_put_0 1 rfl) f_RX2_15 g1 rfl hn ?_
  refine s_if_lt (tgt := 17) (tb_ok aX2_put_0 2 rfl) (by decide) (fun c4 => ?_) (fun c4 => ?_)
  · exact absurd c4 (by decide)
  · refine s_aload_n (tb_ok aX2_put_0 3 rfl) rfl ?_
    refine s_getI (x := (nI 160)) (tb_ok aX2_put_0 4 rfl) f_RX2_15 g1 rfl hn ?_
    refine s_sipush (v := nI 160) (tb_ok aX2_put_0 5 rfl) (by decide) ?_
    refine s_icmp_lt (tgt := 19) (tb_ok aX2_put_0 6 rfl) (by decide) (fun c14 => ?_) (fun c14 => ?_)
    · exact absurd c14 (by decide)
    · refine s_iconst (v := 0) (tb_ok aX2_put_0 7 rfl) (by decide) ?_
      refine s_zret (tb_ok aX2_put_0 8 rfl) rfl ?_ ?_
      exact Or.inl rfl
      exact pureR

set_option maxRecDepth 100000 in
set_option maxHeartbeats 1000000 in
theorem E_rclear {X : En} {S : Sh} {I : FI} {L : FL} {R : FR} {r : Nat} (hR : isRead S R r) : Ev X 1 mX2_clear (0, 0) [.ref 62] S I L R (PureR (none) S (up2 I 62 1 0) L R) := by
  obtain ⟨g1, g2, g3, g4, g5, g6⟩ := id hR
  refine ev_of (by decide +kernel) rfl ?_
  show SW X _ _ _ 0 [some (.ref 62)] [] S I L R _
  refine s_aload_n (tb_ok aX2_clear_0 0 rfl) rfl ?_
  refine s_iconst (v := 0) (tb_ok aX2_clear_0 1 rfl) (by decide) ?_
  refine s_putI (tb_ok aX2_clear_0 2 rfl) f_RX2_15 g1 rfl ?_
  refine s_vret (tb_ok aX2_clear_0 3 rfl) rfl ?_
  exact pureR

set_option maxRecDepth 100000 in
set_option maxHeartbeats 1000000 in
theorem E_fail {X : En} {S : Sh} {I : FI} {L : FL} {R : FR} {r : Nat} (hR : isRead S R r) : Ev X 1 mX2_fail (0, 0) [.ref 62] S I L R (PureR (none) S (if I 62 7 = -1 then up2 I 62 7 (I 62 4) else I) L R) := by
  obtain ⟨g1, g2, g3, g4, g5, g6⟩ := id hR
  refine ev_of (by decide +kernel) rfl ?_
  show SW X _ _ _ 0 [some (.ref 62)] [] S I L R _
  refine s_aload_n (tb_ok aX2_fail_0 0 rfl) rfl ?_
  refine s_getI (tb_ok aX2_fail_0 1 rfl) f_RX2_19 g1 rfl rfl ?_
  refine s_iconst (v := -1) (tb_ok aX2_fail_0 2 rfl) (by decide) ?_
  refine s_icmp_ne (tgt := 16) (tb_ok aX2_fail_0 3 rfl) (by decide) (fun c5 => ?_) (fun c5 => ?_)
  · refine s_vret (tb_ok aX2_fail_0 8 rfl) rfl ?_
    first | (rw [if_pos c5]; exact pureR) | (rw [if_neg c5]; exact pureR)
  · refine s_aload_n (tb_ok aX2_fail_0 4 rfl) rfl ?_
    refine s_aload_n (tb_ok aX2_fail_0 5 rfl) rfl ?_
    refine s_getI (tb_ok aX2_fail_0 6 rfl) f_RX2_53 g1 rfl rfl ?_
    refine s_putI (tb_ok aX2_fail_0 7 rfl) f_RX2_19 g1 rfl ?_
    refine s_vret (tb_ok aX2_fail_0 8 rfl) rfl ?_
    first | (rw [if_pos c5]; exact pureR) | (rw [if_neg c5]; exact pureR)

/-- all but the reader, its rule's steps, is as it was; the text is -/
def Fr (r : Nat) (I0 I : FI) : Prop := (∀ a, a ≠ 62 → a ≠ r → a ≠ r + 1 → I a = I0 a) ∧ I 62 1 = I0 62 1
def OKs (r n : Nat) (I0 : FI) (acc : List Int32) (s : St) (I : FI) : Prop := Fr r I0 I ∧ Wf n s ∧ I 62 3 = nI s.at_ ∧ I 62 4 = nI s.pl ∧ I 62 5 = s.tok ∧ I 62 6 = s.val ∧ I 62 7 = -1 ∧ I r 3 = nI acc.length ∧ ∀ j, j < acc.length → I (r + 1) j = acc.getD j 0
def ERs (r : Nat) (I0 : FI) (f : Nat) (I : FI) : Prop := Fr r I0 I ∧ f ≤ 160 ∧ I 62 7 = nI f ∧ ∃ k, k ≤ 160 ∧ I r 3 = nI k
theorem Fr.set {r a k : Nat} {I0 I : FI} {x : Int32} (h : Fr r I0 I) (ha : a = 62 ∨ a = r ∨ a = r + 1) (h1 : ¬ (a = 62 ∧ k = 1)) : Fr r I0 (up2 I a k x) :=
  ⟨fun b h2 h3 h4 => by rw [up2_n _ _ (by rintro rfl; rcases ha with e | e | e <;> contradiction)]; exact h.1 b h2 h3 h4, by rw [up2_nn _ _ (by rintro ⟨rfl, rfl⟩; exact h1 ⟨rfl, rfl⟩)]; exact h.2⟩
theorem OKs.ne {r n f : Nat} {I0 I : FI} (h : ERs r I0 f I) : ¬ I 62 7 = -1 := by
  rw [h.2.2.1]
  intro e
  exact nI_pos (n := f) (by have := h.2.1; omega) (by rw [e]; decide)
theorem OKs.fail {r n : Nat} {I0 I : FI} {acc : List Int32} {s : St} (hr : r + 3 < 62) (hn : n ≤ 160) (h : OKs r n I0 acc s I) (ha : acc.length ≤ 160) : ERs r I0 s.pl (if I 62 7 = -1 then up2 I 62 7 (I 62 4) else I) := by
  obtain ⟨h1, h2, h3, h4, h5, h6, h7, h8, h9⟩ := h
  rw [if_pos h7, h4]
  exact ⟨h1.set (Or.inl rfl) (by omega), Nat.le_trans h2.pl hn, by simp [up2], acc.length, ha, by rw [up2_n _ _ (by omega)]; exact h8⟩
theorem ERs.fail {r f : Nat} {I0 I : FI} (h : ERs r I0 f I) : ERs r I0 f (if I 62 7 = -1 then up2 I 62 7 (I 62 4) else I) := by
  rw [if_neg (OKs.ne (n := 0) h)]
  exact h
theorem OKs.go {r n : Nat} {I0 I : FI} {acc : List Int32} {s : St} (hr : r + 3 < 62) (h : OKs r n I0 acc s I) (hn : I0 62 1 = nI n) : OKs r n I0 acc (adv (I0 63) n s) (setO I 62 (rdS (I 62) (lex (I 63) n s.at_ (I 62 6)))) := by
  obtain ⟨h1, h2, h3, h4, h5, h6, h7, h8, h9⟩ := h
  have e63 : I 63 = I0 63 := h1.1 63 (by omega) (by omega) (by omega)
  have e : lex (I 63) n s.at_ (I 62 6) = adv (I0 63) n s := by rw [e63, h6]; rfl
  rw [e]
  refine ⟨⟨fun a a1 a2 a3 => by rw [setO_n a1]; exact h1.1 a a1 a2 a3, by rw [setO_o]; exact h1.2⟩, (adv_wf h2).1, by rw [setO_o]; rfl, by rw [setO_o]; rfl, by rw [setO_o]; rfl, by rw [setO_o]; rfl, by rw [setO_o]; exact h7, by rw [setO_n (by omega)]; exact h8, fun j hj => by rw [setO_n (by omega)]; exact h9 j hj⟩
theorem OKs.lay {r n : Nat} {I0 I : FI} {acc : List Int32} {s : St} {c : Int32} (hr : r + 3 < 62) (h : OKs r n I0 acc s I) : OKs r n I0 (acc ++ [c]) s (up2 (up2 I (r + 1) acc.length c) r 3 (nI (acc.length + 1))) := by
  obtain ⟨h1, h2, h3, h4, h5, h6, h7, h8, h9⟩ := h
  have e62 : ∀ j, up2 (up2 I (r + 1) acc.length c) r 3 (nI (acc.length + 1)) 62 j = I 62 j := fun j => by rw [up2_n _ _ (by omega), up2_n _ _ (by omega)]
  refine ⟨(h1.set (by omega) (by omega)).set (by omega) (by omega), h2, by rw [e62]; exact h3, by rw [e62]; exact h4, by rw [e62]; exact h5, by rw [e62]; exact h6, by rw [e62]; exact h7, by rw [up2_oo, List.length_append]; rfl, fun j hj => ?_⟩
  rw [up2_n _ _ (by omega), up2_o]
  rw [List.length_append] at hj
  have hj : j < acc.length + 1 := hj
  by_cases e : j = acc.length
  · subst e; simp
  · show (if j = acc.length then c else I (r + 1) j) = _
    rw [if_neg e, h9 j (by omega), List.getD_eq_getElem?_getD, List.getD_eq_getElem?_getD, List.getElem?_append_left (by omega)]
theorem ERs.lay {r f k : Nat} {I0 I : FI} {c : Int32} (hr : r + 3 < 62) (h : ERs r I0 f I) (hk : k < 160) : ERs r I0 f (up2 (up2 I (r + 1) k c) r 3 (nI (k + 1))) :=
  ⟨(h.1.set (by omega) (by omega)).set (by omega) (by omega), h.2.1, by rw [up2_n _ _ (by omega), up2_n _ _ (by omega)]; exact h.2.2.1, k + 1, by omega, by rw [up2_oo]⟩