/-! rules: a text as steps, and what they say -/
def of1 (c a : Int32) : Int32 := if c = 20000 then -a else bI (a = 0)
def of2 (c a b : Int32) : Int32 := if c = 30000 then a + b else if c = 30001 then a - b else if c = 30002 then a * b else if c = 30003 then bI (a < b) else if c = 30004 then bI (a = b) else if c = 30005 then bI (a ≠ 0 ∧ b ≠ 0) else bI (a ≠ 0 ∨ b ≠ 0)
/-- what a step that is a number or a name says -/
def atm (nm : Nat → Int32) (c : Int32) : Int32 := if c - 10000 < 0 then c else if nI 6 ≤ c - 10000 then c else nm (c - 10000).toNatClampNeg
/-- one step over the values that wait -/
def stp (nm : Nat → Int32) (c : Int32) (t : Nat) (w : Nat → Int32) : Nat × (Nat → Int32) :=
  if c < 30000 then (if c < 20000 then (if 31 ≤ t then (t, w) else (t + 1, upd w t (atm nm c)))
    else (if t < 1 then (t, w) else (t, upd w (t - 1) (of1 c (w (t - 1))))))
  else (if t < 2 then (t, w) else (t - 1, upd w (t - 1 - 1) (of2 c (w (t - 1 - 1)) (w (t - 1)))))
def stpN (nm co : Nat → Int32) : Nat → Nat → Nat × (Nat → Int32) → Nat × (Nat → Int32)
  | 0, _, s => s
  | n + 1, i, s => stpN nm co n (i + 1) (stp nm (co i) s.1 s.2)
/-- the values that wait behind the steps lo .. hi - 1 -/
def runV (nm co w : Nat → Int32) (lo hi : Nat) : Nat × (Nat → Int32) := stpN nm co (hi - lo) lo (0, w)
def valV (s : Nat × (Nat → Int32)) : Int32 := if 0 < s.1 then s.2 0 else 0

set_option maxRecDepth 100000 in
set_option maxHeartbeats 4000000 in
theorem E_Uclear {X : En} {S : Sh} {I : FI} {L : FL} {R : FR} {o : Nat} (hR : isRule S R o) : Ev X 0 mX4_clear (0, 0) [.ref o] S I L R (PureR (none) S (up2 I o 3 0) L R) := by
  obtain ⟨h1, h2, h3, h4, h5, h6, h7⟩ := id hR
  refine ev_of (by decide +kernel) rfl ?_
  show SW X _ _ _ 0 [some (.ref o)] [] S I L R _
  refine s_aload_n (tb_ok aX4_clear_0 0 rfl) rfl ?_
  refine s_iconst (v := 0) (tb_ok aX4_clear_0 1 rfl) (by decide) ?_
  refine s_putI (tb_ok aX4_clear_0 2 rfl) f_RX4_21 h1 rfl ?_
  refine s_vret (tb_ok aX4_clear_0 3 rfl) rfl ?_
  exact pureR

set_option maxRecDepth 100000 in
set_option maxHeartbeats 4000000 in
theorem E_Uadd {X : En} {S : Sh} {I : FI} {L : FL} {R : FR} {o : Nat} (hR : isRule S R o) (c : Int32) {n : Nat} (hn : I o 3 = nI n) (hn2 : n < 160) : Ev X 0 mX4_add (0, 0) [.ref o, .int c] S I L R (PureR (none) S (up2 (up2 I (o + 1) n c) o 3 (nI (n + 1))) L R) := by
  obtain ⟨h1, h2, h3, h4, h5, h6, h7⟩ := id hR
  refine ev_of (by decide +kernel) rfl ?_
  show SW X _ _ _ 0 [some (.ref o), some (.int c)] [] S I L R _
  refine s_aload_n (tb_ok aX4_add_0 0 rfl) rfl ?_
  refine s_getI (x := (nI n)) (tb_ok aX4_add_0 1 rfl) f_RX4_21 h1 rfl (by simp [up2, hn]) ?_
  refine s_if_lt (tgt := 37) (tb_ok aX4_add_0 2 rfl) (by decide) (fun c4 => ?_) (fun c4 => ?_)
  · exact absurd c4 (nI_pos (by omega))
  · refine s_aload_n (tb_ok aX4_add_0 3 rfl) rfl ?_
    refine s_getI (x := (nI n)) (tb_ok aX4_add_0 4 rfl) f_RX4_21 h1 rfl (by simp [up2, hn]) ?_
    refine s_sipush (v := nI 160) (tb_ok aX4_add_0 5 rfl) (by decide) ?_
    refine s_icmp_ge (tgt := 37) (tb_ok aX4_add_0 6 rfl) (by decide) (fun c14 => ?_) (fun c14 => ?_)
    · simp (disch := omega) only [nI_ltI, nI_leI, nI_eq] at c14
      omega
    · refine s_aload_n (tb_ok aX4_add_0 7 rfl) rfl ?_
      refine s_getR (r := (o + 1)) (tb_ok aX4_add_0 8 rfl) f_RX4_11 h1 rfl h2 ?_
      refine s_aload_n (tb_ok aX4_add_0 9 rfl) rfl ?_
      refine s_getI (x := (nI n)) (tb_ok aX4_add_0 10 rfl) f_RX4_21 h1 rfl (by simp [up2, hn]) ?_
      refine s_iload_n (tb_ok aX4_add_0 11 rfl) rfl ?_
      refine s_iastN (tb_ok aX4_add_0 12 rfl) h3 (by omega) (by decide) ?_
      refine s_aload_n (tb_ok aX4_add_0 13 rfl) rfl ?_
      refine s_dup (tb_ok aX4_add_0 14 rfl) rfl ?_
      refine s_getI (x := (nI n)) (tb_ok aX4_add_0 15 rfl) f_RX4_21 h1 rfl (by simp [up2, hn]) ?_
      refine s_iconst (v := 1) (tb_ok aX4_add_0 16 rfl) (by decide) ?_
      refine s_iadd (tb_ok aX4_add_0 17 rfl) ?_
      refine s_topi (nI_1 n) ?_
      refine s_putI (tb_ok aX4_add_0 18 rfl) f_RX4_21 h1 rfl ?_
      refine s_vret (tb_ok aX4_add_0 19 rfl) rfl ?_
      exact pureR

set_option maxRecDepth 100000 in
set_option maxHeartbeats 4000000 in
theorem E_UaddF {X : En} {S : Sh} {I : FI} {L : FL} {R : FR} {o : Nat} (hR : isRule S R o) (c : Int32) {n : Nat} (hn : I o 3 = nI n) (hn2 : 160 ≤ n) (hn3 : n < 2 ^ 31) : Ev X 0 mX4_add (0, 0) [.ref o, .int c] S I L R (PureR (none) S I L R) := by
  obtain ⟨h1, h2, h3, h4, h5, h6, h7⟩ := id hR
  refine ev_of (by decide +kernel) rfl ?_
  show SW X _ _ _ 0 [some (.ref o), some (.int c)] [] S I L R _
  refine s_aload_n (tb_ok aX4_add_0 0 rfl) rfl ?_
  refine s_getI (x := (nI n)) (tb_ok aX4_add_0 1 rfl) f_RX4_21 h1 rfl (by simp [up2, hn]) ?_
  refine s_if_lt (tgt := 37) (tb_ok aX4_add_0 2 rfl) (by decide) (fun c4 => ?_) (fun c4 => ?_)
  · exact absurd c4 (nI_pos (by omega))
  · refine s_aload_n (tb_ok aX4_add_0 3 rfl) rfl ?_
    refine s_getI (x := (nI n)) (tb_ok aX4_add_0 4 rfl) f_RX4_21 h1 rfl (by simp [up2, hn]) ?_
    refine s_sipush (v := nI 160) (tb_ok aX4_add_0 5 rfl) (by decide) ?_
    refine s_icmp_ge (tgt := 37) (tb_ok aX4_add_0 6 rfl) (by decide) (fun c14 => ?_) (fun c14 => ?_)
    · refine s_vret (tb_ok aX4_add_0 19 rfl) rfl ?_
      exact pureR
    · simp (disch := omega) only [nI_ltI, nI_leI, nI_eq] at c14
      omega

set_option maxRecDepth 100000 in
set_option maxHeartbeats 4000000 in
theorem E_Uend {X : En} {S : Sh} {I : FI} {L : FL} {R : FR} {o : Nat} (hR : isRule S R o) {k : Nat} (hk : k < 3) : Ev X 0 mX4_endPart (0, 0) [.ref o, .int (nI k)] S I L R (PureR (none) S (up2 I (o + 2) k (I o 3)) L R) := by
  obtain ⟨h1, h2, h3, h4, h5, h6, h7⟩ := id hR
  refine ev_of (by decide +kernel) rfl ?_
  show SW X _ _ _ 0 [some (.ref o), some (.int (nI k))] [] S I L R _
  refine s_iload_n (tb_ok aX4_endPart_0 0 rfl) rfl ?_
  refine s_if_lt (tgt := 23) (tb_ok aX4_endPart_0 1 rfl) (by decide) (fun c1 => ?_) (fun c1 => ?_)
  · exact absurd c1 (nI_pos (by omega))
  · refine s_iload_n (tb_ok aX4_endPart_0 2 rfl) rfl ?_
    refine s_aload_n (tb_ok aX4_endPart_0 3 rfl) rfl ?_
    refine s_getR (r := (o + 2)) (tb_ok aX4_endPart_0 4 rfl) f_RX4_15 h1 rfl h4 ?_
    refine s_alen (v := nI 3) (a := 0) (n := 3) (tb_ok aX4_endPart_0 5 rfl) (by decide) h5 (by decide) ?_
    refine s_icmp_ge (tgt := 23) (tb_ok aX4_endPart_0 6 rfl) (by decide) (fun c10 => ?_) (fun c10 => ?_)
    · simp (disch := omega) only [nI_ltI, nI_leI, nI_eq] at c10
      omega
    · refine s_aload_n (tb_ok aX4_endPart_0 7 rfl) rfl ?_
      refine s_getR (r := (o + 2)) (tb_ok aX4_endPart_0 8 rfl) f_RX4_15 h1 rfl h4 ?_
      refine s_iload_n (tb_ok aX4_endPart_0 9 rfl) rfl ?_
      refine s_aload_n (tb_ok aX4_endPart_0 10 rfl) rfl ?_
      refine s_getI (tb_ok aX4_endPart_0 11 rfl) f_RX4_21 h1 rfl rfl ?_
      refine s_iastN (tb_ok aX4_endPart_0 12 rfl) h5 (by omega) (by decide) ?_
      refine s_vret (tb_ok aX4_endPart_0 13 rfl) rfl ?_
      exact pureR

set_option maxRecDepth 100000 in
set_option maxHeartbeats 4000000 in
theorem E_of1 {X : En} {S : Sh} {I : FI} {L : FL} {R : FR} (c a : Int32) : Ev X 0 mX4_ofOne (0, 0) [.int c, .int a] S I L R (PureR (some (.int (of1 c a))) S I L R) := by
  refine ev_of (by decide +kernel) rfl ?_
  show SW X _ _ _ 0 [some (.int c), some (.int a)] [] S I L R _
  refine s_iload_n (tb_ok aX4_ofOne_0 0 rfl) rfl ?_
  refine s_sipush (v := 20000) (tb_ok aX4_ofOne_0 1 rfl) (by decide) ?_
  refine s_icmp_ne (tgt := 10) (tb_ok aX4_ofOne_0 2 rfl) (by decide) (fun c4 => ?_) (fun c4 => ?_)
  · refine s_iload_n (tb_ok aX4_ofOne_0 6 rfl) rfl ?_
    refine s_if_ne (tgt := 18) (tb_ok aX4_ofOne_0 7 rfl) (by decide) (fun c11 => ?_) (fun c11 => ?_)
    · refine s_iconst (v := 0) (tb_ok aX4_ofOne_0 10 rfl) (by decide) ?_
      refine s_iret (tb_ok aX4_ofOne_0 11 rfl) rfl ?_
      exact pureE (by simp [of1, bI, *])
    · refine s_iconst (v := 1) (tb_ok aX4_ofOne_0 8 rfl) (by decide) ?_
      refine s_goto (tgt := 19) (tb_ok aX4_ofOne_0 9 rfl) (by decide) ?_
      refine s_iret (tb_ok aX4_ofOne_0 11 rfl) rfl ?_
      exact pureE (by simp [of1, bI, *])
  · refine s_iload_n (tb_ok aX4_ofOne_0 3 rfl) rfl ?_
    refine s_ineg (tb_ok aX4_ofOne_0 4 rfl) ?_
    refine s_iret (tb_ok aX4_ofOne_0 5 rfl) rfl ?_
    exact pureE (by simp [of1, bI, *])

set_option maxRecDepth 100000 in
set_option maxHeartbeats 4000000 in
theorem E_of2 {X : En} {S : Sh} {I : FI} {L : FL} {R : FR} (c a b : Int32) : Ev X 0 mX4_ofTwo (0, 0) [.int c, .int a, .int b] S I L R (PureR (some (.int (of2 c a b))) S I L R) := by
  refine ev_of (by decide +kernel) rfl ?_
  show SW X _ _ _ 0 [some (.int c), some (.int a), some (.int b)] [] S I L R _
  refine s_iload_n (tb_ok aX4_ofTwo_0 0 rfl) rfl ?_
  by_cases e30000 : c = 30000
  · subst e30000
    refine s_tableIn (off := 39) (tgt := 40) (tb_ok aX4_ofTwo_0 1 rfl) (by decide) (by decide) rfl (by decide) ?_
    refine s_iload_n (tb_ok aX4_ofTwo_0 2 rfl) rfl ?_
    refine s_iload_n (tb_ok aX4_ofTwo_0 3 rfl) rfl ?_
    refine s_iadd (tb_ok aX4_ofTwo_0 4 rfl) ?_
    refine s_iret (tb_ok aX4_ofTwo_0 5 rfl) rfl ?_
    exact pureE (by simp [of2, bI, *])
  by_cases e30001 : c = 30001
  · subst e30001
    refine s_tableIn (off := 43) (tgt := 44) (tb_ok aX4_ofTwo_0 1 rfl) (by decide) (by decide) rfl (by decide) ?_
    refine s_iload_n (tb_ok aX4_ofTwo_0 6 rfl) rfl ?_
    refine s_iload_n (tb_ok aX4_ofTwo_0 7 rfl) rfl ?_
    refine s_isub (tb_ok aX4_ofTwo_0 8 rfl) ?_
    refine s_iret (tb_ok aX4_ofTwo_0 9 rfl) rfl ?_
    exact pureE (by simp [of2, bI, *])
  by_cases e30002 : c = 30002
  · subst e30002
    refine s_tableIn (off := 47) (tgt := 48) (tb_ok aX4_ofTwo_0 1 rfl) (by decide) (by decide) rfl (by decide) ?_
    refine s_iload_n (tb_ok aX4_ofTwo_0 10 rfl) rfl ?_
    refine s_iload_n (tb_ok aX4_ofTwo_0 11 rfl) rfl ?_
    refine s_imul (tb_ok aX4_ofTwo_0 12 rfl) ?_
    refine s_iret (tb_ok aX4_ofTwo_0 13 rfl) rfl ?_
    exact pureE (by simp [of2, bI, *])
  by_cases e30003 : c = 30003
  · subst e30003
    refine s_tableIn (off := 51) (tgt := 52) (tb_ok aX4_ofTwo_0 1 rfl) (by decide) (by decide) rfl (by decide) ?_
    refine s_iload_n (tb_ok aX4_ofTwo_0 14 rfl) rfl ?_
    refine s_iload_n (tb_ok aX4_ofTwo_0 15 rfl) rfl ?_
    refine s_icmp_ge (tgt := 61) (tb_ok aX4_ofTwo_0 16 rfl) (by decide) (fun c54 => ?_) (fun c54 => ?_)
    · refine s_iconst (v := 0) (tb_ok aX4_ofTwo_0 19 rfl) (by decide) ?_
      refine s_iret (tb_ok aX4_ofTwo_0 20 rfl) rfl ?_
      refine pureE ?_
      first | (simp [of2, bI, Int32.not_le.mp c54]; done) | (simp [of2, bI, Int32.not_lt.mpr c54]; done)
    · refine s_iconst (v := 1) (tb_ok aX4_ofTwo_0 17 rfl) (by decide) ?_
      refine s_goto (tgt := 62) (tb_ok aX4_ofTwo_0 18 rfl) (by decide) ?_
      refine s_iret (tb_ok aX4_ofTwo_0 20 rfl) rfl ?_
      refine pureE ?_
      first | (simp [of2, bI, Int32.not_le.mp c54]; done) | (simp [of2, bI, Int32.not_lt.mpr c54]; done)
  by_cases e30004 : c = 30004
  · subst e30004
    refine s_tableIn (off := 62) (tgt := 63) (tb_ok aX4_ofTwo_0 1 rfl) (by decide) (by decide) rfl (by decide) ?_
    refine s_iload_n (tb_ok aX4_ofTwo_0 21 rfl) rfl ?_
    refine s_iload_n (tb_ok aX4_ofTwo_0 22 rfl) rfl ?_
    refine s_icmp_ne (tgt := 72) (tb_ok aX4_ofTwo_0 23 rfl) (by decide) (fun c65 => ?_) (fun c65 => ?_)
    · refine s_iconst (v := 0) (tb_ok aX4_ofTwo_1 2 rfl) (by decide) ?_
      refine s_iret (tb_ok aX4_ofTwo_1 3 rfl) rfl ?_
      exact pureE (by simp [of2, bI, *])
    · refine s_iconst (v := 1) (tb_ok aX4_ofTwo_1 0 rfl) (by decide) ?_
      refine s_goto (tgt := 73) (tb_ok aX4_ofTwo_1 1 rfl) (by decide) ?_
      refine s_iret (tb_ok aX4_ofTwo_1 3 rfl) rfl ?_
      exact pureE (by simp [of2, bI, *])
  by_cases e30005 : c = 30005
  · subst e30005
    refine s_tableIn (off := 73) (tgt := 74) (tb_ok aX4_ofTwo_0 1 rfl) (by decide) (by decide) rfl (by decide) ?_
    refine s_iload_n (tb_ok aX4_ofTwo_1 4 rfl) rfl ?_
    refine s_if_eq (tgt := 86) (tb_ok aX4_ofTwo_1 5 rfl) (by decide) (fun c75 => ?_) (fun c75 => ?_)
    · refine s_iconst (v := 0) (tb_ok aX4_ofTwo_1 10 rfl) (by decide) ?_
      refine s_iret (tb_ok aX4_ofTwo_1 11 rfl) rfl ?_
      exact pureE (by simp [of2, bI, *])
    · refine s_iload_n (tb_ok aX4_ofTwo_1 6 rfl) rfl ?_
      refine s_if_eq (tgt := 86) (tb_ok aX4_ofTwo_1 7 rfl) (by decide) (fun c79 => ?_) (fun c79 => ?_)
      · refine s_iconst (v := 0) (tb_ok aX4_ofTwo_1 10 rfl) (by decide) ?_
        refine s_iret (tb_ok aX4_ofTwo_1 11 rfl) rfl ?_
        exact pureE (by simp [of2, bI, *])
      · refine s_iconst (v := 1) (tb_ok aX4_ofTwo_1 8 rfl) (by decide) ?_
        refine s_goto (tgt := 87) (tb_ok aX4_ofTwo_1 9 rfl) (by decide) ?_
        refine s_iret (tb_ok aX4_ofTwo_1 11 rfl) rfl ?_
        exact pureE (by simp [of2, bI, *])
  · refine s_tableOut (tgt := 88) (tb_ok aX4_ofTwo_0 1 rfl) ?_ (by decide) ?_
    · by_cases h : c.toInt < 30000
      · exact Or.inl h
      · by_cases h2 : 30005 < c.toInt
        · exact Or.inr h2
        · exfalso
          have q30000 : ¬ c.toInt = 30000 := fun h => e30000 (Int32.toInt_inj.mp h)
          have q30001 : ¬ c.toInt = 30001 := fun h => e30001 (Int32.toInt_inj.mp h)
          have q30002 : ¬ c.toInt = 30002 := fun h => e30002 (Int32.toInt_inj.mp h)
          have q30003 : ¬ c.toInt = 30003 := fun h => e30003 (Int32.toInt_inj.mp h)
          have q30004 : ¬ c.toInt = 30004 := fun h => e30004 (Int32.toInt_inj.mp h)
          have q30005 : ¬ c.toInt = 30005 := fun h => e30005 (Int32.toInt_inj.mp h)
          omega
    · refine s_iload_n (tb_ok aX4_ofTwo_1 12 rfl) rfl ?_
      refine s_if_ne (tgt := 96) (tb_ok aX4_ofTwo_1 13 rfl) (by decide) (fun c89 => ?_) (fun c89 => ?_)
      · refine s_iconst (v := 1) (tb_ok aX4_ofTwo_1 16 rfl) (by decide) ?_
        refine s_goto (tgt := 101) (tb_ok aX4_ofTwo_1 17 rfl) (by decide) ?_
        refine s_iret (tb_ok aX4_ofTwo_1 19 rfl) rfl ?_
        exact pureE (by simp [of2, bI, *])
      · refine s_iload_n (tb_ok aX4_ofTwo_1 14 rfl) rfl ?_
        refine s_if_eq (tgt := 100) (tb_ok aX4_ofTwo_1 15 rfl) (by decide) (fun c93 => ?_) (fun c93 => ?_)
        · refine s_iconst (v := 0) (tb_ok aX4_ofTwo_1 18 rfl) (by decide) ?_
          refine s_iret (tb_ok aX4_ofTwo_1 19 rfl) rfl ?_
          exact pureE (by simp [of2, bI, *])
        · refine s_iconst (v := 1) (tb_ok aX4_ofTwo_1 16 rfl) (by decide) ?_
          refine s_goto (tgt := 101) (tb_ok aX4_ofTwo_1 17 rfl) (by decide) ?_
          refine s_iret (tb_ok aX4_ofTwo_1 19 rfl) rfl ?_
          exact pureE (by simp [of2, bI, *])

theorem atm_in {x : Int32} (h : ¬ x < 0) (h2 : ¬ nI 6 ≤ x) : vp_in x 6 := by
  obtain ⟨j, hj, rfl⟩ := nI_of h
  have h3 : j < 6 := by
    rcases Nat.lt_or_ge j 6 with q | q
    · exact q
    · exact absurd (nI_le q (by omega)) h2
  exact vp_in_nI h3 (by omega)
theorem stpN_s {nm co : Nat → Int32} {lo hi i t : Nat} {w0 w : Nat → Int32} (hi1 : i < hi) (h : stpN nm co (hi - i) i (t, w) = runV nm co w0 lo hi) : stpN nm co (hi - (i + 1)) (i + 1) (stp nm (co i) t w) = runV nm co w0 lo hi := by
  rw [← h, show hi - i = hi - (i + 1) + 1 by omega]
  rfl
set_option maxRecDepth 100000 in
set_option maxHeartbeats 4000000 in
theorem E_value {X : En} {S : Sh} {I : FI} {L : FL} {R : FR} {o : Nat} (hR : isRule S R o) {na : Nat} (hna : S[na]? = some (9, 6)) (hne : na ≠ o + 3) {e : Nat → Nat} (he : ∀ j, j < 3 → I (o + 2) j = nI (e j)) (he2 : ∀ j, j < 3 → e j ≤ 160) {pt lo : Nat} (hp : pt < 3) (hlo : lo = if pt = 0 then 0 else e (pt - 1)) (hlo2 : lo ≤ e pt) : Ev X 1 mX4_value (0, 0) [.ref o, .int (nI pt), .ref na] S I L R (PureR (some (.int (valV (runV (I na) (I (o + 1)) (I (o + 3)) lo (e pt))))) S (setO I (o + 3) (runV (I na) (I (o + 1)) (I (o + 3)) lo (e pt)).2) L R) := by
  obtain ⟨h1, h2, h3, h4, h5, h6, h7⟩ := id hR
  have hb := he2 pt hp
  have loop : ∀ k, k ≤ (e pt) → ∀ (t : Nat), ∀ (w : Nat → Int32), ∀ (o5 : Option Value), ∀ (o6 : Option Value), (t ≤ 31) → (stpN (I na) (I (o + 1)) (e pt - k) k (t, w) = (runV (I na) (I (o + 1)) (I (o + 3)) lo (e pt))) → SW X 1 mX4_value (0, 0) 35 [some (.ref o), some (.int (nI pt)), some (.ref na), some (.int (nI t)), some (.int (nI k)), o5, o6] [] S (setO I (o + 3) w) L R (KQ X (PureR (some (.int (valV (runV (I na) (I (o + 1)) (I (o + 3)) lo (e pt))))) S (setO I (o + 3) (runV (I na) (I (o + 1)) (I (o + 3)) lo (e pt)).2) L R)) := by
    refine for_up (P := fun k => ∀ (t : Nat), ∀ (w : Nat → Int32), ∀ (o5 : Option Value), ∀ (o6 : Option Value), (t ≤ 31) → (stpN (I na) (I (o + 1)) (e pt - k) k (t, w) = (runV (I na) (I (o + 1)) (I (o + 3)) lo (e pt))) → SW X 1 mX4_value (0, 0) 35 [some (.ref o), some (.int (nI pt)), some (.ref na), some (.int (nI t)), some (.int (nI k)), o5, o6] [] S (setO I (o + 3) w) L R (KQ X (PureR (some (.int (valV (runV (I na) (I (o + 1)) (I (o + 3)) lo (e pt))))) S (setO I (o + 3) (runV (I na) (I (o + 1)) (I (o + 3)) lo (e pt)).2) L R))) (e pt) ?_ ?_
    · intro t w o5 o6 ht hi
      refine s_iload (tb_ok aX4_value_0 22 rfl) rfl ?_
      refine s_aload_n (tb_ok aX4_value_0 23 rfl) rfl ?_
      refine s_getR (r := (o + 2)) (tb_ok aX4_value_1 0 rfl) f_RX4_15 h1 rfl h4 ?_
      refine s_iload_n (tb_ok aX4_value_1 1 rfl) rfl ?_
      refine s_ialdX (x := (nI (e pt))) (tb_ok aX4_value_1 2 rfl) h5 (by omega) (by decide) (by simp [setO, he pt hp]) ?_
      refine s_icmp_ge (tgt := 196) (tb_ok aX4_value_1 3 rfl) (by decide) (fun c43 => ?_) (fun c43 => ?_)
      · refine s_iload_n (tb_ok aX4_value_4 12 rfl) rfl ?_
        refine s_if_le (tgt := 209) (tb_ok aX4_value_4 13 rfl) (by decide) (fun c197 => ?_) (fun c197 => ?_)
        · have hx : ¬ 0 < t := fun h => nI_nle h (by omega) c197
          refine s_iconst (v := 0) (tb_ok aX4_value_4 19 rfl) (by decide) ?_
          refine s_iret (tb_ok aX4_value_4 20 rfl) rfl ?_
          refine ⟨?_, rfl, ?_, rfl, rfl⟩
          · rw [← hi, Nat.sub_self]
            show some (Value.int _) = some (Value.int (valV (t, w)))
            first | (rw [valV, if_pos hx]; done) | (rw [valV, if_neg hx]; done)
          · rw [← hi, Nat.sub_self]; rfl
        · have hx : 0 < t := Nat.pos_of_ne_zero (fun h => c197 (by rw [h]; decide))
          refine s_aload_n (tb_ok aX4_value_4 14 rfl) rfl ?_
          refine s_getR (r := (o + 3)) (tb_ok aX4_value_4 15 rfl) f_RX4_18 h1 rfl h6 ?_
          refine s_iconst (v := nI 0) (tb_ok aX4_value_4 16 rfl) (by decide) ?_
          refine s_ialdX (x := (w 0)) (tb_ok aX4_value_4 17 rfl) h7 (by omega) (by decide) (by simp [setO]) ?_
          refine s_goto (tgt := 210) (tb_ok aX4_value_4 18 rfl) (by decide) ?_
          refine s_iret (tb_ok aX4_value_4 20 rfl) rfl ?_
          refine ⟨?_, rfl, ?_, rfl, rfl⟩
          · rw [← hi, Nat.sub_self]
            show some (Value.int _) = some (Value.int (valV (t, w)))
            first | (rw [valV, if_pos hx]; done) | (rw [valV, if_neg hx]; done)
          · rw [← hi, Nat.sub_self]; rfl
      · exact absurd (nI_leI (by have := he2 pt hp; omega) (by have := he2 pt hp; omega) |>.mpr (Nat.le_refl _)) c43
    · intro k hk ih t w o5 o6 ht hi
      refine s_iload (tb_ok aX4_value_0 22 rfl) rfl ?_
      refine s_aload_n (tb_ok aX4_value_0 23 rfl) rfl ?_
      refine s_getR (r := (o + 2)) (tb_ok aX4_value_1 0 rfl) f_RX4_15 h1 rfl h4 ?_
      refine s_iload_n (tb_ok aX4_value_1 1 rfl) rfl ?_
      refine s_ialdX (x := (nI (e pt))) (tb_ok aX4_value_1 2 rfl) h5 (by omega) (by decide) (by simp [setO, he pt hp]) ?_
      refine s_icmp_ge (tgt := 196) (tb_ok aX4_value_1 3 rfl) (by decide) (fun c43 => ?_) (fun c43 => ?_)
      · exact absurd ((nI_leI (by have := he2 pt hp; omega) (by have := he2 pt hp; omega)).mp c43) (by omega)
      · refine s_iload (tb_ok aX4_value_1 4 rfl) rfl ?_
        refine s_sipush (v := nI 160) (tb_ok aX4_value_1 5 rfl) (by decide) ?_
        refine s_icmp_ge (tgt := 196) (tb_ok aX4_value_1 6 rfl) (by decide) (fun c51 => ?_) (fun c51 => ?_)
        · exact absurd ((nI_leI (by omega) (by omega)).mp c51) (by omega)
        · refine s_aload_n (tb_ok aX4_value_1 7 rfl) rfl ?_
          refine s_getR (r := (o + 1)) (tb_ok aX4_value_1 8 rfl) f_RX4_11 h1 rfl h2 ?_
          refine s_iload (tb_ok aX4_value_1 9 rfl) rfl ?_
          refine s_ialdX (x := (I (o + 1) k)) (tb_ok aX4_value_1 10 rfl) h3 (by omega) (by decide) (by simp [setO]) ?_
          refine s_name (fun x1 ex1 => ?_)
          refine s_istore (ls' := [some (.ref o), some (.int (nI pt)), some (.ref na), some (.int (nI t)), some (.int (nI k)), some (.int x1), o6]) (tb_ok aX4_value_1 11 rfl) rfl rfl ?_
          refine s_iload (tb_ok aX4_value_1 12 rfl) rfl ?_
          refine s_sipush (v := 30000) (tb_ok aX4_value_1 13 rfl) (by decide) ?_
          refine s_icmp_lt (tgt := 109) (tb_ok aX4_value_1 14 rfl) (by decide) (fun c68 => ?_) (fun c68 => ?_)
          · refine s_iload (tb_ok aX4_value_2 14 rfl) rfl ?_
            refine s_sipush (v := 20000) (tb_ok aX4_value_2 15 rfl) (by decide) ?_
            refine s_icmp_lt (tgt := 146) (tb_ok aX4_value_2 16 rfl) (by decide) (fun c114 => ?_) (fun c114 => ?_)
            · refine s_iload_n (tb_ok aX4_value_3 11 rfl) rfl ?_
              refine s_bipush (v := nI 31) (tb_ok aX4_value_3 12 rfl) (by decide) ?_
              refine s_icmp_ge (tgt := 190) (tb_ok aX4_value_3 13 rfl) (by decide) (fun c149 => ?_) (fun c149 => ?_)
              · first | (have g : t < 2 := (nI_ltI (by omega) (by omega)).mp c73) | (have g : t < 1 := (nI_ltI (by omega) (by omega)).mp c119) | (have g : 31 ≤ t := (nI_leI (by omega) (by omega)).mp c149) | skip
                refine s_iinc (v := nI (k + 1)) (ls' := [some (.ref o), some (.int (nI pt)), some (.ref na), some (.int (nI t)), some (.int (nI (k + 1))), some (.int x1), o6]) (tb_ok aX4_value_4 10 rfl) rfl (nI_1 _) rfl rfl ?_
                refine s_goto (tgt := 35) (tb_ok aX4_value_4 11 rfl) (by decide) ?_
                have q := stpN_s hk hi
                refine ih t _ _ _ (by omega) ?_
                first | (rw [← ex1, stp, if_neg c68, if_pos g] at q; exact q) | (rw [← ex1, stp, if_neg c68, if_neg g] at q; exact q) | (rw [← ex1, stp, if_pos c68, if_neg c114, if_pos g] at q; exact q) | (rw [← ex1, stp, if_pos c68, if_neg c114, if_neg g] at q; exact q) | (rw [← ex1, stp, if_pos c68, if_pos c114, if_pos g] at q; exact q) | (rw [← ex1, stp, if_pos c68, if_pos c114, if_neg g, atm, ← ex2, if_pos c167] at q; exact q) | (rw [← ex1, stp, if_pos c68, if_pos c114, if_neg g, atm, ← ex2, if_neg c167, if_pos c174] at q; exact q) | (rw [← ex1, stp, if_pos c68, if_pos c114, if_neg g, atm, ← ex2, if_neg c167, if_neg c174] at q; exact q)
              · have g : ¬ 31 ≤ t := fun h => c149 ((nI_leI (by omega) (by omega)).mpr h)
                refine s_iload (tb_ok aX4_value_3 14 rfl) rfl ?_
                refine s_sipush (v := 10000) (tb_ok aX4_value_3 15 rfl) (by decide) ?_
                refine s_isub (tb_ok aX4_value_3 16 rfl) ?_
                refine s_name (fun x2 ex2 => ?_)
                refine s_istore (ls' := [some (.ref o), some (.int (nI pt)), some (.ref na), some (.int (nI t)), some (.int (nI k)), some (.int x1), some (.int x2)]) (tb_ok aX4_value_3 17 rfl) rfl rfl ?_
                refine s_aload_n (tb_ok aX4_value_3 18 rfl) rfl ?_
                refine s_getR (r := (o + 3)) (tb_ok aX4_value_3 19 rfl) f_RX4_18 h1 rfl h6 ?_
                refine s_iload_n (tb_ok aX4_value_3 20 rfl) rfl ?_
                refine s_iload (tb_ok aX4_value_3 21 rfl) rfl ?_
                refine s_if_lt (tgt := 184) (tb_ok aX4_value_3 22 rfl) (by decide) (fun c167 => ?_) (fun c167 => ?_)
                · refine s_iload (tb_ok aX4_value_4 7 rfl) rfl ?_
                  refine s_iastN (tb_ok aX4_value_4 8 rfl) h7 (by omega) (by decide) ?_
                  rw [up2_setO]
                  refine s_iinc (v := nI (t + 1)) (ls' := [some (.ref o), some (.int (nI pt)), some (.ref na), some (.int (nI (t + 1))), some (.int (nI k)), some (.int x1), some (.int x2)]) (tb_ok aX4_value_4 9 rfl) rfl (nI_1 _) rfl rfl ?_
                  first | (have g : t < 2 := (nI_ltI (by omega) (by omega)).mp c73) | (have g : t < 1 := (nI_ltI (by omega) (by omega)).mp c119) | (have g : 31 ≤ t := (nI_leI (by omega) (by omega)).mp c149) | skip
                  refine s_iinc (v := nI (k + 1)) (ls' := [some (.ref o), some (.int (nI pt)), some (.ref na), some (.int (nI (t + 1))), some (.int (nI (k + 1))), some (.int x1), some (.int x2)]) (tb_ok aX4_value_4 10 rfl) rfl (nI_1 _) rfl rfl ?_
                  refine s_goto (tgt := 35) (tb_ok aX4_value_4 11 rfl) (by decide) ?_
                  have q := stpN_s hk hi
                  refine ih (t + 1) _ _ _ (by omega) ?_
                  first | (rw [← ex1, stp, if_neg c68, if_pos g] at q; exact q) | (rw [← ex1, stp, if_neg c68, if_neg g] at q; exact q) | (rw [← ex1, stp, if_pos c68, if_neg c114, if_pos g] at q; exact q) | (rw [← ex1, stp, if_pos c68, if_neg c114, if_neg g] at q; exact q) | (rw [← ex1, stp, if_pos c68, if_pos c114, if_pos g] at q; exact q) | (rw [← ex1, stp, if_pos c68, if_pos c114, if_neg g, atm, ← ex2, if_pos c167] at q; exact q) | (rw [← ex1, stp, if_pos c68, if_pos c114, if_neg g, atm, ← ex2, if_neg c167, if_pos c174] at q; exact q) | (rw [← ex1, stp, if_pos c68, if_pos c114, if_neg g, atm, ← ex2, if_neg c167, if_neg c174] at q; exact q)
                · refine s_iload (tb_ok aX4_value_3 23 rfl) rfl ?_
                  refine s_aload_n (tb_ok aX4_value_4 0 rfl) rfl ?_
                  refine s_alen (v := nI 6) (a := 0) (n := 6) (tb_ok aX4_value_4 1 rfl) (by decide) hna (by decide) ?_
                  refine s_icmp_ge (tgt := 184) (tb_ok aX4_value_4 2 rfl) (by decide) (fun c174 => ?_) (fun c174 => ?_)
                  · refine s_iload (tb_ok aX4_value_4 7 rfl) rfl ?_
                    refine s_iastN (tb_ok aX4_value_4 8 rfl) h7 (by omega) (by decide) ?_
                    rw [up2_setO]
                    refine s_iinc (v := nI (t + 1)) (ls' := [some (.ref o), some (.int (nI pt)), some (.ref na), some (.int (nI (t + 1))), some (.int (nI k)), some (.int x1), some (.int x2)]) (tb_ok aX4_value_4 9 rfl) rfl (nI_1 _) rfl rfl ?_
                    first | (have g : t < 2 := (nI_ltI (by omega) (by omega)).mp c73) | (have g : t < 1 := (nI_ltI (by omega) (by omega)).mp c119) | (have g : 31 ≤ t := (nI_leI (by omega) (by omega)).mp c149) | skip
                    refine s_iinc (v := nI (k + 1)) (ls' := [some (.ref o), some (.int (nI pt)), some (.ref na), some (.int (nI (t + 1))), some (.int (nI (k + 1))), some (.int x1), some (.int x2)]) (tb_ok aX4_value_4 10 rfl) rfl (nI_1 _) rfl rfl ?_
                    refine s_goto (tgt := 35) (tb_ok aX4_value_4 11 rfl) (by decide) ?_
                    have q := stpN_s hk hi
                    refine ih (t + 1) _ _ _ (by omega) ?_
                    first | (rw [← ex1, stp, if_neg c68, if_pos g] at q; exact q) | (rw [← ex1, stp, if_neg c68, if_neg g] at q; exact q) | (rw [← ex1, stp, if_pos c68, if_neg c114, if_pos g] at q; exact q) | (rw [← ex1, stp, if_pos c68, if_neg c114, if_neg g] at q; exact q) | (rw [← ex1, stp, if_pos c68, if_pos c114, if_pos g] at q; exact q) | (rw [← ex1, stp, if_pos c68, if_pos c114, if_neg g, atm, ← ex2, if_pos c167] at q; exact q) | (rw [← ex1, stp, if_pos c68, if_pos c114, if_neg g, atm, ← ex2, if_neg c167, if_pos c174] at q; exact q) | (rw [← ex1, stp, if_pos c68, if_pos c114, if_neg g, atm, ← ex2, if_neg c167, if_neg c174] at q; exact q)
                  · refine s_aload_n (tb_ok aX4_value_4 3 rfl) rfl ?_
                    refine s_iload (tb_ok aX4_value_4 4 rfl) rfl ?_
                    refine s_iald (tb_ok aX4_value_4 5 rfl) hna (atm_in c167 c174) rfl ?_
                    refine s_topi (z := (I na x2.toNatClampNeg)) (by rw [setO_n hne]) ?_
                    refine s_goto (tgt := 186) (tb_ok aX4_value_4 6 rfl) (by decide) ?_
                    refine s_iastN (tb_ok aX4_value_4 8 rfl) h7 (by omega) (by decide) ?_
                    rw [up2_setO]
                    refine s_iinc (v := nI (t + 1)) (ls' := [some (.ref o), some (.int (nI pt)), some (.ref na), some (.int (nI (t + 1))), some (.int (nI k)), some (.int x1), some (.int x2)]) (tb_ok aX4_value_4 9 rfl) rfl (nI_1 _) rfl rfl ?_
                    first | (have g : t < 2 := (nI_ltI (by omega) (by omega)).mp c73) | (have g : t < 1 := (nI_ltI (by omega) (by omega)).mp c119) | (have g : 31 ≤ t := (nI_leI (by omega) (by omega)).mp c149) | skip
                    refine s_iinc (v := nI (k + 1)) (ls' := [some (.ref o), some (.int (nI pt)), some (.ref na), some (.int (nI (t + 1))), some (.int (nI (k + 1))), some (.int x1), some (.int x2)]) (tb_ok aX4_value_4 10 rfl) rfl (nI_1 _) rfl rfl ?_
                    refine s_goto (tgt := 35) (tb_ok aX4_value_4 11 rfl) (by decide) ?_
                    have q := stpN_s hk hi
                    refine ih (t + 1) _ _ _ (by omega) ?_
                    first | (rw [← ex1, stp, if_neg c68, if_pos g] at q; exact q) | (rw [← ex1, stp, if_neg c68, if_neg g] at q; exact q) | (rw [← ex1, stp, if_pos c68, if_neg c114, if_pos g] at q; exact q) | (rw [← ex1, stp, if_pos c68, if_neg c114, if_neg g] at q; exact q) | (rw [← ex1, stp, if_pos c68, if_pos c114, if_pos g] at q; exact q) | (rw [← ex1, stp, if_pos c68, if_pos c114, if_neg g, atm, ← ex2, if_pos c167] at q; exact q) | (rw [← ex1, stp, if_pos c68, if_pos c114, if_neg g, atm, ← ex2, if_neg c167, if_pos c174] at q; exact q) | (rw [← ex1, stp, if_pos c68, if_pos c114, if_neg g, atm, ← ex2, if_neg c167, if_neg c174] at q; exact q)
            · refine s_iload_n (tb_ok aX4_value_2 17 rfl) rfl ?_
              refine s_iconst (v := nI 1) (tb_ok aX4_value_2 18 rfl) (by decide) ?_
              refine s_icmp_lt (tgt := 190) (tb_ok aX4_value_2 19 rfl) (by decide) (fun c119 => ?_) (fun c119 => ?_)
              · first | (have g : t < 2 := (nI_ltI (by omega) (by omega)).mp c73) | (have g : t < 1 := (nI_ltI (by omega) (by omega)).mp c119) | (have g : 31 ≤ t := (nI_leI (by omega) (by omega)).mp c149) | skip
                refine s_iinc (v := nI (k + 1)) (ls' := [some (.ref o), some (.int (nI pt)), some (.ref na), some (.int (nI t)), some (.int (nI (k + 1))), some (.int x1), o6]) (tb_ok aX4_value_4 10 rfl) rfl (nI_1 _) rfl rfl ?_
                refine s_goto (tgt := 35) (tb_ok aX4_value_4 11 rfl) (by decide) ?_
                have q := stpN_s hk hi
                refine ih t _ _ _ (by omega) ?_
                first | (rw [← ex1, stp, if_neg c68, if_pos g] at q; exact q) | (rw [← ex1, stp, if_neg c68, if_neg g] at q; exact q) | (rw [← ex1, stp, if_pos c68, if_neg c114, if_pos g] at q; exact q) | (rw [← ex1, stp, if_pos c68, if_neg c114, if_neg g] at q; exact q) | (rw [← ex1, stp, if_pos c68, if_pos c114, if_pos g] at q; exact q) | (rw [← ex1, stp, if_pos c68, if_pos c114, if_neg g, atm, ← ex2, if_pos c167] at q; exact q) | (rw [← ex1, stp, if_pos c68, if_pos c114, if_neg g, atm, ← ex2, if_neg c167, if_pos c174] at q; exact q) | (rw [← ex1, stp, if_pos c68, if_pos c114, if_neg g, atm, ← ex2, if_neg c167, if_neg c174] at q; exact q)
              · have g : ¬ t < 1 := fun h => c119 ((nI_ltI (by omega) (by omega)).mpr h)
                refine s_aload_n (tb_ok aX4_value_2 20 rfl) rfl ?_
                refine s_getR (r := (o + 3)) (tb_ok aX4_value_2 21 rfl) f_RX4_18 h1 rfl h6 ?_
                refine s_iload_n (tb_ok aX4_value_2 22 rfl) rfl ?_
                refine s_iconst (v := nI 1) (tb_ok aX4_value_2 23 rfl) (by decide) ?_
                refine s_isub (tb_ok aX4_value_3 0 rfl) ?_
                refine s_topi (z := (nI (t - 1))) (pk_sub (by omega)) ?_
                refine s_iload (tb_ok aX4_value_3 1 rfl) rfl ?_
                refine s_aload_n (tb_ok aX4_value_3 2 rfl) rfl ?_
                refine s_getR (r := (o + 3)) (tb_ok aX4_value_3 3 rfl) f_RX4_18 h1 rfl h6 ?_
                refine s_iload_n (tb_ok aX4_value_3 4 rfl) rfl ?_
                refine s_iconst (v := nI 1) (tb_ok aX4_value_3 5 rfl) (by decide) ?_
                refine s_isub (tb_ok aX4_value_3 6 rfl) ?_
                refine s_topi (z := (nI (t - 1))) (pk_sub (by omega)) ?_
                refine s_ialdX (x := (w (t - 1))) (tb_ok aX4_value_3 7 rfl) h7 (by omega) (by decide) (by simp [setO]) ?_
                refine s_cSp (as := [.int x1, .int (w (t - 1))]) (tb_ok aX4_value_3 8 rfl) v_RX4_29 (E_of1 _ _) (by decide) rfl rfl (Nat.le_of_ble_eq_true rfl) ?_
                refine s_iastN (tb_ok aX4_value_3 9 rfl) h7 (by omega) (by decide) ?_
                rw [up2_setO]
                refine s_goto (tgt := 190) (tb_ok aX4_value_3 10 rfl) (by decide) ?_
                first | (have g : t < 2 := (nI_ltI (by omega) (by omega)).mp c73) | (have g : t < 1 := (nI_ltI (by omega) (by omega)).mp c119) | (have g : 31 ≤ t := (nI_leI (by omega) (by omega)).mp c149) | skip
                refine s_iinc (v := nI (k + 1)) (ls' := [some (.ref o), some (.int (nI pt)), some (.ref na), some (.int (nI t)), some (.int (nI (k + 1))), some (.int x1), o6]) (tb_ok aX4_value_4 10 rfl) rfl (nI_1 _) rfl rfl ?_
                refine s_goto (tgt := 35) (tb_ok aX4_value_4 11 rfl) (by decide) ?_
                have q := stpN_s hk hi
                refine ih t _ _ _ (by omega) ?_
                first | (rw [← ex1, stp, if_neg c68, if_pos g] at q; exact q) | (rw [← ex1, stp, if_neg c68, if_neg g] at q; exact q) | (rw [← ex1, stp, if_pos c68, if_neg c114, if_pos g] at q; exact q) | (rw [← ex1, stp, if_pos c68, if_neg c114, if_neg g] at q; exact q) | (rw [← ex1, stp, if_pos c68, if_pos c114, if_pos g] at q; exact q) | (rw [← ex1, stp, if_pos c68, if_pos c114, if_neg g, atm, ← ex2, if_pos c167] at q; exact q) | (rw [← ex1, stp, if_pos c68, if_pos c114, if_neg g, atm, ← ex2, if_neg c167, if_pos c174] at q; exact q) | (rw [← ex1, stp, if_pos c68, if_pos c114, if_neg g, atm, ← ex2, if_neg c167, if_neg c174] at q; exact q)
          · refine s_iload_n (tb_ok aX4_value_1 15 rfl) rfl ?_
            refine s_iconst (v := nI 2) (tb_ok aX4_value_1 16 rfl) (by decide) ?_
            refine s_icmp_lt (tgt := 190) (tb_ok aX4_value_1 17 rfl) (by decide) (fun c73 => ?_) (fun c73 => ?_)
            · first | (have g : t < 2 := (nI_ltI (by omega) (by omega)).mp c73) | (have g : t < 1 := (nI_ltI (by omega) (by omega)).mp c119) | (have g : 31 ≤ t := (nI_leI (by omega) (by omega)).mp c149) | skip
              refine s_iinc (v := nI (k + 1)) (ls' := [some (.ref o), some (.int (nI pt)), some (.ref na), some (.int (nI t)), some (.int (nI (k + 1))), some (.int x1), o6]) (tb_ok aX4_value_4 10 rfl) rfl (nI_1 _) rfl rfl ?_
              refine s_goto (tgt := 35) (tb_ok aX4_value_4 11 rfl) (by decide) ?_
              have q := stpN_s hk hi
              refine ih t _ _ _ (by omega) ?_
              first | (rw [← ex1, stp, if_neg c68, if_pos g] at q; exact q) | (rw [← ex1, stp, if_neg c68, if_neg g] at q; exact q) | (rw [← ex1, stp, if_pos c68, if_neg c114, if_pos g] at q; exact q) | (rw [← ex1, stp, if_pos c68, if_neg c114, if_neg g] at q; exact q) | (rw [← ex1, stp, if_pos c68, if_pos c114, if_pos g] at q; exact q) | (rw [← ex1, stp, if_pos c68, if_pos c114, if_neg g, atm, ← ex2, if_pos c167] at q; exact q) | (rw [← ex1, stp, if_pos c68, if_pos c114, if_neg g, atm, ← ex2, if_neg c167, if_pos c174] at q; exact q) | (rw [← ex1, stp, if_pos c68, if_pos c114, if_neg g, atm, ← ex2, if_neg c167, if_neg c174] at q; exact q)
            · have g : ¬ t < 2 := fun h => c73 ((nI_ltI (by omega) (by omega)).mpr h)
              refine s_iinc (v := nI (t - 1)) (ls' := [some (.ref o), some (.int (nI pt)), some (.ref na), some (.int (nI (t - 1))), some (.int (nI k)), some (.int x1), o6]) (tb_ok aX4_value_1 18 rfl) rfl (sb_m1 (by omega)) rfl rfl ?_
              refine s_aload_n (tb_ok aX4_value_1 19 rfl) rfl ?_
              refine s_getR (r := (o + 3)) (tb_ok aX4_value_1 20 rfl) f_RX4_18 h1 rfl h6 ?_
              refine s_iload_n (tb_ok aX4_value_1 21 rfl) rfl ?_
              refine s_iconst (v := nI 1) (tb_ok aX4_value_1 22 rfl) (by decide) ?_
              refine s_isub (tb_ok aX4_value_1 23 rfl) ?_
              refine s_topi (z := (nI (t - 1 - 1))) (pk_sub (by omega)) ?_
              refine s_iload (tb_ok aX4_value_2 0 rfl) rfl ?_
              refine s_aload_n (tb_ok aX4_value_2 1 rfl) rfl ?_
              refine s_getR (r := (o + 3)) (tb_ok aX4_value_2 2 rfl) f_RX4_18 h1 rfl h6 ?_
              refine s_iload_n (tb_ok aX4_value_2 3 rfl) rfl ?_
              refine s_iconst (v := nI 1) (tb_ok aX4_value_2 4 rfl) (by decide) ?_
              refine s_isub (tb_ok aX4_value_2 5 rfl) ?_
              refine s_topi (z := (nI (t - 1 - 1))) (pk_sub (by omega)) ?_
              refine s_ialdX (x := (w (t - 1 - 1))) (tb_ok aX4_value_2 6 rfl) h7 (by omega) (by decide) (by simp [setO]) ?_
              refine s_aload_n (tb_ok aX4_value_2 7 rfl) rfl ?_
              refine s_getR (r := (o + 3)) (tb_ok aX4_value_2 8 rfl) f_RX4_18 h1 rfl h6 ?_
              refine s_iload_n (tb_ok aX4_value_2 9 rfl) rfl ?_
              refine s_ialdX (x := (w (t - 1))) (tb_ok aX4_value_2 10 rfl) h7 (by omega) (by decide) (by simp [setO]) ?_
              refine s_cSp (as := [.int x1, .int (w (t - 1 - 1)), .int (w (t - 1))]) (tb_ok aX4_value_2 11 rfl) v_RX4_25 (E_of2 _ _ _) (by decide) rfl rfl (Nat.le_of_ble_eq_true rfl) ?_
              refine s_iastN (tb_ok aX4_value_2 12 rfl) h7 (by omega) (by decide) ?_
              rw [up2_setO]
              refine s_goto (tgt := 190) (tb_ok aX4_value_2 13 rfl) (by decide) ?_
              first | (have g : t < 2 := (nI_ltI (by omega) (by omega)).mp c73) | (have g : t < 1 := (nI_ltI (by omega) (by omega)).mp c119) | (have g : 31 ≤ t := (nI_leI (by omega) (by omega)).mp c149) | skip
              refine s_iinc (v := nI (k + 1)) (ls' := [some (.ref o), some (.int (nI pt)), some (.ref na), some (.int (nI (t - 1))), some (.int (nI (k + 1))), some (.int x1), o6]) (tb_ok aX4_value_4 10 rfl) rfl (nI_1 _) rfl rfl ?_
              refine s_goto (tgt := 35) (tb_ok aX4_value_4 11 rfl) (by decide) ?_
              have q := stpN_s hk hi
              refine ih (t - 1) _ _ _ (by omega) ?_
              first | (rw [← ex1, stp, if_neg c68, if_pos g] at q; exact q) | (rw [← ex1, stp, if_neg c68, if_neg g] at q; exact q) | (rw [← ex1, stp, if_pos c68, if_neg c114, if_pos g] at q; exact q) | (rw [← ex1, stp, if_pos c68, if_neg c114, if_neg g] at q; exact q) | (rw [← ex1, stp, if_pos c68, if_pos c114, if_pos g] at q; exact q) | (rw [← ex1, stp, if_pos c68, if_pos c114, if_neg g, atm, ← ex2, if_pos c167] at q; exact q) | (rw [← ex1, stp, if_pos c68, if_pos c114, if_neg g, atm, ← ex2, if_neg c167, if_pos c174] at q; exact q) | (rw [← ex1, stp, if_pos c68, if_pos c114, if_neg g, atm, ← ex2, if_neg c167, if_neg c174] at q; exact q)
  refine ev_of (by decide +kernel) rfl ?_
  show SW X _ _ _ 0 [some (.ref o), some (.int (nI pt)), some (.ref na), none, none, none, none] [] S I L R _
  refine s_iload_n (tb_ok aX4_value_0 0 rfl) rfl ?_
  refine s_if_lt (tgt := 13) (tb_ok aX4_value_0 1 rfl) (by decide) (fun c1 => ?_) (fun c1 => ?_)
  · exact absurd c1 (nI_pos (by omega))
  · refine s_iload_n (tb_ok aX4_value_0 2 rfl) rfl ?_
    refine s_aload_n (tb_ok aX4_value_0 3 rfl) rfl ?_
    refine s_getR (r := (o + 2)) (tb_ok aX4_value_0 4 rfl) f_RX4_15 h1 rfl h4 ?_
    refine s_alen (v := nI 3) (a := 0) (n := 3) (tb_ok aX4_value_0 5 rfl) (by decide) h5 (by decide) ?_
    refine s_icmp_lt (tgt := 15) (tb_ok aX4_value_0 6 rfl) (by decide) (fun c10 => ?_) (fun c10 => ?_)
    · refine s_iconst (v := nI 0) (tb_ok aX4_value_0 9 rfl) (by decide) ?_
      refine s_istore_n (ls' := [some (.ref o), some (.int (nI pt)), some (.ref na), some (.int (nI 0)), none, none, none]) (tb_ok aX4_value_0 10 rfl) rfl rfl ?_
      refine s_iload_n (tb_ok aX4_value_0 11 rfl) rfl ?_
      refine s_if_ne (tgt := 25) (tb_ok aX4_value_0 12 rfl) (by decide) (fun c18 => ?_) (fun c18 => ?_)
      · refine s_aload_n (tb_ok aX4_value_0 15 rfl) rfl ?_
        refine s_getR (r := (o + 2)) (tb_ok aX4_value_0 16 rfl) f_RX4_15 h1 rfl h4 ?_
        refine s_iload_n (tb_ok aX4_value_0 17 rfl) rfl ?_
        refine s_iconst (v := nI 1) (tb_ok aX4_value_0 18 rfl) (by decide) ?_
        refine s_isub (tb_ok aX4_value_0 19 rfl) ?_
        refine s_topi (z := (nI (pt - 1))) (pk_sub (Nat.pos_of_ne_zero (fun h => c18 (by rw [h]; rfl)))) ?_
        refine s_ialdX (x := (nI (e (pt - 1)))) (tb_ok aX4_value_0 20 rfl) h5 (by omega) (by decide) (he (pt - 1) (by omega)) ?_
        refine s_name (fun x1 ex1 => ?_)
        refine s_istore (ls' := [some (.ref o), some (.int (nI pt)), some (.ref na), some (.int (nI 0)), some (.int x1), none, none]) (tb_ok aX4_value_0 21 rfl) rfl rfl ?_
        refine s_eqI (I' := setO I (o + 3) (I (o + 3))) setO_self.symm ?_
        refine s_ls ?_ (loop lo hlo2 0 (I (o + 3)) none none (by omega) rfl)
        rw [ex1, show lo = e (pt - 1) from by have h0 : ¬ pt = 0 := fun h => c18 (by rw [h]; rfl); rw [hlo, if_neg h0]]
      · refine s_iconst (v := nI 0) (tb_ok aX4_value_0 13 rfl) (by decide) ?_
        refine s_goto (tgt := 33) (tb_ok aX4_value_0 14 rfl) (by decide) ?_
        refine s_istore (ls' := [some (.ref o), some (.int (nI pt)), some (.ref na), some (.int (nI 0)), some (.int (nI 0)), none, none]) (tb_ok aX4_value_0 21 rfl) rfl rfl ?_
        refine s_eqI (I' := setO I (o + 3) (I (o + 3))) setO_self.symm ?_
        refine s_ls ?_ (loop lo hlo2 0 (I (o + 3)) none none (by omega) rfl)
        rw [show lo = 0 from by have h0 : pt = 0 := (nI_eq (b := 0) (by omega) (by omega)).mp c18; rw [hlo, if_pos h0]]
    · exact absurd ((nI_ltI (b := 3) (by omega) (by omega)).mpr hp) c10
