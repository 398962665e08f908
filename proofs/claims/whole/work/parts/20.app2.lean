/-! in thought -/
def AgVR (r : Option Value) (I : FI) (L : FL) (q : Nat × Nat) : Pst := fun r' S' I' L' R' => r' = r ∧ S' = S0 ∧ AgV I I' ∧ L' = L ∧ R' = R0 q
theorem okRule.v {I J : FI} {o i : Nat} {f : Nat → Int32} {sem : Nat → (Nat → Int32) → Int32} (hi : i < 6) (ho : S0[o]? = some (5, 5)) (h : okRule I (ruleN i) sem) (hA : AgW (setO I o f) J) : okRule J (ruleN i) sem := (h.set hi ho).ag hi hA
theorem AgW.at1 {I J : FI} {o a : Nat} {f : Nat → Int32} (hA : AgW (setO I o f) J) (h : W0 a = false) (hne : a ≠ o) : J a = I a := by rw [hA a h, setO_n hne]
theorem AgW.atO {I J : FI} {o : Nat} {f : Nat → Int32} (hA : AgW (setO I o f) J) (h : W0 o = false) : J o = f := by rw [hA o h, setO_o]
theorem AgW.nx {I J K : FI} {o : Nat} {f g : Nat → Int32} (hA : AgW (setO I o f) J) (h2 : AgW (setO J o g) K) : AgW (setO I o g) K := by
  refine AgW.tr ?_ h2
  have := hA.setB (o := o) (f := g)
  rwa [setO_2] at this
theorem AgW.v1 {I J : FI} {o : Nat} {f : Nat → Int32} (hA : AgW (setO I o f) J) (h : W1 o = true) : AgV I J := AgV.tr (AgV.set h) hA.v
def inl1 (one a b : Int32) : Nat → Int32
  | 0 => one
  | d + 1 => if nI (d + 1) ≤ 1 then one else if a - a / nI (d + 1) * nI (d + 1) = 0 ∧ b - b / nI (d + 1) * nI (d + 1) = 0 then one / nI (d + 1) else inl1 one a b d
set_option maxRecDepth 100000 in
set_option maxHeartbeats 4000000 in
theorem E_liveOn {X : En} {I : FI} {L : FL} {q : Nat × Nat} {m : Nat} (hm : I 1 3 = nI m) (hm10 : m ≤ 10) {ri : Nat} (hri : ri < 6) (hq : q.1 = ruleN ri) {sem : Nat → (Nat → Int32) → Int32} (hs : okRule I (ruleN ri) sem) {o : Nat} (ho : S0[o]? = some (5, 5)) (more : Int32) {n : Nat} (hn : n ≤ 40) : Ev X 6 mX7_liveOn (0, 0) [.ref 0, .ref o, .int more, .int (nI n)] S0 I L (R0 q) (Ag0 (setO I 27 (itP sem (I 2) (I 3) m (I 5 2) (upd (cp5 (I o) (I 27)) 2 ((cp5 (I o) (I 27)) 2 ||| more)) n)) L q) := by
  have loop : ∀ k, k ≤ n → ∀ (J : FI), (AgW (setO I 27 (itP sem (I 2) (I 3) m (I 5 2) (upd (cp5 (I o) (I 27)) 2 ((cp5 (I o) (I 27)) 2 ||| more)) k)) J) → SW X 6 mX7_liveOn (0, 0) 24 [some (.ref 0), some (.ref o), some (.int more), some (.int (nI n)), some (.int (nI k))] [] S0 J L (R0 q) (KQ X (Ag0 (setO I 27 (itP sem (I 2) (I 3) m (I 5 2) (upd (cp5 (I o) (I 27)) 2 ((cp5 (I o) (I 27)) 2 ||| more)) n)) L q)) := by
    refine for_up (P := fun k => ∀ (J : FI), (AgW (setO I 27 (itP sem (I 2) (I 3) m (I 5 2) (upd (cp5 (I o) (I 27)) 2 ((cp5 (I o) (I 27)) 2 ||| more)) k)) J) → SW X 6 mX7_liveOn (0, 0) 24 [some (.ref 0), some (.ref o), some (.int more), some (.int (nI n)), some (.int (nI k))] [] S0 J L (R0 q) (KQ X (Ag0 (setO I 27 (itP sem (I 2) (I 3) m (I 5 2) (upd (cp5 (I o) (I 27)) 2 ((cp5 (I o) (I 27)) 2 ||| more)) n)) L q))) n ?_ ?_
    · intro J hi
      refine s_iload (tb_ok aX7_liveOn_0 13 rfl) rfl ?_
      refine s_iload_n (tb_ok aX7_liveOn_0 14 rfl) rfl ?_
      refine s_icmp_ge (tgt := 57) (tb_ok aX7_liveOn_0 15 rfl) (by decide) (fun c27 => ?_) (fun c27 => ?_)
      · refine s_vret (tb_ok aX7_liveOn_1 4 rfl) rfl ?_
        exact ⟨rfl, rfl, hi, rfl, rfl⟩
      · simp (disch := omega) only [nI_ltI, nI_leI, nI_eq] at c27
        omega
    · intro k hk ih J hi
      refine s_iload (tb_ok aX7_liveOn_0 13 rfl) rfl ?_
      refine s_iload_n (tb_ok aX7_liveOn_0 14 rfl) rfl ?_
      refine s_icmp_ge (tgt := 57) (tb_ok aX7_liveOn_0 15 rfl) (by decide) (fun c27 => ?_) (fun c27 => ?_)
      · simp (disch := omega) only [nI_ltI, nI_leI, nI_eq] at c27
        omega
      · refine s_aload_n (tb_ok aX7_liveOn_0 16 rfl) rfl ?_
        refine s_getR (r := 64) (tb_ok aX7_liveOn_0 17 rfl) f_RX7_101 rfl rfl rfl ?_
        refine s_aload_n (tb_ok aX7_liveOn_0 18 rfl) rfl ?_
        refine s_getR (r := 27) (tb_ok aX7_liveOn_0 19 rfl) f_RX7_36 rfl rfl rfl ?_
        refine s_aload_n (tb_ok aX7_liveOn_0 20 rfl) rfl ?_
        refine s_getR (r := 5) (tb_ok aX7_liveOn_0 21 rfl) f_RX7_19 rfl rfl rfl ?_
        refine s_getI (x := (I 5 2)) (tb_ok aX7_liveOn_0 22 rfl) f_RX7_127 rfl rfl (congrFun (hi.at1 (a := 5) (by decide) (by decide)) 2) ?_
        refine s_iload (tb_ok aX7_liveOn_0 23 rfl) rfl ?_
        refine s_iadd (tb_ok aX7_liveOn_1 0 rfl) ?_
        refine s_cV (as := [.ref 27, _]) (tb_ok aX7_liveOn_1 1 rfl) v_RX7_285 (E_pass ((congrFun (hi.at1 (a := 1) (by decide) (by decide)) 3).trans hm) hm10 hri hq (hs.v hri rfl hi) rfl _) (by decide) rfl rfl rfl rfl rfl (Nat.le_of_ble_eq_true rfl) (by decide) (fun r1 S1 I1 L1 R1 q1 => ?_)
        obtain ⟨rfl, rfl, hA1, rfl, rfl⟩ := q1
        rw [hi.at1 (a := 2) (by decide) (by decide), hi.at1 (a := 3) (by decide) (by decide), hi.atO (by decide)] at hA1
        refine s_iinc (v := nI (k + 1)) (ls' := [some (.ref 0), some (.ref o), some (.int more), some (.int (nI n)), some (.int (nI (k + 1)))]) (tb_ok aX7_liveOn_1 2 rfl) rfl (nI_1 _) rfl rfl ?_
        refine s_goto (tgt := 24) (tb_ok aX7_liveOn_1 3 rfl) (by decide) ?_
        exact ih _ (hi.nx hA1)
  refine ev_of (by decide +kernel) rfl ?_
  show SW X _ _ _ 0 [some (.ref 0), some (.ref o), some (.int more), some (.int (nI n)), none] [] S0 I L (R0 q) _
  refine s_aload_n (tb_ok aX7_liveOn_0 0 rfl) rfl ?_
  refine s_getR (r := 27) (tb_ok aX7_liveOn_0 1 rfl) f_RX7_36 rfl rfl rfl ?_
  refine s_aload_n (tb_ok aX7_liveOn_0 2 rfl) rfl ?_
  refine s_cV (as := [.ref o]) (tb_ok aX7_liveOn_0 3 rfl) v_RX7_281 (E_Tbecome (by rfl : S0[27]? = some (5, 5)) ho) (by decide) rfl rfl rfl rfl rfl (Nat.le_of_ble_eq_true rfl) (by decide) (fun r1 S1 I1 L1 R1 q1 => ?_)
  obtain ⟨rfl, rfl, rfl, rfl, rfl⟩ := q1
  refine s_aload_n (tb_ok aX7_liveOn_0 4 rfl) rfl ?_
  refine s_getR (r := 27) (tb_ok aX7_liveOn_0 5 rfl) f_RX7_36 rfl rfl rfl ?_
  refine s_dup (tb_ok aX7_liveOn_0 6 rfl) rfl ?_
  refine s_getI (x := ((cp5 (I o) (I 27)) 2)) (tb_ok aX7_liveOn_0 7 rfl) f_RX7_142 rfl rfl (by rw [setO_o]) ?_
  refine s_iload_n (tb_ok aX7_liveOn_0 8 rfl) rfl ?_
  refine s_ior (tb_ok aX7_liveOn_0 9 rfl) ?_
  refine s_putI (tb_ok aX7_liveOn_0 10 rfl) f_RX7_142 rfl rfl ?_
  refine s_iconst (v := nI 0) (tb_ok aX7_liveOn_0 11 rfl) (by decide) ?_
  refine s_istore (ls' := [some (.ref 0), some (.ref o), some (.int more), some (.int (nI n)), some (.int (nI 0))]) (tb_ok aX7_liveOn_0 12 rfl) rfl rfl ?_
  rw [up2_setO]
  exact loop 0 (Nat.zero_le _) _ AgW.rf

def bskP (sem : Nat → (Nat → Int32) → Int32) (fr fa : Nat → Int32) (m : Nat) (day : Int32) (f : Nat → Int32) (more : Int32) (n : Nat) : Int32 := f 3 - itP sem fr fa m day (upd f 2 (f 2 ||| more)) n 3
set_option maxRecDepth 100000 in
set_option maxHeartbeats 4000000 in
theorem E_basketBehind {X : En} {I : FI} {L : FL} {q : Nat × Nat} {m : Nat} (hm : I 1 3 = nI m) (hm10 : m ≤ 10) {ri : Nat} (hri : ri < 6) (hq : q.1 = ruleN ri) {sem : Nat → (Nat → Int32) → Int32} (hs : okRule I (ruleN ri) sem) {o : Nat} (ho : S0[o]? = some (5, 5)) (h27 : o ≠ 27) (more : Int32) {n : Nat} (hn : n ≤ 40) : Ev X 7 mX7_basketBehind (0, 0) [.ref 0, .ref o, .int more, .int (nI n)] S0 I L (R0 q) (AgVR (some (.int (bskP sem (I 2) (I 3) m (I 5 2) (I o) more n))) I L q) := by
  refine ev_of (by decide +kernel) rfl ?_
  show SW X _ _ _ 0 [some (.ref 0), some (.ref o), some (.int more), some (.int (nI n))] [] S0 I L (R0 q) _
  refine s_aload_n (tb_ok aX7_basketBehind_0 0 rfl) rfl ?_
  refine s_aload_n (tb_ok aX7_basketBehind_0 1 rfl) rfl ?_
  refine s_iload_n (tb_ok aX7_basketBehind_0 2 rfl) rfl ?_
  refine s_iload_n (tb_ok aX7_basketBehind_0 3 rfl) rfl ?_
  refine s_cV (as := [.ref o, .int more, .int (nI n)]) (tb_ok aX7_basketBehind_0 4 rfl) v_RX7_158 (E_liveOn hm hm10 hri hq hs ho more hn) (by decide) rfl rfl rfl rfl rfl (Nat.le_of_ble_eq_true rfl) (by decide) (fun r1 S1 I1 L1 R1 q1 => ?_)
  obtain ⟨rfl, rfl, hA1, rfl, rfl⟩ := q1
  refine s_aload_n (tb_ok aX7_basketBehind_0 5 rfl) rfl ?_
  refine s_getI (x := (I o 3)) (tb_ok aX7_basketBehind_0 6 rfl) f_RX7_219 ho rfl (congrFun (hA1.at1 (tree_W0 ho) h27) 3) ?_
  refine s_aload_n (tb_ok aX7_basketBehind_0 7 rfl) rfl ?_
  refine s_getR (r := 27) (tb_ok aX7_basketBehind_0 8 rfl) f_RX7_36 rfl rfl rfl ?_
  refine s_getI (x := (itP sem (I 2) (I 3) m (I 5 2) (upd (I o) 2 (I o 2 ||| more)) n 3)) (tb_ok aX7_basketBehind_0 9 rfl) f_RX7_219 rfl rfl (by rw [hA1.atO (by decide)]; exact T5.it (T5.upd T5.cp (by rw [T5.cp 2 (by decide)])) _ _ _ _ _ _ 3 (by decide)) ?_
  refine s_isub (tb_ok aX7_basketBehind_0 10 rfl) ?_
  refine s_iret (tb_ok aX7_basketBehind_0 11 rfl) rfl ?_
  exact ⟨rfl, rfl, hA1.v1 (by decide), rfl, rfl⟩

def whnS (sem : Nat → (Nat → Int32) → Int32) (fr fa : Nat → Int32) (m : Nat) (day : Int32) (f : Nat → Int32) (fact : Int32) : Nat → Nat → Int32
  | 0, k => if knI (itP sem fr fa m day f k) fact = 0 then -1 else nI k
  | n + 1, k => if knI (itP sem fr fa m day f k) fact = 0 then whnS sem fr fa m day f fact n (k + 1) else nI k
theorem T5.kn {f g : Nat → Int32} (h : T5 f g) (fact : Int32) : knI f fact = knI g fact := by unfold knI; rw [h 2 (by omega)]
set_option maxRecDepth 100000 in
set_option maxHeartbeats 4000000 in
theorem E_knowsWhen {X : En} {I : FI} {L : FL} {q : Nat × Nat} {m : Nat} (hm : I 1 3 = nI m) (hm10 : m ≤ 10) {ri : Nat} (hri : ri < 6) (hq : q.1 = ruleN ri) {sem : Nat → (Nat → Int32) → Int32} (hs : okRule I (ruleN ri) sem) {o : Nat} (ho : S0[o]? = some (5, 5)) (fact : Int32) : Ev X 6 mX7_knowsWhen (0, 0) [.ref 0, .ref o, .int fact] S0 I L (R0 q) (AgVR (some (.int (whnS sem (I 2) (I 3) m (I 5 2) (I o) fact 40 0))) I L q) := by
  have loop : ∀ k, k ≤ 40 → ∀ (J : FI), (AgW (setO I 27 (itP sem (I 2) (I 3) m (I 5 2) (cp5 (I o) (I 27)) k)) J) → (whnS sem (I 2) (I 3) m (I 5 2) (I o) fact (40 - k) k = (whnS sem (I 2) (I 3) m (I 5 2) (I o) fact 40 0)) → SW X 6 mX7_knowsWhen (0, 0) 10 [some (.ref 0), some (.ref o), some (.int fact), some (.int (nI k))] [] S0 J L (R0 q) (KQ X (AgVR (some (.int (whnS sem (I 2) (I 3) m (I 5 2) (I o) fact 40 0))) I L q)) := by
    refine for_up (P := fun k => ∀ (J : FI), (AgW (setO I 27 (itP sem (I 2) (I 3) m (I 5 2) (cp5 (I o) (I 27)) k)) J) → (whnS sem (I 2) (I 3) m (I 5 2) (I o) fact (40 - k) k = (whnS sem (I 2) (I 3) m (I 5 2) (I o) fact 40 0)) → SW X 6 mX7_knowsWhen (0, 0) 10 [some (.ref 0), some (.ref o), some (.int fact), some (.int (nI k))] [] S0 J L (R0 q) (KQ X (AgVR (some (.int (whnS sem (I 2) (I 3) m (I 5 2) (I o) fact 40 0))) I L q))) 40 ?_ ?_
    · intro J hi hi1
      refine s_iload_n (tb_ok aX7_knowsWhen_0 6 rfl) rfl ?_
      refine s_bipush (v := nI 40) (tb_ok aX7_knowsWhen_0 7 rfl) (by decide) ?_
      refine s_icmp_ge (tgt := 55) (tb_ok aX7_knowsWhen_0 8 rfl) (by decide) (fun c13 => ?_) (fun c13 => ?_)
      · refine s_aload_n (tb_ok aX7_knowsWhen_1 4 rfl) rfl ?_
        refine s_getR (r := 27) (tb_ok aX7_knowsWhen_1 5 rfl) f_RX7_36 rfl rfl rfl ?_
        refine s_iload_n (tb_ok aX7_knowsWhen_1 6 rfl) rfl ?_
        refine s_cVp (as := [.int fact]) (tb_ok aX7_knowsWhen_1 7 rfl) v_RX7_200 (E_isKnown (by rfl : S0[27]? = some (5, 5)) _) (by decide) rfl rfl rfl rfl rfl (Nat.le_of_ble_eq_true rfl) (by decide) ?_
        refine s_topi (z := knI (itP sem (I 2) (I 3) m (I 5 2) (I o) 40) fact) (by show knI (J 27) fact = _; rw [hi.atO (by decide)]; exact (T5.it T5.cp _ _ _ _ _ _).kn _) ?_
        refine s_if_eq (tgt := 71) (tb_ok aX7_knowsWhen_1 8 rfl) (by decide) (fun c63 => ?_) (fun c63 => ?_)
        · refine s_iconst (v := -1) (tb_ok aX7_knowsWhen_1 11 rfl) (by decide) ?_
          refine s_iret (tb_ok aX7_knowsWhen_1 12 rfl) rfl ?_
          refine ⟨?_, rfl, hi.v1 (by decide), rfl, rfl⟩
          rw [← hi1]
          show some (Value.int _) = some (Value.int (if knI (itP sem (I 2) (I 3) m (I 5 2) (I o) 40) fact = 0 then -1 else nI 40))
          first | (rw [if_pos c63]; done) | (rw [if_neg c63]; done)
        · refine s_bipush (v := nI 40) (tb_ok aX7_knowsWhen_1 9 rfl) (by decide) ?_
          refine s_goto (tgt := 72) (tb_ok aX7_knowsWhen_1 10 rfl) (by decide) ?_
          refine s_iret (tb_ok aX7_knowsWhen_1 12 rfl) rfl ?_
          refine ⟨?_, rfl, hi.v1 (by decide), rfl, rfl⟩
          rw [← hi1]
          show some (Value.int _) = some (Value.int (if knI (itP sem (I 2) (I 3) m (I 5 2) (I o) 40) fact = 0 then -1 else nI 40))
          first | (rw [if_pos c63]; done) | (rw [if_neg c63]; done)
      · simp (disch := omega) only [nI_ltI, nI_leI, nI_eq] at c13
        omega
    · intro k hk ih J hi hi1
      refine s_iload_n (tb_ok aX7_knowsWhen_0 6 rfl) rfl ?_
      refine s_bipush (v := nI 40) (tb_ok aX7_knowsWhen_0 7 rfl) (by decide) ?_
      refine s_icmp_ge (tgt := 55) (tb_ok aX7_knowsWhen_0 8 rfl) (by decide) (fun c13 => ?_) (fun c13 => ?_)
      · simp (disch := omega) only [nI_ltI, nI_leI, nI_eq] at c13
        omega
      · refine s_aload_n (tb_ok aX7_knowsWhen_0 9 rfl) rfl ?_
        refine s_getR (r := 27) (tb_ok aX7_knowsWhen_0 10 rfl) f_RX7_36 rfl rfl rfl ?_
        refine s_iload_n (tb_ok aX7_knowsWhen_0 11 rfl) rfl ?_
        refine s_cVp (as := [.int fact]) (tb_ok aX7_knowsWhen_0 12 rfl) v_RX7_200 (E_isKnown (by rfl : S0[27]? = some (5, 5)) _) (by decide) rfl rfl rfl rfl rfl (Nat.le_of_ble_eq_true rfl) (by decide) ?_
        refine s_topi (z := knI (itP sem (I 2) (I 3) m (I 5 2) (I o) k) fact) (by show knI (J 27) fact = _; rw [hi.atO (by decide)]; exact (T5.it T5.cp _ _ _ _ _ _).kn _) ?_
        refine s_if_eq (tgt := 29) (tb_ok aX7_knowsWhen_0 13 rfl) (by decide) (fun c24 => ?_) (fun c24 => ?_)
        · refine s_aload_n (tb_ok aX7_knowsWhen_0 16 rfl) rfl ?_
          refine s_getR (r := 64) (tb_ok aX7_knowsWhen_0 17 rfl) f_RX7_101 rfl rfl rfl ?_
          refine s_aload_n (tb_ok aX7_knowsWhen_0 18 rfl) rfl ?_
          refine s_getR (r := 27) (tb_ok aX7_knowsWhen_0 19 rfl) f_RX7_36 rfl rfl rfl ?_
          refine s_aload_n (tb_ok aX7_knowsWhen_0 20 rfl) rfl ?_
          refine s_getR (r := 5) (tb_ok aX7_knowsWhen_0 21 rfl) f_RX7_19 rfl rfl rfl ?_
          refine s_getI (x := (I 5 2)) (tb_ok aX7_knowsWhen_0 22 rfl) f_RX7_127 rfl rfl (congrFun (hi.at1 (a := 5) (by decide) (by decide)) 2) ?_
          refine s_iload_n (tb_ok aX7_knowsWhen_0 23 rfl) rfl ?_
          refine s_iadd (tb_ok aX7_knowsWhen_1 0 rfl) ?_
          refine s_cV (as := [.ref 27, _]) (tb_ok aX7_knowsWhen_1 1 rfl) v_RX7_285 (E_pass ((congrFun (hi.at1 (a := 1) (by decide) (by decide)) 3).trans hm) hm10 hri hq (hs.v hri rfl hi) rfl _) (by decide) rfl rfl rfl rfl rfl (Nat.le_of_ble_eq_true rfl) (by decide) (fun r1 S1 I1 L1 R1 q1 => ?_)
          obtain ⟨rfl, rfl, hA1, rfl, rfl⟩ := q1
          rw [hi.at1 (a := 2) (by decide) (by decide), hi.at1 (a := 3) (by decide) (by decide), hi.atO (by decide)] at hA1
          refine s_iinc (v := nI (k + 1)) (ls' := [some (.ref 0), some (.ref o), some (.int fact), some (.int (nI (k + 1)))]) (tb_ok aX7_knowsWhen_1 2 rfl) rfl (nI_1 _) rfl rfl ?_
          refine s_goto (tgt := 10) (tb_ok aX7_knowsWhen_1 3 rfl) (by decide) ?_
          refine ih _ (hi.nx hA1) ?_
          rw [← hi1, show 40 - k = 40 - (k + 1) + 1 by omega, whnS, if_pos c24]
        · refine s_iload_n (tb_ok aX7_knowsWhen_0 14 rfl) rfl ?_
          refine s_iret (tb_ok aX7_knowsWhen_0 15 rfl) rfl ?_
          refine ⟨?_, rfl, hi.v1 (by decide), rfl, rfl⟩
          rw [← hi1, show 40 - k = 40 - (k + 1) + 1 by omega, whnS, if_neg c24]
  refine ev_of (by decide +kernel) rfl ?_
  show SW X _ _ _ 0 [some (.ref 0), some (.ref o), some (.int fact), none] [] S0 I L (R0 q) _
  refine s_aload_n (tb_ok aX7_knowsWhen_0 0 rfl) rfl ?_
  refine s_getR (r := 27) (tb_ok aX7_knowsWhen_0 1 rfl) f_RX7_36 rfl rfl rfl ?_
  refine s_aload_n (tb_ok aX7_knowsWhen_0 2 rfl) rfl ?_
  refine s_cV (as := [.ref o]) (tb_ok aX7_knowsWhen_0 3 rfl) v_RX7_281 (E_Tbecome (by rfl : S0[27]? = some (5, 5)) ho) (by decide) rfl rfl rfl rfl rfl (Nat.le_of_ble_eq_true rfl) (by decide) (fun r1 S1 I1 L1 R1 q1 => ?_)
  obtain ⟨rfl, rfl, rfl, rfl, rfl⟩ := q1
  refine s_iconst (v := nI 0) (tb_ok aX7_knowsWhen_0 4 rfl) (by decide) ?_
  refine s_istore_n (ls' := [some (.ref 0), some (.ref o), some (.int fact), some (.int (nI 0))]) (tb_ok aX7_knowsWhen_0 5 rfl) rfl rfl ?_
  exact loop 0 (Nat.zero_le _) _ AgW.rf rfl
