/-! what was told, read back -/
def AgX (I I' : FI) : Prop := ∀ a, W0 a = false → a ≠ 27 → I' a = I a
theorem AgX.rf {I : FI} : AgX I I := fun _ _ _ => rfl
theorem AgX.tr {I J K : FI} (h : AgX I J) (h2 : AgX J K) : AgX I K := fun a ha hb => (h2 a ha hb).trans (h a ha hb)
theorem AgX.v {I J : FI} (h : AgX I J) : AgV I J := fun a ha => h a (W1_0 ha) (fun e => by rw [e] at ha; cases ha)
theorem AgW.x1 {I J : FI} {f : Nat → Int32} (hA : AgW (setO I 27 f) J) : AgX I J := fun a ha hb => hA.at1 ha hb
def AgXR (r : Option Value) (I : FI) (L : FL) (q : Nat × Nat) : Pst := fun r' S' I' L' R' => r' = r ∧ S' = S0 ∧ AgX I I' ∧ L' = L ∧ R' = R0 q
theorem row_W : ∀ s, s < 4 → W1 (rowN s) = false ∧ W1 (rowN s + 1) = false ∧ rowN s ≠ 27 ∧ rowN s + 1 ≠ 27 ∧ rowN s ≠ 26 ∧ rowN s + 1 ≠ 26 := by decide
theorem okRule.x {I J : FI} {i : Nat} {sem : Nat → (Nat → Int32) → Int32} (hi : i < 6) (h : okRule I (ruleN i) sem) (hA : AgX I J) : okRule J (ruleN i) sem := AgV.rule hi h hA.v
/-- the first of z items that is otherwise than the apples of a tree -/
def fstS (sem : Nat → (Nat → Int32) → Int32) (fr fa : Nat → Int32) (m : Nat) (day : Int32) (f it : Nat → Int32) (z : Nat) : Nat → Nat → Int32
  | 0, _ => -1
  | n + 1, k => if k < z then (if itP sem fr fa m day f (k + 1) 3 = it k then fstS sem fr fa m day f it z n (k + 1) else nI k) else -1
def fstP (sem : Nat → (Nat → Int32) → Int32) (fr fa : Nat → Int32) (m : Nat) (day : Int32) (f it : Nat → Int32) (z : Nat) : Int32 := fstS sem fr fa m day f it z 20 0
theorem T5.fst {f g : Nat → Int32} (h : T5 f g) (sem : Nat → (Nat → Int32) → Int32) (fr fa : Nat → Int32) (m : Nat) (day : Int32) (it : Nat → Int32) (z : Nat) : ∀ n k, fstS sem fr fa m day f it z n k = fstS sem fr fa m day g it z n k := by
  intro n
  induction n with
  | zero => intro k; rfl
  | succ n ih =>
    intro k
    unfold fstS
    rw [ih, h.it sem fr fa m day (k + 1) 3 (by omega)]
theorem has_iff {k z : Nat} (hk : k < 20) (hz : z ≤ 40) : (¬ nI k < 0 ∧ nI k < nI z ∧ nI k < nI 40) ↔ k < z := by
  constructor
  · intro h; exact (nI_ltI (by omega) (by omega)).mp h.2.1
  · intro h; exact ⟨nI_pos (by omega), nI_lt h (by omega), nI_lt (by omega) (by omega)⟩
set_option maxRecDepth 100000 in
set_option maxHeartbeats 4000000 in
theorem E_firstOther {X : En} {I : FI} {L : FL} {q : Nat × Nat} {m : Nat} (hm : I 1 3 = nI m) (hm10 : m ≤ 10) {ri : Nat} (hri : ri < 6) (hq : q.1 = ruleN ri) {sem : Nat → (Nat → Int32) → Int32} (hs : okRule I (ruleN ri) sem) {o : Nat} (ho : S0[o]? = some (5, 5)) {rs z : Nat} (hrs : rs < 4) (hz : I (rowN rs) 2 = nI z) (hz40 : z ≤ 40) : Ev X 6 mX7_firstOther (0, 0) [.ref 0, .ref (rowN rs), .ref o] S0 I L (R0 q) (AgXR (some (.int (fstP sem (I 2) (I 3) m (I 5 2) (I o) (I (rowN rs + 1)) z))) I L q) := by
  obtain ⟨w1, w2, w3, w4, w5, w6⟩ := row_W rs hrs
  have loop : ∀ k, k ≤ 20 → ∀ (J : FI), (AgW (setO I 27 (itP sem (I 2) (I 3) m (I 5 2) (cp5 (I o) (I 27)) k)) J) → (fstS sem (I 2) (I 3) m (I 5 2) (I o) (I (rowN rs + 1)) z (20 - k) k = (fstP sem (I 2) (I 3) m (I 5 2) (I o) (I (rowN rs + 1)) z)) → SW X 6 mX7_firstOther (0, 0) 10 [some (.ref 0), some (.ref (rowN rs)), some (.ref o), some (.int (nI k))] [] S0 J L (R0 q) (KQ X (AgXR (some (.int (fstP sem (I 2) (I 3) m (I 5 2) (I o) (I (rowN rs + 1)) z))) I L q)) := by
    refine for_up (P := fun k => ∀ (J : FI), (AgW (setO I 27 (itP sem (I 2) (I 3) m (I 5 2) (cp5 (I o) (I 27)) k)) J) → (fstS sem (I 2) (I 3) m (I 5 2) (I o) (I (rowN rs + 1)) z (20 - k) k = (fstP sem (I 2) (I 3) m (I 5 2) (I o) (I (rowN rs + 1)) z)) → SW X 6 mX7_firstOther (0, 0) 10 [some (.ref 0), some (.ref (rowN rs)), some (.ref o), some (.int (nI k))] [] S0 J L (R0 q) (KQ X (AgXR (some (.int (fstP sem (I 2) (I 3) m (I 5 2) (I o) (I (rowN rs + 1)) z))) I L q))) 20 ?_ ?_
    · intro J hi hi1
      refine s_iload_n (tb_ok aX7_firstOther_0 6 rfl) rfl ?_
      refine s_bipush (v := nI 20) (tb_ok aX7_firstOther_0 7 rfl) (by decide) ?_
      refine s_icmp_ge (tgt := 68) (tb_ok aX7_firstOther_0 8 rfl) (by decide) (fun c13 => ?_) (fun c13 => ?_)
      · refine s_iconst (v := -1) (tb_ok aX7_firstOther_1 11 rfl) (by decide) ?_
        refine s_iret (tb_ok aX7_firstOther_1 12 rfl) rfl ?_
        refine ⟨?_, rfl, hi.x1, rfl, rfl⟩
        rw [← hi1]; rfl
      · simp (disch := omega) only [nI_ltI, nI_leI, nI_eq] at c13
        omega
    · intro k hk ih J hi hi1
      refine s_iload_n (tb_ok aX7_firstOther_0 6 rfl) rfl ?_
      refine s_bipush (v := nI 20) (tb_ok aX7_firstOther_0 7 rfl) (by decide) ?_
      refine s_icmp_ge (tgt := 68) (tb_ok aX7_firstOther_0 8 rfl) (by decide) (fun c13 => ?_) (fun c13 => ?_)
      · simp (disch := omega) only [nI_ltI, nI_leI, nI_eq] at c13
        omega
      · refine s_aload_n (tb_ok aX7_firstOther_0 9 rfl) rfl ?_
        refine s_iload_n (tb_ok aX7_firstOther_0 10 rfl) rfl ?_
        refine s_cVp (as := [.int (nI k)]) (tb_ok aX7_firstOther_0 11 rfl) v_RX7_313 (E_Rhas (row0 q hrs) _) (by decide) (row0 q hrs).1 rfl rfl rfl rfl (Nat.le_of_ble_eq_true rfl) (by decide) ?_
        refine s_topi (z := bI (¬ nI k < 0 ∧ nI k < nI z ∧ nI k < nI 40)) (by rw [hi.at1 (W1_0 w1) w3, hz]) ?_
        refine s_if_eq (tgt := 68) (tb_ok aX7_firstOther_0 12 rfl) (by decide) (fun c21 => ?_) (fun c21 => ?_)
        · refine s_iconst (v := -1) (tb_ok aX7_firstOther_1 11 rfl) (by decide) ?_
          refine s_iret (tb_ok aX7_firstOther_1 12 rfl) rfl ?_
          refine ⟨?_, rfl, hi.x1, rfl, rfl⟩
          have hk2 : ¬ k < z := fun h => bI_0.mp c21 ((has_iff hk hz40).mpr h)
          rw [← hi1, show 20 - k = 20 - (k + 1) + 1 by omega, fstS, if_neg hk2]
        · have hk2 : k < z := by
            rcases Nat.lt_or_ge k z with h | h
            · exact h
            · exact absurd (bI_f (fun h2 => by have := (has_iff hk hz40).mp h2; omega)) c21
          refine s_aload_n (tb_ok aX7_firstOther_0 13 rfl) rfl ?_
          refine s_getR (r := 64) (tb_ok aX7_firstOther_0 14 rfl) f_RX7_101 rfl rfl rfl ?_
          refine s_aload_n (tb_ok aX7_firstOther_0 15 rfl) rfl ?_
          refine s_getR (r := 27) (tb_ok aX7_firstOther_0 16 rfl) f_RX7_36 rfl rfl rfl ?_
          refine s_aload_n (tb_ok aX7_firstOther_0 17 rfl) rfl ?_
          refine s_getR (r := 5) (tb_ok aX7_firstOther_0 18 rfl) f_RX7_19 rfl rfl rfl ?_
          refine s_getI (x := (I 5 2)) (tb_ok aX7_firstOther_0 19 rfl) f_RX7_127 rfl rfl (congrFun (hi.at1 (a := 5) (by decide) (by decide)) 2) ?_
          refine s_iload_n (tb_ok aX7_firstOther_0 20 rfl) rfl ?_
          refine s_iadd (tb_ok aX7_firstOther_0 21 rfl) ?_
          refine s_cV (as := [.ref 27, _]) (tb_ok aX7_firstOther_0 22 rfl) v_RX7_285 (E_pass ((congrFun (hi.at1 (a := 1) (by decide) (by decide)) 3).trans hm) hm10 hri hq (hs.v hri rfl hi) rfl _) (by decide) rfl rfl rfl rfl rfl (Nat.le_of_ble_eq_true rfl) (by decide) (fun r1 S1 I1 L1 R1 q1 => ?_)
          obtain ⟨rfl, rfl, hA1, rfl, rfl⟩ := q1
          rw [hi.at1 (a := 2) (by decide) (by decide), hi.at1 (a := 3) (by decide) (by decide), hi.atO (by decide)] at hA1
          have hi2 : AgW (setO I 27 (itP sem (I 2) (I 3) m (I 5 2) (cp5 (I o) (I 27)) (k + 1))) I1 := hi.nx hA1
          refine s_aload_n (tb_ok aX7_firstOther_0 23 rfl) rfl ?_
          refine s_getR (r := 27) (tb_ok aX7_firstOther_1 0 rfl) f_RX7_36 rfl rfl rfl ?_
          refine s_getI (x := (itP sem (I 2) (I 3) m (I 5 2) (I o) (k + 1) 3)) (tb_ok aX7_firstOther_1 1 rfl) f_RX7_219 rfl rfl (by rw [hi2.atO (by decide)]; exact T5.it T5.cp _ _ _ _ _ (k + 1) 3 (by decide)) ?_
          refine s_aload_n (tb_ok aX7_firstOther_1 2 rfl) rfl ?_
          refine s_getR (r := (rowN rs + 1)) (tb_ok aX7_firstOther_1 3 rfl) f_RX7_320 (row0 q hrs).1 rfl (row0 q hrs).2.1 ?_
          refine s_iload_n (tb_ok aX7_firstOther_1 4 rfl) rfl ?_
          refine s_ialdX (x := (I (rowN rs + 1) k)) (tb_ok aX7_firstOther_1 5 rfl) (row0 q hrs).2.2 (by omega) (by decide) (congrFun (hi2.at1 (W1_0 w2) w4) k) ?_
          refine s_icmp_eq (tgt := 62) (tb_ok aX7_firstOther_1 6 rfl) (by decide) (fun c57 => ?_) (fun c57 => ?_)
          · refine s_iinc (v := nI (k + 1)) (ls' := [some (.ref 0), some (.ref (rowN rs)), some (.ref o), some (.int (nI (k + 1)))]) (tb_ok aX7_firstOther_1 9 rfl) rfl (nI_1 _) rfl rfl ?_
            refine s_goto (tgt := 10) (tb_ok aX7_firstOther_1 10 rfl) (by decide) ?_
            refine ih _ hi2 ?_
            rw [← hi1, show 20 - k = 20 - (k + 1) + 1 by omega, fstS, if_pos hk2, if_pos c57]
          · refine s_iload_n (tb_ok aX7_firstOther_1 7 rfl) rfl ?_
            refine s_iret (tb_ok aX7_firstOther_1 8 rfl) rfl ?_
            refine ⟨?_, rfl, hi2.x1, rfl, rfl⟩
            rw [← hi1, show 20 - k = 20 - (k + 1) + 1 by omega, fstS, if_pos hk2, if_neg c57]
  refine ev_of (by decide +kernel) rfl ?_
  show SW X _ _ _ 0 [some (.ref 0), some (.ref (rowN rs)), some (.ref o), none] [] S0 I L (R0 q) _
  refine s_aload_n (tb_ok aX7_firstOther_0 0 rfl) rfl ?_
  refine s_getR (r := 27) (tb_ok aX7_firstOther_0 1 rfl) f_RX7_36 rfl rfl rfl ?_
  refine s_aload_n (tb_ok aX7_firstOther_0 2 rfl) rfl ?_
  refine s_cV (as := [.ref o]) (tb_ok aX7_firstOther_0 3 rfl) v_RX7_281 (E_Tbecome (by rfl : S0[27]? = some (5, 5)) ho) (by decide) rfl rfl rfl rfl rfl (Nat.le_of_ble_eq_true rfl) (by decide) (fun r1 S1 I1 L1 R1 q1 => ?_)
  obtain ⟨rfl, rfl, rfl, rfl, rfl⟩ := q1
  refine s_iconst (v := nI 0) (tb_ok aX7_firstOther_0 4 rfl) (by decide) ?_
  refine s_istore_n (ls' := [some (.ref 0), some (.ref (rowN rs)), some (.ref o), some (.int (nI 0))]) (tb_ok aX7_firstOther_0 5 rfl) rfl rfl ?_
  exact loop 0 (Nat.zero_le _) _ AgW.rf rfl

theorem T5.chg {f g : Nat → Int32} (h : T5 f g) (x v : Int32) : T5 (tChg f x v) (tChg g x v) := by
  unfold tChg
  by_cases h1 : x = 1
  · rw [if_pos h1, if_pos h1]; exact h.upd rfl
  rw [if_neg h1, if_neg h1]
  by_cases h2 : x = 2
  · rw [if_pos h2, if_pos h2]; exact h.upd rfl
  rw [if_neg h2, if_neg h2]
  by_cases h3 : x = 3
  · rw [if_pos h3, if_pos h3]; exact h.upd rfl
  rw [if_neg h3, if_neg h3]
  by_cases h4 : x = 4
  · rw [if_pos h4, if_pos h4]; exact h.upd rfl
  rw [if_neg h4, if_neg h4]
  by_cases h5 : x = 5
  · rw [if_pos h5, if_pos h5]; exact h.upd rfl
  rw [if_neg h5, if_neg h5]
  exact h.upd (by rw [h 2 (by omega)])
theorem fst_v {I J : FI} (hA : AgV I J) {rs : Nat} (hrs : rs < 4) {f g : Nat → Int32} (hf : T5 f g) (sem : Nat → (Nat → Int32) → Int32) (m z : Nat) : fstP sem (J 2) (J 3) m (J 5 2) f (J (rowN rs + 1)) z = fstP sem (I 2) (I 3) m (I 5 2) g (I (rowN rs + 1)) z := by
  obtain ⟨w1, w2, w3, w4, w5, w6⟩ := row_W rs hrs
  rw [hA 2 (by decide), hA 3 (by decide), hA 5 (by decide), hA _ w2]
  exact hf.fst _ _ _ _ _ _ _ _ _
/-- the values below v for which a changed tree fits -/
def bitS (fits : Nat → Int32) : Nat → Int32
  | 0 => 0
  | v + 1 => if fits v = -1 then bitS fits v ||| ((1 : Int32) <<< (nI v &&& 31)) else bitS fits v
def cntS (fits : Nat → Int32) : Nat → Int32
  | 0 => 0
  | v + 1 => if fits v = -1 then cntS fits v + 1 else cntS fits v
def lstS (fits : Nat → Int32) : Nat → Nat → Int32
  | 0, _ => -1
  | n + 1, v => if fits v = -1 then nI v else lstS fits n (v + 1)
theorem AgX.at26 {I J : FI} (h : AgX I J) : J 26 = I 26 := h 26 (by decide) (by decide)
set_option maxRecDepth 100000 in
set_option maxHeartbeats 4000000 in
theorem E_bitsThatFit {X : En} {I : FI} {L : FL} {q : Nat × Nat} {m : Nat} (hm : I 1 3 = nI m) (hm10 : m ≤ 10) {ri : Nat} (hri : ri < 6) (hq : q.1 = ruleN ri) {sem : Nat → (Nat → Int32) → Int32} (hs : okRule I (ruleN ri) sem) {o : Nat} (ho : S0[o]? = some (5, 5)) {rs z : Nat} (hrs : rs < 4) (hz : I (rowN rs) 2 = nI z) (hz40 : z ≤ 40) (hw1 : W1 o = false) (wh : Int32) {vs : Nat} (hvs : vs ≤ 100) : Ev X 7 mX7_bitsThatFit (0, 0) [.ref 0, .ref (rowN rs), .ref o, .int wh, .int (nI vs)] S0 I L (R0 q) (AgVR (some (.int (bitS (fun v => fstP sem (I 2) (I 3) m (I 5 2) (tChg (I o) wh (nI v)) (I (rowN rs + 1)) z) vs))) I L q) := by
  have loop : ∀ k, k ≤ vs → ∀ (J : FI), (AgV I J) → SW X 7 mX7_bitsThatFit (0, 0) 6 [some (.ref 0), some (.ref (rowN rs)), some (.ref o), some (.int wh), some (.int (nI vs)), some (.int (bitS (fun v => fstP sem (I 2) (I 3) m (I 5 2) (tChg (I o) wh (nI v)) (I (rowN rs + 1)) z) k)), some (.int (nI k))] [] S0 J L (R0 q) (KQ X (AgVR (some (.int (bitS (fun v => fstP sem (I 2) (I 3) m (I 5 2) (tChg (I o) wh (nI v)) (I (rowN rs + 1)) z) vs))) I L q)) := by
    refine for_up (P := fun k => ∀ (J : FI), (AgV I J) → SW X 7 mX7_bitsThatFit (0, 0) 6 [some (.ref 0), some (.ref (rowN rs)), some (.ref o), some (.int wh), some (.int (nI vs)), some (.int (bitS (fun v => fstP sem (I 2) (I 3) m (I 5 2) (tChg (I o) wh (nI v)) (I (rowN rs + 1)) z) k)), some (.int (nI k))] [] S0 J L (R0 q) (KQ X (AgVR (some (.int (bitS (fun v => fstP sem (I 2) (I 3) m (I 5 2) (tChg (I o) wh (nI v)) (I (rowN rs + 1)) z) vs))) I L q))) vs ?_ ?_
    · intro J hi
      refine s_iload (tb_ok aX7_bitsThatFit_0 4 rfl) rfl ?_
      refine s_iload (tb_ok aX7_bitsThatFit_0 5 rfl) rfl ?_
      refine s_icmp_ge (tgt := 59) (tb_ok aX7_bitsThatFit_0 6 rfl) (by decide) (fun c10 => ?_) (fun c10 => ?_)
      · refine s_iload (tb_ok aX7_bitsThatFit_1 7 rfl) rfl ?_
        refine s_iret (tb_ok aX7_bitsThatFit_1 8 rfl) rfl ?_
        exact ⟨rfl, rfl, hi, rfl, rfl⟩
      · simp (disch := omega) only [nI_ltI, nI_leI, nI_eq] at c10
        omega
    · intro k hk ih J hi
      refine s_iload (tb_ok aX7_bitsThatFit_0 4 rfl) rfl ?_
      refine s_iload (tb_ok aX7_bitsThatFit_0 5 rfl) rfl ?_
      refine s_icmp_ge (tgt := 59) (tb_ok aX7_bitsThatFit_0 6 rfl) (by decide) (fun c10 => ?_) (fun c10 => ?_)
      · simp (disch := omega) only [nI_ltI, nI_leI, nI_eq] at c10
        omega
      · refine s_aload_n (tb_ok aX7_bitsThatFit_0 7 rfl) rfl ?_
        refine s_getR (r := 26) (tb_ok aX7_bitsThatFit_0 8 rfl) f_RX7_32 rfl rfl rfl ?_
        refine s_aload_n (tb_ok aX7_bitsThatFit_0 9 rfl) rfl ?_
        refine s_cV (as := [.ref o]) (tb_ok aX7_bitsThatFit_0 10 rfl) v_RX7_281 (E_Tbecome (by rfl : S0[26]? = some (5, 5)) ho) (by decide) rfl rfl rfl rfl rfl (Nat.le_of_ble_eq_true rfl) (by decide) (fun r1 S1 I1 L1 R1 q1 => ?_)
        obtain ⟨rfl, rfl, rfl, rfl, rfl⟩ := q1
        refine s_aload_n (tb_ok aX7_bitsThatFit_0 11 rfl) rfl ?_
        refine s_getR (r := 26) (tb_ok aX7_bitsThatFit_0 12 rfl) f_RX7_32 rfl rfl rfl ?_
        refine s_iload_n (tb_ok aX7_bitsThatFit_0 13 rfl) rfl ?_
        refine s_iload (tb_ok aX7_bitsThatFit_0 14 rfl) rfl ?_
        refine s_cV (as := [.int wh, .int (nI k)]) (tb_ok aX7_bitsThatFit_0 15 rfl) v_RX7_130 (E_Tchange (by rfl : S0[26]? = some (5, 5)) wh (nI k)) (by decide) rfl rfl rfl rfl rfl (Nat.le_of_ble_eq_true rfl) (by decide) (fun r2 S2 I2 L2 R2 q2 => ?_)
        obtain ⟨rfl, rfl, rfl, rfl, rfl⟩ := q2
        rw [setO_o, setO_2, hi o hw1]
        have hJ : AgV I (setO J 26 (tChg (cp5 (I o) (J 26)) wh (nI k))) := hi.tr (AgV.set (by decide))
        refine s_aload_n (tb_ok aX7_bitsThatFit_0 16 rfl) rfl ?_
        refine s_aload_n (tb_ok aX7_bitsThatFit_0 17 rfl) rfl ?_
        refine s_aload_n (tb_ok aX7_bitsThatFit_0 18 rfl) rfl ?_
        refine s_getR (r := 26) (tb_ok aX7_bitsThatFit_0 19 rfl) f_RX7_32 rfl rfl rfl ?_
        refine s_cV (as := [.ref (rowN rs), .ref 26]) (tb_ok aX7_bitsThatFit_0 20 rfl) v_RX7_257 (E_firstOther (o := 26) (rs := rs) (z := z) ((congrFun (hJ 1 (by decide)) 3).trans hm) hm10 hri hq (AgV.rule hri hs hJ) (by rfl) hrs ((congrFun (hJ _ (row_W rs hrs).1) 2).trans hz) hz40) (by decide) rfl rfl rfl rfl rfl (Nat.le_of_ble_eq_true rfl) (by decide) (fun r3 S3 I3 L3 R3 q3 => ?_)
        obtain ⟨rfl, rfl, hX, rfl, rfl⟩ := q3
        refine s_topi (z := ((fun v => fstP sem (I 2) (I 3) m (I 5 2) (tChg (I o) wh (nI v)) (I (rowN rs + 1)) z) k)) (fst_v (m := m) (rs := rs) hJ hrs (by rw [setO_o]; exact T5.cp.chg _ _) sem z) ?_
        refine s_iconst (v := -1) (tb_ok aX7_bitsThatFit_0 21 rfl) (by decide) ?_
        refine s_icmp_ne (tgt := 53) (tb_ok aX7_bitsThatFit_0 22 rfl) (by decide) (fun c41 => ?_) (fun c41 => ?_)
        · refine s_iinc (v := nI (k + 1)) (ls' := [some (.ref 0), some (.ref (rowN rs)), some (.ref o), some (.int wh), some (.int (nI vs)), some (.int (bitS (fun v => fstP sem (I 2) (I 3) m (I 5 2) (tChg (I o) wh (nI v)) (I (rowN rs + 1)) z) k)), some (.int (nI (k + 1)))]) (tb_ok aX7_bitsThatFit_1 5 rfl) rfl (nI_1 _) rfl rfl ?_
          refine s_goto (tgt := 6) (tb_ok aX7_bitsThatFit_1 6 rfl) (by decide) ?_
          refine s_ls ?_ (ih _ (hJ.tr hX.v))
          first | (rw [bitS, if_pos c41, ex1]; done) | (rw [bitS, if_neg c41]; done)
        · refine s_iload (tb_ok aX7_bitsThatFit_0 23 rfl) rfl ?_
          refine s_iconst (v := 1) (tb_ok aX7_bitsThatFit_1 0 rfl) (by decide) ?_
          refine s_iload (tb_ok aX7_bitsThatFit_1 1 rfl) rfl ?_
          refine s_ishl (tb_ok aX7_bitsThatFit_1 2 rfl) ?_
          refine s_ior (tb_ok aX7_bitsThatFit_1 3 rfl) ?_
          refine s_name (fun x1 ex1 => ?_)
          refine s_istore (ls' := [some (.ref 0), some (.ref (rowN rs)), some (.ref o), some (.int wh), some (.int (nI vs)), some (.int x1), some (.int (nI k))]) (tb_ok aX7_bitsThatFit_1 4 rfl) rfl rfl ?_
          refine s_iinc (v := nI (k + 1)) (ls' := [some (.ref 0), some (.ref (rowN rs)), some (.ref o), some (.int wh), some (.int (nI vs)), some (.int x1), some (.int (nI (k + 1)))]) (tb_ok aX7_bitsThatFit_1 5 rfl) rfl (nI_1 _) rfl rfl ?_
          refine s_goto (tgt := 6) (tb_ok aX7_bitsThatFit_1 6 rfl) (by decide) ?_
          refine s_ls ?_ (ih _ (hJ.tr hX.v))
          first | (rw [bitS, if_pos c41, ex1]; done) | (rw [bitS, if_neg c41]; done)
  refine ev_of (by decide +kernel) rfl ?_
  show SW X _ _ _ 0 [some (.ref 0), some (.ref (rowN rs)), some (.ref o), some (.int wh), some (.int (nI vs)), none, none] [] S0 I L (R0 q) _
  refine s_iconst (v := 0) (tb_ok aX7_bitsThatFit_0 0 rfl) (by decide) ?_
  refine s_istore (ls' := [some (.ref 0), some (.ref (rowN rs)), some (.ref o), some (.int wh), some (.int (nI vs)), some (.int (0)), none]) (tb_ok aX7_bitsThatFit_0 1 rfl) rfl rfl ?_
  refine s_iconst (v := nI 0) (tb_ok aX7_bitsThatFit_0 2 rfl) (by decide) ?_
  refine s_istore (ls' := [some (.ref 0), some (.ref (rowN rs)), some (.ref o), some (.int wh), some (.int (nI vs)), some (.int (0)), some (.int (nI 0))]) (tb_ok aX7_bitsThatFit_0 3 rfl) rfl rfl ?_
  exact loop 0 (Nat.zero_le _) _ AgV.rf

set_option maxRecDepth 100000 in
set_option maxHeartbeats 4000000 in
theorem E_ripes {X : En} {I : FI} {L : FL} {q : Nat × Nat} {m : Nat} (hm : I 1 3 = nI m) (hm10 : m ≤ 10) {ri : Nat} (hri : ri < 6) (hq : q.1 = ruleN ri) {sem : Nat → (Nat → Int32) → Int32} (hs : okRule I (ruleN ri) sem) {o : Nat} (ho : S0[o]? = some (5, 5)) {rs z : Nat} (hrs : rs < 4) (hz : I (rowN rs) 2 = nI z) (hz40 : z ≤ 40) (hw1 : W1 o = false) : Ev X 7 mX7_ripesThatFit (0, 0) [.ref 0, .ref (rowN rs), .ref o] S0 I L (R0 q) (AgVR (some (.int (cntS (fun v => fstP sem (I 2) (I 3) m (I 5 2) (upd (I o) 4 (nI v)) (I (rowN rs + 1)) z) 100))) I L q) := by
  have loop : ∀ k, k ≤ 100 → ∀ (J : FI), (AgV I J) → (∀ j, j < 5 → j ≠ 4 → J 26 j = I o j) → SW X 7 mX7_ripesThatFit (0, 0) 13 [some (.ref 0), some (.ref (rowN rs)), some (.ref o), some (.int (cntS (fun v => fstP sem (I 2) (I 3) m (I 5 2) (upd (I o) 4 (nI v)) (I (rowN rs + 1)) z) k)), some (.int (nI k))] [] S0 J L (R0 q) (KQ X (AgVR (some (.int (cntS (fun v => fstP sem (I 2) (I 3) m (I 5 2) (upd (I o) 4 (nI v)) (I (rowN rs + 1)) z) 100))) I L q)) := by
    refine for_up (P := fun k => ∀ (J : FI), (AgV I J) → (∀ j, j < 5 → j ≠ 4 → J 26 j = I o j) → SW X 7 mX7_ripesThatFit (0, 0) 13 [some (.ref 0), some (.ref (rowN rs)), some (.ref o), some (.int (cntS (fun v => fstP sem (I 2) (I 3) m (I 5 2) (upd (I o) 4 (nI v)) (I (rowN rs + 1)) z) k)), some (.int (nI k))] [] S0 J L (R0 q) (KQ X (AgVR (some (.int (cntS (fun v => fstP sem (I 2) (I 3) m (I 5 2) (upd (I o) 4 (nI v)) (I (rowN rs + 1)) z) 100))) I L q))) 100 ?_ ?_
    · intro J hi hi1
      refine s_iload (tb_ok aX7_ripesThatFit_0 8 rfl) rfl ?_
      refine s_bipush (v := nI 100) (tb_ok aX7_ripesThatFit_0 9 rfl) (by decide) ?_
      refine s_icmp_ge (tgt := 51) (tb_ok aX7_ripesThatFit_0 10 rfl) (by decide) (fun c17 => ?_) (fun c17 => ?_)
      · refine s_iload_n (tb_ok aX7_ripesThatFit_1 1 rfl) rfl ?_
        refine s_iret (tb_ok aX7_ripesThatFit_1 2 rfl) rfl ?_
        exact ⟨rfl, rfl, hi, rfl, rfl⟩
      · simp (disch := omega) only [nI_ltI, nI_leI, nI_eq] at c17
        omega
    · intro k hk ih J hi hi1
      refine s_iload (tb_ok aX7_ripesThatFit_0 8 rfl) rfl ?_
      refine s_bipush (v := nI 100) (tb_ok aX7_ripesThatFit_0 9 rfl) (by decide) ?_
      refine s_icmp_ge (tgt := 51) (tb_ok aX7_ripesThatFit_0 10 rfl) (by decide) (fun c17 => ?_) (fun c17 => ?_)
      · simp (disch := omega) only [nI_ltI, nI_leI, nI_eq] at c17
        omega
      · refine s_aload_n (tb_ok aX7_ripesThatFit_0 11 rfl) rfl ?_
        refine s_getR (r := 26) (tb_ok aX7_ripesThatFit_0 12 rfl) f_RX7_32 rfl rfl rfl ?_
        refine s_iload (tb_ok aX7_ripesThatFit_0 13 rfl) rfl ?_
        refine s_putI (tb_ok aX7_ripesThatFit_0 14 rfl) f_RX7_221 rfl rfl ?_
        have hJ : AgV I (up2 J 26 4 (nI k)) := by rw [up2_eq]; exact hi.tr (AgV.set (by decide))
        have h26 : T5 (up2 J 26 4 (nI k) 26) (upd (I o) 4 (nI k)) := by
          intro j hj
          rw [up2_o]
          by_cases e : j = 4
          · simp [upd, e]
          · simp only [upd, if_neg e]; exact hi1 j hj e
        refine s_aload_n (tb_ok aX7_ripesThatFit_0 15 rfl) rfl ?_
        refine s_aload_n (tb_ok aX7_ripesThatFit_0 16 rfl) rfl ?_
        refine s_aload_n (tb_ok aX7_ripesThatFit_0 17 rfl) rfl ?_
        refine s_getR (r := 26) (tb_ok aX7_ripesThatFit_0 18 rfl) f_RX7_32 rfl rfl rfl ?_
        refine s_cV (as := [.ref (rowN rs), .ref 26]) (tb_ok aX7_ripesThatFit_0 19 rfl) v_RX7_257 (E_firstOther (o := 26) (rs := rs) (z := z) ((congrFun (hJ 1 (by decide)) 3).trans hm) hm10 hri hq (AgV.rule hri hs hJ) (by rfl) hrs ((congrFun (hJ _ (row_W rs hrs).1) 2).trans hz) hz40) (by decide) rfl rfl rfl rfl rfl (Nat.le_of_ble_eq_true rfl) (by decide) (fun r1 S1 I1 L1 R1 q1 => ?_)
        obtain ⟨rfl, rfl, hX, rfl, rfl⟩ := q1
        refine s_topi (z := ((fun v => fstP sem (I 2) (I 3) m (I 5 2) (upd (I o) 4 (nI v)) (I (rowN rs + 1)) z) k)) (fst_v (m := m) (rs := rs) hJ hrs h26 sem z) ?_
        refine s_iconst (v := -1) (tb_ok aX7_ripesThatFit_0 20 rfl) (by decide) ?_
        refine s_icmp_ne (tgt := 45) (tb_ok aX7_ripesThatFit_0 21 rfl) (by decide) (fun c39 => ?_) (fun c39 => ?_)
        · refine s_iinc (v := nI (k + 1)) (ls' := [some (.ref 0), some (.ref (rowN rs)), some (.ref o), some (.int (cntS (fun v => fstP sem (I 2) (I 3) m (I 5 2) (upd (I o) 4 (nI v)) (I (rowN rs + 1)) z) k)), some (.int (nI (k + 1)))]) (tb_ok aX7_ripesThatFit_0 23 rfl) rfl (nI_1 _) rfl rfl ?_
          refine s_goto (tgt := 13) (tb_ok aX7_ripesThatFit_1 0 rfl) (by decide) ?_
          refine s_ls ?_ (ih _ (hJ.tr hX.v) (fun j hj e => by rw [hX.at26, h26 j hj]; exact if_neg e))
          first | (rw [cntS, if_pos c39, ex1]; rfl) | (rw [cntS, if_neg c39]; done)
        · obtain ⟨x1, ex1⟩ : ∃ q : Int32, q = (cntS (fun v => fstP sem (I 2) (I 3) m (I 5 2) (upd (I o) 4 (nI v)) (I (rowN rs + 1)) z) k) + Int32.ofInt (1) := ⟨_, rfl⟩
          refine s_iinc (v := x1) (ls' := [some (.ref 0), some (.ref (rowN rs)), some (.ref o), some (.int x1), some (.int (nI k))]) (tb_ok aX7_ripesThatFit_0 22 rfl) rfl ex1.symm rfl rfl ?_
          refine s_iinc (v := nI (k + 1)) (ls' := [some (.ref 0), some (.ref (rowN rs)), some (.ref o), some (.int x1), some (.int (nI (k + 1)))]) (tb_ok aX7_ripesThatFit_0 23 rfl) rfl (nI_1 _) rfl rfl ?_
          refine s_goto (tgt := 13) (tb_ok aX7_ripesThatFit_1 0 rfl) (by decide) ?_
          refine s_ls ?_ (ih _ (hJ.tr hX.v) (fun j hj e => by rw [hX.at26, h26 j hj]; exact if_neg e))
          first | (rw [cntS, if_pos c39, ex1]; rfl) | (rw [cntS, if_neg c39]; done)
  refine ev_of (by decide +kernel) rfl ?_
  show SW X _ _ _ 0 [some (.ref 0), some (.ref (rowN rs)), some (.ref o), none, none] [] S0 I L (R0 q) _
  refine s_iconst (v := 0) (tb_ok aX7_ripesThatFit_0 0 rfl) (by decide) ?_
  refine s_istore_n (ls' := [some (.ref 0), some (.ref (rowN rs)), some (.ref o), some (.int (0)), none]) (tb_ok aX7_ripesThatFit_0 1 rfl) rfl rfl ?_
  refine s_aload_n (tb_ok aX7_ripesThatFit_0 2 rfl) rfl ?_
  refine s_getR (r := 26) (tb_ok aX7_ripesThatFit_0 3 rfl) f_RX7_32 rfl rfl rfl ?_
  refine s_aload_n (tb_ok aX7_ripesThatFit_0 4 rfl) rfl ?_
  refine s_cV (as := [.ref o]) (tb_ok aX7_ripesThatFit_0 5 rfl) v_RX7_281 (E_Tbecome (by rfl : S0[26]? = some (5, 5)) ho) (by decide) rfl rfl rfl rfl rfl (Nat.le_of_ble_eq_true rfl) (by decide) (fun r1 S1 I1 L1 R1 q1 => ?_)
  obtain ⟨rfl, rfl, rfl, rfl, rfl⟩ := q1
  refine s_iconst (v := 0) (tb_ok aX7_ripesThatFit_0 6 rfl) (by decide) ?_
  refine s_istore (ls' := [some (.ref 0), some (.ref (rowN rs)), some (.ref o), some (.int (0)), some (.int (0))]) (tb_ok aX7_ripesThatFit_0 7 rfl) rfl rfl ?_
  exact loop 0 (Nat.zero_le _) _ (AgV.set (by decide)) (fun j hj _ => by rw [setO_o]; exact T5.cp j hj)

set_option maxRecDepth 100000 in
set_option maxHeartbeats 4000000 in
theorem E_least {X : En} {I : FI} {L : FL} {q : Nat × Nat} {m : Nat} (hm : I 1 3 = nI m) (hm10 : m ≤ 10) {ri : Nat} (hri : ri < 6) (hq : q.1 = ruleN ri) {sem : Nat → (Nat → Int32) → Int32} (hs : okRule I (ruleN ri) sem) {o : Nat} (ho : S0[o]? = some (5, 5)) {rs z : Nat} (hrs : rs < 4) (hz : I (rowN rs) 2 = nI z) (hz40 : z ≤ 40) (hw1 : W1 o = false) : Ev X 7 mX7_leastRipeThatFits (0, 0) [.ref 0, .ref (rowN rs), .ref o] S0 I L (R0 q) (AgVR (some (.int (lstS (fun v => fstP sem (I 2) (I 3) m (I 5 2) (upd (I o) 4 (nI v)) (I (rowN rs + 1)) z) 100 0))) I L q) := by
  have loop : ∀ k, k ≤ 100 → ∀ (J : FI), (AgV I J) → (∀ j, j < 5 → j ≠ 4 → J 26 j = I o j) → (lstS (fun v => fstP sem (I 2) (I 3) m (I 5 2) (upd (I o) 4 (nI v)) (I (rowN rs + 1)) z) (100 - k) k = lstS (fun v => fstP sem (I 2) (I 3) m (I 5 2) (upd (I o) 4 (nI v)) (I (rowN rs + 1)) z) 100 0) → SW X 7 mX7_leastRipeThatFits (0, 0) 10 [some (.ref 0), some (.ref (rowN rs)), some (.ref o), some (.int (nI k))] [] S0 J L (R0 q) (KQ X (AgVR (some (.int (lstS (fun v => fstP sem (I 2) (I 3) m (I 5 2) (upd (I o) 4 (nI v)) (I (rowN rs + 1)) z) 100 0))) I L q)) := by
    refine for_up (P := fun k => ∀ (J : FI), (AgV I J) → (∀ j, j < 5 → j ≠ 4 → J 26 j = I o j) → (lstS (fun v => fstP sem (I 2) (I 3) m (I 5 2) (upd (I o) 4 (nI v)) (I (rowN rs + 1)) z) (100 - k) k = lstS (fun v => fstP sem (I 2) (I 3) m (I 5 2) (upd (I o) 4 (nI v)) (I (rowN rs + 1)) z) 100 0) → SW X 7 mX7_leastRipeThatFits (0, 0) 10 [some (.ref 0), some (.ref (rowN rs)), some (.ref o), some (.int (nI k))] [] S0 J L (R0 q) (KQ X (AgVR (some (.int (lstS (fun v => fstP sem (I 2) (I 3) m (I 5 2) (upd (I o) 4 (nI v)) (I (rowN rs + 1)) z) 100 0))) I L q))) 100 ?_ ?_
    · intro J hi hi1 hi2
      refine s_iload_n (tb_ok aX7_leastRipeThatFits_0 6 rfl) rfl ?_
      refine s_bipush (v := nI 100) (tb_ok aX7_leastRipeThatFits_0 7 rfl) (by decide) ?_
      refine s_icmp_ge (tgt := 45) (tb_ok aX7_leastRipeThatFits_0 8 rfl) (by decide) (fun c13 => ?_) (fun c13 => ?_)
      · refine s_iconst (v := -1) (tb_ok aX7_leastRipeThatFits_1 0 rfl) (by decide) ?_
        refine s_iret (tb_ok aX7_leastRipeThatFits_1 1 rfl) rfl ?_
        refine ⟨?_, rfl, hi, rfl, rfl⟩
        rw [← hi2]; rfl
      · simp (disch := omega) only [nI_ltI, nI_leI, nI_eq] at c13
        omega
    · intro k hk ih J hi hi1 hi2
      refine s_iload_n (tb_ok aX7_leastRipeThatFits_0 6 rfl) rfl ?_
      refine s_bipush (v := nI 100) (tb_ok aX7_leastRipeThatFits_0 7 rfl) (by decide) ?_
      refine s_icmp_ge (tgt := 45) (tb_ok aX7_leastRipeThatFits_0 8 rfl) (by decide) (fun c13 => ?_) (fun c13 => ?_)
      · simp (disch := omega) only [nI_ltI, nI_leI, nI_eq] at c13
        omega
      · refine s_aload_n (tb_ok aX7_leastRipeThatFits_0 9 rfl) rfl ?_
        refine s_getR (r := 26) (tb_ok aX7_leastRipeThatFits_0 10 rfl) f_RX7_32 rfl rfl rfl ?_
        refine s_iload_n (tb_ok aX7_leastRipeThatFits_0 11 rfl) rfl ?_
        refine s_putI (tb_ok aX7_leastRipeThatFits_0 12 rfl) f_RX7_221 rfl rfl ?_
        have hJ : AgV I (up2 J 26 4 (nI k)) := by rw [up2_eq]; exact hi.tr (AgV.set (by decide))
        have h26 : T5 (up2 J 26 4 (nI k) 26) (upd (I o) 4 (nI k)) := by
          intro j hj
          rw [up2_o]
          by_cases e : j = 4
          · simp [upd, e]
          · simp only [upd, if_neg e]; exact hi1 j hj e
        refine s_aload_n (tb_ok aX7_leastRipeThatFits_0 13 rfl) rfl ?_
        refine s_aload_n (tb_ok aX7_leastRipeThatFits_0 14 rfl) rfl ?_
        refine s_aload_n (tb_ok aX7_leastRipeThatFits_0 15 rfl) rfl ?_
        refine s_getR (r := 26) (tb_ok aX7_leastRipeThatFits_0 16 rfl) f_RX7_32 rfl rfl rfl ?_
        refine s_cV (as := [.ref (rowN rs), .ref 26]) (tb_ok aX7_leastRipeThatFits_0 17 rfl) v_RX7_257 (E_firstOther (o := 26) (rs := rs) (z := z) ((congrFun (hJ 1 (by decide)) 3).trans hm) hm10 hri hq (AgV.rule hri hs hJ) (by rfl) hrs ((congrFun (hJ _ (row_W rs hrs).1) 2).trans hz) hz40) (by decide) rfl rfl rfl rfl rfl (Nat.le_of_ble_eq_true rfl) (by decide) (fun r1 S1 I1 L1 R1 q1 => ?_)
        obtain ⟨rfl, rfl, hX, rfl, rfl⟩ := q1
        refine s_topi (z := ((fun v => fstP sem (I 2) (I 3) m (I 5 2) (upd (I o) 4 (nI v)) (I (rowN rs + 1)) z) k)) (fst_v (m := m) (rs := rs) hJ hrs h26 sem z) ?_
        refine s_iconst (v := -1) (tb_ok aX7_leastRipeThatFits_0 18 rfl) (by decide) ?_
        refine s_icmp_ne (tgt := 39) (tb_ok aX7_leastRipeThatFits_0 19 rfl) (by decide) (fun c34 => ?_) (fun c34 => ?_)
        · refine s_iinc (v := nI (k + 1)) (ls' := [some (.ref 0), some (.ref (rowN rs)), some (.ref o), some (.int (nI (k + 1)))]) (tb_ok aX7_leastRipeThatFits_0 22 rfl) rfl (nI_1 _) rfl rfl ?_
          refine s_goto (tgt := 10) (tb_ok aX7_leastRipeThatFits_0 23 rfl) (by decide) ?_
          refine ih _ (hJ.tr hX.v) (fun j hj e => by rw [hX.at26, h26 j hj]; exact if_neg e) ?_
          rw [← hi2, show 100 - k = 100 - (k + 1) + 1 by omega, lstS, if_neg c34]
        · refine s_iload_n (tb_ok aX7_leastRipeThatFits_0 20 rfl) rfl ?_
          refine s_iret (tb_ok aX7_leastRipeThatFits_0 21 rfl) rfl ?_
          refine ⟨?_, rfl, hJ.tr hX.v, rfl, rfl⟩
          rw [← hi2, show 100 - k = 100 - (k + 1) + 1 by omega, lstS, if_pos c34]
  refine ev_of (by decide +kernel) rfl ?_
  show SW X _ _ _ 0 [some (.ref 0), some (.ref (rowN rs)), some (.ref o), none] [] S0 I L (R0 q) _
  refine s_aload_n (tb_ok aX7_leastRipeThatFits_0 0 rfl) rfl ?_
  refine s_getR (r := 26) (tb_ok aX7_leastRipeThatFits_0 1 rfl) f_RX7_32 rfl rfl rfl ?_
  refine s_aload_n (tb_ok aX7_leastRipeThatFits_0 2 rfl) rfl ?_
  refine s_cV (as := [.ref o]) (tb_ok aX7_leastRipeThatFits_0 3 rfl) v_RX7_281 (E_Tbecome (by rfl : S0[26]? = some (5, 5)) ho) (by decide) rfl rfl rfl rfl rfl (Nat.le_of_ble_eq_true rfl) (by decide) (fun r1 S1 I1 L1 R1 q1 => ?_)
  obtain ⟨rfl, rfl, rfl, rfl, rfl⟩ := q1
  refine s_iconst (v := nI 0) (tb_ok aX7_leastRipeThatFits_0 4 rfl) (by decide) ?_
  refine s_istore_n (ls' := [some (.ref 0), some (.ref (rowN rs)), some (.ref o), some (.int (nI 0))]) (tb_ok aX7_leastRipeThatFits_0 5 rfl) rfl rfl ?_
  exact loop 0 (Nat.zero_le _) _ (AgV.set (by decide)) (fun j hj _ => by rw [setO_o]; exact T5.cp j hj) rfl
