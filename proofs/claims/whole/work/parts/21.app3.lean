/-! all houses in thought; what was told, read back -/
theorem apS_congr {T T' : Nat → Nat → Int32} {M : Nat} (h : ∀ j, j < M → T j 3 = T' j 3) : ∀ k, apS T M k = apS T' M k := by
  intro k
  induction k with
  | zero => rfl
  | succ k ih =>
    unfold apS
    by_cases hk : k < M
    · rw [if_pos hk, if_pos hk, ih, h k hk]
    · rw [if_neg hk, if_neg hk, ih]
/-- thought as an orchard: its head, its trees -/
def thO (I : FI) (M : Nat) (day : Int32) (F : Nat → Nat → Int32) : FI := stT (setO I 19 (upd (upd (upd (I 19) 1 (nI M)) 2 day) 3 (I 5 3))) 19 M F
theorem thO_t {I : FI} {M j : Nat} {day : Int32} {F : Nat → Nat → Int32} (h : j < M) : thO I M day F (19 + 2 + j) = F j := stT_at h
theorem thO_h {I : FI} {M : Nat} {day : Int32} {F : Nat → Nat → Int32} : thO I M day F 19 = upd (upd (upd (I 19) 1 (nI M)) 2 day) 3 (I 5 3) := by
  unfold thO
  rw [stT_out (by omega), setO_o]
theorem thO_n {I : FI} {M a : Nat} {day : Int32} {F : Nat → Nat → Int32} (hM : M ≤ 5) (h : a < 19 ∨ 26 ≤ a) : thO I M day F a = I a := by
  unfold thO
  rw [stT_out (by omega), setO_n (by omega)]
theorem thO_v {I J : FI} {M : Nat} {day : Int32} {F : Nat → Nat → Int32} (hM : M ≤ 5) (h : AgW (thO I M day F) J) : AgV I J := fun a ha => by
  have hw : a < 19 ∨ 26 ≤ a := by
    rcases Nat.lt_or_ge a 19 with h1 | h1
    · exact Or.inl h1
    · rcases Nat.lt_or_ge a 26 with h2 | h2
      · exfalso
        have : W1 a = true := by
          unfold W1
          have e1 : decide (19 ≤ a) = true := decide_eq_true h1
          have e2 : decide (a ≤ 25) = true := decide_eq_true (by omega)
          rw [e1, e2]
          simp
        rw [this] at ha
        cases ha
      · exact Or.inr h2
  rw [h a (W1_0 ha), thO_n hM hw]
theorem okRule.th {I J : FI} {M i : Nat} {day : Int32} {F : Nat → Nat → Int32} {sem : Nat → (Nat → Int32) → Int32} (hi : i < 6) (hM : M ≤ 5) (h : okRule I (ruleN i) sem) (hA : AgW (thO I M day F) J) : okRule J (ruleN i) sem := AgV.rule hi h (thO_v hM hA)
/-- a day of the orchard in thought -/
theorem thO_pass {I J J' : FI} {M m : Nat} {day : Int32} {F F' : Nat → Nat → Int32} {sem : Nat → (Nat → Int32) → Int32} (hM : M ≤ 5) (hA : AgW (thO I M day F) J) (hP : AgW (up2 (stT J 19 M (fun j => pasP sem (J 2) (J 3) m (J (19 + 2 + j)) (J 19 2))) 19 2 (J 19 2 + 1)) J') (hF : ∀ j, j < M → F' j = pasP sem (I 2) (I 3) m (F j) day) : AgW (thO I M (day + 1) F') J' := by
  have w : ∀ j, j < 5 → W0 (19 + 2 + j) = false := by decide
  have h19 : J 19 = upd (upd (upd (I 19) 1 (nI M)) 2 day) 3 (I 5 3) := by rw [hA 19 (by decide), thO_h]
  have hday : J 19 2 = day := by rw [h19]; rfl
  have h2 : J 2 = I 2 := by rw [hA 2 (by decide), thO_n hM (by omega)]
  have h3 : J 3 = I 3 := by rw [hA 3 (by decide), thO_n hM (by omega)]
  refine AgW.tr (fun a ha => ?_) hP
  rw [up2_eq, stT_out (a := 19) (by omega)]
  by_cases e : a = 19
  · subst e
    rw [setO_o, thO_h, h19]
    funext j
    unfold upd
    by_cases j3 : j = 3
    · subst j3; rfl
    · by_cases j2 : j = 2
      · subst j2; rfl
      · simp [j3, j2]
  · rw [setO_n e]
    by_cases hr : 21 ≤ a ∧ a < 21 + M
    · obtain ⟨j, rfl⟩ : ∃ j, a = 19 + 2 + j := ⟨a - 21, by omega⟩
      have hj : j < M := by omega
      rw [stT_at hj, thO_t hj, hF j hj, h2, h3, hday, hA _ (w j (by omega)), thO_t hj]
    · have e1 : stT J 19 M (fun j => pasP sem (J 2) (J 3) m (J (19 + 2 + j)) (J 19 2)) a = J a := stT_out (by omega)
      rw [e1, hA a ha]
      unfold thO
      rw [stT_out (by omega), stT_out (by omega), setO_n e, setO_n e]
def bshP (sem : Nat → (Nat → Int32) → Int32) (fr fa : Nat → Int32) (m M : Nat) (day : Int32) (T : Nat → Nat → Int32) (n : Nat) : Int32 := apS T M 5 - apS (fun j => itP sem fr fa m day (T j) n) M 5
theorem apS_it {T C : Nat → Nat → Int32} (hC : ∀ j, T5 (C j) (T j)) (sem : Nat → (Nat → Int32) → Int32) (fr fa : Nat → Int32) (m M : Nat) (day : Int32) (n k : Nat) : apS (fun j => itP sem fr fa m day (C j) n) M k = apS (fun j => itP sem fr fa m day (T j) n) M k := apS_congr (fun j _ => (hC j).it sem fr fa m day n 3 (by decide)) k
theorem apS_J {J : FI} {o M : Nat} {F : Nat → Nat → Int32} (h : ∀ j, j < M → J (o + 2 + j) = F j) (k : Nat) : apS (fun j => J (o + 2 + j)) M k = apS F M k := apS_congr (fun j hj => by rw [h j hj]) k
theorem w5 : ∀ j, j < 5 → W0 (5 + 2 + j) = false ∧ W0 (19 + 2 + j) = false := by decide
set_option maxRecDepth 100000 in
set_option maxHeartbeats 4000000 in
theorem E_basketsBehind {X : En} {I : FI} {L : FL} {q : Nat × Nat} {M : Nat} (hM : I 5 1 = nI M) (hM5 : M ≤ 5) {m : Nat} (hm : I 1 3 = nI m) (hm10 : m ≤ 10) {ri : Nat} (hri : ri < 6) (hq : q.1 = ruleN ri) {sem : Nat → (Nat → Int32) → Int32} (hs : okRule I (ruleN ri) sem) {n : Nat} (hn : n ≤ 40) : Ev X 7 mX7_basketsBehind (0, 0) [.ref 0, .int (nI n)] S0 I L (R0 q) (AgVR (some (.int (bshP sem (I 2) (I 3) m M (I 5 2) (fun j => I (5 + 2 + j)) n))) I L q) := by
  have loop : ∀ k, k ≤ n → ∀ (J : FI), (AgW (thO I M (I 5 2 + nI k) (fun j => itP sem (I 2) (I 3) m (I 5 2) (cp5 (I (5 + 2 + j)) (I (19 + 2 + j))) k)) J) → SW X 7 mX7_basketsBehind (0, 0) 13 [some (.ref 0), some (.int (nI n)), some (.int (nI k))] [] S0 J L (R0 q) (KQ X (AgVR (some (.int (bshP sem (I 2) (I 3) m M (I 5 2) (fun j => I (5 + 2 + j)) n))) I L q)) := by
    refine for_up (P := fun k => ∀ (J : FI), (AgW (thO I M (I 5 2 + nI k) (fun j => itP sem (I 2) (I 3) m (I 5 2) (cp5 (I (5 + 2 + j)) (I (19 + 2 + j))) k)) J) → SW X 7 mX7_basketsBehind (0, 0) 13 [some (.ref 0), some (.int (nI n)), some (.int (nI k))] [] S0 J L (R0 q) (KQ X (AgVR (some (.int (bshP sem (I 2) (I 3) m M (I 5 2) (fun j => I (5 + 2 + j)) n))) I L q))) n ?_ ?_
    · intro J hi
      refine s_iload_n (tb_ok aX7_basketsBehind_0 7 rfl) rfl ?_
      refine s_iload_n (tb_ok aX7_basketsBehind_0 8 rfl) rfl ?_
      refine s_icmp_ge (tgt := 35) (tb_ok aX7_basketsBehind_0 9 rfl) (by decide) (fun c15 => ?_) (fun c15 => ?_)
      · refine s_aload_n (tb_ok aX7_basketsBehind_0 17 rfl) rfl ?_
        refine s_getR (r := 5) (tb_ok aX7_basketsBehind_0 18 rfl) f_RX7_19 rfl rfl rfl ?_
        refine s_cVp (as := []) (tb_ok aX7_basketsBehind_0 19 rfl) v_RX7_206 (E_Oapples (orch5 q) (M := M) (by rw [hi 5 (by decide), thO_n hM5 (by omega)]; exact hM) hM5) (by decide) rfl rfl rfl rfl rfl (Nat.le_of_ble_eq_true rfl) (by decide) ?_
        refine s_aload_n (tb_ok aX7_basketsBehind_0 20 rfl) rfl ?_
        refine s_getR (r := 19) (tb_ok aX7_basketsBehind_0 21 rfl) f_RX7_26 rfl rfl rfl ?_
        refine s_cVp (as := []) (tb_ok aX7_basketsBehind_0 22 rfl) v_RX7_206 (E_Oapples (orch19 q) (M := M) (by rw [hi 19 (by decide), thO_h]; rfl) hM5) (by decide) rfl rfl rfl rfl rfl (Nat.le_of_ble_eq_true rfl) (by decide) ?_
        refine s_isub (tb_ok aX7_basketsBehind_0 23 rfl) ?_
        refine s_iret (tb_ok aX7_basketsBehind_1 0 rfl) rfl ?_
        refine ⟨?_, rfl, thO_v hM5 hi, rfl, rfl⟩
        have a1 := apS_J (J := J) (o := 5) (M := M) (F := (fun j => I (5 + 2 + j))) (fun j hj => by rw [hi _ (w5 j (by omega)).1, thO_n hM5 (by omega)]) 5
        have a2 := apS_J (J := J) (o := 19) (M := M) (F := fun j => itP sem (I 2) (I 3) m (I 5 2) (cp5 (I (5 + 2 + j)) (I (19 + 2 + j))) n) (fun j hj => by rw [hi _ (w5 j (by omega)).2, thO_t hj]) 5
        have a3 := apS_it (T := (fun j => I (5 + 2 + j))) (C := (fun j => cp5 (I (5 + 2 + j)) (I (19 + 2 + j)))) (fun j => T5.cp) sem (I 2) (I 3) m M (I 5 2) n 5
        rw [bshP, a1, a2, a3]
      · simp (disch := omega) only [nI_ltI, nI_leI, nI_eq] at c15
        omega
    · intro k hk ih J hi
      refine s_iload_n (tb_ok aX7_basketsBehind_0 7 rfl) rfl ?_
      refine s_iload_n (tb_ok aX7_basketsBehind_0 8 rfl) rfl ?_
      refine s_icmp_ge (tgt := 35) (tb_ok aX7_basketsBehind_0 9 rfl) (by decide) (fun c15 => ?_) (fun c15 => ?_)
      · simp (disch := omega) only [nI_ltI, nI_leI, nI_eq] at c15
        omega
      · refine s_aload_n (tb_ok aX7_basketsBehind_0 10 rfl) rfl ?_
        refine s_getR (r := 19) (tb_ok aX7_basketsBehind_0 11 rfl) f_RX7_26 rfl rfl rfl ?_
        refine s_aload_n (tb_ok aX7_basketsBehind_0 12 rfl) rfl ?_
        refine s_getR (r := 64) (tb_ok aX7_basketsBehind_0 13 rfl) f_RX7_101 rfl rfl rfl ?_
        refine s_cV (as := [.ref 64]) (tb_ok aX7_basketsBehind_0 14 rfl) v_RX7_209 (E_Opass (orch19 q) (M := M) (by rw [hi 19 (by decide), thO_h]; rfl) hM5 (by decide) (m := m) (by rw [hi 1 (by decide), thO_n hM5 (by omega)]; exact hm) hm10 hri hq (hs.th hri hM5 hi)) (by decide) rfl rfl rfl rfl rfl (Nat.le_of_ble_eq_true rfl) (by decide) (fun r1 S1 I1 L1 R1 q1 => ?_)
        obtain ⟨rfl, rfl, hA1, rfl, rfl⟩ := q1
        refine s_iinc (v := nI (k + 1)) (ls' := [some (.ref 0), some (.int (nI n)), some (.int (nI (k + 1)))]) (tb_ok aX7_basketsBehind_0 15 rfl) rfl (nI_1 _) rfl rfl ?_
        refine s_goto (tgt := 13) (tb_ok aX7_basketsBehind_0 16 rfl) (by decide) ?_
        have e := thO_pass hM5 hi hA1 (F' := fun j => itP sem (I 2) (I 3) m (I 5 2) (cp5 (I (5 + 2 + j)) (I (19 + 2 + j))) (k + 1)) (fun j _ => rfl)
        rw [Int32.add_assoc, nI_1] at e
        exact ih _ e
  refine ev_of (by decide +kernel) rfl ?_
  show SW X _ _ _ 0 [some (.ref 0), some (.int (nI n)), none] [] S0 I L (R0 q) _
  refine s_aload_n (tb_ok aX7_basketsBehind_0 0 rfl) rfl ?_
  refine s_getR (r := 19) (tb_ok aX7_basketsBehind_0 1 rfl) f_RX7_26 rfl rfl rfl ?_
  refine s_aload_n (tb_ok aX7_basketsBehind_0 2 rfl) rfl ?_
  refine s_getR (r := 5) (tb_ok aX7_basketsBehind_0 3 rfl) f_RX7_19 rfl rfl rfl ?_
  refine s_cV (as := [.ref 5]) (tb_ok aX7_basketsBehind_0 4 rfl) v_RX7_302 (E_Obecome (orch19 q) (orch5 q) (by decide) hM hM5) (by decide) rfl rfl rfl rfl rfl (Nat.le_of_ble_eq_true rfl) (by decide) (fun r1 S1 I1 L1 R1 q1 => ?_)
  obtain ⟨rfl, rfl, rfl, rfl, rfl⟩ := q1
  refine s_iconst (v := nI 0) (tb_ok aX7_basketsBehind_0 5 rfl) (by decide) ?_
  refine s_istore_n (ls' := [some (.ref 0), some (.int (nI n)), some (.int (nI 0))]) (tb_ok aX7_basketsBehind_0 6 rfl) rfl rfl ?_
  refine loop 0 (Nat.zero_le _) _ ?_
  rw [show I 5 2 + nI 0 = I 5 2 from Int32.add_zero _]
  exact AgW.rf
