/-! all houses in thought; what was told, read back -/
theorem apS_congr {T T' : Nat → Nat → Int32} {M : Nat} (h : ∀ j, j < M → T j 3 = T' j 3) : ∀ k, apS T M k = apS T' M k := by
  intro k
  induction k with
  | zero => rfl
  | succ k ih =>
    unfold apS
    by_cases hk : k < M
    · rw [if_pos hk, if_pos hk, ih, h k hk]
    · rw [if_neg hk, if_neg hk, ih]
/-- thought as an orchard: its head, its trees -/
def thO (I : FI) (M : Nat) (day : Int32) (F : Nat → Nat → Int32) : FI := stT (setO I 19 (upd (upd (upd (I 19) 1 (nI M)) 2 day) 3 (I 5 3))) 19 M F
theorem thO_t {I : FI} {M j : Nat} {day : Int32} {F : Nat → Nat → Int32} (h : j < M) : thO I M day F (19 + 2 + j) = F j := stT_at h
theorem thO_h {I : FI} {M : Nat} {day : Int32} {F : Nat → Nat → Int32} : thO I M day F 19 = upd (upd (upd (I 19) 1 (nI M)) 2 day) 3 (I 5 3) := by
  unfold thO
  rw [stT_out (by omega), setO_o]
theorem thO_n {I : FI} {M a : Nat} {day : Int32} {F : Nat → Nat → Int32} (hM : M ≤ 5) (h : a < 19 ∨ 26 ≤ a) : thO I M day F a = I a := by
  unfold thO
  rw [stT_out (by omega), setO_n (by omega)]
theorem thO_v {I J : FI} {M : Nat} {day : Int32} {F : Nat → Nat → Int32} (hM : M ≤ 5) (h : AgW (thO I M day F) J) : AgV I J := fun a ha => by
  have hw : a < 19 ∨ 26 ≤ a := by
    rcases Nat.lt_or_ge a 19 with h1 | h1
    · exact Or.inl h1
    · rcases Nat.lt_or_ge a 26 with h2 | h2
      · exfalso
        have : W1 a = true := by
          unfold W1
          have e1 : decide (19 ≤ a) = true := decide_eq_true h1
          have e2 : decide (a ≤ 25) = true := decide_eq_true (by omega)
          rw [e1, e2]
          simp
        rw [this] at ha
        cases ha
      · exact Or.inr h2
  rw [h a (W1_0 ha), thO_n hM hw]
theorem okRule.th {I J : FI} {M i : Nat} {day : Int32} {F : Nat → Nat → Int32} {sem : Nat → (Nat → Int32) → Int32} (hi : i < 6) (hM : M ≤ 5) (h : okRule I (ruleN i) sem) (hA : AgW (thO I M day F) J) : okRule J (ruleN i) sem := AgV.rule hi h (thO_v hM hA)
/-- a day of the orchard in thought -/
theorem thO_pass {I J J' : FI} {M m : Nat} {day : Int32} {F F' : Nat → Nat → Int32} {sem : Nat → (Nat → Int32) → Int32} (hM : M ≤ 5) (hA : AgW (thO I M day F) J) (hP : AgW (up2 (stT J 19 M (fun j => pasP sem (J 2) (J 3) m (J (19 + 2 + j)) (J 19 2))) 19 2 (J 19 2 + 1)) J') (hF : ∀ j, j < M → F' j = pasP sem (I 2) (I 3) m (F j) day) : AgW (thO I M (day + 1) F') J' := by
  have w : ∀ j, j < 5 → W0 (19 + 2 + j) = false := by decide
  have h19 : J 19 = upd (upd (upd (I 19) 1 (nI M)) 2 day) 3 (I 5 3) := by rw [hA 19 (by decide), thO_h]
  have hday : J 19 2 = day := by rw [h19]; rfl
  have h2 : J 2 = I 2 := by rw [hA 2 (by decide), thO_n hM (by omega)]
  have h3 : J 3 = I 3 := by rw [hA 3 (by decide), thO_n hM (by omega)]
  refine AgW.tr (fun a ha => ?_) hP
  rw [up2_eq, stT_out (a := 19) (by omega)]
  by_cases e : a = 19
  · subst e
    rw [setO_o, thO_h, h19]
    funext j
    unfold upd
    by_cases j3 : j = 3
    · subst j3; rfl
    · by_cases j2 : j = 2
      · subst j2; rfl
      · simp [j3, j2]
  · rw [setO_n e]
    by_cases hr : 21 ≤ a ∧ a < 21 + M
    · obtain ⟨j, rfl⟩ : ∃ j, a = 19 + 2 + j := ⟨a - 21, by omega⟩
      have hj : j < M := by omega
      rw [stT_at hj, thO_t hj, hF j hj, h2, h3, hday, hA _ (w j (by omega)), thO_t hj]
    · have e1 : stT J 19 M (fun j => pasP sem (J 2) (J 3) m (J (19 + 2 + j)) (J 19 2)) a = J a := stT_out (by omega)
      rw [e1, hA a ha]
      unfold thO
      rw [stT_out (by omega), stT_out (by omega), setO_n e, setO_n e]
def bshP (sem : Nat → (Nat → Int32) → Int32) (fr fa : Nat → Int32) (m M : Nat) (day : Int32) (T : Nat → Nat → Int32) (n : Nat) : Int32 := apS T M 5 - apS (fun j => itP sem fr fa m day (T j) n) M 5
theorem apS_it {T C : Nat → Nat → Int32} (hC : ∀ j, T5 (C j) (T j)) (sem : Nat → (Nat → Int32) → Int32) (fr fa : Nat → Int32) (m M : Nat) (day : Int32) (n k : Nat) : apS (fun j => itP sem fr fa m day (C j) n) M k = apS (fun j => itP sem fr fa m day (T j) n) M k := apS_congr (fun j _ => (hC j).it sem fr fa m day n 3 (by decide)) k
theorem apS_J {J : FI} {o M : Nat} {F : Nat → Nat → Int32} (h : ∀ j, j < M → J (o + 2 + j) = F j) (k : Nat) : apS (fun j => J (o + 2 + j)) M k = apS F M k := apS_congr (fun j hj => by rw [h j hj]) k
theorem w5 : ∀ j, j < 5 → W0 (5 + 2 + j) = false ∧ W0 (19 + 2 + j) = false := by decide
set_option maxRecDepth 100000 in
set_option maxHeartbeats 4000000 in
theorem E_basketsBehind {X : En} {I : FI} {L : FL} {q : Nat × Nat} {M : Nat} (hM : I 5 1 = nI M) (hM5 : M ≤ 5) {m : Nat} (hm : I 1 3 = nI m) (hm10 : m ≤ 10) {ri : Nat} (hri : ri < 6) (hq : q.1 = ruleN ri) {sem : Nat → (Nat → Int32) → Int32} (hs : okRule I (ruleN ri) sem) {n : Nat} (hn : n ≤ 40) : Ev X 7 mX7_basketsBehind (0, 0) [.ref 0, .int (nI n)] S0 I L (R0 q) (AgVR (some (.int (bshP sem (I 2) (I 3) m M (I 5 2) (fun j => I (5 + 2 + j)) n))) I L q) := by
  have loop : ∀ k, k ≤ n → ∀ (J : FI), (AgW (thO I M (I 5 2 + nI k) (fun j => itP sem (I 2) (I 3) m (I 5 2) (cp5 (I (5 + 2 + j)) (I (19 + 2 + j))) k)) J) → SW X 7 mX7_basketsBehind (0, 0) 13 [some (.ref 0), some (.int (nI n)), some (.int (nI k))] [] S0 J L (R0 q) (KQ X (AgVR (some (.int (bshP sem (I 2) (I 3) m M (I 5 2) (fun j => I (5 + 2 + j)) n))) I L q)) := by
    refine for_up (P := fun k => ∀ (J : FI), (AgW (thO I M (I 5 2 + nI k) (fun j => itP sem (I 2) (I 3) m (I 5 2) (cp5 (I (5 + 2 + j)) (I (19 + 2 + j))) k)) J) → SW X 7 mX7_basketsBehind (0, 0) 13 [some (.ref 0), some (.int (nI n)), some (.int (nI k))] [] S0 J L (R0 q) (KQ X (AgVR (some (.int (bshP sem (I 2) (I 3) m M (I 5 2) (fun j => I (5 + 2 + j)) n))) I L q))) n ?_ ?_
    · intro J hi
      refine s_iload_n (tb_ok aX7_basketsBehind_0 7 rfl) rfl ?_
      refine s_iload_n (tb_ok aX7_basketsBehind_0 8 rfl) rfl ?_
      refine s_icmp_ge (tgt := 35) (tb_ok aX7_basketsBehind_0 9 rfl) (by decide) (fun c15 => ?_) (fun c15 => ?_)
      · refine s_aload_n (tb_ok aX7_basketsBehind_0 17 rfl) rfl ?_
        refine s_getR (r := 5) (tb_ok aX7_basketsBehind_0 18 rfl) f_RX7_19 rfl rfl rfl ?_
        refine s_cVp (as := []) (tb_ok aX7_basketsBehind_0 19 rfl) v_RX7_206 (E_Oapples (orch5 q) (M := M) (by rw [hi 5 (by decide), thO_n hM5 (by omega)]; exact hM) hM5) (by decide) rfl rfl rfl rfl rfl (Nat.le_of_ble_eq_true rfl) (by decide) ?_
        refine s_aload_n (tb_ok aX7_basketsBehind_0 20 rfl) rfl ?_
        refine s_getR (r := 19) (tb_ok aX7_basketsBehind_0 21 rfl) f_RX7_26 rfl rfl rfl ?_
        refine s_cVp (as := []) (tb_ok aX7_basketsBehind_0 22 rfl) v_RX7_206 (E_Oapples (orch19 q) (M := M) (by rw [hi 19 (by decide), thO_h]; rfl) hM5) (by decide) rfl rfl rfl rfl rfl (Nat.le_of_ble_eq_true rfl) (by decide) ?_
        refine s_isub (tb_ok aX7_basketsBehind_0 23 rfl) ?_
        refine s_iret (tb_ok aX7_basketsBehind_1 0 rfl) rfl ?_
        refine ⟨?_, rfl, thO_v hM5 hi, rfl, rfl⟩
        have a1 := apS_J (J := J) (o := 5) (M := M) (F := (fun j => I (5 + 2 + j))) (fun j hj => by rw [hi _ (w5 j (by omega)).1, thO_n hM5 (by omega)]) 5
        have a2 := apS_J (J := J) (o := 19) (M := M) (F := fun j => itP sem (I 2) (I 3) m (I 5 2) (cp5 (I (5 + 2 + j)) (I (19 + 2 + j))) n) (fun j hj => by rw [hi _ (w5 j (by omega)).2, thO_t hj]) 5
        have a3 := apS_it (T := (fun j => I (5 + 2 + j))) (C := (fun j => cp5 (I (5 + 2 + j)) (I (19 + 2 + j)))) (fun j => T5.cp) sem (I 2) (I 3) m M (I 5 2) n 5
        rw [bshP, a1, a2, a3]
      · simp (disch := omega) only [nI_ltI, nI_leI, nI_eq] at c15
        omega
    · intro k hk ih J hi
      refine s_iload_n (tb_ok aX7_basketsBehind_0 7 rfl) rfl ?_
      refine s_iload_n (tb_ok aX7_basketsBehind_0 8 rfl) rfl ?_
      refine s_icmp_ge (tgt := 35) (tb_ok aX7_basketsBehind_0 9 rfl) (by decide) (fun c15 => ?_) (fun c15 => ?_)
      · simp (disch := omega) only [nI_ltI, nI_leI, nI_eq] at c15
        omega
      · refine s_aload_n (tb_ok aX7_basketsBehind_0 10 rfl) rfl ?_
        refine s_getR (r := 19) (tb_ok aX7_basketsBehind_0 11 rfl) f_RX7_26 rfl rfl rfl ?_
        refine s_aload_n (tb_ok aX7_basketsBehind_0 12 rfl) rfl ?_
        refine s_getR (r := 64) (tb_ok aX7_basketsBehind_0 13 rfl) f_RX7_101 rfl rfl rfl ?_
        refine s_cV (as := [.ref 64]) (tb_ok aX7_basketsBehind_0 14 rfl) v_RX7_209 (E_Opass (orch19 q) (M := M) (by rw [hi 19 (by decide), thO_h]; rfl) hM5 (by decide) (m := m) (by rw [hi 1 (by decide), thO_n hM5 (by omega)]; exact hm) hm10 hri hq (hs.th hri hM5 hi)) (by decide) rfl rfl rfl rfl rfl (Nat.le_of_ble_eq_true rfl) (by decide) (fun r1 S1 I1 L1 R1 q1 => ?_)
        obtain ⟨rfl, rfl, hA1, rfl, rfl⟩ := q1
        refine s_iinc (v := nI (k + 1)) (ls' := [some (.ref 0), some (.int (nI n)), some (.int (nI (k + 1)))]) (tb_ok aX7_basketsBehind_0 15 rfl) rfl (nI_1 _) rfl rfl ?_
        refine s_goto (tgt := 13) (tb_ok aX7_basketsBehind_0 16 rfl) (by decide) ?_
        have e := thO_pass hM5 hi hA1 (F' := fun j => itP sem (I 2) (I 3) m (I 5 2) (cp5 (I (5 + 2 + j)) (I (19 + 2 + j))) (k + 1)) (fun j _ => rfl)
        rw [Int32.add_assoc, nI_1] at e
        exact ih _ e
  refine ev_of (by decide +kernel) rfl ?_
  show SW X _ _ _ 0 [some (.ref 0), some (.int (nI n)), none] [] S0 I L (R0 q) _
  refine s_aload_n (tb_ok aX7_basketsBehind_0 0 rfl) rfl ?_
  refine s_getR (r := 19) (tb_ok aX7_basketsBehind_0 1 rfl) f_RX7_26 rfl rfl rfl ?_
  refine s_aload_n (tb_ok aX7_basketsBehind_0 2 rfl) rfl ?_
  refine s_getR (r := 5) (tb_ok aX7_basketsBehind_0 3 rfl) f_RX7_19 rfl rfl rfl ?_
  refine s_cV (as := [.ref 5]) (tb_ok aX7_basketsBehind_0 4 rfl) v_RX7_302 (E_Obecome (orch19 q) (orch5 q) (by decide) hM hM5) (by decide) rfl rfl rfl rfl rfl (Nat.le_of_ble_eq_true rfl) (by decide) (fun r1 S1 I1 L1 R1 q1 => ?_)
  obtain ⟨rfl, rfl, rfl, rfl, rfl⟩ := q1
  refine s_iconst (v := nI 0) (tb_ok aX7_basketsBehind_0 5 rfl) (by decide) ?_
  refine s_istore_n (ls' := [some (.ref 0), some (.int (nI n)), some (.int (nI 0))]) (tb_ok aX7_basketsBehind_0 6 rfl) rfl rfl ?_
  refine loop 0 (Nat.zero_le _) _ ?_
  rw [show I 5 2 + nI 0 = I 5 2 from Int32.add_zero _]
  exact AgW.rf

theorem us_N (x s : Int32) (k : Nat) (hs : ((s.toUInt32 &&& Int32.toUInt32 31).toBitVec % 32).toNat = k) (hk : x.toBitVec.toNat / 2 ^ k < 2 ^ 32) : (x.toUInt32 >>> (s.toUInt32 &&& Int32.toUInt32 31)).toInt32 = nI (x.toBitVec.toNat / 2 ^ k) := by
  apply Int32.toBitVec_inj.mp
  apply BitVec.eq_of_toNat_eq
  rw [pk_ushr x s k hs, pk_tn hk]
theorem us9 (x : Int32) : (x.toUInt32 >>> ((nI 9).toUInt32 &&& Int32.toUInt32 31)).toInt32 = nI (x.toBitVec.toNat / 512) := us_N x (nI 9) 9 (by decide) (by have := x.toBitVec.isLt; omega)
theorem us17 (x : Int32) : (x.toUInt32 >>> ((nI 17).toUInt32 &&& Int32.toUInt32 31)).toInt32 = nI (x.toBitVec.toNat / 131072) := us_N x (nI 17) 17 (by decide) (by have := x.toBitVec.isLt; omega)
theorem z_lt (x : Int32) : x.toBitVec.toNat / 512 < 2 ^ 31 ∧ x.toBitVec.toNat / 131072 < 2 ^ 31 := by have := x.toBitVec.isLt; omega
def drZ (z : Int32) : Int32 := z * 1103515245 + 12345
def drS (sem : Nat → (Nat → Int32) → Int32) (fr fa : Nat → Int32) (m M : Nat) (day : Int32) (T : Nat → Nat → Int32) (seed : Int32) : Nat → Int32 × (Nat → Nat → Int32)
  | 0 => (seed, T)
  | k + 1 => (fun p : Int32 × (Nat → Nat → Int32) => (drZ p.1, fun j => pasP sem fr fa m (if j = (drZ p.1).toBitVec.toNat / 512 % M then heaP sem fr fa m (p.2 j) (nI ((drZ p.1).toBitVec.toNat / 131072 % 12)) (day + nI k) else p.2 j) (day + nI k))) (drS sem fr fa m M day T seed k)
def drwP (sem : Nat → (Nat → Int32) → Int32) (fr fa : Nat → Int32) (m M : Nat) (day : Int32) (T : Nat → Nat → Int32) (seed : Int32) : Int32 := if M = 0 then 0 else apS T M 5 - apS (drS sem fr fa m M day T seed 10).2 M 5
theorem drS_5 {T C : Nat → Nat → Int32} (hC : ∀ j, T5 (C j) (T j)) (sem : Nat → (Nat → Int32) → Int32) (fr fa : Nat → Int32) (m M : Nat) (day seed : Int32) : ∀ k, (drS sem fr fa m M day C seed k).1 = (drS sem fr fa m M day T seed k).1 ∧ ∀ j, T5 ((drS sem fr fa m M day C seed k).2 j) ((drS sem fr fa m M day T seed k).2 j) := by
  intro k
  induction k with
  | zero => exact ⟨rfl, hC⟩
  | succ k ih =>
    obtain ⟨h1, h2⟩ := ih
    refine ⟨?_, fun j => ?_⟩
    · show drZ _ = drZ _
      rw [h1]
    · show T5 (pasP sem fr fa m _ _) (pasP sem fr fa m _ _)
      rw [h1]
      refine T5.pas ?_ _ _ _ _ _
      by_cases e : j = (drZ (drS sem fr fa m M day T seed k).1).toBitVec.toNat / 512 % M
      · rw [if_pos e, if_pos e]; exact (h2 j).hea _ _ _ _ _ _
      · rw [if_neg e, if_neg e]; exact h2 j
theorem thO_hear {I J J' : FI} {M i : Nat} {day : Int32} {F : Nat → Nat → Int32} {f : Nat → Int32} (hM : M ≤ 5) (hi : i < M) (hA : AgW (thO I M day F) J) (hP : AgW (setO J (19 + 2 + i) f) J') : AgW (thO I M day (fun j => if j = i then f else F j)) J' := by
  refine AgW.tr (fun a ha => ?_) hP
  by_cases e : a = 19 + 2 + i
  · subst e
    rw [setO_o, thO_t hi, if_pos rfl]
  · rw [setO_n e, hA a ha]
    by_cases hr : 21 ≤ a ∧ a < 21 + M
    · obtain ⟨j, rfl⟩ : ∃ j, a = 19 + 2 + j := ⟨a - 21, by omega⟩
      rw [thO_t (by omega), thO_t (by omega), if_neg (by omega)]
    · unfold thO
      rw [stT_out (by omega), stT_out (by omega)]
set_option maxRecDepth 100000 in
set_option maxHeartbeats 4000000 in
theorem E_basketsDrawn {X : En} {I : FI} {L : FL} {q : Nat × Nat} {M : Nat} (hM : I 5 1 = nI M) (hM5 : M ≤ 5) {m : Nat} (hm : I 1 3 = nI m) (hm10 : m ≤ 10) {ri : Nat} (hri : ri < 6) (hq : q.1 = ruleN ri) {sem : Nat → (Nat → Int32) → Int32} (hs : okRule I (ruleN ri) sem) (seed : Int32) : Ev X 7 mX7_basketsDrawn (0, 0) [.ref 0, .int seed] S0 I L (R0 q) (AgVR (some (.int (drwP sem (I 2) (I 3) m M (I 5 2) (fun j => I (5 + 2 + j)) seed))) I L q) := by
  have loop : 0 < M → ∀ k, k ≤ 10 → ∀ (J : FI), ∀ (o4 : Option Value), (AgW (thO I M (I 5 2 + nI k) (drS sem (I 2) (I 3) m M (I 5 2) (fun j => cp5 (I (5 + 2 + j)) (I (19 + 2 + j))) seed k).2) J) → SW X 7 mX7_basketsDrawn (0, 0) 27 [some (.ref 0), some (.int seed), some (.int (drS sem (I 2) (I 3) m M (I 5 2) (fun j => cp5 (I (5 + 2 + j)) (I (19 + 2 + j))) seed k).1), some (.int (nI k)), o4] [] S0 J L (R0 q) (KQ X (AgVR (some (.int (drwP sem (I 2) (I 3) m M (I 5 2) (fun j => I (5 + 2 + j)) seed))) I L q)) := by
    intro hM0
    refine for_up (P := fun k => ∀ (J : FI), ∀ (o4 : Option Value), (AgW (thO I M (I 5 2 + nI k) (drS sem (I 2) (I 3) m M (I 5 2) (fun j => cp5 (I (5 + 2 + j)) (I (19 + 2 + j))) seed k).2) J) → SW X 7 mX7_basketsDrawn (0, 0) 27 [some (.ref 0), some (.int seed), some (.int (drS sem (I 2) (I 3) m M (I 5 2) (fun j => cp5 (I (5 + 2 + j)) (I (19 + 2 + j))) seed k).1), some (.int (nI k)), o4] [] S0 J L (R0 q) (KQ X (AgVR (some (.int (drwP sem (I 2) (I 3) m M (I 5 2) (fun j => I (5 + 2 + j)) seed))) I L q))) 10 ?_ ?_
    · intro J o4 hi
      refine s_iload_n (tb_ok aX7_basketsDrawn_0 15 rfl) rfl ?_
      refine s_bipush (v := nI 10) (tb_ok aX7_basketsDrawn_0 16 rfl) (by decide) ?_
      refine s_icmp_ge (tgt := 109) (tb_ok aX7_basketsDrawn_0 17 rfl) (by decide) (fun c30 => ?_) (fun c30 => ?_)
      · refine s_aload_n (tb_ok aX7_basketsDrawn_2 8 rfl) rfl ?_
        refine s_getR (r := 5) (tb_ok aX7_basketsDrawn_2 9 rfl) f_RX7_19 rfl rfl rfl ?_
        refine s_cVp (as := []) (tb_ok aX7_basketsDrawn_2 10 rfl) v_RX7_206 (E_Oapples (orch5 q) (M := M) (by rw [hi 5 (by decide), thO_n hM5 (by omega)]; exact hM) hM5) (by decide) rfl rfl rfl rfl rfl (Nat.le_of_ble_eq_true rfl) (by decide) ?_
        refine s_aload_n (tb_ok aX7_basketsDrawn_2 11 rfl) rfl ?_
        refine s_getR (r := 19) (tb_ok aX7_basketsDrawn_2 12 rfl) f_RX7_26 rfl rfl rfl ?_
        refine s_cVp (as := []) (tb_ok aX7_basketsDrawn_2 13 rfl) v_RX7_206 (E_Oapples (orch19 q) (M := M) (by rw [hi 19 (by decide), thO_h]; rfl) hM5) (by decide) rfl rfl rfl rfl rfl (Nat.le_of_ble_eq_true rfl) (by decide) ?_
        refine s_isub (tb_ok aX7_basketsDrawn_2 14 rfl) ?_
        refine s_iret (tb_ok aX7_basketsDrawn_2 15 rfl) rfl ?_
        refine ⟨?_, rfl, thO_v hM5 hi, rfl, rfl⟩
        have a1 := apS_J (J := J) (o := 5) (M := M) (F := (fun j => I (5 + 2 + j))) (fun j hj => by rw [hi _ (w5 j (by omega)).1, thO_n hM5 (by omega)]) 5
        have a2 := apS_J (J := J) (o := 19) (M := M) (F := (drS sem (I 2) (I 3) m M (I 5 2) (fun j => cp5 (I (5 + 2 + j)) (I (19 + 2 + j))) seed 10).2) (fun j hj => by rw [hi _ (w5 j (by omega)).2, thO_t hj]) 5
        have a3 : apS (drS sem (I 2) (I 3) m M (I 5 2) (fun j => cp5 (I (5 + 2 + j)) (I (19 + 2 + j))) seed 10).2 M 5 = apS (drS sem (I 2) (I 3) m M (I 5 2) (fun j => I (5 + 2 + j)) seed 10).2 M 5 := apS_congr (fun j _ => (drS_5 (fun j => T5.cp) sem (I 2) (I 3) m M (I 5 2) seed 10).2 j 3 (by decide)) 5
        rw [drwP, if_neg (by omega), a1, a2, a3]
      · simp (disch := omega) only [nI_ltI, nI_leI, nI_eq] at c30
        omega
    · intro k hk ih J o4 hi
      refine s_iload_n (tb_ok aX7_basketsDrawn_0 15 rfl) rfl ?_
      refine s_bipush (v := nI 10) (tb_ok aX7_basketsDrawn_0 16 rfl) (by decide) ?_
      refine s_icmp_ge (tgt := 109) (tb_ok aX7_basketsDrawn_0 17 rfl) (by decide) (fun c30 => ?_) (fun c30 => ?_)
      · simp (disch := omega) only [nI_ltI, nI_leI, nI_eq] at c30
        omega
      · refine s_iload_n (tb_ok aX7_basketsDrawn_0 18 rfl) rfl ?_
        refine s_ldcw (tb_ok aX7_basketsDrawn_0 19 rfl) k_RX7_345 ?_
        refine s_imul (tb_ok aX7_basketsDrawn_0 20 rfl) ?_
        refine s_sipush (v := 12345) (tb_ok aX7_basketsDrawn_0 21 rfl) (by decide) ?_
        refine s_iadd (tb_ok aX7_basketsDrawn_0 22 rfl) ?_
        refine s_name (fun x1 ex1 => ?_)
        refine s_istore_n (ls' := [some (.ref 0), some (.int seed), some (.int x1), some (.int (nI k)), o4]) (tb_ok aX7_basketsDrawn_0 23 rfl) rfl rfl ?_
        obtain ⟨i, hiE⟩ : ∃ i, i = x1.toBitVec.toNat / 512 % M := ⟨_, rfl⟩
        have him : i < M := by rw [hiE]; exact Nat.mod_lt _ (by omega)
        have e0 := hi 2 (by decide)
        have e1 := hi 3 (by decide)
        have e2 := hi (19 + 2 + i) (w5 i (by omega)).2
        rw [thO_n hM5 (by omega)] at e0 e1
        rw [thO_t him] at e2
        refine s_aload_n (tb_ok aX7_basketsDrawn_1 0 rfl) rfl ?_
        refine s_getR (r := 19) (tb_ok aX7_basketsDrawn_1 1 rfl) f_RX7_26 rfl rfl rfl ?_
        refine s_iload_n (tb_ok aX7_basketsDrawn_1 2 rfl) rfl ?_
        refine s_bipush (v := nI 9) (tb_ok aX7_basketsDrawn_1 3 rfl) (by decide) ?_
        refine s_iushr (tb_ok aX7_basketsDrawn_1 4 rfl) ?_
        refine s_topi (z := (nI (x1.toBitVec.toNat / 512))) (us9 x1) ?_
        refine s_aload_n (tb_ok aX7_basketsDrawn_1 5 rfl) rfl ?_
        refine s_getR (r := 19) (tb_ok aX7_basketsDrawn_1 6 rfl) f_RX7_26 rfl rfl rfl ?_
        refine s_getI (x := (nI M)) (tb_ok aX7_basketsDrawn_1 7 rfl) f_RX7_305 rfl rfl (by rw [hi 19 (by decide), thO_h]; rfl) ?_
        refine s_irem (tb_ok aX7_basketsDrawn_1 8 rfl) (nI_ne0 (by omega) (by omega)) ?_
        refine s_topi (z := (nI i)) (by have h := (z_lt x1).1; rw [pk_rem h (by omega) (by omega), hiE]) ?_
        refine s_cVp (as := [.int (nI i)]) (tb_ok aX7_basketsDrawn_1 9 rfl) v_RX7_115 (E_at (orch19 q) (M := M) (by rw [hi 19 (by decide), thO_h]; rfl) hM5 him) (by decide) rfl rfl rfl rfl rfl (Nat.le_of_ble_eq_true rfl) (by decide) ?_
        refine s_astore (ls' := [some (.ref 0), some (.int seed), some (.int x1), some (.int (nI k)), some (.ref (19 + 2 + i))]) (tb_ok aX7_basketsDrawn_1 10 rfl) rfl rfl ?_
        refine s_aload (tb_ok aX7_basketsDrawn_1 11 rfl) rfl ?_
        refine s_ifnull (tb_ok aX7_basketsDrawn_1 12 rfl) ?_
        refine s_aload_n (tb_ok aX7_basketsDrawn_1 13 rfl) rfl ?_
        refine s_getR (r := 64) (tb_ok aX7_basketsDrawn_1 14 rfl) f_RX7_101 rfl rfl rfl ?_
        refine s_aload (tb_ok aX7_basketsDrawn_1 15 rfl) rfl ?_
        refine s_iload_n (tb_ok aX7_basketsDrawn_1 16 rfl) rfl ?_
        refine s_bipush (v := nI 17) (tb_ok aX7_basketsDrawn_1 17 rfl) (by decide) ?_
        refine s_iushr (tb_ok aX7_basketsDrawn_1 18 rfl) ?_
        refine s_topi (z := (nI (x1.toBitVec.toNat / 131072))) (us17 x1) ?_
        refine s_bipush (v := nI 12) (tb_ok aX7_basketsDrawn_1 19 rfl) (by decide) ?_
        refine s_irem (tb_ok aX7_basketsDrawn_1 20 rfl) (by decide) ?_
        refine s_topi (z := (nI (x1.toBitVec.toNat / 131072 % 12))) (by have h := (z_lt x1).2; exact pk_rem h (by omega) (by omega)) ?_
        refine s_aload_n (tb_ok aX7_basketsDrawn_1 21 rfl) rfl ?_
        refine s_getR (r := 19) (tb_ok aX7_basketsDrawn_1 22 rfl) f_RX7_26 rfl rfl rfl ?_
        refine s_getI (x := (I 5 2 + nI k)) (tb_ok aX7_basketsDrawn_1 23 rfl) f_RX7_127 rfl rfl (by rw [hi 19 (by decide), thO_h]; rfl) ?_
        refine s_cV (as := [.ref (19 + 2 + i), .int (nI (x1.toBitVec.toNat / 131072 % 12)), .int (I 5 2 + nI k)]) (tb_ok aX7_basketsDrawn_2 0 rfl) v_RX7_203 (E_hear (m := m) (by rw [hi 1 (by decide), thO_n hM5 (by omega)]; exact hm) hm10 hri hq (hs.th hri hM5 hi) ((orch19 q).2.2.2.1 i (by omega)).2 _ _) (by decide) rfl rfl rfl rfl rfl (Nat.le_of_ble_eq_true rfl) (by decide) (fun r1 S1 I1 L1 R1 q1 => ?_)
        obtain ⟨rfl, rfl, hA1, rfl, rfl⟩ := q1
        have hi := thO_hear hM5 him hi hA1
        rw [e0, e1, e2] at hi
        refine s_aload_n (tb_ok aX7_basketsDrawn_2 1 rfl) rfl ?_
        refine s_getR (r := 19) (tb_ok aX7_basketsDrawn_2 2 rfl) f_RX7_26 rfl rfl rfl ?_
        refine s_aload_n (tb_ok aX7_basketsDrawn_2 3 rfl) rfl ?_
        refine s_getR (r := 64) (tb_ok aX7_basketsDrawn_2 4 rfl) f_RX7_101 rfl rfl rfl ?_
        refine s_cV (as := [.ref 64]) (tb_ok aX7_basketsDrawn_2 5 rfl) v_RX7_209 (E_Opass (orch19 q) (M := M) (by rw [hi 19 (by decide), thO_h]; rfl) hM5 (by decide) (m := m) (by rw [hi 1 (by decide), thO_n hM5 (by omega)]; exact hm) hm10 hri hq (hs.th hri hM5 hi)) (by decide) rfl rfl rfl rfl rfl (Nat.le_of_ble_eq_true rfl) (by decide) (fun r2 S2 I2 L2 R2 q2 => ?_)
        obtain ⟨rfl, rfl, hA2, rfl, rfl⟩ := q2
        refine s_iinc (v := nI (k + 1)) (ls' := [some (.ref 0), some (.int seed), some (.int x1), some (.int (nI (k + 1))), some (.ref (19 + 2 + i))]) (tb_ok aX7_basketsDrawn_2 6 rfl) rfl (nI_1 _) rfl rfl ?_
        refine s_goto (tgt := 27) (tb_ok aX7_basketsDrawn_2 7 rfl) (by decide) ?_
        have e := thO_pass hM5 hi hA2 (F' := (drS sem (I 2) (I 3) m M (I 5 2) (fun j => cp5 (I (5 + 2 + j)) (I (19 + 2 + j))) seed (k + 1)).2) (fun j hj => by
          rw [hiE, ex1]
          show pasP _ _ _ _ (if j = (drZ (drS sem (I 2) (I 3) m M (I 5 2) (fun j => cp5 (I (5 + 2 + j)) (I (19 + 2 + j))) seed k).1).toBitVec.toNat / 512 % M then _ else _) _ = pasP _ _ _ _ (if j = (drZ (drS sem (I 2) (I 3) m M (I 5 2) (fun j => cp5 (I (5 + 2 + j)) (I (19 + 2 + j))) seed k).1).toBitVec.toNat / 512 % M then _ else _) _
          by_cases hj2 : j = (drZ (drS sem (I 2) (I 3) m M (I 5 2) (fun j => cp5 (I (5 + 2 + j)) (I (19 + 2 + j))) seed k).1).toBitVec.toNat / 512 % M
          · rw [if_pos hj2, if_pos hj2]; subst hj2; rfl
          · rw [if_neg hj2, if_neg hj2])
        rw [Int32.add_assoc, nI_1] at e
        refine s_ls ?_ (ih _ (some (.ref (19 + 2 + i))) e)
        rw [ex1]; rfl
  refine ev_of (by decide +kernel) rfl ?_
  show SW X _ _ _ 0 [some (.ref 0), some (.int seed), none, none, none] [] S0 I L (R0 q) _
  refine s_aload_n (tb_ok aX7_basketsDrawn_0 0 rfl) rfl ?_
  refine s_getR (r := 19) (tb_ok aX7_basketsDrawn_0 1 rfl) f_RX7_26 rfl rfl rfl ?_
  refine s_aload_n (tb_ok aX7_basketsDrawn_0 2 rfl) rfl ?_
  refine s_getR (r := 5) (tb_ok aX7_basketsDrawn_0 3 rfl) f_RX7_19 rfl rfl rfl ?_
  refine s_cV (as := [.ref 5]) (tb_ok aX7_basketsDrawn_0 4 rfl) v_RX7_302 (E_Obecome (orch19 q) (orch5 q) (by decide) hM hM5) (by decide) rfl rfl rfl rfl rfl (Nat.le_of_ble_eq_true rfl) (by decide) (fun r1 S1 I1 L1 R1 q1 => ?_)
  obtain ⟨rfl, rfl, rfl, rfl, rfl⟩ := q1
  refine s_aload_n (tb_ok aX7_basketsDrawn_0 5 rfl) rfl ?_
  refine s_getR (r := 19) (tb_ok aX7_basketsDrawn_0 6 rfl) f_RX7_26 rfl rfl rfl ?_
  refine s_getI (x := (nI M)) (tb_ok aX7_basketsDrawn_0 7 rfl) f_RX7_305 rfl rfl (by rw [stT_out (by omega), setO_o]; rfl) ?_
  refine s_if_gt (tgt := 23) (tb_ok aX7_basketsDrawn_0 8 rfl) (by decide) (fun c18 => ?_) (fun c18 => ?_)
  · refine s_iload_n (tb_ok aX7_basketsDrawn_0 11 rfl) rfl ?_
    refine s_istore_n (ls' := [some (.ref 0), some (.int seed), some (.int seed), none, none]) (tb_ok aX7_basketsDrawn_0 12 rfl) rfl rfl ?_
    refine s_iconst (v := nI 0) (tb_ok aX7_basketsDrawn_0 13 rfl) (by decide) ?_
    refine s_istore_n (ls' := [some (.ref 0), some (.int seed), some (.int seed), some (.int (nI 0)), none]) (tb_ok aX7_basketsDrawn_0 14 rfl) rfl rfl ?_
    have hM0 : 0 < M := Nat.pos_of_ne_zero (fun h => by rw [h] at c18; exact absurd c18 (by decide))
    refine loop hM0 0 (Nat.zero_le _) _ _ ?_
    rw [show I 5 2 + nI 0 = I 5 2 from Int32.add_zero _]
    exact AgW.rf
  · refine s_iconst (v := 0) (tb_ok aX7_basketsDrawn_0 9 rfl) (by decide) ?_
    refine s_iret (tb_ok aX7_basketsDrawn_0 10 rfl) rfl ?_
    refine ⟨?_, rfl, thO_v hM5 (day := I 5 2) (F := (fun j => cp5 (I (5 + 2 + j)) (I (19 + 2 + j)))) AgW.rf, rfl, rfl⟩
    have hM0 : M = 0 := by
      rcases Nat.eq_zero_or_pos M with h | h
      · exact h
      · exact absurd (nI_lt (a := 0) h (by omega)) (by first | exact c18 | exact Int32.not_lt.mpr c18)
    rw [drwP, if_pos hM0]
