/-! orchards: houses, a day, a rule; the world is S0, R0 q -/
def isOrch (q : Nat × Nat) (o : Nat) : Prop := S0[o]? = some (1, 4) ∧ R0 q o 0 = some (o + 1) ∧ S0[o + 1]? = some (11, 5) ∧ (∀ k, k < 5 → R0 q (o + 1) k = some (o + 2 + k) ∧ S0[o + 2 + k]? = some (5, 5)) ∧ W0 o = false
theorem orch_k {q : Nat × Nat} {o : Nat} (h1 : S0[o]? = some (1, 4)) (h2 : R0 q o 0 = some (o + 1)) (h3 : S0[o + 1]? = some (11, 5)) (h4 : W0 o = false) (k0 : R0 q (o + 1) 0 = some (o + 2 + 0) ∧ S0[o + 2 + 0]? = some (5, 5)) (k1 : R0 q (o + 1) 1 = some (o + 2 + 1) ∧ S0[o + 2 + 1]? = some (5, 5)) (k2 : R0 q (o + 1) 2 = some (o + 2 + 2) ∧ S0[o + 2 + 2]? = some (5, 5)) (k3 : R0 q (o + 1) 3 = some (o + 2 + 3) ∧ S0[o + 2 + 3]? = some (5, 5)) (k4 : R0 q (o + 1) 4 = some (o + 2 + 4) ∧ S0[o + 2 + 4]? = some (5, 5)) : isOrch q o := by
  refine ⟨h1, h2, h3, fun k hk => ?_, h4⟩
  match k, hk with
  | 0, _ => exact k0
  | 1, _ => exact k1
  | 2, _ => exact k2
  | 3, _ => exact k3
  | 4, _ => exact k4
theorem orch5 (q : Nat × Nat) : isOrch q 5 := orch_k rfl rfl rfl rfl ⟨rfl, rfl⟩ ⟨rfl, rfl⟩ ⟨rfl, rfl⟩ ⟨rfl, rfl⟩ ⟨rfl, rfl⟩
theorem orch12 (q : Nat × Nat) : isOrch q 12 := orch_k rfl rfl rfl rfl ⟨rfl, rfl⟩ ⟨rfl, rfl⟩ ⟨rfl, rfl⟩ ⟨rfl, rfl⟩ ⟨rfl, rfl⟩
theorem orch19 (q : Nat × Nat) : isOrch q 19 := orch_k rfl rfl rfl rfl ⟨rfl, rfl⟩ ⟨rfl, rfl⟩ ⟨rfl, rfl⟩ ⟨rfl, rfl⟩ ⟨rfl, rfl⟩
/-- n trees of the orchard o become what F says -/
def stT (I : FI) (o n : Nat) (F : Nat → Nat → Int32) : FI := fun a => if o + 2 ≤ a ∧ a < o + 2 + n then F (a - (o + 2)) else I a
theorem stT_0 {I : FI} {o : Nat} {F : Nat → Nat → Int32} : stT I o 0 F = I := by funext a; unfold stT; rw [if_neg (by omega)]
theorem stT_at {I : FI} {o n k : Nat} {F : Nat → Nat → Int32} (h : k < n) : stT I o n F (o + 2 + k) = F k := by unfold stT; rw [if_pos (by omega)]; congr 1; omega
theorem stT_hi {I : FI} {o n k : Nat} {F : Nat → Nat → Int32} (h : n ≤ k) : stT I o n F (o + 2 + k) = I (o + 2 + k) := by unfold stT; rw [if_neg (by omega)]
theorem stT_out {I : FI} {o n a : Nat} {F : Nat → Nat → Int32} (h : a < o + 2 ∨ o + 2 + n ≤ a) : stT I o n F a = I a := by unfold stT; rw [if_neg (by omega)]
theorem stT_s {I : FI} {o n : Nat} {F : Nat → Nat → Int32} : setO (stT I o n F) (o + 2 + n) (F n) = stT I o (n + 1) F := by
  funext a
  unfold setO stT
  by_cases h : a = o + 2 + n
  · subst h
    rw [if_pos rfl, if_pos (by omega)]
    congr 1; omega
  · rw [if_neg h]
    by_cases h2 : o + 2 ≤ a ∧ a < o + 2 + n
    · rw [if_pos h2, if_pos (by omega)]
    · rw [if_neg h2, if_neg (by omega)]
theorem stT_set {I : FI} {o n : Nat} {F : Nat → Nat → Int32} {f : Nat → Int32} : setO (stT I o n F) o f = stT (setO I o f) o n F := by
  funext a
  unfold setO stT
  by_cases h : a = o
  · subst h; rw [if_pos rfl, if_neg (by omega)]; exact (if_pos rfl).symm
  · rw [if_neg h]
    by_cases h2 : o + 2 ≤ a ∧ a < o + 2 + n
    · rw [if_pos h2, if_pos h2]
    · rw [if_neg h2, if_neg h2]; exact (if_neg h).symm
theorem min_lt {k M : Nat} (h : k < M) : min (k + 1) M = min k M + 1 ∧ min k M = k := by omega
theorem min_ge {k M : Nat} (h : M ≤ k) : min (k + 1) M = min k M ∧ min k M = M := by omega
/-- apples of the first k -/
def apS (T : Nat → Nat → Int32) (M : Nat) : Nat → Int32
  | 0 => 0
  | k + 1 => if k < M then apS T M k + T k 3 else apS T M k

set_option maxRecDepth 100000 in
set_option maxHeartbeats 4000000 in
theorem E_at {X : En} {I : FI} {L : FL} {q : Nat × Nat} {o : Nat} (hO : isOrch q o) {M : Nat} (hM : I o 1 = nI M) (hM5 : M ≤ 5) {k : Nat} (hk : k < M) : Ev X 0 mX1_at (0, 0) [.ref o, .int (nI k)] S0 I L (R0 q) (PureR (some (.ref (o + 2 + k))) S0 I L (R0 q)) := by
  obtain ⟨h1, h2, h3, h4, h5⟩ := id hO
  refine ev_of (by decide +kernel) rfl ?_
  show SW X _ _ _ 0 [some (.ref o), some (.int (nI k))] [] S0 I L (R0 q) _
  refine s_iload_n (tb_ok aX1_at_0 0 rfl) rfl ?_
  refine s_if_lt (tgt := 26) (tb_ok aX1_at_0 1 rfl) (by decide) (fun c1 => ?_) (fun c1 => ?_)
  · exact absurd c1 (nI_pos (by omega))
  · refine s_iload_n (tb_ok aX1_at_0 2 rfl) rfl ?_
    refine s_aload_n (tb_ok aX1_at_0 3 rfl) rfl ?_
    refine s_getI (x := (nI M)) (tb_ok aX1_at_0 4 rfl) f_RX1_17 h1 rfl hM ?_
    refine s_icmp_ge (tgt := 26) (tb_ok aX1_at_0 5 rfl) (by decide) (fun c9 => ?_) (fun c9 => ?_)
    · simp (disch := omega) only [nI_ltI, nI_leI, nI_eq] at c9
      omega
    · refine s_iload_n (tb_ok aX1_at_0 6 rfl) rfl ?_
      refine s_iconst (v := nI 5) (tb_ok aX1_at_0 7 rfl) (by decide) ?_
      refine s_icmp_ge (tgt := 26) (tb_ok aX1_at_0 8 rfl) (by decide) (fun c14 => ?_) (fun c14 => ?_)
      · simp (disch := omega) only [nI_ltI, nI_leI, nI_eq] at c14
        omega
      · refine s_aload_n (tb_ok aX1_at_0 9 rfl) rfl ?_
        refine s_getR (r := (o + 1)) (tb_ok aX1_at_0 10 rfl) f_RX1_11 h1 rfl h2 ?_
        refine s_iload_n (tb_ok aX1_at_0 11 rfl) rfl ?_
        refine s_aaldN (r := (o + 2 + k)) (a := 0) (n := 5) (tb_ok aX1_at_0 12 rfl) (by decide) h3 (by omega) (by decide) (h4 k (by omega)).1 ?_
        refine s_goto (tgt := 27) (tb_ok aX1_at_0 13 rfl) (by decide) ?_
        refine s_aret (r := some (o + 2 + k)) (tb_ok aX1_at_0 15 rfl) rfl ?_
        exact pureR

set_option maxRecDepth 100000 in
set_option maxHeartbeats 4000000 in
theorem E_atN {X : En} {I : FI} {L : FL} {q : Nat × Nat} {o : Nat} (hO : isOrch q o) {M : Nat} (hM : I o 1 = nI M) (hM5 : M ≤ 5) {x : Int32} (hx : x < 0 ∨ nI M ≤ x) : Ev X 0 mX1_at (0, 0) [.ref o, .int x] S0 I L (R0 q) (PureR (some .null) S0 I L (R0 q)) := by
  obtain ⟨h1, h2, h3, h4, h5⟩ := id hO
  refine ev_of (by decide +kernel) rfl ?_
  show SW X _ _ _ 0 [some (.ref o), some (.int x)] [] S0 I L (R0 q) _
  refine s_iload_n (tb_ok aX1_at_0 0 rfl) rfl ?_
  refine s_if_lt (tgt := 26) (tb_ok aX1_at_0 1 rfl) (by decide) (fun c1 => ?_) (fun c1 => ?_)
  · refine s_null (tb_ok aX1_at_0 14 rfl) ?_
    refine s_aret (r := none) (tb_ok aX1_at_0 15 rfl) rfl ?_
    exact pureR
  · refine s_iload_n (tb_ok aX1_at_0 2 rfl) rfl ?_
    refine s_aload_n (tb_ok aX1_at_0 3 rfl) rfl ?_
    refine s_getI (x := (nI M)) (tb_ok aX1_at_0 4 rfl) f_RX1_17 h1 rfl hM ?_
    refine s_icmp_ge (tgt := 26) (tb_ok aX1_at_0 5 rfl) (by decide) (fun c9 => ?_) (fun c9 => ?_)
    · refine s_null (tb_ok aX1_at_0 14 rfl) ?_
      refine s_aret (r := none) (tb_ok aX1_at_0 15 rfl) rfl ?_
      exact pureR
    · refine s_iload_n (tb_ok aX1_at_0 6 rfl) rfl ?_
      refine s_iconst (v := 5) (tb_ok aX1_at_0 7 rfl) (by decide) ?_
      refine s_icmp_ge (tgt := 26) (tb_ok aX1_at_0 8 rfl) (by decide) (fun c14 => ?_) (fun c14 => ?_)
      · exact absurd hx (by simp only [Int32.lt_iff_toInt_lt, Int32.le_iff_toInt_le] at *; omega)
      · exact absurd hx (by simp only [Int32.lt_iff_toInt_lt, Int32.le_iff_toInt_le] at *; omega)

set_option maxRecDepth 100000 in
set_option maxHeartbeats 4000000 in
theorem E_Oadd {X : En} {I : FI} {L : FL} {q : Nat × Nat} {o : Nat} (hO : isOrch q o) {M : Nat} (hM : I o 1 = nI M) (hM5 : M < 5) (kd nu : Int32) : Ev X 1 mX1_add (0, 0) [.ref o, .int kd, .int nu] S0 I L (R0 q) (PureR (some (.int (nI M))) S0 (setO (up2 I o 1 (nI (M + 1))) (o + 2 + M) (cp5 (mkT kd nu 0 50 0) ((up2 I o 1 (nI (M + 1))) (o + 2 + M)))) L (R0 q)) := by
  obtain ⟨h1, h2, h3, h4, h5⟩ := id hO
  refine ev_of (by decide +kernel) rfl ?_
  show SW X _ _ _ 0 [some (.ref o), some (.int kd), some (.int nu), none] [] S0 I L (R0 q) _
  refine s_aload_n (tb_ok aX1_add_0 0 rfl) rfl ?_
  refine s_getI (x := (nI M)) (tb_ok aX1_add_0 1 rfl) f_RX1_17 h1 rfl hM ?_
  refine s_if_lt (tgt := 15) (tb_ok aX1_add_0 2 rfl) (by decide) (fun c4 => ?_) (fun c4 => ?_)
  · exact absurd c4 (nI_pos (by omega))
  · refine s_aload_n (tb_ok aX1_add_0 3 rfl) rfl ?_
    refine s_getI (x := (nI M)) (tb_ok aX1_add_0 4 rfl) f_RX1_17 h1 rfl hM ?_
    refine s_iconst (v := nI 5) (tb_ok aX1_add_0 5 rfl) (by decide) ?_
    refine s_icmp_lt (tgt := 18) (tb_ok aX1_add_0 6 rfl) (by decide) (fun c12 => ?_) (fun c12 => ?_)
    · refine s_aload_n (tb_ok aX1_add_0 9 rfl) rfl ?_
      refine s_dup (tb_ok aX1_add_0 10 rfl) rfl ?_
      refine s_getI (x := (nI M)) (tb_ok aX1_add_0 11 rfl) f_RX1_17 h1 rfl hM ?_
      refine s_iconst (v := 1) (tb_ok aX1_add_0 12 rfl) (by decide) ?_
      refine s_iadd (tb_ok aX1_add_0 13 rfl) ?_
      refine s_topi (nI_1 M) ?_
      refine s_putI (tb_ok aX1_add_0 14 rfl) f_RX1_17 h1 rfl ?_
      refine s_aload_n (tb_ok aX1_add_0 15 rfl) rfl ?_
      refine s_aload_n (tb_ok aX1_add_0 16 rfl) rfl ?_
      refine s_getI (x := (nI (M + 1))) (tb_ok aX1_add_0 17 rfl) f_RX1_17 h1 rfl (by simp [up2]) ?_
      refine s_iconst (v := 1) (tb_ok aX1_add_0 18 rfl) (by decide) ?_
      refine s_isub (tb_ok aX1_add_0 19 rfl) ?_
      refine s_topi (z := (nI M)) (nI_pred M) ?_
      refine s_cVp (as := [.int (nI M)]) (tb_ok aX1_add_0 20 rfl) v_RX1_28 (E_at hO (M := M + 1) (by simp [up2]) hM5 (Nat.lt_succ_self M)) (by decide) h1 rfl rfl rfl rfl (Nat.le_of_ble_eq_true rfl) (by decide) ?_
      refine s_astore_n (ls' := [some (.ref o), some (.int kd), some (.int nu), some (.ref (o + 2 + M))]) (tb_ok aX1_add_0 21 rfl) rfl rfl ?_
      refine s_aload_n (tb_ok aX1_add_0 22 rfl) rfl ?_
      refine s_ifnull (tb_ok aX1_add_0 23 rfl) ?_
      refine s_aload_n (tb_ok aX1_add_1 0 rfl) rfl ?_
      refine s_iload_n (tb_ok aX1_add_1 1 rfl) rfl ?_
      refine s_iload_n (tb_ok aX1_add_1 2 rfl) rfl ?_
      refine s_cV (as := [.int kd, .int nu]) (tb_ok aX1_add_1 3 rfl) v_RX1_32 (E_Tbegin (h4 M hM5).2 kd nu) (by decide) (h4 M hM5).2 rfl rfl rfl rfl (Nat.le_of_ble_eq_true rfl) (by decide) (fun r1 S1 I1 L1 R1 q1 => ?_)
      obtain ⟨rfl, rfl, rfl, rfl, rfl⟩ := q1
      refine s_aload_n (tb_ok aX1_add_1 4 rfl) rfl ?_
      refine s_getI (x := (nI (M + 1))) (tb_ok aX1_add_1 5 rfl) f_RX1_17 h1 rfl (by simp [up2, setO, show o ≠ o + 2 + M by omega]) ?_
      refine s_iconst (v := 1) (tb_ok aX1_add_1 6 rfl) (by decide) ?_
      refine s_isub (tb_ok aX1_add_1 7 rfl) ?_
      refine s_topi (z := (nI M)) (nI_pred M) ?_
      refine s_iret (tb_ok aX1_add_1 8 rfl) rfl ?_
      exact pureR
    · simp (disch := omega) only [nI_ltI, nI_leI, nI_eq] at c12
      omega

set_option maxRecDepth 100000 in
set_option maxHeartbeats 4000000 in
theorem E_OaddF {X : En} {I : FI} {L : FL} {q : Nat × Nat} {o : Nat} (hO : isOrch q o) (hM : I o 1 = nI 5) (kd nu : Int32) : Ev X 1 mX1_add (0, 0) [.ref o, .int kd, .int nu] S0 I L (R0 q) (PureR (some (.int (-4))) S0 I L (R0 q)) := by
  obtain ⟨h1, h2, h3, h4, h5⟩ := id hO
  refine ev_of (by decide +kernel) rfl ?_
  show SW X _ _ _ 0 [some (.ref o), some (.int kd), some (.int nu), none] [] S0 I L (R0 q) _
  refine s_aload_n (tb_ok aX1_add_0 0 rfl) rfl ?_
  refine s_getI (x := (nI 5)) (tb_ok aX1_add_0 1 rfl) f_RX1_17 h1 rfl hM ?_
  refine s_if_lt (tgt := 15) (tb_ok aX1_add_0 2 rfl) (by decide) (fun c4 => ?_) (fun c4 => ?_)
  · exact absurd c4 (by decide)
  · refine s_aload_n (tb_ok aX1_add_0 3 rfl) rfl ?_
    refine s_getI (x := (nI 5)) (tb_ok aX1_add_0 4 rfl) f_RX1_17 h1 rfl hM ?_
    refine s_iconst (v := nI 5) (tb_ok aX1_add_0 5 rfl) (by decide) ?_
    refine s_icmp_lt (tgt := 18) (tb_ok aX1_add_0 6 rfl) (by decide) (fun c12 => ?_) (fun c12 => ?_)
    · simp (disch := omega) only [nI_ltI, nI_leI, nI_eq] at c12
      omega
    · refine s_bipush (v := -4) (tb_ok aX1_add_0 7 rfl) (by decide) ?_
      refine s_iret (tb_ok aX1_add_0 8 rfl) rfl ?_
      exact pureR

set_option maxRecDepth 100000 in
set_option maxHeartbeats 4000000 in
theorem E_Oapples {X : En} {I : FI} {L : FL} {q : Nat × Nat} {o : Nat} (hO : isOrch q o) {M : Nat} (hM : I o 1 = nI M) (hM5 : M ≤ 5) : Ev X 1 mX1_apples (0, 0) [.ref o] S0 I L (R0 q) (PureR (some (.int (apS (fun j => I (o + 2 + j)) M 5))) S0 I L (R0 q)) := by
  obtain ⟨h1, h2, h3, h4, h5⟩ := id hO
  have loop : ∀ k, k ≤ 5 → ∀ (o3 : Option Value), SW X 1 mX1_apples (0, 0) 4 [some (.ref o), some (.int (apS (fun j => I (o + 2 + j)) M k)), some (.int (nI k)), o3] [] S0 I L (R0 q) (KQ X (PureR (some (.int (apS (fun j => I (o + 2 + j)) M 5))) S0 I L (R0 q))) := by
    refine for_up (P := fun k => ∀ (o3 : Option Value), SW X 1 mX1_apples (0, 0) 4 [some (.ref o), some (.int (apS (fun j => I (o + 2 + j)) M k)), some (.int (nI k)), o3] [] S0 I L (R0 q) (KQ X (PureR (some (.int (apS (fun j => I (o + 2 + j)) M 5))) S0 I L (R0 q)))) 5 ?_ ?_
    · intro o3 
      refine s_iload_n (tb_ok aX1_apples_0 4 rfl) rfl ?_
      refine s_iconst (v := nI 5) (tb_ok aX1_apples_0 5 rfl) (by decide) ?_
      refine s_icmp_ge (tgt := 36) (tb_ok aX1_apples_0 6 rfl) (by decide) (fun c6 => ?_) (fun c6 => ?_)
      · refine s_iload_n (tb_ok aX1_apples_0 22 rfl) rfl ?_
        refine s_iret (tb_ok aX1_apples_0 23 rfl) rfl ?_
        exact pureR
      · simp (disch := omega) only [nI_ltI, nI_leI, nI_eq] at c6
        omega
    · intro k hk ih o3 
      rcases Nat.lt_or_ge k M with hkM | hkM
      · refine s_iload_n (tb_ok aX1_apples_0 4 rfl) rfl ?_
        refine s_iconst (v := nI 5) (tb_ok aX1_apples_0 5 rfl) (by decide) ?_
        refine s_icmp_ge (tgt := 36) (tb_ok aX1_apples_0 6 rfl) (by decide) (fun c6 => ?_) (fun c6 => ?_)
        · simp (disch := omega) only [nI_ltI, nI_leI, nI_eq] at c6
          omega
        · refine s_aload_n (tb_ok aX1_apples_0 7 rfl) rfl ?_
          refine s_iload_n (tb_ok aX1_apples_0 8 rfl) rfl ?_
          refine s_cVp (as := [.int (nI k)]) (tb_ok aX1_apples_0 9 rfl) v_RX1_28 (E_at hO hM hM5 hkM) (by decide) h1 rfl rfl rfl rfl (Nat.le_of_ble_eq_true rfl) (by decide) ?_
          refine s_astore_n (ls' := [some (.ref o), some (.int (apS (fun j => I (o + 2 + j)) M k)), some (.int (nI k)), some (.ref (o + 2 + k))]) (tb_ok aX1_apples_0 10 rfl) rfl rfl ?_
          refine s_iload_n (tb_ok aX1_apples_0 11 rfl) rfl ?_
          refine s_aload_n (tb_ok aX1_apples_0 12 rfl) rfl ?_
          refine s_ifnull (tb_ok aX1_apples_0 13 rfl) ?_
          refine s_aload_n (tb_ok aX1_apples_0 14 rfl) rfl ?_
          refine s_getI (tb_ok aX1_apples_0 15 rfl) f_RX1_40 (h4 k hk).2 rfl rfl ?_
          refine s_goto (tgt := 28) (tb_ok aX1_apples_0 16 rfl) (by decide) ?_
          refine s_iadd (tb_ok aX1_apples_0 18 rfl) ?_
          refine s_name (fun x1 ex1 => ?_)
          refine s_istore_n (ls' := [some (.ref o), some (.int x1), some (.int (nI k)), some (.ref (o + 2 + k))]) (tb_ok aX1_apples_0 19 rfl) rfl rfl ?_
          refine s_iinc (v := nI (k + 1)) (ls' := [some (.ref o), some (.int x1), some (.int (nI (k + 1))), some (.ref (o + 2 + k))]) (tb_ok aX1_apples_0 20 rfl) rfl (nI_1 _) rfl rfl ?_
          refine s_goto (tgt := 4) (tb_ok aX1_apples_0 21 rfl) (by decide) ?_
          refine s_ls ?_ (ih (some (.ref (o + 2 + k))))
          rw [apS, if_pos hkM, ex1]
      · refine s_iload_n (tb_ok aX1_apples_0 4 rfl) rfl ?_
        refine s_iconst (v := nI 5) (tb_ok aX1_apples_0 5 rfl) (by decide) ?_
        refine s_icmp_ge (tgt := 36) (tb_ok aX1_apples_0 6 rfl) (by decide) (fun c6 => ?_) (fun c6 => ?_)
        · simp (disch := omega) only [nI_ltI, nI_leI, nI_eq] at c6
          omega
        · refine s_aload_n (tb_ok aX1_apples_0 7 rfl) rfl ?_
          refine s_iload_n (tb_ok aX1_apples_0 8 rfl) rfl ?_
          refine s_cVp (as := [.int (nI k)]) (tb_ok aX1_apples_0 9 rfl) v_RX1_28 (E_atN hO hM hM5 (Or.inr (nI_le hkM (by omega)))) (by decide) h1 rfl rfl rfl rfl (Nat.le_of_ble_eq_true rfl) (by decide) ?_
          refine s_astoreN_n (ls' := [some (.ref o), some (.int (apS (fun j => I (o + 2 + j)) M k)), some (.int (nI k)), some (.null)]) (tb_ok aX1_apples_0 10 rfl) rfl rfl ?_
          refine s_iload_n (tb_ok aX1_apples_0 11 rfl) rfl ?_
          refine s_aloadq_n (r := none) (tb_ok aX1_apples_0 12 rfl) rfl ?_
          refine s_ifnullN (tgt := 27) (tb_ok aX1_apples_0 13 rfl) (by decide) ?_
          refine s_iconst (v := 0) (tb_ok aX1_apples_0 17 rfl) (by decide) ?_
          refine s_iadd (tb_ok aX1_apples_0 18 rfl) ?_
          refine s_name (fun x1 ex1 => ?_)
          refine s_istore_n (ls' := [some (.ref o), some (.int x1), some (.int (nI k)), some (.null)]) (tb_ok aX1_apples_0 19 rfl) rfl rfl ?_
          refine s_iinc (v := nI (k + 1)) (ls' := [some (.ref o), some (.int x1), some (.int (nI (k + 1))), some (.null)]) (tb_ok aX1_apples_0 20 rfl) rfl (nI_1 _) rfl rfl ?_
          refine s_goto (tgt := 4) (tb_ok aX1_apples_0 21 rfl) (by decide) ?_
          refine s_ls ?_ (ih (some (.null)))
          rw [apS, if_neg (by omega), ex1, Int32.add_zero]
  refine ev_of (by decide +kernel) rfl ?_
  show SW X _ _ _ 0 [some (.ref o), none, none, none] [] S0 I L (R0 q) _
  refine s_iconst (v := 0) (tb_ok aX1_apples_0 0 rfl) (by decide) ?_
  refine s_istore_n (ls' := [some (.ref o), some (.int (0)), none, none]) (tb_ok aX1_apples_0 1 rfl) rfl rfl ?_
  refine s_iconst (v := nI 0) (tb_ok aX1_apples_0 2 rfl) (by decide) ?_
  refine s_istore_n (ls' := [some (.ref o), some (.int (0)), some (.int (nI 0)), none]) (tb_ok aX1_apples_0 3 rfl) rfl rfl ?_
  exact loop 0 (Nat.zero_le _) _

theorem bec_p {I : FI} {o p n : Nat} {h : Nat → Int32} {F : Nat → Nat → Int32} (hne : o + 7 ≤ p ∨ p + 7 ≤ o) (hn : n ≤ 5) {a : Nat} (ha : p ≤ a ∧ a < p + 7) : stT (setO I o h) o n F a = I a := by
  rw [stT_out (by omega), setO_n (by omega)]
set_option maxRecDepth 100000 in
set_option maxHeartbeats 4000000 in
theorem E_Obecome {X : En} {I : FI} {L : FL} {q : Nat × Nat} {o p : Nat} (hO : isOrch q o) (hP : isOrch q p) (hne : o + 7 ≤ p ∨ p + 7 ≤ o) {M : Nat} (hM : I p 1 = nI M) (hM5 : M ≤ 5) : Ev X 1 mX1_become (0, 0) [.ref o, .ref p] S0 I L (R0 q) (PureR none S0 (stT (setO I o (upd (upd (upd (I o) 1 (nI M)) 2 (I p 2)) 3 (I p 3))) o M (fun k => cp5 (I (p + 2 + k)) (I (o + 2 + k)))) L (R0 q)) := by
  obtain ⟨h1, h2, h3, h4, h5⟩ := id hO
  obtain ⟨g1, g2, g3, g4, g5⟩ := id hP
  have loop : ∀ k, k ≤ 5 → ∀ (o3 : Option Value), ∀ (o4 : Option Value), SW X 1 mX1_become (0, 0) 26 [some (.ref o), some (.ref p), some (.int (nI k)), o3, o4] [] S0 (stT (setO I o (upd (upd (upd (I o) 1 (nI M)) 2 (I p 2)) 3 (I p 3))) o (min k M) (fun k => cp5 (I (p + 2 + k)) (I (o + 2 + k)))) L (R0 q) (KQ X (PureR none S0 (stT (setO I o (upd (upd (upd (I o) 1 (nI M)) 2 (I p 2)) 3 (I p 3))) o M (fun k => cp5 (I (p + 2 + k)) (I (o + 2 + k)))) L (R0 q))) := by
    refine for_up (P := fun k => ∀ (o3 : Option Value), ∀ (o4 : Option Value), SW X 1 mX1_become (0, 0) 26 [some (.ref o), some (.ref p), some (.int (nI k)), o3, o4] [] S0 (stT (setO I o (upd (upd (upd (I o) 1 (nI M)) 2 (I p 2)) 3 (I p 3))) o (min k M) (fun k => cp5 (I (p + 2 + k)) (I (o + 2 + k)))) L (R0 q) (KQ X (PureR none S0 (stT (setO I o (upd (upd (upd (I o) 1 (nI M)) 2 (I p 2)) 3 (I p 3))) o M (fun k => cp5 (I (p + 2 + k)) (I (o + 2 + k)))) L (R0 q)))) 5 ?_ ?_
    · intro o3 o4 
      refine s_iload_n (tb_ok aX1_become_0 14 rfl) rfl ?_
      refine s_iconst (v := nI 5) (tb_ok aX1_become_0 15 rfl) (by decide) ?_
      refine s_icmp_ge (tgt := 65) (tb_ok aX1_become_0 16 rfl) (by decide) (fun c28 => ?_) (fun c28 => ?_)
      · refine s_vret (tb_ok aX1_become_1 10 rfl) rfl ?_
        rw [show min 5 M = M by omega]
        exact pureR
      · simp (disch := omega) only [nI_ltI, nI_leI, nI_eq] at c28
        omega
    · intro k hk ih o3 o4 
      rcases Nat.lt_or_ge k M with hkM | hkM
      · refine s_iload_n (tb_ok aX1_become_0 14 rfl) rfl ?_
        refine s_iconst (v := nI 5) (tb_ok aX1_become_0 15 rfl) (by decide) ?_
        refine s_icmp_ge (tgt := 65) (tb_ok aX1_become_0 16 rfl) (by decide) (fun c28 => ?_) (fun c28 => ?_)
        · simp (disch := omega) only [nI_ltI, nI_leI, nI_eq] at c28
          omega
        · refine s_aload_n (tb_ok aX1_become_0 17 rfl) rfl ?_
          refine s_iload_n (tb_ok aX1_become_0 18 rfl) rfl ?_
          refine s_cVp (as := [.int (nI k)]) (tb_ok aX1_become_0 19 rfl) v_RX1_28 (E_at hO (M := M) (by rw [stT_out (by omega), setO_o]; rfl) hM5 hkM) (by decide) h1 rfl rfl rfl rfl (Nat.le_of_ble_eq_true rfl) (by decide) ?_
          refine s_astore_n (ls' := [some (.ref o), some (.ref p), some (.int (nI k)), some (.ref (o + 2 + k)), o4]) (tb_ok aX1_become_0 20 rfl) rfl rfl ?_
          refine s_aload_n (tb_ok aX1_become_0 21 rfl) rfl ?_
          refine s_iload_n (tb_ok aX1_become_0 22 rfl) rfl ?_
          refine s_cVp (as := [.int (nI k)]) (tb_ok aX1_become_0 23 rfl) v_RX1_28 (E_at hP (M := M) (by rw [bec_p hne (by omega) (by omega)]; exact hM) hM5 hkM) (by decide) g1 rfl rfl rfl rfl (Nat.le_of_ble_eq_true rfl) (by decide) ?_
          refine s_astore (ls' := [some (.ref o), some (.ref p), some (.int (nI k)), some (.ref (o + 2 + k)), some (.ref (p + 2 + k))]) (tb_ok aX1_become_1 0 rfl) rfl rfl ?_
          refine s_aload_n (tb_ok aX1_become_1 1 rfl) rfl ?_
          refine s_ifnull (tb_ok aX1_become_1 2 rfl) ?_
          refine s_aload (tb_ok aX1_become_1 3 rfl) rfl ?_
          refine s_ifnull (tb_ok aX1_become_1 4 rfl) ?_
          refine s_aload_n (tb_ok aX1_become_1 5 rfl) rfl ?_
          refine s_aload (tb_ok aX1_become_1 6 rfl) rfl ?_
          refine s_cV (as := [.ref (p + 2 + k)]) (tb_ok aX1_become_1 7 rfl) v_RX1_36 (E_Tbecome (h4 k hk).2 (g4 k hk).2) (by decide) (h4 k hk).2 rfl rfl rfl rfl (Nat.le_of_ble_eq_true rfl) (by decide) (fun r1 S1 I1 L1 R1 q1 => ?_)
          obtain ⟨rfl, rfl, rfl, rfl, rfl⟩ := q1
          refine s_iinc (v := nI (k + 1)) (ls' := [some (.ref o), some (.ref p), some (.int (nI (k + 1))), some (.ref (o + 2 + k)), some (.ref (p + 2 + k))]) (tb_ok aX1_become_1 8 rfl) rfl (nI_1 _) rfl rfl ?_
          refine s_goto (tgt := 26) (tb_ok aX1_become_1 9 rfl) (by decide) ?_
          have e : setO (stT (setO I o (upd (upd (upd (I o) 1 (nI M)) 2 (I p 2)) 3 (I p 3))) o (min k M) (fun k => cp5 (I (p + 2 + k)) (I (o + 2 + k)))) (o + 2 + k) (cp5 ((stT (setO I o (upd (upd (upd (I o) 1 (nI M)) 2 (I p 2)) 3 (I p 3))) o (min k M) (fun k => cp5 (I (p + 2 + k)) (I (o + 2 + k)))) (p + 2 + k)) ((stT (setO I o (upd (upd (upd (I o) 1 (nI M)) 2 (I p 2)) 3 (I p 3))) o (min k M) (fun k => cp5 (I (p + 2 + k)) (I (o + 2 + k)))) (o + 2 + k))) = (stT (setO I o (upd (upd (upd (I o) 1 (nI M)) 2 (I p 2)) 3 (I p 3))) o (min (k + 1) M) (fun k => cp5 (I (p + 2 + k)) (I (o + 2 + k)))) := by
            rw [(min_lt hkM).1, (min_lt hkM).2, bec_p hne (by omega) (by omega), stT_hi (Nat.le_refl k), setO_n (show o + 2 + k ≠ o by omega)]
            exact stT_s
          rw [e]
          exact ih _ _
      · refine s_iload_n (tb_ok aX1_become_0 14 rfl) rfl ?_
        refine s_iconst (v := nI 5) (tb_ok aX1_become_0 15 rfl) (by decide) ?_
        refine s_icmp_ge (tgt := 65) (tb_ok aX1_become_0 16 rfl) (by decide) (fun c28 => ?_) (fun c28 => ?_)
        · simp (disch := omega) only [nI_ltI, nI_leI, nI_eq] at c28
          omega
        · refine s_aload_n (tb_ok aX1_become_0 17 rfl) rfl ?_
          refine s_iload_n (tb_ok aX1_become_0 18 rfl) rfl ?_
          refine s_cVp (as := [.int (nI k)]) (tb_ok aX1_become_0 19 rfl) v_RX1_28 (E_atN hO (M := M) (by rw [stT_out (by omega), setO_o]; rfl) hM5 (Or.inr (nI_le hkM (by omega)))) (by decide) h1 rfl rfl rfl rfl (Nat.le_of_ble_eq_true rfl) (by decide) ?_
          refine s_astoreN_n (ls' := [some (.ref o), some (.ref p), some (.int (nI k)), some (.null), o4]) (tb_ok aX1_become_0 20 rfl) rfl rfl ?_
          refine s_aload_n (tb_ok aX1_become_0 21 rfl) rfl ?_
          refine s_iload_n (tb_ok aX1_become_0 22 rfl) rfl ?_
          refine s_cVp (as := [.int (nI k)]) (tb_ok aX1_become_0 23 rfl) v_RX1_28 (E_atN hP (M := M) (by rw [bec_p hne (by omega) (by omega)]; exact hM) hM5 (Or.inr (nI_le hkM (by omega)))) (by decide) g1 rfl rfl rfl rfl (Nat.le_of_ble_eq_true rfl) (by decide) ?_
          refine s_astoreN (ls' := [some (.ref o), some (.ref p), some (.int (nI k)), some (.null), some (.null)]) (tb_ok aX1_become_1 0 rfl) rfl rfl ?_
          refine s_aloadq_n (r := none) (tb_ok aX1_become_1 1 rfl) rfl ?_
          refine s_ifnullN (tgt := 59) (tb_ok aX1_become_1 2 rfl) (by decide) ?_
          refine s_iinc (v := nI (k + 1)) (ls' := [some (.ref o), some (.ref p), some (.int (nI (k + 1))), some (.null), some (.null)]) (tb_ok aX1_become_1 8 rfl) rfl (nI_1 _) rfl rfl ?_
          refine s_goto (tgt := 26) (tb_ok aX1_become_1 9 rfl) (by decide) ?_
          rw [← (min_ge hkM).1]
          exact ih _ _
  refine ev_of (by decide +kernel) rfl ?_
  show SW X _ _ _ 0 [some (.ref o), some (.ref p), none, none, none] [] S0 I L (R0 q) _
  refine s_aload_n (tb_ok aX1_become_0 0 rfl) rfl ?_
  refine s_aload_n (tb_ok aX1_become_0 1 rfl) rfl ?_
  refine s_getI (x := (nI M)) (tb_ok aX1_become_0 2 rfl) f_RX1_17 g1 rfl hM ?_
  refine s_putI (tb_ok aX1_become_0 3 rfl) f_RX1_17 h1 rfl ?_
  refine s_aload_n (tb_ok aX1_become_0 4 rfl) rfl ?_
  refine s_aload_n (tb_ok aX1_become_0 5 rfl) rfl ?_
  refine s_getI (x := (I p 2)) (tb_ok aX1_become_0 6 rfl) f_RX1_21 g1 rfl (by rw [up2_n _ _ (by omega)]) ?_
  refine s_putI (tb_ok aX1_become_0 7 rfl) f_RX1_21 h1 rfl ?_
  refine s_aload_n (tb_ok aX1_become_0 8 rfl) rfl ?_
  refine s_aload_n (tb_ok aX1_become_0 9 rfl) rfl ?_
  refine s_getI (x := (I p 3)) (tb_ok aX1_become_0 10 rfl) f_RX1_24 g1 rfl (by rw [up2_n _ _ (by omega), up2_n _ _ (by omega)]) ?_
  refine s_putI (tb_ok aX1_become_0 11 rfl) f_RX1_24 h1 rfl ?_
  refine s_iconst (v := nI 0) (tb_ok aX1_become_0 12 rfl) (by decide) ?_
  refine s_istore_n (ls' := [some (.ref o), some (.ref p), some (.int (nI 0)), none, none]) (tb_ok aX1_become_0 13 rfl) rfl rfl ?_
  refine s_eqI (I' := (stT (setO I o (upd (upd (upd (I o) 1 (nI M)) 2 (I p 2)) 3 (I p 3))) o (min 0 M) (fun k => cp5 (I (p + 2 + k)) (I (o + 2 + k))))) ?_ (loop 0 (Nat.zero_le _) _ _)
  rw [Nat.zero_min, stT_0, up2_eq (I := I), up2_setO, up2_setO]

theorem AgW.up2 {I J : FI} {o k : Nat} {x : Int32} (h : AgW I J) (ho : W0 o = false) : AgW (up2 I o k x) (up2 J o k x) := by
  rw [up2_eq, up2_eq, h o ho]
  exact h.setB
theorem okRule.st {I : FI} {o n i : Nat} {F : Nat → Nat → Int32} {sem : Nat → (Nat → Int32) → Int32} (hlo : 3 ≤ o ∧ o ≤ 23) (hn : n ≤ 5) (h : okRule I (ruleN i) sem) : okRule (stT I o n F) (ruleN i) sem := by
  have e1 : stT I o n F (ruleN i + 1) = I (ruleN i + 1) := stT_out (by unfold ruleN; omega)
  have e2 : stT I o n F (ruleN i + 2) = I (ruleN i + 2) := stT_out (by unfold ruleN; omega)
  unfold okRule
  rw [e1, e2]
  exact h
def Ag0 (J : FI) (L : FL) (q : Nat × Nat) : Pst := fun r' S' I' L' R' => r' = none ∧ S' = S0 ∧ AgW J I' ∧ L' = L ∧ R' = R0 q
set_option maxRecDepth 100000 in
set_option maxHeartbeats 4000000 in
theorem E_Opass {X : En} {I : FI} {L : FL} {q : Nat × Nat} {o : Nat} (hO : isOrch q o) {M : Nat} (hM : I o 1 = nI M) (hM5 : M ≤ 5) (hlo : 3 ≤ o ∧ o ≤ 23) {m : Nat} (hm : I 1 3 = nI m) (hm10 : m ≤ 10) {ri : Nat} (hri : ri < 6) (hq : q.1 = ruleN ri) {sem : Nat → (Nat → Int32) → Int32} (hs : okRule I (ruleN ri) sem) : Ev X 6 mX1_pass (0, 0) [.ref o, .ref 64] S0 I L (R0 q) (Ag0 (up2 (stT I o M (fun j => pasP sem (I 2) (I 3) m (I (o + 2 + j)) (I o 2))) o 2 (I o 2 + 1)) L q) := by
  obtain ⟨h1, h2, h3, h4, h5⟩ := id hO
  have loop : ∀ k, k ≤ 5 → ∀ (J : FI), ∀ (o3 : Option Value), (AgW (stT I o (min k M) (fun j => pasP sem (I 2) (I 3) m (I (o + 2 + j)) (I o 2))) J) → SW X 6 mX1_pass (0, 0) 2 [some (.ref o), some (.ref 64), some (.int (nI k)), o3] [] S0 J L (R0 q) (KQ X (Ag0 (up2 (stT I o M (fun j => pasP sem (I 2) (I 3) m (I (o + 2 + j)) (I o 2))) o 2 (I o 2 + 1)) L q)) := by
    refine for_up (P := fun k => ∀ (J : FI), ∀ (o3 : Option Value), (AgW (stT I o (min k M) (fun j => pasP sem (I 2) (I 3) m (I (o + 2 + j)) (I o 2))) J) → SW X 6 mX1_pass (0, 0) 2 [some (.ref o), some (.ref 64), some (.int (nI k)), o3] [] S0 J L (R0 q) (KQ X (Ag0 (up2 (stT I o M (fun j => pasP sem (I 2) (I 3) m (I (o + 2 + j)) (I o 2))) o 2 (I o 2 + 1)) L q))) 5 ?_ ?_
    · intro J o3 hi
      refine s_iload_n (tb_ok aX1_pass_0 2 rfl) rfl ?_
      refine s_iconst (v := nI 5) (tb_ok aX1_pass_0 3 rfl) (by decide) ?_
      refine s_icmp_ge (tgt := 32) (tb_ok aX1_pass_0 4 rfl) (by decide) (fun c4 => ?_) (fun c4 => ?_)
      · refine s_aload_n (tb_ok aX1_pass_0 18 rfl) rfl ?_
        refine s_dup (tb_ok aX1_pass_0 19 rfl) rfl ?_
        refine s_getI (x := (I o 2)) (tb_ok aX1_pass_0 20 rfl) f_RX1_21 h1 rfl (by rw [hi o h5, stT_out (by omega)]) ?_
        refine s_iconst (v := 1) (tb_ok aX1_pass_0 21 rfl) (by decide) ?_
        refine s_iadd (tb_ok aX1_pass_0 22 rfl) ?_
        refine s_putI (tb_ok aX1_pass_0 23 rfl) f_RX1_21 h1 rfl ?_
        refine s_vret (tb_ok aX1_pass_1 0 rfl) rfl ?_
        rw [show min 5 M = M by omega] at hi
        exact ⟨rfl, rfl, hi.up2 h5, rfl, rfl⟩
      · simp (disch := omega) only [nI_ltI, nI_leI, nI_eq] at c4
        omega
    · intro k hk ih J o3 hi
      rcases Nat.lt_or_ge k M with hkM | hkM
      · refine s_iload_n (tb_ok aX1_pass_0 2 rfl) rfl ?_
        refine s_iconst (v := nI 5) (tb_ok aX1_pass_0 3 rfl) (by decide) ?_
        refine s_icmp_ge (tgt := 32) (tb_ok aX1_pass_0 4 rfl) (by decide) (fun c4 => ?_) (fun c4 => ?_)
        · simp (disch := omega) only [nI_ltI, nI_leI, nI_eq] at c4
          omega
        · refine s_aload_n (tb_ok aX1_pass_0 5 rfl) rfl ?_
          refine s_iload_n (tb_ok aX1_pass_0 6 rfl) rfl ?_
          refine s_cVp (as := [.int (nI k)]) (tb_ok aX1_pass_0 7 rfl) v_RX1_28 (E_at hO (M := M) (by rw [hi o h5, stT_out (by omega)]; exact hM) hM5 hkM) (by decide) h1 rfl rfl rfl rfl (Nat.le_of_ble_eq_true rfl) (by decide) ?_
          refine s_astore_n (ls' := [some (.ref o), some (.ref 64), some (.int (nI k)), some (.ref (o + 2 + k))]) (tb_ok aX1_pass_0 8 rfl) rfl rfl ?_
          refine s_aload_n (tb_ok aX1_pass_0 9 rfl) rfl ?_
          refine s_ifnull (tb_ok aX1_pass_0 10 rfl) ?_
          refine s_aload_n (tb_ok aX1_pass_0 11 rfl) rfl ?_
          refine s_aload_n (tb_ok aX1_pass_0 12 rfl) rfl ?_
          refine s_aload_n (tb_ok aX1_pass_0 13 rfl) rfl ?_
          refine s_getI (x := (I o 2)) (tb_ok aX1_pass_0 14 rfl) f_RX1_21 h1 rfl (by rw [hi o h5, stT_out (by omega)]) ?_
          refine s_cV (as := [.ref (o + 2 + k), .int (I o 2)]) (tb_ok aX1_pass_0 15 rfl) v_RX1_43 (E_pass (by rw [hi 1 (by decide), stT_out (by omega)]; exact hm) hm10 hri hq ((hs.st hlo (by omega)).ag hri hi) (h4 k hk).2 _) (by decide) rfl rfl rfl rfl rfl (Nat.le_of_ble_eq_true rfl) (by decide) (fun r1 S1 I1 L1 R1 q1 => ?_)
          obtain ⟨rfl, rfl, hA1, rfl, rfl⟩ := q1
          refine s_iinc (v := nI (k + 1)) (ls' := [some (.ref o), some (.ref 64), some (.int (nI (k + 1))), some (.ref (o + 2 + k))]) (tb_ok aX1_pass_0 16 rfl) rfl (nI_1 _) rfl rfl ?_
          refine s_goto (tgt := 2) (tb_ok aX1_pass_0 17 rfl) (by decide) ?_
          rw [hi 2 (by decide), hi 3 (by decide), stT_out (by omega), stT_out (by omega), hi (o + 2 + k) (tree_W0 (h4 k hk).2), (min_lt hkM).2, stT_hi (Nat.le_refl k)] at hA1
          refine ih I1 (some (.ref (o + 2 + k))) (AgW.tr ?_ hA1)
          rw [(min_lt hkM).1, (min_lt hkM).2, ← stT_s]
          rw [(min_lt hkM).2] at hi
          exact hi.setB
      · refine s_iload_n (tb_ok aX1_pass_0 2 rfl) rfl ?_
        refine s_iconst (v := nI 5) (tb_ok aX1_pass_0 3 rfl) (by decide) ?_
        refine s_icmp_ge (tgt := 32) (tb_ok aX1_pass_0 4 rfl) (by decide) (fun c4 => ?_) (fun c4 => ?_)
        · simp (disch := omega) only [nI_ltI, nI_leI, nI_eq] at c4
          omega
        · refine s_aload_n (tb_ok aX1_pass_0 5 rfl) rfl ?_
          refine s_iload_n (tb_ok aX1_pass_0 6 rfl) rfl ?_
          refine s_cVp (as := [.int (nI k)]) (tb_ok aX1_pass_0 7 rfl) v_RX1_28 (E_atN hO (M := M) (by rw [hi o h5, stT_out (by omega)]; exact hM) hM5 (Or.inr (nI_le hkM (by omega)))) (by decide) h1 rfl rfl rfl rfl (Nat.le_of_ble_eq_true rfl) (by decide) ?_
          refine s_astoreN_n (ls' := [some (.ref o), some (.ref 64), some (.int (nI k)), some (.null)]) (tb_ok aX1_pass_0 8 rfl) rfl rfl ?_
          refine s_aloadq_n (r := none) (tb_ok aX1_pass_0 9 rfl) rfl ?_
          refine s_ifnullN (tgt := 26) (tb_ok aX1_pass_0 10 rfl) (by decide) ?_
          refine s_iinc (v := nI (k + 1)) (ls' := [some (.ref o), some (.ref 64), some (.int (nI (k + 1))), some (.null)]) (tb_ok aX1_pass_0 16 rfl) rfl (nI_1 _) rfl rfl ?_
          refine s_goto (tgt := 2) (tb_ok aX1_pass_0 17 rfl) (by decide) ?_
          exact ih J (some (.null)) (by rw [(min_ge hkM).1]; exact hi)
  refine ev_of (by decide +kernel) rfl ?_
  show SW X _ _ _ 0 [some (.ref o), some (.ref 64), none, none] [] S0 I L (R0 q) _
  refine s_iconst (v := nI 0) (tb_ok aX1_pass_0 0 rfl) (by decide) ?_
  refine s_istore_n (ls' := [some (.ref o), some (.ref 64), some (.int (nI 0)), none]) (tb_ok aX1_pass_0 1 rfl) rfl rfl ?_
  exact loop 0 (Nat.zero_le _) I _ (by rw [Nat.zero_min, stT_0]; exact AgW.rf)
