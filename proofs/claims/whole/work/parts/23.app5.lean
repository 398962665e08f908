/-! texts and houses that fit; lowest terms -/
set_option maxRecDepth 100000 in
set_option maxHeartbeats 4000000 in
theorem E_textsThatFit {X : En} {I : FI} {L : FL} {q : Nat × Nat} {m : Nat} (hm : I 1 3 = nI m) (hm10 : m ≤ 10) {o : Nat} (ho : S0[o]? = some (5, 5)) {rs z : Nat} (hrs : rs < 4) (hz : I (rowN rs) 2 = nI z) (hz40 : z ≤ 40) (hw1 : W1 o = false) {tx : Nat} (htx : I 0 10 = nI tx) (htx6 : tx ≤ 6) {sems : Nat → Nat → (Nat → Int32) → Int32} (hss : ∀ i, i < tx → okRule I (ruleN i) (sems i)) : Ev X 7 mX7_textsThatFit (0, 0) [.ref 0, .ref (rowN rs), .ref o] S0 I L (R0 q) (AgVR (some (.int (bitS (fun i => fstP (sems i) (I 2) (I 3) m (I 5 2) (I o) (I (rowN rs + 1)) z) tx))) I L q) := by
  have loop : ∀ k, k ≤ tx → ∀ (J : FI), ∀ (p : Nat), ∀ (o6 : Option Value), (AgV I J) → SW X 7 mX7_textsThatFit (0, 0) 14 [some (.ref 0), some (.ref (rowN rs)), some (.ref o), some (.int (bitS (fun i => fstP (sems i) (I 2) (I 3) m (I 5 2) (I o) (I (rowN rs + 1)) z) k)), some (.ref q.1), some (.int (nI k)), o6] [] S0 J L (R0 (p, q.2)) (KQ X (AgVR (some (.int (bitS (fun i => fstP (sems i) (I 2) (I 3) m (I 5 2) (I o) (I (rowN rs + 1)) z) tx))) I L q)) := by
    refine for_up (P := fun k => ∀ (J : FI), ∀ (p : Nat), ∀ (o6 : Option Value), (AgV I J) → SW X 7 mX7_textsThatFit (0, 0) 14 [some (.ref 0), some (.ref (rowN rs)), some (.ref o), some (.int (bitS (fun i => fstP (sems i) (I 2) (I 3) m (I 5 2) (I o) (I (rowN rs + 1)) z) k)), some (.ref q.1), some (.int (nI k)), o6] [] S0 J L (R0 (p, q.2)) (KQ X (AgVR (some (.int (bitS (fun i => fstP (sems i) (I 2) (I 3) m (I 5 2) (I o) (I (rowN rs + 1)) z) tx))) I L q))) tx ?_ ?_
    · intro J p o6 hi
      refine s_iload (tb_ok aX7_textsThatFit_0 8 rfl) rfl ?_
      refine s_aload_n (tb_ok aX7_textsThatFit_0 9 rfl) rfl ?_
      refine s_getI (x := (nI tx)) (tb_ok aX7_textsThatFit_0 10 rfl) f_RX7_51 rfl rfl ((congrFun (hi 0 (by decide)) 10).trans htx) ?_
      refine s_icmp_ge (tgt := 72) (tb_ok aX7_textsThatFit_0 11 rfl) (by decide) (fun c20 => ?_) (fun c20 => ?_)
      · refine s_aload_n (tb_ok aX7_textsThatFit_1 14 rfl) rfl ?_
        refine s_getR (r := 64) (tb_ok aX7_textsThatFit_1 15 rfl) f_RX7_101 rfl rfl rfl ?_
        refine s_aload (tb_ok aX7_textsThatFit_1 16 rfl) rfl ?_
        refine s_putR (tb_ok aX7_textsThatFit_1 17 rfl) f_RX7_175 rfl rfl ?_
        refine s_iload_n (tb_ok aX7_textsThatFit_1 18 rfl) rfl ?_
        refine s_iret (tb_ok aX7_textsThatFit_1 19 rfl) rfl ?_
        exact ⟨rfl, rfl, hi, rfl, R0_wy _ _⟩
      · simp (disch := omega) only [nI_ltI, nI_leI, nI_eq] at c20
        omega
    · intro k hk ih J p o6 hi
      refine s_iload (tb_ok aX7_textsThatFit_0 8 rfl) rfl ?_
      refine s_aload_n (tb_ok aX7_textsThatFit_0 9 rfl) rfl ?_
      refine s_getI (x := (nI tx)) (tb_ok aX7_textsThatFit_0 10 rfl) f_RX7_51 rfl rfl ((congrFun (hi 0 (by decide)) 10).trans htx) ?_
      refine s_icmp_ge (tgt := 72) (tb_ok aX7_textsThatFit_0 11 rfl) (by decide) (fun c20 => ?_) (fun c20 => ?_)
      · simp (disch := omega) only [nI_ltI, nI_leI, nI_eq] at c20
        omega
      · refine s_aload_n (tb_ok aX7_textsThatFit_0 12 rfl) rfl ?_
        refine s_iload (tb_ok aX7_textsThatFit_0 13 rfl) rfl ?_
        refine s_cVp (as := [.int (nI k)]) (tb_ok aX7_textsThatFit_0 14 rfl) v_RX7_168 (E_ruleAt (q := (p, q.2)) (show k < 6 by omega)) (by decide) rfl rfl rfl rfl rfl (Nat.le_of_ble_eq_true rfl) (by decide) ?_
        refine s_astore (ls' := [some (.ref 0), some (.ref (rowN rs)), some (.ref o), some (.int (bitS (fun i => fstP (sems i) (I 2) (I 3) m (I 5 2) (I o) (I (rowN rs + 1)) z) k)), some (.ref q.1), some (.int (nI k)), some (.ref (ruleN k))]) (tb_ok aX7_textsThatFit_0 15 rfl) rfl rfl ?_
        refine s_aload (tb_ok aX7_textsThatFit_0 16 rfl) rfl ?_
        refine s_ifnull (tb_ok aX7_textsThatFit_0 17 rfl) ?_
        refine s_aload_n (tb_ok aX7_textsThatFit_0 18 rfl) rfl ?_
        refine s_getR (r := 64) (tb_ok aX7_textsThatFit_0 19 rfl) f_RX7_101 rfl rfl rfl ?_
        refine s_aload (tb_ok aX7_textsThatFit_0 20 rfl) rfl ?_
        refine s_putR (tb_ok aX7_textsThatFit_0 21 rfl) f_RX7_175 rfl rfl ?_
        rw [R0_wy]
        refine s_iload_n (tb_ok aX7_textsThatFit_0 22 rfl) rfl ?_
        refine s_aload_n (tb_ok aX7_textsThatFit_0 23 rfl) rfl ?_
        refine s_aload_n (tb_ok aX7_textsThatFit_1 0 rfl) rfl ?_
        refine s_aload_n (tb_ok aX7_textsThatFit_1 1 rfl) rfl ?_
        refine s_cV (as := [.ref (rowN rs), .ref o]) (tb_ok aX7_textsThatFit_1 2 rfl) v_RX7_257 (E_firstOther (q := (ruleN k, q.2)) (o := o) (rs := rs) (z := z) ((congrFun (hi 1 (by decide)) 3).trans hm) hm10 (show k < 6 by omega) rfl (AgV.rule (by omega) (hss k hk) hi) ho hrs ((congrFun (hi _ (row_W rs hrs).1) 2).trans hz) hz40) (by decide) rfl rfl rfl rfl rfl (Nat.le_of_ble_eq_true rfl) (by decide) (fun r1 S1 I1 L1 R1 q1 => ?_)
        obtain ⟨rfl, rfl, hX, rfl, rfl⟩ := q1
        refine s_topi (z := ((fun i => fstP (sems i) (I 2) (I 3) m (I 5 2) (I o) (I (rowN rs + 1)) z) k)) (fst_v (m := m) (rs := rs) hi hrs (fun j _ => congrFun (hi o hw1) j) (sems k) z) ?_
        refine s_iconst (v := -1) (tb_ok aX7_textsThatFit_1 3 rfl) (by decide) ?_
        refine s_icmp_ne (tgt := 63) (tb_ok aX7_textsThatFit_1 4 rfl) (by decide) (fun c53 => ?_) (fun c53 => ?_)
        · refine s_iconst (v := 0) (tb_ok aX7_textsThatFit_1 9 rfl) (by decide) ?_
          refine s_ior (tb_ok aX7_textsThatFit_1 10 rfl) ?_
          refine s_name (fun x1 ex1 => ?_)
          refine s_istore_n (ls' := [some (.ref 0), some (.ref (rowN rs)), some (.ref o), some (.int x1), some (.ref q.1), some (.int (nI k)), some (.ref (ruleN k))]) (tb_ok aX7_textsThatFit_1 11 rfl) rfl rfl ?_
          refine s_iinc (v := nI (k + 1)) (ls' := [some (.ref 0), some (.ref (rowN rs)), some (.ref o), some (.int x1), some (.ref q.1), some (.int (nI (k + 1))), some (.ref (ruleN k))]) (tb_ok aX7_textsThatFit_1 12 rfl) rfl (nI_1 _) rfl rfl ?_
          refine s_goto (tgt := 14) (tb_ok aX7_textsThatFit_1 13 rfl) (by decide) ?_
          refine s_ls ?_ (ih _ _ (some (.ref (ruleN k))) (hi.tr hX.v))
          first | (rw [bitS, if_pos c53, ex1]; done) | (rw [bitS, if_neg c53, ex1, Int32.or_zero]; done)
        · refine s_iconst (v := 1) (tb_ok aX7_textsThatFit_1 5 rfl) (by decide) ?_
          refine s_iload (tb_ok aX7_textsThatFit_1 6 rfl) rfl ?_
          refine s_ishl (tb_ok aX7_textsThatFit_1 7 rfl) ?_
          refine s_goto (tgt := 64) (tb_ok aX7_textsThatFit_1 8 rfl) (by decide) ?_
          refine s_ior (tb_ok aX7_textsThatFit_1 10 rfl) ?_
          refine s_name (fun x2 ex2 => ?_)
          refine s_istore_n (ls' := [some (.ref 0), some (.ref (rowN rs)), some (.ref o), some (.int x2), some (.ref q.1), some (.int (nI k)), some (.ref (ruleN k))]) (tb_ok aX7_textsThatFit_1 11 rfl) rfl rfl ?_
          refine s_iinc (v := nI (k + 1)) (ls' := [some (.ref 0), some (.ref (rowN rs)), some (.ref o), some (.int x2), some (.ref q.1), some (.int (nI (k + 1))), some (.ref (ruleN k))]) (tb_ok aX7_textsThatFit_1 12 rfl) rfl (nI_1 _) rfl rfl ?_
          refine s_goto (tgt := 14) (tb_ok aX7_textsThatFit_1 13 rfl) (by decide) ?_
          refine s_ls ?_ (ih _ _ (some (.ref (ruleN k))) (hi.tr hX.v))
          first | (rw [bitS, if_pos c53, ex2]; done) | (rw [bitS, if_neg c53, ex2, Int32.or_zero]; done)
  refine ev_of (by decide +kernel) rfl ?_
  show SW X _ _ _ 0 [some (.ref 0), some (.ref (rowN rs)), some (.ref o), none, none, none, none] [] S0 I L (R0 q) _
  refine s_iconst (v := 0) (tb_ok aX7_textsThatFit_0 0 rfl) (by decide) ?_
  refine s_istore_n (ls' := [some (.ref 0), some (.ref (rowN rs)), some (.ref o), some (.int (0)), none, none, none]) (tb_ok aX7_textsThatFit_0 1 rfl) rfl rfl ?_
  refine s_aload_n (tb_ok aX7_textsThatFit_0 2 rfl) rfl ?_
  refine s_getR (r := 64) (tb_ok aX7_textsThatFit_0 3 rfl) f_RX7_101 rfl rfl rfl ?_
  refine s_getR (r := q.1) (tb_ok aX7_textsThatFit_0 4 rfl) f_RX7_175 rfl rfl rfl ?_
  refine s_astore (ls' := [some (.ref 0), some (.ref (rowN rs)), some (.ref o), some (.int (0)), some (.ref q.1), none, none]) (tb_ok aX7_textsThatFit_0 5 rfl) rfl rfl ?_
  refine s_iconst (v := nI 0) (tb_ok aX7_textsThatFit_0 6 rfl) (by decide) ?_
  refine s_istore (ls' := [some (.ref 0), some (.ref (rowN rs)), some (.ref o), some (.int (0)), some (.ref q.1), some (.int (nI 0)), none]) (tb_ok aX7_textsThatFit_0 7 rfl) rfl rfl ?_
  exact loop 0 (Nat.zero_le _) _ q.1 _ AgV.rf

theorem w5b : ∀ j, j < 5 → W1 (5 + 2 + j) = false := by decide
set_option maxRecDepth 100000 in
set_option maxHeartbeats 4000000 in
theorem E_housesThatFit {X : En} {I : FI} {L : FL} {q : Nat × Nat} {M : Nat} (hM : I 5 1 = nI M) (hM5 : M ≤ 5) {m : Nat} (hm : I 1 3 = nI m) (hm10 : m ≤ 10) {ri : Nat} (hri : ri < 6) (hq : q.1 = ruleN ri) {sem : Nat → (Nat → Int32) → Int32} (hs : okRule I (ruleN ri) sem) {rs z : Nat} (hrs : rs < 4) (hz : I (rowN rs) 2 = nI z) (hz40 : z ≤ 40) : Ev X 7 mX7_housesThatFit (0, 0) [.ref 0, .ref (rowN rs)] S0 I L (R0 q) (AgVR (some (.int (bitS (fun i => if i < M then fstP sem (I 2) (I 3) m (I 5 2) (I (5 + 2 + i)) (I (rowN rs + 1)) z else 0) 5))) I L q) := by
  have loop : ∀ k, k ≤ 5 → ∀ (J : FI), ∀ (o4 : Option Value), (AgV I J) → SW X 7 mX7_housesThatFit (0, 0) 4 [some (.ref 0), some (.ref (rowN rs)), some (.int (bitS (fun i => if i < M then fstP sem (I 2) (I 3) m (I 5 2) (I (5 + 2 + i)) (I (rowN rs + 1)) z else 0) k)), some (.int (nI k)), o4] [] S0 J L (R0 q) (KQ X (AgVR (some (.int (bitS (fun i => if i < M then fstP sem (I 2) (I 3) m (I 5 2) (I (5 + 2 + i)) (I (rowN rs + 1)) z else 0) 5))) I L q)) := by
    refine for_up (P := fun k => ∀ (J : FI), ∀ (o4 : Option Value), (AgV I J) → SW X 7 mX7_housesThatFit (0, 0) 4 [some (.ref 0), some (.ref (rowN rs)), some (.int (bitS (fun i => if i < M then fstP sem (I 2) (I 3) m (I 5 2) (I (5 + 2 + i)) (I (rowN rs + 1)) z else 0) k)), some (.int (nI k)), o4] [] S0 J L (R0 q) (KQ X (AgVR (some (.int (bitS (fun i => if i < M then fstP sem (I 2) (I 3) m (I 5 2) (I (5 + 2 + i)) (I (rowN rs + 1)) z else 0) 5))) I L q))) 5 ?_ ?_
    · intro J o4 hi
      refine s_iload_n (tb_ok aX7_housesThatFit_0 4 rfl) rfl ?_
      refine s_iconst (v := nI 5) (tb_ok aX7_housesThatFit_0 5 rfl) (by decide) ?_
      refine s_icmp_ge (tgt := 47) (tb_ok aX7_housesThatFit_0 6 rfl) (by decide) (fun c6 => ?_) (fun c6 => ?_)
      · refine s_iload_n (tb_ok aX7_housesThatFit_1 4 rfl) rfl ?_
        refine s_iret (tb_ok aX7_housesThatFit_1 5 rfl) rfl ?_
        exact ⟨rfl, rfl, hi, rfl, rfl⟩
      · simp (disch := omega) only [nI_ltI, nI_leI, nI_eq] at c6
        omega
    · intro k hk ih J o4 hi
      rcases Nat.lt_or_ge k M with hkM | hkM
      · refine s_iload_n (tb_ok aX7_housesThatFit_0 4 rfl) rfl ?_
        refine s_iconst (v := nI 5) (tb_ok aX7_housesThatFit_0 5 rfl) (by decide) ?_
        refine s_icmp_ge (tgt := 47) (tb_ok aX7_housesThatFit_0 6 rfl) (by decide) (fun c6 => ?_) (fun c6 => ?_)
        · simp (disch := omega) only [nI_ltI, nI_leI, nI_eq] at c6
          omega
        · refine s_aload_n (tb_ok aX7_housesThatFit_0 7 rfl) rfl ?_
          refine s_getR (r := 5) (tb_ok aX7_housesThatFit_0 8 rfl) f_RX7_19 rfl rfl rfl ?_
          refine s_iload_n (tb_ok aX7_housesThatFit_0 9 rfl) rfl ?_
          refine s_cVp (as := [.int (nI k)]) (tb_ok aX7_housesThatFit_0 10 rfl) v_RX7_115 (E_at (orch5 q) (M := M) ((congrFun (hi 5 (by decide)) 1).trans hM) hM5 hkM) (by decide) rfl rfl rfl rfl rfl (Nat.le_of_ble_eq_true rfl) (by decide) ?_
          refine s_astore (ls' := [some (.ref 0), some (.ref (rowN rs)), some (.int (bitS (fun i => if i < M then fstP sem (I 2) (I 3) m (I 5 2) (I (5 + 2 + i)) (I (rowN rs + 1)) z else 0) k)), some (.int (nI k)), some (.ref (5 + 2 + k))]) (tb_ok aX7_housesThatFit_0 11 rfl) rfl rfl ?_
          refine s_aload (tb_ok aX7_housesThatFit_0 12 rfl) rfl ?_
          refine s_ifnull (tb_ok aX7_housesThatFit_0 13 rfl) ?_
          refine s_aload_n (tb_ok aX7_housesThatFit_0 14 rfl) rfl ?_
          refine s_aload_n (tb_ok aX7_housesThatFit_0 15 rfl) rfl ?_
          refine s_aload (tb_ok aX7_housesThatFit_0 16 rfl) rfl ?_
          refine s_cV (as := [.ref (rowN rs), .ref (5 + 2 + k)]) (tb_ok aX7_housesThatFit_0 17 rfl) v_RX7_257 (E_firstOther (o := 5 + 2 + k) (rs := rs) (z := z) ((congrFun (hi 1 (by decide)) 3).trans hm) hm10 hri hq (AgV.rule hri hs hi) ((orch5 q).2.2.2.1 k (by omega)).2 hrs ((congrFun (hi _ (row_W rs hrs).1) 2).trans hz) hz40) (by decide) rfl rfl rfl rfl rfl (Nat.le_of_ble_eq_true rfl) (by decide) (fun r1 S1 I1 L1 R1 q1 => ?_)
          obtain ⟨rfl, rfl, hX, rfl, rfl⟩ := q1
          refine s_topi (z := ((fun i => if i < M then fstP sem (I 2) (I 3) m (I 5 2) (I (5 + 2 + i)) (I (rowN rs + 1)) z else 0) k)) ((fst_v (m := m) (rs := rs) hi hrs (fun j _ => congrFun (hi _ (w5b k (by omega))) j) sem z).trans (if_pos hkM).symm) ?_
          refine s_iconst (v := -1) (tb_ok aX7_housesThatFit_0 18 rfl) (by decide) ?_
          refine s_icmp_ne (tgt := 41) (tb_ok aX7_housesThatFit_0 19 rfl) (by decide) (fun c32 => ?_) (fun c32 => ?_)
          · refine s_iinc (v := nI (k + 1)) (ls' := [some (.ref 0), some (.ref (rowN rs)), some (.int (bitS (fun i => if i < M then fstP sem (I 2) (I 3) m (I 5 2) (I (5 + 2 + i)) (I (rowN rs + 1)) z else 0) k)), some (.int (nI (k + 1))), some (.ref (5 + 2 + k))]) (tb_ok aX7_housesThatFit_1 2 rfl) rfl (nI_1 _) rfl rfl ?_
            refine s_goto (tgt := 4) (tb_ok aX7_housesThatFit_1 3 rfl) (by decide) ?_
            refine s_ls ?_ (ih _ (some (.ref (5 + 2 + k))) (hi.tr hX.v))
            first | (rw [bitS, if_pos c32, ex1]; done) | (rw [bitS, if_neg c32]; done)
          · refine s_iload_n (tb_ok aX7_housesThatFit_0 20 rfl) rfl ?_
            refine s_iconst (v := 1) (tb_ok aX7_housesThatFit_0 21 rfl) (by decide) ?_
            refine s_iload_n (tb_ok aX7_housesThatFit_0 22 rfl) rfl ?_
            refine s_ishl (tb_ok aX7_housesThatFit_0 23 rfl) ?_
            refine s_ior (tb_ok aX7_housesThatFit_1 0 rfl) ?_
            refine s_name (fun x1 ex1 => ?_)
            refine s_istore_n (ls' := [some (.ref 0), some (.ref (rowN rs)), some (.int x1), some (.int (nI k)), some (.ref (5 + 2 + k))]) (tb_ok aX7_housesThatFit_1 1 rfl) rfl rfl ?_
            refine s_iinc (v := nI (k + 1)) (ls' := [some (.ref 0), some (.ref (rowN rs)), some (.int x1), some (.int (nI (k + 1))), some (.ref (5 + 2 + k))]) (tb_ok aX7_housesThatFit_1 2 rfl) rfl (nI_1 _) rfl rfl ?_
            refine s_goto (tgt := 4) (tb_ok aX7_housesThatFit_1 3 rfl) (by decide) ?_
            refine s_ls ?_ (ih _ (some (.ref (5 + 2 + k))) (hi.tr hX.v))
            first | (rw [bitS, if_pos c32, ex1]; done) | (rw [bitS, if_neg c32]; done)
      · refine s_iload_n (tb_ok aX7_housesThatFit_0 4 rfl) rfl ?_
        refine s_iconst (v := nI 5) (tb_ok aX7_housesThatFit_0 5 rfl) (by decide) ?_
        refine s_icmp_ge (tgt := 47) (tb_ok aX7_housesThatFit_0 6 rfl) (by decide) (fun c6 => ?_) (fun c6 => ?_)
        · simp (disch := omega) only [nI_ltI, nI_leI, nI_eq] at c6
          omega
        · refine s_aload_n (tb_ok aX7_housesThatFit_0 7 rfl) rfl ?_
          refine s_getR (r := 5) (tb_ok aX7_housesThatFit_0 8 rfl) f_RX7_19 rfl rfl rfl ?_
          refine s_iload_n (tb_ok aX7_housesThatFit_0 9 rfl) rfl ?_
          refine s_cVp (as := [.int (nI k)]) (tb_ok aX7_housesThatFit_0 10 rfl) v_RX7_115 (E_atN (orch5 q) (M := M) ((congrFun (hi 5 (by decide)) 1).trans hM) hM5 (Or.inr (nI_le hkM (by omega)))) (by decide) rfl rfl rfl rfl rfl (Nat.le_of_ble_eq_true rfl) (by decide) ?_
          refine s_astoreN (ls' := [some (.ref 0), some (.ref (rowN rs)), some (.int (bitS (fun i => if i < M then fstP sem (I 2) (I 3) m (I 5 2) (I (5 + 2 + i)) (I (rowN rs + 1)) z else 0) k)), some (.int (nI k)), some (.null)]) (tb_ok aX7_housesThatFit_0 11 rfl) rfl rfl ?_
          refine s_aloadq (r := none) (tb_ok aX7_housesThatFit_0 12 rfl) rfl ?_
          refine s_ifnullN (tgt := 41) (tb_ok aX7_housesThatFit_0 13 rfl) (by decide) ?_
          refine s_iinc (v := nI (k + 1)) (ls' := [some (.ref 0), some (.ref (rowN rs)), some (.int (bitS (fun i => if i < M then fstP sem (I 2) (I 3) m (I 5 2) (I (5 + 2 + i)) (I (rowN rs + 1)) z else 0) k)), some (.int (nI (k + 1))), some (.null)]) (tb_ok aX7_housesThatFit_1 2 rfl) rfl (nI_1 _) rfl rfl ?_
          refine s_goto (tgt := 4) (tb_ok aX7_housesThatFit_1 3 rfl) (by decide) ?_
          refine s_ls ?_ (ih _ (some (.null)) hi)
          rw [bitS, if_neg (show ¬ ((fun i => if i < M then fstP sem (I 2) (I 3) m (I 5 2) (I (5 + 2 + i)) (I (rowN rs + 1)) z else 0) k) = -1 from fun e => absurd (((if_neg (show ¬ k < M by omega)).symm.trans e : (0 : Int32) = -1)) (by decide))]
  refine ev_of (by decide +kernel) rfl ?_
  show SW X _ _ _ 0 [some (.ref 0), some (.ref (rowN rs)), none, none, none] [] S0 I L (R0 q) _
  refine s_iconst (v := 0) (tb_ok aX7_housesThatFit_0 0 rfl) (by decide) ?_
  refine s_istore_n (ls' := [some (.ref 0), some (.ref (rowN rs)), some (.int (0)), none, none]) (tb_ok aX7_housesThatFit_0 1 rfl) rfl rfl ?_
  refine s_iconst (v := nI 0) (tb_ok aX7_housesThatFit_0 2 rfl) (by decide) ?_
  refine s_istore_n (ls' := [some (.ref 0), some (.ref (rowN rs)), some (.int (0)), some (.int (nI 0)), none]) (tb_ok aX7_housesThatFit_0 3 rfl) rfl rfl ?_
  exact loop 0 (Nat.zero_le _) _ _ AgV.rf

set_option maxRecDepth 100000 in
set_option maxHeartbeats 4000000 in
theorem E_inLowestTerms {X : En} {S : Sh} {I : FI} {L : FL} {R : FR} (one a : Int32) {n : Nat} (hn : n ≤ 20) : Ev X 0 mX7_inLowestTerms (0, 0) [.int one, .int a, .int (nI n)] S I L R (PureR (some (.int (inl1 one a (nI n) n))) S I L R) := by
  have loop : ∀ (a b : Int32) (d : Nat), d ≤ 20 → SW X 0 mX7_inLowestTerms (0, 0) 2 [some (.int one), some (.int a), some (.int b), some (.int (nI d))] [] S I L R (KQ X (PureR (some (.int (inl1 one a b d))) S I L R)) := by
    intro a b d
    induction d with
    | zero =>
      intro _
      refine s_iload_n (tb_ok aX7_inLowestTerms_0 2 rfl) rfl ?_
      refine s_iconst (v := 1) (tb_ok aX7_inLowestTerms_0 3 rfl) (by decide) ?_
      refine s_icmp_le (tgt := 29) (tb_ok aX7_inLowestTerms_0 4 rfl) (by decide) (fun c4 => ?_) (fun c4 => ?_)
      · refine s_iload_n (tb_ok aX7_inLowestTerms_0 19 rfl) rfl ?_
        refine s_iret (tb_ok aX7_inLowestTerms_0 20 rfl) rfl ?_
        exact pureR
      · exact absurd (by decide) c4
    | succ d ih =>
      intro hd
      refine s_iload_n (tb_ok aX7_inLowestTerms_0 2 rfl) rfl ?_
      refine s_iconst (v := 1) (tb_ok aX7_inLowestTerms_0 3 rfl) (by decide) ?_
      refine s_icmp_le (tgt := 29) (tb_ok aX7_inLowestTerms_0 4 rfl) (by decide) (fun c4 => ?_) (fun c4 => ?_)
      · refine s_iload_n (tb_ok aX7_inLowestTerms_0 19 rfl) rfl ?_
        refine s_iret (tb_ok aX7_inLowestTerms_0 20 rfl) rfl ?_
        refine pureE (congrArg (fun z => some (Value.int z)) ?_)
        first | (rw [inl1, if_pos c4]; done) | (rw [inl1, if_neg c4, if_pos ⟨c10, c16⟩]; done)
      · refine s_iload_n (tb_ok aX7_inLowestTerms_0 5 rfl) rfl ?_
        refine s_iload_n (tb_ok aX7_inLowestTerms_0 6 rfl) rfl ?_
        refine s_irem (tb_ok aX7_inLowestTerms_0 7 rfl) (nI_ne0 (by omega) (by omega)) ?_
        refine s_if_ne (tgt := 23) (tb_ok aX7_inLowestTerms_0 8 rfl) (by decide) (fun c10 => ?_) (fun c10 => ?_)
        · refine s_iinc (v := nI ((d + 1) - 1)) (ls' := [some (.int one), some (.int a), some (.int b), some (.int (nI ((d + 1) - 1)))]) (tb_ok aX7_inLowestTerms_0 17 rfl) rfl (sb_m1 (by omega)) rfl rfl ?_
          refine s_goto (tgt := 2) (tb_ok aX7_inLowestTerms_0 18 rfl) (by decide) ?_
          first | (rw [inl1, if_neg c4, if_neg (fun h => c10 h.1)]; exact ih (by omega)) | (rw [inl1, if_neg c4, if_neg (fun h => c16 h.2)]; exact ih (by omega))
        · refine s_iload_n (tb_ok aX7_inLowestTerms_0 9 rfl) rfl ?_
          refine s_iload_n (tb_ok aX7_inLowestTerms_0 10 rfl) rfl ?_
          refine s_irem (tb_ok aX7_inLowestTerms_0 11 rfl) (nI_ne0 (by omega) (by omega)) ?_
          refine s_if_ne (tgt := 23) (tb_ok aX7_inLowestTerms_0 12 rfl) (by decide) (fun c16 => ?_) (fun c16 => ?_)
          · refine s_iinc (v := nI ((d + 1) - 1)) (ls' := [some (.int one), some (.int a), some (.int b), some (.int (nI ((d + 1) - 1)))]) (tb_ok aX7_inLowestTerms_0 17 rfl) rfl (sb_m1 (by omega)) rfl rfl ?_
            refine s_goto (tgt := 2) (tb_ok aX7_inLowestTerms_0 18 rfl) (by decide) ?_
            first | (rw [inl1, if_neg c4, if_neg (fun h => c10 h.1)]; exact ih (by omega)) | (rw [inl1, if_neg c4, if_neg (fun h => c16 h.2)]; exact ih (by omega))
          · refine s_iload_n (tb_ok aX7_inLowestTerms_0 13 rfl) rfl ?_
            refine s_iload_n (tb_ok aX7_inLowestTerms_0 14 rfl) rfl ?_
            refine s_idiv (tb_ok aX7_inLowestTerms_0 15 rfl) (nI_ne0 (by omega) (by omega)) ?_
            refine s_iret (tb_ok aX7_inLowestTerms_0 16 rfl) rfl ?_
            refine pureE (congrArg (fun z => some (Value.int z)) ?_)
            first | (rw [inl1, if_pos c4]; done) | (rw [inl1, if_neg c4, if_pos ⟨c10, c16⟩]; done)
  refine ev_of (by decide +kernel) rfl ?_
  show SW X _ _ _ 0 [some (.int one), some (.int a), some (.int (nI n)), none] [] S I L R _
  refine s_iload_n (tb_ok aX7_inLowestTerms_0 0 rfl) rfl ?_
  refine s_istore_n (ls' := [some (.int one), some (.int a), some (.int (nI n)), some (.int (nI n))]) (tb_ok aX7_inLowestTerms_0 1 rfl) rfl rfl ?_
  exact loop _ (nI n) n hn
