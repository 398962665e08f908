/-! the law's loop: its 27 cases -/
def mL (nm : String) : MD := (⟨RL, nm, "([I)Z"⟩, cL_law, 4, ret, 1)
theorem lcmp_self {x : Int64} : lg_cmp x x = 0 := by
  unfold lg_cmp
  simp
def LSt (i : Nat) : List (Option Value) := [some (.ref 1000040), some (.ref 0), some (.ref 66), some (.int (nI i))]
set_option maxRecDepth 100000 in
theorem law_0 {X : En} {nm : String} {n i : Nat} {xs : Nat → Int32} (hi : i + 6 ≤ n) (hn : n ≤ 3072) {q : Nat × Nat} {I : FI} {L : FL} (g : Inv q I) (kk : ∀ q' I' L', Inv q' I' → SW X 100 (mL nm) (0, 0) 1078 (LSt i) [] S0 I' L' (R0 q') (KL X n xs)) : SW X 100 (mL nm) (0, 0) 156 (LSt i) [] S0 I L (R0 q) (KL X n xs) := by
  refine s_aload_n (o := 0) (tb_ok aL_law_0 22 rfl) rfl ?_
  refine s_aload_n (o := 1000040) (tb_ok aL_law_0 23 rfl) rfl ?_
  refine s_iload_n (x := nI i) (tb_ok aL_law_1 0 rfl) rfl ?_
  refine s_iconst (v := nI 1) (tb_ok aL_law_1 1 rfl) (by decide) ?_
  refine s_iadd (tb_ok aL_law_1 2 rfl) ?_
  refine s_topi (z := nI (i + 1)) (nI_add' i 1) ?_
  refine s_scr (tb_ok aL_law_1 3 rfl) (by omega) hn ?_
  refine s_aload_n (o := 1000040) (tb_ok aL_law_1 4 rfl) rfl ?_
  refine s_iload_n (x := nI i) (tb_ok aL_law_1 5 rfl) rfl ?_
  refine s_iconst (v := nI 2) (tb_ok aL_law_1 6 rfl) (by decide) ?_
  refine s_iadd (tb_ok aL_law_1 7 rfl) ?_
  refine s_topi (z := nI (i + 2)) (nI_add' i 2) ?_
  refine s_scr (tb_ok aL_law_1 8 rfl) (by omega) hn ?_
  refine s_callV (as := [.int (xs (i + 1)), .int (xs (i + 2))]) (o := 0) (n := 13) (c := 7) (tb_ok aL_law_1 9 rfl) v_RL_13 (P_learns _ _ q I L g) (by decide) rfl rfl rfl rfl rfl (Nat.le_of_ble_eq_true rfl) (by decide) (by decide) (fun r S1 I1 L1 R1 z => ?_)
  obtain ⟨rfl, rfl, q1, v, rfl, rfl, z⟩ := z
  refine s_aload_n (o := 66) (tb_ok aL_law_1 10 rfl) rfl ?_
  refine s_aload_n (o := 1000040) (tb_ok aL_law_1 11 rfl) rfl ?_
  refine s_iload_n (x := nI i) (tb_ok aL_law_1 12 rfl) rfl ?_
  refine s_iconst (v := nI 1) (tb_ok aL_law_1 13 rfl) (by decide) ?_
  refine s_iadd (tb_ok aL_law_1 14 rfl) ?_
  refine s_topi (z := nI (i + 1)) (nI_add' i 1) ?_
  refine s_scr (tb_ok aL_law_1 15 rfl) (by omega) hn ?_
  refine s_aload_n (o := 1000040) (tb_ok aL_law_1 16 rfl) rfl ?_
  refine s_iload_n (x := nI i) (tb_ok aL_law_1 17 rfl) rfl ?_
  refine s_iconst (v := nI 2) (tb_ok aL_law_1 18 rfl) (by decide) ?_
  refine s_iadd (tb_ok aL_law_1 19 rfl) ?_
  refine s_topi (z := nI (i + 2)) (nI_add' i 2) ?_
  refine s_scr (tb_ok aL_law_1 20 rfl) (by omega) hn ?_
  refine s_callV (as := [.int (xs (i + 1)), .int (xs (i + 2))]) (o := 66) (n := 42) (c := 8) (tb_ok aL_law_1 21 rfl) v_RL_17 (z _) (by decide) rfl rfl rfl rfl rfl (Nat.le_of_ble_eq_true rfl) (by decide) (by decide) (fun r S2 I2 L2 R2 z => ?_)
  obtain ⟨rfl, rfl, rfl, g2⟩ := z
  refine s_icmp_eq (tgt := 1078) (tb_ok aL_law_1 22 rfl) (by decide) (fun _ => ?_) (fun h => absurd rfl h)
  exact kk _ _ _ g2
set_option maxRecDepth 100000 in
theorem law_1 {X : En} {nm : String} {n i : Nat} {xs : Nat → Int32} (hi : i + 6 ≤ n) (hn : n ≤ 3072) {q : Nat × Nat} {I : FI} {L : FL} (g : Inv q I) (kk : ∀ q' I' L', Inv q' I' → SW X 100 (mL nm) (0, 0) 1078 (LSt i) [] S0 I' L' (R0 q') (KL X n xs)) : SW X 100 (mL nm) (0, 0) 189 (LSt i) [] S0 I L (R0 q) (KL X n xs) := by
  refine s_aload_n (o := 0) (tb_ok aL_law_2 1 rfl) rfl ?_
  refine s_aload_n (o := 1000040) (tb_ok aL_law_2 2 rfl) rfl ?_
  refine s_iload_n (x := nI i) (tb_ok aL_law_2 3 rfl) rfl ?_
  refine s_iconst (v := nI 1) (tb_ok aL_law_2 4 rfl) (by decide) ?_
  refine s_iadd (tb_ok aL_law_2 5 rfl) ?_
  refine s_topi (z := nI (i + 1)) (nI_add' i 1) ?_
  refine s_scr (tb_ok aL_law_2 6 rfl) (by omega) hn ?_
  refine s_aload_n (o := 1000040) (tb_ok aL_law_2 7 rfl) rfl ?_
  refine s_iload_n (x := nI i) (tb_ok aL_law_2 8 rfl) rfl ?_
  refine s_iconst (v := nI 2) (tb_ok aL_law_2 9 rfl) (by decide) ?_
  refine s_iadd (tb_ok aL_law_2 10 rfl) ?_
  refine s_topi (z := nI (i + 2)) (nI_add' i 2) ?_
  refine s_scr (tb_ok aL_law_2 11 rfl) (by omega) hn ?_
  refine s_aload_n (o := 1000040) (tb_ok aL_law_2 12 rfl) rfl ?_
  refine s_iload_n (x := nI i) (tb_ok aL_law_2 13 rfl) rfl ?_
  refine s_iconst (v := nI 3) (tb_ok aL_law_2 14 rfl) (by decide) ?_
  refine s_iadd (tb_ok aL_law_2 15 rfl) ?_
  refine s_topi (z := nI (i + 3)) (nI_add' i 3) ?_
  refine s_scr (tb_ok aL_law_2 16 rfl) (by omega) hn ?_
  refine s_callV (as := [.int (xs (i + 1)), .int (xs (i + 2)), .int (xs (i + 3))]) (o := 0) (n := 13) (c := 7) (tb_ok aL_law_2 17 rfl) v_RL_18 (P_set _ _ _ q I L g) (by decide) rfl rfl rfl rfl rfl (Nat.le_of_ble_eq_true rfl) (by decide) (by decide) (fun r S1 I1 L1 R1 z => ?_)
  obtain ⟨rfl, rfl, q1, v, rfl, rfl, z⟩ := z
  refine s_aload_n (o := 66) (tb_ok aL_law_2 18 rfl) rfl ?_
  refine s_aload_n (o := 1000040) (tb_ok aL_law_2 19 rfl) rfl ?_
  refine s_iload_n (x := nI i) (tb_ok aL_law_2 20 rfl) rfl ?_
  refine s_iconst (v := nI 1) (tb_ok aL_law_2 21 rfl) (by decide) ?_
  refine s_iadd (tb_ok aL_law_2 22 rfl) ?_
  refine s_topi (z := nI (i + 1)) (nI_add' i 1) ?_
  refine s_scr (tb_ok aL_law_2 23 rfl) (by omega) hn ?_
  refine s_aload_n (o := 1000040) (tb_ok aL_law_3 0 rfl) rfl ?_
  refine s_iload_n (x := nI i) (tb_ok aL_law_3 1 rfl) rfl ?_
  refine s_iconst (v := nI 2) (tb_ok aL_law_3 2 rfl) (by decide) ?_
  refine s_iadd (tb_ok aL_law_3 3 rfl) ?_
  refine s_topi (z := nI (i + 2)) (nI_add' i 2) ?_
  refine s_scr (tb_ok aL_law_3 4 rfl) (by omega) hn ?_
  refine s_aload_n (o := 1000040) (tb_ok aL_law_3 5 rfl) rfl ?_
  refine s_iload_n (x := nI i) (tb_ok aL_law_3 6 rfl) rfl ?_
  refine s_iconst (v := nI 3) (tb_ok aL_law_3 7 rfl) (by decide) ?_
  refine s_iadd (tb_ok aL_law_3 8 rfl) ?_
  refine s_topi (z := nI (i + 3)) (nI_add' i 3) ?_
  refine s_scr (tb_ok aL_law_3 9 rfl) (by omega) hn ?_
  refine s_callV (as := [.int (xs (i + 1)), .int (xs (i + 2)), .int (xs (i + 3))]) (o := 66) (n := 42) (c := 8) (tb_ok aL_law_3 10 rfl) v_RL_22 (z _) (by decide) rfl rfl rfl rfl rfl (Nat.le_of_ble_eq_true rfl) (by decide) (by decide) (fun r S2 I2 L2 R2 z => ?_)
  obtain ⟨rfl, rfl, rfl, g2⟩ := z
  refine s_icmp_eq (tgt := 1078) (tb_ok aL_law_3 11 rfl) (by decide) (fun _ => ?_) (fun h => absurd rfl h)
  exact kk _ _ _ g2
set_option maxRecDepth 100000 in
theorem law_2 {X : En} {nm : String} {n i : Nat} {xs : Nat → Int32} (hi : i + 6 ≤ n) (hn : n ≤ 3072) {q : Nat × Nat} {I : FI} {L : FL} (g : Inv q I) (kk : ∀ q' I' L', Inv q' I' → SW X 100 (mL nm) (0, 0) 1078 (LSt i) [] S0 I' L' (R0 q') (KL X n xs)) : SW X 100 (mL nm) (0, 0) 232 (LSt i) [] S0 I L (R0 q) (KL X n xs) := by
  refine s_aload_n (o := 0) (tb_ok aL_law_3 14 rfl) rfl ?_
  refine s_aload_n (o := 1000040) (tb_ok aL_law_3 15 rfl) rfl ?_
  refine s_iload_n (x := nI i) (tb_ok aL_law_3 16 rfl) rfl ?_
  refine s_iconst (v := nI 1) (tb_ok aL_law_3 17 rfl) (by decide) ?_
  refine s_iadd (tb_ok aL_law_3 18 rfl) ?_
  refine s_topi (z := nI (i + 1)) (nI_add' i 1) ?_
  refine s_scr (tb_ok aL_law_3 19 rfl) (by omega) hn ?_
  refine s_aload_n (o := 1000040) (tb_ok aL_law_3 20 rfl) rfl ?_
  refine s_iload_n (x := nI i) (tb_ok aL_law_3 21 rfl) rfl ?_
  refine s_iconst (v := nI 2) (tb_ok aL_law_3 22 rfl) (by decide) ?_
  refine s_iadd (tb_ok aL_law_3 23 rfl) ?_
  refine s_topi (z := nI (i + 2)) (nI_add' i 2) ?_
  refine s_scr (tb_ok aL_law_4 0 rfl) (by omega) hn ?_
  refine s_callV (as := [.int (xs (i + 1)), .int (xs (i + 2))]) (o := 0) (n := 13) (c := 7) (tb_ok aL_law_4 1 rfl) v_RL_23 (P_house _ _ q I L g) (by decide) rfl rfl rfl rfl rfl (Nat.le_of_ble_eq_true rfl) (by decide) (by decide) (fun r S1 I1 L1 R1 z => ?_)
  obtain ⟨rfl, rfl, q1, v, rfl, rfl, z⟩ := z
  refine s_aload_n (o := 66) (tb_ok aL_law_4 2 rfl) rfl ?_
  refine s_aload_n (o := 1000040) (tb_ok aL_law_4 3 rfl) rfl ?_
  refine s_iload_n (x := nI i) (tb_ok aL_law_4 4 rfl) rfl ?_
  refine s_iconst (v := nI 1) (tb_ok aL_law_4 5 rfl) (by decide) ?_
  refine s_iadd (tb_ok aL_law_4 6 rfl) ?_
  refine s_topi (z := nI (i + 1)) (nI_add' i 1) ?_
  refine s_scr (tb_ok aL_law_4 7 rfl) (by omega) hn ?_
  refine s_aload_n (o := 1000040) (tb_ok aL_law_4 8 rfl) rfl ?_
  refine s_iload_n (x := nI i) (tb_ok aL_law_4 9 rfl) rfl ?_
  refine s_iconst (v := nI 2) (tb_ok aL_law_4 10 rfl) (by decide) ?_
  refine s_iadd (tb_ok aL_law_4 11 rfl) ?_
  refine s_topi (z := nI (i + 2)) (nI_add' i 2) ?_
  refine s_scr (tb_ok aL_law_4 12 rfl) (by omega) hn ?_
  refine s_callV (as := [.int (xs (i + 1)), .int (xs (i + 2))]) (o := 66) (n := 42) (c := 8) (tb_ok aL_law_4 13 rfl) v_RL_26 (z _) (by decide) rfl rfl rfl rfl rfl (Nat.le_of_ble_eq_true rfl) (by decide) (by decide) (fun r S2 I2 L2 R2 z => ?_)
  obtain ⟨rfl, rfl, rfl, g2⟩ := z
  refine s_icmp_eq (tgt := 1078) (tb_ok aL_law_4 14 rfl) (by decide) (fun _ => ?_) (fun h => absurd rfl h)
  exact kk _ _ _ g2
set_option maxRecDepth 100000 in
theorem law_3 {X : En} {nm : String} {n i : Nat} {xs : Nat → Int32} (hi : i + 6 ≤ n) (hn : n ≤ 3072) {q : Nat × Nat} {I : FI} {L : FL} (g : Inv q I) (kk : ∀ q' I' L', Inv q' I' → SW X 100 (mL nm) (0, 0) 1078 (LSt i) [] S0 I' L' (R0 q') (KL X n xs)) : SW X 100 (mL nm) (0, 0) 265 (LSt i) [] S0 I L (R0 q) (KL X n xs) := by
  refine s_aload_n (o := 0) (tb_ok aL_law_4 17 rfl) rfl ?_
  refine s_aload_n (o := 1000040) (tb_ok aL_law_4 18 rfl) rfl ?_
  refine s_iload_n (x := nI i) (tb_ok aL_law_4 19 rfl) rfl ?_
  refine s_iconst (v := nI 1) (tb_ok aL_law_4 20 rfl) (by decide) ?_
  refine s_iadd (tb_ok aL_law_4 21 rfl) ?_
  refine s_topi (z := nI (i + 1)) (nI_add' i 1) ?_
  refine s_scr (tb_ok aL_law_4 22 rfl) (by omega) hn ?_
  refine s_aload_n (o := 1000040) (tb_ok aL_law_4 23 rfl) rfl ?_
  refine s_iload_n (x := nI i) (tb_ok aL_law_5 0 rfl) rfl ?_
  refine s_iconst (v := nI 2) (tb_ok aL_law_5 1 rfl) (by decide) ?_
  refine s_iadd (tb_ok aL_law_5 2 rfl) ?_
  refine s_topi (z := nI (i + 2)) (nI_add' i 2) ?_
  refine s_scr (tb_ok aL_law_5 3 rfl) (by omega) hn ?_
  refine s_callV (as := [.int (xs (i + 1)), .int (xs (i + 2))]) (o := 0) (n := 13) (c := 7) (tb_ok aL_law_5 4 rfl) v_RL_27 (P_told _ _ q I L g) (by decide) rfl rfl rfl rfl rfl (Nat.le_of_ble_eq_true rfl) (by decide) (by decide) (fun r S1 I1 L1 R1 z => ?_)
  obtain ⟨rfl, rfl, q1, v, rfl, rfl, z⟩ := z
  refine s_aload_n (o := 66) (tb_ok aL_law_5 5 rfl) rfl ?_
  refine s_aload_n (o := 1000040) (tb_ok aL_law_5 6 rfl) rfl ?_
  refine s_iload_n (x := nI i) (tb_ok aL_law_5 7 rfl) rfl ?_
  refine s_iconst (v := nI 1) (tb_ok aL_law_5 8 rfl) (by decide) ?_
  refine s_iadd (tb_ok aL_law_5 9 rfl) ?_
  refine s_topi (z := nI (i + 1)) (nI_add' i 1) ?_
  refine s_scr (tb_ok aL_law_5 10 rfl) (by omega) hn ?_
  refine s_aload_n (o := 1000040) (tb_ok aL_law_5 11 rfl) rfl ?_
  refine s_iload_n (x := nI i) (tb_ok aL_law_5 12 rfl) rfl ?_
  refine s_iconst (v := nI 2) (tb_ok aL_law_5 13 rfl) (by decide) ?_
  refine s_iadd (tb_ok aL_law_5 14 rfl) ?_
  refine s_topi (z := nI (i + 2)) (nI_add' i 2) ?_
  refine s_scr (tb_ok aL_law_5 15 rfl) (by omega) hn ?_
  refine s_callV (as := [.int (xs (i + 1)), .int (xs (i + 2))]) (o := 66) (n := 42) (c := 8) (tb_ok aL_law_5 16 rfl) v_RL_30 (z _) (by decide) rfl rfl rfl rfl rfl (Nat.le_of_ble_eq_true rfl) (by decide) (by decide) (fun r S2 I2 L2 R2 z => ?_)
  obtain ⟨rfl, rfl, rfl, g2⟩ := z
  refine s_icmp_eq (tgt := 1078) (tb_ok aL_law_5 17 rfl) (by decide) (fun _ => ?_) (fun h => absurd rfl h)
  exact kk _ _ _ g2
set_option maxRecDepth 100000 in
theorem law_4 {X : En} {nm : String} {n i : Nat} {xs : Nat → Int32} (hi : i + 6 ≤ n) (hn : n ≤ 3072) {q : Nat × Nat} {I : FI} {L : FL} (g : Inv q I) (kk : ∀ q' I' L', Inv q' I' → SW X 100 (mL nm) (0, 0) 1078 (LSt i) [] S0 I' L' (R0 q') (KL X n xs)) : SW X 100 (mL nm) (0, 0) 298 (LSt i) [] S0 I L (R0 q) (KL X n xs) := by
  refine s_aload_n (o := 0) (tb_ok aL_law_5 20 rfl) rfl ?_
  refine s_aload_n (o := 1000040) (tb_ok aL_law_5 21 rfl) rfl ?_
  refine s_iload_n (x := nI i) (tb_ok aL_law_5 22 rfl) rfl ?_
  refine s_iconst (v := nI 1) (tb_ok aL_law_5 23 rfl) (by decide) ?_
  refine s_iadd (tb_ok aL_law_6 0 rfl) ?_
  refine s_topi (z := nI (i + 1)) (nI_add' i 1) ?_
  refine s_scr (tb_ok aL_law_6 1 rfl) (by omega) hn ?_
  refine s_callV (as := [.int (xs (i + 1))]) (o := 0) (n := 13) (c := 7) (tb_ok aL_law_6 2 rfl) v_RL_31 (P_feed _ q I L g) (by decide) rfl rfl rfl rfl rfl (Nat.le_of_ble_eq_true rfl) (by decide) (by decide) (fun r S1 I1 L1 R1 z => ?_)
  obtain ⟨rfl, rfl, q1, v, rfl, rfl, z⟩ := z
  refine s_aload_n (o := 66) (tb_ok aL_law_6 3 rfl) rfl ?_
  refine s_aload_n (o := 1000040) (tb_ok aL_law_6 4 rfl) rfl ?_
  refine s_iload_n (x := nI i) (tb_ok aL_law_6 5 rfl) rfl ?_
  refine s_iconst (v := nI 1) (tb_ok aL_law_6 6 rfl) (by decide) ?_
  refine s_iadd (tb_ok aL_law_6 7 rfl) ?_
  refine s_topi (z := nI (i + 1)) (nI_add' i 1) ?_
  refine s_scr (tb_ok aL_law_6 8 rfl) (by omega) hn ?_
  refine s_callV (as := [.int (xs (i + 1))]) (o := 66) (n := 42) (c := 8) (tb_ok aL_law_6 9 rfl) v_RL_35 (z _) (by decide) rfl rfl rfl rfl rfl (Nat.le_of_ble_eq_true rfl) (by decide) (by decide) (fun r S2 I2 L2 R2 z => ?_)
  obtain ⟨rfl, rfl, rfl, g2⟩ := z
  refine s_icmp_eq (tgt := 1078) (tb_ok aL_law_6 10 rfl) (by decide) (fun _ => ?_) (fun h => absurd rfl h)
  exact kk _ _ _ g2
set_option maxRecDepth 100000 in
theorem law_5 {X : En} {nm : String} {n i : Nat} {xs : Nat → Int32} (hi : i + 6 ≤ n) (hn : n ≤ 3072) {q : Nat × Nat} {I : FI} {L : FL} (g : Inv q I) (kk : ∀ q' I' L', Inv q' I' → SW X 100 (mL nm) (0, 0) 1078 (LSt i) [] S0 I' L' (R0 q') (KL X n xs)) : SW X 100 (mL nm) (0, 0) 321 (LSt i) [] S0 I L (R0 q) (KL X n xs) := by
  refine s_aload_n (o := 0) (tb_ok aL_law_6 13 rfl) rfl ?_
  refine s_callV (as := []) (o := 0) (n := 13) (c := 7) (tb_ok aL_law_6 14 rfl) v_RL_36 (P_text q I L g) (by decide) rfl rfl rfl rfl rfl (Nat.le_of_ble_eq_true rfl) (by decide) (by decide) (fun r S1 I1 L1 R1 z => ?_)
  obtain ⟨rfl, rfl, q1, v, rfl, rfl, z⟩ := z
  refine s_aload_n (o := 66) (tb_ok aL_law_6 15 rfl) rfl ?_
  refine s_callV (as := []) (o := 66) (n := 42) (c := 8) (tb_ok aL_law_6 16 rfl) v_RL_40 (z _) (by decide) rfl rfl rfl rfl rfl (Nat.le_of_ble_eq_true rfl) (by decide) (by decide) (fun r S2 I2 L2 R2 z => ?_)
  obtain ⟨rfl, rfl, rfl, g2⟩ := z
  refine s_icmp_eq (tgt := 1078) (tb_ok aL_law_6 17 rfl) (by decide) (fun _ => ?_) (fun h => absurd rfl h)
  exact kk _ _ _ g2
set_option maxRecDepth 100000 in
theorem law_6 {X : En} {nm : String} {n i : Nat} {xs : Nat → Int32} (hi : i + 6 ≤ n) (hn : n ≤ 3072) {q : Nat × Nat} {I : FI} {L : FL} (g : Inv q I) (kk : ∀ q' I' L', Inv q' I' → SW X 100 (mL nm) (0, 0) 1078 (LSt i) [] S0 I' L' (R0 q') (KL X n xs)) : SW X 100 (mL nm) (0, 0) 334 (LSt i) [] S0 I L (R0 q) (KL X n xs) := by
  refine s_aload_n (o := 0) (tb_ok aL_law_6 20 rfl) rfl ?_
  refine s_aload_n (o := 1000040) (tb_ok aL_law_6 21 rfl) rfl ?_
  refine s_iload_n (x := nI i) (tb_ok aL_law_6 22 rfl) rfl ?_
  refine s_iconst (v := nI 1) (tb_ok aL_law_6 23 rfl) (by decide) ?_
  refine s_iadd (tb_ok aL_law_7 0 rfl) ?_
  refine s_topi (z := nI (i + 1)) (nI_add' i 1) ?_
  refine s_scr (tb_ok aL_law_7 1 rfl) (by omega) hn ?_
  refine s_callV (as := [.int (xs (i + 1))]) (o := 0) (n := 13) (c := 7) (tb_ok aL_law_7 2 rfl) v_RL_41 (P_force _ q I L g) (by decide) rfl rfl rfl rfl rfl (Nat.le_of_ble_eq_true rfl) (by decide) (by decide) (fun r S1 I1 L1 R1 z => ?_)
  obtain ⟨rfl, rfl, q1, v, rfl, rfl, z⟩ := z
  refine s_aload_n (o := 66) (tb_ok aL_law_7 3 rfl) rfl ?_
  refine s_aload_n (o := 1000040) (tb_ok aL_law_7 4 rfl) rfl ?_
  refine s_iload_n (x := nI i) (tb_ok aL_law_7 5 rfl) rfl ?_
  refine s_iconst (v := nI 1) (tb_ok aL_law_7 6 rfl) (by decide) ?_
  refine s_iadd (tb_ok aL_law_7 7 rfl) ?_
  refine s_topi (z := nI (i + 1)) (nI_add' i 1) ?_
  refine s_scr (tb_ok aL_law_7 8 rfl) (by omega) hn ?_
  refine s_callV (as := [.int (xs (i + 1))]) (o := 66) (n := 42) (c := 8) (tb_ok aL_law_7 9 rfl) v_RL_44 (z _) (by decide) rfl rfl rfl rfl rfl (Nat.le_of_ble_eq_true rfl) (by decide) (by decide) (fun r S2 I2 L2 R2 z => ?_)
  obtain ⟨rfl, rfl, rfl, g2⟩ := z
  refine s_icmp_eq (tgt := 1078) (tb_ok aL_law_7 10 rfl) (by decide) (fun _ => ?_) (fun h => absurd rfl h)
  exact kk _ _ _ g2
set_option maxRecDepth 100000 in
theorem law_7 {X : En} {nm : String} {n i : Nat} {xs : Nat → Int32} (hi : i + 6 ≤ n) (hn : n ≤ 3072) {q : Nat × Nat} {I : FI} {L : FL} (g : Inv q I) (kk : ∀ q' I' L', Inv q' I' → SW X 100 (mL nm) (0, 0) 1078 (LSt i) [] S0 I' L' (R0 q') (KL X n xs)) : SW X 100 (mL nm) (0, 0) 357 (LSt i) [] S0 I L (R0 q) (KL X n xs) := by
  refine s_aload_n (o := 0) (tb_ok aL_law_7 13 rfl) rfl ?_
  refine s_aload_n (o := 1000040) (tb_ok aL_law_7 14 rfl) rfl ?_
  refine s_iload_n (x := nI i) (tb_ok aL_law_7 15 rfl) rfl ?_
  refine s_iconst (v := nI 1) (tb_ok aL_law_7 16 rfl) (by decide) ?_
  refine s_iadd (tb_ok aL_law_7 17 rfl) ?_
  refine s_topi (z := nI (i + 1)) (nI_add' i 1) ?_
  refine s_scr (tb_ok aL_law_7 18 rfl) (by omega) hn ?_
  refine s_aload_n (o := 1000040) (tb_ok aL_law_7 19 rfl) rfl ?_
  refine s_iload_n (x := nI i) (tb_ok aL_law_7 20 rfl) rfl ?_
  refine s_iconst (v := nI 2) (tb_ok aL_law_7 21 rfl) (by decide) ?_
  refine s_iadd (tb_ok aL_law_7 22 rfl) ?_
  refine s_topi (z := nI (i + 2)) (nI_add' i 2) ?_
  refine s_scr (tb_ok aL_law_7 23 rfl) (by omega) hn ?_
  refine s_callV (as := [.int (xs (i + 1)), .int (xs (i + 2))]) (o := 0) (n := 13) (c := 7) (tb_ok aL_law_8 0 rfl) v_RL_45 (P_follows _ _ q I L g) (by decide) rfl rfl rfl rfl rfl (Nat.le_of_ble_eq_true rfl) (by decide) (by decide) (fun r S1 I1 L1 R1 z => ?_)
  obtain ⟨rfl, rfl, q1, v, rfl, rfl, z⟩ := z
  refine s_aload_n (o := 66) (tb_ok aL_law_8 1 rfl) rfl ?_
  refine s_aload_n (o := 1000040) (tb_ok aL_law_8 2 rfl) rfl ?_
  refine s_iload_n (x := nI i) (tb_ok aL_law_8 3 rfl) rfl ?_
  refine s_iconst (v := nI 1) (tb_ok aL_law_8 4 rfl) (by decide) ?_
  refine s_iadd (tb_ok aL_law_8 5 rfl) ?_
  refine s_topi (z := nI (i + 1)) (nI_add' i 1) ?_
  refine s_scr (tb_ok aL_law_8 6 rfl) (by omega) hn ?_
  refine s_aload_n (o := 1000040) (tb_ok aL_law_8 7 rfl) rfl ?_
  refine s_iload_n (x := nI i) (tb_ok aL_law_8 8 rfl) rfl ?_
  refine s_iconst (v := nI 2) (tb_ok aL_law_8 9 rfl) (by decide) ?_
  refine s_iadd (tb_ok aL_law_8 10 rfl) ?_
  refine s_topi (z := nI (i + 2)) (nI_add' i 2) ?_
  refine s_scr (tb_ok aL_law_8 11 rfl) (by omega) hn ?_
  refine s_callV (as := [.int (xs (i + 1)), .int (xs (i + 2))]) (o := 66) (n := 42) (c := 8) (tb_ok aL_law_8 12 rfl) v_RL_48 (z _) (by decide) rfl rfl rfl rfl rfl (Nat.le_of_ble_eq_true rfl) (by decide) (by decide) (fun r S2 I2 L2 R2 z => ?_)
  obtain ⟨rfl, rfl, rfl, g2⟩ := z
  refine s_icmp_eq (tgt := 1078) (tb_ok aL_law_8 13 rfl) (by decide) (fun _ => ?_) (fun h => absurd rfl h)
  exact kk _ _ _ g2
set_option maxRecDepth 100000 in
theorem law_8 {X : En} {nm : String} {n i : Nat} {xs : Nat → Int32} (hi : i + 6 ≤ n) (hn : n ≤ 3072) {q : Nat × Nat} {I : FI} {L : FL} (g : Inv q I) (kk : ∀ q' I' L', Inv q' I' → SW X 100 (mL nm) (0, 0) 1078 (LSt i) [] S0 I' L' (R0 q') (KL X n xs)) : SW X 100 (mL nm) (0, 0) 390 (LSt i) [] S0 I L (R0 q) (KL X n xs) := by
  refine s_aload_n (o := 0) (tb_ok aL_law_8 16 rfl) rfl ?_
  refine s_aload_n (o := 1000040) (tb_ok aL_law_8 17 rfl) rfl ?_
  refine s_iload_n (x := nI i) (tb_ok aL_law_8 18 rfl) rfl ?_
  refine s_iconst (v := nI 1) (tb_ok aL_law_8 19 rfl) (by decide) ?_
  refine s_iadd (tb_ok aL_law_8 20 rfl) ?_
  refine s_topi (z := nI (i + 1)) (nI_add' i 1) ?_
  refine s_scr (tb_ok aL_law_8 21 rfl) (by omega) hn ?_
  refine s_callV (as := [.int (xs (i + 1))]) (o := 0) (n := 13) (c := 7) (tb_ok aL_law_8 22 rfl) v_RL_49 (P_laws _ q I L g) (by decide) rfl rfl rfl rfl rfl (Nat.le_of_ble_eq_true rfl) (by decide) (by decide) (fun r S1 I1 L1 R1 z => ?_)
  obtain ⟨rfl, rfl, q1, v, rfl, rfl, z⟩ := z
  refine s_aload_n (o := 66) (tb_ok aL_law_8 23 rfl) rfl ?_
  refine s_aload_n (o := 1000040) (tb_ok aL_law_9 0 rfl) rfl ?_
  refine s_iload_n (x := nI i) (tb_ok aL_law_9 1 rfl) rfl ?_
  refine s_iconst (v := nI 1) (tb_ok aL_law_9 2 rfl) (by decide) ?_
  refine s_iadd (tb_ok aL_law_9 3 rfl) ?_
  refine s_topi (z := nI (i + 1)) (nI_add' i 1) ?_
  refine s_scr (tb_ok aL_law_9 4 rfl) (by omega) hn ?_
  refine s_callV (as := [.int (xs (i + 1))]) (o := 66) (n := 42) (c := 8) (tb_ok aL_law_9 5 rfl) v_RL_52 (z _) (by decide) rfl rfl rfl rfl rfl (Nat.le_of_ble_eq_true rfl) (by decide) (by decide) (fun r S2 I2 L2 R2 z => ?_)
  obtain ⟨rfl, rfl, rfl, g2⟩ := z
  refine s_icmp_eq (tgt := 1078) (tb_ok aL_law_9 6 rfl) (by decide) (fun _ => ?_) (fun h => absurd rfl h)
  exact kk _ _ _ g2
set_option maxRecDepth 100000 in
theorem law_9 {X : En} {nm : String} {n i : Nat} {xs : Nat → Int32} (hi : i + 6 ≤ n) (hn : n ≤ 3072) {q : Nat × Nat} {I : FI} {L : FL} (g : Inv q I) (kk : ∀ q' I' L', Inv q' I' → SW X 100 (mL nm) (0, 0) 1078 (LSt i) [] S0 I' L' (R0 q') (KL X n xs)) : SW X 100 (mL nm) (0, 0) 413 (LSt i) [] S0 I L (R0 q) (KL X n xs) := by
  refine s_aload_n (o := 0) (tb_ok aL_law_9 9 rfl) rfl ?_
  refine s_aload_n (o := 1000040) (tb_ok aL_law_9 10 rfl) rfl ?_
  refine s_iload_n (x := nI i) (tb_ok aL_law_9 11 rfl) rfl ?_
  refine s_iconst (v := nI 1) (tb_ok aL_law_9 12 rfl) (by decide) ?_
  refine s_iadd (tb_ok aL_law_9 13 rfl) ?_
  refine s_topi (z := nI (i + 1)) (nI_add' i 1) ?_
  refine s_scr (tb_ok aL_law_9 14 rfl) (by omega) hn ?_
  refine s_aload_n (o := 1000040) (tb_ok aL_law_9 15 rfl) rfl ?_
  refine s_iload_n (x := nI i) (tb_ok aL_law_9 16 rfl) rfl ?_
  refine s_iconst (v := nI 2) (tb_ok aL_law_9 17 rfl) (by decide) ?_
  refine s_iadd (tb_ok aL_law_9 18 rfl) ?_
  refine s_topi (z := nI (i + 2)) (nI_add' i 2) ?_
  refine s_scr (tb_ok aL_law_9 19 rfl) (by omega) hn ?_
  refine s_callV (as := [.int (xs (i + 1)), .int (xs (i + 2))]) (o := 0) (n := 13) (c := 7) (tb_ok aL_law_9 20 rfl) v_RL_53 (P_tell _ _ q I L g) (by decide) rfl rfl rfl rfl rfl (Nat.le_of_ble_eq_true rfl) (by decide) (by decide) (fun r S1 I1 L1 R1 z => ?_)
  obtain ⟨rfl, rfl, q1, v, rfl, rfl, z⟩ := z
  refine s_aload_n (o := 66) (tb_ok aL_law_9 21 rfl) rfl ?_
  refine s_aload_n (o := 1000040) (tb_ok aL_law_9 22 rfl) rfl ?_
  refine s_iload_n (x := nI i) (tb_ok aL_law_9 23 rfl) rfl ?_
  refine s_iconst (v := nI 1) (tb_ok aL_law_10 0 rfl) (by decide) ?_
  refine s_iadd (tb_ok aL_law_10 1 rfl) ?_
  refine s_topi (z := nI (i + 1)) (nI_add' i 1) ?_
  refine s_scr (tb_ok aL_law_10 2 rfl) (by omega) hn ?_
  refine s_aload_n (o := 1000040) (tb_ok aL_law_10 3 rfl) rfl ?_
  refine s_iload_n (x := nI i) (tb_ok aL_law_10 4 rfl) rfl ?_
  refine s_iconst (v := nI 2) (tb_ok aL_law_10 5 rfl) (by decide) ?_
  refine s_iadd (tb_ok aL_law_10 6 rfl) ?_
  refine s_topi (z := nI (i + 2)) (nI_add' i 2) ?_
  refine s_scr (tb_ok aL_law_10 7 rfl) (by omega) hn ?_
  refine s_callV (as := [.int (xs (i + 1)), .int (xs (i + 2))]) (o := 66) (n := 42) (c := 8) (tb_ok aL_law_10 8 rfl) v_RL_56 (z _) (by decide) rfl rfl rfl rfl rfl (Nat.le_of_ble_eq_true rfl) (by decide) (by decide) (fun r S2 I2 L2 R2 z => ?_)
  obtain ⟨rfl, rfl, rfl, g2⟩ := z
  refine s_icmp_eq (tgt := 1078) (tb_ok aL_law_10 9 rfl) (by decide) (fun _ => ?_) (fun h => absurd rfl h)
  exact kk _ _ _ g2
set_option maxRecDepth 100000 in
theorem law_10 {X : En} {nm : String} {n i : Nat} {xs : Nat → Int32} (hi : i + 6 ≤ n) (hn : n ≤ 3072) {q : Nat × Nat} {I : FI} {L : FL} (g : Inv q I) (kk : ∀ q' I' L', Inv q' I' → SW X 100 (mL nm) (0, 0) 1078 (LSt i) [] S0 I' L' (R0 q') (KL X n xs)) : SW X 100 (mL nm) (0, 0) 446 (LSt i) [] S0 I L (R0 q) (KL X n xs) := by
  refine s_aload_n (o := 0) (tb_ok aL_law_10 12 rfl) rfl ?_
  refine s_callV (as := []) (o := 0) (n := 13) (c := 7) (tb_ok aL_law_10 13 rfl) v_RL_57 (P_day q I L g) (by decide) rfl rfl rfl rfl rfl (Nat.le_of_ble_eq_true rfl) (by decide) (by decide) (fun r S1 I1 L1 R1 z => ?_)
  obtain ⟨rfl, rfl, q1, v, rfl, rfl, z⟩ := z
  refine s_aload_n (o := 66) (tb_ok aL_law_10 14 rfl) rfl ?_
  refine s_callV (as := []) (o := 66) (n := 42) (c := 8) (tb_ok aL_law_10 15 rfl) v_RL_60 (z _) (by decide) rfl rfl rfl rfl rfl (Nat.le_of_ble_eq_true rfl) (by decide) (by decide) (fun r S2 I2 L2 R2 z => ?_)
  obtain ⟨rfl, rfl, rfl, g2⟩ := z
  refine s_icmp_eq (tgt := 1078) (tb_ok aL_law_10 16 rfl) (by decide) (fun _ => ?_) (fun h => absurd rfl h)
  exact kk _ _ _ g2
set_option maxRecDepth 100000 in
theorem law_11 {X : En} {nm : String} {n i : Nat} {xs : Nat → Int32} (hi : i + 6 ≤ n) (hn : n ≤ 3072) {q : Nat × Nat} {I : FI} {L : FL} (g : Inv q I) (kk : ∀ q' I' L', Inv q' I' → SW X 100 (mL nm) (0, 0) 1078 (LSt i) [] S0 I' L' (R0 q') (KL X n xs)) : SW X 100 (mL nm) (0, 0) 459 (LSt i) [] S0 I L (R0 q) (KL X n xs) := by
  refine s_aload_n (o := 0) (tb_ok aL_law_10 19 rfl) rfl ?_
  refine s_aload_n (o := 1000040) (tb_ok aL_law_10 20 rfl) rfl ?_
  refine s_iload_n (x := nI i) (tb_ok aL_law_10 21 rfl) rfl ?_
  refine s_iconst (v := nI 1) (tb_ok aL_law_10 22 rfl) (by decide) ?_
  refine s_iadd (tb_ok aL_law_10 23 rfl) ?_
  refine s_topi (z := nI (i + 1)) (nI_add' i 1) ?_
  refine s_scr (tb_ok aL_law_11 0 rfl) (by omega) hn ?_
  refine s_aload_n (o := 1000040) (tb_ok aL_law_11 1 rfl) rfl ?_
  refine s_iload_n (x := nI i) (tb_ok aL_law_11 2 rfl) rfl ?_
  refine s_iconst (v := nI 2) (tb_ok aL_law_11 3 rfl) (by decide) ?_
  refine s_iadd (tb_ok aL_law_11 4 rfl) ?_
  refine s_topi (z := nI (i + 2)) (nI_add' i 2) ?_
  refine s_scr (tb_ok aL_law_11 5 rfl) (by omega) hn ?_
  refine s_aload_n (o := 1000040) (tb_ok aL_law_11 6 rfl) rfl ?_
  refine s_iload_n (x := nI i) (tb_ok aL_law_11 7 rfl) rfl ?_
  refine s_iconst (v := nI 3) (tb_ok aL_law_11 8 rfl) (by decide) ?_
  refine s_iadd (tb_ok aL_law_11 9 rfl) ?_
  refine s_topi (z := nI (i + 3)) (nI_add' i 3) ?_
  refine s_scr (tb_ok aL_law_11 10 rfl) (by omega) hn ?_
  refine s_callV (as := [.int (xs (i + 1)), .int (xs (i + 2)), .int (xs (i + 3))]) (o := 0) (n := 13) (c := 7) (tb_ok aL_law_11 11 rfl) v_RL_61 (P_run _ _ _ q I L g) (by decide) rfl rfl rfl rfl rfl (Nat.le_of_ble_eq_true rfl) (by decide) (by decide) (fun r S1 I1 L1 R1 z => ?_)
  obtain ⟨rfl, rfl, q1, v, rfl, rfl, z⟩ := z
  refine s_aload_n (o := 66) (tb_ok aL_law_11 12 rfl) rfl ?_
  refine s_aload_n (o := 1000040) (tb_ok aL_law_11 13 rfl) rfl ?_
  refine s_iload_n (x := nI i) (tb_ok aL_law_11 14 rfl) rfl ?_
  refine s_iconst (v := nI 1) (tb_ok aL_law_11 15 rfl) (by decide) ?_
  refine s_iadd (tb_ok aL_law_11 16 rfl) ?_
  refine s_topi (z := nI (i + 1)) (nI_add' i 1) ?_
  refine s_scr (tb_ok aL_law_11 17 rfl) (by omega) hn ?_
  refine s_aload_n (o := 1000040) (tb_ok aL_law_11 18 rfl) rfl ?_
  refine s_iload_n (x := nI i) (tb_ok aL_law_11 19 rfl) rfl ?_
  refine s_iconst (v := nI 2) (tb_ok aL_law_11 20 rfl) (by decide) ?_
  refine s_iadd (tb_ok aL_law_11 21 rfl) ?_
  refine s_topi (z := nI (i + 2)) (nI_add' i 2) ?_
  refine s_scr (tb_ok aL_law_11 22 rfl) (by omega) hn ?_
  refine s_aload_n (o := 1000040) (tb_ok aL_law_11 23 rfl) rfl ?_
  refine s_iload_n (x := nI i) (tb_ok aL_law_12 0 rfl) rfl ?_
  refine s_iconst (v := nI 3) (tb_ok aL_law_12 1 rfl) (by decide) ?_
  refine s_iadd (tb_ok aL_law_12 2 rfl) ?_
  refine s_topi (z := nI (i + 3)) (nI_add' i 3) ?_
  refine s_scr (tb_ok aL_law_12 3 rfl) (by omega) hn ?_
  refine s_callV (as := [.int (xs (i + 1)), .int (xs (i + 2)), .int (xs (i + 3))]) (o := 66) (n := 42) (c := 8) (tb_ok aL_law_12 4 rfl) v_RL_64 (z _) (by decide) rfl rfl rfl rfl rfl (Nat.le_of_ble_eq_true rfl) (by decide) (by decide) (fun r S2 I2 L2 R2 z => ?_)
  obtain ⟨rfl, rfl, rfl, g2⟩ := z
  refine s_icmp_eq (tgt := 1078) (tb_ok aL_law_12 5 rfl) (by decide) (fun _ => ?_) (fun h => absurd rfl h)
  exact kk _ _ _ g2
set_option maxRecDepth 100000 in
theorem law_12 {X : En} {nm : String} {n i : Nat} {xs : Nat → Int32} (hi : i + 6 ≤ n) (hn : n ≤ 3072) {q : Nat × Nat} {I : FI} {L : FL} (g : Inv q I) (kk : ∀ q' I' L', Inv q' I' → SW X 100 (mL nm) (0, 0) 1078 (LSt i) [] S0 I' L' (R0 q') (KL X n xs)) : SW X 100 (mL nm) (0, 0) 502 (LSt i) [] S0 I L (R0 q) (KL X n xs) := by
  refine s_aload_n (o := 0) (tb_ok aL_law_12 8 rfl) rfl ?_
  refine s_aload_n (o := 1000040) (tb_ok aL_law_12 9 rfl) rfl ?_
  refine s_iload_n (x := nI i) (tb_ok aL_law_12 10 rfl) rfl ?_
  refine s_iconst (v := nI 1) (tb_ok aL_law_12 11 rfl) (by decide) ?_
  refine s_iadd (tb_ok aL_law_12 12 rfl) ?_
  refine s_topi (z := nI (i + 1)) (nI_add' i 1) ?_
  refine s_scr (tb_ok aL_law_12 13 rfl) (by omega) hn ?_
  refine s_aload_n (o := 1000040) (tb_ok aL_law_12 14 rfl) rfl ?_
  refine s_iload_n (x := nI i) (tb_ok aL_law_12 15 rfl) rfl ?_
  refine s_iconst (v := nI 2) (tb_ok aL_law_12 16 rfl) (by decide) ?_
  refine s_iadd (tb_ok aL_law_12 17 rfl) ?_
  refine s_topi (z := nI (i + 2)) (nI_add' i 2) ?_
  refine s_scr (tb_ok aL_law_12 18 rfl) (by omega) hn ?_
  refine s_aload_n (o := 1000040) (tb_ok aL_law_12 19 rfl) rfl ?_
  refine s_iload_n (x := nI i) (tb_ok aL_law_12 20 rfl) rfl ?_
  refine s_iconst (v := nI 3) (tb_ok aL_law_12 21 rfl) (by decide) ?_
  refine s_iadd (tb_ok aL_law_12 22 rfl) ?_
  refine s_topi (z := nI (i + 3)) (nI_add' i 3) ?_
  refine s_scr (tb_ok aL_law_12 23 rfl) (by omega) hn ?_
  refine s_callV (as := [.int (xs (i + 1)), .int (xs (i + 2)), .int (xs (i + 3))]) (o := 0) (n := 13) (c := 7) (tb_ok aL_law_13 0 rfl) v_RL_65 (P_asks _ _ _ q I L g) (by decide) rfl rfl rfl rfl rfl (Nat.le_of_ble_eq_true rfl) (by decide) (by decide) (fun r S1 I1 L1 R1 z => ?_)
  obtain ⟨rfl, rfl, q1, v, rfl, rfl, z⟩ := z
  refine s_aload_n (o := 66) (tb_ok aL_law_13 1 rfl) rfl ?_
  refine s_aload_n (o := 1000040) (tb_ok aL_law_13 2 rfl) rfl ?_
  refine s_iload_n (x := nI i) (tb_ok aL_law_13 3 rfl) rfl ?_
  refine s_iconst (v := nI 1) (tb_ok aL_law_13 4 rfl) (by decide) ?_
  refine s_iadd (tb_ok aL_law_13 5 rfl) ?_
  refine s_topi (z := nI (i + 1)) (nI_add' i 1) ?_
  refine s_scr (tb_ok aL_law_13 6 rfl) (by omega) hn ?_
  refine s_aload_n (o := 1000040) (tb_ok aL_law_13 7 rfl) rfl ?_
  refine s_iload_n (x := nI i) (tb_ok aL_law_13 8 rfl) rfl ?_
  refine s_iconst (v := nI 2) (tb_ok aL_law_13 9 rfl) (by decide) ?_
  refine s_iadd (tb_ok aL_law_13 10 rfl) ?_
  refine s_topi (z := nI (i + 2)) (nI_add' i 2) ?_
  refine s_scr (tb_ok aL_law_13 11 rfl) (by omega) hn ?_
  refine s_aload_n (o := 1000040) (tb_ok aL_law_13 12 rfl) rfl ?_
  refine s_iload_n (x := nI i) (tb_ok aL_law_13 13 rfl) rfl ?_
  refine s_iconst (v := nI 3) (tb_ok aL_law_13 14 rfl) (by decide) ?_
  refine s_iadd (tb_ok aL_law_13 15 rfl) ?_
  refine s_topi (z := nI (i + 3)) (nI_add' i 3) ?_
  refine s_scr (tb_ok aL_law_13 16 rfl) (by omega) hn ?_
  refine s_callV (as := [.int (xs (i + 1)), .int (xs (i + 2)), .int (xs (i + 3))]) (o := 66) (n := 42) (c := 8) (tb_ok aL_law_13 17 rfl) v_RL_68 (z _) (by decide) rfl rfl rfl rfl rfl (Nat.le_of_ble_eq_true rfl) (by decide) (by decide) (fun r S2 I2 L2 R2 z => ?_)
  obtain ⟨rfl, rfl, rfl, g2⟩ := z
  refine s_icmp_eq (tgt := 1078) (tb_ok aL_law_13 18 rfl) (by decide) (fun _ => ?_) (fun h => absurd rfl h)
  exact kk _ _ _ g2
set_option maxRecDepth 100000 in
theorem law_13 {X : En} {nm : String} {n i : Nat} {xs : Nat → Int32} (hi : i + 6 ≤ n) (hn : n ≤ 3072) {q : Nat × Nat} {I : FI} {L : FL} (g : Inv q I) (kk : ∀ q' I' L', Inv q' I' → SW X 100 (mL nm) (0, 0) 1078 (LSt i) [] S0 I' L' (R0 q') (KL X n xs)) : SW X 100 (mL nm) (0, 0) 545 (LSt i) [] S0 I L (R0 q) (KL X n xs) := by
  refine s_aload_n (o := 0) (tb_ok aL_law_13 21 rfl) rfl ?_
  refine s_aload_n (o := 1000040) (tb_ok aL_law_13 22 rfl) rfl ?_
  refine s_iload_n (x := nI i) (tb_ok aL_law_13 23 rfl) rfl ?_
  refine s_iconst (v := nI 1) (tb_ok aL_law_14 0 rfl) (by decide) ?_
  refine s_iadd (tb_ok aL_law_14 1 rfl) ?_
  refine s_topi (z := nI (i + 1)) (nI_add' i 1) ?_
  refine s_scr (tb_ok aL_law_14 2 rfl) (by omega) hn ?_
  refine s_aload_n (o := 1000040) (tb_ok aL_law_14 3 rfl) rfl ?_
  refine s_iload_n (x := nI i) (tb_ok aL_law_14 4 rfl) rfl ?_
  refine s_iconst (v := nI 2) (tb_ok aL_law_14 5 rfl) (by decide) ?_
  refine s_iadd (tb_ok aL_law_14 6 rfl) ?_
  refine s_topi (z := nI (i + 2)) (nI_add' i 2) ?_
  refine s_scr (tb_ok aL_law_14 7 rfl) (by omega) hn ?_
  refine s_aload_n (o := 1000040) (tb_ok aL_law_14 8 rfl) rfl ?_
  refine s_iload_n (x := nI i) (tb_ok aL_law_14 9 rfl) rfl ?_
  refine s_iconst (v := nI 3) (tb_ok aL_law_14 10 rfl) (by decide) ?_
  refine s_iadd (tb_ok aL_law_14 11 rfl) ?_
  refine s_topi (z := nI (i + 3)) (nI_add' i 3) ?_
  refine s_scr (tb_ok aL_law_14 12 rfl) (by omega) hn ?_
  refine s_callV (as := [.int (xs (i + 1)), .int (xs (i + 2)), .int (xs (i + 3))]) (o := 0) (n := 13) (c := 7) (tb_ok aL_law_14 13 rfl) v_RL_69 (P_best _ _ _ q I L g) (by decide) rfl rfl rfl rfl rfl (Nat.le_of_ble_eq_true rfl) (by decide) (by decide) (fun r S1 I1 L1 R1 z => ?_)
  obtain ⟨rfl, rfl, q1, v, rfl, rfl, z⟩ := z
  refine s_aload_n (o := 66) (tb_ok aL_law_14 14 rfl) rfl ?_
  refine s_aload_n (o := 1000040) (tb_ok aL_law_14 15 rfl) rfl ?_
  refine s_iload_n (x := nI i) (tb_ok aL_law_14 16 rfl) rfl ?_
  refine s_iconst (v := nI 1) (tb_ok aL_law_14 17 rfl) (by decide) ?_
  refine s_iadd (tb_ok aL_law_14 18 rfl) ?_
  refine s_topi (z := nI (i + 1)) (nI_add' i 1) ?_
  refine s_scr (tb_ok aL_law_14 19 rfl) (by omega) hn ?_
  refine s_aload_n (o := 1000040) (tb_ok aL_law_14 20 rfl) rfl ?_
  refine s_iload_n (x := nI i) (tb_ok aL_law_14 21 rfl) rfl ?_
  refine s_iconst (v := nI 2) (tb_ok aL_law_14 22 rfl) (by decide) ?_
  refine s_iadd (tb_ok aL_law_14 23 rfl) ?_
  refine s_topi (z := nI (i + 2)) (nI_add' i 2) ?_
  refine s_scr (tb_ok aL_law_15 0 rfl) (by omega) hn ?_
  refine s_aload_n (o := 1000040) (tb_ok aL_law_15 1 rfl) rfl ?_
  refine s_iload_n (x := nI i) (tb_ok aL_law_15 2 rfl) rfl ?_
  refine s_iconst (v := nI 3) (tb_ok aL_law_15 3 rfl) (by decide) ?_
  refine s_iadd (tb_ok aL_law_15 4 rfl) ?_
  refine s_topi (z := nI (i + 3)) (nI_add' i 3) ?_
  refine s_scr (tb_ok aL_law_15 5 rfl) (by omega) hn ?_
  refine s_callV (as := [.int (xs (i + 1)), .int (xs (i + 2)), .int (xs (i + 3))]) (o := 66) (n := 42) (c := 8) (tb_ok aL_law_15 6 rfl) v_RL_72 (z _) (by decide) rfl rfl rfl rfl rfl (Nat.le_of_ble_eq_true rfl) (by decide) (by decide) (fun r S2 I2 L2 R2 z => ?_)
  obtain ⟨rfl, rfl, rfl, g2⟩ := z
  refine s_icmp_eq (tgt := 1078) (tb_ok aL_law_15 7 rfl) (by decide) (fun _ => ?_) (fun h => absurd rfl h)
  exact kk _ _ _ g2
set_option maxRecDepth 100000 in
theorem law_14 {X : En} {nm : String} {n i : Nat} {xs : Nat → Int32} (hi : i + 6 ≤ n) (hn : n ≤ 3072) {q : Nat × Nat} {I : FI} {L : FL} (g : Inv q I) (kk : ∀ q' I' L', Inv q' I' → SW X 100 (mL nm) (0, 0) 1078 (LSt i) [] S0 I' L' (R0 q') (KL X n xs)) : SW X 100 (mL nm) (0, 0) 588 (LSt i) [] S0 I L (R0 q) (KL X n xs) := by
  refine s_aload_n (o := 0) (tb_ok aL_law_15 10 rfl) rfl ?_
  refine s_aload_n (o := 1000040) (tb_ok aL_law_15 11 rfl) rfl ?_
  refine s_iload_n (x := nI i) (tb_ok aL_law_15 12 rfl) rfl ?_
  refine s_iconst (v := nI 1) (tb_ok aL_law_15 13 rfl) (by decide) ?_
  refine s_iadd (tb_ok aL_law_15 14 rfl) ?_
  refine s_topi (z := nI (i + 1)) (nI_add' i 1) ?_
  refine s_scr (tb_ok aL_law_15 15 rfl) (by omega) hn ?_
  refine s_aload_n (o := 1000040) (tb_ok aL_law_15 16 rfl) rfl ?_
  refine s_iload_n (x := nI i) (tb_ok aL_law_15 17 rfl) rfl ?_
  refine s_iconst (v := nI 2) (tb_ok aL_law_15 18 rfl) (by decide) ?_
  refine s_iadd (tb_ok aL_law_15 19 rfl) ?_
  refine s_topi (z := nI (i + 2)) (nI_add' i 2) ?_
  refine s_scr (tb_ok aL_law_15 20 rfl) (by omega) hn ?_
  refine s_aload_n (o := 1000040) (tb_ok aL_law_15 21 rfl) rfl ?_
  refine s_iload_n (x := nI i) (tb_ok aL_law_15 22 rfl) rfl ?_
  refine s_iconst (v := nI 3) (tb_ok aL_law_15 23 rfl) (by decide) ?_
  refine s_iadd (tb_ok aL_law_16 0 rfl) ?_
  refine s_topi (z := nI (i + 3)) (nI_add' i 3) ?_
  refine s_scr (tb_ok aL_law_16 1 rfl) (by omega) hn ?_
  refine s_callV (as := [.int (xs (i + 1)), .int (xs (i + 2)), .int (xs (i + 3))]) (o := 0) (n := 13) (c := 7) (tb_ok aL_law_16 2 rfl) v_RL_73 (P_whom _ _ _ q I L g) (by decide) rfl rfl rfl rfl rfl (Nat.le_of_ble_eq_true rfl) (by decide) (by decide) (fun r S1 I1 L1 R1 z => ?_)
  obtain ⟨rfl, rfl, q1, v, rfl, rfl, z⟩ := z
  refine s_aload_n (o := 66) (tb_ok aL_law_16 3 rfl) rfl ?_
  refine s_aload_n (o := 1000040) (tb_ok aL_law_16 4 rfl) rfl ?_
  refine s_iload_n (x := nI i) (tb_ok aL_law_16 5 rfl) rfl ?_
  refine s_iconst (v := nI 1) (tb_ok aL_law_16 6 rfl) (by decide) ?_
  refine s_iadd (tb_ok aL_law_16 7 rfl) ?_
  refine s_topi (z := nI (i + 1)) (nI_add' i 1) ?_
  refine s_scr (tb_ok aL_law_16 8 rfl) (by omega) hn ?_
  refine s_aload_n (o := 1000040) (tb_ok aL_law_16 9 rfl) rfl ?_
  refine s_iload_n (x := nI i) (tb_ok aL_law_16 10 rfl) rfl ?_
  refine s_iconst (v := nI 2) (tb_ok aL_law_16 11 rfl) (by decide) ?_
  refine s_iadd (tb_ok aL_law_16 12 rfl) ?_
  refine s_topi (z := nI (i + 2)) (nI_add' i 2) ?_
  refine s_scr (tb_ok aL_law_16 13 rfl) (by omega) hn ?_
  refine s_aload_n (o := 1000040) (tb_ok aL_law_16 14 rfl) rfl ?_
  refine s_iload_n (x := nI i) (tb_ok aL_law_16 15 rfl) rfl ?_
  refine s_iconst (v := nI 3) (tb_ok aL_law_16 16 rfl) (by decide) ?_
  refine s_iadd (tb_ok aL_law_16 17 rfl) ?_
  refine s_topi (z := nI (i + 3)) (nI_add' i 3) ?_
  refine s_scr (tb_ok aL_law_16 18 rfl) (by omega) hn ?_
  refine s_callV (as := [.int (xs (i + 1)), .int (xs (i + 2)), .int (xs (i + 3))]) (o := 66) (n := 42) (c := 8) (tb_ok aL_law_16 19 rfl) v_RL_76 (z _) (by decide) rfl rfl rfl rfl rfl (Nat.le_of_ble_eq_true rfl) (by decide) (by decide) (fun r S2 I2 L2 R2 z => ?_)
  obtain ⟨rfl, rfl, rfl, g2⟩ := z
  refine s_icmp_eq (tgt := 1078) (tb_ok aL_law_16 20 rfl) (by decide) (fun _ => ?_) (fun h => absurd rfl h)
  exact kk _ _ _ g2
set_option maxRecDepth 100000 in
theorem law_15 {X : En} {nm : String} {n i : Nat} {xs : Nat → Int32} (hi : i + 6 ≤ n) (hn : n ≤ 3072) {q : Nat × Nat} {I : FI} {L : FL} (g : Inv q I) (kk : ∀ q' I' L', Inv q' I' → SW X 100 (mL nm) (0, 0) 1078 (LSt i) [] S0 I' L' (R0 q') (KL X n xs)) : SW X 100 (mL nm) (0, 0) 631 (LSt i) [] S0 I L (R0 q) (KL X n xs) := by
  refine s_aload_n (o := 0) (tb_ok aL_law_16 23 rfl) rfl ?_
  refine s_aload_n (o := 1000040) (tb_ok aL_law_17 0 rfl) rfl ?_
  refine s_iload_n (x := nI i) (tb_ok aL_law_17 1 rfl) rfl ?_
  refine s_iconst (v := nI 1) (tb_ok aL_law_17 2 rfl) (by decide) ?_
  refine s_iadd (tb_ok aL_law_17 3 rfl) ?_
  refine s_topi (z := nI (i + 1)) (nI_add' i 1) ?_
  refine s_scr (tb_ok aL_law_17 4 rfl) (by omega) hn ?_
  refine s_aload_n (o := 1000040) (tb_ok aL_law_17 5 rfl) rfl ?_
  refine s_iload_n (x := nI i) (tb_ok aL_law_17 6 rfl) rfl ?_
  refine s_iconst (v := nI 2) (tb_ok aL_law_17 7 rfl) (by decide) ?_
  refine s_iadd (tb_ok aL_law_17 8 rfl) ?_
  refine s_topi (z := nI (i + 2)) (nI_add' i 2) ?_
  refine s_scr (tb_ok aL_law_17 9 rfl) (by omega) hn ?_
  refine s_aload_n (o := 1000040) (tb_ok aL_law_17 10 rfl) rfl ?_
  refine s_iload_n (x := nI i) (tb_ok aL_law_17 11 rfl) rfl ?_
  refine s_iconst (v := nI 3) (tb_ok aL_law_17 12 rfl) (by decide) ?_
  refine s_iadd (tb_ok aL_law_17 13 rfl) ?_
  refine s_topi (z := nI (i + 3)) (nI_add' i 3) ?_
  refine s_scr (tb_ok aL_law_17 14 rfl) (by omega) hn ?_
  refine s_callV (as := [.int (xs (i + 1)), .int (xs (i + 2)), .int (xs (i + 3))]) (o := 0) (n := 13) (c := 7) (tb_ok aL_law_17 15 rfl) v_RL_77 (P_tells _ _ _ q I L g) (by decide) rfl rfl rfl rfl rfl (Nat.le_of_ble_eq_true rfl) (by decide) (by decide) (fun r S1 I1 L1 R1 z => ?_)
  obtain ⟨rfl, rfl, q1, v, rfl, rfl, z⟩ := z
  refine s_aload_n (o := 66) (tb_ok aL_law_17 16 rfl) rfl ?_
  refine s_aload_n (o := 1000040) (tb_ok aL_law_17 17 rfl) rfl ?_
  refine s_iload_n (x := nI i) (tb_ok aL_law_17 18 rfl) rfl ?_
  refine s_iconst (v := nI 1) (tb_ok aL_law_17 19 rfl) (by decide) ?_
  refine s_iadd (tb_ok aL_law_17 20 rfl) ?_
  refine s_topi (z := nI (i + 1)) (nI_add' i 1) ?_
  refine s_scr (tb_ok aL_law_17 21 rfl) (by omega) hn ?_
  refine s_aload_n (o := 1000040) (tb_ok aL_law_17 22 rfl) rfl ?_
  refine s_iload_n (x := nI i) (tb_ok aL_law_17 23 rfl) rfl ?_
  refine s_iconst (v := nI 2) (tb_ok aL_law_18 0 rfl) (by decide) ?_
  refine s_iadd (tb_ok aL_law_18 1 rfl) ?_
  refine s_topi (z := nI (i + 2)) (nI_add' i 2) ?_
  refine s_scr (tb_ok aL_law_18 2 rfl) (by omega) hn ?_
  refine s_aload_n (o := 1000040) (tb_ok aL_law_18 3 rfl) rfl ?_
  refine s_iload_n (x := nI i) (tb_ok aL_law_18 4 rfl) rfl ?_
  refine s_iconst (v := nI 3) (tb_ok aL_law_18 5 rfl) (by decide) ?_
  refine s_iadd (tb_ok aL_law_18 6 rfl) ?_
  refine s_topi (z := nI (i + 3)) (nI_add' i 3) ?_
  refine s_scr (tb_ok aL_law_18 7 rfl) (by omega) hn ?_
  refine s_callV (as := [.int (xs (i + 1)), .int (xs (i + 2)), .int (xs (i + 3))]) (o := 66) (n := 42) (c := 8) (tb_ok aL_law_18 8 rfl) v_RL_80 (z _) (by decide) rfl rfl rfl rfl rfl (Nat.le_of_ble_eq_true rfl) (by decide) (by decide) (fun r S2 I2 L2 R2 z => ?_)
  obtain ⟨rfl, rfl, rfl, g2⟩ := z
  refine s_icmp_eq (tgt := 1078) (tb_ok aL_law_18 9 rfl) (by decide) (fun _ => ?_) (fun h => absurd rfl h)
  exact kk _ _ _ g2
set_option maxRecDepth 100000 in
theorem law_16 {X : En} {nm : String} {n i : Nat} {xs : Nat → Int32} (hi : i + 6 ≤ n) (hn : n ≤ 3072) {q : Nat × Nat} {I : FI} {L : FL} (g : Inv q I) (kk : ∀ q' I' L', Inv q' I' → SW X 100 (mL nm) (0, 0) 1078 (LSt i) [] S0 I' L' (R0 q') (KL X n xs)) : SW X 100 (mL nm) (0, 0) 674 (LSt i) [] S0 I L (R0 q) (KL X n xs) := by
  refine s_aload_n (o := 0) (tb_ok aL_law_18 12 rfl) rfl ?_
  refine s_aload_n (o := 1000040) (tb_ok aL_law_18 13 rfl) rfl ?_
  refine s_iload_n (x := nI i) (tb_ok aL_law_18 14 rfl) rfl ?_
  refine s_iconst (v := nI 1) (tb_ok aL_law_18 15 rfl) (by decide) ?_
  refine s_iadd (tb_ok aL_law_18 16 rfl) ?_
  refine s_topi (z := nI (i + 1)) (nI_add' i 1) ?_
  refine s_scr (tb_ok aL_law_18 17 rfl) (by omega) hn ?_
  refine s_aload_n (o := 1000040) (tb_ok aL_law_18 18 rfl) rfl ?_
  refine s_iload_n (x := nI i) (tb_ok aL_law_18 19 rfl) rfl ?_
  refine s_iconst (v := nI 2) (tb_ok aL_law_18 20 rfl) (by decide) ?_
  refine s_iadd (tb_ok aL_law_18 21 rfl) ?_
  refine s_topi (z := nI (i + 2)) (nI_add' i 2) ?_
  refine s_scr (tb_ok aL_law_18 22 rfl) (by omega) hn ?_
  refine s_aload_n (o := 1000040) (tb_ok aL_law_18 23 rfl) rfl ?_
  refine s_iload_n (x := nI i) (tb_ok aL_law_19 0 rfl) rfl ?_
  refine s_iconst (v := nI 3) (tb_ok aL_law_19 1 rfl) (by decide) ?_
  refine s_iadd (tb_ok aL_law_19 2 rfl) ?_
  refine s_topi (z := nI (i + 3)) (nI_add' i 3) ?_
  refine s_scr (tb_ok aL_law_19 3 rfl) (by omega) hn ?_
  refine s_callV (as := [.int (xs (i + 1)), .int (xs (i + 2)), .int (xs (i + 3))]) (o := 0) (n := 13) (c := 7) (tb_ok aL_law_19 4 rfl) v_RL_81 (P_film _ _ _ q I L g) (by decide) rfl rfl rfl rfl rfl (Nat.le_of_ble_eq_true rfl) (by decide) (by decide) (fun r S1 I1 L1 R1 z => ?_)
  obtain ⟨rfl, rfl, q1, v, rfl, rfl, z⟩ := z
  refine s_aload_n (o := 66) (tb_ok aL_law_19 5 rfl) rfl ?_
  refine s_aload_n (o := 1000040) (tb_ok aL_law_19 6 rfl) rfl ?_
  refine s_iload_n (x := nI i) (tb_ok aL_law_19 7 rfl) rfl ?_
  refine s_iconst (v := nI 1) (tb_ok aL_law_19 8 rfl) (by decide) ?_
  refine s_iadd (tb_ok aL_law_19 9 rfl) ?_
  refine s_topi (z := nI (i + 1)) (nI_add' i 1) ?_
  refine s_scr (tb_ok aL_law_19 10 rfl) (by omega) hn ?_
  refine s_aload_n (o := 1000040) (tb_ok aL_law_19 11 rfl) rfl ?_
  refine s_iload_n (x := nI i) (tb_ok aL_law_19 12 rfl) rfl ?_
  refine s_iconst (v := nI 2) (tb_ok aL_law_19 13 rfl) (by decide) ?_
  refine s_iadd (tb_ok aL_law_19 14 rfl) ?_
  refine s_topi (z := nI (i + 2)) (nI_add' i 2) ?_
  refine s_scr (tb_ok aL_law_19 15 rfl) (by omega) hn ?_
  refine s_aload_n (o := 1000040) (tb_ok aL_law_19 16 rfl) rfl ?_
  refine s_iload_n (x := nI i) (tb_ok aL_law_19 17 rfl) rfl ?_
  refine s_iconst (v := nI 3) (tb_ok aL_law_19 18 rfl) (by decide) ?_
  refine s_iadd (tb_ok aL_law_19 19 rfl) ?_
  refine s_topi (z := nI (i + 3)) (nI_add' i 3) ?_
  refine s_scr (tb_ok aL_law_19 20 rfl) (by omega) hn ?_
  refine s_callV (as := [.int (xs (i + 1)), .int (xs (i + 2)), .int (xs (i + 3))]) (o := 66) (n := 42) (c := 8) (tb_ok aL_law_19 21 rfl) v_RL_84 (z _) (by decide) rfl rfl rfl rfl rfl (Nat.le_of_ble_eq_true rfl) (by decide) (by decide) (fun r S2 I2 L2 R2 z => ?_)
  obtain ⟨rfl, rfl, rfl, g2⟩ := z
  refine s_icmp_eq (tgt := 1078) (tb_ok aL_law_19 22 rfl) (by decide) (fun _ => ?_) (fun h => absurd rfl h)
  exact kk _ _ _ g2
set_option maxRecDepth 100000 in
theorem law_17 {X : En} {nm : String} {n i : Nat} {xs : Nat → Int32} (hi : i + 6 ≤ n) (hn : n ≤ 3072) {q : Nat × Nat} {I : FI} {L : FL} (g : Inv q I) (kk : ∀ q' I' L', Inv q' I' → SW X 100 (mL nm) (0, 0) 1078 (LSt i) [] S0 I' L' (R0 q') (KL X n xs)) : SW X 100 (mL nm) (0, 0) 717 (LSt i) [] S0 I L (R0 q) (KL X n xs) := by
  refine s_aload_n (o := 0) (tb_ok aL_law_20 1 rfl) rfl ?_
  refine s_aload_n (o := 1000040) (tb_ok aL_law_20 2 rfl) rfl ?_
  refine s_iload_n (x := nI i) (tb_ok aL_law_20 3 rfl) rfl ?_
  refine s_iconst (v := nI 1) (tb_ok aL_law_20 4 rfl) (by decide) ?_
  refine s_iadd (tb_ok aL_law_20 5 rfl) ?_
  refine s_topi (z := nI (i + 1)) (nI_add' i 1) ?_
  refine s_scr (tb_ok aL_law_20 6 rfl) (by omega) hn ?_
  refine s_callV (as := [.int (xs (i + 1))]) (o := 0) (n := 13) (c := 7) (tb_ok aL_law_20 7 rfl) v_RL_85 (P_drawn _ q I L g) (by decide) rfl rfl rfl rfl rfl (Nat.le_of_ble_eq_true rfl) (by decide) (by decide) (fun r S1 I1 L1 R1 z => ?_)
  obtain ⟨rfl, rfl, q1, v, rfl, rfl, z⟩ := z
  refine s_aload_n (o := 66) (tb_ok aL_law_20 8 rfl) rfl ?_
  refine s_aload_n (o := 1000040) (tb_ok aL_law_20 9 rfl) rfl ?_
  refine s_iload_n (x := nI i) (tb_ok aL_law_20 10 rfl) rfl ?_
  refine s_iconst (v := nI 1) (tb_ok aL_law_20 11 rfl) (by decide) ?_
  refine s_iadd (tb_ok aL_law_20 12 rfl) ?_
  refine s_topi (z := nI (i + 1)) (nI_add' i 1) ?_
  refine s_scr (tb_ok aL_law_20 13 rfl) (by omega) hn ?_
  refine s_callV (as := [.int (xs (i + 1))]) (o := 66) (n := 42) (c := 8) (tb_ok aL_law_20 14 rfl) v_RL_88 (z _) (by decide) rfl rfl rfl rfl rfl (Nat.le_of_ble_eq_true rfl) (by decide) (by decide) (fun r S2 I2 L2 R2 z => ?_)
  obtain ⟨rfl, rfl, rfl, g2⟩ := z
  refine s_icmp_eq (tgt := 1078) (tb_ok aL_law_20 15 rfl) (by decide) (fun _ => ?_) (fun h => absurd rfl h)
  exact kk _ _ _ g2
set_option maxRecDepth 100000 in
theorem law_18 {X : En} {nm : String} {n i : Nat} {xs : Nat → Int32} (hi : i + 6 ≤ n) (hn : n ≤ 3072) {q : Nat × Nat} {I : FI} {L : FL} (g : Inv q I) (kk : ∀ q' I' L', Inv q' I' → SW X 100 (mL nm) (0, 0) 1078 (LSt i) [] S0 I' L' (R0 q') (KL X n xs)) : SW X 100 (mL nm) (0, 0) 740 (LSt i) [] S0 I L (R0 q) (KL X n xs) := by
  refine s_aload_n (o := 0) (tb_ok aL_law_20 18 rfl) rfl ?_
  refine s_aload_n (o := 1000040) (tb_ok aL_law_20 19 rfl) rfl ?_
  refine s_iload_n (x := nI i) (tb_ok aL_law_20 20 rfl) rfl ?_
  refine s_iconst (v := nI 1) (tb_ok aL_law_20 21 rfl) (by decide) ?_
  refine s_iadd (tb_ok aL_law_20 22 rfl) ?_
  refine s_topi (z := nI (i + 1)) (nI_add' i 1) ?_
  refine s_scr (tb_ok aL_law_20 23 rfl) (by omega) hn ?_
  refine s_aload_n (o := 1000040) (tb_ok aL_law_21 0 rfl) rfl ?_
  refine s_iload_n (x := nI i) (tb_ok aL_law_21 1 rfl) rfl ?_
  refine s_iconst (v := nI 2) (tb_ok aL_law_21 2 rfl) (by decide) ?_
  refine s_iadd (tb_ok aL_law_21 3 rfl) ?_
  refine s_topi (z := nI (i + 2)) (nI_add' i 2) ?_
  refine s_scr (tb_ok aL_law_21 4 rfl) (by omega) hn ?_
  refine s_aload_n (o := 1000040) (tb_ok aL_law_21 5 rfl) rfl ?_
  refine s_iload_n (x := nI i) (tb_ok aL_law_21 6 rfl) rfl ?_
  refine s_iconst (v := nI 3) (tb_ok aL_law_21 7 rfl) (by decide) ?_
  refine s_iadd (tb_ok aL_law_21 8 rfl) ?_
  refine s_topi (z := nI (i + 3)) (nI_add' i 3) ?_
  refine s_scr (tb_ok aL_law_21 9 rfl) (by omega) hn ?_
  refine s_aload_n (o := 1000040) (tb_ok aL_law_21 10 rfl) rfl ?_
  refine s_iload_n (x := nI i) (tb_ok aL_law_21 11 rfl) rfl ?_
  refine s_iconst (v := nI 4) (tb_ok aL_law_21 12 rfl) (by decide) ?_
  refine s_iadd (tb_ok aL_law_21 13 rfl) ?_
  refine s_topi (z := nI (i + 4)) (nI_add' i 4) ?_
  refine s_scr (tb_ok aL_law_21 14 rfl) (by omega) hn ?_
  refine s_callV (as := [.int (xs (i + 1)), .int (xs (i + 2)), .int (xs (i + 3)), .int (xs (i + 4))]) (o := 0) (n := 13) (c := 7) (tb_ok aL_law_21 15 rfl) v_RL_89 (P_chance _ _ _ _ q I L g) (by decide) rfl rfl rfl rfl rfl (Nat.le_of_ble_eq_true rfl) (by decide) (by decide) (fun r S1 I1 L1 R1 z => ?_)
  obtain ⟨rfl, rfl, q1, v, rfl, rfl, z⟩ := z
  refine s_aload_n (o := 66) (tb_ok aL_law_21 16 rfl) rfl ?_
  refine s_aload_n (o := 1000040) (tb_ok aL_law_21 17 rfl) rfl ?_
  refine s_iload_n (x := nI i) (tb_ok aL_law_21 18 rfl) rfl ?_
  refine s_iconst (v := nI 1) (tb_ok aL_law_21 19 rfl) (by decide) ?_
  refine s_iadd (tb_ok aL_law_21 20 rfl) ?_
  refine s_topi (z := nI (i + 1)) (nI_add' i 1) ?_
  refine s_scr (tb_ok aL_law_21 21 rfl) (by omega) hn ?_
  refine s_aload_n (o := 1000040) (tb_ok aL_law_21 22 rfl) rfl ?_
  refine s_iload_n (x := nI i) (tb_ok aL_law_21 23 rfl) rfl ?_
  refine s_iconst (v := nI 2) (tb_ok aL_law_22 0 rfl) (by decide) ?_
  refine s_iadd (tb_ok aL_law_22 1 rfl) ?_
  refine s_topi (z := nI (i + 2)) (nI_add' i 2) ?_
  refine s_scr (tb_ok aL_law_22 2 rfl) (by omega) hn ?_
  refine s_aload_n (o := 1000040) (tb_ok aL_law_22 3 rfl) rfl ?_
  refine s_iload_n (x := nI i) (tb_ok aL_law_22 4 rfl) rfl ?_
  refine s_iconst (v := nI 3) (tb_ok aL_law_22 5 rfl) (by decide) ?_
  refine s_iadd (tb_ok aL_law_22 6 rfl) ?_
  refine s_topi (z := nI (i + 3)) (nI_add' i 3) ?_
  refine s_scr (tb_ok aL_law_22 7 rfl) (by omega) hn ?_
  refine s_aload_n (o := 1000040) (tb_ok aL_law_22 8 rfl) rfl ?_
  refine s_iload_n (x := nI i) (tb_ok aL_law_22 9 rfl) rfl ?_
  refine s_iconst (v := nI 4) (tb_ok aL_law_22 10 rfl) (by decide) ?_
  refine s_iadd (tb_ok aL_law_22 11 rfl) ?_
  refine s_topi (z := nI (i + 4)) (nI_add' i 4) ?_
  refine s_scr (tb_ok aL_law_22 12 rfl) (by omega) hn ?_
  refine s_callV (as := [.int (xs (i + 1)), .int (xs (i + 2)), .int (xs (i + 3)), .int (xs (i + 4))]) (o := 66) (n := 42) (c := 8) (tb_ok aL_law_22 13 rfl) v_RL_93 (z _) (by decide) rfl rfl rfl rfl rfl (Nat.le_of_ble_eq_true rfl) (by decide) (by decide) (fun r S2 I2 L2 R2 z => ?_)
  obtain ⟨rfl, rfl, rfl, g2⟩ := z
  refine s_lcmp (tb_ok aL_law_22 14 rfl) ?_
  refine s_if_eq (tgt := 1078) (tb_ok aL_law_22 15 rfl) (by decide) (fun _ => ?_) (fun h => absurd lcmp_self h)
  exact kk _ _ _ g2
set_option maxRecDepth 100000 in
theorem law_19 {X : En} {nm : String} {n i : Nat} {xs : Nat → Int32} (hi : i + 6 ≤ n) (hn : n ≤ 3072) {q : Nat × Nat} {I : FI} {L : FL} (g : Inv q I) (kk : ∀ q' I' L', Inv q' I' → SW X 100 (mL nm) (0, 0) 1078 (LSt i) [] S0 I' L' (R0 q') (KL X n xs)) : SW X 100 (mL nm) (0, 0) 794 (LSt i) [] S0 I L (R0 q) (KL X n xs) := by
  refine s_aload_n (o := 0) (tb_ok aL_law_22 18 rfl) rfl ?_
  refine s_callV (as := []) (o := 0) (n := 13) (c := 7) (tb_ok aL_law_22 19 rfl) v_RL_94 (P_image q I L g) (by decide) rfl rfl rfl rfl rfl (Nat.le_of_ble_eq_true rfl) (by decide) (by decide) (fun r S1 I1 L1 R1 z => ?_)
  obtain ⟨rfl, rfl, q1, v, rfl, rfl, z⟩ := z
  refine s_aload_n (o := 66) (tb_ok aL_law_22 20 rfl) rfl ?_
  refine s_callV (as := []) (o := 66) (n := 42) (c := 8) (tb_ok aL_law_22 21 rfl) v_RL_97 (z _) (by decide) rfl rfl rfl rfl rfl (Nat.le_of_ble_eq_true rfl) (by decide) (by decide) (fun r S2 I2 L2 R2 z => ?_)
  obtain ⟨rfl, rfl, rfl, g2⟩ := z
  refine s_icmp_eq (tgt := 1078) (tb_ok aL_law_22 22 rfl) (by decide) (fun _ => ?_) (fun h => absurd rfl h)
  exact kk _ _ _ g2
set_option maxRecDepth 100000 in
theorem law_20 {X : En} {nm : String} {n i : Nat} {xs : Nat → Int32} (hi : i + 6 ≤ n) (hn : n ≤ 3072) {q : Nat × Nat} {I : FI} {L : FL} (g : Inv q I) (kk : ∀ q' I' L', Inv q' I' → SW X 100 (mL nm) (0, 0) 1078 (LSt i) [] S0 I' L' (R0 q') (KL X n xs)) : SW X 100 (mL nm) (0, 0) 807 (LSt i) [] S0 I L (R0 q) (KL X n xs) := by
  refine s_aload_n (o := 0) (tb_ok aL_law_23 1 rfl) rfl ?_
  refine s_callV (as := []) (o := 0) (n := 13) (c := 7) (tb_ok aL_law_23 2 rfl) v_RL_98 (P_back q I L g) (by decide) rfl rfl rfl rfl rfl (Nat.le_of_ble_eq_true rfl) (by decide) (by decide) (fun r S1 I1 L1 R1 z => ?_)
  obtain ⟨rfl, rfl, q1, v, rfl, rfl, z⟩ := z
  refine s_aload_n (o := 66) (tb_ok aL_law_23 3 rfl) rfl ?_
  refine s_callV (as := []) (o := 66) (n := 42) (c := 8) (tb_ok aL_law_23 4 rfl) v_RL_101 (z _) (by decide) rfl rfl rfl rfl rfl (Nat.le_of_ble_eq_true rfl) (by decide) (by decide) (fun r S2 I2 L2 R2 z => ?_)
  obtain ⟨rfl, rfl, rfl, g2⟩ := z
  refine s_icmp_eq (tgt := 1078) (tb_ok aL_law_23 5 rfl) (by decide) (fun _ => ?_) (fun h => absurd rfl h)
  exact kk _ _ _ g2
set_option maxRecDepth 100000 in
theorem law_21 {X : En} {nm : String} {n i : Nat} {xs : Nat → Int32} (hi : i + 6 ≤ n) (hn : n ≤ 3072) {q : Nat × Nat} {I : FI} {L : FL} (g : Inv q I) (kk : ∀ q' I' L', Inv q' I' → SW X 100 (mL nm) (0, 0) 1078 (LSt i) [] S0 I' L' (R0 q') (KL X n xs)) : SW X 100 (mL nm) (0, 0) 820 (LSt i) [] S0 I L (R0 q) (KL X n xs) := by
  refine s_aload_n (o := 0) (tb_ok aL_law_23 8 rfl) rfl ?_
  refine s_aload_n (o := 1000040) (tb_ok aL_law_23 9 rfl) rfl ?_
  refine s_iload_n (x := nI i) (tb_ok aL_law_23 10 rfl) rfl ?_
  refine s_iconst (v := nI 1) (tb_ok aL_law_23 11 rfl) (by decide) ?_
  refine s_iadd (tb_ok aL_law_23 12 rfl) ?_
  refine s_topi (z := nI (i + 1)) (nI_add' i 1) ?_
  refine s_scr (tb_ok aL_law_23 13 rfl) (by omega) hn ?_
  refine s_callV (as := [.int (xs (i + 1))]) (o := 0) (n := 13) (c := 7) (tb_ok aL_law_23 14 rfl) v_RL_102 (P_count _ q I L g) (by decide) rfl rfl rfl rfl rfl (Nat.le_of_ble_eq_true rfl) (by decide) (by decide) (fun r S1 I1 L1 R1 z => ?_)
  obtain ⟨rfl, rfl, q1, v, rfl, rfl, z⟩ := z
  refine s_aload_n (o := 66) (tb_ok aL_law_23 15 rfl) rfl ?_
  refine s_aload_n (o := 1000040) (tb_ok aL_law_23 16 rfl) rfl ?_
  refine s_iload_n (x := nI i) (tb_ok aL_law_23 17 rfl) rfl ?_
  refine s_iconst (v := nI 1) (tb_ok aL_law_23 18 rfl) (by decide) ?_
  refine s_iadd (tb_ok aL_law_23 19 rfl) ?_
  refine s_topi (z := nI (i + 1)) (nI_add' i 1) ?_
  refine s_scr (tb_ok aL_law_23 20 rfl) (by omega) hn ?_
  refine s_callV (as := [.int (xs (i + 1))]) (o := 66) (n := 42) (c := 8) (tb_ok aL_law_23 21 rfl) v_RL_105 (z _) (by decide) rfl rfl rfl rfl rfl (Nat.le_of_ble_eq_true rfl) (by decide) (by decide) (fun r S2 I2 L2 R2 z => ?_)
  obtain ⟨rfl, rfl, rfl, g2⟩ := z
  refine s_icmp_eq (tgt := 1078) (tb_ok aL_law_23 22 rfl) (by decide) (fun _ => ?_) (fun h => absurd rfl h)
  exact kk _ _ _ g2
set_option maxRecDepth 100000 in
theorem law_22 {X : En} {nm : String} {n i : Nat} {xs : Nat → Int32} (hi : i + 6 ≤ n) (hn : n ≤ 3072) {q : Nat × Nat} {I : FI} {L : FL} (g : Inv q I) (kk : ∀ q' I' L', Inv q' I' → SW X 100 (mL nm) (0, 0) 1078 (LSt i) [] S0 I' L' (R0 q') (KL X n xs)) : SW X 100 (mL nm) (0, 0) 843 (LSt i) [] S0 I L (R0 q) (KL X n xs) := by
  refine s_aload_n (o := 0) (tb_ok aL_law_24 1 rfl) rfl ?_
  refine s_aload_n (o := 1000040) (tb_ok aL_law_24 2 rfl) rfl ?_
  refine s_iload_n (x := nI i) (tb_ok aL_law_24 3 rfl) rfl ?_
  refine s_iconst (v := nI 1) (tb_ok aL_law_24 4 rfl) (by decide) ?_
  refine s_iadd (tb_ok aL_law_24 5 rfl) ?_
  refine s_topi (z := nI (i + 1)) (nI_add' i 1) ?_
  refine s_scr (tb_ok aL_law_24 6 rfl) (by omega) hn ?_
  refine s_aload_n (o := 1000040) (tb_ok aL_law_24 7 rfl) rfl ?_
  refine s_iload_n (x := nI i) (tb_ok aL_law_24 8 rfl) rfl ?_
  refine s_iconst (v := nI 2) (tb_ok aL_law_24 9 rfl) (by decide) ?_
  refine s_iadd (tb_ok aL_law_24 10 rfl) ?_
  refine s_topi (z := nI (i + 2)) (nI_add' i 2) ?_
  refine s_scr (tb_ok aL_law_24 11 rfl) (by omega) hn ?_
  refine s_aload_n (o := 1000040) (tb_ok aL_law_24 12 rfl) rfl ?_
  refine s_iload_n (x := nI i) (tb_ok aL_law_24 13 rfl) rfl ?_
  refine s_iconst (v := nI 3) (tb_ok aL_law_24 14 rfl) (by decide) ?_
  refine s_iadd (tb_ok aL_law_24 15 rfl) ?_
  refine s_topi (z := nI (i + 3)) (nI_add' i 3) ?_
  refine s_scr (tb_ok aL_law_24 16 rfl) (by omega) hn ?_
  refine s_callV (as := [.int (xs (i + 1)), .int (xs (i + 2)), .int (xs (i + 3))]) (o := 0) (n := 13) (c := 7) (tb_ok aL_law_24 17 rfl) v_RL_106 (P_sheet _ _ _ q I L g) (by decide) rfl rfl rfl rfl rfl (Nat.le_of_ble_eq_true rfl) (by decide) (by decide) (fun r S1 I1 L1 R1 z => ?_)
  obtain ⟨rfl, rfl, q1, v, rfl, rfl, z⟩ := z
  refine s_aload_n (o := 66) (tb_ok aL_law_24 18 rfl) rfl ?_
  refine s_aload_n (o := 1000040) (tb_ok aL_law_24 19 rfl) rfl ?_
  refine s_iload_n (x := nI i) (tb_ok aL_law_24 20 rfl) rfl ?_
  refine s_iconst (v := nI 1) (tb_ok aL_law_24 21 rfl) (by decide) ?_
  refine s_iadd (tb_ok aL_law_24 22 rfl) ?_
  refine s_topi (z := nI (i + 1)) (nI_add' i 1) ?_
  refine s_scr (tb_ok aL_law_24 23 rfl) (by omega) hn ?_
  refine s_aload_n (o := 1000040) (tb_ok aL_law_25 0 rfl) rfl ?_
  refine s_iload_n (x := nI i) (tb_ok aL_law_25 1 rfl) rfl ?_
  refine s_iconst (v := nI 2) (tb_ok aL_law_25 2 rfl) (by decide) ?_
  refine s_iadd (tb_ok aL_law_25 3 rfl) ?_
  refine s_topi (z := nI (i + 2)) (nI_add' i 2) ?_
  refine s_scr (tb_ok aL_law_25 4 rfl) (by omega) hn ?_
  refine s_aload_n (o := 1000040) (tb_ok aL_law_25 5 rfl) rfl ?_
  refine s_iload_n (x := nI i) (tb_ok aL_law_25 6 rfl) rfl ?_
  refine s_iconst (v := nI 3) (tb_ok aL_law_25 7 rfl) (by decide) ?_
  refine s_iadd (tb_ok aL_law_25 8 rfl) ?_
  refine s_topi (z := nI (i + 3)) (nI_add' i 3) ?_
  refine s_scr (tb_ok aL_law_25 9 rfl) (by omega) hn ?_
  refine s_callV (as := [.int (xs (i + 1)), .int (xs (i + 2)), .int (xs (i + 3))]) (o := 66) (n := 42) (c := 8) (tb_ok aL_law_25 10 rfl) v_RL_109 (z _) (by decide) rfl rfl rfl rfl rfl (Nat.le_of_ble_eq_true rfl) (by decide) (by decide) (fun r S2 I2 L2 R2 z => ?_)
  obtain ⟨rfl, rfl, rfl, g2⟩ := z
  refine s_icmp_eq (tgt := 1078) (tb_ok aL_law_25 11 rfl) (by decide) (fun _ => ?_) (fun h => absurd rfl h)
  exact kk _ _ _ g2
set_option maxRecDepth 100000 in
theorem law_23 {X : En} {nm : String} {n i : Nat} {xs : Nat → Int32} (hi : i + 6 ≤ n) (hn : n ≤ 3072) {q : Nat × Nat} {I : FI} {L : FL} (g : Inv q I) (kk : ∀ q' I' L', Inv q' I' → SW X 100 (mL nm) (0, 0) 1078 (LSt i) [] S0 I' L' (R0 q') (KL X n xs)) : SW X 100 (mL nm) (0, 0) 886 (LSt i) [] S0 I L (R0 q) (KL X n xs) := by
  refine s_aload_n (o := 0) (tb_ok aL_law_25 14 rfl) rfl ?_
  refine s_aload_n (o := 1000040) (tb_ok aL_law_25 15 rfl) rfl ?_
  refine s_iload_n (x := nI i) (tb_ok aL_law_25 16 rfl) rfl ?_
  refine s_iconst (v := nI 1) (tb_ok aL_law_25 17 rfl) (by decide) ?_
  refine s_iadd (tb_ok aL_law_25 18 rfl) ?_
  refine s_topi (z := nI (i + 1)) (nI_add' i 1) ?_
  refine s_scr (tb_ok aL_law_25 19 rfl) (by omega) hn ?_
  refine s_aload_n (o := 1000040) (tb_ok aL_law_25 20 rfl) rfl ?_
  refine s_iload_n (x := nI i) (tb_ok aL_law_25 21 rfl) rfl ?_
  refine s_iconst (v := nI 2) (tb_ok aL_law_25 22 rfl) (by decide) ?_
  refine s_iadd (tb_ok aL_law_25 23 rfl) ?_
  refine s_topi (z := nI (i + 2)) (nI_add' i 2) ?_
  refine s_scr (tb_ok aL_law_26 0 rfl) (by omega) hn ?_
  refine s_aload_n (o := 1000040) (tb_ok aL_law_26 1 rfl) rfl ?_
  refine s_iload_n (x := nI i) (tb_ok aL_law_26 2 rfl) rfl ?_
  refine s_iconst (v := nI 3) (tb_ok aL_law_26 3 rfl) (by decide) ?_
  refine s_iadd (tb_ok aL_law_26 4 rfl) ?_
  refine s_topi (z := nI (i + 3)) (nI_add' i 3) ?_
  refine s_scr (tb_ok aL_law_26 5 rfl) (by omega) hn ?_
  refine s_callV (as := [.int (xs (i + 1)), .int (xs (i + 2)), .int (xs (i + 3))]) (o := 0) (n := 13) (c := 7) (tb_ok aL_law_26 6 rfl) v_RL_110 (P_cell _ _ _ q I L g) (by decide) rfl rfl rfl rfl rfl (Nat.le_of_ble_eq_true rfl) (by decide) (by decide) (fun r S1 I1 L1 R1 z => ?_)
  obtain ⟨rfl, rfl, q1, v, rfl, rfl, z⟩ := z
  refine s_aload_n (o := 66) (tb_ok aL_law_26 7 rfl) rfl ?_
  refine s_aload_n (o := 1000040) (tb_ok aL_law_26 8 rfl) rfl ?_
  refine s_iload_n (x := nI i) (tb_ok aL_law_26 9 rfl) rfl ?_
  refine s_iconst (v := nI 1) (tb_ok aL_law_26 10 rfl) (by decide) ?_
  refine s_iadd (tb_ok aL_law_26 11 rfl) ?_
  refine s_topi (z := nI (i + 1)) (nI_add' i 1) ?_
  refine s_scr (tb_ok aL_law_26 12 rfl) (by omega) hn ?_
  refine s_aload_n (o := 1000040) (tb_ok aL_law_26 13 rfl) rfl ?_
  refine s_iload_n (x := nI i) (tb_ok aL_law_26 14 rfl) rfl ?_
  refine s_iconst (v := nI 2) (tb_ok aL_law_26 15 rfl) (by decide) ?_
  refine s_iadd (tb_ok aL_law_26 16 rfl) ?_
  refine s_topi (z := nI (i + 2)) (nI_add' i 2) ?_
  refine s_scr (tb_ok aL_law_26 17 rfl) (by omega) hn ?_
  refine s_aload_n (o := 1000040) (tb_ok aL_law_26 18 rfl) rfl ?_
  refine s_iload_n (x := nI i) (tb_ok aL_law_26 19 rfl) rfl ?_
  refine s_iconst (v := nI 3) (tb_ok aL_law_26 20 rfl) (by decide) ?_
  refine s_iadd (tb_ok aL_law_26 21 rfl) ?_
  refine s_topi (z := nI (i + 3)) (nI_add' i 3) ?_
  refine s_scr (tb_ok aL_law_26 22 rfl) (by omega) hn ?_
  refine s_callV (as := [.int (xs (i + 1)), .int (xs (i + 2)), .int (xs (i + 3))]) (o := 66) (n := 42) (c := 8) (tb_ok aL_law_26 23 rfl) v_RL_113 (z _) (by decide) rfl rfl rfl rfl rfl (Nat.le_of_ble_eq_true rfl) (by decide) (by decide) (fun r S2 I2 L2 R2 z => ?_)
  obtain ⟨rfl, rfl, rfl, g2⟩ := z
  refine s_icmp_eq (tgt := 1078) (tb_ok aL_law_27 0 rfl) (by decide) (fun _ => ?_) (fun h => absurd rfl h)
  exact kk _ _ _ g2
set_option maxRecDepth 100000 in
theorem law_24 {X : En} {nm : String} {n i : Nat} {xs : Nat → Int32} (hi : i + 6 ≤ n) (hn : n ≤ 3072) {q : Nat × Nat} {I : FI} {L : FL} (g : Inv q I) (kk : ∀ q' I' L', Inv q' I' → SW X 100 (mL nm) (0, 0) 1078 (LSt i) [] S0 I' L' (R0 q') (KL X n xs)) : SW X 100 (mL nm) (0, 0) 929 (LSt i) [] S0 I L (R0 q) (KL X n xs) := by
  refine s_aload_n (o := 0) (tb_ok aL_law_27 3 rfl) rfl ?_
  refine s_aload_n (o := 1000040) (tb_ok aL_law_27 4 rfl) rfl ?_
  refine s_iload_n (x := nI i) (tb_ok aL_law_27 5 rfl) rfl ?_
  refine s_iconst (v := nI 1) (tb_ok aL_law_27 6 rfl) (by decide) ?_
  refine s_iadd (tb_ok aL_law_27 7 rfl) ?_
  refine s_topi (z := nI (i + 1)) (nI_add' i 1) ?_
  refine s_scr (tb_ok aL_law_27 8 rfl) (by omega) hn ?_
  refine s_aload_n (o := 1000040) (tb_ok aL_law_27 9 rfl) rfl ?_
  refine s_iload_n (x := nI i) (tb_ok aL_law_27 10 rfl) rfl ?_
  refine s_iconst (v := nI 2) (tb_ok aL_law_27 11 rfl) (by decide) ?_
  refine s_iadd (tb_ok aL_law_27 12 rfl) ?_
  refine s_topi (z := nI (i + 2)) (nI_add' i 2) ?_
  refine s_scr (tb_ok aL_law_27 13 rfl) (by omega) hn ?_
  refine s_aload_n (o := 1000040) (tb_ok aL_law_27 14 rfl) rfl ?_
  refine s_iload_n (x := nI i) (tb_ok aL_law_27 15 rfl) rfl ?_
  refine s_iconst (v := nI 3) (tb_ok aL_law_27 16 rfl) (by decide) ?_
  refine s_iadd (tb_ok aL_law_27 17 rfl) ?_
  refine s_topi (z := nI (i + 3)) (nI_add' i 3) ?_
  refine s_scr (tb_ok aL_law_27 18 rfl) (by omega) hn ?_
  refine s_aload_n (o := 1000040) (tb_ok aL_law_27 19 rfl) rfl ?_
  refine s_iload_n (x := nI i) (tb_ok aL_law_27 20 rfl) rfl ?_
  refine s_iconst (v := nI 4) (tb_ok aL_law_27 21 rfl) (by decide) ?_
  refine s_iadd (tb_ok aL_law_27 22 rfl) ?_
  refine s_topi (z := nI (i + 4)) (nI_add' i 4) ?_
  refine s_scr (tb_ok aL_law_27 23 rfl) (by omega) hn ?_
  refine s_aload_n (o := 1000040) (tb_ok aL_law_28 0 rfl) rfl ?_
  refine s_iload_n (x := nI i) (tb_ok aL_law_28 1 rfl) rfl ?_
  refine s_iconst (v := nI 5) (tb_ok aL_law_28 2 rfl) (by decide) ?_
  refine s_iadd (tb_ok aL_law_28 3 rfl) ?_
  refine s_topi (z := nI (i + 5)) (nI_add' i 5) ?_
  refine s_scr (tb_ok aL_law_28 4 rfl) (by omega) hn ?_
  refine s_callV (as := [.int (xs (i + 1)), .int (xs (i + 2)), .int (xs (i + 3)), .int (xs (i + 4)), .int (xs (i + 5))]) (o := 0) (n := 13) (c := 7) (tb_ok aL_law_28 5 rfl) v_RL_114 (P_copy _ _ _ _ _ q I L g) (by decide) rfl rfl rfl rfl rfl (Nat.le_of_ble_eq_true rfl) (by decide) (by decide) (fun r S1 I1 L1 R1 z => ?_)
  obtain ⟨rfl, rfl, q1, v, rfl, rfl, z⟩ := z
  refine s_aload_n (o := 66) (tb_ok aL_law_28 6 rfl) rfl ?_
  refine s_aload_n (o := 1000040) (tb_ok aL_law_28 7 rfl) rfl ?_
  refine s_iload_n (x := nI i) (tb_ok aL_law_28 8 rfl) rfl ?_
  refine s_iconst (v := nI 1) (tb_ok aL_law_28 9 rfl) (by decide) ?_
  refine s_iadd (tb_ok aL_law_28 10 rfl) ?_
  refine s_topi (z := nI (i + 1)) (nI_add' i 1) ?_
  refine s_scr (tb_ok aL_law_28 11 rfl) (by omega) hn ?_
  refine s_aload_n (o := 1000040) (tb_ok aL_law_28 12 rfl) rfl ?_
  refine s_iload_n (x := nI i) (tb_ok aL_law_28 13 rfl) rfl ?_
  refine s_iconst (v := nI 2) (tb_ok aL_law_28 14 rfl) (by decide) ?_
  refine s_iadd (tb_ok aL_law_28 15 rfl) ?_
  refine s_topi (z := nI (i + 2)) (nI_add' i 2) ?_
  refine s_scr (tb_ok aL_law_28 16 rfl) (by omega) hn ?_
  refine s_aload_n (o := 1000040) (tb_ok aL_law_28 17 rfl) rfl ?_
  refine s_iload_n (x := nI i) (tb_ok aL_law_28 18 rfl) rfl ?_
  refine s_iconst (v := nI 3) (tb_ok aL_law_28 19 rfl) (by decide) ?_
  refine s_iadd (tb_ok aL_law_28 20 rfl) ?_
  refine s_topi (z := nI (i + 3)) (nI_add' i 3) ?_
  refine s_scr (tb_ok aL_law_28 21 rfl) (by omega) hn ?_
  refine s_aload_n (o := 1000040) (tb_ok aL_law_28 22 rfl) rfl ?_
  refine s_iload_n (x := nI i) (tb_ok aL_law_28 23 rfl) rfl ?_
  refine s_iconst (v := nI 4) (tb_ok aL_law_29 0 rfl) (by decide) ?_
  refine s_iadd (tb_ok aL_law_29 1 rfl) ?_
  refine s_topi (z := nI (i + 4)) (nI_add' i 4) ?_
  refine s_scr (tb_ok aL_law_29 2 rfl) (by omega) hn ?_
  refine s_aload_n (o := 1000040) (tb_ok aL_law_29 3 rfl) rfl ?_
  refine s_iload_n (x := nI i) (tb_ok aL_law_29 4 rfl) rfl ?_
  refine s_iconst (v := nI 5) (tb_ok aL_law_29 5 rfl) (by decide) ?_
  refine s_iadd (tb_ok aL_law_29 6 rfl) ?_
  refine s_topi (z := nI (i + 5)) (nI_add' i 5) ?_
  refine s_scr (tb_ok aL_law_29 7 rfl) (by omega) hn ?_
  refine s_callV (as := [.int (xs (i + 1)), .int (xs (i + 2)), .int (xs (i + 3)), .int (xs (i + 4)), .int (xs (i + 5))]) (o := 66) (n := 42) (c := 8) (tb_ok aL_law_29 8 rfl) v_RL_118 (z _) (by decide) rfl rfl rfl rfl rfl (Nat.le_of_ble_eq_true rfl) (by decide) (by decide) (fun r S2 I2 L2 R2 z => ?_)
  obtain ⟨rfl, rfl, rfl, g2⟩ := z
  refine s_icmp_eq (tgt := 1078) (tb_ok aL_law_29 9 rfl) (by decide) (fun _ => ?_) (fun h => absurd rfl h)
  exact kk _ _ _ g2
set_option maxRecDepth 100000 in
theorem law_25 {X : En} {nm : String} {n i : Nat} {xs : Nat → Int32} (hi : i + 6 ≤ n) (hn : n ≤ 3072) {q : Nat × Nat} {I : FI} {L : FL} (g : Inv q I) (kk : ∀ q' I' L', Inv q' I' → SW X 100 (mL nm) (0, 0) 1078 (LSt i) [] S0 I' L' (R0 q') (KL X n xs)) : SW X 100 (mL nm) (0, 0) 992 (LSt i) [] S0 I L (R0 q) (KL X n xs) := by
  refine s_aload_n (o := 0) (tb_ok aL_law_29 12 rfl) rfl ?_
  refine s_aload_n (o := 1000040) (tb_ok aL_law_29 13 rfl) rfl ?_
  refine s_iload_n (x := nI i) (tb_ok aL_law_29 14 rfl) rfl ?_
  refine s_iconst (v := nI 1) (tb_ok aL_law_29 15 rfl) (by decide) ?_
  refine s_iadd (tb_ok aL_law_29 16 rfl) ?_
  refine s_topi (z := nI (i + 1)) (nI_add' i 1) ?_
  refine s_scr (tb_ok aL_law_29 17 rfl) (by omega) hn ?_
  refine s_aload_n (o := 1000040) (tb_ok aL_law_29 18 rfl) rfl ?_
  refine s_iload_n (x := nI i) (tb_ok aL_law_29 19 rfl) rfl ?_
  refine s_iconst (v := nI 2) (tb_ok aL_law_29 20 rfl) (by decide) ?_
  refine s_iadd (tb_ok aL_law_29 21 rfl) ?_
  refine s_topi (z := nI (i + 2)) (nI_add' i 2) ?_
  refine s_scr (tb_ok aL_law_29 22 rfl) (by omega) hn ?_
  refine s_aload_n (o := 1000040) (tb_ok aL_law_29 23 rfl) rfl ?_
  refine s_iload_n (x := nI i) (tb_ok aL_law_30 0 rfl) rfl ?_
  refine s_iconst (v := nI 3) (tb_ok aL_law_30 1 rfl) (by decide) ?_
  refine s_iadd (tb_ok aL_law_30 2 rfl) ?_
  refine s_topi (z := nI (i + 3)) (nI_add' i 3) ?_
  refine s_scr (tb_ok aL_law_30 3 rfl) (by omega) hn ?_
  refine s_aload_n (o := 1000040) (tb_ok aL_law_30 4 rfl) rfl ?_
  refine s_iload_n (x := nI i) (tb_ok aL_law_30 5 rfl) rfl ?_
  refine s_iconst (v := nI 4) (tb_ok aL_law_30 6 rfl) (by decide) ?_
  refine s_iadd (tb_ok aL_law_30 7 rfl) ?_
  refine s_topi (z := nI (i + 4)) (nI_add' i 4) ?_
  refine s_scr (tb_ok aL_law_30 8 rfl) (by omega) hn ?_
  refine s_callV (as := [.int (xs (i + 1)), .int (xs (i + 2)), .int (xs (i + 3)), .int (xs (i + 4))]) (o := 0) (n := 13) (c := 7) (tb_ok aL_law_30 9 rfl) v_RL_119 (P_houses _ _ _ _ q I L g) (by decide) rfl rfl rfl rfl rfl (Nat.le_of_ble_eq_true rfl) (by decide) (by decide) (fun r S1 I1 L1 R1 z => ?_)
  obtain ⟨rfl, rfl, q1, v, rfl, rfl, z⟩ := z
  refine s_aload_n (o := 66) (tb_ok aL_law_30 10 rfl) rfl ?_
  refine s_aload_n (o := 1000040) (tb_ok aL_law_30 11 rfl) rfl ?_
  refine s_iload_n (x := nI i) (tb_ok aL_law_30 12 rfl) rfl ?_
  refine s_iconst (v := nI 1) (tb_ok aL_law_30 13 rfl) (by decide) ?_
  refine s_iadd (tb_ok aL_law_30 14 rfl) ?_
  refine s_topi (z := nI (i + 1)) (nI_add' i 1) ?_
  refine s_scr (tb_ok aL_law_30 15 rfl) (by omega) hn ?_
  refine s_aload_n (o := 1000040) (tb_ok aL_law_30 16 rfl) rfl ?_
  refine s_iload_n (x := nI i) (tb_ok aL_law_30 17 rfl) rfl ?_
  refine s_iconst (v := nI 2) (tb_ok aL_law_30 18 rfl) (by decide) ?_
  refine s_iadd (tb_ok aL_law_30 19 rfl) ?_
  refine s_topi (z := nI (i + 2)) (nI_add' i 2) ?_
  refine s_scr (tb_ok aL_law_30 20 rfl) (by omega) hn ?_
  refine s_aload_n (o := 1000040) (tb_ok aL_law_30 21 rfl) rfl ?_
  refine s_iload_n (x := nI i) (tb_ok aL_law_30 22 rfl) rfl ?_
  refine s_iconst (v := nI 3) (tb_ok aL_law_30 23 rfl) (by decide) ?_
  refine s_iadd (tb_ok aL_law_31 0 rfl) ?_
  refine s_topi (z := nI (i + 3)) (nI_add' i 3) ?_
  refine s_scr (tb_ok aL_law_31 1 rfl) (by omega) hn ?_
  refine s_aload_n (o := 1000040) (tb_ok aL_law_31 2 rfl) rfl ?_
  refine s_iload_n (x := nI i) (tb_ok aL_law_31 3 rfl) rfl ?_
  refine s_iconst (v := nI 4) (tb_ok aL_law_31 4 rfl) (by decide) ?_
  refine s_iadd (tb_ok aL_law_31 5 rfl) ?_
  refine s_topi (z := nI (i + 4)) (nI_add' i 4) ?_
  refine s_scr (tb_ok aL_law_31 6 rfl) (by omega) hn ?_
  refine s_callV (as := [.int (xs (i + 1)), .int (xs (i + 2)), .int (xs (i + 3)), .int (xs (i + 4))]) (o := 66) (n := 42) (c := 8) (tb_ok aL_law_31 7 rfl) v_RL_123 (z _) (by decide) rfl rfl rfl rfl rfl (Nat.le_of_ble_eq_true rfl) (by decide) (by decide) (fun r S2 I2 L2 R2 z => ?_)
  obtain ⟨rfl, rfl, rfl, g2⟩ := z
  refine s_icmp_eq (tgt := 1078) (tb_ok aL_law_31 8 rfl) (by decide) (fun _ => ?_) (fun h => absurd rfl h)
  exact kk _ _ _ g2
set_option maxRecDepth 100000 in
theorem law_26 {X : En} {nm : String} {n i : Nat} {xs : Nat → Int32} (hi : i + 6 ≤ n) (hn : n ≤ 3072) {q : Nat × Nat} {I : FI} {L : FL} (g : Inv q I) (kk : ∀ q' I' L', Inv q' I' → SW X 100 (mL nm) (0, 0) 1078 (LSt i) [] S0 I' L' (R0 q') (KL X n xs)) : SW X 100 (mL nm) (0, 0) 1045 (LSt i) [] S0 I L (R0 q) (KL X n xs) := by
  refine s_aload_n (o := 0) (tb_ok aL_law_31 11 rfl) rfl ?_
  refine s_aload_n (o := 1000040) (tb_ok aL_law_31 12 rfl) rfl ?_
  refine s_iload_n (x := nI i) (tb_ok aL_law_31 13 rfl) rfl ?_
  refine s_iconst (v := nI 1) (tb_ok aL_law_31 14 rfl) (by decide) ?_
  refine s_iadd (tb_ok aL_law_31 15 rfl) ?_
  refine s_topi (z := nI (i + 1)) (nI_add' i 1) ?_
  refine s_scr (tb_ok aL_law_31 16 rfl) (by omega) hn ?_
  refine s_aload_n (o := 1000040) (tb_ok aL_law_31 17 rfl) rfl ?_
  refine s_iload_n (x := nI i) (tb_ok aL_law_31 18 rfl) rfl ?_
  refine s_iconst (v := nI 2) (tb_ok aL_law_31 19 rfl) (by decide) ?_
  refine s_iadd (tb_ok aL_law_31 20 rfl) ?_
  refine s_topi (z := nI (i + 2)) (nI_add' i 2) ?_
  refine s_scr (tb_ok aL_law_31 21 rfl) (by omega) hn ?_
  refine s_callV (as := [.int (xs (i + 1)), .int (xs (i + 2))]) (o := 0) (n := 13) (c := 7) (tb_ok aL_law_31 22 rfl) v_RL_124 (P_taken _ _ q I L g) (by decide) rfl rfl rfl rfl rfl (Nat.le_of_ble_eq_true rfl) (by decide) (by decide) (fun r S1 I1 L1 R1 z => ?_)
  obtain ⟨rfl, rfl, q1, v, rfl, rfl, z⟩ := z
  refine s_aload_n (o := 66) (tb_ok aL_law_31 23 rfl) rfl ?_
  refine s_aload_n (o := 1000040) (tb_ok aL_law_32 0 rfl) rfl ?_
  refine s_iload_n (x := nI i) (tb_ok aL_law_32 1 rfl) rfl ?_
  refine s_iconst (v := nI 1) (tb_ok aL_law_32 2 rfl) (by decide) ?_
  refine s_iadd (tb_ok aL_law_32 3 rfl) ?_
  refine s_topi (z := nI (i + 1)) (nI_add' i 1) ?_
  refine s_scr (tb_ok aL_law_32 4 rfl) (by omega) hn ?_
  refine s_aload_n (o := 1000040) (tb_ok aL_law_32 5 rfl) rfl ?_
  refine s_iload_n (x := nI i) (tb_ok aL_law_32 6 rfl) rfl ?_
  refine s_iconst (v := nI 2) (tb_ok aL_law_32 7 rfl) (by decide) ?_
  refine s_iadd (tb_ok aL_law_32 8 rfl) ?_
  refine s_topi (z := nI (i + 2)) (nI_add' i 2) ?_
  refine s_scr (tb_ok aL_law_32 9 rfl) (by omega) hn ?_
  refine s_callV (as := [.int (xs (i + 1)), .int (xs (i + 2))]) (o := 66) (n := 42) (c := 8) (tb_ok aL_law_32 10 rfl) v_RL_127 (z _) (by decide) rfl rfl rfl rfl rfl (Nat.le_of_ble_eq_true rfl) (by decide) (by decide) (fun r S2 I2 L2 R2 z => ?_)
  obtain ⟨rfl, rfl, rfl, g2⟩ := z
  refine s_icmp_eq (tgt := 1078) (tb_ok aL_law_32 11 rfl) (by decide) (fun _ => ?_) (fun h => absurd rfl h)
  exact kk _ _ _ g2
