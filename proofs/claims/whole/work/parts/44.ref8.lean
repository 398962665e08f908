/-! the reference: what is understood, what falls, what is taken, a day -/
theorem R_bitsX {X : En} {S : Sh} {I : FI} {L : FL} {R : FR} {x : Int32} {v : Nat} (e : x = nI v) (hv : v < 4096) : Ev X 0 mX8_bitsOf (0, 0) [.int x] S I L R (PureR (some (.int (bcF x))) S I L R) := by rw [e]; exact R_bitsOf hv
section UND
variable {fr fa : Nat → Int32} {m : Nat} {f : Nat → Int32} {day : Int32}
theorem und0 (h : f 0 = 0) : undP fr fa m f day = nx fr fa m (f 2) (-1) := by unfold undP; rw [h]; rfl
theorem und1 (h : f 0 = 1) : undP fr fa m f day = nx fr fa m (f 2) (-1) &&& -nx fr fa m (f 2) (-1) := by unfold undP; rw [h]; rfl
theorem und2 (h : f 0 = 2) : undP fr fa m f day = clo fr fa m (-1) 12 (f 2) &&& ~~~(f 2) := by unfold undP; rw [h]; rfl
theorem und3 (h : f 0 = 3) : undP fr fa m f day = if day - day / 2 * 2 = 0 then nx fr fa m (f 2) (-1) &&& -nx fr fa m (f 2) (-1) else 0 := by unfold undP; rw [h]; rfl
theorem und4 (h : f 0 = 4) : undP fr fa m f day = (clo fr fa m (-1) 12 (f 2) &&& ~~~(f 2)) &&& ~~~((1 : Int32) <<< (f 1 &&& 31)) := by unfold undP; rw [h]; rfl
theorem und5 (h : f 0 = 5) : undP fr fa m f day = if nx fr fa m (f 2) (-1) = nx fr fa m (f 2) (-1) &&& -nx fr fa m (f 2) (-1) then 0 else nx fr fa m (f 2) (-1) := by unfold undP; rw [h]; rfl
end UND
theorem xor_m1 {x : Int32} : x ^^^ -1 = ~~~x := by simp
theorem par3 {d : Nat} (hd : d < 2 ^ 30) : nI d - nI d / 2 * 2 = 1 ↔ ¬ nI d - nI d / 2 * 2 = 0 := by
  have e : (2 : Int32) = nI 2 := rfl
  rw [e, nI_div (by omega) (by omega), nI_mul, nI_sub' (by omega)]
  have e1 : (1 : Int32) = nI 1 := rfl
  have e0 : (0 : Int32) = nI 0 := rfl
  rw [e1, e0]
  simp (disch := omega) only [nI_eq]
  omega
set_option maxRecDepth 100000 in
set_option maxHeartbeats 1000000 in
theorem R_und0 {X : En} {L : FL} {q : Nat × Nat} {I : FI} {m : Nat} {fr fa : Nat → Int32} {M : Nat} {T : Nat → Nat → Int32} {d : Nat} {sem : Nat → Sem} (h : RSt I m fr fa M T d sem) {j : Nat} (hj : j < M) (hd : d < 2 ^ 30) (hk : T j 0 = 0) : Ev X 2 mX8_understands (0, 0) [.ref 66, .int (nI j)] S0 I L (R0 q) (PureR (some (.int (undP fr fa m (T j) (nI d)))) S0 I L (R0 q)) := by
  have hM5 := h.M5
  obtain ⟨_, _, ⟨v, hv, ev⟩, _, _⟩ := h.ok hj
  obtain ⟨u, hu, eu, _⟩ := nx_N (fr := fr) (v := v) (wo := -1) h.2.1
  have eu2 : nx fr fa m (T j 2) (-1) = nI u := by rw [ev]; exact eu
  have hz : nx fr fa m (clo fr fa m (-1) 12 (T j 2)) (-1) = 0 := by rw [ev]; exact h.z hv (-1)
  refine ev_of (by decide +kernel) rfl ?_
  show SW X _ _ _ 0 [some (.ref 66), some (.int (nI j)), none, none, none, none] [] S0 I L (R0 q) _
  refine s_aload_n (tb_ok aX8_understands_0 0 rfl) rfl ?_
  refine s_getR (r := 72) (tb_ok aX8_understands_0 1 rfl) f_RX8_29 rfl rfl rfl ?_
  refine s_iload_n (tb_ok aX8_understands_0 2 rfl) rfl ?_
  refine s_ialdX (x := (0)) (tb_ok aX8_understands_0 3 rfl) rfl (by omega) (by decide) ((h.c0 hj).trans hk) ?_
  refine s_istore_n (ls' := [some (.ref 66), some (.int (nI j)), some (.int (0)), none, none, none]) (tb_ok aX8_understands_0 4 rfl) rfl rfl ?_
  refine s_aload_n (tb_ok aX8_understands_0 5 rfl) rfl ?_
  refine s_getR (r := 73) (tb_ok aX8_understands_0 6 rfl) f_RX8_32 rfl rfl rfl ?_
  refine s_iconst (v := 4) (tb_ok aX8_understands_0 7 rfl) (by decide) ?_
  refine s_iload_n (tb_ok aX8_understands_0 8 rfl) rfl ?_
  refine s_imul (tb_ok aX8_understands_0 9 rfl) ?_
  refine s_topi (z := (nI (4 * j))) (nI_mul 4 j) ?_
  refine s_ialdX (x := (T j 1)) (tb_ok aX8_understands_0 10 rfl) rfl (by omega) (by decide) (h.c1 hj) ?_
  refine s_name (fun x1 ex1 => ?_)
  refine s_istore_n (ls' := [some (.ref 66), some (.int (nI j)), some (.int (0)), some (.int x1), none, none]) (tb_ok aX8_understands_0 11 rfl) rfl rfl ?_
  refine s_aload_n (tb_ok aX8_understands_0 12 rfl) rfl ?_
  refine s_aload_n (tb_ok aX8_understands_0 13 rfl) rfl ?_
  refine s_iload_n (tb_ok aX8_understands_0 14 rfl) rfl ?_
  refine s_cVp (as := [.int (nI j)]) (tb_ok aX8_understands_0 15 rfl) v_RX8_115 (R_knows h hj) (by decide) rfl rfl rfl rfl rfl (Nat.le_of_ble_eq_true rfl) (by decide) ?_
  refine s_iconst (v := -1) (tb_ok aX8_understands_0 16 rfl) (by decide) ?_
  refine s_cVp (as := [.int (T j 2), .int (-1)]) (tb_ok aX8_understands_0 17 rfl) v_RX8_118 (R_followsOf h.1 _ _) (by decide) rfl rfl rfl rfl rfl (Nat.le_of_ble_eq_true rfl) (by decide) ?_
  refine s_name (fun x2 ex2 => ?_)
  refine s_istore (ls' := [some (.ref 66), some (.int (nI j)), some (.int (0)), some (.int x1), some (.int x2), none]) (tb_ok aX8_understands_0 18 rfl) rfl rfl ?_
  refine s_iload_n (tb_ok aX8_understands_0 19 rfl) rfl ?_
  refine s_if_eq (tgt := 37) (tb_ok aX8_understands_0 20 rfl) (by decide) (fun c29 => ?_) (fun c29 => ?_)
  · refine s_iload_n (tb_ok aX8_understands_1 0 rfl) rfl ?_
    refine s_iconst (v := 5) (tb_ok aX8_understands_1 1 rfl) (by decide) ?_
    refine s_icmp_ne (tgt := 55) (tb_ok aX8_understands_1 2 rfl) (by decide) (fun c39 => ?_) (fun c39 => ?_)
    · refine s_iload (tb_ok aX8_understands_1 9 rfl) rfl ?_
      refine s_iret (tb_ok aX8_understands_1 10 rfl) rfl ?_
      refine pureE (congrArg (fun z => some (Value.int z)) ?_)
      rw [und0 hk]
      exact ex2
    · exact absurd c39 (by decide)
  · exact absurd c29 (by decide)

set_option maxRecDepth 100000 in
set_option maxHeartbeats 1000000 in
theorem R_und1 {X : En} {L : FL} {q : Nat × Nat} {I : FI} {m : Nat} {fr fa : Nat → Int32} {M : Nat} {T : Nat → Nat → Int32} {d : Nat} {sem : Nat → Sem} (h : RSt I m fr fa M T d sem) {j : Nat} (hj : j < M) (hd : d < 2 ^ 30) (hk : T j 0 = 1) : Ev X 2 mX8_understands (0, 0) [.ref 66, .int (nI j)] S0 I L (R0 q) (PureR (some (.int (undP fr fa m (T j) (nI d)))) S0 I L (R0 q)) := by
  have hM5 := h.M5
  obtain ⟨_, _, ⟨v, hv, ev⟩, _, _⟩ := h.ok hj
  obtain ⟨u, hu, eu, _⟩ := nx_N (fr := fr) (v := v) (wo := -1) h.2.1
  have eu2 : nx fr fa m (T j 2) (-1) = nI u := by rw [ev]; exact eu
  have hz : nx fr fa m (clo fr fa m (-1) 12 (T j 2)) (-1) = 0 := by rw [ev]; exact h.z hv (-1)
  refine ev_of (by decide +kernel) rfl ?_
  show SW X _ _ _ 0 [some (.ref 66), some (.int (nI j)), none, none, none, none] [] S0 I L (R0 q) _
  refine s_aload_n (tb_ok aX8_understands_0 0 rfl) rfl ?_
  refine s_getR (r := 72) (tb_ok aX8_understands_0 1 rfl) f_RX8_29 rfl rfl rfl ?_
  refine s_iload_n (tb_ok aX8_understands_0 2 rfl) rfl ?_
  refine s_ialdX (x := (1)) (tb_ok aX8_understands_0 3 rfl) rfl (by omega) (by decide) ((h.c0 hj).trans hk) ?_
  refine s_istore_n (ls' := [some (.ref 66), some (.int (nI j)), some (.int (1)), none, none, none]) (tb_ok aX8_understands_0 4 rfl) rfl rfl ?_
  refine s_aload_n (tb_ok aX8_understands_0 5 rfl) rfl ?_
  refine s_getR (r := 73) (tb_ok aX8_understands_0 6 rfl) f_RX8_32 rfl rfl rfl ?_
  refine s_iconst (v := 4) (tb_ok aX8_understands_0 7 rfl) (by decide) ?_
  refine s_iload_n (tb_ok aX8_understands_0 8 rfl) rfl ?_
  refine s_imul (tb_ok aX8_understands_0 9 rfl) ?_
  refine s_topi (z := (nI (4 * j))) (nI_mul 4 j) ?_
  refine s_ialdX (x := (T j 1)) (tb_ok aX8_understands_0 10 rfl) rfl (by omega) (by decide) (h.c1 hj) ?_
  refine s_name (fun x1 ex1 => ?_)
  refine s_istore_n (ls' := [some (.ref 66), some (.int (nI j)), some (.int (1)), some (.int x1), none, none]) (tb_ok aX8_understands_0 11 rfl) rfl rfl ?_
  refine s_aload_n (tb_ok aX8_understands_0 12 rfl) rfl ?_
  refine s_aload_n (tb_ok aX8_understands_0 13 rfl) rfl ?_
  refine s_iload_n (tb_ok aX8_understands_0 14 rfl) rfl ?_
  refine s_cVp (as := [.int (nI j)]) (tb_ok aX8_understands_0 15 rfl) v_RX8_115 (R_knows h hj) (by decide) rfl rfl rfl rfl rfl (Nat.le_of_ble_eq_true rfl) (by decide) ?_
  refine s_iconst (v := -1) (tb_ok aX8_understands_0 16 rfl) (by decide) ?_
  refine s_cVp (as := [.int (T j 2), .int (-1)]) (tb_ok aX8_understands_0 17 rfl) v_RX8_118 (R_followsOf h.1 _ _) (by decide) rfl rfl rfl rfl rfl (Nat.le_of_ble_eq_true rfl) (by decide) ?_
  refine s_name (fun x2 ex2 => ?_)
  refine s_istore (ls' := [some (.ref 66), some (.int (nI j)), some (.int (1)), some (.int x1), some (.int x2), none]) (tb_ok aX8_understands_0 18 rfl) rfl rfl ?_
  refine s_iload_n (tb_ok aX8_understands_0 19 rfl) rfl ?_
  refine s_if_eq (tgt := 37) (tb_ok aX8_understands_0 20 rfl) (by decide) (fun c29 => ?_) (fun c29 => ?_)
  · exact absurd c29 (by decide)
  · refine s_iload_n (tb_ok aX8_understands_0 21 rfl) rfl ?_
    refine s_iconst (v := 5) (tb_ok aX8_understands_0 22 rfl) (by decide) ?_
    refine s_icmp_ne (tgt := 58) (tb_ok aX8_understands_0 23 rfl) (by decide) (fun c34 => ?_) (fun c34 => ?_)
    · refine s_iload_n (tb_ok aX8_understands_1 11 rfl) rfl ?_
      refine s_iconst (v := 1) (tb_ok aX8_understands_1 12 rfl) (by decide) ?_
      refine s_icmp_eq (tgt := 68) (tb_ok aX8_understands_1 13 rfl) (by decide) (fun c60 => ?_) (fun c60 => ?_)
      · refine s_iload_n (tb_ok aX8_understands_1 17 rfl) rfl ?_
        refine s_iconst (v := 3) (tb_ok aX8_understands_1 18 rfl) (by decide) ?_
        refine s_icmp_ne (tgt := 87) (tb_ok aX8_understands_1 19 rfl) (by decide) (fun c70 => ?_) (fun c70 => ?_)
        · refine s_iload (tb_ok aX8_understands_2 4 rfl) rfl ?_
          refine s_iload (tb_ok aX8_understands_2 5 rfl) rfl ?_
          refine s_ineg (tb_ok aX8_understands_2 6 rfl) ?_
          refine s_iand (tb_ok aX8_understands_2 7 rfl) ?_
          refine s_iret (tb_ok aX8_understands_2 8 rfl) rfl ?_
          refine pureE (congrArg (fun z => some (Value.int z)) ?_)
          rw [und1 hk]
          rw [ex2]
        · exact absurd c70 (by decide)
      · exact absurd c60 (by decide)
    · exact absurd c34 (by decide)

set_option maxRecDepth 100000 in
set_option maxHeartbeats 1000000 in
theorem R_und2 {X : En} {L : FL} {q : Nat × Nat} {I : FI} {m : Nat} {fr fa : Nat → Int32} {M : Nat} {T : Nat → Nat → Int32} {d : Nat} {sem : Nat → Sem} (h : RSt I m fr fa M T d sem) {j : Nat} (hj : j < M) (hd : d < 2 ^ 30) (hk : T j 0 = 2) : Ev X 2 mX8_understands (0, 0) [.ref 66, .int (nI j)] S0 I L (R0 q) (PureR (some (.int (undP fr fa m (T j) (nI d)))) S0 I L (R0 q)) := by
  have hM5 := h.M5
  obtain ⟨_, _, ⟨v, hv, ev⟩, _, _⟩ := h.ok hj
  obtain ⟨u, hu, eu, _⟩ := nx_N (fr := fr) (v := v) (wo := -1) h.2.1
  have eu2 : nx fr fa m (T j 2) (-1) = nI u := by rw [ev]; exact eu
  have hz : nx fr fa m (clo fr fa m (-1) 12 (T j 2)) (-1) = 0 := by rw [ev]; exact h.z hv (-1)
  refine ev_of (by decide +kernel) rfl ?_
  show SW X _ _ _ 0 [some (.ref 66), some (.int (nI j)), none, none, none, none] [] S0 I L (R0 q) _
  refine s_aload_n (tb_ok aX8_understands_0 0 rfl) rfl ?_
  refine s_getR (r := 72) (tb_ok aX8_understands_0 1 rfl) f_RX8_29 rfl rfl rfl ?_
  refine s_iload_n (tb_ok aX8_understands_0 2 rfl) rfl ?_
  refine s_ialdX (x := (2)) (tb_ok aX8_understands_0 3 rfl) rfl (by omega) (by decide) ((h.c0 hj).trans hk) ?_
  refine s_istore_n (ls' := [some (.ref 66), some (.int (nI j)), some (.int (2)), none, none, none]) (tb_ok aX8_understands_0 4 rfl) rfl rfl ?_
  refine s_aload_n (tb_ok aX8_understands_0 5 rfl) rfl ?_
  refine s_getR (r := 73) (tb_ok aX8_understands_0 6 rfl) f_RX8_32 rfl rfl rfl ?_
  refine s_iconst (v := 4) (tb_ok aX8_understands_0 7 rfl) (by decide) ?_
  refine s_iload_n (tb_ok aX8_understands_0 8 rfl) rfl ?_
  refine s_imul (tb_ok aX8_understands_0 9 rfl) ?_
  refine s_topi (z := (nI (4 * j))) (nI_mul 4 j) ?_
  refine s_ialdX (x := (T j 1)) (tb_ok aX8_understands_0 10 rfl) rfl (by omega) (by decide) (h.c1 hj) ?_
  refine s_name (fun x1 ex1 => ?_)
  refine s_istore_n (ls' := [some (.ref 66), some (.int (nI j)), some (.int (2)), some (.int x1), none, none]) (tb_ok aX8_understands_0 11 rfl) rfl rfl ?_
  refine s_aload_n (tb_ok aX8_understands_0 12 rfl) rfl ?_
  refine s_aload_n (tb_ok aX8_understands_0 13 rfl) rfl ?_
  refine s_iload_n (tb_ok aX8_understands_0 14 rfl) rfl ?_
  refine s_cVp (as := [.int (nI j)]) (tb_ok aX8_understands_0 15 rfl) v_RX8_115 (R_knows h hj) (by decide) rfl rfl rfl rfl rfl (Nat.le_of_ble_eq_true rfl) (by decide) ?_
  refine s_iconst (v := -1) (tb_ok aX8_understands_0 16 rfl) (by decide) ?_
  refine s_cVp (as := [.int (T j 2), .int (-1)]) (tb_ok aX8_understands_0 17 rfl) v_RX8_118 (R_followsOf h.1 _ _) (by decide) rfl rfl rfl rfl rfl (Nat.le_of_ble_eq_true rfl) (by decide) ?_
  refine s_name (fun x2 ex2 => ?_)
  refine s_istore (ls' := [some (.ref 66), some (.int (nI j)), some (.int (2)), some (.int x1), some (.int x2), none]) (tb_ok aX8_understands_0 18 rfl) rfl rfl ?_
  refine s_iload_n (tb_ok aX8_understands_0 19 rfl) rfl ?_
  refine s_if_eq (tgt := 37) (tb_ok aX8_understands_0 20 rfl) (by decide) (fun c29 => ?_) (fun c29 => ?_)
  · exact absurd c29 (by decide)
  · refine s_iload_n (tb_ok aX8_understands_0 21 rfl) rfl ?_
    refine s_iconst (v := 5) (tb_ok aX8_understands_0 22 rfl) (by decide) ?_
    refine s_icmp_ne (tgt := 58) (tb_ok aX8_understands_0 23 rfl) (by decide) (fun c34 => ?_) (fun c34 => ?_)
    · refine s_iload_n (tb_ok aX8_understands_1 11 rfl) rfl ?_
      refine s_iconst (v := 1) (tb_ok aX8_understands_1 12 rfl) (by decide) ?_
      refine s_icmp_eq (tgt := 68) (tb_ok aX8_understands_1 13 rfl) (by decide) (fun c60 => ?_) (fun c60 => ?_)
      · exact absurd c60 (by decide)
      · refine s_iload_n (tb_ok aX8_understands_1 14 rfl) rfl ?_
        refine s_iconst (v := 3) (tb_ok aX8_understands_1 15 rfl) (by decide) ?_
        refine s_icmp_ne (tgt := 94) (tb_ok aX8_understands_1 16 rfl) (by decide) (fun c65 => ?_) (fun c65 => ?_)
        · refine s_aload_n (tb_ok aX8_understands_2 9 rfl) rfl ?_
          refine s_aload_n (tb_ok aX8_understands_2 10 rfl) rfl ?_
          refine s_iload_n (tb_ok aX8_understands_2 11 rfl) rfl ?_
          refine s_cVp (as := [.int (nI j)]) (tb_ok aX8_understands_2 12 rfl) v_RX8_115 (R_knows h hj) (by decide) rfl rfl rfl rfl rfl (Nat.le_of_ble_eq_true rfl) (by decide) ?_
          refine s_iconst (v := -1) (tb_ok aX8_understands_2 13 rfl) (by decide) ?_
          refine s_cVp (as := [.int (T j 2), .int (-1)]) (tb_ok aX8_understands_2 14 rfl) v_RX8_127 (R_allOf h.1 hz) (by decide) rfl rfl rfl rfl rfl (Nat.le_of_ble_eq_true rfl) (by decide) ?_
          refine s_aload_n (tb_ok aX8_understands_2 15 rfl) rfl ?_
          refine s_iload_n (tb_ok aX8_understands_2 16 rfl) rfl ?_
          refine s_cVp (as := [.int (nI j)]) (tb_ok aX8_understands_2 17 rfl) v_RX8_115 (R_knows h hj) (by decide) rfl rfl rfl rfl rfl (Nat.le_of_ble_eq_true rfl) (by decide) ?_
          refine s_iconst (v := -1) (tb_ok aX8_understands_2 18 rfl) (by decide) ?_
          refine s_ixor (tb_ok aX8_understands_2 19 rfl) ?_
          refine s_topi (z := (~~~(T j 2))) xor_m1 ?_
          refine s_iand (tb_ok aX8_understands_2 20 rfl) ?_
          refine s_name (fun x3 ex3 => ?_)
          refine s_istore (ls' := [some (.ref 66), some (.int (nI j)), some (.int (2)), some (.int x1), some (.int x2), some (.int x3)]) (tb_ok aX8_understands_2 21 rfl) rfl rfl ?_
          refine s_iload_n (tb_ok aX8_understands_2 22 rfl) rfl ?_
          refine s_iconst (v := 4) (tb_ok aX8_understands_2 23 rfl) (by decide) ?_
          refine s_icmp_ne (tgt := 130) (tb_ok aX8_understands_3 0 rfl) (by decide) (fun c116 => ?_) (fun c116 => ?_)
          · refine s_iload (tb_ok aX8_understands_3 9 rfl) rfl ?_
            refine s_iret (tb_ok aX8_understands_3 10 rfl) rfl ?_
            refine pureE (congrArg (fun z => some (Value.int z)) ?_)
            rw [und2 hk]
            exact ex3
          · exact absurd c116 (by decide)
        · exact absurd c65 (by decide)
    · exact absurd c34 (by decide)

set_option maxRecDepth 100000 in
set_option maxHeartbeats 1000000 in
theorem R_und3 {X : En} {L : FL} {q : Nat × Nat} {I : FI} {m : Nat} {fr fa : Nat → Int32} {M : Nat} {T : Nat → Nat → Int32} {d : Nat} {sem : Nat → Sem} (h : RSt I m fr fa M T d sem) {j : Nat} (hj : j < M) (hd : d < 2 ^ 30) (hk : T j 0 = 3) : Ev X 2 mX8_understands (0, 0) [.ref 66, .int (nI j)] S0 I L (R0 q) (PureR (some (.int (undP fr fa m (T j) (nI d)))) S0 I L (R0 q)) := by
  have hM5 := h.M5
  obtain ⟨_, _, ⟨v, hv, ev⟩, _, _⟩ := h.ok hj
  obtain ⟨u, hu, eu, _⟩ := nx_N (fr := fr) (v := v) (wo := -1) h.2.1
  have eu2 : nx fr fa m (T j 2) (-1) = nI u := by rw [ev]; exact eu
  have hz : nx fr fa m (clo fr fa m (-1) 12 (T j 2)) (-1) = 0 := by rw [ev]; exact h.z hv (-1)
  refine ev_of (by decide +kernel) rfl ?_
  show SW X _ _ _ 0 [some (.ref 66), some (.int (nI j)), none, none, none, none] [] S0 I L (R0 q) _
  refine s_aload_n (tb_ok aX8_understands_0 0 rfl) rfl ?_
  refine s_getR (r := 72) (tb_ok aX8_understands_0 1 rfl) f_RX8_29 rfl rfl rfl ?_
  refine s_iload_n (tb_ok aX8_understands_0 2 rfl) rfl ?_
  refine s_ialdX (x := (3)) (tb_ok aX8_understands_0 3 rfl) rfl (by omega) (by decide) ((h.c0 hj).trans hk) ?_
  refine s_istore_n (ls' := [some (.ref 66), some (.int (nI j)), some (.int (3)), none, none, none]) (tb_ok aX8_understands_0 4 rfl) rfl rfl ?_
  refine s_aload_n (tb_ok aX8_understands_0 5 rfl) rfl ?_
  refine s_getR (r := 73) (tb_ok aX8_understands_0 6 rfl) f_RX8_32 rfl rfl rfl ?_
  refine s_iconst (v := 4) (tb_ok aX8_understands_0 7 rfl) (by decide) ?_
  refine s_iload_n (tb_ok aX8_understands_0 8 rfl) rfl ?_
  refine s_imul (tb_ok aX8_understands_0 9 rfl) ?_
  refine s_topi (z := (nI (4 * j))) (nI_mul 4 j) ?_
  refine s_ialdX (x := (T j 1)) (tb_ok aX8_understands_0 10 rfl) rfl (by omega) (by decide) (h.c1 hj) ?_
  refine s_name (fun x1 ex1 => ?_)
  refine s_istore_n (ls' := [some (.ref 66), some (.int (nI j)), some (.int (3)), some (.int x1), none, none]) (tb_ok aX8_understands_0 11 rfl) rfl rfl ?_
  refine s_aload_n (tb_ok aX8_understands_0 12 rfl) rfl ?_
  refine s_aload_n (tb_ok aX8_understands_0 13 rfl) rfl ?_
  refine s_iload_n (tb_ok aX8_understands_0 14 rfl) rfl ?_
  refine s_cVp (as := [.int (nI j)]) (tb_ok aX8_understands_0 15 rfl) v_RX8_115 (R_knows h hj) (by decide) rfl rfl rfl rfl rfl (Nat.le_of_ble_eq_true rfl) (by decide) ?_
  refine s_iconst (v := -1) (tb_ok aX8_understands_0 16 rfl) (by decide) ?_
  refine s_cVp (as := [.int (T j 2), .int (-1)]) (tb_ok aX8_understands_0 17 rfl) v_RX8_118 (R_followsOf h.1 _ _) (by decide) rfl rfl rfl rfl rfl (Nat.le_of_ble_eq_true rfl) (by decide) ?_
  refine s_name (fun x2 ex2 => ?_)
  refine s_istore (ls' := [some (.ref 66), some (.int (nI j)), some (.int (3)), some (.int x1), some (.int x2), none]) (tb_ok aX8_understands_0 18 rfl) rfl rfl ?_
  refine s_iload_n (tb_ok aX8_understands_0 19 rfl) rfl ?_
  refine s_if_eq (tgt := 37) (tb_ok aX8_understands_0 20 rfl) (by decide) (fun c29 => ?_) (fun c29 => ?_)
  · exact absurd c29 (by decide)
  · refine s_iload_n (tb_ok aX8_understands_0 21 rfl) rfl ?_
    refine s_iconst (v := 5) (tb_ok aX8_understands_0 22 rfl) (by decide) ?_
    refine s_icmp_ne (tgt := 58) (tb_ok aX8_understands_0 23 rfl) (by decide) (fun c34 => ?_) (fun c34 => ?_)
    · refine s_iload_n (tb_ok aX8_understands_1 11 rfl) rfl ?_
      refine s_iconst (v := 1) (tb_ok aX8_understands_1 12 rfl) (by decide) ?_
      refine s_icmp_eq (tgt := 68) (tb_ok aX8_understands_1 13 rfl) (by decide) (fun c60 => ?_) (fun c60 => ?_)
      · exact absurd c60 (by decide)
      · refine s_iload_n (tb_ok aX8_understands_1 14 rfl) rfl ?_
        refine s_iconst (v := 3) (tb_ok aX8_understands_1 15 rfl) (by decide) ?_
        refine s_icmp_ne (tgt := 94) (tb_ok aX8_understands_1 16 rfl) (by decide) (fun c65 => ?_) (fun c65 => ?_)
        · exact absurd c65 (by decide)
        · refine s_iload_n (tb_ok aX8_understands_1 17 rfl) rfl ?_
          refine s_iconst (v := 3) (tb_ok aX8_understands_1 18 rfl) (by decide) ?_
          refine s_icmp_ne (tgt := 87) (tb_ok aX8_understands_1 19 rfl) (by decide) (fun c70 => ?_) (fun c70 => ?_)
          · exact absurd c70 (by decide)
          · refine s_aload_n (tb_ok aX8_understands_1 20 rfl) rfl ?_
            refine s_getI (x := (nI d)) (tb_ok aX8_understands_1 21 rfl) f_RX8_105 rfl rfl h.day ?_
            refine s_iconst (v := 2) (tb_ok aX8_understands_1 22 rfl) (by decide) ?_
            refine s_irem (tb_ok aX8_understands_1 23 rfl) (by decide) ?_
            refine s_iconst (v := 1) (tb_ok aX8_understands_2 0 rfl) (by decide) ?_
            refine s_icmp_ne (tgt := 87) (tb_ok aX8_understands_2 1 rfl) (by decide) (fun c80 => ?_) (fun c80 => ?_)
            · refine s_iload (tb_ok aX8_understands_2 4 rfl) rfl ?_
              refine s_iload (tb_ok aX8_understands_2 5 rfl) rfl ?_
              refine s_ineg (tb_ok aX8_understands_2 6 rfl) ?_
              refine s_iand (tb_ok aX8_understands_2 7 rfl) ?_
              refine s_iret (tb_ok aX8_understands_2 8 rfl) rfl ?_
              refine pureE (congrArg (fun z => some (Value.int z)) ?_)
              rw [und3 hk]
              rw [ex2, if_pos (Classical.byContradiction (fun h_ => c80 ((par3 hd).mpr h_)))]
            · refine s_iconst (v := 0) (tb_ok aX8_understands_2 2 rfl) (by decide) ?_
              refine s_goto (tgt := 93) (tb_ok aX8_understands_2 3 rfl) (by decide) ?_
              refine s_iret (tb_ok aX8_understands_2 8 rfl) rfl ?_
              refine pureE (congrArg (fun z => some (Value.int z)) ?_)
              rw [und3 hk]
              rw [if_neg ((par3 hd).mp c80)]
    · exact absurd c34 (by decide)

set_option maxRecDepth 100000 in
set_option maxHeartbeats 1000000 in
theorem R_und4 {X : En} {L : FL} {q : Nat × Nat} {I : FI} {m : Nat} {fr fa : Nat → Int32} {M : Nat} {T : Nat → Nat → Int32} {d : Nat} {sem : Nat → Sem} (h : RSt I m fr fa M T d sem) {j : Nat} (hj : j < M) (hd : d < 2 ^ 30) (hk : T j 0 = 4) : Ev X 2 mX8_understands (0, 0) [.ref 66, .int (nI j)] S0 I L (R0 q) (PureR (some (.int (undP fr fa m (T j) (nI d)))) S0 I L (R0 q)) := by
  have hM5 := h.M5
  obtain ⟨_, _, ⟨v, hv, ev⟩, _, _⟩ := h.ok hj
  obtain ⟨u, hu, eu, _⟩ := nx_N (fr := fr) (v := v) (wo := -1) h.2.1
  have eu2 : nx fr fa m (T j 2) (-1) = nI u := by rw [ev]; exact eu
  have hz : nx fr fa m (clo fr fa m (-1) 12 (T j 2)) (-1) = 0 := by rw [ev]; exact h.z hv (-1)
  refine ev_of (by decide +kernel) rfl ?_
  show SW X _ _ _ 0 [some (.ref 66), some (.int (nI j)), none, none, none, none] [] S0 I L (R0 q) _
  refine s_aload_n (tb_ok aX8_understands_0 0 rfl) rfl ?_
  refine s_getR (r := 72) (tb_ok aX8_understands_0 1 rfl) f_RX8_29 rfl rfl rfl ?_
  refine s_iload_n (tb_ok aX8_understands_0 2 rfl) rfl ?_
  refine s_ialdX (x := (4)) (tb_ok aX8_understands_0 3 rfl) rfl (by omega) (by decide) ((h.c0 hj).trans hk) ?_
  refine s_istore_n (ls' := [some (.ref 66), some (.int (nI j)), some (.int (4)), none, none, none]) (tb_ok aX8_understands_0 4 rfl) rfl rfl ?_
  refine s_aload_n (tb_ok aX8_understands_0 5 rfl) rfl ?_
  refine s_getR (r := 73) (tb_ok aX8_understands_0 6 rfl) f_RX8_32 rfl rfl rfl ?_
  refine s_iconst (v := 4) (tb_ok aX8_understands_0 7 rfl) (by decide) ?_
  refine s_iload_n (tb_ok aX8_understands_0 8 rfl) rfl ?_
  refine s_imul (tb_ok aX8_understands_0 9 rfl) ?_
  refine s_topi (z := (nI (4 * j))) (nI_mul 4 j) ?_
  refine s_ialdX (x := (T j 1)) (tb_ok aX8_understands_0 10 rfl) rfl (by omega) (by decide) (h.c1 hj) ?_
  refine s_name (fun x1 ex1 => ?_)
  refine s_istore_n (ls' := [some (.ref 66), some (.int (nI j)), some (.int (4)), some (.int x1), none, none]) (tb_ok aX8_understands_0 11 rfl) rfl rfl ?_
  refine s_aload_n (tb_ok aX8_understands_0 12 rfl) rfl ?_
  refine s_aload_n (tb_ok aX8_understands_0 13 rfl) rfl ?_
  refine s_iload_n (tb_ok aX8_understands_0 14 rfl) rfl ?_
  refine s_cVp (as := [.int (nI j)]) (tb_ok aX8_understands_0 15 rfl) v_RX8_115 (R_knows h hj) (by decide) rfl rfl rfl rfl rfl (Nat.le_of_ble_eq_true rfl) (by decide) ?_
  refine s_iconst (v := -1) (tb_ok aX8_understands_0 16 rfl) (by decide) ?_
  refine s_cVp (as := [.int (T j 2), .int (-1)]) (tb_ok aX8_understands_0 17 rfl) v_RX8_118 (R_followsOf h.1 _ _) (by decide) rfl rfl rfl rfl rfl (Nat.le_of_ble_eq_true rfl) (by decide) ?_
  refine s_name (fun x2 ex2 => ?_)
  refine s_istore (ls' := [some (.ref 66), some (.int (nI j)), some (.int (4)), some (.int x1), some (.int x2), none]) (tb_ok aX8_understands_0 18 rfl) rfl rfl ?_
  refine s_iload_n (tb_ok aX8_understands_0 19 rfl) rfl ?_
  refine s_if_eq (tgt := 37) (tb_ok aX8_understands_0 20 rfl) (by decide) (fun c29 => ?_) (fun c29 => ?_)
  · exact absurd c29 (by decide)
  · refine s_iload_n (tb_ok aX8_understands_0 21 rfl) rfl ?_
    refine s_iconst (v := 5) (tb_ok aX8_understands_0 22 rfl) (by decide) ?_
    refine s_icmp_ne (tgt := 58) (tb_ok aX8_understands_0 23 rfl) (by decide) (fun c34 => ?_) (fun c34 => ?_)
    · refine s_iload_n (tb_ok aX8_understands_1 11 rfl) rfl ?_
      refine s_iconst (v := 1) (tb_ok aX8_understands_1 12 rfl) (by decide) ?_
      refine s_icmp_eq (tgt := 68) (tb_ok aX8_understands_1 13 rfl) (by decide) (fun c60 => ?_) (fun c60 => ?_)
      · exact absurd c60 (by decide)
      · refine s_iload_n (tb_ok aX8_understands_1 14 rfl) rfl ?_
        refine s_iconst (v := 3) (tb_ok aX8_understands_1 15 rfl) (by decide) ?_
        refine s_icmp_ne (tgt := 94) (tb_ok aX8_understands_1 16 rfl) (by decide) (fun c65 => ?_) (fun c65 => ?_)
        · refine s_aload_n (tb_ok aX8_understands_2 9 rfl) rfl ?_
          refine s_aload_n (tb_ok aX8_understands_2 10 rfl) rfl ?_
          refine s_iload_n (tb_ok aX8_understands_2 11 rfl) rfl ?_
          refine s_cVp (as := [.int (nI j)]) (tb_ok aX8_understands_2 12 rfl) v_RX8_115 (R_knows h hj) (by decide) rfl rfl rfl rfl rfl (Nat.le_of_ble_eq_true rfl) (by decide) ?_
          refine s_iconst (v := -1) (tb_ok aX8_understands_2 13 rfl) (by decide) ?_
          refine s_cVp (as := [.int (T j 2), .int (-1)]) (tb_ok aX8_understands_2 14 rfl) v_RX8_127 (R_allOf h.1 hz) (by decide) rfl rfl rfl rfl rfl (Nat.le_of_ble_eq_true rfl) (by decide) ?_
          refine s_aload_n (tb_ok aX8_understands_2 15 rfl) rfl ?_
          refine s_iload_n (tb_ok aX8_understands_2 16 rfl) rfl ?_
          refine s_cVp (as := [.int (nI j)]) (tb_ok aX8_understands_2 17 rfl) v_RX8_115 (R_knows h hj) (by decide) rfl rfl rfl rfl rfl (Nat.le_of_ble_eq_true rfl) (by decide) ?_
          refine s_iconst (v := -1) (tb_ok aX8_understands_2 18 rfl) (by decide) ?_
          refine s_ixor (tb_ok aX8_understands_2 19 rfl) ?_
          refine s_topi (z := (~~~(T j 2))) xor_m1 ?_
          refine s_iand (tb_ok aX8_understands_2 20 rfl) ?_
          refine s_name (fun x3 ex3 => ?_)
          refine s_istore (ls' := [some (.ref 66), some (.int (nI j)), some (.int (4)), some (.int x1), some (.int x2), some (.int x3)]) (tb_ok aX8_understands_2 21 rfl) rfl rfl ?_
          refine s_iload_n (tb_ok aX8_understands_2 22 rfl) rfl ?_
          refine s_iconst (v := 4) (tb_ok aX8_understands_2 23 rfl) (by decide) ?_
          refine s_icmp_ne (tgt := 130) (tb_ok aX8_understands_3 0 rfl) (by decide) (fun c116 => ?_) (fun c116 => ?_)
          · exact absurd c116 (by decide)
          · refine s_iload (tb_ok aX8_understands_3 1 rfl) rfl ?_
            refine s_iconst (v := 1) (tb_ok aX8_understands_3 2 rfl) (by decide) ?_
            refine s_iload_n (tb_ok aX8_understands_3 3 rfl) rfl ?_
            refine s_ishl (tb_ok aX8_understands_3 4 rfl) ?_
            refine s_iconst (v := -1) (tb_ok aX8_understands_3 5 rfl) (by decide) ?_
            refine s_ixor (tb_ok aX8_understands_3 6 rfl) ?_
            refine s_topi (z := (~~~((1 : Int32) <<< (x1 &&& 31)))) xor_m1 ?_
            refine s_iand (tb_ok aX8_understands_3 7 rfl) ?_
            refine s_goto (tgt := 132) (tb_ok aX8_understands_3 8 rfl) (by decide) ?_
            refine s_iret (tb_ok aX8_understands_3 10 rfl) rfl ?_
            refine pureE (congrArg (fun z => some (Value.int z)) ?_)
            rw [und4 hk]
            rw [ex3, ex1]
        · exact absurd c65 (by decide)
    · exact absurd c34 (by decide)

set_option maxRecDepth 100000 in
set_option maxHeartbeats 1000000 in
theorem R_und5 {X : En} {L : FL} {q : Nat × Nat} {I : FI} {m : Nat} {fr fa : Nat → Int32} {M : Nat} {T : Nat → Nat → Int32} {d : Nat} {sem : Nat → Sem} (h : RSt I m fr fa M T d sem) {j : Nat} (hj : j < M) (hd : d < 2 ^ 30) (hk : T j 0 = 5) : Ev X 2 mX8_understands (0, 0) [.ref 66, .int (nI j)] S0 I L (R0 q) (PureR (some (.int (undP fr fa m (T j) (nI d)))) S0 I L (R0 q)) := by
  have hM5 := h.M5
  obtain ⟨_, _, ⟨v, hv, ev⟩, _, _⟩ := h.ok hj
  obtain ⟨u, hu, eu, _⟩ := nx_N (fr := fr) (v := v) (wo := -1) h.2.1
  have eu2 : nx fr fa m (T j 2) (-1) = nI u := by rw [ev]; exact eu
  have hz : nx fr fa m (clo fr fa m (-1) 12 (T j 2)) (-1) = 0 := by rw [ev]; exact h.z hv (-1)
  refine ev_of (by decide +kernel) rfl ?_
  show SW X _ _ _ 0 [some (.ref 66), some (.int (nI j)), none, none, none, none] [] S0 I L (R0 q) _
  refine s_aload_n (tb_ok aX8_understands_0 0 rfl) rfl ?_
  refine s_getR (r := 72) (tb_ok aX8_understands_0 1 rfl) f_RX8_29 rfl rfl rfl ?_
  refine s_iload_n (tb_ok aX8_understands_0 2 rfl) rfl ?_
  refine s_ialdX (x := (5)) (tb_ok aX8_understands_0 3 rfl) rfl (by omega) (by decide) ((h.c0 hj).trans hk) ?_
  refine s_istore_n (ls' := [some (.ref 66), some (.int (nI j)), some (.int (5)), none, none, none]) (tb_ok aX8_understands_0 4 rfl) rfl rfl ?_
  refine s_aload_n (tb_ok aX8_understands_0 5 rfl) rfl ?_
  refine s_getR (r := 73) (tb_ok aX8_understands_0 6 rfl) f_RX8_32 rfl rfl rfl ?_
  refine s_iconst (v := 4) (tb_ok aX8_understands_0 7 rfl) (by decide) ?_
  refine s_iload_n (tb_ok aX8_understands_0 8 rfl) rfl ?_
  refine s_imul (tb_ok aX8_understands_0 9 rfl) ?_
  refine s_topi (z := (nI (4 * j))) (nI_mul 4 j) ?_
  refine s_ialdX (x := (T j 1)) (tb_ok aX8_understands_0 10 rfl) rfl (by omega) (by decide) (h.c1 hj) ?_
  refine s_name (fun x1 ex1 => ?_)
  refine s_istore_n (ls' := [some (.ref 66), some (.int (nI j)), some (.int (5)), some (.int x1), none, none]) (tb_ok aX8_understands_0 11 rfl) rfl rfl ?_
  refine s_aload_n (tb_ok aX8_understands_0 12 rfl) rfl ?_
  refine s_aload_n (tb_ok aX8_understands_0 13 rfl) rfl ?_
  refine s_iload_n (tb_ok aX8_understands_0 14 rfl) rfl ?_
  refine s_cVp (as := [.int (nI j)]) (tb_ok aX8_understands_0 15 rfl) v_RX8_115 (R_knows h hj) (by decide) rfl rfl rfl rfl rfl (Nat.le_of_ble_eq_true rfl) (by decide) ?_
  refine s_iconst (v := -1) (tb_ok aX8_understands_0 16 rfl) (by decide) ?_
  refine s_cVp (as := [.int (T j 2), .int (-1)]) (tb_ok aX8_understands_0 17 rfl) v_RX8_118 (R_followsOf h.1 _ _) (by decide) rfl rfl rfl rfl rfl (Nat.le_of_ble_eq_true rfl) (by decide) ?_
  refine s_name (fun x2 ex2 => ?_)
  refine s_istore (ls' := [some (.ref 66), some (.int (nI j)), some (.int (5)), some (.int x1), some (.int x2), none]) (tb_ok aX8_understands_0 18 rfl) rfl rfl ?_
  refine s_iload_n (tb_ok aX8_understands_0 19 rfl) rfl ?_
  refine s_if_eq (tgt := 37) (tb_ok aX8_understands_0 20 rfl) (by decide) (fun c29 => ?_) (fun c29 => ?_)
  · exact absurd c29 (by decide)
  · refine s_iload_n (tb_ok aX8_understands_0 21 rfl) rfl ?_
    refine s_iconst (v := 5) (tb_ok aX8_understands_0 22 rfl) (by decide) ?_
    refine s_icmp_ne (tgt := 58) (tb_ok aX8_understands_0 23 rfl) (by decide) (fun c34 => ?_) (fun c34 => ?_)
    · exact absurd c34 (by decide)
    · refine s_iload_n (tb_ok aX8_understands_1 0 rfl) rfl ?_
      refine s_iconst (v := 5) (tb_ok aX8_understands_1 1 rfl) (by decide) ?_
      refine s_icmp_ne (tgt := 55) (tb_ok aX8_understands_1 2 rfl) (by decide) (fun c39 => ?_) (fun c39 => ?_)
      · exact absurd c39 (by decide)
      · refine s_iload (tb_ok aX8_understands_1 3 rfl) rfl ?_
        refine s_cSp (as := [.int x2]) (tb_ok aX8_understands_1 4 rfl) v_RX8_345 (R_bitsX (ex2.trans eu2) hu) (by decide) rfl rfl (Nat.le_of_ble_eq_true rfl) ?_
        refine s_iconst (v := 2) (tb_ok aX8_understands_1 5 rfl) (by decide) ?_
        refine s_icmp_ge (tgt := 55) (tb_ok aX8_understands_1 6 rfl) (by decide) (fun c48 => ?_) (fun c48 => ?_)
        · refine s_iload (tb_ok aX8_understands_1 9 rfl) rfl ?_
          refine s_iret (tb_ok aX8_understands_1 10 rfl) rfl ?_
          refine pureE (congrArg (fun z => some (Value.int z)) ?_)
          rw [und5 hk]
          rw [ex2] at c48
          rw [eu2] at c48
          rw [ex2, eu2, if_neg (fun h_ => Int32.not_lt.mpr c48 ((bc_lt2 u hu).mpr h_))]
        · refine s_iconst (v := 0) (tb_ok aX8_understands_1 7 rfl) (by decide) ?_
          refine s_goto (tgt := 57) (tb_ok aX8_understands_1 8 rfl) (by decide) ?_
          refine s_iret (tb_ok aX8_understands_1 10 rfl) rfl ?_
          refine pureE (congrArg (fun z => some (Value.int z)) ?_)
          rw [und5 hk]
          rw [ex2] at c48
          rw [eu2] at c48 ⊢
          rw [if_pos ((bc_lt2 u hu).mp (Int32.not_le.mp c48))]

set_option maxRecDepth 100000 in
set_option maxHeartbeats 1000000 in
theorem R_und {X : En} {L : FL} {q : Nat × Nat} {I : FI} {m : Nat} {fr fa : Nat → Int32} {M : Nat} {T : Nat → Nat → Int32} {d : Nat} {sem : Nat → Sem} (h : RSt I m fr fa M T d sem) {j : Nat} (hj : j < M) (hd : d < 2 ^ 30) : Ev X 2 mX8_understands (0, 0) [.ref 66, .int (nI j)] S0 I L (R0 q) (PureR (some (.int (undP fr fa m (T j) (nI d)))) S0 I L (R0 q)) := by
  obtain ⟨⟨k, hk, ek⟩, _⟩ := h.ok hj
  have hk6 : k = 0 ∨ k = 1 ∨ k = 2 ∨ k = 3 ∨ k = 4 ∨ k = 5 := by omega
  rcases hk6 with e | e | e | e | e | e <;> subst e
  · exact R_und0 h hj hd ek
  · exact R_und1 h hj hd ek
  · exact R_und2 h hj hd ek
  · exact R_und3 h hj hd ek
  · exact R_und4 h hj hd ek
  · exact R_und5 h hj hd ek

section FAL
variable {sem : Nat → (Nat → Int32) → Int32} {f : Nat → Int32} {fact day : Int32}
theorem fal0 (h : f 0 = 0) : fallP sem f fact day = held (sem 0 (nmT f fact day)) 0 99 := by unfold fallP; rw [h]; rfl
theorem fal1 (h : f 0 = 1) : fallP sem f fact day = held (sem 0 (nmT f fact day)) 0 99 / 2 := by unfold fallP; rw [h]; rfl
theorem fal2 (h : f 0 = 2) : fallP sem f fact day = held (held (sem 0 (nmT f fact day)) 0 99 + 1) 0 99 := by unfold fallP; rw [h]; rfl
theorem fal3 (h : f 0 = 3) : fallP sem f fact day = held (held (sem 0 (nmT f fact day)) 0 99 / 2 + f 1) 0 99 := by unfold fallP; rw [h]; rfl
theorem fal4 (h : f 0 = 4) : fallP sem f fact day = held (held (sem 0 (nmT f fact day)) 0 99 + 1) 0 99 := by unfold fallP; rw [h]; rfl
theorem fal5 (h : f 0 = 5) : fallP sem f fact day = if 50 < f 4 then held (2 * held (sem 0 (nmT f fact day)) 0 99) 0 99 else 0 := by unfold fallP; rw [h]; rfl
theorem hh0 (v : Int32) : held (held v 0 99) 0 99 = held v 0 99 := by
  obtain ⟨r, hr, er⟩ := held99 v
  rw [er]
  exact held_id (hi := 99) (by omega) (by omega)
theorem hh1 (v : Int32) : held (held v 0 99 / 2) 0 99 = held v 0 99 / 2 := by
  obtain ⟨r, hr, er⟩ := held99 v
  rw [er, show nI r / 2 = nI (r / 2) from nI_div (b := 2) (by omega) (by omega)]
  exact held_id (hi := 99) (by omega) (by omega)
end FAL
set_option maxRecDepth 100000 in
set_option maxHeartbeats 1000000 in
theorem R_fal0 {X : En} {L : FL} {q : Nat × Nat} {I : FI} {m : Nat} {fr fa : Nat → Int32} {M : Nat} {T : Nat → Nat → Int32} {d : Nat} {sem : Nat → Sem} (h : RSt I m fr fa M T d sem) {j : Nat} (hj : j < M) (fact : Int32) (hk : T j 0 = 0) : Ev X 53 mX8_fallOf (0, 0) [.ref 66, .int (nI j), .int fact] S0 I L (R0 q) (AfZ q eS I (fallP sem (T j) fact (nI d))) := by
  have hM5 := h.M5
  refine ev_of (by decide +kernel) rfl ?_
  show SW X _ _ _ 0 [some (.ref 66), some (.int (nI j)), some (.int fact), none, none] [] S0 I L (R0 q) _
  refine s_aload_n (tb_ok aX8_fallOf_0 0 rfl) rfl ?_
  refine s_getR (r := 72) (tb_ok aX8_fallOf_0 1 rfl) f_RX8_29 rfl rfl rfl ?_
  refine s_iload_n (tb_ok aX8_fallOf_0 2 rfl) rfl ?_
  refine s_ialdX (x := (0)) (tb_ok aX8_fallOf_0 3 rfl) rfl (by omega) (by decide) ((h.c0 hj).trans hk) ?_
  refine s_istore_n (ls' := [some (.ref 66), some (.int (nI j)), some (.int fact), some (.int (0)), none]) (tb_ok aX8_fallOf_0 4 rfl) rfl rfl ?_
  refine s_iload_n (tb_ok aX8_fallOf_0 5 rfl) rfl ?_
  refine s_iconst (v := 5) (tb_ok aX8_fallOf_0 6 rfl) (by decide) ?_
  refine s_icmp_ne (tgt := 29) (tb_ok aX8_fallOf_0 7 rfl) (by decide) (fun c9 => ?_) (fun c9 => ?_)
  · refine s_aload_n (tb_ok aX8_fallOf_0 20 rfl) rfl ?_
    refine s_iconst (v := 0) (tb_ok aX8_fallOf_0 21 rfl) (by decide) ?_
    refine s_iload_n (tb_ok aX8_fallOf_0 22 rfl) rfl ?_
    refine s_iload_n (tb_ok aX8_fallOf_0 23 rfl) rfl ?_
    refine s_cV (as := [.int (0), .int (nI j), .int fact]) (tb_ok aX8_fallOf_1 0 rfl) v_RX8_366 (R_says0 h hj _) (by decide) rfl rfl rfl rfl rfl (Nat.le_of_ble_eq_true rfl) (by decide) (fun r1 S1 I1 L1 R1 q1 => ?_)
    obtain ⟨rfl, rfl, rfl, h1f⟩ := q1
    have h1 := h.see (see_eS h1f)
    refine s_name (fun x1 ex1 => ?_)
    refine s_istore (ls' := [some (.ref 66), some (.int (nI j)), some (.int fact), some (.int (0)), some (.int x1)]) (tb_ok aX8_fallOf_1 1 rfl) rfl rfl ?_
    refine s_iload_n (tb_ok aX8_fallOf_1 2 rfl) rfl ?_
    refine s_iconst (v := 1) (tb_ok aX8_fallOf_1 3 rfl) (by decide) ?_
    refine s_icmp_ne (tgt := 50) (tb_ok aX8_fallOf_1 4 rfl) (by decide) (fun c40 => ?_) (fun c40 => ?_)
    · refine s_iload_n (tb_ok aX8_fallOf_1 9 rfl) rfl ?_
      refine s_iconst (v := 3) (tb_ok aX8_fallOf_1 10 rfl) (by decide) ?_
      refine s_icmp_ne (tgt := 71) (tb_ok aX8_fallOf_1 11 rfl) (by decide) (fun c52 => ?_) (fun c52 => ?_)
      · refine s_iload_n (tb_ok aX8_fallOf_1 23 rfl) rfl ?_
        refine s_iconst (v := 2) (tb_ok aX8_fallOf_2 0 rfl) (by decide) ?_
        refine s_icmp_eq (tgt := 81) (tb_ok aX8_fallOf_2 1 rfl) (by decide) (fun c73 => ?_) (fun c73 => ?_)
        · exact absurd c73 (by decide)
        · refine s_iload_n (tb_ok aX8_fallOf_2 2 rfl) rfl ?_
          refine s_iconst (v := 4) (tb_ok aX8_fallOf_2 3 rfl) (by decide) ?_
          refine s_icmp_ne (tgt := 88) (tb_ok aX8_fallOf_2 4 rfl) (by decide) (fun c78 => ?_) (fun c78 => ?_)
          · refine s_iload_n (tb_ok aX8_fallOf_2 9 rfl) rfl ?_
            refine s_iconst (v := 5) (tb_ok aX8_fallOf_2 10 rfl) (by decide) ?_
            refine s_icmp_ne (tgt := 100) (tb_ok aX8_fallOf_2 11 rfl) (by decide) (fun c90 => ?_) (fun c90 => ?_)
            · refine s_iload (tb_ok aX8_fallOf_2 16 rfl) rfl ?_
              refine s_iconst (v := 0) (tb_ok aX8_fallOf_2 17 rfl) (by decide) ?_
              refine s_bipush (v := 99) (tb_ok aX8_fallOf_2 18 rfl) (by decide) ?_
              refine s_cSp (as := [.int x1, .int (0), .int (99)]) (tb_ok aX8_fallOf_2 19 rfl) v_RX8_348 (R_within _ _ _) (by decide) rfl rfl (Nat.le_of_ble_eq_true rfl) ?_
              rw [wit_held (by decide)]
              refine s_iret (tb_ok aX8_fallOf_2 20 rfl) rfl ?_
              refine afZ ?_ h1f
              rw [fal0 hk, ex1]
              exact hh0 _
            · exact absurd c90 (by decide)
          · exact absurd c78 (by decide)
      · exact absurd c52 (by decide)
    · exact absurd c40 (by decide)
  · exact absurd c9 (by decide)

set_option maxRecDepth 100000 in
set_option maxHeartbeats 1000000 in
theorem R_fal1 {X : En} {L : FL} {q : Nat × Nat} {I : FI} {m : Nat} {fr fa : Nat → Int32} {M : Nat} {T : Nat → Nat → Int32} {d : Nat} {sem : Nat → Sem} (h : RSt I m fr fa M T d sem) {j : Nat} (hj : j < M) (fact : Int32) (hk : T j 0 = 1) : Ev X 53 mX8_fallOf (0, 0) [.ref 66, .int (nI j), .int fact] S0 I L (R0 q) (AfZ q eS I (fallP sem (T j) fact (nI d))) := by
  have hM5 := h.M5
  refine ev_of (by decide +kernel) rfl ?_
  show SW X _ _ _ 0 [some (.ref 66), some (.int (nI j)), some (.int fact), none, none] [] S0 I L (R0 q) _
  refine s_aload_n (tb_ok aX8_fallOf_0 0 rfl) rfl ?_
  refine s_getR (r := 72) (tb_ok aX8_fallOf_0 1 rfl) f_RX8_29 rfl rfl rfl ?_
  refine s_iload_n (tb_ok aX8_fallOf_0 2 rfl) rfl ?_
  refine s_ialdX (x := (1)) (tb_ok aX8_fallOf_0 3 rfl) rfl (by omega) (by decide) ((h.c0 hj).trans hk) ?_
  refine s_istore_n (ls' := [some (.ref 66), some (.int (nI j)), some (.int fact), some (.int (1)), none]) (tb_ok aX8_fallOf_0 4 rfl) rfl rfl ?_
  refine s_iload_n (tb_ok aX8_fallOf_0 5 rfl) rfl ?_
  refine s_iconst (v := 5) (tb_ok aX8_fallOf_0 6 rfl) (by decide) ?_
  refine s_icmp_ne (tgt := 29) (tb_ok aX8_fallOf_0 7 rfl) (by decide) (fun c9 => ?_) (fun c9 => ?_)
  · refine s_aload_n (tb_ok aX8_fallOf_0 20 rfl) rfl ?_
    refine s_iconst (v := 0) (tb_ok aX8_fallOf_0 21 rfl) (by decide) ?_
    refine s_iload_n (tb_ok aX8_fallOf_0 22 rfl) rfl ?_
    refine s_iload_n (tb_ok aX8_fallOf_0 23 rfl) rfl ?_
    refine s_cV (as := [.int (0), .int (nI j), .int fact]) (tb_ok aX8_fallOf_1 0 rfl) v_RX8_366 (R_says0 h hj _) (by decide) rfl rfl rfl rfl rfl (Nat.le_of_ble_eq_true rfl) (by decide) (fun r1 S1 I1 L1 R1 q1 => ?_)
    obtain ⟨rfl, rfl, rfl, h1f⟩ := q1
    have h1 := h.see (see_eS h1f)
    refine s_name (fun x1 ex1 => ?_)
    refine s_istore (ls' := [some (.ref 66), some (.int (nI j)), some (.int fact), some (.int (1)), some (.int x1)]) (tb_ok aX8_fallOf_1 1 rfl) rfl rfl ?_
    refine s_iload_n (tb_ok aX8_fallOf_1 2 rfl) rfl ?_
    refine s_iconst (v := 1) (tb_ok aX8_fallOf_1 3 rfl) (by decide) ?_
    refine s_icmp_ne (tgt := 50) (tb_ok aX8_fallOf_1 4 rfl) (by decide) (fun c40 => ?_) (fun c40 => ?_)
    · exact absurd c40 (by decide)
    · refine s_iload (tb_ok aX8_fallOf_1 5 rfl) rfl ?_
      refine s_iconst (v := 2) (tb_ok aX8_fallOf_1 6 rfl) (by decide) ?_
      refine s_idiv (tb_ok aX8_fallOf_1 7 rfl) (by decide) ?_
      refine s_goto (tgt := 102) (tb_ok aX8_fallOf_1 8 rfl) (by decide) ?_
      refine s_iconst (v := 0) (tb_ok aX8_fallOf_2 17 rfl) (by decide) ?_
      refine s_bipush (v := 99) (tb_ok aX8_fallOf_2 18 rfl) (by decide) ?_
      refine s_cSp (as := [_, .int (0), .int (99)]) (tb_ok aX8_fallOf_2 19 rfl) v_RX8_348 (R_within _ _ _) (by decide) rfl rfl (Nat.le_of_ble_eq_true rfl) ?_
      rw [wit_held (by decide)]
      refine s_iret (tb_ok aX8_fallOf_2 20 rfl) rfl ?_
      refine afZ ?_ h1f
      rw [fal1 hk, ex1]
      exact hh1 _
  · exact absurd c9 (by decide)

set_option maxRecDepth 100000 in
set_option maxHeartbeats 1000000 in
theorem R_fal2 {X : En} {L : FL} {q : Nat × Nat} {I : FI} {m : Nat} {fr fa : Nat → Int32} {M : Nat} {T : Nat → Nat → Int32} {d : Nat} {sem : Nat → Sem} (h : RSt I m fr fa M T d sem) {j : Nat} (hj : j < M) (fact : Int32) (hk : T j 0 = 2) : Ev X 53 mX8_fallOf (0, 0) [.ref 66, .int (nI j), .int fact] S0 I L (R0 q) (AfZ q eS I (fallP sem (T j) fact (nI d))) := by
  have hM5 := h.M5
  refine ev_of (by decide +kernel) rfl ?_
  show SW X _ _ _ 0 [some (.ref 66), some (.int (nI j)), some (.int fact), none, none] [] S0 I L (R0 q) _
  refine s_aload_n (tb_ok aX8_fallOf_0 0 rfl) rfl ?_
  refine s_getR (r := 72) (tb_ok aX8_fallOf_0 1 rfl) f_RX8_29 rfl rfl rfl ?_
  refine s_iload_n (tb_ok aX8_fallOf_0 2 rfl) rfl ?_
  refine s_ialdX (x := (2)) (tb_ok aX8_fallOf_0 3 rfl) rfl (by omega) (by decide) ((h.c0 hj).trans hk) ?_
  refine s_istore_n (ls' := [some (.ref 66), some (.int (nI j)), some (.int fact), some (.int (2)), none]) (tb_ok aX8_fallOf_0 4 rfl) rfl rfl ?_
  refine s_iload_n (tb_ok aX8_fallOf_0 5 rfl) rfl ?_
  refine s_iconst (v := 5) (tb_ok aX8_fallOf_0 6 rfl) (by decide) ?_
  refine s_icmp_ne (tgt := 29) (tb_ok aX8_fallOf_0 7 rfl) (by decide) (fun c9 => ?_) (fun c9 => ?_)
  · refine s_aload_n (tb_ok aX8_fallOf_0 20 rfl) rfl ?_
    refine s_iconst (v := 0) (tb_ok aX8_fallOf_0 21 rfl) (by decide) ?_
    refine s_iload_n (tb_ok aX8_fallOf_0 22 rfl) rfl ?_
    refine s_iload_n (tb_ok aX8_fallOf_0 23 rfl) rfl ?_
    refine s_cV (as := [.int (0), .int (nI j), .int fact]) (tb_ok aX8_fallOf_1 0 rfl) v_RX8_366 (R_says0 h hj _) (by decide) rfl rfl rfl rfl rfl (Nat.le_of_ble_eq_true rfl) (by decide) (fun r1 S1 I1 L1 R1 q1 => ?_)
    obtain ⟨rfl, rfl, rfl, h1f⟩ := q1
    have h1 := h.see (see_eS h1f)
    refine s_name (fun x1 ex1 => ?_)
    refine s_istore (ls' := [some (.ref 66), some (.int (nI j)), some (.int fact), some (.int (2)), some (.int x1)]) (tb_ok aX8_fallOf_1 1 rfl) rfl rfl ?_
    refine s_iload_n (tb_ok aX8_fallOf_1 2 rfl) rfl ?_
    refine s_iconst (v := 1) (tb_ok aX8_fallOf_1 3 rfl) (by decide) ?_
    refine s_icmp_ne (tgt := 50) (tb_ok aX8_fallOf_1 4 rfl) (by decide) (fun c40 => ?_) (fun c40 => ?_)
    · refine s_iload_n (tb_ok aX8_fallOf_1 9 rfl) rfl ?_
      refine s_iconst (v := 3) (tb_ok aX8_fallOf_1 10 rfl) (by decide) ?_
      refine s_icmp_ne (tgt := 71) (tb_ok aX8_fallOf_1 11 rfl) (by decide) (fun c52 => ?_) (fun c52 => ?_)
      · refine s_iload_n (tb_ok aX8_fallOf_1 23 rfl) rfl ?_
        refine s_iconst (v := 2) (tb_ok aX8_fallOf_2 0 rfl) (by decide) ?_
        refine s_icmp_eq (tgt := 81) (tb_ok aX8_fallOf_2 1 rfl) (by decide) (fun c73 => ?_) (fun c73 => ?_)
        · refine s_iload (tb_ok aX8_fallOf_2 5 rfl) rfl ?_
          refine s_iconst (v := 1) (tb_ok aX8_fallOf_2 6 rfl) (by decide) ?_
          refine s_iadd (tb_ok aX8_fallOf_2 7 rfl) ?_
          refine s_goto (tgt := 102) (tb_ok aX8_fallOf_2 8 rfl) (by decide) ?_
          refine s_iconst (v := 0) (tb_ok aX8_fallOf_2 17 rfl) (by decide) ?_
          refine s_bipush (v := 99) (tb_ok aX8_fallOf_2 18 rfl) (by decide) ?_
          refine s_cSp (as := [_, .int (0), .int (99)]) (tb_ok aX8_fallOf_2 19 rfl) v_RX8_348 (R_within _ _ _) (by decide) rfl rfl (Nat.le_of_ble_eq_true rfl) ?_
          rw [wit_held (by decide)]
          refine s_iret (tb_ok aX8_fallOf_2 20 rfl) rfl ?_
          refine afZ ?_ h1f
          rw [fal2 hk, ex1]
        · exact absurd c73 (by decide)
      · exact absurd c52 (by decide)
    · exact absurd c40 (by decide)
  · exact absurd c9 (by decide)

set_option maxRecDepth 100000 in
set_option maxHeartbeats 1000000 in
theorem R_fal3 {X : En} {L : FL} {q : Nat × Nat} {I : FI} {m : Nat} {fr fa : Nat → Int32} {M : Nat} {T : Nat → Nat → Int32} {d : Nat} {sem : Nat → Sem} (h : RSt I m fr fa M T d sem) {j : Nat} (hj : j < M) (fact : Int32) (hk : T j 0 = 3) : Ev X 53 mX8_fallOf (0, 0) [.ref 66, .int (nI j), .int fact] S0 I L (R0 q) (AfZ q eS I (fallP sem (T j) fact (nI d))) := by
  have hM5 := h.M5
  refine ev_of (by decide +kernel) rfl ?_
  show SW X _ _ _ 0 [some (.ref 66), some (.int (nI j)), some (.int fact), none, none] [] S0 I L (R0 q) _
  refine s_aload_n (tb_ok aX8_fallOf_0 0 rfl) rfl ?_
  refine s_getR (r := 72) (tb_ok aX8_fallOf_0 1 rfl) f_RX8_29 rfl rfl rfl ?_
  refine s_iload_n (tb_ok aX8_fallOf_0 2 rfl) rfl ?_
  refine s_ialdX (x := (3)) (tb_ok aX8_fallOf_0 3 rfl) rfl (by omega) (by decide) ((h.c0 hj).trans hk) ?_
  refine s_istore_n (ls' := [some (.ref 66), some (.int (nI j)), some (.int fact), some (.int (3)), none]) (tb_ok aX8_fallOf_0 4 rfl) rfl rfl ?_
  refine s_iload_n (tb_ok aX8_fallOf_0 5 rfl) rfl ?_
  refine s_iconst (v := 5) (tb_ok aX8_fallOf_0 6 rfl) (by decide) ?_
  refine s_icmp_ne (tgt := 29) (tb_ok aX8_fallOf_0 7 rfl) (by decide) (fun c9 => ?_) (fun c9 => ?_)
  · refine s_aload_n (tb_ok aX8_fallOf_0 20 rfl) rfl ?_
    refine s_iconst (v := 0) (tb_ok aX8_fallOf_0 21 rfl) (by decide) ?_
    refine s_iload_n (tb_ok aX8_fallOf_0 22 rfl) rfl ?_
    refine s_iload_n (tb_ok aX8_fallOf_0 23 rfl) rfl ?_
    refine s_cV (as := [.int (0), .int (nI j), .int fact]) (tb_ok aX8_fallOf_1 0 rfl) v_RX8_366 (R_says0 h hj _) (by decide) rfl rfl rfl rfl rfl (Nat.le_of_ble_eq_true rfl) (by decide) (fun r1 S1 I1 L1 R1 q1 => ?_)
    obtain ⟨rfl, rfl, rfl, h1f⟩ := q1
    have h1 := h.see (see_eS h1f)
    refine s_name (fun x1 ex1 => ?_)
    refine s_istore (ls' := [some (.ref 66), some (.int (nI j)), some (.int fact), some (.int (3)), some (.int x1)]) (tb_ok aX8_fallOf_1 1 rfl) rfl rfl ?_
    refine s_iload_n (tb_ok aX8_fallOf_1 2 rfl) rfl ?_
    refine s_iconst (v := 1) (tb_ok aX8_fallOf_1 3 rfl) (by decide) ?_
    refine s_icmp_ne (tgt := 50) (tb_ok aX8_fallOf_1 4 rfl) (by decide) (fun c40 => ?_) (fun c40 => ?_)
    · refine s_iload_n (tb_ok aX8_fallOf_1 9 rfl) rfl ?_
      refine s_iconst (v := 3) (tb_ok aX8_fallOf_1 10 rfl) (by decide) ?_
      refine s_icmp_ne (tgt := 71) (tb_ok aX8_fallOf_1 11 rfl) (by decide) (fun c52 => ?_) (fun c52 => ?_)
      · exact absurd c52 (by decide)
      · refine s_iload (tb_ok aX8_fallOf_1 12 rfl) rfl ?_
        refine s_iconst (v := 2) (tb_ok aX8_fallOf_1 13 rfl) (by decide) ?_
        refine s_idiv (tb_ok aX8_fallOf_1 14 rfl) (by decide) ?_
        refine s_aload_n (tb_ok aX8_fallOf_1 15 rfl) rfl ?_
        refine s_getR (r := 73) (tb_ok aX8_fallOf_1 16 rfl) f_RX8_32 rfl rfl rfl ?_
        refine s_iconst (v := 4) (tb_ok aX8_fallOf_1 17 rfl) (by decide) ?_
        refine s_iload_n (tb_ok aX8_fallOf_1 18 rfl) rfl ?_
        refine s_imul (tb_ok aX8_fallOf_1 19 rfl) ?_
        refine s_topi (z := (nI (4 * j))) (nI_mul 4 j) ?_
        refine s_ialdX (x := (T j 1)) (tb_ok aX8_fallOf_1 20 rfl) rfl (by omega) (by decide) (h1.c1 hj) ?_
        refine s_iadd (tb_ok aX8_fallOf_1 21 rfl) ?_
        refine s_goto (tgt := 102) (tb_ok aX8_fallOf_1 22 rfl) (by decide) ?_
        refine s_iconst (v := 0) (tb_ok aX8_fallOf_2 17 rfl) (by decide) ?_
        refine s_bipush (v := 99) (tb_ok aX8_fallOf_2 18 rfl) (by decide) ?_
        refine s_cSp (as := [_, .int (0), .int (99)]) (tb_ok aX8_fallOf_2 19 rfl) v_RX8_348 (R_within _ _ _) (by decide) rfl rfl (Nat.le_of_ble_eq_true rfl) ?_
        rw [wit_held (by decide)]
        refine s_iret (tb_ok aX8_fallOf_2 20 rfl) rfl ?_
        refine afZ ?_ h1f
        rw [fal3 hk, ex1]
    · exact absurd c40 (by decide)
  · exact absurd c9 (by decide)

set_option maxRecDepth 100000 in
set_option maxHeartbeats 1000000 in
theorem R_fal4 {X : En} {L : FL} {q : Nat × Nat} {I : FI} {m : Nat} {fr fa : Nat → Int32} {M : Nat} {T : Nat → Nat → Int32} {d : Nat} {sem : Nat → Sem} (h : RSt I m fr fa M T d sem) {j : Nat} (hj : j < M) (fact : Int32) (hk : T j 0 = 4) : Ev X 53 mX8_fallOf (0, 0) [.ref 66, .int (nI j), .int fact] S0 I L (R0 q) (AfZ q eS I (fallP sem (T j) fact (nI d))) := by
  have hM5 := h.M5
  refine ev_of (by decide +kernel) rfl ?_
  show SW X _ _ _ 0 [some (.ref 66), some (.int (nI j)), some (.int fact), none, none] [] S0 I L (R0 q) _
  refine s_aload_n (tb_ok aX8_fallOf_0 0 rfl) rfl ?_
  refine s_getR (r := 72) (tb_ok aX8_fallOf_0 1 rfl) f_RX8_29 rfl rfl rfl ?_
  refine s_iload_n (tb_ok aX8_fallOf_0 2 rfl) rfl ?_
  refine s_ialdX (x := (4)) (tb_ok aX8_fallOf_0 3 rfl) rfl (by omega) (by decide) ((h.c0 hj).trans hk) ?_
  refine s_istore_n (ls' := [some (.ref 66), some (.int (nI j)), some (.int fact), some (.int (4)), none]) (tb_ok aX8_fallOf_0 4 rfl) rfl rfl ?_
  refine s_iload_n (tb_ok aX8_fallOf_0 5 rfl) rfl ?_
  refine s_iconst (v := 5) (tb_ok aX8_fallOf_0 6 rfl) (by decide) ?_
  refine s_icmp_ne (tgt := 29) (tb_ok aX8_fallOf_0 7 rfl) (by decide) (fun c9 => ?_) (fun c9 => ?_)
  · refine s_aload_n (tb_ok aX8_fallOf_0 20 rfl) rfl ?_
    refine s_iconst (v := 0) (tb_ok aX8_fallOf_0 21 rfl) (by decide) ?_
    refine s_iload_n (tb_ok aX8_fallOf_0 22 rfl) rfl ?_
    refine s_iload_n (tb_ok aX8_fallOf_0 23 rfl) rfl ?_
    refine s_cV (as := [.int (0), .int (nI j), .int fact]) (tb_ok aX8_fallOf_1 0 rfl) v_RX8_366 (R_says0 h hj _) (by decide) rfl rfl rfl rfl rfl (Nat.le_of_ble_eq_true rfl) (by decide) (fun r1 S1 I1 L1 R1 q1 => ?_)
    obtain ⟨rfl, rfl, rfl, h1f⟩ := q1
    have h1 := h.see (see_eS h1f)
    refine s_name (fun x1 ex1 => ?_)
    refine s_istore (ls' := [some (.ref 66), some (.int (nI j)), some (.int fact), some (.int (4)), some (.int x1)]) (tb_ok aX8_fallOf_1 1 rfl) rfl rfl ?_
    refine s_iload_n (tb_ok aX8_fallOf_1 2 rfl) rfl ?_
    refine s_iconst (v := 1) (tb_ok aX8_fallOf_1 3 rfl) (by decide) ?_
    refine s_icmp_ne (tgt := 50) (tb_ok aX8_fallOf_1 4 rfl) (by decide) (fun c40 => ?_) (fun c40 => ?_)
    · refine s_iload_n (tb_ok aX8_fallOf_1 9 rfl) rfl ?_
      refine s_iconst (v := 3) (tb_ok aX8_fallOf_1 10 rfl) (by decide) ?_
      refine s_icmp_ne (tgt := 71) (tb_ok aX8_fallOf_1 11 rfl) (by decide) (fun c52 => ?_) (fun c52 => ?_)
      · refine s_iload_n (tb_ok aX8_fallOf_1 23 rfl) rfl ?_
        refine s_iconst (v := 2) (tb_ok aX8_fallOf_2 0 rfl) (by decide) ?_
        refine s_icmp_eq (tgt := 81) (tb_ok aX8_fallOf_2 1 rfl) (by decide) (fun c73 => ?_) (fun c73 => ?_)
        · exact absurd c73 (by decide)
        · refine s_iload_n (tb_ok aX8_fallOf_2 2 rfl) rfl ?_
          refine s_iconst (v := 4) (tb_ok aX8_fallOf_2 3 rfl) (by decide) ?_
          refine s_icmp_ne (tgt := 88) (tb_ok aX8_fallOf_2 4 rfl) (by decide) (fun c78 => ?_) (fun c78 => ?_)
          · exact absurd c78 (by decide)
          · refine s_iload (tb_ok aX8_fallOf_2 5 rfl) rfl ?_
            refine s_iconst (v := 1) (tb_ok aX8_fallOf_2 6 rfl) (by decide) ?_
            refine s_iadd (tb_ok aX8_fallOf_2 7 rfl) ?_
            refine s_goto (tgt := 102) (tb_ok aX8_fallOf_2 8 rfl) (by decide) ?_
            refine s_iconst (v := 0) (tb_ok aX8_fallOf_2 17 rfl) (by decide) ?_
            refine s_bipush (v := 99) (tb_ok aX8_fallOf_2 18 rfl) (by decide) ?_
            refine s_cSp (as := [_, .int (0), .int (99)]) (tb_ok aX8_fallOf_2 19 rfl) v_RX8_348 (R_within _ _ _) (by decide) rfl rfl (Nat.le_of_ble_eq_true rfl) ?_
            rw [wit_held (by decide)]
            refine s_iret (tb_ok aX8_fallOf_2 20 rfl) rfl ?_
            refine afZ ?_ h1f
            rw [fal4 hk, ex1]
      · exact absurd c52 (by decide)
    · exact absurd c40 (by decide)
  · exact absurd c9 (by decide)

set_option maxRecDepth 100000 in
set_option maxHeartbeats 1000000 in
theorem R_fal5 {X : En} {L : FL} {q : Nat × Nat} {I : FI} {m : Nat} {fr fa : Nat → Int32} {M : Nat} {T : Nat → Nat → Int32} {d : Nat} {sem : Nat → Sem} (h : RSt I m fr fa M T d sem) {j : Nat} (hj : j < M) (fact : Int32) (hk : T j 0 = 5) : Ev X 53 mX8_fallOf (0, 0) [.ref 66, .int (nI j), .int fact] S0 I L (R0 q) (AfZ q eS I (fallP sem (T j) fact (nI d))) := by
  have hM5 := h.M5
  refine ev_of (by decide +kernel) rfl ?_
  show SW X _ _ _ 0 [some (.ref 66), some (.int (nI j)), some (.int fact), none, none] [] S0 I L (R0 q) _
  refine s_aload_n (tb_ok aX8_fallOf_0 0 rfl) rfl ?_
  refine s_getR (r := 72) (tb_ok aX8_fallOf_0 1 rfl) f_RX8_29 rfl rfl rfl ?_
  refine s_iload_n (tb_ok aX8_fallOf_0 2 rfl) rfl ?_
  refine s_ialdX (x := (5)) (tb_ok aX8_fallOf_0 3 rfl) rfl (by omega) (by decide) ((h.c0 hj).trans hk) ?_
  refine s_istore_n (ls' := [some (.ref 66), some (.int (nI j)), some (.int fact), some (.int (5)), none]) (tb_ok aX8_fallOf_0 4 rfl) rfl rfl ?_
  refine s_iload_n (tb_ok aX8_fallOf_0 5 rfl) rfl ?_
  refine s_iconst (v := 5) (tb_ok aX8_fallOf_0 6 rfl) (by decide) ?_
  refine s_icmp_ne (tgt := 29) (tb_ok aX8_fallOf_0 7 rfl) (by decide) (fun c9 => ?_) (fun c9 => ?_)
  · exact absurd c9 (by decide)
  · refine s_aload_n (tb_ok aX8_fallOf_0 8 rfl) rfl ?_
    refine s_getR (r := 73) (tb_ok aX8_fallOf_0 9 rfl) f_RX8_32 rfl rfl rfl ?_
    refine s_iconst (v := 4) (tb_ok aX8_fallOf_0 10 rfl) (by decide) ?_
    refine s_iload_n (tb_ok aX8_fallOf_0 11 rfl) rfl ?_
    refine s_imul (tb_ok aX8_fallOf_0 12 rfl) ?_
    refine s_topi (z := (nI (4 * j))) (nI_mul 4 j) ?_
    refine s_iconst (v := 3) (tb_ok aX8_fallOf_0 13 rfl) (by decide) ?_
    refine s_iadd (tb_ok aX8_fallOf_0 14 rfl) ?_
    refine s_topi (z := (nI (4 * j + 3))) (nI_add' (4 * j) 3) ?_
    refine s_ialdX (x := (T j 4)) (tb_ok aX8_fallOf_0 15 rfl) rfl (by omega) (by decide) (h.c4 hj) ?_
    refine s_bipush (v := 50) (tb_ok aX8_fallOf_0 16 rfl) (by decide) ?_
    refine s_icmp_gt (tgt := 29) (tb_ok aX8_fallOf_0 17 rfl) (by decide) (fun c24 => ?_) (fun c24 => ?_)
    · refine s_aload_n (tb_ok aX8_fallOf_0 20 rfl) rfl ?_
      refine s_iconst (v := 0) (tb_ok aX8_fallOf_0 21 rfl) (by decide) ?_
      refine s_iload_n (tb_ok aX8_fallOf_0 22 rfl) rfl ?_
      refine s_iload_n (tb_ok aX8_fallOf_0 23 rfl) rfl ?_
      refine s_cV (as := [.int (0), .int (nI j), .int fact]) (tb_ok aX8_fallOf_1 0 rfl) v_RX8_366 (R_says0 h hj _) (by decide) rfl rfl rfl rfl rfl (Nat.le_of_ble_eq_true rfl) (by decide) (fun r1 S1 I1 L1 R1 q1 => ?_)
      obtain ⟨rfl, rfl, rfl, h1f⟩ := q1
      have h1 := h.see (see_eS h1f)
      refine s_name (fun x1 ex1 => ?_)
      refine s_istore (ls' := [some (.ref 66), some (.int (nI j)), some (.int fact), some (.int (5)), some (.int x1)]) (tb_ok aX8_fallOf_1 1 rfl) rfl rfl ?_
      refine s_iload_n (tb_ok aX8_fallOf_1 2 rfl) rfl ?_
      refine s_iconst (v := 1) (tb_ok aX8_fallOf_1 3 rfl) (by decide) ?_
      refine s_icmp_ne (tgt := 50) (tb_ok aX8_fallOf_1 4 rfl) (by decide) (fun c40 => ?_) (fun c40 => ?_)
      · refine s_iload_n (tb_ok aX8_fallOf_1 9 rfl) rfl ?_
        refine s_iconst (v := 3) (tb_ok aX8_fallOf_1 10 rfl) (by decide) ?_
        refine s_icmp_ne (tgt := 71) (tb_ok aX8_fallOf_1 11 rfl) (by decide) (fun c52 => ?_) (fun c52 => ?_)
        · refine s_iload_n (tb_ok aX8_fallOf_1 23 rfl) rfl ?_
          refine s_iconst (v := 2) (tb_ok aX8_fallOf_2 0 rfl) (by decide) ?_
          refine s_icmp_eq (tgt := 81) (tb_ok aX8_fallOf_2 1 rfl) (by decide) (fun c73 => ?_) (fun c73 => ?_)
          · exact absurd c73 (by decide)
          · refine s_iload_n (tb_ok aX8_fallOf_2 2 rfl) rfl ?_
            refine s_iconst (v := 4) (tb_ok aX8_fallOf_2 3 rfl) (by decide) ?_
            refine s_icmp_ne (tgt := 88) (tb_ok aX8_fallOf_2 4 rfl) (by decide) (fun c78 => ?_) (fun c78 => ?_)
            · refine s_iload_n (tb_ok aX8_fallOf_2 9 rfl) rfl ?_
              refine s_iconst (v := 5) (tb_ok aX8_fallOf_2 10 rfl) (by decide) ?_
              refine s_icmp_ne (tgt := 100) (tb_ok aX8_fallOf_2 11 rfl) (by decide) (fun c90 => ?_) (fun c90 => ?_)
              · exact absurd c90 (by decide)
              · refine s_iconst (v := 2) (tb_ok aX8_fallOf_2 12 rfl) (by decide) ?_
                refine s_iload (tb_ok aX8_fallOf_2 13 rfl) rfl ?_
                refine s_imul (tb_ok aX8_fallOf_2 14 rfl) ?_
                refine s_goto (tgt := 102) (tb_ok aX8_fallOf_2 15 rfl) (by decide) ?_
                refine s_iconst (v := 0) (tb_ok aX8_fallOf_2 17 rfl) (by decide) ?_
                refine s_bipush (v := 99) (tb_ok aX8_fallOf_2 18 rfl) (by decide) ?_
                refine s_cSp (as := [_, .int (0), .int (99)]) (tb_ok aX8_fallOf_2 19 rfl) v_RX8_348 (R_within _ _ _) (by decide) rfl rfl (Nat.le_of_ble_eq_true rfl) ?_
                rw [wit_held (by decide)]
                refine s_iret (tb_ok aX8_fallOf_2 20 rfl) rfl ?_
                refine afZ ?_ h1f
                rw [fal5 hk, if_pos (by first | exact c24 | decide), ex1]
            · exact absurd c78 (by decide)
        · exact absurd c52 (by decide)
      · exact absurd c40 (by decide)
    · refine s_iconst (v := 0) (tb_ok aX8_fallOf_0 18 rfl) (by decide) ?_
      refine s_iret (tb_ok aX8_fallOf_0 19 rfl) rfl ?_
      exact afZ (by rw [fal5 hk, if_neg c24]) FrE.refl

set_option maxRecDepth 100000 in
set_option maxHeartbeats 1000000 in
theorem R_fall {X : En} {L : FL} {q : Nat × Nat} {I : FI} {m : Nat} {fr fa : Nat → Int32} {M : Nat} {T : Nat → Nat → Int32} {d : Nat} {sem : Nat → Sem} (h : RSt I m fr fa M T d sem) {j : Nat} (hj : j < M) (fact : Int32) : Ev X 53 mX8_fallOf (0, 0) [.ref 66, .int (nI j), .int fact] S0 I L (R0 q) (AfZ q eS I (fallP sem (T j) fact (nI d))) := by
  obtain ⟨⟨k, hk, ek⟩, _⟩ := h.ok hj
  have hk6 : k = 0 ∨ k = 1 ∨ k = 2 ∨ k = 3 ∨ k = 4 ∨ k = 5 := by omega
  rcases hk6 with e | e | e | e | e | e <;> subst e
  · exact R_fal0 h hj fact ek
  · exact R_fal1 h hj fact ek
  · exact R_fal2 h hj fact ek
  · exact R_fal3 h hj fact ek
  · exact R_fal4 h hj fact ek
  · exact R_fal5 h hj fact ek

section TAK
variable {sem : Nat → (Nat → Int32) → Int32} {fr fa : Nat → Int32} {m : Nat} {f : Nat → Int32} {fact day : Int32}
theorem tak2 (h : f 0 = 2) : takI sem fr fa m f fact day = 1 := by unfold takI; rw [h]; rfl
theorem tak4 (h : f 0 = 4) : takI sem fr fa m f fact day = bI (¬ fact = f 1) := by unfold takI; rw [h]; rfl
theorem tak1 (h : f 0 = 1) : takI sem fr fa m f fact day = bI (¬ sem 2 (nmT f fact day) = 0 ∧ ¬ nx fr fa m (f 2) (-1) = 0) := by
  unfold takI
  rw [h, if_neg (by decide), if_neg (by decide)]
  exact bI_congr ⟨fun g => ⟨g.1, g.2.elim (fun k => absurd rfl k) id⟩, fun g => ⟨g.1, Or.inr g.2⟩⟩
theorem tak' (h : ¬ f 0 = 1) (h2 : ¬ f 0 = 2) (h4 : ¬ f 0 = 4) : takI sem fr fa m f fact day = bI (¬ sem 2 (nmT f fact day) = 0) := by
  unfold takI
  rw [if_neg h2, if_neg h4]
  exact bI_congr ⟨fun g => g.1, fun g => ⟨g, Or.inl h⟩⟩
end TAK
set_option maxRecDepth 100000 in
set_option maxHeartbeats 1000000 in
theorem R_tak0 {X : En} {L : FL} {q : Nat × Nat} {I : FI} {m : Nat} {fr fa : Nat → Int32} {M : Nat} {T : Nat → Nat → Int32} {d : Nat} {sem : Nat → Sem} (h : RSt I m fr fa M T d sem) {j : Nat} (hj : j < M) (fact : Int32) (hk : T j 0 = 0) : Ev X 53 mX8_takes1 (0, 0) [.ref 66, .int (nI j), .int fact] S0 I L (R0 q) (AfZ q eS I (takI sem fr fa m (T j) fact (nI d))) := by
  have hM5 := h.M5
  refine ev_of (by decide +kernel) rfl ?_
  show SW X _ _ _ 0 [some (.ref 66), some (.int (nI j)), some (.int fact), none, none] [] S0 I L (R0 q) _
  refine s_aload_n (tb_ok aX8_takes1_0 0 rfl) rfl ?_
  refine s_getR (r := 72) (tb_ok aX8_takes1_0 1 rfl) f_RX8_29 rfl rfl rfl ?_
  refine s_iload_n (tb_ok aX8_takes1_0 2 rfl) rfl ?_
  refine s_ialdX (x := (0)) (tb_ok aX8_takes1_0 3 rfl) rfl (by omega) (by decide) ((h.c0 hj).trans hk) ?_
  refine s_istore_n (ls' := [some (.ref 66), some (.int (nI j)), some (.int fact), some (.int (0)), none]) (tb_ok aX8_takes1_0 4 rfl) rfl rfl ?_
  refine s_iload_n (tb_ok aX8_takes1_0 5 rfl) rfl ?_
  refine s_iconst (v := 2) (tb_ok aX8_takes1_0 6 rfl) (by decide) ?_
  refine s_icmp_eq (tgt := 17) (tb_ok aX8_takes1_0 7 rfl) (by decide) (fun c9 => ?_) (fun c9 => ?_)
  · exact absurd c9 (by decide)
  · refine s_iload_n (tb_ok aX8_takes1_0 8 rfl) rfl ?_
    refine s_iconst (v := 4) (tb_ok aX8_takes1_0 9 rfl) (by decide) ?_
    refine s_icmp_ne (tgt := 40) (tb_ok aX8_takes1_0 10 rfl) (by decide) (fun c14 => ?_) (fun c14 => ?_)
    · refine s_aload_n (tb_ok aX8_takes1_1 2 rfl) rfl ?_
      refine s_iconst (v := 2) (tb_ok aX8_takes1_1 3 rfl) (by decide) ?_
      refine s_iload_n (tb_ok aX8_takes1_1 4 rfl) rfl ?_
      refine s_iload_n (tb_ok aX8_takes1_1 5 rfl) rfl ?_
      refine s_cV (as := [.int (2), .int (nI j), .int fact]) (tb_ok aX8_takes1_1 6 rfl) v_RX8_366 (R_says2 h hj _) (by decide) rfl rfl rfl rfl rfl (Nat.le_of_ble_eq_true rfl) (by decide) (fun r1 S1 I1 L1 R1 q1 => ?_)
      obtain ⟨rfl, rfl, rfl, h1f⟩ := q1
      have h1 := h.see (see_eS h1f)
      refine s_if_eq (tgt := 54) (tb_ok aX8_takes1_1 7 rfl) (by decide) (fun c47 => ?_) (fun c47 => ?_)
      · refine s_iconst (v := 0) (tb_ok aX8_takes1_1 10 rfl) (by decide) ?_
        refine s_istore (ls' := [some (.ref 66), some (.int (nI j)), some (.int fact), some (.int (0)), some (.int (0))]) (tb_ok aX8_takes1_1 11 rfl) rfl rfl ?_
        refine s_iload_n (tb_ok aX8_takes1_1 12 rfl) rfl ?_
        refine s_iconst (v := 1) (tb_ok aX8_takes1_1 13 rfl) (by decide) ?_
        refine s_icmp_ne (tgt := 88) (tb_ok aX8_takes1_1 14 rfl) (by decide) (fun c59 => ?_) (fun c59 => ?_)
        · refine s_iload (tb_ok aX8_takes1_2 4 rfl) rfl ?_
          refine s_zret (tb_ok aX8_takes1_2 5 rfl) rfl ?_ ?_
          exact Or.inl rfl
          refine afZ ?_ h1f
          rw [tak' (by rw [hk]; decide) (by rw [hk]; decide) (by rw [hk]; decide)]
          exact (bI_f (fun h_ => h_ c47)).symm
        · exact absurd c59 (by decide)
      · refine s_iconst (v := 1) (tb_ok aX8_takes1_1 8 rfl) (by decide) ?_
        refine s_goto (tgt := 55) (tb_ok aX8_takes1_1 9 rfl) (by decide) ?_
        refine s_istore (ls' := [some (.ref 66), some (.int (nI j)), some (.int fact), some (.int (0)), some (.int (1))]) (tb_ok aX8_takes1_1 11 rfl) rfl rfl ?_
        refine s_iload_n (tb_ok aX8_takes1_1 12 rfl) rfl ?_
        refine s_iconst (v := 1) (tb_ok aX8_takes1_1 13 rfl) (by decide) ?_
        refine s_icmp_ne (tgt := 88) (tb_ok aX8_takes1_1 14 rfl) (by decide) (fun c59 => ?_) (fun c59 => ?_)
        · refine s_iload (tb_ok aX8_takes1_2 4 rfl) rfl ?_
          refine s_zret (tb_ok aX8_takes1_2 5 rfl) rfl ?_ ?_
          exact Or.inr rfl
          refine afZ ?_ h1f
          rw [tak' (by rw [hk]; decide) (by rw [hk]; decide) (by rw [hk]; decide)]
          exact (bI_t c47).symm
        · exact absurd c59 (by decide)
    · exact absurd c14 (by decide)

set_option maxRecDepth 100000 in
set_option maxHeartbeats 1000000 in
theorem R_tak1 {X : En} {L : FL} {q : Nat × Nat} {I : FI} {m : Nat} {fr fa : Nat → Int32} {M : Nat} {T : Nat → Nat → Int32} {d : Nat} {sem : Nat → Sem} (h : RSt I m fr fa M T d sem) {j : Nat} (hj : j < M) (fact : Int32) (hk : T j 0 = 1) : Ev X 53 mX8_takes1 (0, 0) [.ref 66, .int (nI j), .int fact] S0 I L (R0 q) (AfZ q eS I (takI sem fr fa m (T j) fact (nI d))) := by
  have hM5 := h.M5
  refine ev_of (by decide +kernel) rfl ?_
  show SW X _ _ _ 0 [some (.ref 66), some (.int (nI j)), some (.int fact), none, none] [] S0 I L (R0 q) _
  refine s_aload_n (tb_ok aX8_takes1_0 0 rfl) rfl ?_
  refine s_getR (r := 72) (tb_ok aX8_takes1_0 1 rfl) f_RX8_29 rfl rfl rfl ?_
  refine s_iload_n (tb_ok aX8_takes1_0 2 rfl) rfl ?_
  refine s_ialdX (x := (1)) (tb_ok aX8_takes1_0 3 rfl) rfl (by omega) (by decide) ((h.c0 hj).trans hk) ?_
  refine s_istore_n (ls' := [some (.ref 66), some (.int (nI j)), some (.int fact), some (.int (1)), none]) (tb_ok aX8_takes1_0 4 rfl) rfl rfl ?_
  refine s_iload_n (tb_ok aX8_takes1_0 5 rfl) rfl ?_
  refine s_iconst (v := 2) (tb_ok aX8_takes1_0 6 rfl) (by decide) ?_
  refine s_icmp_eq (tgt := 17) (tb_ok aX8_takes1_0 7 rfl) (by decide) (fun c9 => ?_) (fun c9 => ?_)
  · exact absurd c9 (by decide)
  · refine s_iload_n (tb_ok aX8_takes1_0 8 rfl) rfl ?_
    refine s_iconst (v := 4) (tb_ok aX8_takes1_0 9 rfl) (by decide) ?_
    refine s_icmp_ne (tgt := 40) (tb_ok aX8_takes1_0 10 rfl) (by decide) (fun c14 => ?_) (fun c14 => ?_)
    · refine s_aload_n (tb_ok aX8_takes1_1 2 rfl) rfl ?_
      refine s_iconst (v := 2) (tb_ok aX8_takes1_1 3 rfl) (by decide) ?_
      refine s_iload_n (tb_ok aX8_takes1_1 4 rfl) rfl ?_
      refine s_iload_n (tb_ok aX8_takes1_1 5 rfl) rfl ?_
      refine s_cV (as := [.int (2), .int (nI j), .int fact]) (tb_ok aX8_takes1_1 6 rfl) v_RX8_366 (R_says2 h hj _) (by decide) rfl rfl rfl rfl rfl (Nat.le_of_ble_eq_true rfl) (by decide) (fun r1 S1 I1 L1 R1 q1 => ?_)
      obtain ⟨rfl, rfl, rfl, h1f⟩ := q1
      have h1 := h.see (see_eS h1f)
      refine s_if_eq (tgt := 54) (tb_ok aX8_takes1_1 7 rfl) (by decide) (fun c47 => ?_) (fun c47 => ?_)
      · refine s_iconst (v := 0) (tb_ok aX8_takes1_1 10 rfl) (by decide) ?_
        refine s_istore (ls' := [some (.ref 66), some (.int (nI j)), some (.int fact), some (.int (1)), some (.int (0))]) (tb_ok aX8_takes1_1 11 rfl) rfl rfl ?_
        refine s_iload_n (tb_ok aX8_takes1_1 12 rfl) rfl ?_
        refine s_iconst (v := 1) (tb_ok aX8_takes1_1 13 rfl) (by decide) ?_
        refine s_icmp_ne (tgt := 88) (tb_ok aX8_takes1_1 14 rfl) (by decide) (fun c59 => ?_) (fun c59 => ?_)
        · exact absurd c59 (by decide)
        · refine s_iload (tb_ok aX8_takes1_1 15 rfl) rfl ?_
          refine s_if_eq (tgt := 84) (tb_ok aX8_takes1_1 16 rfl) (by decide) (fun c64 => ?_) (fun c64 => ?_)
          · refine s_iconst (v := 0) (tb_ok aX8_takes1_2 2 rfl) (by decide) ?_
            refine s_goto (tgt := 90) (tb_ok aX8_takes1_2 3 rfl) (by decide) ?_
            refine s_zret (tb_ok aX8_takes1_2 5 rfl) rfl ?_ ?_
            exact Or.inl rfl
            refine afZ ?_ h1f
            rw [tak1 hk]
            exact (bI_f (fun h_ => by first | exact h_.1 c47 | exact h_.2 c77)).symm
          · exact absurd c64 (by decide)
      · refine s_iconst (v := 1) (tb_ok aX8_takes1_1 8 rfl) (by decide) ?_
        refine s_goto (tgt := 55) (tb_ok aX8_takes1_1 9 rfl) (by decide) ?_
        refine s_istore (ls' := [some (.ref 66), some (.int (nI j)), some (.int fact), some (.int (1)), some (.int (1))]) (tb_ok aX8_takes1_1 11 rfl) rfl rfl ?_
        refine s_iload_n (tb_ok aX8_takes1_1 12 rfl) rfl ?_
        refine s_iconst (v := 1) (tb_ok aX8_takes1_1 13 rfl) (by decide) ?_
        refine s_icmp_ne (tgt := 88) (tb_ok aX8_takes1_1 14 rfl) (by decide) (fun c59 => ?_) (fun c59 => ?_)
        · exact absurd c59 (by decide)
        · refine s_iload (tb_ok aX8_takes1_1 15 rfl) rfl ?_
          refine s_if_eq (tgt := 84) (tb_ok aX8_takes1_1 16 rfl) (by decide) (fun c64 => ?_) (fun c64 => ?_)
          · exact absurd c64 (by decide)
          · refine s_aload_n (tb_ok aX8_takes1_1 17 rfl) rfl ?_
            refine s_aload_n (tb_ok aX8_takes1_1 18 rfl) rfl ?_
            refine s_iload_n (tb_ok aX8_takes1_1 19 rfl) rfl ?_
            refine s_cVp (as := [.int (nI j)]) (tb_ok aX8_takes1_1 20 rfl) v_RX8_115 (R_knows h1 hj) (by decide) rfl rfl rfl rfl rfl (Nat.le_of_ble_eq_true rfl) (by decide) ?_
            refine s_iconst (v := -1) (tb_ok aX8_takes1_1 21 rfl) (by decide) ?_
            refine s_cVp (as := [.int (T j 2), .int (-1)]) (tb_ok aX8_takes1_1 22 rfl) v_RX8_118 (R_followsOf h1.1 _ _) (by decide) rfl rfl rfl rfl rfl (Nat.le_of_ble_eq_true rfl) (by decide) ?_
            refine s_if_eq (tgt := 84) (tb_ok aX8_takes1_1 23 rfl) (by decide) (fun c77 => ?_) (fun c77 => ?_)
            · refine s_iconst (v := 0) (tb_ok aX8_takes1_2 2 rfl) (by decide) ?_
              refine s_goto (tgt := 90) (tb_ok aX8_takes1_2 3 rfl) (by decide) ?_
              refine s_zret (tb_ok aX8_takes1_2 5 rfl) rfl ?_ ?_
              exact Or.inl rfl
              refine afZ ?_ h1f
              rw [tak1 hk]
              exact (bI_f (fun h_ => by first | exact h_.1 c47 | exact h_.2 c77)).symm
            · refine s_iconst (v := 1) (tb_ok aX8_takes1_2 0 rfl) (by decide) ?_
              refine s_goto (tgt := 90) (tb_ok aX8_takes1_2 1 rfl) (by decide) ?_
              refine s_zret (tb_ok aX8_takes1_2 5 rfl) rfl ?_ ?_
              exact Or.inr rfl
              refine afZ ?_ h1f
              rw [tak1 hk]
              exact (bI_t ⟨c47, c77⟩).symm
    · exact absurd c14 (by decide)

set_option maxRecDepth 100000 in
set_option maxHeartbeats 1000000 in
theorem R_tak2 {X : En} {L : FL} {q : Nat × Nat} {I : FI} {m : Nat} {fr fa : Nat → Int32} {M : Nat} {T : Nat → Nat → Int32} {d : Nat} {sem : Nat → Sem} (h : RSt I m fr fa M T d sem) {j : Nat} (hj : j < M) (fact : Int32) (hk : T j 0 = 2) : Ev X 53 mX8_takes1 (0, 0) [.ref 66, .int (nI j), .int fact] S0 I L (R0 q) (AfZ q eS I (takI sem fr fa m (T j) fact (nI d))) := by
  have hM5 := h.M5
  refine ev_of (by decide +kernel) rfl ?_
  show SW X _ _ _ 0 [some (.ref 66), some (.int (nI j)), some (.int fact), none, none] [] S0 I L (R0 q) _
  refine s_aload_n (tb_ok aX8_takes1_0 0 rfl) rfl ?_
  refine s_getR (r := 72) (tb_ok aX8_takes1_0 1 rfl) f_RX8_29 rfl rfl rfl ?_
  refine s_iload_n (tb_ok aX8_takes1_0 2 rfl) rfl ?_
  refine s_ialdX (x := (2)) (tb_ok aX8_takes1_0 3 rfl) rfl (by omega) (by decide) ((h.c0 hj).trans hk) ?_
  refine s_istore_n (ls' := [some (.ref 66), some (.int (nI j)), some (.int fact), some (.int (2)), none]) (tb_ok aX8_takes1_0 4 rfl) rfl rfl ?_
  refine s_iload_n (tb_ok aX8_takes1_0 5 rfl) rfl ?_
  refine s_iconst (v := 2) (tb_ok aX8_takes1_0 6 rfl) (by decide) ?_
  refine s_icmp_eq (tgt := 17) (tb_ok aX8_takes1_0 7 rfl) (by decide) (fun c9 => ?_) (fun c9 => ?_)
  · refine s_iload_n (tb_ok aX8_takes1_0 11 rfl) rfl ?_
    refine s_iconst (v := 2) (tb_ok aX8_takes1_0 12 rfl) (by decide) ?_
    refine s_icmp_eq (tgt := 34) (tb_ok aX8_takes1_0 13 rfl) (by decide) (fun c19 => ?_) (fun c19 => ?_)
    · refine s_iconst (v := 1) (tb_ok aX8_takes1_0 22 rfl) (by decide) ?_
      refine s_goto (tgt := 39) (tb_ok aX8_takes1_0 23 rfl) (by decide) ?_
      refine s_zret (tb_ok aX8_takes1_1 1 rfl) rfl ?_ ?_
      exact Or.inr rfl
      exact afZ (tak2 hk).symm FrE.refl
    · exact absurd c19 (by decide)
  · exact absurd c9 (by decide)

set_option maxRecDepth 100000 in
set_option maxHeartbeats 1000000 in
theorem R_tak3 {X : En} {L : FL} {q : Nat × Nat} {I : FI} {m : Nat} {fr fa : Nat → Int32} {M : Nat} {T : Nat → Nat → Int32} {d : Nat} {sem : Nat → Sem} (h : RSt I m fr fa M T d sem) {j : Nat} (hj : j < M) (fact : Int32) (hk : T j 0 = 3) : Ev X 53 mX8_takes1 (0, 0) [.ref 66, .int (nI j), .int fact] S0 I L (R0 q) (AfZ q eS I (takI sem fr fa m (T j) fact (nI d))) := by
  have hM5 := h.M5
  refine ev_of (by decide +kernel) rfl ?_
  show SW X _ _ _ 0 [some (.ref 66), some (.int (nI j)), some (.int fact), none, none] [] S0 I L (R0 q) _
  refine s_aload_n (tb_ok aX8_takes1_0 0 rfl) rfl ?_
  refine s_getR (r := 72) (tb_ok aX8_takes1_0 1 rfl) f_RX8_29 rfl rfl rfl ?_
  refine s_iload_n (tb_ok aX8_takes1_0 2 rfl) rfl ?_
  refine s_ialdX (x := (3)) (tb_ok aX8_takes1_0 3 rfl) rfl (by omega) (by decide) ((h.c0 hj).trans hk) ?_
  refine s_istore_n (ls' := [some (.ref 66), some (.int (nI j)), some (.int fact), some (.int (3)), none]) (tb_ok aX8_takes1_0 4 rfl) rfl rfl ?_
  refine s_iload_n (tb_ok aX8_takes1_0 5 rfl) rfl ?_
  refine s_iconst (v := 2) (tb_ok aX8_takes1_0 6 rfl) (by decide) ?_
  refine s_icmp_eq (tgt := 17) (tb_ok aX8_takes1_0 7 rfl) (by decide) (fun c9 => ?_) (fun c9 => ?_)
  · exact absurd c9 (by decide)
  · refine s_iload_n (tb_ok aX8_takes1_0 8 rfl) rfl ?_
    refine s_iconst (v := 4) (tb_ok aX8_takes1_0 9 rfl) (by decide) ?_
    refine s_icmp_ne (tgt := 40) (tb_ok aX8_takes1_0 10 rfl) (by decide) (fun c14 => ?_) (fun c14 => ?_)
    · refine s_aload_n (tb_ok aX8_takes1_1 2 rfl) rfl ?_
      refine s_iconst (v := 2) (tb_ok aX8_takes1_1 3 rfl) (by decide) ?_
      refine s_iload_n (tb_ok aX8_takes1_1 4 rfl) rfl ?_
      refine s_iload_n (tb_ok aX8_takes1_1 5 rfl) rfl ?_
      refine s_cV (as := [.int (2), .int (nI j), .int fact]) (tb_ok aX8_takes1_1 6 rfl) v_RX8_366 (R_says2 h hj _) (by decide) rfl rfl rfl rfl rfl (Nat.le_of_ble_eq_true rfl) (by decide) (fun r1 S1 I1 L1 R1 q1 => ?_)
      obtain ⟨rfl, rfl, rfl, h1f⟩ := q1
      have h1 := h.see (see_eS h1f)
      refine s_if_eq (tgt := 54) (tb_ok aX8_takes1_1 7 rfl) (by decide) (fun c47 => ?_) (fun c47 => ?_)
      · refine s_iconst (v := 0) (tb_ok aX8_takes1_1 10 rfl) (by decide) ?_
        refine s_istore (ls' := [some (.ref 66), some (.int (nI j)), some (.int fact), some (.int (3)), some (.int (0))]) (tb_ok aX8_takes1_1 11 rfl) rfl rfl ?_
        refine s_iload_n (tb_ok aX8_takes1_1 12 rfl) rfl ?_
        refine s_iconst (v := 1) (tb_ok aX8_takes1_1 13 rfl) (by decide) ?_
        refine s_icmp_ne (tgt := 88) (tb_ok aX8_takes1_1 14 rfl) (by decide) (fun c59 => ?_) (fun c59 => ?_)
        · refine s_iload (tb_ok aX8_takes1_2 4 rfl) rfl ?_
          refine s_zret (tb_ok aX8_takes1_2 5 rfl) rfl ?_ ?_
          exact Or.inl rfl
          refine afZ ?_ h1f
          rw [tak' (by rw [hk]; decide) (by rw [hk]; decide) (by rw [hk]; decide)]
          exact (bI_f (fun h_ => h_ c47)).symm
        · exact absurd c59 (by decide)
      · refine s_iconst (v := 1) (tb_ok aX8_takes1_1 8 rfl) (by decide) ?_
        refine s_goto (tgt := 55) (tb_ok aX8_takes1_1 9 rfl) (by decide) ?_
        refine s_istore (ls' := [some (.ref 66), some (.int (nI j)), some (.int fact), some (.int (3)), some (.int (1))]) (tb_ok aX8_takes1_1 11 rfl) rfl rfl ?_
        refine s_iload_n (tb_ok aX8_takes1_1 12 rfl) rfl ?_
        refine s_iconst (v := 1) (tb_ok aX8_takes1_1 13 rfl) (by decide) ?_
        refine s_icmp_ne (tgt := 88) (tb_ok aX8_takes1_1 14 rfl) (by decide) (fun c59 => ?_) (fun c59 => ?_)
        · refine s_iload (tb_ok aX8_takes1_2 4 rfl) rfl ?_
          refine s_zret (tb_ok aX8_takes1_2 5 rfl) rfl ?_ ?_
          exact Or.inr rfl
          refine afZ ?_ h1f
          rw [tak' (by rw [hk]; decide) (by rw [hk]; decide) (by rw [hk]; decide)]
          exact (bI_t c47).symm
        · exact absurd c59 (by decide)
    · exact absurd c14 (by decide)

set_option maxRecDepth 100000 in
set_option maxHeartbeats 1000000 in
theorem R_tak4 {X : En} {L : FL} {q : Nat × Nat} {I : FI} {m : Nat} {fr fa : Nat → Int32} {M : Nat} {T : Nat → Nat → Int32} {d : Nat} {sem : Nat → Sem} (h : RSt I m fr fa M T d sem) {j : Nat} (hj : j < M) (fact : Int32) (hk : T j 0 = 4) : Ev X 53 mX8_takes1 (0, 0) [.ref 66, .int (nI j), .int fact] S0 I L (R0 q) (AfZ q eS I (takI sem fr fa m (T j) fact (nI d))) := by
  have hM5 := h.M5
  refine ev_of (by decide +kernel) rfl ?_
  show SW X _ _ _ 0 [some (.ref 66), some (.int (nI j)), some (.int fact), none, none] [] S0 I L (R0 q) _
  refine s_aload_n (tb_ok aX8_takes1_0 0 rfl) rfl ?_
  refine s_getR (r := 72) (tb_ok aX8_takes1_0 1 rfl) f_RX8_29 rfl rfl rfl ?_
  refine s_iload_n (tb_ok aX8_takes1_0 2 rfl) rfl ?_
  refine s_ialdX (x := (4)) (tb_ok aX8_takes1_0 3 rfl) rfl (by omega) (by decide) ((h.c0 hj).trans hk) ?_
  refine s_istore_n (ls' := [some (.ref 66), some (.int (nI j)), some (.int fact), some (.int (4)), none]) (tb_ok aX8_takes1_0 4 rfl) rfl rfl ?_
  refine s_iload_n (tb_ok aX8_takes1_0 5 rfl) rfl ?_
  refine s_iconst (v := 2) (tb_ok aX8_takes1_0 6 rfl) (by decide) ?_
  refine s_icmp_eq (tgt := 17) (tb_ok aX8_takes1_0 7 rfl) (by decide) (fun c9 => ?_) (fun c9 => ?_)
  · exact absurd c9 (by decide)
  · refine s_iload_n (tb_ok aX8_takes1_0 8 rfl) rfl ?_
    refine s_iconst (v := 4) (tb_ok aX8_takes1_0 9 rfl) (by decide) ?_
    refine s_icmp_ne (tgt := 40) (tb_ok aX8_takes1_0 10 rfl) (by decide) (fun c14 => ?_) (fun c14 => ?_)
    · exact absurd c14 (by decide)
    · refine s_iload_n (tb_ok aX8_takes1_0 11 rfl) rfl ?_
      refine s_iconst (v := 2) (tb_ok aX8_takes1_0 12 rfl) (by decide) ?_
      refine s_icmp_eq (tgt := 34) (tb_ok aX8_takes1_0 13 rfl) (by decide) (fun c19 => ?_) (fun c19 => ?_)
      · exact absurd c19 (by decide)
      · refine s_iload_n (tb_ok aX8_takes1_0 14 rfl) rfl ?_
        refine s_aload_n (tb_ok aX8_takes1_0 15 rfl) rfl ?_
        refine s_getR (r := 73) (tb_ok aX8_takes1_0 16 rfl) f_RX8_32 rfl rfl rfl ?_
        refine s_iconst (v := 4) (tb_ok aX8_takes1_0 17 rfl) (by decide) ?_
        refine s_iload_n (tb_ok aX8_takes1_0 18 rfl) rfl ?_
        refine s_imul (tb_ok aX8_takes1_0 19 rfl) ?_
        refine s_topi (z := (nI (4 * j))) (nI_mul 4 j) ?_
        refine s_ialdX (x := (T j 1)) (tb_ok aX8_takes1_0 20 rfl) rfl (by omega) (by decide) (h.c1 hj) ?_
        refine s_icmp_eq (tgt := 38) (tb_ok aX8_takes1_0 21 rfl) (by decide) (fun c31 => ?_) (fun c31 => ?_)
        · refine s_iconst (v := 0) (tb_ok aX8_takes1_1 0 rfl) (by decide) ?_
          refine s_zret (tb_ok aX8_takes1_1 1 rfl) rfl ?_ ?_
          exact Or.inl rfl
          refine afZ ?_ FrE.refl
          rw [tak4 hk]
          exact (bI_f (fun h_ => h_ c31)).symm
        · refine s_iconst (v := 1) (tb_ok aX8_takes1_0 22 rfl) (by decide) ?_
          refine s_goto (tgt := 39) (tb_ok aX8_takes1_0 23 rfl) (by decide) ?_
          refine s_zret (tb_ok aX8_takes1_1 1 rfl) rfl ?_ ?_
          exact Or.inr rfl
          refine afZ ?_ FrE.refl
          rw [tak4 hk]
          exact (bI_t c31).symm

set_option maxRecDepth 100000 in
set_option maxHeartbeats 1000000 in
theorem R_tak5 {X : En} {L : FL} {q : Nat × Nat} {I : FI} {m : Nat} {fr fa : Nat → Int32} {M : Nat} {T : Nat → Nat → Int32} {d : Nat} {sem : Nat → Sem} (h : RSt I m fr fa M T d sem) {j : Nat} (hj : j < M) (fact : Int32) (hk : T j 0 = 5) : Ev X 53 mX8_takes1 (0, 0) [.ref 66, .int (nI j), .int fact] S0 I L (R0 q) (AfZ q eS I (takI sem fr fa m (T j) fact (nI d))) := by
  have hM5 := h.M5
  refine ev_of (by decide +kernel) rfl ?_
  show SW X _ _ _ 0 [some (.ref 66), some (.int (nI j)), some (.int fact), none, none] [] S0 I L (R0 q) _
  refine s_aload_n (tb_ok aX8_takes1_0 0 rfl) rfl ?_
  refine s_getR (r := 72) (tb_ok aX8_takes1_0 1 rfl) f_RX8_29 rfl rfl rfl ?_
  refine s_iload_n (tb_ok aX8_takes1_0 2 rfl) rfl ?_
  refine s_ialdX (x := (5)) (tb_ok aX8_takes1_0 3 rfl) rfl (by omega) (by decide) ((h.c0 hj).trans hk) ?_
  refine s_istore_n (ls' := [some (.ref 66), some (.int (nI j)), some (.int fact), some (.int (5)), none]) (tb_ok aX8_takes1_0 4 rfl) rfl rfl ?_
  refine s_iload_n (tb_ok aX8_takes1_0 5 rfl) rfl ?_
  refine s_iconst (v := 2) (tb_ok aX8_takes1_0 6 rfl) (by decide) ?_
  refine s_icmp_eq (tgt := 17) (tb_ok aX8_takes1_0 7 rfl) (by decide) (fun c9 => ?_) (fun c9 => ?_)
  · exact absurd c9 (by decide)
  · refine s_iload_n (tb_ok aX8_takes1_0 8 rfl) rfl ?_
    refine s_iconst (v := 4) (tb_ok aX8_takes1_0 9 rfl) (by decide) ?_
    refine s_icmp_ne (tgt := 40) (tb_ok aX8_takes1_0 10 rfl) (by decide) (fun c14 => ?_) (fun c14 => ?_)
    · refine s_aload_n (tb_ok aX8_takes1_1 2 rfl) rfl ?_
      refine s_iconst (v := 2) (tb_ok aX8_takes1_1 3 rfl) (by decide) ?_
      refine s_iload_n (tb_ok aX8_takes1_1 4 rfl) rfl ?_
      refine s_iload_n (tb_ok aX8_takes1_1 5 rfl) rfl ?_
      refine s_cV (as := [.int (2), .int (nI j), .int fact]) (tb_ok aX8_takes1_1 6 rfl) v_RX8_366 (R_says2 h hj _) (by decide) rfl rfl rfl rfl rfl (Nat.le_of_ble_eq_true rfl) (by decide) (fun r1 S1 I1 L1 R1 q1 => ?_)
      obtain ⟨rfl, rfl, rfl, h1f⟩ := q1
      have h1 := h.see (see_eS h1f)
      refine s_if_eq (tgt := 54) (tb_ok aX8_takes1_1 7 rfl) (by decide) (fun c47 => ?_) (fun c47 => ?_)
      · refine s_iconst (v := 0) (tb_ok aX8_takes1_1 10 rfl) (by decide) ?_
        refine s_istore (ls' := [some (.ref 66), some (.int (nI j)), some (.int fact), some (.int (5)), some (.int (0))]) (tb_ok aX8_takes1_1 11 rfl) rfl rfl ?_
        refine s_iload_n (tb_ok aX8_takes1_1 12 rfl) rfl ?_
        refine s_iconst (v := 1) (tb_ok aX8_takes1_1 13 rfl) (by decide) ?_
        refine s_icmp_ne (tgt := 88) (tb_ok aX8_takes1_1 14 rfl) (by decide) (fun c59 => ?_) (fun c59 => ?_)
        · refine s_iload (tb_ok aX8_takes1_2 4 rfl) rfl ?_
          refine s_zret (tb_ok aX8_takes1_2 5 rfl) rfl ?_ ?_
          exact Or.inl rfl
          refine afZ ?_ h1f
          rw [tak' (by rw [hk]; decide) (by rw [hk]; decide) (by rw [hk]; decide)]
          exact (bI_f (fun h_ => h_ c47)).symm
        · exact absurd c59 (by decide)
      · refine s_iconst (v := 1) (tb_ok aX8_takes1_1 8 rfl) (by decide) ?_
        refine s_goto (tgt := 55) (tb_ok aX8_takes1_1 9 rfl) (by decide) ?_
        refine s_istore (ls' := [some (.ref 66), some (.int (nI j)), some (.int fact), some (.int (5)), some (.int (1))]) (tb_ok aX8_takes1_1 11 rfl) rfl rfl ?_
        refine s_iload_n (tb_ok aX8_takes1_1 12 rfl) rfl ?_
        refine s_iconst (v := 1) (tb_ok aX8_takes1_1 13 rfl) (by decide) ?_
        refine s_icmp_ne (tgt := 88) (tb_ok aX8_takes1_1 14 rfl) (by decide) (fun c59 => ?_) (fun c59 => ?_)
        · refine s_iload (tb_ok aX8_takes1_2 4 rfl) rfl ?_
          refine s_zret (tb_ok aX8_takes1_2 5 rfl) rfl ?_ ?_
          exact Or.inr rfl
          refine afZ ?_ h1f
          rw [tak' (by rw [hk]; decide) (by rw [hk]; decide) (by rw [hk]; decide)]
          exact (bI_t c47).symm
        · exact absurd c59 (by decide)
    · exact absurd c14 (by decide)

set_option maxRecDepth 100000 in
set_option maxHeartbeats 1000000 in
theorem R_takes {X : En} {L : FL} {q : Nat × Nat} {I : FI} {m : Nat} {fr fa : Nat → Int32} {M : Nat} {T : Nat → Nat → Int32} {d : Nat} {sem : Nat → Sem} (h : RSt I m fr fa M T d sem) {j : Nat} (hj : j < M) (fact : Int32) : Ev X 53 mX8_takes1 (0, 0) [.ref 66, .int (nI j), .int fact] S0 I L (R0 q) (AfZ q eS I (takI sem fr fa m (T j) fact (nI d))) := by
  obtain ⟨⟨k, hk, ek⟩, _⟩ := h.ok hj
  have hk6 : k = 0 ∨ k = 1 ∨ k = 2 ∨ k = 3 ∨ k = 4 ∨ k = 5 := by omega
  rcases hk6 with e | e | e | e | e | e <;> subst e
  · exact R_tak0 h hj fact ek
  · exact R_tak1 h hj fact ek
  · exact R_tak2 h hj fact ek
  · exact R_tak3 h hj fact ek
  · exact R_tak4 h hj fact ek
  · exact R_tak5 h hj fact ek

set_option maxRecDepth 100000 in
set_option maxHeartbeats 1000000 in
theorem R_knowsIt {X : En} {L : FL} {q : Nat × Nat} {I : FI} {m : Nat} {fr fa : Nat → Int32} {M : Nat} {T : Nat → Nat → Int32} {d : Nat} {sem : Nat → Sem} (h : RSt I m fr fa M T d sem) {j : Nat} (hj : j < M) (fact : Int32) : Ev X 1 mX8_knowsIt (0, 0) [.ref 66, .int (nI j), .int fact] S0 I L (R0 q) (PureR (some (.int (knI (T j) fact))) S0 I L (R0 q)) := by
  have hM5 := h.M5
  refine ev_of (by decide +kernel) rfl ?_
  show SW X _ _ _ 0 [some (.ref 66), some (.int (nI j)), some (.int fact)] [] S0 I L (R0 q) _
  refine s_aload_n (tb_ok aX8_knowsIt_0 0 rfl) rfl ?_
  refine s_iload_n (tb_ok aX8_knowsIt_0 1 rfl) rfl ?_
  refine s_cVp (as := [.int (nI j)]) (tb_ok aX8_knowsIt_0 2 rfl) v_RX8_115 (R_knows h hj) (by decide) rfl rfl rfl rfl rfl (Nat.le_of_ble_eq_true rfl) (by decide) ?_
  refine s_iload_n (tb_ok aX8_knowsIt_0 3 rfl) rfl ?_
  refine s_ishr (tb_ok aX8_knowsIt_0 4 rfl) ?_
  refine s_iconst (v := 1) (tb_ok aX8_knowsIt_0 5 rfl) (by decide) ?_
  refine s_iand (tb_ok aX8_knowsIt_0 6 rfl) ?_
  refine s_iconst (v := 1) (tb_ok aX8_knowsIt_0 7 rfl) (by decide) ?_
  refine s_icmp_ne (tgt := 17) (tb_ok aX8_knowsIt_0 8 rfl) (by decide) (fun c10 => ?_) (fun c10 => ?_)
  · refine s_iconst (v := 0) (tb_ok aX8_knowsIt_0 11 rfl) (by decide) ?_
    refine s_zret (tb_ok aX8_knowsIt_0 12 rfl) rfl ?_ ?_
    exact Or.inl rfl
    refine pureE (congrArg (fun z => some (Value.int z)) ?_)
    unfold knI
    exact (bI_f (fun h_ => c10 (and1_1.mpr h_))).symm
  · refine s_iconst (v := 1) (tb_ok aX8_knowsIt_0 9 rfl) (by decide) ?_
    refine s_goto (tgt := 18) (tb_ok aX8_knowsIt_0 10 rfl) (by decide) ?_
    refine s_zret (tb_ok aX8_knowsIt_0 12 rfl) rfl ?_ ?_
    exact Or.inr rfl
    refine pureE (congrArg (fun z => some (Value.int z)) ?_)
    unfold knI
    exact (bI_t (and1_1.mp c10)).symm

set_option maxRecDepth 100000 in
set_option maxHeartbeats 1000000 in
theorem R_fallsFor {X : En} {L : FL} {q : Nat × Nat} {I : FI} {m : Nat} {fr fa : Nat → Int32} {M : Nat} {T : Nat → Nat → Int32} {d : Nat} {sem : Nat → Sem} (h : RSt I m fr fa M T d sem) {j : Nat} (hj : j < M) (set : Int32) : Ev X 54 mX8_fallsFor (0, 0) [.ref 66, .int (nI j), .int set] S0 I L (R0 q) (AfZ q eS I (falS sem (T j) set (nI d) 12)) := by
  have hM5 := h.M5
  have loop : ∀ k, k ≤ 12 → ∀ (I1 : FI), ∀ (L1 : FL), (FrE eS I1 I) → SW X 54 mX8_fallsFor (0, 0) 5 [some (.ref 66), some (.int (nI j)), some (.int set), some (.int (falS sem (T j) set (nI d) k)), some (.int (nI k))] [] S0 I1 L1 (R0 q) (KQ X (AfZ q eS I (falS sem (T j) set (nI d) 12))) := by
    refine for_up (P := fun k => ∀ (I1 : FI), ∀ (L1 : FL), (FrE eS I1 I) → SW X 54 mX8_fallsFor (0, 0) 5 [some (.ref 66), some (.int (nI j)), some (.int set), some (.int (falS sem (T j) set (nI d) k)), some (.int (nI k))] [] S0 I1 L1 (R0 q) (KQ X (AfZ q eS I (falS sem (T j) set (nI d) 12)))) 12 ?_ ?_
    · intro I1 L1 hi
      refine s_iload (tb_ok aX8_fallsFor_0 4 rfl) rfl ?_
      refine s_bipush (v := nI 12) (tb_ok aX8_fallsFor_0 5 rfl) (by decide) ?_
      refine s_icmp_ge (tgt := 42) (tb_ok aX8_fallsFor_0 6 rfl) (by decide) (fun c9 => ?_) (fun c9 => ?_)
      · refine s_iload_n (tb_ok aX8_fallsFor_1 1 rfl) rfl ?_
        refine s_iret (tb_ok aX8_fallsFor_1 2 rfl) rfl ?_
        exact afZ rfl hi
      · simp (disch := omega) only [nI_ltI, nI_leI, nI_eq] at c9
        omega
    · intro k hk ih I1 L1 hi
      refine s_iload (tb_ok aX8_fallsFor_0 4 rfl) rfl ?_
      refine s_bipush (v := nI 12) (tb_ok aX8_fallsFor_0 5 rfl) (by decide) ?_
      refine s_icmp_ge (tgt := 42) (tb_ok aX8_fallsFor_0 6 rfl) (by decide) (fun c9 => ?_) (fun c9 => ?_)
      · simp (disch := omega) only [nI_ltI, nI_leI, nI_eq] at c9
        omega
      · refine s_iload_n (tb_ok aX8_fallsFor_0 7 rfl) rfl ?_
        refine s_iload_n (tb_ok aX8_fallsFor_0 8 rfl) rfl ?_
        refine s_iload (tb_ok aX8_fallsFor_0 9 rfl) rfl ?_
        refine s_ishr (tb_ok aX8_fallsFor_0 10 rfl) ?_
        refine s_iconst (v := 1) (tb_ok aX8_fallsFor_0 11 rfl) (by decide) ?_
        refine s_iand (tb_ok aX8_fallsFor_0 12 rfl) ?_
        refine s_iconst (v := 1) (tb_ok aX8_fallsFor_0 13 rfl) (by decide) ?_
        refine s_icmp_ne (tgt := 33) (tb_ok aX8_fallsFor_0 14 rfl) (by decide) (fun c20 => ?_) (fun c20 => ?_)
        · refine s_iconst (v := 0) (tb_ok aX8_fallsFor_0 20 rfl) (by decide) ?_
          refine s_iadd (tb_ok aX8_fallsFor_0 21 rfl) ?_
          refine s_topi (z := (falS sem (T j) set (nI d) (k + 1))) (by rw [falS, if_pos (Classical.byContradiction (fun h_ => c20 (and1_1.mpr h_)))]; exact Int32.add_zero _) ?_
          refine s_name (fun x1 ex1 => ?_)
          refine s_istore_n (ls' := [some (.ref 66), some (.int (nI j)), some (.int set), some (.int x1), some (.int (nI k))]) (tb_ok aX8_fallsFor_0 22 rfl) rfl rfl ?_
          refine s_iinc (v := nI (k + 1)) (ls' := [some (.ref 66), some (.int (nI j)), some (.int set), some (.int x1), some (.int (nI (k + 1)))]) (tb_ok aX8_fallsFor_0 23 rfl) rfl (nI_1 _) rfl rfl ?_
          refine s_goto (tgt := 5) (tb_ok aX8_fallsFor_1 0 rfl) (by decide) ?_
          subst ex1
          exact ih _ _ (hi)
        · refine s_aload_n (tb_ok aX8_fallsFor_0 15 rfl) rfl ?_
          refine s_iload_n (tb_ok aX8_fallsFor_0 16 rfl) rfl ?_
          refine s_iload (tb_ok aX8_fallsFor_0 17 rfl) rfl ?_
          refine s_cV (as := [.int (nI j), .int (nI k)]) (tb_ok aX8_fallsFor_0 18 rfl) v_RX8_369 (R_fall (h.see (see_eS hi)) hj _) (by decide) rfl rfl rfl rfl rfl (Nat.le_of_ble_eq_true rfl) (by decide) (fun r1 S1 I1 L1 R1 q1 => ?_)
          obtain ⟨rfl, rfl, rfl, hf2⟩ := q1
          refine s_goto (tgt := 34) (tb_ok aX8_fallsFor_0 19 rfl) (by decide) ?_
          refine s_iadd (tb_ok aX8_fallsFor_0 21 rfl) ?_
          refine s_topi (z := (falS sem (T j) set (nI d) (k + 1))) (by rw [falS, if_neg (and1_1.mp c20)]) ?_
          refine s_name (fun x2 ex2 => ?_)
          refine s_istore_n (ls' := [some (.ref 66), some (.int (nI j)), some (.int set), some (.int x2), some (.int (nI k))]) (tb_ok aX8_fallsFor_0 22 rfl) rfl rfl ?_
          refine s_iinc (v := nI (k + 1)) (ls' := [some (.ref 66), some (.int (nI j)), some (.int set), some (.int x2), some (.int (nI (k + 1)))]) (tb_ok aX8_fallsFor_0 23 rfl) rfl (nI_1 _) rfl rfl ?_
          refine s_goto (tgt := 5) (tb_ok aX8_fallsFor_1 0 rfl) (by decide) ?_
          subst ex2
          exact ih _ _ (hf2.trans hi)
  refine ev_of (by decide +kernel) rfl ?_
  show SW X _ _ _ 0 [some (.ref 66), some (.int (nI j)), some (.int set), none, none] [] S0 I L (R0 q) _
  refine s_iconst (v := nI 0) (tb_ok aX8_fallsFor_0 0 rfl) (by decide) ?_
  refine s_istore_n (ls' := [some (.ref 66), some (.int (nI j)), some (.int set), some (.int (nI 0)), none]) (tb_ok aX8_fallsFor_0 1 rfl) rfl rfl ?_
  refine s_iconst (v := nI 0) (tb_ok aX8_fallsFor_0 2 rfl) (by decide) ?_
  refine s_istore (ls' := [some (.ref 66), some (.int (nI j)), some (.int set), some (.int (nI 0)), some (.int (nI 0))]) (tb_ok aX8_fallsFor_0 3 rfl) rfl rfl ?_
  exact loop 0 (Nat.zero_le _) I L FrE.refl

def AfI (q : Nat × Nat) (r0 : Option Value) (Z : FI → Prop) : Pst := fun r S' I' L' R' => r = r0 ∧ S' = S0 ∧ R' = R0 q ∧ Z I'
theorem eS_eP {A B : FI} (h : FrE eS A B) : FrE eP A B := h.mono (fun _ _ e => Or.inl e)
set_option maxRecDepth 100000 in
set_option maxHeartbeats 1000000 in
theorem R_hears {X : En} {L : FL} {q : Nat × Nat} {I : FI} {m : Nat} {fr fa : Nat → Int32} {M : Nat} {T : Nat → Nat → Int32} {d : Nat} {sem : Nat → Sem} (h : RSt I m fr fa M T d sem) {j : Nat} (hj : j < M) {g : Nat} (hg : g < 12) : Ev X 54 mX8_hears (0, 0) [.ref 66, .int (nI j), .int (nI g)] S0 I L (R0 q) (AfI q (some (.int (wlI sem fr fa m (T j) (nI g) (nI d)))) (fun I' => RSt I' m fr fa M (uT T j (heaP sem fr fa m (T j) (nI g) (nI d))) d sem ∧ FrE eP I' I)) := by
  have hM5 := h.M5
  refine ev_of (by decide +kernel) rfl ?_
  show SW X _ _ _ 0 [some (.ref 66), some (.int (nI j)), some (.int (nI g))] [] S0 I L (R0 q) _
  refine s_aload_n (tb_ok aX8_hears_0 0 rfl) rfl ?_
  refine s_iload_n (tb_ok aX8_hears_0 1 rfl) rfl ?_
  refine s_iload_n (tb_ok aX8_hears_0 2 rfl) rfl ?_
  refine s_cVp (as := [.int (nI j), .int (nI g)]) (tb_ok aX8_hears_0 3 rfl) v_RX8_372 (R_knowsIt h hj _) (by decide) rfl rfl rfl rfl rfl (Nat.le_of_ble_eq_true rfl) (by decide) ?_
  refine s_if_ne (tgt := 18) (tb_ok aX8_hears_0 4 rfl) (by decide) (fun c6 => ?_) (fun c6 => ?_)
  · refine s_iconst (v := 0) (tb_ok aX8_hears_0 10 rfl) (by decide) ?_
    refine s_iret (tb_ok aX8_hears_0 11 rfl) rfl ?_
    have hw : wlI sem fr fa m (T j) (nI g) (nI d) = 0 := bI_f (fun h_ => by first | exact c6 h_.1 | exact h_.2 c15)
    have hk : uT T j (heaP sem fr fa m (T j) (nI g) (nI d)) = T := by
      unfold heaP
      rw [if_pos hw]
      funext a
      by_cases e : a = j
      · subst e; rw [uT_o]
      · rw [uT_n e]
    refine ⟨by rw [hw], rfl, rfl, ?_, FrE.refl⟩
    rw [hk]
    exact h
  · refine s_aload_n (tb_ok aX8_hears_0 5 rfl) rfl ?_
    refine s_iload_n (tb_ok aX8_hears_0 6 rfl) rfl ?_
    refine s_iload_n (tb_ok aX8_hears_0 7 rfl) rfl ?_
    refine s_cV (as := [.int (nI j), .int (nI g)]) (tb_ok aX8_hears_0 8 rfl) v_RX8_375 (R_takes h hj _) (by decide) rfl rfl rfl rfl rfl (Nat.le_of_ble_eq_true rfl) (by decide) (fun r1 S1 I1 L1 R1 q1 => ?_)
    obtain ⟨rfl, rfl, rfl, hf2⟩ := q1
    have h2 := h.see (see_eS hf2)
    refine s_if_ne (tgt := 20) (tb_ok aX8_hears_0 9 rfl) (by decide) (fun c15 => ?_) (fun c15 => ?_)
    · refine s_aload_n (tb_ok aX8_hears_0 12 rfl) rfl ?_
      refine s_getR (r := 73) (tb_ok aX8_hears_0 13 rfl) f_RX8_32 rfl rfl rfl ?_
      refine s_iconst (v := 4) (tb_ok aX8_hears_0 14 rfl) (by decide) ?_
      refine s_iload_n (tb_ok aX8_hears_0 15 rfl) rfl ?_
      refine s_imul (tb_ok aX8_hears_0 16 rfl) ?_
      refine s_topi (z := (nI (4 * j))) (nI_mul 4 j) ?_
      refine s_iconst (v := 1) (tb_ok aX8_hears_0 17 rfl) (by decide) ?_
      refine s_iadd (tb_ok aX8_hears_0 18 rfl) ?_
      refine s_topi (z := (nI (4 * j + 1))) (nI_add' (4 * j) 1) ?_
      refine s_dup2 (tb_ok aX8_hears_0 19 rfl) rfl rfl ?_
      refine s_ialdX (x := (T j 2)) (tb_ok aX8_hears_0 20 rfl) rfl (by omega) (by decide) (h2.c2 hj) ?_
      refine s_iconst (v := 1) (tb_ok aX8_hears_0 21 rfl) (by decide) ?_
      refine s_iload_n (tb_ok aX8_hears_0 22 rfl) rfl ?_
      refine s_ishl (tb_ok aX8_hears_0 23 rfl) ?_
      refine s_ior (tb_ok aX8_hears_1 0 rfl) ?_
      refine s_iastN (tb_ok aX8_hears_1 1 rfl) rfl (by omega) (by decide) ?_
      refine s_iconst (v := 1) (tb_ok aX8_hears_1 2 rfl) (by decide) ?_
      refine s_iret (tb_ok aX8_hears_1 3 rfl) rfl ?_
      have hw : wlI sem fr fa m (T j) (nI g) (nI d) = 1 := bI_t ⟨c6, c15⟩
      obtain ⟨u, hu, eu⟩ := shl_N hg
      have hk : heaP sem fr fa m (T j) (nI g) (nI d) = upd (T j) 2 (T j 2 ||| ((1 : Int32) <<< (nI g &&& 31))) := by unfold heaP; rw [hw]; exact if_neg (by decide)
      refine ⟨by rw [hw], rfl, rfl, ?_, (eS_eP hf2).put (Or.inr (Or.inr ⟨rfl, by omega⟩)) _⟩
      rw [hk]
      exact h2.row hj (by decide) (by rw [eu]; exact (h2.ok hj).or hu)
    · refine s_iconst (v := 0) (tb_ok aX8_hears_0 10 rfl) (by decide) ?_
      refine s_iret (tb_ok aX8_hears_0 11 rfl) rfl ?_
      have hw : wlI sem fr fa m (T j) (nI g) (nI d) = 0 := bI_f (fun h_ => by first | exact c6 h_.1 | exact h_.2 c15)
      have hk : uT T j (heaP sem fr fa m (T j) (nI g) (nI d)) = T := by
        unfold heaP
        rw [if_pos hw]
        funext a
        by_cases e : a = j
        · subst e; rw [uT_o]
        · rw [uT_n e]
      refine ⟨by rw [hw], rfl, rfl, ?_, eS_eP hf2⟩
      rw [hk]
      exact h2

theorem apS_big {T : Nat → Nat → Int32} {M : Nat} : ∀ k, M ≤ k → apS T M k = apS T M M := by
  intro k
  induction k with
  | zero => intro h; rw [show M = 0 by omega]
  | succ k ih =>
    intro h
    by_cases e : M = k + 1
    · rw [e]
    · rw [apS, if_neg (by omega)]
      exact ih (by omega)
set_option maxRecDepth 100000 in
set_option maxHeartbeats 1000000 in
theorem R_applesAll {X : En} {L : FL} {q : Nat × Nat} {I : FI} {m : Nat} {fr fa : Nat → Int32} {M : Nat} {T : Nat → Nat → Int32} {d : Nat} {sem : Nat → Sem} (h : RSt I m fr fa M T d sem) : Ev X 0 mX8_applesAll (0, 0) [.ref 66] S0 I L (R0 q) (PureR (some (.int (apS T M 5))) S0 I L (R0 q)) := by
  have hM5 := h.M5
  have loop : ∀ k, k ≤ M → SW X 0 mX8_applesAll (0, 0) 4 [some (.ref 66), some (.int (apS T M k)), some (.int (nI k))] [] S0 I L (R0 q) (KQ X (PureR (some (.int (apS T M 5))) S0 I L (R0 q))) := by
    refine for_up (P := fun k => SW X 0 mX8_applesAll (0, 0) 4 [some (.ref 66), some (.int (apS T M k)), some (.int (nI k))] [] S0 I L (R0 q) (KQ X (PureR (some (.int (apS T M 5))) S0 I L (R0 q)))) M ?_ ?_
    · refine s_iload_n (tb_ok aX8_applesAll_0 4 rfl) rfl ?_
      refine s_aload_n (tb_ok aX8_applesAll_0 5 rfl) rfl ?_
      refine s_getI (x := (nI M)) (tb_ok aX8_applesAll_0 6 rfl) f_RX8_70 rfl rfl h.mn ?_
      refine s_icmp_ge (tgt := 31) (tb_ok aX8_applesAll_0 7 rfl) (by decide) (fun c9 => ?_) (fun c9 => ?_)
      · refine s_iload_n (tb_ok aX8_applesAll_0 21 rfl) rfl ?_
        refine s_iret (tb_ok aX8_applesAll_0 22 rfl) rfl ?_
        exact pureE (congrArg (fun z => some (Value.int z)) (apS_big 5 hM5).symm)
      · simp (disch := omega) only [nI_ltI, nI_leI, nI_eq] at c9
        omega
    · intro k hk ih
      refine s_iload_n (tb_ok aX8_applesAll_0 4 rfl) rfl ?_
      refine s_aload_n (tb_ok aX8_applesAll_0 5 rfl) rfl ?_
      refine s_getI (x := (nI M)) (tb_ok aX8_applesAll_0 6 rfl) f_RX8_70 rfl rfl h.mn ?_
      refine s_icmp_ge (tgt := 31) (tb_ok aX8_applesAll_0 7 rfl) (by decide) (fun c9 => ?_) (fun c9 => ?_)
      · simp (disch := omega) only [nI_ltI, nI_leI, nI_eq] at c9
        omega
      · refine s_iload_n (tb_ok aX8_applesAll_0 8 rfl) rfl ?_
        refine s_aload_n (tb_ok aX8_applesAll_0 9 rfl) rfl ?_
        refine s_getR (r := 73) (tb_ok aX8_applesAll_0 10 rfl) f_RX8_32 rfl rfl rfl ?_
        refine s_iconst (v := 4) (tb_ok aX8_applesAll_0 11 rfl) (by decide) ?_
        refine s_iload_n (tb_ok aX8_applesAll_0 12 rfl) rfl ?_
        refine s_imul (tb_ok aX8_applesAll_0 13 rfl) ?_
        refine s_topi (z := (nI (4 * k))) (nI_mul 4 k) ?_
        refine s_iconst (v := 2) (tb_ok aX8_applesAll_0 14 rfl) (by decide) ?_
        refine s_iadd (tb_ok aX8_applesAll_0 15 rfl) ?_
        refine s_topi (z := (nI (4 * k + 2))) (nI_add' (4 * k) 2) ?_
        refine s_ialdX (x := (T k 3)) (tb_ok aX8_applesAll_0 16 rfl) rfl (by omega) (by decide) (h.c3 hk) ?_
        refine s_iadd (tb_ok aX8_applesAll_0 17 rfl) ?_
        refine s_topi (z := (apS T M (k + 1))) (by rw [apS, if_pos hk]) ?_
        refine s_name (fun x1 ex1 => ?_)
        refine s_istore_n (ls' := [some (.ref 66), some (.int x1), some (.int (nI k))]) (tb_ok aX8_applesAll_0 18 rfl) rfl rfl ?_
        refine s_iinc (v := nI (k + 1)) (ls' := [some (.ref 66), some (.int x1), some (.int (nI (k + 1)))]) (tb_ok aX8_applesAll_0 19 rfl) rfl (nI_1 _) rfl rfl ?_
        refine s_goto (tgt := 4) (tb_ok aX8_applesAll_0 20 rfl) (by decide) ?_
        subst ex1
        exact ih
  refine ev_of (by decide +kernel) rfl ?_
  show SW X _ _ _ 0 [some (.ref 66), none, none] [] S0 I L (R0 q) _
  refine s_iconst (v := 0) (tb_ok aX8_applesAll_0 0 rfl) (by decide) ?_
  refine s_istore_n (ls' := [some (.ref 66), some (.int (0)), none]) (tb_ok aX8_applesAll_0 1 rfl) rfl rfl ?_
  refine s_iconst (v := nI 0) (tb_ok aX8_applesAll_0 2 rfl) (by decide) ?_
  refine s_istore_n (ls' := [some (.ref 66), some (.int (0)), some (.int (nI 0))]) (tb_ok aX8_applesAll_0 3 rfl) rfl rfl ?_
  exact loop 0 (Nat.zero_le _)

set_option maxRecDepth 100000 in
set_option maxHeartbeats 1000000 in
theorem R_laysAside {X : En} {L : FL} {q : Nat × Nat} {I : FI} : Ev X 0 mX8_laysAside (0, 0) [.ref 66] S0 I L (R0 q) (PureR none S0 (up2 (flO I 74 (I 73) 20) 66 30 (I 66 7)) L (R0 q)) := by
  have loop : ∀ k, k ≤ 20 → SW X 0 mX8_laysAside (0, 0) 2 [some (.ref 66), some (.int (nI k))] [] S0 (flO I 74 (I 73) k) L (R0 q) (KQ X (PureR none S0 (up2 (flO I 74 (I 73) 20) 66 30 (I 66 7)) L (R0 q))) := by
    refine for_up (P := fun k => SW X 0 mX8_laysAside (0, 0) 2 [some (.ref 66), some (.int (nI k))] [] S0 (flO I 74 (I 73) k) L (R0 q) (KQ X (PureR none S0 (up2 (flO I 74 (I 73) 20) 66 30 (I 66 7)) L (R0 q)))) 20 ?_ ?_
    · refine s_iload_n (tb_ok aX8_laysAside_0 2 rfl) rfl ?_
      refine s_bipush (v := nI 20) (tb_ok aX8_laysAside_0 3 rfl) (by decide) ?_
      refine s_icmp_ge (tgt := 26) (tb_ok aX8_laysAside_0 4 rfl) (by decide) (fun c5 => ?_) (fun c5 => ?_)
      · refine s_aload_n (tb_ok aX8_laysAside_0 15 rfl) rfl ?_
        refine s_aload_n (tb_ok aX8_laysAside_0 16 rfl) rfl ?_
        refine s_getI (tb_ok aX8_laysAside_0 17 rfl) f_RX8_105 rfl rfl rfl ?_
        refine s_putI (tb_ok aX8_laysAside_0 18 rfl) f_RX8_384 rfl rfl ?_
        refine s_vret (tb_ok aX8_laysAside_0 19 rfl) rfl ?_
        exact pureR
      · simp (disch := omega) only [nI_ltI, nI_leI, nI_eq] at c5
        omega
    · intro k hk ih
      refine s_iload_n (tb_ok aX8_laysAside_0 2 rfl) rfl ?_
      refine s_bipush (v := nI 20) (tb_ok aX8_laysAside_0 3 rfl) (by decide) ?_
      refine s_icmp_ge (tgt := 26) (tb_ok aX8_laysAside_0 4 rfl) (by decide) (fun c5 => ?_) (fun c5 => ?_)
      · simp (disch := omega) only [nI_ltI, nI_leI, nI_eq] at c5
        omega
      · refine s_aload_n (tb_ok aX8_laysAside_0 5 rfl) rfl ?_
        refine s_getR (r := 74) (tb_ok aX8_laysAside_0 6 rfl) f_RX8_35 rfl rfl rfl ?_
        refine s_iload_n (tb_ok aX8_laysAside_0 7 rfl) rfl ?_
        refine s_aload_n (tb_ok aX8_laysAside_0 8 rfl) rfl ?_
        refine s_getR (r := 73) (tb_ok aX8_laysAside_0 9 rfl) f_RX8_32 rfl rfl rfl ?_
        refine s_iload_n (tb_ok aX8_laysAside_0 10 rfl) rfl ?_
        refine s_ialdN (tb_ok aX8_laysAside_0 11 rfl) rfl (by omega) (by decide) ?_
        refine s_iastN (tb_ok aX8_laysAside_0 12 rfl) rfl (by omega) (by decide) ?_
        refine s_iinc (v := nI (k + 1)) (ls' := [some (.ref 66), some (.int (nI (k + 1)))]) (tb_ok aX8_laysAside_0 13 rfl) rfl (nI_1 _) rfl rfl ?_
        refine s_goto (tgt := 2) (tb_ok aX8_laysAside_0 14 rfl) (by decide) ?_
        rw [flO_s (show flO I 74 (I 73) k 73 k = I 73 k by rw [flO_n (by decide)])]
        exact ih
  refine ev_of (by decide +kernel) rfl ?_
  show SW X _ _ _ 0 [some (.ref 66), none] [] S0 I L (R0 q) _
  refine s_iconst (v := nI 0) (tb_ok aX8_laysAside_0 0 rfl) (by decide) ?_
  refine s_istore_n (ls' := [some (.ref 66), some (.int (nI 0))]) (tb_ok aX8_laysAside_0 1 rfl) rfl rfl ?_
  refine s_eqI (flO_0 (o := 74) (g := (I 73))).symm ?_
  exact loop 0 (Nat.zero_le _)

set_option maxRecDepth 100000 in
set_option maxHeartbeats 1000000 in
theorem R_laysBack {X : En} {L : FL} {q : Nat × Nat} {I : FI} : Ev X 0 mX8_laysBack (0, 0) [.ref 66] S0 I L (R0 q) (PureR none S0 (up2 (flO I 73 (I 74) 20) 66 7 (I 66 30)) L (R0 q)) := by
  have loop : ∀ k, k ≤ 20 → SW X 0 mX8_laysBack (0, 0) 2 [some (.ref 66), some (.int (nI k))] [] S0 (flO I 73 (I 74) k) L (R0 q) (KQ X (PureR none S0 (up2 (flO I 73 (I 74) 20) 66 7 (I 66 30)) L (R0 q))) := by
    refine for_up (P := fun k => SW X 0 mX8_laysBack (0, 0) 2 [some (.ref 66), some (.int (nI k))] [] S0 (flO I 73 (I 74) k) L (R0 q) (KQ X (PureR none S0 (up2 (flO I 73 (I 74) 20) 66 7 (I 66 30)) L (R0 q)))) 20 ?_ ?_
    · refine s_iload_n (tb_ok aX8_laysBack_0 2 rfl) rfl ?_
      refine s_bipush (v := nI 20) (tb_ok aX8_laysBack_0 3 rfl) (by decide) ?_
      refine s_icmp_ge (tgt := 26) (tb_ok aX8_laysBack_0 4 rfl) (by decide) (fun c5 => ?_) (fun c5 => ?_)
      · refine s_aload_n (tb_ok aX8_laysBack_0 15 rfl) rfl ?_
        refine s_aload_n (tb_ok aX8_laysBack_0 16 rfl) rfl ?_
        refine s_getI (tb_ok aX8_laysBack_0 17 rfl) f_RX8_384 rfl rfl rfl ?_
        refine s_putI (tb_ok aX8_laysBack_0 18 rfl) f_RX8_105 rfl rfl ?_
        refine s_vret (tb_ok aX8_laysBack_0 19 rfl) rfl ?_
        exact pureR
      · simp (disch := omega) only [nI_ltI, nI_leI, nI_eq] at c5
        omega
    · intro k hk ih
      refine s_iload_n (tb_ok aX8_laysBack_0 2 rfl) rfl ?_
      refine s_bipush (v := nI 20) (tb_ok aX8_laysBack_0 3 rfl) (by decide) ?_
      refine s_icmp_ge (tgt := 26) (tb_ok aX8_laysBack_0 4 rfl) (by decide) (fun c5 => ?_) (fun c5 => ?_)
      · simp (disch := omega) only [nI_ltI, nI_leI, nI_eq] at c5
        omega
      · refine s_aload_n (tb_ok aX8_laysBack_0 5 rfl) rfl ?_
        refine s_getR (r := 73) (tb_ok aX8_laysBack_0 6 rfl) f_RX8_32 rfl rfl rfl ?_
        refine s_iload_n (tb_ok aX8_laysBack_0 7 rfl) rfl ?_
        refine s_aload_n (tb_ok aX8_laysBack_0 8 rfl) rfl ?_
        refine s_getR (r := 74) (tb_ok aX8_laysBack_0 9 rfl) f_RX8_35 rfl rfl rfl ?_
        refine s_iload_n (tb_ok aX8_laysBack_0 10 rfl) rfl ?_
        refine s_ialdN (tb_ok aX8_laysBack_0 11 rfl) rfl (by omega) (by decide) ?_
        refine s_iastN (tb_ok aX8_laysBack_0 12 rfl) rfl (by omega) (by decide) ?_
        refine s_iinc (v := nI (k + 1)) (ls' := [some (.ref 66), some (.int (nI (k + 1)))]) (tb_ok aX8_laysBack_0 13 rfl) rfl (nI_1 _) rfl rfl ?_
        refine s_goto (tgt := 2) (tb_ok aX8_laysBack_0 14 rfl) (by decide) ?_
        rw [flO_s (show flO I 73 (I 74) k 74 k = I 74 k by rw [flO_n (by decide)])]
        exact ih
  refine ev_of (by decide +kernel) rfl ?_
  show SW X _ _ _ 0 [some (.ref 66), none] [] S0 I L (R0 q) _
  refine s_iconst (v := nI 0) (tb_ok aX8_laysBack_0 0 rfl) (by decide) ?_
  refine s_istore_n (ls' := [some (.ref 66), some (.int (nI 0))]) (tb_ok aX8_laysBack_0 1 rfl) rfl rfl ?_
  refine s_eqI (flO_0 (o := 73) (g := (I 74))).symm ?_
  exact loop 0 (Nat.zero_le _)
