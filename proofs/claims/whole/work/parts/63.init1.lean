/-! what the constructors make: the world grows along S0 -/
def FZ (k : Nat) (I : FI) (L : FL) (R : FR) : Prop := ∀ a, k ≤ a → ∀ j, I a j = 0 ∧ L a j = 0 ∧ R a j = none
theorem FZ.mono {k l : Nat} {I : FI} {L : FL} {R : FR} (h : FZ k I L R) (hl : k ≤ l) : FZ l I L R := fun a ha j => h a (Nat.le_trans hl ha) j
theorem FZ.i {k o j : Nat} {v : Int32} {I : FI} {L : FL} {R : FR} (h : FZ k I L R) (ho : o < k) : FZ k (up2 I o j v) L R := fun a ha i => ⟨by rw [up2_n _ _ (by omega)]; exact (h a ha i).1, (h a ha i).2⟩
theorem FZ.r {k o j : Nat} {v : Option Nat} {I : FI} {L : FL} {R : FR} (h : FZ k I L R) (ho : o < k) : FZ k I L (up2 R o j v) := fun a ha i => ⟨(h a ha i).1, (h a ha i).2.1, by rw [up2_n _ _ (by omega)]; exact (h a ha i).2.2⟩
section NEWT
variable {X : En} {d : Nat} {y : MD} {pc : Nat} {ls : List (Option Value)} {st : List Value} {I : FI} {L : FL} {R : FR} {K : Kt}
theorem tk_len {k : Nat} (hk : k < 82) : (S0.take k).length = k := by
  rw [List.length_take]
  have : S0.length = 82 := rfl
  omega
theorem tk_s {k : Nat} {q : Nat × Nat} (h : S0[k]? = some q) : S0.take k ++ [q] = S0.take (k + 1) := by
  rw [List.take_add_one, h]
  rfl
theorem s_b {b b' : Nat × Nat} {S : Sh} (h : b = b') (kk : SW X d y b' pc ls st S I L R K) : SW X d y b pc ls st S I L R K := h ▸ kk
theorem s_newT {c N ix b1 b2 k k2 : Nat} (h : decode (yb y) pc = .ok (.new ix, 3)) (f : NewP (yn y).cls ix c N) (hk : k < 82) (hq : S0[k]? = some (c, N)) (hz : FZ k I L R) (hk2 : k2 = k + 1) (kk : SW X d y (b1, b2) (pc + 3) ls (.ref k :: st) (S0.take k2) I L R K) : SW X d y (b1 + 1, b2 + N) pc ls st (S0.take k) I L R K := by
  have hl := tk_len hk
  refine s_new h f (fun j => by rw [hl]; exact (hz k (Nat.le_refl _) j).1) (fun j => by rw [hl]; exact (hz k (Nat.le_refl _) j).2.1) (fun j => by rw [hl]; exact (hz k (Nat.le_refl _) j).2.2) (by omega) ?_
  rw [hl, tk_s hq, ← hk2]
  exact kk
theorem s_newTI {N b1 b2 k k2 : Nat} {v : Int32} (h : decode (yb y) pc = .ok (.newarray .int, 2)) (hn : ¬ v < 0) (hN : v.toNatClampNeg = N) (hb : N * 4 ≤ 536870912) (hk : k < 82) (hq : S0[k]? = some (9, N)) (hz : FZ k I L R) (hk2 : k2 = k + 1) (kk : SW X d y (b1, b2) (pc + 2) ls (.ref k :: st) (S0.take k2) I L R K) : SW X d y (b1 + 1, b2 + N) pc ls (.int v :: st) (S0.take k) I L R K := by
  have hl := tk_len hk
  refine s_newI h n_I hn hN hb (fun j => by rw [hl]; exact (hz k (Nat.le_refl _) j).1) (by omega) ?_
  rw [hl, tk_s hq, ← hk2]
  exact kk
theorem s_newTZ {N b1 b2 k k2 : Nat} {v : Int32} (h : decode (yb y) pc = .ok (.newarray .boolean, 2)) (hn : ¬ v < 0) (hN : v.toNatClampNeg = N) (hb : N * 4 ≤ 536870912) (hk : k < 82) (hq : S0[k]? = some (10, N)) (hz : FZ k I L R) (hk2 : k2 = k + 1) (kk : SW X d y (b1, b2) (pc + 2) ls (.ref k :: st) (S0.take k2) I L R K) : SW X d y (b1 + 1, b2 + N) pc ls (.int v :: st) (S0.take k) I L R K := by
  have hl := tk_len hk
  refine s_newZ h n_Z hn hN hb (fun j => by rw [hl]; exact (hz k (Nat.le_refl _) j).1) (by omega) ?_
  rw [hl, tk_s hq, ← hk2]
  exact kk
theorem s_newTQ {N ix a b1 b2 k k2 : Nat} {v : Int32} (h : decode (yb y) pc = .ok (.anewarray ix, 3)) (ha : a < 3) (f : Cond.classLink (yn y).cls ix (arrN a) ∈ GW) (hn : ¬ v < 0) (hN : v.toNatClampNeg = N) (hb : N * 4 ≤ 536870912) (hk : k < 82) (hq : S0[k]? = some (11 + a, N)) (hz : FZ k I L R) (hk2 : k2 = k + 1) (kk : SW X d y (b1, b2) (pc + 3) ls (.ref k :: st) (S0.take k2) I L R K) : SW X d y (b1 + 1, b2 + N) pc ls (.int v :: st) (S0.take k) I L R K := by
  have hl := tk_len hk
  refine s_newQ h ha f hn hN hb (fun j => by rw [hl]; exact (hz k (Nat.le_refl _) j).2.2) (by omega) ?_
  rw [hl, tk_s hq, ← hk2]
  exact kk
end NEWT
set_option maxRecDepth 100000 in
set_option maxHeartbeats 1000000 in
theorem E_init5 {X : En} {I : FI} {L : FL} {R : FR} {S : Sh} {o : Nat} : Ev X 1 mX5_init (0, 0) [.ref o] S I L R (PureR none S I L R) := by
  refine ev_of (by decide +kernel) rfl ?_
  show SW X _ _ _ 0 [some (.ref o)] [] S I L R _
  refine s_aload_n (tb_ok aX5_init_0 0 rfl) rfl ?_
  refine s_objInit (tb_ok aX5_init_0 1 rfl) i_RX5_3 (by decide) (Nat.le_of_ble_eq_true rfl) ?_
  refine s_vret (tb_ok aX5_init_0 2 rfl) rfl ?_
  exact pureR

set_option maxRecDepth 100000 in
set_option maxHeartbeats 1000000 in
theorem E_init0_1 {X : En} {I : FI} {L : FL} {R : FR} (hz : FZ 2 I L R) : Ev X 1 mX0_init (3, 32) [.ref 1] (S0.take 2) I L R (PureR none (S0.take 5) (up2 I 1 3 0) L (up2 (up2 (up2 R 1 0 (some 2)) 1 1 (some 3)) 1 2 (some 4))) := by
  refine ev_of (by decide +kernel) rfl ?_
  show SW X _ _ _ 0 [some (.ref 1)] [] (S0.take 2) I L R _
  refine s_aload_n (tb_ok aX0_init_0 0 rfl) rfl ?_
  refine s_objInit (tb_ok aX0_init_0 1 rfl) i_RX0_3 (by decide) (Nat.le_of_ble_eq_true rfl) ?_
  refine s_aload_n (tb_ok aX0_init_0 2 rfl) rfl ?_
  refine s_bipush (v := 10) (tb_ok aX0_init_0 3 rfl) (by decide) ?_
  refine s_newTI (k := 2) (k2 := 3) (N := 10) (v := 10) (tb_ok aX0_init_0 4 rfl) (by decide) rfl (by decide) (by decide) rfl hz rfl ?_
  refine s_putFR (tb_ok aX0_init_0 5 rfl) f_RX0_9 rfl rfl rfl ?_
  refine s_aload_n (tb_ok aX0_init_0 6 rfl) rfl ?_
  refine s_bipush (v := 10) (tb_ok aX0_init_0 7 rfl) (by decide) ?_
  refine s_newTI (k := 3) (k2 := 4) (N := 10) (v := 10) (tb_ok aX0_init_0 8 rfl) (by decide) rfl (by decide) (by decide) rfl (FZ.r (k := 3) (o := 1) (FZ.mono (k := 2) (l := 3) hz (by decide)) (by decide)) rfl ?_
  refine s_putFR (tb_ok aX0_init_0 9 rfl) f_RX0_15 rfl rfl rfl ?_
  refine s_aload_n (tb_ok aX0_init_0 10 rfl) rfl ?_
  refine s_bipush (v := 12) (tb_ok aX0_init_0 11 rfl) (by decide) ?_
  refine s_newTI (k := 4) (k2 := 5) (N := 12) (v := 12) (tb_ok aX0_init_0 12 rfl) (by decide) rfl (by decide) (by decide) rfl (FZ.r (k := 4) (o := 1) (FZ.mono (k := 3) (l := 4) (FZ.r (k := 3) (o := 1) (FZ.mono (k := 2) (l := 3) hz (by decide)) (by decide)) (by decide)) (by decide)) rfl ?_
  refine s_putFR (tb_ok aX0_init_0 13 rfl) f_RX0_18 rfl rfl rfl ?_
  refine s_aload_n (tb_ok aX0_init_0 14 rfl) rfl ?_
  refine s_iconst (v := 0) (tb_ok aX0_init_0 15 rfl) (by decide) ?_
  refine s_putI (tb_ok aX0_init_0 16 rfl) f_RX0_21 rfl rfl ?_
  refine s_vret (tb_ok aX0_init_0 17 rfl) rfl ?_
  exact pureR

set_option maxRecDepth 100000 in
set_option maxHeartbeats 1000000 in
theorem E_init1_5 {X : En} {I : FI} {L : FL} {R : FR} (hz : FZ 6 I L R) : Ev X 2 mX1_init (6, 30) [.ref 5] (S0.take 6) I L R (PureR none (S0.take 12) (up2 (up2 (up2 I 5 1 0) 5 2 0) 5 3 0) L (up2 (up2 (up2 (up2 (up2 (up2 R 5 0 (some 6)) 6 0 (some 7)) 6 1 (some 8)) 6 2 (some 9)) 6 3 (some 10)) 6 4 (some 11))) := by
  refine ev_of (by decide +kernel) rfl ?_
  show SW X _ _ _ 0 [some (.ref 5), none] [] (S0.take 6) I L R _
  refine s_aload_n (tb_ok aX1_init_0 0 rfl) rfl ?_
  refine s_objInit (tb_ok aX1_init_0 1 rfl) i_RX1_3 (by decide) (Nat.le_of_ble_eq_true rfl) ?_
  refine s_aload_n (tb_ok aX1_init_0 2 rfl) rfl ?_
  refine s_iconst (v := 5) (tb_ok aX1_init_0 3 rfl) (by decide) ?_
  refine s_newTQ (k := 6) (k2 := 7) (N := 5) (v := 5) (a := 0) (tb_ok aX1_init_0 4 rfl) (by decide) q_RX1_9 (by decide) rfl (by decide) (by decide) rfl hz rfl ?_
  refine s_putFR (tb_ok aX1_init_0 5 rfl) f_RX1_11 rfl rfl rfl ?_
  refine s_aload_n (tb_ok aX1_init_0 6 rfl) rfl ?_
  refine s_iconst (v := 0) (tb_ok aX1_init_0 7 rfl) (by decide) ?_
  refine s_putI (tb_ok aX1_init_0 8 rfl) f_RX1_17 rfl rfl ?_
  refine s_aload_n (tb_ok aX1_init_0 9 rfl) rfl ?_
  refine s_iconst (v := 0) (tb_ok aX1_init_0 10 rfl) (by decide) ?_
  refine s_putI (tb_ok aX1_init_0 11 rfl) f_RX1_21 rfl rfl ?_
  refine s_aload_n (tb_ok aX1_init_0 12 rfl) rfl ?_
  refine s_iconst (v := 0) (tb_ok aX1_init_0 13 rfl) (by decide) ?_
  refine s_putI (tb_ok aX1_init_0 14 rfl) f_RX1_24 rfl rfl ?_
  refine s_iconst (v := 0) (tb_ok aX1_init_0 15 rfl) (by decide) ?_
  refine s_istore_n (ls' := [some (.ref 5), some (.int (0))]) (tb_ok aX1_init_0 16 rfl) rfl rfl ?_
  refine s_iload_n (tb_ok aX1_init_0 17 rfl) rfl ?_
  refine s_aload_n (tb_ok aX1_init_0 18 rfl) rfl ?_
  refine s_getR (r := 6) (tb_ok aX1_init_0 19 rfl) f_RX1_11 rfl rfl rfl ?_
  refine s_alen (v := 5) (a := 2) (n := 5) (tb_ok aX1_init_0 20 rfl) (by decide) rfl rfl ?_
  refine s_icmp_ge (tgt := 57) (tb_ok aX1_init_0 21 rfl) (by decide) (fun c35 => ?_) (fun c35 => ?_)
  · exact absurd c35 (by decide)
  · refine s_aload_n (tb_ok aX1_init_0 22 rfl) rfl ?_
    refine s_getR (r := 6) (tb_ok aX1_init_0 23 rfl) f_RX1_11 rfl rfl rfl ?_
    refine s_iload_n (tb_ok aX1_init_1 0 rfl) rfl ?_
    refine s_newT (k := 7) (k2 := 8) (c := 5) (N := 5) (tb_ok aX1_init_1 1 rfl) n_RX1_9 (by decide) rfl (FZ.i (k := 7) (o := 5) (FZ.i (k := 7) (o := 5) (FZ.i (k := 7) (o := 5) (FZ.r (k := 7) (o := 5) (FZ.mono (k := 6) (l := 7) hz (by decide)) (by decide)) (by decide)) (by decide)) (by decide)) rfl ?_
    refine s_dup (tb_ok aX1_init_1 2 rfl) rfl ?_
    refine s_callIN (as := []) (o := 7) (tb_ok aX1_init_1 3 rfl) v_RX1_27 E_init5 (by decide) rfl rfl (Nat.le_of_ble_eq_true rfl) (by decide) (fun r1 S1 I1 L1 R1 q1 => ?_)
    obtain ⟨rfl, rfl, rfl, rfl, rfl⟩ := q1
    refine s_b (b' := (4, 20)) rfl ?_
    refine s_aast (a := 0) (tb_ok aX1_init_1 4 rfl) (by decide) rfl rfl vp_lit ?_
    refine s_iinc (v := 1) (ls' := [some (.ref 5), some (.int (1))]) (tb_ok aX1_init_1 5 rfl) rfl (by decide) rfl rfl ?_
    refine s_goto (tgt := 29) (tb_ok aX1_init_1 6 rfl) (by decide) ?_
    refine s_iload_n (tb_ok aX1_init_0 17 rfl) rfl ?_
    refine s_aload_n (tb_ok aX1_init_0 18 rfl) rfl ?_
    refine s_getR (r := 6) (tb_ok aX1_init_0 19 rfl) f_RX1_11 rfl rfl rfl ?_
    refine s_alen (v := 5) (a := 2) (n := 5) (tb_ok aX1_init_0 20 rfl) (by decide) rfl rfl ?_
    refine s_icmp_ge (tgt := 57) (tb_ok aX1_init_0 21 rfl) (by decide) (fun c35 => ?_) (fun c35 => ?_)
    · exact absurd c35 (by decide)
    · refine s_aload_n (tb_ok aX1_init_0 22 rfl) rfl ?_
      refine s_getR (r := 6) (tb_ok aX1_init_0 23 rfl) f_RX1_11 rfl rfl rfl ?_
      refine s_iload_n (tb_ok aX1_init_1 0 rfl) rfl ?_
      refine s_newT (k := 8) (k2 := 9) (c := 5) (N := 5) (tb_ok aX1_init_1 1 rfl) n_RX1_9 (by decide) rfl (FZ.r (k := 8) (o := 6) (FZ.mono (k := 7) (l := 8) (FZ.i (k := 7) (o := 5) (FZ.i (k := 7) (o := 5) (FZ.i (k := 7) (o := 5) (FZ.r (k := 7) (o := 5) (FZ.mono (k := 6) (l := 7) hz (by decide)) (by decide)) (by decide)) (by decide)) (by decide)) (by decide)) (by decide)) rfl ?_
      refine s_dup (tb_ok aX1_init_1 2 rfl) rfl ?_
      refine s_callIN (as := []) (o := 8) (tb_ok aX1_init_1 3 rfl) v_RX1_27 E_init5 (by decide) rfl rfl (Nat.le_of_ble_eq_true rfl) (by decide) (fun r1 S1 I1 L1 R1 q1 => ?_)
      obtain ⟨rfl, rfl, rfl, rfl, rfl⟩ := q1
      refine s_b (b' := (3, 15)) rfl ?_
      refine s_aast (a := 0) (tb_ok aX1_init_1 4 rfl) (by decide) rfl rfl vp_lit ?_
      refine s_iinc (v := 2) (ls' := [some (.ref 5), some (.int (2))]) (tb_ok aX1_init_1 5 rfl) rfl (by decide) rfl rfl ?_
      refine s_goto (tgt := 29) (tb_ok aX1_init_1 6 rfl) (by decide) ?_
      refine s_iload_n (tb_ok aX1_init_0 17 rfl) rfl ?_
      refine s_aload_n (tb_ok aX1_init_0 18 rfl) rfl ?_
      refine s_getR (r := 6) (tb_ok aX1_init_0 19 rfl) f_RX1_11 rfl rfl rfl ?_
      refine s_alen (v := 5) (a := 2) (n := 5) (tb_ok aX1_init_0 20 rfl) (by decide) rfl rfl ?_
      refine s_icmp_ge (tgt := 57) (tb_ok aX1_init_0 21 rfl) (by decide) (fun c35 => ?_) (fun c35 => ?_)
      · exact absurd c35 (by decide)
      · refine s_aload_n (tb_ok aX1_init_0 22 rfl) rfl ?_
        refine s_getR (r := 6) (tb_ok aX1_init_0 23 rfl) f_RX1_11 rfl rfl rfl ?_
        refine s_iload_n (tb_ok aX1_init_1 0 rfl) rfl ?_
        refine s_newT (k := 9) (k2 := 10) (c := 5) (N := 5) (tb_ok aX1_init_1 1 rfl) n_RX1_9 (by decide) rfl (FZ.r (k := 9) (o := 6) (FZ.mono (k := 8) (l := 9) (FZ.r (k := 8) (o := 6) (FZ.mono (k := 7) (l := 8) (FZ.i (k := 7) (o := 5) (FZ.i (k := 7) (o := 5) (FZ.i (k := 7) (o := 5) (FZ.r (k := 7) (o := 5) (FZ.mono (k := 6) (l := 7) hz (by decide)) (by decide)) (by decide)) (by decide)) (by decide)) (by decide)) (by decide)) (by decide)) (by decide)) rfl ?_
        refine s_dup (tb_ok aX1_init_1 2 rfl) rfl ?_
        refine s_callIN (as := []) (o := 9) (tb_ok aX1_init_1 3 rfl) v_RX1_27 E_init5 (by decide) rfl rfl (Nat.le_of_ble_eq_true rfl) (by decide) (fun r1 S1 I1 L1 R1 q1 => ?_)
        obtain ⟨rfl, rfl, rfl, rfl, rfl⟩ := q1
        refine s_b (b' := (2, 10)) rfl ?_
        refine s_aast (a := 0) (tb_ok aX1_init_1 4 rfl) (by decide) rfl rfl vp_lit ?_
        refine s_iinc (v := 3) (ls' := [some (.ref 5), some (.int (3))]) (tb_ok aX1_init_1 5 rfl) rfl (by decide) rfl rfl ?_
        refine s_goto (tgt := 29) (tb_ok aX1_init_1 6 rfl) (by decide) ?_
        refine s_iload_n (tb_ok aX1_init_0 17 rfl) rfl ?_
        refine s_aload_n (tb_ok aX1_init_0 18 rfl) rfl ?_
        refine s_getR (r := 6) (tb_ok aX1_init_0 19 rfl) f_RX1_11 rfl rfl rfl ?_
        refine s_alen (v := 5) (a := 2) (n := 5) (tb_ok aX1_init_0 20 rfl) (by decide) rfl rfl ?_
        refine s_icmp_ge (tgt := 57) (tb_ok aX1_init_0 21 rfl) (by decide) (fun c35 => ?_) (fun c35 => ?_)
        · exact absurd c35 (by decide)
        · refine s_aload_n (tb_ok aX1_init_0 22 rfl) rfl ?_
          refine s_getR (r := 6) (tb_ok aX1_init_0 23 rfl) f_RX1_11 rfl rfl rfl ?_
          refine s_iload_n (tb_ok aX1_init_1 0 rfl) rfl ?_
          refine s_newT (k := 10) (k2 := 11) (c := 5) (N := 5) (tb_ok aX1_init_1 1 rfl) n_RX1_9 (by decide) rfl (FZ.r (k := 10) (o := 6) (FZ.mono (k := 9) (l := 10) (FZ.r (k := 9) (o := 6) (FZ.mono (k := 8) (l := 9) (FZ.r (k := 8) (o := 6) (FZ.mono (k := 7) (l := 8) (FZ.i (k := 7) (o := 5) (FZ.i (k := 7) (o := 5) (FZ.i (k := 7) (o := 5) (FZ.r (k := 7) (o := 5) (FZ.mono (k := 6) (l := 7) hz (by decide)) (by decide)) (by decide)) (by decide)) (by decide)) (by decide)) (by decide)) (by decide)) (by decide)) (by decide)) (by decide)) rfl ?_
          refine s_dup (tb_ok aX1_init_1 2 rfl) rfl ?_
          refine s_callIN (as := []) (o := 10) (tb_ok aX1_init_1 3 rfl) v_RX1_27 E_init5 (by decide) rfl rfl (Nat.le_of_ble_eq_true rfl) (by decide) (fun r1 S1 I1 L1 R1 q1 => ?_)
          obtain ⟨rfl, rfl, rfl, rfl, rfl⟩ := q1
          refine s_b (b' := (1, 5)) rfl ?_
          refine s_aast (a := 0) (tb_ok aX1_init_1 4 rfl) (by decide) rfl rfl vp_lit ?_
          refine s_iinc (v := 4) (ls' := [some (.ref 5), some (.int (4))]) (tb_ok aX1_init_1 5 rfl) rfl (by decide) rfl rfl ?_
          refine s_goto (tgt := 29) (tb_ok aX1_init_1 6 rfl) (by decide) ?_
          refine s_iload_n (tb_ok aX1_init_0 17 rfl) rfl ?_
          refine s_aload_n (tb_ok aX1_init_0 18 rfl) rfl ?_
          refine s_getR (r := 6) (tb_ok aX1_init_0 19 rfl) f_RX1_11 rfl rfl rfl ?_
          refine s_alen (v := 5) (a := 2) (n := 5) (tb_ok aX1_init_0 20 rfl) (by decide) rfl rfl ?_
          refine s_icmp_ge (tgt := 57) (tb_ok aX1_init_0 21 rfl) (by decide) (fun c35 => ?_) (fun c35 => ?_)
          · exact absurd c35 (by decide)
          · refine s_aload_n (tb_ok aX1_init_0 22 rfl) rfl ?_
            refine s_getR (r := 6) (tb_ok aX1_init_0 23 rfl) f_RX1_11 rfl rfl rfl ?_
            refine s_iload_n (tb_ok aX1_init_1 0 rfl) rfl ?_
            refine s_newT (k := 11) (k2 := 12) (c := 5) (N := 5) (tb_ok aX1_init_1 1 rfl) n_RX1_9 (by decide) rfl (FZ.r (k := 11) (o := 6) (FZ.mono (k := 10) (l := 11) (FZ.r (k := 10) (o := 6) (FZ.mono (k := 9) (l := 10) (FZ.r (k := 9) (o := 6) (FZ.mono (k := 8) (l := 9) (FZ.r (k := 8) (o := 6) (FZ.mono (k := 7) (l := 8) (FZ.i (k := 7) (o := 5) (FZ.i (k := 7) (o := 5) (FZ.i (k := 7) (o := 5) (FZ.r (k := 7) (o := 5) (FZ.mono (k := 6) (l := 7) hz (by decide)) (by decide)) (by decide)) (by decide)) (by decide)) (by decide)) (by decide)) (by decide)) (by decide)) (by decide)) (by decide)) (by decide)) (by decide)) rfl ?_
            refine s_dup (tb_ok aX1_init_1 2 rfl) rfl ?_
            refine s_callIN (as := []) (o := 11) (tb_ok aX1_init_1 3 rfl) v_RX1_27 E_init5 (by decide) rfl rfl (Nat.le_of_ble_eq_true rfl) (by decide) (fun r1 S1 I1 L1 R1 q1 => ?_)
            obtain ⟨rfl, rfl, rfl, rfl, rfl⟩ := q1
            refine s_b (b' := (0, 0)) rfl ?_
            refine s_aast (a := 0) (tb_ok aX1_init_1 4 rfl) (by decide) rfl rfl vp_lit ?_
            refine s_iinc (v := 5) (ls' := [some (.ref 5), some (.int (5))]) (tb_ok aX1_init_1 5 rfl) rfl (by decide) rfl rfl ?_
            refine s_goto (tgt := 29) (tb_ok aX1_init_1 6 rfl) (by decide) ?_
            refine s_iload_n (tb_ok aX1_init_0 17 rfl) rfl ?_
            refine s_aload_n (tb_ok aX1_init_0 18 rfl) rfl ?_
            refine s_getR (r := 6) (tb_ok aX1_init_0 19 rfl) f_RX1_11 rfl rfl rfl ?_
            refine s_alen (v := 5) (a := 2) (n := 5) (tb_ok aX1_init_0 20 rfl) (by decide) rfl rfl ?_
            refine s_icmp_ge (tgt := 57) (tb_ok aX1_init_0 21 rfl) (by decide) (fun c35 => ?_) (fun c35 => ?_)
            · refine s_vret (tb_ok aX1_init_1 7 rfl) rfl ?_
              exact pureR
            · exact absurd c35 (by decide)

set_option maxRecDepth 100000 in
set_option maxHeartbeats 1000000 in
theorem E_init1_12 {X : En} {I : FI} {L : FL} {R : FR} (hz : FZ 13 I L R) : Ev X 2 mX1_init (6, 30) [.ref 12] (S0.take 13) I L R (PureR none (S0.take 19) (up2 (up2 (up2 I 12 1 0) 12 2 0) 12 3 0) L (up2 (up2 (up2 (up2 (up2 (up2 R 12 0 (some 13)) 13 0 (some 14)) 13 1 (some 15)) 13 2 (some 16)) 13 3 (some 17)) 13 4 (some 18))) := by
  refine ev_of (by decide +kernel) rfl ?_
  show SW X _ _ _ 0 [some (.ref 12), none] [] (S0.take 13) I L R _
  refine s_aload_n (tb_ok aX1_init_0 0 rfl) rfl ?_
  refine s_objInit (tb_ok aX1_init_0 1 rfl) i_RX1_3 (by decide) (Nat.le_of_ble_eq_true rfl) ?_
  refine s_aload_n (tb_ok aX1_init_0 2 rfl) rfl ?_
  refine s_iconst (v := 5) (tb_ok aX1_init_0 3 rfl) (by decide) ?_
  refine s_newTQ (k := 13) (k2 := 14) (N := 5) (v := 5) (a := 0) (tb_ok aX1_init_0 4 rfl) (by decide) q_RX1_9 (by decide) rfl (by decide) (by decide) rfl hz rfl ?_
  refine s_putFR (tb_ok aX1_init_0 5 rfl) f_RX1_11 rfl rfl rfl ?_
  refine s_aload_n (tb_ok aX1_init_0 6 rfl) rfl ?_
  refine s_iconst (v := 0) (tb_ok aX1_init_0 7 rfl) (by decide) ?_
  refine s_putI (tb_ok aX1_init_0 8 rfl) f_RX1_17 rfl rfl ?_
  refine s_aload_n (tb_ok aX1_init_0 9 rfl) rfl ?_
  refine s_iconst (v := 0) (tb_ok aX1_init_0 10 rfl) (by decide) ?_
  refine s_putI (tb_ok aX1_init_0 11 rfl) f_RX1_21 rfl rfl ?_
  refine s_aload_n (tb_ok aX1_init_0 12 rfl) rfl ?_
  refine s_iconst (v := 0) (tb_ok aX1_init_0 13 rfl) (by decide) ?_
  refine s_putI (tb_ok aX1_init_0 14 rfl) f_RX1_24 rfl rfl ?_
  refine s_iconst (v := 0) (tb_ok aX1_init_0 15 rfl) (by decide) ?_
  refine s_istore_n (ls' := [some (.ref 12), some (.int (0))]) (tb_ok aX1_init_0 16 rfl) rfl rfl ?_
  refine s_iload_n (tb_ok aX1_init_0 17 rfl) rfl ?_
  refine s_aload_n (tb_ok aX1_init_0 18 rfl) rfl ?_
  refine s_getR (r := 13) (tb_ok aX1_init_0 19 rfl) f_RX1_11 rfl rfl rfl ?_
  refine s_alen (v := 5) (a := 2) (n := 5) (tb_ok aX1_init_0 20 rfl) (by decide) rfl rfl ?_
  refine s_icmp_ge (tgt := 57) (tb_ok aX1_init_0 21 rfl) (by decide) (fun c35 => ?_) (fun c35 => ?_)
  · exact absurd c35 (by decide)
  · refine s_aload_n (tb_ok aX1_init_0 22 rfl) rfl ?_
    refine s_getR (r := 13) (tb_ok aX1_init_0 23 rfl) f_RX1_11 rfl rfl rfl ?_
    refine s_iload_n (tb_ok aX1_init_1 0 rfl) rfl ?_
    refine s_newT (k := 14) (k2 := 15) (c := 5) (N := 5) (tb_ok aX1_init_1 1 rfl) n_RX1_9 (by decide) rfl (FZ.i (k := 14) (o := 12) (FZ.i (k := 14) (o := 12) (FZ.i (k := 14) (o := 12) (FZ.r (k := 14) (o := 12) (FZ.mono (k := 13) (l := 14) hz (by decide)) (by decide)) (by decide)) (by decide)) (by decide)) rfl ?_
    refine s_dup (tb_ok aX1_init_1 2 rfl) rfl ?_
    refine s_callIN (as := []) (o := 14) (tb_ok aX1_init_1 3 rfl) v_RX1_27 E_init5 (by decide) rfl rfl (Nat.le_of_ble_eq_true rfl) (by decide) (fun r1 S1 I1 L1 R1 q1 => ?_)
    obtain ⟨rfl, rfl, rfl, rfl, rfl⟩ := q1
    refine s_b (b' := (4, 20)) rfl ?_
    refine s_aast (a := 0) (tb_ok aX1_init_1 4 rfl) (by decide) rfl rfl vp_lit ?_
    refine s_iinc (v := 1) (ls' := [some (.ref 12), some (.int (1))]) (tb_ok aX1_init_1 5 rfl) rfl (by decide) rfl rfl ?_
    refine s_goto (tgt := 29) (tb_ok aX1_init_1 6 rfl) (by decide) ?_
    refine s_iload_n (tb_ok aX1_init_0 17 rfl) rfl ?_
    refine s_aload_n (tb_ok aX1_init_0 18 rfl) rfl ?_
    refine s_getR (r := 13) (tb_ok aX1_init_0 19 rfl) f_RX1_11 rfl rfl rfl ?_
    refine s_alen (v := 5) (a := 2) (n := 5) (tb_ok aX1_init_0 20 rfl) (by decide) rfl rfl ?_
    refine s_icmp_ge (tgt := 57) (tb_ok aX1_init_0 21 rfl) (by decide) (fun c35 => ?_) (fun c35 => ?_)
    · exact absurd c35 (by decide)
    · refine s_aload_n (tb_ok aX1_init_0 22 rfl) rfl ?_
      refine s_getR (r := 13) (tb_ok aX1_init_0 23 rfl) f_RX1_11 rfl rfl rfl ?_
      refine s_iload_n (tb_ok aX1_init_1 0 rfl) rfl ?_
      refine s_newT (k := 15) (k2 := 16) (c := 5) (N := 5) (tb_ok aX1_init_1 1 rfl) n_RX1_9 (by decide) rfl (FZ.r (k := 15) (o := 13) (FZ.mono (k := 14) (l := 15) (FZ.i (k := 14) (o := 12) (FZ.i (k := 14) (o := 12) (FZ.i (k := 14) (o := 12) (FZ.r (k := 14) (o := 12) (FZ.mono (k := 13) (l := 14) hz (by decide)) (by decide)) (by decide)) (by decide)) (by decide)) (by decide)) (by decide)) rfl ?_
      refine s_dup (tb_ok aX1_init_1 2 rfl) rfl ?_
      refine s_callIN (as := []) (o := 15) (tb_ok aX1_init_1 3 rfl) v_RX1_27 E_init5 (by decide) rfl rfl (Nat.le_of_ble_eq_true rfl) (by decide) (fun r1 S1 I1 L1 R1 q1 => ?_)
      obtain ⟨rfl, rfl, rfl, rfl, rfl⟩ := q1
      refine s_b (b' := (3, 15)) rfl ?_
      refine s_aast (a := 0) (tb_ok aX1_init_1 4 rfl) (by decide) rfl rfl vp_lit ?_
      refine s_iinc (v := 2) (ls' := [some (.ref 12), some (.int (2))]) (tb_ok aX1_init_1 5 rfl) rfl (by decide) rfl rfl ?_
      refine s_goto (tgt := 29) (tb_ok aX1_init_1 6 rfl) (by decide) ?_
      refine s_iload_n (tb_ok aX1_init_0 17 rfl) rfl ?_
      refine s_aload_n (tb_ok aX1_init_0 18 rfl) rfl ?_
      refine s_getR (r := 13) (tb_ok aX1_init_0 19 rfl) f_RX1_11 rfl rfl rfl ?_
      refine s_alen (v := 5) (a := 2) (n := 5) (tb_ok aX1_init_0 20 rfl) (by decide) rfl rfl ?_
      refine s_icmp_ge (tgt := 57) (tb_ok aX1_init_0 21 rfl) (by decide) (fun c35 => ?_) (fun c35 => ?_)
      · exact absurd c35 (by decide)
      · refine s_aload_n (tb_ok aX1_init_0 22 rfl) rfl ?_
        refine s_getR (r := 13) (tb_ok aX1_init_0 23 rfl) f_RX1_11 rfl rfl rfl ?_
        refine s_iload_n (tb_ok aX1_init_1 0 rfl) rfl ?_
        refine s_newT (k := 16) (k2 := 17) (c := 5) (N := 5) (tb_ok aX1_init_1 1 rfl) n_RX1_9 (by decide) rfl (FZ.r (k := 16) (o := 13) (FZ.mono (k := 15) (l := 16) (FZ.r (k := 15) (o := 13) (FZ.mono (k := 14) (l := 15) (FZ.i (k := 14) (o := 12) (FZ.i (k := 14) (o := 12) (FZ.i (k := 14) (o := 12) (FZ.r (k := 14) (o := 12) (FZ.mono (k := 13) (l := 14) hz (by decide)) (by decide)) (by decide)) (by decide)) (by decide)) (by decide)) (by decide)) (by decide)) (by decide)) rfl ?_
        refine s_dup (tb_ok aX1_init_1 2 rfl) rfl ?_
        refine s_callIN (as := []) (o := 16) (tb_ok aX1_init_1 3 rfl) v_RX1_27 E_init5 (by decide) rfl rfl (Nat.le_of_ble_eq_true rfl) (by decide) (fun r1 S1 I1 L1 R1 q1 => ?_)
        obtain ⟨rfl, rfl, rfl, rfl, rfl⟩ := q1
        refine s_b (b' := (2, 10)) rfl ?_
        refine s_aast (a := 0) (tb_ok aX1_init_1 4 rfl) (by decide) rfl rfl vp_lit ?_
        refine s_iinc (v := 3) (ls' := [some (.ref 12), some (.int (3))]) (tb_ok aX1_init_1 5 rfl) rfl (by decide) rfl rfl ?_
        refine s_goto (tgt := 29) (tb_ok aX1_init_1 6 rfl) (by decide) ?_
        refine s_iload_n (tb_ok aX1_init_0 17 rfl) rfl ?_
        refine s_aload_n (tb_ok aX1_init_0 18 rfl) rfl ?_
        refine s_getR (r := 13) (tb_ok aX1_init_0 19 rfl) f_RX1_11 rfl rfl rfl ?_
        refine s_alen (v := 5) (a := 2) (n := 5) (tb_ok aX1_init_0 20 rfl) (by decide) rfl rfl ?_
        refine s_icmp_ge (tgt := 57) (tb_ok aX1_init_0 21 rfl) (by decide) (fun c35 => ?_) (fun c35 => ?_)
        · exact absurd c35 (by decide)
        · refine s_aload_n (tb_ok aX1_init_0 22 rfl) rfl ?_
          refine s_getR (r := 13) (tb_ok aX1_init_0 23 rfl) f_RX1_11 rfl rfl rfl ?_
          refine s_iload_n (tb_ok aX1_init_1 0 rfl) rfl ?_
          refine s_newT (k := 17) (k2 := 18) (c := 5) (N := 5) (tb_ok aX1_init_1 1 rfl) n_RX1_9 (by decide) rfl (FZ.r (k := 17) (o := 13) (FZ.mono (k := 16) (l := 17) (FZ.r (k := 16) (o := 13) (FZ.mono (k := 15) (l := 16) (FZ.r (k := 15) (o := 13) (FZ.mono (k := 14) (l := 15) (FZ.i (k := 14) (o := 12) (FZ.i (k := 14) (o := 12) (FZ.i (k := 14) (o := 12) (FZ.r (k := 14) (o := 12) (FZ.mono (k := 13) (l := 14) hz (by decide)) (by decide)) (by decide)) (by decide)) (by decide)) (by decide)) (by decide)) (by decide)) (by decide)) (by decide)) (by decide)) rfl ?_
          refine s_dup (tb_ok aX1_init_1 2 rfl) rfl ?_
          refine s_callIN (as := []) (o := 17) (tb_ok aX1_init_1 3 rfl) v_RX1_27 E_init5 (by decide) rfl rfl (Nat.le_of_ble_eq_true rfl) (by decide) (fun r1 S1 I1 L1 R1 q1 => ?_)
          obtain ⟨rfl, rfl, rfl, rfl, rfl⟩ := q1
          refine s_b (b' := (1, 5)) rfl ?_
          refine s_aast (a := 0) (tb_ok aX1_init_1 4 rfl) (by decide) rfl rfl vp_lit ?_
          refine s_iinc (v := 4) (ls' := [some (.ref 12), some (.int (4))]) (tb_ok aX1_init_1 5 rfl) rfl (by decide) rfl rfl ?_
          refine s_goto (tgt := 29) (tb_ok aX1_init_1 6 rfl) (by decide) ?_
          refine s_iload_n (tb_ok aX1_init_0 17 rfl) rfl ?_
          refine s_aload_n (tb_ok aX1_init_0 18 rfl) rfl ?_
          refine s_getR (r := 13) (tb_ok aX1_init_0 19 rfl) f_RX1_11 rfl rfl rfl ?_
          refine s_alen (v := 5) (a := 2) (n := 5) (tb_ok aX1_init_0 20 rfl) (by decide) rfl rfl ?_
          refine s_icmp_ge (tgt := 57) (tb_ok aX1_init_0 21 rfl) (by decide) (fun c35 => ?_) (fun c35 => ?_)
          · exact absurd c35 (by decide)
          · refine s_aload_n (tb_ok aX1_init_0 22 rfl) rfl ?_
            refine s_getR (r := 13) (tb_ok aX1_init_0 23 rfl) f_RX1_11 rfl rfl rfl ?_
            refine s_iload_n (tb_ok aX1_init_1 0 rfl) rfl ?_
            refine s_newT (k := 18) (k2 := 19) (c := 5) (N := 5) (tb_ok aX1_init_1 1 rfl) n_RX1_9 (by decide) rfl (FZ.r (k := 18) (o := 13) (FZ.mono (k := 17) (l := 18) (FZ.r (k := 17) (o := 13) (FZ.mono (k := 16) (l := 17) (FZ.r (k := 16) (o := 13) (FZ.mono (k := 15) (l := 16) (FZ.r (k := 15) (o := 13) (FZ.mono (k := 14) (l := 15) (FZ.i (k := 14) (o := 12) (FZ.i (k := 14) (o := 12) (FZ.i (k := 14) (o := 12) (FZ.r (k := 14) (o := 12) (FZ.mono (k := 13) (l := 14) hz (by decide)) (by decide)) (by decide)) (by decide)) (by decide)) (by decide)) (by decide)) (by decide)) (by decide)) (by decide)) (by decide)) (by decide)) (by decide)) rfl ?_
            refine s_dup (tb_ok aX1_init_1 2 rfl) rfl ?_
            refine s_callIN (as := []) (o := 18) (tb_ok aX1_init_1 3 rfl) v_RX1_27 E_init5 (by decide) rfl rfl (Nat.le_of_ble_eq_true rfl) (by decide) (fun r1 S1 I1 L1 R1 q1 => ?_)
            obtain ⟨rfl, rfl, rfl, rfl, rfl⟩ := q1
            refine s_b (b' := (0, 0)) rfl ?_
            refine s_aast (a := 0) (tb_ok aX1_init_1 4 rfl) (by decide) rfl rfl vp_lit ?_
            refine s_iinc (v := 5) (ls' := [some (.ref 12), some (.int (5))]) (tb_ok aX1_init_1 5 rfl) rfl (by decide) rfl rfl ?_
            refine s_goto (tgt := 29) (tb_ok aX1_init_1 6 rfl) (by decide) ?_
            refine s_iload_n (tb_ok aX1_init_0 17 rfl) rfl ?_
            refine s_aload_n (tb_ok aX1_init_0 18 rfl) rfl ?_
            refine s_getR (r := 13) (tb_ok aX1_init_0 19 rfl) f_RX1_11 rfl rfl rfl ?_
            refine s_alen (v := 5) (a := 2) (n := 5) (tb_ok aX1_init_0 20 rfl) (by decide) rfl rfl ?_
            refine s_icmp_ge (tgt := 57) (tb_ok aX1_init_0 21 rfl) (by decide) (fun c35 => ?_) (fun c35 => ?_)
            · refine s_vret (tb_ok aX1_init_1 7 rfl) rfl ?_
              exact pureR
            · exact absurd c35 (by decide)

set_option maxRecDepth 100000 in
set_option maxHeartbeats 1000000 in
theorem E_init1_19 {X : En} {I : FI} {L : FL} {R : FR} (hz : FZ 20 I L R) : Ev X 2 mX1_init (6, 30) [.ref 19] (S0.take 20) I L R (PureR none (S0.take 26) (up2 (up2 (up2 I 19 1 0) 19 2 0) 19 3 0) L (up2 (up2 (up2 (up2 (up2 (up2 R 19 0 (some 20)) 20 0 (some 21)) 20 1 (some 22)) 20 2 (some 23)) 20 3 (some 24)) 20 4 (some 25))) := by
  refine ev_of (by decide +kernel) rfl ?_
  show SW X _ _ _ 0 [some (.ref 19), none] [] (S0.take 20) I L R _
  refine s_aload_n (tb_ok aX1_init_0 0 rfl) rfl ?_
  refine s_objInit (tb_ok aX1_init_0 1 rfl) i_RX1_3 (by decide) (Nat.le_of_ble_eq_true rfl) ?_
  refine s_aload_n (tb_ok aX1_init_0 2 rfl) rfl ?_
  refine s_iconst (v := 5) (tb_ok aX1_init_0 3 rfl) (by decide) ?_
  refine s_newTQ (k := 20) (k2 := 21) (N := 5) (v := 5) (a := 0) (tb_ok aX1_init_0 4 rfl) (by decide) q_RX1_9 (by decide) rfl (by decide) (by decide) rfl hz rfl ?_
  refine s_putFR (tb_ok aX1_init_0 5 rfl) f_RX1_11 rfl rfl rfl ?_
  refine s_aload_n (tb_ok aX1_init_0 6 rfl) rfl ?_
  refine s_iconst (v := 0) (tb_ok aX1_init_0 7 rfl) (by decide) ?_
  refine s_putI (tb_ok aX1_init_0 8 rfl) f_RX1_17 rfl rfl ?_
  refine s_aload_n (tb_ok aX1_init_0 9 rfl) rfl ?_
  refine s_iconst (v := 0) (tb_ok aX1_init_0 10 rfl) (by decide) ?_
  refine s_putI (tb_ok aX1_init_0 11 rfl) f_RX1_21 rfl rfl ?_
  refine s_aload_n (tb_ok aX1_init_0 12 rfl) rfl ?_
  refine s_iconst (v := 0) (tb_ok aX1_init_0 13 rfl) (by decide) ?_
  refine s_putI (tb_ok aX1_init_0 14 rfl) f_RX1_24 rfl rfl ?_
  refine s_iconst (v := 0) (tb_ok aX1_init_0 15 rfl) (by decide) ?_
  refine s_istore_n (ls' := [some (.ref 19), some (.int (0))]) (tb_ok aX1_init_0 16 rfl) rfl rfl ?_
  refine s_iload_n (tb_ok aX1_init_0 17 rfl) rfl ?_
  refine s_aload_n (tb_ok aX1_init_0 18 rfl) rfl ?_
  refine s_getR (r := 20) (tb_ok aX1_init_0 19 rfl) f_RX1_11 rfl rfl rfl ?_
  refine s_alen (v := 5) (a := 2) (n := 5) (tb_ok aX1_init_0 20 rfl) (by decide) rfl rfl ?_
  refine s_icmp_ge (tgt := 57) (tb_ok aX1_init_0 21 rfl) (by decide) (fun c35 => ?_) (fun c35 => ?_)
  · exact absurd c35 (by decide)
  · refine s_aload_n (tb_ok aX1_init_0 22 rfl) rfl ?_
    refine s_getR (r := 20) (tb_ok aX1_init_0 23 rfl) f_RX1_11 rfl rfl rfl ?_
    refine s_iload_n (tb_ok aX1_init_1 0 rfl) rfl ?_
    refine s_newT (k := 21) (k2 := 22) (c := 5) (N := 5) (tb_ok aX1_init_1 1 rfl) n_RX1_9 (by decide) rfl (FZ.i (k := 21) (o := 19) (FZ.i (k := 21) (o := 19) (FZ.i (k := 21) (o := 19) (FZ.r (k := 21) (o := 19) (FZ.mono (k := 20) (l := 21) hz (by decide)) (by decide)) (by decide)) (by decide)) (by decide)) rfl ?_
    refine s_dup (tb_ok aX1_init_1 2 rfl) rfl ?_
    refine s_callIN (as := []) (o := 21) (tb_ok aX1_init_1 3 rfl) v_RX1_27 E_init5 (by decide) rfl rfl (Nat.le_of_ble_eq_true rfl) (by decide) (fun r1 S1 I1 L1 R1 q1 => ?_)
    obtain ⟨rfl, rfl, rfl, rfl, rfl⟩ := q1
    refine s_b (b' := (4, 20)) rfl ?_
    refine s_aast (a := 0) (tb_ok aX1_init_1 4 rfl) (by decide) rfl rfl vp_lit ?_
    refine s_iinc (v := 1) (ls' := [some (.ref 19), some (.int (1))]) (tb_ok aX1_init_1 5 rfl) rfl (by decide) rfl rfl ?_
    refine s_goto (tgt := 29) (tb_ok aX1_init_1 6 rfl) (by decide) ?_
    refine s_iload_n (tb_ok aX1_init_0 17 rfl) rfl ?_
    refine s_aload_n (tb_ok aX1_init_0 18 rfl) rfl ?_
    refine s_getR (r := 20) (tb_ok aX1_init_0 19 rfl) f_RX1_11 rfl rfl rfl ?_
    refine s_alen (v := 5) (a := 2) (n := 5) (tb_ok aX1_init_0 20 rfl) (by decide) rfl rfl ?_
    refine s_icmp_ge (tgt := 57) (tb_ok aX1_init_0 21 rfl) (by decide) (fun c35 => ?_) (fun c35 => ?_)
    · exact absurd c35 (by decide)
    · refine s_aload_n (tb_ok aX1_init_0 22 rfl) rfl ?_
      refine s_getR (r := 20) (tb_ok aX1_init_0 23 rfl) f_RX1_11 rfl rfl rfl ?_
      refine s_iload_n (tb_ok aX1_init_1 0 rfl) rfl ?_
      refine s_newT (k := 22) (k2 := 23) (c := 5) (N := 5) (tb_ok aX1_init_1 1 rfl) n_RX1_9 (by decide) rfl (FZ.r (k := 22) (o := 20) (FZ.mono (k := 21) (l := 22) (FZ.i (k := 21) (o := 19) (FZ.i (k := 21) (o := 19) (FZ.i (k := 21) (o := 19) (FZ.r (k := 21) (o := 19) (FZ.mono (k := 20) (l := 21) hz (by decide)) (by decide)) (by decide)) (by decide)) (by decide)) (by decide)) (by decide)) rfl ?_
      refine s_dup (tb_ok aX1_init_1 2 rfl) rfl ?_
      refine s_callIN (as := []) (o := 22) (tb_ok aX1_init_1 3 rfl) v_RX1_27 E_init5 (by decide) rfl rfl (Nat.le_of_ble_eq_true rfl) (by decide) (fun r1 S1 I1 L1 R1 q1 => ?_)
      obtain ⟨rfl, rfl, rfl, rfl, rfl⟩ := q1
      refine s_b (b' := (3, 15)) rfl ?_
      refine s_aast (a := 0) (tb_ok aX1_init_1 4 rfl) (by decide) rfl rfl vp_lit ?_
      refine s_iinc (v := 2) (ls' := [some (.ref 19), some (.int (2))]) (tb_ok aX1_init_1 5 rfl) rfl (by decide) rfl rfl ?_
      refine s_goto (tgt := 29) (tb_ok aX1_init_1 6 rfl) (by decide) ?_
      refine s_iload_n (tb_ok aX1_init_0 17 rfl) rfl ?_
      refine s_aload_n (tb_ok aX1_init_0 18 rfl) rfl ?_
      refine s_getR (r := 20) (tb_ok aX1_init_0 19 rfl) f_RX1_11 rfl rfl rfl ?_
      refine s_alen (v := 5) (a := 2) (n := 5) (tb_ok aX1_init_0 20 rfl) (by decide) rfl rfl ?_
      refine s_icmp_ge (tgt := 57) (tb_ok aX1_init_0 21 rfl) (by decide) (fun c35 => ?_) (fun c35 => ?_)
      · exact absurd c35 (by decide)
      · refine s_aload_n (tb_ok aX1_init_0 22 rfl) rfl ?_
        refine s_getR (r := 20) (tb_ok aX1_init_0 23 rfl) f_RX1_11 rfl rfl rfl ?_
        refine s_iload_n (tb_ok aX1_init_1 0 rfl) rfl ?_
        refine s_newT (k := 23) (k2 := 24) (c := 5) (N := 5) (tb_ok aX1_init_1 1 rfl) n_RX1_9 (by decide) rfl (FZ.r (k := 23) (o := 20) (FZ.mono (k := 22) (l := 23) (FZ.r (k := 22) (o := 20) (FZ.mono (k := 21) (l := 22) (FZ.i (k := 21) (o := 19) (FZ.i (k := 21) (o := 19) (FZ.i (k := 21) (o := 19) (FZ.r (k := 21) (o := 19) (FZ.mono (k := 20) (l := 21) hz (by decide)) (by decide)) (by decide)) (by decide)) (by decide)) (by decide)) (by decide)) (by decide)) (by decide)) rfl ?_
        refine s_dup (tb_ok aX1_init_1 2 rfl) rfl ?_
        refine s_callIN (as := []) (o := 23) (tb_ok aX1_init_1 3 rfl) v_RX1_27 E_init5 (by decide) rfl rfl (Nat.le_of_ble_eq_true rfl) (by decide) (fun r1 S1 I1 L1 R1 q1 => ?_)
        obtain ⟨rfl, rfl, rfl, rfl, rfl⟩ := q1
        refine s_b (b' := (2, 10)) rfl ?_
        refine s_aast (a := 0) (tb_ok aX1_init_1 4 rfl) (by decide) rfl rfl vp_lit ?_
        refine s_iinc (v := 3) (ls' := [some (.ref 19), some (.int (3))]) (tb_ok aX1_init_1 5 rfl) rfl (by decide) rfl rfl ?_
        refine s_goto (tgt := 29) (tb_ok aX1_init_1 6 rfl) (by decide) ?_
        refine s_iload_n (tb_ok aX1_init_0 17 rfl) rfl ?_
        refine s_aload_n (tb_ok aX1_init_0 18 rfl) rfl ?_
        refine s_getR (r := 20) (tb_ok aX1_init_0 19 rfl) f_RX1_11 rfl rfl rfl ?_
        refine s_alen (v := 5) (a := 2) (n := 5) (tb_ok aX1_init_0 20 rfl) (by decide) rfl rfl ?_
        refine s_icmp_ge (tgt := 57) (tb_ok aX1_init_0 21 rfl) (by decide) (fun c35 => ?_) (fun c35 => ?_)
        · exact absurd c35 (by decide)
        · refine s_aload_n (tb_ok aX1_init_0 22 rfl) rfl ?_
          refine s_getR (r := 20) (tb_ok aX1_init_0 23 rfl) f_RX1_11 rfl rfl rfl ?_
          refine s_iload_n (tb_ok aX1_init_1 0 rfl) rfl ?_
          refine s_newT (k := 24) (k2 := 25) (c := 5) (N := 5) (tb_ok aX1_init_1 1 rfl) n_RX1_9 (by decide) rfl (FZ.r (k := 24) (o := 20) (FZ.mono (k := 23) (l := 24) (FZ.r (k := 23) (o := 20) (FZ.mono (k := 22) (l := 23) (FZ.r (k := 22) (o := 20) (FZ.mono (k := 21) (l := 22) (FZ.i (k := 21) (o := 19) (FZ.i (k := 21) (o := 19) (FZ.i (k := 21) (o := 19) (FZ.r (k := 21) (o := 19) (FZ.mono (k := 20) (l := 21) hz (by decide)) (by decide)) (by decide)) (by decide)) (by decide)) (by decide)) (by decide)) (by decide)) (by decide)) (by decide)) (by decide)) rfl ?_
          refine s_dup (tb_ok aX1_init_1 2 rfl) rfl ?_
          refine s_callIN (as := []) (o := 24) (tb_ok aX1_init_1 3 rfl) v_RX1_27 E_init5 (by decide) rfl rfl (Nat.le_of_ble_eq_true rfl) (by decide) (fun r1 S1 I1 L1 R1 q1 => ?_)
          obtain ⟨rfl, rfl, rfl, rfl, rfl⟩ := q1
          refine s_b (b' := (1, 5)) rfl ?_
          refine s_aast (a := 0) (tb_ok aX1_init_1 4 rfl) (by decide) rfl rfl vp_lit ?_
          refine s_iinc (v := 4) (ls' := [some (.ref 19), some (.int (4))]) (tb_ok aX1_init_1 5 rfl) rfl (by decide) rfl rfl ?_
          refine s_goto (tgt := 29) (tb_ok aX1_init_1 6 rfl) (by decide) ?_
          refine s_iload_n (tb_ok aX1_init_0 17 rfl) rfl ?_
          refine s_aload_n (tb_ok aX1_init_0 18 rfl) rfl ?_
          refine s_getR (r := 20) (tb_ok aX1_init_0 19 rfl) f_RX1_11 rfl rfl rfl ?_
          refine s_alen (v := 5) (a := 2) (n := 5) (tb_ok aX1_init_0 20 rfl) (by decide) rfl rfl ?_
          refine s_icmp_ge (tgt := 57) (tb_ok aX1_init_0 21 rfl) (by decide) (fun c35 => ?_) (fun c35 => ?_)
          · exact absurd c35 (by decide)
          · refine s_aload_n (tb_ok aX1_init_0 22 rfl) rfl ?_
            refine s_getR (r := 20) (tb_ok aX1_init_0 23 rfl) f_RX1_11 rfl rfl rfl ?_
            refine s_iload_n (tb_ok aX1_init_1 0 rfl) rfl ?_
            refine s_newT (k := 25) (k2 := 26) (c := 5) (N := 5) (tb_ok aX1_init_1 1 rfl) n_RX1_9 (by decide) rfl (FZ.r (k := 25) (o := 20) (FZ.mono (k := 24) (l := 25) (FZ.r (k := 24) (o := 20) (FZ.mono (k := 23) (l := 24) (FZ.r (k := 23) (o := 20) (FZ.mono (k := 22) (l := 23) (FZ.r (k := 22) (o := 20) (FZ.mono (k := 21) (l := 22) (FZ.i (k := 21) (o := 19) (FZ.i (k := 21) (o := 19) (FZ.i (k := 21) (o := 19) (FZ.r (k := 21) (o := 19) (FZ.mono (k := 20) (l := 21) hz (by decide)) (by decide)) (by decide)) (by decide)) (by decide)) (by decide)) (by decide)) (by decide)) (by decide)) (by decide)) (by decide)) (by decide)) (by decide)) rfl ?_
            refine s_dup (tb_ok aX1_init_1 2 rfl) rfl ?_
            refine s_callIN (as := []) (o := 25) (tb_ok aX1_init_1 3 rfl) v_RX1_27 E_init5 (by decide) rfl rfl (Nat.le_of_ble_eq_true rfl) (by decide) (fun r1 S1 I1 L1 R1 q1 => ?_)
            obtain ⟨rfl, rfl, rfl, rfl, rfl⟩ := q1
            refine s_b (b' := (0, 0)) rfl ?_
            refine s_aast (a := 0) (tb_ok aX1_init_1 4 rfl) (by decide) rfl rfl vp_lit ?_
            refine s_iinc (v := 5) (ls' := [some (.ref 19), some (.int (5))]) (tb_ok aX1_init_1 5 rfl) rfl (by decide) rfl rfl ?_
            refine s_goto (tgt := 29) (tb_ok aX1_init_1 6 rfl) (by decide) ?_
            refine s_iload_n (tb_ok aX1_init_0 17 rfl) rfl ?_
            refine s_aload_n (tb_ok aX1_init_0 18 rfl) rfl ?_
            refine s_getR (r := 20) (tb_ok aX1_init_0 19 rfl) f_RX1_11 rfl rfl rfl ?_
            refine s_alen (v := 5) (a := 2) (n := 5) (tb_ok aX1_init_0 20 rfl) (by decide) rfl rfl ?_
            refine s_icmp_ge (tgt := 57) (tb_ok aX1_init_0 21 rfl) (by decide) (fun c35 => ?_) (fun c35 => ?_)
            · refine s_vret (tb_ok aX1_init_1 7 rfl) rfl ?_
              exact pureR
            · exact absurd c35 (by decide)

set_option maxRecDepth 100000 in
set_option maxHeartbeats 1000000 in
theorem E_init4_30 {X : En} {I : FI} {L : FL} {R : FR} (hz : FZ 31 I L R) : Ev X 1 mX4_init (3, 194) [.ref 30] (S0.take 31) I L R (PureR none (S0.take 34) (up2 I 30 3 0) L (up2 (up2 (up2 R 30 0 (some 31)) 30 1 (some 32)) 30 2 (some 33))) := by
  refine ev_of (by decide +kernel) rfl ?_
  show SW X _ _ _ 0 [some (.ref 30)] [] (S0.take 31) I L R _
  refine s_aload_n (tb_ok aX4_init_0 0 rfl) rfl ?_
  refine s_objInit (tb_ok aX4_init_0 1 rfl) i_RX4_5 (by decide) (Nat.le_of_ble_eq_true rfl) ?_
  refine s_aload_n (tb_ok aX4_init_0 2 rfl) rfl ?_
  refine s_sipush (v := 160) (tb_ok aX4_init_0 3 rfl) (by decide) ?_
  refine s_newTI (k := 31) (k2 := 32) (N := 160) (v := 160) (tb_ok aX4_init_0 4 rfl) (by decide) rfl (by decide) (by decide) rfl hz rfl ?_
  refine s_putFR (tb_ok aX4_init_0 5 rfl) f_RX4_11 rfl rfl rfl ?_
  refine s_aload_n (tb_ok aX4_init_0 6 rfl) rfl ?_
  refine s_iconst (v := 3) (tb_ok aX4_init_0 7 rfl) (by decide) ?_
  refine s_newTI (k := 32) (k2 := 33) (N := 3) (v := 3) (tb_ok aX4_init_0 8 rfl) (by decide) rfl (by decide) (by decide) rfl (FZ.r (k := 32) (o := 30) (FZ.mono (k := 31) (l := 32) hz (by decide)) (by decide)) rfl ?_
  refine s_putFR (tb_ok aX4_init_0 9 rfl) f_RX4_15 rfl rfl rfl ?_
  refine s_aload_n (tb_ok aX4_init_0 10 rfl) rfl ?_
  refine s_bipush (v := 31) (tb_ok aX4_init_0 11 rfl) (by decide) ?_
  refine s_newTI (k := 33) (k2 := 34) (N := 31) (v := 31) (tb_ok aX4_init_0 12 rfl) (by decide) rfl (by decide) (by decide) rfl (FZ.r (k := 33) (o := 30) (FZ.mono (k := 32) (l := 33) (FZ.r (k := 32) (o := 30) (FZ.mono (k := 31) (l := 32) hz (by decide)) (by decide)) (by decide)) (by decide)) rfl ?_
  refine s_putFR (tb_ok aX4_init_0 13 rfl) f_RX4_18 rfl rfl rfl ?_
  refine s_aload_n (tb_ok aX4_init_0 14 rfl) rfl ?_
  refine s_iconst (v := 0) (tb_ok aX4_init_0 15 rfl) (by decide) ?_
  refine s_putI (tb_ok aX4_init_0 16 rfl) f_RX4_21 rfl rfl ?_
  refine s_vret (tb_ok aX4_init_0 17 rfl) rfl ?_
  exact pureR

set_option maxRecDepth 100000 in
set_option maxHeartbeats 1000000 in
theorem E_init4_34 {X : En} {I : FI} {L : FL} {R : FR} (hz : FZ 35 I L R) : Ev X 1 mX4_init (3, 194) [.ref 34] (S0.take 35) I L R (PureR none (S0.take 38) (up2 I 34 3 0) L (up2 (up2 (up2 R 34 0 (some 35)) 34 1 (some 36)) 34 2 (some 37))) := by
  refine ev_of (by decide +kernel) rfl ?_
  show SW X _ _ _ 0 [some (.ref 34)] [] (S0.take 35) I L R _
  refine s_aload_n (tb_ok aX4_init_0 0 rfl) rfl ?_
  refine s_objInit (tb_ok aX4_init_0 1 rfl) i_RX4_5 (by decide) (Nat.le_of_ble_eq_true rfl) ?_
  refine s_aload_n (tb_ok aX4_init_0 2 rfl) rfl ?_
  refine s_sipush (v := 160) (tb_ok aX4_init_0 3 rfl) (by decide) ?_
  refine s_newTI (k := 35) (k2 := 36) (N := 160) (v := 160) (tb_ok aX4_init_0 4 rfl) (by decide) rfl (by decide) (by decide) rfl hz rfl ?_
  refine s_putFR (tb_ok aX4_init_0 5 rfl) f_RX4_11 rfl rfl rfl ?_
  refine s_aload_n (tb_ok aX4_init_0 6 rfl) rfl ?_
  refine s_iconst (v := 3) (tb_ok aX4_init_0 7 rfl) (by decide) ?_
  refine s_newTI (k := 36) (k2 := 37) (N := 3) (v := 3) (tb_ok aX4_init_0 8 rfl) (by decide) rfl (by decide) (by decide) rfl (FZ.r (k := 36) (o := 34) (FZ.mono (k := 35) (l := 36) hz (by decide)) (by decide)) rfl ?_
  refine s_putFR (tb_ok aX4_init_0 9 rfl) f_RX4_15 rfl rfl rfl ?_
  refine s_aload_n (tb_ok aX4_init_0 10 rfl) rfl ?_
  refine s_bipush (v := 31) (tb_ok aX4_init_0 11 rfl) (by decide) ?_
  refine s_newTI (k := 37) (k2 := 38) (N := 31) (v := 31) (tb_ok aX4_init_0 12 rfl) (by decide) rfl (by decide) (by decide) rfl (FZ.r (k := 37) (o := 34) (FZ.mono (k := 36) (l := 37) (FZ.r (k := 36) (o := 34) (FZ.mono (k := 35) (l := 36) hz (by decide)) (by decide)) (by decide)) (by decide)) rfl ?_
  refine s_putFR (tb_ok aX4_init_0 13 rfl) f_RX4_18 rfl rfl rfl ?_
  refine s_aload_n (tb_ok aX4_init_0 14 rfl) rfl ?_
  refine s_iconst (v := 0) (tb_ok aX4_init_0 15 rfl) (by decide) ?_
  refine s_putI (tb_ok aX4_init_0 16 rfl) f_RX4_21 rfl rfl ?_
  refine s_vret (tb_ok aX4_init_0 17 rfl) rfl ?_
  exact pureR

set_option maxRecDepth 100000 in
set_option maxHeartbeats 1000000 in
theorem E_init4_38 {X : En} {I : FI} {L : FL} {R : FR} (hz : FZ 39 I L R) : Ev X 1 mX4_init (3, 194) [.ref 38] (S0.take 39) I L R (PureR none (S0.take 42) (up2 I 38 3 0) L (up2 (up2 (up2 R 38 0 (some 39)) 38 1 (some 40)) 38 2 (some 41))) := by
  refine ev_of (by decide +kernel) rfl ?_
  show SW X _ _ _ 0 [some (.ref 38)] [] (S0.take 39) I L R _
  refine s_aload_n (tb_ok aX4_init_0 0 rfl) rfl ?_
  refine s_objInit (tb_ok aX4_init_0 1 rfl) i_RX4_5 (by decide) (Nat.le_of_ble_eq_true rfl) ?_
  refine s_aload_n (tb_ok aX4_init_0 2 rfl) rfl ?_
  refine s_sipush (v := 160) (tb_ok aX4_init_0 3 rfl) (by decide) ?_
  refine s_newTI (k := 39) (k2 := 40) (N := 160) (v := 160) (tb_ok aX4_init_0 4 rfl) (by decide) rfl (by decide) (by decide) rfl hz rfl ?_
  refine s_putFR (tb_ok aX4_init_0 5 rfl) f_RX4_11 rfl rfl rfl ?_
  refine s_aload_n (tb_ok aX4_init_0 6 rfl) rfl ?_
  refine s_iconst (v := 3) (tb_ok aX4_init_0 7 rfl) (by decide) ?_
  refine s_newTI (k := 40) (k2 := 41) (N := 3) (v := 3) (tb_ok aX4_init_0 8 rfl) (by decide) rfl (by decide) (by decide) rfl (FZ.r (k := 40) (o := 38) (FZ.mono (k := 39) (l := 40) hz (by decide)) (by decide)) rfl ?_
  refine s_putFR (tb_ok aX4_init_0 9 rfl) f_RX4_15 rfl rfl rfl ?_
  refine s_aload_n (tb_ok aX4_init_0 10 rfl) rfl ?_
  refine s_bipush (v := 31) (tb_ok aX4_init_0 11 rfl) (by decide) ?_
  refine s_newTI (k := 41) (k2 := 42) (N := 31) (v := 31) (tb_ok aX4_init_0 12 rfl) (by decide) rfl (by decide) (by decide) rfl (FZ.r (k := 41) (o := 38) (FZ.mono (k := 40) (l := 41) (FZ.r (k := 40) (o := 38) (FZ.mono (k := 39) (l := 40) hz (by decide)) (by decide)) (by decide)) (by decide)) rfl ?_
  refine s_putFR (tb_ok aX4_init_0 13 rfl) f_RX4_18 rfl rfl rfl ?_
  refine s_aload_n (tb_ok aX4_init_0 14 rfl) rfl ?_
  refine s_iconst (v := 0) (tb_ok aX4_init_0 15 rfl) (by decide) ?_
  refine s_putI (tb_ok aX4_init_0 16 rfl) f_RX4_21 rfl rfl ?_
  refine s_vret (tb_ok aX4_init_0 17 rfl) rfl ?_
  exact pureR

set_option maxRecDepth 100000 in
set_option maxHeartbeats 1000000 in
theorem E_init4_42 {X : En} {I : FI} {L : FL} {R : FR} (hz : FZ 43 I L R) : Ev X 1 mX4_init (3, 194) [.ref 42] (S0.take 43) I L R (PureR none (S0.take 46) (up2 I 42 3 0) L (up2 (up2 (up2 R 42 0 (some 43)) 42 1 (some 44)) 42 2 (some 45))) := by
  refine ev_of (by decide +kernel) rfl ?_
  show SW X _ _ _ 0 [some (.ref 42)] [] (S0.take 43) I L R _
  refine s_aload_n (tb_ok aX4_init_0 0 rfl) rfl ?_
  refine s_objInit (tb_ok aX4_init_0 1 rfl) i_RX4_5 (by decide) (Nat.le_of_ble_eq_true rfl) ?_
  refine s_aload_n (tb_ok aX4_init_0 2 rfl) rfl ?_
  refine s_sipush (v := 160) (tb_ok aX4_init_0 3 rfl) (by decide) ?_
  refine s_newTI (k := 43) (k2 := 44) (N := 160) (v := 160) (tb_ok aX4_init_0 4 rfl) (by decide) rfl (by decide) (by decide) rfl hz rfl ?_
  refine s_putFR (tb_ok aX4_init_0 5 rfl) f_RX4_11 rfl rfl rfl ?_
  refine s_aload_n (tb_ok aX4_init_0 6 rfl) rfl ?_
  refine s_iconst (v := 3) (tb_ok aX4_init_0 7 rfl) (by decide) ?_
  refine s_newTI (k := 44) (k2 := 45) (N := 3) (v := 3) (tb_ok aX4_init_0 8 rfl) (by decide) rfl (by decide) (by decide) rfl (FZ.r (k := 44) (o := 42) (FZ.mono (k := 43) (l := 44) hz (by decide)) (by decide)) rfl ?_
  refine s_putFR (tb_ok aX4_init_0 9 rfl) f_RX4_15 rfl rfl rfl ?_
  refine s_aload_n (tb_ok aX4_init_0 10 rfl) rfl ?_
  refine s_bipush (v := 31) (tb_ok aX4_init_0 11 rfl) (by decide) ?_
  refine s_newTI (k := 45) (k2 := 46) (N := 31) (v := 31) (tb_ok aX4_init_0 12 rfl) (by decide) rfl (by decide) (by decide) rfl (FZ.r (k := 45) (o := 42) (FZ.mono (k := 44) (l := 45) (FZ.r (k := 44) (o := 42) (FZ.mono (k := 43) (l := 44) hz (by decide)) (by decide)) (by decide)) (by decide)) rfl ?_
  refine s_putFR (tb_ok aX4_init_0 13 rfl) f_RX4_18 rfl rfl rfl ?_
  refine s_aload_n (tb_ok aX4_init_0 14 rfl) rfl ?_
  refine s_iconst (v := 0) (tb_ok aX4_init_0 15 rfl) (by decide) ?_
  refine s_putI (tb_ok aX4_init_0 16 rfl) f_RX4_21 rfl rfl ?_
  refine s_vret (tb_ok aX4_init_0 17 rfl) rfl ?_
  exact pureR

set_option maxRecDepth 100000 in
set_option maxHeartbeats 1000000 in
theorem E_init4_46 {X : En} {I : FI} {L : FL} {R : FR} (hz : FZ 47 I L R) : Ev X 1 mX4_init (3, 194) [.ref 46] (S0.take 47) I L R (PureR none (S0.take 50) (up2 I 46 3 0) L (up2 (up2 (up2 R 46 0 (some 47)) 46 1 (some 48)) 46 2 (some 49))) := by
  refine ev_of (by decide +kernel) rfl ?_
  show SW X _ _ _ 0 [some (.ref 46)] [] (S0.take 47) I L R _
  refine s_aload_n (tb_ok aX4_init_0 0 rfl) rfl ?_
  refine s_objInit (tb_ok aX4_init_0 1 rfl) i_RX4_5 (by decide) (Nat.le_of_ble_eq_true rfl) ?_
  refine s_aload_n (tb_ok aX4_init_0 2 rfl) rfl ?_
  refine s_sipush (v := 160) (tb_ok aX4_init_0 3 rfl) (by decide) ?_
  refine s_newTI (k := 47) (k2 := 48) (N := 160) (v := 160) (tb_ok aX4_init_0 4 rfl) (by decide) rfl (by decide) (by decide) rfl hz rfl ?_
  refine s_putFR (tb_ok aX4_init_0 5 rfl) f_RX4_11 rfl rfl rfl ?_
  refine s_aload_n (tb_ok aX4_init_0 6 rfl) rfl ?_
  refine s_iconst (v := 3) (tb_ok aX4_init_0 7 rfl) (by decide) ?_
  refine s_newTI (k := 48) (k2 := 49) (N := 3) (v := 3) (tb_ok aX4_init_0 8 rfl) (by decide) rfl (by decide) (by decide) rfl (FZ.r (k := 48) (o := 46) (FZ.mono (k := 47) (l := 48) hz (by decide)) (by decide)) rfl ?_
  refine s_putFR (tb_ok aX4_init_0 9 rfl) f_RX4_15 rfl rfl rfl ?_
  refine s_aload_n (tb_ok aX4_init_0 10 rfl) rfl ?_
  refine s_bipush (v := 31) (tb_ok aX4_init_0 11 rfl) (by decide) ?_
  refine s_newTI (k := 49) (k2 := 50) (N := 31) (v := 31) (tb_ok aX4_init_0 12 rfl) (by decide) rfl (by decide) (by decide) rfl (FZ.r (k := 49) (o := 46) (FZ.mono (k := 48) (l := 49) (FZ.r (k := 48) (o := 46) (FZ.mono (k := 47) (l := 48) hz (by decide)) (by decide)) (by decide)) (by decide)) rfl ?_
  refine s_putFR (tb_ok aX4_init_0 13 rfl) f_RX4_18 rfl rfl rfl ?_
  refine s_aload_n (tb_ok aX4_init_0 14 rfl) rfl ?_
  refine s_iconst (v := 0) (tb_ok aX4_init_0 15 rfl) (by decide) ?_
  refine s_putI (tb_ok aX4_init_0 16 rfl) f_RX4_21 rfl rfl ?_
  refine s_vret (tb_ok aX4_init_0 17 rfl) rfl ?_
  exact pureR

set_option maxRecDepth 100000 in
set_option maxHeartbeats 1000000 in
theorem E_init4_50 {X : En} {I : FI} {L : FL} {R : FR} (hz : FZ 51 I L R) : Ev X 1 mX4_init (3, 194) [.ref 50] (S0.take 51) I L R (PureR none (S0.take 54) (up2 I 50 3 0) L (up2 (up2 (up2 R 50 0 (some 51)) 50 1 (some 52)) 50 2 (some 53))) := by
  refine ev_of (by decide +kernel) rfl ?_
  show SW X _ _ _ 0 [some (.ref 50)] [] (S0.take 51) I L R _
  refine s_aload_n (tb_ok aX4_init_0 0 rfl) rfl ?_
  refine s_objInit (tb_ok aX4_init_0 1 rfl) i_RX4_5 (by decide) (Nat.le_of_ble_eq_true rfl) ?_
  refine s_aload_n (tb_ok aX4_init_0 2 rfl) rfl ?_
  refine s_sipush (v := 160) (tb_ok aX4_init_0 3 rfl) (by decide) ?_
  refine s_newTI (k := 51) (k2 := 52) (N := 160) (v := 160) (tb_ok aX4_init_0 4 rfl) (by decide) rfl (by decide) (by decide) rfl hz rfl ?_
  refine s_putFR (tb_ok aX4_init_0 5 rfl) f_RX4_11 rfl rfl rfl ?_
  refine s_aload_n (tb_ok aX4_init_0 6 rfl) rfl ?_
  refine s_iconst (v := 3) (tb_ok aX4_init_0 7 rfl) (by decide) ?_
  refine s_newTI (k := 52) (k2 := 53) (N := 3) (v := 3) (tb_ok aX4_init_0 8 rfl) (by decide) rfl (by decide) (by decide) rfl (FZ.r (k := 52) (o := 50) (FZ.mono (k := 51) (l := 52) hz (by decide)) (by decide)) rfl ?_
  refine s_putFR (tb_ok aX4_init_0 9 rfl) f_RX4_15 rfl rfl rfl ?_
  refine s_aload_n (tb_ok aX4_init_0 10 rfl) rfl ?_
  refine s_bipush (v := 31) (tb_ok aX4_init_0 11 rfl) (by decide) ?_
  refine s_newTI (k := 53) (k2 := 54) (N := 31) (v := 31) (tb_ok aX4_init_0 12 rfl) (by decide) rfl (by decide) (by decide) rfl (FZ.r (k := 53) (o := 50) (FZ.mono (k := 52) (l := 53) (FZ.r (k := 52) (o := 50) (FZ.mono (k := 51) (l := 52) hz (by decide)) (by decide)) (by decide)) (by decide)) rfl ?_
  refine s_putFR (tb_ok aX4_init_0 13 rfl) f_RX4_18 rfl rfl rfl ?_
  refine s_aload_n (tb_ok aX4_init_0 14 rfl) rfl ?_
  refine s_iconst (v := 0) (tb_ok aX4_init_0 15 rfl) (by decide) ?_
  refine s_putI (tb_ok aX4_init_0 16 rfl) f_RX4_21 rfl rfl ?_
  refine s_vret (tb_ok aX4_init_0 17 rfl) rfl ?_
  exact pureR

set_option maxRecDepth 100000 in
set_option maxHeartbeats 1000000 in
theorem E_init3_54 {X : En} {I : FI} {L : FL} {R : FR} (hz : FZ 55 I L R) : Ev X 1 mX3_init (1, 40) [.ref 54] (S0.take 55) I L R (PureR none (S0.take 56) (up2 (up2 I 54 1 (-1)) 54 2 0) L (up2 R 54 0 (some 55))) := by
  refine ev_of (by decide +kernel) rfl ?_
  show SW X _ _ _ 0 [some (.ref 54)] [] (S0.take 55) I L R _
  refine s_aload_n (tb_ok aX3_init_0 0 rfl) rfl ?_
  refine s_objInit (tb_ok aX3_init_0 1 rfl) i_RX3_3 (by decide) (Nat.le_of_ble_eq_true rfl) ?_
  refine s_aload_n (tb_ok aX3_init_0 2 rfl) rfl ?_
  refine s_bipush (v := 40) (tb_ok aX3_init_0 3 rfl) (by decide) ?_
  refine s_newTI (k := 55) (k2 := 56) (N := 40) (v := 40) (tb_ok aX3_init_0 4 rfl) (by decide) rfl (by decide) (by decide) rfl hz rfl ?_
  refine s_putFR (tb_ok aX3_init_0 5 rfl) f_RX3_9 rfl rfl rfl ?_
  refine s_aload_n (tb_ok aX3_init_0 6 rfl) rfl ?_
  refine s_iconst (v := -1) (tb_ok aX3_init_0 7 rfl) (by decide) ?_
  refine s_putI (tb_ok aX3_init_0 8 rfl) f_RX3_15 rfl rfl ?_
  refine s_aload_n (tb_ok aX3_init_0 9 rfl) rfl ?_
  refine s_iconst (v := 0) (tb_ok aX3_init_0 10 rfl) (by decide) ?_
  refine s_putI (tb_ok aX3_init_0 11 rfl) f_RX3_19 rfl rfl ?_
  refine s_vret (tb_ok aX3_init_0 12 rfl) rfl ?_
  exact pureR

set_option maxRecDepth 100000 in
set_option maxHeartbeats 1000000 in
theorem E_init3_56 {X : En} {I : FI} {L : FL} {R : FR} (hz : FZ 57 I L R) : Ev X 1 mX3_init (1, 40) [.ref 56] (S0.take 57) I L R (PureR none (S0.take 58) (up2 (up2 I 56 1 (-1)) 56 2 0) L (up2 R 56 0 (some 57))) := by
  refine ev_of (by decide +kernel) rfl ?_
  show SW X _ _ _ 0 [some (.ref 56)] [] (S0.take 57) I L R _
  refine s_aload_n (tb_ok aX3_init_0 0 rfl) rfl ?_
  refine s_objInit (tb_ok aX3_init_0 1 rfl) i_RX3_3 (by decide) (Nat.le_of_ble_eq_true rfl) ?_
  refine s_aload_n (tb_ok aX3_init_0 2 rfl) rfl ?_
  refine s_bipush (v := 40) (tb_ok aX3_init_0 3 rfl) (by decide) ?_
  refine s_newTI (k := 57) (k2 := 58) (N := 40) (v := 40) (tb_ok aX3_init_0 4 rfl) (by decide) rfl (by decide) (by decide) rfl hz rfl ?_
  refine s_putFR (tb_ok aX3_init_0 5 rfl) f_RX3_9 rfl rfl rfl ?_
  refine s_aload_n (tb_ok aX3_init_0 6 rfl) rfl ?_
  refine s_iconst (v := -1) (tb_ok aX3_init_0 7 rfl) (by decide) ?_
  refine s_putI (tb_ok aX3_init_0 8 rfl) f_RX3_15 rfl rfl ?_
  refine s_aload_n (tb_ok aX3_init_0 9 rfl) rfl ?_
  refine s_iconst (v := 0) (tb_ok aX3_init_0 10 rfl) (by decide) ?_
  refine s_putI (tb_ok aX3_init_0 11 rfl) f_RX3_19 rfl rfl ?_
  refine s_vret (tb_ok aX3_init_0 12 rfl) rfl ?_
  exact pureR

set_option maxRecDepth 100000 in
set_option maxHeartbeats 1000000 in
theorem E_init3_58 {X : En} {I : FI} {L : FL} {R : FR} (hz : FZ 59 I L R) : Ev X 1 mX3_init (1, 40) [.ref 58] (S0.take 59) I L R (PureR none (S0.take 60) (up2 (up2 I 58 1 (-1)) 58 2 0) L (up2 R 58 0 (some 59))) := by
  refine ev_of (by decide +kernel) rfl ?_
  show SW X _ _ _ 0 [some (.ref 58)] [] (S0.take 59) I L R _
  refine s_aload_n (tb_ok aX3_init_0 0 rfl) rfl ?_
  refine s_objInit (tb_ok aX3_init_0 1 rfl) i_RX3_3 (by decide) (Nat.le_of_ble_eq_true rfl) ?_
  refine s_aload_n (tb_ok aX3_init_0 2 rfl) rfl ?_
  refine s_bipush (v := 40) (tb_ok aX3_init_0 3 rfl) (by decide) ?_
  refine s_newTI (k := 59) (k2 := 60) (N := 40) (v := 40) (tb_ok aX3_init_0 4 rfl) (by decide) rfl (by decide) (by decide) rfl hz rfl ?_
  refine s_putFR (tb_ok aX3_init_0 5 rfl) f_RX3_9 rfl rfl rfl ?_
  refine s_aload_n (tb_ok aX3_init_0 6 rfl) rfl ?_
  refine s_iconst (v := -1) (tb_ok aX3_init_0 7 rfl) (by decide) ?_
  refine s_putI (tb_ok aX3_init_0 8 rfl) f_RX3_15 rfl rfl ?_
  refine s_aload_n (tb_ok aX3_init_0 9 rfl) rfl ?_
  refine s_iconst (v := 0) (tb_ok aX3_init_0 10 rfl) (by decide) ?_
  refine s_putI (tb_ok aX3_init_0 11 rfl) f_RX3_19 rfl rfl ?_
  refine s_vret (tb_ok aX3_init_0 12 rfl) rfl ?_
  exact pureR

set_option maxRecDepth 100000 in
set_option maxHeartbeats 1000000 in
theorem E_init3_60 {X : En} {I : FI} {L : FL} {R : FR} (hz : FZ 61 I L R) : Ev X 1 mX3_init (1, 40) [.ref 60] (S0.take 61) I L R (PureR none (S0.take 62) (up2 (up2 I 60 1 (-1)) 60 2 0) L (up2 R 60 0 (some 61))) := by
  refine ev_of (by decide +kernel) rfl ?_
  show SW X _ _ _ 0 [some (.ref 60)] [] (S0.take 61) I L R _
  refine s_aload_n (tb_ok aX3_init_0 0 rfl) rfl ?_
  refine s_objInit (tb_ok aX3_init_0 1 rfl) i_RX3_3 (by decide) (Nat.le_of_ble_eq_true rfl) ?_
  refine s_aload_n (tb_ok aX3_init_0 2 rfl) rfl ?_
  refine s_bipush (v := 40) (tb_ok aX3_init_0 3 rfl) (by decide) ?_
  refine s_newTI (k := 61) (k2 := 62) (N := 40) (v := 40) (tb_ok aX3_init_0 4 rfl) (by decide) rfl (by decide) (by decide) rfl hz rfl ?_
  refine s_putFR (tb_ok aX3_init_0 5 rfl) f_RX3_9 rfl rfl rfl ?_
  refine s_aload_n (tb_ok aX3_init_0 6 rfl) rfl ?_
  refine s_iconst (v := -1) (tb_ok aX3_init_0 7 rfl) (by decide) ?_
  refine s_putI (tb_ok aX3_init_0 8 rfl) f_RX3_15 rfl rfl ?_
  refine s_aload_n (tb_ok aX3_init_0 9 rfl) rfl ?_
  refine s_iconst (v := 0) (tb_ok aX3_init_0 10 rfl) (by decide) ?_
  refine s_putI (tb_ok aX3_init_0 11 rfl) f_RX3_19 rfl rfl ?_
  refine s_vret (tb_ok aX3_init_0 12 rfl) rfl ?_
  exact pureR

set_option maxRecDepth 100000 in
set_option maxHeartbeats 1000000 in
theorem E_init2_62 {X : En} {I : FI} {L : FL} {R : FR} (hz : FZ 63 I L R) : Ev X 1 mX2_init (1, 160) [.ref 62, .ref 30] (S0.take 63) I L R (PureR none (S0.take 64) (up2 (up2 I 62 1 0) 62 7 (-1)) L (up2 (up2 R 62 0 (some 63)) 62 2 (some 30))) := by
  refine ev_of (by decide +kernel) rfl ?_
  show SW X _ _ _ 0 [some (.ref 62), some (.ref 30)] [] (S0.take 63) I L R _
  refine s_aload_n (tb_ok aX2_init_0 0 rfl) rfl ?_
  refine s_objInit (tb_ok aX2_init_0 1 rfl) i_RX2_5 (by decide) (Nat.le_of_ble_eq_true rfl) ?_
  refine s_aload_n (tb_ok aX2_init_0 2 rfl) rfl ?_
  refine s_sipush (v := 160) (tb_ok aX2_init_0 3 rfl) (by decide) ?_
  refine s_newTI (k := 63) (k2 := 64) (N := 160) (v := 160) (tb_ok aX2_init_0 4 rfl) (by decide) rfl (by decide) (by decide) rfl hz rfl ?_
  refine s_putFR (tb_ok aX2_init_0 5 rfl) f_RX2_11 rfl rfl rfl ?_
  refine s_aload_n (tb_ok aX2_init_0 6 rfl) rfl ?_
  refine s_iconst (v := 0) (tb_ok aX2_init_0 7 rfl) (by decide) ?_
  refine s_putI (tb_ok aX2_init_0 8 rfl) f_RX2_15 rfl rfl ?_
  refine s_aload_n (tb_ok aX2_init_0 9 rfl) rfl ?_
  refine s_iconst (v := -1) (tb_ok aX2_init_0 10 rfl) (by decide) ?_
  refine s_putI (tb_ok aX2_init_0 11 rfl) f_RX2_19 rfl rfl ?_
  refine s_aload_n (tb_ok aX2_init_0 12 rfl) rfl ?_
  refine s_aload_n (tb_ok aX2_init_0 13 rfl) rfl ?_
  refine s_putR (tb_ok aX2_init_0 14 rfl) f_RX2_22 rfl rfl ?_
  refine s_vret (tb_ok aX2_init_0 15 rfl) rfl ?_
  exact pureR

set_option maxRecDepth 100000 in
set_option maxHeartbeats 1000000 in
theorem E_init6_64 {X : En} {I : FI} {L : FL} {R : FR} (hz : FZ 65 I L R) : Ev X 1 mX6_init (1, 6) [.ref 64, .ref 1, .ref 30] (S0.take 65) I L R (PureR none (S0.take 66) I L (up2 (up2 (up2 R 64 1 (some 65)) 64 0 (some 1)) 64 2 (some 30))) := by
  refine ev_of (by decide +kernel) rfl ?_
  show SW X _ _ _ 0 [some (.ref 64), some (.ref 1), some (.ref 30)] [] (S0.take 65) I L R _
  refine s_aload_n (tb_ok aX6_init_0 0 rfl) rfl ?_
  refine s_objInit (tb_ok aX6_init_0 1 rfl) i_RX6_3 (by decide) (Nat.le_of_ble_eq_true rfl) ?_
  refine s_aload_n (tb_ok aX6_init_0 2 rfl) rfl ?_
  refine s_bipush (v := 6) (tb_ok aX6_init_0 3 rfl) (by decide) ?_
  refine s_newTI (k := 65) (k2 := 66) (N := 6) (v := 6) (tb_ok aX6_init_0 4 rfl) (by decide) rfl (by decide) (by decide) rfl hz rfl ?_
  refine s_putFR (tb_ok aX6_init_0 5 rfl) f_RX6_11 rfl rfl rfl ?_
  refine s_aload_n (tb_ok aX6_init_0 6 rfl) rfl ?_
  refine s_aload_n (tb_ok aX6_init_0 7 rfl) rfl ?_
  refine s_putFR (tb_ok aX6_init_0 8 rfl) f_RX6_17 rfl rfl rfl ?_
  refine s_aload_n (tb_ok aX6_init_0 9 rfl) rfl ?_
  refine s_aload_n (tb_ok aX6_init_0 10 rfl) rfl ?_
  refine s_putR (tb_ok aX6_init_0 11 rfl) f_RX6_21 rfl rfl ?_
  refine s_vret (tb_ok aX6_init_0 12 rfl) rfl ?_
  exact pureR
