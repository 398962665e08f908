/-! the law's entry: both objects are made -/
theorem fz_0 : FZ 0 ZI ZL ZR := fun _ _ _ => ⟨rfl, rfl, rfl⟩
theorem rc_hi {a : Nat} (h : 66 ≤ a) (j : Nat) : RC a j = none := by
  unfold RC
  rw [up2_n _ _ (by omega), up2_n _ _ (by omega), up2_n _ _ (by omega), up2_n _ _ (by omega)]
  unfold RB
  repeat rw [up2_n _ _ (by omega)]
  rfl
theorem fz_66 {I : FI} (h : IniC I) : FZ 66 I ZL RC := fun a ha j => ⟨by rw [h.1 a (by omega) (by omega) (by omega) (by omega) (by omega), IB_hi (by omega)], rfl, rc_hi ha j⟩
theorem law_entry {X : En} {nm : String} {n : Nat} {xs : Nat → Int32} (hn : n ≤ 3072) : SW X 100 (mL nm) (82, 3153) 0 [some (.ref 1000040), none, none, none] [] [] ZI ZL ZR (KL X n xs) := by
  refine s_b (b' := (81 + 1, 3140 + 13)) rfl ?_
  refine s_newT (k := 0) (k2 := 1) (c := 7) (N := 13) (tb_ok aL_law_0 0 rfl) n_RL_7 (by decide) rfl fz_0 rfl ?_
  refine s_dup (tb_ok aL_law_0 1 rfl) rfl ?_
  refine s_callI (as := []) (o := 0) (tb_ok aL_law_0 2 rfl) v_RL_9 E_init7 (by decide) rfl rfl (Nat.le_of_ble_eq_true rfl) (by decide) (fun r1 S1 I1 L1 R1 q1 => ?_)
  obtain ⟨rfl, rfl, g, rfl, rfl⟩ := q1
  refine s_astore_n (ls' := [some (.ref 1000040), some (.ref 0), none, none]) (tb_ok aL_law_0 3 rfl) rfl rfl ?_
  refine s_b (b' := (15 + 1, 1403 + 42)) rfl ?_
  refine s_newT (k := 66) (k2 := 67) (c := 8) (N := 42) (tb_ok aL_law_0 4 rfl) n_RL_10 (by decide) rfl (fz_66 g) rfl ?_
  refine s_dup (tb_ok aL_law_0 5 rfl) rfl ?_
  refine s_callI (as := []) (o := 66) (tb_ok aL_law_0 6 rfl) v_RL_12 (E_init8 (FZ.mono (k := 66) (l := 67) (fz_66 g) (by decide))) (by decide) rfl rfl (Nat.le_of_ble_eq_true rfl) (by decide) (fun r1 S1 I2 L1 R1 q1 => ?_)
  obtain ⟨rfl, rfl, rfl, rfl, rfl⟩ := q1
  refine s_b (b' := (0, 0)) rfl ?_
  refine s_astore_n (ls' := [some (.ref 1000040), some (.ref 0), some (.ref 66), none]) (tb_ok aL_law_0 7 rfl) rfl rfl ?_
  refine s_iconst (v := 0) (tb_ok aL_law_0 8 rfl) (by decide) ?_
  refine s_istore_n (ls' := LSt 0) (tb_ok aL_law_0 9 rfl) rfl rfl ?_
  exact law_loop hn n 0 (by omega) (by omega) _ _ _ (inv_start g)
