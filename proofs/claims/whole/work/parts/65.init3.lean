/-! the reference is made; both stand in S0, R0 -/
set_option maxRecDepth 100000 in
set_option maxHeartbeats 1000000 in
theorem E_spell {X : En} {I : FI} {L : FL} {R : FR} (hR : R 66 1 = some 67) {p : Nat} (hp : p ≤ 40) (a0 a1 a2 a3 a4 a5 a6 a7 : Int32) : Ev X 1 mX8_spell (0, 0) [.ref 66, .int (nI p), .int a0, .int a1, .int a2, .int a3, .int a4, .int a5, .int a6, .int a7] S0 I L R (PureR none S0 (up2 (up2 (up2 (up2 (up2 (up2 (up2 (up2 I 67 p a0) 67 (p + 1) a1) 67 (p + 2) a2) 67 (p + 3) a3) 67 (p + 4) a4) 67 (p + 5) a5) 67 (p + 6) a6) 67 (p + 7) a7) L R) := by
  refine ev_of (by decide +kernel) rfl ?_
  show SW X _ _ _ 0 [some (.ref 66), some (.int (nI p)), some (.int a0), some (.int a1), some (.int a2), some (.int a3), some (.int a4), some (.int a5), some (.int a6), some (.int a7)] [] S0 I L R _
  refine s_aload_n (tb_ok aX8_spell_0 0 rfl) rfl ?_
  refine s_getR (r := 67) (tb_ok aX8_spell_0 1 rfl) f_RX8_13 rfl rfl hR ?_
  refine s_iload_n (tb_ok aX8_spell_0 2 rfl) rfl ?_
  refine s_iload_n (tb_ok aX8_spell_0 3 rfl) rfl ?_
  refine s_iastN (tb_ok aX8_spell_0 4 rfl) rfl (by omega) (by decide) ?_
  refine s_aload_n (tb_ok aX8_spell_0 5 rfl) rfl ?_
  refine s_getR (r := 67) (tb_ok aX8_spell_0 6 rfl) f_RX8_13 rfl rfl hR ?_
  refine s_iload_n (tb_ok aX8_spell_0 7 rfl) rfl ?_
  refine s_iconst (v := 1) (tb_ok aX8_spell_0 8 rfl) (by decide) ?_
  refine s_iadd (tb_ok aX8_spell_0 9 rfl) ?_
  refine s_topi (z := (nI (p + 1))) (nI_add' p 1) ?_
  refine s_iload_n (tb_ok aX8_spell_0 10 rfl) rfl ?_
  refine s_iastN (tb_ok aX8_spell_0 11 rfl) rfl (by omega) (by decide) ?_
  refine s_aload_n (tb_ok aX8_spell_0 12 rfl) rfl ?_
  refine s_getR (r := 67) (tb_ok aX8_spell_0 13 rfl) f_RX8_13 rfl rfl hR ?_
  refine s_iload_n (tb_ok aX8_spell_0 14 rfl) rfl ?_
  refine s_iconst (v := 2) (tb_ok aX8_spell_0 15 rfl) (by decide) ?_
  refine s_iadd (tb_ok aX8_spell_0 16 rfl) ?_
  refine s_topi (z := (nI (p + 2))) (nI_add' p 2) ?_
  refine s_iload (tb_ok aX8_spell_0 17 rfl) rfl ?_
  refine s_iastN (tb_ok aX8_spell_0 18 rfl) rfl (by omega) (by decide) ?_
  refine s_aload_n (tb_ok aX8_spell_0 19 rfl) rfl ?_
  refine s_getR (r := 67) (tb_ok aX8_spell_0 20 rfl) f_RX8_13 rfl rfl hR ?_
  refine s_iload_n (tb_ok aX8_spell_0 21 rfl) rfl ?_
  refine s_iconst (v := 3) (tb_ok aX8_spell_0 22 rfl) (by decide) ?_
  refine s_iadd (tb_ok aX8_spell_0 23 rfl) ?_
  refine s_topi (z := (nI (p + 3))) (nI_add' p 3) ?_
  refine s_iload (tb_ok aX8_spell_1 0 rfl) rfl ?_
  refine s_iastN (tb_ok aX8_spell_1 1 rfl) rfl (by omega) (by decide) ?_
  refine s_aload_n (tb_ok aX8_spell_1 2 rfl) rfl ?_
  refine s_getR (r := 67) (tb_ok aX8_spell_1 3 rfl) f_RX8_13 rfl rfl hR ?_
  refine s_iload_n (tb_ok aX8_spell_1 4 rfl) rfl ?_
  refine s_iconst (v := 4) (tb_ok aX8_spell_1 5 rfl) (by decide) ?_
  refine s_iadd (tb_ok aX8_spell_1 6 rfl) ?_
  refine s_topi (z := (nI (p + 4))) (nI_add' p 4) ?_
  refine s_iload (tb_ok aX8_spell_1 7 rfl) rfl ?_
  refine s_iastN (tb_ok aX8_spell_1 8 rfl) rfl (by omega) (by decide) ?_
  refine s_aload_n (tb_ok aX8_spell_1 9 rfl) rfl ?_
  refine s_getR (r := 67) (tb_ok aX8_spell_1 10 rfl) f_RX8_13 rfl rfl hR ?_
  refine s_iload_n (tb_ok aX8_spell_1 11 rfl) rfl ?_
  refine s_iconst (v := 5) (tb_ok aX8_spell_1 12 rfl) (by decide) ?_
  refine s_iadd (tb_ok aX8_spell_1 13 rfl) ?_
  refine s_topi (z := (nI (p + 5))) (nI_add' p 5) ?_
  refine s_iload (tb_ok aX8_spell_1 14 rfl) rfl ?_
  refine s_iastN (tb_ok aX8_spell_1 15 rfl) rfl (by omega) (by decide) ?_
  refine s_aload_n (tb_ok aX8_spell_1 16 rfl) rfl ?_
  refine s_getR (r := 67) (tb_ok aX8_spell_1 17 rfl) f_RX8_13 rfl rfl hR ?_
  refine s_iload_n (tb_ok aX8_spell_1 18 rfl) rfl ?_
  refine s_bipush (v := 6) (tb_ok aX8_spell_1 19 rfl) (by decide) ?_
  refine s_iadd (tb_ok aX8_spell_1 20 rfl) ?_
  refine s_topi (z := (nI (p + 6))) (nI_add' p 6) ?_
  refine s_iload (tb_ok aX8_spell_1 21 rfl) rfl ?_
  refine s_iastN (tb_ok aX8_spell_1 22 rfl) rfl (by omega) (by decide) ?_
  refine s_aload_n (tb_ok aX8_spell_1 23 rfl) rfl ?_
  refine s_getR (r := 67) (tb_ok aX8_spell_2 0 rfl) f_RX8_13 rfl rfl hR ?_
  refine s_iload_n (tb_ok aX8_spell_2 1 rfl) rfl ?_
  refine s_bipush (v := 7) (tb_ok aX8_spell_2 2 rfl) (by decide) ?_
  refine s_iadd (tb_ok aX8_spell_2 3 rfl) ?_
  refine s_topi (z := (nI (p + 7))) (nI_add' p 7) ?_
  refine s_iload (tb_ok aX8_spell_2 4 rfl) rfl ?_
  refine s_iastN (tb_ok aX8_spell_2 5 rfl) rfl (by omega) (by decide) ?_
  refine s_vret (tb_ok aX8_spell_2 6 rfl) rfl ?_
  exact pureR

def RD : FR := (up2 (up2 (up2 (up2 (up2 (up2 (up2 (up2 (up2 (up2 (up2 (up2 (up2 (up2 (up2 RC 66 1 (some 67)) 66 2 (some 68)) 66 5 (some 69)) 66 8 (some 70)) 66 9 (some 71)) 66 11 (some 72)) 66 12 (some 73)) 66 29 (some 74)) 66 31 (some 75)) 66 32 (some 76)) 66 33 (some 77)) 66 38 (some 78)) 66 39 (some 79)) 66 40 (some 80)) 66 41 (some 81))
def WM (I : FI) : FI := (up2 (up2 (up2 (up2 (up2 (up2 (up2 (up2 (up2 (up2 (up2 (up2 (up2 (up2 (up2 (up2 (up2 (up2 (up2 (up2 (up2 (up2 (up2 (up2 (up2 (up2 (up2 (up2 (up2 (up2 (up2 (up2 (up2 (up2 (up2 (up2 (up2 (up2 (up2 (up2 (up2 (up2 (up2 (up2 (up2 (up2 (up2 (up2 (up2 (up2 (up2 I 66 35 (-1)) 67 0 102) 67 1 97) 67 2 108) 67 3 108) 67 4 115) 67 5 32) 67 6 49) 67 7 32) 67 8 43) 67 9 32) 67 10 114) 67 11 105) 67 12 112) 67 13 101) 67 14 32) 67 15 60) 67 16 32) 67 17 50) 67 18 48) 67 19 32) 67 20 59) 67 21 32) 67 22 114) 67 23 105) 67 24 112) 67 25 101) 67 26 110) 67 27 115) 67 28 32) 67 29 49) 67 30 32) 67 31 59) 67 32 32) 67 33 116) 67 34 97) 67 35 107) 67 36 101) 67 37 115) 67 38 32) 67 39 49) 67 40 32) 67 41 59) 67 42 32) 67 43 32) 67 44 32) 67 45 32) 67 46 32) 67 47 32) 68 0 48) 66 3 1)
def rup (l : List (Nat × Nat × Nat)) : FR := l.foldl (fun R u => up2 R u.1 u.2.1 (some u.2.2)) ZR
theorem rup_out : ∀ (l : List (Nat × Nat × Nat)) (R : FR), (∀ u ∈ l, u.1 < 82 ∧ u.2.1 < 45) → (∀ o k, ¬ (o < 82 ∧ k < 45) → R o k = none) → ∀ o k, ¬ (o < 82 ∧ k < 45) → l.foldl (fun R u => up2 R u.1 u.2.1 (some u.2.2)) R o k = none := by
  intro l
  induction l with
  | nil => intro R _ h; exact h
  | cons u l ih =>
    intro R hu h o k hk
    refine ih _ (fun v hv => hu v (List.mem_cons_of_mem _ hv)) (fun o k hk => ?_) o k hk
    have h1 := hu u (List.mem_cons_self ..)
    show up2 R u.1 u.2.1 (some u.2.2) o k = none
    rw [up2_nn _ _ (fun e => hk (by rw [e.1, e.2]; exact h1))]
    exact h o k hk
def rAll : List (Nat × Nat × Nat) := [(1, 0, 2), (1, 1, 3), (1, 2, 4), (0, 0, 1), (5, 0, 6), (6, 0, 7), (6, 1, 8), (6, 2, 9), (6, 3, 10), (6, 4, 11), (0, 1, 5), (12, 0, 13), (13, 0, 14), (13, 1, 15), (13, 2, 16), (13, 3, 17), (13, 4, 18), (0, 2, 12), (19, 0, 20), (20, 0, 21), (20, 1, 22), (20, 2, 23), (20, 3, 24), (20, 4, 25), (0, 3, 19), (0, 4, 26), (0, 5, 27), (0, 6, 28), (0, 7, 29), (30, 0, 31), (30, 1, 32), (30, 2, 33), (28, 0, 30), (34, 0, 35), (34, 1, 36), (34, 2, 37), (28, 1, 34), (38, 0, 39), (38, 1, 40), (38, 2, 41), (28, 2, 38), (42, 0, 43), (42, 1, 44), (42, 2, 45), (28, 3, 42), (46, 0, 47), (46, 1, 48), (46, 2, 49), (28, 4, 46), (50, 0, 51), (50, 1, 52), (50, 2, 53), (28, 5, 50), (54, 0, 55), (29, 0, 54), (56, 0, 57), (29, 1, 56), (58, 0, 59), (29, 2, 58), (60, 0, 61), (29, 3, 60), (62, 0, 63), (62, 2, 30), (0, 8, 62), (64, 1, 65), (64, 0, 1), (64, 2, 30), (0, 9, 64), (66, 1, 67), (66, 2, 68), (66, 5, 69), (66, 8, 70), (66, 9, 71), (66, 11, 72), (66, 12, 73), (66, 29, 74), (66, 31, 75), (66, 32, 76), (66, 33, 77), (66, 38, 78), (66, 39, 79), (66, 40, 80), (66, 41, 81)]
theorem R0_out : ∀ o k, ¬ (o < 82 ∧ k < 45) → R0 (30, 30) o k = none := by
  intro o k hk
  unfold R0
  rw [if_neg (by omega), if_neg (by omega)]
  have e : ∀ (l : List (Option Nat)), l.length ≤ k → l.getD k none = none := fun l hl => by rw [List.getD_eq_getElem?_getD, List.getElem?_eq_none hl]; rfl
  by_cases ho : o < 82
  · have hlen : ∀ o, o < 82 → (R0L.getD o []).length ≤ 45 := by decide +kernel
    exact e _ (Nat.le_trans (hlen o ho) (by omega))
  · have hl : R0L.length ≤ 82 := by decide +kernel
    have e2 : R0L.getD o [] = [] := by rw [List.getD_eq_getElem?_getD, List.getElem?_eq_none (by omega)]; rfl
    rw [e2]
    rfl
theorem RD_0 : RD = R0 (30, 30) := by
  have h1 : RD = rup rAll := rfl
  rw [h1]
  funext o k
  by_cases h : o < 82 ∧ k < 45
  · have key : ∀ o, o < 82 → ∀ k, k < 45 → rup rAll o k = R0 (30, 30) o k := by decide +kernel
    exact key o h.1 k h.2
  · rw [R0_out o k h]
    exact rup_out rAll ZR (by decide +kernel) (fun _ _ _ => rfl) o k h
theorem pureE4 {r : Option Value} {S : Sh} {I J : FI} {L : FL} {R R2 : FR} (h2 : J = I) (h3 : R = R2) : PureR r S I L R r S J L R2 := ⟨rfl, rfl, h2, rfl, h3.symm⟩
set_option maxRecDepth 100000 in
set_option maxHeartbeats 1000000 in
theorem E_init8 {X : En} {I : FI} (hz : FZ 67 I ZL RC) : Ev X 3 mX8_init (15, 1403) [.ref 66] (S0.take 67) I ZL RC (PureR none S0 (WM I) ZL (R0 (30, 30))) := by
  refine ev_of (by decide +kernel) rfl ?_
  show SW X _ _ _ 0 [some (.ref 66)] [] (S0.take 67) I ZL RC _
  refine s_aload_n (tb_ok aX8_init_0 0 rfl) rfl ?_
  refine s_objInit (tb_ok aX8_init_0 1 rfl) i_RX8_7 (by decide) (Nat.le_of_ble_eq_true rfl) ?_
  refine s_aload_n (tb_ok aX8_init_0 2 rfl) rfl ?_
  refine s_sipush (v := 960) (tb_ok aX8_init_0 3 rfl) (by decide) ?_
  refine s_newTI (k := 67) (k2 := 68) (N := 960) (v := 960) (tb_ok aX8_init_0 4 rfl) (by decide) rfl (by decide) (by decide) rfl hz rfl ?_
  refine s_putFR (tb_ok aX8_init_0 5 rfl) f_RX8_13 rfl rfl rfl ?_
  refine s_aload_n (tb_ok aX8_init_0 6 rfl) rfl ?_
  refine s_bipush (v := 6) (tb_ok aX8_init_0 7 rfl) (by decide) ?_
  refine s_newTI (k := 68) (k2 := 69) (N := 6) (v := 6) (tb_ok aX8_init_0 8 rfl) (by decide) rfl (by decide) (by decide) rfl (FZ.r (k := 68) (o := 66) (FZ.mono (k := 67) (l := 68) hz (by decide)) (by decide)) rfl ?_
  refine s_putFR (tb_ok aX8_init_0 9 rfl) f_RX8_17 rfl rfl rfl ?_
  refine s_aload_n (tb_ok aX8_init_0 10 rfl) rfl ?_
  refine s_sipush (v := 160) (tb_ok aX8_init_0 11 rfl) (by decide) ?_
  refine s_newTI (k := 69) (k2 := 70) (N := 160) (v := 160) (tb_ok aX8_init_0 12 rfl) (by decide) rfl (by decide) (by decide) rfl (FZ.r (k := 69) (o := 66) (FZ.mono (k := 68) (l := 69) (FZ.r (k := 68) (o := 66) (FZ.mono (k := 67) (l := 68) hz (by decide)) (by decide)) (by decide)) (by decide)) rfl ?_
  refine s_putFR (tb_ok aX8_init_0 13 rfl) f_RX8_20 rfl rfl rfl ?_
  refine s_aload_n (tb_ok aX8_init_0 14 rfl) rfl ?_
  refine s_bipush (v := 10) (tb_ok aX8_init_0 15 rfl) (by decide) ?_
  refine s_newTI (k := 70) (k2 := 71) (N := 10) (v := 10) (tb_ok aX8_init_0 16 rfl) (by decide) rfl (by decide) (by decide) rfl (FZ.r (k := 70) (o := 66) (FZ.mono (k := 69) (l := 70) (FZ.r (k := 69) (o := 66) (FZ.mono (k := 68) (l := 69) (FZ.r (k := 68) (o := 66) (FZ.mono (k := 67) (l := 68) hz (by decide)) (by decide)) (by decide)) (by decide)) (by decide)) (by decide)) rfl ?_
  refine s_putFR (tb_ok aX8_init_0 17 rfl) f_RX8_23 rfl rfl rfl ?_
  refine s_aload_n (tb_ok aX8_init_0 18 rfl) rfl ?_
  refine s_bipush (v := 10) (tb_ok aX8_init_0 19 rfl) (by decide) ?_
  refine s_newTI (k := 71) (k2 := 72) (N := 10) (v := 10) (tb_ok aX8_init_0 20 rfl) (by decide) rfl (by decide) (by decide) rfl (FZ.r (k := 71) (o := 66) (FZ.mono (k := 70) (l := 71) (FZ.r (k := 70) (o := 66) (FZ.mono (k := 69) (l := 70) (FZ.r (k := 69) (o := 66) (FZ.mono (k := 68) (l := 69) (FZ.r (k := 68) (o := 66) (FZ.mono (k := 67) (l := 68) hz (by decide)) (by decide)) (by decide)) (by decide)) (by decide)) (by decide)) (by decide)) (by decide)) rfl ?_
  refine s_putFR (tb_ok aX8_init_0 21 rfl) f_RX8_26 rfl rfl rfl ?_
  refine s_aload_n (tb_ok aX8_init_0 22 rfl) rfl ?_
  refine s_iconst (v := 5) (tb_ok aX8_init_0 23 rfl) (by decide) ?_
  refine s_newTI (k := 72) (k2 := 73) (N := 5) (v := 5) (tb_ok aX8_init_1 0 rfl) (by decide) rfl (by decide) (by decide) rfl (FZ.r (k := 72) (o := 66) (FZ.mono (k := 71) (l := 72) (FZ.r (k := 71) (o := 66) (FZ.mono (k := 70) (l := 71) (FZ.r (k := 70) (o := 66) (FZ.mono (k := 69) (l := 70) (FZ.r (k := 69) (o := 66) (FZ.mono (k := 68) (l := 69) (FZ.r (k := 68) (o := 66) (FZ.mono (k := 67) (l := 68) hz (by decide)) (by decide)) (by decide)) (by decide)) (by decide)) (by decide)) (by decide)) (by decide)) (by decide)) (by decide)) rfl ?_
  refine s_putFR (tb_ok aX8_init_1 1 rfl) f_RX8_29 rfl rfl rfl ?_
  refine s_aload_n (tb_ok aX8_init_1 2 rfl) rfl ?_
  refine s_bipush (v := 20) (tb_ok aX8_init_1 3 rfl) (by decide) ?_
  refine s_newTI (k := 73) (k2 := 74) (N := 20) (v := 20) (tb_ok aX8_init_1 4 rfl) (by decide) rfl (by decide) (by decide) rfl (FZ.r (k := 73) (o := 66) (FZ.mono (k := 72) (l := 73) (FZ.r (k := 72) (o := 66) (FZ.mono (k := 71) (l := 72) (FZ.r (k := 71) (o := 66) (FZ.mono (k := 70) (l := 71) (FZ.r (k := 70) (o := 66) (FZ.mono (k := 69) (l := 70) (FZ.r (k := 69) (o := 66) (FZ.mono (k := 68) (l := 69) (FZ.r (k := 68) (o := 66) (FZ.mono (k := 67) (l := 68) hz (by decide)) (by decide)) (by decide)) (by decide)) (by decide)) (by decide)) (by decide)) (by decide)) (by decide)) (by decide)) (by decide)) (by decide)) rfl ?_
  refine s_putFR (tb_ok aX8_init_1 5 rfl) f_RX8_32 rfl rfl rfl ?_
  refine s_aload_n (tb_ok aX8_init_1 6 rfl) rfl ?_
  refine s_bipush (v := 20) (tb_ok aX8_init_1 7 rfl) (by decide) ?_
  refine s_newTI (k := 74) (k2 := 75) (N := 20) (v := 20) (tb_ok aX8_init_1 8 rfl) (by decide) rfl (by decide) (by decide) rfl (FZ.r (k := 74) (o := 66) (FZ.mono (k := 73) (l := 74) (FZ.r (k := 73) (o := 66) (FZ.mono (k := 72) (l := 73) (FZ.r (k := 72) (o := 66) (FZ.mono (k := 71) (l := 72) (FZ.r (k := 71) (o := 66) (FZ.mono (k := 70) (l := 71) (FZ.r (k := 70) (o := 66) (FZ.mono (k := 69) (l := 70) (FZ.r (k := 69) (o := 66) (FZ.mono (k := 68) (l := 69) (FZ.r (k := 68) (o := 66) (FZ.mono (k := 67) (l := 68) hz (by decide)) (by decide)) (by decide)) (by decide)) (by decide)) (by decide)) (by decide)) (by decide)) (by decide)) (by decide)) (by decide)) (by decide)) (by decide)) (by decide)) rfl ?_
  refine s_putFR (tb_ok aX8_init_1 9 rfl) f_RX8_35 rfl rfl rfl ?_
  refine s_aload_n (tb_ok aX8_init_1 10 rfl) rfl ?_
  refine s_bipush (v := 10) (tb_ok aX8_init_1 11 rfl) (by decide) ?_
  refine s_newTI (k := 75) (k2 := 76) (N := 10) (v := 10) (tb_ok aX8_init_1 12 rfl) (by decide) rfl (by decide) (by decide) rfl (FZ.r (k := 75) (o := 66) (FZ.mono (k := 74) (l := 75) (FZ.r (k := 74) (o := 66) (FZ.mono (k := 73) (l := 74) (FZ.r (k := 73) (o := 66) (FZ.mono (k := 72) (l := 73) (FZ.r (k := 72) (o := 66) (FZ.mono (k := 71) (l := 72) (FZ.r (k := 71) (o := 66) (FZ.mono (k := 70) (l := 71) (FZ.r (k := 70) (o := 66) (FZ.mono (k := 69) (l := 70) (FZ.r (k := 69) (o := 66) (FZ.mono (k := 68) (l := 69) (FZ.r (k := 68) (o := 66) (FZ.mono (k := 67) (l := 68) hz (by decide)) (by decide)) (by decide)) (by decide)) (by decide)) (by decide)) (by decide)) (by decide)) (by decide)) (by decide)) (by decide)) (by decide)) (by decide)) (by decide)) (by decide)) (by decide)) rfl ?_
  refine s_putFR (tb_ok aX8_init_1 13 rfl) f_RX8_38 rfl rfl rfl ?_
  refine s_aload_n (tb_ok aX8_init_1 14 rfl) rfl ?_
  refine s_bipush (v := 10) (tb_ok aX8_init_1 15 rfl) (by decide) ?_
  refine s_newTI (k := 76) (k2 := 77) (N := 10) (v := 10) (tb_ok aX8_init_1 16 rfl) (by decide) rfl (by decide) (by decide) rfl (FZ.r (k := 76) (o := 66) (FZ.mono (k := 75) (l := 76) (FZ.r (k := 75) (o := 66) (FZ.mono (k := 74) (l := 75) (FZ.r (k := 74) (o := 66) (FZ.mono (k := 73) (l := 74) (FZ.r (k := 73) (o := 66) (FZ.mono (k := 72) (l := 73) (FZ.r (k := 72) (o := 66) (FZ.mono (k := 71) (l := 72) (FZ.r (k := 71) (o := 66) (FZ.mono (k := 70) (l := 71) (FZ.r (k := 70) (o := 66) (FZ.mono (k := 69) (l := 70) (FZ.r (k := 69) (o := 66) (FZ.mono (k := 68) (l := 69) (FZ.r (k := 68) (o := 66) (FZ.mono (k := 67) (l := 68) hz (by decide)) (by decide)) (by decide)) (by decide)) (by decide)) (by decide)) (by decide)) (by decide)) (by decide)) (by decide)) (by decide)) (by decide)) (by decide)) (by decide)) (by decide)) (by decide)) (by decide)) (by decide)) rfl ?_
  refine s_putFR (tb_ok aX8_init_1 17 rfl) f_RX8_41 rfl rfl rfl ?_
  refine s_aload_n (tb_ok aX8_init_1 18 rfl) rfl ?_
  refine s_bipush (v := 20) (tb_ok aX8_init_1 19 rfl) (by decide) ?_
  refine s_newTI (k := 77) (k2 := 78) (N := 20) (v := 20) (tb_ok aX8_init_1 20 rfl) (by decide) rfl (by decide) (by decide) rfl (FZ.r (k := 77) (o := 66) (FZ.mono (k := 76) (l := 77) (FZ.r (k := 76) (o := 66) (FZ.mono (k := 75) (l := 76) (FZ.r (k := 75) (o := 66) (FZ.mono (k := 74) (l := 75) (FZ.r (k := 74) (o := 66) (FZ.mono (k := 73) (l := 74) (FZ.r (k := 73) (o := 66) (FZ.mono (k := 72) (l := 73) (FZ.r (k := 72) (o := 66) (FZ.mono (k := 71) (l := 72) (FZ.r (k := 71) (o := 66) (FZ.mono (k := 70) (l := 71) (FZ.r (k := 70) (o := 66) (FZ.mono (k := 69) (l := 70) (FZ.r (k := 69) (o := 66) (FZ.mono (k := 68) (l := 69) (FZ.r (k := 68) (o := 66) (FZ.mono (k := 67) (l := 68) hz (by decide)) (by decide)) (by decide)) (by decide)) (by decide)) (by decide)) (by decide)) (by decide)) (by decide)) (by decide)) (by decide)) (by decide)) (by decide)) (by decide)) (by decide)) (by decide)) (by decide)) (by decide)) (by decide)) (by decide)) rfl ?_
  refine s_putFR (tb_ok aX8_init_1 21 rfl) f_RX8_44 rfl rfl rfl ?_
  refine s_aload_n (tb_ok aX8_init_1 22 rfl) rfl ?_
  refine s_iconst (v := -1) (tb_ok aX8_init_1 23 rfl) (by decide) ?_
  refine s_putI (tb_ok aX8_init_2 0 rfl) f_RX8_47 rfl rfl ?_
  refine s_aload_n (tb_ok aX8_init_2 1 rfl) rfl ?_
  refine s_iconst (v := 4) (tb_ok aX8_init_2 2 rfl) (by decide) ?_
  refine s_newTZ (k := 78) (k2 := 79) (N := 4) (v := 4) (tb_ok aX8_init_2 3 rfl) (by decide) rfl (by decide) (by decide) rfl (FZ.i (k := 78) (o := 66) (FZ.r (k := 78) (o := 66) (FZ.mono (k := 77) (l := 78) (FZ.r (k := 77) (o := 66) (FZ.mono (k := 76) (l := 77) (FZ.r (k := 76) (o := 66) (FZ.mono (k := 75) (l := 76) (FZ.r (k := 75) (o := 66) (FZ.mono (k := 74) (l := 75) (FZ.r (k := 74) (o := 66) (FZ.mono (k := 73) (l := 74) (FZ.r (k := 73) (o := 66) (FZ.mono (k := 72) (l := 73) (FZ.r (k := 72) (o := 66) (FZ.mono (k := 71) (l := 72) (FZ.r (k := 71) (o := 66) (FZ.mono (k := 70) (l := 71) (FZ.r (k := 70) (o := 66) (FZ.mono (k := 69) (l := 70) (FZ.r (k := 69) (o := 66) (FZ.mono (k := 68) (l := 69) (FZ.r (k := 68) (o := 66) (FZ.mono (k := 67) (l := 68) hz (by decide)) (by decide)) (by decide)) (by decide)) (by decide)) (by decide)) (by decide)) (by decide)) (by decide)) (by decide)) (by decide)) (by decide)) (by decide)) (by decide)) (by decide)) (by decide)) (by decide)) (by decide)) (by decide)) (by decide)) (by decide)) (by decide)) (by decide)) rfl ?_
  refine s_putFR (tb_ok aX8_init_2 4 rfl) f_RX8_50 rfl rfl rfl ?_
  refine s_aload_n (tb_ok aX8_init_2 5 rfl) rfl ?_
  refine s_iconst (v := 4) (tb_ok aX8_init_2 6 rfl) (by decide) ?_
  refine s_newTI (k := 79) (k2 := 80) (N := 4) (v := 4) (tb_ok aX8_init_2 7 rfl) (by decide) rfl (by decide) (by decide) rfl (FZ.r (k := 79) (o := 66) (FZ.mono (k := 78) (l := 79) (FZ.i (k := 78) (o := 66) (FZ.r (k := 78) (o := 66) (FZ.mono (k := 77) (l := 78) (FZ.r (k := 77) (o := 66) (FZ.mono (k := 76) (l := 77) (FZ.r (k := 76) (o := 66) (FZ.mono (k := 75) (l := 76) (FZ.r (k := 75) (o := 66) (FZ.mono (k := 74) (l := 75) (FZ.r (k := 74) (o := 66) (FZ.mono (k := 73) (l := 74) (FZ.r (k := 73) (o := 66) (FZ.mono (k := 72) (l := 73) (FZ.r (k := 72) (o := 66) (FZ.mono (k := 71) (l := 72) (FZ.r (k := 71) (o := 66) (FZ.mono (k := 70) (l := 71) (FZ.r (k := 70) (o := 66) (FZ.mono (k := 69) (l := 70) (FZ.r (k := 69) (o := 66) (FZ.mono (k := 68) (l := 69) (FZ.r (k := 68) (o := 66) (FZ.mono (k := 67) (l := 68) hz (by decide)) (by decide)) (by decide)) (by decide)) (by decide)) (by decide)) (by decide)) (by decide)) (by decide)) (by decide)) (by decide)) (by decide)) (by decide)) (by decide)) (by decide)) (by decide)) (by decide)) (by decide)) (by decide)) (by decide)) (by decide)) (by decide)) (by decide)) (by decide)) (by decide)) rfl ?_
  refine s_putFR (tb_ok aX8_init_2 8 rfl) f_RX8_54 rfl rfl rfl ?_
  refine s_aload_n (tb_ok aX8_init_2 9 rfl) rfl ?_
  refine s_iconst (v := 4) (tb_ok aX8_init_2 10 rfl) (by decide) ?_
  refine s_newTI (k := 80) (k2 := 81) (N := 4) (v := 4) (tb_ok aX8_init_2 11 rfl) (by decide) rfl (by decide) (by decide) rfl (FZ.r (k := 80) (o := 66) (FZ.mono (k := 79) (l := 80) (FZ.r (k := 79) (o := 66) (FZ.mono (k := 78) (l := 79) (FZ.i (k := 78) (o := 66) (FZ.r (k := 78) (o := 66) (FZ.mono (k := 77) (l := 78) (FZ.r (k := 77) (o := 66) (FZ.mono (k := 76) (l := 77) (FZ.r (k := 76) (o := 66) (FZ.mono (k := 75) (l := 76) (FZ.r (k := 75) (o := 66) (FZ.mono (k := 74) (l := 75) (FZ.r (k := 74) (o := 66) (FZ.mono (k := 73) (l := 74) (FZ.r (k := 73) (o := 66) (FZ.mono (k := 72) (l := 73) (FZ.r (k := 72) (o := 66) (FZ.mono (k := 71) (l := 72) (FZ.r (k := 71) (o := 66) (FZ.mono (k := 70) (l := 71) (FZ.r (k := 70) (o := 66) (FZ.mono (k := 69) (l := 70) (FZ.r (k := 69) (o := 66) (FZ.mono (k := 68) (l := 69) (FZ.r (k := 68) (o := 66) (FZ.mono (k := 67) (l := 68) hz (by decide)) (by decide)) (by decide)) (by decide)) (by decide)) (by decide)) (by decide)) (by decide)) (by decide)) (by decide)) (by decide)) (by decide)) (by decide)) (by decide)) (by decide)) (by decide)) (by decide)) (by decide)) (by decide)) (by decide)) (by decide)) (by decide)) (by decide)) (by decide)) (by decide)) (by decide)) (by decide)) rfl ?_
  refine s_putFR (tb_ok aX8_init_2 12 rfl) f_RX8_57 rfl rfl rfl ?_
  refine s_aload_n (tb_ok aX8_init_2 13 rfl) rfl ?_
  refine s_sipush (v := 160) (tb_ok aX8_init_2 14 rfl) (by decide) ?_
  refine s_newTI (k := 81) (k2 := 82) (N := 160) (v := 160) (tb_ok aX8_init_2 15 rfl) (by decide) rfl (by decide) (by decide) rfl (FZ.r (k := 81) (o := 66) (FZ.mono (k := 80) (l := 81) (FZ.r (k := 80) (o := 66) (FZ.mono (k := 79) (l := 80) (FZ.r (k := 79) (o := 66) (FZ.mono (k := 78) (l := 79) (FZ.i (k := 78) (o := 66) (FZ.r (k := 78) (o := 66) (FZ.mono (k := 77) (l := 78) (FZ.r (k := 77) (o := 66) (FZ.mono (k := 76) (l := 77) (FZ.r (k := 76) (o := 66) (FZ.mono (k := 75) (l := 76) (FZ.r (k := 75) (o := 66) (FZ.mono (k := 74) (l := 75) (FZ.r (k := 74) (o := 66) (FZ.mono (k := 73) (l := 74) (FZ.r (k := 73) (o := 66) (FZ.mono (k := 72) (l := 73) (FZ.r (k := 72) (o := 66) (FZ.mono (k := 71) (l := 72) (FZ.r (k := 71) (o := 66) (FZ.mono (k := 70) (l := 71) (FZ.r (k := 70) (o := 66) (FZ.mono (k := 69) (l := 70) (FZ.r (k := 69) (o := 66) (FZ.mono (k := 68) (l := 69) (FZ.r (k := 68) (o := 66) (FZ.mono (k := 67) (l := 68) hz (by decide)) (by decide)) (by decide)) (by decide)) (by decide)) (by decide)) (by decide)) (by decide)) (by decide)) (by decide)) (by decide)) (by decide)) (by decide)) (by decide)) (by decide)) (by decide)) (by decide)) (by decide)) (by decide)) (by decide)) (by decide)) (by decide)) (by decide)) (by decide)) (by decide)) (by decide)) (by decide)) (by decide)) (by decide)) rfl ?_
  refine s_putFR (tb_ok aX8_init_2 16 rfl) f_RX8_60 rfl rfl rfl ?_
  refine s_aload_n (tb_ok aX8_init_2 17 rfl) rfl ?_
  refine s_iconst (v := 0) (tb_ok aX8_init_2 18 rfl) (by decide) ?_
  refine s_bipush (v := 102) (tb_ok aX8_init_2 19 rfl) (by decide) ?_
  refine s_bipush (v := 97) (tb_ok aX8_init_2 20 rfl) (by decide) ?_
  refine s_bipush (v := 108) (tb_ok aX8_init_2 21 rfl) (by decide) ?_
  refine s_bipush (v := 108) (tb_ok aX8_init_2 22 rfl) (by decide) ?_
  refine s_bipush (v := 115) (tb_ok aX8_init_2 23 rfl) (by decide) ?_
  refine s_bipush (v := 32) (tb_ok aX8_init_3 0 rfl) (by decide) ?_
  refine s_bipush (v := 49) (tb_ok aX8_init_3 1 rfl) (by decide) ?_
  refine s_bipush (v := 32) (tb_ok aX8_init_3 2 rfl) (by decide) ?_
  refine s_cV (as := [.int (0), .int (102), .int (97), .int (108), .int (108), .int (115), .int (32), .int (49), .int (32)]) (tb_ok aX8_init_3 3 rfl) v_RX8_63 (E_spell (R := _) (p := 0) rfl (by decide) 102 97 108 108 115 32 49 32) (by decide) rfl rfl rfl rfl rfl (Nat.le_of_ble_eq_true rfl) (by decide) (fun r1 S1 I1 L1 R1 q1 => ?_)
  obtain ⟨rfl, rfl, rfl, rfl, rfl⟩ := q1
  refine s_aload_n (tb_ok aX8_init_3 4 rfl) rfl ?_
  refine s_bipush (v := 8) (tb_ok aX8_init_3 5 rfl) (by decide) ?_
  refine s_bipush (v := 43) (tb_ok aX8_init_3 6 rfl) (by decide) ?_
  refine s_bipush (v := 32) (tb_ok aX8_init_3 7 rfl) (by decide) ?_
  refine s_bipush (v := 114) (tb_ok aX8_init_3 8 rfl) (by decide) ?_
  refine s_bipush (v := 105) (tb_ok aX8_init_3 9 rfl) (by decide) ?_
  refine s_bipush (v := 112) (tb_ok aX8_init_3 10 rfl) (by decide) ?_
  refine s_bipush (v := 101) (tb_ok aX8_init_3 11 rfl) (by decide) ?_
  refine s_bipush (v := 32) (tb_ok aX8_init_3 12 rfl) (by decide) ?_
  refine s_bipush (v := 60) (tb_ok aX8_init_3 13 rfl) (by decide) ?_
  refine s_cV (as := [.int (8), .int (43), .int (32), .int (114), .int (105), .int (112), .int (101), .int (32), .int (60)]) (tb_ok aX8_init_3 14 rfl) v_RX8_63 (E_spell (R := _) (p := 8) rfl (by decide) 43 32 114 105 112 101 32 60) (by decide) rfl rfl rfl rfl rfl (Nat.le_of_ble_eq_true rfl) (by decide) (fun r2 S2 I2 L2 R2 q2 => ?_)
  obtain ⟨rfl, rfl, rfl, rfl, rfl⟩ := q2
  refine s_aload_n (tb_ok aX8_init_3 15 rfl) rfl ?_
  refine s_bipush (v := 16) (tb_ok aX8_init_3 16 rfl) (by decide) ?_
  refine s_bipush (v := 32) (tb_ok aX8_init_3 17 rfl) (by decide) ?_
  refine s_bipush (v := 50) (tb_ok aX8_init_3 18 rfl) (by decide) ?_
  refine s_bipush (v := 48) (tb_ok aX8_init_3 19 rfl) (by decide) ?_
  refine s_bipush (v := 32) (tb_ok aX8_init_3 20 rfl) (by decide) ?_
  refine s_bipush (v := 59) (tb_ok aX8_init_3 21 rfl) (by decide) ?_
  refine s_bipush (v := 32) (tb_ok aX8_init_3 22 rfl) (by decide) ?_
  refine s_bipush (v := 114) (tb_ok aX8_init_3 23 rfl) (by decide) ?_
  refine s_bipush (v := 105) (tb_ok aX8_init_4 0 rfl) (by decide) ?_
  refine s_cV (as := [.int (16), .int (32), .int (50), .int (48), .int (32), .int (59), .int (32), .int (114), .int (105)]) (tb_ok aX8_init_4 1 rfl) v_RX8_63 (E_spell (R := _) (p := 16) rfl (by decide) 32 50 48 32 59 32 114 105) (by decide) rfl rfl rfl rfl rfl (Nat.le_of_ble_eq_true rfl) (by decide) (fun r3 S3 I3 L3 R3 q3 => ?_)
  obtain ⟨rfl, rfl, rfl, rfl, rfl⟩ := q3
  refine s_aload_n (tb_ok aX8_init_4 2 rfl) rfl ?_
  refine s_bipush (v := 24) (tb_ok aX8_init_4 3 rfl) (by decide) ?_
  refine s_bipush (v := 112) (tb_ok aX8_init_4 4 rfl) (by decide) ?_
  refine s_bipush (v := 101) (tb_ok aX8_init_4 5 rfl) (by decide) ?_
  refine s_bipush (v := 110) (tb_ok aX8_init_4 6 rfl) (by decide) ?_
  refine s_bipush (v := 115) (tb_ok aX8_init_4 7 rfl) (by decide) ?_
  refine s_bipush (v := 32) (tb_ok aX8_init_4 8 rfl) (by decide) ?_
  refine s_bipush (v := 49) (tb_ok aX8_init_4 9 rfl) (by decide) ?_
  refine s_bipush (v := 32) (tb_ok aX8_init_4 10 rfl) (by decide) ?_
  refine s_bipush (v := 59) (tb_ok aX8_init_4 11 rfl) (by decide) ?_
  refine s_cV (as := [.int (24), .int (112), .int (101), .int (110), .int (115), .int (32), .int (49), .int (32), .int (59)]) (tb_ok aX8_init_4 12 rfl) v_RX8_63 (E_spell (R := _) (p := 24) rfl (by decide) 112 101 110 115 32 49 32 59) (by decide) rfl rfl rfl rfl rfl (Nat.le_of_ble_eq_true rfl) (by decide) (fun r4 S4 I4 L4 R4 q4 => ?_)
  obtain ⟨rfl, rfl, rfl, rfl, rfl⟩ := q4
  refine s_aload_n (tb_ok aX8_init_4 13 rfl) rfl ?_
  refine s_bipush (v := 32) (tb_ok aX8_init_4 14 rfl) (by decide) ?_
  refine s_bipush (v := 32) (tb_ok aX8_init_4 15 rfl) (by decide) ?_
  refine s_bipush (v := 116) (tb_ok aX8_init_4 16 rfl) (by decide) ?_
  refine s_bipush (v := 97) (tb_ok aX8_init_4 17 rfl) (by decide) ?_
  refine s_bipush (v := 107) (tb_ok aX8_init_4 18 rfl) (by decide) ?_
  refine s_bipush (v := 101) (tb_ok aX8_init_4 19 rfl) (by decide) ?_
  refine s_bipush (v := 115) (tb_ok aX8_init_4 20 rfl) (by decide) ?_
  refine s_bipush (v := 32) (tb_ok aX8_init_4 21 rfl) (by decide) ?_
  refine s_bipush (v := 49) (tb_ok aX8_init_4 22 rfl) (by decide) ?_
  refine s_cV (as := [.int (32), .int (32), .int (116), .int (97), .int (107), .int (101), .int (115), .int (32), .int (49)]) (tb_ok aX8_init_4 23 rfl) v_RX8_63 (E_spell (R := _) (p := 32) rfl (by decide) 32 116 97 107 101 115 32 49) (by decide) rfl rfl rfl rfl rfl (Nat.le_of_ble_eq_true rfl) (by decide) (fun r5 S5 I5 L5 R5 q5 => ?_)
  obtain ⟨rfl, rfl, rfl, rfl, rfl⟩ := q5
  refine s_aload_n (tb_ok aX8_init_5 0 rfl) rfl ?_
  refine s_bipush (v := 40) (tb_ok aX8_init_5 1 rfl) (by decide) ?_
  refine s_bipush (v := 32) (tb_ok aX8_init_5 2 rfl) (by decide) ?_
  refine s_bipush (v := 59) (tb_ok aX8_init_5 3 rfl) (by decide) ?_
  refine s_bipush (v := 32) (tb_ok aX8_init_5 4 rfl) (by decide) ?_
  refine s_bipush (v := 32) (tb_ok aX8_init_5 5 rfl) (by decide) ?_
  refine s_bipush (v := 32) (tb_ok aX8_init_5 6 rfl) (by decide) ?_
  refine s_bipush (v := 32) (tb_ok aX8_init_5 7 rfl) (by decide) ?_
  refine s_bipush (v := 32) (tb_ok aX8_init_5 8 rfl) (by decide) ?_
  refine s_bipush (v := 32) (tb_ok aX8_init_5 9 rfl) (by decide) ?_
  refine s_cV (as := [.int (40), .int (32), .int (59), .int (32), .int (32), .int (32), .int (32), .int (32), .int (32)]) (tb_ok aX8_init_5 10 rfl) v_RX8_63 (E_spell (R := _) (p := 40) rfl (by decide) 32 59 32 32 32 32 32 32) (by decide) rfl rfl rfl rfl rfl (Nat.le_of_ble_eq_true rfl) (by decide) (fun r6 S6 I6 L6 R6 q6 => ?_)
  obtain ⟨rfl, rfl, rfl, rfl, rfl⟩ := q6
  refine s_aload_n (tb_ok aX8_init_5 11 rfl) rfl ?_
  refine s_getR (r := 68) (tb_ok aX8_init_5 12 rfl) f_RX8_17 rfl rfl rfl ?_
  refine s_iconst (v := 0) (tb_ok aX8_init_5 13 rfl) (by decide) ?_
  refine s_bipush (v := 48) (tb_ok aX8_init_5 14 rfl) (by decide) ?_
  refine s_iast (tb_ok aX8_init_5 15 rfl) rfl vp_lit ?_
  refine s_aload_n (tb_ok aX8_init_5 16 rfl) rfl ?_
  refine s_iconst (v := 1) (tb_ok aX8_init_5 17 rfl) (by decide) ?_
  refine s_putI (tb_ok aX8_init_5 18 rfl) f_RX8_67 rfl rfl ?_
  refine s_vret (tb_ok aX8_init_5 19 rfl) rfl ?_
  exact pureE4 rfl RD_0.symm

def ftM : List Int32 := [102, 97, 108, 108, 115, 32, 49, 32, 43, 32, 114, 105, 112, 101, 32, 60, 32, 50, 48, 32, 59, 32, 114, 105, 112, 101, 110, 115, 32, 49, 32, 59, 32, 116, 97, 107, 101, 115, 32, 49, 32, 59, 32, 32, 32, 32, 32, 32]
theorem WM_t (I : FI) : ∀ k, k < 48 → WM I 67 k = ftM.getD k 0 := by
  intro k hk
  match k, hk with
  | 0, _ => rfl
  | 1, _ => rfl
  | 2, _ => rfl
  | 3, _ => rfl
  | 4, _ => rfl
  | 5, _ => rfl
  | 6, _ => rfl
  | 7, _ => rfl
  | 8, _ => rfl
  | 9, _ => rfl
  | 10, _ => rfl
  | 11, _ => rfl
  | 12, _ => rfl
  | 13, _ => rfl
  | 14, _ => rfl
  | 15, _ => rfl
  | 16, _ => rfl
  | 17, _ => rfl
  | 18, _ => rfl
  | 19, _ => rfl
  | 20, _ => rfl
  | 21, _ => rfl
  | 22, _ => rfl
  | 23, _ => rfl
  | 24, _ => rfl
  | 25, _ => rfl
  | 26, _ => rfl
  | 27, _ => rfl
  | 28, _ => rfl
  | 29, _ => rfl
  | 30, _ => rfl
  | 31, _ => rfl
  | 32, _ => rfl
  | 33, _ => rfl
  | 34, _ => rfl
  | 35, _ => rfl
  | 36, _ => rfl
  | 37, _ => rfl
  | 38, _ => rfl
  | 39, _ => rfl
  | 40, _ => rfl
  | 41, _ => rfl
  | 42, _ => rfl
  | 43, _ => rfl
  | 44, _ => rfl
  | 45, _ => rfl
  | 46, _ => rfl
  | 47, _ => rfl
  | k + 48, h => exact absurd h (by omega)
theorem ftM_cd : cdP (readP (fun k => ftM.getD k 0) 48 0) = some ([1, 10001, 30000, 20, 30003], [1], [1]) := by decide +kernel
theorem ftM_pos : ∀ k, k < 48 → ¬ (fun k => ftM.getD k 0) k < (0 : Int32) := by decide +kernel
theorem good_eq {c : List Int32} {x z : Int32} {nm : Nat → Int32} (h : Good 31 c x nm) (h2 : Good 31 c z nm) : x = z := by
  obtain ⟨w, e1, e2, _⟩ := h 0 (fun _ => 0) (Nat.le_refl _)
  obtain ⟨w2, f1, f2, _⟩ := h2 0 (fun _ => 0) (Nat.le_refl _)
  rw [e1] at f1
  have e3 : w = w2 := (Prod.mk.inj f1).2
  rw [← e2, ← f2, e3]
theorem sem_eq {t t2 : Nat → Int32} {n n2 : Nat} {v0 v2 : Int32} {c1 c2 c3 d1 d2 d3 : List Int32} {f1 f2 f3 g1 g2 g3 : Sem} (h : readP t n v0 = .inl (c1, c2, c3, f1, f2, f3)) (h2 : readP t2 n2 v2 = .inl (d1, d2, d3, g1, g2, g3)) (e : cdP (readP t n v0) = cdP (readP t2 n2 v2)) : sem3 f1 f2 f3 = sem3 g1 g2 g3 := by
  have a := read_nice t n v0
  have b := read_nice t2 n2 v2
  rw [h] at a e
  rw [h2] at b e
  have e2 : (c1, c2, c3) = (d1, d2, d3) := Option.some.inj e
  obtain ⟨rfl, rfl, rfl⟩ : c1 = d1 ∧ c2 = d2 ∧ c3 = d3 := by
    have := Prod.mk.inj e2
    have h3 := Prod.mk.inj this.2
    exact ⟨this.1, h3.1, h3.2⟩
  have k1 : f1 = g1 := funext (fun nm => good_eq (a.2 nm).1 (b.2 nm).1)
  have k2 : f2 = g2 := funext (fun nm => good_eq (a.2 nm).2.1 (b.2 nm).2.1)
  have k3 : f3 = g3 := funext (fun nm => good_eq (a.2 nm).2.2 (b.2 nm).2.2)
  rw [k1, k2, k3]