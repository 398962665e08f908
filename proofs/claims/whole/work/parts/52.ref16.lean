/-! the reference: the chance; what was told, read back -/
theorem div_L {a b : Nat} (ha : a < 2 ^ 31) (hb : b < 2 ^ 31) : (nI a).toInt64 / (nI b).toInt64 = (nI (a / b)).toInt64 := by
  apply Int64.toInt_inj.mp
  have h1 : a / b ≤ a := Nat.div_le_self a b
  rw [Int64.toInt_div, i64_nI ha, i64_nI hb, i64_nI (by omega), show ((a : Int).tdiv (b : Int)) = ((a / b : Nat) : Int) from rfl]
  generalize a / b = c at h1
  exact Int.bmod_eq_of_le (by omega) (by omega)
theorem mul_L {a b : Nat} (ha : a * b < 2 ^ 31) (h1 : a < 2 ^ 31) (h2 : b < 2 ^ 31) : (nI a).toInt64 * (nI b).toInt64 = (nI (a * b)).toInt64 := by
  apply Int64.toInt_inj.mp
  rw [Int64.toInt_mul, i64_nI h1, i64_nI h2, i64_nI ha, show ((a : Int) * (b : Int)) = ((a * b : Nat) : Int) from (Int.natCast_mul a b).symm]
  generalize a * b = c at ha
  exact Int.bmod_eq_of_le (by omega) (by omega)
theorem sub_L {a b : Nat} (ha : a < 2 ^ 31) (hb : b ≤ a) : (nI a).toInt64 - (nI b).toInt64 = (nI (a - b)).toInt64 := by
  apply Int64.toInt_inj.mp
  rw [Int64.toInt_sub, i64_nI ha, i64_nI (by omega), i64_nI (by omega)]
  rw [Int.bmod_eq_of_le (by omega) (by omega)]
  omega
theorem add_L {a b : Nat} (ha : a + b < 2 ^ 31) : (nI a).toInt64 + (nI b).toInt64 = (nI (a + b)).toInt64 := by
  apply Int64.toInt_inj.mp
  rw [Int64.toInt_add, i64_nI (by omega), i64_nI (by omega), i64_nI ha]
  rw [Int.bmod_eq_of_le (by omega) (by omega)]
  omega
theorem rem_L {a b : Nat} (ha : a < 2 ^ 31) (hb : b < 2 ^ 31) : (nI a).toInt64 - (nI a).toInt64 / (nI b).toInt64 * (nI b).toInt64 = (nI (a % b)).toInt64 := by
  have h1 : a / b * b ≤ a := Nat.div_mul_le_self a b
  have h2 : a / b ≤ a := Nat.div_le_self a b
  rw [div_L ha hb, mul_L (by omega) (by omega) hb, sub_L ha h1]
  congr 2
  have := Nat.div_add_mod a b
  rw [Nat.mul_comm] at this
  omega
theorem nz_L {b : Nat} (h : 0 < b) (hb : b < 2 ^ 31) : ¬ (nI b).toInt64 = 0 := fun e => by
  have h1 := congrArg Int64.toInt e
  rw [i64_nI hb] at h1
  have h2 : (0 : Int64).toInt = 0 := by decide
  omega
def hitS (v : Nat → Int32) (kk : Int32) : Nat → Nat
  | 0 => 0
  | t + 1 => if v t < kk then hitS v kk t else hitS v kk t + 1
theorem hitS_le {v : Nat → Int32} {kk : Int32} : ∀ t, hitS v kk t ≤ t := by
  intro t
  induction t with
  | zero => exact Nat.le_refl _
  | succ t ih =>
    unfold hitS
    split <;> omega
def AfL (q : Nat × Nat) (E : Nat → Nat → Prop) (I : FI) (v : Int64) : Pst := fun r S' I' L' R' => r = some (.long v) ∧ S' = S0 ∧ R' = R0 q ∧ FrE E I' I
theorem s_topl {X : En} {d : Nat} {y : MD} {b : Nat × Nat} {pc : Nat} {ls : List (Option Value)} {st : List Value} {S : Sh} {I : FI} {L : FL} {R : FR} {K : Kt} {x z : Int64} (h : x = z) (k : SW X d y b pc ls (.long z :: st) S I L R K) : SW X d y b pc ls (.long x :: st) S I L R K := h ▸ k
theorem in1N {n hi : Nat} (h : n ≤ hi) (h1 : 1 ≤ n) (hh : hi < 2 ^ 31) : ¬ nI n < nI 1 ∧ ¬ nI hi < nI n := by
  simp (disch := omega) only [nI_ltI]
  omega
set_option maxRecDepth 100000 in
set_option maxHeartbeats 1000000 in
theorem L_gcd0 {X : En} {q : Nat × Nat} {I I1 : FI} {L1 : FL} {seed : Int32} {n kk cc G : Nat} {RR : Int64} (hi : FrE eB I1 I) (hcc : cc < 2 ^ 31) (hn2 : n < 2 ^ 31) (hR : (nI (cc / G)).toInt64 = RR) : ∀ (b a : Nat) (o11 o12 : Option Value), (0 < a ∨ 0 < b) → a < 2 ^ 31 → b < 2 ^ 31 → Nat.gcd a b = G → SW X 60 mX8_chance (0, 0) 87 [some (.ref 66), some (.int seed), some (.int (nI n)), some (.int (nI kk)), some (.int (0)), some (.long (nI cc).toInt64), none, some (.long (nI a).toInt64), none, some (.long (nI b).toInt64), none, o11, o12] [] S0 I1 L1 (R0 q) (KQ X (AfL q eB I RR)) := by
  intro b
  induction b using Nat.strongRecOn with
  | ind b ih =>
    intro a o11 o12 ha0 ha hb hg
    cases b with
    | zero =>
      have ha0 : 0 < a := by omega
      have hRR : (nI (cc / a)).toInt64 = RR := by rw [Nat.gcd_zero_right] at hg; rw [hg, hR]
      refine s_lload (tb_ok aX8_chance_1 23 rfl) rfl ?_
      refine s_lconst (v := 0) (tb_ok aX8_chance_2 0 rfl) (by decide) ?_
      refine s_lcmp (tb_ok aX8_chance_2 1 rfl) ?_
      refine s_if_eq (tgt := 112) (tb_ok aX8_chance_2 2 rfl) (by decide) (fun c91 => ?_) (fun c91 => ?_)
      · refine s_iload (tb_ok aX8_chance_2 12 rfl) rfl ?_
        refine s_if_ne (tgt := 125) (tb_ok aX8_chance_2 13 rfl) (by decide) (fun c114 => ?_) (fun c114 => ?_)
        · exact absurd c114 (by decide)
        · refine s_lload (tb_ok aX8_chance_2 14 rfl) rfl ?_
          refine s_lload (tb_ok aX8_chance_2 15 rfl) rfl ?_
          refine s_ldiv (tb_ok aX8_chance_2 16 rfl) (nz_L ha0 ha) ?_
          refine s_topl (div_L hcc ha) ?_
          refine s_goto (tgt := 130) (tb_ok aX8_chance_2 17 rfl) (by decide) ?_
          refine s_lret (tb_ok aX8_chance_2 22 rfl) rfl ?_
          exact ⟨by rw [hRR], rfl, rfl, hi⟩
      · exact absurd ((cmp_eq _ _).mpr rfl) c91
    | succ b0 =>
      refine s_lload (tb_ok aX8_chance_1 23 rfl) rfl ?_
      refine s_lconst (v := 0) (tb_ok aX8_chance_2 0 rfl) (by decide) ?_
      refine s_lcmp (tb_ok aX8_chance_2 1 rfl) ?_
      refine s_if_eq (tgt := 112) (tb_ok aX8_chance_2 2 rfl) (by decide) (fun c91 => ?_) (fun c91 => ?_)
      · exact absurd ((cmp_eq _ _).mp c91) (nz_L (by omega) hb)
      · refine s_lload (tb_ok aX8_chance_2 3 rfl) rfl ?_
        refine s_lload (tb_ok aX8_chance_2 4 rfl) rfl ?_
        refine s_lrem (tb_ok aX8_chance_2 5 rfl) (nz_L (by omega) hb) ?_
        refine s_topl (rem_L ha hb) ?_
        refine s_nameL (fun x1 ex1 => ?_)
        refine s_lstore (ls' := [some (.ref 66), some (.int seed), some (.int (nI n)), some (.int (nI kk)), some (.int (0)), some (.long (nI cc).toInt64), none, some (.long (nI a).toInt64), none, some (.long (nI (b0 + 1)).toInt64), none, some (.long x1), none]) (tb_ok aX8_chance_2 6 rfl) rfl rfl ?_
        refine s_lload (tb_ok aX8_chance_2 7 rfl) rfl ?_
        refine s_nameL (fun x2 ex2 => ?_)
        refine s_lstore (ls' := [some (.ref 66), some (.int seed), some (.int (nI n)), some (.int (nI kk)), some (.int (0)), some (.long (nI cc).toInt64), none, some (.long x2), none, some (.long (nI (b0 + 1)).toInt64), none, some (.long x1), none]) (tb_ok aX8_chance_2 8 rfl) rfl rfl ?_
        refine s_lload (tb_ok aX8_chance_2 9 rfl) rfl ?_
        refine s_lstore (ls' := [some (.ref 66), some (.int seed), some (.int (nI n)), some (.int (nI kk)), some (.int (0)), some (.long (nI cc).toInt64), none, some (.long x2), none, some (.long x1), none, some (.long x1), none]) (tb_ok aX8_chance_2 10 rfl) rfl rfl ?_
        refine s_goto (tgt := 87) (tb_ok aX8_chance_2 11 rfl) (by decide) ?_
        have hm : a % (b0 + 1) < b0 + 1 := Nat.mod_lt _ (Nat.succ_pos b0)
        subst ex1
        subst ex2
        exact ih (a % (b0 + 1)) hm (b0 + 1) _ _ (by omega) hb (by omega) (by rw [Nat.gcd_comm, ← Nat.gcd_rec, Nat.gcd_comm]; exact hg)

set_option maxRecDepth 100000 in
set_option maxHeartbeats 1000000 in
theorem L_gcd1 {X : En} {q : Nat × Nat} {I I1 : FI} {L1 : FL} {seed : Int32} {n kk cc G : Nat} {RR : Int64} (hi : FrE eB I1 I) (hcc : cc < 2 ^ 31) (hn2 : n < 2 ^ 31) (hR : (nI (n / G)).toInt64 = RR) : ∀ (b a : Nat) (o11 o12 : Option Value), (0 < a ∨ 0 < b) → a < 2 ^ 31 → b < 2 ^ 31 → Nat.gcd a b = G → SW X 60 mX8_chance (0, 0) 87 [some (.ref 66), some (.int seed), some (.int (nI n)), some (.int (nI kk)), some (.int (1)), some (.long (nI cc).toInt64), none, some (.long (nI a).toInt64), none, some (.long (nI b).toInt64), none, o11, o12] [] S0 I1 L1 (R0 q) (KQ X (AfL q eB I RR)) := by
  intro b
  induction b using Nat.strongRecOn with
  | ind b ih =>
    intro a o11 o12 ha0 ha hb hg
    cases b with
    | zero =>
      have ha0 : 0 < a := by omega
      have hRR : (nI (n / a)).toInt64 = RR := by rw [Nat.gcd_zero_right] at hg; rw [hg, hR]
      refine s_lload (tb_ok aX8_chance_1 23 rfl) rfl ?_
      refine s_lconst (v := 0) (tb_ok aX8_chance_2 0 rfl) (by decide) ?_
      refine s_lcmp (tb_ok aX8_chance_2 1 rfl) ?_
      refine s_if_eq (tgt := 112) (tb_ok aX8_chance_2 2 rfl) (by decide) (fun c91 => ?_) (fun c91 => ?_)
      · refine s_iload (tb_ok aX8_chance_2 12 rfl) rfl ?_
        refine s_if_ne (tgt := 125) (tb_ok aX8_chance_2 13 rfl) (by decide) (fun c114 => ?_) (fun c114 => ?_)
        · refine s_iload_n (tb_ok aX8_chance_2 18 rfl) rfl ?_
          refine s_i2l (tb_ok aX8_chance_2 19 rfl) ?_
          refine s_lload (tb_ok aX8_chance_2 20 rfl) rfl ?_
          refine s_ldiv (tb_ok aX8_chance_2 21 rfl) (nz_L ha0 ha) ?_
          refine s_topl (div_L hn2 ha) ?_
          refine s_lret (tb_ok aX8_chance_2 22 rfl) rfl ?_
          exact ⟨by rw [hRR], rfl, rfl, hi⟩
        · exact absurd c114 (by decide)
      · exact absurd ((cmp_eq _ _).mpr rfl) c91
    | succ b0 =>
      refine s_lload (tb_ok aX8_chance_1 23 rfl) rfl ?_
      refine s_lconst (v := 0) (tb_ok aX8_chance_2 0 rfl) (by decide) ?_
      refine s_lcmp (tb_ok aX8_chance_2 1 rfl) ?_
      refine s_if_eq (tgt := 112) (tb_ok aX8_chance_2 2 rfl) (by decide) (fun c91 => ?_) (fun c91 => ?_)
      · exact absurd ((cmp_eq _ _).mp c91) (nz_L (by omega) hb)
      · refine s_lload (tb_ok aX8_chance_2 3 rfl) rfl ?_
        refine s_lload (tb_ok aX8_chance_2 4 rfl) rfl ?_
        refine s_lrem (tb_ok aX8_chance_2 5 rfl) (nz_L (by omega) hb) ?_
        refine s_topl (rem_L ha hb) ?_
        refine s_nameL (fun x1 ex1 => ?_)
        refine s_lstore (ls' := [some (.ref 66), some (.int seed), some (.int (nI n)), some (.int (nI kk)), some (.int (1)), some (.long (nI cc).toInt64), none, some (.long (nI a).toInt64), none, some (.long (nI (b0 + 1)).toInt64), none, some (.long x1), none]) (tb_ok aX8_chance_2 6 rfl) rfl rfl ?_
        refine s_lload (tb_ok aX8_chance_2 7 rfl) rfl ?_
        refine s_nameL (fun x2 ex2 => ?_)
        refine s_lstore (ls' := [some (.ref 66), some (.int seed), some (.int (nI n)), some (.int (nI kk)), some (.int (1)), some (.long (nI cc).toInt64), none, some (.long x2), none, some (.long (nI (b0 + 1)).toInt64), none, some (.long x1), none]) (tb_ok aX8_chance_2 8 rfl) rfl rfl ?_
        refine s_lload (tb_ok aX8_chance_2 9 rfl) rfl ?_
        refine s_lstore (ls' := [some (.ref 66), some (.int seed), some (.int (nI n)), some (.int (nI kk)), some (.int (1)), some (.long (nI cc).toInt64), none, some (.long x2), none, some (.long x1), none, some (.long x1), none]) (tb_ok aX8_chance_2 10 rfl) rfl rfl ?_
        refine s_goto (tgt := 87) (tb_ok aX8_chance_2 11 rfl) (by decide) ?_
        have hm : a % (b0 + 1) < b0 + 1 := Nat.mod_lt _ (Nat.succ_pos b0)
        subst ex1
        subst ex2
        exact ih (a % (b0 + 1)) hm (b0 + 1) _ _ (by omega) hb (by omega) (by rw [Nat.gcd_comm, ← Nat.gcd_rec, Nat.gcd_comm]; exact hg)

set_option maxRecDepth 100000 in
set_option maxHeartbeats 1000000 in
theorem R_chance0 {X : En} {L : FL} {q : Nat × Nat} {I : FI} {m : Nat} {fr fa : Nat → Int32} {M : Nat} {T : Nat → Nat → Int32} {d : Nat} {sem : Nat → Sem} (h : RSt I m fr fa M T d sem) (hd : d ≤ 5000) (seed : Int32) {n kk : Nat} (h1 : 1 ≤ n) (hn : n ≤ 20) (hk : kk ≤ 999) : Ev X 60 mX8_chance (0, 0) [.ref 66, .int seed, .int (nI n), .int (nI kk), .int (0)] S0 I L (R0 q) (AfL q eB I ((nI ((hitS (fun t => drwP sem fr fa m M (nI d) T (seed + nI t)) (nI kk) n) / (Nat.gcd (hitS (fun t => drwP sem fr fa m M (nI d) T (seed + nI t)) (nI kk) n) n))).toInt64)) := by
  have loop : ∀ k, k ≤ n → ∀ (I1 : FI), ∀ (L1 : FL), (FrE eB I1 I) → SW X 60 mX8_chance (0, 0) 45 [some (.ref 66), some (.int seed), some (.int (nI n)), some (.int (nI kk)), some (.int (0)), some (.long (nI (hitS (fun t => drwP sem fr fa m M (nI d) T (seed + nI t)) (nI kk) k)).toInt64), none, some (.int (nI k)), none, none, none, none, none] [] S0 I1 L1 (R0 q) (KQ X (AfL q eB I ((nI ((hitS (fun t => drwP sem fr fa m M (nI d) T (seed + nI t)) (nI kk) n) / (Nat.gcd (hitS (fun t => drwP sem fr fa m M (nI d) T (seed + nI t)) (nI kk) n) n))).toInt64))) := by
    refine for_up (P := fun k => ∀ (I1 : FI), ∀ (L1 : FL), (FrE eB I1 I) → SW X 60 mX8_chance (0, 0) 45 [some (.ref 66), some (.int seed), some (.int (nI n)), some (.int (nI kk)), some (.int (0)), some (.long (nI (hitS (fun t => drwP sem fr fa m M (nI d) T (seed + nI t)) (nI kk) k)).toInt64), none, some (.int (nI k)), none, none, none, none, none] [] S0 I1 L1 (R0 q) (KQ X (AfL q eB I ((nI ((hitS (fun t => drwP sem fr fa m M (nI d) T (seed + nI t)) (nI kk) n) / (Nat.gcd (hitS (fun t => drwP sem fr fa m M (nI d) T (seed + nI t)) (nI kk) n) n))).toInt64)))) n ?_ ?_
    · intro I1 L1 hi
      refine s_iload (tb_ok aX8_chance_1 0 rfl) rfl ?_
      refine s_iload_n (tb_ok aX8_chance_1 1 rfl) rfl ?_
      refine s_icmp_ge (tgt := 79) (tb_ok aX8_chance_1 2 rfl) (by decide) (fun c48 => ?_) (fun c48 => ?_)
      · refine s_lload (tb_ok aX8_chance_1 18 rfl) rfl ?_
        refine s_nameL (fun x1 ex1 => ?_)
        refine s_lstore (ls' := [some (.ref 66), some (.int seed), some (.int (nI n)), some (.int (nI kk)), some (.int (0)), some (.long (nI (hitS (fun t => drwP sem fr fa m M (nI d) T (seed + nI t)) (nI kk) n)).toInt64), none, some (.long x1), none, none, none, none, none]) (tb_ok aX8_chance_1 19 rfl) rfl rfl ?_
        refine s_iload_n (tb_ok aX8_chance_1 20 rfl) rfl ?_
        refine s_i2l (tb_ok aX8_chance_1 21 rfl) ?_
        refine s_nameL (fun x2 ex2 => ?_)
        refine s_lstore (ls' := [some (.ref 66), some (.int seed), some (.int (nI n)), some (.int (nI kk)), some (.int (0)), some (.long (nI (hitS (fun t => drwP sem fr fa m M (nI d) T (seed + nI t)) (nI kk) n)).toInt64), none, some (.long x1), none, some (.long x2), none, none, none]) (tb_ok aX8_chance_1 22 rfl) rfl rfl ?_
        subst ex1
        subst ex2
        have hle := hitS_le (v := (fun t => drwP sem fr fa m M (nI d) T (seed + nI t))) (kk := nI kk) n
        exact L_gcd0 (cc := (hitS (fun t => drwP sem fr fa m M (nI d) T (seed + nI t)) (nI kk) n)) (G := Nat.gcd (hitS (fun t => drwP sem fr fa m M (nI d) T (seed + nI t)) (nI kk) n) n) hi (by omega) (by omega) rfl n (hitS (fun t => drwP sem fr fa m M (nI d) T (seed + nI t)) (nI kk) n) _ _ (by omega) (by omega) (by omega) rfl
      · simp (disch := omega) only [nI_ltI, nI_leI, nI_eq] at c48
        omega
    · intro k hk ih I1 L1 hi
      refine s_iload (tb_ok aX8_chance_1 0 rfl) rfl ?_
      refine s_iload_n (tb_ok aX8_chance_1 1 rfl) rfl ?_
      refine s_icmp_ge (tgt := 79) (tb_ok aX8_chance_1 2 rfl) (by decide) (fun c48 => ?_) (fun c48 => ?_)
      · simp (disch := omega) only [nI_ltI, nI_leI, nI_eq] at c48
        omega
      · refine s_lload (tb_ok aX8_chance_1 3 rfl) rfl ?_
        refine s_aload_n (tb_ok aX8_chance_1 4 rfl) rfl ?_
        refine s_iload_n (tb_ok aX8_chance_1 5 rfl) rfl ?_
        refine s_iload (tb_ok aX8_chance_1 6 rfl) rfl ?_
        refine s_iadd (tb_ok aX8_chance_1 7 rfl) ?_
        refine s_cV (as := [_]) (tb_ok aX8_chance_1 8 rfl) v_RX8_430 (R_drawn (h.see (see_eB hi)) hd _) (by decide) rfl rfl rfl rfl rfl (Nat.le_of_ble_eq_true rfl) (by decide) (fun r1 S1 I1 L1 R1 q1 => ?_)
        obtain ⟨rfl, rfl, rfl, hf4⟩ := q1
        refine s_iload_n (tb_ok aX8_chance_1 9 rfl) rfl ?_
        refine s_icmp_lt (tgt := 69) (tb_ok aX8_chance_1 10 rfl) (by decide) (fun c62 => ?_) (fun c62 => ?_)
        · refine s_lconst (v := 0) (tb_ok aX8_chance_1 13 rfl) (by decide) ?_
          refine s_ladd (tb_ok aX8_chance_1 14 rfl) ?_
          refine s_topl (z := (nI (hitS (fun t => drwP sem fr fa m M (nI d) T (seed + nI t)) (nI kk) (k + 1))).toInt64) (by rw [show (hitS (fun t => drwP sem fr fa m M (nI d) T (seed + nI t)) (nI kk) (k + 1)) = (hitS (fun t => drwP sem fr fa m M (nI d) T (seed + nI t)) (nI kk) k) from if_pos c62]; exact Int64.add_zero _) ?_
          refine s_lstore (ls' := [some (.ref 66), some (.int seed), some (.int (nI n)), some (.int (nI kk)), some (.int (0)), some (.long (nI (hitS (fun t => drwP sem fr fa m M (nI d) T (seed + nI t)) (nI kk) (k + 1))).toInt64), none, some (.int (nI k)), none, none, none, none, none]) (tb_ok aX8_chance_1 15 rfl) rfl rfl ?_
          refine s_iinc (v := nI (k + 1)) (ls' := [some (.ref 66), some (.int seed), some (.int (nI n)), some (.int (nI kk)), some (.int (0)), some (.long (nI (hitS (fun t => drwP sem fr fa m M (nI d) T (seed + nI t)) (nI kk) (k + 1))).toInt64), none, some (.int (nI (k + 1))), none, none, none, none, none]) (tb_ok aX8_chance_1 16 rfl) rfl (nI_1 _) rfl rfl ?_
          refine s_goto (tgt := 45) (tb_ok aX8_chance_1 17 rfl) (by decide) ?_
          exact ih _ _ (hf4.trans hi)
        · refine s_lconst (v := 1) (tb_ok aX8_chance_1 11 rfl) (by decide) ?_
          refine s_goto (tgt := 70) (tb_ok aX8_chance_1 12 rfl) (by decide) ?_
          refine s_ladd (tb_ok aX8_chance_1 14 rfl) ?_
          refine s_topl (z := (nI (hitS (fun t => drwP sem fr fa m M (nI d) T (seed + nI t)) (nI kk) (k + 1))).toInt64) (by rw [show (hitS (fun t => drwP sem fr fa m M (nI d) T (seed + nI t)) (nI kk) (k + 1)) = (hitS (fun t => drwP sem fr fa m M (nI d) T (seed + nI t)) (nI kk) k) + 1 from if_neg c62]; exact add_L (b := 1) (by have := hitS_le (v := (fun t => drwP sem fr fa m M (nI d) T (seed + nI t))) (kk := nI kk) k; omega)) ?_
          refine s_lstore (ls' := [some (.ref 66), some (.int seed), some (.int (nI n)), some (.int (nI kk)), some (.int (0)), some (.long (nI (hitS (fun t => drwP sem fr fa m M (nI d) T (seed + nI t)) (nI kk) (k + 1))).toInt64), none, some (.int (nI k)), none, none, none, none, none]) (tb_ok aX8_chance_1 15 rfl) rfl rfl ?_
          refine s_iinc (v := nI (k + 1)) (ls' := [some (.ref 66), some (.int seed), some (.int (nI n)), some (.int (nI kk)), some (.int (0)), some (.long (nI (hitS (fun t => drwP sem fr fa m M (nI d) T (seed + nI t)) (nI kk) (k + 1))).toInt64), none, some (.int (nI (k + 1))), none, none, none, none, none]) (tb_ok aX8_chance_1 16 rfl) rfl (nI_1 _) rfl rfl ?_
          refine s_goto (tgt := 45) (tb_ok aX8_chance_1 17 rfl) (by decide) ?_
          exact ih _ _ (hf4.trans hi)
  refine ev_of (by decide +kernel) rfl ?_
  show SW X _ _ _ 0 [some (.ref 66), some (.int seed), some (.int (nI n)), some (.int (nI kk)), some (.int (0)), none, none, none, none, none, none, none, none] [] S0 I L (R0 q) _
  refine s_iload_n (tb_ok aX8_chance_0 0 rfl) rfl ?_
  refine s_i2l (tb_ok aX8_chance_0 1 rfl) ?_
  refine s_lconst (v := 1) (tb_ok aX8_chance_0 2 rfl) (by decide) ?_
  refine s_ldc2 (tb_ok aX8_chance_0 3 rfl) k_RX8_424 ?_
  refine s_cSp (as := [_, .long (1), .long (20)]) (tb_ok aX8_chance_0 4 rfl) v_RX8_73 (R_in _ _ _) (by decide) rfl rfl (Nat.le_of_ble_eq_true rfl) ?_
  refine s_topi (bI_t ((in_iff (x := nI n) (lo := 1) (hi := 20) rfl (by decide) (by decide)).mpr (in1N (hi := 20) hn h1 (by decide)))) ?_
  refine s_if_eq (tgt := 35) (tb_ok aX8_chance_0 5 rfl) (by decide) (fun c9 => ?_) (fun c9 => ?_)
  · exact absurd c9 (by decide)
  · refine s_iload_n (tb_ok aX8_chance_0 6 rfl) rfl ?_
    refine s_i2l (tb_ok aX8_chance_0 7 rfl) ?_
    refine s_lconst (v := 0) (tb_ok aX8_chance_0 8 rfl) (by decide) ?_
    refine s_ldc2 (tb_ok aX8_chance_0 9 rfl) k_RX8_433 ?_
    refine s_cSp (as := [_, .long (0), .long (999)]) (tb_ok aX8_chance_0 10 rfl) v_RX8_73 (R_in _ _ _) (by decide) rfl rfl (Nat.le_of_ble_eq_true rfl) ?_
    refine s_topi (bI_t ((in_iff (x := nI kk) (lo := 0) (hi := 999) rfl (by decide) (by decide)).mpr (inN (hi := 999) hk (by decide)))) ?_
    refine s_if_eq (tgt := 35) (tb_ok aX8_chance_0 11 rfl) (by decide) (fun c21 => ?_) (fun c21 => ?_)
    · exact absurd c21 (by decide)
    · refine s_iload (tb_ok aX8_chance_0 12 rfl) rfl ?_
      refine s_i2l (tb_ok aX8_chance_0 13 rfl) ?_
      refine s_lconst (v := 0) (tb_ok aX8_chance_0 14 rfl) (by decide) ?_
      refine s_lconst (v := 1) (tb_ok aX8_chance_0 15 rfl) (by decide) ?_
      refine s_cSp (as := [_, .long (0), .long (1)]) (tb_ok aX8_chance_0 16 rfl) v_RX8_73 (R_in _ _ _) (by decide) rfl rfl (Nat.le_of_ble_eq_true rfl) ?_
      refine s_topi (bI_t (by decide)) ?_
      refine s_if_ne (tgt := 39) (tb_ok aX8_chance_0 17 rfl) (by decide) (fun c32 => ?_) (fun c32 => ?_)
      · refine s_lconst (v := 0) (tb_ok aX8_chance_0 20 rfl) (by decide) ?_
        refine s_topl (z := (nI (hitS (fun t => drwP sem fr fa m M (nI d) T (seed + nI t)) (nI kk) 0)).toInt64) rfl ?_
        refine s_lstore (ls' := [some (.ref 66), some (.int seed), some (.int (nI n)), some (.int (nI kk)), some (.int (0)), some (.long (nI (hitS (fun t => drwP sem fr fa m M (nI d) T (seed + nI t)) (nI kk) 0)).toInt64), none, none, none, none, none, none, none]) (tb_ok aX8_chance_0 21 rfl) rfl rfl ?_
        refine s_iconst (v := nI 0) (tb_ok aX8_chance_0 22 rfl) (by decide) ?_
        refine s_istore (ls' := [some (.ref 66), some (.int seed), some (.int (nI n)), some (.int (nI kk)), some (.int (0)), some (.long (nI (hitS (fun t => drwP sem fr fa m M (nI d) T (seed + nI t)) (nI kk) 0)).toInt64), none, some (.int (nI 0)), none, none, none, none, none]) (tb_ok aX8_chance_0 23 rfl) rfl rfl ?_
        exact loop 0 (Nat.zero_le _) _ _ FrE.refl
      · exact absurd c32 (by decide)

set_option maxRecDepth 100000 in
set_option maxHeartbeats 1000000 in
theorem R_chance1 {X : En} {L : FL} {q : Nat × Nat} {I : FI} {m : Nat} {fr fa : Nat → Int32} {M : Nat} {T : Nat → Nat → Int32} {d : Nat} {sem : Nat → Sem} (h : RSt I m fr fa M T d sem) (hd : d ≤ 5000) (seed : Int32) {n kk : Nat} (h1 : 1 ≤ n) (hn : n ≤ 20) (hk : kk ≤ 999) : Ev X 60 mX8_chance (0, 0) [.ref 66, .int seed, .int (nI n), .int (nI kk), .int (1)] S0 I L (R0 q) (AfL q eB I ((nI (n / (Nat.gcd (hitS (fun t => drwP sem fr fa m M (nI d) T (seed + nI t)) (nI kk) n) n))).toInt64)) := by
  have loop : ∀ k, k ≤ n → ∀ (I1 : FI), ∀ (L1 : FL), (FrE eB I1 I) → SW X 60 mX8_chance (0, 0) 45 [some (.ref 66), some (.int seed), some (.int (nI n)), some (.int (nI kk)), some (.int (1)), some (.long (nI (hitS (fun t => drwP sem fr fa m M (nI d) T (seed + nI t)) (nI kk) k)).toInt64), none, some (.int (nI k)), none, none, none, none, none] [] S0 I1 L1 (R0 q) (KQ X (AfL q eB I ((nI (n / (Nat.gcd (hitS (fun t => drwP sem fr fa m M (nI d) T (seed + nI t)) (nI kk) n) n))).toInt64))) := by
    refine for_up (P := fun k => ∀ (I1 : FI), ∀ (L1 : FL), (FrE eB I1 I) → SW X 60 mX8_chance (0, 0) 45 [some (.ref 66), some (.int seed), some (.int (nI n)), some (.int (nI kk)), some (.int (1)), some (.long (nI (hitS (fun t => drwP sem fr fa m M (nI d) T (seed + nI t)) (nI kk) k)).toInt64), none, some (.int (nI k)), none, none, none, none, none] [] S0 I1 L1 (R0 q) (KQ X (AfL q eB I ((nI (n / (Nat.gcd (hitS (fun t => drwP sem fr fa m M (nI d) T (seed + nI t)) (nI kk) n) n))).toInt64)))) n ?_ ?_
    · intro I1 L1 hi
      refine s_iload (tb_ok aX8_chance_1 0 rfl) rfl ?_
      refine s_iload_n (tb_ok aX8_chance_1 1 rfl) rfl ?_
      refine s_icmp_ge (tgt := 79) (tb_ok aX8_chance_1 2 rfl) (by decide) (fun c48 => ?_) (fun c48 => ?_)
      · refine s_lload (tb_ok aX8_chance_1 18 rfl) rfl ?_
        refine s_nameL (fun x1 ex1 => ?_)
        refine s_lstore (ls' := [some (.ref 66), some (.int seed), some (.int (nI n)), some (.int (nI kk)), some (.int (1)), some (.long (nI (hitS (fun t => drwP sem fr fa m M (nI d) T (seed + nI t)) (nI kk) n)).toInt64), none, some (.long x1), none, none, none, none, none]) (tb_ok aX8_chance_1 19 rfl) rfl rfl ?_
        refine s_iload_n (tb_ok aX8_chance_1 20 rfl) rfl ?_
        refine s_i2l (tb_ok aX8_chance_1 21 rfl) ?_
        refine s_nameL (fun x2 ex2 => ?_)
        refine s_lstore (ls' := [some (.ref 66), some (.int seed), some (.int (nI n)), some (.int (nI kk)), some (.int (1)), some (.long (nI (hitS (fun t => drwP sem fr fa m M (nI d) T (seed + nI t)) (nI kk) n)).toInt64), none, some (.long x1), none, some (.long x2), none, none, none]) (tb_ok aX8_chance_1 22 rfl) rfl rfl ?_
        subst ex1
        subst ex2
        have hle := hitS_le (v := (fun t => drwP sem fr fa m M (nI d) T (seed + nI t))) (kk := nI kk) n
        exact L_gcd1 (cc := (hitS (fun t => drwP sem fr fa m M (nI d) T (seed + nI t)) (nI kk) n)) (G := Nat.gcd (hitS (fun t => drwP sem fr fa m M (nI d) T (seed + nI t)) (nI kk) n) n) hi (by omega) (by omega) rfl n (hitS (fun t => drwP sem fr fa m M (nI d) T (seed + nI t)) (nI kk) n) _ _ (by omega) (by omega) (by omega) rfl
      · simp (disch := omega) only [nI_ltI, nI_leI, nI_eq] at c48
        omega
    · intro k hk ih I1 L1 hi
      refine s_iload (tb_ok aX8_chance_1 0 rfl) rfl ?_
      refine s_iload_n (tb_ok aX8_chance_1 1 rfl) rfl ?_
      refine s_icmp_ge (tgt := 79) (tb_ok aX8_chance_1 2 rfl) (by decide) (fun c48 => ?_) (fun c48 => ?_)
      · simp (disch := omega) only [nI_ltI, nI_leI, nI_eq] at c48
        omega
      · refine s_lload (tb_ok aX8_chance_1 3 rfl) rfl ?_
        refine s_aload_n (tb_ok aX8_chance_1 4 rfl) rfl ?_
        refine s_iload_n (tb_ok aX8_chance_1 5 rfl) rfl ?_
        refine s_iload (tb_ok aX8_chance_1 6 rfl) rfl ?_
        refine s_iadd (tb_ok aX8_chance_1 7 rfl) ?_
        refine s_cV (as := [_]) (tb_ok aX8_chance_1 8 rfl) v_RX8_430 (R_drawn (h.see (see_eB hi)) hd _) (by decide) rfl rfl rfl rfl rfl (Nat.le_of_ble_eq_true rfl) (by decide) (fun r1 S1 I1 L1 R1 q1 => ?_)
        obtain ⟨rfl, rfl, rfl, hf4⟩ := q1
        refine s_iload_n (tb_ok aX8_chance_1 9 rfl) rfl ?_
        refine s_icmp_lt (tgt := 69) (tb_ok aX8_chance_1 10 rfl) (by decide) (fun c62 => ?_) (fun c62 => ?_)
        · refine s_lconst (v := 0) (tb_ok aX8_chance_1 13 rfl) (by decide) ?_
          refine s_ladd (tb_ok aX8_chance_1 14 rfl) ?_
          refine s_topl (z := (nI (hitS (fun t => drwP sem fr fa m M (nI d) T (seed + nI t)) (nI kk) (k + 1))).toInt64) (by rw [show (hitS (fun t => drwP sem fr fa m M (nI d) T (seed + nI t)) (nI kk) (k + 1)) = (hitS (fun t => drwP sem fr fa m M (nI d) T (seed + nI t)) (nI kk) k) from if_pos c62]; exact Int64.add_zero _) ?_
          refine s_lstore (ls' := [some (.ref 66), some (.int seed), some (.int (nI n)), some (.int (nI kk)), some (.int (1)), some (.long (nI (hitS (fun t => drwP sem fr fa m M (nI d) T (seed + nI t)) (nI kk) (k + 1))).toInt64), none, some (.int (nI k)), none, none, none, none, none]) (tb_ok aX8_chance_1 15 rfl) rfl rfl ?_
          refine s_iinc (v := nI (k + 1)) (ls' := [some (.ref 66), some (.int seed), some (.int (nI n)), some (.int (nI kk)), some (.int (1)), some (.long (nI (hitS (fun t => drwP sem fr fa m M (nI d) T (seed + nI t)) (nI kk) (k + 1))).toInt64), none, some (.int (nI (k + 1))), none, none, none, none, none]) (tb_ok aX8_chance_1 16 rfl) rfl (nI_1 _) rfl rfl ?_
          refine s_goto (tgt := 45) (tb_ok aX8_chance_1 17 rfl) (by decide) ?_
          exact ih _ _ (hf4.trans hi)
        · refine s_lconst (v := 1) (tb_ok aX8_chance_1 11 rfl) (by decide) ?_
          refine s_goto (tgt := 70) (tb_ok aX8_chance_1 12 rfl) (by decide) ?_
          refine s_ladd (tb_ok aX8_chance_1 14 rfl) ?_
          refine s_topl (z := (nI (hitS (fun t => drwP sem fr fa m M (nI d) T (seed + nI t)) (nI kk) (k + 1))).toInt64) (by rw [show (hitS (fun t => drwP sem fr fa m M (nI d) T (seed + nI t)) (nI kk) (k + 1)) = (hitS (fun t => drwP sem fr fa m M (nI d) T (seed + nI t)) (nI kk) k) + 1 from if_neg c62]; exact add_L (b := 1) (by have := hitS_le (v := (fun t => drwP sem fr fa m M (nI d) T (seed + nI t))) (kk := nI kk) k; omega)) ?_
          refine s_lstore (ls' := [some (.ref 66), some (.int seed), some (.int (nI n)), some (.int (nI kk)), some (.int (1)), some (.long (nI (hitS (fun t => drwP sem fr fa m M (nI d) T (seed + nI t)) (nI kk) (k + 1))).toInt64), none, some (.int (nI k)), none, none, none, none, none]) (tb_ok aX8_chance_1 15 rfl) rfl rfl ?_
          refine s_iinc (v := nI (k + 1)) (ls' := [some (.ref 66), some (.int seed), some (.int (nI n)), some (.int (nI kk)), some (.int (1)), some (.long (nI (hitS (fun t => drwP sem fr fa m M (nI d) T (seed + nI t)) (nI kk) (k + 1))).toInt64), none, some (.int (nI (k + 1))), none, none, none, none, none]) (tb_ok aX8_chance_1 16 rfl) rfl (nI_1 _) rfl rfl ?_
          refine s_goto (tgt := 45) (tb_ok aX8_chance_1 17 rfl) (by decide) ?_
          exact ih _ _ (hf4.trans hi)
  refine ev_of (by decide +kernel) rfl ?_
  show SW X _ _ _ 0 [some (.ref 66), some (.int seed), some (.int (nI n)), some (.int (nI kk)), some (.int (1)), none, none, none, none, none, none, none, none] [] S0 I L (R0 q) _
  refine s_iload_n (tb_ok aX8_chance_0 0 rfl) rfl ?_
  refine s_i2l (tb_ok aX8_chance_0 1 rfl) ?_
  refine s_lconst (v := 1) (tb_ok aX8_chance_0 2 rfl) (by decide) ?_
  refine s_ldc2 (tb_ok aX8_chance_0 3 rfl) k_RX8_424 ?_
  refine s_cSp (as := [_, .long (1), .long (20)]) (tb_ok aX8_chance_0 4 rfl) v_RX8_73 (R_in _ _ _) (by decide) rfl rfl (Nat.le_of_ble_eq_true rfl) ?_
  refine s_topi (bI_t ((in_iff (x := nI n) (lo := 1) (hi := 20) rfl (by decide) (by decide)).mpr (in1N (hi := 20) hn h1 (by decide)))) ?_
  refine s_if_eq (tgt := 35) (tb_ok aX8_chance_0 5 rfl) (by decide) (fun c9 => ?_) (fun c9 => ?_)
  · exact absurd c9 (by decide)
  · refine s_iload_n (tb_ok aX8_chance_0 6 rfl) rfl ?_
    refine s_i2l (tb_ok aX8_chance_0 7 rfl) ?_
    refine s_lconst (v := 0) (tb_ok aX8_chance_0 8 rfl) (by decide) ?_
    refine s_ldc2 (tb_ok aX8_chance_0 9 rfl) k_RX8_433 ?_
    refine s_cSp (as := [_, .long (0), .long (999)]) (tb_ok aX8_chance_0 10 rfl) v_RX8_73 (R_in _ _ _) (by decide) rfl rfl (Nat.le_of_ble_eq_true rfl) ?_
    refine s_topi (bI_t ((in_iff (x := nI kk) (lo := 0) (hi := 999) rfl (by decide) (by decide)).mpr (inN (hi := 999) hk (by decide)))) ?_
    refine s_if_eq (tgt := 35) (tb_ok aX8_chance_0 11 rfl) (by decide) (fun c21 => ?_) (fun c21 => ?_)
    · exact absurd c21 (by decide)
    · refine s_iload (tb_ok aX8_chance_0 12 rfl) rfl ?_
      refine s_i2l (tb_ok aX8_chance_0 13 rfl) ?_
      refine s_lconst (v := 0) (tb_ok aX8_chance_0 14 rfl) (by decide) ?_
      refine s_lconst (v := 1) (tb_ok aX8_chance_0 15 rfl) (by decide) ?_
      refine s_cSp (as := [_, .long (0), .long (1)]) (tb_ok aX8_chance_0 16 rfl) v_RX8_73 (R_in _ _ _) (by decide) rfl rfl (Nat.le_of_ble_eq_true rfl) ?_
      refine s_topi (bI_t (by decide)) ?_
      refine s_if_ne (tgt := 39) (tb_ok aX8_chance_0 17 rfl) (by decide) (fun c32 => ?_) (fun c32 => ?_)
      · refine s_lconst (v := 0) (tb_ok aX8_chance_0 20 rfl) (by decide) ?_
        refine s_topl (z := (nI (hitS (fun t => drwP sem fr fa m M (nI d) T (seed + nI t)) (nI kk) 0)).toInt64) rfl ?_
        refine s_lstore (ls' := [some (.ref 66), some (.int seed), some (.int (nI n)), some (.int (nI kk)), some (.int (1)), some (.long (nI (hitS (fun t => drwP sem fr fa m M (nI d) T (seed + nI t)) (nI kk) 0)).toInt64), none, none, none, none, none, none, none]) (tb_ok aX8_chance_0 21 rfl) rfl rfl ?_
        refine s_iconst (v := nI 0) (tb_ok aX8_chance_0 22 rfl) (by decide) ?_
        refine s_istore (ls' := [some (.ref 66), some (.int seed), some (.int (nI n)), some (.int (nI kk)), some (.int (1)), some (.long (nI (hitS (fun t => drwP sem fr fa m M (nI d) T (seed + nI t)) (nI kk) 0)).toInt64), none, some (.int (nI 0)), none, none, none, none, none]) (tb_ok aX8_chance_0 23 rfl) rfl rfl ?_
        exact loop 0 (Nat.zero_le _) _ _ FrE.refl
      · exact absurd c32 (by decide)

set_option maxRecDepth 100000 in
set_option maxHeartbeats 1000000 in
theorem R_chanceB {X : En} {L : FL} {q : Nat × Nat} {I : FI} {m : Nat} {fr fa : Nat → Int32} {M : Nat} {T : Nat → Nat → Int32} {d : Nat} {sem : Nat → Sem} (h : RSt I m fr fa M T d sem) {x z t w : Int32} (hv : ¬ ((¬ z < 1 ∧ ¬ 20 < z) ∧ (¬ t < 0 ∧ ¬ 999 < t) ∧ (¬ w < 0 ∧ ¬ 1 < w))) : Ev X 60 mX8_chance (0, 0) [.ref 66, .int x, .int z, .int t, .int w] S0 I L (R0 q) (AfL q eB I (-4611686018427387904)) := by
  refine ev_of (by decide +kernel) rfl ?_
  show SW X _ _ _ 0 [some (.ref 66), some (.int x), some (.int z), some (.int t), some (.int w), none, none, none, none, none, none, none, none] [] S0 I L (R0 q) _
  refine s_iload_n (tb_ok aX8_chance_0 0 rfl) rfl ?_
  refine s_i2l (tb_ok aX8_chance_0 1 rfl) ?_
  refine s_lconst (v := 1) (tb_ok aX8_chance_0 2 rfl) (by decide) ?_
  refine s_ldc2 (tb_ok aX8_chance_0 3 rfl) k_RX8_424 ?_
  refine s_cSp (as := [_, .long (1), .long (20)]) (tb_ok aX8_chance_0 4 rfl) v_RX8_73 (R_in _ _ _) (by decide) rfl rfl (Nat.le_of_ble_eq_true rfl) ?_
  refine s_topi (bI_congr (in_iff (lo := 1) (hi := 20) rfl (by decide) (by decide))) ?_
  refine s_if_eq (tgt := 35) (tb_ok aX8_chance_0 5 rfl) (by decide) (fun c9 => ?_) (fun c9 => ?_)
  · refine s_ldc2 (tb_ok aX8_chance_0 18 rfl) k_RX8_435 ?_
    refine s_lret (tb_ok aX8_chance_0 19 rfl) rfl ?_
    exact ⟨rfl, rfl, rfl, FrE.refl⟩
  · refine s_iload_n (tb_ok aX8_chance_0 6 rfl) rfl ?_
    refine s_i2l (tb_ok aX8_chance_0 7 rfl) ?_
    refine s_lconst (v := 0) (tb_ok aX8_chance_0 8 rfl) (by decide) ?_
    refine s_ldc2 (tb_ok aX8_chance_0 9 rfl) k_RX8_433 ?_
    refine s_cSp (as := [_, .long (0), .long (999)]) (tb_ok aX8_chance_0 10 rfl) v_RX8_73 (R_in _ _ _) (by decide) rfl rfl (Nat.le_of_ble_eq_true rfl) ?_
    refine s_topi (bI_congr (in_iff (lo := 0) (hi := 999) rfl (by decide) (by decide))) ?_
    refine s_if_eq (tgt := 35) (tb_ok aX8_chance_0 11 rfl) (by decide) (fun c21 => ?_) (fun c21 => ?_)
    · refine s_ldc2 (tb_ok aX8_chance_0 18 rfl) k_RX8_435 ?_
      refine s_lret (tb_ok aX8_chance_0 19 rfl) rfl ?_
      exact ⟨rfl, rfl, rfl, FrE.refl⟩
    · refine s_iload (tb_ok aX8_chance_0 12 rfl) rfl ?_
      refine s_i2l (tb_ok aX8_chance_0 13 rfl) ?_
      refine s_lconst (v := 0) (tb_ok aX8_chance_0 14 rfl) (by decide) ?_
      refine s_lconst (v := 1) (tb_ok aX8_chance_0 15 rfl) (by decide) ?_
      refine s_cSp (as := [_, .long (0), .long (1)]) (tb_ok aX8_chance_0 16 rfl) v_RX8_73 (R_in _ _ _) (by decide) rfl rfl (Nat.le_of_ble_eq_true rfl) ?_
      refine s_topi (bI_congr (in_iff (lo := 0) (hi := 1) rfl (by decide) (by decide))) ?_
      refine s_if_ne (tgt := 39) (tb_ok aX8_chance_0 17 rfl) (by decide) (fun c32 => ?_) (fun c32 => ?_)
      · exact absurd ⟨bI_n c9, bI_n c21, bI_n c32⟩ hv
      · refine s_ldc2 (tb_ok aX8_chance_0 18 rfl) k_RX8_435 ?_
        refine s_lret (tb_ok aX8_chance_0 19 rfl) rfl ?_
        exact ⟨rfl, rfl, rfl, FrE.refl⟩
