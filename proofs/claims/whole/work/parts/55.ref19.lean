/-! the reference: texts, sheets, copies, images -/
/-- the cells b .. b + k - 1 of o, laid by g -/
def flB (I : FI) (o b : Nat) (g : Nat → Int32) (k : Nat) : FI := fun a j => if a = o ∧ b ≤ j ∧ j < b + k then g (j - b) else I a j
theorem flB_0 {I : FI} {o b : Nat} {g : Nat → Int32} : flB I o b g 0 = I := by
  funext a j
  unfold flB
  rw [if_neg (by omega)]
theorem flB_s {I : FI} {o b : Nat} {g : Nat → Int32} {k : Nat} {x : Int32} (h : x = g k) : up2 (flB I o b g k) o (b + k) x = flB I o b g (k + 1) := by
  funext a j
  by_cases e : a = o ∧ j = b + k
  · obtain ⟨e1, e2⟩ := e
    subst e1 e2
    rw [up2_oo, h]
    unfold flB
    rw [if_pos (by omega), show b + k - b = k by omega]
  · rw [up2_nn _ _ e]
    unfold flB
    by_cases h2 : a = o ∧ b ≤ j ∧ j < b + k
    · rw [if_pos h2, if_pos ⟨h2.1, h2.2.1, by omega⟩]
    · rw [if_neg h2, if_neg (fun h3 => h2 ⟨h3.1, h3.2.1, by
        rcases Nat.lt_or_eq_of_le (Nat.le_of_lt_succ (show j < b + k + 1 by omega)) with h4 | h4
        · exact h4
        · exact absurd ⟨h3.1, h4⟩ e⟩)]
theorem flB_at {I : FI} {o b : Nat} {g : Nat → Int32} {k i : Nat} (h : i < k) : flB I o b g k o (b + i) = g i := by
  unfold flB
  rw [if_pos ⟨rfl, by omega, by omega⟩, show b + i - b = i by omega]
theorem flB_n {I : FI} {o b : Nat} {g : Nat → Int32} {k a j : Nat} (h : ¬ (a = o ∧ b ≤ j ∧ j < b + k)) : flB I o b g k a j = I a j := if_neg h
/-- from the far end down -/
theorem flB_d {I : FI} {o b : Nat} {g : Nat → Int32} {k : Nat} {x : Int32} (h : x = g b) : up2 (flB I o (b + 1) (fun i => g (b + 1 + i)) k) o b x = flB I o b (fun i => g (b + i)) (k + 1) := by
  funext a j
  by_cases e : a = o ∧ j = b
  · obtain ⟨e1, e2⟩ := e
    subst e1 e2
    rw [up2_oo, h]
    unfold flB
    rw [if_pos ⟨rfl, by omega, by omega⟩, Nat.sub_self]
    rfl
  · rw [up2_nn _ _ e]
    unfold flB
    by_cases h2 : a = o ∧ b + 1 ≤ j ∧ j < b + 1 + k
    · rw [if_pos h2, if_pos ⟨h2.1, by omega, by omega⟩]
      show g (b + 1 + (j - (b + 1))) = g (b + (j - b))
      congr 1
      omega
    · rw [if_neg h2, if_neg (fun h3 => h2 ⟨h3.1, by
        rcases Nat.lt_or_eq_of_le h3.2.1 with h4 | h4
        · exact h4
        · exact absurd ⟨h3.1, h4.symm⟩ e, by omega⟩)]
set_option maxRecDepth 100000 in
set_option maxHeartbeats 1000000 in
theorem R_textF {X : En} {L : FL} {q : Nat × Nat} {I : FI} (htx : I 66 3 = nI 6) : Ev X 52 mX8_text (0, 0) [.ref 66] S0 I L (R0 q) (PureR (some (.int (-4))) S0 (I) L (R0 q)) := by
  refine ev_of (by decide +kernel) rfl ?_
  show SW X _ _ _ 0 [some (.ref 66), none] [] S0 I L (R0 q) _
  refine s_aload_n (tb_ok aX8_text_0 0 rfl) rfl ?_
  refine s_getI (x := (nI 6)) (tb_ok aX8_text_0 1 rfl) f_RX8_67 rfl rfl htx ?_
  refine s_bipush (v := nI 6) (tb_ok aX8_text_0 2 rfl) (by decide) ?_
  refine s_icmp_ne (tgt := 12) (tb_ok aX8_text_0 3 rfl) (by decide) (fun c6 => ?_) (fun c6 => ?_)
  · exact absurd c6 (by decide)
  · refine s_bipush (v := -4) (tb_ok aX8_text_0 4 rfl) (by decide) ?_
    refine s_iret (tb_ok aX8_text_0 5 rfl) rfl ?_
    exact pureR

def eT (tx tn o k : Nat) : Prop := eS o k ∨ (o = 66 ∧ k = 3) ∨ (o = 66 ∧ k = 6) ∨ (o = 68 ∧ k = tx) ∨ (o = 67 ∧ 160 * tx ≤ k ∧ k < 160 * tx + tn)
/-- what a text leaves: refused (some place) or taken -/
def ZX (tx : Nat) (J : FI) : TR → Int32 → FI → Prop
  | .inl _, v, I => v = nI tx ∧ I 66 3 = nI (tx + 1)
  | .inr f, v, I => v = -100 - nI f ∧ I 66 3 = nI tx
def W7 (I : FI) (tx tn : Nat) : FI := up2 (up2 (flB I 67 (160 * tx) (fun k => I 69 k) tn) 68 tx (nI tn)) 66 6 0
set_option maxRecDepth 100000 in
set_option maxHeartbeats 1000000 in
theorem R_text {X : En} {L : FL} {q : Nat × Nat} {I : FI} {tx tn : Nat} (htx : I 66 3 = nI tx) (htx6 : tx < 6) (htn : I 66 6 = nI tn) (htn2 : tn ≤ 160) (hpos : ∀ k, k < tn → ¬ I 69 k < 0) (v0 : Int32) : Ev X 52 mX8_text (0, 0) [.ref 66] S0 I L (R0 q) ((fun r S' I' L' R' => S' = S0 ∧ R' = R0 q ∧ FrE (eT tx tn) I' I ∧ I' 66 6 = 0 ∧ I' 68 tx = nI tn ∧ (∀ k, k < tn → I' 67 (160 * tx + k) = I 69 k) ∧ ∃ v, r = some (.int v) ∧ ZX tx I (readP (fun k => I 69 k) tn v0) v I')) := by
  have h68 : W7 I tx tn 68 tx = nI tn := (up2_nn _ _ (by omega)).trans (up2_oo _ _ _ _)
  have hT : TxX (hdX (W7 I tx tn) tx tn) (160 * tx) tn (fun k => I 69 k) (fun k => I 66 (14 + k)) := by
    refine ⟨rfl, rfl, htn2, by omega, fun k hk => flB_at hk, hpos, fun k hk => ?_⟩
    match k, hk with
    | 0, _ => rfl
    | 1, _ => rfl
    | 2, _ => rfl
    | 3, _ => rfl
    | 4, _ => rfl
    | 5, _ => rfl
  have loop : ∀ k, k ≤ tn → SW X 52 mX8_text (0, 0) 14 [some (.ref 66), some (.int (nI k))] [] S0 (flB I 67 (160 * tx) (fun k => I 69 k) k) L (R0 q) (KQ X (fun r S' I' L' R' => S' = S0 ∧ R' = R0 q ∧ FrE (eT tx tn) I' I ∧ I' 66 6 = 0 ∧ I' 68 tx = nI tn ∧ (∀ k, k < tn → I' 67 (160 * tx + k) = I 69 k) ∧ ∃ v, r = some (.int v) ∧ ZX tx I (readP (fun k => I 69 k) tn v0) v I')) := by
    refine for_up (P := fun k => SW X 52 mX8_text (0, 0) 14 [some (.ref 66), some (.int (nI k))] [] S0 (flB I 67 (160 * tx) (fun k => I 69 k) k) L (R0 q) (KQ X (fun r S' I' L' R' => S' = S0 ∧ R' = R0 q ∧ FrE (eT tx tn) I' I ∧ I' 66 6 = 0 ∧ I' 68 tx = nI tn ∧ (∀ k, k < tn → I' 67 (160 * tx + k) = I 69 k) ∧ ∃ v, r = some (.int v) ∧ ZX tx I (readP (fun k => I 69 k) tn v0) v I'))) tn ?_ ?_
    · refine s_iload_n (tb_ok aX8_text_0 8 rfl) rfl ?_
      refine s_aload_n (tb_ok aX8_text_0 9 rfl) rfl ?_
      refine s_getI (x := (nI tn)) (tb_ok aX8_text_0 10 rfl) f_RX8_138 rfl rfl htn ?_
      refine s_icmp_ge (tgt := 49) (tb_ok aX8_text_0 11 rfl) (by decide) (fun c19 => ?_) (fun c19 => ?_)
      · refine s_aload_n (tb_ok aX8_text_1 3 rfl) rfl ?_
        refine s_getR (r := 68) (tb_ok aX8_text_1 4 rfl) f_RX8_17 rfl rfl rfl ?_
        refine s_aload_n (tb_ok aX8_text_1 5 rfl) rfl ?_
        refine s_getI (x := (nI tx)) (tb_ok aX8_text_1 6 rfl) f_RX8_67 rfl rfl htx ?_
        refine s_aload_n (tb_ok aX8_text_1 7 rfl) rfl ?_
        refine s_getI (x := (nI tn)) (tb_ok aX8_text_1 8 rfl) f_RX8_138 rfl rfl htn ?_
        refine s_iastN (tb_ok aX8_text_1 9 rfl) rfl (by omega) (by decide) ?_
        refine s_aload_n (tb_ok aX8_text_1 10 rfl) rfl ?_
        refine s_iconst (v := 0) (tb_ok aX8_text_1 11 rfl) (by decide) ?_
        refine s_putI (tb_ok aX8_text_1 12 rfl) f_RX8_138 rfl rfl ?_
        refine s_aload_n (tb_ok aX8_text_1 13 rfl) rfl ?_
        refine s_aload_n (tb_ok aX8_text_1 14 rfl) rfl ?_
        refine s_getI (x := (nI tx)) (tb_ok aX8_text_1 15 rfl) f_RX8_67 rfl rfl htx ?_
        refine s_iconst (v := 0) (tb_ok aX8_text_1 16 rfl) (by decide) ?_
        refine s_cV (as := [.int (nI tx), .int (0)]) (tb_ok aX8_text_1 17 rfl) v_RX8_342 (R_read (I := W7 I tx tn) (T := tx) (n := tn) (t := fun k => I 69 k) (nm := fun k => I 66 (14 + k)) hT (show W7 I tx tn 68 tx = nI tn from (up2_nn _ _ (by omega)).trans (up2_oo _ _ _ _)) htx6 0 v0) (by decide) rfl rfl rfl rfl rfl (Nat.le_of_ble_eq_true rfl) (by decide) (fun r1 S1 I1 L1 R1 q1 => ?_)
        obtain ⟨rfl, rfl, hfr, vr, rfl, hz⟩ := q1
        have hfe : FrE (eT tx tn) I1 I := fun o k hn => by
          rw [hfr o k (fun e => hn (Or.inl ⟨e.1, by omega, by omega⟩))]
          show hdX (W7 I tx tn) tx tn o k = I o k
          unfold hdX W7
          rw [up2_nn _ _ (fun e => hn (Or.inl ⟨e.1, by omega, by omega⟩)), up2_nn _ _ (fun e => hn (Or.inl ⟨e.1, by omega, by omega⟩)), up2_nn _ _ (fun e => hn (Or.inr (Or.inr (Or.inl e)))), up2_nn _ _ (fun e => hn (Or.inr (Or.inr (Or.inr (Or.inl e))))), flB_n (fun e => hn (Or.inr (Or.inr (Or.inr (Or.inr e)))))]
        refine s_istore_n (ls' := [some (.ref 66), some (.int vr)]) (tb_ok aX8_text_1 18 rfl) rfl rfl ?_
        refine s_aload_n (tb_ok aX8_text_1 19 rfl) rfl ?_
        refine s_getI (tb_ok aX8_text_1 20 rfl) f_RX8_173 rfl rfl rfl ?_
        refine s_if_eq (tgt := 92) (tb_ok aX8_text_1 21 rfl) (by decide) (fun c81 => ?_) (fun c81 => ?_)
        · refine s_aload_n (tb_ok aX8_text_2 3 rfl) rfl ?_
          refine s_dup (tb_ok aX8_text_2 4 rfl) rfl ?_
          refine s_getI (x := (nI tx)) (tb_ok aX8_text_2 5 rfl) f_RX8_67 rfl rfl ((hfr 66 3 (by omega)).trans htx) ?_
          refine s_iconst (v := 1) (tb_ok aX8_text_2 6 rfl) (by decide) ?_
          refine s_iadd (tb_ok aX8_text_2 7 rfl) ?_
          refine s_topi (z := (nI (tx + 1))) (nI_add' tx 1) ?_
          refine s_putI (tb_ok aX8_text_2 8 rfl) f_RX8_67 rfl rfl ?_
          refine s_aload_n (tb_ok aX8_text_2 9 rfl) rfl ?_
          refine s_getI (x := (nI (tx + 1))) (tb_ok aX8_text_2 10 rfl) f_RX8_67 rfl rfl rfl ?_
          refine s_iconst (v := 1) (tb_ok aX8_text_2 11 rfl) (by decide) ?_
          refine s_isub (tb_ok aX8_text_2 12 rfl) ?_
          refine s_topi (z := (nI tx)) (nI_sub' (a := 1) (b := tx + 1) (by omega)) ?_
          refine s_iret (tb_ok aX8_text_2 13 rfl) rfl ?_
          cases hr : readP (fun k => I 69 k) tn v0 with
          | inl p =>
            rw [hr] at hz
            exact ⟨rfl, rfl, hfe.put (Or.inr (Or.inl ⟨rfl, rfl⟩)) _, (hfr 66 6 (by omega)).trans rfl, (hfr 68 tx (by omega)).trans h68, fun k hk => (hfr 67 _ (by omega)).trans (flB_at hk), _, rfl, rfl, rfl⟩
          | inr f => rw [hr] at hz; rw [hz.1] at c81; exact absurd c81 (by decide)
        · refine s_bipush (v := -100) (tb_ok aX8_text_1 22 rfl) (by decide) ?_
          refine s_aload_n (tb_ok aX8_text_1 23 rfl) rfl ?_
          refine s_getI (tb_ok aX8_text_2 0 rfl) f_RX8_177 rfl rfl rfl ?_
          refine s_isub (tb_ok aX8_text_2 1 rfl) ?_
          refine s_iret (tb_ok aX8_text_2 2 rfl) rfl ?_
          cases hr : readP (fun k => I 69 k) tn v0 with
          | inl p => rw [hr] at hz; exact absurd hz.2 c81
          | inr f =>
            rw [hr] at hz
            refine ⟨rfl, rfl, hfe, (hfr 66 6 (by omega)).trans rfl, (hfr 68 tx (by omega)).trans h68, fun k hk => (hfr 67 _ (by omega)).trans (flB_at hk), _, rfl, ?_, (hfr 66 3 (by omega)).trans htx⟩
            rw [hz.2]
      · simp (disch := omega) only [nI_ltI, nI_leI, nI_eq] at c19
        omega
    · intro k hk ih
      refine s_iload_n (tb_ok aX8_text_0 8 rfl) rfl ?_
      refine s_aload_n (tb_ok aX8_text_0 9 rfl) rfl ?_
      refine s_getI (x := (nI tn)) (tb_ok aX8_text_0 10 rfl) f_RX8_138 rfl rfl htn ?_
      refine s_icmp_ge (tgt := 49) (tb_ok aX8_text_0 11 rfl) (by decide) (fun c19 => ?_) (fun c19 => ?_)
      · simp (disch := omega) only [nI_ltI, nI_leI, nI_eq] at c19
        omega
      · refine s_aload_n (tb_ok aX8_text_0 12 rfl) rfl ?_
        refine s_getR (r := 67) (tb_ok aX8_text_0 13 rfl) f_RX8_13 rfl rfl rfl ?_
        refine s_sipush (v := 160) (tb_ok aX8_text_0 14 rfl) (by decide) ?_
        refine s_aload_n (tb_ok aX8_text_0 15 rfl) rfl ?_
        refine s_getI (x := (nI tx)) (tb_ok aX8_text_0 16 rfl) f_RX8_67 rfl rfl htx ?_
        refine s_imul (tb_ok aX8_text_0 17 rfl) ?_
        refine s_topi (z := (nI (160 * tx))) (nI_mul 160 tx) ?_
        refine s_iload_n (tb_ok aX8_text_0 18 rfl) rfl ?_
        refine s_iadd (tb_ok aX8_text_0 19 rfl) ?_
        refine s_topi (z := (nI (160 * tx + k))) (nI_add' (160 * tx) k) ?_
        refine s_aload_n (tb_ok aX8_text_0 20 rfl) rfl ?_
        refine s_getR (r := 69) (tb_ok aX8_text_0 21 rfl) f_RX8_20 rfl rfl rfl ?_
        refine s_iload_n (tb_ok aX8_text_0 22 rfl) rfl ?_
        refine s_ialdN (tb_ok aX8_text_0 23 rfl) rfl (by omega) (by decide) ?_
        refine s_iastN (tb_ok aX8_text_1 0 rfl) rfl (by omega) (by decide) ?_
        refine s_iinc (v := nI (k + 1)) (ls' := [some (.ref 66), some (.int (nI (k + 1)))]) (tb_ok aX8_text_1 1 rfl) rfl (nI_1 _) rfl rfl ?_
        refine s_goto (tgt := 14) (tb_ok aX8_text_1 2 rfl) (by decide) ?_
        rw [flB_s (show flB I 67 (160 * tx) (fun k => I 69 k) k 69 k = I 69 k from flB_n (by omega))]
        exact ih
  refine ev_of (by decide +kernel) rfl ?_
  show SW X _ _ _ 0 [some (.ref 66), none] [] S0 I L (R0 q) _
  refine s_aload_n (tb_ok aX8_text_0 0 rfl) rfl ?_
  refine s_getI (x := (nI tx)) (tb_ok aX8_text_0 1 rfl) f_RX8_67 rfl rfl htx ?_
  refine s_bipush (v := nI 6) (tb_ok aX8_text_0 2 rfl) (by decide) ?_
  refine s_icmp_ne (tgt := 12) (tb_ok aX8_text_0 3 rfl) (by decide) (fun c6 => ?_) (fun c6 => ?_)
  · refine s_iconst (v := nI 0) (tb_ok aX8_text_0 6 rfl) (by decide) ?_
    refine s_istore_n (ls' := [some (.ref 66), some (.int (nI 0))]) (tb_ok aX8_text_0 7 rfl) rfl rfl ?_
    refine s_eqI (flB_0 (o := 67) (b := 160 * tx) (g := fun k => I 69 k)).symm ?_
    exact loop 0 (Nat.zero_le _)
  · simp (disch := omega) only [nI_ltI, nI_leI, nI_eq] at c6
    omega

set_option maxRecDepth 100000 in
set_option maxHeartbeats 1000000 in
theorem R_sheetM {X : En} {L : FL} {q : Nat × Nat} {I : FI} {s : Nat} (hs : s < 4) (n : Int32) : Ev X 3 mX8_sheet (0, 0) [.ref 66, .int (nI s), .int (-1), .int n] S0 I L (R0 q) (PureR (some (.int 1)) S0 (up2 (up2 (up2 I 78 s 0) 79 s (-1)) 80 s n) L (R0 q)) := by
  refine ev_of (by decide +kernel) rfl ?_
  show SW X _ _ _ 0 [some (.ref 66), some (.int (nI s)), some (.int (-1)), some (.int n), none] [] S0 I L (R0 q) _
  refine s_iload_n (tb_ok aX8_sheet_0 0 rfl) rfl ?_
  refine s_cSp (as := [.int (nI s)]) (tb_ok aX8_sheet_0 1 rfl) v_RX8_413 (R_isSheet _) (by decide) rfl rfl (Nat.le_of_ble_eq_true rfl) ?_
  refine s_topi (bI_t (inN (n := s) (hi := 3) (by omega) (by decide))) ?_
  refine s_if_eq (tgt := 31) (tb_ok aX8_sheet_0 2 rfl) (by decide) (fun c4 => ?_) (fun c4 => ?_)
  · exact absurd c4 (by decide)
  · refine s_iload_n (tb_ok aX8_sheet_0 3 rfl) rfl ?_
    refine s_i2l (tb_ok aX8_sheet_0 4 rfl) ?_
    refine s_ldc2 (tb_ok aX8_sheet_0 5 rfl) k_RX8_446 ?_
    refine s_ldc2 (tb_ok aX8_sheet_0 6 rfl) k_RX8_352 ?_
    refine s_cSp (as := [_, .long (-1), .long (2)]) (tb_ok aX8_sheet_0 7 rfl) v_RX8_73 (R_in _ _ _) (by decide) rfl rfl (Nat.le_of_ble_eq_true rfl) ?_
    refine s_topi (bI_t (by decide)) ?_
    refine s_if_eq (tgt := 31) (tb_ok aX8_sheet_0 8 rfl) (by decide) (fun c18 => ?_) (fun c18 => ?_)
    · exact absurd c18 (by decide)
    · refine s_iload_n (tb_ok aX8_sheet_0 9 rfl) rfl ?_
      refine s_if_lt (tgt := 34) (tb_ok aX8_sheet_0 10 rfl) (by decide) (fun c22 => ?_) (fun c22 => ?_)
      · refine s_iload_n (tb_ok aX8_sheet_0 16 rfl) rfl ?_
        refine s_if_lt (tgt := 45) (tb_ok aX8_sheet_0 17 rfl) (by decide) (fun c35 => ?_) (fun c35 => ?_)
        · refine s_aload_n (tb_ok aX8_sheet_0 22 rfl) rfl ?_
          refine s_getR (r := 78) (tb_ok aX8_sheet_0 23 rfl) f_RX8_50 rfl rfl rfl ?_
          refine s_iload_n (tb_ok aX8_sheet_1 0 rfl) rfl ?_
          refine s_iload_n (tb_ok aX8_sheet_1 1 rfl) rfl ?_
          refine s_if_lt (tgt := 58) (tb_ok aX8_sheet_1 2 rfl) (by decide) (fun c51 => ?_) (fun c51 => ?_)
          · refine s_iconst (v := 0) (tb_ok aX8_sheet_1 5 rfl) (by decide) ?_
            refine s_bast (tb_ok aX8_sheet_1 6 rfl) rfl (lw_in hs (by decide)) (Or.inl rfl) ?_
            rw [nI_clamp (by omega)]
            refine s_aload_n (tb_ok aX8_sheet_1 7 rfl) rfl ?_
            refine s_getR (r := 79) (tb_ok aX8_sheet_1 8 rfl) f_RX8_54 rfl rfl rfl ?_
            refine s_iload_n (tb_ok aX8_sheet_1 9 rfl) rfl ?_
            refine s_iload_n (tb_ok aX8_sheet_1 10 rfl) rfl ?_
            refine s_iastN (tb_ok aX8_sheet_1 11 rfl) rfl (by omega) (by decide) ?_
            refine s_aload_n (tb_ok aX8_sheet_1 12 rfl) rfl ?_
            refine s_getR (r := 80) (tb_ok aX8_sheet_1 13 rfl) f_RX8_57 rfl rfl rfl ?_
            refine s_iload_n (tb_ok aX8_sheet_1 14 rfl) rfl ?_
            refine s_iload_n (tb_ok aX8_sheet_1 15 rfl) rfl ?_
            refine s_iastN (tb_ok aX8_sheet_1 16 rfl) rfl (by omega) (by decide) ?_
            refine s_iconst (v := 0) (tb_ok aX8_sheet_1 17 rfl) (by decide) ?_
            refine s_istore (ls' := [some (.ref 66), some (.int (nI s)), some (.int (-1)), some (.int n), some (.int (0))]) (tb_ok aX8_sheet_1 18 rfl) rfl rfl ?_
            refine s_iload (tb_ok aX8_sheet_1 19 rfl) rfl ?_
            refine s_iload_n (tb_ok aX8_sheet_1 20 rfl) rfl ?_
            refine s_icmp_ge (tgt := 106) (tb_ok aX8_sheet_1 21 rfl) (by decide) (fun c80 => ?_) (fun c80 => ?_)
            · refine s_iconst (v := 1) (tb_ok aX8_sheet_2 11 rfl) (by decide) ?_
              refine s_iret (tb_ok aX8_sheet_2 12 rfl) rfl ?_
              exact pureR
            · refine s_iload_n (tb_ok aX8_sheet_1 22 rfl) rfl ?_
              refine s_if_lt (tgt := 106) (tb_ok aX8_sheet_1 23 rfl) (by decide) (fun c84 => ?_) (fun c84 => ?_)
              · refine s_iconst (v := 1) (tb_ok aX8_sheet_2 11 rfl) (by decide) ?_
                refine s_iret (tb_ok aX8_sheet_2 12 rfl) rfl ?_
                exact pureR
              · exact absurd c84 (by decide)
          · exact absurd c51 (by decide)
        · exact absurd c35 (by decide)
      · exact absurd c22 (by decide)

set_option maxRecDepth 100000 in
set_option maxHeartbeats 1000000 in
theorem R_sheet0 {X : En} {L : FL} {q : Nat × Nat} {I : FI} {s : Nat} (hs : s < 4) {z : Nat} (hz : z ≤ 40) : Ev X 3 mX8_sheet (0, 0) [.ref 66, .int (nI s), .int (0), .int (nI z)] S0 I L (R0 q) (PureR (some (.int 1)) S0 ((flB (up2 (up2 (up2 I 78 s 1) 79 s (0)) 80 s (nI z)) 81 (40 * s) (fun _ => 0) z)) L (R0 q)) := by
  have loop : ∀ k, k ≤ z → SW X 3 mX8_sheet (0, 0) 77 [some (.ref 66), some (.int (nI s)), some (.int (0)), some (.int (nI z)), some (.int (nI k))] [] S0 (flB (up2 (up2 (up2 I 78 s 1) 79 s (0)) 80 s (nI z)) 81 (40 * s) (fun _ => 0) k) L (R0 q) (KQ X (PureR (some (.int 1)) S0 ((flB (up2 (up2 (up2 I 78 s 1) 79 s (0)) 80 s (nI z)) 81 (40 * s) (fun _ => 0) z)) L (R0 q))) := by
    refine for_up (P := fun k => SW X 3 mX8_sheet (0, 0) 77 [some (.ref 66), some (.int (nI s)), some (.int (0)), some (.int (nI z)), some (.int (nI k))] [] S0 (flB (up2 (up2 (up2 I 78 s 1) 79 s (0)) 80 s (nI z)) 81 (40 * s) (fun _ => 0) k) L (R0 q) (KQ X (PureR (some (.int 1)) S0 ((flB (up2 (up2 (up2 I 78 s 1) 79 s (0)) 80 s (nI z)) 81 (40 * s) (fun _ => 0) z)) L (R0 q)))) z ?_ ?_
    · refine s_iload (tb_ok aX8_sheet_1 19 rfl) rfl ?_
      refine s_iload_n (tb_ok aX8_sheet_1 20 rfl) rfl ?_
      refine s_icmp_ge (tgt := 106) (tb_ok aX8_sheet_1 21 rfl) (by decide) (fun c80 => ?_) (fun c80 => ?_)
      · refine s_iconst (v := 1) (tb_ok aX8_sheet_2 11 rfl) (by decide) ?_
        refine s_iret (tb_ok aX8_sheet_2 12 rfl) rfl ?_
        exact pureR
      · simp (disch := omega) only [nI_ltI, nI_leI, nI_eq] at c80
        omega
    · intro k hk ih
      refine s_iload (tb_ok aX8_sheet_1 19 rfl) rfl ?_
      refine s_iload_n (tb_ok aX8_sheet_1 20 rfl) rfl ?_
      refine s_icmp_ge (tgt := 106) (tb_ok aX8_sheet_1 21 rfl) (by decide) (fun c80 => ?_) (fun c80 => ?_)
      · simp (disch := omega) only [nI_ltI, nI_leI, nI_eq] at c80
        omega
      · refine s_iload_n (tb_ok aX8_sheet_1 22 rfl) rfl ?_
        refine s_if_lt (tgt := 106) (tb_ok aX8_sheet_1 23 rfl) (by decide) (fun c84 => ?_) (fun c84 => ?_)
        · exact absurd c84 (by decide)
        · refine s_aload_n (tb_ok aX8_sheet_2 0 rfl) rfl ?_
          refine s_getR (r := 81) (tb_ok aX8_sheet_2 1 rfl) f_RX8_60 rfl rfl rfl ?_
          refine s_bipush (v := 40) (tb_ok aX8_sheet_2 2 rfl) (by decide) ?_
          refine s_iload_n (tb_ok aX8_sheet_2 3 rfl) rfl ?_
          refine s_imul (tb_ok aX8_sheet_2 4 rfl) ?_
          refine s_topi (z := (nI (40 * s))) (nI_mul 40 s) ?_
          refine s_iload (tb_ok aX8_sheet_2 5 rfl) rfl ?_
          refine s_iadd (tb_ok aX8_sheet_2 6 rfl) ?_
          refine s_topi (z := (nI (40 * s + k))) (nI_add' (40 * s) k) ?_
          refine s_iconst (v := 0) (tb_ok aX8_sheet_2 7 rfl) (by decide) ?_
          refine s_iastN (tb_ok aX8_sheet_2 8 rfl) rfl (by omega) (by decide) ?_
          refine s_iinc (v := nI (k + 1)) (ls' := [some (.ref 66), some (.int (nI s)), some (.int (0)), some (.int (nI z)), some (.int (nI (k + 1)))]) (tb_ok aX8_sheet_2 9 rfl) rfl (nI_1 _) rfl rfl ?_
          refine s_goto (tgt := 77) (tb_ok aX8_sheet_2 10 rfl) (by decide) ?_
          rw [flB_s (g := fun _ => 0) rfl]
          exact ih
  refine ev_of (by decide +kernel) rfl ?_
  show SW X _ _ _ 0 [some (.ref 66), some (.int (nI s)), some (.int (0)), some (.int (nI z)), none] [] S0 I L (R0 q) _
  refine s_iload_n (tb_ok aX8_sheet_0 0 rfl) rfl ?_
  refine s_cSp (as := [.int (nI s)]) (tb_ok aX8_sheet_0 1 rfl) v_RX8_413 (R_isSheet _) (by decide) rfl rfl (Nat.le_of_ble_eq_true rfl) ?_
  refine s_topi (bI_t (inN (n := s) (hi := 3) (by omega) (by decide))) ?_
  refine s_if_eq (tgt := 31) (tb_ok aX8_sheet_0 2 rfl) (by decide) (fun c4 => ?_) (fun c4 => ?_)
  · exact absurd c4 (by decide)
  · refine s_iload_n (tb_ok aX8_sheet_0 3 rfl) rfl ?_
    refine s_i2l (tb_ok aX8_sheet_0 4 rfl) ?_
    refine s_ldc2 (tb_ok aX8_sheet_0 5 rfl) k_RX8_446 ?_
    refine s_ldc2 (tb_ok aX8_sheet_0 6 rfl) k_RX8_352 ?_
    refine s_cSp (as := [_, .long (-1), .long (2)]) (tb_ok aX8_sheet_0 7 rfl) v_RX8_73 (R_in _ _ _) (by decide) rfl rfl (Nat.le_of_ble_eq_true rfl) ?_
    refine s_topi (bI_t (by decide)) ?_
    refine s_if_eq (tgt := 31) (tb_ok aX8_sheet_0 8 rfl) (by decide) (fun c18 => ?_) (fun c18 => ?_)
    · exact absurd c18 (by decide)
    · refine s_iload_n (tb_ok aX8_sheet_0 9 rfl) rfl ?_
      refine s_if_lt (tgt := 34) (tb_ok aX8_sheet_0 10 rfl) (by decide) (fun c22 => ?_) (fun c22 => ?_)
      · exact absurd c22 (by decide)
      · refine s_iload_n (tb_ok aX8_sheet_0 11 rfl) rfl ?_
        refine s_bipush (v := nI 40) (tb_ok aX8_sheet_0 12 rfl) (by decide) ?_
        refine s_icmp_le (tgt := 34) (tb_ok aX8_sheet_0 13 rfl) (by decide) (fun c28 => ?_) (fun c28 => ?_)
        · refine s_iload_n (tb_ok aX8_sheet_0 16 rfl) rfl ?_
          refine s_if_lt (tgt := 45) (tb_ok aX8_sheet_0 17 rfl) (by decide) (fun c35 => ?_) (fun c35 => ?_)
          · exact absurd c35 (by decide)
          · refine s_iload_n (tb_ok aX8_sheet_0 18 rfl) rfl ?_
            refine s_if_ge (tgt := 45) (tb_ok aX8_sheet_0 19 rfl) (by decide) (fun c39 => ?_) (fun c39 => ?_)
            · refine s_aload_n (tb_ok aX8_sheet_0 22 rfl) rfl ?_
              refine s_getR (r := 78) (tb_ok aX8_sheet_0 23 rfl) f_RX8_50 rfl rfl rfl ?_
              refine s_iload_n (tb_ok aX8_sheet_1 0 rfl) rfl ?_
              refine s_iload_n (tb_ok aX8_sheet_1 1 rfl) rfl ?_
              refine s_if_lt (tgt := 58) (tb_ok aX8_sheet_1 2 rfl) (by decide) (fun c51 => ?_) (fun c51 => ?_)
              · exact absurd c51 (by decide)
              · refine s_iconst (v := 1) (tb_ok aX8_sheet_1 3 rfl) (by decide) ?_
                refine s_goto (tgt := 59) (tb_ok aX8_sheet_1 4 rfl) (by decide) ?_
                refine s_bast (tb_ok aX8_sheet_1 6 rfl) rfl (lw_in hs (by decide)) (Or.inr rfl) ?_
                rw [nI_clamp (by omega)]
                refine s_aload_n (tb_ok aX8_sheet_1 7 rfl) rfl ?_
                refine s_getR (r := 79) (tb_ok aX8_sheet_1 8 rfl) f_RX8_54 rfl rfl rfl ?_
                refine s_iload_n (tb_ok aX8_sheet_1 9 rfl) rfl ?_
                refine s_iload_n (tb_ok aX8_sheet_1 10 rfl) rfl ?_
                refine s_iastN (tb_ok aX8_sheet_1 11 rfl) rfl (by omega) (by decide) ?_
                refine s_aload_n (tb_ok aX8_sheet_1 12 rfl) rfl ?_
                refine s_getR (r := 80) (tb_ok aX8_sheet_1 13 rfl) f_RX8_57 rfl rfl rfl ?_
                refine s_iload_n (tb_ok aX8_sheet_1 14 rfl) rfl ?_
                refine s_iload_n (tb_ok aX8_sheet_1 15 rfl) rfl ?_
                refine s_iastN (tb_ok aX8_sheet_1 16 rfl) rfl (by omega) (by decide) ?_
                refine s_iconst (v := nI 0) (tb_ok aX8_sheet_1 17 rfl) (by decide) ?_
                refine s_istore (ls' := [some (.ref 66), some (.int (nI s)), some (.int (0)), some (.int (nI z)), some (.int (nI 0))]) (tb_ok aX8_sheet_1 18 rfl) rfl rfl ?_
                refine s_eqI (flB_0 (o := 81) (b := 40 * s) (g := fun _ => 0)).symm ?_
                exact loop 0 (Nat.zero_le _)
            · exact absurd (Int32.not_lt.mp (nI_pos (by omega))) c39
        · simp (disch := omega) only [nI_ltI, nI_leI, nI_eq] at c28
          omega

set_option maxRecDepth 100000 in
set_option maxHeartbeats 1000000 in
theorem R_sheetH0 {X : En} {L : FL} {q : Nat × Nat} {I : FI} {s : Nat} (hs : s < 4) {n : Int32} (hn : 40 < n) : Ev X 3 mX8_sheet (0, 0) [.ref 66, .int (nI s), .int (0), .int n] S0 I L (R0 q) (PureR (some (.int (-2))) S0 (I) L (R0 q)) := by
  refine ev_of (by decide +kernel) rfl ?_
  show SW X _ _ _ 0 [some (.ref 66), some (.int (nI s)), some (.int (0)), some (.int n), none] [] S0 I L (R0 q) _
  refine s_iload_n (tb_ok aX8_sheet_0 0 rfl) rfl ?_
  refine s_cSp (as := [.int (nI s)]) (tb_ok aX8_sheet_0 1 rfl) v_RX8_413 (R_isSheet _) (by decide) rfl rfl (Nat.le_of_ble_eq_true rfl) ?_
  refine s_topi (bI_t (inN (n := s) (hi := 3) (by omega) (by decide))) ?_
  refine s_if_eq (tgt := 31) (tb_ok aX8_sheet_0 2 rfl) (by decide) (fun c4 => ?_) (fun c4 => ?_)
  · exact absurd c4 (by decide)
  · refine s_iload_n (tb_ok aX8_sheet_0 3 rfl) rfl ?_
    refine s_i2l (tb_ok aX8_sheet_0 4 rfl) ?_
    refine s_ldc2 (tb_ok aX8_sheet_0 5 rfl) k_RX8_446 ?_
    refine s_ldc2 (tb_ok aX8_sheet_0 6 rfl) k_RX8_352 ?_
    refine s_cSp (as := [_, .long (-1), .long (2)]) (tb_ok aX8_sheet_0 7 rfl) v_RX8_73 (R_in _ _ _) (by decide) rfl rfl (Nat.le_of_ble_eq_true rfl) ?_
    refine s_topi (bI_t (by decide)) ?_
    refine s_if_eq (tgt := 31) (tb_ok aX8_sheet_0 8 rfl) (by decide) (fun c18 => ?_) (fun c18 => ?_)
    · exact absurd c18 (by decide)
    · refine s_iload_n (tb_ok aX8_sheet_0 9 rfl) rfl ?_
      refine s_if_lt (tgt := 34) (tb_ok aX8_sheet_0 10 rfl) (by decide) (fun c22 => ?_) (fun c22 => ?_)
      · exact absurd c22 (by decide)
      · refine s_iload_n (tb_ok aX8_sheet_0 11 rfl) rfl ?_
        refine s_bipush (v := 40) (tb_ok aX8_sheet_0 12 rfl) (by decide) ?_
        refine s_icmp_le (tgt := 34) (tb_ok aX8_sheet_0 13 rfl) (by decide) (fun c28 => ?_) (fun c28 => ?_)
        · exact absurd hn (Int32.not_lt.mpr c28)
        · refine s_bipush (v := -2) (tb_ok aX8_sheet_0 14 rfl) (by decide) ?_
          refine s_iret (tb_ok aX8_sheet_0 15 rfl) rfl ?_
          exact pureR

set_option maxRecDepth 100000 in
set_option maxHeartbeats 1000000 in
theorem R_sheetL0 {X : En} {L : FL} {q : Nat × Nat} {I : FI} {s : Nat} (hs : s < 4) {n : Int32} (hn : n < 0) : Ev X 3 mX8_sheet (0, 0) [.ref 66, .int (nI s), .int (0), .int n] S0 I L (R0 q) (PureR (some (.int (-14))) S0 (I) L (R0 q)) := by
  refine ev_of (by decide +kernel) rfl ?_
  show SW X _ _ _ 0 [some (.ref 66), some (.int (nI s)), some (.int (0)), some (.int n), none] [] S0 I L (R0 q) _
  refine s_iload_n (tb_ok aX8_sheet_0 0 rfl) rfl ?_
  refine s_cSp (as := [.int (nI s)]) (tb_ok aX8_sheet_0 1 rfl) v_RX8_413 (R_isSheet _) (by decide) rfl rfl (Nat.le_of_ble_eq_true rfl) ?_
  refine s_topi (bI_t (inN (n := s) (hi := 3) (by omega) (by decide))) ?_
  refine s_if_eq (tgt := 31) (tb_ok aX8_sheet_0 2 rfl) (by decide) (fun c4 => ?_) (fun c4 => ?_)
  · exact absurd c4 (by decide)
  · refine s_iload_n (tb_ok aX8_sheet_0 3 rfl) rfl ?_
    refine s_i2l (tb_ok aX8_sheet_0 4 rfl) ?_
    refine s_ldc2 (tb_ok aX8_sheet_0 5 rfl) k_RX8_446 ?_
    refine s_ldc2 (tb_ok aX8_sheet_0 6 rfl) k_RX8_352 ?_
    refine s_cSp (as := [_, .long (-1), .long (2)]) (tb_ok aX8_sheet_0 7 rfl) v_RX8_73 (R_in _ _ _) (by decide) rfl rfl (Nat.le_of_ble_eq_true rfl) ?_
    refine s_topi (bI_t (by decide)) ?_
    refine s_if_eq (tgt := 31) (tb_ok aX8_sheet_0 8 rfl) (by decide) (fun c18 => ?_) (fun c18 => ?_)
    · exact absurd c18 (by decide)
    · refine s_iload_n (tb_ok aX8_sheet_0 9 rfl) rfl ?_
      refine s_if_lt (tgt := 34) (tb_ok aX8_sheet_0 10 rfl) (by decide) (fun c22 => ?_) (fun c22 => ?_)
      · exact absurd c22 (by decide)
      · refine s_iload_n (tb_ok aX8_sheet_0 11 rfl) rfl ?_
        refine s_bipush (v := 40) (tb_ok aX8_sheet_0 12 rfl) (by decide) ?_
        refine s_icmp_le (tgt := 34) (tb_ok aX8_sheet_0 13 rfl) (by decide) (fun c28 => ?_) (fun c28 => ?_)
        · refine s_iload_n (tb_ok aX8_sheet_0 16 rfl) rfl ?_
          refine s_if_lt (tgt := 45) (tb_ok aX8_sheet_0 17 rfl) (by decide) (fun c35 => ?_) (fun c35 => ?_)
          · exact absurd c35 (by decide)
          · refine s_iload_n (tb_ok aX8_sheet_0 18 rfl) rfl ?_
            refine s_if_ge (tgt := 45) (tb_ok aX8_sheet_0 19 rfl) (by decide) (fun c39 => ?_) (fun c39 => ?_)
            · exact absurd hn (Int32.not_lt.mpr c39)
            · refine s_bipush (v := -14) (tb_ok aX8_sheet_0 20 rfl) (by decide) ?_
              refine s_iret (tb_ok aX8_sheet_0 21 rfl) rfl ?_
              exact pureR
        · exact absurd (Int32.le_of_lt (Int32.lt_of_lt_of_le hn (by decide))) c28

set_option maxRecDepth 100000 in
set_option maxHeartbeats 1000000 in
theorem R_sheet1 {X : En} {L : FL} {q : Nat × Nat} {I : FI} {s : Nat} (hs : s < 4) {z : Nat} (hz : z ≤ 40) : Ev X 3 mX8_sheet (0, 0) [.ref 66, .int (nI s), .int (1), .int (nI z)] S0 I L (R0 q) (PureR (some (.int 1)) S0 ((flB (up2 (up2 (up2 I 78 s 1) 79 s (1)) 80 s (nI z)) 81 (40 * s) (fun _ => 0) z)) L (R0 q)) := by
  have loop : ∀ k, k ≤ z → SW X 3 mX8_sheet (0, 0) 77 [some (.ref 66), some (.int (nI s)), some (.int (1)), some (.int (nI z)), some (.int (nI k))] [] S0 (flB (up2 (up2 (up2 I 78 s 1) 79 s (1)) 80 s (nI z)) 81 (40 * s) (fun _ => 0) k) L (R0 q) (KQ X (PureR (some (.int 1)) S0 ((flB (up2 (up2 (up2 I 78 s 1) 79 s (1)) 80 s (nI z)) 81 (40 * s) (fun _ => 0) z)) L (R0 q))) := by
    refine for_up (P := fun k => SW X 3 mX8_sheet (0, 0) 77 [some (.ref 66), some (.int (nI s)), some (.int (1)), some (.int (nI z)), some (.int (nI k))] [] S0 (flB (up2 (up2 (up2 I 78 s 1) 79 s (1)) 80 s (nI z)) 81 (40 * s) (fun _ => 0) k) L (R0 q) (KQ X (PureR (some (.int 1)) S0 ((flB (up2 (up2 (up2 I 78 s 1) 79 s (1)) 80 s (nI z)) 81 (40 * s) (fun _ => 0) z)) L (R0 q)))) z ?_ ?_
    · refine s_iload (tb_ok aX8_sheet_1 19 rfl) rfl ?_
      refine s_iload_n (tb_ok aX8_sheet_1 20 rfl) rfl ?_
      refine s_icmp_ge (tgt := 106) (tb_ok aX8_sheet_1 21 rfl) (by decide) (fun c80 => ?_) (fun c80 => ?_)
      · refine s_iconst (v := 1) (tb_ok aX8_sheet_2 11 rfl) (by decide) ?_
        refine s_iret (tb_ok aX8_sheet_2 12 rfl) rfl ?_
        exact pureR
      · simp (disch := omega) only [nI_ltI, nI_leI, nI_eq] at c80
        omega
    · intro k hk ih
      refine s_iload (tb_ok aX8_sheet_1 19 rfl) rfl ?_
      refine s_iload_n (tb_ok aX8_sheet_1 20 rfl) rfl ?_
      refine s_icmp_ge (tgt := 106) (tb_ok aX8_sheet_1 21 rfl) (by decide) (fun c80 => ?_) (fun c80 => ?_)
      · simp (disch := omega) only [nI_ltI, nI_leI, nI_eq] at c80
        omega
      · refine s_iload_n (tb_ok aX8_sheet_1 22 rfl) rfl ?_
        refine s_if_lt (tgt := 106) (tb_ok aX8_sheet_1 23 rfl) (by decide) (fun c84 => ?_) (fun c84 => ?_)
        · exact absurd c84 (by decide)
        · refine s_aload_n (tb_ok aX8_sheet_2 0 rfl) rfl ?_
          refine s_getR (r := 81) (tb_ok aX8_sheet_2 1 rfl) f_RX8_60 rfl rfl rfl ?_
          refine s_bipush (v := 40) (tb_ok aX8_sheet_2 2 rfl) (by decide) ?_
          refine s_iload_n (tb_ok aX8_sheet_2 3 rfl) rfl ?_
          refine s_imul (tb_ok aX8_sheet_2 4 rfl) ?_
          refine s_topi (z := (nI (40 * s))) (nI_mul 40 s) ?_
          refine s_iload (tb_ok aX8_sheet_2 5 rfl) rfl ?_
          refine s_iadd (tb_ok aX8_sheet_2 6 rfl) ?_
          refine s_topi (z := (nI (40 * s + k))) (nI_add' (40 * s) k) ?_
          refine s_iconst (v := 0) (tb_ok aX8_sheet_2 7 rfl) (by decide) ?_
          refine s_iastN (tb_ok aX8_sheet_2 8 rfl) rfl (by omega) (by decide) ?_
          refine s_iinc (v := nI (k + 1)) (ls' := [some (.ref 66), some (.int (nI s)), some (.int (1)), some (.int (nI z)), some (.int (nI (k + 1)))]) (tb_ok aX8_sheet_2 9 rfl) rfl (nI_1 _) rfl rfl ?_
          refine s_goto (tgt := 77) (tb_ok aX8_sheet_2 10 rfl) (by decide) ?_
          rw [flB_s (g := fun _ => 0) rfl]
          exact ih
  refine ev_of (by decide +kernel) rfl ?_
  show SW X _ _ _ 0 [some (.ref 66), some (.int (nI s)), some (.int (1)), some (.int (nI z)), none] [] S0 I L (R0 q) _
  refine s_iload_n (tb_ok aX8_sheet_0 0 rfl) rfl ?_
  refine s_cSp (as := [.int (nI s)]) (tb_ok aX8_sheet_0 1 rfl) v_RX8_413 (R_isSheet _) (by decide) rfl rfl (Nat.le_of_ble_eq_true rfl) ?_
  refine s_topi (bI_t (inN (n := s) (hi := 3) (by omega) (by decide))) ?_
  refine s_if_eq (tgt := 31) (tb_ok aX8_sheet_0 2 rfl) (by decide) (fun c4 => ?_) (fun c4 => ?_)
  · exact absurd c4 (by decide)
  · refine s_iload_n (tb_ok aX8_sheet_0 3 rfl) rfl ?_
    refine s_i2l (tb_ok aX8_sheet_0 4 rfl) ?_
    refine s_ldc2 (tb_ok aX8_sheet_0 5 rfl) k_RX8_446 ?_
    refine s_ldc2 (tb_ok aX8_sheet_0 6 rfl) k_RX8_352 ?_
    refine s_cSp (as := [_, .long (-1), .long (2)]) (tb_ok aX8_sheet_0 7 rfl) v_RX8_73 (R_in _ _ _) (by decide) rfl rfl (Nat.le_of_ble_eq_true rfl) ?_
    refine s_topi (bI_t (by decide)) ?_
    refine s_if_eq (tgt := 31) (tb_ok aX8_sheet_0 8 rfl) (by decide) (fun c18 => ?_) (fun c18 => ?_)
    · exact absurd c18 (by decide)
    · refine s_iload_n (tb_ok aX8_sheet_0 9 rfl) rfl ?_
      refine s_if_lt (tgt := 34) (tb_ok aX8_sheet_0 10 rfl) (by decide) (fun c22 => ?_) (fun c22 => ?_)
      · exact absurd c22 (by decide)
      · refine s_iload_n (tb_ok aX8_sheet_0 11 rfl) rfl ?_
        refine s_bipush (v := nI 40) (tb_ok aX8_sheet_0 12 rfl) (by decide) ?_
        refine s_icmp_le (tgt := 34) (tb_ok aX8_sheet_0 13 rfl) (by decide) (fun c28 => ?_) (fun c28 => ?_)
        · refine s_iload_n (tb_ok aX8_sheet_0 16 rfl) rfl ?_
          refine s_if_lt (tgt := 45) (tb_ok aX8_sheet_0 17 rfl) (by decide) (fun c35 => ?_) (fun c35 => ?_)
          · exact absurd c35 (by decide)
          · refine s_iload_n (tb_ok aX8_sheet_0 18 rfl) rfl ?_
            refine s_if_ge (tgt := 45) (tb_ok aX8_sheet_0 19 rfl) (by decide) (fun c39 => ?_) (fun c39 => ?_)
            · refine s_aload_n (tb_ok aX8_sheet_0 22 rfl) rfl ?_
              refine s_getR (r := 78) (tb_ok aX8_sheet_0 23 rfl) f_RX8_50 rfl rfl rfl ?_
              refine s_iload_n (tb_ok aX8_sheet_1 0 rfl) rfl ?_
              refine s_iload_n (tb_ok aX8_sheet_1 1 rfl) rfl ?_
              refine s_if_lt (tgt := 58) (tb_ok aX8_sheet_1 2 rfl) (by decide) (fun c51 => ?_) (fun c51 => ?_)
              · exact absurd c51 (by decide)
              · refine s_iconst (v := 1) (tb_ok aX8_sheet_1 3 rfl) (by decide) ?_
                refine s_goto (tgt := 59) (tb_ok aX8_sheet_1 4 rfl) (by decide) ?_
                refine s_bast (tb_ok aX8_sheet_1 6 rfl) rfl (lw_in hs (by decide)) (Or.inr rfl) ?_
                rw [nI_clamp (by omega)]
                refine s_aload_n (tb_ok aX8_sheet_1 7 rfl) rfl ?_
                refine s_getR (r := 79) (tb_ok aX8_sheet_1 8 rfl) f_RX8_54 rfl rfl rfl ?_
                refine s_iload_n (tb_ok aX8_sheet_1 9 rfl) rfl ?_
                refine s_iload_n (tb_ok aX8_sheet_1 10 rfl) rfl ?_
                refine s_iastN (tb_ok aX8_sheet_1 11 rfl) rfl (by omega) (by decide) ?_
                refine s_aload_n (tb_ok aX8_sheet_1 12 rfl) rfl ?_
                refine s_getR (r := 80) (tb_ok aX8_sheet_1 13 rfl) f_RX8_57 rfl rfl rfl ?_
                refine s_iload_n (tb_ok aX8_sheet_1 14 rfl) rfl ?_
                refine s_iload_n (tb_ok aX8_sheet_1 15 rfl) rfl ?_
                refine s_iastN (tb_ok aX8_sheet_1 16 rfl) rfl (by omega) (by decide) ?_
                refine s_iconst (v := nI 0) (tb_ok aX8_sheet_1 17 rfl) (by decide) ?_
                refine s_istore (ls' := [some (.ref 66), some (.int (nI s)), some (.int (1)), some (.int (nI z)), some (.int (nI 0))]) (tb_ok aX8_sheet_1 18 rfl) rfl rfl ?_
                refine s_eqI (flB_0 (o := 81) (b := 40 * s) (g := fun _ => 0)).symm ?_
                exact loop 0 (Nat.zero_le _)
            · exact absurd (Int32.not_lt.mp (nI_pos (by omega))) c39
        · simp (disch := omega) only [nI_ltI, nI_leI, nI_eq] at c28
          omega

set_option maxRecDepth 100000 in
set_option maxHeartbeats 1000000 in
theorem R_sheetH1 {X : En} {L : FL} {q : Nat × Nat} {I : FI} {s : Nat} (hs : s < 4) {n : Int32} (hn : 40 < n) : Ev X 3 mX8_sheet (0, 0) [.ref 66, .int (nI s), .int (1), .int n] S0 I L (R0 q) (PureR (some (.int (-2))) S0 (I) L (R0 q)) := by
  refine ev_of (by decide +kernel) rfl ?_
  show SW X _ _ _ 0 [some (.ref 66), some (.int (nI s)), some (.int (1)), some (.int n), none] [] S0 I L (R0 q) _
  refine s_iload_n (tb_ok aX8_sheet_0 0 rfl) rfl ?_
  refine s_cSp (as := [.int (nI s)]) (tb_ok aX8_sheet_0 1 rfl) v_RX8_413 (R_isSheet _) (by decide) rfl rfl (Nat.le_of_ble_eq_true rfl) ?_
  refine s_topi (bI_t (inN (n := s) (hi := 3) (by omega) (by decide))) ?_
  refine s_if_eq (tgt := 31) (tb_ok aX8_sheet_0 2 rfl) (by decide) (fun c4 => ?_) (fun c4 => ?_)
  · exact absurd c4 (by decide)
  · refine s_iload_n (tb_ok aX8_sheet_0 3 rfl) rfl ?_
    refine s_i2l (tb_ok aX8_sheet_0 4 rfl) ?_
    refine s_ldc2 (tb_ok aX8_sheet_0 5 rfl) k_RX8_446 ?_
    refine s_ldc2 (tb_ok aX8_sheet_0 6 rfl) k_RX8_352 ?_
    refine s_cSp (as := [_, .long (-1), .long (2)]) (tb_ok aX8_sheet_0 7 rfl) v_RX8_73 (R_in _ _ _) (by decide) rfl rfl (Nat.le_of_ble_eq_true rfl) ?_
    refine s_topi (bI_t (by decide)) ?_
    refine s_if_eq (tgt := 31) (tb_ok aX8_sheet_0 8 rfl) (by decide) (fun c18 => ?_) (fun c18 => ?_)
    · exact absurd c18 (by decide)
    · refine s_iload_n (tb_ok aX8_sheet_0 9 rfl) rfl ?_
      refine s_if_lt (tgt := 34) (tb_ok aX8_sheet_0 10 rfl) (by decide) (fun c22 => ?_) (fun c22 => ?_)
      · exact absurd c22 (by decide)
      · refine s_iload_n (tb_ok aX8_sheet_0 11 rfl) rfl ?_
        refine s_bipush (v := 40) (tb_ok aX8_sheet_0 12 rfl) (by decide) ?_
        refine s_icmp_le (tgt := 34) (tb_ok aX8_sheet_0 13 rfl) (by decide) (fun c28 => ?_) (fun c28 => ?_)
        · exact absurd hn (Int32.not_lt.mpr c28)
        · refine s_bipush (v := -2) (tb_ok aX8_sheet_0 14 rfl) (by decide) ?_
          refine s_iret (tb_ok aX8_sheet_0 15 rfl) rfl ?_
          exact pureR

set_option maxRecDepth 100000 in
set_option maxHeartbeats 1000000 in
theorem R_sheetL1 {X : En} {L : FL} {q : Nat × Nat} {I : FI} {s : Nat} (hs : s < 4) {n : Int32} (hn : n < 0) : Ev X 3 mX8_sheet (0, 0) [.ref 66, .int (nI s), .int (1), .int n] S0 I L (R0 q) (PureR (some (.int (-14))) S0 (I) L (R0 q)) := by
  refine ev_of (by decide +kernel) rfl ?_
  show SW X _ _ _ 0 [some (.ref 66), some (.int (nI s)), some (.int (1)), some (.int n), none] [] S0 I L (R0 q) _
  refine s_iload_n (tb_ok aX8_sheet_0 0 rfl) rfl ?_
  refine s_cSp (as := [.int (nI s)]) (tb_ok aX8_sheet_0 1 rfl) v_RX8_413 (R_isSheet _) (by decide) rfl rfl (Nat.le_of_ble_eq_true rfl) ?_
  refine s_topi (bI_t (inN (n := s) (hi := 3) (by omega) (by decide))) ?_
  refine s_if_eq (tgt := 31) (tb_ok aX8_sheet_0 2 rfl) (by decide) (fun c4 => ?_) (fun c4 => ?_)
  · exact absurd c4 (by decide)
  · refine s_iload_n (tb_ok aX8_sheet_0 3 rfl) rfl ?_
    refine s_i2l (tb_ok aX8_sheet_0 4 rfl) ?_
    refine s_ldc2 (tb_ok aX8_sheet_0 5 rfl) k_RX8_446 ?_
    refine s_ldc2 (tb_ok aX8_sheet_0 6 rfl) k_RX8_352 ?_
    refine s_cSp (as := [_, .long (-1), .long (2)]) (tb_ok aX8_sheet_0 7 rfl) v_RX8_73 (R_in _ _ _) (by decide) rfl rfl (Nat.le_of_ble_eq_true rfl) ?_
    refine s_topi (bI_t (by decide)) ?_
    refine s_if_eq (tgt := 31) (tb_ok aX8_sheet_0 8 rfl) (by decide) (fun c18 => ?_) (fun c18 => ?_)
    · exact absurd c18 (by decide)
    · refine s_iload_n (tb_ok aX8_sheet_0 9 rfl) rfl ?_
      refine s_if_lt (tgt := 34) (tb_ok aX8_sheet_0 10 rfl) (by decide) (fun c22 => ?_) (fun c22 => ?_)
      · exact absurd c22 (by decide)
      · refine s_iload_n (tb_ok aX8_sheet_0 11 rfl) rfl ?_
        refine s_bipush (v := 40) (tb_ok aX8_sheet_0 12 rfl) (by decide) ?_
        refine s_icmp_le (tgt := 34) (tb_ok aX8_sheet_0 13 rfl) (by decide) (fun c28 => ?_) (fun c28 => ?_)
        · refine s_iload_n (tb_ok aX8_sheet_0 16 rfl) rfl ?_
          refine s_if_lt (tgt := 45) (tb_ok aX8_sheet_0 17 rfl) (by decide) (fun c35 => ?_) (fun c35 => ?_)
          · exact absurd c35 (by decide)
          · refine s_iload_n (tb_ok aX8_sheet_0 18 rfl) rfl ?_
            refine s_if_ge (tgt := 45) (tb_ok aX8_sheet_0 19 rfl) (by decide) (fun c39 => ?_) (fun c39 => ?_)
            · exact absurd hn (Int32.not_lt.mpr c39)
            · refine s_bipush (v := -14) (tb_ok aX8_sheet_0 20 rfl) (by decide) ?_
              refine s_iret (tb_ok aX8_sheet_0 21 rfl) rfl ?_
              exact pureR
        · exact absurd (Int32.le_of_lt (Int32.lt_of_lt_of_le hn (by decide))) c28

set_option maxRecDepth 100000 in
set_option maxHeartbeats 1000000 in
theorem R_sheet2 {X : En} {L : FL} {q : Nat × Nat} {I : FI} {s : Nat} (hs : s < 4) {z : Nat} (hz : z ≤ 40) : Ev X 3 mX8_sheet (0, 0) [.ref 66, .int (nI s), .int (2), .int (nI z)] S0 I L (R0 q) (PureR (some (.int 1)) S0 ((flB (up2 (up2 (up2 I 78 s 1) 79 s (2)) 80 s (nI z)) 81 (40 * s) (fun _ => 0) z)) L (R0 q)) := by
  have loop : ∀ k, k ≤ z → SW X 3 mX8_sheet (0, 0) 77 [some (.ref 66), some (.int (nI s)), some (.int (2)), some (.int (nI z)), some (.int (nI k))] [] S0 (flB (up2 (up2 (up2 I 78 s 1) 79 s (2)) 80 s (nI z)) 81 (40 * s) (fun _ => 0) k) L (R0 q) (KQ X (PureR (some (.int 1)) S0 ((flB (up2 (up2 (up2 I 78 s 1) 79 s (2)) 80 s (nI z)) 81 (40 * s) (fun _ => 0) z)) L (R0 q))) := by
    refine for_up (P := fun k => SW X 3 mX8_sheet (0, 0) 77 [some (.ref 66), some (.int (nI s)), some (.int (2)), some (.int (nI z)), some (.int (nI k))] [] S0 (flB (up2 (up2 (up2 I 78 s 1) 79 s (2)) 80 s (nI z)) 81 (40 * s) (fun _ => 0) k) L (R0 q) (KQ X (PureR (some (.int 1)) S0 ((flB (up2 (up2 (up2 I 78 s 1) 79 s (2)) 80 s (nI z)) 81 (40 * s) (fun _ => 0) z)) L (R0 q)))) z ?_ ?_
    · refine s_iload (tb_ok aX8_sheet_1 19 rfl) rfl ?_
      refine s_iload_n (tb_ok aX8_sheet_1 20 rfl) rfl ?_
      refine s_icmp_ge (tgt := 106) (tb_ok aX8_sheet_1 21 rfl) (by decide) (fun c80 => ?_) (fun c80 => ?_)
      · refine s_iconst (v := 1) (tb_ok aX8_sheet_2 11 rfl) (by decide) ?_
        refine s_iret (tb_ok aX8_sheet_2 12 rfl) rfl ?_
        exact pureR
      · simp (disch := omega) only [nI_ltI, nI_leI, nI_eq] at c80
        omega
    · intro k hk ih
      refine s_iload (tb_ok aX8_sheet_1 19 rfl) rfl ?_
      refine s_iload_n (tb_ok aX8_sheet_1 20 rfl) rfl ?_
      refine s_icmp_ge (tgt := 106) (tb_ok aX8_sheet_1 21 rfl) (by decide) (fun c80 => ?_) (fun c80 => ?_)
      · simp (disch := omega) only [nI_ltI, nI_leI, nI_eq] at c80
        omega
      · refine s_iload_n (tb_ok aX8_sheet_1 22 rfl) rfl ?_
        refine s_if_lt (tgt := 106) (tb_ok aX8_sheet_1 23 rfl) (by decide) (fun c84 => ?_) (fun c84 => ?_)
        · exact absurd c84 (by decide)
        · refine s_aload_n (tb_ok aX8_sheet_2 0 rfl) rfl ?_
          refine s_getR (r := 81) (tb_ok aX8_sheet_2 1 rfl) f_RX8_60 rfl rfl rfl ?_
          refine s_bipush (v := 40) (tb_ok aX8_sheet_2 2 rfl) (by decide) ?_
          refine s_iload_n (tb_ok aX8_sheet_2 3 rfl) rfl ?_
          refine s_imul (tb_ok aX8_sheet_2 4 rfl) ?_
          refine s_topi (z := (nI (40 * s))) (nI_mul 40 s) ?_
          refine s_iload (tb_ok aX8_sheet_2 5 rfl) rfl ?_
          refine s_iadd (tb_ok aX8_sheet_2 6 rfl) ?_
          refine s_topi (z := (nI (40 * s + k))) (nI_add' (40 * s) k) ?_
          refine s_iconst (v := 0) (tb_ok aX8_sheet_2 7 rfl) (by decide) ?_
          refine s_iastN (tb_ok aX8_sheet_2 8 rfl) rfl (by omega) (by decide) ?_
          refine s_iinc (v := nI (k + 1)) (ls' := [some (.ref 66), some (.int (nI s)), some (.int (2)), some (.int (nI z)), some (.int (nI (k + 1)))]) (tb_ok aX8_sheet_2 9 rfl) rfl (nI_1 _) rfl rfl ?_
          refine s_goto (tgt := 77) (tb_ok aX8_sheet_2 10 rfl) (by decide) ?_
          rw [flB_s (g := fun _ => 0) rfl]
          exact ih
  refine ev_of (by decide +kernel) rfl ?_
  show SW X _ _ _ 0 [some (.ref 66), some (.int (nI s)), some (.int (2)), some (.int (nI z)), none] [] S0 I L (R0 q) _
  refine s_iload_n (tb_ok aX8_sheet_0 0 rfl) rfl ?_
  refine s_cSp (as := [.int (nI s)]) (tb_ok aX8_sheet_0 1 rfl) v_RX8_413 (R_isSheet _) (by decide) rfl rfl (Nat.le_of_ble_eq_true rfl) ?_
  refine s_topi (bI_t (inN (n := s) (hi := 3) (by omega) (by decide))) ?_
  refine s_if_eq (tgt := 31) (tb_ok aX8_sheet_0 2 rfl) (by decide) (fun c4 => ?_) (fun c4 => ?_)
  · exact absurd c4 (by decide)
  · refine s_iload_n (tb_ok aX8_sheet_0 3 rfl) rfl ?_
    refine s_i2l (tb_ok aX8_sheet_0 4 rfl) ?_
    refine s_ldc2 (tb_ok aX8_sheet_0 5 rfl) k_RX8_446 ?_
    refine s_ldc2 (tb_ok aX8_sheet_0 6 rfl) k_RX8_352 ?_
    refine s_cSp (as := [_, .long (-1), .long (2)]) (tb_ok aX8_sheet_0 7 rfl) v_RX8_73 (R_in _ _ _) (by decide) rfl rfl (Nat.le_of_ble_eq_true rfl) ?_
    refine s_topi (bI_t (by decide)) ?_
    refine s_if_eq (tgt := 31) (tb_ok aX8_sheet_0 8 rfl) (by decide) (fun c18 => ?_) (fun c18 => ?_)
    · exact absurd c18 (by decide)
    · refine s_iload_n (tb_ok aX8_sheet_0 9 rfl) rfl ?_
      refine s_if_lt (tgt := 34) (tb_ok aX8_sheet_0 10 rfl) (by decide) (fun c22 => ?_) (fun c22 => ?_)
      · exact absurd c22 (by decide)
      · refine s_iload_n (tb_ok aX8_sheet_0 11 rfl) rfl ?_
        refine s_bipush (v := nI 40) (tb_ok aX8_sheet_0 12 rfl) (by decide) ?_
        refine s_icmp_le (tgt := 34) (tb_ok aX8_sheet_0 13 rfl) (by decide) (fun c28 => ?_) (fun c28 => ?_)
        · refine s_iload_n (tb_ok aX8_sheet_0 16 rfl) rfl ?_
          refine s_if_lt (tgt := 45) (tb_ok aX8_sheet_0 17 rfl) (by decide) (fun c35 => ?_) (fun c35 => ?_)
          · exact absurd c35 (by decide)
          · refine s_iload_n (tb_ok aX8_sheet_0 18 rfl) rfl ?_
            refine s_if_ge (tgt := 45) (tb_ok aX8_sheet_0 19 rfl) (by decide) (fun c39 => ?_) (fun c39 => ?_)
            · refine s_aload_n (tb_ok aX8_sheet_0 22 rfl) rfl ?_
              refine s_getR (r := 78) (tb_ok aX8_sheet_0 23 rfl) f_RX8_50 rfl rfl rfl ?_
              refine s_iload_n (tb_ok aX8_sheet_1 0 rfl) rfl ?_
              refine s_iload_n (tb_ok aX8_sheet_1 1 rfl) rfl ?_
              refine s_if_lt (tgt := 58) (tb_ok aX8_sheet_1 2 rfl) (by decide) (fun c51 => ?_) (fun c51 => ?_)
              · exact absurd c51 (by decide)
              · refine s_iconst (v := 1) (tb_ok aX8_sheet_1 3 rfl) (by decide) ?_
                refine s_goto (tgt := 59) (tb_ok aX8_sheet_1 4 rfl) (by decide) ?_
                refine s_bast (tb_ok aX8_sheet_1 6 rfl) rfl (lw_in hs (by decide)) (Or.inr rfl) ?_
                rw [nI_clamp (by omega)]
                refine s_aload_n (tb_ok aX8_sheet_1 7 rfl) rfl ?_
                refine s_getR (r := 79) (tb_ok aX8_sheet_1 8 rfl) f_RX8_54 rfl rfl rfl ?_
                refine s_iload_n (tb_ok aX8_sheet_1 9 rfl) rfl ?_
                refine s_iload_n (tb_ok aX8_sheet_1 10 rfl) rfl ?_
                refine s_iastN (tb_ok aX8_sheet_1 11 rfl) rfl (by omega) (by decide) ?_
                refine s_aload_n (tb_ok aX8_sheet_1 12 rfl) rfl ?_
                refine s_getR (r := 80) (tb_ok aX8_sheet_1 13 rfl) f_RX8_57 rfl rfl rfl ?_
                refine s_iload_n (tb_ok aX8_sheet_1 14 rfl) rfl ?_
                refine s_iload_n (tb_ok aX8_sheet_1 15 rfl) rfl ?_
                refine s_iastN (tb_ok aX8_sheet_1 16 rfl) rfl (by omega) (by decide) ?_
                refine s_iconst (v := nI 0) (tb_ok aX8_sheet_1 17 rfl) (by decide) ?_
                refine s_istore (ls' := [some (.ref 66), some (.int (nI s)), some (.int (2)), some (.int (nI z)), some (.int (nI 0))]) (tb_ok aX8_sheet_1 18 rfl) rfl rfl ?_
                refine s_eqI (flB_0 (o := 81) (b := 40 * s) (g := fun _ => 0)).symm ?_
                exact loop 0 (Nat.zero_le _)
            · exact absurd (Int32.not_lt.mp (nI_pos (by omega))) c39
        · simp (disch := omega) only [nI_ltI, nI_leI, nI_eq] at c28
          omega

set_option maxRecDepth 100000 in
set_option maxHeartbeats 1000000 in
theorem R_sheetH2 {X : En} {L : FL} {q : Nat × Nat} {I : FI} {s : Nat} (hs : s < 4) {n : Int32} (hn : 40 < n) : Ev X 3 mX8_sheet (0, 0) [.ref 66, .int (nI s), .int (2), .int n] S0 I L (R0 q) (PureR (some (.int (-2))) S0 (I) L (R0 q)) := by
  refine ev_of (by decide +kernel) rfl ?_
  show SW X _ _ _ 0 [some (.ref 66), some (.int (nI s)), some (.int (2)), some (.int n), none] [] S0 I L (R0 q) _
  refine s_iload_n (tb_ok aX8_sheet_0 0 rfl) rfl ?_
  refine s_cSp (as := [.int (nI s)]) (tb_ok aX8_sheet_0 1 rfl) v_RX8_413 (R_isSheet _) (by decide) rfl rfl (Nat.le_of_ble_eq_true rfl) ?_
  refine s_topi (bI_t (inN (n := s) (hi := 3) (by omega) (by decide))) ?_
  refine s_if_eq (tgt := 31) (tb_ok aX8_sheet_0 2 rfl) (by decide) (fun c4 => ?_) (fun c4 => ?_)
  · exact absurd c4 (by decide)
  · refine s_iload_n (tb_ok aX8_sheet_0 3 rfl) rfl ?_
    refine s_i2l (tb_ok aX8_sheet_0 4 rfl) ?_
    refine s_ldc2 (tb_ok aX8_sheet_0 5 rfl) k_RX8_446 ?_
    refine s_ldc2 (tb_ok aX8_sheet_0 6 rfl) k_RX8_352 ?_
    refine s_cSp (as := [_, .long (-1), .long (2)]) (tb_ok aX8_sheet_0 7 rfl) v_RX8_73 (R_in _ _ _) (by decide) rfl rfl (Nat.le_of_ble_eq_true rfl) ?_
    refine s_topi (bI_t (by decide)) ?_
    refine s_if_eq (tgt := 31) (tb_ok aX8_sheet_0 8 rfl) (by decide) (fun c18 => ?_) (fun c18 => ?_)
    · exact absurd c18 (by decide)
    · refine s_iload_n (tb_ok aX8_sheet_0 9 rfl) rfl ?_
      refine s_if_lt (tgt := 34) (tb_ok aX8_sheet_0 10 rfl) (by decide) (fun c22 => ?_) (fun c22 => ?_)
      · exact absurd c22 (by decide)
      · refine s_iload_n (tb_ok aX8_sheet_0 11 rfl) rfl ?_
        refine s_bipush (v := 40) (tb_ok aX8_sheet_0 12 rfl) (by decide) ?_
        refine s_icmp_le (tgt := 34) (tb_ok aX8_sheet_0 13 rfl) (by decide) (fun c28 => ?_) (fun c28 => ?_)
        · exact absurd hn (Int32.not_lt.mpr c28)
        · refine s_bipush (v := -2) (tb_ok aX8_sheet_0 14 rfl) (by decide) ?_
          refine s_iret (tb_ok aX8_sheet_0 15 rfl) rfl ?_
          exact pureR

set_option maxRecDepth 100000 in
set_option maxHeartbeats 1000000 in
theorem R_sheetL2 {X : En} {L : FL} {q : Nat × Nat} {I : FI} {s : Nat} (hs : s < 4) {n : Int32} (hn : n < 0) : Ev X 3 mX8_sheet (0, 0) [.ref 66, .int (nI s), .int (2), .int n] S0 I L (R0 q) (PureR (some (.int (-14))) S0 (I) L (R0 q)) := by
  refine ev_of (by decide +kernel) rfl ?_
  show SW X _ _ _ 0 [some (.ref 66), some (.int (nI s)), some (.int (2)), some (.int n), none] [] S0 I L (R0 q) _
  refine s_iload_n (tb_ok aX8_sheet_0 0 rfl) rfl ?_
  refine s_cSp (as := [.int (nI s)]) (tb_ok aX8_sheet_0 1 rfl) v_RX8_413 (R_isSheet _) (by decide) rfl rfl (Nat.le_of_ble_eq_true rfl) ?_
  refine s_topi (bI_t (inN (n := s) (hi := 3) (by omega) (by decide))) ?_
  refine s_if_eq (tgt := 31) (tb_ok aX8_sheet_0 2 rfl) (by decide) (fun c4 => ?_) (fun c4 => ?_)
  · exact absurd c4 (by decide)
  · refine s_iload_n (tb_ok aX8_sheet_0 3 rfl) rfl ?_
    refine s_i2l (tb_ok aX8_sheet_0 4 rfl) ?_
    refine s_ldc2 (tb_ok aX8_sheet_0 5 rfl) k_RX8_446 ?_
    refine s_ldc2 (tb_ok aX8_sheet_0 6 rfl) k_RX8_352 ?_
    refine s_cSp (as := [_, .long (-1), .long (2)]) (tb_ok aX8_sheet_0 7 rfl) v_RX8_73 (R_in _ _ _) (by decide) rfl rfl (Nat.le_of_ble_eq_true rfl) ?_
    refine s_topi (bI_t (by decide)) ?_
    refine s_if_eq (tgt := 31) (tb_ok aX8_sheet_0 8 rfl) (by decide) (fun c18 => ?_) (fun c18 => ?_)
    · exact absurd c18 (by decide)
    · refine s_iload_n (tb_ok aX8_sheet_0 9 rfl) rfl ?_
      refine s_if_lt (tgt := 34) (tb_ok aX8_sheet_0 10 rfl) (by decide) (fun c22 => ?_) (fun c22 => ?_)
      · exact absurd c22 (by decide)
      · refine s_iload_n (tb_ok aX8_sheet_0 11 rfl) rfl ?_
        refine s_bipush (v := 40) (tb_ok aX8_sheet_0 12 rfl) (by decide) ?_
        refine s_icmp_le (tgt := 34) (tb_ok aX8_sheet_0 13 rfl) (by decide) (fun c28 => ?_) (fun c28 => ?_)
        · refine s_iload_n (tb_ok aX8_sheet_0 16 rfl) rfl ?_
          refine s_if_lt (tgt := 45) (tb_ok aX8_sheet_0 17 rfl) (by decide) (fun c35 => ?_) (fun c35 => ?_)
          · exact absurd c35 (by decide)
          · refine s_iload_n (tb_ok aX8_sheet_0 18 rfl) rfl ?_
            refine s_if_ge (tgt := 45) (tb_ok aX8_sheet_0 19 rfl) (by decide) (fun c39 => ?_) (fun c39 => ?_)
            · exact absurd hn (Int32.not_lt.mpr c39)
            · refine s_bipush (v := -14) (tb_ok aX8_sheet_0 20 rfl) (by decide) ?_
              refine s_iret (tb_ok aX8_sheet_0 21 rfl) rfl ?_
              exact pureR
        · exact absurd (Int32.le_of_lt (Int32.lt_of_lt_of_le hn (by decide))) c28

set_option maxRecDepth 100000 in
set_option maxHeartbeats 1000000 in
theorem R_sheetB {X : En} {L : FL} {q : Nat × Nat} {I : FI} {x w n : Int32} (hv : ¬ ((¬ x < 0 ∧ ¬ 3 < x) ∧ (¬ w < -1 ∧ ¬ 2 < w))) : Ev X 3 mX8_sheet (0, 0) [.ref 66, .int x, .int w, .int n] S0 I L (R0 q) (PureR (some (.int (-2))) S0 (I) L (R0 q)) := by
  refine ev_of (by decide +kernel) rfl ?_
  show SW X _ _ _ 0 [some (.ref 66), some (.int x), some (.int w), some (.int n), none] [] S0 I L (R0 q) _
  refine s_iload_n (tb_ok aX8_sheet_0 0 rfl) rfl ?_
  refine s_cSp (as := [.int x]) (tb_ok aX8_sheet_0 1 rfl) v_RX8_413 (R_isSheet _) (by decide) rfl rfl (Nat.le_of_ble_eq_true rfl) ?_
  refine s_if_eq (tgt := 31) (tb_ok aX8_sheet_0 2 rfl) (by decide) (fun c4 => ?_) (fun c4 => ?_)
  · refine s_bipush (v := -2) (tb_ok aX8_sheet_0 14 rfl) (by decide) ?_
    refine s_iret (tb_ok aX8_sheet_0 15 rfl) rfl ?_
    exact pureR
  · refine s_iload_n (tb_ok aX8_sheet_0 3 rfl) rfl ?_
    refine s_i2l (tb_ok aX8_sheet_0 4 rfl) ?_
    refine s_ldc2 (tb_ok aX8_sheet_0 5 rfl) k_RX8_446 ?_
    refine s_ldc2 (tb_ok aX8_sheet_0 6 rfl) k_RX8_352 ?_
    refine s_cSp (as := [_, .long (-1), .long (2)]) (tb_ok aX8_sheet_0 7 rfl) v_RX8_73 (R_in _ _ _) (by decide) rfl rfl (Nat.le_of_ble_eq_true rfl) ?_
    refine s_topi (bI_congr (in_iff (lo := -1) (hi := 2) rfl (by decide) (by decide))) ?_
    refine s_if_eq (tgt := 31) (tb_ok aX8_sheet_0 8 rfl) (by decide) (fun c18 => ?_) (fun c18 => ?_)
    · refine s_bipush (v := -2) (tb_ok aX8_sheet_0 14 rfl) (by decide) ?_
      refine s_iret (tb_ok aX8_sheet_0 15 rfl) rfl ?_
      exact pureR
    · exact absurd ⟨bI_n c4, bI_n c18⟩ hv

set_option maxRecDepth 100000 in
set_option maxHeartbeats 1000000 in
theorem R_cell0 {X : En} {L : FL} {q : Nat × Nat} {I : FI} {s : Nat} (hs : s < 4) (hth : I 78 s = 1) {z : Nat} (hz : I 80 s = nI z) (hz40 : z ≤ 40) (hso : I 79 s = 0) {i : Nat} (hi : i < z) (v : Int32) : Ev X 3 mX8_cell (0, 0) [.ref 66, .int (nI s), .int (nI i), .int v] S0 I L (R0 q) (PureR (some (.int 1)) S0 (up2 I 81 (40 * s + i) (cvt 0 v)) L (R0 q)) := by
  have hv : vH (nI i) z := by
    refine ⟨nI_pos (by omega), fun h2 => ?_⟩
    rw [show nI z - 1 = nI (z - 1) from nI_sub' (a := 1) (by omega)] at h2
    simp (disch := omega) only [nI_ltI] at h2
    omega
  refine ev_of (by decide +kernel) rfl ?_
  show SW X _ _ _ 0 [some (.ref 66), some (.int (nI s)), some (.int (nI i)), some (.int v)] [] S0 I L (R0 q) _
  refine s_iload_n (tb_ok aX8_cell_0 0 rfl) rfl ?_
  refine s_cSp (as := [.int (nI s)]) (tb_ok aX8_cell_0 1 rfl) v_RX8_413 (R_isSheet _) (by decide) rfl rfl (Nat.le_of_ble_eq_true rfl) ?_
  refine s_topi (bI_t (inN (n := s) (hi := 3) (by omega) (by decide))) ?_
  refine s_if_ne (tgt := 10) (tb_ok aX8_cell_0 2 rfl) (by decide) (fun c4 => ?_) (fun c4 => ?_)
  · refine s_aload_n (tb_ok aX8_cell_0 5 rfl) rfl ?_
    refine s_getR (r := 78) (tb_ok aX8_cell_0 6 rfl) f_RX8_50 rfl rfl rfl ?_
    refine s_iload_n (tb_ok aX8_cell_0 7 rfl) rfl ?_
    refine s_bald (x := (1)) (tb_ok aX8_cell_0 8 rfl) rfl (lw_in hs (by decide)) (by rw [nI_clamp (by omega)]; exact hth) ?_
    refine s_if_ne (tgt := 22) (tb_ok aX8_cell_0 9 rfl) (by decide) (fun c16 => ?_) (fun c16 => ?_)
    · refine s_iload_n (tb_ok aX8_cell_0 12 rfl) rfl ?_
      refine s_i2l (tb_ok aX8_cell_0 13 rfl) ?_
      refine s_lconst (v := 0) (tb_ok aX8_cell_0 14 rfl) (by decide) ?_
      refine s_aload_n (tb_ok aX8_cell_0 15 rfl) rfl ?_
      refine s_getR (r := 80) (tb_ok aX8_cell_0 16 rfl) f_RX8_57 rfl rfl rfl ?_
      refine s_iload_n (tb_ok aX8_cell_0 17 rfl) rfl ?_
      refine s_ialdX (x := (nI z)) (tb_ok aX8_cell_0 18 rfl) rfl (by omega) (by decide) hz ?_
      refine s_iconst (v := 1) (tb_ok aX8_cell_0 19 rfl) (by decide) ?_
      refine s_isub (tb_ok aX8_cell_0 20 rfl) ?_
      refine s_i2l (tb_ok aX8_cell_0 21 rfl) ?_
      refine s_cSp (as := [_, .long (0), _]) (tb_ok aX8_cell_0 22 rfl) v_RX8_73 (R_in _ _ _) (by decide) rfl rfl (Nat.le_of_ble_eq_true rfl) ?_
      refine s_topi (bI_t (in_m.mpr hv)) ?_
      refine s_if_ne (tgt := 43) (tb_ok aX8_cell_0 23 rfl) (by decide) (fun c37 => ?_) (fun c37 => ?_)
      · refine s_aload_n (tb_ok aX8_cell_1 2 rfl) rfl ?_
        refine s_getR (r := 81) (tb_ok aX8_cell_1 3 rfl) f_RX8_60 rfl rfl rfl ?_
        refine s_bipush (v := 40) (tb_ok aX8_cell_1 4 rfl) (by decide) ?_
        refine s_iload_n (tb_ok aX8_cell_1 5 rfl) rfl ?_
        refine s_imul (tb_ok aX8_cell_1 6 rfl) ?_
        refine s_topi (z := (nI (40 * s))) (nI_mul 40 s) ?_
        refine s_iload_n (tb_ok aX8_cell_1 7 rfl) rfl ?_
        refine s_iadd (tb_ok aX8_cell_1 8 rfl) ?_
        refine s_topi (z := (nI (40 * s + i))) (nI_add' (40 * s) i) ?_
        refine s_aload_n (tb_ok aX8_cell_1 9 rfl) rfl ?_
        refine s_getR (r := 79) (tb_ok aX8_cell_1 10 rfl) f_RX8_54 rfl rfl rfl ?_
        refine s_iload_n (tb_ok aX8_cell_1 11 rfl) rfl ?_
        refine s_ialdX (x := (0)) (tb_ok aX8_cell_1 12 rfl) rfl (by omega) (by decide) hso ?_
        refine s_if_ne (tgt := 67) (tb_ok aX8_cell_1 13 rfl) (by decide) (fun c59 => ?_) (fun c59 => ?_)
        · exact absurd c59 (by decide)
        · refine s_iload_n (tb_ok aX8_cell_1 14 rfl) rfl ?_
          refine s_i2b (tb_ok aX8_cell_1 15 rfl) ?_
          refine s_goto (tgt := 83) (tb_ok aX8_cell_1 16 rfl) (by decide) ?_
          refine s_iastN (tb_ok aX8_cell_2 3 rfl) rfl (by omega) (by decide) ?_
          refine s_iconst (v := 1) (tb_ok aX8_cell_2 4 rfl) (by decide) ?_
          refine s_iret (tb_ok aX8_cell_2 5 rfl) rfl ?_
          exact pureR
      · exact absurd c37 (by decide)
    · exact absurd c16 (by decide)
  · exact absurd c4 (by decide)

set_option maxRecDepth 100000 in
set_option maxHeartbeats 1000000 in
theorem R_cell1 {X : En} {L : FL} {q : Nat × Nat} {I : FI} {s : Nat} (hs : s < 4) (hth : I 78 s = 1) {z : Nat} (hz : I 80 s = nI z) (hz40 : z ≤ 40) (hso : I 79 s = 1) {i : Nat} (hi : i < z) (v : Int32) : Ev X 3 mX8_cell (0, 0) [.ref 66, .int (nI s), .int (nI i), .int v] S0 I L (R0 q) (PureR (some (.int 1)) S0 (up2 I 81 (40 * s + i) (cvt 1 v)) L (R0 q)) := by
  have hv : vH (nI i) z := by
    refine ⟨nI_pos (by omega), fun h2 => ?_⟩
    rw [show nI z - 1 = nI (z - 1) from nI_sub' (a := 1) (by omega)] at h2
    simp (disch := omega) only [nI_ltI] at h2
    omega
  refine ev_of (by decide +kernel) rfl ?_
  show SW X _ _ _ 0 [some (.ref 66), some (.int (nI s)), some (.int (nI i)), some (.int v)] [] S0 I L (R0 q) _
  refine s_iload_n (tb_ok aX8_cell_0 0 rfl) rfl ?_
  refine s_cSp (as := [.int (nI s)]) (tb_ok aX8_cell_0 1 rfl) v_RX8_413 (R_isSheet _) (by decide) rfl rfl (Nat.le_of_ble_eq_true rfl) ?_
  refine s_topi (bI_t (inN (n := s) (hi := 3) (by omega) (by decide))) ?_
  refine s_if_ne (tgt := 10) (tb_ok aX8_cell_0 2 rfl) (by decide) (fun c4 => ?_) (fun c4 => ?_)
  · refine s_aload_n (tb_ok aX8_cell_0 5 rfl) rfl ?_
    refine s_getR (r := 78) (tb_ok aX8_cell_0 6 rfl) f_RX8_50 rfl rfl rfl ?_
    refine s_iload_n (tb_ok aX8_cell_0 7 rfl) rfl ?_
    refine s_bald (x := (1)) (tb_ok aX8_cell_0 8 rfl) rfl (lw_in hs (by decide)) (by rw [nI_clamp (by omega)]; exact hth) ?_
    refine s_if_ne (tgt := 22) (tb_ok aX8_cell_0 9 rfl) (by decide) (fun c16 => ?_) (fun c16 => ?_)
    · refine s_iload_n (tb_ok aX8_cell_0 12 rfl) rfl ?_
      refine s_i2l (tb_ok aX8_cell_0 13 rfl) ?_
      refine s_lconst (v := 0) (tb_ok aX8_cell_0 14 rfl) (by decide) ?_
      refine s_aload_n (tb_ok aX8_cell_0 15 rfl) rfl ?_
      refine s_getR (r := 80) (tb_ok aX8_cell_0 16 rfl) f_RX8_57 rfl rfl rfl ?_
      refine s_iload_n (tb_ok aX8_cell_0 17 rfl) rfl ?_
      refine s_ialdX (x := (nI z)) (tb_ok aX8_cell_0 18 rfl) rfl (by omega) (by decide) hz ?_
      refine s_iconst (v := 1) (tb_ok aX8_cell_0 19 rfl) (by decide) ?_
      refine s_isub (tb_ok aX8_cell_0 20 rfl) ?_
      refine s_i2l (tb_ok aX8_cell_0 21 rfl) ?_
      refine s_cSp (as := [_, .long (0), _]) (tb_ok aX8_cell_0 22 rfl) v_RX8_73 (R_in _ _ _) (by decide) rfl rfl (Nat.le_of_ble_eq_true rfl) ?_
      refine s_topi (bI_t (in_m.mpr hv)) ?_
      refine s_if_ne (tgt := 43) (tb_ok aX8_cell_0 23 rfl) (by decide) (fun c37 => ?_) (fun c37 => ?_)
      · refine s_aload_n (tb_ok aX8_cell_1 2 rfl) rfl ?_
        refine s_getR (r := 81) (tb_ok aX8_cell_1 3 rfl) f_RX8_60 rfl rfl rfl ?_
        refine s_bipush (v := 40) (tb_ok aX8_cell_1 4 rfl) (by decide) ?_
        refine s_iload_n (tb_ok aX8_cell_1 5 rfl) rfl ?_
        refine s_imul (tb_ok aX8_cell_1 6 rfl) ?_
        refine s_topi (z := (nI (40 * s))) (nI_mul 40 s) ?_
        refine s_iload_n (tb_ok aX8_cell_1 7 rfl) rfl ?_
        refine s_iadd (tb_ok aX8_cell_1 8 rfl) ?_
        refine s_topi (z := (nI (40 * s + i))) (nI_add' (40 * s) i) ?_
        refine s_aload_n (tb_ok aX8_cell_1 9 rfl) rfl ?_
        refine s_getR (r := 79) (tb_ok aX8_cell_1 10 rfl) f_RX8_54 rfl rfl rfl ?_
        refine s_iload_n (tb_ok aX8_cell_1 11 rfl) rfl ?_
        refine s_ialdX (x := (1)) (tb_ok aX8_cell_1 12 rfl) rfl (by omega) (by decide) hso ?_
        refine s_if_ne (tgt := 67) (tb_ok aX8_cell_1 13 rfl) (by decide) (fun c59 => ?_) (fun c59 => ?_)
        · refine s_aload_n (tb_ok aX8_cell_1 17 rfl) rfl ?_
          refine s_getR (r := 79) (tb_ok aX8_cell_1 18 rfl) f_RX8_54 rfl rfl rfl ?_
          refine s_iload_n (tb_ok aX8_cell_1 19 rfl) rfl ?_
          refine s_ialdX (x := (1)) (tb_ok aX8_cell_1 20 rfl) rfl (by omega) (by decide) hso ?_
          refine s_iconst (v := 1) (tb_ok aX8_cell_1 21 rfl) (by decide) ?_
          refine s_icmp_ne (tgt := 82) (tb_ok aX8_cell_1 22 rfl) (by decide) (fun c74 => ?_) (fun c74 => ?_)
          · exact absurd c74 (by decide)
          · refine s_iload_n (tb_ok aX8_cell_1 23 rfl) rfl ?_
            refine s_i2s (tb_ok aX8_cell_2 0 rfl) ?_
            refine s_goto (tgt := 83) (tb_ok aX8_cell_2 1 rfl) (by decide) ?_
            refine s_iastN (tb_ok aX8_cell_2 3 rfl) rfl (by omega) (by decide) ?_
            refine s_iconst (v := 1) (tb_ok aX8_cell_2 4 rfl) (by decide) ?_
            refine s_iret (tb_ok aX8_cell_2 5 rfl) rfl ?_
            exact pureR
        · exact absurd c59 (by decide)
      · exact absurd c37 (by decide)
    · exact absurd c16 (by decide)
  · exact absurd c4 (by decide)

set_option maxRecDepth 100000 in
set_option maxHeartbeats 1000000 in
theorem R_cell2 {X : En} {L : FL} {q : Nat × Nat} {I : FI} {s : Nat} (hs : s < 4) (hth : I 78 s = 1) {z : Nat} (hz : I 80 s = nI z) (hz40 : z ≤ 40) (hso : I 79 s = 2) {i : Nat} (hi : i < z) (v : Int32) : Ev X 3 mX8_cell (0, 0) [.ref 66, .int (nI s), .int (nI i), .int v] S0 I L (R0 q) (PureR (some (.int 1)) S0 (up2 I 81 (40 * s + i) (cvt 2 v)) L (R0 q)) := by
  have hv : vH (nI i) z := by
    refine ⟨nI_pos (by omega), fun h2 => ?_⟩
    rw [show nI z - 1 = nI (z - 1) from nI_sub' (a := 1) (by omega)] at h2
    simp (disch := omega) only [nI_ltI] at h2
    omega
  refine ev_of (by decide +kernel) rfl ?_
  show SW X _ _ _ 0 [some (.ref 66), some (.int (nI s)), some (.int (nI i)), some (.int v)] [] S0 I L (R0 q) _
  refine s_iload_n (tb_ok aX8_cell_0 0 rfl) rfl ?_
  refine s_cSp (as := [.int (nI s)]) (tb_ok aX8_cell_0 1 rfl) v_RX8_413 (R_isSheet _) (by decide) rfl rfl (Nat.le_of_ble_eq_true rfl) ?_
  refine s_topi (bI_t (inN (n := s) (hi := 3) (by omega) (by decide))) ?_
  refine s_if_ne (tgt := 10) (tb_ok aX8_cell_0 2 rfl) (by decide) (fun c4 => ?_) (fun c4 => ?_)
  · refine s_aload_n (tb_ok aX8_cell_0 5 rfl) rfl ?_
    refine s_getR (r := 78) (tb_ok aX8_cell_0 6 rfl) f_RX8_50 rfl rfl rfl ?_
    refine s_iload_n (tb_ok aX8_cell_0 7 rfl) rfl ?_
    refine s_bald (x := (1)) (tb_ok aX8_cell_0 8 rfl) rfl (lw_in hs (by decide)) (by rw [nI_clamp (by omega)]; exact hth) ?_
    refine s_if_ne (tgt := 22) (tb_ok aX8_cell_0 9 rfl) (by decide) (fun c16 => ?_) (fun c16 => ?_)
    · refine s_iload_n (tb_ok aX8_cell_0 12 rfl) rfl ?_
      refine s_i2l (tb_ok aX8_cell_0 13 rfl) ?_
      refine s_lconst (v := 0) (tb_ok aX8_cell_0 14 rfl) (by decide) ?_
      refine s_aload_n (tb_ok aX8_cell_0 15 rfl) rfl ?_
      refine s_getR (r := 80) (tb_ok aX8_cell_0 16 rfl) f_RX8_57 rfl rfl rfl ?_
      refine s_iload_n (tb_ok aX8_cell_0 17 rfl) rfl ?_
      refine s_ialdX (x := (nI z)) (tb_ok aX8_cell_0 18 rfl) rfl (by omega) (by decide) hz ?_
      refine s_iconst (v := 1) (tb_ok aX8_cell_0 19 rfl) (by decide) ?_
      refine s_isub (tb_ok aX8_cell_0 20 rfl) ?_
      refine s_i2l (tb_ok aX8_cell_0 21 rfl) ?_
      refine s_cSp (as := [_, .long (0), _]) (tb_ok aX8_cell_0 22 rfl) v_RX8_73 (R_in _ _ _) (by decide) rfl rfl (Nat.le_of_ble_eq_true rfl) ?_
      refine s_topi (bI_t (in_m.mpr hv)) ?_
      refine s_if_ne (tgt := 43) (tb_ok aX8_cell_0 23 rfl) (by decide) (fun c37 => ?_) (fun c37 => ?_)
      · refine s_aload_n (tb_ok aX8_cell_1 2 rfl) rfl ?_
        refine s_getR (r := 81) (tb_ok aX8_cell_1 3 rfl) f_RX8_60 rfl rfl rfl ?_
        refine s_bipush (v := 40) (tb_ok aX8_cell_1 4 rfl) (by decide) ?_
        refine s_iload_n (tb_ok aX8_cell_1 5 rfl) rfl ?_
        refine s_imul (tb_ok aX8_cell_1 6 rfl) ?_
        refine s_topi (z := (nI (40 * s))) (nI_mul 40 s) ?_
        refine s_iload_n (tb_ok aX8_cell_1 7 rfl) rfl ?_
        refine s_iadd (tb_ok aX8_cell_1 8 rfl) ?_
        refine s_topi (z := (nI (40 * s + i))) (nI_add' (40 * s) i) ?_
        refine s_aload_n (tb_ok aX8_cell_1 9 rfl) rfl ?_
        refine s_getR (r := 79) (tb_ok aX8_cell_1 10 rfl) f_RX8_54 rfl rfl rfl ?_
        refine s_iload_n (tb_ok aX8_cell_1 11 rfl) rfl ?_
        refine s_ialdX (x := (2)) (tb_ok aX8_cell_1 12 rfl) rfl (by omega) (by decide) hso ?_
        refine s_if_ne (tgt := 67) (tb_ok aX8_cell_1 13 rfl) (by decide) (fun c59 => ?_) (fun c59 => ?_)
        · refine s_aload_n (tb_ok aX8_cell_1 17 rfl) rfl ?_
          refine s_getR (r := 79) (tb_ok aX8_cell_1 18 rfl) f_RX8_54 rfl rfl rfl ?_
          refine s_iload_n (tb_ok aX8_cell_1 19 rfl) rfl ?_
          refine s_ialdX (x := (2)) (tb_ok aX8_cell_1 20 rfl) rfl (by omega) (by decide) hso ?_
          refine s_iconst (v := 1) (tb_ok aX8_cell_1 21 rfl) (by decide) ?_
          refine s_icmp_ne (tgt := 82) (tb_ok aX8_cell_1 22 rfl) (by decide) (fun c74 => ?_) (fun c74 => ?_)
          · refine s_iload_n (tb_ok aX8_cell_2 2 rfl) rfl ?_
            refine s_iastN (tb_ok aX8_cell_2 3 rfl) rfl (by omega) (by decide) ?_
            refine s_iconst (v := 1) (tb_ok aX8_cell_2 4 rfl) (by decide) ?_
            refine s_iret (tb_ok aX8_cell_2 5 rfl) rfl ?_
            exact pureR
          · exact absurd c74 (by decide)
        · exact absurd c59 (by decide)
      · exact absurd c37 (by decide)
    · exact absurd c16 (by decide)
  · exact absurd c4 (by decide)

set_option maxRecDepth 100000 in
set_option maxHeartbeats 1000000 in
theorem R_cellO {X : En} {L : FL} {q : Nat × Nat} {I : FI} {s : Nat} (hs : s < 4) (hth : I 78 s = 1) {z : Nat} (hz : I 80 s = nI z) (hz40 : z ≤ 40) {x v : Int32} (hv : ¬ vH x z) : Ev X 3 mX8_cell (0, 0) [.ref 66, .int (nI s), .int x, .int v] S0 I L (R0 q) (PureR (some (.int (-12))) S0 (I) L (R0 q)) := by
  refine ev_of (by decide +kernel) rfl ?_
  show SW X _ _ _ 0 [some (.ref 66), some (.int (nI s)), some (.int x), some (.int v)] [] S0 I L (R0 q) _
  refine s_iload_n (tb_ok aX8_cell_0 0 rfl) rfl ?_
  refine s_cSp (as := [.int (nI s)]) (tb_ok aX8_cell_0 1 rfl) v_RX8_413 (R_isSheet _) (by decide) rfl rfl (Nat.le_of_ble_eq_true rfl) ?_
  refine s_topi (bI_t (inN (n := s) (hi := 3) (by omega) (by decide))) ?_
  refine s_if_ne (tgt := 10) (tb_ok aX8_cell_0 2 rfl) (by decide) (fun c4 => ?_) (fun c4 => ?_)
  · refine s_aload_n (tb_ok aX8_cell_0 5 rfl) rfl ?_
    refine s_getR (r := 78) (tb_ok aX8_cell_0 6 rfl) f_RX8_50 rfl rfl rfl ?_
    refine s_iload_n (tb_ok aX8_cell_0 7 rfl) rfl ?_
    refine s_bald (x := (1)) (tb_ok aX8_cell_0 8 rfl) rfl (lw_in hs (by decide)) (by rw [nI_clamp (by omega)]; exact hth) ?_
    refine s_if_ne (tgt := 22) (tb_ok aX8_cell_0 9 rfl) (by decide) (fun c16 => ?_) (fun c16 => ?_)
    · refine s_iload_n (tb_ok aX8_cell_0 12 rfl) rfl ?_
      refine s_i2l (tb_ok aX8_cell_0 13 rfl) ?_
      refine s_lconst (v := 0) (tb_ok aX8_cell_0 14 rfl) (by decide) ?_
      refine s_aload_n (tb_ok aX8_cell_0 15 rfl) rfl ?_
      refine s_getR (r := 80) (tb_ok aX8_cell_0 16 rfl) f_RX8_57 rfl rfl rfl ?_
      refine s_iload_n (tb_ok aX8_cell_0 17 rfl) rfl ?_
      refine s_ialdX (x := (nI z)) (tb_ok aX8_cell_0 18 rfl) rfl (by omega) (by decide) hz ?_
      refine s_iconst (v := 1) (tb_ok aX8_cell_0 19 rfl) (by decide) ?_
      refine s_isub (tb_ok aX8_cell_0 20 rfl) ?_
      refine s_i2l (tb_ok aX8_cell_0 21 rfl) ?_
      refine s_cSp (as := [_, .long (0), _]) (tb_ok aX8_cell_0 22 rfl) v_RX8_73 (R_in _ _ _) (by decide) rfl rfl (Nat.le_of_ble_eq_true rfl) ?_
      refine s_topi (bI_congr in_m) ?_
      refine s_if_ne (tgt := 43) (tb_ok aX8_cell_0 23 rfl) (by decide) (fun c37 => ?_) (fun c37 => ?_)
      · exact absurd (bI_n c37) hv
      · refine s_bipush (v := -12) (tb_ok aX8_cell_1 0 rfl) (by decide) ?_
        refine s_iret (tb_ok aX8_cell_1 1 rfl) rfl ?_
        exact pureR
    · exact absurd c16 (by decide)
  · exact absurd c4 (by decide)

set_option maxRecDepth 100000 in
set_option maxHeartbeats 1000000 in
theorem R_cellM {X : En} {L : FL} {q : Nat × Nat} {I : FI} {s : Nat} (hs : s < 4) (hth : I 78 s = 0) {x v : Int32} : Ev X 3 mX8_cell (0, 0) [.ref 66, .int (nI s), .int x, .int v] S0 I L (R0 q) (PureR (some (.int (-11))) S0 (I) L (R0 q)) := by
  refine ev_of (by decide +kernel) rfl ?_
  show SW X _ _ _ 0 [some (.ref 66), some (.int (nI s)), some (.int x), some (.int v)] [] S0 I L (R0 q) _
  refine s_iload_n (tb_ok aX8_cell_0 0 rfl) rfl ?_
  refine s_cSp (as := [.int (nI s)]) (tb_ok aX8_cell_0 1 rfl) v_RX8_413 (R_isSheet _) (by decide) rfl rfl (Nat.le_of_ble_eq_true rfl) ?_
  refine s_topi (bI_t (inN (n := s) (hi := 3) (by omega) (by decide))) ?_
  refine s_if_ne (tgt := 10) (tb_ok aX8_cell_0 2 rfl) (by decide) (fun c4 => ?_) (fun c4 => ?_)
  · refine s_aload_n (tb_ok aX8_cell_0 5 rfl) rfl ?_
    refine s_getR (r := 78) (tb_ok aX8_cell_0 6 rfl) f_RX8_50 rfl rfl rfl ?_
    refine s_iload_n (tb_ok aX8_cell_0 7 rfl) rfl ?_
    refine s_bald (x := (0)) (tb_ok aX8_cell_0 8 rfl) rfl (lw_in hs (by decide)) (by rw [nI_clamp (by omega)]; exact hth) ?_
    refine s_if_ne (tgt := 22) (tb_ok aX8_cell_0 9 rfl) (by decide) (fun c16 => ?_) (fun c16 => ?_)
    · exact absurd c16 (by decide)
    · refine s_bipush (v := -11) (tb_ok aX8_cell_0 10 rfl) (by decide) ?_
      refine s_iret (tb_ok aX8_cell_0 11 rfl) rfl ?_
      exact pureR
  · exact absurd c4 (by decide)

set_option maxRecDepth 100000 in
set_option maxHeartbeats 1000000 in
theorem R_cellB {X : En} {L : FL} {q : Nat × Nat} {I : FI} {w x v : Int32} (hv : ¬ (¬ w < 0 ∧ ¬ 3 < w)) : Ev X 3 mX8_cell (0, 0) [.ref 66, .int w, .int x, .int v] S0 I L (R0 q) (PureR (some (.int (-2))) S0 (I) L (R0 q)) := by
  refine ev_of (by decide +kernel) rfl ?_
  show SW X _ _ _ 0 [some (.ref 66), some (.int w), some (.int x), some (.int v)] [] S0 I L (R0 q) _
  refine s_iload_n (tb_ok aX8_cell_0 0 rfl) rfl ?_
  refine s_cSp (as := [.int w]) (tb_ok aX8_cell_0 1 rfl) v_RX8_413 (R_isSheet _) (by decide) rfl rfl (Nat.le_of_ble_eq_true rfl) ?_
  refine s_if_ne (tgt := 10) (tb_ok aX8_cell_0 2 rfl) (by decide) (fun c4 => ?_) (fun c4 => ?_)
  · exact absurd (bI_n c4) hv
  · refine s_bipush (v := -2) (tb_ok aX8_cell_0 3 rfl) (by decide) ?_
    refine s_iret (tb_ok aX8_cell_0 4 rfl) rfl ?_
    exact pureR
