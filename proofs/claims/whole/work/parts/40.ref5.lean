/-! the reference: the grammar, as the pure reading has it -/
def ZP (t nm : Nat → Int32) (n o : Nat) (I0 : FI) : PR → Int32 → FI → FL → Prop
  | .inl p, v, I, L => v = p.2.1 nm ∧ ROk t n o I0 p.2.2 I L
  | .inr f, _, I, _ => RBad I0 f I
def AfP (q : Nat × Nat) (t nm : Nat → Int32) (n o : Nat) (I0 : FI) (res : PR) : Pst := fun r S' I' L' R' => S' = S0 ∧ R' = R0 q ∧ ∃ v, r = some (.int v) ∧ ZP t nm n o I0 res v I' L'
def CtX (X : En) (q : Nat × Nat) (t nm : Nat → Int32) (n : Nat) (I0 : FI) (d : Nat) (y : MD) (o : Nat) (P : Pa) : Prop := ∀ (I : FI) (L : FL) (s : St), ROk t n o I0 s I L → Ev X d y (0, 0) [.ref 66] S0 I L (R0 q) (AfP q t nm n o I0 (P s))
theorem isK_key {s : St} {k : Nat} {j : Int32} (h6 : 6 ≤ k) (hj : nI (k - 2) = j) : isK k s ↔ s.tok = j := by
  unfold isK
  rw [if_neg (by omega), hj]
  exact ⟨fun h => h.1, fun h => ⟨h, fun h2 => absurd h2 (by omega)⟩⟩
theorem of2_add {a b : Int32} : of2 30000 a b = a + b := rfl
theorem of2_sub {a b : Int32} : of2 30001 a b = a - b := rfl
theorem of2_mul {a b : Int32} : of2 30002 a b = a * b := rfl
theorem of2_lt {a b : Int32} : of2 30003 a b = bI (a < b) := rfl
theorem of2_eq {a b : Int32} : of2 30004 a b = bI (a = b) := rfl
theorem of2_and {a b : Int32} : of2 30005 a b = bI (a ≠ 0 ∧ b ≠ 0) := rfl
theorem of2_or {a b : Int32} : of2 30006 a b = bI (a ≠ 0 ∨ b ≠ 0) := rfl
theorem of1_neg {a : Int32} : of1 20000 a = -a := rfl
theorem of1_not {a : Int32} : of1 20001 a = bI (a = 0) := rfl
theorem i64_32 (x : Int32) : x.toInt64.toInt32 = x := by
  apply Int32.toInt_inj.mp
  rw [Int64.toInt_toInt32, Int32.toInt_toInt64]
  have := x.toInt_lt
  have := x.le_toInt
  exact Int.bmod_eq_of_le (by omega) (by omega)
theorem ROk.nvl {t nm : Nat → Int32} {n o : Nat} {I0 I : FI} {L : FL} {s : St} (h : ROk t n o I0 s I L) (h1 : s.tok = 2) : (L 66 25).toInt32 = atm nm s.val := by
  obtain ⟨m, hm, e1, e2⟩ := h.nval h1
  rw [e1, e2, atm_n hm, i64_32]
theorem Nice.two {n dp : Nat} {P : Pa} {t : Nat → Int32} (hN : Nice n dp P) {s s2 : St} {c : List Int32} {v : Sem} (hw : Wf n s) (e : P s = .inl (c, v, s2)) : s.pl + 1 ≤ s2.pl := by
  have h := hN s hw
  rw [e] at h
  obtain ⟨_, h1, h2, _⟩ := h
  have h1 : s.pl + c.length ≤ s2.pl := h1
  omega
set_option maxRecDepth 100000 in
set_option maxHeartbeats 1000000 in
theorem C_atom5 {X : En} {q : Nat × Nat} {I0 : FI} {F n : Nat} {t nm : Nat → Int32} (hT : TxX I0 F n t nm) {d : Nat} (hd : 3 < d) : CtX X q t nm n I0 d mX8_atom5 5 (oneP t n none) := by
  intro I L s h
  obtain ⟨hF, hn, hn160, hFn, ht, ht0, hnm⟩ := id hT
  refine ev_of (by decide +kernel) rfl ?_
  show SW X _ _ _ 0 [some (.ref 66), none] [] S0 I L (R0 q) _
  refine s_iconst (v := 0) (tb_ok aX8_atom5_0 0 rfl) (by decide) ?_
  refine s_istore_n (ls' := [some (.ref 66), some (.int (0))]) (tb_ok aX8_atom5_0 1 rfl) rfl rfl ?_
  refine s_aload_n (tb_ok aX8_atom5_0 2 rfl) rfl ?_
  refine s_bipush (v := 45) (tb_ok aX8_atom5_0 3 rfl) (by decide) ?_
  refine s_cVp (as := [.int (45)]) (tb_ok aX8_atom5_0 4 rfl) v_RX8_215 (R_isSign (I0 := I0) h.2.2.1 h.2.2.2.2.2 (by decide)) (by omega) rfl rfl rfl rfl rfl (Nat.le_of_ble_eq_true rfl) (by decide) ?_
  refine s_if_eq (tgt := 19) (tb_ok aX8_atom5_0 5 rfl) (by decide) (fun c8 => ?_) (fun c8 => ?_)
  · have n45 : ¬ s.tok = 45 := bI_0.mp c8
    refine s_aload_n (tb_ok aX8_atom5_0 10 rfl) rfl ?_
    refine s_bipush (v := 40) (tb_ok aX8_atom5_0 11 rfl) (by decide) ?_
    refine s_cVp (as := [.int (40)]) (tb_ok aX8_atom5_0 12 rfl) v_RX8_215 (R_isSign (I0 := I0) h.2.2.1 h.2.2.2.2.2 (by decide)) (by omega) rfl rfl rfl rfl rfl (Nat.le_of_ble_eq_true rfl) (by decide) ?_
    refine s_if_eq (tgt := 36) (tb_ok aX8_atom5_0 13 rfl) (by decide) (fun c25 => ?_) (fun c25 => ?_)
    · have n40 : ¬ s.tok = 40 := bI_0.mp c25
      refine s_aload_n (tb_ok aX8_atom5_0 18 rfl) rfl ?_
      refine s_getI (x := (0)) (tb_ok aX8_atom5_0 19 rfl) f_RX8_173 rfl rfl h.2.2.1 ?_
      refine s_if_ne (tgt := 64) (tb_ok aX8_atom5_0 20 rfl) (by decide) (fun c40 => ?_) (fun c40 => ?_)
      · exact absurd c40 (by decide)
      · refine s_aload_n (tb_ok aX8_atom5_0 21 rfl) rfl ?_
        refine s_getI (tb_ok aX8_atom5_0 22 rfl) f_RX8_156 rfl rfl rfl ?_
        refine s_iconst (v := 2) (tb_ok aX8_atom5_0 23 rfl) (by decide) ?_
        refine s_icmp_ne (tgt := 64) (tb_ok aX8_atom5_1 0 rfl) (by decide) (fun c48 => ?_) (fun c48 => ?_)
        · refine s_aload_n (tb_ok aX8_atom5_1 8 rfl) rfl ?_
          refine s_getI (x := (0)) (tb_ok aX8_atom5_1 9 rfl) f_RX8_173 rfl rfl h.2.2.1 ?_
          refine s_if_ne (tgt := 98) (tb_ok aX8_atom5_1 10 rfl) (by decide) (fun c68 => ?_) (fun c68 => ?_)
          · exact absurd c68 (by decide)
          · refine s_aload_n (tb_ok aX8_atom5_1 11 rfl) rfl ?_
            refine s_getI (tb_ok aX8_atom5_1 12 rfl) f_RX8_156 rfl rfl rfl ?_
            refine s_iconst (v := 1) (tb_ok aX8_atom5_1 13 rfl) (by decide) ?_
            refine s_icmp_ne (tgt := 98) (tb_ok aX8_atom5_1 14 rfl) (by decide) (fun c76 => ?_) (fun c76 => ?_)
            · have n2 : ¬ s.tok = 2 := fun e_ => c48 (h.num.mpr e_)
              have n3 : ¬ s.tok = 3 := fun e_ => by
                rcases h.now c76 with k_ | k_ | k_ | k_
                · rw [e_] at k_; exact absurd k_ (by decide)
                · rw [e_] at k_; exact absurd k_ (by decide)
                · rw [e_] at k_; exact absurd k_ (by decide)
                · exact (sg_no k_).2.2.2.1 e_
              have hsq : (oneP t n none) s = .inr s.pl := by unfold oneP; rw [if_neg (fun h_ => h_.elim n2 n3), if_neg (fun h_ => h_.elim n45 n40)]
              refine s_aload_n (tb_ok aX8_atom5_2 0 rfl) rfl ?_
              refine s_cV (as := []) (tb_ok aX8_atom5_2 1 rfl) v_RX8_187 (R_fail h) (by omega) rfl rfl rfl rfl rfl (Nat.le_of_ble_eq_true rfl) (by decide) (fun r1 S1 I1 L1 R1 q1 => ?_)
              obtain ⟨rfl, rfl, rfl, u1⟩ := q1
              refine s_iload_n (tb_ok aX8_atom5_2 2 rfl) rfl ?_
              refine s_iret (tb_ok aX8_atom5_2 3 rfl) rfl ?_
              refine ⟨rfl, rfl, _, rfl, ?_⟩
              rw [hsq]
              exact u1
            · refine s_aload_n (tb_ok aX8_atom5_1 15 rfl) rfl ?_
              refine s_cV (as := []) (tb_ok aX8_atom5_1 16 rfl) v_RX8_222 (R_name hT h) (by omega) rfl rfl rfl rfl rfl (Nat.le_of_ble_eq_true rfl) (by decide) (fun r2 S2 I2 L2 R2 q2 => ?_)
              obtain ⟨rfl, rfl, v2_, rfl, ⟨h3, w2_, u2⟩ | ⟨n3, u2⟩⟩ := q2
              · have hsq : (oneP t n none) s = .inl ([s.val], (fun nm => atm nm s.val), adv t n s) := by unfold oneP; rw [if_pos (Or.inr h3)]
                refine s_istore_n (ls' := [some (.ref 66), some (.int v2_)]) (tb_ok aX8_atom5_1 17 rfl) rfl rfl ?_
                refine s_aload_n (tb_ok aX8_atom5_1 18 rfl) rfl ?_
                refine s_getI (x := (0)) (tb_ok aX8_atom5_1 19 rfl) f_RX8_173 rfl rfl u2.2.2.1 ?_
                refine s_if_ne (tgt := 102) (tb_ok aX8_atom5_1 20 rfl) (by decide) (fun c88 => ?_) (fun c88 => ?_)
                · exact absurd c88 (by decide)
                · refine s_aload_n (tb_ok aX8_atom5_1 21 rfl) rfl ?_
                  refine s_cV (as := []) (tb_ok aX8_atom5_1 22 rfl) v_RX8_190 (R_next hT u2 (by rw [h3]; decide) (by rw [h3]; decide)) (by omega) rfl rfl rfl rfl rfl (Nat.le_of_ble_eq_true rfl) (by decide) (fun r3 S3 I3 L3 R3 q3 => ?_)
                  obtain ⟨rfl, rfl, rfl, u3⟩ := q3
                  have a4 := (adv_wf (t := t) u2.2.1).2.2 (by rw [h3]; decide)
                  refine s_goto (tgt := 102) (tb_ok aX8_atom5_1 23 rfl) (by decide) ?_
                  refine s_iload_n (tb_ok aX8_atom5_2 2 rfl) rfl ?_
                  refine s_iret (tb_ok aX8_atom5_2 3 rfl) rfl ?_
                  refine ⟨rfl, rfl, _, rfl, ?_⟩
                  rw [hsq]
                  refine ⟨?_, u3⟩
                  exact w2_
              · have n2 : ¬ s.tok = 2 := fun e_ => by have := h.num.mpr e_; exact c48 this
                have hsq : (oneP t n none) s = .inr s.pl := by unfold oneP; rw [if_neg (fun h_ => h_.elim n2 n3), if_neg (fun h_ => h_.elim n45 n40)]
                refine s_istore_n (ls' := [some (.ref 66), some (.int v2_)]) (tb_ok aX8_atom5_1 17 rfl) rfl rfl ?_
                refine s_aload_n (tb_ok aX8_atom5_1 18 rfl) rfl ?_
                refine s_getI (x := (1)) (tb_ok aX8_atom5_1 19 rfl) f_RX8_173 rfl rfl u2.2.1 ?_
                refine s_if_ne (tgt := 102) (tb_ok aX8_atom5_1 20 rfl) (by decide) (fun c88 => ?_) (fun c88 => ?_)
                · refine s_iload_n (tb_ok aX8_atom5_2 2 rfl) rfl ?_
                  refine s_iret (tb_ok aX8_atom5_2 3 rfl) rfl ?_
                  refine ⟨rfl, rfl, _, rfl, ?_⟩
                  rw [hsq]
                  exact u2
                · exact absurd c88 (by decide)
        · have ht2 : s.tok = 2 := h.num.mp c48
          have hnv : (L 66 25).toInt32 = atm nm s.val := h.nvl ht2
          have hsq : (oneP t n none) s = .inl ([s.val], (fun nm => atm nm s.val), adv t n s) := by unfold oneP; rw [if_pos (Or.inl ht2)]
          refine s_aload_n (tb_ok aX8_atom5_1 1 rfl) rfl ?_
          refine s_getL (tb_ok aX8_atom5_1 2 rfl) f_RX8_167 rfl rfl rfl ?_
          refine s_l2i (tb_ok aX8_atom5_1 3 rfl) ?_
          refine s_name (fun x1 ex1 => ?_)
          refine s_istore_n (ls' := [some (.ref 66), some (.int x1)]) (tb_ok aX8_atom5_1 4 rfl) rfl rfl ?_
          refine s_aload_n (tb_ok aX8_atom5_1 5 rfl) rfl ?_
          refine s_cV (as := []) (tb_ok aX8_atom5_1 6 rfl) v_RX8_190 (R_next hT h (by rw [ht2]; decide) (by rw [ht2]; decide)) (by omega) rfl rfl rfl rfl rfl (Nat.le_of_ble_eq_true rfl) (by decide) (fun r4 S4 I4 L4 R4 q4 => ?_)
          obtain ⟨rfl, rfl, rfl, u5⟩ := q4
          have a6 := (adv_wf (t := t) h.2.1).2.2 (by rw [ht2]; decide)
          refine s_goto (tgt := 102) (tb_ok aX8_atom5_1 7 rfl) (by decide) ?_
          refine s_iload_n (tb_ok aX8_atom5_2 2 rfl) rfl ?_
          refine s_iret (tb_ok aX8_atom5_2 3 rfl) rfl ?_
          refine ⟨rfl, rfl, _, rfl, ?_⟩
          rw [hsq]
          refine ⟨?_, u5⟩
          first | exact ex1.trans hnv | exact ex1.trans (congrArg Neg.neg w2_)
    · have h40 : s.tok = 40 := bI_n c25
      have h4 : s.tok = 45 ∨ s.tok = 40 := Or.inr h40
      have h23 : ¬ (s.tok = 2 ∨ s.tok = 3) := by rw [h40]; decide
      have hsq : (oneP t n none) s = .inr s.pl := by
        unfold oneP
        rw [if_neg h23, if_pos h4]
      refine s_aload_n (tb_ok aX8_atom5_0 14 rfl) rfl ?_
      refine s_cV (as := []) (tb_ok aX8_atom5_0 15 rfl) v_RX8_218 (R_opens5 h) (by omega) rfl rfl rfl rfl rfl (Nat.le_of_ble_eq_true rfl) (by decide) (fun r5 S5 I5 L5 R5 q5 => ?_)
      obtain ⟨rfl, rfl, rfl, u7⟩ := q5
      refine s_pop (tb_ok aX8_atom5_0 16 rfl) rfl ?_
      refine s_goto (tgt := 102) (tb_ok aX8_atom5_0 17 rfl) (by decide) ?_
      refine s_iload_n (tb_ok aX8_atom5_2 2 rfl) rfl ?_
      refine s_iret (tb_ok aX8_atom5_2 3 rfl) rfl ?_
      refine ⟨rfl, rfl, _, rfl, ?_⟩
      rw [hsq]
      exact u7
  · have h45 : s.tok = 45 := bI_n c8
    have h4 : s.tok = 45 ∨ s.tok = 40 := Or.inl h45
    have h23 : ¬ (s.tok = 2 ∨ s.tok = 3) := by rw [h45]; decide
    have hsq : (oneP t n none) s = .inr s.pl := by
      unfold oneP
      rw [if_neg h23, if_pos h4]
    refine s_aload_n (tb_ok aX8_atom5_0 6 rfl) rfl ?_
    refine s_cV (as := []) (tb_ok aX8_atom5_0 7 rfl) v_RX8_218 (R_opens5 h) (by omega) rfl rfl rfl rfl rfl (Nat.le_of_ble_eq_true rfl) (by decide) (fun r6 S6 I6 L6 R6 q6 => ?_)
    obtain ⟨rfl, rfl, rfl, u8⟩ := q6
    refine s_pop (tb_ok aX8_atom5_0 8 rfl) rfl ?_
    refine s_goto (tgt := 102) (tb_ok aX8_atom5_0 9 rfl) (by decide) ?_
    refine s_iload_n (tb_ok aX8_atom5_2 2 rfl) rfl ?_
    refine s_iret (tb_ok aX8_atom5_2 3 rfl) rfl ?_
    refine ⟨rfl, rfl, _, rfl, ?_⟩
    rw [hsq]
    exact u8

set_option maxRecDepth 100000 in
set_option maxHeartbeats 1000000 in
theorem L_term5 {X : En} {q : Nat × Nat} {I0 : FI} {F n : Nat} {t nm : Nat → Int32} (hT : TxX I0 F n t nm) {d f : Nat} (hd : 2 < d) {Q : Pst} {I : FI} {L : FL} (x : Int32) (h : RBad I0 f I) (hQ : ∀ v, Q (some (.int v)) S0 I L (R0 q)) : SW X (d + 1) mX8_term5 (0, 0) 5 [some (.ref 66), some (.int x)] [] S0 I L (R0 q) (KQ X Q) := by
  refine s_aload_n (tb_ok aX8_term5_0 3 rfl) rfl ?_
  refine s_bipush (v := 42) (tb_ok aX8_term5_0 4 rfl) (by decide) ?_
  refine s_cVp (as := [.int (42)]) (tb_ok aX8_term5_0 5 rfl) v_RX8_215 (R_isSignE (I0 := I0) h.2.1) (by omega) rfl rfl rfl rfl rfl (Nat.le_of_ble_eq_true rfl) (by decide) ?_
  refine s_if_eq (tgt := 28) (tb_ok aX8_term5_0 6 rfl) (by decide) (fun c11 => ?_) (fun c11 => ?_)
  · refine s_iload_n (tb_ok aX8_term5_0 15 rfl) rfl ?_
    refine s_iret (tb_ok aX8_term5_0 16 rfl) rfl ?_
    exact hQ _
  · exact absurd c11 (by decide)

set_option maxRecDepth 100000 in
set_option maxHeartbeats 1000000 in
theorem C_term5 {X : En} {q : Nat × Nat} {I0 : FI} {F n : Nat} {t nm : Nat → Int32} (hT : TxX I0 F n t nm) {d dp : Nat} (hd : 2 < d) {P : Pa} (hN : Nice n dp P) (hi : CtX X q t nm n I0 d mX8_atom5 5 P) : CtX X q t nm n I0 (d + 1) mX8_term5 5 (seqP t n opT cdT P) := by
  intro I L s h
  obtain ⟨hF, hn, hn160, hFn, ht, ht0, hnm⟩ := id hT
  have loop : ∀ k, ∀ (I : FI) (L : FL) (c : List Int32) (f : Sem) (s1 : St) (x : Int32), x = f nm → ROk t n 5 I0 s1 I L → 160 < s1.pl + k → loopP t n opT cdT P k c f s1 = (seqP t n opT cdT P) s → SW X (d + 1) mX8_term5 (0, 0) 5 [some (.ref 66), some (.int x)] [] S0 I L (R0 q) (KQ X (AfP q t nm n 5 I0 ((seqP t n opT cdT P) s))) := by
    intro k
    induction k with
    | zero =>
      intro I L c f s1 x hx h1 hk hres
      have := h1.pln
      omega
    | succ k ih =>
      intro I L c f s1 x hx h1 hk hres
      refine s_aload_n (tb_ok aX8_term5_0 3 rfl) rfl ?_
      refine s_bipush (v := 42) (tb_ok aX8_term5_0 4 rfl) (by decide) ?_
      refine s_cVp (as := [.int (42)]) (tb_ok aX8_term5_0 5 rfl) v_RX8_215 (R_isSign (I0 := I0) h1.2.2.1 h1.2.2.2.2.2 (by decide)) (by omega) rfl rfl rfl rfl rfl (Nat.le_of_ble_eq_true rfl) (by decide) ?_
      refine s_if_eq (tgt := 28) (tb_ok aX8_term5_0 6 rfl) (by decide) (fun c11 => ?_) (fun c11 => ?_)
      · refine s_iload_n (tb_ok aX8_term5_0 15 rfl) rfl ?_
        refine s_iret (tb_ok aX8_term5_0 16 rfl) rfl ?_
        refine ⟨rfl, rfl, _, rfl, ?_⟩
        rw [← hres, loopP, if_neg (bI_0.mp c11)]
        exact ⟨hx, h1⟩
      · have hop : opT s1.tok := bI_n c11
        refine s_aload_n (tb_ok aX8_term5_0 7 rfl) rfl ?_
        refine s_cV (as := []) (tb_ok aX8_term5_0 8 rfl) v_RX8_190 (R_next hT h1 (by rw [hop]; decide) (by rw [hop]; decide)) (by omega) rfl rfl rfl rfl rfl (Nat.le_of_ble_eq_true rfl) (by decide) (fun r1 S1 I1 L1 R1 q1 => ?_)
        obtain ⟨rfl, rfl, rfl, u1⟩ := q1
        have a2 := (adv_wf (t := t) h1.2.1).2.2 (by rw [hop]; decide)
        refine s_iload_n (tb_ok aX8_term5_0 9 rfl) rfl ?_
        refine s_aload_n (tb_ok aX8_term5_0 10 rfl) rfl ?_
        refine s_cV (as := []) (tb_ok aX8_term5_0 11 rfl) v_RX8_226 (hi _ _ _ u1) (by omega) rfl rfl rfl rfl rfl (Nat.le_of_ble_eq_true rfl) (by decide) (fun r2 S2 I2 L2 R2 q2 => ?_)
        obtain ⟨rfl, rfl, v3_, rfl, u3⟩ := q2
        cases e3_ : P (adv t n s1) with
        | inr g3_ =>
          rw [e3_] at u3
          have u3 : RBad I0 g3_ _ := u3
          rw [loopP, if_pos hop, e3_] at hres
          refine s_imul (tb_ok aX8_term5_0 12 rfl) ?_
          refine s_name (fun x1 ex1 => ?_)
          refine s_istore_n (ls' := [some (.ref 66), some (.int x1)]) (tb_ok aX8_term5_0 13 rfl) rfl rfl ?_
          refine s_goto (tgt := 5) (tb_ok aX8_term5_0 14 rfl) (by decide) ?_
          refine L_term5 hT hd _ u3 (fun v => ⟨rfl, rfl, _, rfl, ?_⟩)
          rw [← hres]
          exact u3
        | inl qq =>
          obtain ⟨c3_, f3_, s3_⟩ := qq
          rw [e3_] at u3
          obtain ⟨w3_, u3⟩ := u3
          have w3_ : v3_ = f3_ nm := w3_
          have u3 : ROk t n 5 I0 s3_ _ _ := u3
          have b3_ := Nice.two (t := t) hN u1.2.1 e3_
          rw [loopP, if_pos hop, e3_] at hres
          refine s_imul (tb_ok aX8_term5_0 12 rfl) ?_
          refine s_name (fun x2 ex2 => ?_)
          refine s_istore_n (ls' := [some (.ref 66), some (.int x2)]) (tb_ok aX8_term5_0 13 rfl) rfl rfl ?_
          refine s_goto (tgt := 5) (tb_ok aX8_term5_0 14 rfl) (by decide) ?_
          refine ih _ _ _ _ _ x2 ?_ u3 (by omega) hres
          show x2 = of2 30002 (f nm) _
          rw [of2_mul, ex2, hx, w3_]
  refine ev_of (by decide +kernel) rfl ?_
  show SW X _ _ _ 0 [some (.ref 66), none] [] S0 I L (R0 q) _
  refine s_aload_n (tb_ok aX8_term5_0 0 rfl) rfl ?_
  refine s_cV (as := []) (tb_ok aX8_term5_0 1 rfl) v_RX8_226 (hi _ _ _ h) (by omega) rfl rfl rfl rfl rfl (Nat.le_of_ble_eq_true rfl) (by decide) (fun r1 S1 I1 L1 R1 q1 => ?_)
  obtain ⟨rfl, rfl, v4_, rfl, u4⟩ := q1
  cases e4_ : P s with
  | inr g4_ =>
    rw [e4_] at u4
    have u4 : RBad I0 g4_ _ := u4
    have hsq : (seqP t n opT cdT P) s = .inr g4_ := by unfold seqP; rw [e4_]
    refine s_istore_n (ls' := [some (.ref 66), some (.int v4_)]) (tb_ok aX8_term5_0 2 rfl) rfl rfl ?_
    refine L_term5 hT hd _ u4 (fun v => ⟨rfl, rfl, _, rfl, ?_⟩)
    rw [hsq]
    exact u4
  | inl qq =>
    obtain ⟨c4_, f4_, s4_⟩ := qq
    rw [e4_] at u4
    obtain ⟨w4_, u4⟩ := u4
    have w4_ : v4_ = f4_ nm := w4_
    have u4 : ROk t n 5 I0 s4_ _ _ := u4
    have b4_ := Nice.two (t := t) hN h.2.1 e4_
    have hsq : (seqP t n opT cdT P) s = loopP t n opT cdT P 160 c4_ f4_ s4_ := by unfold seqP; rw [e4_]
    refine s_istore_n (ls' := [some (.ref 66), some (.int v4_)]) (tb_ok aX8_term5_0 2 rfl) rfl rfl ?_
    exact loop 160 _ _ _ _ _ _ w4_ u4 (by omega) hsq.symm

set_option maxRecDepth 100000 in
set_option maxHeartbeats 1000000 in
theorem L_added5 {X : En} {q : Nat × Nat} {I0 : FI} {F n : Nat} {t nm : Nat → Int32} (hT : TxX I0 F n t nm) {d f : Nat} (hd : 2 < d) {Q : Pst} {I : FI} {L : FL} (x : Int32) (o2 : Option Value) (o3 : Option Value) (h : RBad I0 f I) (hQ : ∀ v, Q (some (.int v)) S0 I L (R0 q)) : SW X (d + 1) mX8_added5 (0, 0) 5 [some (.ref 66), some (.int x), o2, o3] [] S0 I L (R0 q) (KQ X Q) := by
  refine s_aload_n (tb_ok aX8_added5_0 3 rfl) rfl ?_
  refine s_bipush (v := 43) (tb_ok aX8_added5_0 4 rfl) (by decide) ?_
  refine s_cVp (as := [.int (43)]) (tb_ok aX8_added5_0 5 rfl) v_RX8_215 (R_isSignE (I0 := I0) h.2.1) (by omega) rfl rfl rfl rfl rfl (Nat.le_of_ble_eq_true rfl) (by decide) ?_
  refine s_if_ne (tgt := 23) (tb_ok aX8_added5_0 6 rfl) (by decide) (fun c11 => ?_) (fun c11 => ?_)
  · exact absurd c11 (by decide)
  · refine s_aload_n (tb_ok aX8_added5_0 7 rfl) rfl ?_
    refine s_bipush (v := 45) (tb_ok aX8_added5_0 8 rfl) (by decide) ?_
    refine s_cVp (as := [.int (45)]) (tb_ok aX8_added5_0 9 rfl) v_RX8_215 (R_isSignE (I0 := I0) h.2.1) (by omega) rfl rfl rfl rfl rfl (Nat.le_of_ble_eq_true rfl) (by decide) ?_
    refine s_if_eq (tgt := 66) (tb_ok aX8_added5_0 10 rfl) (by decide) (fun c20 => ?_) (fun c20 => ?_)
    · refine s_iload_n (tb_ok aX8_added5_1 12 rfl) rfl ?_
      refine s_iret (tb_ok aX8_added5_1 13 rfl) rfl ?_
      exact hQ _
    · exact absurd c20 (by decide)

set_option maxRecDepth 100000 in
set_option maxHeartbeats 1000000 in
theorem C_added5 {X : En} {q : Nat × Nat} {I0 : FI} {F n : Nat} {t nm : Nat → Int32} (hT : TxX I0 F n t nm) {d dp : Nat} (hd : 2 < d) {P : Pa} (hN : Nice n dp P) (hi : CtX X q t nm n I0 d mX8_term5 5 P) : CtX X q t nm n I0 (d + 1) mX8_added5 5 (seqP t n opS cdS P) := by
  intro I L s h
  obtain ⟨hF, hn, hn160, hFn, ht, ht0, hnm⟩ := id hT
  have loop : ∀ k, ∀ (o2 : Option Value) (o3 : Option Value) (I : FI) (L : FL) (c : List Int32) (f : Sem) (s1 : St) (x : Int32), x = f nm → ROk t n 5 I0 s1 I L → 160 < s1.pl + k → loopP t n opS cdS P k c f s1 = (seqP t n opS cdS P) s → SW X (d + 1) mX8_added5 (0, 0) 5 [some (.ref 66), some (.int x), o2, o3] [] S0 I L (R0 q) (KQ X (AfP q t nm n 5 I0 ((seqP t n opS cdS P) s))) := by
    intro k
    induction k with
    | zero =>
      intro o2 o3 I L c f s1 x hx h1 hk hres
      have := h1.pln
      omega
    | succ k ih =>
      intro o2 o3 I L c f s1 x hx h1 hk hres
      refine s_aload_n (tb_ok aX8_added5_0 3 rfl) rfl ?_
      refine s_bipush (v := 43) (tb_ok aX8_added5_0 4 rfl) (by decide) ?_
      refine s_cVp (as := [.int (43)]) (tb_ok aX8_added5_0 5 rfl) v_RX8_215 (R_isSign (I0 := I0) h1.2.2.1 h1.2.2.2.2.2 (by decide)) (by omega) rfl rfl rfl rfl rfl (Nat.le_of_ble_eq_true rfl) (by decide) ?_
      refine s_if_ne (tgt := 23) (tb_ok aX8_added5_0 6 rfl) (by decide) (fun c11 => ?_) (fun c11 => ?_)
      · have hop : opS s1.tok := by first | exact Or.inl (bI_n c11) | exact Or.inr (bI_n c20)
        have hwr := h1.wrth (by rcases hop with e_ | e_ <;> rw [e_] <;> decide)
        refine s_aload_n (tb_ok aX8_added5_0 11 rfl) rfl ?_
        refine s_getL (tb_ok aX8_added5_0 12 rfl) f_RX8_167 rfl rfl rfl ?_
        refine s_ldc2 (tb_ok aX8_added5_0 13 rfl) k_RX8_232 ?_
        refine s_lcmp (tb_ok aX8_added5_0 14 rfl) ?_
        refine s_if_ne (tgt := 38) (tb_ok aX8_added5_0 15 rfl) (by decide) (fun c31 => ?_) (fun c31 => ?_)
        · have h43 : ¬ s1.tok = 43 := fun e_ => c31 ((cmp_eq _ _).mpr (hwr.trans (by rw [e_]; rfl)))
          refine s_iconst (v := 0) (tb_ok aX8_added5_0 18 rfl) (by decide) ?_
          refine s_istore_n (ls' := [some (.ref 66), some (.int x), some (.int (0)), o3]) (tb_ok aX8_added5_0 19 rfl) rfl rfl ?_
          refine s_aload_n (tb_ok aX8_added5_0 20 rfl) rfl ?_
          refine s_cV (as := []) (tb_ok aX8_added5_0 21 rfl) v_RX8_190 (R_next hT h1 (by rcases hop with e_ | e_ <;> rw [e_] <;> decide) (by rcases hop with e_ | e_ <;> rw [e_] <;> decide)) (by omega) rfl rfl rfl rfl rfl (Nat.le_of_ble_eq_true rfl) (by decide) (fun r1 S1 I1 L1 R1 q1 => ?_)
          obtain ⟨rfl, rfl, rfl, u1⟩ := q1
          have a2 := (adv_wf (t := t) h1.2.1).2.2 (by rcases hop with e_ | e_ <;> rw [e_] <;> decide)
          refine s_aload_n (tb_ok aX8_added5_0 22 rfl) rfl ?_
          refine s_cV (as := []) (tb_ok aX8_added5_0 23 rfl) v_RX8_229 (hi _ _ _ u1) (by omega) rfl rfl rfl rfl rfl (Nat.le_of_ble_eq_true rfl) (by decide) (fun r2 S2 I2 L2 R2 q2 => ?_)
          obtain ⟨rfl, rfl, v3_, rfl, u3⟩ := q2
          cases e3_ : P (adv t n s1) with
          | inr g3_ =>
            rw [e3_] at u3
            have u3 : RBad I0 g3_ _ := u3
            rw [loopP, if_pos hop, e3_] at hres
            refine s_istore_n (ls' := [some (.ref 66), some (.int x), some (.int (0)), some (.int v3_)]) (tb_ok aX8_added5_1 0 rfl) rfl rfl ?_
            refine s_iload_n (tb_ok aX8_added5_1 1 rfl) rfl ?_
            refine s_if_eq (tgt := 59) (tb_ok aX8_added5_1 2 rfl) (by decide) (fun c50 => ?_) (fun c50 => ?_)
            · refine s_iload_n (tb_ok aX8_added5_1 7 rfl) rfl ?_
              refine s_iload_n (tb_ok aX8_added5_1 8 rfl) rfl ?_
              refine s_isub (tb_ok aX8_added5_1 9 rfl) ?_
              refine s_name (fun x1 ex1 => ?_)
              refine s_istore_n (ls' := [some (.ref 66), some (.int x1), some (.int (0)), some (.int v3_)]) (tb_ok aX8_added5_1 10 rfl) rfl rfl ?_
              refine s_goto (tgt := 5) (tb_ok aX8_added5_1 11 rfl) (by decide) ?_
              refine L_added5 hT hd _ _ _ u3 (fun v => ⟨rfl, rfl, _, rfl, ?_⟩)
              rw [← hres]
              exact u3
            · exact absurd c50 (by decide)
          | inl qq =>
            obtain ⟨c3_, f3_, s3_⟩ := qq
            rw [e3_] at u3
            obtain ⟨w3_, u3⟩ := u3
            have w3_ : v3_ = f3_ nm := w3_
            have u3 : ROk t n 5 I0 s3_ _ _ := u3
            have b3_ := Nice.two (t := t) hN u1.2.1 e3_
            rw [loopP, if_pos hop, e3_] at hres
            refine s_istore_n (ls' := [some (.ref 66), some (.int x), some (.int (0)), some (.int v3_)]) (tb_ok aX8_added5_1 0 rfl) rfl rfl ?_
            refine s_iload_n (tb_ok aX8_added5_1 1 rfl) rfl ?_
            refine s_if_eq (tgt := 59) (tb_ok aX8_added5_1 2 rfl) (by decide) (fun c50 => ?_) (fun c50 => ?_)
            · refine s_iload_n (tb_ok aX8_added5_1 7 rfl) rfl ?_
              refine s_iload_n (tb_ok aX8_added5_1 8 rfl) rfl ?_
              refine s_isub (tb_ok aX8_added5_1 9 rfl) ?_
              refine s_name (fun x2 ex2 => ?_)
              refine s_istore_n (ls' := [some (.ref 66), some (.int x2), some (.int (0)), some (.int v3_)]) (tb_ok aX8_added5_1 10 rfl) rfl rfl ?_
              refine s_goto (tgt := 5) (tb_ok aX8_added5_1 11 rfl) (by decide) ?_
              refine ih _ _ _ _ _ _ _ x2 ?_ u3 (by omega) hres
              show x2 = of2 (cdS s1.tok) (f nm) _
              first | (rw [show cdS s1.tok = 30000 from if_pos h43, of2_add, ex2, hx, w3_]; done) | (rw [show cdS s1.tok = 30001 from if_neg h43, of2_sub, ex2, hx, w3_]; done)
            · exact absurd c50 (by decide)
        · have h43 : s1.tok = 43 := i64_inj.mp (hwr.symm.trans ((cmp_eq _ _).mp c31))
          refine s_iconst (v := 1) (tb_ok aX8_added5_0 16 rfl) (by decide) ?_
          refine s_goto (tgt := 39) (tb_ok aX8_added5_0 17 rfl) (by decide) ?_
          refine s_istore_n (ls' := [some (.ref 66), some (.int x), some (.int (1)), o3]) (tb_ok aX8_added5_0 19 rfl) rfl rfl ?_
          refine s_aload_n (tb_ok aX8_added5_0 20 rfl) rfl ?_
          refine s_cV (as := []) (tb_ok aX8_added5_0 21 rfl) v_RX8_190 (R_next hT h1 (by rcases hop with e_ | e_ <;> rw [e_] <;> decide) (by rcases hop with e_ | e_ <;> rw [e_] <;> decide)) (by omega) rfl rfl rfl rfl rfl (Nat.le_of_ble_eq_true rfl) (by decide) (fun r3 S3 I3 L3 R3 q3 => ?_)
          obtain ⟨rfl, rfl, rfl, u4⟩ := q3
          have a5 := (adv_wf (t := t) h1.2.1).2.2 (by rcases hop with e_ | e_ <;> rw [e_] <;> decide)
          refine s_aload_n (tb_ok aX8_added5_0 22 rfl) rfl ?_
          refine s_cV (as := []) (tb_ok aX8_added5_0 23 rfl) v_RX8_229 (hi _ _ _ u4) (by omega) rfl rfl rfl rfl rfl (Nat.le_of_ble_eq_true rfl) (by decide) (fun r4 S4 I4 L4 R4 q4 => ?_)
          obtain ⟨rfl, rfl, v6_, rfl, u6⟩ := q4
          cases e6_ : P (adv t n s1) with
          | inr g6_ =>
            rw [e6_] at u6
            have u6 : RBad I0 g6_ _ := u6
            rw [loopP, if_pos hop, e6_] at hres
            refine s_istore_n (ls' := [some (.ref 66), some (.int x), some (.int (1)), some (.int v6_)]) (tb_ok aX8_added5_1 0 rfl) rfl rfl ?_
            refine s_iload_n (tb_ok aX8_added5_1 1 rfl) rfl ?_
            refine s_if_eq (tgt := 59) (tb_ok aX8_added5_1 2 rfl) (by decide) (fun c50 => ?_) (fun c50 => ?_)
            · exact absurd c50 (by decide)
            · refine s_iload_n (tb_ok aX8_added5_1 3 rfl) rfl ?_
              refine s_iload_n (tb_ok aX8_added5_1 4 rfl) rfl ?_
              refine s_iadd (tb_ok aX8_added5_1 5 rfl) ?_
              refine s_goto (tgt := 62) (tb_ok aX8_added5_1 6 rfl) (by decide) ?_
              refine s_name (fun x3 ex3 => ?_)
              refine s_istore_n (ls' := [some (.ref 66), some (.int x3), some (.int (1)), some (.int v6_)]) (tb_ok aX8_added5_1 10 rfl) rfl rfl ?_
              refine s_goto (tgt := 5) (tb_ok aX8_added5_1 11 rfl) (by decide) ?_
              refine L_added5 hT hd _ _ _ u6 (fun v => ⟨rfl, rfl, _, rfl, ?_⟩)
              rw [← hres]
              exact u6
          | inl qq =>
            obtain ⟨c6_, f6_, s6_⟩ := qq
            rw [e6_] at u6
            obtain ⟨w6_, u6⟩ := u6
            have w6_ : v6_ = f6_ nm := w6_
            have u6 : ROk t n 5 I0 s6_ _ _ := u6
            have b6_ := Nice.two (t := t) hN u4.2.1 e6_
            rw [loopP, if_pos hop, e6_] at hres
            refine s_istore_n (ls' := [some (.ref 66), some (.int x), some (.int (1)), some (.int v6_)]) (tb_ok aX8_added5_1 0 rfl) rfl rfl ?_
            refine s_iload_n (tb_ok aX8_added5_1 1 rfl) rfl ?_
            refine s_if_eq (tgt := 59) (tb_ok aX8_added5_1 2 rfl) (by decide) (fun c50 => ?_) (fun c50 => ?_)
            · exact absurd c50 (by decide)
            · refine s_iload_n (tb_ok aX8_added5_1 3 rfl) rfl ?_
              refine s_iload_n (tb_ok aX8_added5_1 4 rfl) rfl ?_
              refine s_iadd (tb_ok aX8_added5_1 5 rfl) ?_
              refine s_goto (tgt := 62) (tb_ok aX8_added5_1 6 rfl) (by decide) ?_
              refine s_name (fun x4 ex4 => ?_)
              refine s_istore_n (ls' := [some (.ref 66), some (.int x4), some (.int (1)), some (.int v6_)]) (tb_ok aX8_added5_1 10 rfl) rfl rfl ?_
              refine s_goto (tgt := 5) (tb_ok aX8_added5_1 11 rfl) (by decide) ?_
              refine ih _ _ _ _ _ _ _ x4 ?_ u6 (by omega) hres
              show x4 = of2 (cdS s1.tok) (f nm) _
              first | (rw [show cdS s1.tok = 30000 from if_pos h43, of2_add, ex4, hx, w6_]; done) | (rw [show cdS s1.tok = 30001 from if_neg h43, of2_sub, ex4, hx, w6_]; done)
      · refine s_aload_n (tb_ok aX8_added5_0 7 rfl) rfl ?_
        refine s_bipush (v := 45) (tb_ok aX8_added5_0 8 rfl) (by decide) ?_
        refine s_cVp (as := [.int (45)]) (tb_ok aX8_added5_0 9 rfl) v_RX8_215 (R_isSign (I0 := I0) h1.2.2.1 h1.2.2.2.2.2 (by decide)) (by omega) rfl rfl rfl rfl rfl (Nat.le_of_ble_eq_true rfl) (by decide) ?_
        refine s_if_eq (tgt := 66) (tb_ok aX8_added5_0 10 rfl) (by decide) (fun c20 => ?_) (fun c20 => ?_)
        · refine s_iload_n (tb_ok aX8_added5_1 12 rfl) rfl ?_
          refine s_iret (tb_ok aX8_added5_1 13 rfl) rfl ?_
          refine ⟨rfl, rfl, _, rfl, ?_⟩
          rw [← hres, loopP, if_neg (fun h_ => h_.elim (bI_0.mp c11) (bI_0.mp c20))]
          exact ⟨hx, h1⟩
        · have hop : opS s1.tok := by first | exact Or.inl (bI_n c11) | exact Or.inr (bI_n c20)
          have hwr := h1.wrth (by rcases hop with e_ | e_ <;> rw [e_] <;> decide)
          refine s_aload_n (tb_ok aX8_added5_0 11 rfl) rfl ?_
          refine s_getL (tb_ok aX8_added5_0 12 rfl) f_RX8_167 rfl rfl rfl ?_
          refine s_ldc2 (tb_ok aX8_added5_0 13 rfl) k_RX8_232 ?_
          refine s_lcmp (tb_ok aX8_added5_0 14 rfl) ?_
          refine s_if_ne (tgt := 38) (tb_ok aX8_added5_0 15 rfl) (by decide) (fun c31 => ?_) (fun c31 => ?_)
          · have h43 : ¬ s1.tok = 43 := fun e_ => c31 ((cmp_eq _ _).mpr (hwr.trans (by rw [e_]; rfl)))
            refine s_iconst (v := 0) (tb_ok aX8_added5_0 18 rfl) (by decide) ?_
            refine s_istore_n (ls' := [some (.ref 66), some (.int x), some (.int (0)), o3]) (tb_ok aX8_added5_0 19 rfl) rfl rfl ?_
            refine s_aload_n (tb_ok aX8_added5_0 20 rfl) rfl ?_
            refine s_cV (as := []) (tb_ok aX8_added5_0 21 rfl) v_RX8_190 (R_next hT h1 (by rcases hop with e_ | e_ <;> rw [e_] <;> decide) (by rcases hop with e_ | e_ <;> rw [e_] <;> decide)) (by omega) rfl rfl rfl rfl rfl (Nat.le_of_ble_eq_true rfl) (by decide) (fun r5 S5 I5 L5 R5 q5 => ?_)
            obtain ⟨rfl, rfl, rfl, u7⟩ := q5
            have a8 := (adv_wf (t := t) h1.2.1).2.2 (by rcases hop with e_ | e_ <;> rw [e_] <;> decide)
            refine s_aload_n (tb_ok aX8_added5_0 22 rfl) rfl ?_
            refine s_cV (as := []) (tb_ok aX8_added5_0 23 rfl) v_RX8_229 (hi _ _ _ u7) (by omega) rfl rfl rfl rfl rfl (Nat.le_of_ble_eq_true rfl) (by decide) (fun r6 S6 I6 L6 R6 q6 => ?_)
            obtain ⟨rfl, rfl, v9_, rfl, u9⟩ := q6
            cases e9_ : P (adv t n s1) with
            | inr g9_ =>
              rw [e9_] at u9
              have u9 : RBad I0 g9_ _ := u9
              rw [loopP, if_pos hop, e9_] at hres
              refine s_istore_n (ls' := [some (.ref 66), some (.int x), some (.int (0)), some (.int v9_)]) (tb_ok aX8_added5_1 0 rfl) rfl rfl ?_
              refine s_iload_n (tb_ok aX8_added5_1 1 rfl) rfl ?_
              refine s_if_eq (tgt := 59) (tb_ok aX8_added5_1 2 rfl) (by decide) (fun c50 => ?_) (fun c50 => ?_)
              · refine s_iload_n (tb_ok aX8_added5_1 7 rfl) rfl ?_
                refine s_iload_n (tb_ok aX8_added5_1 8 rfl) rfl ?_
                refine s_isub (tb_ok aX8_added5_1 9 rfl) ?_
                refine s_name (fun x5 ex5 => ?_)
                refine s_istore_n (ls' := [some (.ref 66), some (.int x5), some (.int (0)), some (.int v9_)]) (tb_ok aX8_added5_1 10 rfl) rfl rfl ?_
                refine s_goto (tgt := 5) (tb_ok aX8_added5_1 11 rfl) (by decide) ?_
                refine L_added5 hT hd _ _ _ u9 (fun v => ⟨rfl, rfl, _, rfl, ?_⟩)
                rw [← hres]
                exact u9
              · exact absurd c50 (by decide)
            | inl qq =>
              obtain ⟨c9_, f9_, s9_⟩ := qq
              rw [e9_] at u9
              obtain ⟨w9_, u9⟩ := u9
              have w9_ : v9_ = f9_ nm := w9_
              have u9 : ROk t n 5 I0 s9_ _ _ := u9
              have b9_ := Nice.two (t := t) hN u7.2.1 e9_
              rw [loopP, if_pos hop, e9_] at hres
              refine s_istore_n (ls' := [some (.ref 66), some (.int x), some (.int (0)), some (.int v9_)]) (tb_ok aX8_added5_1 0 rfl) rfl rfl ?_
              refine s_iload_n (tb_ok aX8_added5_1 1 rfl) rfl ?_
              refine s_if_eq (tgt := 59) (tb_ok aX8_added5_1 2 rfl) (by decide) (fun c50 => ?_) (fun c50 => ?_)
              · refine s_iload_n (tb_ok aX8_added5_1 7 rfl) rfl ?_
                refine s_iload_n (tb_ok aX8_added5_1 8 rfl) rfl ?_
                refine s_isub (tb_ok aX8_added5_1 9 rfl) ?_
                refine s_name (fun x6 ex6 => ?_)
                refine s_istore_n (ls' := [some (.ref 66), some (.int x6), some (.int (0)), some (.int v9_)]) (tb_ok aX8_added5_1 10 rfl) rfl rfl ?_
                refine s_goto (tgt := 5) (tb_ok aX8_added5_1 11 rfl) (by decide) ?_
                refine ih _ _ _ _ _ _ _ x6 ?_ u9 (by omega) hres
                show x6 = of2 (cdS s1.tok) (f nm) _
                first | (rw [show cdS s1.tok = 30000 from if_pos h43, of2_add, ex6, hx, w9_]; done) | (rw [show cdS s1.tok = 30001 from if_neg h43, of2_sub, ex6, hx, w9_]; done)
              · exact absurd c50 (by decide)
          · have h43 : s1.tok = 43 := i64_inj.mp (hwr.symm.trans ((cmp_eq _ _).mp c31))
            refine s_iconst (v := 1) (tb_ok aX8_added5_0 16 rfl) (by decide) ?_
            refine s_goto (tgt := 39) (tb_ok aX8_added5_0 17 rfl) (by decide) ?_
            refine s_istore_n (ls' := [some (.ref 66), some (.int x), some (.int (1)), o3]) (tb_ok aX8_added5_0 19 rfl) rfl rfl ?_
            refine s_aload_n (tb_ok aX8_added5_0 20 rfl) rfl ?_
            refine s_cV (as := []) (tb_ok aX8_added5_0 21 rfl) v_RX8_190 (R_next hT h1 (by rcases hop with e_ | e_ <;> rw [e_] <;> decide) (by rcases hop with e_ | e_ <;> rw [e_] <;> decide)) (by omega) rfl rfl rfl rfl rfl (Nat.le_of_ble_eq_true rfl) (by decide) (fun r7 S7 I7 L7 R7 q7 => ?_)
            obtain ⟨rfl, rfl, rfl, u10⟩ := q7
            have a11 := (adv_wf (t := t) h1.2.1).2.2 (by rcases hop with e_ | e_ <;> rw [e_] <;> decide)
            refine s_aload_n (tb_ok aX8_added5_0 22 rfl) rfl ?_
            refine s_cV (as := []) (tb_ok aX8_added5_0 23 rfl) v_RX8_229 (hi _ _ _ u10) (by omega) rfl rfl rfl rfl rfl (Nat.le_of_ble_eq_true rfl) (by decide) (fun r8 S8 I8 L8 R8 q8 => ?_)
            obtain ⟨rfl, rfl, v12_, rfl, u12⟩ := q8
            cases e12_ : P (adv t n s1) with
            | inr g12_ =>
              rw [e12_] at u12
              have u12 : RBad I0 g12_ _ := u12
              rw [loopP, if_pos hop, e12_] at hres
              refine s_istore_n (ls' := [some (.ref 66), some (.int x), some (.int (1)), some (.int v12_)]) (tb_ok aX8_added5_1 0 rfl) rfl rfl ?_
              refine s_iload_n (tb_ok aX8_added5_1 1 rfl) rfl ?_
              refine s_if_eq (tgt := 59) (tb_ok aX8_added5_1 2 rfl) (by decide) (fun c50 => ?_) (fun c50 => ?_)
              · exact absurd c50 (by decide)
              · refine s_iload_n (tb_ok aX8_added5_1 3 rfl) rfl ?_
                refine s_iload_n (tb_ok aX8_added5_1 4 rfl) rfl ?_
                refine s_iadd (tb_ok aX8_added5_1 5 rfl) ?_
                refine s_goto (tgt := 62) (tb_ok aX8_added5_1 6 rfl) (by decide) ?_
                refine s_name (fun x7 ex7 => ?_)
                refine s_istore_n (ls' := [some (.ref 66), some (.int x7), some (.int (1)), some (.int v12_)]) (tb_ok aX8_added5_1 10 rfl) rfl rfl ?_
                refine s_goto (tgt := 5) (tb_ok aX8_added5_1 11 rfl) (by decide) ?_
                refine L_added5 hT hd _ _ _ u12 (fun v => ⟨rfl, rfl, _, rfl, ?_⟩)
                rw [← hres]
                exact u12
            | inl qq =>
              obtain ⟨c12_, f12_, s12_⟩ := qq
              rw [e12_] at u12
              obtain ⟨w12_, u12⟩ := u12
              have w12_ : v12_ = f12_ nm := w12_
              have u12 : ROk t n 5 I0 s12_ _ _ := u12
              have b12_ := Nice.two (t := t) hN u10.2.1 e12_
              rw [loopP, if_pos hop, e12_] at hres
              refine s_istore_n (ls' := [some (.ref 66), some (.int x), some (.int (1)), some (.int v12_)]) (tb_ok aX8_added5_1 0 rfl) rfl rfl ?_
              refine s_iload_n (tb_ok aX8_added5_1 1 rfl) rfl ?_
              refine s_if_eq (tgt := 59) (tb_ok aX8_added5_1 2 rfl) (by decide) (fun c50 => ?_) (fun c50 => ?_)
              · exact absurd c50 (by decide)
              · refine s_iload_n (tb_ok aX8_added5_1 3 rfl) rfl ?_
                refine s_iload_n (tb_ok aX8_added5_1 4 rfl) rfl ?_
                refine s_iadd (tb_ok aX8_added5_1 5 rfl) ?_
                refine s_goto (tgt := 62) (tb_ok aX8_added5_1 6 rfl) (by decide) ?_
                refine s_name (fun x8 ex8 => ?_)
                refine s_istore_n (ls' := [some (.ref 66), some (.int x8), some (.int (1)), some (.int v12_)]) (tb_ok aX8_added5_1 10 rfl) rfl rfl ?_
                refine s_goto (tgt := 5) (tb_ok aX8_added5_1 11 rfl) (by decide) ?_
                refine ih _ _ _ _ _ _ _ x8 ?_ u12 (by omega) hres
                show x8 = of2 (cdS s1.tok) (f nm) _
                first | (rw [show cdS s1.tok = 30000 from if_pos h43, of2_add, ex8, hx, w12_]; done) | (rw [show cdS s1.tok = 30001 from if_neg h43, of2_sub, ex8, hx, w12_]; done)
  refine ev_of (by decide +kernel) rfl ?_
  show SW X _ _ _ 0 [some (.ref 66), none, none, none] [] S0 I L (R0 q) _
  refine s_aload_n (tb_ok aX8_added5_0 0 rfl) rfl ?_
  refine s_cV (as := []) (tb_ok aX8_added5_0 1 rfl) v_RX8_229 (hi _ _ _ h) (by omega) rfl rfl rfl rfl rfl (Nat.le_of_ble_eq_true rfl) (by decide) (fun r1 S1 I1 L1 R1 q1 => ?_)
  obtain ⟨rfl, rfl, v13_, rfl, u13⟩ := q1
  cases e13_ : P s with
  | inr g13_ =>
    rw [e13_] at u13
    have u13 : RBad I0 g13_ _ := u13
    have hsq : (seqP t n opS cdS P) s = .inr g13_ := by unfold seqP; rw [e13_]
    refine s_istore_n (ls' := [some (.ref 66), some (.int v13_), none, none]) (tb_ok aX8_added5_0 2 rfl) rfl rfl ?_
    refine L_added5 hT hd _ _ _ u13 (fun v => ⟨rfl, rfl, _, rfl, ?_⟩)
    rw [hsq]
    exact u13
  | inl qq =>
    obtain ⟨c13_, f13_, s13_⟩ := qq
    rw [e13_] at u13
    obtain ⟨w13_, u13⟩ := u13
    have w13_ : v13_ = f13_ nm := w13_
    have u13 : ROk t n 5 I0 s13_ _ _ := u13
    have b13_ := Nice.two (t := t) hN h.2.1 e13_
    have hsq : (seqP t n opS cdS P) s = loopP t n opS cdS P 160 c13_ f13_ s13_ := by unfold seqP; rw [e13_]
    refine s_istore_n (ls' := [some (.ref 66), some (.int v13_), none, none]) (tb_ok aX8_added5_0 2 rfl) rfl rfl ?_
    exact loop 160 _ _ _ _ _ _ _ _ w13_ u13 (by omega) hsq.symm

set_option maxRecDepth 100000 in
set_option maxHeartbeats 1000000 in
theorem C_not5 {X : En} {q : Nat × Nat} {I0 : FI} {F n : Nat} {t nm : Nat → Int32} (hT : TxX I0 F n t nm) {d : Nat} (hd : 3 < d) {d1 d2 : Nat} (hd1 : d1 < d) (hd2 : d2 < d) {P : Pa} (hc : CtX X q t nm n I0 d1 mX8_added5 5 P) : CtX X q t nm n I0 d mX8_not5 5 (notP t n none (cmpP t n P)) := by
  intro I L s h
  obtain ⟨hF, hn, hn160, hFn, ht, ht0, hnm⟩ := id hT
  refine ev_of (by decide +kernel) rfl ?_
  show SW X _ _ _ 0 [some (.ref 66), none, none, none] [] S0 I L (R0 q) _
  refine s_aload_n (tb_ok aX8_not5_0 0 rfl) rfl ?_
  refine s_bipush (v := 110) (tb_ok aX8_not5_0 1 rfl) (by decide) ?_
  refine s_bipush (v := 111) (tb_ok aX8_not5_0 2 rfl) (by decide) ?_
  refine s_bipush (v := 116) (tb_ok aX8_not5_0 3 rfl) (by decide) ?_
  refine s_iconst (v := 0) (tb_ok aX8_not5_0 4 rfl) (by decide) ?_
  refine s_iconst (v := 0) (tb_ok aX8_not5_0 5 rfl) (by decide) ?_
  refine s_iconst (v := 0) (tb_ok aX8_not5_0 6 rfl) (by decide) ?_
  refine s_iconst (v := 0) (tb_ok aX8_not5_0 7 rfl) (by decide) ?_
  refine s_iconst (v := 0) (tb_ok aX8_not5_0 8 rfl) (by decide) ?_
  refine s_cVp (as := [.int (110), .int (111), .int (116), .int (0), .int (0), .int (0), .int (0), .int (0)]) (tb_ok aX8_not5_0 9 rfl) v_RX8_193 (R_isWord hT h 11 (by decide)) (by omega) rfl rfl rfl rfl rfl (Nat.le_of_ble_eq_true rfl) (by decide) ?_
  refine s_topi (bI_congr (isK_key (k := 11) (j := 9) (by decide) rfl)) ?_
  refine s_if_eq (tgt := 25) (tb_ok aX8_not5_0 10 rfl) (by decide) (fun c15 => ?_) (fun c15 => ?_)
  · have n9 : ¬ s.tok = 9 := bI_0.mp c15
    refine s_aload_n (tb_ok aX8_not5_0 16 rfl) rfl ?_
    refine s_cV (as := []) (tb_ok aX8_not5_0 17 rfl) v_RX8_234 (hc _ _ _ h) (by omega) rfl rfl rfl rfl rfl (Nat.le_of_ble_eq_true rfl) (by decide) (fun r1 S1 I1 L1 R1 q1 => ?_)
    obtain ⟨rfl, rfl, v1_, rfl, u1⟩ := q1
    cases e1_ : P s with
    | inr g1_ =>
      rw [e1_] at u1
      have u1 : RBad I0 g1_ _ := u1
      have hsq : (notP t n none (cmpP t n P)) s = .inr g1_ := by
        unfold notP
        rw [if_neg n9]
        unfold cmpP
        rw [e1_]
      refine s_istore_n (ls' := [some (.ref 66), some (.int v1_), none, none]) (tb_ok aX8_not5_0 18 rfl) rfl rfl ?_
      refine s_aload_n (tb_ok aX8_not5_0 19 rfl) rfl ?_
      refine s_bipush (v := 60) (tb_ok aX8_not5_0 20 rfl) (by decide) ?_
      refine s_cVp (as := [.int (60)]) (tb_ok aX8_not5_0 21 rfl) v_RX8_215 (R_isSignE (I0 := I0) u1.2.1) (by omega) rfl rfl rfl rfl rfl (Nat.le_of_ble_eq_true rfl) (by decide) ?_
      refine s_if_ne (tgt := 50) (tb_ok aX8_not5_0 22 rfl) (by decide) (fun c36 => ?_) (fun c36 => ?_)
      · exact absurd c36 (by decide)
      · refine s_aload_n (tb_ok aX8_not5_0 23 rfl) rfl ?_
        refine s_bipush (v := 61) (tb_ok aX8_not5_1 0 rfl) (by decide) ?_
        refine s_cVp (as := [.int (61)]) (tb_ok aX8_not5_1 1 rfl) v_RX8_215 (R_isSignE (I0 := I0) u1.2.1) (by omega) rfl rfl rfl rfl rfl (Nat.le_of_ble_eq_true rfl) (by decide) ?_
        refine s_if_ne (tgt := 50) (tb_ok aX8_not5_1 2 rfl) (by decide) (fun c45 => ?_) (fun c45 => ?_)
        · exact absurd c45 (by decide)
        · refine s_iload_n (tb_ok aX8_not5_1 3 rfl) rfl ?_
          refine s_iret (tb_ok aX8_not5_1 4 rfl) rfl ?_
          refine ⟨rfl, rfl, _, rfl, ?_⟩
          rw [hsq]
          exact u1
    | inl qq =>
      obtain ⟨c1_, f1_, s1_⟩ := qq
      rw [e1_] at u1
      obtain ⟨w1_, u1⟩ := u1
      have w1_ : v1_ = f1_ nm := w1_
      have u1 : ROk t n 5 I0 s1_ _ _ := u1
      refine s_istore_n (ls' := [some (.ref 66), some (.int v1_), none, none]) (tb_ok aX8_not5_0 18 rfl) rfl rfl ?_
      refine s_aload_n (tb_ok aX8_not5_0 19 rfl) rfl ?_
      refine s_bipush (v := 60) (tb_ok aX8_not5_0 20 rfl) (by decide) ?_
      refine s_cVp (as := [.int (60)]) (tb_ok aX8_not5_0 21 rfl) v_RX8_215 (R_isSign (I0 := I0) u1.2.2.1 u1.2.2.2.2.2 (by decide)) (by omega) rfl rfl rfl rfl rfl (Nat.le_of_ble_eq_true rfl) (by decide) ?_
      refine s_if_ne (tgt := 50) (tb_ok aX8_not5_0 22 rfl) (by decide) (fun c36 => ?_) (fun c36 => ?_)
      · have hop : s1_.tok = 60 ∨ s1_.tok = 61 := by first | exact Or.inl (bI_n c36) | exact Or.inr (bI_n c45)
        have hwr := u1.wrth (by rcases hop with e_ | e_ <;> rw [e_] <;> decide)
        refine s_aload_n (tb_ok aX8_not5_1 5 rfl) rfl ?_
        refine s_getL (tb_ok aX8_not5_1 6 rfl) f_RX8_167 rfl rfl rfl ?_
        refine s_ldc2 (tb_ok aX8_not5_1 7 rfl) k_RX8_237 ?_
        refine s_lcmp (tb_ok aX8_not5_1 8 rfl) ?_
        refine s_if_ne (tgt := 65) (tb_ok aX8_not5_1 9 rfl) (by decide) (fun c58 => ?_) (fun c58 => ?_)
        · have h60 : ¬ s1_.tok = 60 := fun e_ => c58 ((cmp_eq _ _).mpr (hwr.trans (by rw [e_]; rfl)))
          refine s_iconst (v := 0) (tb_ok aX8_not5_1 12 rfl) (by decide) ?_
          refine s_istore_n (ls' := [some (.ref 66), some (.int v1_), some (.int (0)), none]) (tb_ok aX8_not5_1 13 rfl) rfl rfl ?_
          refine s_aload_n (tb_ok aX8_not5_1 14 rfl) rfl ?_
          refine s_cV (as := []) (tb_ok aX8_not5_1 15 rfl) v_RX8_190 (R_next hT u1 (by rcases hop with e_ | e_ <;> rw [e_] <;> decide) (by rcases hop with e_ | e_ <;> rw [e_] <;> decide)) (by omega) rfl rfl rfl rfl rfl (Nat.le_of_ble_eq_true rfl) (by decide) (fun r2 S2 I2 L2 R2 q2 => ?_)
          obtain ⟨rfl, rfl, rfl, u2⟩ := q2
          have a3 := (adv_wf (t := t) u1.2.1).2.2 (by rcases hop with e_ | e_ <;> rw [e_] <;> decide)
          refine s_aload_n (tb_ok aX8_not5_1 16 rfl) rfl ?_
          refine s_cV (as := []) (tb_ok aX8_not5_1 17 rfl) v_RX8_234 (hc _ _ _ u2) (by omega) rfl rfl rfl rfl rfl (Nat.le_of_ble_eq_true rfl) (by decide) (fun r3 S3 I3 L3 R3 q3 => ?_)
          obtain ⟨rfl, rfl, v4_, rfl, u4⟩ := q3
          cases e4_ : P (adv t n s1_) with
          | inr g4_ =>
            rw [e4_] at u4
            have u4 : RBad I0 g4_ _ := u4
            have hsq : (notP t n none (cmpP t n P)) s = .inr g4_ := by
              unfold notP
              rw [if_neg n9]
              unfold cmpP
              rw [e1_]
              show (if s1_.tok = 60 ∨ s1_.tok = 61 then _ else _) = _
              rw [if_pos hop, e4_]
            refine s_istore_n (ls' := [some (.ref 66), some (.int v1_), some (.int (0)), some (.int v4_)]) (tb_ok aX8_not5_1 18 rfl) rfl rfl ?_
            refine s_iload_n (tb_ok aX8_not5_1 19 rfl) rfl ?_
            refine s_if_eq (tgt := 88) (tb_ok aX8_not5_1 20 rfl) (by decide) (fun c77 => ?_) (fun c77 => ?_)
            · refine s_iload_n (tb_ok aX8_not5_2 1 rfl) rfl ?_
              refine s_iload_n (tb_ok aX8_not5_2 2 rfl) rfl ?_
              refine s_icmp_ne (tgt := 97) (tb_ok aX8_not5_2 3 rfl) (by decide) (fun c90 => ?_) (fun c90 => ?_)
              · refine s_iconst (v := 0) (tb_ok aX8_not5_2 6 rfl) (by decide) ?_
                refine s_iret (tb_ok aX8_not5_2 7 rfl) rfl ?_
                refine ⟨rfl, rfl, _, rfl, ?_⟩
                rw [hsq]
                exact u4
              · refine s_iconst (v := 1) (tb_ok aX8_not5_2 4 rfl) (by decide) ?_
                refine s_goto (tgt := 98) (tb_ok aX8_not5_2 5 rfl) (by decide) ?_
                refine s_iret (tb_ok aX8_not5_2 7 rfl) rfl ?_
                refine ⟨rfl, rfl, _, rfl, ?_⟩
                rw [hsq]
                exact u4
            · exact absurd c77 (by decide)
          | inl qq =>
            obtain ⟨c4_, f4_, s4_⟩ := qq
            rw [e4_] at u4
            obtain ⟨w4_, u4⟩ := u4
            have w4_ : v4_ = f4_ nm := w4_
            have u4 : ROk t n 5 I0 s4_ _ _ := u4
            have hsq : (notP t n none (cmpP t n P)) s = .inl (c1_ ++ c4_ ++ [cdC s1_.tok], (fun nm => of2 (cdC s1_.tok) (f1_ nm) (f4_ nm)), s4_) := by
              unfold notP
              rw [if_neg n9]
              unfold cmpP
              rw [e1_]
              show (if s1_.tok = 60 ∨ s1_.tok = 61 then _ else _) = _
              rw [if_pos hop, e4_]
            refine s_istore_n (ls' := [some (.ref 66), some (.int v1_), some (.int (0)), some (.int v4_)]) (tb_ok aX8_not5_1 18 rfl) rfl rfl ?_
            refine s_iload_n (tb_ok aX8_not5_1 19 rfl) rfl ?_
            refine s_if_eq (tgt := 88) (tb_ok aX8_not5_1 20 rfl) (by decide) (fun c77 => ?_) (fun c77 => ?_)
            · refine s_iload_n (tb_ok aX8_not5_2 1 rfl) rfl ?_
              refine s_iload_n (tb_ok aX8_not5_2 2 rfl) rfl ?_
              refine s_icmp_ne (tgt := 97) (tb_ok aX8_not5_2 3 rfl) (by decide) (fun c90 => ?_) (fun c90 => ?_)
              · refine s_iconst (v := 0) (tb_ok aX8_not5_2 6 rfl) (by decide) ?_
                refine s_iret (tb_ok aX8_not5_2 7 rfl) rfl ?_
                refine ⟨rfl, rfl, _, rfl, ?_⟩
                rw [hsq]
                refine ⟨?_, u4⟩
                show ((0) : Int32) = of2 (cdC s1_.tok) (f1_ nm) _
                first | (rw [show cdC s1_.tok = 30003 from if_pos h60, of2_lt, ← w1_, ← w4_]; first | exact (bI_f (Int32.not_lt.mpr c82)).symm | exact (bI_t (Int32.not_le.mp c82)).symm) | (rw [show cdC s1_.tok = 30004 from if_neg h60, of2_eq, ← w1_, ← w4_]; first | exact (bI_t c90).symm | exact (bI_f c90).symm)
              · refine s_iconst (v := 1) (tb_ok aX8_not5_2 4 rfl) (by decide) ?_
                refine s_goto (tgt := 98) (tb_ok aX8_not5_2 5 rfl) (by decide) ?_
                refine s_iret (tb_ok aX8_not5_2 7 rfl) rfl ?_
                refine ⟨rfl, rfl, _, rfl, ?_⟩
                rw [hsq]
                refine ⟨?_, u4⟩
                show ((1) : Int32) = of2 (cdC s1_.tok) (f1_ nm) _
                first | (rw [show cdC s1_.tok = 30003 from if_pos h60, of2_lt, ← w1_, ← w4_]; first | exact (bI_f (Int32.not_lt.mpr c82)).symm | exact (bI_t (Int32.not_le.mp c82)).symm) | (rw [show cdC s1_.tok = 30004 from if_neg h60, of2_eq, ← w1_, ← w4_]; first | exact (bI_t c90).symm | exact (bI_f c90).symm)
            · exact absurd c77 (by decide)
        · have h60 : s1_.tok = 60 := i64_inj.mp (hwr.symm.trans ((cmp_eq _ _).mp c58))
          refine s_iconst (v := 1) (tb_ok aX8_not5_1 10 rfl) (by decide) ?_
          refine s_goto (tgt := 66) (tb_ok aX8_not5_1 11 rfl) (by decide) ?_
          refine s_istore_n (ls' := [some (.ref 66), some (.int v1_), some (.int (1)), none]) (tb_ok aX8_not5_1 13 rfl) rfl rfl ?_
          refine s_aload_n (tb_ok aX8_not5_1 14 rfl) rfl ?_
          refine s_cV (as := []) (tb_ok aX8_not5_1 15 rfl) v_RX8_190 (R_next hT u1 (by rcases hop with e_ | e_ <;> rw [e_] <;> decide) (by rcases hop with e_ | e_ <;> rw [e_] <;> decide)) (by omega) rfl rfl rfl rfl rfl (Nat.le_of_ble_eq_true rfl) (by decide) (fun r4 S4 I4 L4 R4 q4 => ?_)
          obtain ⟨rfl, rfl, rfl, u5⟩ := q4
          have a6 := (adv_wf (t := t) u1.2.1).2.2 (by rcases hop with e_ | e_ <;> rw [e_] <;> decide)
          refine s_aload_n (tb_ok aX8_not5_1 16 rfl) rfl ?_
          refine s_cV (as := []) (tb_ok aX8_not5_1 17 rfl) v_RX8_234 (hc _ _ _ u5) (by omega) rfl rfl rfl rfl rfl (Nat.le_of_ble_eq_true rfl) (by decide) (fun r5 S5 I5 L5 R5 q5 => ?_)
          obtain ⟨rfl, rfl, v7_, rfl, u7⟩ := q5
          cases e7_ : P (adv t n s1_) with
          | inr g7_ =>
            rw [e7_] at u7
            have u7 : RBad I0 g7_ _ := u7
            have hsq : (notP t n none (cmpP t n P)) s = .inr g7_ := by
              unfold notP
              rw [if_neg n9]
              unfold cmpP
              rw [e1_]
              show (if s1_.tok = 60 ∨ s1_.tok = 61 then _ else _) = _
              rw [if_pos hop, e7_]
            refine s_istore_n (ls' := [some (.ref 66), some (.int v1_), some (.int (1)), some (.int v7_)]) (tb_ok aX8_not5_1 18 rfl) rfl rfl ?_
            refine s_iload_n (tb_ok aX8_not5_1 19 rfl) rfl ?_
            refine s_if_eq (tgt := 88) (tb_ok aX8_not5_1 20 rfl) (by decide) (fun c77 => ?_) (fun c77 => ?_)
            · exact absurd c77 (by decide)
            · refine s_iload_n (tb_ok aX8_not5_1 21 rfl) rfl ?_
              refine s_iload_n (tb_ok aX8_not5_1 22 rfl) rfl ?_
              refine s_icmp_ge (tgt := 97) (tb_ok aX8_not5_1 23 rfl) (by decide) (fun c82 => ?_) (fun c82 => ?_)
              · refine s_iconst (v := 0) (tb_ok aX8_not5_2 6 rfl) (by decide) ?_
                refine s_iret (tb_ok aX8_not5_2 7 rfl) rfl ?_
                refine ⟨rfl, rfl, _, rfl, ?_⟩
                rw [hsq]
                exact u7
              · refine s_goto (tgt := 93) (tb_ok aX8_not5_2 0 rfl) (by decide) ?_
                refine s_iconst (v := 1) (tb_ok aX8_not5_2 4 rfl) (by decide) ?_
                refine s_goto (tgt := 98) (tb_ok aX8_not5_2 5 rfl) (by decide) ?_
                refine s_iret (tb_ok aX8_not5_2 7 rfl) rfl ?_
                refine ⟨rfl, rfl, _, rfl, ?_⟩
                rw [hsq]
                exact u7
          | inl qq =>
            obtain ⟨c7_, f7_, s7_⟩ := qq
            rw [e7_] at u7
            obtain ⟨w7_, u7⟩ := u7
            have w7_ : v7_ = f7_ nm := w7_
            have u7 : ROk t n 5 I0 s7_ _ _ := u7
            have hsq : (notP t n none (cmpP t n P)) s = .inl (c1_ ++ c7_ ++ [cdC s1_.tok], (fun nm => of2 (cdC s1_.tok) (f1_ nm) (f7_ nm)), s7_) := by
              unfold notP
              rw [if_neg n9]
              unfold cmpP
              rw [e1_]
              show (if s1_.tok = 60 ∨ s1_.tok = 61 then _ else _) = _
              rw [if_pos hop, e7_]
            refine s_istore_n (ls' := [some (.ref 66), some (.int v1_), some (.int (1)), some (.int v7_)]) (tb_ok aX8_not5_1 18 rfl) rfl rfl ?_
            refine s_iload_n (tb_ok aX8_not5_1 19 rfl) rfl ?_
            refine s_if_eq (tgt := 88) (tb_ok aX8_not5_1 20 rfl) (by decide) (fun c77 => ?_) (fun c77 => ?_)
            · exact absurd c77 (by decide)
            · refine s_iload_n (tb_ok aX8_not5_1 21 rfl) rfl ?_
              refine s_iload_n (tb_ok aX8_not5_1 22 rfl) rfl ?_
              refine s_icmp_ge (tgt := 97) (tb_ok aX8_not5_1 23 rfl) (by decide) (fun c82 => ?_) (fun c82 => ?_)
              · refine s_iconst (v := 0) (tb_ok aX8_not5_2 6 rfl) (by decide) ?_
                refine s_iret (tb_ok aX8_not5_2 7 rfl) rfl ?_
                refine ⟨rfl, rfl, _, rfl, ?_⟩
                rw [hsq]
                refine ⟨?_, u7⟩
                show ((0) : Int32) = of2 (cdC s1_.tok) (f1_ nm) _
                first | (rw [show cdC s1_.tok = 30003 from if_pos h60, of2_lt, ← w1_, ← w7_]; first | exact (bI_f (Int32.not_lt.mpr c82)).symm | exact (bI_t (Int32.not_le.mp c82)).symm) | (rw [show cdC s1_.tok = 30004 from if_neg h60, of2_eq, ← w1_, ← w7_]; first | exact (bI_t c90).symm | exact (bI_f c90).symm)
              · refine s_goto (tgt := 93) (tb_ok aX8_not5_2 0 rfl) (by decide) ?_
                refine s_iconst (v := 1) (tb_ok aX8_not5_2 4 rfl) (by decide) ?_
                refine s_goto (tgt := 98) (tb_ok aX8_not5_2 5 rfl) (by decide) ?_
                refine s_iret (tb_ok aX8_not5_2 7 rfl) rfl ?_
                refine ⟨rfl, rfl, _, rfl, ?_⟩
                rw [hsq]
                refine ⟨?_, u7⟩
                show ((1) : Int32) = of2 (cdC s1_.tok) (f1_ nm) _
                first | (rw [show cdC s1_.tok = 30003 from if_pos h60, of2_lt, ← w1_, ← w7_]; first | exact (bI_f (Int32.not_lt.mpr c82)).symm | exact (bI_t (Int32.not_le.mp c82)).symm) | (rw [show cdC s1_.tok = 30004 from if_neg h60, of2_eq, ← w1_, ← w7_]; first | exact (bI_t c90).symm | exact (bI_f c90).symm)
      · refine s_aload_n (tb_ok aX8_not5_0 23 rfl) rfl ?_
        refine s_bipush (v := 61) (tb_ok aX8_not5_1 0 rfl) (by decide) ?_
        refine s_cVp (as := [.int (61)]) (tb_ok aX8_not5_1 1 rfl) v_RX8_215 (R_isSign (I0 := I0) u1.2.2.1 u1.2.2.2.2.2 (by decide)) (by omega) rfl rfl rfl rfl rfl (Nat.le_of_ble_eq_true rfl) (by decide) ?_
        refine s_if_ne (tgt := 50) (tb_ok aX8_not5_1 2 rfl) (by decide) (fun c45 => ?_) (fun c45 => ?_)
        · have hop : s1_.tok = 60 ∨ s1_.tok = 61 := by first | exact Or.inl (bI_n c36) | exact Or.inr (bI_n c45)
          have hwr := u1.wrth (by rcases hop with e_ | e_ <;> rw [e_] <;> decide)
          refine s_aload_n (tb_ok aX8_not5_1 5 rfl) rfl ?_
          refine s_getL (tb_ok aX8_not5_1 6 rfl) f_RX8_167 rfl rfl rfl ?_
          refine s_ldc2 (tb_ok aX8_not5_1 7 rfl) k_RX8_237 ?_
          refine s_lcmp (tb_ok aX8_not5_1 8 rfl) ?_
          refine s_if_ne (tgt := 65) (tb_ok aX8_not5_1 9 rfl) (by decide) (fun c58 => ?_) (fun c58 => ?_)
          · have h60 : ¬ s1_.tok = 60 := fun e_ => c58 ((cmp_eq _ _).mpr (hwr.trans (by rw [e_]; rfl)))
            refine s_iconst (v := 0) (tb_ok aX8_not5_1 12 rfl) (by decide) ?_
            refine s_istore_n (ls' := [some (.ref 66), some (.int v1_), some (.int (0)), none]) (tb_ok aX8_not5_1 13 rfl) rfl rfl ?_
            refine s_aload_n (tb_ok aX8_not5_1 14 rfl) rfl ?_
            refine s_cV (as := []) (tb_ok aX8_not5_1 15 rfl) v_RX8_190 (R_next hT u1 (by rcases hop with e_ | e_ <;> rw [e_] <;> decide) (by rcases hop with e_ | e_ <;> rw [e_] <;> decide)) (by omega) rfl rfl rfl rfl rfl (Nat.le_of_ble_eq_true rfl) (by decide) (fun r6 S6 I6 L6 R6 q6 => ?_)
            obtain ⟨rfl, rfl, rfl, u8⟩ := q6
            have a9 := (adv_wf (t := t) u1.2.1).2.2 (by rcases hop with e_ | e_ <;> rw [e_] <;> decide)
            refine s_aload_n (tb_ok aX8_not5_1 16 rfl) rfl ?_
            refine s_cV (as := []) (tb_ok aX8_not5_1 17 rfl) v_RX8_234 (hc _ _ _ u8) (by omega) rfl rfl rfl rfl rfl (Nat.le_of_ble_eq_true rfl) (by decide) (fun r7 S7 I7 L7 R7 q7 => ?_)
            obtain ⟨rfl, rfl, v10_, rfl, u10⟩ := q7
            cases e10_ : P (adv t n s1_) with
            | inr g10_ =>
              rw [e10_] at u10
              have u10 : RBad I0 g10_ _ := u10
              have hsq : (notP t n none (cmpP t n P)) s = .inr g10_ := by
                unfold notP
                rw [if_neg n9]
                unfold cmpP
                rw [e1_]
                show (if s1_.tok = 60 ∨ s1_.tok = 61 then _ else _) = _
                rw [if_pos hop, e10_]
              refine s_istore_n (ls' := [some (.ref 66), some (.int v1_), some (.int (0)), some (.int v10_)]) (tb_ok aX8_not5_1 18 rfl) rfl rfl ?_
              refine s_iload_n (tb_ok aX8_not5_1 19 rfl) rfl ?_
              refine s_if_eq (tgt := 88) (tb_ok aX8_not5_1 20 rfl) (by decide) (fun c77 => ?_) (fun c77 => ?_)
              · refine s_iload_n (tb_ok aX8_not5_2 1 rfl) rfl ?_
                refine s_iload_n (tb_ok aX8_not5_2 2 rfl) rfl ?_
                refine s_icmp_ne (tgt := 97) (tb_ok aX8_not5_2 3 rfl) (by decide) (fun c90 => ?_) (fun c90 => ?_)
                · refine s_iconst (v := 0) (tb_ok aX8_not5_2 6 rfl) (by decide) ?_
                  refine s_iret (tb_ok aX8_not5_2 7 rfl) rfl ?_
                  refine ⟨rfl, rfl, _, rfl, ?_⟩
                  rw [hsq]
                  exact u10
                · refine s_iconst (v := 1) (tb_ok aX8_not5_2 4 rfl) (by decide) ?_
                  refine s_goto (tgt := 98) (tb_ok aX8_not5_2 5 rfl) (by decide) ?_
                  refine s_iret (tb_ok aX8_not5_2 7 rfl) rfl ?_
                  refine ⟨rfl, rfl, _, rfl, ?_⟩
                  rw [hsq]
                  exact u10
              · exact absurd c77 (by decide)
            | inl qq =>
              obtain ⟨c10_, f10_, s10_⟩ := qq
              rw [e10_] at u10
              obtain ⟨w10_, u10⟩ := u10
              have w10_ : v10_ = f10_ nm := w10_
              have u10 : ROk t n 5 I0 s10_ _ _ := u10
              have hsq : (notP t n none (cmpP t n P)) s = .inl (c1_ ++ c10_ ++ [cdC s1_.tok], (fun nm => of2 (cdC s1_.tok) (f1_ nm) (f10_ nm)), s10_) := by
                unfold notP
                rw [if_neg n9]
                unfold cmpP
                rw [e1_]
                show (if s1_.tok = 60 ∨ s1_.tok = 61 then _ else _) = _
                rw [if_pos hop, e10_]
              refine s_istore_n (ls' := [some (.ref 66), some (.int v1_), some (.int (0)), some (.int v10_)]) (tb_ok aX8_not5_1 18 rfl) rfl rfl ?_
              refine s_iload_n (tb_ok aX8_not5_1 19 rfl) rfl ?_
              refine s_if_eq (tgt := 88) (tb_ok aX8_not5_1 20 rfl) (by decide) (fun c77 => ?_) (fun c77 => ?_)
              · refine s_iload_n (tb_ok aX8_not5_2 1 rfl) rfl ?_
                refine s_iload_n (tb_ok aX8_not5_2 2 rfl) rfl ?_
                refine s_icmp_ne (tgt := 97) (tb_ok aX8_not5_2 3 rfl) (by decide) (fun c90 => ?_) (fun c90 => ?_)
                · refine s_iconst (v := 0) (tb_ok aX8_not5_2 6 rfl) (by decide) ?_
                  refine s_iret (tb_ok aX8_not5_2 7 rfl) rfl ?_
                  refine ⟨rfl, rfl, _, rfl, ?_⟩
                  rw [hsq]
                  refine ⟨?_, u10⟩
                  show ((0) : Int32) = of2 (cdC s1_.tok) (f1_ nm) _
                  first | (rw [show cdC s1_.tok = 30003 from if_pos h60, of2_lt, ← w1_, ← w10_]; first | exact (bI_f (Int32.not_lt.mpr c82)).symm | exact (bI_t (Int32.not_le.mp c82)).symm) | (rw [show cdC s1_.tok = 30004 from if_neg h60, of2_eq, ← w1_, ← w10_]; first | exact (bI_t c90).symm | exact (bI_f c90).symm)
                · refine s_iconst (v := 1) (tb_ok aX8_not5_2 4 rfl) (by decide) ?_
                  refine s_goto (tgt := 98) (tb_ok aX8_not5_2 5 rfl) (by decide) ?_
                  refine s_iret (tb_ok aX8_not5_2 7 rfl) rfl ?_
                  refine ⟨rfl, rfl, _, rfl, ?_⟩
                  rw [hsq]
                  refine ⟨?_, u10⟩
                  show ((1) : Int32) = of2 (cdC s1_.tok) (f1_ nm) _
                  first | (rw [show cdC s1_.tok = 30003 from if_pos h60, of2_lt, ← w1_, ← w10_]; first | exact (bI_f (Int32.not_lt.mpr c82)).symm | exact (bI_t (Int32.not_le.mp c82)).symm) | (rw [show cdC s1_.tok = 30004 from if_neg h60, of2_eq, ← w1_, ← w10_]; first | exact (bI_t c90).symm | exact (bI_f c90).symm)
              · exact absurd c77 (by decide)
          · have h60 : s1_.tok = 60 := i64_inj.mp (hwr.symm.trans ((cmp_eq _ _).mp c58))
            refine s_iconst (v := 1) (tb_ok aX8_not5_1 10 rfl) (by decide) ?_
            refine s_goto (tgt := 66) (tb_ok aX8_not5_1 11 rfl) (by decide) ?_
            refine s_istore_n (ls' := [some (.ref 66), some (.int v1_), some (.int (1)), none]) (tb_ok aX8_not5_1 13 rfl) rfl rfl ?_
            refine s_aload_n (tb_ok aX8_not5_1 14 rfl) rfl ?_
            refine s_cV (as := []) (tb_ok aX8_not5_1 15 rfl) v_RX8_190 (R_next hT u1 (by rcases hop with e_ | e_ <;> rw [e_] <;> decide) (by rcases hop with e_ | e_ <;> rw [e_] <;> decide)) (by omega) rfl rfl rfl rfl rfl (Nat.le_of_ble_eq_true rfl) (by decide) (fun r8 S8 I8 L8 R8 q8 => ?_)
            obtain ⟨rfl, rfl, rfl, u11⟩ := q8
            have a12 := (adv_wf (t := t) u1.2.1).2.2 (by rcases hop with e_ | e_ <;> rw [e_] <;> decide)
            refine s_aload_n (tb_ok aX8_not5_1 16 rfl) rfl ?_
            refine s_cV (as := []) (tb_ok aX8_not5_1 17 rfl) v_RX8_234 (hc _ _ _ u11) (by omega) rfl rfl rfl rfl rfl (Nat.le_of_ble_eq_true rfl) (by decide) (fun r9 S9 I9 L9 R9 q9 => ?_)
            obtain ⟨rfl, rfl, v13_, rfl, u13⟩ := q9
            cases e13_ : P (adv t n s1_) with
            | inr g13_ =>
              rw [e13_] at u13
              have u13 : RBad I0 g13_ _ := u13
              have hsq : (notP t n none (cmpP t n P)) s = .inr g13_ := by
                unfold notP
                rw [if_neg n9]
                unfold cmpP
                rw [e1_]
                show (if s1_.tok = 60 ∨ s1_.tok = 61 then _ else _) = _
                rw [if_pos hop, e13_]
              refine s_istore_n (ls' := [some (.ref 66), some (.int v1_), some (.int (1)), some (.int v13_)]) (tb_ok aX8_not5_1 18 rfl) rfl rfl ?_
              refine s_iload_n (tb_ok aX8_not5_1 19 rfl) rfl ?_
              refine s_if_eq (tgt := 88) (tb_ok aX8_not5_1 20 rfl) (by decide) (fun c77 => ?_) (fun c77 => ?_)
              · exact absurd c77 (by decide)
              · refine s_iload_n (tb_ok aX8_not5_1 21 rfl) rfl ?_
                refine s_iload_n (tb_ok aX8_not5_1 22 rfl) rfl ?_
                refine s_icmp_ge (tgt := 97) (tb_ok aX8_not5_1 23 rfl) (by decide) (fun c82 => ?_) (fun c82 => ?_)
                · refine s_iconst (v := 0) (tb_ok aX8_not5_2 6 rfl) (by decide) ?_
                  refine s_iret (tb_ok aX8_not5_2 7 rfl) rfl ?_
                  refine ⟨rfl, rfl, _, rfl, ?_⟩
                  rw [hsq]
                  exact u13
                · refine s_goto (tgt := 93) (tb_ok aX8_not5_2 0 rfl) (by decide) ?_
                  refine s_iconst (v := 1) (tb_ok aX8_not5_2 4 rfl) (by decide) ?_
                  refine s_goto (tgt := 98) (tb_ok aX8_not5_2 5 rfl) (by decide) ?_
                  refine s_iret (tb_ok aX8_not5_2 7 rfl) rfl ?_
                  refine ⟨rfl, rfl, _, rfl, ?_⟩
                  rw [hsq]
                  exact u13
            | inl qq =>
              obtain ⟨c13_, f13_, s13_⟩ := qq
              rw [e13_] at u13
              obtain ⟨w13_, u13⟩ := u13
              have w13_ : v13_ = f13_ nm := w13_
              have u13 : ROk t n 5 I0 s13_ _ _ := u13
              have hsq : (notP t n none (cmpP t n P)) s = .inl (c1_ ++ c13_ ++ [cdC s1_.tok], (fun nm => of2 (cdC s1_.tok) (f1_ nm) (f13_ nm)), s13_) := by
                unfold notP
                rw [if_neg n9]
                unfold cmpP
                rw [e1_]
                show (if s1_.tok = 60 ∨ s1_.tok = 61 then _ else _) = _
                rw [if_pos hop, e13_]
              refine s_istore_n (ls' := [some (.ref 66), some (.int v1_), some (.int (1)), some (.int v13_)]) (tb_ok aX8_not5_1 18 rfl) rfl rfl ?_
              refine s_iload_n (tb_ok aX8_not5_1 19 rfl) rfl ?_
              refine s_if_eq (tgt := 88) (tb_ok aX8_not5_1 20 rfl) (by decide) (fun c77 => ?_) (fun c77 => ?_)
              · exact absurd c77 (by decide)
              · refine s_iload_n (tb_ok aX8_not5_1 21 rfl) rfl ?_
                refine s_iload_n (tb_ok aX8_not5_1 22 rfl) rfl ?_
                refine s_icmp_ge (tgt := 97) (tb_ok aX8_not5_1 23 rfl) (by decide) (fun c82 => ?_) (fun c82 => ?_)
                · refine s_iconst (v := 0) (tb_ok aX8_not5_2 6 rfl) (by decide) ?_
                  refine s_iret (tb_ok aX8_not5_2 7 rfl) rfl ?_
                  refine ⟨rfl, rfl, _, rfl, ?_⟩
                  rw [hsq]
                  refine ⟨?_, u13⟩
                  show ((0) : Int32) = of2 (cdC s1_.tok) (f1_ nm) _
                  first | (rw [show cdC s1_.tok = 30003 from if_pos h60, of2_lt, ← w1_, ← w13_]; first | exact (bI_f (Int32.not_lt.mpr c82)).symm | exact (bI_t (Int32.not_le.mp c82)).symm) | (rw [show cdC s1_.tok = 30004 from if_neg h60, of2_eq, ← w1_, ← w13_]; first | exact (bI_t c90).symm | exact (bI_f c90).symm)
                · refine s_goto (tgt := 93) (tb_ok aX8_not5_2 0 rfl) (by decide) ?_
                  refine s_iconst (v := 1) (tb_ok aX8_not5_2 4 rfl) (by decide) ?_
                  refine s_goto (tgt := 98) (tb_ok aX8_not5_2 5 rfl) (by decide) ?_
                  refine s_iret (tb_ok aX8_not5_2 7 rfl) rfl ?_
                  refine ⟨rfl, rfl, _, rfl, ?_⟩
                  rw [hsq]
                  refine ⟨?_, u13⟩
                  show ((1) : Int32) = of2 (cdC s1_.tok) (f1_ nm) _
                  first | (rw [show cdC s1_.tok = 30003 from if_pos h60, of2_lt, ← w1_, ← w13_]; first | exact (bI_f (Int32.not_lt.mpr c82)).symm | exact (bI_t (Int32.not_le.mp c82)).symm) | (rw [show cdC s1_.tok = 30004 from if_neg h60, of2_eq, ← w1_, ← w13_]; first | exact (bI_t c90).symm | exact (bI_f c90).symm)
        · refine s_iload_n (tb_ok aX8_not5_1 3 rfl) rfl ?_
          refine s_iret (tb_ok aX8_not5_1 4 rfl) rfl ?_
          have hsq : (notP t n none (cmpP t n P)) s = .inl (c1_, f1_, s1_) := by
            unfold notP
            rw [if_neg n9]
            unfold cmpP
            rw [e1_]
            show (if s1_.tok = 60 ∨ s1_.tok = 61 then _ else _) = _
            rw [if_neg (fun h_ => h_.elim (bI_0.mp c36) (bI_0.mp c45))]
          refine ⟨rfl, rfl, _, rfl, ?_⟩
          rw [hsq]
          refine ⟨?_, u1⟩
          exact w1_
  · have hop9 : s.tok = 9 := bI_n c15
    have hsq : (notP t n none (cmpP t n P)) s = .inr s.pl := by unfold notP; rw [if_pos hop9]
    refine s_aload_n (tb_ok aX8_not5_0 11 rfl) rfl ?_
    refine s_cV (as := []) (tb_ok aX8_not5_0 12 rfl) v_RX8_218 (R_opens5 h) (by omega) rfl rfl rfl rfl rfl (Nat.le_of_ble_eq_true rfl) (by decide) (fun r10 S10 I10 L10 R10 q10 => ?_)
    obtain ⟨rfl, rfl, rfl, u14⟩ := q10
    refine s_pop (tb_ok aX8_not5_0 13 rfl) rfl ?_
    refine s_iconst (v := 0) (tb_ok aX8_not5_0 14 rfl) (by decide) ?_
    refine s_iret (tb_ok aX8_not5_0 15 rfl) rfl ?_
    refine ⟨rfl, rfl, _, rfl, ?_⟩
    rw [hsq]
    exact u14

set_option maxRecDepth 100000 in
set_option maxHeartbeats 1000000 in
theorem L_both5 {X : En} {q : Nat × Nat} {I0 : FI} {F n : Nat} {t nm : Nat → Int32} (hT : TxX I0 F n t nm) {d f : Nat} (hd : 2 < d) {Q : Pst} {I : FI} {L : FL} (x : Int32) (o2 : Option Value) (h : RBad I0 f I) (hQ : ∀ v, Q (some (.int v)) S0 I L (R0 q)) : SW X (d + 1) mX8_both5 (0, 0) 5 [some (.ref 66), some (.int x), o2] [] S0 I L (R0 q) (KQ X Q) := by
  refine s_aload_n (tb_ok aX8_both5_0 3 rfl) rfl ?_
  refine s_bipush (v := 97) (tb_ok aX8_both5_0 4 rfl) (by decide) ?_
  refine s_bipush (v := 110) (tb_ok aX8_both5_0 5 rfl) (by decide) ?_
  refine s_bipush (v := 100) (tb_ok aX8_both5_0 6 rfl) (by decide) ?_
  refine s_iconst (v := 0) (tb_ok aX8_both5_0 7 rfl) (by decide) ?_
  refine s_iconst (v := 0) (tb_ok aX8_both5_0 8 rfl) (by decide) ?_
  refine s_iconst (v := 0) (tb_ok aX8_both5_0 9 rfl) (by decide) ?_
  refine s_iconst (v := 0) (tb_ok aX8_both5_0 10 rfl) (by decide) ?_
  refine s_iconst (v := 0) (tb_ok aX8_both5_0 11 rfl) (by decide) ?_
  refine s_cVp (as := [.int (97), .int (110), .int (100), .int (0), .int (0), .int (0), .int (0), .int (0)]) (tb_ok aX8_both5_0 12 rfl) v_RX8_193 (R_isWordE (I0 := I0) h.2.1) (by omega) rfl rfl rfl rfl rfl (Nat.le_of_ble_eq_true rfl) (by decide) ?_
  refine s_if_eq (tgt := 49) (tb_ok aX8_both5_0 13 rfl) (by decide) (fun c20 => ?_) (fun c20 => ?_)
  · refine s_iload_n (tb_ok aX8_both5_1 4 rfl) rfl ?_
    refine s_iret (tb_ok aX8_both5_1 5 rfl) rfl ?_
    exact hQ _
  · exact absurd c20 (by decide)

set_option maxRecDepth 100000 in
set_option maxHeartbeats 1000000 in
theorem C_both5 {X : En} {q : Nat × Nat} {I0 : FI} {F n : Nat} {t nm : Nat → Int32} (hT : TxX I0 F n t nm) {d dp : Nat} (hd : 2 < d) {P : Pa} (hN : Nice n dp P) (hi : CtX X q t nm n I0 d mX8_not5 5 P) : CtX X q t nm n I0 (d + 1) mX8_both5 5 (seqP t n opB cdB P) := by
  intro I L s h
  obtain ⟨hF, hn, hn160, hFn, ht, ht0, hnm⟩ := id hT
  have loop : ∀ k, ∀ (o2 : Option Value) (I : FI) (L : FL) (c : List Int32) (f : Sem) (s1 : St) (x : Int32), x = f nm → ROk t n 5 I0 s1 I L → 160 < s1.pl + k → loopP t n opB cdB P k c f s1 = (seqP t n opB cdB P) s → SW X (d + 1) mX8_both5 (0, 0) 5 [some (.ref 66), some (.int x), o2] [] S0 I L (R0 q) (KQ X (AfP q t nm n 5 I0 ((seqP t n opB cdB P) s))) := by
    intro k
    induction k with
    | zero =>
      intro o2 I L c f s1 x hx h1 hk hres
      have := h1.pln
      omega
    | succ k ih =>
      intro o2 I L c f s1 x hx h1 hk hres
      refine s_aload_n (tb_ok aX8_both5_0 3 rfl) rfl ?_
      refine s_bipush (v := 97) (tb_ok aX8_both5_0 4 rfl) (by decide) ?_
      refine s_bipush (v := 110) (tb_ok aX8_both5_0 5 rfl) (by decide) ?_
      refine s_bipush (v := 100) (tb_ok aX8_both5_0 6 rfl) (by decide) ?_
      refine s_iconst (v := 0) (tb_ok aX8_both5_0 7 rfl) (by decide) ?_
      refine s_iconst (v := 0) (tb_ok aX8_both5_0 8 rfl) (by decide) ?_
      refine s_iconst (v := 0) (tb_ok aX8_both5_0 9 rfl) (by decide) ?_
      refine s_iconst (v := 0) (tb_ok aX8_both5_0 10 rfl) (by decide) ?_
      refine s_iconst (v := 0) (tb_ok aX8_both5_0 11 rfl) (by decide) ?_
      refine s_cVp (as := [.int (97), .int (110), .int (100), .int (0), .int (0), .int (0), .int (0), .int (0)]) (tb_ok aX8_both5_0 12 rfl) v_RX8_193 (R_isWord hT h1 10 (by decide)) (by omega) rfl rfl rfl rfl rfl (Nat.le_of_ble_eq_true rfl) (by decide) ?_
      refine s_topi (bI_congr (isK_key (k := 10) (j := 8) (by decide) rfl)) ?_
      refine s_if_eq (tgt := 49) (tb_ok aX8_both5_0 13 rfl) (by decide) (fun c20 => ?_) (fun c20 => ?_)
      · refine s_iload_n (tb_ok aX8_both5_1 4 rfl) rfl ?_
        refine s_iret (tb_ok aX8_both5_1 5 rfl) rfl ?_
        refine ⟨rfl, rfl, _, rfl, ?_⟩
        rw [← hres, loopP, if_neg (bI_0.mp c20)]
        exact ⟨hx, h1⟩
      · have hop : opB s1.tok := bI_n c20
        refine s_aload_n (tb_ok aX8_both5_0 14 rfl) rfl ?_
        refine s_cV (as := []) (tb_ok aX8_both5_0 15 rfl) v_RX8_190 (R_next hT h1 (by rw [hop]; decide) (by rw [hop]; decide)) (by omega) rfl rfl rfl rfl rfl (Nat.le_of_ble_eq_true rfl) (by decide) (fun r1 S1 I1 L1 R1 q1 => ?_)
        obtain ⟨rfl, rfl, rfl, u1⟩ := q1
        have a2 := (adv_wf (t := t) h1.2.1).2.2 (by rw [hop]; decide)
        refine s_aload_n (tb_ok aX8_both5_0 16 rfl) rfl ?_
        refine s_cV (as := []) (tb_ok aX8_both5_0 17 rfl) v_RX8_239 (hi _ _ _ u1) (by omega) rfl rfl rfl rfl rfl (Nat.le_of_ble_eq_true rfl) (by decide) (fun r2 S2 I2 L2 R2 q2 => ?_)
        obtain ⟨rfl, rfl, v3_, rfl, u3⟩ := q2
        cases e3_ : P (adv t n s1) with
        | inr g3_ =>
          rw [e3_] at u3
          have u3 : RBad I0 g3_ _ := u3
          rw [loopP, if_pos hop, e3_] at hres
          refine s_istore_n (ls' := [some (.ref 66), some (.int x), some (.int v3_)]) (tb_ok aX8_both5_0 18 rfl) rfl rfl ?_
          refine s_iload_n (tb_ok aX8_both5_0 19 rfl) rfl ?_
          refine s_if_eq (tgt := 44) (tb_ok aX8_both5_0 20 rfl) (by decide) (fun c33 => ?_) (fun c33 => ?_)
          · refine s_iconst (v := 0) (tb_ok aX8_both5_1 1 rfl) (by decide) ?_
            refine s_istore_n (ls' := [some (.ref 66), some (.int (0)), some (.int v3_)]) (tb_ok aX8_both5_1 2 rfl) rfl rfl ?_
            refine s_goto (tgt := 5) (tb_ok aX8_both5_1 3 rfl) (by decide) ?_
            refine L_both5 hT hd _ _ u3 (fun v => ⟨rfl, rfl, _, rfl, ?_⟩)
            rw [← hres]
            exact u3
          · refine s_iload_n (tb_ok aX8_both5_0 21 rfl) rfl ?_
            refine s_if_eq (tgt := 44) (tb_ok aX8_both5_0 22 rfl) (by decide) (fun c37 => ?_) (fun c37 => ?_)
            · refine s_iconst (v := 0) (tb_ok aX8_both5_1 1 rfl) (by decide) ?_
              refine s_istore_n (ls' := [some (.ref 66), some (.int (0)), some (.int v3_)]) (tb_ok aX8_both5_1 2 rfl) rfl rfl ?_
              refine s_goto (tgt := 5) (tb_ok aX8_both5_1 3 rfl) (by decide) ?_
              refine L_both5 hT hd _ _ u3 (fun v => ⟨rfl, rfl, _, rfl, ?_⟩)
              rw [← hres]
              exact u3
            · refine s_iconst (v := 1) (tb_ok aX8_both5_0 23 rfl) (by decide) ?_
              refine s_goto (tgt := 45) (tb_ok aX8_both5_1 0 rfl) (by decide) ?_
              refine s_istore_n (ls' := [some (.ref 66), some (.int (1)), some (.int v3_)]) (tb_ok aX8_both5_1 2 rfl) rfl rfl ?_
              refine s_goto (tgt := 5) (tb_ok aX8_both5_1 3 rfl) (by decide) ?_
              refine L_both5 hT hd _ _ u3 (fun v => ⟨rfl, rfl, _, rfl, ?_⟩)
              rw [← hres]
              exact u3
        | inl qq =>
          obtain ⟨c3_, f3_, s3_⟩ := qq
          rw [e3_] at u3
          obtain ⟨w3_, u3⟩ := u3
          have w3_ : v3_ = f3_ nm := w3_
          have u3 : ROk t n 5 I0 s3_ _ _ := u3
          have b3_ := Nice.two (t := t) hN u1.2.1 e3_
          rw [loopP, if_pos hop, e3_] at hres
          refine s_istore_n (ls' := [some (.ref 66), some (.int x), some (.int v3_)]) (tb_ok aX8_both5_0 18 rfl) rfl rfl ?_
          refine s_iload_n (tb_ok aX8_both5_0 19 rfl) rfl ?_
          refine s_if_eq (tgt := 44) (tb_ok aX8_both5_0 20 rfl) (by decide) (fun c33 => ?_) (fun c33 => ?_)
          · refine s_iconst (v := 0) (tb_ok aX8_both5_1 1 rfl) (by decide) ?_
            refine s_istore_n (ls' := [some (.ref 66), some (.int (0)), some (.int v3_)]) (tb_ok aX8_both5_1 2 rfl) rfl rfl ?_
            refine s_goto (tgt := 5) (tb_ok aX8_both5_1 3 rfl) (by decide) ?_
            refine ih _ _ _ _ _ _ (0) ?_ u3 (by omega) hres
            show ((0) : Int32) = of2 30005 (f nm) _
            rw [of2_and, ← hx, ← w3_]
            exact (bI_f (fun h_ => by first | exact h_.1 c33 | exact h_.2 c37)).symm
          · refine s_iload_n (tb_ok aX8_both5_0 21 rfl) rfl ?_
            refine s_if_eq (tgt := 44) (tb_ok aX8_both5_0 22 rfl) (by decide) (fun c37 => ?_) (fun c37 => ?_)
            · refine s_iconst (v := 0) (tb_ok aX8_both5_1 1 rfl) (by decide) ?_
              refine s_istore_n (ls' := [some (.ref 66), some (.int (0)), some (.int v3_)]) (tb_ok aX8_both5_1 2 rfl) rfl rfl ?_
              refine s_goto (tgt := 5) (tb_ok aX8_both5_1 3 rfl) (by decide) ?_
              refine ih _ _ _ _ _ _ (0) ?_ u3 (by omega) hres
              show ((0) : Int32) = of2 30005 (f nm) _
              rw [of2_and, ← hx, ← w3_]
              exact (bI_f (fun h_ => by first | exact h_.1 c33 | exact h_.2 c37)).symm
            · refine s_iconst (v := 1) (tb_ok aX8_both5_0 23 rfl) (by decide) ?_
              refine s_goto (tgt := 45) (tb_ok aX8_both5_1 0 rfl) (by decide) ?_
              refine s_istore_n (ls' := [some (.ref 66), some (.int (1)), some (.int v3_)]) (tb_ok aX8_both5_1 2 rfl) rfl rfl ?_
              refine s_goto (tgt := 5) (tb_ok aX8_both5_1 3 rfl) (by decide) ?_
              refine ih _ _ _ _ _ _ (1) ?_ u3 (by omega) hres
              show ((1) : Int32) = of2 30005 (f nm) _
              rw [of2_and, ← hx, ← w3_]
              exact (bI_t ⟨c33, c37⟩).symm
  refine ev_of (by decide +kernel) rfl ?_
  show SW X _ _ _ 0 [some (.ref 66), none, none] [] S0 I L (R0 q) _
  refine s_aload_n (tb_ok aX8_both5_0 0 rfl) rfl ?_
  refine s_cV (as := []) (tb_ok aX8_both5_0 1 rfl) v_RX8_239 (hi _ _ _ h) (by omega) rfl rfl rfl rfl rfl (Nat.le_of_ble_eq_true rfl) (by decide) (fun r1 S1 I1 L1 R1 q1 => ?_)
  obtain ⟨rfl, rfl, v4_, rfl, u4⟩ := q1
  cases e4_ : P s with
  | inr g4_ =>
    rw [e4_] at u4
    have u4 : RBad I0 g4_ _ := u4
    have hsq : (seqP t n opB cdB P) s = .inr g4_ := by unfold seqP; rw [e4_]
    refine s_istore_n (ls' := [some (.ref 66), some (.int v4_), none]) (tb_ok aX8_both5_0 2 rfl) rfl rfl ?_
    refine L_both5 hT hd _ _ u4 (fun v => ⟨rfl, rfl, _, rfl, ?_⟩)
    rw [hsq]
    exact u4
  | inl qq =>
    obtain ⟨c4_, f4_, s4_⟩ := qq
    rw [e4_] at u4
    obtain ⟨w4_, u4⟩ := u4
    have w4_ : v4_ = f4_ nm := w4_
    have u4 : ROk t n 5 I0 s4_ _ _ := u4
    have b4_ := Nice.two (t := t) hN h.2.1 e4_
    have hsq : (seqP t n opB cdB P) s = loopP t n opB cdB P 160 c4_ f4_ s4_ := by unfold seqP; rw [e4_]
    refine s_istore_n (ls' := [some (.ref 66), some (.int v4_), none]) (tb_ok aX8_both5_0 2 rfl) rfl rfl ?_
    exact loop 160 _ _ _ _ _ _ _ w4_ u4 (by omega) hsq.symm

set_option maxRecDepth 100000 in
set_option maxHeartbeats 1000000 in
theorem L_either5 {X : En} {q : Nat × Nat} {I0 : FI} {F n : Nat} {t nm : Nat → Int32} (hT : TxX I0 F n t nm) {d f : Nat} (hd : 2 < d) {Q : Pst} {I : FI} {L : FL} (x : Int32) (o2 : Option Value) (h : RBad I0 f I) (hQ : ∀ v, Q (some (.int v)) S0 I L (R0 q)) : SW X (d + 1) mX8_either5 (0, 0) 5 [some (.ref 66), some (.int x), o2] [] S0 I L (R0 q) (KQ X Q) := by
  refine s_aload_n (tb_ok aX8_either5_0 3 rfl) rfl ?_
  refine s_bipush (v := 111) (tb_ok aX8_either5_0 4 rfl) (by decide) ?_
  refine s_bipush (v := 114) (tb_ok aX8_either5_0 5 rfl) (by decide) ?_
  refine s_iconst (v := 0) (tb_ok aX8_either5_0 6 rfl) (by decide) ?_
  refine s_iconst (v := 0) (tb_ok aX8_either5_0 7 rfl) (by decide) ?_
  refine s_iconst (v := 0) (tb_ok aX8_either5_0 8 rfl) (by decide) ?_
  refine s_iconst (v := 0) (tb_ok aX8_either5_0 9 rfl) (by decide) ?_
  refine s_iconst (v := 0) (tb_ok aX8_either5_0 10 rfl) (by decide) ?_
  refine s_iconst (v := 0) (tb_ok aX8_either5_0 11 rfl) (by decide) ?_
  refine s_cVp (as := [.int (111), .int (114), .int (0), .int (0), .int (0), .int (0), .int (0), .int (0)]) (tb_ok aX8_either5_0 12 rfl) v_RX8_193 (R_isWordE (I0 := I0) h.2.1) (by omega) rfl rfl rfl rfl rfl (Nat.le_of_ble_eq_true rfl) (by decide) ?_
  refine s_if_eq (tgt := 48) (tb_ok aX8_either5_0 13 rfl) (by decide) (fun c19 => ?_) (fun c19 => ?_)
  · refine s_iload_n (tb_ok aX8_either5_1 4 rfl) rfl ?_
    refine s_iret (tb_ok aX8_either5_1 5 rfl) rfl ?_
    exact hQ _
  · exact absurd c19 (by decide)

set_option maxRecDepth 100000 in
set_option maxHeartbeats 1000000 in
theorem C_either5 {X : En} {q : Nat × Nat} {I0 : FI} {F n : Nat} {t nm : Nat → Int32} (hT : TxX I0 F n t nm) {d dp : Nat} (hd : 2 < d) {P : Pa} (hN : Nice n dp P) (hi : CtX X q t nm n I0 d mX8_both5 5 P) : CtX X q t nm n I0 (d + 1) mX8_either5 5 (seqP t n opE cdE P) := by
  intro I L s h
  obtain ⟨hF, hn, hn160, hFn, ht, ht0, hnm⟩ := id hT
  have loop : ∀ k, ∀ (o2 : Option Value) (I : FI) (L : FL) (c : List Int32) (f : Sem) (s1 : St) (x : Int32), x = f nm → ROk t n 5 I0 s1 I L → 160 < s1.pl + k → loopP t n opE cdE P k c f s1 = (seqP t n opE cdE P) s → SW X (d + 1) mX8_either5 (0, 0) 5 [some (.ref 66), some (.int x), o2] [] S0 I L (R0 q) (KQ X (AfP q t nm n 5 I0 ((seqP t n opE cdE P) s))) := by
    intro k
    induction k with
    | zero =>
      intro o2 I L c f s1 x hx h1 hk hres
      have := h1.pln
      omega
    | succ k ih =>
      intro o2 I L c f s1 x hx h1 hk hres
      refine s_aload_n (tb_ok aX8_either5_0 3 rfl) rfl ?_
      refine s_bipush (v := 111) (tb_ok aX8_either5_0 4 rfl) (by decide) ?_
      refine s_bipush (v := 114) (tb_ok aX8_either5_0 5 rfl) (by decide) ?_
      refine s_iconst (v := 0) (tb_ok aX8_either5_0 6 rfl) (by decide) ?_
      refine s_iconst (v := 0) (tb_ok aX8_either5_0 7 rfl) (by decide) ?_
      refine s_iconst (v := 0) (tb_ok aX8_either5_0 8 rfl) (by decide) ?_
      refine s_iconst (v := 0) (tb_ok aX8_either5_0 9 rfl) (by decide) ?_
      refine s_iconst (v := 0) (tb_ok aX8_either5_0 10 rfl) (by decide) ?_
      refine s_iconst (v := 0) (tb_ok aX8_either5_0 11 rfl) (by decide) ?_
      refine s_cVp (as := [.int (111), .int (114), .int (0), .int (0), .int (0), .int (0), .int (0), .int (0)]) (tb_ok aX8_either5_0 12 rfl) v_RX8_193 (R_isWord hT h1 9 (by decide)) (by omega) rfl rfl rfl rfl rfl (Nat.le_of_ble_eq_true rfl) (by decide) ?_
      refine s_topi (bI_congr (isK_key (k := 9) (j := 7) (by decide) rfl)) ?_
      refine s_if_eq (tgt := 48) (tb_ok aX8_either5_0 13 rfl) (by decide) (fun c19 => ?_) (fun c19 => ?_)
      · refine s_iload_n (tb_ok aX8_either5_1 4 rfl) rfl ?_
        refine s_iret (tb_ok aX8_either5_1 5 rfl) rfl ?_
        refine ⟨rfl, rfl, _, rfl, ?_⟩
        rw [← hres, loopP, if_neg (bI_0.mp c19)]
        exact ⟨hx, h1⟩
      · have hop : opE s1.tok := bI_n c19
        refine s_aload_n (tb_ok aX8_either5_0 14 rfl) rfl ?_
        refine s_cV (as := []) (tb_ok aX8_either5_0 15 rfl) v_RX8_190 (R_next hT h1 (by rw [hop]; decide) (by rw [hop]; decide)) (by omega) rfl rfl rfl rfl rfl (Nat.le_of_ble_eq_true rfl) (by decide) (fun r1 S1 I1 L1 R1 q1 => ?_)
        obtain ⟨rfl, rfl, rfl, u1⟩ := q1
        have a2 := (adv_wf (t := t) h1.2.1).2.2 (by rw [hop]; decide)
        refine s_aload_n (tb_ok aX8_either5_0 16 rfl) rfl ?_
        refine s_cV (as := []) (tb_ok aX8_either5_0 17 rfl) v_RX8_242 (hi _ _ _ u1) (by omega) rfl rfl rfl rfl rfl (Nat.le_of_ble_eq_true rfl) (by decide) (fun r2 S2 I2 L2 R2 q2 => ?_)
        obtain ⟨rfl, rfl, v3_, rfl, u3⟩ := q2
        cases e3_ : P (adv t n s1) with
        | inr g3_ =>
          rw [e3_] at u3
          have u3 : RBad I0 g3_ _ := u3
          rw [loopP, if_pos hop, e3_] at hres
          refine s_istore_n (ls' := [some (.ref 66), some (.int x), some (.int v3_)]) (tb_ok aX8_either5_0 18 rfl) rfl rfl ?_
          refine s_iload_n (tb_ok aX8_either5_0 19 rfl) rfl ?_
          refine s_if_ne (tgt := 39) (tb_ok aX8_either5_0 20 rfl) (by decide) (fun c32 => ?_) (fun c32 => ?_)
          · refine s_iconst (v := 1) (tb_ok aX8_either5_0 23 rfl) (by decide) ?_
            refine s_goto (tgt := 44) (tb_ok aX8_either5_1 0 rfl) (by decide) ?_
            refine s_istore_n (ls' := [some (.ref 66), some (.int (1)), some (.int v3_)]) (tb_ok aX8_either5_1 2 rfl) rfl rfl ?_
            refine s_goto (tgt := 5) (tb_ok aX8_either5_1 3 rfl) (by decide) ?_
            refine L_either5 hT hd _ _ u3 (fun v => ⟨rfl, rfl, _, rfl, ?_⟩)
            rw [← hres]
            exact u3
          · refine s_iload_n (tb_ok aX8_either5_0 21 rfl) rfl ?_
            refine s_if_eq (tgt := 43) (tb_ok aX8_either5_0 22 rfl) (by decide) (fun c36 => ?_) (fun c36 => ?_)
            · refine s_iconst (v := 0) (tb_ok aX8_either5_1 1 rfl) (by decide) ?_
              refine s_istore_n (ls' := [some (.ref 66), some (.int (0)), some (.int v3_)]) (tb_ok aX8_either5_1 2 rfl) rfl rfl ?_
              refine s_goto (tgt := 5) (tb_ok aX8_either5_1 3 rfl) (by decide) ?_
              refine L_either5 hT hd _ _ u3 (fun v => ⟨rfl, rfl, _, rfl, ?_⟩)
              rw [← hres]
              exact u3
            · refine s_iconst (v := 1) (tb_ok aX8_either5_0 23 rfl) (by decide) ?_
              refine s_goto (tgt := 44) (tb_ok aX8_either5_1 0 rfl) (by decide) ?_
              refine s_istore_n (ls' := [some (.ref 66), some (.int (1)), some (.int v3_)]) (tb_ok aX8_either5_1 2 rfl) rfl rfl ?_
              refine s_goto (tgt := 5) (tb_ok aX8_either5_1 3 rfl) (by decide) ?_
              refine L_either5 hT hd _ _ u3 (fun v => ⟨rfl, rfl, _, rfl, ?_⟩)
              rw [← hres]
              exact u3
        | inl qq =>
          obtain ⟨c3_, f3_, s3_⟩ := qq
          rw [e3_] at u3
          obtain ⟨w3_, u3⟩ := u3
          have w3_ : v3_ = f3_ nm := w3_
          have u3 : ROk t n 5 I0 s3_ _ _ := u3
          have b3_ := Nice.two (t := t) hN u1.2.1 e3_
          rw [loopP, if_pos hop, e3_] at hres
          refine s_istore_n (ls' := [some (.ref 66), some (.int x), some (.int v3_)]) (tb_ok aX8_either5_0 18 rfl) rfl rfl ?_
          refine s_iload_n (tb_ok aX8_either5_0 19 rfl) rfl ?_
          refine s_if_ne (tgt := 39) (tb_ok aX8_either5_0 20 rfl) (by decide) (fun c32 => ?_) (fun c32 => ?_)
          · refine s_iconst (v := 1) (tb_ok aX8_either5_0 23 rfl) (by decide) ?_
            refine s_goto (tgt := 44) (tb_ok aX8_either5_1 0 rfl) (by decide) ?_
            refine s_istore_n (ls' := [some (.ref 66), some (.int (1)), some (.int v3_)]) (tb_ok aX8_either5_1 2 rfl) rfl rfl ?_
            refine s_goto (tgt := 5) (tb_ok aX8_either5_1 3 rfl) (by decide) ?_
            refine ih _ _ _ _ _ _ (1) ?_ u3 (by omega) hres
            show ((1) : Int32) = of2 30006 (f nm) _
            rw [of2_or, ← hx, ← w3_]
            exact (bI_t (by first | exact Or.inl c32 | exact Or.inr c36)).symm
          · refine s_iload_n (tb_ok aX8_either5_0 21 rfl) rfl ?_
            refine s_if_eq (tgt := 43) (tb_ok aX8_either5_0 22 rfl) (by decide) (fun c36 => ?_) (fun c36 => ?_)
            · refine s_iconst (v := 0) (tb_ok aX8_either5_1 1 rfl) (by decide) ?_
              refine s_istore_n (ls' := [some (.ref 66), some (.int (0)), some (.int v3_)]) (tb_ok aX8_either5_1 2 rfl) rfl rfl ?_
              refine s_goto (tgt := 5) (tb_ok aX8_either5_1 3 rfl) (by decide) ?_
              refine ih _ _ _ _ _ _ (0) ?_ u3 (by omega) hres
              show ((0) : Int32) = of2 30006 (f nm) _
              rw [of2_or, ← hx, ← w3_]
              exact (bI_f (fun h_ => h_.elim (fun k_ => k_ c32) (fun k_ => k_ c36))).symm
            · refine s_iconst (v := 1) (tb_ok aX8_either5_0 23 rfl) (by decide) ?_
              refine s_goto (tgt := 44) (tb_ok aX8_either5_1 0 rfl) (by decide) ?_
              refine s_istore_n (ls' := [some (.ref 66), some (.int (1)), some (.int v3_)]) (tb_ok aX8_either5_1 2 rfl) rfl rfl ?_
              refine s_goto (tgt := 5) (tb_ok aX8_either5_1 3 rfl) (by decide) ?_
              refine ih _ _ _ _ _ _ (1) ?_ u3 (by omega) hres
              show ((1) : Int32) = of2 30006 (f nm) _
              rw [of2_or, ← hx, ← w3_]
              exact (bI_t (by first | exact Or.inl c32 | exact Or.inr c36)).symm
  refine ev_of (by decide +kernel) rfl ?_
  show SW X _ _ _ 0 [some (.ref 66), none, none] [] S0 I L (R0 q) _
  refine s_aload_n (tb_ok aX8_either5_0 0 rfl) rfl ?_
  refine s_cV (as := []) (tb_ok aX8_either5_0 1 rfl) v_RX8_242 (hi _ _ _ h) (by omega) rfl rfl rfl rfl rfl (Nat.le_of_ble_eq_true rfl) (by decide) (fun r1 S1 I1 L1 R1 q1 => ?_)
  obtain ⟨rfl, rfl, v4_, rfl, u4⟩ := q1
  cases e4_ : P s with
  | inr g4_ =>
    rw [e4_] at u4
    have u4 : RBad I0 g4_ _ := u4
    have hsq : (seqP t n opE cdE P) s = .inr g4_ := by unfold seqP; rw [e4_]
    refine s_istore_n (ls' := [some (.ref 66), some (.int v4_), none]) (tb_ok aX8_either5_0 2 rfl) rfl rfl ?_
    refine L_either5 hT hd _ _ u4 (fun v => ⟨rfl, rfl, _, rfl, ?_⟩)
    rw [hsq]
    exact u4
  | inl qq =>
    obtain ⟨c4_, f4_, s4_⟩ := qq
    rw [e4_] at u4
    obtain ⟨w4_, u4⟩ := u4
    have w4_ : v4_ = f4_ nm := w4_
    have u4 : ROk t n 5 I0 s4_ _ _ := u4
    have b4_ := Nice.two (t := t) hN h.2.1 e4_
    have hsq : (seqP t n opE cdE P) s = loopP t n opE cdE P 160 c4_ f4_ s4_ := by unfold seqP; rw [e4_]
    refine s_istore_n (ls' := [some (.ref 66), some (.int v4_), none]) (tb_ok aX8_either5_0 2 rfl) rfl rfl ?_
    exact loop 160 _ _ _ _ _ _ _ w4_ u4 (by omega) hsq.symm

set_option maxRecDepth 100000 in
set_option maxHeartbeats 1000000 in
theorem C_atom4 {X : En} {q : Nat × Nat} {I0 : FI} {F n : Nat} {t nm : Nat → Int32} (hT : TxX I0 F n t nm) {d : Nat} (hd : 3 < d) {q2 : Pa × Pa × Pa} {d1 d2 : Nat} (hd1 : d1 < d) (hd2 : d2 < d) (hi : CtX X q t nm n I0 d1 mX8_atom5 5 q2.2.2) (hj : CtX X q t nm n I0 d2 mX8_either5 5 q2.1) : CtX X q t nm n I0 d mX8_atom4 4 (oneP t n (some q2)) := by
  intro I L s h
  obtain ⟨hF, hn, hn160, hFn, ht, ht0, hnm⟩ := id hT
  refine ev_of (by decide +kernel) rfl ?_
  show SW X _ _ _ 0 [some (.ref 66), none] [] S0 I L (R0 q) _
  refine s_iconst (v := 0) (tb_ok aX8_atom4_0 0 rfl) (by decide) ?_
  refine s_istore_n (ls' := [some (.ref 66), some (.int (0))]) (tb_ok aX8_atom4_0 1 rfl) rfl rfl ?_
  refine s_aload_n (tb_ok aX8_atom4_0 2 rfl) rfl ?_
  refine s_bipush (v := 45) (tb_ok aX8_atom4_0 3 rfl) (by decide) ?_
  refine s_cVp (as := [.int (45)]) (tb_ok aX8_atom4_0 4 rfl) v_RX8_215 (R_isSign (I0 := I0) h.2.2.1 h.2.2.2.2.2 (by decide)) (by omega) rfl rfl rfl rfl rfl (Nat.le_of_ble_eq_true rfl) (by decide) ?_
  refine s_if_eq (tgt := 37) (tb_ok aX8_atom4_0 5 rfl) (by decide) (fun c8 => ?_) (fun c8 => ?_)
  · have n45 : ¬ s.tok = 45 := bI_0.mp c8
    refine s_aload_n (tb_ok aX8_atom4_0 20 rfl) rfl ?_
    refine s_bipush (v := 40) (tb_ok aX8_atom4_0 21 rfl) (by decide) ?_
    refine s_cVp (as := [.int (40)]) (tb_ok aX8_atom4_0 22 rfl) v_RX8_215 (R_isSign (I0 := I0) h.2.2.1 h.2.2.2.2.2 (by decide)) (by omega) rfl rfl rfl rfl rfl (Nat.le_of_ble_eq_true rfl) (by decide) ?_
    refine s_if_eq (tgt := 95) (tb_ok aX8_atom4_0 23 rfl) (by decide) (fun c43 => ?_) (fun c43 => ?_)
    · have n40 : ¬ s.tok = 40 := bI_0.mp c43
      refine s_aload_n (tb_ok aX8_atom4_2 0 rfl) rfl ?_
      refine s_getI (x := (0)) (tb_ok aX8_atom4_2 1 rfl) f_RX8_173 rfl rfl h.2.2.1 ?_
      refine s_if_ne (tgt := 123) (tb_ok aX8_atom4_2 2 rfl) (by decide) (fun c99 => ?_) (fun c99 => ?_)
      · exact absurd c99 (by decide)
      · refine s_aload_n (tb_ok aX8_atom4_2 3 rfl) rfl ?_
        refine s_getI (tb_ok aX8_atom4_2 4 rfl) f_RX8_156 rfl rfl rfl ?_
        refine s_iconst (v := 2) (tb_ok aX8_atom4_2 5 rfl) (by decide) ?_
        refine s_icmp_ne (tgt := 123) (tb_ok aX8_atom4_2 6 rfl) (by decide) (fun c107 => ?_) (fun c107 => ?_)
        · refine s_aload_n (tb_ok aX8_atom4_2 14 rfl) rfl ?_
          refine s_getI (x := (0)) (tb_ok aX8_atom4_2 15 rfl) f_RX8_173 rfl rfl h.2.2.1 ?_
          refine s_if_ne (tgt := 157) (tb_ok aX8_atom4_2 16 rfl) (by decide) (fun c127 => ?_) (fun c127 => ?_)
          · exact absurd c127 (by decide)
          · refine s_aload_n (tb_ok aX8_atom4_2 17 rfl) rfl ?_
            refine s_getI (tb_ok aX8_atom4_2 18 rfl) f_RX8_156 rfl rfl rfl ?_
            refine s_iconst (v := 1) (tb_ok aX8_atom4_2 19 rfl) (by decide) ?_
            refine s_icmp_ne (tgt := 157) (tb_ok aX8_atom4_2 20 rfl) (by decide) (fun c135 => ?_) (fun c135 => ?_)
            · have n2 : ¬ s.tok = 2 := fun e_ => c107 (h.num.mpr e_)
              have n3 : ¬ s.tok = 3 := fun e_ => by
                rcases h.now c135 with k_ | k_ | k_ | k_
                · rw [e_] at k_; exact absurd k_ (by decide)
                · rw [e_] at k_; exact absurd k_ (by decide)
                · rw [e_] at k_; exact absurd k_ (by decide)
                · exact (sg_no k_).2.2.2.1 e_
              have hsq : (oneP t n (some q2)) s = .inr s.pl := by unfold oneP; rw [if_neg (fun h_ => h_.elim n2 n3), if_neg (fun h_ => h_.elim n45 n40)]
              refine s_aload_n (tb_ok aX8_atom4_3 6 rfl) rfl ?_
              refine s_cV (as := []) (tb_ok aX8_atom4_3 7 rfl) v_RX8_187 (R_fail h) (by omega) rfl rfl rfl rfl rfl (Nat.le_of_ble_eq_true rfl) (by decide) (fun r1 S1 I1 L1 R1 q1 => ?_)
              obtain ⟨rfl, rfl, rfl, u1⟩ := q1
              refine s_iload_n (tb_ok aX8_atom4_3 8 rfl) rfl ?_
              refine s_iret (tb_ok aX8_atom4_3 9 rfl) rfl ?_
              refine ⟨rfl, rfl, _, rfl, ?_⟩
              rw [hsq]
              exact u1
            · refine s_aload_n (tb_ok aX8_atom4_2 21 rfl) rfl ?_
              refine s_cV (as := []) (tb_ok aX8_atom4_2 22 rfl) v_RX8_222 (R_name hT h) (by omega) rfl rfl rfl rfl rfl (Nat.le_of_ble_eq_true rfl) (by decide) (fun r2 S2 I2 L2 R2 q2 => ?_)
              obtain ⟨rfl, rfl, v2_, rfl, ⟨h3, w2_, u2⟩ | ⟨n3, u2⟩⟩ := q2
              · have hsq : (oneP t n (some q2)) s = .inl ([s.val], (fun nm => atm nm s.val), adv t n s) := by unfold oneP; rw [if_pos (Or.inr h3)]
                refine s_istore_n (ls' := [some (.ref 66), some (.int v2_)]) (tb_ok aX8_atom4_2 23 rfl) rfl rfl ?_
                refine s_aload_n (tb_ok aX8_atom4_3 0 rfl) rfl ?_
                refine s_getI (x := (0)) (tb_ok aX8_atom4_3 1 rfl) f_RX8_173 rfl rfl u2.2.2.1 ?_
                refine s_if_ne (tgt := 161) (tb_ok aX8_atom4_3 2 rfl) (by decide) (fun c147 => ?_) (fun c147 => ?_)
                · exact absurd c147 (by decide)
                · refine s_aload_n (tb_ok aX8_atom4_3 3 rfl) rfl ?_
                  refine s_cV (as := []) (tb_ok aX8_atom4_3 4 rfl) v_RX8_190 (R_next hT u2 (by rw [h3]; decide) (by rw [h3]; decide)) (by omega) rfl rfl rfl rfl rfl (Nat.le_of_ble_eq_true rfl) (by decide) (fun r3 S3 I3 L3 R3 q3 => ?_)
                  obtain ⟨rfl, rfl, rfl, u3⟩ := q3
                  have a4 := (adv_wf (t := t) u2.2.1).2.2 (by rw [h3]; decide)
                  refine s_goto (tgt := 161) (tb_ok aX8_atom4_3 5 rfl) (by decide) ?_
                  refine s_iload_n (tb_ok aX8_atom4_3 8 rfl) rfl ?_
                  refine s_iret (tb_ok aX8_atom4_3 9 rfl) rfl ?_
                  refine ⟨rfl, rfl, _, rfl, ?_⟩
                  rw [hsq]
                  refine ⟨?_, u3⟩
                  exact w2_
              · have n2 : ¬ s.tok = 2 := fun e_ => by have := h.num.mpr e_; exact c107 this
                have hsq : (oneP t n (some q2)) s = .inr s.pl := by unfold oneP; rw [if_neg (fun h_ => h_.elim n2 n3), if_neg (fun h_ => h_.elim n45 n40)]
                refine s_istore_n (ls' := [some (.ref 66), some (.int v2_)]) (tb_ok aX8_atom4_2 23 rfl) rfl rfl ?_
                refine s_aload_n (tb_ok aX8_atom4_3 0 rfl) rfl ?_
                refine s_getI (x := (1)) (tb_ok aX8_atom4_3 1 rfl) f_RX8_173 rfl rfl u2.2.1 ?_
                refine s_if_ne (tgt := 161) (tb_ok aX8_atom4_3 2 rfl) (by decide) (fun c147 => ?_) (fun c147 => ?_)
                · refine s_iload_n (tb_ok aX8_atom4_3 8 rfl) rfl ?_
                  refine s_iret (tb_ok aX8_atom4_3 9 rfl) rfl ?_
                  refine ⟨rfl, rfl, _, rfl, ?_⟩
                  rw [hsq]
                  exact u2
                · exact absurd c147 (by decide)
        · have ht2 : s.tok = 2 := h.num.mp c107
          have hnv : (L 66 25).toInt32 = atm nm s.val := h.nvl ht2
          have hsq : (oneP t n (some q2)) s = .inl ([s.val], (fun nm => atm nm s.val), adv t n s) := by unfold oneP; rw [if_pos (Or.inl ht2)]
          refine s_aload_n (tb_ok aX8_atom4_2 7 rfl) rfl ?_
          refine s_getL (tb_ok aX8_atom4_2 8 rfl) f_RX8_167 rfl rfl rfl ?_
          refine s_l2i (tb_ok aX8_atom4_2 9 rfl) ?_
          refine s_name (fun x1 ex1 => ?_)
          refine s_istore_n (ls' := [some (.ref 66), some (.int x1)]) (tb_ok aX8_atom4_2 10 rfl) rfl rfl ?_
          refine s_aload_n (tb_ok aX8_atom4_2 11 rfl) rfl ?_
          refine s_cV (as := []) (tb_ok aX8_atom4_2 12 rfl) v_RX8_190 (R_next hT h (by rw [ht2]; decide) (by rw [ht2]; decide)) (by omega) rfl rfl rfl rfl rfl (Nat.le_of_ble_eq_true rfl) (by decide) (fun r4 S4 I4 L4 R4 q4 => ?_)
          obtain ⟨rfl, rfl, rfl, u5⟩ := q4
          have a6 := (adv_wf (t := t) h.2.1).2.2 (by rw [ht2]; decide)
          refine s_goto (tgt := 161) (tb_ok aX8_atom4_2 13 rfl) (by decide) ?_
          refine s_iload_n (tb_ok aX8_atom4_3 8 rfl) rfl ?_
          refine s_iret (tb_ok aX8_atom4_3 9 rfl) rfl ?_
          refine ⟨rfl, rfl, _, rfl, ?_⟩
          rw [hsq]
          refine ⟨?_, u5⟩
          first | exact ex1.trans hnv | exact ex1.trans (congrArg Neg.neg w2_)
    · have h40 : s.tok = 40 := bI_n c43
      have h4 : s.tok = 45 ∨ s.tok = 40 := Or.inr h40
      have h23 : ¬ (s.tok = 2 ∨ s.tok = 3) := by rw [h40]; decide
      refine s_aload_n (tb_ok aX8_atom4_1 0 rfl) rfl ?_
      refine s_cV (as := []) (tb_ok aX8_atom4_1 1 rfl) v_RX8_218 (R_opens hT h (by rw [h40]; decide) (by rw [h40]; decide) (by decide)) (by omega) rfl rfl rfl rfl rfl (Nat.le_of_ble_eq_true rfl) (by decide) (fun r5 S5 I5 L5 R5 q5 => ?_)
      obtain ⟨rfl, rfl, rfl, u7⟩ := q5
      have a8 := (adv_wf (t := t) h.2.1).2.2 (by rw [h40]; decide)
      refine s_if_eq (tgt := 161) (tb_ok aX8_atom4_1 2 rfl) (by decide) (fun c50 => ?_) (fun c50 => ?_)
      · exact absurd c50 (by decide)
      · refine s_aload_n (tb_ok aX8_atom4_1 3 rfl) rfl ?_
        refine s_cV (as := []) (tb_ok aX8_atom4_1 4 rfl) v_RX8_245 (hj _ _ _ u7) (by omega) rfl rfl rfl rfl rfl (Nat.le_of_ble_eq_true rfl) (by decide) (fun r6 S6 I6 L6 R6 q6 => ?_)
        obtain ⟨rfl, rfl, v9_, rfl, u9⟩ := q6
        cases e9_ : q2.1 (adv t n s) with
        | inr g9_ =>
          rw [e9_] at u9
          have u9 : RBad I0 g9_ _ := u9
          have hsq : (oneP t n (some q2)) s = .inr g9_ := by
            unfold oneP
            rw [if_neg h23, if_pos h4]
            show (if s.tok = 45 then _ else _) = _
            rw [if_neg (by rw [h40]; decide)]
            simp only [e9_]
          refine s_istore_n (ls' := [some (.ref 66), some (.int v9_)]) (tb_ok aX8_atom4_1 5 rfl) rfl rfl ?_
          refine s_aload_n (tb_ok aX8_atom4_1 6 rfl) rfl ?_
          refine s_bipush (v := 41) (tb_ok aX8_atom4_1 7 rfl) (by decide) ?_
          refine s_cVp (as := [.int (41)]) (tb_ok aX8_atom4_1 8 rfl) v_RX8_215 (R_isSignE (I0 := I0) u9.2.1) (by omega) rfl rfl rfl rfl rfl (Nat.le_of_ble_eq_true rfl) (by decide) ?_
          refine s_if_ne (tgt := 71) (tb_ok aX8_atom4_1 9 rfl) (by decide) (fun c64 => ?_) (fun c64 => ?_)
          · exact absurd c64 (by decide)
          · refine s_aload_n (tb_ok aX8_atom4_1 10 rfl) rfl ?_
            refine s_cV (as := []) (tb_ok aX8_atom4_1 11 rfl) v_RX8_187 (R_failE u9) (by omega) rfl rfl rfl rfl rfl (Nat.le_of_ble_eq_true rfl) (by decide) (fun r7 S7 I7 L7 R7 q7 => ?_)
            obtain ⟨rfl, rfl, rfl, u10⟩ := q7
            refine s_aload_n (tb_ok aX8_atom4_1 12 rfl) rfl ?_
            refine s_dup (tb_ok aX8_atom4_1 13 rfl) rfl ?_
            refine s_getI (tb_ok aX8_atom4_1 14 rfl) f_RX8_184 rfl rfl rfl ?_
            refine s_iconst (v := 1) (tb_ok aX8_atom4_1 15 rfl) (by decide) ?_
            refine s_isub (tb_ok aX8_atom4_1 16 rfl) ?_
            refine s_putI (tb_ok aX8_atom4_1 17 rfl) f_RX8_184 rfl rfl ?_
            refine s_aload_n (tb_ok aX8_atom4_1 18 rfl) rfl ?_
            refine s_getI (x := (1)) (tb_ok aX8_atom4_1 19 rfl) f_RX8_173 rfl rfl (u10.put26 _).2.1 ?_
            refine s_if_ne (tgt := 161) (tb_ok aX8_atom4_1 20 rfl) (by decide) (fun c85 => ?_) (fun c85 => ?_)
            · refine s_iload_n (tb_ok aX8_atom4_3 8 rfl) rfl ?_
              refine s_iret (tb_ok aX8_atom4_3 9 rfl) rfl ?_
              refine ⟨rfl, rfl, _, rfl, ?_⟩
              rw [hsq]
              exact (u10.put26 _)
            · exact absurd c85 (by decide)
        | inl qq =>
          obtain ⟨c9_, f9_, s9_⟩ := qq
          rw [e9_] at u9
          obtain ⟨w9_, u9⟩ := u9
          have w9_ : v9_ = f9_ nm := w9_
          have u9 : ROk t n 5 I0 s9_ _ _ := u9
          refine s_istore_n (ls' := [some (.ref 66), some (.int v9_)]) (tb_ok aX8_atom4_1 5 rfl) rfl rfl ?_
          refine s_aload_n (tb_ok aX8_atom4_1 6 rfl) rfl ?_
          refine s_bipush (v := 41) (tb_ok aX8_atom4_1 7 rfl) (by decide) ?_
          refine s_cVp (as := [.int (41)]) (tb_ok aX8_atom4_1 8 rfl) v_RX8_215 (R_isSign (I0 := I0) u9.2.2.1 u9.2.2.2.2.2 (by decide)) (by omega) rfl rfl rfl rfl rfl (Nat.le_of_ble_eq_true rfl) (by decide) ?_
          refine s_if_ne (tgt := 71) (tb_ok aX8_atom4_1 9 rfl) (by decide) (fun c64 => ?_) (fun c64 => ?_)
          · refine s_aload_n (tb_ok aX8_atom4_1 12 rfl) rfl ?_
            refine s_dup (tb_ok aX8_atom4_1 13 rfl) rfl ?_
            refine s_getI (x := (nI 5)) (tb_ok aX8_atom4_1 14 rfl) f_RX8_184 rfl rfl u9.2.2.2.1 ?_
            refine s_iconst (v := 1) (tb_ok aX8_atom4_1 15 rfl) (by decide) ?_
            refine s_isub (tb_ok aX8_atom4_1 16 rfl) ?_
            refine s_topi (z := (nI 4)) (by decide) ?_
            refine s_putI (tb_ok aX8_atom4_1 17 rfl) f_RX8_184 rfl rfl ?_
            have u12 := u9.put26 4
            refine s_aload_n (tb_ok aX8_atom4_1 18 rfl) rfl ?_
            refine s_getI (x := (0)) (tb_ok aX8_atom4_1 19 rfl) f_RX8_173 rfl rfl u12.2.2.1 ?_
            refine s_if_ne (tgt := 161) (tb_ok aX8_atom4_1 20 rfl) (by decide) (fun c85 => ?_) (fun c85 => ?_)
            · exact absurd c85 (by decide)
            · have h41 : s9_.tok = 41 := bI_n c64
              have hsq : (oneP t n (some q2)) s = .inl (c9_, f9_, adv t n s9_) := by
                unfold oneP
                rw [if_neg h23, if_pos h4]
                show (if s.tok = 45 then _ else _) = _
                rw [if_neg (by rw [h40]; decide)]
                simp only [e9_]
                rw [if_pos h41]
              refine s_aload_n (tb_ok aX8_atom4_1 21 rfl) rfl ?_
              refine s_cV (as := []) (tb_ok aX8_atom4_1 22 rfl) v_RX8_190 (R_next hT u12 (by rw [h41]; decide) (by rw [h41]; decide)) (by omega) rfl rfl rfl rfl rfl (Nat.le_of_ble_eq_true rfl) (by decide) (fun r8 S8 I8 L8 R8 q8 => ?_)
              obtain ⟨rfl, rfl, rfl, u13⟩ := q8
              have a14 := (adv_wf (t := t) u12.2.1).2.2 (by rw [h41]; decide)
              refine s_goto (tgt := 161) (tb_ok aX8_atom4_1 23 rfl) (by decide) ?_
              refine s_iload_n (tb_ok aX8_atom4_3 8 rfl) rfl ?_
              refine s_iret (tb_ok aX8_atom4_3 9 rfl) rfl ?_
              refine ⟨rfl, rfl, _, rfl, ?_⟩
              rw [hsq]
              refine ⟨?_, u13⟩
              exact w9_
          · have hsq : (oneP t n (some q2)) s = .inr s9_.pl := by
              unfold oneP
              rw [if_neg h23, if_pos h4]
              show (if s.tok = 45 then _ else _) = _
              rw [if_neg (by rw [h40]; decide)]
              simp only [e9_]
              rw [if_neg (bI_0.mp c64)]
            refine s_aload_n (tb_ok aX8_atom4_1 10 rfl) rfl ?_
            refine s_cV (as := []) (tb_ok aX8_atom4_1 11 rfl) v_RX8_187 (R_fail u9) (by omega) rfl rfl rfl rfl rfl (Nat.le_of_ble_eq_true rfl) (by decide) (fun r9 S9 I9 L9 R9 q9 => ?_)
            obtain ⟨rfl, rfl, rfl, u15⟩ := q9
            refine s_aload_n (tb_ok aX8_atom4_1 12 rfl) rfl ?_
            refine s_dup (tb_ok aX8_atom4_1 13 rfl) rfl ?_
            refine s_getI (tb_ok aX8_atom4_1 14 rfl) f_RX8_184 rfl rfl rfl ?_
            refine s_iconst (v := 1) (tb_ok aX8_atom4_1 15 rfl) (by decide) ?_
            refine s_isub (tb_ok aX8_atom4_1 16 rfl) ?_
            refine s_putI (tb_ok aX8_atom4_1 17 rfl) f_RX8_184 rfl rfl ?_
            refine s_aload_n (tb_ok aX8_atom4_1 18 rfl) rfl ?_
            refine s_getI (x := (1)) (tb_ok aX8_atom4_1 19 rfl) f_RX8_173 rfl rfl (u15.put26 _).2.1 ?_
            refine s_if_ne (tgt := 161) (tb_ok aX8_atom4_1 20 rfl) (by decide) (fun c85 => ?_) (fun c85 => ?_)
            · refine s_iload_n (tb_ok aX8_atom4_3 8 rfl) rfl ?_
              refine s_iret (tb_ok aX8_atom4_3 9 rfl) rfl ?_
              refine ⟨rfl, rfl, _, rfl, ?_⟩
              rw [hsq]
              exact (u15.put26 _)
            · exact absurd c85 (by decide)
  · have h45 : s.tok = 45 := bI_n c8
    have h4 : s.tok = 45 ∨ s.tok = 40 := Or.inl h45
    have h23 : ¬ (s.tok = 2 ∨ s.tok = 3) := by rw [h45]; decide
    refine s_aload_n (tb_ok aX8_atom4_0 6 rfl) rfl ?_
    refine s_cV (as := []) (tb_ok aX8_atom4_0 7 rfl) v_RX8_218 (R_opens hT h (by rw [h45]; decide) (by rw [h45]; decide) (by decide)) (by omega) rfl rfl rfl rfl rfl (Nat.le_of_ble_eq_true rfl) (by decide) (fun r10 S10 I10 L10 R10 q10 => ?_)
    obtain ⟨rfl, rfl, rfl, u17⟩ := q10
    have a18 := (adv_wf (t := t) h.2.1).2.2 (by rw [h45]; decide)
    refine s_if_eq (tgt := 161) (tb_ok aX8_atom4_0 8 rfl) (by decide) (fun c15 => ?_) (fun c15 => ?_)
    · exact absurd c15 (by decide)
    · refine s_aload_n (tb_ok aX8_atom4_0 9 rfl) rfl ?_
      refine s_cV (as := []) (tb_ok aX8_atom4_0 10 rfl) v_RX8_226 (hi _ _ _ u17) (by omega) rfl rfl rfl rfl rfl (Nat.le_of_ble_eq_true rfl) (by decide) (fun r11 S11 I11 L11 R11 q11 => ?_)
      obtain ⟨rfl, rfl, v19_, rfl, u19⟩ := q11
      cases e19_ : q2.2.2 (adv t n s) with
      | inr g19_ =>
        rw [e19_] at u19
        have u19 : RBad I0 g19_ _ := u19
        have hsq : (oneP t n (some q2)) s = .inr g19_ := by
          unfold oneP
          rw [if_neg h23, if_pos h4]
          show (if s.tok = 45 then _ else _) = _
          rw [if_pos h45]
          simp only [e19_]
        refine s_ineg (tb_ok aX8_atom4_0 11 rfl) ?_
        refine s_name (fun x2 ex2 => ?_)
        refine s_istore_n (ls' := [some (.ref 66), some (.int x2)]) (tb_ok aX8_atom4_0 12 rfl) rfl rfl ?_
        refine s_aload_n (tb_ok aX8_atom4_0 13 rfl) rfl ?_
        refine s_dup (tb_ok aX8_atom4_0 14 rfl) rfl ?_
        refine s_getI (tb_ok aX8_atom4_0 15 rfl) f_RX8_184 rfl rfl rfl ?_
        refine s_iconst (v := 1) (tb_ok aX8_atom4_0 16 rfl) (by decide) ?_
        refine s_isub (tb_ok aX8_atom4_0 17 rfl) ?_
        refine s_putI (tb_ok aX8_atom4_0 18 rfl) f_RX8_184 rfl rfl ?_
        refine s_goto (tgt := 161) (tb_ok aX8_atom4_0 19 rfl) (by decide) ?_
        refine s_iload_n (tb_ok aX8_atom4_3 8 rfl) rfl ?_
        refine s_iret (tb_ok aX8_atom4_3 9 rfl) rfl ?_
        refine ⟨rfl, rfl, _, rfl, ?_⟩
        rw [hsq]
        exact (u19.put26 _)
      | inl qq =>
        obtain ⟨c19_, f19_, s19_⟩ := qq
        rw [e19_] at u19
        obtain ⟨w19_, u19⟩ := u19
        have w19_ : v19_ = f19_ nm := w19_
        have u19 : ROk t n 5 I0 s19_ _ _ := u19
        have hsq : (oneP t n (some q2)) s = .inl (c19_ ++ [20000], (fun nm => of1 20000 (f19_ nm)), s19_) := by
          unfold oneP
          rw [if_neg h23, if_pos h4]
          show (if s.tok = 45 then _ else _) = _
          rw [if_pos h45]
          simp only [e19_]
        refine s_ineg (tb_ok aX8_atom4_0 11 rfl) ?_
        refine s_name (fun x3 ex3 => ?_)
        refine s_istore_n (ls' := [some (.ref 66), some (.int x3)]) (tb_ok aX8_atom4_0 12 rfl) rfl rfl ?_
        refine s_aload_n (tb_ok aX8_atom4_0 13 rfl) rfl ?_
        refine s_dup (tb_ok aX8_atom4_0 14 rfl) rfl ?_
        refine s_getI (x := (nI 5)) (tb_ok aX8_atom4_0 15 rfl) f_RX8_184 rfl rfl u19.2.2.2.1 ?_
        refine s_iconst (v := 1) (tb_ok aX8_atom4_0 16 rfl) (by decide) ?_
        refine s_isub (tb_ok aX8_atom4_0 17 rfl) ?_
        refine s_topi (z := (nI 4)) (by decide) ?_
        refine s_putI (tb_ok aX8_atom4_0 18 rfl) f_RX8_184 rfl rfl ?_
        have u21 := u19.put26 4
        refine s_goto (tgt := 161) (tb_ok aX8_atom4_0 19 rfl) (by decide) ?_
        refine s_iload_n (tb_ok aX8_atom4_3 8 rfl) rfl ?_
        refine s_iret (tb_ok aX8_atom4_3 9 rfl) rfl ?_
        refine ⟨rfl, rfl, _, rfl, ?_⟩
        rw [hsq]
        refine ⟨?_, u21⟩
        first | exact ex3.trans hnv | exact ex3.trans (congrArg Neg.neg w19_)

set_option maxRecDepth 100000 in
set_option maxHeartbeats 1000000 in
theorem L_term4 {X : En} {q : Nat × Nat} {I0 : FI} {F n : Nat} {t nm : Nat → Int32} (hT : TxX I0 F n t nm) {d f : Nat} (hd : 2 < d) {Q : Pst} {I : FI} {L : FL} (x : Int32) (h : RBad I0 f I) (hQ : ∀ v, Q (some (.int v)) S0 I L (R0 q)) : SW X (d + 1) mX8_term4 (0, 0) 5 [some (.ref 66), some (.int x)] [] S0 I L (R0 q) (KQ X Q) := by
  refine s_aload_n (tb_ok aX8_term4_0 3 rfl) rfl ?_
  refine s_bipush (v := 42) (tb_ok aX8_term4_0 4 rfl) (by decide) ?_
  refine s_cVp (as := [.int (42)]) (tb_ok aX8_term4_0 5 rfl) v_RX8_215 (R_isSignE (I0 := I0) h.2.1) (by omega) rfl rfl rfl rfl rfl (Nat.le_of_ble_eq_true rfl) (by decide) ?_
  refine s_if_eq (tgt := 28) (tb_ok aX8_term4_0 6 rfl) (by decide) (fun c11 => ?_) (fun c11 => ?_)
  · refine s_iload_n (tb_ok aX8_term4_0 15 rfl) rfl ?_
    refine s_iret (tb_ok aX8_term4_0 16 rfl) rfl ?_
    exact hQ _
  · exact absurd c11 (by decide)

set_option maxRecDepth 100000 in
set_option maxHeartbeats 1000000 in
theorem C_term4 {X : En} {q : Nat × Nat} {I0 : FI} {F n : Nat} {t nm : Nat → Int32} (hT : TxX I0 F n t nm) {d dp : Nat} (hd : 2 < d) {P : Pa} (hN : Nice n dp P) (hi : CtX X q t nm n I0 d mX8_atom4 4 P) : CtX X q t nm n I0 (d + 1) mX8_term4 4 (seqP t n opT cdT P) := by
  intro I L s h
  obtain ⟨hF, hn, hn160, hFn, ht, ht0, hnm⟩ := id hT
  have loop : ∀ k, ∀ (I : FI) (L : FL) (c : List Int32) (f : Sem) (s1 : St) (x : Int32), x = f nm → ROk t n 4 I0 s1 I L → 160 < s1.pl + k → loopP t n opT cdT P k c f s1 = (seqP t n opT cdT P) s → SW X (d + 1) mX8_term4 (0, 0) 5 [some (.ref 66), some (.int x)] [] S0 I L (R0 q) (KQ X (AfP q t nm n 4 I0 ((seqP t n opT cdT P) s))) := by
    intro k
    induction k with
    | zero =>
      intro I L c f s1 x hx h1 hk hres
      have := h1.pln
      omega
    | succ k ih =>
      intro I L c f s1 x hx h1 hk hres
      refine s_aload_n (tb_ok aX8_term4_0 3 rfl) rfl ?_
      refine s_bipush (v := 42) (tb_ok aX8_term4_0 4 rfl) (by decide) ?_
      refine s_cVp (as := [.int (42)]) (tb_ok aX8_term4_0 5 rfl) v_RX8_215 (R_isSign (I0 := I0) h1.2.2.1 h1.2.2.2.2.2 (by decide)) (by omega) rfl rfl rfl rfl rfl (Nat.le_of_ble_eq_true rfl) (by decide) ?_
      refine s_if_eq (tgt := 28) (tb_ok aX8_term4_0 6 rfl) (by decide) (fun c11 => ?_) (fun c11 => ?_)
      · refine s_iload_n (tb_ok aX8_term4_0 15 rfl) rfl ?_
        refine s_iret (tb_ok aX8_term4_0 16 rfl) rfl ?_
        refine ⟨rfl, rfl, _, rfl, ?_⟩
        rw [← hres, loopP, if_neg (bI_0.mp c11)]
        exact ⟨hx, h1⟩
      · have hop : opT s1.tok := bI_n c11
        refine s_aload_n (tb_ok aX8_term4_0 7 rfl) rfl ?_
        refine s_cV (as := []) (tb_ok aX8_term4_0 8 rfl) v_RX8_190 (R_next hT h1 (by rw [hop]; decide) (by rw [hop]; decide)) (by omega) rfl rfl rfl rfl rfl (Nat.le_of_ble_eq_true rfl) (by decide) (fun r1 S1 I1 L1 R1 q1 => ?_)
        obtain ⟨rfl, rfl, rfl, u1⟩ := q1
        have a2 := (adv_wf (t := t) h1.2.1).2.2 (by rw [hop]; decide)
        refine s_iload_n (tb_ok aX8_term4_0 9 rfl) rfl ?_
        refine s_aload_n (tb_ok aX8_term4_0 10 rfl) rfl ?_
        refine s_cV (as := []) (tb_ok aX8_term4_0 11 rfl) v_RX8_248 (hi _ _ _ u1) (by omega) rfl rfl rfl rfl rfl (Nat.le_of_ble_eq_true rfl) (by decide) (fun r2 S2 I2 L2 R2 q2 => ?_)
        obtain ⟨rfl, rfl, v3_, rfl, u3⟩ := q2
        cases e3_ : P (adv t n s1) with
        | inr g3_ =>
          rw [e3_] at u3
          have u3 : RBad I0 g3_ _ := u3
          rw [loopP, if_pos hop, e3_] at hres
          refine s_imul (tb_ok aX8_term4_0 12 rfl) ?_
          refine s_name (fun x1 ex1 => ?_)
          refine s_istore_n (ls' := [some (.ref 66), some (.int x1)]) (tb_ok aX8_term4_0 13 rfl) rfl rfl ?_
          refine s_goto (tgt := 5) (tb_ok aX8_term4_0 14 rfl) (by decide) ?_
          refine L_term4 hT hd _ u3 (fun v => ⟨rfl, rfl, _, rfl, ?_⟩)
          rw [← hres]
          exact u3
        | inl qq =>
          obtain ⟨c3_, f3_, s3_⟩ := qq
          rw [e3_] at u3
          obtain ⟨w3_, u3⟩ := u3
          have w3_ : v3_ = f3_ nm := w3_
          have u3 : ROk t n 4 I0 s3_ _ _ := u3
          have b3_ := Nice.two (t := t) hN u1.2.1 e3_
          rw [loopP, if_pos hop, e3_] at hres
          refine s_imul (tb_ok aX8_term4_0 12 rfl) ?_
          refine s_name (fun x2 ex2 => ?_)
          refine s_istore_n (ls' := [some (.ref 66), some (.int x2)]) (tb_ok aX8_term4_0 13 rfl) rfl rfl ?_
          refine s_goto (tgt := 5) (tb_ok aX8_term4_0 14 rfl) (by decide) ?_
          refine ih _ _ _ _ _ x2 ?_ u3 (by omega) hres
          show x2 = of2 30002 (f nm) _
          rw [of2_mul, ex2, hx, w3_]
  refine ev_of (by decide +kernel) rfl ?_
  show SW X _ _ _ 0 [some (.ref 66), none] [] S0 I L (R0 q) _
  refine s_aload_n (tb_ok aX8_term4_0 0 rfl) rfl ?_
  refine s_cV (as := []) (tb_ok aX8_term4_0 1 rfl) v_RX8_248 (hi _ _ _ h) (by omega) rfl rfl rfl rfl rfl (Nat.le_of_ble_eq_true rfl) (by decide) (fun r1 S1 I1 L1 R1 q1 => ?_)
  obtain ⟨rfl, rfl, v4_, rfl, u4⟩ := q1
  cases e4_ : P s with
  | inr g4_ =>
    rw [e4_] at u4
    have u4 : RBad I0 g4_ _ := u4
    have hsq : (seqP t n opT cdT P) s = .inr g4_ := by unfold seqP; rw [e4_]
    refine s_istore_n (ls' := [some (.ref 66), some (.int v4_)]) (tb_ok aX8_term4_0 2 rfl) rfl rfl ?_
    refine L_term4 hT hd _ u4 (fun v => ⟨rfl, rfl, _, rfl, ?_⟩)
    rw [hsq]
    exact u4
  | inl qq =>
    obtain ⟨c4_, f4_, s4_⟩ := qq
    rw [e4_] at u4
    obtain ⟨w4_, u4⟩ := u4
    have w4_ : v4_ = f4_ nm := w4_
    have u4 : ROk t n 4 I0 s4_ _ _ := u4
    have b4_ := Nice.two (t := t) hN h.2.1 e4_
    have hsq : (seqP t n opT cdT P) s = loopP t n opT cdT P 160 c4_ f4_ s4_ := by unfold seqP; rw [e4_]
    refine s_istore_n (ls' := [some (.ref 66), some (.int v4_)]) (tb_ok aX8_term4_0 2 rfl) rfl rfl ?_
    exact loop 160 _ _ _ _ _ _ w4_ u4 (by omega) hsq.symm

set_option maxRecDepth 100000 in
set_option maxHeartbeats 1000000 in
theorem L_added4 {X : En} {q : Nat × Nat} {I0 : FI} {F n : Nat} {t nm : Nat → Int32} (hT : TxX I0 F n t nm) {d f : Nat} (hd : 2 < d) {Q : Pst} {I : FI} {L : FL} (x : Int32) (o2 : Option Value) (o3 : Option Value) (h : RBad I0 f I) (hQ : ∀ v, Q (some (.int v)) S0 I L (R0 q)) : SW X (d + 1) mX8_added4 (0, 0) 5 [some (.ref 66), some (.int x), o2, o3] [] S0 I L (R0 q) (KQ X Q) := by
  refine s_aload_n (tb_ok aX8_added4_0 3 rfl) rfl ?_
  refine s_bipush (v := 43) (tb_ok aX8_added4_0 4 rfl) (by decide) ?_
  refine s_cVp (as := [.int (43)]) (tb_ok aX8_added4_0 5 rfl) v_RX8_215 (R_isSignE (I0 := I0) h.2.1) (by omega) rfl rfl rfl rfl rfl (Nat.le_of_ble_eq_true rfl) (by decide) ?_
  refine s_if_ne (tgt := 23) (tb_ok aX8_added4_0 6 rfl) (by decide) (fun c11 => ?_) (fun c11 => ?_)
  · exact absurd c11 (by decide)
  · refine s_aload_n (tb_ok aX8_added4_0 7 rfl) rfl ?_
    refine s_bipush (v := 45) (tb_ok aX8_added4_0 8 rfl) (by decide) ?_
    refine s_cVp (as := [.int (45)]) (tb_ok aX8_added4_0 9 rfl) v_RX8_215 (R_isSignE (I0 := I0) h.2.1) (by omega) rfl rfl rfl rfl rfl (Nat.le_of_ble_eq_true rfl) (by decide) ?_
    refine s_if_eq (tgt := 66) (tb_ok aX8_added4_0 10 rfl) (by decide) (fun c20 => ?_) (fun c20 => ?_)
    · refine s_iload_n (tb_ok aX8_added4_1 12 rfl) rfl ?_
      refine s_iret (tb_ok aX8_added4_1 13 rfl) rfl ?_
      exact hQ _
    · exact absurd c20 (by decide)

set_option maxRecDepth 100000 in
set_option maxHeartbeats 1000000 in
theorem C_added4 {X : En} {q : Nat × Nat} {I0 : FI} {F n : Nat} {t nm : Nat → Int32} (hT : TxX I0 F n t nm) {d dp : Nat} (hd : 2 < d) {P : Pa} (hN : Nice n dp P) (hi : CtX X q t nm n I0 d mX8_term4 4 P) : CtX X q t nm n I0 (d + 1) mX8_added4 4 (seqP t n opS cdS P) := by
  intro I L s h
  obtain ⟨hF, hn, hn160, hFn, ht, ht0, hnm⟩ := id hT
  have loop : ∀ k, ∀ (o2 : Option Value) (o3 : Option Value) (I : FI) (L : FL) (c : List Int32) (f : Sem) (s1 : St) (x : Int32), x = f nm → ROk t n 4 I0 s1 I L → 160 < s1.pl + k → loopP t n opS cdS P k c f s1 = (seqP t n opS cdS P) s → SW X (d + 1) mX8_added4 (0, 0) 5 [some (.ref 66), some (.int x), o2, o3] [] S0 I L (R0 q) (KQ X (AfP q t nm n 4 I0 ((seqP t n opS cdS P) s))) := by
    intro k
    induction k with
    | zero =>
      intro o2 o3 I L c f s1 x hx h1 hk hres
      have := h1.pln
      omega
    | succ k ih =>
      intro o2 o3 I L c f s1 x hx h1 hk hres
      refine s_aload_n (tb_ok aX8_added4_0 3 rfl) rfl ?_
      refine s_bipush (v := 43) (tb_ok aX8_added4_0 4 rfl) (by decide) ?_
      refine s_cVp (as := [.int (43)]) (tb_ok aX8_added4_0 5 rfl) v_RX8_215 (R_isSign (I0 := I0) h1.2.2.1 h1.2.2.2.2.2 (by decide)) (by omega) rfl rfl rfl rfl rfl (Nat.le_of_ble_eq_true rfl) (by decide) ?_
      refine s_if_ne (tgt := 23) (tb_ok aX8_added4_0 6 rfl) (by decide) (fun c11 => ?_) (fun c11 => ?_)
      · have hop : opS s1.tok := by first | exact Or.inl (bI_n c11) | exact Or.inr (bI_n c20)
        have hwr := h1.wrth (by rcases hop with e_ | e_ <;> rw [e_] <;> decide)
        refine s_aload_n (tb_ok aX8_added4_0 11 rfl) rfl ?_
        refine s_getL (tb_ok aX8_added4_0 12 rfl) f_RX8_167 rfl rfl rfl ?_
        refine s_ldc2 (tb_ok aX8_added4_0 13 rfl) k_RX8_232 ?_
        refine s_lcmp (tb_ok aX8_added4_0 14 rfl) ?_
        refine s_if_ne (tgt := 38) (tb_ok aX8_added4_0 15 rfl) (by decide) (fun c31 => ?_) (fun c31 => ?_)
        · have h43 : ¬ s1.tok = 43 := fun e_ => c31 ((cmp_eq _ _).mpr (hwr.trans (by rw [e_]; rfl)))
          refine s_iconst (v := 0) (tb_ok aX8_added4_0 18 rfl) (by decide) ?_
          refine s_istore_n (ls' := [some (.ref 66), some (.int x), some (.int (0)), o3]) (tb_ok aX8_added4_0 19 rfl) rfl rfl ?_
          refine s_aload_n (tb_ok aX8_added4_0 20 rfl) rfl ?_
          refine s_cV (as := []) (tb_ok aX8_added4_0 21 rfl) v_RX8_190 (R_next hT h1 (by rcases hop with e_ | e_ <;> rw [e_] <;> decide) (by rcases hop with e_ | e_ <;> rw [e_] <;> decide)) (by omega) rfl rfl rfl rfl rfl (Nat.le_of_ble_eq_true rfl) (by decide) (fun r1 S1 I1 L1 R1 q1 => ?_)
          obtain ⟨rfl, rfl, rfl, u1⟩ := q1
          have a2 := (adv_wf (t := t) h1.2.1).2.2 (by rcases hop with e_ | e_ <;> rw [e_] <;> decide)
          refine s_aload_n (tb_ok aX8_added4_0 22 rfl) rfl ?_
          refine s_cV (as := []) (tb_ok aX8_added4_0 23 rfl) v_RX8_251 (hi _ _ _ u1) (by omega) rfl rfl rfl rfl rfl (Nat.le_of_ble_eq_true rfl) (by decide) (fun r2 S2 I2 L2 R2 q2 => ?_)
          obtain ⟨rfl, rfl, v3_, rfl, u3⟩ := q2
          cases e3_ : P (adv t n s1) with
          | inr g3_ =>
            rw [e3_] at u3
            have u3 : RBad I0 g3_ _ := u3
            rw [loopP, if_pos hop, e3_] at hres
            refine s_istore_n (ls' := [some (.ref 66), some (.int x), some (.int (0)), some (.int v3_)]) (tb_ok aX8_added4_1 0 rfl) rfl rfl ?_
            refine s_iload_n (tb_ok aX8_added4_1 1 rfl) rfl ?_
            refine s_if_eq (tgt := 59) (tb_ok aX8_added4_1 2 rfl) (by decide) (fun c50 => ?_) (fun c50 => ?_)
            · refine s_iload_n (tb_ok aX8_added4_1 7 rfl) rfl ?_
              refine s_iload_n (tb_ok aX8_added4_1 8 rfl) rfl ?_
              refine s_isub (tb_ok aX8_added4_1 9 rfl) ?_
              refine s_name (fun x1 ex1 => ?_)
              refine s_istore_n (ls' := [some (.ref 66), some (.int x1), some (.int (0)), some (.int v3_)]) (tb_ok aX8_added4_1 10 rfl) rfl rfl ?_
              refine s_goto (tgt := 5) (tb_ok aX8_added4_1 11 rfl) (by decide) ?_
              refine L_added4 hT hd _ _ _ u3 (fun v => ⟨rfl, rfl, _, rfl, ?_⟩)
              rw [← hres]
              exact u3
            · exact absurd c50 (by decide)
          | inl qq =>
            obtain ⟨c3_, f3_, s3_⟩ := qq
            rw [e3_] at u3
            obtain ⟨w3_, u3⟩ := u3
            have w3_ : v3_ = f3_ nm := w3_
            have u3 : ROk t n 4 I0 s3_ _ _ := u3
            have b3_ := Nice.two (t := t) hN u1.2.1 e3_
            rw [loopP, if_pos hop, e3_] at hres
            refine s_istore_n (ls' := [some (.ref 66), some (.int x), some (.int (0)), some (.int v3_)]) (tb_ok aX8_added4_1 0 rfl) rfl rfl ?_
            refine s_iload_n (tb_ok aX8_added4_1 1 rfl) rfl ?_
            refine s_if_eq (tgt := 59) (tb_ok aX8_added4_1 2 rfl) (by decide) (fun c50 => ?_) (fun c50 => ?_)
            · refine s_iload_n (tb_ok aX8_added4_1 7 rfl) rfl ?_
              refine s_iload_n (tb_ok aX8_added4_1 8 rfl) rfl ?_
              refine s_isub (tb_ok aX8_added4_1 9 rfl) ?_
              refine s_name (fun x2 ex2 => ?_)
              refine s_istore_n (ls' := [some (.ref 66), some (.int x2), some (.int (0)), some (.int v3_)]) (tb_ok aX8_added4_1 10 rfl) rfl rfl ?_
              refine s_goto (tgt := 5) (tb_ok aX8_added4_1 11 rfl) (by decide) ?_
              refine ih _ _ _ _ _ _ _ x2 ?_ u3 (by omega) hres
              show x2 = of2 (cdS s1.tok) (f nm) _
              first | (rw [show cdS s1.tok = 30000 from if_pos h43, of2_add, ex2, hx, w3_]; done) | (rw [show cdS s1.tok = 30001 from if_neg h43, of2_sub, ex2, hx, w3_]; done)
            · exact absurd c50 (by decide)
        · have h43 : s1.tok = 43 := i64_inj.mp (hwr.symm.trans ((cmp_eq _ _).mp c31))
          refine s_iconst (v := 1) (tb_ok aX8_added4_0 16 rfl) (by decide) ?_
          refine s_goto (tgt := 39) (tb_ok aX8_added4_0 17 rfl) (by decide) ?_
          refine s_istore_n (ls' := [some (.ref 66), some (.int x), some (.int (1)), o3]) (tb_ok aX8_added4_0 19 rfl) rfl rfl ?_
          refine s_aload_n (tb_ok aX8_added4_0 20 rfl) rfl ?_
          refine s_cV (as := []) (tb_ok aX8_added4_0 21 rfl) v_RX8_190 (R_next hT h1 (by rcases hop with e_ | e_ <;> rw [e_] <;> decide) (by rcases hop with e_ | e_ <;> rw [e_] <;> decide)) (by omega) rfl rfl rfl rfl rfl (Nat.le_of_ble_eq_true rfl) (by decide) (fun r3 S3 I3 L3 R3 q3 => ?_)
          obtain ⟨rfl, rfl, rfl, u4⟩ := q3
          have a5 := (adv_wf (t := t) h1.2.1).2.2 (by rcases hop with e_ | e_ <;> rw [e_] <;> decide)
          refine s_aload_n (tb_ok aX8_added4_0 22 rfl) rfl ?_
          refine s_cV (as := []) (tb_ok aX8_added4_0 23 rfl) v_RX8_251 (hi _ _ _ u4) (by omega) rfl rfl rfl rfl rfl (Nat.le_of_ble_eq_true rfl) (by decide) (fun r4 S4 I4 L4 R4 q4 => ?_)
          obtain ⟨rfl, rfl, v6_, rfl, u6⟩ := q4
          cases e6_ : P (adv t n s1) with
          | inr g6_ =>
            rw [e6_] at u6
            have u6 : RBad I0 g6_ _ := u6
            rw [loopP, if_pos hop, e6_] at hres
            refine s_istore_n (ls' := [some (.ref 66), some (.int x), some (.int (1)), some (.int v6_)]) (tb_ok aX8_added4_1 0 rfl) rfl rfl ?_
            refine s_iload_n (tb_ok aX8_added4_1 1 rfl) rfl ?_
            refine s_if_eq (tgt := 59) (tb_ok aX8_added4_1 2 rfl) (by decide) (fun c50 => ?_) (fun c50 => ?_)
            · exact absurd c50 (by decide)
            · refine s_iload_n (tb_ok aX8_added4_1 3 rfl) rfl ?_
              refine s_iload_n (tb_ok aX8_added4_1 4 rfl) rfl ?_
              refine s_iadd (tb_ok aX8_added4_1 5 rfl) ?_
              refine s_goto (tgt := 62) (tb_ok aX8_added4_1 6 rfl) (by decide) ?_
              refine s_name (fun x3 ex3 => ?_)
              refine s_istore_n (ls' := [some (.ref 66), some (.int x3), some (.int (1)), some (.int v6_)]) (tb_ok aX8_added4_1 10 rfl) rfl rfl ?_
              refine s_goto (tgt := 5) (tb_ok aX8_added4_1 11 rfl) (by decide) ?_
              refine L_added4 hT hd _ _ _ u6 (fun v => ⟨rfl, rfl, _, rfl, ?_⟩)
              rw [← hres]
              exact u6
          | inl qq =>
            obtain ⟨c6_, f6_, s6_⟩ := qq
            rw [e6_] at u6
            obtain ⟨w6_, u6⟩ := u6
            have w6_ : v6_ = f6_ nm := w6_
            have u6 : ROk t n 4 I0 s6_ _ _ := u6
            have b6_ := Nice.two (t := t) hN u4.2.1 e6_
            rw [loopP, if_pos hop, e6_] at hres
            refine s_istore_n (ls' := [some (.ref 66), some (.int x), some (.int (1)), some (.int v6_)]) (tb_ok aX8_added4_1 0 rfl) rfl rfl ?_
            refine s_iload_n (tb_ok aX8_added4_1 1 rfl) rfl ?_
            refine s_if_eq (tgt := 59) (tb_ok aX8_added4_1 2 rfl) (by decide) (fun c50 => ?_) (fun c50 => ?_)
            · exact absurd c50 (by decide)
            · refine s_iload_n (tb_ok aX8_added4_1 3 rfl) rfl ?_
              refine s_iload_n (tb_ok aX8_added4_1 4 rfl) rfl ?_
              refine s_iadd (tb_ok aX8_added4_1 5 rfl) ?_
              refine s_goto (tgt := 62) (tb_ok aX8_added4_1 6 rfl) (by decide) ?_
              refine s_name (fun x4 ex4 => ?_)
              refine s_istore_n (ls' := [some (.ref 66), some (.int x4), some (.int (1)), some (.int v6_)]) (tb_ok aX8_added4_1 10 rfl) rfl rfl ?_
              refine s_goto (tgt := 5) (tb_ok aX8_added4_1 11 rfl) (by decide) ?_
              refine ih _ _ _ _ _ _ _ x4 ?_ u6 (by omega) hres
              show x4 = of2 (cdS s1.tok) (f nm) _
              first | (rw [show cdS s1.tok = 30000 from if_pos h43, of2_add, ex4, hx, w6_]; done) | (rw [show cdS s1.tok = 30001 from if_neg h43, of2_sub, ex4, hx, w6_]; done)
      · refine s_aload_n (tb_ok aX8_added4_0 7 rfl) rfl ?_
        refine s_bipush (v := 45) (tb_ok aX8_added4_0 8 rfl) (by decide) ?_
        refine s_cVp (as := [.int (45)]) (tb_ok aX8_added4_0 9 rfl) v_RX8_215 (R_isSign (I0 := I0) h1.2.2.1 h1.2.2.2.2.2 (by decide)) (by omega) rfl rfl rfl rfl rfl (Nat.le_of_ble_eq_true rfl) (by decide) ?_
        refine s_if_eq (tgt := 66) (tb_ok aX8_added4_0 10 rfl) (by decide) (fun c20 => ?_) (fun c20 => ?_)
        · refine s_iload_n (tb_ok aX8_added4_1 12 rfl) rfl ?_
          refine s_iret (tb_ok aX8_added4_1 13 rfl) rfl ?_
          refine ⟨rfl, rfl, _, rfl, ?_⟩
          rw [← hres, loopP, if_neg (fun h_ => h_.elim (bI_0.mp c11) (bI_0.mp c20))]
          exact ⟨hx, h1⟩
        · have hop : opS s1.tok := by first | exact Or.inl (bI_n c11) | exact Or.inr (bI_n c20)
          have hwr := h1.wrth (by rcases hop with e_ | e_ <;> rw [e_] <;> decide)
          refine s_aload_n (tb_ok aX8_added4_0 11 rfl) rfl ?_
          refine s_getL (tb_ok aX8_added4_0 12 rfl) f_RX8_167 rfl rfl rfl ?_
          refine s_ldc2 (tb_ok aX8_added4_0 13 rfl) k_RX8_232 ?_
          refine s_lcmp (tb_ok aX8_added4_0 14 rfl) ?_
          refine s_if_ne (tgt := 38) (tb_ok aX8_added4_0 15 rfl) (by decide) (fun c31 => ?_) (fun c31 => ?_)
          · have h43 : ¬ s1.tok = 43 := fun e_ => c31 ((cmp_eq _ _).mpr (hwr.trans (by rw [e_]; rfl)))
            refine s_iconst (v := 0) (tb_ok aX8_added4_0 18 rfl) (by decide) ?_
            refine s_istore_n (ls' := [some (.ref 66), some (.int x), some (.int (0)), o3]) (tb_ok aX8_added4_0 19 rfl) rfl rfl ?_
            refine s_aload_n (tb_ok aX8_added4_0 20 rfl) rfl ?_
            refine s_cV (as := []) (tb_ok aX8_added4_0 21 rfl) v_RX8_190 (R_next hT h1 (by rcases hop with e_ | e_ <;> rw [e_] <;> decide) (by rcases hop with e_ | e_ <;> rw [e_] <;> decide)) (by omega) rfl rfl rfl rfl rfl (Nat.le_of_ble_eq_true rfl) (by decide) (fun r5 S5 I5 L5 R5 q5 => ?_)
            obtain ⟨rfl, rfl, rfl, u7⟩ := q5
            have a8 := (adv_wf (t := t) h1.2.1).2.2 (by rcases hop with e_ | e_ <;> rw [e_] <;> decide)
            refine s_aload_n (tb_ok aX8_added4_0 22 rfl) rfl ?_
            refine s_cV (as := []) (tb_ok aX8_added4_0 23 rfl) v_RX8_251 (hi _ _ _ u7) (by omega) rfl rfl rfl rfl rfl (Nat.le_of_ble_eq_true rfl) (by decide) (fun r6 S6 I6 L6 R6 q6 => ?_)
            obtain ⟨rfl, rfl, v9_, rfl, u9⟩ := q6
            cases e9_ : P (adv t n s1) with
            | inr g9_ =>
              rw [e9_] at u9
              have u9 : RBad I0 g9_ _ := u9
              rw [loopP, if_pos hop, e9_] at hres
              refine s_istore_n (ls' := [some (.ref 66), some (.int x), some (.int (0)), some (.int v9_)]) (tb_ok aX8_added4_1 0 rfl) rfl rfl ?_
              refine s_iload_n (tb_ok aX8_added4_1 1 rfl) rfl ?_
              refine s_if_eq (tgt := 59) (tb_ok aX8_added4_1 2 rfl) (by decide) (fun c50 => ?_) (fun c50 => ?_)
              · refine s_iload_n (tb_ok aX8_added4_1 7 rfl) rfl ?_
                refine s_iload_n (tb_ok aX8_added4_1 8 rfl) rfl ?_
                refine s_isub (tb_ok aX8_added4_1 9 rfl) ?_
                refine s_name (fun x5 ex5 => ?_)
                refine s_istore_n (ls' := [some (.ref 66), some (.int x5), some (.int (0)), some (.int v9_)]) (tb_ok aX8_added4_1 10 rfl) rfl rfl ?_
                refine s_goto (tgt := 5) (tb_ok aX8_added4_1 11 rfl) (by decide) ?_
                refine L_added4 hT hd _ _ _ u9 (fun v => ⟨rfl, rfl, _, rfl, ?_⟩)
                rw [← hres]
                exact u9
              · exact absurd c50 (by decide)
            | inl qq =>
              obtain ⟨c9_, f9_, s9_⟩ := qq
              rw [e9_] at u9
              obtain ⟨w9_, u9⟩ := u9
              have w9_ : v9_ = f9_ nm := w9_
              have u9 : ROk t n 4 I0 s9_ _ _ := u9
              have b9_ := Nice.two (t := t) hN u7.2.1 e9_
              rw [loopP, if_pos hop, e9_] at hres
              refine s_istore_n (ls' := [some (.ref 66), some (.int x), some (.int (0)), some (.int v9_)]) (tb_ok aX8_added4_1 0 rfl) rfl rfl ?_
              refine s_iload_n (tb_ok aX8_added4_1 1 rfl) rfl ?_
              refine s_if_eq (tgt := 59) (tb_ok aX8_added4_1 2 rfl) (by decide) (fun c50 => ?_) (fun c50 => ?_)
              · refine s_iload_n (tb_ok aX8_added4_1 7 rfl) rfl ?_
                refine s_iload_n (tb_ok aX8_added4_1 8 rfl) rfl ?_
                refine s_isub (tb_ok aX8_added4_1 9 rfl) ?_
                refine s_name (fun x6 ex6 => ?_)
                refine s_istore_n (ls' := [some (.ref 66), some (.int x6), some (.int (0)), some (.int v9_)]) (tb_ok aX8_added4_1 10 rfl) rfl rfl ?_
                refine s_goto (tgt := 5) (tb_ok aX8_added4_1 11 rfl) (by decide) ?_
                refine ih _ _ _ _ _ _ _ x6 ?_ u9 (by omega) hres
                show x6 = of2 (cdS s1.tok) (f nm) _
                first | (rw [show cdS s1.tok = 30000 from if_pos h43, of2_add, ex6, hx, w9_]; done) | (rw [show cdS s1.tok = 30001 from if_neg h43, of2_sub, ex6, hx, w9_]; done)
              · exact absurd c50 (by decide)
          · have h43 : s1.tok = 43 := i64_inj.mp (hwr.symm.trans ((cmp_eq _ _).mp c31))
            refine s_iconst (v := 1) (tb_ok aX8_added4_0 16 rfl) (by decide) ?_
            refine s_goto (tgt := 39) (tb_ok aX8_added4_0 17 rfl) (by decide) ?_
            refine s_istore_n (ls' := [some (.ref 66), some (.int x), some (.int (1)), o3]) (tb_ok aX8_added4_0 19 rfl) rfl rfl ?_
            refine s_aload_n (tb_ok aX8_added4_0 20 rfl) rfl ?_
            refine s_cV (as := []) (tb_ok aX8_added4_0 21 rfl) v_RX8_190 (R_next hT h1 (by rcases hop with e_ | e_ <;> rw [e_] <;> decide) (by rcases hop with e_ | e_ <;> rw [e_] <;> decide)) (by omega) rfl rfl rfl rfl rfl (Nat.le_of_ble_eq_true rfl) (by decide) (fun r7 S7 I7 L7 R7 q7 => ?_)
            obtain ⟨rfl, rfl, rfl, u10⟩ := q7
            have a11 := (adv_wf (t := t) h1.2.1).2.2 (by rcases hop with e_ | e_ <;> rw [e_] <;> decide)
            refine s_aload_n (tb_ok aX8_added4_0 22 rfl) rfl ?_
            refine s_cV (as := []) (tb_ok aX8_added4_0 23 rfl) v_RX8_251 (hi _ _ _ u10) (by omega) rfl rfl rfl rfl rfl (Nat.le_of_ble_eq_true rfl) (by decide) (fun r8 S8 I8 L8 R8 q8 => ?_)
            obtain ⟨rfl, rfl, v12_, rfl, u12⟩ := q8
            cases e12_ : P (adv t n s1) with
            | inr g12_ =>
              rw [e12_] at u12
              have u12 : RBad I0 g12_ _ := u12
              rw [loopP, if_pos hop, e12_] at hres
              refine s_istore_n (ls' := [some (.ref 66), some (.int x), some (.int (1)), some (.int v12_)]) (tb_ok aX8_added4_1 0 rfl) rfl rfl ?_
              refine s_iload_n (tb_ok aX8_added4_1 1 rfl) rfl ?_
              refine s_if_eq (tgt := 59) (tb_ok aX8_added4_1 2 rfl) (by decide) (fun c50 => ?_) (fun c50 => ?_)
              · exact absurd c50 (by decide)
              · refine s_iload_n (tb_ok aX8_added4_1 3 rfl) rfl ?_
                refine s_iload_n (tb_ok aX8_added4_1 4 rfl) rfl ?_
                refine s_iadd (tb_ok aX8_added4_1 5 rfl) ?_
                refine s_goto (tgt := 62) (tb_ok aX8_added4_1 6 rfl) (by decide) ?_
                refine s_name (fun x7 ex7 => ?_)
                refine s_istore_n (ls' := [some (.ref 66), some (.int x7), some (.int (1)), some (.int v12_)]) (tb_ok aX8_added4_1 10 rfl) rfl rfl ?_
                refine s_goto (tgt := 5) (tb_ok aX8_added4_1 11 rfl) (by decide) ?_
                refine L_added4 hT hd _ _ _ u12 (fun v => ⟨rfl, rfl, _, rfl, ?_⟩)
                rw [← hres]
                exact u12
            | inl qq =>
              obtain ⟨c12_, f12_, s12_⟩ := qq
              rw [e12_] at u12
              obtain ⟨w12_, u12⟩ := u12
              have w12_ : v12_ = f12_ nm := w12_
              have u12 : ROk t n 4 I0 s12_ _ _ := u12
              have b12_ := Nice.two (t := t) hN u10.2.1 e12_
              rw [loopP, if_pos hop, e12_] at hres
              refine s_istore_n (ls' := [some (.ref 66), some (.int x), some (.int (1)), some (.int v12_)]) (tb_ok aX8_added4_1 0 rfl) rfl rfl ?_
              refine s_iload_n (tb_ok aX8_added4_1 1 rfl) rfl ?_
              refine s_if_eq (tgt := 59) (tb_ok aX8_added4_1 2 rfl) (by decide) (fun c50 => ?_) (fun c50 => ?_)
              · exact absurd c50 (by decide)
              · refine s_iload_n (tb_ok aX8_added4_1 3 rfl) rfl ?_
                refine s_iload_n (tb_ok aX8_added4_1 4 rfl) rfl ?_
                refine s_iadd (tb_ok aX8_added4_1 5 rfl) ?_
                refine s_goto (tgt := 62) (tb_ok aX8_added4_1 6 rfl) (by decide) ?_
                refine s_name (fun x8 ex8 => ?_)
                refine s_istore_n (ls' := [some (.ref 66), some (.int x8), some (.int (1)), some (.int v12_)]) (tb_ok aX8_added4_1 10 rfl) rfl rfl ?_
                refine s_goto (tgt := 5) (tb_ok aX8_added4_1 11 rfl) (by decide) ?_
                refine ih _ _ _ _ _ _ _ x8 ?_ u12 (by omega) hres
                show x8 = of2 (cdS s1.tok) (f nm) _
                first | (rw [show cdS s1.tok = 30000 from if_pos h43, of2_add, ex8, hx, w12_]; done) | (rw [show cdS s1.tok = 30001 from if_neg h43, of2_sub, ex8, hx, w12_]; done)
  refine ev_of (by decide +kernel) rfl ?_
  show SW X _ _ _ 0 [some (.ref 66), none, none, none] [] S0 I L (R0 q) _
  refine s_aload_n (tb_ok aX8_added4_0 0 rfl) rfl ?_
  refine s_cV (as := []) (tb_ok aX8_added4_0 1 rfl) v_RX8_251 (hi _ _ _ h) (by omega) rfl rfl rfl rfl rfl (Nat.le_of_ble_eq_true rfl) (by decide) (fun r1 S1 I1 L1 R1 q1 => ?_)
  obtain ⟨rfl, rfl, v13_, rfl, u13⟩ := q1
  cases e13_ : P s with
  | inr g13_ =>
    rw [e13_] at u13
    have u13 : RBad I0 g13_ _ := u13
    have hsq : (seqP t n opS cdS P) s = .inr g13_ := by unfold seqP; rw [e13_]
    refine s_istore_n (ls' := [some (.ref 66), some (.int v13_), none, none]) (tb_ok aX8_added4_0 2 rfl) rfl rfl ?_
    refine L_added4 hT hd _ _ _ u13 (fun v => ⟨rfl, rfl, _, rfl, ?_⟩)
    rw [hsq]
    exact u13
  | inl qq =>
    obtain ⟨c13_, f13_, s13_⟩ := qq
    rw [e13_] at u13
    obtain ⟨w13_, u13⟩ := u13
    have w13_ : v13_ = f13_ nm := w13_
    have u13 : ROk t n 4 I0 s13_ _ _ := u13
    have b13_ := Nice.two (t := t) hN h.2.1 e13_
    have hsq : (seqP t n opS cdS P) s = loopP t n opS cdS P 160 c13_ f13_ s13_ := by unfold seqP; rw [e13_]
    refine s_istore_n (ls' := [some (.ref 66), some (.int v13_), none, none]) (tb_ok aX8_added4_0 2 rfl) rfl rfl ?_
    exact loop 160 _ _ _ _ _ _ _ _ w13_ u13 (by omega) hsq.symm

set_option maxRecDepth 100000 in
set_option maxHeartbeats 1000000 in
theorem C_not4 {X : En} {q : Nat × Nat} {I0 : FI} {F n : Nat} {t nm : Nat → Int32} (hT : TxX I0 F n t nm) {d : Nat} (hd : 3 < d) {d1 d2 : Nat} (hd1 : d1 < d) (hd2 : d2 < d) {P : Pa} (hc : CtX X q t nm n I0 d1 mX8_added4 4 P) {q2 : Pa × Pa × Pa} (hi : CtX X q t nm n I0 d2 mX8_not5 5 q2.2.1) : CtX X q t nm n I0 d mX8_not4 4 (notP t n (some q2) (cmpP t n P)) := by
  intro I L s h
  obtain ⟨hF, hn, hn160, hFn, ht, ht0, hnm⟩ := id hT
  refine ev_of (by decide +kernel) rfl ?_
  show SW X _ _ _ 0 [some (.ref 66), none, none, none] [] S0 I L (R0 q) _
  refine s_aload_n (tb_ok aX8_not4_0 0 rfl) rfl ?_
  refine s_bipush (v := 110) (tb_ok aX8_not4_0 1 rfl) (by decide) ?_
  refine s_bipush (v := 111) (tb_ok aX8_not4_0 2 rfl) (by decide) ?_
  refine s_bipush (v := 116) (tb_ok aX8_not4_0 3 rfl) (by decide) ?_
  refine s_iconst (v := 0) (tb_ok aX8_not4_0 4 rfl) (by decide) ?_
  refine s_iconst (v := 0) (tb_ok aX8_not4_0 5 rfl) (by decide) ?_
  refine s_iconst (v := 0) (tb_ok aX8_not4_0 6 rfl) (by decide) ?_
  refine s_iconst (v := 0) (tb_ok aX8_not4_0 7 rfl) (by decide) ?_
  refine s_iconst (v := 0) (tb_ok aX8_not4_0 8 rfl) (by decide) ?_
  refine s_cVp (as := [.int (110), .int (111), .int (116), .int (0), .int (0), .int (0), .int (0), .int (0)]) (tb_ok aX8_not4_0 9 rfl) v_RX8_193 (R_isWord hT h 11 (by decide)) (by omega) rfl rfl rfl rfl rfl (Nat.le_of_ble_eq_true rfl) (by decide) ?_
  refine s_topi (bI_congr (isK_key (k := 11) (j := 9) (by decide) rfl)) ?_
  refine s_if_eq (tgt := 52) (tb_ok aX8_not4_0 10 rfl) (by decide) (fun c15 => ?_) (fun c15 => ?_)
  · have n9 : ¬ s.tok = 9 := bI_0.mp c15
    refine s_aload_n (tb_ok aX8_not4_1 7 rfl) rfl ?_
    refine s_cV (as := []) (tb_ok aX8_not4_1 8 rfl) v_RX8_254 (hc _ _ _ h) (by omega) rfl rfl rfl rfl rfl (Nat.le_of_ble_eq_true rfl) (by decide) (fun r1 S1 I1 L1 R1 q1 => ?_)
    obtain ⟨rfl, rfl, v1_, rfl, u1⟩ := q1
    cases e1_ : P s with
    | inr g1_ =>
      rw [e1_] at u1
      have u1 : RBad I0 g1_ _ := u1
      have hsq : (notP t n (some q2) (cmpP t n P)) s = .inr g1_ := by
        unfold notP
        rw [if_neg n9]
        unfold cmpP
        rw [e1_]
      refine s_istore_n (ls' := [some (.ref 66), some (.int v1_), none, none]) (tb_ok aX8_not4_1 9 rfl) rfl rfl ?_
      refine s_aload_n (tb_ok aX8_not4_1 10 rfl) rfl ?_
      refine s_bipush (v := 60) (tb_ok aX8_not4_1 11 rfl) (by decide) ?_
      refine s_cVp (as := [.int (60)]) (tb_ok aX8_not4_1 12 rfl) v_RX8_215 (R_isSignE (I0 := I0) u1.2.1) (by omega) rfl rfl rfl rfl rfl (Nat.le_of_ble_eq_true rfl) (by decide) ?_
      refine s_if_ne (tgt := 77) (tb_ok aX8_not4_1 13 rfl) (by decide) (fun c63 => ?_) (fun c63 => ?_)
      · exact absurd c63 (by decide)
      · refine s_aload_n (tb_ok aX8_not4_1 14 rfl) rfl ?_
        refine s_bipush (v := 61) (tb_ok aX8_not4_1 15 rfl) (by decide) ?_
        refine s_cVp (as := [.int (61)]) (tb_ok aX8_not4_1 16 rfl) v_RX8_215 (R_isSignE (I0 := I0) u1.2.1) (by omega) rfl rfl rfl rfl rfl (Nat.le_of_ble_eq_true rfl) (by decide) ?_
        refine s_if_ne (tgt := 77) (tb_ok aX8_not4_1 17 rfl) (by decide) (fun c72 => ?_) (fun c72 => ?_)
        · exact absurd c72 (by decide)
        · refine s_iload_n (tb_ok aX8_not4_1 18 rfl) rfl ?_
          refine s_iret (tb_ok aX8_not4_1 19 rfl) rfl ?_
          refine ⟨rfl, rfl, _, rfl, ?_⟩
          rw [hsq]
          exact u1
    | inl qq =>
      obtain ⟨c1_, f1_, s1_⟩ := qq
      rw [e1_] at u1
      obtain ⟨w1_, u1⟩ := u1
      have w1_ : v1_ = f1_ nm := w1_
      have u1 : ROk t n 4 I0 s1_ _ _ := u1
      refine s_istore_n (ls' := [some (.ref 66), some (.int v1_), none, none]) (tb_ok aX8_not4_1 9 rfl) rfl rfl ?_
      refine s_aload_n (tb_ok aX8_not4_1 10 rfl) rfl ?_
      refine s_bipush (v := 60) (tb_ok aX8_not4_1 11 rfl) (by decide) ?_
      refine s_cVp (as := [.int (60)]) (tb_ok aX8_not4_1 12 rfl) v_RX8_215 (R_isSign (I0 := I0) u1.2.2.1 u1.2.2.2.2.2 (by decide)) (by omega) rfl rfl rfl rfl rfl (Nat.le_of_ble_eq_true rfl) (by decide) ?_
      refine s_if_ne (tgt := 77) (tb_ok aX8_not4_1 13 rfl) (by decide) (fun c63 => ?_) (fun c63 => ?_)
      · have hop : s1_.tok = 60 ∨ s1_.tok = 61 := by first | exact Or.inl (bI_n c63) | exact Or.inr (bI_n c72)
        have hwr := u1.wrth (by rcases hop with e_ | e_ <;> rw [e_] <;> decide)
        refine s_aload_n (tb_ok aX8_not4_1 20 rfl) rfl ?_
        refine s_getL (tb_ok aX8_not4_1 21 rfl) f_RX8_167 rfl rfl rfl ?_
        refine s_ldc2 (tb_ok aX8_not4_1 22 rfl) k_RX8_237 ?_
        refine s_lcmp (tb_ok aX8_not4_1 23 rfl) ?_
        refine s_if_ne (tgt := 92) (tb_ok aX8_not4_2 0 rfl) (by decide) (fun c85 => ?_) (fun c85 => ?_)
        · have h60 : ¬ s1_.tok = 60 := fun e_ => c85 ((cmp_eq _ _).mpr (hwr.trans (by rw [e_]; rfl)))
          refine s_iconst (v := 0) (tb_ok aX8_not4_2 3 rfl) (by decide) ?_
          refine s_istore_n (ls' := [some (.ref 66), some (.int v1_), some (.int (0)), none]) (tb_ok aX8_not4_2 4 rfl) rfl rfl ?_
          refine s_aload_n (tb_ok aX8_not4_2 5 rfl) rfl ?_
          refine s_cV (as := []) (tb_ok aX8_not4_2 6 rfl) v_RX8_190 (R_next hT u1 (by rcases hop with e_ | e_ <;> rw [e_] <;> decide) (by rcases hop with e_ | e_ <;> rw [e_] <;> decide)) (by omega) rfl rfl rfl rfl rfl (Nat.le_of_ble_eq_true rfl) (by decide) (fun r2 S2 I2 L2 R2 q2 => ?_)
          obtain ⟨rfl, rfl, rfl, u2⟩ := q2
          have a3 := (adv_wf (t := t) u1.2.1).2.2 (by rcases hop with e_ | e_ <;> rw [e_] <;> decide)
          refine s_aload_n (tb_ok aX8_not4_2 7 rfl) rfl ?_
          refine s_cV (as := []) (tb_ok aX8_not4_2 8 rfl) v_RX8_254 (hc _ _ _ u2) (by omega) rfl rfl rfl rfl rfl (Nat.le_of_ble_eq_true rfl) (by decide) (fun r3 S3 I3 L3 R3 q3 => ?_)
          obtain ⟨rfl, rfl, v4_, rfl, u4⟩ := q3
          cases e4_ : P (adv t n s1_) with
          | inr g4_ =>
            rw [e4_] at u4
            have u4 : RBad I0 g4_ _ := u4
            have hsq : (notP t n (some q2) (cmpP t n P)) s = .inr g4_ := by
              unfold notP
              rw [if_neg n9]
              unfold cmpP
              rw [e1_]
              show (if s1_.tok = 60 ∨ s1_.tok = 61 then _ else _) = _
              rw [if_pos hop, e4_]
            refine s_istore_n (ls' := [some (.ref 66), some (.int v1_), some (.int (0)), some (.int v4_)]) (tb_ok aX8_not4_2 9 rfl) rfl rfl ?_
            refine s_iload_n (tb_ok aX8_not4_2 10 rfl) rfl ?_
            refine s_if_eq (tgt := 115) (tb_ok aX8_not4_2 11 rfl) (by decide) (fun c104 => ?_) (fun c104 => ?_)
            · refine s_iload_n (tb_ok aX8_not4_2 16 rfl) rfl ?_
              refine s_iload_n (tb_ok aX8_not4_2 17 rfl) rfl ?_
              refine s_icmp_ne (tgt := 124) (tb_ok aX8_not4_2 18 rfl) (by decide) (fun c117 => ?_) (fun c117 => ?_)
              · refine s_iconst (v := 0) (tb_ok aX8_not4_2 21 rfl) (by decide) ?_
                refine s_iret (tb_ok aX8_not4_2 22 rfl) rfl ?_
                refine ⟨rfl, rfl, _, rfl, ?_⟩
                rw [hsq]
                exact u4
              · refine s_iconst (v := 1) (tb_ok aX8_not4_2 19 rfl) (by decide) ?_
                refine s_goto (tgt := 125) (tb_ok aX8_not4_2 20 rfl) (by decide) ?_
                refine s_iret (tb_ok aX8_not4_2 22 rfl) rfl ?_
                refine ⟨rfl, rfl, _, rfl, ?_⟩
                rw [hsq]
                exact u4
            · exact absurd c104 (by decide)
          | inl qq =>
            obtain ⟨c4_, f4_, s4_⟩ := qq
            rw [e4_] at u4
            obtain ⟨w4_, u4⟩ := u4
            have w4_ : v4_ = f4_ nm := w4_
            have u4 : ROk t n 4 I0 s4_ _ _ := u4
            have hsq : (notP t n (some q2) (cmpP t n P)) s = .inl (c1_ ++ c4_ ++ [cdC s1_.tok], (fun nm => of2 (cdC s1_.tok) (f1_ nm) (f4_ nm)), s4_) := by
              unfold notP
              rw [if_neg n9]
              unfold cmpP
              rw [e1_]
              show (if s1_.tok = 60 ∨ s1_.tok = 61 then _ else _) = _
              rw [if_pos hop, e4_]
            refine s_istore_n (ls' := [some (.ref 66), some (.int v1_), some (.int (0)), some (.int v4_)]) (tb_ok aX8_not4_2 9 rfl) rfl rfl ?_
            refine s_iload_n (tb_ok aX8_not4_2 10 rfl) rfl ?_
            refine s_if_eq (tgt := 115) (tb_ok aX8_not4_2 11 rfl) (by decide) (fun c104 => ?_) (fun c104 => ?_)
            · refine s_iload_n (tb_ok aX8_not4_2 16 rfl) rfl ?_
              refine s_iload_n (tb_ok aX8_not4_2 17 rfl) rfl ?_
              refine s_icmp_ne (tgt := 124) (tb_ok aX8_not4_2 18 rfl) (by decide) (fun c117 => ?_) (fun c117 => ?_)
              · refine s_iconst (v := 0) (tb_ok aX8_not4_2 21 rfl) (by decide) ?_
                refine s_iret (tb_ok aX8_not4_2 22 rfl) rfl ?_
                refine ⟨rfl, rfl, _, rfl, ?_⟩
                rw [hsq]
                refine ⟨?_, u4⟩
                show ((0) : Int32) = of2 (cdC s1_.tok) (f1_ nm) _
                first | (rw [show cdC s1_.tok = 30003 from if_pos h60, of2_lt, ← w1_, ← w4_]; first | exact (bI_f (Int32.not_lt.mpr c109)).symm | exact (bI_t (Int32.not_le.mp c109)).symm) | (rw [show cdC s1_.tok = 30004 from if_neg h60, of2_eq, ← w1_, ← w4_]; first | exact (bI_t c117).symm | exact (bI_f c117).symm)
              · refine s_iconst (v := 1) (tb_ok aX8_not4_2 19 rfl) (by decide) ?_
                refine s_goto (tgt := 125) (tb_ok aX8_not4_2 20 rfl) (by decide) ?_
                refine s_iret (tb_ok aX8_not4_2 22 rfl) rfl ?_
                refine ⟨rfl, rfl, _, rfl, ?_⟩
                rw [hsq]
                refine ⟨?_, u4⟩
                show ((1) : Int32) = of2 (cdC s1_.tok) (f1_ nm) _
                first | (rw [show cdC s1_.tok = 30003 from if_pos h60, of2_lt, ← w1_, ← w4_]; first | exact (bI_f (Int32.not_lt.mpr c109)).symm | exact (bI_t (Int32.not_le.mp c109)).symm) | (rw [show cdC s1_.tok = 30004 from if_neg h60, of2_eq, ← w1_, ← w4_]; first | exact (bI_t c117).symm | exact (bI_f c117).symm)
            · exact absurd c104 (by decide)
        · have h60 : s1_.tok = 60 := i64_inj.mp (hwr.symm.trans ((cmp_eq _ _).mp c85))
          refine s_iconst (v := 1) (tb_ok aX8_not4_2 1 rfl) (by decide) ?_
          refine s_goto (tgt := 93) (tb_ok aX8_not4_2 2 rfl) (by decide) ?_
          refine s_istore_n (ls' := [some (.ref 66), some (.int v1_), some (.int (1)), none]) (tb_ok aX8_not4_2 4 rfl) rfl rfl ?_
          refine s_aload_n (tb_ok aX8_not4_2 5 rfl) rfl ?_
          refine s_cV (as := []) (tb_ok aX8_not4_2 6 rfl) v_RX8_190 (R_next hT u1 (by rcases hop with e_ | e_ <;> rw [e_] <;> decide) (by rcases hop with e_ | e_ <;> rw [e_] <;> decide)) (by omega) rfl rfl rfl rfl rfl (Nat.le_of_ble_eq_true rfl) (by decide) (fun r4 S4 I4 L4 R4 q4 => ?_)
          obtain ⟨rfl, rfl, rfl, u5⟩ := q4
          have a6 := (adv_wf (t := t) u1.2.1).2.2 (by rcases hop with e_ | e_ <;> rw [e_] <;> decide)
          refine s_aload_n (tb_ok aX8_not4_2 7 rfl) rfl ?_
          refine s_cV (as := []) (tb_ok aX8_not4_2 8 rfl) v_RX8_254 (hc _ _ _ u5) (by omega) rfl rfl rfl rfl rfl (Nat.le_of_ble_eq_true rfl) (by decide) (fun r5 S5 I5 L5 R5 q5 => ?_)
          obtain ⟨rfl, rfl, v7_, rfl, u7⟩ := q5
          cases e7_ : P (adv t n s1_) with
          | inr g7_ =>
            rw [e7_] at u7
            have u7 : RBad I0 g7_ _ := u7
            have hsq : (notP t n (some q2) (cmpP t n P)) s = .inr g7_ := by
              unfold notP
              rw [if_neg n9]
              unfold cmpP
              rw [e1_]
              show (if s1_.tok = 60 ∨ s1_.tok = 61 then _ else _) = _
              rw [if_pos hop, e7_]
            refine s_istore_n (ls' := [some (.ref 66), some (.int v1_), some (.int (1)), some (.int v7_)]) (tb_ok aX8_not4_2 9 rfl) rfl rfl ?_
            refine s_iload_n (tb_ok aX8_not4_2 10 rfl) rfl ?_
            refine s_if_eq (tgt := 115) (tb_ok aX8_not4_2 11 rfl) (by decide) (fun c104 => ?_) (fun c104 => ?_)
            · exact absurd c104 (by decide)
            · refine s_iload_n (tb_ok aX8_not4_2 12 rfl) rfl ?_
              refine s_iload_n (tb_ok aX8_not4_2 13 rfl) rfl ?_
              refine s_icmp_ge (tgt := 124) (tb_ok aX8_not4_2 14 rfl) (by decide) (fun c109 => ?_) (fun c109 => ?_)
              · refine s_iconst (v := 0) (tb_ok aX8_not4_2 21 rfl) (by decide) ?_
                refine s_iret (tb_ok aX8_not4_2 22 rfl) rfl ?_
                refine ⟨rfl, rfl, _, rfl, ?_⟩
                rw [hsq]
                exact u7
              · refine s_goto (tgt := 120) (tb_ok aX8_not4_2 15 rfl) (by decide) ?_
                refine s_iconst (v := 1) (tb_ok aX8_not4_2 19 rfl) (by decide) ?_
                refine s_goto (tgt := 125) (tb_ok aX8_not4_2 20 rfl) (by decide) ?_
                refine s_iret (tb_ok aX8_not4_2 22 rfl) rfl ?_
                refine ⟨rfl, rfl, _, rfl, ?_⟩
                rw [hsq]
                exact u7
          | inl qq =>
            obtain ⟨c7_, f7_, s7_⟩ := qq
            rw [e7_] at u7
            obtain ⟨w7_, u7⟩ := u7
            have w7_ : v7_ = f7_ nm := w7_
            have u7 : ROk t n 4 I0 s7_ _ _ := u7
            have hsq : (notP t n (some q2) (cmpP t n P)) s = .inl (c1_ ++ c7_ ++ [cdC s1_.tok], (fun nm => of2 (cdC s1_.tok) (f1_ nm) (f7_ nm)), s7_) := by
              unfold notP
              rw [if_neg n9]
              unfold cmpP
              rw [e1_]
              show (if s1_.tok = 60 ∨ s1_.tok = 61 then _ else _) = _
              rw [if_pos hop, e7_]
            refine s_istore_n (ls' := [some (.ref 66), some (.int v1_), some (.int (1)), some (.int v7_)]) (tb_ok aX8_not4_2 9 rfl) rfl rfl ?_
            refine s_iload_n (tb_ok aX8_not4_2 10 rfl) rfl ?_
            refine s_if_eq (tgt := 115) (tb_ok aX8_not4_2 11 rfl) (by decide) (fun c104 => ?_) (fun c104 => ?_)
            · exact absurd c104 (by decide)
            · refine s_iload_n (tb_ok aX8_not4_2 12 rfl) rfl ?_
              refine s_iload_n (tb_ok aX8_not4_2 13 rfl) rfl ?_
              refine s_icmp_ge (tgt := 124) (tb_ok aX8_not4_2 14 rfl) (by decide) (fun c109 => ?_) (fun c109 => ?_)
              · refine s_iconst (v := 0) (tb_ok aX8_not4_2 21 rfl) (by decide) ?_
                refine s_iret (tb_ok aX8_not4_2 22 rfl) rfl ?_
                refine ⟨rfl, rfl, _, rfl, ?_⟩
                rw [hsq]
                refine ⟨?_, u7⟩
                show ((0) : Int32) = of2 (cdC s1_.tok) (f1_ nm) _
                first | (rw [show cdC s1_.tok = 30003 from if_pos h60, of2_lt, ← w1_, ← w7_]; first | exact (bI_f (Int32.not_lt.mpr c109)).symm | exact (bI_t (Int32.not_le.mp c109)).symm) | (rw [show cdC s1_.tok = 30004 from if_neg h60, of2_eq, ← w1_, ← w7_]; first | exact (bI_t c117).symm | exact (bI_f c117).symm)
              · refine s_goto (tgt := 120) (tb_ok aX8_not4_2 15 rfl) (by decide) ?_
                refine s_iconst (v := 1) (tb_ok aX8_not4_2 19 rfl) (by decide) ?_
                refine s_goto (tgt := 125) (tb_ok aX8_not4_2 20 rfl) (by decide) ?_
                refine s_iret (tb_ok aX8_not4_2 22 rfl) rfl ?_
                refine ⟨rfl, rfl, _, rfl, ?_⟩
                rw [hsq]
                refine ⟨?_, u7⟩
                show ((1) : Int32) = of2 (cdC s1_.tok) (f1_ nm) _
                first | (rw [show cdC s1_.tok = 30003 from if_pos h60, of2_lt, ← w1_, ← w7_]; first | exact (bI_f (Int32.not_lt.mpr c109)).symm | exact (bI_t (Int32.not_le.mp c109)).symm) | (rw [show cdC s1_.tok = 30004 from if_neg h60, of2_eq, ← w1_, ← w7_]; first | exact (bI_t c117).symm | exact (bI_f c117).symm)
      · refine s_aload_n (tb_ok aX8_not4_1 14 rfl) rfl ?_
        refine s_bipush (v := 61) (tb_ok aX8_not4_1 15 rfl) (by decide) ?_
        refine s_cVp (as := [.int (61)]) (tb_ok aX8_not4_1 16 rfl) v_RX8_215 (R_isSign (I0 := I0) u1.2.2.1 u1.2.2.2.2.2 (by decide)) (by omega) rfl rfl rfl rfl rfl (Nat.le_of_ble_eq_true rfl) (by decide) ?_
        refine s_if_ne (tgt := 77) (tb_ok aX8_not4_1 17 rfl) (by decide) (fun c72 => ?_) (fun c72 => ?_)
        · have hop : s1_.tok = 60 ∨ s1_.tok = 61 := by first | exact Or.inl (bI_n c63) | exact Or.inr (bI_n c72)
          have hwr := u1.wrth (by rcases hop with e_ | e_ <;> rw [e_] <;> decide)
          refine s_aload_n (tb_ok aX8_not4_1 20 rfl) rfl ?_
          refine s_getL (tb_ok aX8_not4_1 21 rfl) f_RX8_167 rfl rfl rfl ?_
          refine s_ldc2 (tb_ok aX8_not4_1 22 rfl) k_RX8_237 ?_
          refine s_lcmp (tb_ok aX8_not4_1 23 rfl) ?_
          refine s_if_ne (tgt := 92) (tb_ok aX8_not4_2 0 rfl) (by decide) (fun c85 => ?_) (fun c85 => ?_)
          · have h60 : ¬ s1_.tok = 60 := fun e_ => c85 ((cmp_eq _ _).mpr (hwr.trans (by rw [e_]; rfl)))
            refine s_iconst (v := 0) (tb_ok aX8_not4_2 3 rfl) (by decide) ?_
            refine s_istore_n (ls' := [some (.ref 66), some (.int v1_), some (.int (0)), none]) (tb_ok aX8_not4_2 4 rfl) rfl rfl ?_
            refine s_aload_n (tb_ok aX8_not4_2 5 rfl) rfl ?_
            refine s_cV (as := []) (tb_ok aX8_not4_2 6 rfl) v_RX8_190 (R_next hT u1 (by rcases hop with e_ | e_ <;> rw [e_] <;> decide) (by rcases hop with e_ | e_ <;> rw [e_] <;> decide)) (by omega) rfl rfl rfl rfl rfl (Nat.le_of_ble_eq_true rfl) (by decide) (fun r6 S6 I6 L6 R6 q6 => ?_)
            obtain ⟨rfl, rfl, rfl, u8⟩ := q6
            have a9 := (adv_wf (t := t) u1.2.1).2.2 (by rcases hop with e_ | e_ <;> rw [e_] <;> decide)
            refine s_aload_n (tb_ok aX8_not4_2 7 rfl) rfl ?_
            refine s_cV (as := []) (tb_ok aX8_not4_2 8 rfl) v_RX8_254 (hc _ _ _ u8) (by omega) rfl rfl rfl rfl rfl (Nat.le_of_ble_eq_true rfl) (by decide) (fun r7 S7 I7 L7 R7 q7 => ?_)
            obtain ⟨rfl, rfl, v10_, rfl, u10⟩ := q7
            cases e10_ : P (adv t n s1_) with
            | inr g10_ =>
              rw [e10_] at u10
              have u10 : RBad I0 g10_ _ := u10
              have hsq : (notP t n (some q2) (cmpP t n P)) s = .inr g10_ := by
                unfold notP
                rw [if_neg n9]
                unfold cmpP
                rw [e1_]
                show (if s1_.tok = 60 ∨ s1_.tok = 61 then _ else _) = _
                rw [if_pos hop, e10_]
              refine s_istore_n (ls' := [some (.ref 66), some (.int v1_), some (.int (0)), some (.int v10_)]) (tb_ok aX8_not4_2 9 rfl) rfl rfl ?_
              refine s_iload_n (tb_ok aX8_not4_2 10 rfl) rfl ?_
              refine s_if_eq (tgt := 115) (tb_ok aX8_not4_2 11 rfl) (by decide) (fun c104 => ?_) (fun c104 => ?_)
              · refine s_iload_n (tb_ok aX8_not4_2 16 rfl) rfl ?_
                refine s_iload_n (tb_ok aX8_not4_2 17 rfl) rfl ?_
                refine s_icmp_ne (tgt := 124) (tb_ok aX8_not4_2 18 rfl) (by decide) (fun c117 => ?_) (fun c117 => ?_)
                · refine s_iconst (v := 0) (tb_ok aX8_not4_2 21 rfl) (by decide) ?_
                  refine s_iret (tb_ok aX8_not4_2 22 rfl) rfl ?_
                  refine ⟨rfl, rfl, _, rfl, ?_⟩
                  rw [hsq]
                  exact u10
                · refine s_iconst (v := 1) (tb_ok aX8_not4_2 19 rfl) (by decide) ?_
                  refine s_goto (tgt := 125) (tb_ok aX8_not4_2 20 rfl) (by decide) ?_
                  refine s_iret (tb_ok aX8_not4_2 22 rfl) rfl ?_
                  refine ⟨rfl, rfl, _, rfl, ?_⟩
                  rw [hsq]
                  exact u10
              · exact absurd c104 (by decide)
            | inl qq =>
              obtain ⟨c10_, f10_, s10_⟩ := qq
              rw [e10_] at u10
              obtain ⟨w10_, u10⟩ := u10
              have w10_ : v10_ = f10_ nm := w10_
              have u10 : ROk t n 4 I0 s10_ _ _ := u10
              have hsq : (notP t n (some q2) (cmpP t n P)) s = .inl (c1_ ++ c10_ ++ [cdC s1_.tok], (fun nm => of2 (cdC s1_.tok) (f1_ nm) (f10_ nm)), s10_) := by
                unfold notP
                rw [if_neg n9]
                unfold cmpP
                rw [e1_]
                show (if s1_.tok = 60 ∨ s1_.tok = 61 then _ else _) = _
                rw [if_pos hop, e10_]
              refine s_istore_n (ls' := [some (.ref 66), some (.int v1_), some (.int (0)), some (.int v10_)]) (tb_ok aX8_not4_2 9 rfl) rfl rfl ?_
              refine s_iload_n (tb_ok aX8_not4_2 10 rfl) rfl ?_
              refine s_if_eq (tgt := 115) (tb_ok aX8_not4_2 11 rfl) (by decide) (fun c104 => ?_) (fun c104 => ?_)
              · refine s_iload_n (tb_ok aX8_not4_2 16 rfl) rfl ?_
                refine s_iload_n (tb_ok aX8_not4_2 17 rfl) rfl ?_
                refine s_icmp_ne (tgt := 124) (tb_ok aX8_not4_2 18 rfl) (by decide) (fun c117 => ?_) (fun c117 => ?_)
                · refine s_iconst (v := 0) (tb_ok aX8_not4_2 21 rfl) (by decide) ?_
                  refine s_iret (tb_ok aX8_not4_2 22 rfl) rfl ?_
                  refine ⟨rfl, rfl, _, rfl, ?_⟩
                  rw [hsq]
                  refine ⟨?_, u10⟩
                  show ((0) : Int32) = of2 (cdC s1_.tok) (f1_ nm) _
                  first | (rw [show cdC s1_.tok = 30003 from if_pos h60, of2_lt, ← w1_, ← w10_]; first | exact (bI_f (Int32.not_lt.mpr c109)).symm | exact (bI_t (Int32.not_le.mp c109)).symm) | (rw [show cdC s1_.tok = 30004 from if_neg h60, of2_eq, ← w1_, ← w10_]; first | exact (bI_t c117).symm | exact (bI_f c117).symm)
                · refine s_iconst (v := 1) (tb_ok aX8_not4_2 19 rfl) (by decide) ?_
                  refine s_goto (tgt := 125) (tb_ok aX8_not4_2 20 rfl) (by decide) ?_
                  refine s_iret (tb_ok aX8_not4_2 22 rfl) rfl ?_
                  refine ⟨rfl, rfl, _, rfl, ?_⟩
                  rw [hsq]
                  refine ⟨?_, u10⟩
                  show ((1) : Int32) = of2 (cdC s1_.tok) (f1_ nm) _
                  first | (rw [show cdC s1_.tok = 30003 from if_pos h60, of2_lt, ← w1_, ← w10_]; first | exact (bI_f (Int32.not_lt.mpr c109)).symm | exact (bI_t (Int32.not_le.mp c109)).symm) | (rw [show cdC s1_.tok = 30004 from if_neg h60, of2_eq, ← w1_, ← w10_]; first | exact (bI_t c117).symm | exact (bI_f c117).symm)
              · exact absurd c104 (by decide)
          · have h60 : s1_.tok = 60 := i64_inj.mp (hwr.symm.trans ((cmp_eq _ _).mp c85))
            refine s_iconst (v := 1) (tb_ok aX8_not4_2 1 rfl) (by decide) ?_
            refine s_goto (tgt := 93) (tb_ok aX8_not4_2 2 rfl) (by decide) ?_
            refine s_istore_n (ls' := [some (.ref 66), some (.int v1_), some (.int (1)), none]) (tb_ok aX8_not4_2 4 rfl) rfl rfl ?_
            refine s_aload_n (tb_ok aX8_not4_2 5 rfl) rfl ?_
            refine s_cV (as := []) (tb_ok aX8_not4_2 6 rfl) v_RX8_190 (R_next hT u1 (by rcases hop with e_ | e_ <;> rw [e_] <;> decide) (by rcases hop with e_ | e_ <;> rw [e_] <;> decide)) (by omega) rfl rfl rfl rfl rfl (Nat.le_of_ble_eq_true rfl) (by decide) (fun r8 S8 I8 L8 R8 q8 => ?_)
            obtain ⟨rfl, rfl, rfl, u11⟩ := q8
            have a12 := (adv_wf (t := t) u1.2.1).2.2 (by rcases hop with e_ | e_ <;> rw [e_] <;> decide)
            refine s_aload_n (tb_ok aX8_not4_2 7 rfl) rfl ?_
            refine s_cV (as := []) (tb_ok aX8_not4_2 8 rfl) v_RX8_254 (hc _ _ _ u11) (by omega) rfl rfl rfl rfl rfl (Nat.le_of_ble_eq_true rfl) (by decide) (fun r9 S9 I9 L9 R9 q9 => ?_)
            obtain ⟨rfl, rfl, v13_, rfl, u13⟩ := q9
            cases e13_ : P (adv t n s1_) with
            | inr g13_ =>
              rw [e13_] at u13
              have u13 : RBad I0 g13_ _ := u13
              have hsq : (notP t n (some q2) (cmpP t n P)) s = .inr g13_ := by
                unfold notP
                rw [if_neg n9]
                unfold cmpP
                rw [e1_]
                show (if s1_.tok = 60 ∨ s1_.tok = 61 then _ else _) = _
                rw [if_pos hop, e13_]
              refine s_istore_n (ls' := [some (.ref 66), some (.int v1_), some (.int (1)), some (.int v13_)]) (tb_ok aX8_not4_2 9 rfl) rfl rfl ?_
              refine s_iload_n (tb_ok aX8_not4_2 10 rfl) rfl ?_
              refine s_if_eq (tgt := 115) (tb_ok aX8_not4_2 11 rfl) (by decide) (fun c104 => ?_) (fun c104 => ?_)
              · exact absurd c104 (by decide)
              · refine s_iload_n (tb_ok aX8_not4_2 12 rfl) rfl ?_
                refine s_iload_n (tb_ok aX8_not4_2 13 rfl) rfl ?_
                refine s_icmp_ge (tgt := 124) (tb_ok aX8_not4_2 14 rfl) (by decide) (fun c109 => ?_) (fun c109 => ?_)
                · refine s_iconst (v := 0) (tb_ok aX8_not4_2 21 rfl) (by decide) ?_
                  refine s_iret (tb_ok aX8_not4_2 22 rfl) rfl ?_
                  refine ⟨rfl, rfl, _, rfl, ?_⟩
                  rw [hsq]
                  exact u13
                · refine s_goto (tgt := 120) (tb_ok aX8_not4_2 15 rfl) (by decide) ?_
                  refine s_iconst (v := 1) (tb_ok aX8_not4_2 19 rfl) (by decide) ?_
                  refine s_goto (tgt := 125) (tb_ok aX8_not4_2 20 rfl) (by decide) ?_
                  refine s_iret (tb_ok aX8_not4_2 22 rfl) rfl ?_
                  refine ⟨rfl, rfl, _, rfl, ?_⟩
                  rw [hsq]
                  exact u13
            | inl qq =>
              obtain ⟨c13_, f13_, s13_⟩ := qq
              rw [e13_] at u13
              obtain ⟨w13_, u13⟩ := u13
              have w13_ : v13_ = f13_ nm := w13_
              have u13 : ROk t n 4 I0 s13_ _ _ := u13
              have hsq : (notP t n (some q2) (cmpP t n P)) s = .inl (c1_ ++ c13_ ++ [cdC s1_.tok], (fun nm => of2 (cdC s1_.tok) (f1_ nm) (f13_ nm)), s13_) := by
                unfold notP
                rw [if_neg n9]
                unfold cmpP
                rw [e1_]
                show (if s1_.tok = 60 ∨ s1_.tok = 61 then _ else _) = _
                rw [if_pos hop, e13_]
              refine s_istore_n (ls' := [some (.ref 66), some (.int v1_), some (.int (1)), some (.int v13_)]) (tb_ok aX8_not4_2 9 rfl) rfl rfl ?_
              refine s_iload_n (tb_ok aX8_not4_2 10 rfl) rfl ?_
              refine s_if_eq (tgt := 115) (tb_ok aX8_not4_2 11 rfl) (by decide) (fun c104 => ?_) (fun c104 => ?_)
              · exact absurd c104 (by decide)
              · refine s_iload_n (tb_ok aX8_not4_2 12 rfl) rfl ?_
                refine s_iload_n (tb_ok aX8_not4_2 13 rfl) rfl ?_
                refine s_icmp_ge (tgt := 124) (tb_ok aX8_not4_2 14 rfl) (by decide) (fun c109 => ?_) (fun c109 => ?_)
                · refine s_iconst (v := 0) (tb_ok aX8_not4_2 21 rfl) (by decide) ?_
                  refine s_iret (tb_ok aX8_not4_2 22 rfl) rfl ?_
                  refine ⟨rfl, rfl, _, rfl, ?_⟩
                  rw [hsq]
                  refine ⟨?_, u13⟩
                  show ((0) : Int32) = of2 (cdC s1_.tok) (f1_ nm) _
                  first | (rw [show cdC s1_.tok = 30003 from if_pos h60, of2_lt, ← w1_, ← w13_]; first | exact (bI_f (Int32.not_lt.mpr c109)).symm | exact (bI_t (Int32.not_le.mp c109)).symm) | (rw [show cdC s1_.tok = 30004 from if_neg h60, of2_eq, ← w1_, ← w13_]; first | exact (bI_t c117).symm | exact (bI_f c117).symm)
                · refine s_goto (tgt := 120) (tb_ok aX8_not4_2 15 rfl) (by decide) ?_
                  refine s_iconst (v := 1) (tb_ok aX8_not4_2 19 rfl) (by decide) ?_
                  refine s_goto (tgt := 125) (tb_ok aX8_not4_2 20 rfl) (by decide) ?_
                  refine s_iret (tb_ok aX8_not4_2 22 rfl) rfl ?_
                  refine ⟨rfl, rfl, _, rfl, ?_⟩
                  rw [hsq]
                  refine ⟨?_, u13⟩
                  show ((1) : Int32) = of2 (cdC s1_.tok) (f1_ nm) _
                  first | (rw [show cdC s1_.tok = 30003 from if_pos h60, of2_lt, ← w1_, ← w13_]; first | exact (bI_f (Int32.not_lt.mpr c109)).symm | exact (bI_t (Int32.not_le.mp c109)).symm) | (rw [show cdC s1_.tok = 30004 from if_neg h60, of2_eq, ← w1_, ← w13_]; first | exact (bI_t c117).symm | exact (bI_f c117).symm)
        · refine s_iload_n (tb_ok aX8_not4_1 18 rfl) rfl ?_
          refine s_iret (tb_ok aX8_not4_1 19 rfl) rfl ?_
          have hsq : (notP t n (some q2) (cmpP t n P)) s = .inl (c1_, f1_, s1_) := by
            unfold notP
            rw [if_neg n9]
            unfold cmpP
            rw [e1_]
            show (if s1_.tok = 60 ∨ s1_.tok = 61 then _ else _) = _
            rw [if_neg (fun h_ => h_.elim (bI_0.mp c63) (bI_0.mp c72))]
          refine ⟨rfl, rfl, _, rfl, ?_⟩
          rw [hsq]
          refine ⟨?_, u1⟩
          exact w1_
  · have hop9 : s.tok = 9 := bI_n c15
    refine s_aload_n (tb_ok aX8_not4_0 11 rfl) rfl ?_
    refine s_cV (as := []) (tb_ok aX8_not4_0 12 rfl) v_RX8_218 (R_opens hT h (by rw [hop9]; decide) (by rw [hop9]; decide) (by decide)) (by omega) rfl rfl rfl rfl rfl (Nat.le_of_ble_eq_true rfl) (by decide) (fun r10 S10 I10 L10 R10 q10 => ?_)
    obtain ⟨rfl, rfl, rfl, u14⟩ := q10
    have a15 := (adv_wf (t := t) h.2.1).2.2 (by rw [hop9]; decide)
    refine s_if_ne (tgt := 27) (tb_ok aX8_not4_0 13 rfl) (by decide) (fun c22 => ?_) (fun c22 => ?_)
    · refine s_aload_n (tb_ok aX8_not4_0 16 rfl) rfl ?_
      refine s_cV (as := []) (tb_ok aX8_not4_0 17 rfl) v_RX8_239 (hi _ _ _ u14) (by omega) rfl rfl rfl rfl rfl (Nat.le_of_ble_eq_true rfl) (by decide) (fun r11 S11 I11 L11 R11 q11 => ?_)
      obtain ⟨rfl, rfl, v16_, rfl, u16⟩ := q11
      cases e16_ : q2.2.1 (adv t n s) with
      | inr g16_ =>
        rw [e16_] at u16
        have u16 : RBad I0 g16_ _ := u16
        have hsq : (notP t n (some q2) (cmpP t n P)) s = .inr g16_ := by unfold notP; rw [if_pos hop9]; simp only [e16_]
        refine s_istore_n (ls' := [some (.ref 66), some (.int v16_), none, none]) (tb_ok aX8_not4_0 18 rfl) rfl rfl ?_
        refine s_aload_n (tb_ok aX8_not4_0 19 rfl) rfl ?_
        refine s_dup (tb_ok aX8_not4_0 20 rfl) rfl ?_
        refine s_getI (tb_ok aX8_not4_0 21 rfl) f_RX8_184 rfl rfl rfl ?_
        refine s_iconst (v := 1) (tb_ok aX8_not4_0 22 rfl) (by decide) ?_
        refine s_isub (tb_ok aX8_not4_0 23 rfl) ?_
        refine s_putI (tb_ok aX8_not4_1 0 rfl) f_RX8_184 rfl rfl ?_
        refine s_iload_n (tb_ok aX8_not4_1 1 rfl) rfl ?_
        refine s_if_ne (tgt := 50) (tb_ok aX8_not4_1 2 rfl) (by decide) (fun c43 => ?_) (fun c43 => ?_)
        · refine s_iconst (v := 0) (tb_ok aX8_not4_1 5 rfl) (by decide) ?_
          refine s_iret (tb_ok aX8_not4_1 6 rfl) rfl ?_
          refine ⟨rfl, rfl, _, rfl, ?_⟩
          rw [hsq]
          exact (u16.put26 _)
        · refine s_iconst (v := 1) (tb_ok aX8_not4_1 3 rfl) (by decide) ?_
          refine s_goto (tgt := 51) (tb_ok aX8_not4_1 4 rfl) (by decide) ?_
          refine s_iret (tb_ok aX8_not4_1 6 rfl) rfl ?_
          refine ⟨rfl, rfl, _, rfl, ?_⟩
          rw [hsq]
          exact (u16.put26 _)
      | inl qq =>
        obtain ⟨c16_, f16_, s16_⟩ := qq
        rw [e16_] at u16
        obtain ⟨w16_, u16⟩ := u16
        have w16_ : v16_ = f16_ nm := w16_
        have u16 : ROk t n 5 I0 s16_ _ _ := u16
        have hsq : (notP t n (some q2) (cmpP t n P)) s = .inl (c16_ ++ [20001], (fun nm => of1 20001 (f16_ nm)), s16_) := by unfold notP; rw [if_pos hop9]; simp only [e16_]
        refine s_istore_n (ls' := [some (.ref 66), some (.int v16_), none, none]) (tb_ok aX8_not4_0 18 rfl) rfl rfl ?_
        refine s_aload_n (tb_ok aX8_not4_0 19 rfl) rfl ?_
        refine s_dup (tb_ok aX8_not4_0 20 rfl) rfl ?_
        refine s_getI (x := (nI 5)) (tb_ok aX8_not4_0 21 rfl) f_RX8_184 rfl rfl u16.2.2.2.1 ?_
        refine s_iconst (v := 1) (tb_ok aX8_not4_0 22 rfl) (by decide) ?_
        refine s_isub (tb_ok aX8_not4_0 23 rfl) ?_
        refine s_topi (z := (nI 4)) (by decide) ?_
        refine s_putI (tb_ok aX8_not4_1 0 rfl) f_RX8_184 rfl rfl ?_
        have u18 := u16.put26 4
        refine s_iload_n (tb_ok aX8_not4_1 1 rfl) rfl ?_
        refine s_if_ne (tgt := 50) (tb_ok aX8_not4_1 2 rfl) (by decide) (fun c43 => ?_) (fun c43 => ?_)
        · refine s_iconst (v := 0) (tb_ok aX8_not4_1 5 rfl) (by decide) ?_
          refine s_iret (tb_ok aX8_not4_1 6 rfl) rfl ?_
          refine ⟨rfl, rfl, _, rfl, ?_⟩
          rw [hsq]
          refine ⟨?_, u18⟩
          show ((0) : Int32) = of1 20001 _
          rw [of1_not, ← w16_]
          first | exact (bI_t c43).symm | exact (bI_f c43).symm
        · refine s_iconst (v := 1) (tb_ok aX8_not4_1 3 rfl) (by decide) ?_
          refine s_goto (tgt := 51) (tb_ok aX8_not4_1 4 rfl) (by decide) ?_
          refine s_iret (tb_ok aX8_not4_1 6 rfl) rfl ?_
          refine ⟨rfl, rfl, _, rfl, ?_⟩
          rw [hsq]
          refine ⟨?_, u18⟩
          show ((1) : Int32) = of1 20001 _
          rw [of1_not, ← w16_]
          first | exact (bI_t c43).symm | exact (bI_f c43).symm
    · exact absurd c22 (by decide)

set_option maxRecDepth 100000 in
set_option maxHeartbeats 1000000 in
theorem L_both4 {X : En} {q : Nat × Nat} {I0 : FI} {F n : Nat} {t nm : Nat → Int32} (hT : TxX I0 F n t nm) {d f : Nat} (hd : 2 < d) {Q : Pst} {I : FI} {L : FL} (x : Int32) (o2 : Option Value) (h : RBad I0 f I) (hQ : ∀ v, Q (some (.int v)) S0 I L (R0 q)) : SW X (d + 1) mX8_both4 (0, 0) 5 [some (.ref 66), some (.int x), o2] [] S0 I L (R0 q) (KQ X Q) := by
  refine s_aload_n (tb_ok aX8_both4_0 3 rfl) rfl ?_
  refine s_bipush (v := 97) (tb_ok aX8_both4_0 4 rfl) (by decide) ?_
  refine s_bipush (v := 110) (tb_ok aX8_both4_0 5 rfl) (by decide) ?_
  refine s_bipush (v := 100) (tb_ok aX8_both4_0 6 rfl) (by decide) ?_
  refine s_iconst (v := 0) (tb_ok aX8_both4_0 7 rfl) (by decide) ?_
  refine s_iconst (v := 0) (tb_ok aX8_both4_0 8 rfl) (by decide) ?_
  refine s_iconst (v := 0) (tb_ok aX8_both4_0 9 rfl) (by decide) ?_
  refine s_iconst (v := 0) (tb_ok aX8_both4_0 10 rfl) (by decide) ?_
  refine s_iconst (v := 0) (tb_ok aX8_both4_0 11 rfl) (by decide) ?_
  refine s_cVp (as := [.int (97), .int (110), .int (100), .int (0), .int (0), .int (0), .int (0), .int (0)]) (tb_ok aX8_both4_0 12 rfl) v_RX8_193 (R_isWordE (I0 := I0) h.2.1) (by omega) rfl rfl rfl rfl rfl (Nat.le_of_ble_eq_true rfl) (by decide) ?_
  refine s_if_eq (tgt := 49) (tb_ok aX8_both4_0 13 rfl) (by decide) (fun c20 => ?_) (fun c20 => ?_)
  · refine s_iload_n (tb_ok aX8_both4_1 4 rfl) rfl ?_
    refine s_iret (tb_ok aX8_both4_1 5 rfl) rfl ?_
    exact hQ _
  · exact absurd c20 (by decide)

set_option maxRecDepth 100000 in
set_option maxHeartbeats 1000000 in
theorem C_both4 {X : En} {q : Nat × Nat} {I0 : FI} {F n : Nat} {t nm : Nat → Int32} (hT : TxX I0 F n t nm) {d dp : Nat} (hd : 2 < d) {P : Pa} (hN : Nice n dp P) (hi : CtX X q t nm n I0 d mX8_not4 4 P) : CtX X q t nm n I0 (d + 1) mX8_both4 4 (seqP t n opB cdB P) := by
  intro I L s h
  obtain ⟨hF, hn, hn160, hFn, ht, ht0, hnm⟩ := id hT
  have loop : ∀ k, ∀ (o2 : Option Value) (I : FI) (L : FL) (c : List Int32) (f : Sem) (s1 : St) (x : Int32), x = f nm → ROk t n 4 I0 s1 I L → 160 < s1.pl + k → loopP t n opB cdB P k c f s1 = (seqP t n opB cdB P) s → SW X (d + 1) mX8_both4 (0, 0) 5 [some (.ref 66), some (.int x), o2] [] S0 I L (R0 q) (KQ X (AfP q t nm n 4 I0 ((seqP t n opB cdB P) s))) := by
    intro k
    induction k with
    | zero =>
      intro o2 I L c f s1 x hx h1 hk hres
      have := h1.pln
      omega
    | succ k ih =>
      intro o2 I L c f s1 x hx h1 hk hres
      refine s_aload_n (tb_ok aX8_both4_0 3 rfl) rfl ?_
      refine s_bipush (v := 97) (tb_ok aX8_both4_0 4 rfl) (by decide) ?_
      refine s_bipush (v := 110) (tb_ok aX8_both4_0 5 rfl) (by decide) ?_
      refine s_bipush (v := 100) (tb_ok aX8_both4_0 6 rfl) (by decide) ?_
      refine s_iconst (v := 0) (tb_ok aX8_both4_0 7 rfl) (by decide) ?_
      refine s_iconst (v := 0) (tb_ok aX8_both4_0 8 rfl) (by decide) ?_
      refine s_iconst (v := 0) (tb_ok aX8_both4_0 9 rfl) (by decide) ?_
      refine s_iconst (v := 0) (tb_ok aX8_both4_0 10 rfl) (by decide) ?_
      refine s_iconst (v := 0) (tb_ok aX8_both4_0 11 rfl) (by decide) ?_
      refine s_cVp (as := [.int (97), .int (110), .int (100), .int (0), .int (0), .int (0), .int (0), .int (0)]) (tb_ok aX8_both4_0 12 rfl) v_RX8_193 (R_isWord hT h1 10 (by decide)) (by omega) rfl rfl rfl rfl rfl (Nat.le_of_ble_eq_true rfl) (by decide) ?_
      refine s_topi (bI_congr (isK_key (k := 10) (j := 8) (by decide) rfl)) ?_
      refine s_if_eq (tgt := 49) (tb_ok aX8_both4_0 13 rfl) (by decide) (fun c20 => ?_) (fun c20 => ?_)
      · refine s_iload_n (tb_ok aX8_both4_1 4 rfl) rfl ?_
        refine s_iret (tb_ok aX8_both4_1 5 rfl) rfl ?_
        refine ⟨rfl, rfl, _, rfl, ?_⟩
        rw [← hres, loopP, if_neg (bI_0.mp c20)]
        exact ⟨hx, h1⟩
      · have hop : opB s1.tok := bI_n c20
        refine s_aload_n (tb_ok aX8_both4_0 14 rfl) rfl ?_
        refine s_cV (as := []) (tb_ok aX8_both4_0 15 rfl) v_RX8_190 (R_next hT h1 (by rw [hop]; decide) (by rw [hop]; decide)) (by omega) rfl rfl rfl rfl rfl (Nat.le_of_ble_eq_true rfl) (by decide) (fun r1 S1 I1 L1 R1 q1 => ?_)
        obtain ⟨rfl, rfl, rfl, u1⟩ := q1
        have a2 := (adv_wf (t := t) h1.2.1).2.2 (by rw [hop]; decide)
        refine s_aload_n (tb_ok aX8_both4_0 16 rfl) rfl ?_
        refine s_cV (as := []) (tb_ok aX8_both4_0 17 rfl) v_RX8_257 (hi _ _ _ u1) (by omega) rfl rfl rfl rfl rfl (Nat.le_of_ble_eq_true rfl) (by decide) (fun r2 S2 I2 L2 R2 q2 => ?_)
        obtain ⟨rfl, rfl, v3_, rfl, u3⟩ := q2
        cases e3_ : P (adv t n s1) with
        | inr g3_ =>
          rw [e3_] at u3
          have u3 : RBad I0 g3_ _ := u3
          rw [loopP, if_pos hop, e3_] at hres
          refine s_istore_n (ls' := [some (.ref 66), some (.int x), some (.int v3_)]) (tb_ok aX8_both4_0 18 rfl) rfl rfl ?_
          refine s_iload_n (tb_ok aX8_both4_0 19 rfl) rfl ?_
          refine s_if_eq (tgt := 44) (tb_ok aX8_both4_0 20 rfl) (by decide) (fun c33 => ?_) (fun c33 => ?_)
          · refine s_iconst (v := 0) (tb_ok aX8_both4_1 1 rfl) (by decide) ?_
            refine s_istore_n (ls' := [some (.ref 66), some (.int (0)), some (.int v3_)]) (tb_ok aX8_both4_1 2 rfl) rfl rfl ?_
            refine s_goto (tgt := 5) (tb_ok aX8_both4_1 3 rfl) (by decide) ?_
            refine L_both4 hT hd _ _ u3 (fun v => ⟨rfl, rfl, _, rfl, ?_⟩)
            rw [← hres]
            exact u3
          · refine s_iload_n (tb_ok aX8_both4_0 21 rfl) rfl ?_
            refine s_if_eq (tgt := 44) (tb_ok aX8_both4_0 22 rfl) (by decide) (fun c37 => ?_) (fun c37 => ?_)
            · refine s_iconst (v := 0) (tb_ok aX8_both4_1 1 rfl) (by decide) ?_
              refine s_istore_n (ls' := [some (.ref 66), some (.int (0)), some (.int v3_)]) (tb_ok aX8_both4_1 2 rfl) rfl rfl ?_
              refine s_goto (tgt := 5) (tb_ok aX8_both4_1 3 rfl) (by decide) ?_
              refine L_both4 hT hd _ _ u3 (fun v => ⟨rfl, rfl, _, rfl, ?_⟩)
              rw [← hres]
              exact u3
            · refine s_iconst (v := 1) (tb_ok aX8_both4_0 23 rfl) (by decide) ?_
              refine s_goto (tgt := 45) (tb_ok aX8_both4_1 0 rfl) (by decide) ?_
              refine s_istore_n (ls' := [some (.ref 66), some (.int (1)), some (.int v3_)]) (tb_ok aX8_both4_1 2 rfl) rfl rfl ?_
              refine s_goto (tgt := 5) (tb_ok aX8_both4_1 3 rfl) (by decide) ?_
              refine L_both4 hT hd _ _ u3 (fun v => ⟨rfl, rfl, _, rfl, ?_⟩)
              rw [← hres]
              exact u3
        | inl qq =>
          obtain ⟨c3_, f3_, s3_⟩ := qq
          rw [e3_] at u3
          obtain ⟨w3_, u3⟩ := u3
          have w3_ : v3_ = f3_ nm := w3_
          have u3 : ROk t n 4 I0 s3_ _ _ := u3
          have b3_ := Nice.two (t := t) hN u1.2.1 e3_
          rw [loopP, if_pos hop, e3_] at hres
          refine s_istore_n (ls' := [some (.ref 66), some (.int x), some (.int v3_)]) (tb_ok aX8_both4_0 18 rfl) rfl rfl ?_
          refine s_iload_n (tb_ok aX8_both4_0 19 rfl) rfl ?_
          refine s_if_eq (tgt := 44) (tb_ok aX8_both4_0 20 rfl) (by decide) (fun c33 => ?_) (fun c33 => ?_)
          · refine s_iconst (v := 0) (tb_ok aX8_both4_1 1 rfl) (by decide) ?_
            refine s_istore_n (ls' := [some (.ref 66), some (.int (0)), some (.int v3_)]) (tb_ok aX8_both4_1 2 rfl) rfl rfl ?_
            refine s_goto (tgt := 5) (tb_ok aX8_both4_1 3 rfl) (by decide) ?_
            refine ih _ _ _ _ _ _ (0) ?_ u3 (by omega) hres
            show ((0) : Int32) = of2 30005 (f nm) _
            rw [of2_and, ← hx, ← w3_]
            exact (bI_f (fun h_ => by first | exact h_.1 c33 | exact h_.2 c37)).symm
          · refine s_iload_n (tb_ok aX8_both4_0 21 rfl) rfl ?_
            refine s_if_eq (tgt := 44) (tb_ok aX8_both4_0 22 rfl) (by decide) (fun c37 => ?_) (fun c37 => ?_)
            · refine s_iconst (v := 0) (tb_ok aX8_both4_1 1 rfl) (by decide) ?_
              refine s_istore_n (ls' := [some (.ref 66), some (.int (0)), some (.int v3_)]) (tb_ok aX8_both4_1 2 rfl) rfl rfl ?_
              refine s_goto (tgt := 5) (tb_ok aX8_both4_1 3 rfl) (by decide) ?_
              refine ih _ _ _ _ _ _ (0) ?_ u3 (by omega) hres
              show ((0) : Int32) = of2 30005 (f nm) _
              rw [of2_and, ← hx, ← w3_]
              exact (bI_f (fun h_ => by first | exact h_.1 c33 | exact h_.2 c37)).symm
            · refine s_iconst (v := 1) (tb_ok aX8_both4_0 23 rfl) (by decide) ?_
              refine s_goto (tgt := 45) (tb_ok aX8_both4_1 0 rfl) (by decide) ?_
              refine s_istore_n (ls' := [some (.ref 66), some (.int (1)), some (.int v3_)]) (tb_ok aX8_both4_1 2 rfl) rfl rfl ?_
              refine s_goto (tgt := 5) (tb_ok aX8_both4_1 3 rfl) (by decide) ?_
              refine ih _ _ _ _ _ _ (1) ?_ u3 (by omega) hres
              show ((1) : Int32) = of2 30005 (f nm) _
              rw [of2_and, ← hx, ← w3_]
              exact (bI_t ⟨c33, c37⟩).symm
  refine ev_of (by decide +kernel) rfl ?_
  show SW X _ _ _ 0 [some (.ref 66), none, none] [] S0 I L (R0 q) _
  refine s_aload_n (tb_ok aX8_both4_0 0 rfl) rfl ?_
  refine s_cV (as := []) (tb_ok aX8_both4_0 1 rfl) v_RX8_257 (hi _ _ _ h) (by omega) rfl rfl rfl rfl rfl (Nat.le_of_ble_eq_true rfl) (by decide) (fun r1 S1 I1 L1 R1 q1 => ?_)
  obtain ⟨rfl, rfl, v4_, rfl, u4⟩ := q1
  cases e4_ : P s with
  | inr g4_ =>
    rw [e4_] at u4
    have u4 : RBad I0 g4_ _ := u4
    have hsq : (seqP t n opB cdB P) s = .inr g4_ := by unfold seqP; rw [e4_]
    refine s_istore_n (ls' := [some (.ref 66), some (.int v4_), none]) (tb_ok aX8_both4_0 2 rfl) rfl rfl ?_
    refine L_both4 hT hd _ _ u4 (fun v => ⟨rfl, rfl, _, rfl, ?_⟩)
    rw [hsq]
    exact u4
  | inl qq =>
    obtain ⟨c4_, f4_, s4_⟩ := qq
    rw [e4_] at u4
    obtain ⟨w4_, u4⟩ := u4
    have w4_ : v4_ = f4_ nm := w4_
    have u4 : ROk t n 4 I0 s4_ _ _ := u4
    have b4_ := Nice.two (t := t) hN h.2.1 e4_
    have hsq : (seqP t n opB cdB P) s = loopP t n opB cdB P 160 c4_ f4_ s4_ := by unfold seqP; rw [e4_]
    refine s_istore_n (ls' := [some (.ref 66), some (.int v4_), none]) (tb_ok aX8_both4_0 2 rfl) rfl rfl ?_
    exact loop 160 _ _ _ _ _ _ _ w4_ u4 (by omega) hsq.symm

set_option maxRecDepth 100000 in
set_option maxHeartbeats 1000000 in
theorem L_either4 {X : En} {q : Nat × Nat} {I0 : FI} {F n : Nat} {t nm : Nat → Int32} (hT : TxX I0 F n t nm) {d f : Nat} (hd : 2 < d) {Q : Pst} {I : FI} {L : FL} (x : Int32) (o2 : Option Value) (h : RBad I0 f I) (hQ : ∀ v, Q (some (.int v)) S0 I L (R0 q)) : SW X (d + 1) mX8_either4 (0, 0) 5 [some (.ref 66), some (.int x), o2] [] S0 I L (R0 q) (KQ X Q) := by
  refine s_aload_n (tb_ok aX8_either4_0 3 rfl) rfl ?_
  refine s_bipush (v := 111) (tb_ok aX8_either4_0 4 rfl) (by decide) ?_
  refine s_bipush (v := 114) (tb_ok aX8_either4_0 5 rfl) (by decide) ?_
  refine s_iconst (v := 0) (tb_ok aX8_either4_0 6 rfl) (by decide) ?_
  refine s_iconst (v := 0) (tb_ok aX8_either4_0 7 rfl) (by decide) ?_
  refine s_iconst (v := 0) (tb_ok aX8_either4_0 8 rfl) (by decide) ?_
  refine s_iconst (v := 0) (tb_ok aX8_either4_0 9 rfl) (by decide) ?_
  refine s_iconst (v := 0) (tb_ok aX8_either4_0 10 rfl) (by decide) ?_
  refine s_iconst (v := 0) (tb_ok aX8_either4_0 11 rfl) (by decide) ?_
  refine s_cVp (as := [.int (111), .int (114), .int (0), .int (0), .int (0), .int (0), .int (0), .int (0)]) (tb_ok aX8_either4_0 12 rfl) v_RX8_193 (R_isWordE (I0 := I0) h.2.1) (by omega) rfl rfl rfl rfl rfl (Nat.le_of_ble_eq_true rfl) (by decide) ?_
  refine s_if_eq (tgt := 48) (tb_ok aX8_either4_0 13 rfl) (by decide) (fun c19 => ?_) (fun c19 => ?_)
  · refine s_iload_n (tb_ok aX8_either4_1 4 rfl) rfl ?_
    refine s_iret (tb_ok aX8_either4_1 5 rfl) rfl ?_
    exact hQ _
  · exact absurd c19 (by decide)

set_option maxRecDepth 100000 in
set_option maxHeartbeats 1000000 in
theorem C_either4 {X : En} {q : Nat × Nat} {I0 : FI} {F n : Nat} {t nm : Nat → Int32} (hT : TxX I0 F n t nm) {d dp : Nat} (hd : 2 < d) {P : Pa} (hN : Nice n dp P) (hi : CtX X q t nm n I0 d mX8_both4 4 P) : CtX X q t nm n I0 (d + 1) mX8_either4 4 (seqP t n opE cdE P) := by
  intro I L s h
  obtain ⟨hF, hn, hn160, hFn, ht, ht0, hnm⟩ := id hT
  have loop : ∀ k, ∀ (o2 : Option Value) (I : FI) (L : FL) (c : List Int32) (f : Sem) (s1 : St) (x : Int32), x = f nm → ROk t n 4 I0 s1 I L → 160 < s1.pl + k → loopP t n opE cdE P k c f s1 = (seqP t n opE cdE P) s → SW X (d + 1) mX8_either4 (0, 0) 5 [some (.ref 66), some (.int x), o2] [] S0 I L (R0 q) (KQ X (AfP q t nm n 4 I0 ((seqP t n opE cdE P) s))) := by
    intro k
    induction k with
    | zero =>
      intro o2 I L c f s1 x hx h1 hk hres
      have := h1.pln
      omega
    | succ k ih =>
      intro o2 I L c f s1 x hx h1 hk hres
      refine s_aload_n (tb_ok aX8_either4_0 3 rfl) rfl ?_
      refine s_bipush (v := 111) (tb_ok aX8_either4_0 4 rfl) (by decide) ?_
      refine s_bipush (v := 114) (tb_ok aX8_either4_0 5 rfl) (by decide) ?_
      refine s_iconst (v := 0) (tb_ok aX8_either4_0 6 rfl) (by decide) ?_
      refine s_iconst (v := 0) (tb_ok aX8_either4_0 7 rfl) (by decide) ?_
      refine s_iconst (v := 0) (tb_ok aX8_either4_0 8 rfl) (by decide) ?_
      refine s_iconst (v := 0) (tb_ok aX8_either4_0 9 rfl) (by decide) ?_
      refine s_iconst (v := 0) (tb_ok aX8_either4_0 10 rfl) (by decide) ?_
      refine s_iconst (v := 0) (tb_ok aX8_either4_0 11 rfl) (by decide) ?_
      refine s_cVp (as := [.int (111), .int (114), .int (0), .int (0), .int (0), .int (0), .int (0), .int (0)]) (tb_ok aX8_either4_0 12 rfl) v_RX8_193 (R_isWord hT h1 9 (by decide)) (by omega) rfl rfl rfl rfl rfl (Nat.le_of_ble_eq_true rfl) (by decide) ?_
      refine s_topi (bI_congr (isK_key (k := 9) (j := 7) (by decide) rfl)) ?_
      refine s_if_eq (tgt := 48) (tb_ok aX8_either4_0 13 rfl) (by decide) (fun c19 => ?_) (fun c19 => ?_)
      · refine s_iload_n (tb_ok aX8_either4_1 4 rfl) rfl ?_
        refine s_iret (tb_ok aX8_either4_1 5 rfl) rfl ?_
        refine ⟨rfl, rfl, _, rfl, ?_⟩
        rw [← hres, loopP, if_neg (bI_0.mp c19)]
        exact ⟨hx, h1⟩
      · have hop : opE s1.tok := bI_n c19
        refine s_aload_n (tb_ok aX8_either4_0 14 rfl) rfl ?_
        refine s_cV (as := []) (tb_ok aX8_either4_0 15 rfl) v_RX8_190 (R_next hT h1 (by rw [hop]; decide) (by rw [hop]; decide)) (by omega) rfl rfl rfl rfl rfl (Nat.le_of_ble_eq_true rfl) (by decide) (fun r1 S1 I1 L1 R1 q1 => ?_)
        obtain ⟨rfl, rfl, rfl, u1⟩ := q1
        have a2 := (adv_wf (t := t) h1.2.1).2.2 (by rw [hop]; decide)
        refine s_aload_n (tb_ok aX8_either4_0 16 rfl) rfl ?_
        refine s_cV (as := []) (tb_ok aX8_either4_0 17 rfl) v_RX8_260 (hi _ _ _ u1) (by omega) rfl rfl rfl rfl rfl (Nat.le_of_ble_eq_true rfl) (by decide) (fun r2 S2 I2 L2 R2 q2 => ?_)
        obtain ⟨rfl, rfl, v3_, rfl, u3⟩ := q2
        cases e3_ : P (adv t n s1) with
        | inr g3_ =>
          rw [e3_] at u3
          have u3 : RBad I0 g3_ _ := u3
          rw [loopP, if_pos hop, e3_] at hres
          refine s_istore_n (ls' := [some (.ref 66), some (.int x), some (.int v3_)]) (tb_ok aX8_either4_0 18 rfl) rfl rfl ?_
          refine s_iload_n (tb_ok aX8_either4_0 19 rfl) rfl ?_
          refine s_if_ne (tgt := 39) (tb_ok aX8_either4_0 20 rfl) (by decide) (fun c32 => ?_) (fun c32 => ?_)
          · refine s_iconst (v := 1) (tb_ok aX8_either4_0 23 rfl) (by decide) ?_
            refine s_goto (tgt := 44) (tb_ok aX8_either4_1 0 rfl) (by decide) ?_
            refine s_istore_n (ls' := [some (.ref 66), some (.int (1)), some (.int v3_)]) (tb_ok aX8_either4_1 2 rfl) rfl rfl ?_
            refine s_goto (tgt := 5) (tb_ok aX8_either4_1 3 rfl) (by decide) ?_
            refine L_either4 hT hd _ _ u3 (fun v => ⟨rfl, rfl, _, rfl, ?_⟩)
            rw [← hres]
            exact u3
          · refine s_iload_n (tb_ok aX8_either4_0 21 rfl) rfl ?_
            refine s_if_eq (tgt := 43) (tb_ok aX8_either4_0 22 rfl) (by decide) (fun c36 => ?_) (fun c36 => ?_)
            · refine s_iconst (v := 0) (tb_ok aX8_either4_1 1 rfl) (by decide) ?_
              refine s_istore_n (ls' := [some (.ref 66), some (.int (0)), some (.int v3_)]) (tb_ok aX8_either4_1 2 rfl) rfl rfl ?_
              refine s_goto (tgt := 5) (tb_ok aX8_either4_1 3 rfl) (by decide) ?_
              refine L_either4 hT hd _ _ u3 (fun v => ⟨rfl, rfl, _, rfl, ?_⟩)
              rw [← hres]
              exact u3
            · refine s_iconst (v := 1) (tb_ok aX8_either4_0 23 rfl) (by decide) ?_
              refine s_goto (tgt := 44) (tb_ok aX8_either4_1 0 rfl) (by decide) ?_
              refine s_istore_n (ls' := [some (.ref 66), some (.int (1)), some (.int v3_)]) (tb_ok aX8_either4_1 2 rfl) rfl rfl ?_
              refine s_goto (tgt := 5) (tb_ok aX8_either4_1 3 rfl) (by decide) ?_
              refine L_either4 hT hd _ _ u3 (fun v => ⟨rfl, rfl, _, rfl, ?_⟩)
              rw [← hres]
              exact u3
        | inl qq =>
          obtain ⟨c3_, f3_, s3_⟩ := qq
          rw [e3_] at u3
          obtain ⟨w3_, u3⟩ := u3
          have w3_ : v3_ = f3_ nm := w3_
          have u3 : ROk t n 4 I0 s3_ _ _ := u3
          have b3_ := Nice.two (t := t) hN u1.2.1 e3_
          rw [loopP, if_pos hop, e3_] at hres
          refine s_istore_n (ls' := [some (.ref 66), some (.int x), some (.int v3_)]) (tb_ok aX8_either4_0 18 rfl) rfl rfl ?_
          refine s_iload_n (tb_ok aX8_either4_0 19 rfl) rfl ?_
          refine s_if_ne (tgt := 39) (tb_ok aX8_either4_0 20 rfl) (by decide) (fun c32 => ?_) (fun c32 => ?_)
          · refine s_iconst (v := 1) (tb_ok aX8_either4_0 23 rfl) (by decide) ?_
            refine s_goto (tgt := 44) (tb_ok aX8_either4_1 0 rfl) (by decide) ?_
            refine s_istore_n (ls' := [some (.ref 66), some (.int (1)), some (.int v3_)]) (tb_ok aX8_either4_1 2 rfl) rfl rfl ?_
            refine s_goto (tgt := 5) (tb_ok aX8_either4_1 3 rfl) (by decide) ?_
            refine ih _ _ _ _ _ _ (1) ?_ u3 (by omega) hres
            show ((1) : Int32) = of2 30006 (f nm) _
            rw [of2_or, ← hx, ← w3_]
            exact (bI_t (by first | exact Or.inl c32 | exact Or.inr c36)).symm
          · refine s_iload_n (tb_ok aX8_either4_0 21 rfl) rfl ?_
            refine s_if_eq (tgt := 43) (tb_ok aX8_either4_0 22 rfl) (by decide) (fun c36 => ?_) (fun c36 => ?_)
            · refine s_iconst (v := 0) (tb_ok aX8_either4_1 1 rfl) (by decide) ?_
              refine s_istore_n (ls' := [some (.ref 66), some (.int (0)), some (.int v3_)]) (tb_ok aX8_either4_1 2 rfl) rfl rfl ?_
              refine s_goto (tgt := 5) (tb_ok aX8_either4_1 3 rfl) (by decide) ?_
              refine ih _ _ _ _ _ _ (0) ?_ u3 (by omega) hres
              show ((0) : Int32) = of2 30006 (f nm) _
              rw [of2_or, ← hx, ← w3_]
              exact (bI_f (fun h_ => h_.elim (fun k_ => k_ c32) (fun k_ => k_ c36))).symm
            · refine s_iconst (v := 1) (tb_ok aX8_either4_0 23 rfl) (by decide) ?_
              refine s_goto (tgt := 44) (tb_ok aX8_either4_1 0 rfl) (by decide) ?_
              refine s_istore_n (ls' := [some (.ref 66), some (.int (1)), some (.int v3_)]) (tb_ok aX8_either4_1 2 rfl) rfl rfl ?_
              refine s_goto (tgt := 5) (tb_ok aX8_either4_1 3 rfl) (by decide) ?_
              refine ih _ _ _ _ _ _ (1) ?_ u3 (by omega) hres
              show ((1) : Int32) = of2 30006 (f nm) _
              rw [of2_or, ← hx, ← w3_]
              exact (bI_t (by first | exact Or.inl c32 | exact Or.inr c36)).symm
  refine ev_of (by decide +kernel) rfl ?_
  show SW X _ _ _ 0 [some (.ref 66), none, none] [] S0 I L (R0 q) _
  refine s_aload_n (tb_ok aX8_either4_0 0 rfl) rfl ?_
  refine s_cV (as := []) (tb_ok aX8_either4_0 1 rfl) v_RX8_260 (hi _ _ _ h) (by omega) rfl rfl rfl rfl rfl (Nat.le_of_ble_eq_true rfl) (by decide) (fun r1 S1 I1 L1 R1 q1 => ?_)
  obtain ⟨rfl, rfl, v4_, rfl, u4⟩ := q1
  cases e4_ : P s with
  | inr g4_ =>
    rw [e4_] at u4
    have u4 : RBad I0 g4_ _ := u4
    have hsq : (seqP t n opE cdE P) s = .inr g4_ := by unfold seqP; rw [e4_]
    refine s_istore_n (ls' := [some (.ref 66), some (.int v4_), none]) (tb_ok aX8_either4_0 2 rfl) rfl rfl ?_
    refine L_either4 hT hd _ _ u4 (fun v => ⟨rfl, rfl, _, rfl, ?_⟩)
    rw [hsq]
    exact u4
  | inl qq =>
    obtain ⟨c4_, f4_, s4_⟩ := qq
    rw [e4_] at u4
    obtain ⟨w4_, u4⟩ := u4
    have w4_ : v4_ = f4_ nm := w4_
    have u4 : ROk t n 4 I0 s4_ _ _ := u4
    have b4_ := Nice.two (t := t) hN h.2.1 e4_
    have hsq : (seqP t n opE cdE P) s = loopP t n opE cdE P 160 c4_ f4_ s4_ := by unfold seqP; rw [e4_]
    refine s_istore_n (ls' := [some (.ref 66), some (.int v4_), none]) (tb_ok aX8_either4_0 2 rfl) rfl rfl ?_
    exact loop 160 _ _ _ _ _ _ _ w4_ u4 (by omega) hsq.symm

set_option maxRecDepth 100000 in
set_option maxHeartbeats 1000000 in
theorem C_atom3 {X : En} {q : Nat × Nat} {I0 : FI} {F n : Nat} {t nm : Nat → Int32} (hT : TxX I0 F n t nm) {d : Nat} (hd : 3 < d) {q2 : Pa × Pa × Pa} {d1 d2 : Nat} (hd1 : d1 < d) (hd2 : d2 < d) (hi : CtX X q t nm n I0 d1 mX8_atom4 4 q2.2.2) (hj : CtX X q t nm n I0 d2 mX8_either4 4 q2.1) : CtX X q t nm n I0 d mX8_atom3 3 (oneP t n (some q2)) := by
  intro I L s h
  obtain ⟨hF, hn, hn160, hFn, ht, ht0, hnm⟩ := id hT
  refine ev_of (by decide +kernel) rfl ?_
  show SW X _ _ _ 0 [some (.ref 66), none] [] S0 I L (R0 q) _
  refine s_iconst (v := 0) (tb_ok aX8_atom3_0 0 rfl) (by decide) ?_
  refine s_istore_n (ls' := [some (.ref 66), some (.int (0))]) (tb_ok aX8_atom3_0 1 rfl) rfl rfl ?_
  refine s_aload_n (tb_ok aX8_atom3_0 2 rfl) rfl ?_
  refine s_bipush (v := 45) (tb_ok aX8_atom3_0 3 rfl) (by decide) ?_
  refine s_cVp (as := [.int (45)]) (tb_ok aX8_atom3_0 4 rfl) v_RX8_215 (R_isSign (I0 := I0) h.2.2.1 h.2.2.2.2.2 (by decide)) (by omega) rfl rfl rfl rfl rfl (Nat.le_of_ble_eq_true rfl) (by decide) ?_
  refine s_if_eq (tgt := 37) (tb_ok aX8_atom3_0 5 rfl) (by decide) (fun c8 => ?_) (fun c8 => ?_)
  · have n45 : ¬ s.tok = 45 := bI_0.mp c8
    refine s_aload_n (tb_ok aX8_atom3_0 20 rfl) rfl ?_
    refine s_bipush (v := 40) (tb_ok aX8_atom3_0 21 rfl) (by decide) ?_
    refine s_cVp (as := [.int (40)]) (tb_ok aX8_atom3_0 22 rfl) v_RX8_215 (R_isSign (I0 := I0) h.2.2.1 h.2.2.2.2.2 (by decide)) (by omega) rfl rfl rfl rfl rfl (Nat.le_of_ble_eq_true rfl) (by decide) ?_
    refine s_if_eq (tgt := 95) (tb_ok aX8_atom3_0 23 rfl) (by decide) (fun c43 => ?_) (fun c43 => ?_)
    · have n40 : ¬ s.tok = 40 := bI_0.mp c43
      refine s_aload_n (tb_ok aX8_atom3_2 0 rfl) rfl ?_
      refine s_getI (x := (0)) (tb_ok aX8_atom3_2 1 rfl) f_RX8_173 rfl rfl h.2.2.1 ?_
      refine s_if_ne (tgt := 123) (tb_ok aX8_atom3_2 2 rfl) (by decide) (fun c99 => ?_) (fun c99 => ?_)
      · exact absurd c99 (by decide)
      · refine s_aload_n (tb_ok aX8_atom3_2 3 rfl) rfl ?_
        refine s_getI (tb_ok aX8_atom3_2 4 rfl) f_RX8_156 rfl rfl rfl ?_
        refine s_iconst (v := 2) (tb_ok aX8_atom3_2 5 rfl) (by decide) ?_
        refine s_icmp_ne (tgt := 123) (tb_ok aX8_atom3_2 6 rfl) (by decide) (fun c107 => ?_) (fun c107 => ?_)
        · refine s_aload_n (tb_ok aX8_atom3_2 14 rfl) rfl ?_
          refine s_getI (x := (0)) (tb_ok aX8_atom3_2 15 rfl) f_RX8_173 rfl rfl h.2.2.1 ?_
          refine s_if_ne (tgt := 157) (tb_ok aX8_atom3_2 16 rfl) (by decide) (fun c127 => ?_) (fun c127 => ?_)
          · exact absurd c127 (by decide)
          · refine s_aload_n (tb_ok aX8_atom3_2 17 rfl) rfl ?_
            refine s_getI (tb_ok aX8_atom3_2 18 rfl) f_RX8_156 rfl rfl rfl ?_
            refine s_iconst (v := 1) (tb_ok aX8_atom3_2 19 rfl) (by decide) ?_
            refine s_icmp_ne (tgt := 157) (tb_ok aX8_atom3_2 20 rfl) (by decide) (fun c135 => ?_) (fun c135 => ?_)
            · have n2 : ¬ s.tok = 2 := fun e_ => c107 (h.num.mpr e_)
              have n3 : ¬ s.tok = 3 := fun e_ => by
                rcases h.now c135 with k_ | k_ | k_ | k_
                · rw [e_] at k_; exact absurd k_ (by decide)
                · rw [e_] at k_; exact absurd k_ (by decide)
                · rw [e_] at k_; exact absurd k_ (by decide)
                · exact (sg_no k_).2.2.2.1 e_
              have hsq : (oneP t n (some q2)) s = .inr s.pl := by unfold oneP; rw [if_neg (fun h_ => h_.elim n2 n3), if_neg (fun h_ => h_.elim n45 n40)]
              refine s_aload_n (tb_ok aX8_atom3_3 6 rfl) rfl ?_
              refine s_cV (as := []) (tb_ok aX8_atom3_3 7 rfl) v_RX8_187 (R_fail h) (by omega) rfl rfl rfl rfl rfl (Nat.le_of_ble_eq_true rfl) (by decide) (fun r1 S1 I1 L1 R1 q1 => ?_)
              obtain ⟨rfl, rfl, rfl, u1⟩ := q1
              refine s_iload_n (tb_ok aX8_atom3_3 8 rfl) rfl ?_
              refine s_iret (tb_ok aX8_atom3_3 9 rfl) rfl ?_
              refine ⟨rfl, rfl, _, rfl, ?_⟩
              rw [hsq]
              exact u1
            · refine s_aload_n (tb_ok aX8_atom3_2 21 rfl) rfl ?_
              refine s_cV (as := []) (tb_ok aX8_atom3_2 22 rfl) v_RX8_222 (R_name hT h) (by omega) rfl rfl rfl rfl rfl (Nat.le_of_ble_eq_true rfl) (by decide) (fun r2 S2 I2 L2 R2 q2 => ?_)
              obtain ⟨rfl, rfl, v2_, rfl, ⟨h3, w2_, u2⟩ | ⟨n3, u2⟩⟩ := q2
              · have hsq : (oneP t n (some q2)) s = .inl ([s.val], (fun nm => atm nm s.val), adv t n s) := by unfold oneP; rw [if_pos (Or.inr h3)]
                refine s_istore_n (ls' := [some (.ref 66), some (.int v2_)]) (tb_ok aX8_atom3_2 23 rfl) rfl rfl ?_
                refine s_aload_n (tb_ok aX8_atom3_3 0 rfl) rfl ?_
                refine s_getI (x := (0)) (tb_ok aX8_atom3_3 1 rfl) f_RX8_173 rfl rfl u2.2.2.1 ?_
                refine s_if_ne (tgt := 161) (tb_ok aX8_atom3_3 2 rfl) (by decide) (fun c147 => ?_) (fun c147 => ?_)
                · exact absurd c147 (by decide)
                · refine s_aload_n (tb_ok aX8_atom3_3 3 rfl) rfl ?_
                  refine s_cV (as := []) (tb_ok aX8_atom3_3 4 rfl) v_RX8_190 (R_next hT u2 (by rw [h3]; decide) (by rw [h3]; decide)) (by omega) rfl rfl rfl rfl rfl (Nat.le_of_ble_eq_true rfl) (by decide) (fun r3 S3 I3 L3 R3 q3 => ?_)
                  obtain ⟨rfl, rfl, rfl, u3⟩ := q3
                  have a4 := (adv_wf (t := t) u2.2.1).2.2 (by rw [h3]; decide)
                  refine s_goto (tgt := 161) (tb_ok aX8_atom3_3 5 rfl) (by decide) ?_
                  refine s_iload_n (tb_ok aX8_atom3_3 8 rfl) rfl ?_
                  refine s_iret (tb_ok aX8_atom3_3 9 rfl) rfl ?_
                  refine ⟨rfl, rfl, _, rfl, ?_⟩
                  rw [hsq]
                  refine ⟨?_, u3⟩
                  exact w2_
              · have n2 : ¬ s.tok = 2 := fun e_ => by have := h.num.mpr e_; exact c107 this
                have hsq : (oneP t n (some q2)) s = .inr s.pl := by unfold oneP; rw [if_neg (fun h_ => h_.elim n2 n3), if_neg (fun h_ => h_.elim n45 n40)]
                refine s_istore_n (ls' := [some (.ref 66), some (.int v2_)]) (tb_ok aX8_atom3_2 23 rfl) rfl rfl ?_
                refine s_aload_n (tb_ok aX8_atom3_3 0 rfl) rfl ?_
                refine s_getI (x := (1)) (tb_ok aX8_atom3_3 1 rfl) f_RX8_173 rfl rfl u2.2.1 ?_
                refine s_if_ne (tgt := 161) (tb_ok aX8_atom3_3 2 rfl) (by decide) (fun c147 => ?_) (fun c147 => ?_)
                · refine s_iload_n (tb_ok aX8_atom3_3 8 rfl) rfl ?_
                  refine s_iret (tb_ok aX8_atom3_3 9 rfl) rfl ?_
                  refine ⟨rfl, rfl, _, rfl, ?_⟩
                  rw [hsq]
                  exact u2
                · exact absurd c147 (by decide)
        · have ht2 : s.tok = 2 := h.num.mp c107
          have hnv : (L 66 25).toInt32 = atm nm s.val := h.nvl ht2
          have hsq : (oneP t n (some q2)) s = .inl ([s.val], (fun nm => atm nm s.val), adv t n s) := by unfold oneP; rw [if_pos (Or.inl ht2)]
          refine s_aload_n (tb_ok aX8_atom3_2 7 rfl) rfl ?_
          refine s_getL (tb_ok aX8_atom3_2 8 rfl) f_RX8_167 rfl rfl rfl ?_
          refine s_l2i (tb_ok aX8_atom3_2 9 rfl) ?_
          refine s_name (fun x1 ex1 => ?_)
          refine s_istore_n (ls' := [some (.ref 66), some (.int x1)]) (tb_ok aX8_atom3_2 10 rfl) rfl rfl ?_
          refine s_aload_n (tb_ok aX8_atom3_2 11 rfl) rfl ?_
          refine s_cV (as := []) (tb_ok aX8_atom3_2 12 rfl) v_RX8_190 (R_next hT h (by rw [ht2]; decide) (by rw [ht2]; decide)) (by omega) rfl rfl rfl rfl rfl (Nat.le_of_ble_eq_true rfl) (by decide) (fun r4 S4 I4 L4 R4 q4 => ?_)
          obtain ⟨rfl, rfl, rfl, u5⟩ := q4
          have a6 := (adv_wf (t := t) h.2.1).2.2 (by rw [ht2]; decide)
          refine s_goto (tgt := 161) (tb_ok aX8_atom3_2 13 rfl) (by decide) ?_
          refine s_iload_n (tb_ok aX8_atom3_3 8 rfl) rfl ?_
          refine s_iret (tb_ok aX8_atom3_3 9 rfl) rfl ?_
          refine ⟨rfl, rfl, _, rfl, ?_⟩
          rw [hsq]
          refine ⟨?_, u5⟩
          first | exact ex1.trans hnv | exact ex1.trans (congrArg Neg.neg w2_)
    · have h40 : s.tok = 40 := bI_n c43
      have h4 : s.tok = 45 ∨ s.tok = 40 := Or.inr h40
      have h23 : ¬ (s.tok = 2 ∨ s.tok = 3) := by rw [h40]; decide
      refine s_aload_n (tb_ok aX8_atom3_1 0 rfl) rfl ?_
      refine s_cV (as := []) (tb_ok aX8_atom3_1 1 rfl) v_RX8_218 (R_opens hT h (by rw [h40]; decide) (by rw [h40]; decide) (by decide)) (by omega) rfl rfl rfl rfl rfl (Nat.le_of_ble_eq_true rfl) (by decide) (fun r5 S5 I5 L5 R5 q5 => ?_)
      obtain ⟨rfl, rfl, rfl, u7⟩ := q5
      have a8 := (adv_wf (t := t) h.2.1).2.2 (by rw [h40]; decide)
      refine s_if_eq (tgt := 161) (tb_ok aX8_atom3_1 2 rfl) (by decide) (fun c50 => ?_) (fun c50 => ?_)
      · exact absurd c50 (by decide)
      · refine s_aload_n (tb_ok aX8_atom3_1 3 rfl) rfl ?_
        refine s_cV (as := []) (tb_ok aX8_atom3_1 4 rfl) v_RX8_263 (hj _ _ _ u7) (by omega) rfl rfl rfl rfl rfl (Nat.le_of_ble_eq_true rfl) (by decide) (fun r6 S6 I6 L6 R6 q6 => ?_)
        obtain ⟨rfl, rfl, v9_, rfl, u9⟩ := q6
        cases e9_ : q2.1 (adv t n s) with
        | inr g9_ =>
          rw [e9_] at u9
          have u9 : RBad I0 g9_ _ := u9
          have hsq : (oneP t n (some q2)) s = .inr g9_ := by
            unfold oneP
            rw [if_neg h23, if_pos h4]
            show (if s.tok = 45 then _ else _) = _
            rw [if_neg (by rw [h40]; decide)]
            simp only [e9_]
          refine s_istore_n (ls' := [some (.ref 66), some (.int v9_)]) (tb_ok aX8_atom3_1 5 rfl) rfl rfl ?_
          refine s_aload_n (tb_ok aX8_atom3_1 6 rfl) rfl ?_
          refine s_bipush (v := 41) (tb_ok aX8_atom3_1 7 rfl) (by decide) ?_
          refine s_cVp (as := [.int (41)]) (tb_ok aX8_atom3_1 8 rfl) v_RX8_215 (R_isSignE (I0 := I0) u9.2.1) (by omega) rfl rfl rfl rfl rfl (Nat.le_of_ble_eq_true rfl) (by decide) ?_
          refine s_if_ne (tgt := 71) (tb_ok aX8_atom3_1 9 rfl) (by decide) (fun c64 => ?_) (fun c64 => ?_)
          · exact absurd c64 (by decide)
          · refine s_aload_n (tb_ok aX8_atom3_1 10 rfl) rfl ?_
            refine s_cV (as := []) (tb_ok aX8_atom3_1 11 rfl) v_RX8_187 (R_failE u9) (by omega) rfl rfl rfl rfl rfl (Nat.le_of_ble_eq_true rfl) (by decide) (fun r7 S7 I7 L7 R7 q7 => ?_)
            obtain ⟨rfl, rfl, rfl, u10⟩ := q7
            refine s_aload_n (tb_ok aX8_atom3_1 12 rfl) rfl ?_
            refine s_dup (tb_ok aX8_atom3_1 13 rfl) rfl ?_
            refine s_getI (tb_ok aX8_atom3_1 14 rfl) f_RX8_184 rfl rfl rfl ?_
            refine s_iconst (v := 1) (tb_ok aX8_atom3_1 15 rfl) (by decide) ?_
            refine s_isub (tb_ok aX8_atom3_1 16 rfl) ?_
            refine s_putI (tb_ok aX8_atom3_1 17 rfl) f_RX8_184 rfl rfl ?_
            refine s_aload_n (tb_ok aX8_atom3_1 18 rfl) rfl ?_
            refine s_getI (x := (1)) (tb_ok aX8_atom3_1 19 rfl) f_RX8_173 rfl rfl (u10.put26 _).2.1 ?_
            refine s_if_ne (tgt := 161) (tb_ok aX8_atom3_1 20 rfl) (by decide) (fun c85 => ?_) (fun c85 => ?_)
            · refine s_iload_n (tb_ok aX8_atom3_3 8 rfl) rfl ?_
              refine s_iret (tb_ok aX8_atom3_3 9 rfl) rfl ?_
              refine ⟨rfl, rfl, _, rfl, ?_⟩
              rw [hsq]
              exact (u10.put26 _)
            · exact absurd c85 (by decide)
        | inl qq =>
          obtain ⟨c9_, f9_, s9_⟩ := qq
          rw [e9_] at u9
          obtain ⟨w9_, u9⟩ := u9
          have w9_ : v9_ = f9_ nm := w9_
          have u9 : ROk t n 4 I0 s9_ _ _ := u9
          refine s_istore_n (ls' := [some (.ref 66), some (.int v9_)]) (tb_ok aX8_atom3_1 5 rfl) rfl rfl ?_
          refine s_aload_n (tb_ok aX8_atom3_1 6 rfl) rfl ?_
          refine s_bipush (v := 41) (tb_ok aX8_atom3_1 7 rfl) (by decide) ?_
          refine s_cVp (as := [.int (41)]) (tb_ok aX8_atom3_1 8 rfl) v_RX8_215 (R_isSign (I0 := I0) u9.2.2.1 u9.2.2.2.2.2 (by decide)) (by omega) rfl rfl rfl rfl rfl (Nat.le_of_ble_eq_true rfl) (by decide) ?_
          refine s_if_ne (tgt := 71) (tb_ok aX8_atom3_1 9 rfl) (by decide) (fun c64 => ?_) (fun c64 => ?_)
          · refine s_aload_n (tb_ok aX8_atom3_1 12 rfl) rfl ?_
            refine s_dup (tb_ok aX8_atom3_1 13 rfl) rfl ?_
            refine s_getI (x := (nI 4)) (tb_ok aX8_atom3_1 14 rfl) f_RX8_184 rfl rfl u9.2.2.2.1 ?_
            refine s_iconst (v := 1) (tb_ok aX8_atom3_1 15 rfl) (by decide) ?_
            refine s_isub (tb_ok aX8_atom3_1 16 rfl) ?_
            refine s_topi (z := (nI 3)) (by decide) ?_
            refine s_putI (tb_ok aX8_atom3_1 17 rfl) f_RX8_184 rfl rfl ?_
            have u12 := u9.put26 3
            refine s_aload_n (tb_ok aX8_atom3_1 18 rfl) rfl ?_
            refine s_getI (x := (0)) (tb_ok aX8_atom3_1 19 rfl) f_RX8_173 rfl rfl u12.2.2.1 ?_
            refine s_if_ne (tgt := 161) (tb_ok aX8_atom3_1 20 rfl) (by decide) (fun c85 => ?_) (fun c85 => ?_)
            · exact absurd c85 (by decide)
            · have h41 : s9_.tok = 41 := bI_n c64
              have hsq : (oneP t n (some q2)) s = .inl (c9_, f9_, adv t n s9_) := by
                unfold oneP
                rw [if_neg h23, if_pos h4]
                show (if s.tok = 45 then _ else _) = _
                rw [if_neg (by rw [h40]; decide)]
                simp only [e9_]
                rw [if_pos h41]
              refine s_aload_n (tb_ok aX8_atom3_1 21 rfl) rfl ?_
              refine s_cV (as := []) (tb_ok aX8_atom3_1 22 rfl) v_RX8_190 (R_next hT u12 (by rw [h41]; decide) (by rw [h41]; decide)) (by omega) rfl rfl rfl rfl rfl (Nat.le_of_ble_eq_true rfl) (by decide) (fun r8 S8 I8 L8 R8 q8 => ?_)
              obtain ⟨rfl, rfl, rfl, u13⟩ := q8
              have a14 := (adv_wf (t := t) u12.2.1).2.2 (by rw [h41]; decide)
              refine s_goto (tgt := 161) (tb_ok aX8_atom3_1 23 rfl) (by decide) ?_
              refine s_iload_n (tb_ok aX8_atom3_3 8 rfl) rfl ?_
              refine s_iret (tb_ok aX8_atom3_3 9 rfl) rfl ?_
              refine ⟨rfl, rfl, _, rfl, ?_⟩
              rw [hsq]
              refine ⟨?_, u13⟩
              exact w9_
          · have hsq : (oneP t n (some q2)) s = .inr s9_.pl := by
              unfold oneP
              rw [if_neg h23, if_pos h4]
              show (if s.tok = 45 then _ else _) = _
              rw [if_neg (by rw [h40]; decide)]
              simp only [e9_]
              rw [if_neg (bI_0.mp c64)]
            refine s_aload_n (tb_ok aX8_atom3_1 10 rfl) rfl ?_
            refine s_cV (as := []) (tb_ok aX8_atom3_1 11 rfl) v_RX8_187 (R_fail u9) (by omega) rfl rfl rfl rfl rfl (Nat.le_of_ble_eq_true rfl) (by decide) (fun r9 S9 I9 L9 R9 q9 => ?_)
            obtain ⟨rfl, rfl, rfl, u15⟩ := q9
            refine s_aload_n (tb_ok aX8_atom3_1 12 rfl) rfl ?_
            refine s_dup (tb_ok aX8_atom3_1 13 rfl) rfl ?_
            refine s_getI (tb_ok aX8_atom3_1 14 rfl) f_RX8_184 rfl rfl rfl ?_
            refine s_iconst (v := 1) (tb_ok aX8_atom3_1 15 rfl) (by decide) ?_
            refine s_isub (tb_ok aX8_atom3_1 16 rfl) ?_
            refine s_putI (tb_ok aX8_atom3_1 17 rfl) f_RX8_184 rfl rfl ?_
            refine s_aload_n (tb_ok aX8_atom3_1 18 rfl) rfl ?_
            refine s_getI (x := (1)) (tb_ok aX8_atom3_1 19 rfl) f_RX8_173 rfl rfl (u15.put26 _).2.1 ?_
            refine s_if_ne (tgt := 161) (tb_ok aX8_atom3_1 20 rfl) (by decide) (fun c85 => ?_) (fun c85 => ?_)
            · refine s_iload_n (tb_ok aX8_atom3_3 8 rfl) rfl ?_
              refine s_iret (tb_ok aX8_atom3_3 9 rfl) rfl ?_
              refine ⟨rfl, rfl, _, rfl, ?_⟩
              rw [hsq]
              exact (u15.put26 _)
            · exact absurd c85 (by decide)
  · have h45 : s.tok = 45 := bI_n c8
    have h4 : s.tok = 45 ∨ s.tok = 40 := Or.inl h45
    have h23 : ¬ (s.tok = 2 ∨ s.tok = 3) := by rw [h45]; decide
    refine s_aload_n (tb_ok aX8_atom3_0 6 rfl) rfl ?_
    refine s_cV (as := []) (tb_ok aX8_atom3_0 7 rfl) v_RX8_218 (R_opens hT h (by rw [h45]; decide) (by rw [h45]; decide) (by decide)) (by omega) rfl rfl rfl rfl rfl (Nat.le_of_ble_eq_true rfl) (by decide) (fun r10 S10 I10 L10 R10 q10 => ?_)
    obtain ⟨rfl, rfl, rfl, u17⟩ := q10
    have a18 := (adv_wf (t := t) h.2.1).2.2 (by rw [h45]; decide)
    refine s_if_eq (tgt := 161) (tb_ok aX8_atom3_0 8 rfl) (by decide) (fun c15 => ?_) (fun c15 => ?_)
    · exact absurd c15 (by decide)
    · refine s_aload_n (tb_ok aX8_atom3_0 9 rfl) rfl ?_
      refine s_cV (as := []) (tb_ok aX8_atom3_0 10 rfl) v_RX8_248 (hi _ _ _ u17) (by omega) rfl rfl rfl rfl rfl (Nat.le_of_ble_eq_true rfl) (by decide) (fun r11 S11 I11 L11 R11 q11 => ?_)
      obtain ⟨rfl, rfl, v19_, rfl, u19⟩ := q11
      cases e19_ : q2.2.2 (adv t n s) with
      | inr g19_ =>
        rw [e19_] at u19
        have u19 : RBad I0 g19_ _ := u19
        have hsq : (oneP t n (some q2)) s = .inr g19_ := by
          unfold oneP
          rw [if_neg h23, if_pos h4]
          show (if s.tok = 45 then _ else _) = _
          rw [if_pos h45]
          simp only [e19_]
        refine s_ineg (tb_ok aX8_atom3_0 11 rfl) ?_
        refine s_name (fun x2 ex2 => ?_)
        refine s_istore_n (ls' := [some (.ref 66), some (.int x2)]) (tb_ok aX8_atom3_0 12 rfl) rfl rfl ?_
        refine s_aload_n (tb_ok aX8_atom3_0 13 rfl) rfl ?_
        refine s_dup (tb_ok aX8_atom3_0 14 rfl) rfl ?_
        refine s_getI (tb_ok aX8_atom3_0 15 rfl) f_RX8_184 rfl rfl rfl ?_
        refine s_iconst (v := 1) (tb_ok aX8_atom3_0 16 rfl) (by decide) ?_
        refine s_isub (tb_ok aX8_atom3_0 17 rfl) ?_
        refine s_putI (tb_ok aX8_atom3_0 18 rfl) f_RX8_184 rfl rfl ?_
        refine s_goto (tgt := 161) (tb_ok aX8_atom3_0 19 rfl) (by decide) ?_
        refine s_iload_n (tb_ok aX8_atom3_3 8 rfl) rfl ?_
        refine s_iret (tb_ok aX8_atom3_3 9 rfl) rfl ?_
        refine ⟨rfl, rfl, _, rfl, ?_⟩
        rw [hsq]
        exact (u19.put26 _)
      | inl qq =>
        obtain ⟨c19_, f19_, s19_⟩ := qq
        rw [e19_] at u19
        obtain ⟨w19_, u19⟩ := u19
        have w19_ : v19_ = f19_ nm := w19_
        have u19 : ROk t n 4 I0 s19_ _ _ := u19
        have hsq : (oneP t n (some q2)) s = .inl (c19_ ++ [20000], (fun nm => of1 20000 (f19_ nm)), s19_) := by
          unfold oneP
          rw [if_neg h23, if_pos h4]
          show (if s.tok = 45 then _ else _) = _
          rw [if_pos h45]
          simp only [e19_]
        refine s_ineg (tb_ok aX8_atom3_0 11 rfl) ?_
        refine s_name (fun x3 ex3 => ?_)
        refine s_istore_n (ls' := [some (.ref 66), some (.int x3)]) (tb_ok aX8_atom3_0 12 rfl) rfl rfl ?_
        refine s_aload_n (tb_ok aX8_atom3_0 13 rfl) rfl ?_
        refine s_dup (tb_ok aX8_atom3_0 14 rfl) rfl ?_
        refine s_getI (x := (nI 4)) (tb_ok aX8_atom3_0 15 rfl) f_RX8_184 rfl rfl u19.2.2.2.1 ?_
        refine s_iconst (v := 1) (tb_ok aX8_atom3_0 16 rfl) (by decide) ?_
        refine s_isub (tb_ok aX8_atom3_0 17 rfl) ?_
        refine s_topi (z := (nI 3)) (by decide) ?_
        refine s_putI (tb_ok aX8_atom3_0 18 rfl) f_RX8_184 rfl rfl ?_
        have u21 := u19.put26 3
        refine s_goto (tgt := 161) (tb_ok aX8_atom3_0 19 rfl) (by decide) ?_
        refine s_iload_n (tb_ok aX8_atom3_3 8 rfl) rfl ?_
        refine s_iret (tb_ok aX8_atom3_3 9 rfl) rfl ?_
        refine ⟨rfl, rfl, _, rfl, ?_⟩
        rw [hsq]
        refine ⟨?_, u21⟩
        first | exact ex3.trans hnv | exact ex3.trans (congrArg Neg.neg w19_)

set_option maxRecDepth 100000 in
set_option maxHeartbeats 1000000 in
theorem L_term3 {X : En} {q : Nat × Nat} {I0 : FI} {F n : Nat} {t nm : Nat → Int32} (hT : TxX I0 F n t nm) {d f : Nat} (hd : 2 < d) {Q : Pst} {I : FI} {L : FL} (x : Int32) (h : RBad I0 f I) (hQ : ∀ v, Q (some (.int v)) S0 I L (R0 q)) : SW X (d + 1) mX8_term3 (0, 0) 5 [some (.ref 66), some (.int x)] [] S0 I L (R0 q) (KQ X Q) := by
  refine s_aload_n (tb_ok aX8_term3_0 3 rfl) rfl ?_
  refine s_bipush (v := 42) (tb_ok aX8_term3_0 4 rfl) (by decide) ?_
  refine s_cVp (as := [.int (42)]) (tb_ok aX8_term3_0 5 rfl) v_RX8_215 (R_isSignE (I0 := I0) h.2.1) (by omega) rfl rfl rfl rfl rfl (Nat.le_of_ble_eq_true rfl) (by decide) ?_
  refine s_if_eq (tgt := 28) (tb_ok aX8_term3_0 6 rfl) (by decide) (fun c11 => ?_) (fun c11 => ?_)
  · refine s_iload_n (tb_ok aX8_term3_0 15 rfl) rfl ?_
    refine s_iret (tb_ok aX8_term3_0 16 rfl) rfl ?_
    exact hQ _
  · exact absurd c11 (by decide)

set_option maxRecDepth 100000 in
set_option maxHeartbeats 1000000 in
theorem C_term3 {X : En} {q : Nat × Nat} {I0 : FI} {F n : Nat} {t nm : Nat → Int32} (hT : TxX I0 F n t nm) {d dp : Nat} (hd : 2 < d) {P : Pa} (hN : Nice n dp P) (hi : CtX X q t nm n I0 d mX8_atom3 3 P) : CtX X q t nm n I0 (d + 1) mX8_term3 3 (seqP t n opT cdT P) := by
  intro I L s h
  obtain ⟨hF, hn, hn160, hFn, ht, ht0, hnm⟩ := id hT
  have loop : ∀ k, ∀ (I : FI) (L : FL) (c : List Int32) (f : Sem) (s1 : St) (x : Int32), x = f nm → ROk t n 3 I0 s1 I L → 160 < s1.pl + k → loopP t n opT cdT P k c f s1 = (seqP t n opT cdT P) s → SW X (d + 1) mX8_term3 (0, 0) 5 [some (.ref 66), some (.int x)] [] S0 I L (R0 q) (KQ X (AfP q t nm n 3 I0 ((seqP t n opT cdT P) s))) := by
    intro k
    induction k with
    | zero =>
      intro I L c f s1 x hx h1 hk hres
      have := h1.pln
      omega
    | succ k ih =>
      intro I L c f s1 x hx h1 hk hres
      refine s_aload_n (tb_ok aX8_term3_0 3 rfl) rfl ?_
      refine s_bipush (v := 42) (tb_ok aX8_term3_0 4 rfl) (by decide) ?_
      refine s_cVp (as := [.int (42)]) (tb_ok aX8_term3_0 5 rfl) v_RX8_215 (R_isSign (I0 := I0) h1.2.2.1 h1.2.2.2.2.2 (by decide)) (by omega) rfl rfl rfl rfl rfl (Nat.le_of_ble_eq_true rfl) (by decide) ?_
      refine s_if_eq (tgt := 28) (tb_ok aX8_term3_0 6 rfl) (by decide) (fun c11 => ?_) (fun c11 => ?_)
      · refine s_iload_n (tb_ok aX8_term3_0 15 rfl) rfl ?_
        refine s_iret (tb_ok aX8_term3_0 16 rfl) rfl ?_
        refine ⟨rfl, rfl, _, rfl, ?_⟩
        rw [← hres, loopP, if_neg (bI_0.mp c11)]
        exact ⟨hx, h1⟩
      · have hop : opT s1.tok := bI_n c11
        refine s_aload_n (tb_ok aX8_term3_0 7 rfl) rfl ?_
        refine s_cV (as := []) (tb_ok aX8_term3_0 8 rfl) v_RX8_190 (R_next hT h1 (by rw [hop]; decide) (by rw [hop]; decide)) (by omega) rfl rfl rfl rfl rfl (Nat.le_of_ble_eq_true rfl) (by decide) (fun r1 S1 I1 L1 R1 q1 => ?_)
        obtain ⟨rfl, rfl, rfl, u1⟩ := q1
        have a2 := (adv_wf (t := t) h1.2.1).2.2 (by rw [hop]; decide)
        refine s_iload_n (tb_ok aX8_term3_0 9 rfl) rfl ?_
        refine s_aload_n (tb_ok aX8_term3_0 10 rfl) rfl ?_
        refine s_cV (as := []) (tb_ok aX8_term3_0 11 rfl) v_RX8_266 (hi _ _ _ u1) (by omega) rfl rfl rfl rfl rfl (Nat.le_of_ble_eq_true rfl) (by decide) (fun r2 S2 I2 L2 R2 q2 => ?_)
        obtain ⟨rfl, rfl, v3_, rfl, u3⟩ := q2
        cases e3_ : P (adv t n s1) with
        | inr g3_ =>
          rw [e3_] at u3
          have u3 : RBad I0 g3_ _ := u3
          rw [loopP, if_pos hop, e3_] at hres
          refine s_imul (tb_ok aX8_term3_0 12 rfl) ?_
          refine s_name (fun x1 ex1 => ?_)
          refine s_istore_n (ls' := [some (.ref 66), some (.int x1)]) (tb_ok aX8_term3_0 13 rfl) rfl rfl ?_
          refine s_goto (tgt := 5) (tb_ok aX8_term3_0 14 rfl) (by decide) ?_
          refine L_term3 hT hd _ u3 (fun v => ⟨rfl, rfl, _, rfl, ?_⟩)
          rw [← hres]
          exact u3
        | inl qq =>
          obtain ⟨c3_, f3_, s3_⟩ := qq
          rw [e3_] at u3
          obtain ⟨w3_, u3⟩ := u3
          have w3_ : v3_ = f3_ nm := w3_
          have u3 : ROk t n 3 I0 s3_ _ _ := u3
          have b3_ := Nice.two (t := t) hN u1.2.1 e3_
          rw [loopP, if_pos hop, e3_] at hres
          refine s_imul (tb_ok aX8_term3_0 12 rfl) ?_
          refine s_name (fun x2 ex2 => ?_)
          refine s_istore_n (ls' := [some (.ref 66), some (.int x2)]) (tb_ok aX8_term3_0 13 rfl) rfl rfl ?_
          refine s_goto (tgt := 5) (tb_ok aX8_term3_0 14 rfl) (by decide) ?_
          refine ih _ _ _ _ _ x2 ?_ u3 (by omega) hres
          show x2 = of2 30002 (f nm) _
          rw [of2_mul, ex2, hx, w3_]
  refine ev_of (by decide +kernel) rfl ?_
  show SW X _ _ _ 0 [some (.ref 66), none] [] S0 I L (R0 q) _
  refine s_aload_n (tb_ok aX8_term3_0 0 rfl) rfl ?_
  refine s_cV (as := []) (tb_ok aX8_term3_0 1 rfl) v_RX8_266 (hi _ _ _ h) (by omega) rfl rfl rfl rfl rfl (Nat.le_of_ble_eq_true rfl) (by decide) (fun r1 S1 I1 L1 R1 q1 => ?_)
  obtain ⟨rfl, rfl, v4_, rfl, u4⟩ := q1
  cases e4_ : P s with
  | inr g4_ =>
    rw [e4_] at u4
    have u4 : RBad I0 g4_ _ := u4
    have hsq : (seqP t n opT cdT P) s = .inr g4_ := by unfold seqP; rw [e4_]
    refine s_istore_n (ls' := [some (.ref 66), some (.int v4_)]) (tb_ok aX8_term3_0 2 rfl) rfl rfl ?_
    refine L_term3 hT hd _ u4 (fun v => ⟨rfl, rfl, _, rfl, ?_⟩)
    rw [hsq]
    exact u4
  | inl qq =>
    obtain ⟨c4_, f4_, s4_⟩ := qq
    rw [e4_] at u4
    obtain ⟨w4_, u4⟩ := u4
    have w4_ : v4_ = f4_ nm := w4_
    have u4 : ROk t n 3 I0 s4_ _ _ := u4
    have b4_ := Nice.two (t := t) hN h.2.1 e4_
    have hsq : (seqP t n opT cdT P) s = loopP t n opT cdT P 160 c4_ f4_ s4_ := by unfold seqP; rw [e4_]
    refine s_istore_n (ls' := [some (.ref 66), some (.int v4_)]) (tb_ok aX8_term3_0 2 rfl) rfl rfl ?_
    exact loop 160 _ _ _ _ _ _ w4_ u4 (by omega) hsq.symm

set_option maxRecDepth 100000 in
set_option maxHeartbeats 1000000 in
theorem L_added3 {X : En} {q : Nat × Nat} {I0 : FI} {F n : Nat} {t nm : Nat → Int32} (hT : TxX I0 F n t nm) {d f : Nat} (hd : 2 < d) {Q : Pst} {I : FI} {L : FL} (x : Int32) (o2 : Option Value) (o3 : Option Value) (h : RBad I0 f I) (hQ : ∀ v, Q (some (.int v)) S0 I L (R0 q)) : SW X (d + 1) mX8_added3 (0, 0) 5 [some (.ref 66), some (.int x), o2, o3] [] S0 I L (R0 q) (KQ X Q) := by
  refine s_aload_n (tb_ok aX8_added3_0 3 rfl) rfl ?_
  refine s_bipush (v := 43) (tb_ok aX8_added3_0 4 rfl) (by decide) ?_
  refine s_cVp (as := [.int (43)]) (tb_ok aX8_added3_0 5 rfl) v_RX8_215 (R_isSignE (I0 := I0) h.2.1) (by omega) rfl rfl rfl rfl rfl (Nat.le_of_ble_eq_true rfl) (by decide) ?_
  refine s_if_ne (tgt := 23) (tb_ok aX8_added3_0 6 rfl) (by decide) (fun c11 => ?_) (fun c11 => ?_)
  · exact absurd c11 (by decide)
  · refine s_aload_n (tb_ok aX8_added3_0 7 rfl) rfl ?_
    refine s_bipush (v := 45) (tb_ok aX8_added3_0 8 rfl) (by decide) ?_
    refine s_cVp (as := [.int (45)]) (tb_ok aX8_added3_0 9 rfl) v_RX8_215 (R_isSignE (I0 := I0) h.2.1) (by omega) rfl rfl rfl rfl rfl (Nat.le_of_ble_eq_true rfl) (by decide) ?_
    refine s_if_eq (tgt := 66) (tb_ok aX8_added3_0 10 rfl) (by decide) (fun c20 => ?_) (fun c20 => ?_)
    · refine s_iload_n (tb_ok aX8_added3_1 12 rfl) rfl ?_
      refine s_iret (tb_ok aX8_added3_1 13 rfl) rfl ?_
      exact hQ _
    · exact absurd c20 (by decide)

set_option maxRecDepth 100000 in
set_option maxHeartbeats 1000000 in
theorem C_added3 {X : En} {q : Nat × Nat} {I0 : FI} {F n : Nat} {t nm : Nat → Int32} (hT : TxX I0 F n t nm) {d dp : Nat} (hd : 2 < d) {P : Pa} (hN : Nice n dp P) (hi : CtX X q t nm n I0 d mX8_term3 3 P) : CtX X q t nm n I0 (d + 1) mX8_added3 3 (seqP t n opS cdS P) := by
  intro I L s h
  obtain ⟨hF, hn, hn160, hFn, ht, ht0, hnm⟩ := id hT
  have loop : ∀ k, ∀ (o2 : Option Value) (o3 : Option Value) (I : FI) (L : FL) (c : List Int32) (f : Sem) (s1 : St) (x : Int32), x = f nm → ROk t n 3 I0 s1 I L → 160 < s1.pl + k → loopP t n opS cdS P k c f s1 = (seqP t n opS cdS P) s → SW X (d + 1) mX8_added3 (0, 0) 5 [some (.ref 66), some (.int x), o2, o3] [] S0 I L (R0 q) (KQ X (AfP q t nm n 3 I0 ((seqP t n opS cdS P) s))) := by
    intro k
    induction k with
    | zero =>
      intro o2 o3 I L c f s1 x hx h1 hk hres
      have := h1.pln
      omega
    | succ k ih =>
      intro o2 o3 I L c f s1 x hx h1 hk hres
      refine s_aload_n (tb_ok aX8_added3_0 3 rfl) rfl ?_
      refine s_bipush (v := 43) (tb_ok aX8_added3_0 4 rfl) (by decide) ?_
      refine s_cVp (as := [.int (43)]) (tb_ok aX8_added3_0 5 rfl) v_RX8_215 (R_isSign (I0 := I0) h1.2.2.1 h1.2.2.2.2.2 (by decide)) (by omega) rfl rfl rfl rfl rfl (Nat.le_of_ble_eq_true rfl) (by decide) ?_
      refine s_if_ne (tgt := 23) (tb_ok aX8_added3_0 6 rfl) (by decide) (fun c11 => ?_) (fun c11 => ?_)
      · have hop : opS s1.tok := by first | exact Or.inl (bI_n c11) | exact Or.inr (bI_n c20)
        have hwr := h1.wrth (by rcases hop with e_ | e_ <;> rw [e_] <;> decide)
        refine s_aload_n (tb_ok aX8_added3_0 11 rfl) rfl ?_
        refine s_getL (tb_ok aX8_added3_0 12 rfl) f_RX8_167 rfl rfl rfl ?_
        refine s_ldc2 (tb_ok aX8_added3_0 13 rfl) k_RX8_232 ?_
        refine s_lcmp (tb_ok aX8_added3_0 14 rfl) ?_
        refine s_if_ne (tgt := 38) (tb_ok aX8_added3_0 15 rfl) (by decide) (fun c31 => ?_) (fun c31 => ?_)
        · have h43 : ¬ s1.tok = 43 := fun e_ => c31 ((cmp_eq _ _).mpr (hwr.trans (by rw [e_]; rfl)))
          refine s_iconst (v := 0) (tb_ok aX8_added3_0 18 rfl) (by decide) ?_
          refine s_istore_n (ls' := [some (.ref 66), some (.int x), some (.int (0)), o3]) (tb_ok aX8_added3_0 19 rfl) rfl rfl ?_
          refine s_aload_n (tb_ok aX8_added3_0 20 rfl) rfl ?_
          refine s_cV (as := []) (tb_ok aX8_added3_0 21 rfl) v_RX8_190 (R_next hT h1 (by rcases hop with e_ | e_ <;> rw [e_] <;> decide) (by rcases hop with e_ | e_ <;> rw [e_] <;> decide)) (by omega) rfl rfl rfl rfl rfl (Nat.le_of_ble_eq_true rfl) (by decide) (fun r1 S1 I1 L1 R1 q1 => ?_)
          obtain ⟨rfl, rfl, rfl, u1⟩ := q1
          have a2 := (adv_wf (t := t) h1.2.1).2.2 (by rcases hop with e_ | e_ <;> rw [e_] <;> decide)
          refine s_aload_n (tb_ok aX8_added3_0 22 rfl) rfl ?_
          refine s_cV (as := []) (tb_ok aX8_added3_0 23 rfl) v_RX8_269 (hi _ _ _ u1) (by omega) rfl rfl rfl rfl rfl (Nat.le_of_ble_eq_true rfl) (by decide) (fun r2 S2 I2 L2 R2 q2 => ?_)
          obtain ⟨rfl, rfl, v3_, rfl, u3⟩ := q2
          cases e3_ : P (adv t n s1) with
          | inr g3_ =>
            rw [e3_] at u3
            have u3 : RBad I0 g3_ _ := u3
            rw [loopP, if_pos hop, e3_] at hres
            refine s_istore_n (ls' := [some (.ref 66), some (.int x), some (.int (0)), some (.int v3_)]) (tb_ok aX8_added3_1 0 rfl) rfl rfl ?_
            refine s_iload_n (tb_ok aX8_added3_1 1 rfl) rfl ?_
            refine s_if_eq (tgt := 59) (tb_ok aX8_added3_1 2 rfl) (by decide) (fun c50 => ?_) (fun c50 => ?_)
            · refine s_iload_n (tb_ok aX8_added3_1 7 rfl) rfl ?_
              refine s_iload_n (tb_ok aX8_added3_1 8 rfl) rfl ?_
              refine s_isub (tb_ok aX8_added3_1 9 rfl) ?_
              refine s_name (fun x1 ex1 => ?_)
              refine s_istore_n (ls' := [some (.ref 66), some (.int x1), some (.int (0)), some (.int v3_)]) (tb_ok aX8_added3_1 10 rfl) rfl rfl ?_
              refine s_goto (tgt := 5) (tb_ok aX8_added3_1 11 rfl) (by decide) ?_
              refine L_added3 hT hd _ _ _ u3 (fun v => ⟨rfl, rfl, _, rfl, ?_⟩)
              rw [← hres]
              exact u3
            · exact absurd c50 (by decide)
          | inl qq =>
            obtain ⟨c3_, f3_, s3_⟩ := qq
            rw [e3_] at u3
            obtain ⟨w3_, u3⟩ := u3
            have w3_ : v3_ = f3_ nm := w3_
            have u3 : ROk t n 3 I0 s3_ _ _ := u3
            have b3_ := Nice.two (t := t) hN u1.2.1 e3_
            rw [loopP, if_pos hop, e3_] at hres
            refine s_istore_n (ls' := [some (.ref 66), some (.int x), some (.int (0)), some (.int v3_)]) (tb_ok aX8_added3_1 0 rfl) rfl rfl ?_
            refine s_iload_n (tb_ok aX8_added3_1 1 rfl) rfl ?_
            refine s_if_eq (tgt := 59) (tb_ok aX8_added3_1 2 rfl) (by decide) (fun c50 => ?_) (fun c50 => ?_)
            · refine s_iload_n (tb_ok aX8_added3_1 7 rfl) rfl ?_
              refine s_iload_n (tb_ok aX8_added3_1 8 rfl) rfl ?_
              refine s_isub (tb_ok aX8_added3_1 9 rfl) ?_
              refine s_name (fun x2 ex2 => ?_)
              refine s_istore_n (ls' := [some (.ref 66), some (.int x2), some (.int (0)), some (.int v3_)]) (tb_ok aX8_added3_1 10 rfl) rfl rfl ?_
              refine s_goto (tgt := 5) (tb_ok aX8_added3_1 11 rfl) (by decide) ?_
              refine ih _ _ _ _ _ _ _ x2 ?_ u3 (by omega) hres
              show x2 = of2 (cdS s1.tok) (f nm) _
              first | (rw [show cdS s1.tok = 30000 from if_pos h43, of2_add, ex2, hx, w3_]; done) | (rw [show cdS s1.tok = 30001 from if_neg h43, of2_sub, ex2, hx, w3_]; done)
            · exact absurd c50 (by decide)
        · have h43 : s1.tok = 43 := i64_inj.mp (hwr.symm.trans ((cmp_eq _ _).mp c31))
          refine s_iconst (v := 1) (tb_ok aX8_added3_0 16 rfl) (by decide) ?_
          refine s_goto (tgt := 39) (tb_ok aX8_added3_0 17 rfl) (by decide) ?_
          refine s_istore_n (ls' := [some (.ref 66), some (.int x), some (.int (1)), o3]) (tb_ok aX8_added3_0 19 rfl) rfl rfl ?_
          refine s_aload_n (tb_ok aX8_added3_0 20 rfl) rfl ?_
          refine s_cV (as := []) (tb_ok aX8_added3_0 21 rfl) v_RX8_190 (R_next hT h1 (by rcases hop with e_ | e_ <;> rw [e_] <;> decide) (by rcases hop with e_ | e_ <;> rw [e_] <;> decide)) (by omega) rfl rfl rfl rfl rfl (Nat.le_of_ble_eq_true rfl) (by decide) (fun r3 S3 I3 L3 R3 q3 => ?_)
          obtain ⟨rfl, rfl, rfl, u4⟩ := q3
          have a5 := (adv_wf (t := t) h1.2.1).2.2 (by rcases hop with e_ | e_ <;> rw [e_] <;> decide)
          refine s_aload_n (tb_ok aX8_added3_0 22 rfl) rfl ?_
          refine s_cV (as := []) (tb_ok aX8_added3_0 23 rfl) v_RX8_269 (hi _ _ _ u4) (by omega) rfl rfl rfl rfl rfl (Nat.le_of_ble_eq_true rfl) (by decide) (fun r4 S4 I4 L4 R4 q4 => ?_)
          obtain ⟨rfl, rfl, v6_, rfl, u6⟩ := q4
          cases e6_ : P (adv t n s1) with
          | inr g6_ =>
            rw [e6_] at u6
            have u6 : RBad I0 g6_ _ := u6
            rw [loopP, if_pos hop, e6_] at hres
            refine s_istore_n (ls' := [some (.ref 66), some (.int x), some (.int (1)), some (.int v6_)]) (tb_ok aX8_added3_1 0 rfl) rfl rfl ?_
            refine s_iload_n (tb_ok aX8_added3_1 1 rfl) rfl ?_
            refine s_if_eq (tgt := 59) (tb_ok aX8_added3_1 2 rfl) (by decide) (fun c50 => ?_) (fun c50 => ?_)
            · exact absurd c50 (by decide)
            · refine s_iload_n (tb_ok aX8_added3_1 3 rfl) rfl ?_
              refine s_iload_n (tb_ok aX8_added3_1 4 rfl) rfl ?_
              refine s_iadd (tb_ok aX8_added3_1 5 rfl) ?_
              refine s_goto (tgt := 62) (tb_ok aX8_added3_1 6 rfl) (by decide) ?_
              refine s_name (fun x3 ex3 => ?_)
              refine s_istore_n (ls' := [some (.ref 66), some (.int x3), some (.int (1)), some (.int v6_)]) (tb_ok aX8_added3_1 10 rfl) rfl rfl ?_
              refine s_goto (tgt := 5) (tb_ok aX8_added3_1 11 rfl) (by decide) ?_
              refine L_added3 hT hd _ _ _ u6 (fun v => ⟨rfl, rfl, _, rfl, ?_⟩)
              rw [← hres]
              exact u6
          | inl qq =>
            obtain ⟨c6_, f6_, s6_⟩ := qq
            rw [e6_] at u6
            obtain ⟨w6_, u6⟩ := u6
            have w6_ : v6_ = f6_ nm := w6_
            have u6 : ROk t n 3 I0 s6_ _ _ := u6
            have b6_ := Nice.two (t := t) hN u4.2.1 e6_
            rw [loopP, if_pos hop, e6_] at hres
            refine s_istore_n (ls' := [some (.ref 66), some (.int x), some (.int (1)), some (.int v6_)]) (tb_ok aX8_added3_1 0 rfl) rfl rfl ?_
            refine s_iload_n (tb_ok aX8_added3_1 1 rfl) rfl ?_
            refine s_if_eq (tgt := 59) (tb_ok aX8_added3_1 2 rfl) (by decide) (fun c50 => ?_) (fun c50 => ?_)
            · exact absurd c50 (by decide)
            · refine s_iload_n (tb_ok aX8_added3_1 3 rfl) rfl ?_
              refine s_iload_n (tb_ok aX8_added3_1 4 rfl) rfl ?_
              refine s_iadd (tb_ok aX8_added3_1 5 rfl) ?_
              refine s_goto (tgt := 62) (tb_ok aX8_added3_1 6 rfl) (by decide) ?_
              refine s_name (fun x4 ex4 => ?_)
              refine s_istore_n (ls' := [some (.ref 66), some (.int x4), some (.int (1)), some (.int v6_)]) (tb_ok aX8_added3_1 10 rfl) rfl rfl ?_
              refine s_goto (tgt := 5) (tb_ok aX8_added3_1 11 rfl) (by decide) ?_
              refine ih _ _ _ _ _ _ _ x4 ?_ u6 (by omega) hres
              show x4 = of2 (cdS s1.tok) (f nm) _
              first | (rw [show cdS s1.tok = 30000 from if_pos h43, of2_add, ex4, hx, w6_]; done) | (rw [show cdS s1.tok = 30001 from if_neg h43, of2_sub, ex4, hx, w6_]; done)
      · refine s_aload_n (tb_ok aX8_added3_0 7 rfl) rfl ?_
        refine s_bipush (v := 45) (tb_ok aX8_added3_0 8 rfl) (by decide) ?_
        refine s_cVp (as := [.int (45)]) (tb_ok aX8_added3_0 9 rfl) v_RX8_215 (R_isSign (I0 := I0) h1.2.2.1 h1.2.2.2.2.2 (by decide)) (by omega) rfl rfl rfl rfl rfl (Nat.le_of_ble_eq_true rfl) (by decide) ?_
        refine s_if_eq (tgt := 66) (tb_ok aX8_added3_0 10 rfl) (by decide) (fun c20 => ?_) (fun c20 => ?_)
        · refine s_iload_n (tb_ok aX8_added3_1 12 rfl) rfl ?_
          refine s_iret (tb_ok aX8_added3_1 13 rfl) rfl ?_
          refine ⟨rfl, rfl, _, rfl, ?_⟩
          rw [← hres, loopP, if_neg (fun h_ => h_.elim (bI_0.mp c11) (bI_0.mp c20))]
          exact ⟨hx, h1⟩
        · have hop : opS s1.tok := by first | exact Or.inl (bI_n c11) | exact Or.inr (bI_n c20)
          have hwr := h1.wrth (by rcases hop with e_ | e_ <;> rw [e_] <;> decide)
          refine s_aload_n (tb_ok aX8_added3_0 11 rfl) rfl ?_
          refine s_getL (tb_ok aX8_added3_0 12 rfl) f_RX8_167 rfl rfl rfl ?_
          refine s_ldc2 (tb_ok aX8_added3_0 13 rfl) k_RX8_232 ?_
          refine s_lcmp (tb_ok aX8_added3_0 14 rfl) ?_
          refine s_if_ne (tgt := 38) (tb_ok aX8_added3_0 15 rfl) (by decide) (fun c31 => ?_) (fun c31 => ?_)
          · have h43 : ¬ s1.tok = 43 := fun e_ => c31 ((cmp_eq _ _).mpr (hwr.trans (by rw [e_]; rfl)))
            refine s_iconst (v := 0) (tb_ok aX8_added3_0 18 rfl) (by decide) ?_
            refine s_istore_n (ls' := [some (.ref 66), some (.int x), some (.int (0)), o3]) (tb_ok aX8_added3_0 19 rfl) rfl rfl ?_
            refine s_aload_n (tb_ok aX8_added3_0 20 rfl) rfl ?_
            refine s_cV (as := []) (tb_ok aX8_added3_0 21 rfl) v_RX8_190 (R_next hT h1 (by rcases hop with e_ | e_ <;> rw [e_] <;> decide) (by rcases hop with e_ | e_ <;> rw [e_] <;> decide)) (by omega) rfl rfl rfl rfl rfl (Nat.le_of_ble_eq_true rfl) (by decide) (fun r5 S5 I5 L5 R5 q5 => ?_)
            obtain ⟨rfl, rfl, rfl, u7⟩ := q5
            have a8 := (adv_wf (t := t) h1.2.1).2.2 (by rcases hop with e_ | e_ <;> rw [e_] <;> decide)
            refine s_aload_n (tb_ok aX8_added3_0 22 rfl) rfl ?_
            refine s_cV (as := []) (tb_ok aX8_added3_0 23 rfl) v_RX8_269 (hi _ _ _ u7) (by omega) rfl rfl rfl rfl rfl (Nat.le_of_ble_eq_true rfl) (by decide) (fun r6 S6 I6 L6 R6 q6 => ?_)
            obtain ⟨rfl, rfl, v9_, rfl, u9⟩ := q6
            cases e9_ : P (adv t n s1) with
            | inr g9_ =>
              rw [e9_] at u9
              have u9 : RBad I0 g9_ _ := u9
              rw [loopP, if_pos hop, e9_] at hres
              refine s_istore_n (ls' := [some (.ref 66), some (.int x), some (.int (0)), some (.int v9_)]) (tb_ok aX8_added3_1 0 rfl) rfl rfl ?_
              refine s_iload_n (tb_ok aX8_added3_1 1 rfl) rfl ?_
              refine s_if_eq (tgt := 59) (tb_ok aX8_added3_1 2 rfl) (by decide) (fun c50 => ?_) (fun c50 => ?_)
              · refine s_iload_n (tb_ok aX8_added3_1 7 rfl) rfl ?_
                refine s_iload_n (tb_ok aX8_added3_1 8 rfl) rfl ?_
                refine s_isub (tb_ok aX8_added3_1 9 rfl) ?_
                refine s_name (fun x5 ex5 => ?_)
                refine s_istore_n (ls' := [some (.ref 66), some (.int x5), some (.int (0)), some (.int v9_)]) (tb_ok aX8_added3_1 10 rfl) rfl rfl ?_
                refine s_goto (tgt := 5) (tb_ok aX8_added3_1 11 rfl) (by decide) ?_
                refine L_added3 hT hd _ _ _ u9 (fun v => ⟨rfl, rfl, _, rfl, ?_⟩)
                rw [← hres]
                exact u9
              · exact absurd c50 (by decide)
            | inl qq =>
              obtain ⟨c9_, f9_, s9_⟩ := qq
              rw [e9_] at u9
              obtain ⟨w9_, u9⟩ := u9
              have w9_ : v9_ = f9_ nm := w9_
              have u9 : ROk t n 3 I0 s9_ _ _ := u9
              have b9_ := Nice.two (t := t) hN u7.2.1 e9_
              rw [loopP, if_pos hop, e9_] at hres
              refine s_istore_n (ls' := [some (.ref 66), some (.int x), some (.int (0)), some (.int v9_)]) (tb_ok aX8_added3_1 0 rfl) rfl rfl ?_
              refine s_iload_n (tb_ok aX8_added3_1 1 rfl) rfl ?_
              refine s_if_eq (tgt := 59) (tb_ok aX8_added3_1 2 rfl) (by decide) (fun c50 => ?_) (fun c50 => ?_)
              · refine s_iload_n (tb_ok aX8_added3_1 7 rfl) rfl ?_
                refine s_iload_n (tb_ok aX8_added3_1 8 rfl) rfl ?_
                refine s_isub (tb_ok aX8_added3_1 9 rfl) ?_
                refine s_name (fun x6 ex6 => ?_)
                refine s_istore_n (ls' := [some (.ref 66), some (.int x6), some (.int (0)), some (.int v9_)]) (tb_ok aX8_added3_1 10 rfl) rfl rfl ?_
                refine s_goto (tgt := 5) (tb_ok aX8_added3_1 11 rfl) (by decide) ?_
                refine ih _ _ _ _ _ _ _ x6 ?_ u9 (by omega) hres
                show x6 = of2 (cdS s1.tok) (f nm) _
                first | (rw [show cdS s1.tok = 30000 from if_pos h43, of2_add, ex6, hx, w9_]; done) | (rw [show cdS s1.tok = 30001 from if_neg h43, of2_sub, ex6, hx, w9_]; done)
              · exact absurd c50 (by decide)
          · have h43 : s1.tok = 43 := i64_inj.mp (hwr.symm.trans ((cmp_eq _ _).mp c31))
            refine s_iconst (v := 1) (tb_ok aX8_added3_0 16 rfl) (by decide) ?_
            refine s_goto (tgt := 39) (tb_ok aX8_added3_0 17 rfl) (by decide) ?_
            refine s_istore_n (ls' := [some (.ref 66), some (.int x), some (.int (1)), o3]) (tb_ok aX8_added3_0 19 rfl) rfl rfl ?_
            refine s_aload_n (tb_ok aX8_added3_0 20 rfl) rfl ?_
            refine s_cV (as := []) (tb_ok aX8_added3_0 21 rfl) v_RX8_190 (R_next hT h1 (by rcases hop with e_ | e_ <;> rw [e_] <;> decide) (by rcases hop with e_ | e_ <;> rw [e_] <;> decide)) (by omega) rfl rfl rfl rfl rfl (Nat.le_of_ble_eq_true rfl) (by decide) (fun r7 S7 I7 L7 R7 q7 => ?_)
            obtain ⟨rfl, rfl, rfl, u10⟩ := q7
            have a11 := (adv_wf (t := t) h1.2.1).2.2 (by rcases hop with e_ | e_ <;> rw [e_] <;> decide)
            refine s_aload_n (tb_ok aX8_added3_0 22 rfl) rfl ?_
            refine s_cV (as := []) (tb_ok aX8_added3_0 23 rfl) v_RX8_269 (hi _ _ _ u10) (by omega) rfl rfl rfl rfl rfl (Nat.le_of_ble_eq_true rfl) (by decide) (fun r8 S8 I8 L8 R8 q8 => ?_)
            obtain ⟨rfl, rfl, v12_, rfl, u12⟩ := q8
            cases e12_ : P (adv t n s1) with
            | inr g12_ =>
              rw [e12_] at u12
              have u12 : RBad I0 g12_ _ := u12
              rw [loopP, if_pos hop, e12_] at hres
              refine s_istore_n (ls' := [some (.ref 66), some (.int x), some (.int (1)), some (.int v12_)]) (tb_ok aX8_added3_1 0 rfl) rfl rfl ?_
              refine s_iload_n (tb_ok aX8_added3_1 1 rfl) rfl ?_
              refine s_if_eq (tgt := 59) (tb_ok aX8_added3_1 2 rfl) (by decide) (fun c50 => ?_) (fun c50 => ?_)
              · exact absurd c50 (by decide)
              · refine s_iload_n (tb_ok aX8_added3_1 3 rfl) rfl ?_
                refine s_iload_n (tb_ok aX8_added3_1 4 rfl) rfl ?_
                refine s_iadd (tb_ok aX8_added3_1 5 rfl) ?_
                refine s_goto (tgt := 62) (tb_ok aX8_added3_1 6 rfl) (by decide) ?_
                refine s_name (fun x7 ex7 => ?_)
                refine s_istore_n (ls' := [some (.ref 66), some (.int x7), some (.int (1)), some (.int v12_)]) (tb_ok aX8_added3_1 10 rfl) rfl rfl ?_
                refine s_goto (tgt := 5) (tb_ok aX8_added3_1 11 rfl) (by decide) ?_
                refine L_added3 hT hd _ _ _ u12 (fun v => ⟨rfl, rfl, _, rfl, ?_⟩)
                rw [← hres]
                exact u12
            | inl qq =>
              obtain ⟨c12_, f12_, s12_⟩ := qq
              rw [e12_] at u12
              obtain ⟨w12_, u12⟩ := u12
              have w12_ : v12_ = f12_ nm := w12_
              have u12 : ROk t n 3 I0 s12_ _ _ := u12
              have b12_ := Nice.two (t := t) hN u10.2.1 e12_
              rw [loopP, if_pos hop, e12_] at hres
              refine s_istore_n (ls' := [some (.ref 66), some (.int x), some (.int (1)), some (.int v12_)]) (tb_ok aX8_added3_1 0 rfl) rfl rfl ?_
              refine s_iload_n (tb_ok aX8_added3_1 1 rfl) rfl ?_
              refine s_if_eq (tgt := 59) (tb_ok aX8_added3_1 2 rfl) (by decide) (fun c50 => ?_) (fun c50 => ?_)
              · exact absurd c50 (by decide)
              · refine s_iload_n (tb_ok aX8_added3_1 3 rfl) rfl ?_
                refine s_iload_n (tb_ok aX8_added3_1 4 rfl) rfl ?_
                refine s_iadd (tb_ok aX8_added3_1 5 rfl) ?_
                refine s_goto (tgt := 62) (tb_ok aX8_added3_1 6 rfl) (by decide) ?_
                refine s_name (fun x8 ex8 => ?_)
                refine s_istore_n (ls' := [some (.ref 66), some (.int x8), some (.int (1)), some (.int v12_)]) (tb_ok aX8_added3_1 10 rfl) rfl rfl ?_
                refine s_goto (tgt := 5) (tb_ok aX8_added3_1 11 rfl) (by decide) ?_
                refine ih _ _ _ _ _ _ _ x8 ?_ u12 (by omega) hres
                show x8 = of2 (cdS s1.tok) (f nm) _
                first | (rw [show cdS s1.tok = 30000 from if_pos h43, of2_add, ex8, hx, w12_]; done) | (rw [show cdS s1.tok = 30001 from if_neg h43, of2_sub, ex8, hx, w12_]; done)
  refine ev_of (by decide +kernel) rfl ?_
  show SW X _ _ _ 0 [some (.ref 66), none, none, none] [] S0 I L (R0 q) _
  refine s_aload_n (tb_ok aX8_added3_0 0 rfl) rfl ?_
  refine s_cV (as := []) (tb_ok aX8_added3_0 1 rfl) v_RX8_269 (hi _ _ _ h) (by omega) rfl rfl rfl rfl rfl (Nat.le_of_ble_eq_true rfl) (by decide) (fun r1 S1 I1 L1 R1 q1 => ?_)
  obtain ⟨rfl, rfl, v13_, rfl, u13⟩ := q1
  cases e13_ : P s with
  | inr g13_ =>
    rw [e13_] at u13
    have u13 : RBad I0 g13_ _ := u13
    have hsq : (seqP t n opS cdS P) s = .inr g13_ := by unfold seqP; rw [e13_]
    refine s_istore_n (ls' := [some (.ref 66), some (.int v13_), none, none]) (tb_ok aX8_added3_0 2 rfl) rfl rfl ?_
    refine L_added3 hT hd _ _ _ u13 (fun v => ⟨rfl, rfl, _, rfl, ?_⟩)
    rw [hsq]
    exact u13
  | inl qq =>
    obtain ⟨c13_, f13_, s13_⟩ := qq
    rw [e13_] at u13
    obtain ⟨w13_, u13⟩ := u13
    have w13_ : v13_ = f13_ nm := w13_
    have u13 : ROk t n 3 I0 s13_ _ _ := u13
    have b13_ := Nice.two (t := t) hN h.2.1 e13_
    have hsq : (seqP t n opS cdS P) s = loopP t n opS cdS P 160 c13_ f13_ s13_ := by unfold seqP; rw [e13_]
    refine s_istore_n (ls' := [some (.ref 66), some (.int v13_), none, none]) (tb_ok aX8_added3_0 2 rfl) rfl rfl ?_
    exact loop 160 _ _ _ _ _ _ _ _ w13_ u13 (by omega) hsq.symm

set_option maxRecDepth 100000 in
set_option maxHeartbeats 1000000 in
theorem C_not3 {X : En} {q : Nat × Nat} {I0 : FI} {F n : Nat} {t nm : Nat → Int32} (hT : TxX I0 F n t nm) {d : Nat} (hd : 3 < d) {d1 d2 : Nat} (hd1 : d1 < d) (hd2 : d2 < d) {P : Pa} (hc : CtX X q t nm n I0 d1 mX8_added3 3 P) {q2 : Pa × Pa × Pa} (hi : CtX X q t nm n I0 d2 mX8_not4 4 q2.2.1) : CtX X q t nm n I0 d mX8_not3 3 (notP t n (some q2) (cmpP t n P)) := by
  intro I L s h
  obtain ⟨hF, hn, hn160, hFn, ht, ht0, hnm⟩ := id hT
  refine ev_of (by decide +kernel) rfl ?_
  show SW X _ _ _ 0 [some (.ref 66), none, none, none] [] S0 I L (R0 q) _
  refine s_aload_n (tb_ok aX8_not3_0 0 rfl) rfl ?_
  refine s_bipush (v := 110) (tb_ok aX8_not3_0 1 rfl) (by decide) ?_
  refine s_bipush (v := 111) (tb_ok aX8_not3_0 2 rfl) (by decide) ?_
  refine s_bipush (v := 116) (tb_ok aX8_not3_0 3 rfl) (by decide) ?_
  refine s_iconst (v := 0) (tb_ok aX8_not3_0 4 rfl) (by decide) ?_
  refine s_iconst (v := 0) (tb_ok aX8_not3_0 5 rfl) (by decide) ?_
  refine s_iconst (v := 0) (tb_ok aX8_not3_0 6 rfl) (by decide) ?_
  refine s_iconst (v := 0) (tb_ok aX8_not3_0 7 rfl) (by decide) ?_
  refine s_iconst (v := 0) (tb_ok aX8_not3_0 8 rfl) (by decide) ?_
  refine s_cVp (as := [.int (110), .int (111), .int (116), .int (0), .int (0), .int (0), .int (0), .int (0)]) (tb_ok aX8_not3_0 9 rfl) v_RX8_193 (R_isWord hT h 11 (by decide)) (by omega) rfl rfl rfl rfl rfl (Nat.le_of_ble_eq_true rfl) (by decide) ?_
  refine s_topi (bI_congr (isK_key (k := 11) (j := 9) (by decide) rfl)) ?_
  refine s_if_eq (tgt := 52) (tb_ok aX8_not3_0 10 rfl) (by decide) (fun c15 => ?_) (fun c15 => ?_)
  · have n9 : ¬ s.tok = 9 := bI_0.mp c15
    refine s_aload_n (tb_ok aX8_not3_1 7 rfl) rfl ?_
    refine s_cV (as := []) (tb_ok aX8_not3_1 8 rfl) v_RX8_272 (hc _ _ _ h) (by omega) rfl rfl rfl rfl rfl (Nat.le_of_ble_eq_true rfl) (by decide) (fun r1 S1 I1 L1 R1 q1 => ?_)
    obtain ⟨rfl, rfl, v1_, rfl, u1⟩ := q1
    cases e1_ : P s with
    | inr g1_ =>
      rw [e1_] at u1
      have u1 : RBad I0 g1_ _ := u1
      have hsq : (notP t n (some q2) (cmpP t n P)) s = .inr g1_ := by
        unfold notP
        rw [if_neg n9]
        unfold cmpP
        rw [e1_]
      refine s_istore_n (ls' := [some (.ref 66), some (.int v1_), none, none]) (tb_ok aX8_not3_1 9 rfl) rfl rfl ?_
      refine s_aload_n (tb_ok aX8_not3_1 10 rfl) rfl ?_
      refine s_bipush (v := 60) (tb_ok aX8_not3_1 11 rfl) (by decide) ?_
      refine s_cVp (as := [.int (60)]) (tb_ok aX8_not3_1 12 rfl) v_RX8_215 (R_isSignE (I0 := I0) u1.2.1) (by omega) rfl rfl rfl rfl rfl (Nat.le_of_ble_eq_true rfl) (by decide) ?_
      refine s_if_ne (tgt := 77) (tb_ok aX8_not3_1 13 rfl) (by decide) (fun c63 => ?_) (fun c63 => ?_)
      · exact absurd c63 (by decide)
      · refine s_aload_n (tb_ok aX8_not3_1 14 rfl) rfl ?_
        refine s_bipush (v := 61) (tb_ok aX8_not3_1 15 rfl) (by decide) ?_
        refine s_cVp (as := [.int (61)]) (tb_ok aX8_not3_1 16 rfl) v_RX8_215 (R_isSignE (I0 := I0) u1.2.1) (by omega) rfl rfl rfl rfl rfl (Nat.le_of_ble_eq_true rfl) (by decide) ?_
        refine s_if_ne (tgt := 77) (tb_ok aX8_not3_1 17 rfl) (by decide) (fun c72 => ?_) (fun c72 => ?_)
        · exact absurd c72 (by decide)
        · refine s_iload_n (tb_ok aX8_not3_1 18 rfl) rfl ?_
          refine s_iret (tb_ok aX8_not3_1 19 rfl) rfl ?_
          refine ⟨rfl, rfl, _, rfl, ?_⟩
          rw [hsq]
          exact u1
    | inl qq =>
      obtain ⟨c1_, f1_, s1_⟩ := qq
      rw [e1_] at u1
      obtain ⟨w1_, u1⟩ := u1
      have w1_ : v1_ = f1_ nm := w1_
      have u1 : ROk t n 3 I0 s1_ _ _ := u1
      refine s_istore_n (ls' := [some (.ref 66), some (.int v1_), none, none]) (tb_ok aX8_not3_1 9 rfl) rfl rfl ?_
      refine s_aload_n (tb_ok aX8_not3_1 10 rfl) rfl ?_
      refine s_bipush (v := 60) (tb_ok aX8_not3_1 11 rfl) (by decide) ?_
      refine s_cVp (as := [.int (60)]) (tb_ok aX8_not3_1 12 rfl) v_RX8_215 (R_isSign (I0 := I0) u1.2.2.1 u1.2.2.2.2.2 (by decide)) (by omega) rfl rfl rfl rfl rfl (Nat.le_of_ble_eq_true rfl) (by decide) ?_
      refine s_if_ne (tgt := 77) (tb_ok aX8_not3_1 13 rfl) (by decide) (fun c63 => ?_) (fun c63 => ?_)
      · have hop : s1_.tok = 60 ∨ s1_.tok = 61 := by first | exact Or.inl (bI_n c63) | exact Or.inr (bI_n c72)
        have hwr := u1.wrth (by rcases hop with e_ | e_ <;> rw [e_] <;> decide)
        refine s_aload_n (tb_ok aX8_not3_1 20 rfl) rfl ?_
        refine s_getL (tb_ok aX8_not3_1 21 rfl) f_RX8_167 rfl rfl rfl ?_
        refine s_ldc2 (tb_ok aX8_not3_1 22 rfl) k_RX8_237 ?_
        refine s_lcmp (tb_ok aX8_not3_1 23 rfl) ?_
        refine s_if_ne (tgt := 92) (tb_ok aX8_not3_2 0 rfl) (by decide) (fun c85 => ?_) (fun c85 => ?_)
        · have h60 : ¬ s1_.tok = 60 := fun e_ => c85 ((cmp_eq _ _).mpr (hwr.trans (by rw [e_]; rfl)))
          refine s_iconst (v := 0) (tb_ok aX8_not3_2 3 rfl) (by decide) ?_
          refine s_istore_n (ls' := [some (.ref 66), some (.int v1_), some (.int (0)), none]) (tb_ok aX8_not3_2 4 rfl) rfl rfl ?_
          refine s_aload_n (tb_ok aX8_not3_2 5 rfl) rfl ?_
          refine s_cV (as := []) (tb_ok aX8_not3_2 6 rfl) v_RX8_190 (R_next hT u1 (by rcases hop with e_ | e_ <;> rw [e_] <;> decide) (by rcases hop with e_ | e_ <;> rw [e_] <;> decide)) (by omega) rfl rfl rfl rfl rfl (Nat.le_of_ble_eq_true rfl) (by decide) (fun r2 S2 I2 L2 R2 q2 => ?_)
          obtain ⟨rfl, rfl, rfl, u2⟩ := q2
          have a3 := (adv_wf (t := t) u1.2.1).2.2 (by rcases hop with e_ | e_ <;> rw [e_] <;> decide)
          refine s_aload_n (tb_ok aX8_not3_2 7 rfl) rfl ?_
          refine s_cV (as := []) (tb_ok aX8_not3_2 8 rfl) v_RX8_272 (hc _ _ _ u2) (by omega) rfl rfl rfl rfl rfl (Nat.le_of_ble_eq_true rfl) (by decide) (fun r3 S3 I3 L3 R3 q3 => ?_)
          obtain ⟨rfl, rfl, v4_, rfl, u4⟩ := q3
          cases e4_ : P (adv t n s1_) with
          | inr g4_ =>
            rw [e4_] at u4
            have u4 : RBad I0 g4_ _ := u4
            have hsq : (notP t n (some q2) (cmpP t n P)) s = .inr g4_ := by
              unfold notP
              rw [if_neg n9]
              unfold cmpP
              rw [e1_]
              show (if s1_.tok = 60 ∨ s1_.tok = 61 then _ else _) = _
              rw [if_pos hop, e4_]
            refine s_istore_n (ls' := [some (.ref 66), some (.int v1_), some (.int (0)), some (.int v4_)]) (tb_ok aX8_not3_2 9 rfl) rfl rfl ?_
            refine s_iload_n (tb_ok aX8_not3_2 10 rfl) rfl ?_
            refine s_if_eq (tgt := 115) (tb_ok aX8_not3_2 11 rfl) (by decide) (fun c104 => ?_) (fun c104 => ?_)
            · refine s_iload_n (tb_ok aX8_not3_2 16 rfl) rfl ?_
              refine s_iload_n (tb_ok aX8_not3_2 17 rfl) rfl ?_
              refine s_icmp_ne (tgt := 124) (tb_ok aX8_not3_2 18 rfl) (by decide) (fun c117 => ?_) (fun c117 => ?_)
              · refine s_iconst (v := 0) (tb_ok aX8_not3_2 21 rfl) (by decide) ?_
                refine s_iret (tb_ok aX8_not3_2 22 rfl) rfl ?_
                refine ⟨rfl, rfl, _, rfl, ?_⟩
                rw [hsq]
                exact u4
              · refine s_iconst (v := 1) (tb_ok aX8_not3_2 19 rfl) (by decide) ?_
                refine s_goto (tgt := 125) (tb_ok aX8_not3_2 20 rfl) (by decide) ?_
                refine s_iret (tb_ok aX8_not3_2 22 rfl) rfl ?_
                refine ⟨rfl, rfl, _, rfl, ?_⟩
                rw [hsq]
                exact u4
            · exact absurd c104 (by decide)
          | inl qq =>
            obtain ⟨c4_, f4_, s4_⟩ := qq
            rw [e4_] at u4
            obtain ⟨w4_, u4⟩ := u4
            have w4_ : v4_ = f4_ nm := w4_
            have u4 : ROk t n 3 I0 s4_ _ _ := u4
            have hsq : (notP t n (some q2) (cmpP t n P)) s = .inl (c1_ ++ c4_ ++ [cdC s1_.tok], (fun nm => of2 (cdC s1_.tok) (f1_ nm) (f4_ nm)), s4_) := by
              unfold notP
              rw [if_neg n9]
              unfold cmpP
              rw [e1_]
              show (if s1_.tok = 60 ∨ s1_.tok = 61 then _ else _) = _
              rw [if_pos hop, e4_]
            refine s_istore_n (ls' := [some (.ref 66), some (.int v1_), some (.int (0)), some (.int v4_)]) (tb_ok aX8_not3_2 9 rfl) rfl rfl ?_
            refine s_iload_n (tb_ok aX8_not3_2 10 rfl) rfl ?_
            refine s_if_eq (tgt := 115) (tb_ok aX8_not3_2 11 rfl) (by decide) (fun c104 => ?_) (fun c104 => ?_)
            · refine s_iload_n (tb_ok aX8_not3_2 16 rfl) rfl ?_
              refine s_iload_n (tb_ok aX8_not3_2 17 rfl) rfl ?_
              refine s_icmp_ne (tgt := 124) (tb_ok aX8_not3_2 18 rfl) (by decide) (fun c117 => ?_) (fun c117 => ?_)
              · refine s_iconst (v := 0) (tb_ok aX8_not3_2 21 rfl) (by decide) ?_
                refine s_iret (tb_ok aX8_not3_2 22 rfl) rfl ?_
                refine ⟨rfl, rfl, _, rfl, ?_⟩
                rw [hsq]
                refine ⟨?_, u4⟩
                show ((0) : Int32) = of2 (cdC s1_.tok) (f1_ nm) _
                first | (rw [show cdC s1_.tok = 30003 from if_pos h60, of2_lt, ← w1_, ← w4_]; first | exact (bI_f (Int32.not_lt.mpr c109)).symm | exact (bI_t (Int32.not_le.mp c109)).symm) | (rw [show cdC s1_.tok = 30004 from if_neg h60, of2_eq, ← w1_, ← w4_]; first | exact (bI_t c117).symm | exact (bI_f c117).symm)
              · refine s_iconst (v := 1) (tb_ok aX8_not3_2 19 rfl) (by decide) ?_
                refine s_goto (tgt := 125) (tb_ok aX8_not3_2 20 rfl) (by decide) ?_
                refine s_iret (tb_ok aX8_not3_2 22 rfl) rfl ?_
                refine ⟨rfl, rfl, _, rfl, ?_⟩
                rw [hsq]
                refine ⟨?_, u4⟩
                show ((1) : Int32) = of2 (cdC s1_.tok) (f1_ nm) _
                first | (rw [show cdC s1_.tok = 30003 from if_pos h60, of2_lt, ← w1_, ← w4_]; first | exact (bI_f (Int32.not_lt.mpr c109)).symm | exact (bI_t (Int32.not_le.mp c109)).symm) | (rw [show cdC s1_.tok = 30004 from if_neg h60, of2_eq, ← w1_, ← w4_]; first | exact (bI_t c117).symm | exact (bI_f c117).symm)
            · exact absurd c104 (by decide)
        · have h60 : s1_.tok = 60 := i64_inj.mp (hwr.symm.trans ((cmp_eq _ _).mp c85))
          refine s_iconst (v := 1) (tb_ok aX8_not3_2 1 rfl) (by decide) ?_
          refine s_goto (tgt := 93) (tb_ok aX8_not3_2 2 rfl) (by decide) ?_
          refine s_istore_n (ls' := [some (.ref 66), some (.int v1_), some (.int (1)), none]) (tb_ok aX8_not3_2 4 rfl) rfl rfl ?_
          refine s_aload_n (tb_ok aX8_not3_2 5 rfl) rfl ?_
          refine s_cV (as := []) (tb_ok aX8_not3_2 6 rfl) v_RX8_190 (R_next hT u1 (by rcases hop with e_ | e_ <;> rw [e_] <;> decide) (by rcases hop with e_ | e_ <;> rw [e_] <;> decide)) (by omega) rfl rfl rfl rfl rfl (Nat.le_of_ble_eq_true rfl) (by decide) (fun r4 S4 I4 L4 R4 q4 => ?_)
          obtain ⟨rfl, rfl, rfl, u5⟩ := q4
          have a6 := (adv_wf (t := t) u1.2.1).2.2 (by rcases hop with e_ | e_ <;> rw [e_] <;> decide)
          refine s_aload_n (tb_ok aX8_not3_2 7 rfl) rfl ?_
          refine s_cV (as := []) (tb_ok aX8_not3_2 8 rfl) v_RX8_272 (hc _ _ _ u5) (by omega) rfl rfl rfl rfl rfl (Nat.le_of_ble_eq_true rfl) (by decide) (fun r5 S5 I5 L5 R5 q5 => ?_)
          obtain ⟨rfl, rfl, v7_, rfl, u7⟩ := q5
          cases e7_ : P (adv t n s1_) with
          | inr g7_ =>
            rw [e7_] at u7
            have u7 : RBad I0 g7_ _ := u7
            have hsq : (notP t n (some q2) (cmpP t n P)) s = .inr g7_ := by
              unfold notP
              rw [if_neg n9]
              unfold cmpP
              rw [e1_]
              show (if s1_.tok = 60 ∨ s1_.tok = 61 then _ else _) = _
              rw [if_pos hop, e7_]
            refine s_istore_n (ls' := [some (.ref 66), some (.int v1_), some (.int (1)), some (.int v7_)]) (tb_ok aX8_not3_2 9 rfl) rfl rfl ?_
            refine s_iload_n (tb_ok aX8_not3_2 10 rfl) rfl ?_
            refine s_if_eq (tgt := 115) (tb_ok aX8_not3_2 11 rfl) (by decide) (fun c104 => ?_) (fun c104 => ?_)
            · exact absurd c104 (by decide)
            · refine s_iload_n (tb_ok aX8_not3_2 12 rfl) rfl ?_
              refine s_iload_n (tb_ok aX8_not3_2 13 rfl) rfl ?_
              refine s_icmp_ge (tgt := 124) (tb_ok aX8_not3_2 14 rfl) (by decide) (fun c109 => ?_) (fun c109 => ?_)
              · refine s_iconst (v := 0) (tb_ok aX8_not3_2 21 rfl) (by decide) ?_
                refine s_iret (tb_ok aX8_not3_2 22 rfl) rfl ?_
                refine ⟨rfl, rfl, _, rfl, ?_⟩
                rw [hsq]
                exact u7
              · refine s_goto (tgt := 120) (tb_ok aX8_not3_2 15 rfl) (by decide) ?_
                refine s_iconst (v := 1) (tb_ok aX8_not3_2 19 rfl) (by decide) ?_
                refine s_goto (tgt := 125) (tb_ok aX8_not3_2 20 rfl) (by decide) ?_
                refine s_iret (tb_ok aX8_not3_2 22 rfl) rfl ?_
                refine ⟨rfl, rfl, _, rfl, ?_⟩
                rw [hsq]
                exact u7
          | inl qq =>
            obtain ⟨c7_, f7_, s7_⟩ := qq
            rw [e7_] at u7
            obtain ⟨w7_, u7⟩ := u7
            have w7_ : v7_ = f7_ nm := w7_
            have u7 : ROk t n 3 I0 s7_ _ _ := u7
            have hsq : (notP t n (some q2) (cmpP t n P)) s = .inl (c1_ ++ c7_ ++ [cdC s1_.tok], (fun nm => of2 (cdC s1_.tok) (f1_ nm) (f7_ nm)), s7_) := by
              unfold notP
              rw [if_neg n9]
              unfold cmpP
              rw [e1_]
              show (if s1_.tok = 60 ∨ s1_.tok = 61 then _ else _) = _
              rw [if_pos hop, e7_]
            refine s_istore_n (ls' := [some (.ref 66), some (.int v1_), some (.int (1)), some (.int v7_)]) (tb_ok aX8_not3_2 9 rfl) rfl rfl ?_
            refine s_iload_n (tb_ok aX8_not3_2 10 rfl) rfl ?_
            refine s_if_eq (tgt := 115) (tb_ok aX8_not3_2 11 rfl) (by decide) (fun c104 => ?_) (fun c104 => ?_)
            · exact absurd c104 (by decide)
            · refine s_iload_n (tb_ok aX8_not3_2 12 rfl) rfl ?_
              refine s_iload_n (tb_ok aX8_not3_2 13 rfl) rfl ?_
              refine s_icmp_ge (tgt := 124) (tb_ok aX8_not3_2 14 rfl) (by decide) (fun c109 => ?_) (fun c109 => ?_)
              · refine s_iconst (v := 0) (tb_ok aX8_not3_2 21 rfl) (by decide) ?_
                refine s_iret (tb_ok aX8_not3_2 22 rfl) rfl ?_
                refine ⟨rfl, rfl, _, rfl, ?_⟩
                rw [hsq]
                refine ⟨?_, u7⟩
                show ((0) : Int32) = of2 (cdC s1_.tok) (f1_ nm) _
                first | (rw [show cdC s1_.tok = 30003 from if_pos h60, of2_lt, ← w1_, ← w7_]; first | exact (bI_f (Int32.not_lt.mpr c109)).symm | exact (bI_t (Int32.not_le.mp c109)).symm) | (rw [show cdC s1_.tok = 30004 from if_neg h60, of2_eq, ← w1_, ← w7_]; first | exact (bI_t c117).symm | exact (bI_f c117).symm)
              · refine s_goto (tgt := 120) (tb_ok aX8_not3_2 15 rfl) (by decide) ?_
                refine s_iconst (v := 1) (tb_ok aX8_not3_2 19 rfl) (by decide) ?_
                refine s_goto (tgt := 125) (tb_ok aX8_not3_2 20 rfl) (by decide) ?_
                refine s_iret (tb_ok aX8_not3_2 22 rfl) rfl ?_
                refine ⟨rfl, rfl, _, rfl, ?_⟩
                rw [hsq]
                refine ⟨?_, u7⟩
                show ((1) : Int32) = of2 (cdC s1_.tok) (f1_ nm) _
                first | (rw [show cdC s1_.tok = 30003 from if_pos h60, of2_lt, ← w1_, ← w7_]; first | exact (bI_f (Int32.not_lt.mpr c109)).symm | exact (bI_t (Int32.not_le.mp c109)).symm) | (rw [show cdC s1_.tok = 30004 from if_neg h60, of2_eq, ← w1_, ← w7_]; first | exact (bI_t c117).symm | exact (bI_f c117).symm)
      · refine s_aload_n (tb_ok aX8_not3_1 14 rfl) rfl ?_
        refine s_bipush (v := 61) (tb_ok aX8_not3_1 15 rfl) (by decide) ?_
        refine s_cVp (as := [.int (61)]) (tb_ok aX8_not3_1 16 rfl) v_RX8_215 (R_isSign (I0 := I0) u1.2.2.1 u1.2.2.2.2.2 (by decide)) (by omega) rfl rfl rfl rfl rfl (Nat.le_of_ble_eq_true rfl) (by decide) ?_
        refine s_if_ne (tgt := 77) (tb_ok aX8_not3_1 17 rfl) (by decide) (fun c72 => ?_) (fun c72 => ?_)
        · have hop : s1_.tok = 60 ∨ s1_.tok = 61 := by first | exact Or.inl (bI_n c63) | exact Or.inr (bI_n c72)
          have hwr := u1.wrth (by rcases hop with e_ | e_ <;> rw [e_] <;> decide)
          refine s_aload_n (tb_ok aX8_not3_1 20 rfl) rfl ?_
          refine s_getL (tb_ok aX8_not3_1 21 rfl) f_RX8_167 rfl rfl rfl ?_
          refine s_ldc2 (tb_ok aX8_not3_1 22 rfl) k_RX8_237 ?_
          refine s_lcmp (tb_ok aX8_not3_1 23 rfl) ?_
          refine s_if_ne (tgt := 92) (tb_ok aX8_not3_2 0 rfl) (by decide) (fun c85 => ?_) (fun c85 => ?_)
          · have h60 : ¬ s1_.tok = 60 := fun e_ => c85 ((cmp_eq _ _).mpr (hwr.trans (by rw [e_]; rfl)))
            refine s_iconst (v := 0) (tb_ok aX8_not3_2 3 rfl) (by decide) ?_
            refine s_istore_n (ls' := [some (.ref 66), some (.int v1_), some (.int (0)), none]) (tb_ok aX8_not3_2 4 rfl) rfl rfl ?_
            refine s_aload_n (tb_ok aX8_not3_2 5 rfl) rfl ?_
            refine s_cV (as := []) (tb_ok aX8_not3_2 6 rfl) v_RX8_190 (R_next hT u1 (by rcases hop with e_ | e_ <;> rw [e_] <;> decide) (by rcases hop with e_ | e_ <;> rw [e_] <;> decide)) (by omega) rfl rfl rfl rfl rfl (Nat.le_of_ble_eq_true rfl) (by decide) (fun r6 S6 I6 L6 R6 q6 => ?_)
            obtain ⟨rfl, rfl, rfl, u8⟩ := q6
            have a9 := (adv_wf (t := t) u1.2.1).2.2 (by rcases hop with e_ | e_ <;> rw [e_] <;> decide)
            refine s_aload_n (tb_ok aX8_not3_2 7 rfl) rfl ?_
            refine s_cV (as := []) (tb_ok aX8_not3_2 8 rfl) v_RX8_272 (hc _ _ _ u8) (by omega) rfl rfl rfl rfl rfl (Nat.le_of_ble_eq_true rfl) (by decide) (fun r7 S7 I7 L7 R7 q7 => ?_)
            obtain ⟨rfl, rfl, v10_, rfl, u10⟩ := q7
            cases e10_ : P (adv t n s1_) with
            | inr g10_ =>
              rw [e10_] at u10
              have u10 : RBad I0 g10_ _ := u10
              have hsq : (notP t n (some q2) (cmpP t n P)) s = .inr g10_ := by
                unfold notP
                rw [if_neg n9]
                unfold cmpP
                rw [e1_]
                show (if s1_.tok = 60 ∨ s1_.tok = 61 then _ else _) = _
                rw [if_pos hop, e10_]
              refine s_istore_n (ls' := [some (.ref 66), some (.int v1_), some (.int (0)), some (.int v10_)]) (tb_ok aX8_not3_2 9 rfl) rfl rfl ?_
              refine s_iload_n (tb_ok aX8_not3_2 10 rfl) rfl ?_
              refine s_if_eq (tgt := 115) (tb_ok aX8_not3_2 11 rfl) (by decide) (fun c104 => ?_) (fun c104 => ?_)
              · refine s_iload_n (tb_ok aX8_not3_2 16 rfl) rfl ?_
                refine s_iload_n (tb_ok aX8_not3_2 17 rfl) rfl ?_
                refine s_icmp_ne (tgt := 124) (tb_ok aX8_not3_2 18 rfl) (by decide) (fun c117 => ?_) (fun c117 => ?_)
                · refine s_iconst (v := 0) (tb_ok aX8_not3_2 21 rfl) (by decide) ?_
                  refine s_iret (tb_ok aX8_not3_2 22 rfl) rfl ?_
                  refine ⟨rfl, rfl, _, rfl, ?_⟩
                  rw [hsq]
                  exact u10
                · refine s_iconst (v := 1) (tb_ok aX8_not3_2 19 rfl) (by decide) ?_
                  refine s_goto (tgt := 125) (tb_ok aX8_not3_2 20 rfl) (by decide) ?_
                  refine s_iret (tb_ok aX8_not3_2 22 rfl) rfl ?_
                  refine ⟨rfl, rfl, _, rfl, ?_⟩
                  rw [hsq]
                  exact u10
              · exact absurd c104 (by decide)
            | inl qq =>
              obtain ⟨c10_, f10_, s10_⟩ := qq
              rw [e10_] at u10
              obtain ⟨w10_, u10⟩ := u10
              have w10_ : v10_ = f10_ nm := w10_
              have u10 : ROk t n 3 I0 s10_ _ _ := u10
              have hsq : (notP t n (some q2) (cmpP t n P)) s = .inl (c1_ ++ c10_ ++ [cdC s1_.tok], (fun nm => of2 (cdC s1_.tok) (f1_ nm) (f10_ nm)), s10_) := by
                unfold notP
                rw [if_neg n9]
                unfold cmpP
                rw [e1_]
                show (if s1_.tok = 60 ∨ s1_.tok = 61 then _ else _) = _
                rw [if_pos hop, e10_]
              refine s_istore_n (ls' := [some (.ref 66), some (.int v1_), some (.int (0)), some (.int v10_)]) (tb_ok aX8_not3_2 9 rfl) rfl rfl ?_
              refine s_iload_n (tb_ok aX8_not3_2 10 rfl) rfl ?_
              refine s_if_eq (tgt := 115) (tb_ok aX8_not3_2 11 rfl) (by decide) (fun c104 => ?_) (fun c104 => ?_)
              · refine s_iload_n (tb_ok aX8_not3_2 16 rfl) rfl ?_
                refine s_iload_n (tb_ok aX8_not3_2 17 rfl) rfl ?_
                refine s_icmp_ne (tgt := 124) (tb_ok aX8_not3_2 18 rfl) (by decide) (fun c117 => ?_) (fun c117 => ?_)
                · refine s_iconst (v := 0) (tb_ok aX8_not3_2 21 rfl) (by decide) ?_
                  refine s_iret (tb_ok aX8_not3_2 22 rfl) rfl ?_
                  refine ⟨rfl, rfl, _, rfl, ?_⟩
                  rw [hsq]
                  refine ⟨?_, u10⟩
                  show ((0) : Int32) = of2 (cdC s1_.tok) (f1_ nm) _
                  first | (rw [show cdC s1_.tok = 30003 from if_pos h60, of2_lt, ← w1_, ← w10_]; first | exact (bI_f (Int32.not_lt.mpr c109)).symm | exact (bI_t (Int32.not_le.mp c109)).symm) | (rw [show cdC s1_.tok = 30004 from if_neg h60, of2_eq, ← w1_, ← w10_]; first | exact (bI_t c117).symm | exact (bI_f c117).symm)
                · refine s_iconst (v := 1) (tb_ok aX8_not3_2 19 rfl) (by decide) ?_
                  refine s_goto (tgt := 125) (tb_ok aX8_not3_2 20 rfl) (by decide) ?_
                  refine s_iret (tb_ok aX8_not3_2 22 rfl) rfl ?_
                  refine ⟨rfl, rfl, _, rfl, ?_⟩
                  rw [hsq]
                  refine ⟨?_, u10⟩
                  show ((1) : Int32) = of2 (cdC s1_.tok) (f1_ nm) _
                  first | (rw [show cdC s1_.tok = 30003 from if_pos h60, of2_lt, ← w1_, ← w10_]; first | exact (bI_f (Int32.not_lt.mpr c109)).symm | exact (bI_t (Int32.not_le.mp c109)).symm) | (rw [show cdC s1_.tok = 30004 from if_neg h60, of2_eq, ← w1_, ← w10_]; first | exact (bI_t c117).symm | exact (bI_f c117).symm)
              · exact absurd c104 (by decide)
          · have h60 : s1_.tok = 60 := i64_inj.mp (hwr.symm.trans ((cmp_eq _ _).mp c85))
            refine s_iconst (v := 1) (tb_ok aX8_not3_2 1 rfl) (by decide) ?_
            refine s_goto (tgt := 93) (tb_ok aX8_not3_2 2 rfl) (by decide) ?_
            refine s_istore_n (ls' := [some (.ref 66), some (.int v1_), some (.int (1)), none]) (tb_ok aX8_not3_2 4 rfl) rfl rfl ?_
            refine s_aload_n (tb_ok aX8_not3_2 5 rfl) rfl ?_
            refine s_cV (as := []) (tb_ok aX8_not3_2 6 rfl) v_RX8_190 (R_next hT u1 (by rcases hop with e_ | e_ <;> rw [e_] <;> decide) (by rcases hop with e_ | e_ <;> rw [e_] <;> decide)) (by omega) rfl rfl rfl rfl rfl (Nat.le_of_ble_eq_true rfl) (by decide) (fun r8 S8 I8 L8 R8 q8 => ?_)
            obtain ⟨rfl, rfl, rfl, u11⟩ := q8
            have a12 := (adv_wf (t := t) u1.2.1).2.2 (by rcases hop with e_ | e_ <;> rw [e_] <;> decide)
            refine s_aload_n (tb_ok aX8_not3_2 7 rfl) rfl ?_
            refine s_cV (as := []) (tb_ok aX8_not3_2 8 rfl) v_RX8_272 (hc _ _ _ u11) (by omega) rfl rfl rfl rfl rfl (Nat.le_of_ble_eq_true rfl) (by decide) (fun r9 S9 I9 L9 R9 q9 => ?_)
            obtain ⟨rfl, rfl, v13_, rfl, u13⟩ := q9
            cases e13_ : P (adv t n s1_) with
            | inr g13_ =>
              rw [e13_] at u13
              have u13 : RBad I0 g13_ _ := u13
              have hsq : (notP t n (some q2) (cmpP t n P)) s = .inr g13_ := by
                unfold notP
                rw [if_neg n9]
                unfold cmpP
                rw [e1_]
                show (if s1_.tok = 60 ∨ s1_.tok = 61 then _ else _) = _
                rw [if_pos hop, e13_]
              refine s_istore_n (ls' := [some (.ref 66), some (.int v1_), some (.int (1)), some (.int v13_)]) (tb_ok aX8_not3_2 9 rfl) rfl rfl ?_
              refine s_iload_n (tb_ok aX8_not3_2 10 rfl) rfl ?_
              refine s_if_eq (tgt := 115) (tb_ok aX8_not3_2 11 rfl) (by decide) (fun c104 => ?_) (fun c104 => ?_)
              · exact absurd c104 (by decide)
              · refine s_iload_n (tb_ok aX8_not3_2 12 rfl) rfl ?_
                refine s_iload_n (tb_ok aX8_not3_2 13 rfl) rfl ?_
                refine s_icmp_ge (tgt := 124) (tb_ok aX8_not3_2 14 rfl) (by decide) (fun c109 => ?_) (fun c109 => ?_)
                · refine s_iconst (v := 0) (tb_ok aX8_not3_2 21 rfl) (by decide) ?_
                  refine s_iret (tb_ok aX8_not3_2 22 rfl) rfl ?_
                  refine ⟨rfl, rfl, _, rfl, ?_⟩
                  rw [hsq]
                  exact u13
                · refine s_goto (tgt := 120) (tb_ok aX8_not3_2 15 rfl) (by decide) ?_
                  refine s_iconst (v := 1) (tb_ok aX8_not3_2 19 rfl) (by decide) ?_
                  refine s_goto (tgt := 125) (tb_ok aX8_not3_2 20 rfl) (by decide) ?_
                  refine s_iret (tb_ok aX8_not3_2 22 rfl) rfl ?_
                  refine ⟨rfl, rfl, _, rfl, ?_⟩
                  rw [hsq]
                  exact u13
            | inl qq =>
              obtain ⟨c13_, f13_, s13_⟩ := qq
              rw [e13_] at u13
              obtain ⟨w13_, u13⟩ := u13
              have w13_ : v13_ = f13_ nm := w13_
              have u13 : ROk t n 3 I0 s13_ _ _ := u13
              have hsq : (notP t n (some q2) (cmpP t n P)) s = .inl (c1_ ++ c13_ ++ [cdC s1_.tok], (fun nm => of2 (cdC s1_.tok) (f1_ nm) (f13_ nm)), s13_) := by
                unfold notP
                rw [if_neg n9]
                unfold cmpP
                rw [e1_]
                show (if s1_.tok = 60 ∨ s1_.tok = 61 then _ else _) = _
                rw [if_pos hop, e13_]
              refine s_istore_n (ls' := [some (.ref 66), some (.int v1_), some (.int (1)), some (.int v13_)]) (tb_ok aX8_not3_2 9 rfl) rfl rfl ?_
              refine s_iload_n (tb_ok aX8_not3_2 10 rfl) rfl ?_
              refine s_if_eq (tgt := 115) (tb_ok aX8_not3_2 11 rfl) (by decide) (fun c104 => ?_) (fun c104 => ?_)
              · exact absurd c104 (by decide)
              · refine s_iload_n (tb_ok aX8_not3_2 12 rfl) rfl ?_
                refine s_iload_n (tb_ok aX8_not3_2 13 rfl) rfl ?_
                refine s_icmp_ge (tgt := 124) (tb_ok aX8_not3_2 14 rfl) (by decide) (fun c109 => ?_) (fun c109 => ?_)
                · refine s_iconst (v := 0) (tb_ok aX8_not3_2 21 rfl) (by decide) ?_
                  refine s_iret (tb_ok aX8_not3_2 22 rfl) rfl ?_
                  refine ⟨rfl, rfl, _, rfl, ?_⟩
                  rw [hsq]
                  refine ⟨?_, u13⟩
                  show ((0) : Int32) = of2 (cdC s1_.tok) (f1_ nm) _
                  first | (rw [show cdC s1_.tok = 30003 from if_pos h60, of2_lt, ← w1_, ← w13_]; first | exact (bI_f (Int32.not_lt.mpr c109)).symm | exact (bI_t (Int32.not_le.mp c109)).symm) | (rw [show cdC s1_.tok = 30004 from if_neg h60, of2_eq, ← w1_, ← w13_]; first | exact (bI_t c117).symm | exact (bI_f c117).symm)
                · refine s_goto (tgt := 120) (tb_ok aX8_not3_2 15 rfl) (by decide) ?_
                  refine s_iconst (v := 1) (tb_ok aX8_not3_2 19 rfl) (by decide) ?_
                  refine s_goto (tgt := 125) (tb_ok aX8_not3_2 20 rfl) (by decide) ?_
                  refine s_iret (tb_ok aX8_not3_2 22 rfl) rfl ?_
                  refine ⟨rfl, rfl, _, rfl, ?_⟩
                  rw [hsq]
                  refine ⟨?_, u13⟩
                  show ((1) : Int32) = of2 (cdC s1_.tok) (f1_ nm) _
                  first | (rw [show cdC s1_.tok = 30003 from if_pos h60, of2_lt, ← w1_, ← w13_]; first | exact (bI_f (Int32.not_lt.mpr c109)).symm | exact (bI_t (Int32.not_le.mp c109)).symm) | (rw [show cdC s1_.tok = 30004 from if_neg h60, of2_eq, ← w1_, ← w13_]; first | exact (bI_t c117).symm | exact (bI_f c117).symm)
        · refine s_iload_n (tb_ok aX8_not3_1 18 rfl) rfl ?_
          refine s_iret (tb_ok aX8_not3_1 19 rfl) rfl ?_
          have hsq : (notP t n (some q2) (cmpP t n P)) s = .inl (c1_, f1_, s1_) := by
            unfold notP
            rw [if_neg n9]
            unfold cmpP
            rw [e1_]
            show (if s1_.tok = 60 ∨ s1_.tok = 61 then _ else _) = _
            rw [if_neg (fun h_ => h_.elim (bI_0.mp c63) (bI_0.mp c72))]
          refine ⟨rfl, rfl, _, rfl, ?_⟩
          rw [hsq]
          refine ⟨?_, u1⟩
          exact w1_
  · have hop9 : s.tok = 9 := bI_n c15
    refine s_aload_n (tb_ok aX8_not3_0 11 rfl) rfl ?_
    refine s_cV (as := []) (tb_ok aX8_not3_0 12 rfl) v_RX8_218 (R_opens hT h (by rw [hop9]; decide) (by rw [hop9]; decide) (by decide)) (by omega) rfl rfl rfl rfl rfl (Nat.le_of_ble_eq_true rfl) (by decide) (fun r10 S10 I10 L10 R10 q10 => ?_)
    obtain ⟨rfl, rfl, rfl, u14⟩ := q10
    have a15 := (adv_wf (t := t) h.2.1).2.2 (by rw [hop9]; decide)
    refine s_if_ne (tgt := 27) (tb_ok aX8_not3_0 13 rfl) (by decide) (fun c22 => ?_) (fun c22 => ?_)
    · refine s_aload_n (tb_ok aX8_not3_0 16 rfl) rfl ?_
      refine s_cV (as := []) (tb_ok aX8_not3_0 17 rfl) v_RX8_257 (hi _ _ _ u14) (by omega) rfl rfl rfl rfl rfl (Nat.le_of_ble_eq_true rfl) (by decide) (fun r11 S11 I11 L11 R11 q11 => ?_)
      obtain ⟨rfl, rfl, v16_, rfl, u16⟩ := q11
      cases e16_ : q2.2.1 (adv t n s) with
      | inr g16_ =>
        rw [e16_] at u16
        have u16 : RBad I0 g16_ _ := u16
        have hsq : (notP t n (some q2) (cmpP t n P)) s = .inr g16_ := by unfold notP; rw [if_pos hop9]; simp only [e16_]
        refine s_istore_n (ls' := [some (.ref 66), some (.int v16_), none, none]) (tb_ok aX8_not3_0 18 rfl) rfl rfl ?_
        refine s_aload_n (tb_ok aX8_not3_0 19 rfl) rfl ?_
        refine s_dup (tb_ok aX8_not3_0 20 rfl) rfl ?_
        refine s_getI (tb_ok aX8_not3_0 21 rfl) f_RX8_184 rfl rfl rfl ?_
        refine s_iconst (v := 1) (tb_ok aX8_not3_0 22 rfl) (by decide) ?_
        refine s_isub (tb_ok aX8_not3_0 23 rfl) ?_
        refine s_putI (tb_ok aX8_not3_1 0 rfl) f_RX8_184 rfl rfl ?_
        refine s_iload_n (tb_ok aX8_not3_1 1 rfl) rfl ?_
        refine s_if_ne (tgt := 50) (tb_ok aX8_not3_1 2 rfl) (by decide) (fun c43 => ?_) (fun c43 => ?_)
        · refine s_iconst (v := 0) (tb_ok aX8_not3_1 5 rfl) (by decide) ?_
          refine s_iret (tb_ok aX8_not3_1 6 rfl) rfl ?_
          refine ⟨rfl, rfl, _, rfl, ?_⟩
          rw [hsq]
          exact (u16.put26 _)
        · refine s_iconst (v := 1) (tb_ok aX8_not3_1 3 rfl) (by decide) ?_
          refine s_goto (tgt := 51) (tb_ok aX8_not3_1 4 rfl) (by decide) ?_
          refine s_iret (tb_ok aX8_not3_1 6 rfl) rfl ?_
          refine ⟨rfl, rfl, _, rfl, ?_⟩
          rw [hsq]
          exact (u16.put26 _)
      | inl qq =>
        obtain ⟨c16_, f16_, s16_⟩ := qq
        rw [e16_] at u16
        obtain ⟨w16_, u16⟩ := u16
        have w16_ : v16_ = f16_ nm := w16_
        have u16 : ROk t n 4 I0 s16_ _ _ := u16
        have hsq : (notP t n (some q2) (cmpP t n P)) s = .inl (c16_ ++ [20001], (fun nm => of1 20001 (f16_ nm)), s16_) := by unfold notP; rw [if_pos hop9]; simp only [e16_]
        refine s_istore_n (ls' := [some (.ref 66), some (.int v16_), none, none]) (tb_ok aX8_not3_0 18 rfl) rfl rfl ?_
        refine s_aload_n (tb_ok aX8_not3_0 19 rfl) rfl ?_
        refine s_dup (tb_ok aX8_not3_0 20 rfl) rfl ?_
        refine s_getI (x := (nI 4)) (tb_ok aX8_not3_0 21 rfl) f_RX8_184 rfl rfl u16.2.2.2.1 ?_
        refine s_iconst (v := 1) (tb_ok aX8_not3_0 22 rfl) (by decide) ?_
        refine s_isub (tb_ok aX8_not3_0 23 rfl) ?_
        refine s_topi (z := (nI 3)) (by decide) ?_
        refine s_putI (tb_ok aX8_not3_1 0 rfl) f_RX8_184 rfl rfl ?_
        have u18 := u16.put26 3
        refine s_iload_n (tb_ok aX8_not3_1 1 rfl) rfl ?_
        refine s_if_ne (tgt := 50) (tb_ok aX8_not3_1 2 rfl) (by decide) (fun c43 => ?_) (fun c43 => ?_)
        · refine s_iconst (v := 0) (tb_ok aX8_not3_1 5 rfl) (by decide) ?_
          refine s_iret (tb_ok aX8_not3_1 6 rfl) rfl ?_
          refine ⟨rfl, rfl, _, rfl, ?_⟩
          rw [hsq]
          refine ⟨?_, u18⟩
          show ((0) : Int32) = of1 20001 _
          rw [of1_not, ← w16_]
          first | exact (bI_t c43).symm | exact (bI_f c43).symm
        · refine s_iconst (v := 1) (tb_ok aX8_not3_1 3 rfl) (by decide) ?_
          refine s_goto (tgt := 51) (tb_ok aX8_not3_1 4 rfl) (by decide) ?_
          refine s_iret (tb_ok aX8_not3_1 6 rfl) rfl ?_
          refine ⟨rfl, rfl, _, rfl, ?_⟩
          rw [hsq]
          refine ⟨?_, u18⟩
          show ((1) : Int32) = of1 20001 _
          rw [of1_not, ← w16_]
          first | exact (bI_t c43).symm | exact (bI_f c43).symm
    · exact absurd c22 (by decide)

set_option maxRecDepth 100000 in
set_option maxHeartbeats 1000000 in
theorem L_both3 {X : En} {q : Nat × Nat} {I0 : FI} {F n : Nat} {t nm : Nat → Int32} (hT : TxX I0 F n t nm) {d f : Nat} (hd : 2 < d) {Q : Pst} {I : FI} {L : FL} (x : Int32) (o2 : Option Value) (h : RBad I0 f I) (hQ : ∀ v, Q (some (.int v)) S0 I L (R0 q)) : SW X (d + 1) mX8_both3 (0, 0) 5 [some (.ref 66), some (.int x), o2] [] S0 I L (R0 q) (KQ X Q) := by
  refine s_aload_n (tb_ok aX8_both3_0 3 rfl) rfl ?_
  refine s_bipush (v := 97) (tb_ok aX8_both3_0 4 rfl) (by decide) ?_
  refine s_bipush (v := 110) (tb_ok aX8_both3_0 5 rfl) (by decide) ?_
  refine s_bipush (v := 100) (tb_ok aX8_both3_0 6 rfl) (by decide) ?_
  refine s_iconst (v := 0) (tb_ok aX8_both3_0 7 rfl) (by decide) ?_
  refine s_iconst (v := 0) (tb_ok aX8_both3_0 8 rfl) (by decide) ?_
  refine s_iconst (v := 0) (tb_ok aX8_both3_0 9 rfl) (by decide) ?_
  refine s_iconst (v := 0) (tb_ok aX8_both3_0 10 rfl) (by decide) ?_
  refine s_iconst (v := 0) (tb_ok aX8_both3_0 11 rfl) (by decide) ?_
  refine s_cVp (as := [.int (97), .int (110), .int (100), .int (0), .int (0), .int (0), .int (0), .int (0)]) (tb_ok aX8_both3_0 12 rfl) v_RX8_193 (R_isWordE (I0 := I0) h.2.1) (by omega) rfl rfl rfl rfl rfl (Nat.le_of_ble_eq_true rfl) (by decide) ?_
  refine s_if_eq (tgt := 49) (tb_ok aX8_both3_0 13 rfl) (by decide) (fun c20 => ?_) (fun c20 => ?_)
  · refine s_iload_n (tb_ok aX8_both3_1 4 rfl) rfl ?_
    refine s_iret (tb_ok aX8_both3_1 5 rfl) rfl ?_
    exact hQ _
  · exact absurd c20 (by decide)

set_option maxRecDepth 100000 in
set_option maxHeartbeats 1000000 in
theorem C_both3 {X : En} {q : Nat × Nat} {I0 : FI} {F n : Nat} {t nm : Nat → Int32} (hT : TxX I0 F n t nm) {d dp : Nat} (hd : 2 < d) {P : Pa} (hN : Nice n dp P) (hi : CtX X q t nm n I0 d mX8_not3 3 P) : CtX X q t nm n I0 (d + 1) mX8_both3 3 (seqP t n opB cdB P) := by
  intro I L s h
  obtain ⟨hF, hn, hn160, hFn, ht, ht0, hnm⟩ := id hT
  have loop : ∀ k, ∀ (o2 : Option Value) (I : FI) (L : FL) (c : List Int32) (f : Sem) (s1 : St) (x : Int32), x = f nm → ROk t n 3 I0 s1 I L → 160 < s1.pl + k → loopP t n opB cdB P k c f s1 = (seqP t n opB cdB P) s → SW X (d + 1) mX8_both3 (0, 0) 5 [some (.ref 66), some (.int x), o2] [] S0 I L (R0 q) (KQ X (AfP q t nm n 3 I0 ((seqP t n opB cdB P) s))) := by
    intro k
    induction k with
    | zero =>
      intro o2 I L c f s1 x hx h1 hk hres
      have := h1.pln
      omega
    | succ k ih =>
      intro o2 I L c f s1 x hx h1 hk hres
      refine s_aload_n (tb_ok aX8_both3_0 3 rfl) rfl ?_
      refine s_bipush (v := 97) (tb_ok aX8_both3_0 4 rfl) (by decide) ?_
      refine s_bipush (v := 110) (tb_ok aX8_both3_0 5 rfl) (by decide) ?_
      refine s_bipush (v := 100) (tb_ok aX8_both3_0 6 rfl) (by decide) ?_
      refine s_iconst (v := 0) (tb_ok aX8_both3_0 7 rfl) (by decide) ?_
      refine s_iconst (v := 0) (tb_ok aX8_both3_0 8 rfl) (by decide) ?_
      refine s_iconst (v := 0) (tb_ok aX8_both3_0 9 rfl) (by decide) ?_
      refine s_iconst (v := 0) (tb_ok aX8_both3_0 10 rfl) (by decide) ?_
      refine s_iconst (v := 0) (tb_ok aX8_both3_0 11 rfl) (by decide) ?_
      refine s_cVp (as := [.int (97), .int (110), .int (100), .int (0), .int (0), .int (0), .int (0), .int (0)]) (tb_ok aX8_both3_0 12 rfl) v_RX8_193 (R_isWord hT h1 10 (by decide)) (by omega) rfl rfl rfl rfl rfl (Nat.le_of_ble_eq_true rfl) (by decide) ?_
      refine s_topi (bI_congr (isK_key (k := 10) (j := 8) (by decide) rfl)) ?_
      refine s_if_eq (tgt := 49) (tb_ok aX8_both3_0 13 rfl) (by decide) (fun c20 => ?_) (fun c20 => ?_)
      · refine s_iload_n (tb_ok aX8_both3_1 4 rfl) rfl ?_
        refine s_iret (tb_ok aX8_both3_1 5 rfl) rfl ?_
        refine ⟨rfl, rfl, _, rfl, ?_⟩
        rw [← hres, loopP, if_neg (bI_0.mp c20)]
        exact ⟨hx, h1⟩
      · have hop : opB s1.tok := bI_n c20
        refine s_aload_n (tb_ok aX8_both3_0 14 rfl) rfl ?_
        refine s_cV (as := []) (tb_ok aX8_both3_0 15 rfl) v_RX8_190 (R_next hT h1 (by rw [hop]; decide) (by rw [hop]; decide)) (by omega) rfl rfl rfl rfl rfl (Nat.le_of_ble_eq_true rfl) (by decide) (fun r1 S1 I1 L1 R1 q1 => ?_)
        obtain ⟨rfl, rfl, rfl, u1⟩ := q1
        have a2 := (adv_wf (t := t) h1.2.1).2.2 (by rw [hop]; decide)
        refine s_aload_n (tb_ok aX8_both3_0 16 rfl) rfl ?_
        refine s_cV (as := []) (tb_ok aX8_both3_0 17 rfl) v_RX8_275 (hi _ _ _ u1) (by omega) rfl rfl rfl rfl rfl (Nat.le_of_ble_eq_true rfl) (by decide) (fun r2 S2 I2 L2 R2 q2 => ?_)
        obtain ⟨rfl, rfl, v3_, rfl, u3⟩ := q2
        cases e3_ : P (adv t n s1) with
        | inr g3_ =>
          rw [e3_] at u3
          have u3 : RBad I0 g3_ _ := u3
          rw [loopP, if_pos hop, e3_] at hres
          refine s_istore_n (ls' := [some (.ref 66), some (.int x), some (.int v3_)]) (tb_ok aX8_both3_0 18 rfl) rfl rfl ?_
          refine s_iload_n (tb_ok aX8_both3_0 19 rfl) rfl ?_
          refine s_if_eq (tgt := 44) (tb_ok aX8_both3_0 20 rfl) (by decide) (fun c33 => ?_) (fun c33 => ?_)
          · refine s_iconst (v := 0) (tb_ok aX8_both3_1 1 rfl) (by decide) ?_
            refine s_istore_n (ls' := [some (.ref 66), some (.int (0)), some (.int v3_)]) (tb_ok aX8_both3_1 2 rfl) rfl rfl ?_
            refine s_goto (tgt := 5) (tb_ok aX8_both3_1 3 rfl) (by decide) ?_
            refine L_both3 hT hd _ _ u3 (fun v => ⟨rfl, rfl, _, rfl, ?_⟩)
            rw [← hres]
            exact u3
          · refine s_iload_n (tb_ok aX8_both3_0 21 rfl) rfl ?_
            refine s_if_eq (tgt := 44) (tb_ok aX8_both3_0 22 rfl) (by decide) (fun c37 => ?_) (fun c37 => ?_)
            · refine s_iconst (v := 0) (tb_ok aX8_both3_1 1 rfl) (by decide) ?_
              refine s_istore_n (ls' := [some (.ref 66), some (.int (0)), some (.int v3_)]) (tb_ok aX8_both3_1 2 rfl) rfl rfl ?_
              refine s_goto (tgt := 5) (tb_ok aX8_both3_1 3 rfl) (by decide) ?_
              refine L_both3 hT hd _ _ u3 (fun v => ⟨rfl, rfl, _, rfl, ?_⟩)
              rw [← hres]
              exact u3
            · refine s_iconst (v := 1) (tb_ok aX8_both3_0 23 rfl) (by decide) ?_
              refine s_goto (tgt := 45) (tb_ok aX8_both3_1 0 rfl) (by decide) ?_
              refine s_istore_n (ls' := [some (.ref 66), some (.int (1)), some (.int v3_)]) (tb_ok aX8_both3_1 2 rfl) rfl rfl ?_
              refine s_goto (tgt := 5) (tb_ok aX8_both3_1 3 rfl) (by decide) ?_
              refine L_both3 hT hd _ _ u3 (fun v => ⟨rfl, rfl, _, rfl, ?_⟩)
              rw [← hres]
              exact u3
        | inl qq =>
          obtain ⟨c3_, f3_, s3_⟩ := qq
          rw [e3_] at u3
          obtain ⟨w3_, u3⟩ := u3
          have w3_ : v3_ = f3_ nm := w3_
          have u3 : ROk t n 3 I0 s3_ _ _ := u3
          have b3_ := Nice.two (t := t) hN u1.2.1 e3_
          rw [loopP, if_pos hop, e3_] at hres
          refine s_istore_n (ls' := [some (.ref 66), some (.int x), some (.int v3_)]) (tb_ok aX8_both3_0 18 rfl) rfl rfl ?_
          refine s_iload_n (tb_ok aX8_both3_0 19 rfl) rfl ?_
          refine s_if_eq (tgt := 44) (tb_ok aX8_both3_0 20 rfl) (by decide) (fun c33 => ?_) (fun c33 => ?_)
          · refine s_iconst (v := 0) (tb_ok aX8_both3_1 1 rfl) (by decide) ?_
            refine s_istore_n (ls' := [some (.ref 66), some (.int (0)), some (.int v3_)]) (tb_ok aX8_both3_1 2 rfl) rfl rfl ?_
            refine s_goto (tgt := 5) (tb_ok aX8_both3_1 3 rfl) (by decide) ?_
            refine ih _ _ _ _ _ _ (0) ?_ u3 (by omega) hres
            show ((0) : Int32) = of2 30005 (f nm) _
            rw [of2_and, ← hx, ← w3_]
            exact (bI_f (fun h_ => by first | exact h_.1 c33 | exact h_.2 c37)).symm
          · refine s_iload_n (tb_ok aX8_both3_0 21 rfl) rfl ?_
            refine s_if_eq (tgt := 44) (tb_ok aX8_both3_0 22 rfl) (by decide) (fun c37 => ?_) (fun c37 => ?_)
            · refine s_iconst (v := 0) (tb_ok aX8_both3_1 1 rfl) (by decide) ?_
              refine s_istore_n (ls' := [some (.ref 66), some (.int (0)), some (.int v3_)]) (tb_ok aX8_both3_1 2 rfl) rfl rfl ?_
              refine s_goto (tgt := 5) (tb_ok aX8_both3_1 3 rfl) (by decide) ?_
              refine ih _ _ _ _ _ _ (0) ?_ u3 (by omega) hres
              show ((0) : Int32) = of2 30005 (f nm) _
              rw [of2_and, ← hx, ← w3_]
              exact (bI_f (fun h_ => by first | exact h_.1 c33 | exact h_.2 c37)).symm
            · refine s_iconst (v := 1) (tb_ok aX8_both3_0 23 rfl) (by decide) ?_
              refine s_goto (tgt := 45) (tb_ok aX8_both3_1 0 rfl) (by decide) ?_
              refine s_istore_n (ls' := [some (.ref 66), some (.int (1)), some (.int v3_)]) (tb_ok aX8_both3_1 2 rfl) rfl rfl ?_
              refine s_goto (tgt := 5) (tb_ok aX8_both3_1 3 rfl) (by decide) ?_
              refine ih _ _ _ _ _ _ (1) ?_ u3 (by omega) hres
              show ((1) : Int32) = of2 30005 (f nm) _
              rw [of2_and, ← hx, ← w3_]
              exact (bI_t ⟨c33, c37⟩).symm
  refine ev_of (by decide +kernel) rfl ?_
  show SW X _ _ _ 0 [some (.ref 66), none, none] [] S0 I L (R0 q) _
  refine s_aload_n (tb_ok aX8_both3_0 0 rfl) rfl ?_
  refine s_cV (as := []) (tb_ok aX8_both3_0 1 rfl) v_RX8_275 (hi _ _ _ h) (by omega) rfl rfl rfl rfl rfl (Nat.le_of_ble_eq_true rfl) (by decide) (fun r1 S1 I1 L1 R1 q1 => ?_)
  obtain ⟨rfl, rfl, v4_, rfl, u4⟩ := q1
  cases e4_ : P s with
  | inr g4_ =>
    rw [e4_] at u4
    have u4 : RBad I0 g4_ _ := u4
    have hsq : (seqP t n opB cdB P) s = .inr g4_ := by unfold seqP; rw [e4_]
    refine s_istore_n (ls' := [some (.ref 66), some (.int v4_), none]) (tb_ok aX8_both3_0 2 rfl) rfl rfl ?_
    refine L_both3 hT hd _ _ u4 (fun v => ⟨rfl, rfl, _, rfl, ?_⟩)
    rw [hsq]
    exact u4
  | inl qq =>
    obtain ⟨c4_, f4_, s4_⟩ := qq
    rw [e4_] at u4
    obtain ⟨w4_, u4⟩ := u4
    have w4_ : v4_ = f4_ nm := w4_
    have u4 : ROk t n 3 I0 s4_ _ _ := u4
    have b4_ := Nice.two (t := t) hN h.2.1 e4_
    have hsq : (seqP t n opB cdB P) s = loopP t n opB cdB P 160 c4_ f4_ s4_ := by unfold seqP; rw [e4_]
    refine s_istore_n (ls' := [some (.ref 66), some (.int v4_), none]) (tb_ok aX8_both3_0 2 rfl) rfl rfl ?_
    exact loop 160 _ _ _ _ _ _ _ w4_ u4 (by omega) hsq.symm

set_option maxRecDepth 100000 in
set_option maxHeartbeats 1000000 in
theorem L_either3 {X : En} {q : Nat × Nat} {I0 : FI} {F n : Nat} {t nm : Nat → Int32} (hT : TxX I0 F n t nm) {d f : Nat} (hd : 2 < d) {Q : Pst} {I : FI} {L : FL} (x : Int32) (o2 : Option Value) (h : RBad I0 f I) (hQ : ∀ v, Q (some (.int v)) S0 I L (R0 q)) : SW X (d + 1) mX8_either3 (0, 0) 5 [some (.ref 66), some (.int x), o2] [] S0 I L (R0 q) (KQ X Q) := by
  refine s_aload_n (tb_ok aX8_either3_0 3 rfl) rfl ?_
  refine s_bipush (v := 111) (tb_ok aX8_either3_0 4 rfl) (by decide) ?_
  refine s_bipush (v := 114) (tb_ok aX8_either3_0 5 rfl) (by decide) ?_
  refine s_iconst (v := 0) (tb_ok aX8_either3_0 6 rfl) (by decide) ?_
  refine s_iconst (v := 0) (tb_ok aX8_either3_0 7 rfl) (by decide) ?_
  refine s_iconst (v := 0) (tb_ok aX8_either3_0 8 rfl) (by decide) ?_
  refine s_iconst (v := 0) (tb_ok aX8_either3_0 9 rfl) (by decide) ?_
  refine s_iconst (v := 0) (tb_ok aX8_either3_0 10 rfl) (by decide) ?_
  refine s_iconst (v := 0) (tb_ok aX8_either3_0 11 rfl) (by decide) ?_
  refine s_cVp (as := [.int (111), .int (114), .int (0), .int (0), .int (0), .int (0), .int (0), .int (0)]) (tb_ok aX8_either3_0 12 rfl) v_RX8_193 (R_isWordE (I0 := I0) h.2.1) (by omega) rfl rfl rfl rfl rfl (Nat.le_of_ble_eq_true rfl) (by decide) ?_
  refine s_if_eq (tgt := 48) (tb_ok aX8_either3_0 13 rfl) (by decide) (fun c19 => ?_) (fun c19 => ?_)
  · refine s_iload_n (tb_ok aX8_either3_1 4 rfl) rfl ?_
    refine s_iret (tb_ok aX8_either3_1 5 rfl) rfl ?_
    exact hQ _
  · exact absurd c19 (by decide)

set_option maxRecDepth 100000 in
set_option maxHeartbeats 1000000 in
theorem C_either3 {X : En} {q : Nat × Nat} {I0 : FI} {F n : Nat} {t nm : Nat → Int32} (hT : TxX I0 F n t nm) {d dp : Nat} (hd : 2 < d) {P : Pa} (hN : Nice n dp P) (hi : CtX X q t nm n I0 d mX8_both3 3 P) : CtX X q t nm n I0 (d + 1) mX8_either3 3 (seqP t n opE cdE P) := by
  intro I L s h
  obtain ⟨hF, hn, hn160, hFn, ht, ht0, hnm⟩ := id hT
  have loop : ∀ k, ∀ (o2 : Option Value) (I : FI) (L : FL) (c : List Int32) (f : Sem) (s1 : St) (x : Int32), x = f nm → ROk t n 3 I0 s1 I L → 160 < s1.pl + k → loopP t n opE cdE P k c f s1 = (seqP t n opE cdE P) s → SW X (d + 1) mX8_either3 (0, 0) 5 [some (.ref 66), some (.int x), o2] [] S0 I L (R0 q) (KQ X (AfP q t nm n 3 I0 ((seqP t n opE cdE P) s))) := by
    intro k
    induction k with
    | zero =>
      intro o2 I L c f s1 x hx h1 hk hres
      have := h1.pln
      omega
    | succ k ih =>
      intro o2 I L c f s1 x hx h1 hk hres
      refine s_aload_n (tb_ok aX8_either3_0 3 rfl) rfl ?_
      refine s_bipush (v := 111) (tb_ok aX8_either3_0 4 rfl) (by decide) ?_
      refine s_bipush (v := 114) (tb_ok aX8_either3_0 5 rfl) (by decide) ?_
      refine s_iconst (v := 0) (tb_ok aX8_either3_0 6 rfl) (by decide) ?_
      refine s_iconst (v := 0) (tb_ok aX8_either3_0 7 rfl) (by decide) ?_
      refine s_iconst (v := 0) (tb_ok aX8_either3_0 8 rfl) (by decide) ?_
      refine s_iconst (v := 0) (tb_ok aX8_either3_0 9 rfl) (by decide) ?_
      refine s_iconst (v := 0) (tb_ok aX8_either3_0 10 rfl) (by decide) ?_
      refine s_iconst (v := 0) (tb_ok aX8_either3_0 11 rfl) (by decide) ?_
      refine s_cVp (as := [.int (111), .int (114), .int (0), .int (0), .int (0), .int (0), .int (0), .int (0)]) (tb_ok aX8_either3_0 12 rfl) v_RX8_193 (R_isWord hT h1 9 (by decide)) (by omega) rfl rfl rfl rfl rfl (Nat.le_of_ble_eq_true rfl) (by decide) ?_
      refine s_topi (bI_congr (isK_key (k := 9) (j := 7) (by decide) rfl)) ?_
      refine s_if_eq (tgt := 48) (tb_ok aX8_either3_0 13 rfl) (by decide) (fun c19 => ?_) (fun c19 => ?_)
      · refine s_iload_n (tb_ok aX8_either3_1 4 rfl) rfl ?_
        refine s_iret (tb_ok aX8_either3_1 5 rfl) rfl ?_
        refine ⟨rfl, rfl, _, rfl, ?_⟩
        rw [← hres, loopP, if_neg (bI_0.mp c19)]
        exact ⟨hx, h1⟩
      · have hop : opE s1.tok := bI_n c19
        refine s_aload_n (tb_ok aX8_either3_0 14 rfl) rfl ?_
        refine s_cV (as := []) (tb_ok aX8_either3_0 15 rfl) v_RX8_190 (R_next hT h1 (by rw [hop]; decide) (by rw [hop]; decide)) (by omega) rfl rfl rfl rfl rfl (Nat.le_of_ble_eq_true rfl) (by decide) (fun r1 S1 I1 L1 R1 q1 => ?_)
        obtain ⟨rfl, rfl, rfl, u1⟩ := q1
        have a2 := (adv_wf (t := t) h1.2.1).2.2 (by rw [hop]; decide)
        refine s_aload_n (tb_ok aX8_either3_0 16 rfl) rfl ?_
        refine s_cV (as := []) (tb_ok aX8_either3_0 17 rfl) v_RX8_278 (hi _ _ _ u1) (by omega) rfl rfl rfl rfl rfl (Nat.le_of_ble_eq_true rfl) (by decide) (fun r2 S2 I2 L2 R2 q2 => ?_)
        obtain ⟨rfl, rfl, v3_, rfl, u3⟩ := q2
        cases e3_ : P (adv t n s1) with
        | inr g3_ =>
          rw [e3_] at u3
          have u3 : RBad I0 g3_ _ := u3
          rw [loopP, if_pos hop, e3_] at hres
          refine s_istore_n (ls' := [some (.ref 66), some (.int x), some (.int v3_)]) (tb_ok aX8_either3_0 18 rfl) rfl rfl ?_
          refine s_iload_n (tb_ok aX8_either3_0 19 rfl) rfl ?_
          refine s_if_ne (tgt := 39) (tb_ok aX8_either3_0 20 rfl) (by decide) (fun c32 => ?_) (fun c32 => ?_)
          · refine s_iconst (v := 1) (tb_ok aX8_either3_0 23 rfl) (by decide) ?_
            refine s_goto (tgt := 44) (tb_ok aX8_either3_1 0 rfl) (by decide) ?_
            refine s_istore_n (ls' := [some (.ref 66), some (.int (1)), some (.int v3_)]) (tb_ok aX8_either3_1 2 rfl) rfl rfl ?_
            refine s_goto (tgt := 5) (tb_ok aX8_either3_1 3 rfl) (by decide) ?_
            refine L_either3 hT hd _ _ u3 (fun v => ⟨rfl, rfl, _, rfl, ?_⟩)
            rw [← hres]
            exact u3
          · refine s_iload_n (tb_ok aX8_either3_0 21 rfl) rfl ?_
            refine s_if_eq (tgt := 43) (tb_ok aX8_either3_0 22 rfl) (by decide) (fun c36 => ?_) (fun c36 => ?_)
            · refine s_iconst (v := 0) (tb_ok aX8_either3_1 1 rfl) (by decide) ?_
              refine s_istore_n (ls' := [some (.ref 66), some (.int (0)), some (.int v3_)]) (tb_ok aX8_either3_1 2 rfl) rfl rfl ?_
              refine s_goto (tgt := 5) (tb_ok aX8_either3_1 3 rfl) (by decide) ?_
              refine L_either3 hT hd _ _ u3 (fun v => ⟨rfl, rfl, _, rfl, ?_⟩)
              rw [← hres]
              exact u3
            · refine s_iconst (v := 1) (tb_ok aX8_either3_0 23 rfl) (by decide) ?_
              refine s_goto (tgt := 44) (tb_ok aX8_either3_1 0 rfl) (by decide) ?_
              refine s_istore_n (ls' := [some (.ref 66), some (.int (1)), some (.int v3_)]) (tb_ok aX8_either3_1 2 rfl) rfl rfl ?_
              refine s_goto (tgt := 5) (tb_ok aX8_either3_1 3 rfl) (by decide) ?_
              refine L_either3 hT hd _ _ u3 (fun v => ⟨rfl, rfl, _, rfl, ?_⟩)
              rw [← hres]
              exact u3
        | inl qq =>
          obtain ⟨c3_, f3_, s3_⟩ := qq
          rw [e3_] at u3
          obtain ⟨w3_, u3⟩ := u3
          have w3_ : v3_ = f3_ nm := w3_
          have u3 : ROk t n 3 I0 s3_ _ _ := u3
          have b3_ := Nice.two (t := t) hN u1.2.1 e3_
          rw [loopP, if_pos hop, e3_] at hres
          refine s_istore_n (ls' := [some (.ref 66), some (.int x), some (.int v3_)]) (tb_ok aX8_either3_0 18 rfl) rfl rfl ?_
          refine s_iload_n (tb_ok aX8_either3_0 19 rfl) rfl ?_
          refine s_if_ne (tgt := 39) (tb_ok aX8_either3_0 20 rfl) (by decide) (fun c32 => ?_) (fun c32 => ?_)
          · refine s_iconst (v := 1) (tb_ok aX8_either3_0 23 rfl) (by decide) ?_
            refine s_goto (tgt := 44) (tb_ok aX8_either3_1 0 rfl) (by decide) ?_
            refine s_istore_n (ls' := [some (.ref 66), some (.int (1)), some (.int v3_)]) (tb_ok aX8_either3_1 2 rfl) rfl rfl ?_
            refine s_goto (tgt := 5) (tb_ok aX8_either3_1 3 rfl) (by decide) ?_
            refine ih _ _ _ _ _ _ (1) ?_ u3 (by omega) hres
            show ((1) : Int32) = of2 30006 (f nm) _
            rw [of2_or, ← hx, ← w3_]
            exact (bI_t (by first | exact Or.inl c32 | exact Or.inr c36)).symm
          · refine s_iload_n (tb_ok aX8_either3_0 21 rfl) rfl ?_
            refine s_if_eq (tgt := 43) (tb_ok aX8_either3_0 22 rfl) (by decide) (fun c36 => ?_) (fun c36 => ?_)
            · refine s_iconst (v := 0) (tb_ok aX8_either3_1 1 rfl) (by decide) ?_
              refine s_istore_n (ls' := [some (.ref 66), some (.int (0)), some (.int v3_)]) (tb_ok aX8_either3_1 2 rfl) rfl rfl ?_
              refine s_goto (tgt := 5) (tb_ok aX8_either3_1 3 rfl) (by decide) ?_
              refine ih _ _ _ _ _ _ (0) ?_ u3 (by omega) hres
              show ((0) : Int32) = of2 30006 (f nm) _
              rw [of2_or, ← hx, ← w3_]
              exact (bI_f (fun h_ => h_.elim (fun k_ => k_ c32) (fun k_ => k_ c36))).symm
            · refine s_iconst (v := 1) (tb_ok aX8_either3_0 23 rfl) (by decide) ?_
              refine s_goto (tgt := 44) (tb_ok aX8_either3_1 0 rfl) (by decide) ?_
              refine s_istore_n (ls' := [some (.ref 66), some (.int (1)), some (.int v3_)]) (tb_ok aX8_either3_1 2 rfl) rfl rfl ?_
              refine s_goto (tgt := 5) (tb_ok aX8_either3_1 3 rfl) (by decide) ?_
              refine ih _ _ _ _ _ _ (1) ?_ u3 (by omega) hres
              show ((1) : Int32) = of2 30006 (f nm) _
              rw [of2_or, ← hx, ← w3_]
              exact (bI_t (by first | exact Or.inl c32 | exact Or.inr c36)).symm
  refine ev_of (by decide +kernel) rfl ?_
  show SW X _ _ _ 0 [some (.ref 66), none, none] [] S0 I L (R0 q) _
  refine s_aload_n (tb_ok aX8_either3_0 0 rfl) rfl ?_
  refine s_cV (as := []) (tb_ok aX8_either3_0 1 rfl) v_RX8_278 (hi _ _ _ h) (by omega) rfl rfl rfl rfl rfl (Nat.le_of_ble_eq_true rfl) (by decide) (fun r1 S1 I1 L1 R1 q1 => ?_)
  obtain ⟨rfl, rfl, v4_, rfl, u4⟩ := q1
  cases e4_ : P s with
  | inr g4_ =>
    rw [e4_] at u4
    have u4 : RBad I0 g4_ _ := u4
    have hsq : (seqP t n opE cdE P) s = .inr g4_ := by unfold seqP; rw [e4_]
    refine s_istore_n (ls' := [some (.ref 66), some (.int v4_), none]) (tb_ok aX8_either3_0 2 rfl) rfl rfl ?_
    refine L_either3 hT hd _ _ u4 (fun v => ⟨rfl, rfl, _, rfl, ?_⟩)
    rw [hsq]
    exact u4
  | inl qq =>
    obtain ⟨c4_, f4_, s4_⟩ := qq
    rw [e4_] at u4
    obtain ⟨w4_, u4⟩ := u4
    have w4_ : v4_ = f4_ nm := w4_
    have u4 : ROk t n 3 I0 s4_ _ _ := u4
    have b4_ := Nice.two (t := t) hN h.2.1 e4_
    have hsq : (seqP t n opE cdE P) s = loopP t n opE cdE P 160 c4_ f4_ s4_ := by unfold seqP; rw [e4_]
    refine s_istore_n (ls' := [some (.ref 66), some (.int v4_), none]) (tb_ok aX8_either3_0 2 rfl) rfl rfl ?_
    exact loop 160 _ _ _ _ _ _ _ w4_ u4 (by omega) hsq.symm

set_option maxRecDepth 100000 in
set_option maxHeartbeats 1000000 in
theorem C_atom2 {X : En} {q : Nat × Nat} {I0 : FI} {F n : Nat} {t nm : Nat → Int32} (hT : TxX I0 F n t nm) {d : Nat} (hd : 3 < d) {q2 : Pa × Pa × Pa} {d1 d2 : Nat} (hd1 : d1 < d) (hd2 : d2 < d) (hi : CtX X q t nm n I0 d1 mX8_atom3 3 q2.2.2) (hj : CtX X q t nm n I0 d2 mX8_either3 3 q2.1) : CtX X q t nm n I0 d mX8_atom2 2 (oneP t n (some q2)) := by
  intro I L s h
  obtain ⟨hF, hn, hn160, hFn, ht, ht0, hnm⟩ := id hT
  refine ev_of (by decide +kernel) rfl ?_
  show SW X _ _ _ 0 [some (.ref 66), none] [] S0 I L (R0 q) _
  refine s_iconst (v := 0) (tb_ok aX8_atom2_0 0 rfl) (by decide) ?_
  refine s_istore_n (ls' := [some (.ref 66), some (.int (0))]) (tb_ok aX8_atom2_0 1 rfl) rfl rfl ?_
  refine s_aload_n (tb_ok aX8_atom2_0 2 rfl) rfl ?_
  refine s_bipush (v := 45) (tb_ok aX8_atom2_0 3 rfl) (by decide) ?_
  refine s_cVp (as := [.int (45)]) (tb_ok aX8_atom2_0 4 rfl) v_RX8_215 (R_isSign (I0 := I0) h.2.2.1 h.2.2.2.2.2 (by decide)) (by omega) rfl rfl rfl rfl rfl (Nat.le_of_ble_eq_true rfl) (by decide) ?_
  refine s_if_eq (tgt := 37) (tb_ok aX8_atom2_0 5 rfl) (by decide) (fun c8 => ?_) (fun c8 => ?_)
  · have n45 : ¬ s.tok = 45 := bI_0.mp c8
    refine s_aload_n (tb_ok aX8_atom2_0 20 rfl) rfl ?_
    refine s_bipush (v := 40) (tb_ok aX8_atom2_0 21 rfl) (by decide) ?_
    refine s_cVp (as := [.int (40)]) (tb_ok aX8_atom2_0 22 rfl) v_RX8_215 (R_isSign (I0 := I0) h.2.2.1 h.2.2.2.2.2 (by decide)) (by omega) rfl rfl rfl rfl rfl (Nat.le_of_ble_eq_true rfl) (by decide) ?_
    refine s_if_eq (tgt := 95) (tb_ok aX8_atom2_0 23 rfl) (by decide) (fun c43 => ?_) (fun c43 => ?_)
    · have n40 : ¬ s.tok = 40 := bI_0.mp c43
      refine s_aload_n (tb_ok aX8_atom2_2 0 rfl) rfl ?_
      refine s_getI (x := (0)) (tb_ok aX8_atom2_2 1 rfl) f_RX8_173 rfl rfl h.2.2.1 ?_
      refine s_if_ne (tgt := 123) (tb_ok aX8_atom2_2 2 rfl) (by decide) (fun c99 => ?_) (fun c99 => ?_)
      · exact absurd c99 (by decide)
      · refine s_aload_n (tb_ok aX8_atom2_2 3 rfl) rfl ?_
        refine s_getI (tb_ok aX8_atom2_2 4 rfl) f_RX8_156 rfl rfl rfl ?_
        refine s_iconst (v := 2) (tb_ok aX8_atom2_2 5 rfl) (by decide) ?_
        refine s_icmp_ne (tgt := 123) (tb_ok aX8_atom2_2 6 rfl) (by decide) (fun c107 => ?_) (fun c107 => ?_)
        · refine s_aload_n (tb_ok aX8_atom2_2 14 rfl) rfl ?_
          refine s_getI (x := (0)) (tb_ok aX8_atom2_2 15 rfl) f_RX8_173 rfl rfl h.2.2.1 ?_
          refine s_if_ne (tgt := 157) (tb_ok aX8_atom2_2 16 rfl) (by decide) (fun c127 => ?_) (fun c127 => ?_)
          · exact absurd c127 (by decide)
          · refine s_aload_n (tb_ok aX8_atom2_2 17 rfl) rfl ?_
            refine s_getI (tb_ok aX8_atom2_2 18 rfl) f_RX8_156 rfl rfl rfl ?_
            refine s_iconst (v := 1) (tb_ok aX8_atom2_2 19 rfl) (by decide) ?_
            refine s_icmp_ne (tgt := 157) (tb_ok aX8_atom2_2 20 rfl) (by decide) (fun c135 => ?_) (fun c135 => ?_)
            · have n2 : ¬ s.tok = 2 := fun e_ => c107 (h.num.mpr e_)
              have n3 : ¬ s.tok = 3 := fun e_ => by
                rcases h.now c135 with k_ | k_ | k_ | k_
                · rw [e_] at k_; exact absurd k_ (by decide)
                · rw [e_] at k_; exact absurd k_ (by decide)
                · rw [e_] at k_; exact absurd k_ (by decide)
                · exact (sg_no k_).2.2.2.1 e_
              have hsq : (oneP t n (some q2)) s = .inr s.pl := by unfold oneP; rw [if_neg (fun h_ => h_.elim n2 n3), if_neg (fun h_ => h_.elim n45 n40)]
              refine s_aload_n (tb_ok aX8_atom2_3 6 rfl) rfl ?_
              refine s_cV (as := []) (tb_ok aX8_atom2_3 7 rfl) v_RX8_187 (R_fail h) (by omega) rfl rfl rfl rfl rfl (Nat.le_of_ble_eq_true rfl) (by decide) (fun r1 S1 I1 L1 R1 q1 => ?_)
              obtain ⟨rfl, rfl, rfl, u1⟩ := q1
              refine s_iload_n (tb_ok aX8_atom2_3 8 rfl) rfl ?_
              refine s_iret (tb_ok aX8_atom2_3 9 rfl) rfl ?_
              refine ⟨rfl, rfl, _, rfl, ?_⟩
              rw [hsq]
              exact u1
            · refine s_aload_n (tb_ok aX8_atom2_2 21 rfl) rfl ?_
              refine s_cV (as := []) (tb_ok aX8_atom2_2 22 rfl) v_RX8_222 (R_name hT h) (by omega) rfl rfl rfl rfl rfl (Nat.le_of_ble_eq_true rfl) (by decide) (fun r2 S2 I2 L2 R2 q2 => ?_)
              obtain ⟨rfl, rfl, v2_, rfl, ⟨h3, w2_, u2⟩ | ⟨n3, u2⟩⟩ := q2
              · have hsq : (oneP t n (some q2)) s = .inl ([s.val], (fun nm => atm nm s.val), adv t n s) := by unfold oneP; rw [if_pos (Or.inr h3)]
                refine s_istore_n (ls' := [some (.ref 66), some (.int v2_)]) (tb_ok aX8_atom2_2 23 rfl) rfl rfl ?_
                refine s_aload_n (tb_ok aX8_atom2_3 0 rfl) rfl ?_
                refine s_getI (x := (0)) (tb_ok aX8_atom2_3 1 rfl) f_RX8_173 rfl rfl u2.2.2.1 ?_
                refine s_if_ne (tgt := 161) (tb_ok aX8_atom2_3 2 rfl) (by decide) (fun c147 => ?_) (fun c147 => ?_)
                · exact absurd c147 (by decide)
                · refine s_aload_n (tb_ok aX8_atom2_3 3 rfl) rfl ?_
                  refine s_cV (as := []) (tb_ok aX8_atom2_3 4 rfl) v_RX8_190 (R_next hT u2 (by rw [h3]; decide) (by rw [h3]; decide)) (by omega) rfl rfl rfl rfl rfl (Nat.le_of_ble_eq_true rfl) (by decide) (fun r3 S3 I3 L3 R3 q3 => ?_)
                  obtain ⟨rfl, rfl, rfl, u3⟩ := q3
                  have a4 := (adv_wf (t := t) u2.2.1).2.2 (by rw [h3]; decide)
                  refine s_goto (tgt := 161) (tb_ok aX8_atom2_3 5 rfl) (by decide) ?_
                  refine s_iload_n (tb_ok aX8_atom2_3 8 rfl) rfl ?_
                  refine s_iret (tb_ok aX8_atom2_3 9 rfl) rfl ?_
                  refine ⟨rfl, rfl, _, rfl, ?_⟩
                  rw [hsq]
                  refine ⟨?_, u3⟩
                  exact w2_
              · have n2 : ¬ s.tok = 2 := fun e_ => by have := h.num.mpr e_; exact c107 this
                have hsq : (oneP t n (some q2)) s = .inr s.pl := by unfold oneP; rw [if_neg (fun h_ => h_.elim n2 n3), if_neg (fun h_ => h_.elim n45 n40)]
                refine s_istore_n (ls' := [some (.ref 66), some (.int v2_)]) (tb_ok aX8_atom2_2 23 rfl) rfl rfl ?_
                refine s_aload_n (tb_ok aX8_atom2_3 0 rfl) rfl ?_
                refine s_getI (x := (1)) (tb_ok aX8_atom2_3 1 rfl) f_RX8_173 rfl rfl u2.2.1 ?_
                refine s_if_ne (tgt := 161) (tb_ok aX8_atom2_3 2 rfl) (by decide) (fun c147 => ?_) (fun c147 => ?_)
                · refine s_iload_n (tb_ok aX8_atom2_3 8 rfl) rfl ?_
                  refine s_iret (tb_ok aX8_atom2_3 9 rfl) rfl ?_
                  refine ⟨rfl, rfl, _, rfl, ?_⟩
                  rw [hsq]
                  exact u2
                · exact absurd c147 (by decide)
        · have ht2 : s.tok = 2 := h.num.mp c107
          have hnv : (L 66 25).toInt32 = atm nm s.val := h.nvl ht2
          have hsq : (oneP t n (some q2)) s = .inl ([s.val], (fun nm => atm nm s.val), adv t n s) := by unfold oneP; rw [if_pos (Or.inl ht2)]
          refine s_aload_n (tb_ok aX8_atom2_2 7 rfl) rfl ?_
          refine s_getL (tb_ok aX8_atom2_2 8 rfl) f_RX8_167 rfl rfl rfl ?_
          refine s_l2i (tb_ok aX8_atom2_2 9 rfl) ?_
          refine s_name (fun x1 ex1 => ?_)
          refine s_istore_n (ls' := [some (.ref 66), some (.int x1)]) (tb_ok aX8_atom2_2 10 rfl) rfl rfl ?_
          refine s_aload_n (tb_ok aX8_atom2_2 11 rfl) rfl ?_
          refine s_cV (as := []) (tb_ok aX8_atom2_2 12 rfl) v_RX8_190 (R_next hT h (by rw [ht2]; decide) (by rw [ht2]; decide)) (by omega) rfl rfl rfl rfl rfl (Nat.le_of_ble_eq_true rfl) (by decide) (fun r4 S4 I4 L4 R4 q4 => ?_)
          obtain ⟨rfl, rfl, rfl, u5⟩ := q4
          have a6 := (adv_wf (t := t) h.2.1).2.2 (by rw [ht2]; decide)
          refine s_goto (tgt := 161) (tb_ok aX8_atom2_2 13 rfl) (by decide) ?_
          refine s_iload_n (tb_ok aX8_atom2_3 8 rfl) rfl ?_
          refine s_iret (tb_ok aX8_atom2_3 9 rfl) rfl ?_
          refine ⟨rfl, rfl, _, rfl, ?_⟩
          rw [hsq]
          refine ⟨?_, u5⟩
          first | exact ex1.trans hnv | exact ex1.trans (congrArg Neg.neg w2_)
    · have h40 : s.tok = 40 := bI_n c43
      have h4 : s.tok = 45 ∨ s.tok = 40 := Or.inr h40
      have h23 : ¬ (s.tok = 2 ∨ s.tok = 3) := by rw [h40]; decide
      refine s_aload_n (tb_ok aX8_atom2_1 0 rfl) rfl ?_
      refine s_cV (as := []) (tb_ok aX8_atom2_1 1 rfl) v_RX8_218 (R_opens hT h (by rw [h40]; decide) (by rw [h40]; decide) (by decide)) (by omega) rfl rfl rfl rfl rfl (Nat.le_of_ble_eq_true rfl) (by decide) (fun r5 S5 I5 L5 R5 q5 => ?_)
      obtain ⟨rfl, rfl, rfl, u7⟩ := q5
      have a8 := (adv_wf (t := t) h.2.1).2.2 (by rw [h40]; decide)
      refine s_if_eq (tgt := 161) (tb_ok aX8_atom2_1 2 rfl) (by decide) (fun c50 => ?_) (fun c50 => ?_)
      · exact absurd c50 (by decide)
      · refine s_aload_n (tb_ok aX8_atom2_1 3 rfl) rfl ?_
        refine s_cV (as := []) (tb_ok aX8_atom2_1 4 rfl) v_RX8_281 (hj _ _ _ u7) (by omega) rfl rfl rfl rfl rfl (Nat.le_of_ble_eq_true rfl) (by decide) (fun r6 S6 I6 L6 R6 q6 => ?_)
        obtain ⟨rfl, rfl, v9_, rfl, u9⟩ := q6
        cases e9_ : q2.1 (adv t n s) with
        | inr g9_ =>
          rw [e9_] at u9
          have u9 : RBad I0 g9_ _ := u9
          have hsq : (oneP t n (some q2)) s = .inr g9_ := by
            unfold oneP
            rw [if_neg h23, if_pos h4]
            show (if s.tok = 45 then _ else _) = _
            rw [if_neg (by rw [h40]; decide)]
            simp only [e9_]
          refine s_istore_n (ls' := [some (.ref 66), some (.int v9_)]) (tb_ok aX8_atom2_1 5 rfl) rfl rfl ?_
          refine s_aload_n (tb_ok aX8_atom2_1 6 rfl) rfl ?_
          refine s_bipush (v := 41) (tb_ok aX8_atom2_1 7 rfl) (by decide) ?_
          refine s_cVp (as := [.int (41)]) (tb_ok aX8_atom2_1 8 rfl) v_RX8_215 (R_isSignE (I0 := I0) u9.2.1) (by omega) rfl rfl rfl rfl rfl (Nat.le_of_ble_eq_true rfl) (by decide) ?_
          refine s_if_ne (tgt := 71) (tb_ok aX8_atom2_1 9 rfl) (by decide) (fun c64 => ?_) (fun c64 => ?_)
          · exact absurd c64 (by decide)
          · refine s_aload_n (tb_ok aX8_atom2_1 10 rfl) rfl ?_
            refine s_cV (as := []) (tb_ok aX8_atom2_1 11 rfl) v_RX8_187 (R_failE u9) (by omega) rfl rfl rfl rfl rfl (Nat.le_of_ble_eq_true rfl) (by decide) (fun r7 S7 I7 L7 R7 q7 => ?_)
            obtain ⟨rfl, rfl, rfl, u10⟩ := q7
            refine s_aload_n (tb_ok aX8_atom2_1 12 rfl) rfl ?_
            refine s_dup (tb_ok aX8_atom2_1 13 rfl) rfl ?_
            refine s_getI (tb_ok aX8_atom2_1 14 rfl) f_RX8_184 rfl rfl rfl ?_
            refine s_iconst (v := 1) (tb_ok aX8_atom2_1 15 rfl) (by decide) ?_
            refine s_isub (tb_ok aX8_atom2_1 16 rfl) ?_
            refine s_putI (tb_ok aX8_atom2_1 17 rfl) f_RX8_184 rfl rfl ?_
            refine s_aload_n (tb_ok aX8_atom2_1 18 rfl) rfl ?_
            refine s_getI (x := (1)) (tb_ok aX8_atom2_1 19 rfl) f_RX8_173 rfl rfl (u10.put26 _).2.1 ?_
            refine s_if_ne (tgt := 161) (tb_ok aX8_atom2_1 20 rfl) (by decide) (fun c85 => ?_) (fun c85 => ?_)
            · refine s_iload_n (tb_ok aX8_atom2_3 8 rfl) rfl ?_
              refine s_iret (tb_ok aX8_atom2_3 9 rfl) rfl ?_
              refine ⟨rfl, rfl, _, rfl, ?_⟩
              rw [hsq]
              exact (u10.put26 _)
            · exact absurd c85 (by decide)
        | inl qq =>
          obtain ⟨c9_, f9_, s9_⟩ := qq
          rw [e9_] at u9
          obtain ⟨w9_, u9⟩ := u9
          have w9_ : v9_ = f9_ nm := w9_
          have u9 : ROk t n 3 I0 s9_ _ _ := u9
          refine s_istore_n (ls' := [some (.ref 66), some (.int v9_)]) (tb_ok aX8_atom2_1 5 rfl) rfl rfl ?_
          refine s_aload_n (tb_ok aX8_atom2_1 6 rfl) rfl ?_
          refine s_bipush (v := 41) (tb_ok aX8_atom2_1 7 rfl) (by decide) ?_
          refine s_cVp (as := [.int (41)]) (tb_ok aX8_atom2_1 8 rfl) v_RX8_215 (R_isSign (I0 := I0) u9.2.2.1 u9.2.2.2.2.2 (by decide)) (by omega) rfl rfl rfl rfl rfl (Nat.le_of_ble_eq_true rfl) (by decide) ?_
          refine s_if_ne (tgt := 71) (tb_ok aX8_atom2_1 9 rfl) (by decide) (fun c64 => ?_) (fun c64 => ?_)
          · refine s_aload_n (tb_ok aX8_atom2_1 12 rfl) rfl ?_
            refine s_dup (tb_ok aX8_atom2_1 13 rfl) rfl ?_
            refine s_getI (x := (nI 3)) (tb_ok aX8_atom2_1 14 rfl) f_RX8_184 rfl rfl u9.2.2.2.1 ?_
            refine s_iconst (v := 1) (tb_ok aX8_atom2_1 15 rfl) (by decide) ?_
            refine s_isub (tb_ok aX8_atom2_1 16 rfl) ?_
            refine s_topi (z := (nI 2)) (by decide) ?_
            refine s_putI (tb_ok aX8_atom2_1 17 rfl) f_RX8_184 rfl rfl ?_
            have u12 := u9.put26 2
            refine s_aload_n (tb_ok aX8_atom2_1 18 rfl) rfl ?_
            refine s_getI (x := (0)) (tb_ok aX8_atom2_1 19 rfl) f_RX8_173 rfl rfl u12.2.2.1 ?_
            refine s_if_ne (tgt := 161) (tb_ok aX8_atom2_1 20 rfl) (by decide) (fun c85 => ?_) (fun c85 => ?_)
            · exact absurd c85 (by decide)
            · have h41 : s9_.tok = 41 := bI_n c64
              have hsq : (oneP t n (some q2)) s = .inl (c9_, f9_, adv t n s9_) := by
                unfold oneP
                rw [if_neg h23, if_pos h4]
                show (if s.tok = 45 then _ else _) = _
                rw [if_neg (by rw [h40]; decide)]
                simp only [e9_]
                rw [if_pos h41]
              refine s_aload_n (tb_ok aX8_atom2_1 21 rfl) rfl ?_
              refine s_cV (as := []) (tb_ok aX8_atom2_1 22 rfl) v_RX8_190 (R_next hT u12 (by rw [h41]; decide) (by rw [h41]; decide)) (by omega) rfl rfl rfl rfl rfl (Nat.le_of_ble_eq_true rfl) (by decide) (fun r8 S8 I8 L8 R8 q8 => ?_)
              obtain ⟨rfl, rfl, rfl, u13⟩ := q8
              have a14 := (adv_wf (t := t) u12.2.1).2.2 (by rw [h41]; decide)
              refine s_goto (tgt := 161) (tb_ok aX8_atom2_1 23 rfl) (by decide) ?_
              refine s_iload_n (tb_ok aX8_atom2_3 8 rfl) rfl ?_
              refine s_iret (tb_ok aX8_atom2_3 9 rfl) rfl ?_
              refine ⟨rfl, rfl, _, rfl, ?_⟩
              rw [hsq]
              refine ⟨?_, u13⟩
              exact w9_
          · have hsq : (oneP t n (some q2)) s = .inr s9_.pl := by
              unfold oneP
              rw [if_neg h23, if_pos h4]
              show (if s.tok = 45 then _ else _) = _
              rw [if_neg (by rw [h40]; decide)]
              simp only [e9_]
              rw [if_neg (bI_0.mp c64)]
            refine s_aload_n (tb_ok aX8_atom2_1 10 rfl) rfl ?_
            refine s_cV (as := []) (tb_ok aX8_atom2_1 11 rfl) v_RX8_187 (R_fail u9) (by omega) rfl rfl rfl rfl rfl (Nat.le_of_ble_eq_true rfl) (by decide) (fun r9 S9 I9 L9 R9 q9 => ?_)
            obtain ⟨rfl, rfl, rfl, u15⟩ := q9
            refine s_aload_n (tb_ok aX8_atom2_1 12 rfl) rfl ?_
            refine s_dup (tb_ok aX8_atom2_1 13 rfl) rfl ?_
            refine s_getI (tb_ok aX8_atom2_1 14 rfl) f_RX8_184 rfl rfl rfl ?_
            refine s_iconst (v := 1) (tb_ok aX8_atom2_1 15 rfl) (by decide) ?_
            refine s_isub (tb_ok aX8_atom2_1 16 rfl) ?_
            refine s_putI (tb_ok aX8_atom2_1 17 rfl) f_RX8_184 rfl rfl ?_
            refine s_aload_n (tb_ok aX8_atom2_1 18 rfl) rfl ?_
            refine s_getI (x := (1)) (tb_ok aX8_atom2_1 19 rfl) f_RX8_173 rfl rfl (u15.put26 _).2.1 ?_
            refine s_if_ne (tgt := 161) (tb_ok aX8_atom2_1 20 rfl) (by decide) (fun c85 => ?_) (fun c85 => ?_)
            · refine s_iload_n (tb_ok aX8_atom2_3 8 rfl) rfl ?_
              refine s_iret (tb_ok aX8_atom2_3 9 rfl) rfl ?_
              refine ⟨rfl, rfl, _, rfl, ?_⟩
              rw [hsq]
              exact (u15.put26 _)
            · exact absurd c85 (by decide)
  · have h45 : s.tok = 45 := bI_n c8
    have h4 : s.tok = 45 ∨ s.tok = 40 := Or.inl h45
    have h23 : ¬ (s.tok = 2 ∨ s.tok = 3) := by rw [h45]; decide
    refine s_aload_n (tb_ok aX8_atom2_0 6 rfl) rfl ?_
    refine s_cV (as := []) (tb_ok aX8_atom2_0 7 rfl) v_RX8_218 (R_opens hT h (by rw [h45]; decide) (by rw [h45]; decide) (by decide)) (by omega) rfl rfl rfl rfl rfl (Nat.le_of_ble_eq_true rfl) (by decide) (fun r10 S10 I10 L10 R10 q10 => ?_)
    obtain ⟨rfl, rfl, rfl, u17⟩ := q10
    have a18 := (adv_wf (t := t) h.2.1).2.2 (by rw [h45]; decide)
    refine s_if_eq (tgt := 161) (tb_ok aX8_atom2_0 8 rfl) (by decide) (fun c15 => ?_) (fun c15 => ?_)
    · exact absurd c15 (by decide)
    · refine s_aload_n (tb_ok aX8_atom2_0 9 rfl) rfl ?_
      refine s_cV (as := []) (tb_ok aX8_atom2_0 10 rfl) v_RX8_266 (hi _ _ _ u17) (by omega) rfl rfl rfl rfl rfl (Nat.le_of_ble_eq_true rfl) (by decide) (fun r11 S11 I11 L11 R11 q11 => ?_)
      obtain ⟨rfl, rfl, v19_, rfl, u19⟩ := q11
      cases e19_ : q2.2.2 (adv t n s) with
      | inr g19_ =>
        rw [e19_] at u19
        have u19 : RBad I0 g19_ _ := u19
        have hsq : (oneP t n (some q2)) s = .inr g19_ := by
          unfold oneP
          rw [if_neg h23, if_pos h4]
          show (if s.tok = 45 then _ else _) = _
          rw [if_pos h45]
          simp only [e19_]
        refine s_ineg (tb_ok aX8_atom2_0 11 rfl) ?_
        refine s_name (fun x2 ex2 => ?_)
        refine s_istore_n (ls' := [some (.ref 66), some (.int x2)]) (tb_ok aX8_atom2_0 12 rfl) rfl rfl ?_
        refine s_aload_n (tb_ok aX8_atom2_0 13 rfl) rfl ?_
        refine s_dup (tb_ok aX8_atom2_0 14 rfl) rfl ?_
        refine s_getI (tb_ok aX8_atom2_0 15 rfl) f_RX8_184 rfl rfl rfl ?_
        refine s_iconst (v := 1) (tb_ok aX8_atom2_0 16 rfl) (by decide) ?_
        refine s_isub (tb_ok aX8_atom2_0 17 rfl) ?_
        refine s_putI (tb_ok aX8_atom2_0 18 rfl) f_RX8_184 rfl rfl ?_
        refine s_goto (tgt := 161) (tb_ok aX8_atom2_0 19 rfl) (by decide) ?_
        refine s_iload_n (tb_ok aX8_atom2_3 8 rfl) rfl ?_
        refine s_iret (tb_ok aX8_atom2_3 9 rfl) rfl ?_
        refine ⟨rfl, rfl, _, rfl, ?_⟩
        rw [hsq]
        exact (u19.put26 _)
      | inl qq =>
        obtain ⟨c19_, f19_, s19_⟩ := qq
        rw [e19_] at u19
        obtain ⟨w19_, u19⟩ := u19
        have w19_ : v19_ = f19_ nm := w19_
        have u19 : ROk t n 3 I0 s19_ _ _ := u19
        have hsq : (oneP t n (some q2)) s = .inl (c19_ ++ [20000], (fun nm => of1 20000 (f19_ nm)), s19_) := by
          unfold oneP
          rw [if_neg h23, if_pos h4]
          show (if s.tok = 45 then _ else _) = _
          rw [if_pos h45]
          simp only [e19_]
        refine s_ineg (tb_ok aX8_atom2_0 11 rfl) ?_
        refine s_name (fun x3 ex3 => ?_)
        refine s_istore_n (ls' := [some (.ref 66), some (.int x3)]) (tb_ok aX8_atom2_0 12 rfl) rfl rfl ?_
        refine s_aload_n (tb_ok aX8_atom2_0 13 rfl) rfl ?_
        refine s_dup (tb_ok aX8_atom2_0 14 rfl) rfl ?_
        refine s_getI (x := (nI 3)) (tb_ok aX8_atom2_0 15 rfl) f_RX8_184 rfl rfl u19.2.2.2.1 ?_
        refine s_iconst (v := 1) (tb_ok aX8_atom2_0 16 rfl) (by decide) ?_
        refine s_isub (tb_ok aX8_atom2_0 17 rfl) ?_
        refine s_topi (z := (nI 2)) (by decide) ?_
        refine s_putI (tb_ok aX8_atom2_0 18 rfl) f_RX8_184 rfl rfl ?_
        have u21 := u19.put26 2
        refine s_goto (tgt := 161) (tb_ok aX8_atom2_0 19 rfl) (by decide) ?_
        refine s_iload_n (tb_ok aX8_atom2_3 8 rfl) rfl ?_
        refine s_iret (tb_ok aX8_atom2_3 9 rfl) rfl ?_
        refine ⟨rfl, rfl, _, rfl, ?_⟩
        rw [hsq]
        refine ⟨?_, u21⟩
        first | exact ex3.trans hnv | exact ex3.trans (congrArg Neg.neg w19_)

set_option maxRecDepth 100000 in
set_option maxHeartbeats 1000000 in
theorem L_term2 {X : En} {q : Nat × Nat} {I0 : FI} {F n : Nat} {t nm : Nat → Int32} (hT : TxX I0 F n t nm) {d f : Nat} (hd : 2 < d) {Q : Pst} {I : FI} {L : FL} (x : Int32) (h : RBad I0 f I) (hQ : ∀ v, Q (some (.int v)) S0 I L (R0 q)) : SW X (d + 1) mX8_term2 (0, 0) 5 [some (.ref 66), some (.int x)] [] S0 I L (R0 q) (KQ X Q) := by
  refine s_aload_n (tb_ok aX8_term2_0 3 rfl) rfl ?_
  refine s_bipush (v := 42) (tb_ok aX8_term2_0 4 rfl) (by decide) ?_
  refine s_cVp (as := [.int (42)]) (tb_ok aX8_term2_0 5 rfl) v_RX8_215 (R_isSignE (I0 := I0) h.2.1) (by omega) rfl rfl rfl rfl rfl (Nat.le_of_ble_eq_true rfl) (by decide) ?_
  refine s_if_eq (tgt := 28) (tb_ok aX8_term2_0 6 rfl) (by decide) (fun c11 => ?_) (fun c11 => ?_)
  · refine s_iload_n (tb_ok aX8_term2_0 15 rfl) rfl ?_
    refine s_iret (tb_ok aX8_term2_0 16 rfl) rfl ?_
    exact hQ _
  · exact absurd c11 (by decide)

set_option maxRecDepth 100000 in
set_option maxHeartbeats 1000000 in
theorem C_term2 {X : En} {q : Nat × Nat} {I0 : FI} {F n : Nat} {t nm : Nat → Int32} (hT : TxX I0 F n t nm) {d dp : Nat} (hd : 2 < d) {P : Pa} (hN : Nice n dp P) (hi : CtX X q t nm n I0 d mX8_atom2 2 P) : CtX X q t nm n I0 (d + 1) mX8_term2 2 (seqP t n opT cdT P) := by
  intro I L s h
  obtain ⟨hF, hn, hn160, hFn, ht, ht0, hnm⟩ := id hT
  have loop : ∀ k, ∀ (I : FI) (L : FL) (c : List Int32) (f : Sem) (s1 : St) (x : Int32), x = f nm → ROk t n 2 I0 s1 I L → 160 < s1.pl + k → loopP t n opT cdT P k c f s1 = (seqP t n opT cdT P) s → SW X (d + 1) mX8_term2 (0, 0) 5 [some (.ref 66), some (.int x)] [] S0 I L (R0 q) (KQ X (AfP q t nm n 2 I0 ((seqP t n opT cdT P) s))) := by
    intro k
    induction k with
    | zero =>
      intro I L c f s1 x hx h1 hk hres
      have := h1.pln
      omega
    | succ k ih =>
      intro I L c f s1 x hx h1 hk hres
      refine s_aload_n (tb_ok aX8_term2_0 3 rfl) rfl ?_
      refine s_bipush (v := 42) (tb_ok aX8_term2_0 4 rfl) (by decide) ?_
      refine s_cVp (as := [.int (42)]) (tb_ok aX8_term2_0 5 rfl) v_RX8_215 (R_isSign (I0 := I0) h1.2.2.1 h1.2.2.2.2.2 (by decide)) (by omega) rfl rfl rfl rfl rfl (Nat.le_of_ble_eq_true rfl) (by decide) ?_
      refine s_if_eq (tgt := 28) (tb_ok aX8_term2_0 6 rfl) (by decide) (fun c11 => ?_) (fun c11 => ?_)
      · refine s_iload_n (tb_ok aX8_term2_0 15 rfl) rfl ?_
        refine s_iret (tb_ok aX8_term2_0 16 rfl) rfl ?_
        refine ⟨rfl, rfl, _, rfl, ?_⟩
        rw [← hres, loopP, if_neg (bI_0.mp c11)]
        exact ⟨hx, h1⟩
      · have hop : opT s1.tok := bI_n c11
        refine s_aload_n (tb_ok aX8_term2_0 7 rfl) rfl ?_
        refine s_cV (as := []) (tb_ok aX8_term2_0 8 rfl) v_RX8_190 (R_next hT h1 (by rw [hop]; decide) (by rw [hop]; decide)) (by omega) rfl rfl rfl rfl rfl (Nat.le_of_ble_eq_true rfl) (by decide) (fun r1 S1 I1 L1 R1 q1 => ?_)
        obtain ⟨rfl, rfl, rfl, u1⟩ := q1
        have a2 := (adv_wf (t := t) h1.2.1).2.2 (by rw [hop]; decide)
        refine s_iload_n (tb_ok aX8_term2_0 9 rfl) rfl ?_
        refine s_aload_n (tb_ok aX8_term2_0 10 rfl) rfl ?_
        refine s_cV (as := []) (tb_ok aX8_term2_0 11 rfl) v_RX8_284 (hi _ _ _ u1) (by omega) rfl rfl rfl rfl rfl (Nat.le_of_ble_eq_true rfl) (by decide) (fun r2 S2 I2 L2 R2 q2 => ?_)
        obtain ⟨rfl, rfl, v3_, rfl, u3⟩ := q2
        cases e3_ : P (adv t n s1) with
        | inr g3_ =>
          rw [e3_] at u3
          have u3 : RBad I0 g3_ _ := u3
          rw [loopP, if_pos hop, e3_] at hres
          refine s_imul (tb_ok aX8_term2_0 12 rfl) ?_
          refine s_name (fun x1 ex1 => ?_)
          refine s_istore_n (ls' := [some (.ref 66), some (.int x1)]) (tb_ok aX8_term2_0 13 rfl) rfl rfl ?_
          refine s_goto (tgt := 5) (tb_ok aX8_term2_0 14 rfl) (by decide) ?_
          refine L_term2 hT hd _ u3 (fun v => ⟨rfl, rfl, _, rfl, ?_⟩)
          rw [← hres]
          exact u3
        | inl qq =>
          obtain ⟨c3_, f3_, s3_⟩ := qq
          rw [e3_] at u3
          obtain ⟨w3_, u3⟩ := u3
          have w3_ : v3_ = f3_ nm := w3_
          have u3 : ROk t n 2 I0 s3_ _ _ := u3
          have b3_ := Nice.two (t := t) hN u1.2.1 e3_
          rw [loopP, if_pos hop, e3_] at hres
          refine s_imul (tb_ok aX8_term2_0 12 rfl) ?_
          refine s_name (fun x2 ex2 => ?_)
          refine s_istore_n (ls' := [some (.ref 66), some (.int x2)]) (tb_ok aX8_term2_0 13 rfl) rfl rfl ?_
          refine s_goto (tgt := 5) (tb_ok aX8_term2_0 14 rfl) (by decide) ?_
          refine ih _ _ _ _ _ x2 ?_ u3 (by omega) hres
          show x2 = of2 30002 (f nm) _
          rw [of2_mul, ex2, hx, w3_]
  refine ev_of (by decide +kernel) rfl ?_
  show SW X _ _ _ 0 [some (.ref 66), none] [] S0 I L (R0 q) _
  refine s_aload_n (tb_ok aX8_term2_0 0 rfl) rfl ?_
  refine s_cV (as := []) (tb_ok aX8_term2_0 1 rfl) v_RX8_284 (hi _ _ _ h) (by omega) rfl rfl rfl rfl rfl (Nat.le_of_ble_eq_true rfl) (by decide) (fun r1 S1 I1 L1 R1 q1 => ?_)
  obtain ⟨rfl, rfl, v4_, rfl, u4⟩ := q1
  cases e4_ : P s with
  | inr g4_ =>
    rw [e4_] at u4
    have u4 : RBad I0 g4_ _ := u4
    have hsq : (seqP t n opT cdT P) s = .inr g4_ := by unfold seqP; rw [e4_]
    refine s_istore_n (ls' := [some (.ref 66), some (.int v4_)]) (tb_ok aX8_term2_0 2 rfl) rfl rfl ?_
    refine L_term2 hT hd _ u4 (fun v => ⟨rfl, rfl, _, rfl, ?_⟩)
    rw [hsq]
    exact u4
  | inl qq =>
    obtain ⟨c4_, f4_, s4_⟩ := qq
    rw [e4_] at u4
    obtain ⟨w4_, u4⟩ := u4
    have w4_ : v4_ = f4_ nm := w4_
    have u4 : ROk t n 2 I0 s4_ _ _ := u4
    have b4_ := Nice.two (t := t) hN h.2.1 e4_
    have hsq : (seqP t n opT cdT P) s = loopP t n opT cdT P 160 c4_ f4_ s4_ := by unfold seqP; rw [e4_]
    refine s_istore_n (ls' := [some (.ref 66), some (.int v4_)]) (tb_ok aX8_term2_0 2 rfl) rfl rfl ?_
    exact loop 160 _ _ _ _ _ _ w4_ u4 (by omega) hsq.symm

set_option maxRecDepth 100000 in
set_option maxHeartbeats 1000000 in
theorem L_added2 {X : En} {q : Nat × Nat} {I0 : FI} {F n : Nat} {t nm : Nat → Int32} (hT : TxX I0 F n t nm) {d f : Nat} (hd : 2 < d) {Q : Pst} {I : FI} {L : FL} (x : Int32) (o2 : Option Value) (o3 : Option Value) (h : RBad I0 f I) (hQ : ∀ v, Q (some (.int v)) S0 I L (R0 q)) : SW X (d + 1) mX8_added2 (0, 0) 5 [some (.ref 66), some (.int x), o2, o3] [] S0 I L (R0 q) (KQ X Q) := by
  refine s_aload_n (tb_ok aX8_added2_0 3 rfl) rfl ?_
  refine s_bipush (v := 43) (tb_ok aX8_added2_0 4 rfl) (by decide) ?_
  refine s_cVp (as := [.int (43)]) (tb_ok aX8_added2_0 5 rfl) v_RX8_215 (R_isSignE (I0 := I0) h.2.1) (by omega) rfl rfl rfl rfl rfl (Nat.le_of_ble_eq_true rfl) (by decide) ?_
  refine s_if_ne (tgt := 23) (tb_ok aX8_added2_0 6 rfl) (by decide) (fun c11 => ?_) (fun c11 => ?_)
  · exact absurd c11 (by decide)
  · refine s_aload_n (tb_ok aX8_added2_0 7 rfl) rfl ?_
    refine s_bipush (v := 45) (tb_ok aX8_added2_0 8 rfl) (by decide) ?_
    refine s_cVp (as := [.int (45)]) (tb_ok aX8_added2_0 9 rfl) v_RX8_215 (R_isSignE (I0 := I0) h.2.1) (by omega) rfl rfl rfl rfl rfl (Nat.le_of_ble_eq_true rfl) (by decide) ?_
    refine s_if_eq (tgt := 66) (tb_ok aX8_added2_0 10 rfl) (by decide) (fun c20 => ?_) (fun c20 => ?_)
    · refine s_iload_n (tb_ok aX8_added2_1 12 rfl) rfl ?_
      refine s_iret (tb_ok aX8_added2_1 13 rfl) rfl ?_
      exact hQ _
    · exact absurd c20 (by decide)

set_option maxRecDepth 100000 in
set_option maxHeartbeats 1000000 in
theorem C_added2 {X : En} {q : Nat × Nat} {I0 : FI} {F n : Nat} {t nm : Nat → Int32} (hT : TxX I0 F n t nm) {d dp : Nat} (hd : 2 < d) {P : Pa} (hN : Nice n dp P) (hi : CtX X q t nm n I0 d mX8_term2 2 P) : CtX X q t nm n I0 (d + 1) mX8_added2 2 (seqP t n opS cdS P) := by
  intro I L s h
  obtain ⟨hF, hn, hn160, hFn, ht, ht0, hnm⟩ := id hT
  have loop : ∀ k, ∀ (o2 : Option Value) (o3 : Option Value) (I : FI) (L : FL) (c : List Int32) (f : Sem) (s1 : St) (x : Int32), x = f nm → ROk t n 2 I0 s1 I L → 160 < s1.pl + k → loopP t n opS cdS P k c f s1 = (seqP t n opS cdS P) s → SW X (d + 1) mX8_added2 (0, 0) 5 [some (.ref 66), some (.int x), o2, o3] [] S0 I L (R0 q) (KQ X (AfP q t nm n 2 I0 ((seqP t n opS cdS P) s))) := by
    intro k
    induction k with
    | zero =>
      intro o2 o3 I L c f s1 x hx h1 hk hres
      have := h1.pln
      omega
    | succ k ih =>
      intro o2 o3 I L c f s1 x hx h1 hk hres
      refine s_aload_n (tb_ok aX8_added2_0 3 rfl) rfl ?_
      refine s_bipush (v := 43) (tb_ok aX8_added2_0 4 rfl) (by decide) ?_
      refine s_cVp (as := [.int (43)]) (tb_ok aX8_added2_0 5 rfl) v_RX8_215 (R_isSign (I0 := I0) h1.2.2.1 h1.2.2.2.2.2 (by decide)) (by omega) rfl rfl rfl rfl rfl (Nat.le_of_ble_eq_true rfl) (by decide) ?_
      refine s_if_ne (tgt := 23) (tb_ok aX8_added2_0 6 rfl) (by decide) (fun c11 => ?_) (fun c11 => ?_)
      · have hop : opS s1.tok := by first | exact Or.inl (bI_n c11) | exact Or.inr (bI_n c20)
        have hwr := h1.wrth (by rcases hop with e_ | e_ <;> rw [e_] <;> decide)
        refine s_aload_n (tb_ok aX8_added2_0 11 rfl) rfl ?_
        refine s_getL (tb_ok aX8_added2_0 12 rfl) f_RX8_167 rfl rfl rfl ?_
        refine s_ldc2 (tb_ok aX8_added2_0 13 rfl) k_RX8_232 ?_
        refine s_lcmp (tb_ok aX8_added2_0 14 rfl) ?_
        refine s_if_ne (tgt := 38) (tb_ok aX8_added2_0 15 rfl) (by decide) (fun c31 => ?_) (fun c31 => ?_)
        · have h43 : ¬ s1.tok = 43 := fun e_ => c31 ((cmp_eq _ _).mpr (hwr.trans (by rw [e_]; rfl)))
          refine s_iconst (v := 0) (tb_ok aX8_added2_0 18 rfl) (by decide) ?_
          refine s_istore_n (ls' := [some (.ref 66), some (.int x), some (.int (0)), o3]) (tb_ok aX8_added2_0 19 rfl) rfl rfl ?_
          refine s_aload_n (tb_ok aX8_added2_0 20 rfl) rfl ?_
          refine s_cV (as := []) (tb_ok aX8_added2_0 21 rfl) v_RX8_190 (R_next hT h1 (by rcases hop with e_ | e_ <;> rw [e_] <;> decide) (by rcases hop with e_ | e_ <;> rw [e_] <;> decide)) (by omega) rfl rfl rfl rfl rfl (Nat.le_of_ble_eq_true rfl) (by decide) (fun r1 S1 I1 L1 R1 q1 => ?_)
          obtain ⟨rfl, rfl, rfl, u1⟩ := q1
          have a2 := (adv_wf (t := t) h1.2.1).2.2 (by rcases hop with e_ | e_ <;> rw [e_] <;> decide)
          refine s_aload_n (tb_ok aX8_added2_0 22 rfl) rfl ?_
          refine s_cV (as := []) (tb_ok aX8_added2_0 23 rfl) v_RX8_287 (hi _ _ _ u1) (by omega) rfl rfl rfl rfl rfl (Nat.le_of_ble_eq_true rfl) (by decide) (fun r2 S2 I2 L2 R2 q2 => ?_)
          obtain ⟨rfl, rfl, v3_, rfl, u3⟩ := q2
          cases e3_ : P (adv t n s1) with
          | inr g3_ =>
            rw [e3_] at u3
            have u3 : RBad I0 g3_ _ := u3
            rw [loopP, if_pos hop, e3_] at hres
            refine s_istore_n (ls' := [some (.ref 66), some (.int x), some (.int (0)), some (.int v3_)]) (tb_ok aX8_added2_1 0 rfl) rfl rfl ?_
            refine s_iload_n (tb_ok aX8_added2_1 1 rfl) rfl ?_
            refine s_if_eq (tgt := 59) (tb_ok aX8_added2_1 2 rfl) (by decide) (fun c50 => ?_) (fun c50 => ?_)
            · refine s_iload_n (tb_ok aX8_added2_1 7 rfl) rfl ?_
              refine s_iload_n (tb_ok aX8_added2_1 8 rfl) rfl ?_
              refine s_isub (tb_ok aX8_added2_1 9 rfl) ?_
              refine s_name (fun x1 ex1 => ?_)
              refine s_istore_n (ls' := [some (.ref 66), some (.int x1), some (.int (0)), some (.int v3_)]) (tb_ok aX8_added2_1 10 rfl) rfl rfl ?_
              refine s_goto (tgt := 5) (tb_ok aX8_added2_1 11 rfl) (by decide) ?_
              refine L_added2 hT hd _ _ _ u3 (fun v => ⟨rfl, rfl, _, rfl, ?_⟩)
              rw [← hres]
              exact u3
            · exact absurd c50 (by decide)
          | inl qq =>
            obtain ⟨c3_, f3_, s3_⟩ := qq
            rw [e3_] at u3
            obtain ⟨w3_, u3⟩ := u3
            have w3_ : v3_ = f3_ nm := w3_
            have u3 : ROk t n 2 I0 s3_ _ _ := u3
            have b3_ := Nice.two (t := t) hN u1.2.1 e3_
            rw [loopP, if_pos hop, e3_] at hres
            refine s_istore_n (ls' := [some (.ref 66), some (.int x), some (.int (0)), some (.int v3_)]) (tb_ok aX8_added2_1 0 rfl) rfl rfl ?_
            refine s_iload_n (tb_ok aX8_added2_1 1 rfl) rfl ?_
            refine s_if_eq (tgt := 59) (tb_ok aX8_added2_1 2 rfl) (by decide) (fun c50 => ?_) (fun c50 => ?_)
            · refine s_iload_n (tb_ok aX8_added2_1 7 rfl) rfl ?_
              refine s_iload_n (tb_ok aX8_added2_1 8 rfl) rfl ?_
              refine s_isub (tb_ok aX8_added2_1 9 rfl) ?_
              refine s_name (fun x2 ex2 => ?_)
              refine s_istore_n (ls' := [some (.ref 66), some (.int x2), some (.int (0)), some (.int v3_)]) (tb_ok aX8_added2_1 10 rfl) rfl rfl ?_
              refine s_goto (tgt := 5) (tb_ok aX8_added2_1 11 rfl) (by decide) ?_
              refine ih _ _ _ _ _ _ _ x2 ?_ u3 (by omega) hres
              show x2 = of2 (cdS s1.tok) (f nm) _
              first | (rw [show cdS s1.tok = 30000 from if_pos h43, of2_add, ex2, hx, w3_]; done) | (rw [show cdS s1.tok = 30001 from if_neg h43, of2_sub, ex2, hx, w3_]; done)
            · exact absurd c50 (by decide)
        · have h43 : s1.tok = 43 := i64_inj.mp (hwr.symm.trans ((cmp_eq _ _).mp c31))
          refine s_iconst (v := 1) (tb_ok aX8_added2_0 16 rfl) (by decide) ?_
          refine s_goto (tgt := 39) (tb_ok aX8_added2_0 17 rfl) (by decide) ?_
          refine s_istore_n (ls' := [some (.ref 66), some (.int x), some (.int (1)), o3]) (tb_ok aX8_added2_0 19 rfl) rfl rfl ?_
          refine s_aload_n (tb_ok aX8_added2_0 20 rfl) rfl ?_
          refine s_cV (as := []) (tb_ok aX8_added2_0 21 rfl) v_RX8_190 (R_next hT h1 (by rcases hop with e_ | e_ <;> rw [e_] <;> decide) (by rcases hop with e_ | e_ <;> rw [e_] <;> decide)) (by omega) rfl rfl rfl rfl rfl (Nat.le_of_ble_eq_true rfl) (by decide) (fun r3 S3 I3 L3 R3 q3 => ?_)
          obtain ⟨rfl, rfl, rfl, u4⟩ := q3
          have a5 := (adv_wf (t := t) h1.2.1).2.2 (by rcases hop with e_ | e_ <;> rw [e_] <;> decide)
          refine s_aload_n (tb_ok aX8_added2_0 22 rfl) rfl ?_
          refine s_cV (as := []) (tb_ok aX8_added2_0 23 rfl) v_RX8_287 (hi _ _ _ u4) (by omega) rfl rfl rfl rfl rfl (Nat.le_of_ble_eq_true rfl) (by decide) (fun r4 S4 I4 L4 R4 q4 => ?_)
          obtain ⟨rfl, rfl, v6_, rfl, u6⟩ := q4
          cases e6_ : P (adv t n s1) with
          | inr g6_ =>
            rw [e6_] at u6
            have u6 : RBad I0 g6_ _ := u6
            rw [loopP, if_pos hop, e6_] at hres
            refine s_istore_n (ls' := [some (.ref 66), some (.int x), some (.int (1)), some (.int v6_)]) (tb_ok aX8_added2_1 0 rfl) rfl rfl ?_
            refine s_iload_n (tb_ok aX8_added2_1 1 rfl) rfl ?_
            refine s_if_eq (tgt := 59) (tb_ok aX8_added2_1 2 rfl) (by decide) (fun c50 => ?_) (fun c50 => ?_)
            · exact absurd c50 (by decide)
            · refine s_iload_n (tb_ok aX8_added2_1 3 rfl) rfl ?_
              refine s_iload_n (tb_ok aX8_added2_1 4 rfl) rfl ?_
              refine s_iadd (tb_ok aX8_added2_1 5 rfl) ?_
              refine s_goto (tgt := 62) (tb_ok aX8_added2_1 6 rfl) (by decide) ?_
              refine s_name (fun x3 ex3 => ?_)
              refine s_istore_n (ls' := [some (.ref 66), some (.int x3), some (.int (1)), some (.int v6_)]) (tb_ok aX8_added2_1 10 rfl) rfl rfl ?_
              refine s_goto (tgt := 5) (tb_ok aX8_added2_1 11 rfl) (by decide) ?_
              refine L_added2 hT hd _ _ _ u6 (fun v => ⟨rfl, rfl, _, rfl, ?_⟩)
              rw [← hres]
              exact u6
          | inl qq =>
            obtain ⟨c6_, f6_, s6_⟩ := qq
            rw [e6_] at u6
            obtain ⟨w6_, u6⟩ := u6
            have w6_ : v6_ = f6_ nm := w6_
            have u6 : ROk t n 2 I0 s6_ _ _ := u6
            have b6_ := Nice.two (t := t) hN u4.2.1 e6_
            rw [loopP, if_pos hop, e6_] at hres
            refine s_istore_n (ls' := [some (.ref 66), some (.int x), some (.int (1)), some (.int v6_)]) (tb_ok aX8_added2_1 0 rfl) rfl rfl ?_
            refine s_iload_n (tb_ok aX8_added2_1 1 rfl) rfl ?_
            refine s_if_eq (tgt := 59) (tb_ok aX8_added2_1 2 rfl) (by decide) (fun c50 => ?_) (fun c50 => ?_)
            · exact absurd c50 (by decide)
            · refine s_iload_n (tb_ok aX8_added2_1 3 rfl) rfl ?_
              refine s_iload_n (tb_ok aX8_added2_1 4 rfl) rfl ?_
              refine s_iadd (tb_ok aX8_added2_1 5 rfl) ?_
              refine s_goto (tgt := 62) (tb_ok aX8_added2_1 6 rfl) (by decide) ?_
              refine s_name (fun x4 ex4 => ?_)
              refine s_istore_n (ls' := [some (.ref 66), some (.int x4), some (.int (1)), some (.int v6_)]) (tb_ok aX8_added2_1 10 rfl) rfl rfl ?_
              refine s_goto (tgt := 5) (tb_ok aX8_added2_1 11 rfl) (by decide) ?_
              refine ih _ _ _ _ _ _ _ x4 ?_ u6 (by omega) hres
              show x4 = of2 (cdS s1.tok) (f nm) _
              first | (rw [show cdS s1.tok = 30000 from if_pos h43, of2_add, ex4, hx, w6_]; done) | (rw [show cdS s1.tok = 30001 from if_neg h43, of2_sub, ex4, hx, w6_]; done)
      · refine s_aload_n (tb_ok aX8_added2_0 7 rfl) rfl ?_
        refine s_bipush (v := 45) (tb_ok aX8_added2_0 8 rfl) (by decide) ?_
        refine s_cVp (as := [.int (45)]) (tb_ok aX8_added2_0 9 rfl) v_RX8_215 (R_isSign (I0 := I0) h1.2.2.1 h1.2.2.2.2.2 (by decide)) (by omega) rfl rfl rfl rfl rfl (Nat.le_of_ble_eq_true rfl) (by decide) ?_
        refine s_if_eq (tgt := 66) (tb_ok aX8_added2_0 10 rfl) (by decide) (fun c20 => ?_) (fun c20 => ?_)
        · refine s_iload_n (tb_ok aX8_added2_1 12 rfl) rfl ?_
          refine s_iret (tb_ok aX8_added2_1 13 rfl) rfl ?_
          refine ⟨rfl, rfl, _, rfl, ?_⟩
          rw [← hres, loopP, if_neg (fun h_ => h_.elim (bI_0.mp c11) (bI_0.mp c20))]
          exact ⟨hx, h1⟩
        · have hop : opS s1.tok := by first | exact Or.inl (bI_n c11) | exact Or.inr (bI_n c20)
          have hwr := h1.wrth (by rcases hop with e_ | e_ <;> rw [e_] <;> decide)
          refine s_aload_n (tb_ok aX8_added2_0 11 rfl) rfl ?_
          refine s_getL (tb_ok aX8_added2_0 12 rfl) f_RX8_167 rfl rfl rfl ?_
          refine s_ldc2 (tb_ok aX8_added2_0 13 rfl) k_RX8_232 ?_
          refine s_lcmp (tb_ok aX8_added2_0 14 rfl) ?_
          refine s_if_ne (tgt := 38) (tb_ok aX8_added2_0 15 rfl) (by decide) (fun c31 => ?_) (fun c31 => ?_)
          · have h43 : ¬ s1.tok = 43 := fun e_ => c31 ((cmp_eq _ _).mpr (hwr.trans (by rw [e_]; rfl)))
            refine s_iconst (v := 0) (tb_ok aX8_added2_0 18 rfl) (by decide) ?_
            refine s_istore_n (ls' := [some (.ref 66), some (.int x), some (.int (0)), o3]) (tb_ok aX8_added2_0 19 rfl) rfl rfl ?_
            refine s_aload_n (tb_ok aX8_added2_0 20 rfl) rfl ?_
            refine s_cV (as := []) (tb_ok aX8_added2_0 21 rfl) v_RX8_190 (R_next hT h1 (by rcases hop with e_ | e_ <;> rw [e_] <;> decide) (by rcases hop with e_ | e_ <;> rw [e_] <;> decide)) (by omega) rfl rfl rfl rfl rfl (Nat.le_of_ble_eq_true rfl) (by decide) (fun r5 S5 I5 L5 R5 q5 => ?_)
            obtain ⟨rfl, rfl, rfl, u7⟩ := q5
            have a8 := (adv_wf (t := t) h1.2.1).2.2 (by rcases hop with e_ | e_ <;> rw [e_] <;> decide)
            refine s_aload_n (tb_ok aX8_added2_0 22 rfl) rfl ?_
            refine s_cV (as := []) (tb_ok aX8_added2_0 23 rfl) v_RX8_287 (hi _ _ _ u7) (by omega) rfl rfl rfl rfl rfl (Nat.le_of_ble_eq_true rfl) (by decide) (fun r6 S6 I6 L6 R6 q6 => ?_)
            obtain ⟨rfl, rfl, v9_, rfl, u9⟩ := q6
            cases e9_ : P (adv t n s1) with
            | inr g9_ =>
              rw [e9_] at u9
              have u9 : RBad I0 g9_ _ := u9
              rw [loopP, if_pos hop, e9_] at hres
              refine s_istore_n (ls' := [some (.ref 66), some (.int x), some (.int (0)), some (.int v9_)]) (tb_ok aX8_added2_1 0 rfl) rfl rfl ?_
              refine s_iload_n (tb_ok aX8_added2_1 1 rfl) rfl ?_
              refine s_if_eq (tgt := 59) (tb_ok aX8_added2_1 2 rfl) (by decide) (fun c50 => ?_) (fun c50 => ?_)
              · refine s_iload_n (tb_ok aX8_added2_1 7 rfl) rfl ?_
                refine s_iload_n (tb_ok aX8_added2_1 8 rfl) rfl ?_
                refine s_isub (tb_ok aX8_added2_1 9 rfl) ?_
                refine s_name (fun x5 ex5 => ?_)
                refine s_istore_n (ls' := [some (.ref 66), some (.int x5), some (.int (0)), some (.int v9_)]) (tb_ok aX8_added2_1 10 rfl) rfl rfl ?_
                refine s_goto (tgt := 5) (tb_ok aX8_added2_1 11 rfl) (by decide) ?_
                refine L_added2 hT hd _ _ _ u9 (fun v => ⟨rfl, rfl, _, rfl, ?_⟩)
                rw [← hres]
                exact u9
              · exact absurd c50 (by decide)
            | inl qq =>
              obtain ⟨c9_, f9_, s9_⟩ := qq
              rw [e9_] at u9
              obtain ⟨w9_, u9⟩ := u9
              have w9_ : v9_ = f9_ nm := w9_
              have u9 : ROk t n 2 I0 s9_ _ _ := u9
              have b9_ := Nice.two (t := t) hN u7.2.1 e9_
              rw [loopP, if_pos hop, e9_] at hres
              refine s_istore_n (ls' := [some (.ref 66), some (.int x), some (.int (0)), some (.int v9_)]) (tb_ok aX8_added2_1 0 rfl) rfl rfl ?_
              refine s_iload_n (tb_ok aX8_added2_1 1 rfl) rfl ?_
              refine s_if_eq (tgt := 59) (tb_ok aX8_added2_1 2 rfl) (by decide) (fun c50 => ?_) (fun c50 => ?_)
              · refine s_iload_n (tb_ok aX8_added2_1 7 rfl) rfl ?_
                refine s_iload_n (tb_ok aX8_added2_1 8 rfl) rfl ?_
                refine s_isub (tb_ok aX8_added2_1 9 rfl) ?_
                refine s_name (fun x6 ex6 => ?_)
                refine s_istore_n (ls' := [some (.ref 66), some (.int x6), some (.int (0)), some (.int v9_)]) (tb_ok aX8_added2_1 10 rfl) rfl rfl ?_
                refine s_goto (tgt := 5) (tb_ok aX8_added2_1 11 rfl) (by decide) ?_
                refine ih _ _ _ _ _ _ _ x6 ?_ u9 (by omega) hres
                show x6 = of2 (cdS s1.tok) (f nm) _
                first | (rw [show cdS s1.tok = 30000 from if_pos h43, of2_add, ex6, hx, w9_]; done) | (rw [show cdS s1.tok = 30001 from if_neg h43, of2_sub, ex6, hx, w9_]; done)
              · exact absurd c50 (by decide)
          · have h43 : s1.tok = 43 := i64_inj.mp (hwr.symm.trans ((cmp_eq _ _).mp c31))
            refine s_iconst (v := 1) (tb_ok aX8_added2_0 16 rfl) (by decide) ?_
            refine s_goto (tgt := 39) (tb_ok aX8_added2_0 17 rfl) (by decide) ?_
            refine s_istore_n (ls' := [some (.ref 66), some (.int x), some (.int (1)), o3]) (tb_ok aX8_added2_0 19 rfl) rfl rfl ?_
            refine s_aload_n (tb_ok aX8_added2_0 20 rfl) rfl ?_
            refine s_cV (as := []) (tb_ok aX8_added2_0 21 rfl) v_RX8_190 (R_next hT h1 (by rcases hop with e_ | e_ <;> rw [e_] <;> decide) (by rcases hop with e_ | e_ <;> rw [e_] <;> decide)) (by omega) rfl rfl rfl rfl rfl (Nat.le_of_ble_eq_true rfl) (by decide) (fun r7 S7 I7 L7 R7 q7 => ?_)
            obtain ⟨rfl, rfl, rfl, u10⟩ := q7
            have a11 := (adv_wf (t := t) h1.2.1).2.2 (by rcases hop with e_ | e_ <;> rw [e_] <;> decide)
            refine s_aload_n (tb_ok aX8_added2_0 22 rfl) rfl ?_
            refine s_cV (as := []) (tb_ok aX8_added2_0 23 rfl) v_RX8_287 (hi _ _ _ u10) (by omega) rfl rfl rfl rfl rfl (Nat.le_of_ble_eq_true rfl) (by decide) (fun r8 S8 I8 L8 R8 q8 => ?_)
            obtain ⟨rfl, rfl, v12_, rfl, u12⟩ := q8
            cases e12_ : P (adv t n s1) with
            | inr g12_ =>
              rw [e12_] at u12
              have u12 : RBad I0 g12_ _ := u12
              rw [loopP, if_pos hop, e12_] at hres
              refine s_istore_n (ls' := [some (.ref 66), some (.int x), some (.int (1)), some (.int v12_)]) (tb_ok aX8_added2_1 0 rfl) rfl rfl ?_
              refine s_iload_n (tb_ok aX8_added2_1 1 rfl) rfl ?_
              refine s_if_eq (tgt := 59) (tb_ok aX8_added2_1 2 rfl) (by decide) (fun c50 => ?_) (fun c50 => ?_)
              · exact absurd c50 (by decide)
              · refine s_iload_n (tb_ok aX8_added2_1 3 rfl) rfl ?_
                refine s_iload_n (tb_ok aX8_added2_1 4 rfl) rfl ?_
                refine s_iadd (tb_ok aX8_added2_1 5 rfl) ?_
                refine s_goto (tgt := 62) (tb_ok aX8_added2_1 6 rfl) (by decide) ?_
                refine s_name (fun x7 ex7 => ?_)
                refine s_istore_n (ls' := [some (.ref 66), some (.int x7), some (.int (1)), some (.int v12_)]) (tb_ok aX8_added2_1 10 rfl) rfl rfl ?_
                refine s_goto (tgt := 5) (tb_ok aX8_added2_1 11 rfl) (by decide) ?_
                refine L_added2 hT hd _ _ _ u12 (fun v => ⟨rfl, rfl, _, rfl, ?_⟩)
                rw [← hres]
                exact u12
            | inl qq =>
              obtain ⟨c12_, f12_, s12_⟩ := qq
              rw [e12_] at u12
              obtain ⟨w12_, u12⟩ := u12
              have w12_ : v12_ = f12_ nm := w12_
              have u12 : ROk t n 2 I0 s12_ _ _ := u12
              have b12_ := Nice.two (t := t) hN u10.2.1 e12_
              rw [loopP, if_pos hop, e12_] at hres
              refine s_istore_n (ls' := [some (.ref 66), some (.int x), some (.int (1)), some (.int v12_)]) (tb_ok aX8_added2_1 0 rfl) rfl rfl ?_
              refine s_iload_n (tb_ok aX8_added2_1 1 rfl) rfl ?_
              refine s_if_eq (tgt := 59) (tb_ok aX8_added2_1 2 rfl) (by decide) (fun c50 => ?_) (fun c50 => ?_)
              · exact absurd c50 (by decide)
              · refine s_iload_n (tb_ok aX8_added2_1 3 rfl) rfl ?_
                refine s_iload_n (tb_ok aX8_added2_1 4 rfl) rfl ?_
                refine s_iadd (tb_ok aX8_added2_1 5 rfl) ?_
                refine s_goto (tgt := 62) (tb_ok aX8_added2_1 6 rfl) (by decide) ?_
                refine s_name (fun x8 ex8 => ?_)
                refine s_istore_n (ls' := [some (.ref 66), some (.int x8), some (.int (1)), some (.int v12_)]) (tb_ok aX8_added2_1 10 rfl) rfl rfl ?_
                refine s_goto (tgt := 5) (tb_ok aX8_added2_1 11 rfl) (by decide) ?_
                refine ih _ _ _ _ _ _ _ x8 ?_ u12 (by omega) hres
                show x8 = of2 (cdS s1.tok) (f nm) _
                first | (rw [show cdS s1.tok = 30000 from if_pos h43, of2_add, ex8, hx, w12_]; done) | (rw [show cdS s1.tok = 30001 from if_neg h43, of2_sub, ex8, hx, w12_]; done)
  refine ev_of (by decide +kernel) rfl ?_
  show SW X _ _ _ 0 [some (.ref 66), none, none, none] [] S0 I L (R0 q) _
  refine s_aload_n (tb_ok aX8_added2_0 0 rfl) rfl ?_
  refine s_cV (as := []) (tb_ok aX8_added2_0 1 rfl) v_RX8_287 (hi _ _ _ h) (by omega) rfl rfl rfl rfl rfl (Nat.le_of_ble_eq_true rfl) (by decide) (fun r1 S1 I1 L1 R1 q1 => ?_)
  obtain ⟨rfl, rfl, v13_, rfl, u13⟩ := q1
  cases e13_ : P s with
  | inr g13_ =>
    rw [e13_] at u13
    have u13 : RBad I0 g13_ _ := u13
    have hsq : (seqP t n opS cdS P) s = .inr g13_ := by unfold seqP; rw [e13_]
    refine s_istore_n (ls' := [some (.ref 66), some (.int v13_), none, none]) (tb_ok aX8_added2_0 2 rfl) rfl rfl ?_
    refine L_added2 hT hd _ _ _ u13 (fun v => ⟨rfl, rfl, _, rfl, ?_⟩)
    rw [hsq]
    exact u13
  | inl qq =>
    obtain ⟨c13_, f13_, s13_⟩ := qq
    rw [e13_] at u13
    obtain ⟨w13_, u13⟩ := u13
    have w13_ : v13_ = f13_ nm := w13_
    have u13 : ROk t n 2 I0 s13_ _ _ := u13
    have b13_ := Nice.two (t := t) hN h.2.1 e13_
    have hsq : (seqP t n opS cdS P) s = loopP t n opS cdS P 160 c13_ f13_ s13_ := by unfold seqP; rw [e13_]
    refine s_istore_n (ls' := [some (.ref 66), some (.int v13_), none, none]) (tb_ok aX8_added2_0 2 rfl) rfl rfl ?_
    exact loop 160 _ _ _ _ _ _ _ _ w13_ u13 (by omega) hsq.symm

set_option maxRecDepth 100000 in
set_option maxHeartbeats 1000000 in
theorem C_not2 {X : En} {q : Nat × Nat} {I0 : FI} {F n : Nat} {t nm : Nat → Int32} (hT : TxX I0 F n t nm) {d : Nat} (hd : 3 < d) {d1 d2 : Nat} (hd1 : d1 < d) (hd2 : d2 < d) {P : Pa} (hc : CtX X q t nm n I0 d1 mX8_added2 2 P) {q2 : Pa × Pa × Pa} (hi : CtX X q t nm n I0 d2 mX8_not3 3 q2.2.1) : CtX X q t nm n I0 d mX8_not2 2 (notP t n (some q2) (cmpP t n P)) := by
  intro I L s h
  obtain ⟨hF, hn, hn160, hFn, ht, ht0, hnm⟩ := id hT
  refine ev_of (by decide +kernel) rfl ?_
  show SW X _ _ _ 0 [some (.ref 66), none, none, none] [] S0 I L (R0 q) _
  refine s_aload_n (tb_ok aX8_not2_0 0 rfl) rfl ?_
  refine s_bipush (v := 110) (tb_ok aX8_not2_0 1 rfl) (by decide) ?_
  refine s_bipush (v := 111) (tb_ok aX8_not2_0 2 rfl) (by decide) ?_
  refine s_bipush (v := 116) (tb_ok aX8_not2_0 3 rfl) (by decide) ?_
  refine s_iconst (v := 0) (tb_ok aX8_not2_0 4 rfl) (by decide) ?_
  refine s_iconst (v := 0) (tb_ok aX8_not2_0 5 rfl) (by decide) ?_
  refine s_iconst (v := 0) (tb_ok aX8_not2_0 6 rfl) (by decide) ?_
  refine s_iconst (v := 0) (tb_ok aX8_not2_0 7 rfl) (by decide) ?_
  refine s_iconst (v := 0) (tb_ok aX8_not2_0 8 rfl) (by decide) ?_
  refine s_cVp (as := [.int (110), .int (111), .int (116), .int (0), .int (0), .int (0), .int (0), .int (0)]) (tb_ok aX8_not2_0 9 rfl) v_RX8_193 (R_isWord hT h 11 (by decide)) (by omega) rfl rfl rfl rfl rfl (Nat.le_of_ble_eq_true rfl) (by decide) ?_
  refine s_topi (bI_congr (isK_key (k := 11) (j := 9) (by decide) rfl)) ?_
  refine s_if_eq (tgt := 52) (tb_ok aX8_not2_0 10 rfl) (by decide) (fun c15 => ?_) (fun c15 => ?_)
  · have n9 : ¬ s.tok = 9 := bI_0.mp c15
    refine s_aload_n (tb_ok aX8_not2_1 7 rfl) rfl ?_
    refine s_cV (as := []) (tb_ok aX8_not2_1 8 rfl) v_RX8_290 (hc _ _ _ h) (by omega) rfl rfl rfl rfl rfl (Nat.le_of_ble_eq_true rfl) (by decide) (fun r1 S1 I1 L1 R1 q1 => ?_)
    obtain ⟨rfl, rfl, v1_, rfl, u1⟩ := q1
    cases e1_ : P s with
    | inr g1_ =>
      rw [e1_] at u1
      have u1 : RBad I0 g1_ _ := u1
      have hsq : (notP t n (some q2) (cmpP t n P)) s = .inr g1_ := by
        unfold notP
        rw [if_neg n9]
        unfold cmpP
        rw [e1_]
      refine s_istore_n (ls' := [some (.ref 66), some (.int v1_), none, none]) (tb_ok aX8_not2_1 9 rfl) rfl rfl ?_
      refine s_aload_n (tb_ok aX8_not2_1 10 rfl) rfl ?_
      refine s_bipush (v := 60) (tb_ok aX8_not2_1 11 rfl) (by decide) ?_
      refine s_cVp (as := [.int (60)]) (tb_ok aX8_not2_1 12 rfl) v_RX8_215 (R_isSignE (I0 := I0) u1.2.1) (by omega) rfl rfl rfl rfl rfl (Nat.le_of_ble_eq_true rfl) (by decide) ?_
      refine s_if_ne (tgt := 77) (tb_ok aX8_not2_1 13 rfl) (by decide) (fun c63 => ?_) (fun c63 => ?_)
      · exact absurd c63 (by decide)
      · refine s_aload_n (tb_ok aX8_not2_1 14 rfl) rfl ?_
        refine s_bipush (v := 61) (tb_ok aX8_not2_1 15 rfl) (by decide) ?_
        refine s_cVp (as := [.int (61)]) (tb_ok aX8_not2_1 16 rfl) v_RX8_215 (R_isSignE (I0 := I0) u1.2.1) (by omega) rfl rfl rfl rfl rfl (Nat.le_of_ble_eq_true rfl) (by decide) ?_
        refine s_if_ne (tgt := 77) (tb_ok aX8_not2_1 17 rfl) (by decide) (fun c72 => ?_) (fun c72 => ?_)
        · exact absurd c72 (by decide)
        · refine s_iload_n (tb_ok aX8_not2_1 18 rfl) rfl ?_
          refine s_iret (tb_ok aX8_not2_1 19 rfl) rfl ?_
          refine ⟨rfl, rfl, _, rfl, ?_⟩
          rw [hsq]
          exact u1
    | inl qq =>
      obtain ⟨c1_, f1_, s1_⟩ := qq
      rw [e1_] at u1
      obtain ⟨w1_, u1⟩ := u1
      have w1_ : v1_ = f1_ nm := w1_
      have u1 : ROk t n 2 I0 s1_ _ _ := u1
      refine s_istore_n (ls' := [some (.ref 66), some (.int v1_), none, none]) (tb_ok aX8_not2_1 9 rfl) rfl rfl ?_
      refine s_aload_n (tb_ok aX8_not2_1 10 rfl) rfl ?_
      refine s_bipush (v := 60) (tb_ok aX8_not2_1 11 rfl) (by decide) ?_
      refine s_cVp (as := [.int (60)]) (tb_ok aX8_not2_1 12 rfl) v_RX8_215 (R_isSign (I0 := I0) u1.2.2.1 u1.2.2.2.2.2 (by decide)) (by omega) rfl rfl rfl rfl rfl (Nat.le_of_ble_eq_true rfl) (by decide) ?_
      refine s_if_ne (tgt := 77) (tb_ok aX8_not2_1 13 rfl) (by decide) (fun c63 => ?_) (fun c63 => ?_)
      · have hop : s1_.tok = 60 ∨ s1_.tok = 61 := by first | exact Or.inl (bI_n c63) | exact Or.inr (bI_n c72)
        have hwr := u1.wrth (by rcases hop with e_ | e_ <;> rw [e_] <;> decide)
        refine s_aload_n (tb_ok aX8_not2_1 20 rfl) rfl ?_
        refine s_getL (tb_ok aX8_not2_1 21 rfl) f_RX8_167 rfl rfl rfl ?_
        refine s_ldc2 (tb_ok aX8_not2_1 22 rfl) k_RX8_237 ?_
        refine s_lcmp (tb_ok aX8_not2_1 23 rfl) ?_
        refine s_if_ne (tgt := 92) (tb_ok aX8_not2_2 0 rfl) (by decide) (fun c85 => ?_) (fun c85 => ?_)
        · have h60 : ¬ s1_.tok = 60 := fun e_ => c85 ((cmp_eq _ _).mpr (hwr.trans (by rw [e_]; rfl)))
          refine s_iconst (v := 0) (tb_ok aX8_not2_2 3 rfl) (by decide) ?_
          refine s_istore_n (ls' := [some (.ref 66), some (.int v1_), some (.int (0)), none]) (tb_ok aX8_not2_2 4 rfl) rfl rfl ?_
          refine s_aload_n (tb_ok aX8_not2_2 5 rfl) rfl ?_
          refine s_cV (as := []) (tb_ok aX8_not2_2 6 rfl) v_RX8_190 (R_next hT u1 (by rcases hop with e_ | e_ <;> rw [e_] <;> decide) (by rcases hop with e_ | e_ <;> rw [e_] <;> decide)) (by omega) rfl rfl rfl rfl rfl (Nat.le_of_ble_eq_true rfl) (by decide) (fun r2 S2 I2 L2 R2 q2 => ?_)
          obtain ⟨rfl, rfl, rfl, u2⟩ := q2
          have a3 := (adv_wf (t := t) u1.2.1).2.2 (by rcases hop with e_ | e_ <;> rw [e_] <;> decide)
          refine s_aload_n (tb_ok aX8_not2_2 7 rfl) rfl ?_
          refine s_cV (as := []) (tb_ok aX8_not2_2 8 rfl) v_RX8_290 (hc _ _ _ u2) (by omega) rfl rfl rfl rfl rfl (Nat.le_of_ble_eq_true rfl) (by decide) (fun r3 S3 I3 L3 R3 q3 => ?_)
          obtain ⟨rfl, rfl, v4_, rfl, u4⟩ := q3
          cases e4_ : P (adv t n s1_) with
          | inr g4_ =>
            rw [e4_] at u4
            have u4 : RBad I0 g4_ _ := u4
            have hsq : (notP t n (some q2) (cmpP t n P)) s = .inr g4_ := by
              unfold notP
              rw [if_neg n9]
              unfold cmpP
              rw [e1_]
              show (if s1_.tok = 60 ∨ s1_.tok = 61 then _ else _) = _
              rw [if_pos hop, e4_]
            refine s_istore_n (ls' := [some (.ref 66), some (.int v1_), some (.int (0)), some (.int v4_)]) (tb_ok aX8_not2_2 9 rfl) rfl rfl ?_
            refine s_iload_n (tb_ok aX8_not2_2 10 rfl) rfl ?_
            refine s_if_eq (tgt := 115) (tb_ok aX8_not2_2 11 rfl) (by decide) (fun c104 => ?_) (fun c104 => ?_)
            · refine s_iload_n (tb_ok aX8_not2_2 16 rfl) rfl ?_
              refine s_iload_n (tb_ok aX8_not2_2 17 rfl) rfl ?_
              refine s_icmp_ne (tgt := 124) (tb_ok aX8_not2_2 18 rfl) (by decide) (fun c117 => ?_) (fun c117 => ?_)
              · refine s_iconst (v := 0) (tb_ok aX8_not2_2 21 rfl) (by decide) ?_
                refine s_iret (tb_ok aX8_not2_2 22 rfl) rfl ?_
                refine ⟨rfl, rfl, _, rfl, ?_⟩
                rw [hsq]
                exact u4
              · refine s_iconst (v := 1) (tb_ok aX8_not2_2 19 rfl) (by decide) ?_
                refine s_goto (tgt := 125) (tb_ok aX8_not2_2 20 rfl) (by decide) ?_
                refine s_iret (tb_ok aX8_not2_2 22 rfl) rfl ?_
                refine ⟨rfl, rfl, _, rfl, ?_⟩
                rw [hsq]
                exact u4
            · exact absurd c104 (by decide)
          | inl qq =>
            obtain ⟨c4_, f4_, s4_⟩ := qq
            rw [e4_] at u4
            obtain ⟨w4_, u4⟩ := u4
            have w4_ : v4_ = f4_ nm := w4_
            have u4 : ROk t n 2 I0 s4_ _ _ := u4
            have hsq : (notP t n (some q2) (cmpP t n P)) s = .inl (c1_ ++ c4_ ++ [cdC s1_.tok], (fun nm => of2 (cdC s1_.tok) (f1_ nm) (f4_ nm)), s4_) := by
              unfold notP
              rw [if_neg n9]
              unfold cmpP
              rw [e1_]
              show (if s1_.tok = 60 ∨ s1_.tok = 61 then _ else _) = _
              rw [if_pos hop, e4_]
            refine s_istore_n (ls' := [some (.ref 66), some (.int v1_), some (.int (0)), some (.int v4_)]) (tb_ok aX8_not2_2 9 rfl) rfl rfl ?_
            refine s_iload_n (tb_ok aX8_not2_2 10 rfl) rfl ?_
            refine s_if_eq (tgt := 115) (tb_ok aX8_not2_2 11 rfl) (by decide) (fun c104 => ?_) (fun c104 => ?_)
            · refine s_iload_n (tb_ok aX8_not2_2 16 rfl) rfl ?_
              refine s_iload_n (tb_ok aX8_not2_2 17 rfl) rfl ?_
              refine s_icmp_ne (tgt := 124) (tb_ok aX8_not2_2 18 rfl) (by decide) (fun c117 => ?_) (fun c117 => ?_)
              · refine s_iconst (v := 0) (tb_ok aX8_not2_2 21 rfl) (by decide) ?_
                refine s_iret (tb_ok aX8_not2_2 22 rfl) rfl ?_
                refine ⟨rfl, rfl, _, rfl, ?_⟩
                rw [hsq]
                refine ⟨?_, u4⟩
                show ((0) : Int32) = of2 (cdC s1_.tok) (f1_ nm) _
                first | (rw [show cdC s1_.tok = 30003 from if_pos h60, of2_lt, ← w1_, ← w4_]; first | exact (bI_f (Int32.not_lt.mpr c109)).symm | exact (bI_t (Int32.not_le.mp c109)).symm) | (rw [show cdC s1_.tok = 30004 from if_neg h60, of2_eq, ← w1_, ← w4_]; first | exact (bI_t c117).symm | exact (bI_f c117).symm)
              · refine s_iconst (v := 1) (tb_ok aX8_not2_2 19 rfl) (by decide) ?_
                refine s_goto (tgt := 125) (tb_ok aX8_not2_2 20 rfl) (by decide) ?_
                refine s_iret (tb_ok aX8_not2_2 22 rfl) rfl ?_
                refine ⟨rfl, rfl, _, rfl, ?_⟩
                rw [hsq]
                refine ⟨?_, u4⟩
                show ((1) : Int32) = of2 (cdC s1_.tok) (f1_ nm) _
                first | (rw [show cdC s1_.tok = 30003 from if_pos h60, of2_lt, ← w1_, ← w4_]; first | exact (bI_f (Int32.not_lt.mpr c109)).symm | exact (bI_t (Int32.not_le.mp c109)).symm) | (rw [show cdC s1_.tok = 30004 from if_neg h60, of2_eq, ← w1_, ← w4_]; first | exact (bI_t c117).symm | exact (bI_f c117).symm)
            · exact absurd c104 (by decide)
        · have h60 : s1_.tok = 60 := i64_inj.mp (hwr.symm.trans ((cmp_eq _ _).mp c85))
          refine s_iconst (v := 1) (tb_ok aX8_not2_2 1 rfl) (by decide) ?_
          refine s_goto (tgt := 93) (tb_ok aX8_not2_2 2 rfl) (by decide) ?_
          refine s_istore_n (ls' := [some (.ref 66), some (.int v1_), some (.int (1)), none]) (tb_ok aX8_not2_2 4 rfl) rfl rfl ?_
          refine s_aload_n (tb_ok aX8_not2_2 5 rfl) rfl ?_
          refine s_cV (as := []) (tb_ok aX8_not2_2 6 rfl) v_RX8_190 (R_next hT u1 (by rcases hop with e_ | e_ <;> rw [e_] <;> decide) (by rcases hop with e_ | e_ <;> rw [e_] <;> decide)) (by omega) rfl rfl rfl rfl rfl (Nat.le_of_ble_eq_true rfl) (by decide) (fun r4 S4 I4 L4 R4 q4 => ?_)
          obtain ⟨rfl, rfl, rfl, u5⟩ := q4
          have a6 := (adv_wf (t := t) u1.2.1).2.2 (by rcases hop with e_ | e_ <;> rw [e_] <;> decide)
          refine s_aload_n (tb_ok aX8_not2_2 7 rfl) rfl ?_
          refine s_cV (as := []) (tb_ok aX8_not2_2 8 rfl) v_RX8_290 (hc _ _ _ u5) (by omega) rfl rfl rfl rfl rfl (Nat.le_of_ble_eq_true rfl) (by decide) (fun r5 S5 I5 L5 R5 q5 => ?_)
          obtain ⟨rfl, rfl, v7_, rfl, u7⟩ := q5
          cases e7_ : P (adv t n s1_) with
          | inr g7_ =>
            rw [e7_] at u7
            have u7 : RBad I0 g7_ _ := u7
            have hsq : (notP t n (some q2) (cmpP t n P)) s = .inr g7_ := by
              unfold notP
              rw [if_neg n9]
              unfold cmpP
              rw [e1_]
              show (if s1_.tok = 60 ∨ s1_.tok = 61 then _ else _) = _
              rw [if_pos hop, e7_]
            refine s_istore_n (ls' := [some (.ref 66), some (.int v1_), some (.int (1)), some (.int v7_)]) (tb_ok aX8_not2_2 9 rfl) rfl rfl ?_
            refine s_iload_n (tb_ok aX8_not2_2 10 rfl) rfl ?_
            refine s_if_eq (tgt := 115) (tb_ok aX8_not2_2 11 rfl) (by decide) (fun c104 => ?_) (fun c104 => ?_)
            · exact absurd c104 (by decide)
            · refine s_iload_n (tb_ok aX8_not2_2 12 rfl) rfl ?_
              refine s_iload_n (tb_ok aX8_not2_2 13 rfl) rfl ?_
              refine s_icmp_ge (tgt := 124) (tb_ok aX8_not2_2 14 rfl) (by decide) (fun c109 => ?_) (fun c109 => ?_)
              · refine s_iconst (v := 0) (tb_ok aX8_not2_2 21 rfl) (by decide) ?_
                refine s_iret (tb_ok aX8_not2_2 22 rfl) rfl ?_
                refine ⟨rfl, rfl, _, rfl, ?_⟩
                rw [hsq]
                exact u7
              · refine s_goto (tgt := 120) (tb_ok aX8_not2_2 15 rfl) (by decide) ?_
                refine s_iconst (v := 1) (tb_ok aX8_not2_2 19 rfl) (by decide) ?_
                refine s_goto (tgt := 125) (tb_ok aX8_not2_2 20 rfl) (by decide) ?_
                refine s_iret (tb_ok aX8_not2_2 22 rfl) rfl ?_
                refine ⟨rfl, rfl, _, rfl, ?_⟩
                rw [hsq]
                exact u7
          | inl qq =>
            obtain ⟨c7_, f7_, s7_⟩ := qq
            rw [e7_] at u7
            obtain ⟨w7_, u7⟩ := u7
            have w7_ : v7_ = f7_ nm := w7_
            have u7 : ROk t n 2 I0 s7_ _ _ := u7
            have hsq : (notP t n (some q2) (cmpP t n P)) s = .inl (c1_ ++ c7_ ++ [cdC s1_.tok], (fun nm => of2 (cdC s1_.tok) (f1_ nm) (f7_ nm)), s7_) := by
              unfold notP
              rw [if_neg n9]
              unfold cmpP
              rw [e1_]
              show (if s1_.tok = 60 ∨ s1_.tok = 61 then _ else _) = _
              rw [if_pos hop, e7_]
            refine s_istore_n (ls' := [some (.ref 66), some (.int v1_), some (.int (1)), some (.int v7_)]) (tb_ok aX8_not2_2 9 rfl) rfl rfl ?_
            refine s_iload_n (tb_ok aX8_not2_2 10 rfl) rfl ?_
            refine s_if_eq (tgt := 115) (tb_ok aX8_not2_2 11 rfl) (by decide) (fun c104 => ?_) (fun c104 => ?_)
            · exact absurd c104 (by decide)
            · refine s_iload_n (tb_ok aX8_not2_2 12 rfl) rfl ?_
              refine s_iload_n (tb_ok aX8_not2_2 13 rfl) rfl ?_
              refine s_icmp_ge (tgt := 124) (tb_ok aX8_not2_2 14 rfl) (by decide) (fun c109 => ?_) (fun c109 => ?_)
              · refine s_iconst (v := 0) (tb_ok aX8_not2_2 21 rfl) (by decide) ?_
                refine s_iret (tb_ok aX8_not2_2 22 rfl) rfl ?_
                refine ⟨rfl, rfl, _, rfl, ?_⟩
                rw [hsq]
                refine ⟨?_, u7⟩
                show ((0) : Int32) = of2 (cdC s1_.tok) (f1_ nm) _
                first | (rw [show cdC s1_.tok = 30003 from if_pos h60, of2_lt, ← w1_, ← w7_]; first | exact (bI_f (Int32.not_lt.mpr c109)).symm | exact (bI_t (Int32.not_le.mp c109)).symm) | (rw [show cdC s1_.tok = 30004 from if_neg h60, of2_eq, ← w1_, ← w7_]; first | exact (bI_t c117).symm | exact (bI_f c117).symm)
              · refine s_goto (tgt := 120) (tb_ok aX8_not2_2 15 rfl) (by decide) ?_
                refine s_iconst (v := 1) (tb_ok aX8_not2_2 19 rfl) (by decide) ?_
                refine s_goto (tgt := 125) (tb_ok aX8_not2_2 20 rfl) (by decide) ?_
                refine s_iret (tb_ok aX8_not2_2 22 rfl) rfl ?_
                refine ⟨rfl, rfl, _, rfl, ?_⟩
                rw [hsq]
                refine ⟨?_, u7⟩
                show ((1) : Int32) = of2 (cdC s1_.tok) (f1_ nm) _
                first | (rw [show cdC s1_.tok = 30003 from if_pos h60, of2_lt, ← w1_, ← w7_]; first | exact (bI_f (Int32.not_lt.mpr c109)).symm | exact (bI_t (Int32.not_le.mp c109)).symm) | (rw [show cdC s1_.tok = 30004 from if_neg h60, of2_eq, ← w1_, ← w7_]; first | exact (bI_t c117).symm | exact (bI_f c117).symm)
      · refine s_aload_n (tb_ok aX8_not2_1 14 rfl) rfl ?_
        refine s_bipush (v := 61) (tb_ok aX8_not2_1 15 rfl) (by decide) ?_
        refine s_cVp (as := [.int (61)]) (tb_ok aX8_not2_1 16 rfl) v_RX8_215 (R_isSign (I0 := I0) u1.2.2.1 u1.2.2.2.2.2 (by decide)) (by omega) rfl rfl rfl rfl rfl (Nat.le_of_ble_eq_true rfl) (by decide) ?_
        refine s_if_ne (tgt := 77) (tb_ok aX8_not2_1 17 rfl) (by decide) (fun c72 => ?_) (fun c72 => ?_)
        · have hop : s1_.tok = 60 ∨ s1_.tok = 61 := by first | exact Or.inl (bI_n c63) | exact Or.inr (bI_n c72)
          have hwr := u1.wrth (by rcases hop with e_ | e_ <;> rw [e_] <;> decide)
          refine s_aload_n (tb_ok aX8_not2_1 20 rfl) rfl ?_
          refine s_getL (tb_ok aX8_not2_1 21 rfl) f_RX8_167 rfl rfl rfl ?_
          refine s_ldc2 (tb_ok aX8_not2_1 22 rfl) k_RX8_237 ?_
          refine s_lcmp (tb_ok aX8_not2_1 23 rfl) ?_
          refine s_if_ne (tgt := 92) (tb_ok aX8_not2_2 0 rfl) (by decide) (fun c85 => ?_) (fun c85 => ?_)
          · have h60 : ¬ s1_.tok = 60 := fun e_ => c85 ((cmp_eq _ _).mpr (hwr.trans (by rw [e_]; rfl)))
            refine s_iconst (v := 0) (tb_ok aX8_not2_2 3 rfl) (by decide) ?_
            refine s_istore_n (ls' := [some (.ref 66), some (.int v1_), some (.int (0)), none]) (tb_ok aX8_not2_2 4 rfl) rfl rfl ?_
            refine s_aload_n (tb_ok aX8_not2_2 5 rfl) rfl ?_
            refine s_cV (as := []) (tb_ok aX8_not2_2 6 rfl) v_RX8_190 (R_next hT u1 (by rcases hop with e_ | e_ <;> rw [e_] <;> decide) (by rcases hop with e_ | e_ <;> rw [e_] <;> decide)) (by omega) rfl rfl rfl rfl rfl (Nat.le_of_ble_eq_true rfl) (by decide) (fun r6 S6 I6 L6 R6 q6 => ?_)
            obtain ⟨rfl, rfl, rfl, u8⟩ := q6
            have a9 := (adv_wf (t := t) u1.2.1).2.2 (by rcases hop with e_ | e_ <;> rw [e_] <;> decide)
            refine s_aload_n (tb_ok aX8_not2_2 7 rfl) rfl ?_
            refine s_cV (as := []) (tb_ok aX8_not2_2 8 rfl) v_RX8_290 (hc _ _ _ u8) (by omega) rfl rfl rfl rfl rfl (Nat.le_of_ble_eq_true rfl) (by decide) (fun r7 S7 I7 L7 R7 q7 => ?_)
            obtain ⟨rfl, rfl, v10_, rfl, u10⟩ := q7
            cases e10_ : P (adv t n s1_) with
            | inr g10_ =>
              rw [e10_] at u10
              have u10 : RBad I0 g10_ _ := u10
              have hsq : (notP t n (some q2) (cmpP t n P)) s = .inr g10_ := by
                unfold notP
                rw [if_neg n9]
                unfold cmpP
                rw [e1_]
                show (if s1_.tok = 60 ∨ s1_.tok = 61 then _ else _) = _
                rw [if_pos hop, e10_]
              refine s_istore_n (ls' := [some (.ref 66), some (.int v1_), some (.int (0)), some (.int v10_)]) (tb_ok aX8_not2_2 9 rfl) rfl rfl ?_
              refine s_iload_n (tb_ok aX8_not2_2 10 rfl) rfl ?_
              refine s_if_eq (tgt := 115) (tb_ok aX8_not2_2 11 rfl) (by decide) (fun c104 => ?_) (fun c104 => ?_)
              · refine s_iload_n (tb_ok aX8_not2_2 16 rfl) rfl ?_
                refine s_iload_n (tb_ok aX8_not2_2 17 rfl) rfl ?_
                refine s_icmp_ne (tgt := 124) (tb_ok aX8_not2_2 18 rfl) (by decide) (fun c117 => ?_) (fun c117 => ?_)
                · refine s_iconst (v := 0) (tb_ok aX8_not2_2 21 rfl) (by decide) ?_
                  refine s_iret (tb_ok aX8_not2_2 22 rfl) rfl ?_
                  refine ⟨rfl, rfl, _, rfl, ?_⟩
                  rw [hsq]
                  exact u10
                · refine s_iconst (v := 1) (tb_ok aX8_not2_2 19 rfl) (by decide) ?_
                  refine s_goto (tgt := 125) (tb_ok aX8_not2_2 20 rfl) (by decide) ?_
                  refine s_iret (tb_ok aX8_not2_2 22 rfl) rfl ?_
                  refine ⟨rfl, rfl, _, rfl, ?_⟩
                  rw [hsq]
                  exact u10
              · exact absurd c104 (by decide)
            | inl qq =>
              obtain ⟨c10_, f10_, s10_⟩ := qq
              rw [e10_] at u10
              obtain ⟨w10_, u10⟩ := u10
              have w10_ : v10_ = f10_ nm := w10_
              have u10 : ROk t n 2 I0 s10_ _ _ := u10
              have hsq : (notP t n (some q2) (cmpP t n P)) s = .inl (c1_ ++ c10_ ++ [cdC s1_.tok], (fun nm => of2 (cdC s1_.tok) (f1_ nm) (f10_ nm)), s10_) := by
                unfold notP
                rw [if_neg n9]
                unfold cmpP
                rw [e1_]
                show (if s1_.tok = 60 ∨ s1_.tok = 61 then _ else _) = _
                rw [if_pos hop, e10_]
              refine s_istore_n (ls' := [some (.ref 66), some (.int v1_), some (.int (0)), some (.int v10_)]) (tb_ok aX8_not2_2 9 rfl) rfl rfl ?_
              refine s_iload_n (tb_ok aX8_not2_2 10 rfl) rfl ?_
              refine s_if_eq (tgt := 115) (tb_ok aX8_not2_2 11 rfl) (by decide) (fun c104 => ?_) (fun c104 => ?_)
              · refine s_iload_n (tb_ok aX8_not2_2 16 rfl) rfl ?_
                refine s_iload_n (tb_ok aX8_not2_2 17 rfl) rfl ?_
                refine s_icmp_ne (tgt := 124) (tb_ok aX8_not2_2 18 rfl) (by decide) (fun c117 => ?_) (fun c117 => ?_)
                · refine s_iconst (v := 0) (tb_ok aX8_not2_2 21 rfl) (by decide) ?_
                  refine s_iret (tb_ok aX8_not2_2 22 rfl) rfl ?_
                  refine ⟨rfl, rfl, _, rfl, ?_⟩
                  rw [hsq]
                  refine ⟨?_, u10⟩
                  show ((0) : Int32) = of2 (cdC s1_.tok) (f1_ nm) _
                  first | (rw [show cdC s1_.tok = 30003 from if_pos h60, of2_lt, ← w1_, ← w10_]; first | exact (bI_f (Int32.not_lt.mpr c109)).symm | exact (bI_t (Int32.not_le.mp c109)).symm) | (rw [show cdC s1_.tok = 30004 from if_neg h60, of2_eq, ← w1_, ← w10_]; first | exact (bI_t c117).symm | exact (bI_f c117).symm)
                · refine s_iconst (v := 1) (tb_ok aX8_not2_2 19 rfl) (by decide) ?_
                  refine s_goto (tgt := 125) (tb_ok aX8_not2_2 20 rfl) (by decide) ?_
                  refine s_iret (tb_ok aX8_not2_2 22 rfl) rfl ?_
                  refine ⟨rfl, rfl, _, rfl, ?_⟩
                  rw [hsq]
                  refine ⟨?_, u10⟩
                  show ((1) : Int32) = of2 (cdC s1_.tok) (f1_ nm) _
                  first | (rw [show cdC s1_.tok = 30003 from if_pos h60, of2_lt, ← w1_, ← w10_]; first | exact (bI_f (Int32.not_lt.mpr c109)).symm | exact (bI_t (Int32.not_le.mp c109)).symm) | (rw [show cdC s1_.tok = 30004 from if_neg h60, of2_eq, ← w1_, ← w10_]; first | exact (bI_t c117).symm | exact (bI_f c117).symm)
              · exact absurd c104 (by decide)
          · have h60 : s1_.tok = 60 := i64_inj.mp (hwr.symm.trans ((cmp_eq _ _).mp c85))
            refine s_iconst (v := 1) (tb_ok aX8_not2_2 1 rfl) (by decide) ?_
            refine s_goto (tgt := 93) (tb_ok aX8_not2_2 2 rfl) (by decide) ?_
            refine s_istore_n (ls' := [some (.ref 66), some (.int v1_), some (.int (1)), none]) (tb_ok aX8_not2_2 4 rfl) rfl rfl ?_
            refine s_aload_n (tb_ok aX8_not2_2 5 rfl) rfl ?_
            refine s_cV (as := []) (tb_ok aX8_not2_2 6 rfl) v_RX8_190 (R_next hT u1 (by rcases hop with e_ | e_ <;> rw [e_] <;> decide) (by rcases hop with e_ | e_ <;> rw [e_] <;> decide)) (by omega) rfl rfl rfl rfl rfl (Nat.le_of_ble_eq_true rfl) (by decide) (fun r8 S8 I8 L8 R8 q8 => ?_)
            obtain ⟨rfl, rfl, rfl, u11⟩ := q8
            have a12 := (adv_wf (t := t) u1.2.1).2.2 (by rcases hop with e_ | e_ <;> rw [e_] <;> decide)
            refine s_aload_n (tb_ok aX8_not2_2 7 rfl) rfl ?_
            refine s_cV (as := []) (tb_ok aX8_not2_2 8 rfl) v_RX8_290 (hc _ _ _ u11) (by omega) rfl rfl rfl rfl rfl (Nat.le_of_ble_eq_true rfl) (by decide) (fun r9 S9 I9 L9 R9 q9 => ?_)
            obtain ⟨rfl, rfl, v13_, rfl, u13⟩ := q9
            cases e13_ : P (adv t n s1_) with
            | inr g13_ =>
              rw [e13_] at u13
              have u13 : RBad I0 g13_ _ := u13
              have hsq : (notP t n (some q2) (cmpP t n P)) s = .inr g13_ := by
                unfold notP
                rw [if_neg n9]
                unfold cmpP
                rw [e1_]
                show (if s1_.tok = 60 ∨ s1_.tok = 61 then _ else _) = _
                rw [if_pos hop, e13_]
              refine s_istore_n (ls' := [some (.ref 66), some (.int v1_), some (.int (1)), some (.int v13_)]) (tb_ok aX8_not2_2 9 rfl) rfl rfl ?_
              refine s_iload_n (tb_ok aX8_not2_2 10 rfl) rfl ?_
              refine s_if_eq (tgt := 115) (tb_ok aX8_not2_2 11 rfl) (by decide) (fun c104 => ?_) (fun c104 => ?_)
              · exact absurd c104 (by decide)
              · refine s_iload_n (tb_ok aX8_not2_2 12 rfl) rfl ?_
                refine s_iload_n (tb_ok aX8_not2_2 13 rfl) rfl ?_
                refine s_icmp_ge (tgt := 124) (tb_ok aX8_not2_2 14 rfl) (by decide) (fun c109 => ?_) (fun c109 => ?_)
                · refine s_iconst (v := 0) (tb_ok aX8_not2_2 21 rfl) (by decide) ?_
                  refine s_iret (tb_ok aX8_not2_2 22 rfl) rfl ?_
                  refine ⟨rfl, rfl, _, rfl, ?_⟩
                  rw [hsq]
                  exact u13
                · refine s_goto (tgt := 120) (tb_ok aX8_not2_2 15 rfl) (by decide) ?_
                  refine s_iconst (v := 1) (tb_ok aX8_not2_2 19 rfl) (by decide) ?_
                  refine s_goto (tgt := 125) (tb_ok aX8_not2_2 20 rfl) (by decide) ?_
                  refine s_iret (tb_ok aX8_not2_2 22 rfl) rfl ?_
                  refine ⟨rfl, rfl, _, rfl, ?_⟩
                  rw [hsq]
                  exact u13
            | inl qq =>
              obtain ⟨c13_, f13_, s13_⟩ := qq
              rw [e13_] at u13
              obtain ⟨w13_, u13⟩ := u13
              have w13_ : v13_ = f13_ nm := w13_
              have u13 : ROk t n 2 I0 s13_ _ _ := u13
              have hsq : (notP t n (some q2) (cmpP t n P)) s = .inl (c1_ ++ c13_ ++ [cdC s1_.tok], (fun nm => of2 (cdC s1_.tok) (f1_ nm) (f13_ nm)), s13_) := by
                unfold notP
                rw [if_neg n9]
                unfold cmpP
                rw [e1_]
                show (if s1_.tok = 60 ∨ s1_.tok = 61 then _ else _) = _
                rw [if_pos hop, e13_]
              refine s_istore_n (ls' := [some (.ref 66), some (.int v1_), some (.int (1)), some (.int v13_)]) (tb_ok aX8_not2_2 9 rfl) rfl rfl ?_
              refine s_iload_n (tb_ok aX8_not2_2 10 rfl) rfl ?_
              refine s_if_eq (tgt := 115) (tb_ok aX8_not2_2 11 rfl) (by decide) (fun c104 => ?_) (fun c104 => ?_)
              · exact absurd c104 (by decide)
              · refine s_iload_n (tb_ok aX8_not2_2 12 rfl) rfl ?_
                refine s_iload_n (tb_ok aX8_not2_2 13 rfl) rfl ?_
                refine s_icmp_ge (tgt := 124) (tb_ok aX8_not2_2 14 rfl) (by decide) (fun c109 => ?_) (fun c109 => ?_)
                · refine s_iconst (v := 0) (tb_ok aX8_not2_2 21 rfl) (by decide) ?_
                  refine s_iret (tb_ok aX8_not2_2 22 rfl) rfl ?_
                  refine ⟨rfl, rfl, _, rfl, ?_⟩
                  rw [hsq]
                  refine ⟨?_, u13⟩
                  show ((0) : Int32) = of2 (cdC s1_.tok) (f1_ nm) _
                  first | (rw [show cdC s1_.tok = 30003 from if_pos h60, of2_lt, ← w1_, ← w13_]; first | exact (bI_f (Int32.not_lt.mpr c109)).symm | exact (bI_t (Int32.not_le.mp c109)).symm) | (rw [show cdC s1_.tok = 30004 from if_neg h60, of2_eq, ← w1_, ← w13_]; first | exact (bI_t c117).symm | exact (bI_f c117).symm)
                · refine s_goto (tgt := 120) (tb_ok aX8_not2_2 15 rfl) (by decide) ?_
                  refine s_iconst (v := 1) (tb_ok aX8_not2_2 19 rfl) (by decide) ?_
                  refine s_goto (tgt := 125) (tb_ok aX8_not2_2 20 rfl) (by decide) ?_
                  refine s_iret (tb_ok aX8_not2_2 22 rfl) rfl ?_
                  refine ⟨rfl, rfl, _, rfl, ?_⟩
                  rw [hsq]
                  refine ⟨?_, u13⟩
                  show ((1) : Int32) = of2 (cdC s1_.tok) (f1_ nm) _
                  first | (rw [show cdC s1_.tok = 30003 from if_pos h60, of2_lt, ← w1_, ← w13_]; first | exact (bI_f (Int32.not_lt.mpr c109)).symm | exact (bI_t (Int32.not_le.mp c109)).symm) | (rw [show cdC s1_.tok = 30004 from if_neg h60, of2_eq, ← w1_, ← w13_]; first | exact (bI_t c117).symm | exact (bI_f c117).symm)
        · refine s_iload_n (tb_ok aX8_not2_1 18 rfl) rfl ?_
          refine s_iret (tb_ok aX8_not2_1 19 rfl) rfl ?_
          have hsq : (notP t n (some q2) (cmpP t n P)) s = .inl (c1_, f1_, s1_) := by
            unfold notP
            rw [if_neg n9]
            unfold cmpP
            rw [e1_]
            show (if s1_.tok = 60 ∨ s1_.tok = 61 then _ else _) = _
            rw [if_neg (fun h_ => h_.elim (bI_0.mp c63) (bI_0.mp c72))]
          refine ⟨rfl, rfl, _, rfl, ?_⟩
          rw [hsq]
          refine ⟨?_, u1⟩
          exact w1_
  · have hop9 : s.tok = 9 := bI_n c15
    refine s_aload_n (tb_ok aX8_not2_0 11 rfl) rfl ?_
    refine s_cV (as := []) (tb_ok aX8_not2_0 12 rfl) v_RX8_218 (R_opens hT h (by rw [hop9]; decide) (by rw [hop9]; decide) (by decide)) (by omega) rfl rfl rfl rfl rfl (Nat.le_of_ble_eq_true rfl) (by decide) (fun r10 S10 I10 L10 R10 q10 => ?_)
    obtain ⟨rfl, rfl, rfl, u14⟩ := q10
    have a15 := (adv_wf (t := t) h.2.1).2.2 (by rw [hop9]; decide)
    refine s_if_ne (tgt := 27) (tb_ok aX8_not2_0 13 rfl) (by decide) (fun c22 => ?_) (fun c22 => ?_)
    · refine s_aload_n (tb_ok aX8_not2_0 16 rfl) rfl ?_
      refine s_cV (as := []) (tb_ok aX8_not2_0 17 rfl) v_RX8_275 (hi _ _ _ u14) (by omega) rfl rfl rfl rfl rfl (Nat.le_of_ble_eq_true rfl) (by decide) (fun r11 S11 I11 L11 R11 q11 => ?_)
      obtain ⟨rfl, rfl, v16_, rfl, u16⟩ := q11
      cases e16_ : q2.2.1 (adv t n s) with
      | inr g16_ =>
        rw [e16_] at u16
        have u16 : RBad I0 g16_ _ := u16
        have hsq : (notP t n (some q2) (cmpP t n P)) s = .inr g16_ := by unfold notP; rw [if_pos hop9]; simp only [e16_]
        refine s_istore_n (ls' := [some (.ref 66), some (.int v16_), none, none]) (tb_ok aX8_not2_0 18 rfl) rfl rfl ?_
        refine s_aload_n (tb_ok aX8_not2_0 19 rfl) rfl ?_
        refine s_dup (tb_ok aX8_not2_0 20 rfl) rfl ?_
        refine s_getI (tb_ok aX8_not2_0 21 rfl) f_RX8_184 rfl rfl rfl ?_
        refine s_iconst (v := 1) (tb_ok aX8_not2_0 22 rfl) (by decide) ?_
        refine s_isub (tb_ok aX8_not2_0 23 rfl) ?_
        refine s_putI (tb_ok aX8_not2_1 0 rfl) f_RX8_184 rfl rfl ?_
        refine s_iload_n (tb_ok aX8_not2_1 1 rfl) rfl ?_
        refine s_if_ne (tgt := 50) (tb_ok aX8_not2_1 2 rfl) (by decide) (fun c43 => ?_) (fun c43 => ?_)
        · refine s_iconst (v := 0) (tb_ok aX8_not2_1 5 rfl) (by decide) ?_
          refine s_iret (tb_ok aX8_not2_1 6 rfl) rfl ?_
          refine ⟨rfl, rfl, _, rfl, ?_⟩
          rw [hsq]
          exact (u16.put26 _)
        · refine s_iconst (v := 1) (tb_ok aX8_not2_1 3 rfl) (by decide) ?_
          refine s_goto (tgt := 51) (tb_ok aX8_not2_1 4 rfl) (by decide) ?_
          refine s_iret (tb_ok aX8_not2_1 6 rfl) rfl ?_
          refine ⟨rfl, rfl, _, rfl, ?_⟩
          rw [hsq]
          exact (u16.put26 _)
      | inl qq =>
        obtain ⟨c16_, f16_, s16_⟩ := qq
        rw [e16_] at u16
        obtain ⟨w16_, u16⟩ := u16
        have w16_ : v16_ = f16_ nm := w16_
        have u16 : ROk t n 3 I0 s16_ _ _ := u16
        have hsq : (notP t n (some q2) (cmpP t n P)) s = .inl (c16_ ++ [20001], (fun nm => of1 20001 (f16_ nm)), s16_) := by unfold notP; rw [if_pos hop9]; simp only [e16_]
        refine s_istore_n (ls' := [some (.ref 66), some (.int v16_), none, none]) (tb_ok aX8_not2_0 18 rfl) rfl rfl ?_
        refine s_aload_n (tb_ok aX8_not2_0 19 rfl) rfl ?_
        refine s_dup (tb_ok aX8_not2_0 20 rfl) rfl ?_
        refine s_getI (x := (nI 3)) (tb_ok aX8_not2_0 21 rfl) f_RX8_184 rfl rfl u16.2.2.2.1 ?_
        refine s_iconst (v := 1) (tb_ok aX8_not2_0 22 rfl) (by decide) ?_
        refine s_isub (tb_ok aX8_not2_0 23 rfl) ?_
        refine s_topi (z := (nI 2)) (by decide) ?_
        refine s_putI (tb_ok aX8_not2_1 0 rfl) f_RX8_184 rfl rfl ?_
        have u18 := u16.put26 2
        refine s_iload_n (tb_ok aX8_not2_1 1 rfl) rfl ?_
        refine s_if_ne (tgt := 50) (tb_ok aX8_not2_1 2 rfl) (by decide) (fun c43 => ?_) (fun c43 => ?_)
        · refine s_iconst (v := 0) (tb_ok aX8_not2_1 5 rfl) (by decide) ?_
          refine s_iret (tb_ok aX8_not2_1 6 rfl) rfl ?_
          refine ⟨rfl, rfl, _, rfl, ?_⟩
          rw [hsq]
          refine ⟨?_, u18⟩
          show ((0) : Int32) = of1 20001 _
          rw [of1_not, ← w16_]
          first | exact (bI_t c43).symm | exact (bI_f c43).symm
        · refine s_iconst (v := 1) (tb_ok aX8_not2_1 3 rfl) (by decide) ?_
          refine s_goto (tgt := 51) (tb_ok aX8_not2_1 4 rfl) (by decide) ?_
          refine s_iret (tb_ok aX8_not2_1 6 rfl) rfl ?_
          refine ⟨rfl, rfl, _, rfl, ?_⟩
          rw [hsq]
          refine ⟨?_, u18⟩
          show ((1) : Int32) = of1 20001 _
          rw [of1_not, ← w16_]
          first | exact (bI_t c43).symm | exact (bI_f c43).symm
    · exact absurd c22 (by decide)

set_option maxRecDepth 100000 in
set_option maxHeartbeats 1000000 in
theorem L_both2 {X : En} {q : Nat × Nat} {I0 : FI} {F n : Nat} {t nm : Nat → Int32} (hT : TxX I0 F n t nm) {d f : Nat} (hd : 2 < d) {Q : Pst} {I : FI} {L : FL} (x : Int32) (o2 : Option Value) (h : RBad I0 f I) (hQ : ∀ v, Q (some (.int v)) S0 I L (R0 q)) : SW X (d + 1) mX8_both2 (0, 0) 5 [some (.ref 66), some (.int x), o2] [] S0 I L (R0 q) (KQ X Q) := by
  refine s_aload_n (tb_ok aX8_both2_0 3 rfl) rfl ?_
  refine s_bipush (v := 97) (tb_ok aX8_both2_0 4 rfl) (by decide) ?_
  refine s_bipush (v := 110) (tb_ok aX8_both2_0 5 rfl) (by decide) ?_
  refine s_bipush (v := 100) (tb_ok aX8_both2_0 6 rfl) (by decide) ?_
  refine s_iconst (v := 0) (tb_ok aX8_both2_0 7 rfl) (by decide) ?_
  refine s_iconst (v := 0) (tb_ok aX8_both2_0 8 rfl) (by decide) ?_
  refine s_iconst (v := 0) (tb_ok aX8_both2_0 9 rfl) (by decide) ?_
  refine s_iconst (v := 0) (tb_ok aX8_both2_0 10 rfl) (by decide) ?_
  refine s_iconst (v := 0) (tb_ok aX8_both2_0 11 rfl) (by decide) ?_
  refine s_cVp (as := [.int (97), .int (110), .int (100), .int (0), .int (0), .int (0), .int (0), .int (0)]) (tb_ok aX8_both2_0 12 rfl) v_RX8_193 (R_isWordE (I0 := I0) h.2.1) (by omega) rfl rfl rfl rfl rfl (Nat.le_of_ble_eq_true rfl) (by decide) ?_
  refine s_if_eq (tgt := 49) (tb_ok aX8_both2_0 13 rfl) (by decide) (fun c20 => ?_) (fun c20 => ?_)
  · refine s_iload_n (tb_ok aX8_both2_1 4 rfl) rfl ?_
    refine s_iret (tb_ok aX8_both2_1 5 rfl) rfl ?_
    exact hQ _
  · exact absurd c20 (by decide)

set_option maxRecDepth 100000 in
set_option maxHeartbeats 1000000 in
theorem C_both2 {X : En} {q : Nat × Nat} {I0 : FI} {F n : Nat} {t nm : Nat → Int32} (hT : TxX I0 F n t nm) {d dp : Nat} (hd : 2 < d) {P : Pa} (hN : Nice n dp P) (hi : CtX X q t nm n I0 d mX8_not2 2 P) : CtX X q t nm n I0 (d + 1) mX8_both2 2 (seqP t n opB cdB P) := by
  intro I L s h
  obtain ⟨hF, hn, hn160, hFn, ht, ht0, hnm⟩ := id hT
  have loop : ∀ k, ∀ (o2 : Option Value) (I : FI) (L : FL) (c : List Int32) (f : Sem) (s1 : St) (x : Int32), x = f nm → ROk t n 2 I0 s1 I L → 160 < s1.pl + k → loopP t n opB cdB P k c f s1 = (seqP t n opB cdB P) s → SW X (d + 1) mX8_both2 (0, 0) 5 [some (.ref 66), some (.int x), o2] [] S0 I L (R0 q) (KQ X (AfP q t nm n 2 I0 ((seqP t n opB cdB P) s))) := by
    intro k
    induction k with
    | zero =>
      intro o2 I L c f s1 x hx h1 hk hres
      have := h1.pln
      omega
    | succ k ih =>
      intro o2 I L c f s1 x hx h1 hk hres
      refine s_aload_n (tb_ok aX8_both2_0 3 rfl) rfl ?_
      refine s_bipush (v := 97) (tb_ok aX8_both2_0 4 rfl) (by decide) ?_
      refine s_bipush (v := 110) (tb_ok aX8_both2_0 5 rfl) (by decide) ?_
      refine s_bipush (v := 100) (tb_ok aX8_both2_0 6 rfl) (by decide) ?_
      refine s_iconst (v := 0) (tb_ok aX8_both2_0 7 rfl) (by decide) ?_
      refine s_iconst (v := 0) (tb_ok aX8_both2_0 8 rfl) (by decide) ?_
      refine s_iconst (v := 0) (tb_ok aX8_both2_0 9 rfl) (by decide) ?_
      refine s_iconst (v := 0) (tb_ok aX8_both2_0 10 rfl) (by decide) ?_
      refine s_iconst (v := 0) (tb_ok aX8_both2_0 11 rfl) (by decide) ?_
      refine s_cVp (as := [.int (97), .int (110), .int (100), .int (0), .int (0), .int (0), .int (0), .int (0)]) (tb_ok aX8_both2_0 12 rfl) v_RX8_193 (R_isWord hT h1 10 (by decide)) (by omega) rfl rfl rfl rfl rfl (Nat.le_of_ble_eq_true rfl) (by decide) ?_
      refine s_topi (bI_congr (isK_key (k := 10) (j := 8) (by decide) rfl)) ?_
      refine s_if_eq (tgt := 49) (tb_ok aX8_both2_0 13 rfl) (by decide) (fun c20 => ?_) (fun c20 => ?_)
      · refine s_iload_n (tb_ok aX8_both2_1 4 rfl) rfl ?_
        refine s_iret (tb_ok aX8_both2_1 5 rfl) rfl ?_
        refine ⟨rfl, rfl, _, rfl, ?_⟩
        rw [← hres, loopP, if_neg (bI_0.mp c20)]
        exact ⟨hx, h1⟩
      · have hop : opB s1.tok := bI_n c20
        refine s_aload_n (tb_ok aX8_both2_0 14 rfl) rfl ?_
        refine s_cV (as := []) (tb_ok aX8_both2_0 15 rfl) v_RX8_190 (R_next hT h1 (by rw [hop]; decide) (by rw [hop]; decide)) (by omega) rfl rfl rfl rfl rfl (Nat.le_of_ble_eq_true rfl) (by decide) (fun r1 S1 I1 L1 R1 q1 => ?_)
        obtain ⟨rfl, rfl, rfl, u1⟩ := q1
        have a2 := (adv_wf (t := t) h1.2.1).2.2 (by rw [hop]; decide)
        refine s_aload_n (tb_ok aX8_both2_0 16 rfl) rfl ?_
        refine s_cV (as := []) (tb_ok aX8_both2_0 17 rfl) v_RX8_293 (hi _ _ _ u1) (by omega) rfl rfl rfl rfl rfl (Nat.le_of_ble_eq_true rfl) (by decide) (fun r2 S2 I2 L2 R2 q2 => ?_)
        obtain ⟨rfl, rfl, v3_, rfl, u3⟩ := q2
        cases e3_ : P (adv t n s1) with
        | inr g3_ =>
          rw [e3_] at u3
          have u3 : RBad I0 g3_ _ := u3
          rw [loopP, if_pos hop, e3_] at hres
          refine s_istore_n (ls' := [some (.ref 66), some (.int x), some (.int v3_)]) (tb_ok aX8_both2_0 18 rfl) rfl rfl ?_
          refine s_iload_n (tb_ok aX8_both2_0 19 rfl) rfl ?_
          refine s_if_eq (tgt := 44) (tb_ok aX8_both2_0 20 rfl) (by decide) (fun c33 => ?_) (fun c33 => ?_)
          · refine s_iconst (v := 0) (tb_ok aX8_both2_1 1 rfl) (by decide) ?_
            refine s_istore_n (ls' := [some (.ref 66), some (.int (0)), some (.int v3_)]) (tb_ok aX8_both2_1 2 rfl) rfl rfl ?_
            refine s_goto (tgt := 5) (tb_ok aX8_both2_1 3 rfl) (by decide) ?_
            refine L_both2 hT hd _ _ u3 (fun v => ⟨rfl, rfl, _, rfl, ?_⟩)
            rw [← hres]
            exact u3
          · refine s_iload_n (tb_ok aX8_both2_0 21 rfl) rfl ?_
            refine s_if_eq (tgt := 44) (tb_ok aX8_both2_0 22 rfl) (by decide) (fun c37 => ?_) (fun c37 => ?_)
            · refine s_iconst (v := 0) (tb_ok aX8_both2_1 1 rfl) (by decide) ?_
              refine s_istore_n (ls' := [some (.ref 66), some (.int (0)), some (.int v3_)]) (tb_ok aX8_both2_1 2 rfl) rfl rfl ?_
              refine s_goto (tgt := 5) (tb_ok aX8_both2_1 3 rfl) (by decide) ?_
              refine L_both2 hT hd _ _ u3 (fun v => ⟨rfl, rfl, _, rfl, ?_⟩)
              rw [← hres]
              exact u3
            · refine s_iconst (v := 1) (tb_ok aX8_both2_0 23 rfl) (by decide) ?_
              refine s_goto (tgt := 45) (tb_ok aX8_both2_1 0 rfl) (by decide) ?_
              refine s_istore_n (ls' := [some (.ref 66), some (.int (1)), some (.int v3_)]) (tb_ok aX8_both2_1 2 rfl) rfl rfl ?_
              refine s_goto (tgt := 5) (tb_ok aX8_both2_1 3 rfl) (by decide) ?_
              refine L_both2 hT hd _ _ u3 (fun v => ⟨rfl, rfl, _, rfl, ?_⟩)
              rw [← hres]
              exact u3
        | inl qq =>
          obtain ⟨c3_, f3_, s3_⟩ := qq
          rw [e3_] at u3
          obtain ⟨w3_, u3⟩ := u3
          have w3_ : v3_ = f3_ nm := w3_
          have u3 : ROk t n 2 I0 s3_ _ _ := u3
          have b3_ := Nice.two (t := t) hN u1.2.1 e3_
          rw [loopP, if_pos hop, e3_] at hres
          refine s_istore_n (ls' := [some (.ref 66), some (.int x), some (.int v3_)]) (tb_ok aX8_both2_0 18 rfl) rfl rfl ?_
          refine s_iload_n (tb_ok aX8_both2_0 19 rfl) rfl ?_
          refine s_if_eq (tgt := 44) (tb_ok aX8_both2_0 20 rfl) (by decide) (fun c33 => ?_) (fun c33 => ?_)
          · refine s_iconst (v := 0) (tb_ok aX8_both2_1 1 rfl) (by decide) ?_
            refine s_istore_n (ls' := [some (.ref 66), some (.int (0)), some (.int v3_)]) (tb_ok aX8_both2_1 2 rfl) rfl rfl ?_
            refine s_goto (tgt := 5) (tb_ok aX8_both2_1 3 rfl) (by decide) ?_
            refine ih _ _ _ _ _ _ (0) ?_ u3 (by omega) hres
            show ((0) : Int32) = of2 30005 (f nm) _
            rw [of2_and, ← hx, ← w3_]
            exact (bI_f (fun h_ => by first | exact h_.1 c33 | exact h_.2 c37)).symm
          · refine s_iload_n (tb_ok aX8_both2_0 21 rfl) rfl ?_
            refine s_if_eq (tgt := 44) (tb_ok aX8_both2_0 22 rfl) (by decide) (fun c37 => ?_) (fun c37 => ?_)
            · refine s_iconst (v := 0) (tb_ok aX8_both2_1 1 rfl) (by decide) ?_
              refine s_istore_n (ls' := [some (.ref 66), some (.int (0)), some (.int v3_)]) (tb_ok aX8_both2_1 2 rfl) rfl rfl ?_
              refine s_goto (tgt := 5) (tb_ok aX8_both2_1 3 rfl) (by decide) ?_
              refine ih _ _ _ _ _ _ (0) ?_ u3 (by omega) hres
              show ((0) : Int32) = of2 30005 (f nm) _
              rw [of2_and, ← hx, ← w3_]
              exact (bI_f (fun h_ => by first | exact h_.1 c33 | exact h_.2 c37)).symm
            · refine s_iconst (v := 1) (tb_ok aX8_both2_0 23 rfl) (by decide) ?_
              refine s_goto (tgt := 45) (tb_ok aX8_both2_1 0 rfl) (by decide) ?_
              refine s_istore_n (ls' := [some (.ref 66), some (.int (1)), some (.int v3_)]) (tb_ok aX8_both2_1 2 rfl) rfl rfl ?_
              refine s_goto (tgt := 5) (tb_ok aX8_both2_1 3 rfl) (by decide) ?_
              refine ih _ _ _ _ _ _ (1) ?_ u3 (by omega) hres
              show ((1) : Int32) = of2 30005 (f nm) _
              rw [of2_and, ← hx, ← w3_]
              exact (bI_t ⟨c33, c37⟩).symm
  refine ev_of (by decide +kernel) rfl ?_
  show SW X _ _ _ 0 [some (.ref 66), none, none] [] S0 I L (R0 q) _
  refine s_aload_n (tb_ok aX8_both2_0 0 rfl) rfl ?_
  refine s_cV (as := []) (tb_ok aX8_both2_0 1 rfl) v_RX8_293 (hi _ _ _ h) (by omega) rfl rfl rfl rfl rfl (Nat.le_of_ble_eq_true rfl) (by decide) (fun r1 S1 I1 L1 R1 q1 => ?_)
  obtain ⟨rfl, rfl, v4_, rfl, u4⟩ := q1
  cases e4_ : P s with
  | inr g4_ =>
    rw [e4_] at u4
    have u4 : RBad I0 g4_ _ := u4
    have hsq : (seqP t n opB cdB P) s = .inr g4_ := by unfold seqP; rw [e4_]
    refine s_istore_n (ls' := [some (.ref 66), some (.int v4_), none]) (tb_ok aX8_both2_0 2 rfl) rfl rfl ?_
    refine L_both2 hT hd _ _ u4 (fun v => ⟨rfl, rfl, _, rfl, ?_⟩)
    rw [hsq]
    exact u4
  | inl qq =>
    obtain ⟨c4_, f4_, s4_⟩ := qq
    rw [e4_] at u4
    obtain ⟨w4_, u4⟩ := u4
    have w4_ : v4_ = f4_ nm := w4_
    have u4 : ROk t n 2 I0 s4_ _ _ := u4
    have b4_ := Nice.two (t := t) hN h.2.1 e4_
    have hsq : (seqP t n opB cdB P) s = loopP t n opB cdB P 160 c4_ f4_ s4_ := by unfold seqP; rw [e4_]
    refine s_istore_n (ls' := [some (.ref 66), some (.int v4_), none]) (tb_ok aX8_both2_0 2 rfl) rfl rfl ?_
    exact loop 160 _ _ _ _ _ _ _ w4_ u4 (by omega) hsq.symm

set_option maxRecDepth 100000 in
set_option maxHeartbeats 1000000 in
theorem L_either2 {X : En} {q : Nat × Nat} {I0 : FI} {F n : Nat} {t nm : Nat → Int32} (hT : TxX I0 F n t nm) {d f : Nat} (hd : 2 < d) {Q : Pst} {I : FI} {L : FL} (x : Int32) (o2 : Option Value) (h : RBad I0 f I) (hQ : ∀ v, Q (some (.int v)) S0 I L (R0 q)) : SW X (d + 1) mX8_either2 (0, 0) 5 [some (.ref 66), some (.int x), o2] [] S0 I L (R0 q) (KQ X Q) := by
  refine s_aload_n (tb_ok aX8_either2_0 3 rfl) rfl ?_
  refine s_bipush (v := 111) (tb_ok aX8_either2_0 4 rfl) (by decide) ?_
  refine s_bipush (v := 114) (tb_ok aX8_either2_0 5 rfl) (by decide) ?_
  refine s_iconst (v := 0) (tb_ok aX8_either2_0 6 rfl) (by decide) ?_
  refine s_iconst (v := 0) (tb_ok aX8_either2_0 7 rfl) (by decide) ?_
  refine s_iconst (v := 0) (tb_ok aX8_either2_0 8 rfl) (by decide) ?_
  refine s_iconst (v := 0) (tb_ok aX8_either2_0 9 rfl) (by decide) ?_
  refine s_iconst (v := 0) (tb_ok aX8_either2_0 10 rfl) (by decide) ?_
  refine s_iconst (v := 0) (tb_ok aX8_either2_0 11 rfl) (by decide) ?_
  refine s_cVp (as := [.int (111), .int (114), .int (0), .int (0), .int (0), .int (0), .int (0), .int (0)]) (tb_ok aX8_either2_0 12 rfl) v_RX8_193 (R_isWordE (I0 := I0) h.2.1) (by omega) rfl rfl rfl rfl rfl (Nat.le_of_ble_eq_true rfl) (by decide) ?_
  refine s_if_eq (tgt := 48) (tb_ok aX8_either2_0 13 rfl) (by decide) (fun c19 => ?_) (fun c19 => ?_)
  · refine s_iload_n (tb_ok aX8_either2_1 4 rfl) rfl ?_
    refine s_iret (tb_ok aX8_either2_1 5 rfl) rfl ?_
    exact hQ _
  · exact absurd c19 (by decide)

set_option maxRecDepth 100000 in
set_option maxHeartbeats 1000000 in
theorem C_either2 {X : En} {q : Nat × Nat} {I0 : FI} {F n : Nat} {t nm : Nat → Int32} (hT : TxX I0 F n t nm) {d dp : Nat} (hd : 2 < d) {P : Pa} (hN : Nice n dp P) (hi : CtX X q t nm n I0 d mX8_both2 2 P) : CtX X q t nm n I0 (d + 1) mX8_either2 2 (seqP t n opE cdE P) := by
  intro I L s h
  obtain ⟨hF, hn, hn160, hFn, ht, ht0, hnm⟩ := id hT
  have loop : ∀ k, ∀ (o2 : Option Value) (I : FI) (L : FL) (c : List Int32) (f : Sem) (s1 : St) (x : Int32), x = f nm → ROk t n 2 I0 s1 I L → 160 < s1.pl + k → loopP t n opE cdE P k c f s1 = (seqP t n opE cdE P) s → SW X (d + 1) mX8_either2 (0, 0) 5 [some (.ref 66), some (.int x), o2] [] S0 I L (R0 q) (KQ X (AfP q t nm n 2 I0 ((seqP t n opE cdE P) s))) := by
    intro k
    induction k with
    | zero =>
      intro o2 I L c f s1 x hx h1 hk hres
      have := h1.pln
      omega
    | succ k ih =>
      intro o2 I L c f s1 x hx h1 hk hres
      refine s_aload_n (tb_ok aX8_either2_0 3 rfl) rfl ?_
      refine s_bipush (v := 111) (tb_ok aX8_either2_0 4 rfl) (by decide) ?_
      refine s_bipush (v := 114) (tb_ok aX8_either2_0 5 rfl) (by decide) ?_
      refine s_iconst (v := 0) (tb_ok aX8_either2_0 6 rfl) (by decide) ?_
      refine s_iconst (v := 0) (tb_ok aX8_either2_0 7 rfl) (by decide) ?_
      refine s_iconst (v := 0) (tb_ok aX8_either2_0 8 rfl) (by decide) ?_
      refine s_iconst (v := 0) (tb_ok aX8_either2_0 9 rfl) (by decide) ?_
      refine s_iconst (v := 0) (tb_ok aX8_either2_0 10 rfl) (by decide) ?_
      refine s_iconst (v := 0) (tb_ok aX8_either2_0 11 rfl) (by decide) ?_
      refine s_cVp (as := [.int (111), .int (114), .int (0), .int (0), .int (0), .int (0), .int (0), .int (0)]) (tb_ok aX8_either2_0 12 rfl) v_RX8_193 (R_isWord hT h1 9 (by decide)) (by omega) rfl rfl rfl rfl rfl (Nat.le_of_ble_eq_true rfl) (by decide) ?_
      refine s_topi (bI_congr (isK_key (k := 9) (j := 7) (by decide) rfl)) ?_
      refine s_if_eq (tgt := 48) (tb_ok aX8_either2_0 13 rfl) (by decide) (fun c19 => ?_) (fun c19 => ?_)
      · refine s_iload_n (tb_ok aX8_either2_1 4 rfl) rfl ?_
        refine s_iret (tb_ok aX8_either2_1 5 rfl) rfl ?_
        refine ⟨rfl, rfl, _, rfl, ?_⟩
        rw [← hres, loopP, if_neg (bI_0.mp c19)]
        exact ⟨hx, h1⟩
      · have hop : opE s1.tok := bI_n c19
        refine s_aload_n (tb_ok aX8_either2_0 14 rfl) rfl ?_
        refine s_cV (as := []) (tb_ok aX8_either2_0 15 rfl) v_RX8_190 (R_next hT h1 (by rw [hop]; decide) (by rw [hop]; decide)) (by omega) rfl rfl rfl rfl rfl (Nat.le_of_ble_eq_true rfl) (by decide) (fun r1 S1 I1 L1 R1 q1 => ?_)
        obtain ⟨rfl, rfl, rfl, u1⟩ := q1
        have a2 := (adv_wf (t := t) h1.2.1).2.2 (by rw [hop]; decide)
        refine s_aload_n (tb_ok aX8_either2_0 16 rfl) rfl ?_
        refine s_cV (as := []) (tb_ok aX8_either2_0 17 rfl) v_RX8_296 (hi _ _ _ u1) (by omega) rfl rfl rfl rfl rfl (Nat.le_of_ble_eq_true rfl) (by decide) (fun r2 S2 I2 L2 R2 q2 => ?_)
        obtain ⟨rfl, rfl, v3_, rfl, u3⟩ := q2
        cases e3_ : P (adv t n s1) with
        | inr g3_ =>
          rw [e3_] at u3
          have u3 : RBad I0 g3_ _ := u3
          rw [loopP, if_pos hop, e3_] at hres
          refine s_istore_n (ls' := [some (.ref 66), some (.int x), some (.int v3_)]) (tb_ok aX8_either2_0 18 rfl) rfl rfl ?_
          refine s_iload_n (tb_ok aX8_either2_0 19 rfl) rfl ?_
          refine s_if_ne (tgt := 39) (tb_ok aX8_either2_0 20 rfl) (by decide) (fun c32 => ?_) (fun c32 => ?_)
          · refine s_iconst (v := 1) (tb_ok aX8_either2_0 23 rfl) (by decide) ?_
            refine s_goto (tgt := 44) (tb_ok aX8_either2_1 0 rfl) (by decide) ?_
            refine s_istore_n (ls' := [some (.ref 66), some (.int (1)), some (.int v3_)]) (tb_ok aX8_either2_1 2 rfl) rfl rfl ?_
            refine s_goto (tgt := 5) (tb_ok aX8_either2_1 3 rfl) (by decide) ?_
            refine L_either2 hT hd _ _ u3 (fun v => ⟨rfl, rfl, _, rfl, ?_⟩)
            rw [← hres]
            exact u3
          · refine s_iload_n (tb_ok aX8_either2_0 21 rfl) rfl ?_
            refine s_if_eq (tgt := 43) (tb_ok aX8_either2_0 22 rfl) (by decide) (fun c36 => ?_) (fun c36 => ?_)
            · refine s_iconst (v := 0) (tb_ok aX8_either2_1 1 rfl) (by decide) ?_
              refine s_istore_n (ls' := [some (.ref 66), some (.int (0)), some (.int v3_)]) (tb_ok aX8_either2_1 2 rfl) rfl rfl ?_
              refine s_goto (tgt := 5) (tb_ok aX8_either2_1 3 rfl) (by decide) ?_
              refine L_either2 hT hd _ _ u3 (fun v => ⟨rfl, rfl, _, rfl, ?_⟩)
              rw [← hres]
              exact u3
            · refine s_iconst (v := 1) (tb_ok aX8_either2_0 23 rfl) (by decide) ?_
              refine s_goto (tgt := 44) (tb_ok aX8_either2_1 0 rfl) (by decide) ?_
              refine s_istore_n (ls' := [some (.ref 66), some (.int (1)), some (.int v3_)]) (tb_ok aX8_either2_1 2 rfl) rfl rfl ?_
              refine s_goto (tgt := 5) (tb_ok aX8_either2_1 3 rfl) (by decide) ?_
              refine L_either2 hT hd _ _ u3 (fun v => ⟨rfl, rfl, _, rfl, ?_⟩)
              rw [← hres]
              exact u3
        | inl qq =>
          obtain ⟨c3_, f3_, s3_⟩ := qq
          rw [e3_] at u3
          obtain ⟨w3_, u3⟩ := u3
          have w3_ : v3_ = f3_ nm := w3_
          have u3 : ROk t n 2 I0 s3_ _ _ := u3
          have b3_ := Nice.two (t := t) hN u1.2.1 e3_
          rw [loopP, if_pos hop, e3_] at hres
          refine s_istore_n (ls' := [some (.ref 66), some (.int x), some (.int v3_)]) (tb_ok aX8_either2_0 18 rfl) rfl rfl ?_
          refine s_iload_n (tb_ok aX8_either2_0 19 rfl) rfl ?_
          refine s_if_ne (tgt := 39) (tb_ok aX8_either2_0 20 rfl) (by decide) (fun c32 => ?_) (fun c32 => ?_)
          · refine s_iconst (v := 1) (tb_ok aX8_either2_0 23 rfl) (by decide) ?_
            refine s_goto (tgt := 44) (tb_ok aX8_either2_1 0 rfl) (by decide) ?_
            refine s_istore_n (ls' := [some (.ref 66), some (.int (1)), some (.int v3_)]) (tb_ok aX8_either2_1 2 rfl) rfl rfl ?_
            refine s_goto (tgt := 5) (tb_ok aX8_either2_1 3 rfl) (by decide) ?_
            refine ih _ _ _ _ _ _ (1) ?_ u3 (by omega) hres
            show ((1) : Int32) = of2 30006 (f nm) _
            rw [of2_or, ← hx, ← w3_]
            exact (bI_t (by first | exact Or.inl c32 | exact Or.inr c36)).symm
          · refine s_iload_n (tb_ok aX8_either2_0 21 rfl) rfl ?_
            refine s_if_eq (tgt := 43) (tb_ok aX8_either2_0 22 rfl) (by decide) (fun c36 => ?_) (fun c36 => ?_)
            · refine s_iconst (v := 0) (tb_ok aX8_either2_1 1 rfl) (by decide) ?_
              refine s_istore_n (ls' := [some (.ref 66), some (.int (0)), some (.int v3_)]) (tb_ok aX8_either2_1 2 rfl) rfl rfl ?_
              refine s_goto (tgt := 5) (tb_ok aX8_either2_1 3 rfl) (by decide) ?_
              refine ih _ _ _ _ _ _ (0) ?_ u3 (by omega) hres
              show ((0) : Int32) = of2 30006 (f nm) _
              rw [of2_or, ← hx, ← w3_]
              exact (bI_f (fun h_ => h_.elim (fun k_ => k_ c32) (fun k_ => k_ c36))).symm
            · refine s_iconst (v := 1) (tb_ok aX8_either2_0 23 rfl) (by decide) ?_
              refine s_goto (tgt := 44) (tb_ok aX8_either2_1 0 rfl) (by decide) ?_
              refine s_istore_n (ls' := [some (.ref 66), some (.int (1)), some (.int v3_)]) (tb_ok aX8_either2_1 2 rfl) rfl rfl ?_
              refine s_goto (tgt := 5) (tb_ok aX8_either2_1 3 rfl) (by decide) ?_
              refine ih _ _ _ _ _ _ (1) ?_ u3 (by omega) hres
              show ((1) : Int32) = of2 30006 (f nm) _
              rw [of2_or, ← hx, ← w3_]
              exact (bI_t (by first | exact Or.inl c32 | exact Or.inr c36)).symm
  refine ev_of (by decide +kernel) rfl ?_
  show SW X _ _ _ 0 [some (.ref 66), none, none] [] S0 I L (R0 q) _
  refine s_aload_n (tb_ok aX8_either2_0 0 rfl) rfl ?_
  refine s_cV (as := []) (tb_ok aX8_either2_0 1 rfl) v_RX8_296 (hi _ _ _ h) (by omega) rfl rfl rfl rfl rfl (Nat.le_of_ble_eq_true rfl) (by decide) (fun r1 S1 I1 L1 R1 q1 => ?_)
  obtain ⟨rfl, rfl, v4_, rfl, u4⟩ := q1
  cases e4_ : P s with
  | inr g4_ =>
    rw [e4_] at u4
    have u4 : RBad I0 g4_ _ := u4
    have hsq : (seqP t n opE cdE P) s = .inr g4_ := by unfold seqP; rw [e4_]
    refine s_istore_n (ls' := [some (.ref 66), some (.int v4_), none]) (tb_ok aX8_either2_0 2 rfl) rfl rfl ?_
    refine L_either2 hT hd _ _ u4 (fun v => ⟨rfl, rfl, _, rfl, ?_⟩)
    rw [hsq]
    exact u4
  | inl qq =>
    obtain ⟨c4_, f4_, s4_⟩ := qq
    rw [e4_] at u4
    obtain ⟨w4_, u4⟩ := u4
    have w4_ : v4_ = f4_ nm := w4_
    have u4 : ROk t n 2 I0 s4_ _ _ := u4
    have b4_ := Nice.two (t := t) hN h.2.1 e4_
    have hsq : (seqP t n opE cdE P) s = loopP t n opE cdE P 160 c4_ f4_ s4_ := by unfold seqP; rw [e4_]
    refine s_istore_n (ls' := [some (.ref 66), some (.int v4_), none]) (tb_ok aX8_either2_0 2 rfl) rfl rfl ?_
    exact loop 160 _ _ _ _ _ _ _ w4_ u4 (by omega) hsq.symm

set_option maxRecDepth 100000 in
set_option maxHeartbeats 1000000 in
theorem C_atom1 {X : En} {q : Nat × Nat} {I0 : FI} {F n : Nat} {t nm : Nat → Int32} (hT : TxX I0 F n t nm) {d : Nat} (hd : 3 < d) {q2 : Pa × Pa × Pa} {d1 d2 : Nat} (hd1 : d1 < d) (hd2 : d2 < d) (hi : CtX X q t nm n I0 d1 mX8_atom2 2 q2.2.2) (hj : CtX X q t nm n I0 d2 mX8_either2 2 q2.1) : CtX X q t nm n I0 d mX8_atom1 1 (oneP t n (some q2)) := by
  intro I L s h
  obtain ⟨hF, hn, hn160, hFn, ht, ht0, hnm⟩ := id hT
  refine ev_of (by decide +kernel) rfl ?_
  show SW X _ _ _ 0 [some (.ref 66), none] [] S0 I L (R0 q) _
  refine s_iconst (v := 0) (tb_ok aX8_atom1_0 0 rfl) (by decide) ?_
  refine s_istore_n (ls' := [some (.ref 66), some (.int (0))]) (tb_ok aX8_atom1_0 1 rfl) rfl rfl ?_
  refine s_aload_n (tb_ok aX8_atom1_0 2 rfl) rfl ?_
  refine s_bipush (v := 45) (tb_ok aX8_atom1_0 3 rfl) (by decide) ?_
  refine s_cVp (as := [.int (45)]) (tb_ok aX8_atom1_0 4 rfl) v_RX8_215 (R_isSign (I0 := I0) h.2.2.1 h.2.2.2.2.2 (by decide)) (by omega) rfl rfl rfl rfl rfl (Nat.le_of_ble_eq_true rfl) (by decide) ?_
  refine s_if_eq (tgt := 37) (tb_ok aX8_atom1_0 5 rfl) (by decide) (fun c8 => ?_) (fun c8 => ?_)
  · have n45 : ¬ s.tok = 45 := bI_0.mp c8
    refine s_aload_n (tb_ok aX8_atom1_0 20 rfl) rfl ?_
    refine s_bipush (v := 40) (tb_ok aX8_atom1_0 21 rfl) (by decide) ?_
    refine s_cVp (as := [.int (40)]) (tb_ok aX8_atom1_0 22 rfl) v_RX8_215 (R_isSign (I0 := I0) h.2.2.1 h.2.2.2.2.2 (by decide)) (by omega) rfl rfl rfl rfl rfl (Nat.le_of_ble_eq_true rfl) (by decide) ?_
    refine s_if_eq (tgt := 95) (tb_ok aX8_atom1_0 23 rfl) (by decide) (fun c43 => ?_) (fun c43 => ?_)
    · have n40 : ¬ s.tok = 40 := bI_0.mp c43
      refine s_aload_n (tb_ok aX8_atom1_2 0 rfl) rfl ?_
      refine s_getI (x := (0)) (tb_ok aX8_atom1_2 1 rfl) f_RX8_173 rfl rfl h.2.2.1 ?_
      refine s_if_ne (tgt := 123) (tb_ok aX8_atom1_2 2 rfl) (by decide) (fun c99 => ?_) (fun c99 => ?_)
      · exact absurd c99 (by decide)
      · refine s_aload_n (tb_ok aX8_atom1_2 3 rfl) rfl ?_
        refine s_getI (tb_ok aX8_atom1_2 4 rfl) f_RX8_156 rfl rfl rfl ?_
        refine s_iconst (v := 2) (tb_ok aX8_atom1_2 5 rfl) (by decide) ?_
        refine s_icmp_ne (tgt := 123) (tb_ok aX8_atom1_2 6 rfl) (by decide) (fun c107 => ?_) (fun c107 => ?_)
        · refine s_aload_n (tb_ok aX8_atom1_2 14 rfl) rfl ?_
          refine s_getI (x := (0)) (tb_ok aX8_atom1_2 15 rfl) f_RX8_173 rfl rfl h.2.2.1 ?_
          refine s_if_ne (tgt := 157) (tb_ok aX8_atom1_2 16 rfl) (by decide) (fun c127 => ?_) (fun c127 => ?_)
          · exact absurd c127 (by decide)
          · refine s_aload_n (tb_ok aX8_atom1_2 17 rfl) rfl ?_
            refine s_getI (tb_ok aX8_atom1_2 18 rfl) f_RX8_156 rfl rfl rfl ?_
            refine s_iconst (v := 1) (tb_ok aX8_atom1_2 19 rfl) (by decide) ?_
            refine s_icmp_ne (tgt := 157) (tb_ok aX8_atom1_2 20 rfl) (by decide) (fun c135 => ?_) (fun c135 => ?_)
            · have n2 : ¬ s.tok = 2 := fun e_ => c107 (h.num.mpr e_)
              have n3 : ¬ s.tok = 3 := fun e_ => by
                rcases h.now c135 with k_ | k_ | k_ | k_
                · rw [e_] at k_; exact absurd k_ (by decide)
                · rw [e_] at k_; exact absurd k_ (by decide)
                · rw [e_] at k_; exact absurd k_ (by decide)
                · exact (sg_no k_).2.2.2.1 e_
              have hsq : (oneP t n (some q2)) s = .inr s.pl := by unfold oneP; rw [if_neg (fun h_ => h_.elim n2 n3), if_neg (fun h_ => h_.elim n45 n40)]
              refine s_aload_n (tb_ok aX8_atom1_3 6 rfl) rfl ?_
              refine s_cV (as := []) (tb_ok aX8_atom1_3 7 rfl) v_RX8_187 (R_fail h) (by omega) rfl rfl rfl rfl rfl (Nat.le_of_ble_eq_true rfl) (by decide) (fun r1 S1 I1 L1 R1 q1 => ?_)
              obtain ⟨rfl, rfl, rfl, u1⟩ := q1
              refine s_iload_n (tb_ok aX8_atom1_3 8 rfl) rfl ?_
              refine s_iret (tb_ok aX8_atom1_3 9 rfl) rfl ?_
              refine ⟨rfl, rfl, _, rfl, ?_⟩
              rw [hsq]
              exact u1
            · refine s_aload_n (tb_ok aX8_atom1_2 21 rfl) rfl ?_
              refine s_cV (as := []) (tb_ok aX8_atom1_2 22 rfl) v_RX8_222 (R_name hT h) (by omega) rfl rfl rfl rfl rfl (Nat.le_of_ble_eq_true rfl) (by decide) (fun r2 S2 I2 L2 R2 q2 => ?_)
              obtain ⟨rfl, rfl, v2_, rfl, ⟨h3, w2_, u2⟩ | ⟨n3, u2⟩⟩ := q2
              · have hsq : (oneP t n (some q2)) s = .inl ([s.val], (fun nm => atm nm s.val), adv t n s) := by unfold oneP; rw [if_pos (Or.inr h3)]
                refine s_istore_n (ls' := [some (.ref 66), some (.int v2_)]) (tb_ok aX8_atom1_2 23 rfl) rfl rfl ?_
                refine s_aload_n (tb_ok aX8_atom1_3 0 rfl) rfl ?_
                refine s_getI (x := (0)) (tb_ok aX8_atom1_3 1 rfl) f_RX8_173 rfl rfl u2.2.2.1 ?_
                refine s_if_ne (tgt := 161) (tb_ok aX8_atom1_3 2 rfl) (by decide) (fun c147 => ?_) (fun c147 => ?_)
                · exact absurd c147 (by decide)
                · refine s_aload_n (tb_ok aX8_atom1_3 3 rfl) rfl ?_
                  refine s_cV (as := []) (tb_ok aX8_atom1_3 4 rfl) v_RX8_190 (R_next hT u2 (by rw [h3]; decide) (by rw [h3]; decide)) (by omega) rfl rfl rfl rfl rfl (Nat.le_of_ble_eq_true rfl) (by decide) (fun r3 S3 I3 L3 R3 q3 => ?_)
                  obtain ⟨rfl, rfl, rfl, u3⟩ := q3
                  have a4 := (adv_wf (t := t) u2.2.1).2.2 (by rw [h3]; decide)
                  refine s_goto (tgt := 161) (tb_ok aX8_atom1_3 5 rfl) (by decide) ?_
                  refine s_iload_n (tb_ok aX8_atom1_3 8 rfl) rfl ?_
                  refine s_iret (tb_ok aX8_atom1_3 9 rfl) rfl ?_
                  refine ⟨rfl, rfl, _, rfl, ?_⟩
                  rw [hsq]
                  refine ⟨?_, u3⟩
                  exact w2_
              · have n2 : ¬ s.tok = 2 := fun e_ => by have := h.num.mpr e_; exact c107 this
                have hsq : (oneP t n (some q2)) s = .inr s.pl := by unfold oneP; rw [if_neg (fun h_ => h_.elim n2 n3), if_neg (fun h_ => h_.elim n45 n40)]
                refine s_istore_n (ls' := [some (.ref 66), some (.int v2_)]) (tb_ok aX8_atom1_2 23 rfl) rfl rfl ?_
                refine s_aload_n (tb_ok aX8_atom1_3 0 rfl) rfl ?_
                refine s_getI (x := (1)) (tb_ok aX8_atom1_3 1 rfl) f_RX8_173 rfl rfl u2.2.1 ?_
                refine s_if_ne (tgt := 161) (tb_ok aX8_atom1_3 2 rfl) (by decide) (fun c147 => ?_) (fun c147 => ?_)
                · refine s_iload_n (tb_ok aX8_atom1_3 8 rfl) rfl ?_
                  refine s_iret (tb_ok aX8_atom1_3 9 rfl) rfl ?_
                  refine ⟨rfl, rfl, _, rfl, ?_⟩
                  rw [hsq]
                  exact u2
                · exact absurd c147 (by decide)
        · have ht2 : s.tok = 2 := h.num.mp c107
          have hnv : (L 66 25).toInt32 = atm nm s.val := h.nvl ht2
          have hsq : (oneP t n (some q2)) s = .inl ([s.val], (fun nm => atm nm s.val), adv t n s) := by unfold oneP; rw [if_pos (Or.inl ht2)]
          refine s_aload_n (tb_ok aX8_atom1_2 7 rfl) rfl ?_
          refine s_getL (tb_ok aX8_atom1_2 8 rfl) f_RX8_167 rfl rfl rfl ?_
          refine s_l2i (tb_ok aX8_atom1_2 9 rfl) ?_
          refine s_name (fun x1 ex1 => ?_)
          refine s_istore_n (ls' := [some (.ref 66), some (.int x1)]) (tb_ok aX8_atom1_2 10 rfl) rfl rfl ?_
          refine s_aload_n (tb_ok aX8_atom1_2 11 rfl) rfl ?_
          refine s_cV (as := []) (tb_ok aX8_atom1_2 12 rfl) v_RX8_190 (R_next hT h (by rw [ht2]; decide) (by rw [ht2]; decide)) (by omega) rfl rfl rfl rfl rfl (Nat.le_of_ble_eq_true rfl) (by decide) (fun r4 S4 I4 L4 R4 q4 => ?_)
          obtain ⟨rfl, rfl, rfl, u5⟩ := q4
          have a6 := (adv_wf (t := t) h.2.1).2.2 (by rw [ht2]; decide)
          refine s_goto (tgt := 161) (tb_ok aX8_atom1_2 13 rfl) (by decide) ?_
          refine s_iload_n (tb_ok aX8_atom1_3 8 rfl) rfl ?_
          refine s_iret (tb_ok aX8_atom1_3 9 rfl) rfl ?_
          refine ⟨rfl, rfl, _, rfl, ?_⟩
          rw [hsq]
          refine ⟨?_, u5⟩
          first | exact ex1.trans hnv | exact ex1.trans (congrArg Neg.neg w2_)
    · have h40 : s.tok = 40 := bI_n c43
      have h4 : s.tok = 45 ∨ s.tok = 40 := Or.inr h40
      have h23 : ¬ (s.tok = 2 ∨ s.tok = 3) := by rw [h40]; decide
      refine s_aload_n (tb_ok aX8_atom1_1 0 rfl) rfl ?_
      refine s_cV (as := []) (tb_ok aX8_atom1_1 1 rfl) v_RX8_218 (R_opens hT h (by rw [h40]; decide) (by rw [h40]; decide) (by decide)) (by omega) rfl rfl rfl rfl rfl (Nat.le_of_ble_eq_true rfl) (by decide) (fun r5 S5 I5 L5 R5 q5 => ?_)
      obtain ⟨rfl, rfl, rfl, u7⟩ := q5
      have a8 := (adv_wf (t := t) h.2.1).2.2 (by rw [h40]; decide)
      refine s_if_eq (tgt := 161) (tb_ok aX8_atom1_1 2 rfl) (by decide) (fun c50 => ?_) (fun c50 => ?_)
      · exact absurd c50 (by decide)
      · refine s_aload_n (tb_ok aX8_atom1_1 3 rfl) rfl ?_
        refine s_cV (as := []) (tb_ok aX8_atom1_1 4 rfl) v_RX8_299 (hj _ _ _ u7) (by omega) rfl rfl rfl rfl rfl (Nat.le_of_ble_eq_true rfl) (by decide) (fun r6 S6 I6 L6 R6 q6 => ?_)
        obtain ⟨rfl, rfl, v9_, rfl, u9⟩ := q6
        cases e9_ : q2.1 (adv t n s) with
        | inr g9_ =>
          rw [e9_] at u9
          have u9 : RBad I0 g9_ _ := u9
          have hsq : (oneP t n (some q2)) s = .inr g9_ := by
            unfold oneP
            rw [if_neg h23, if_pos h4]
            show (if s.tok = 45 then _ else _) = _
            rw [if_neg (by rw [h40]; decide)]
            simp only [e9_]
          refine s_istore_n (ls' := [some (.ref 66), some (.int v9_)]) (tb_ok aX8_atom1_1 5 rfl) rfl rfl ?_
          refine s_aload_n (tb_ok aX8_atom1_1 6 rfl) rfl ?_
          refine s_bipush (v := 41) (tb_ok aX8_atom1_1 7 rfl) (by decide) ?_
          refine s_cVp (as := [.int (41)]) (tb_ok aX8_atom1_1 8 rfl) v_RX8_215 (R_isSignE (I0 := I0) u9.2.1) (by omega) rfl rfl rfl rfl rfl (Nat.le_of_ble_eq_true rfl) (by decide) ?_
          refine s_if_ne (tgt := 71) (tb_ok aX8_atom1_1 9 rfl) (by decide) (fun c64 => ?_) (fun c64 => ?_)
          · exact absurd c64 (by decide)
          · refine s_aload_n (tb_ok aX8_atom1_1 10 rfl) rfl ?_
            refine s_cV (as := []) (tb_ok aX8_atom1_1 11 rfl) v_RX8_187 (R_failE u9) (by omega) rfl rfl rfl rfl rfl (Nat.le_of_ble_eq_true rfl) (by decide) (fun r7 S7 I7 L7 R7 q7 => ?_)
            obtain ⟨rfl, rfl, rfl, u10⟩ := q7
            refine s_aload_n (tb_ok aX8_atom1_1 12 rfl) rfl ?_
            refine s_dup (tb_ok aX8_atom1_1 13 rfl) rfl ?_
            refine s_getI (tb_ok aX8_atom1_1 14 rfl) f_RX8_184 rfl rfl rfl ?_
            refine s_iconst (v := 1) (tb_ok aX8_atom1_1 15 rfl) (by decide) ?_
            refine s_isub (tb_ok aX8_atom1_1 16 rfl) ?_
            refine s_putI (tb_ok aX8_atom1_1 17 rfl) f_RX8_184 rfl rfl ?_
            refine s_aload_n (tb_ok aX8_atom1_1 18 rfl) rfl ?_
            refine s_getI (x := (1)) (tb_ok aX8_atom1_1 19 rfl) f_RX8_173 rfl rfl (u10.put26 _).2.1 ?_
            refine s_if_ne (tgt := 161) (tb_ok aX8_atom1_1 20 rfl) (by decide) (fun c85 => ?_) (fun c85 => ?_)
            · refine s_iload_n (tb_ok aX8_atom1_3 8 rfl) rfl ?_
              refine s_iret (tb_ok aX8_atom1_3 9 rfl) rfl ?_
              refine ⟨rfl, rfl, _, rfl, ?_⟩
              rw [hsq]
              exact (u10.put26 _)
            · exact absurd c85 (by decide)
        | inl qq =>
          obtain ⟨c9_, f9_, s9_⟩ := qq
          rw [e9_] at u9
          obtain ⟨w9_, u9⟩ := u9
          have w9_ : v9_ = f9_ nm := w9_
          have u9 : ROk t n 2 I0 s9_ _ _ := u9
          refine s_istore_n (ls' := [some (.ref 66), some (.int v9_)]) (tb_ok aX8_atom1_1 5 rfl) rfl rfl ?_
          refine s_aload_n (tb_ok aX8_atom1_1 6 rfl) rfl ?_
          refine s_bipush (v := 41) (tb_ok aX8_atom1_1 7 rfl) (by decide) ?_
          refine s_cVp (as := [.int (41)]) (tb_ok aX8_atom1_1 8 rfl) v_RX8_215 (R_isSign (I0 := I0) u9.2.2.1 u9.2.2.2.2.2 (by decide)) (by omega) rfl rfl rfl rfl rfl (Nat.le_of_ble_eq_true rfl) (by decide) ?_
          refine s_if_ne (tgt := 71) (tb_ok aX8_atom1_1 9 rfl) (by decide) (fun c64 => ?_) (fun c64 => ?_)
          · refine s_aload_n (tb_ok aX8_atom1_1 12 rfl) rfl ?_
            refine s_dup (tb_ok aX8_atom1_1 13 rfl) rfl ?_
            refine s_getI (x := (nI 2)) (tb_ok aX8_atom1_1 14 rfl) f_RX8_184 rfl rfl u9.2.2.2.1 ?_
            refine s_iconst (v := 1) (tb_ok aX8_atom1_1 15 rfl) (by decide) ?_
            refine s_isub (tb_ok aX8_atom1_1 16 rfl) ?_
            refine s_topi (z := (nI 1)) (by decide) ?_
            refine s_putI (tb_ok aX8_atom1_1 17 rfl) f_RX8_184 rfl rfl ?_
            have u12 := u9.put26 1
            refine s_aload_n (tb_ok aX8_atom1_1 18 rfl) rfl ?_
            refine s_getI (x := (0)) (tb_ok aX8_atom1_1 19 rfl) f_RX8_173 rfl rfl u12.2.2.1 ?_
            refine s_if_ne (tgt := 161) (tb_ok aX8_atom1_1 20 rfl) (by decide) (fun c85 => ?_) (fun c85 => ?_)
            · exact absurd c85 (by decide)
            · have h41 : s9_.tok = 41 := bI_n c64
              have hsq : (oneP t n (some q2)) s = .inl (c9_, f9_, adv t n s9_) := by
                unfold oneP
                rw [if_neg h23, if_pos h4]
                show (if s.tok = 45 then _ else _) = _
                rw [if_neg (by rw [h40]; decide)]
                simp only [e9_]
                rw [if_pos h41]
              refine s_aload_n (tb_ok aX8_atom1_1 21 rfl) rfl ?_
              refine s_cV (as := []) (tb_ok aX8_atom1_1 22 rfl) v_RX8_190 (R_next hT u12 (by rw [h41]; decide) (by rw [h41]; decide)) (by omega) rfl rfl rfl rfl rfl (Nat.le_of_ble_eq_true rfl) (by decide) (fun r8 S8 I8 L8 R8 q8 => ?_)
              obtain ⟨rfl, rfl, rfl, u13⟩ := q8
              have a14 := (adv_wf (t := t) u12.2.1).2.2 (by rw [h41]; decide)
              refine s_goto (tgt := 161) (tb_ok aX8_atom1_1 23 rfl) (by decide) ?_
              refine s_iload_n (tb_ok aX8_atom1_3 8 rfl) rfl ?_
              refine s_iret (tb_ok aX8_atom1_3 9 rfl) rfl ?_
              refine ⟨rfl, rfl, _, rfl, ?_⟩
              rw [hsq]
              refine ⟨?_, u13⟩
              exact w9_
          · have hsq : (oneP t n (some q2)) s = .inr s9_.pl := by
              unfold oneP
              rw [if_neg h23, if_pos h4]
              show (if s.tok = 45 then _ else _) = _
              rw [if_neg (by rw [h40]; decide)]
              simp only [e9_]
              rw [if_neg (bI_0.mp c64)]
            refine s_aload_n (tb_ok aX8_atom1_1 10 rfl) rfl ?_
            refine s_cV (as := []) (tb_ok aX8_atom1_1 11 rfl) v_RX8_187 (R_fail u9) (by omega) rfl rfl rfl rfl rfl (Nat.le_of_ble_eq_true rfl) (by decide) (fun r9 S9 I9 L9 R9 q9 => ?_)
            obtain ⟨rfl, rfl, rfl, u15⟩ := q9
            refine s_aload_n (tb_ok aX8_atom1_1 12 rfl) rfl ?_
            refine s_dup (tb_ok aX8_atom1_1 13 rfl) rfl ?_
            refine s_getI (tb_ok aX8_atom1_1 14 rfl) f_RX8_184 rfl rfl rfl ?_
            refine s_iconst (v := 1) (tb_ok aX8_atom1_1 15 rfl) (by decide) ?_
            refine s_isub (tb_ok aX8_atom1_1 16 rfl) ?_
            refine s_putI (tb_ok aX8_atom1_1 17 rfl) f_RX8_184 rfl rfl ?_
            refine s_aload_n (tb_ok aX8_atom1_1 18 rfl) rfl ?_
            refine s_getI (x := (1)) (tb_ok aX8_atom1_1 19 rfl) f_RX8_173 rfl rfl (u15.put26 _).2.1 ?_
            refine s_if_ne (tgt := 161) (tb_ok aX8_atom1_1 20 rfl) (by decide) (fun c85 => ?_) (fun c85 => ?_)
            · refine s_iload_n (tb_ok aX8_atom1_3 8 rfl) rfl ?_
              refine s_iret (tb_ok aX8_atom1_3 9 rfl) rfl ?_
              refine ⟨rfl, rfl, _, rfl, ?_⟩
              rw [hsq]
              exact (u15.put26 _)
            · exact absurd c85 (by decide)
  · have h45 : s.tok = 45 := bI_n c8
    have h4 : s.tok = 45 ∨ s.tok = 40 := Or.inl h45
    have h23 : ¬ (s.tok = 2 ∨ s.tok = 3) := by rw [h45]; decide
    refine s_aload_n (tb_ok aX8_atom1_0 6 rfl) rfl ?_
    refine s_cV (as := []) (tb_ok aX8_atom1_0 7 rfl) v_RX8_218 (R_opens hT h (by rw [h45]; decide) (by rw [h45]; decide) (by decide)) (by omega) rfl rfl rfl rfl rfl (Nat.le_of_ble_eq_true rfl) (by decide) (fun r10 S10 I10 L10 R10 q10 => ?_)
    obtain ⟨rfl, rfl, rfl, u17⟩ := q10
    have a18 := (adv_wf (t := t) h.2.1).2.2 (by rw [h45]; decide)
    refine s_if_eq (tgt := 161) (tb_ok aX8_atom1_0 8 rfl) (by decide) (fun c15 => ?_) (fun c15 => ?_)
    · exact absurd c15 (by decide)
    · refine s_aload_n (tb_ok aX8_atom1_0 9 rfl) rfl ?_
      refine s_cV (as := []) (tb_ok aX8_atom1_0 10 rfl) v_RX8_284 (hi _ _ _ u17) (by omega) rfl rfl rfl rfl rfl (Nat.le_of_ble_eq_true rfl) (by decide) (fun r11 S11 I11 L11 R11 q11 => ?_)
      obtain ⟨rfl, rfl, v19_, rfl, u19⟩ := q11
      cases e19_ : q2.2.2 (adv t n s) with
      | inr g19_ =>
        rw [e19_] at u19
        have u19 : RBad I0 g19_ _ := u19
        have hsq : (oneP t n (some q2)) s = .inr g19_ := by
          unfold oneP
          rw [if_neg h23, if_pos h4]
          show (if s.tok = 45 then _ else _) = _
          rw [if_pos h45]
          simp only [e19_]
        refine s_ineg (tb_ok aX8_atom1_0 11 rfl) ?_
        refine s_name (fun x2 ex2 => ?_)
        refine s_istore_n (ls' := [some (.ref 66), some (.int x2)]) (tb_ok aX8_atom1_0 12 rfl) rfl rfl ?_
        refine s_aload_n (tb_ok aX8_atom1_0 13 rfl) rfl ?_
        refine s_dup (tb_ok aX8_atom1_0 14 rfl) rfl ?_
        refine s_getI (tb_ok aX8_atom1_0 15 rfl) f_RX8_184 rfl rfl rfl ?_
        refine s_iconst (v := 1) (tb_ok aX8_atom1_0 16 rfl) (by decide) ?_
        refine s_isub (tb_ok aX8_atom1_0 17 rfl) ?_
        refine s_putI (tb_ok aX8_atom1_0 18 rfl) f_RX8_184 rfl rfl ?_
        refine s_goto (tgt := 161) (tb_ok aX8_atom1_0 19 rfl) (by decide) ?_
        refine s_iload_n (tb_ok aX8_atom1_3 8 rfl) rfl ?_
        refine s_iret (tb_ok aX8_atom1_3 9 rfl) rfl ?_
        refine ⟨rfl, rfl, _, rfl, ?_⟩
        rw [hsq]
        exact (u19.put26 _)
      | inl qq =>
        obtain ⟨c19_, f19_, s19_⟩ := qq
        rw [e19_] at u19
        obtain ⟨w19_, u19⟩ := u19
        have w19_ : v19_ = f19_ nm := w19_
        have u19 : ROk t n 2 I0 s19_ _ _ := u19
        have hsq : (oneP t n (some q2)) s = .inl (c19_ ++ [20000], (fun nm => of1 20000 (f19_ nm)), s19_) := by
          unfold oneP
          rw [if_neg h23, if_pos h4]
          show (if s.tok = 45 then _ else _) = _
          rw [if_pos h45]
          simp only [e19_]
        refine s_ineg (tb_ok aX8_atom1_0 11 rfl) ?_
        refine s_name (fun x3 ex3 => ?_)
        refine s_istore_n (ls' := [some (.ref 66), some (.int x3)]) (tb_ok aX8_atom1_0 12 rfl) rfl rfl ?_
        refine s_aload_n (tb_ok aX8_atom1_0 13 rfl) rfl ?_
        refine s_dup (tb_ok aX8_atom1_0 14 rfl) rfl ?_
        refine s_getI (x := (nI 2)) (tb_ok aX8_atom1_0 15 rfl) f_RX8_184 rfl rfl u19.2.2.2.1 ?_
        refine s_iconst (v := 1) (tb_ok aX8_atom1_0 16 rfl) (by decide) ?_
        refine s_isub (tb_ok aX8_atom1_0 17 rfl) ?_
        refine s_topi (z := (nI 1)) (by decide) ?_
        refine s_putI (tb_ok aX8_atom1_0 18 rfl) f_RX8_184 rfl rfl ?_
        have u21 := u19.put26 1
        refine s_goto (tgt := 161) (tb_ok aX8_atom1_0 19 rfl) (by decide) ?_
        refine s_iload_n (tb_ok aX8_atom1_3 8 rfl) rfl ?_
        refine s_iret (tb_ok aX8_atom1_3 9 rfl) rfl ?_
        refine ⟨rfl, rfl, _, rfl, ?_⟩
        rw [hsq]
        refine ⟨?_, u21⟩
        first | exact ex3.trans hnv | exact ex3.trans (congrArg Neg.neg w19_)

set_option maxRecDepth 100000 in
set_option maxHeartbeats 1000000 in
theorem L_term1 {X : En} {q : Nat × Nat} {I0 : FI} {F n : Nat} {t nm : Nat → Int32} (hT : TxX I0 F n t nm) {d f : Nat} (hd : 2 < d) {Q : Pst} {I : FI} {L : FL} (x : Int32) (h : RBad I0 f I) (hQ : ∀ v, Q (some (.int v)) S0 I L (R0 q)) : SW X (d + 1) mX8_term1 (0, 0) 5 [some (.ref 66), some (.int x)] [] S0 I L (R0 q) (KQ X Q) := by
  refine s_aload_n (tb_ok aX8_term1_0 3 rfl) rfl ?_
  refine s_bipush (v := 42) (tb_ok aX8_term1_0 4 rfl) (by decide) ?_
  refine s_cVp (as := [.int (42)]) (tb_ok aX8_term1_0 5 rfl) v_RX8_215 (R_isSignE (I0 := I0) h.2.1) (by omega) rfl rfl rfl rfl rfl (Nat.le_of_ble_eq_true rfl) (by decide) ?_
  refine s_if_eq (tgt := 28) (tb_ok aX8_term1_0 6 rfl) (by decide) (fun c11 => ?_) (fun c11 => ?_)
  · refine s_iload_n (tb_ok aX8_term1_0 15 rfl) rfl ?_
    refine s_iret (tb_ok aX8_term1_0 16 rfl) rfl ?_
    exact hQ _
  · exact absurd c11 (by decide)

set_option maxRecDepth 100000 in
set_option maxHeartbeats 1000000 in
theorem C_term1 {X : En} {q : Nat × Nat} {I0 : FI} {F n : Nat} {t nm : Nat → Int32} (hT : TxX I0 F n t nm) {d dp : Nat} (hd : 2 < d) {P : Pa} (hN : Nice n dp P) (hi : CtX X q t nm n I0 d mX8_atom1 1 P) : CtX X q t nm n I0 (d + 1) mX8_term1 1 (seqP t n opT cdT P) := by
  intro I L s h
  obtain ⟨hF, hn, hn160, hFn, ht, ht0, hnm⟩ := id hT
  have loop : ∀ k, ∀ (I : FI) (L : FL) (c : List Int32) (f : Sem) (s1 : St) (x : Int32), x = f nm → ROk t n 1 I0 s1 I L → 160 < s1.pl + k → loopP t n opT cdT P k c f s1 = (seqP t n opT cdT P) s → SW X (d + 1) mX8_term1 (0, 0) 5 [some (.ref 66), some (.int x)] [] S0 I L (R0 q) (KQ X (AfP q t nm n 1 I0 ((seqP t n opT cdT P) s))) := by
    intro k
    induction k with
    | zero =>
      intro I L c f s1 x hx h1 hk hres
      have := h1.pln
      omega
    | succ k ih =>
      intro I L c f s1 x hx h1 hk hres
      refine s_aload_n (tb_ok aX8_term1_0 3 rfl) rfl ?_
      refine s_bipush (v := 42) (tb_ok aX8_term1_0 4 rfl) (by decide) ?_
      refine s_cVp (as := [.int (42)]) (tb_ok aX8_term1_0 5 rfl) v_RX8_215 (R_isSign (I0 := I0) h1.2.2.1 h1.2.2.2.2.2 (by decide)) (by omega) rfl rfl rfl rfl rfl (Nat.le_of_ble_eq_true rfl) (by decide) ?_
      refine s_if_eq (tgt := 28) (tb_ok aX8_term1_0 6 rfl) (by decide) (fun c11 => ?_) (fun c11 => ?_)
      · refine s_iload_n (tb_ok aX8_term1_0 15 rfl) rfl ?_
        refine s_iret (tb_ok aX8_term1_0 16 rfl) rfl ?_
        refine ⟨rfl, rfl, _, rfl, ?_⟩
        rw [← hres, loopP, if_neg (bI_0.mp c11)]
        exact ⟨hx, h1⟩
      · have hop : opT s1.tok := bI_n c11
        refine s_aload_n (tb_ok aX8_term1_0 7 rfl) rfl ?_
        refine s_cV (as := []) (tb_ok aX8_term1_0 8 rfl) v_RX8_190 (R_next hT h1 (by rw [hop]; decide) (by rw [hop]; decide)) (by omega) rfl rfl rfl rfl rfl (Nat.le_of_ble_eq_true rfl) (by decide) (fun r1 S1 I1 L1 R1 q1 => ?_)
        obtain ⟨rfl, rfl, rfl, u1⟩ := q1
        have a2 := (adv_wf (t := t) h1.2.1).2.2 (by rw [hop]; decide)
        refine s_iload_n (tb_ok aX8_term1_0 9 rfl) rfl ?_
        refine s_aload_n (tb_ok aX8_term1_0 10 rfl) rfl ?_
        refine s_cV (as := []) (tb_ok aX8_term1_0 11 rfl) v_RX8_302 (hi _ _ _ u1) (by omega) rfl rfl rfl rfl rfl (Nat.le_of_ble_eq_true rfl) (by decide) (fun r2 S2 I2 L2 R2 q2 => ?_)
        obtain ⟨rfl, rfl, v3_, rfl, u3⟩ := q2
        cases e3_ : P (adv t n s1) with
        | inr g3_ =>
          rw [e3_] at u3
          have u3 : RBad I0 g3_ _ := u3
          rw [loopP, if_pos hop, e3_] at hres
          refine s_imul (tb_ok aX8_term1_0 12 rfl) ?_
          refine s_name (fun x1 ex1 => ?_)
          refine s_istore_n (ls' := [some (.ref 66), some (.int x1)]) (tb_ok aX8_term1_0 13 rfl) rfl rfl ?_
          refine s_goto (tgt := 5) (tb_ok aX8_term1_0 14 rfl) (by decide) ?_
          refine L_term1 hT hd _ u3 (fun v => ⟨rfl, rfl, _, rfl, ?_⟩)
          rw [← hres]
          exact u3
        | inl qq =>
          obtain ⟨c3_, f3_, s3_⟩ := qq
          rw [e3_] at u3
          obtain ⟨w3_, u3⟩ := u3
          have w3_ : v3_ = f3_ nm := w3_
          have u3 : ROk t n 1 I0 s3_ _ _ := u3
          have b3_ := Nice.two (t := t) hN u1.2.1 e3_
          rw [loopP, if_pos hop, e3_] at hres
          refine s_imul (tb_ok aX8_term1_0 12 rfl) ?_
          refine s_name (fun x2 ex2 => ?_)
          refine s_istore_n (ls' := [some (.ref 66), some (.int x2)]) (tb_ok aX8_term1_0 13 rfl) rfl rfl ?_
          refine s_goto (tgt := 5) (tb_ok aX8_term1_0 14 rfl) (by decide) ?_
          refine ih _ _ _ _ _ x2 ?_ u3 (by omega) hres
          show x2 = of2 30002 (f nm) _
          rw [of2_mul, ex2, hx, w3_]
  refine ev_of (by decide +kernel) rfl ?_
  show SW X _ _ _ 0 [some (.ref 66), none] [] S0 I L (R0 q) _
  refine s_aload_n (tb_ok aX8_term1_0 0 rfl) rfl ?_
  refine s_cV (as := []) (tb_ok aX8_term1_0 1 rfl) v_RX8_302 (hi _ _ _ h) (by omega) rfl rfl rfl rfl rfl (Nat.le_of_ble_eq_true rfl) (by decide) (fun r1 S1 I1 L1 R1 q1 => ?_)
  obtain ⟨rfl, rfl, v4_, rfl, u4⟩ := q1
  cases e4_ : P s with
  | inr g4_ =>
    rw [e4_] at u4
    have u4 : RBad I0 g4_ _ := u4
    have hsq : (seqP t n opT cdT P) s = .inr g4_ := by unfold seqP; rw [e4_]
    refine s_istore_n (ls' := [some (.ref 66), some (.int v4_)]) (tb_ok aX8_term1_0 2 rfl) rfl rfl ?_
    refine L_term1 hT hd _ u4 (fun v => ⟨rfl, rfl, _, rfl, ?_⟩)
    rw [hsq]
    exact u4
  | inl qq =>
    obtain ⟨c4_, f4_, s4_⟩ := qq
    rw [e4_] at u4
    obtain ⟨w4_, u4⟩ := u4
    have w4_ : v4_ = f4_ nm := w4_
    have u4 : ROk t n 1 I0 s4_ _ _ := u4
    have b4_ := Nice.two (t := t) hN h.2.1 e4_
    have hsq : (seqP t n opT cdT P) s = loopP t n opT cdT P 160 c4_ f4_ s4_ := by unfold seqP; rw [e4_]
    refine s_istore_n (ls' := [some (.ref 66), some (.int v4_)]) (tb_ok aX8_term1_0 2 rfl) rfl rfl ?_
    exact loop 160 _ _ _ _ _ _ w4_ u4 (by omega) hsq.symm

set_option maxRecDepth 100000 in
set_option maxHeartbeats 1000000 in
theorem L_added1 {X : En} {q : Nat × Nat} {I0 : FI} {F n : Nat} {t nm : Nat → Int32} (hT : TxX I0 F n t nm) {d f : Nat} (hd : 2 < d) {Q : Pst} {I : FI} {L : FL} (x : Int32) (o2 : Option Value) (o3 : Option Value) (h : RBad I0 f I) (hQ : ∀ v, Q (some (.int v)) S0 I L (R0 q)) : SW X (d + 1) mX8_added1 (0, 0) 5 [some (.ref 66), some (.int x), o2, o3] [] S0 I L (R0 q) (KQ X Q) := by
  refine s_aload_n (tb_ok aX8_added1_0 3 rfl) rfl ?_
  refine s_bipush (v := 43) (tb_ok aX8_added1_0 4 rfl) (by decide) ?_
  refine s_cVp (as := [.int (43)]) (tb_ok aX8_added1_0 5 rfl) v_RX8_215 (R_isSignE (I0 := I0) h.2.1) (by omega) rfl rfl rfl rfl rfl (Nat.le_of_ble_eq_true rfl) (by decide) ?_
  refine s_if_ne (tgt := 23) (tb_ok aX8_added1_0 6 rfl) (by decide) (fun c11 => ?_) (fun c11 => ?_)
  · exact absurd c11 (by decide)
  · refine s_aload_n (tb_ok aX8_added1_0 7 rfl) rfl ?_
    refine s_bipush (v := 45) (tb_ok aX8_added1_0 8 rfl) (by decide) ?_
    refine s_cVp (as := [.int (45)]) (tb_ok aX8_added1_0 9 rfl) v_RX8_215 (R_isSignE (I0 := I0) h.2.1) (by omega) rfl rfl rfl rfl rfl (Nat.le_of_ble_eq_true rfl) (by decide) ?_
    refine s_if_eq (tgt := 66) (tb_ok aX8_added1_0 10 rfl) (by decide) (fun c20 => ?_) (fun c20 => ?_)
    · refine s_iload_n (tb_ok aX8_added1_1 12 rfl) rfl ?_
      refine s_iret (tb_ok aX8_added1_1 13 rfl) rfl ?_
      exact hQ _
    · exact absurd c20 (by decide)

set_option maxRecDepth 100000 in
set_option maxHeartbeats 1000000 in
theorem C_added1 {X : En} {q : Nat × Nat} {I0 : FI} {F n : Nat} {t nm : Nat → Int32} (hT : TxX I0 F n t nm) {d dp : Nat} (hd : 2 < d) {P : Pa} (hN : Nice n dp P) (hi : CtX X q t nm n I0 d mX8_term1 1 P) : CtX X q t nm n I0 (d + 1) mX8_added1 1 (seqP t n opS cdS P) := by
  intro I L s h
  obtain ⟨hF, hn, hn160, hFn, ht, ht0, hnm⟩ := id hT
  have loop : ∀ k, ∀ (o2 : Option Value) (o3 : Option Value) (I : FI) (L : FL) (c : List Int32) (f : Sem) (s1 : St) (x : Int32), x = f nm → ROk t n 1 I0 s1 I L → 160 < s1.pl + k → loopP t n opS cdS P k c f s1 = (seqP t n opS cdS P) s → SW X (d + 1) mX8_added1 (0, 0) 5 [some (.ref 66), some (.int x), o2, o3] [] S0 I L (R0 q) (KQ X (AfP q t nm n 1 I0 ((seqP t n opS cdS P) s))) := by
    intro k
    induction k with
    | zero =>
      intro o2 o3 I L c f s1 x hx h1 hk hres
      have := h1.pln
      omega
    | succ k ih =>
      intro o2 o3 I L c f s1 x hx h1 hk hres
      refine s_aload_n (tb_ok aX8_added1_0 3 rfl) rfl ?_
      refine s_bipush (v := 43) (tb_ok aX8_added1_0 4 rfl) (by decide) ?_
      refine s_cVp (as := [.int (43)]) (tb_ok aX8_added1_0 5 rfl) v_RX8_215 (R_isSign (I0 := I0) h1.2.2.1 h1.2.2.2.2.2 (by decide)) (by omega) rfl rfl rfl rfl rfl (Nat.le_of_ble_eq_true rfl) (by decide) ?_
      refine s_if_ne (tgt := 23) (tb_ok aX8_added1_0 6 rfl) (by decide) (fun c11 => ?_) (fun c11 => ?_)
      · have hop : opS s1.tok := by first | exact Or.inl (bI_n c11) | exact Or.inr (bI_n c20)
        have hwr := h1.wrth (by rcases hop with e_ | e_ <;> rw [e_] <;> decide)
        refine s_aload_n (tb_ok aX8_added1_0 11 rfl) rfl ?_
        refine s_getL (tb_ok aX8_added1_0 12 rfl) f_RX8_167 rfl rfl rfl ?_
        refine s_ldc2 (tb_ok aX8_added1_0 13 rfl) k_RX8_232 ?_
        refine s_lcmp (tb_ok aX8_added1_0 14 rfl) ?_
        refine s_if_ne (tgt := 38) (tb_ok aX8_added1_0 15 rfl) (by decide) (fun c31 => ?_) (fun c31 => ?_)
        · have h43 : ¬ s1.tok = 43 := fun e_ => c31 ((cmp_eq _ _).mpr (hwr.trans (by rw [e_]; rfl)))
          refine s_iconst (v := 0) (tb_ok aX8_added1_0 18 rfl) (by decide) ?_
          refine s_istore_n (ls' := [some (.ref 66), some (.int x), some (.int (0)), o3]) (tb_ok aX8_added1_0 19 rfl) rfl rfl ?_
          refine s_aload_n (tb_ok aX8_added1_0 20 rfl) rfl ?_
          refine s_cV (as := []) (tb_ok aX8_added1_0 21 rfl) v_RX8_190 (R_next hT h1 (by rcases hop with e_ | e_ <;> rw [e_] <;> decide) (by rcases hop with e_ | e_ <;> rw [e_] <;> decide)) (by omega) rfl rfl rfl rfl rfl (Nat.le_of_ble_eq_true rfl) (by decide) (fun r1 S1 I1 L1 R1 q1 => ?_)
          obtain ⟨rfl, rfl, rfl, u1⟩ := q1
          have a2 := (adv_wf (t := t) h1.2.1).2.2 (by rcases hop with e_ | e_ <;> rw [e_] <;> decide)
          refine s_aload_n (tb_ok aX8_added1_0 22 rfl) rfl ?_
          refine s_cV (as := []) (tb_ok aX8_added1_0 23 rfl) v_RX8_305 (hi _ _ _ u1) (by omega) rfl rfl rfl rfl rfl (Nat.le_of_ble_eq_true rfl) (by decide) (fun r2 S2 I2 L2 R2 q2 => ?_)
          obtain ⟨rfl, rfl, v3_, rfl, u3⟩ := q2
          cases e3_ : P (adv t n s1) with
          | inr g3_ =>
            rw [e3_] at u3
            have u3 : RBad I0 g3_ _ := u3
            rw [loopP, if_pos hop, e3_] at hres
            refine s_istore_n (ls' := [some (.ref 66), some (.int x), some (.int (0)), some (.int v3_)]) (tb_ok aX8_added1_1 0 rfl) rfl rfl ?_
            refine s_iload_n (tb_ok aX8_added1_1 1 rfl) rfl ?_
            refine s_if_eq (tgt := 59) (tb_ok aX8_added1_1 2 rfl) (by decide) (fun c50 => ?_) (fun c50 => ?_)
            · refine s_iload_n (tb_ok aX8_added1_1 7 rfl) rfl ?_
              refine s_iload_n (tb_ok aX8_added1_1 8 rfl) rfl ?_
              refine s_isub (tb_ok aX8_added1_1 9 rfl) ?_
              refine s_name (fun x1 ex1 => ?_)
              refine s_istore_n (ls' := [some (.ref 66), some (.int x1), some (.int (0)), some (.int v3_)]) (tb_ok aX8_added1_1 10 rfl) rfl rfl ?_
              refine s_goto (tgt := 5) (tb_ok aX8_added1_1 11 rfl) (by decide) ?_
              refine L_added1 hT hd _ _ _ u3 (fun v => ⟨rfl, rfl, _, rfl, ?_⟩)
              rw [← hres]
              exact u3
            · exact absurd c50 (by decide)
          | inl qq =>
            obtain ⟨c3_, f3_, s3_⟩ := qq
            rw [e3_] at u3
            obtain ⟨w3_, u3⟩ := u3
            have w3_ : v3_ = f3_ nm := w3_
            have u3 : ROk t n 1 I0 s3_ _ _ := u3
            have b3_ := Nice.two (t := t) hN u1.2.1 e3_
            rw [loopP, if_pos hop, e3_] at hres
            refine s_istore_n (ls' := [some (.ref 66), some (.int x), some (.int (0)), some (.int v3_)]) (tb_ok aX8_added1_1 0 rfl) rfl rfl ?_
            refine s_iload_n (tb_ok aX8_added1_1 1 rfl) rfl ?_
            refine s_if_eq (tgt := 59) (tb_ok aX8_added1_1 2 rfl) (by decide) (fun c50 => ?_) (fun c50 => ?_)
            · refine s_iload_n (tb_ok aX8_added1_1 7 rfl) rfl ?_
              refine s_iload_n (tb_ok aX8_added1_1 8 rfl) rfl ?_
              refine s_isub (tb_ok aX8_added1_1 9 rfl) ?_
              refine s_name (fun x2 ex2 => ?_)
              refine s_istore_n (ls' := [some (.ref 66), some (.int x2), some (.int (0)), some (.int v3_)]) (tb_ok aX8_added1_1 10 rfl) rfl rfl ?_
              refine s_goto (tgt := 5) (tb_ok aX8_added1_1 11 rfl) (by decide) ?_
              refine ih _ _ _ _ _ _ _ x2 ?_ u3 (by omega) hres
              show x2 = of2 (cdS s1.tok) (f nm) _
              first | (rw [show cdS s1.tok = 30000 from if_pos h43, of2_add, ex2, hx, w3_]; done) | (rw [show cdS s1.tok = 30001 from if_neg h43, of2_sub, ex2, hx, w3_]; done)
            · exact absurd c50 (by decide)
        · have h43 : s1.tok = 43 := i64_inj.mp (hwr.symm.trans ((cmp_eq _ _).mp c31))
          refine s_iconst (v := 1) (tb_ok aX8_added1_0 16 rfl) (by decide) ?_
          refine s_goto (tgt := 39) (tb_ok aX8_added1_0 17 rfl) (by decide) ?_
          refine s_istore_n (ls' := [some (.ref 66), some (.int x), some (.int (1)), o3]) (tb_ok aX8_added1_0 19 rfl) rfl rfl ?_
          refine s_aload_n (tb_ok aX8_added1_0 20 rfl) rfl ?_
          refine s_cV (as := []) (tb_ok aX8_added1_0 21 rfl) v_RX8_190 (R_next hT h1 (by rcases hop with e_ | e_ <;> rw [e_] <;> decide) (by rcases hop with e_ | e_ <;> rw [e_] <;> decide)) (by omega) rfl rfl rfl rfl rfl (Nat.le_of_ble_eq_true rfl) (by decide) (fun r3 S3 I3 L3 R3 q3 => ?_)
          obtain ⟨rfl, rfl, rfl, u4⟩ := q3
          have a5 := (adv_wf (t := t) h1.2.1).2.2 (by rcases hop with e_ | e_ <;> rw [e_] <;> decide)
          refine s_aload_n (tb_ok aX8_added1_0 22 rfl) rfl ?_
          refine s_cV (as := []) (tb_ok aX8_added1_0 23 rfl) v_RX8_305 (hi _ _ _ u4) (by omega) rfl rfl rfl rfl rfl (Nat.le_of_ble_eq_true rfl) (by decide) (fun r4 S4 I4 L4 R4 q4 => ?_)
          obtain ⟨rfl, rfl, v6_, rfl, u6⟩ := q4
          cases e6_ : P (adv t n s1) with
          | inr g6_ =>
            rw [e6_] at u6
            have u6 : RBad I0 g6_ _ := u6
            rw [loopP, if_pos hop, e6_] at hres
            refine s_istore_n (ls' := [some (.ref 66), some (.int x), some (.int (1)), some (.int v6_)]) (tb_ok aX8_added1_1 0 rfl) rfl rfl ?_
            refine s_iload_n (tb_ok aX8_added1_1 1 rfl) rfl ?_
            refine s_if_eq (tgt := 59) (tb_ok aX8_added1_1 2 rfl) (by decide) (fun c50 => ?_) (fun c50 => ?_)
            · exact absurd c50 (by decide)
            · refine s_iload_n (tb_ok aX8_added1_1 3 rfl) rfl ?_
              refine s_iload_n (tb_ok aX8_added1_1 4 rfl) rfl ?_
              refine s_iadd (tb_ok aX8_added1_1 5 rfl) ?_
              refine s_goto (tgt := 62) (tb_ok aX8_added1_1 6 rfl) (by decide) ?_
              refine s_name (fun x3 ex3 => ?_)
              refine s_istore_n (ls' := [some (.ref 66), some (.int x3), some (.int (1)), some (.int v6_)]) (tb_ok aX8_added1_1 10 rfl) rfl rfl ?_
              refine s_goto (tgt := 5) (tb_ok aX8_added1_1 11 rfl) (by decide) ?_
              refine L_added1 hT hd _ _ _ u6 (fun v => ⟨rfl, rfl, _, rfl, ?_⟩)
              rw [← hres]
              exact u6
          | inl qq =>
            obtain ⟨c6_, f6_, s6_⟩ := qq
            rw [e6_] at u6
            obtain ⟨w6_, u6⟩ := u6
            have w6_ : v6_ = f6_ nm := w6_
            have u6 : ROk t n 1 I0 s6_ _ _ := u6
            have b6_ := Nice.two (t := t) hN u4.2.1 e6_
            rw [loopP, if_pos hop, e6_] at hres
            refine s_istore_n (ls' := [some (.ref 66), some (.int x), some (.int (1)), some (.int v6_)]) (tb_ok aX8_added1_1 0 rfl) rfl rfl ?_
            refine s_iload_n (tb_ok aX8_added1_1 1 rfl) rfl ?_
            refine s_if_eq (tgt := 59) (tb_ok aX8_added1_1 2 rfl) (by decide) (fun c50 => ?_) (fun c50 => ?_)
            · exact absurd c50 (by decide)
            · refine s_iload_n (tb_ok aX8_added1_1 3 rfl) rfl ?_
              refine s_iload_n (tb_ok aX8_added1_1 4 rfl) rfl ?_
              refine s_iadd (tb_ok aX8_added1_1 5 rfl) ?_
              refine s_goto (tgt := 62) (tb_ok aX8_added1_1 6 rfl) (by decide) ?_
              refine s_name (fun x4 ex4 => ?_)
              refine s_istore_n (ls' := [some (.ref 66), some (.int x4), some (.int (1)), some (.int v6_)]) (tb_ok aX8_added1_1 10 rfl) rfl rfl ?_
              refine s_goto (tgt := 5) (tb_ok aX8_added1_1 11 rfl) (by decide) ?_
              refine ih _ _ _ _ _ _ _ x4 ?_ u6 (by omega) hres
              show x4 = of2 (cdS s1.tok) (f nm) _
              first | (rw [show cdS s1.tok = 30000 from if_pos h43, of2_add, ex4, hx, w6_]; done) | (rw [show cdS s1.tok = 30001 from if_neg h43, of2_sub, ex4, hx, w6_]; done)
      · refine s_aload_n (tb_ok aX8_added1_0 7 rfl) rfl ?_
        refine s_bipush (v := 45) (tb_ok aX8_added1_0 8 rfl) (by decide) ?_
        refine s_cVp (as := [.int (45)]) (tb_ok aX8_added1_0 9 rfl) v_RX8_215 (R_isSign (I0 := I0) h1.2.2.1 h1.2.2.2.2.2 (by decide)) (by omega) rfl rfl rfl rfl rfl (Nat.le_of_ble_eq_true rfl) (by decide) ?_
        refine s_if_eq (tgt := 66) (tb_ok aX8_added1_0 10 rfl) (by decide) (fun c20 => ?_) (fun c20 => ?_)
        · refine s_iload_n (tb_ok aX8_added1_1 12 rfl) rfl ?_
          refine s_iret (tb_ok aX8_added1_1 13 rfl) rfl ?_
          refine ⟨rfl, rfl, _, rfl, ?_⟩
          rw [← hres, loopP, if_neg (fun h_ => h_.elim (bI_0.mp c11) (bI_0.mp c20))]
          exact ⟨hx, h1⟩
        · have hop : opS s1.tok := by first | exact Or.inl (bI_n c11) | exact Or.inr (bI_n c20)
          have hwr := h1.wrth (by rcases hop with e_ | e_ <;> rw [e_] <;> decide)
          refine s_aload_n (tb_ok aX8_added1_0 11 rfl) rfl ?_
          refine s_getL (tb_ok aX8_added1_0 12 rfl) f_RX8_167 rfl rfl rfl ?_
          refine s_ldc2 (tb_ok aX8_added1_0 13 rfl) k_RX8_232 ?_
          refine s_lcmp (tb_ok aX8_added1_0 14 rfl) ?_
          refine s_if_ne (tgt := 38) (tb_ok aX8_added1_0 15 rfl) (by decide) (fun c31 => ?_) (fun c31 => ?_)
          · have h43 : ¬ s1.tok = 43 := fun e_ => c31 ((cmp_eq _ _).mpr (hwr.trans (by rw [e_]; rfl)))
            refine s_iconst (v := 0) (tb_ok aX8_added1_0 18 rfl) (by decide) ?_
            refine s_istore_n (ls' := [some (.ref 66), some (.int x), some (.int (0)), o3]) (tb_ok aX8_added1_0 19 rfl) rfl rfl ?_
            refine s_aload_n (tb_ok aX8_added1_0 20 rfl) rfl ?_
            refine s_cV (as := []) (tb_ok aX8_added1_0 21 rfl) v_RX8_190 (R_next hT h1 (by rcases hop with e_ | e_ <;> rw [e_] <;> decide) (by rcases hop with e_ | e_ <;> rw [e_] <;> decide)) (by omega) rfl rfl rfl rfl rfl (Nat.le_of_ble_eq_true rfl) (by decide) (fun r5 S5 I5 L5 R5 q5 => ?_)
            obtain ⟨rfl, rfl, rfl, u7⟩ := q5
            have a8 := (adv_wf (t := t) h1.2.1).2.2 (by rcases hop with e_ | e_ <;> rw [e_] <;> decide)
            refine s_aload_n (tb_ok aX8_added1_0 22 rfl) rfl ?_
            refine s_cV (as := []) (tb_ok aX8_added1_0 23 rfl) v_RX8_305 (hi _ _ _ u7) (by omega) rfl rfl rfl rfl rfl (Nat.le_of_ble_eq_true rfl) (by decide) (fun r6 S6 I6 L6 R6 q6 => ?_)
            obtain ⟨rfl, rfl, v9_, rfl, u9⟩ := q6
            cases e9_ : P (adv t n s1) with
            | inr g9_ =>
              rw [e9_] at u9
              have u9 : RBad I0 g9_ _ := u9
              rw [loopP, if_pos hop, e9_] at hres
              refine s_istore_n (ls' := [some (.ref 66), some (.int x), some (.int (0)), some (.int v9_)]) (tb_ok aX8_added1_1 0 rfl) rfl rfl ?_
              refine s_iload_n (tb_ok aX8_added1_1 1 rfl) rfl ?_
              refine s_if_eq (tgt := 59) (tb_ok aX8_added1_1 2 rfl) (by decide) (fun c50 => ?_) (fun c50 => ?_)
              · refine s_iload_n (tb_ok aX8_added1_1 7 rfl) rfl ?_
                refine s_iload_n (tb_ok aX8_added1_1 8 rfl) rfl ?_
                refine s_isub (tb_ok aX8_added1_1 9 rfl) ?_
                refine s_name (fun x5 ex5 => ?_)
                refine s_istore_n (ls' := [some (.ref 66), some (.int x5), some (.int (0)), some (.int v9_)]) (tb_ok aX8_added1_1 10 rfl) rfl rfl ?_
                refine s_goto (tgt := 5) (tb_ok aX8_added1_1 11 rfl) (by decide) ?_
                refine L_added1 hT hd _ _ _ u9 (fun v => ⟨rfl, rfl, _, rfl, ?_⟩)
                rw [← hres]
                exact u9
              · exact absurd c50 (by decide)
            | inl qq =>
              obtain ⟨c9_, f9_, s9_⟩ := qq
              rw [e9_] at u9
              obtain ⟨w9_, u9⟩ := u9
              have w9_ : v9_ = f9_ nm := w9_
              have u9 : ROk t n 1 I0 s9_ _ _ := u9
              have b9_ := Nice.two (t := t) hN u7.2.1 e9_
              rw [loopP, if_pos hop, e9_] at hres
              refine s_istore_n (ls' := [some (.ref 66), some (.int x), some (.int (0)), some (.int v9_)]) (tb_ok aX8_added1_1 0 rfl) rfl rfl ?_
              refine s_iload_n (tb_ok aX8_added1_1 1 rfl) rfl ?_
              refine s_if_eq (tgt := 59) (tb_ok aX8_added1_1 2 rfl) (by decide) (fun c50 => ?_) (fun c50 => ?_)
              · refine s_iload_n (tb_ok aX8_added1_1 7 rfl) rfl ?_
                refine s_iload_n (tb_ok aX8_added1_1 8 rfl) rfl ?_
                refine s_isub (tb_ok aX8_added1_1 9 rfl) ?_
                refine s_name (fun x6 ex6 => ?_)
                refine s_istore_n (ls' := [some (.ref 66), some (.int x6), some (.int (0)), some (.int v9_)]) (tb_ok aX8_added1_1 10 rfl) rfl rfl ?_
                refine s_goto (tgt := 5) (tb_ok aX8_added1_1 11 rfl) (by decide) ?_
                refine ih _ _ _ _ _ _ _ x6 ?_ u9 (by omega) hres
                show x6 = of2 (cdS s1.tok) (f nm) _
                first | (rw [show cdS s1.tok = 30000 from if_pos h43, of2_add, ex6, hx, w9_]; done) | (rw [show cdS s1.tok = 30001 from if_neg h43, of2_sub, ex6, hx, w9_]; done)
              · exact absurd c50 (by decide)
          · have h43 : s1.tok = 43 := i64_inj.mp (hwr.symm.trans ((cmp_eq _ _).mp c31))
            refine s_iconst (v := 1) (tb_ok aX8_added1_0 16 rfl) (by decide) ?_
            refine s_goto (tgt := 39) (tb_ok aX8_added1_0 17 rfl) (by decide) ?_
            refine s_istore_n (ls' := [some (.ref 66), some (.int x), some (.int (1)), o3]) (tb_ok aX8_added1_0 19 rfl) rfl rfl ?_
            refine s_aload_n (tb_ok aX8_added1_0 20 rfl) rfl ?_
            refine s_cV (as := []) (tb_ok aX8_added1_0 21 rfl) v_RX8_190 (R_next hT h1 (by rcases hop with e_ | e_ <;> rw [e_] <;> decide) (by rcases hop with e_ | e_ <;> rw [e_] <;> decide)) (by omega) rfl rfl rfl rfl rfl (Nat.le_of_ble_eq_true rfl) (by decide) (fun r7 S7 I7 L7 R7 q7 => ?_)
            obtain ⟨rfl, rfl, rfl, u10⟩ := q7
            have a11 := (adv_wf (t := t) h1.2.1).2.2 (by rcases hop with e_ | e_ <;> rw [e_] <;> decide)
            refine s_aload_n (tb_ok aX8_added1_0 22 rfl) rfl ?_
            refine s_cV (as := []) (tb_ok aX8_added1_0 23 rfl) v_RX8_305 (hi _ _ _ u10) (by omega) rfl rfl rfl rfl rfl (Nat.le_of_ble_eq_true rfl) (by decide) (fun r8 S8 I8 L8 R8 q8 => ?_)
            obtain ⟨rfl, rfl, v12_, rfl, u12⟩ := q8
            cases e12_ : P (adv t n s1) with
            | inr g12_ =>
              rw [e12_] at u12
              have u12 : RBad I0 g12_ _ := u12
              rw [loopP, if_pos hop, e12_] at hres
              refine s_istore_n (ls' := [some (.ref 66), some (.int x), some (.int (1)), some (.int v12_)]) (tb_ok aX8_added1_1 0 rfl) rfl rfl ?_
              refine s_iload_n (tb_ok aX8_added1_1 1 rfl) rfl ?_
              refine s_if_eq (tgt := 59) (tb_ok aX8_added1_1 2 rfl) (by decide) (fun c50 => ?_) (fun c50 => ?_)
              · exact absurd c50 (by decide)
              · refine s_iload_n (tb_ok aX8_added1_1 3 rfl) rfl ?_
                refine s_iload_n (tb_ok aX8_added1_1 4 rfl) rfl ?_
                refine s_iadd (tb_ok aX8_added1_1 5 rfl) ?_
                refine s_goto (tgt := 62) (tb_ok aX8_added1_1 6 rfl) (by decide) ?_
                refine s_name (fun x7 ex7 => ?_)
                refine s_istore_n (ls' := [some (.ref 66), some (.int x7), some (.int (1)), some (.int v12_)]) (tb_ok aX8_added1_1 10 rfl) rfl rfl ?_
                refine s_goto (tgt := 5) (tb_ok aX8_added1_1 11 rfl) (by decide) ?_
                refine L_added1 hT hd _ _ _ u12 (fun v => ⟨rfl, rfl, _, rfl, ?_⟩)
                rw [← hres]
                exact u12
            | inl qq =>
              obtain ⟨c12_, f12_, s12_⟩ := qq
              rw [e12_] at u12
              obtain ⟨w12_, u12⟩ := u12
              have w12_ : v12_ = f12_ nm := w12_
              have u12 : ROk t n 1 I0 s12_ _ _ := u12
              have b12_ := Nice.two (t := t) hN u10.2.1 e12_
              rw [loopP, if_pos hop, e12_] at hres
              refine s_istore_n (ls' := [some (.ref 66), some (.int x), some (.int (1)), some (.int v12_)]) (tb_ok aX8_added1_1 0 rfl) rfl rfl ?_
              refine s_iload_n (tb_ok aX8_added1_1 1 rfl) rfl ?_
              refine s_if_eq (tgt := 59) (tb_ok aX8_added1_1 2 rfl) (by decide) (fun c50 => ?_) (fun c50 => ?_)
              · exact absurd c50 (by decide)
              · refine s_iload_n (tb_ok aX8_added1_1 3 rfl) rfl ?_
                refine s_iload_n (tb_ok aX8_added1_1 4 rfl) rfl ?_
                refine s_iadd (tb_ok aX8_added1_1 5 rfl) ?_
                refine s_goto (tgt := 62) (tb_ok aX8_added1_1 6 rfl) (by decide) ?_
                refine s_name (fun x8 ex8 => ?_)
                refine s_istore_n (ls' := [some (.ref 66), some (.int x8), some (.int (1)), some (.int v12_)]) (tb_ok aX8_added1_1 10 rfl) rfl rfl ?_
                refine s_goto (tgt := 5) (tb_ok aX8_added1_1 11 rfl) (by decide) ?_
                refine ih _ _ _ _ _ _ _ x8 ?_ u12 (by omega) hres
                show x8 = of2 (cdS s1.tok) (f nm) _
                first | (rw [show cdS s1.tok = 30000 from if_pos h43, of2_add, ex8, hx, w12_]; done) | (rw [show cdS s1.tok = 30001 from if_neg h43, of2_sub, ex8, hx, w12_]; done)
  refine ev_of (by decide +kernel) rfl ?_
  show SW X _ _ _ 0 [some (.ref 66), none, none, none] [] S0 I L (R0 q) _
  refine s_aload_n (tb_ok aX8_added1_0 0 rfl) rfl ?_
  refine s_cV (as := []) (tb_ok aX8_added1_0 1 rfl) v_RX8_305 (hi _ _ _ h) (by omega) rfl rfl rfl rfl rfl (Nat.le_of_ble_eq_true rfl) (by decide) (fun r1 S1 I1 L1 R1 q1 => ?_)
  obtain ⟨rfl, rfl, v13_, rfl, u13⟩ := q1
  cases e13_ : P s with
  | inr g13_ =>
    rw [e13_] at u13
    have u13 : RBad I0 g13_ _ := u13
    have hsq : (seqP t n opS cdS P) s = .inr g13_ := by unfold seqP; rw [e13_]
    refine s_istore_n (ls' := [some (.ref 66), some (.int v13_), none, none]) (tb_ok aX8_added1_0 2 rfl) rfl rfl ?_
    refine L_added1 hT hd _ _ _ u13 (fun v => ⟨rfl, rfl, _, rfl, ?_⟩)
    rw [hsq]
    exact u13
  | inl qq =>
    obtain ⟨c13_, f13_, s13_⟩ := qq
    rw [e13_] at u13
    obtain ⟨w13_, u13⟩ := u13
    have w13_ : v13_ = f13_ nm := w13_
    have u13 : ROk t n 1 I0 s13_ _ _ := u13
    have b13_ := Nice.two (t := t) hN h.2.1 e13_
    have hsq : (seqP t n opS cdS P) s = loopP t n opS cdS P 160 c13_ f13_ s13_ := by unfold seqP; rw [e13_]
    refine s_istore_n (ls' := [some (.ref 66), some (.int v13_), none, none]) (tb_ok aX8_added1_0 2 rfl) rfl rfl ?_
    exact loop 160 _ _ _ _ _ _ _ _ w13_ u13 (by omega) hsq.symm

set_option maxRecDepth 100000 in
set_option maxHeartbeats 1000000 in
theorem C_not1 {X : En} {q : Nat × Nat} {I0 : FI} {F n : Nat} {t nm : Nat → Int32} (hT : TxX I0 F n t nm) {d : Nat} (hd : 3 < d) {d1 d2 : Nat} (hd1 : d1 < d) (hd2 : d2 < d) {P : Pa} (hc : CtX X q t nm n I0 d1 mX8_added1 1 P) {q2 : Pa × Pa × Pa} (hi : CtX X q t nm n I0 d2 mX8_not2 2 q2.2.1) : CtX X q t nm n I0 d mX8_not1 1 (notP t n (some q2) (cmpP t n P)) := by
  intro I L s h
  obtain ⟨hF, hn, hn160, hFn, ht, ht0, hnm⟩ := id hT
  refine ev_of (by decide +kernel) rfl ?_
  show SW X _ _ _ 0 [some (.ref 66), none, none, none] [] S0 I L (R0 q) _
  refine s_aload_n (tb_ok aX8_not1_0 0 rfl) rfl ?_
  refine s_bipush (v := 110) (tb_ok aX8_not1_0 1 rfl) (by decide) ?_
  refine s_bipush (v := 111) (tb_ok aX8_not1_0 2 rfl) (by decide) ?_
  refine s_bipush (v := 116) (tb_ok aX8_not1_0 3 rfl) (by decide) ?_
  refine s_iconst (v := 0) (tb_ok aX8_not1_0 4 rfl) (by decide) ?_
  refine s_iconst (v := 0) (tb_ok aX8_not1_0 5 rfl) (by decide) ?_
  refine s_iconst (v := 0) (tb_ok aX8_not1_0 6 rfl) (by decide) ?_
  refine s_iconst (v := 0) (tb_ok aX8_not1_0 7 rfl) (by decide) ?_
  refine s_iconst (v := 0) (tb_ok aX8_not1_0 8 rfl) (by decide) ?_
  refine s_cVp (as := [.int (110), .int (111), .int (116), .int (0), .int (0), .int (0), .int (0), .int (0)]) (tb_ok aX8_not1_0 9 rfl) v_RX8_193 (R_isWord hT h 11 (by decide)) (by omega) rfl rfl rfl rfl rfl (Nat.le_of_ble_eq_true rfl) (by decide) ?_
  refine s_topi (bI_congr (isK_key (k := 11) (j := 9) (by decide) rfl)) ?_
  refine s_if_eq (tgt := 52) (tb_ok aX8_not1_0 10 rfl) (by decide) (fun c15 => ?_) (fun c15 => ?_)
  · have n9 : ¬ s.tok = 9 := bI_0.mp c15
    refine s_aload_n (tb_ok aX8_not1_1 7 rfl) rfl ?_
    refine s_cV (as := []) (tb_ok aX8_not1_1 8 rfl) v_RX8_308 (hc _ _ _ h) (by omega) rfl rfl rfl rfl rfl (Nat.le_of_ble_eq_true rfl) (by decide) (fun r1 S1 I1 L1 R1 q1 => ?_)
    obtain ⟨rfl, rfl, v1_, rfl, u1⟩ := q1
    cases e1_ : P s with
    | inr g1_ =>
      rw [e1_] at u1
      have u1 : RBad I0 g1_ _ := u1
      have hsq : (notP t n (some q2) (cmpP t n P)) s = .inr g1_ := by
        unfold notP
        rw [if_neg n9]
        unfold cmpP
        rw [e1_]
      refine s_istore_n (ls' := [some (.ref 66), some (.int v1_), none, none]) (tb_ok aX8_not1_1 9 rfl) rfl rfl ?_
      refine s_aload_n (tb_ok aX8_not1_1 10 rfl) rfl ?_
      refine s_bipush (v := 60) (tb_ok aX8_not1_1 11 rfl) (by decide) ?_
      refine s_cVp (as := [.int (60)]) (tb_ok aX8_not1_1 12 rfl) v_RX8_215 (R_isSignE (I0 := I0) u1.2.1) (by omega) rfl rfl rfl rfl rfl (Nat.le_of_ble_eq_true rfl) (by decide) ?_
      refine s_if_ne (tgt := 77) (tb_ok aX8_not1_1 13 rfl) (by decide) (fun c63 => ?_) (fun c63 => ?_)
      · exact absurd c63 (by decide)
      · refine s_aload_n (tb_ok aX8_not1_1 14 rfl) rfl ?_
        refine s_bipush (v := 61) (tb_ok aX8_not1_1 15 rfl) (by decide) ?_
        refine s_cVp (as := [.int (61)]) (tb_ok aX8_not1_1 16 rfl) v_RX8_215 (R_isSignE (I0 := I0) u1.2.1) (by omega) rfl rfl rfl rfl rfl (Nat.le_of_ble_eq_true rfl) (by decide) ?_
        refine s_if_ne (tgt := 77) (tb_ok aX8_not1_1 17 rfl) (by decide) (fun c72 => ?_) (fun c72 => ?_)
        · exact absurd c72 (by decide)
        · refine s_iload_n (tb_ok aX8_not1_1 18 rfl) rfl ?_
          refine s_iret (tb_ok aX8_not1_1 19 rfl) rfl ?_
          refine ⟨rfl, rfl, _, rfl, ?_⟩
          rw [hsq]
          exact u1
    | inl qq =>
      obtain ⟨c1_, f1_, s1_⟩ := qq
      rw [e1_] at u1
      obtain ⟨w1_, u1⟩ := u1
      have w1_ : v1_ = f1_ nm := w1_
      have u1 : ROk t n 1 I0 s1_ _ _ := u1
      refine s_istore_n (ls' := [some (.ref 66), some (.int v1_), none, none]) (tb_ok aX8_not1_1 9 rfl) rfl rfl ?_
      refine s_aload_n (tb_ok aX8_not1_1 10 rfl) rfl ?_
      refine s_bipush (v := 60) (tb_ok aX8_not1_1 11 rfl) (by decide) ?_
      refine s_cVp (as := [.int (60)]) (tb_ok aX8_not1_1 12 rfl) v_RX8_215 (R_isSign (I0 := I0) u1.2.2.1 u1.2.2.2.2.2 (by decide)) (by omega) rfl rfl rfl rfl rfl (Nat.le_of_ble_eq_true rfl) (by decide) ?_
      refine s_if_ne (tgt := 77) (tb_ok aX8_not1_1 13 rfl) (by decide) (fun c63 => ?_) (fun c63 => ?_)
      · have hop : s1_.tok = 60 ∨ s1_.tok = 61 := by first | exact Or.inl (bI_n c63) | exact Or.inr (bI_n c72)
        have hwr := u1.wrth (by rcases hop with e_ | e_ <;> rw [e_] <;> decide)
        refine s_aload_n (tb_ok aX8_not1_1 20 rfl) rfl ?_
        refine s_getL (tb_ok aX8_not1_1 21 rfl) f_RX8_167 rfl rfl rfl ?_
        refine s_ldc2 (tb_ok aX8_not1_1 22 rfl) k_RX8_237 ?_
        refine s_lcmp (tb_ok aX8_not1_1 23 rfl) ?_
        refine s_if_ne (tgt := 92) (tb_ok aX8_not1_2 0 rfl) (by decide) (fun c85 => ?_) (fun c85 => ?_)
        · have h60 : ¬ s1_.tok = 60 := fun e_ => c85 ((cmp_eq _ _).mpr (hwr.trans (by rw [e_]; rfl)))
          refine s_iconst (v := 0) (tb_ok aX8_not1_2 3 rfl) (by decide) ?_
          refine s_istore_n (ls' := [some (.ref 66), some (.int v1_), some (.int (0)), none]) (tb_ok aX8_not1_2 4 rfl) rfl rfl ?_
          refine s_aload_n (tb_ok aX8_not1_2 5 rfl) rfl ?_
          refine s_cV (as := []) (tb_ok aX8_not1_2 6 rfl) v_RX8_190 (R_next hT u1 (by rcases hop with e_ | e_ <;> rw [e_] <;> decide) (by rcases hop with e_ | e_ <;> rw [e_] <;> decide)) (by omega) rfl rfl rfl rfl rfl (Nat.le_of_ble_eq_true rfl) (by decide) (fun r2 S2 I2 L2 R2 q2 => ?_)
          obtain ⟨rfl, rfl, rfl, u2⟩ := q2
          have a3 := (adv_wf (t := t) u1.2.1).2.2 (by rcases hop with e_ | e_ <;> rw [e_] <;> decide)
          refine s_aload_n (tb_ok aX8_not1_2 7 rfl) rfl ?_
          refine s_cV (as := []) (tb_ok aX8_not1_2 8 rfl) v_RX8_308 (hc _ _ _ u2) (by omega) rfl rfl rfl rfl rfl (Nat.le_of_ble_eq_true rfl) (by decide) (fun r3 S3 I3 L3 R3 q3 => ?_)
          obtain ⟨rfl, rfl, v4_, rfl, u4⟩ := q3
          cases e4_ : P (adv t n s1_) with
          | inr g4_ =>
            rw [e4_] at u4
            have u4 : RBad I0 g4_ _ := u4
            have hsq : (notP t n (some q2) (cmpP t n P)) s = .inr g4_ := by
              unfold notP
              rw [if_neg n9]
              unfold cmpP
              rw [e1_]
              show (if s1_.tok = 60 ∨ s1_.tok = 61 then _ else _) = _
              rw [if_pos hop, e4_]
            refine s_istore_n (ls' := [some (.ref 66), some (.int v1_), some (.int (0)), some (.int v4_)]) (tb_ok aX8_not1_2 9 rfl) rfl rfl ?_
            refine s_iload_n (tb_ok aX8_not1_2 10 rfl) rfl ?_
            refine s_if_eq (tgt := 115) (tb_ok aX8_not1_2 11 rfl) (by decide) (fun c104 => ?_) (fun c104 => ?_)
            · refine s_iload_n (tb_ok aX8_not1_2 16 rfl) rfl ?_
              refine s_iload_n (tb_ok aX8_not1_2 17 rfl) rfl ?_
              refine s_icmp_ne (tgt := 124) (tb_ok aX8_not1_2 18 rfl) (by decide) (fun c117 => ?_) (fun c117 => ?_)
              · refine s_iconst (v := 0) (tb_ok aX8_not1_2 21 rfl) (by decide) ?_
                refine s_iret (tb_ok aX8_not1_2 22 rfl) rfl ?_
                refine ⟨rfl, rfl, _, rfl, ?_⟩
                rw [hsq]
                exact u4
              · refine s_iconst (v := 1) (tb_ok aX8_not1_2 19 rfl) (by decide) ?_
                refine s_goto (tgt := 125) (tb_ok aX8_not1_2 20 rfl) (by decide) ?_
                refine s_iret (tb_ok aX8_not1_2 22 rfl) rfl ?_
                refine ⟨rfl, rfl, _, rfl, ?_⟩
                rw [hsq]
                exact u4
            · exact absurd c104 (by decide)
          | inl qq =>
            obtain ⟨c4_, f4_, s4_⟩ := qq
            rw [e4_] at u4
            obtain ⟨w4_, u4⟩ := u4
            have w4_ : v4_ = f4_ nm := w4_
            have u4 : ROk t n 1 I0 s4_ _ _ := u4
            have hsq : (notP t n (some q2) (cmpP t n P)) s = .inl (c1_ ++ c4_ ++ [cdC s1_.tok], (fun nm => of2 (cdC s1_.tok) (f1_ nm) (f4_ nm)), s4_) := by
              unfold notP
              rw [if_neg n9]
              unfold cmpP
              rw [e1_]
              show (if s1_.tok = 60 ∨ s1_.tok = 61 then _ else _) = _
              rw [if_pos hop, e4_]
            refine s_istore_n (ls' := [some (.ref 66), some (.int v1_), some (.int (0)), some (.int v4_)]) (tb_ok aX8_not1_2 9 rfl) rfl rfl ?_
            refine s_iload_n (tb_ok aX8_not1_2 10 rfl) rfl ?_
            refine s_if_eq (tgt := 115) (tb_ok aX8_not1_2 11 rfl) (by decide) (fun c104 => ?_) (fun c104 => ?_)
            · refine s_iload_n (tb_ok aX8_not1_2 16 rfl) rfl ?_
              refine s_iload_n (tb_ok aX8_not1_2 17 rfl) rfl ?_
              refine s_icmp_ne (tgt := 124) (tb_ok aX8_not1_2 18 rfl) (by decide) (fun c117 => ?_) (fun c117 => ?_)
              · refine s_iconst (v := 0) (tb_ok aX8_not1_2 21 rfl) (by decide) ?_
                refine s_iret (tb_ok aX8_not1_2 22 rfl) rfl ?_
                refine ⟨rfl, rfl, _, rfl, ?_⟩
                rw [hsq]
                refine ⟨?_, u4⟩
                show ((0) : Int32) = of2 (cdC s1_.tok) (f1_ nm) _
                first | (rw [show cdC s1_.tok = 30003 from if_pos h60, of2_lt, ← w1_, ← w4_]; first | exact (bI_f (Int32.not_lt.mpr c109)).symm | exact (bI_t (Int32.not_le.mp c109)).symm) | (rw [show cdC s1_.tok = 30004 from if_neg h60, of2_eq, ← w1_, ← w4_]; first | exact (bI_t c117).symm | exact (bI_f c117).symm)
              · refine s_iconst (v := 1) (tb_ok aX8_not1_2 19 rfl) (by decide) ?_
                refine s_goto (tgt := 125) (tb_ok aX8_not1_2 20 rfl) (by decide) ?_
                refine s_iret (tb_ok aX8_not1_2 22 rfl) rfl ?_
                refine ⟨rfl, rfl, _, rfl, ?_⟩
                rw [hsq]
                refine ⟨?_, u4⟩
                show ((1) : Int32) = of2 (cdC s1_.tok) (f1_ nm) _
                first | (rw [show cdC s1_.tok = 30003 from if_pos h60, of2_lt, ← w1_, ← w4_]; first | exact (bI_f (Int32.not_lt.mpr c109)).symm | exact (bI_t (Int32.not_le.mp c109)).symm) | (rw [show cdC s1_.tok = 30004 from if_neg h60, of2_eq, ← w1_, ← w4_]; first | exact (bI_t c117).symm | exact (bI_f c117).symm)
            · exact absurd c104 (by decide)
        · have h60 : s1_.tok = 60 := i64_inj.mp (hwr.symm.trans ((cmp_eq _ _).mp c85))
          refine s_iconst (v := 1) (tb_ok aX8_not1_2 1 rfl) (by decide) ?_
          refine s_goto (tgt := 93) (tb_ok aX8_not1_2 2 rfl) (by decide) ?_
          refine s_istore_n (ls' := [some (.ref 66), some (.int v1_), some (.int (1)), none]) (tb_ok aX8_not1_2 4 rfl) rfl rfl ?_
          refine s_aload_n (tb_ok aX8_not1_2 5 rfl) rfl ?_
          refine s_cV (as := []) (tb_ok aX8_not1_2 6 rfl) v_RX8_190 (R_next hT u1 (by rcases hop with e_ | e_ <;> rw [e_] <;> decide) (by rcases hop with e_ | e_ <;> rw [e_] <;> decide)) (by omega) rfl rfl rfl rfl rfl (Nat.le_of_ble_eq_true rfl) (by decide) (fun r4 S4 I4 L4 R4 q4 => ?_)
          obtain ⟨rfl, rfl, rfl, u5⟩ := q4
          have a6 := (adv_wf (t := t) u1.2.1).2.2 (by rcases hop with e_ | e_ <;> rw [e_] <;> decide)
          refine s_aload_n (tb_ok aX8_not1_2 7 rfl) rfl ?_
          refine s_cV (as := []) (tb_ok aX8_not1_2 8 rfl) v_RX8_308 (hc _ _ _ u5) (by omega) rfl rfl rfl rfl rfl (Nat.le_of_ble_eq_true rfl) (by decide) (fun r5 S5 I5 L5 R5 q5 => ?_)
          obtain ⟨rfl, rfl, v7_, rfl, u7⟩ := q5
          cases e7_ : P (adv t n s1_) with
          | inr g7_ =>
            rw [e7_] at u7
            have u7 : RBad I0 g7_ _ := u7
            have hsq : (notP t n (some q2) (cmpP t n P)) s = .inr g7_ := by
              unfold notP
              rw [if_neg n9]
              unfold cmpP
              rw [e1_]
              show (if s1_.tok = 60 ∨ s1_.tok = 61 then _ else _) = _
              rw [if_pos hop, e7_]
            refine s_istore_n (ls' := [some (.ref 66), some (.int v1_), some (.int (1)), some (.int v7_)]) (tb_ok aX8_not1_2 9 rfl) rfl rfl ?_
            refine s_iload_n (tb_ok aX8_not1_2 10 rfl) rfl ?_
            refine s_if_eq (tgt := 115) (tb_ok aX8_not1_2 11 rfl) (by decide) (fun c104 => ?_) (fun c104 => ?_)
            · exact absurd c104 (by decide)
            · refine s_iload_n (tb_ok aX8_not1_2 12 rfl) rfl ?_
              refine s_iload_n (tb_ok aX8_not1_2 13 rfl) rfl ?_
              refine s_icmp_ge (tgt := 124) (tb_ok aX8_not1_2 14 rfl) (by decide) (fun c109 => ?_) (fun c109 => ?_)
              · refine s_iconst (v := 0) (tb_ok aX8_not1_2 21 rfl) (by decide) ?_
                refine s_iret (tb_ok aX8_not1_2 22 rfl) rfl ?_
                refine ⟨rfl, rfl, _, rfl, ?_⟩
                rw [hsq]
                exact u7
              · refine s_goto (tgt := 120) (tb_ok aX8_not1_2 15 rfl) (by decide) ?_
                refine s_iconst (v := 1) (tb_ok aX8_not1_2 19 rfl) (by decide) ?_
                refine s_goto (tgt := 125) (tb_ok aX8_not1_2 20 rfl) (by decide) ?_
                refine s_iret (tb_ok aX8_not1_2 22 rfl) rfl ?_
                refine ⟨rfl, rfl, _, rfl, ?_⟩
                rw [hsq]
                exact u7
          | inl qq =>
            obtain ⟨c7_, f7_, s7_⟩ := qq
            rw [e7_] at u7
            obtain ⟨w7_, u7⟩ := u7
            have w7_ : v7_ = f7_ nm := w7_
            have u7 : ROk t n 1 I0 s7_ _ _ := u7
            have hsq : (notP t n (some q2) (cmpP t n P)) s = .inl (c1_ ++ c7_ ++ [cdC s1_.tok], (fun nm => of2 (cdC s1_.tok) (f1_ nm) (f7_ nm)), s7_) := by
              unfold notP
              rw [if_neg n9]
              unfold cmpP
              rw [e1_]
              show (if s1_.tok = 60 ∨ s1_.tok = 61 then _ else _) = _
              rw [if_pos hop, e7_]
            refine s_istore_n (ls' := [some (.ref 66), some (.int v1_), some (.int (1)), some (.int v7_)]) (tb_ok aX8_not1_2 9 rfl) rfl rfl ?_
            refine s_iload_n (tb_ok aX8_not1_2 10 rfl) rfl ?_
            refine s_if_eq (tgt := 115) (tb_ok aX8_not1_2 11 rfl) (by decide) (fun c104 => ?_) (fun c104 => ?_)
            · exact absurd c104 (by decide)
            · refine s_iload_n (tb_ok aX8_not1_2 12 rfl) rfl ?_
              refine s_iload_n (tb_ok aX8_not1_2 13 rfl) rfl ?_
              refine s_icmp_ge (tgt := 124) (tb_ok aX8_not1_2 14 rfl) (by decide) (fun c109 => ?_) (fun c109 => ?_)
              · refine s_iconst (v := 0) (tb_ok aX8_not1_2 21 rfl) (by decide) ?_
                refine s_iret (tb_ok aX8_not1_2 22 rfl) rfl ?_
                refine ⟨rfl, rfl, _, rfl, ?_⟩
                rw [hsq]
                refine ⟨?_, u7⟩
                show ((0) : Int32) = of2 (cdC s1_.tok) (f1_ nm) _
                first | (rw [show cdC s1_.tok = 30003 from if_pos h60, of2_lt, ← w1_, ← w7_]; first | exact (bI_f (Int32.not_lt.mpr c109)).symm | exact (bI_t (Int32.not_le.mp c109)).symm) | (rw [show cdC s1_.tok = 30004 from if_neg h60, of2_eq, ← w1_, ← w7_]; first | exact (bI_t c117).symm | exact (bI_f c117).symm)
              · refine s_goto (tgt := 120) (tb_ok aX8_not1_2 15 rfl) (by decide) ?_
                refine s_iconst (v := 1) (tb_ok aX8_not1_2 19 rfl) (by decide) ?_
                refine s_goto (tgt := 125) (tb_ok aX8_not1_2 20 rfl) (by decide) ?_
                refine s_iret (tb_ok aX8_not1_2 22 rfl) rfl ?_
                refine ⟨rfl, rfl, _, rfl, ?_⟩
                rw [hsq]
                refine ⟨?_, u7⟩
                show ((1) : Int32) = of2 (cdC s1_.tok) (f1_ nm) _
                first | (rw [show cdC s1_.tok = 30003 from if_pos h60, of2_lt, ← w1_, ← w7_]; first | exact (bI_f (Int32.not_lt.mpr c109)).symm | exact (bI_t (Int32.not_le.mp c109)).symm) | (rw [show cdC s1_.tok = 30004 from if_neg h60, of2_eq, ← w1_, ← w7_]; first | exact (bI_t c117).symm | exact (bI_f c117).symm)
      · refine s_aload_n (tb_ok aX8_not1_1 14 rfl) rfl ?_
        refine s_bipush (v := 61) (tb_ok aX8_not1_1 15 rfl) (by decide) ?_
        refine s_cVp (as := [.int (61)]) (tb_ok aX8_not1_1 16 rfl) v_RX8_215 (R_isSign (I0 := I0) u1.2.2.1 u1.2.2.2.2.2 (by decide)) (by omega) rfl rfl rfl rfl rfl (Nat.le_of_ble_eq_true rfl) (by decide) ?_
        refine s_if_ne (tgt := 77) (tb_ok aX8_not1_1 17 rfl) (by decide) (fun c72 => ?_) (fun c72 => ?_)
        · have hop : s1_.tok = 60 ∨ s1_.tok = 61 := by first | exact Or.inl (bI_n c63) | exact Or.inr (bI_n c72)
          have hwr := u1.wrth (by rcases hop with e_ | e_ <;> rw [e_] <;> decide)
          refine s_aload_n (tb_ok aX8_not1_1 20 rfl) rfl ?_
          refine s_getL (tb_ok aX8_not1_1 21 rfl) f_RX8_167 rfl rfl rfl ?_
          refine s_ldc2 (tb_ok aX8_not1_1 22 rfl) k_RX8_237 ?_
          refine s_lcmp (tb_ok aX8_not1_1 23 rfl) ?_
          refine s_if_ne (tgt := 92) (tb_ok aX8_not1_2 0 rfl) (by decide) (fun c85 => ?_) (fun c85 => ?_)
          · have h60 : ¬ s1_.tok = 60 := fun e_ => c85 ((cmp_eq _ _).mpr (hwr.trans (by rw [e_]; rfl)))
            refine s_iconst (v := 0) (tb_ok aX8_not1_2 3 rfl) (by decide) ?_
            refine s_istore_n (ls' := [some (.ref 66), some (.int v1_), some (.int (0)), none]) (tb_ok aX8_not1_2 4 rfl) rfl rfl ?_
            refine s_aload_n (tb_ok aX8_not1_2 5 rfl) rfl ?_
            refine s_cV (as := []) (tb_ok aX8_not1_2 6 rfl) v_RX8_190 (R_next hT u1 (by rcases hop with e_ | e_ <;> rw [e_] <;> decide) (by rcases hop with e_ | e_ <;> rw [e_] <;> decide)) (by omega) rfl rfl rfl rfl rfl (Nat.le_of_ble_eq_true rfl) (by decide) (fun r6 S6 I6 L6 R6 q6 => ?_)
            obtain ⟨rfl, rfl, rfl, u8⟩ := q6
            have a9 := (adv_wf (t := t) u1.2.1).2.2 (by rcases hop with e_ | e_ <;> rw [e_] <;> decide)
            refine s_aload_n (tb_ok aX8_not1_2 7 rfl) rfl ?_
            refine s_cV (as := []) (tb_ok aX8_not1_2 8 rfl) v_RX8_308 (hc _ _ _ u8) (by omega) rfl rfl rfl rfl rfl (Nat.le_of_ble_eq_true rfl) (by decide) (fun r7 S7 I7 L7 R7 q7 => ?_)
            obtain ⟨rfl, rfl, v10_, rfl, u10⟩ := q7
            cases e10_ : P (adv t n s1_) with
            | inr g10_ =>
              rw [e10_] at u10
              have u10 : RBad I0 g10_ _ := u10
              have hsq : (notP t n (some q2) (cmpP t n P)) s = .inr g10_ := by
                unfold notP
                rw [if_neg n9]
                unfold cmpP
                rw [e1_]
                show (if s1_.tok = 60 ∨ s1_.tok = 61 then _ else _) = _
                rw [if_pos hop, e10_]
              refine s_istore_n (ls' := [some (.ref 66), some (.int v1_), some (.int (0)), some (.int v10_)]) (tb_ok aX8_not1_2 9 rfl) rfl rfl ?_
              refine s_iload_n (tb_ok aX8_not1_2 10 rfl) rfl ?_
              refine s_if_eq (tgt := 115) (tb_ok aX8_not1_2 11 rfl) (by decide) (fun c104 => ?_) (fun c104 => ?_)
              · refine s_iload_n (tb_ok aX8_not1_2 16 rfl) rfl ?_
                refine s_iload_n (tb_ok aX8_not1_2 17 rfl) rfl ?_
                refine s_icmp_ne (tgt := 124) (tb_ok aX8_not1_2 18 rfl) (by decide) (fun c117 => ?_) (fun c117 => ?_)
                · refine s_iconst (v := 0) (tb_ok aX8_not1_2 21 rfl) (by decide) ?_
                  refine s_iret (tb_ok aX8_not1_2 22 rfl) rfl ?_
                  refine ⟨rfl, rfl, _, rfl, ?_⟩
                  rw [hsq]
                  exact u10
                · refine s_iconst (v := 1) (tb_ok aX8_not1_2 19 rfl) (by decide) ?_
                  refine s_goto (tgt := 125) (tb_ok aX8_not1_2 20 rfl) (by decide) ?_
                  refine s_iret (tb_ok aX8_not1_2 22 rfl) rfl ?_
                  refine ⟨rfl, rfl, _, rfl, ?_⟩
                  rw [hsq]
                  exact u10
              · exact absurd c104 (by decide)
            | inl qq =>
              obtain ⟨c10_, f10_, s10_⟩ := qq
              rw [e10_] at u10
              obtain ⟨w10_, u10⟩ := u10
              have w10_ : v10_ = f10_ nm := w10_
              have u10 : ROk t n 1 I0 s10_ _ _ := u10
              have hsq : (notP t n (some q2) (cmpP t n P)) s = .inl (c1_ ++ c10_ ++ [cdC s1_.tok], (fun nm => of2 (cdC s1_.tok) (f1_ nm) (f10_ nm)), s10_) := by
                unfold notP
                rw [if_neg n9]
                unfold cmpP
                rw [e1_]
                show (if s1_.tok = 60 ∨ s1_.tok = 61 then _ else _) = _
                rw [if_pos hop, e10_]
              refine s_istore_n (ls' := [some (.ref 66), some (.int v1_), some (.int (0)), some (.int v10_)]) (tb_ok aX8_not1_2 9 rfl) rfl rfl ?_
              refine s_iload_n (tb_ok aX8_not1_2 10 rfl) rfl ?_
              refine s_if_eq (tgt := 115) (tb_ok aX8_not1_2 11 rfl) (by decide) (fun c104 => ?_) (fun c104 => ?_)
              · refine s_iload_n (tb_ok aX8_not1_2 16 rfl) rfl ?_
                refine s_iload_n (tb_ok aX8_not1_2 17 rfl) rfl ?_
                refine s_icmp_ne (tgt := 124) (tb_ok aX8_not1_2 18 rfl) (by decide) (fun c117 => ?_) (fun c117 => ?_)
                · refine s_iconst (v := 0) (tb_ok aX8_not1_2 21 rfl) (by decide) ?_
                  refine s_iret (tb_ok aX8_not1_2 22 rfl) rfl ?_
                  refine ⟨rfl, rfl, _, rfl, ?_⟩
                  rw [hsq]
                  refine ⟨?_, u10⟩
                  show ((0) : Int32) = of2 (cdC s1_.tok) (f1_ nm) _
                  first | (rw [show cdC s1_.tok = 30003 from if_pos h60, of2_lt, ← w1_, ← w10_]; first | exact (bI_f (Int32.not_lt.mpr c109)).symm | exact (bI_t (Int32.not_le.mp c109)).symm) | (rw [show cdC s1_.tok = 30004 from if_neg h60, of2_eq, ← w1_, ← w10_]; first | exact (bI_t c117).symm | exact (bI_f c117).symm)
                · refine s_iconst (v := 1) (tb_ok aX8_not1_2 19 rfl) (by decide) ?_
                  refine s_goto (tgt := 125) (tb_ok aX8_not1_2 20 rfl) (by decide) ?_
                  refine s_iret (tb_ok aX8_not1_2 22 rfl) rfl ?_
                  refine ⟨rfl, rfl, _, rfl, ?_⟩
                  rw [hsq]
                  refine ⟨?_, u10⟩
                  show ((1) : Int32) = of2 (cdC s1_.tok) (f1_ nm) _
                  first | (rw [show cdC s1_.tok = 30003 from if_pos h60, of2_lt, ← w1_, ← w10_]; first | exact (bI_f (Int32.not_lt.mpr c109)).symm | exact (bI_t (Int32.not_le.mp c109)).symm) | (rw [show cdC s1_.tok = 30004 from if_neg h60, of2_eq, ← w1_, ← w10_]; first | exact (bI_t c117).symm | exact (bI_f c117).symm)
              · exact absurd c104 (by decide)
          · have h60 : s1_.tok = 60 := i64_inj.mp (hwr.symm.trans ((cmp_eq _ _).mp c85))
            refine s_iconst (v := 1) (tb_ok aX8_not1_2 1 rfl) (by decide) ?_
            refine s_goto (tgt := 93) (tb_ok aX8_not1_2 2 rfl) (by decide) ?_
            refine s_istore_n (ls' := [some (.ref 66), some (.int v1_), some (.int (1)), none]) (tb_ok aX8_not1_2 4 rfl) rfl rfl ?_
            refine s_aload_n (tb_ok aX8_not1_2 5 rfl) rfl ?_
            refine s_cV (as := []) (tb_ok aX8_not1_2 6 rfl) v_RX8_190 (R_next hT u1 (by rcases hop with e_ | e_ <;> rw [e_] <;> decide) (by rcases hop with e_ | e_ <;> rw [e_] <;> decide)) (by omega) rfl rfl rfl rfl rfl (Nat.le_of_ble_eq_true rfl) (by decide) (fun r8 S8 I8 L8 R8 q8 => ?_)
            obtain ⟨rfl, rfl, rfl, u11⟩ := q8
            have a12 := (adv_wf (t := t) u1.2.1).2.2 (by rcases hop with e_ | e_ <;> rw [e_] <;> decide)
            refine s_aload_n (tb_ok aX8_not1_2 7 rfl) rfl ?_
            refine s_cV (as := []) (tb_ok aX8_not1_2 8 rfl) v_RX8_308 (hc _ _ _ u11) (by omega) rfl rfl rfl rfl rfl (Nat.le_of_ble_eq_true rfl) (by decide) (fun r9 S9 I9 L9 R9 q9 => ?_)
            obtain ⟨rfl, rfl, v13_, rfl, u13⟩ := q9
            cases e13_ : P (adv t n s1_) with
            | inr g13_ =>
              rw [e13_] at u13
              have u13 : RBad I0 g13_ _ := u13
              have hsq : (notP t n (some q2) (cmpP t n P)) s = .inr g13_ := by
                unfold notP
                rw [if_neg n9]
                unfold cmpP
                rw [e1_]
                show (if s1_.tok = 60 ∨ s1_.tok = 61 then _ else _) = _
                rw [if_pos hop, e13_]
              refine s_istore_n (ls' := [some (.ref 66), some (.int v1_), some (.int (1)), some (.int v13_)]) (tb_ok aX8_not1_2 9 rfl) rfl rfl ?_
              refine s_iload_n (tb_ok aX8_not1_2 10 rfl) rfl ?_
              refine s_if_eq (tgt := 115) (tb_ok aX8_not1_2 11 rfl) (by decide) (fun c104 => ?_) (fun c104 => ?_)
              · exact absurd c104 (by decide)
              · refine s_iload_n (tb_ok aX8_not1_2 12 rfl) rfl ?_
                refine s_iload_n (tb_ok aX8_not1_2 13 rfl) rfl ?_
                refine s_icmp_ge (tgt := 124) (tb_ok aX8_not1_2 14 rfl) (by decide) (fun c109 => ?_) (fun c109 => ?_)
                · refine s_iconst (v := 0) (tb_ok aX8_not1_2 21 rfl) (by decide) ?_
                  refine s_iret (tb_ok aX8_not1_2 22 rfl) rfl ?_
                  refine ⟨rfl, rfl, _, rfl, ?_⟩
                  rw [hsq]
                  exact u13
                · refine s_goto (tgt := 120) (tb_ok aX8_not1_2 15 rfl) (by decide) ?_
                  refine s_iconst (v := 1) (tb_ok aX8_not1_2 19 rfl) (by decide) ?_
                  refine s_goto (tgt := 125) (tb_ok aX8_not1_2 20 rfl) (by decide) ?_
                  refine s_iret (tb_ok aX8_not1_2 22 rfl) rfl ?_
                  refine ⟨rfl, rfl, _, rfl, ?_⟩
                  rw [hsq]
                  exact u13
            | inl qq =>
              obtain ⟨c13_, f13_, s13_⟩ := qq
              rw [e13_] at u13
              obtain ⟨w13_, u13⟩ := u13
              have w13_ : v13_ = f13_ nm := w13_
              have u13 : ROk t n 1 I0 s13_ _ _ := u13
              have hsq : (notP t n (some q2) (cmpP t n P)) s = .inl (c1_ ++ c13_ ++ [cdC s1_.tok], (fun nm => of2 (cdC s1_.tok) (f1_ nm) (f13_ nm)), s13_) := by
                unfold notP
                rw [if_neg n9]
                unfold cmpP
                rw [e1_]
                show (if s1_.tok = 60 ∨ s1_.tok = 61 then _ else _) = _
                rw [if_pos hop, e13_]
              refine s_istore_n (ls' := [some (.ref 66), some (.int v1_), some (.int (1)), some (.int v13_)]) (tb_ok aX8_not1_2 9 rfl) rfl rfl ?_
              refine s_iload_n (tb_ok aX8_not1_2 10 rfl) rfl ?_
              refine s_if_eq (tgt := 115) (tb_ok aX8_not1_2 11 rfl) (by decide) (fun c104 => ?_) (fun c104 => ?_)
              · exact absurd c104 (by decide)
              · refine s_iload_n (tb_ok aX8_not1_2 12 rfl) rfl ?_
                refine s_iload_n (tb_ok aX8_not1_2 13 rfl) rfl ?_
                refine s_icmp_ge (tgt := 124) (tb_ok aX8_not1_2 14 rfl) (by decide) (fun c109 => ?_) (fun c109 => ?_)
                · refine s_iconst (v := 0) (tb_ok aX8_not1_2 21 rfl) (by decide) ?_
                  refine s_iret (tb_ok aX8_not1_2 22 rfl) rfl ?_
                  refine ⟨rfl, rfl, _, rfl, ?_⟩
                  rw [hsq]
                  refine ⟨?_, u13⟩
                  show ((0) : Int32) = of2 (cdC s1_.tok) (f1_ nm) _
                  first | (rw [show cdC s1_.tok = 30003 from if_pos h60, of2_lt, ← w1_, ← w13_]; first | exact (bI_f (Int32.not_lt.mpr c109)).symm | exact (bI_t (Int32.not_le.mp c109)).symm) | (rw [show cdC s1_.tok = 30004 from if_neg h60, of2_eq, ← w1_, ← w13_]; first | exact (bI_t c117).symm | exact (bI_f c117).symm)
                · refine s_goto (tgt := 120) (tb_ok aX8_not1_2 15 rfl) (by decide) ?_
                  refine s_iconst (v := 1) (tb_ok aX8_not1_2 19 rfl) (by decide) ?_
                  refine s_goto (tgt := 125) (tb_ok aX8_not1_2 20 rfl) (by decide) ?_
                  refine s_iret (tb_ok aX8_not1_2 22 rfl) rfl ?_
                  refine ⟨rfl, rfl, _, rfl, ?_⟩
                  rw [hsq]
                  refine ⟨?_, u13⟩
                  show ((1) : Int32) = of2 (cdC s1_.tok) (f1_ nm) _
                  first | (rw [show cdC s1_.tok = 30003 from if_pos h60, of2_lt, ← w1_, ← w13_]; first | exact (bI_f (Int32.not_lt.mpr c109)).symm | exact (bI_t (Int32.not_le.mp c109)).symm) | (rw [show cdC s1_.tok = 30004 from if_neg h60, of2_eq, ← w1_, ← w13_]; first | exact (bI_t c117).symm | exact (bI_f c117).symm)
        · refine s_iload_n (tb_ok aX8_not1_1 18 rfl) rfl ?_
          refine s_iret (tb_ok aX8_not1_1 19 rfl) rfl ?_
          have hsq : (notP t n (some q2) (cmpP t n P)) s = .inl (c1_, f1_, s1_) := by
            unfold notP
            rw [if_neg n9]
            unfold cmpP
            rw [e1_]
            show (if s1_.tok = 60 ∨ s1_.tok = 61 then _ else _) = _
            rw [if_neg (fun h_ => h_.elim (bI_0.mp c63) (bI_0.mp c72))]
          refine ⟨rfl, rfl, _, rfl, ?_⟩
          rw [hsq]
          refine ⟨?_, u1⟩
          exact w1_
  · have hop9 : s.tok = 9 := bI_n c15
    refine s_aload_n (tb_ok aX8_not1_0 11 rfl) rfl ?_
    refine s_cV (as := []) (tb_ok aX8_not1_0 12 rfl) v_RX8_218 (R_opens hT h (by rw [hop9]; decide) (by rw [hop9]; decide) (by decide)) (by omega) rfl rfl rfl rfl rfl (Nat.le_of_ble_eq_true rfl) (by decide) (fun r10 S10 I10 L10 R10 q10 => ?_)
    obtain ⟨rfl, rfl, rfl, u14⟩ := q10
    have a15 := (adv_wf (t := t) h.2.1).2.2 (by rw [hop9]; decide)
    refine s_if_ne (tgt := 27) (tb_ok aX8_not1_0 13 rfl) (by decide) (fun c22 => ?_) (fun c22 => ?_)
    · refine s_aload_n (tb_ok aX8_not1_0 16 rfl) rfl ?_
      refine s_cV (as := []) (tb_ok aX8_not1_0 17 rfl) v_RX8_293 (hi _ _ _ u14) (by omega) rfl rfl rfl rfl rfl (Nat.le_of_ble_eq_true rfl) (by decide) (fun r11 S11 I11 L11 R11 q11 => ?_)
      obtain ⟨rfl, rfl, v16_, rfl, u16⟩ := q11
      cases e16_ : q2.2.1 (adv t n s) with
      | inr g16_ =>
        rw [e16_] at u16
        have u16 : RBad I0 g16_ _ := u16
        have hsq : (notP t n (some q2) (cmpP t n P)) s = .inr g16_ := by unfold notP; rw [if_pos hop9]; simp only [e16_]
        refine s_istore_n (ls' := [some (.ref 66), some (.int v16_), none, none]) (tb_ok aX8_not1_0 18 rfl) rfl rfl ?_
        refine s_aload_n (tb_ok aX8_not1_0 19 rfl) rfl ?_
        refine s_dup (tb_ok aX8_not1_0 20 rfl) rfl ?_
        refine s_getI (tb_ok aX8_not1_0 21 rfl) f_RX8_184 rfl rfl rfl ?_
        refine s_iconst (v := 1) (tb_ok aX8_not1_0 22 rfl) (by decide) ?_
        refine s_isub (tb_ok aX8_not1_0 23 rfl) ?_
        refine s_putI (tb_ok aX8_not1_1 0 rfl) f_RX8_184 rfl rfl ?_
        refine s_iload_n (tb_ok aX8_not1_1 1 rfl) rfl ?_
        refine s_if_ne (tgt := 50) (tb_ok aX8_not1_1 2 rfl) (by decide) (fun c43 => ?_) (fun c43 => ?_)
        · refine s_iconst (v := 0) (tb_ok aX8_not1_1 5 rfl) (by decide) ?_
          refine s_iret (tb_ok aX8_not1_1 6 rfl) rfl ?_
          refine ⟨rfl, rfl, _, rfl, ?_⟩
          rw [hsq]
          exact (u16.put26 _)
        · refine s_iconst (v := 1) (tb_ok aX8_not1_1 3 rfl) (by decide) ?_
          refine s_goto (tgt := 51) (tb_ok aX8_not1_1 4 rfl) (by decide) ?_
          refine s_iret (tb_ok aX8_not1_1 6 rfl) rfl ?_
          refine ⟨rfl, rfl, _, rfl, ?_⟩
          rw [hsq]
          exact (u16.put26 _)
      | inl qq =>
        obtain ⟨c16_, f16_, s16_⟩ := qq
        rw [e16_] at u16
        obtain ⟨w16_, u16⟩ := u16
        have w16_ : v16_ = f16_ nm := w16_
        have u16 : ROk t n 2 I0 s16_ _ _ := u16
        have hsq : (notP t n (some q2) (cmpP t n P)) s = .inl (c16_ ++ [20001], (fun nm => of1 20001 (f16_ nm)), s16_) := by unfold notP; rw [if_pos hop9]; simp only [e16_]
        refine s_istore_n (ls' := [some (.ref 66), some (.int v16_), none, none]) (tb_ok aX8_not1_0 18 rfl) rfl rfl ?_
        refine s_aload_n (tb_ok aX8_not1_0 19 rfl) rfl ?_
        refine s_dup (tb_ok aX8_not1_0 20 rfl) rfl ?_
        refine s_getI (x := (nI 2)) (tb_ok aX8_not1_0 21 rfl) f_RX8_184 rfl rfl u16.2.2.2.1 ?_
        refine s_iconst (v := 1) (tb_ok aX8_not1_0 22 rfl) (by decide) ?_
        refine s_isub (tb_ok aX8_not1_0 23 rfl) ?_
        refine s_topi (z := (nI 1)) (by decide) ?_
        refine s_putI (tb_ok aX8_not1_1 0 rfl) f_RX8_184 rfl rfl ?_
        have u18 := u16.put26 1
        refine s_iload_n (tb_ok aX8_not1_1 1 rfl) rfl ?_
        refine s_if_ne (tgt := 50) (tb_ok aX8_not1_1 2 rfl) (by decide) (fun c43 => ?_) (fun c43 => ?_)
        · refine s_iconst (v := 0) (tb_ok aX8_not1_1 5 rfl) (by decide) ?_
          refine s_iret (tb_ok aX8_not1_1 6 rfl) rfl ?_
          refine ⟨rfl, rfl, _, rfl, ?_⟩
          rw [hsq]
          refine ⟨?_, u18⟩
          show ((0) : Int32) = of1 20001 _
          rw [of1_not, ← w16_]
          first | exact (bI_t c43).symm | exact (bI_f c43).symm
        · refine s_iconst (v := 1) (tb_ok aX8_not1_1 3 rfl) (by decide) ?_
          refine s_goto (tgt := 51) (tb_ok aX8_not1_1 4 rfl) (by decide) ?_
          refine s_iret (tb_ok aX8_not1_1 6 rfl) rfl ?_
          refine ⟨rfl, rfl, _, rfl, ?_⟩
          rw [hsq]
          refine ⟨?_, u18⟩
          show ((1) : Int32) = of1 20001 _
          rw [of1_not, ← w16_]
          first | exact (bI_t c43).symm | exact (bI_f c43).symm
    · exact absurd c22 (by decide)

set_option maxRecDepth 100000 in
set_option maxHeartbeats 1000000 in
theorem L_both1 {X : En} {q : Nat × Nat} {I0 : FI} {F n : Nat} {t nm : Nat → Int32} (hT : TxX I0 F n t nm) {d f : Nat} (hd : 2 < d) {Q : Pst} {I : FI} {L : FL} (x : Int32) (o2 : Option Value) (h : RBad I0 f I) (hQ : ∀ v, Q (some (.int v)) S0 I L (R0 q)) : SW X (d + 1) mX8_both1 (0, 0) 5 [some (.ref 66), some (.int x), o2] [] S0 I L (R0 q) (KQ X Q) := by
  refine s_aload_n (tb_ok aX8_both1_0 3 rfl) rfl ?_
  refine s_bipush (v := 97) (tb_ok aX8_both1_0 4 rfl) (by decide) ?_
  refine s_bipush (v := 110) (tb_ok aX8_both1_0 5 rfl) (by decide) ?_
  refine s_bipush (v := 100) (tb_ok aX8_both1_0 6 rfl) (by decide) ?_
  refine s_iconst (v := 0) (tb_ok aX8_both1_0 7 rfl) (by decide) ?_
  refine s_iconst (v := 0) (tb_ok aX8_both1_0 8 rfl) (by decide) ?_
  refine s_iconst (v := 0) (tb_ok aX8_both1_0 9 rfl) (by decide) ?_
  refine s_iconst (v := 0) (tb_ok aX8_both1_0 10 rfl) (by decide) ?_
  refine s_iconst (v := 0) (tb_ok aX8_both1_0 11 rfl) (by decide) ?_
  refine s_cVp (as := [.int (97), .int (110), .int (100), .int (0), .int (0), .int (0), .int (0), .int (0)]) (tb_ok aX8_both1_0 12 rfl) v_RX8_193 (R_isWordE (I0 := I0) h.2.1) (by omega) rfl rfl rfl rfl rfl (Nat.le_of_ble_eq_true rfl) (by decide) ?_
  refine s_if_eq (tgt := 49) (tb_ok aX8_both1_0 13 rfl) (by decide) (fun c20 => ?_) (fun c20 => ?_)
  · refine s_iload_n (tb_ok aX8_both1_1 4 rfl) rfl ?_
    refine s_iret (tb_ok aX8_both1_1 5 rfl) rfl ?_
    exact hQ _
  · exact absurd c20 (by decide)

set_option maxRecDepth 100000 in
set_option maxHeartbeats 1000000 in
theorem C_both1 {X : En} {q : Nat × Nat} {I0 : FI} {F n : Nat} {t nm : Nat → Int32} (hT : TxX I0 F n t nm) {d dp : Nat} (hd : 2 < d) {P : Pa} (hN : Nice n dp P) (hi : CtX X q t nm n I0 d mX8_not1 1 P) : CtX X q t nm n I0 (d + 1) mX8_both1 1 (seqP t n opB cdB P) := by
  intro I L s h
  obtain ⟨hF, hn, hn160, hFn, ht, ht0, hnm⟩ := id hT
  have loop : ∀ k, ∀ (o2 : Option Value) (I : FI) (L : FL) (c : List Int32) (f : Sem) (s1 : St) (x : Int32), x = f nm → ROk t n 1 I0 s1 I L → 160 < s1.pl + k → loopP t n opB cdB P k c f s1 = (seqP t n opB cdB P) s → SW X (d + 1) mX8_both1 (0, 0) 5 [some (.ref 66), some (.int x), o2] [] S0 I L (R0 q) (KQ X (AfP q t nm n 1 I0 ((seqP t n opB cdB P) s))) := by
    intro k
    induction k with
    | zero =>
      intro o2 I L c f s1 x hx h1 hk hres
      have := h1.pln
      omega
    | succ k ih =>
      intro o2 I L c f s1 x hx h1 hk hres
      refine s_aload_n (tb_ok aX8_both1_0 3 rfl) rfl ?_
      refine s_bipush (v := 97) (tb_ok aX8_both1_0 4 rfl) (by decide) ?_
      refine s_bipush (v := 110) (tb_ok aX8_both1_0 5 rfl) (by decide) ?_
      refine s_bipush (v := 100) (tb_ok aX8_both1_0 6 rfl) (by decide) ?_
      refine s_iconst (v := 0) (tb_ok aX8_both1_0 7 rfl) (by decide) ?_
      refine s_iconst (v := 0) (tb_ok aX8_both1_0 8 rfl) (by decide) ?_
      refine s_iconst (v := 0) (tb_ok aX8_both1_0 9 rfl) (by decide) ?_
      refine s_iconst (v := 0) (tb_ok aX8_both1_0 10 rfl) (by decide) ?_
      refine s_iconst (v := 0) (tb_ok aX8_both1_0 11 rfl) (by decide) ?_
      refine s_cVp (as := [.int (97), .int (110), .int (100), .int (0), .int (0), .int (0), .int (0), .int (0)]) (tb_ok aX8_both1_0 12 rfl) v_RX8_193 (R_isWord hT h1 10 (by decide)) (by omega) rfl rfl rfl rfl rfl (Nat.le_of_ble_eq_true rfl) (by decide) ?_
      refine s_topi (bI_congr (isK_key (k := 10) (j := 8) (by decide) rfl)) ?_
      refine s_if_eq (tgt := 49) (tb_ok aX8_both1_0 13 rfl) (by decide) (fun c20 => ?_) (fun c20 => ?_)
      · refine s_iload_n (tb_ok aX8_both1_1 4 rfl) rfl ?_
        refine s_iret (tb_ok aX8_both1_1 5 rfl) rfl ?_
        refine ⟨rfl, rfl, _, rfl, ?_⟩
        rw [← hres, loopP, if_neg (bI_0.mp c20)]
        exact ⟨hx, h1⟩
      · have hop : opB s1.tok := bI_n c20
        refine s_aload_n (tb_ok aX8_both1_0 14 rfl) rfl ?_
        refine s_cV (as := []) (tb_ok aX8_both1_0 15 rfl) v_RX8_190 (R_next hT h1 (by rw [hop]; decide) (by rw [hop]; decide)) (by omega) rfl rfl rfl rfl rfl (Nat.le_of_ble_eq_true rfl) (by decide) (fun r1 S1 I1 L1 R1 q1 => ?_)
        obtain ⟨rfl, rfl, rfl, u1⟩ := q1
        have a2 := (adv_wf (t := t) h1.2.1).2.2 (by rw [hop]; decide)
        refine s_aload_n (tb_ok aX8_both1_0 16 rfl) rfl ?_
        refine s_cV (as := []) (tb_ok aX8_both1_0 17 rfl) v_RX8_311 (hi _ _ _ u1) (by omega) rfl rfl rfl rfl rfl (Nat.le_of_ble_eq_true rfl) (by decide) (fun r2 S2 I2 L2 R2 q2 => ?_)
        obtain ⟨rfl, rfl, v3_, rfl, u3⟩ := q2
        cases e3_ : P (adv t n s1) with
        | inr g3_ =>
          rw [e3_] at u3
          have u3 : RBad I0 g3_ _ := u3
          rw [loopP, if_pos hop, e3_] at hres
          refine s_istore_n (ls' := [some (.ref 66), some (.int x), some (.int v3_)]) (tb_ok aX8_both1_0 18 rfl) rfl rfl ?_
          refine s_iload_n (tb_ok aX8_both1_0 19 rfl) rfl ?_
          refine s_if_eq (tgt := 44) (tb_ok aX8_both1_0 20 rfl) (by decide) (fun c33 => ?_) (fun c33 => ?_)
          · refine s_iconst (v := 0) (tb_ok aX8_both1_1 1 rfl) (by decide) ?_
            refine s_istore_n (ls' := [some (.ref 66), some (.int (0)), some (.int v3_)]) (tb_ok aX8_both1_1 2 rfl) rfl rfl ?_
            refine s_goto (tgt := 5) (tb_ok aX8_both1_1 3 rfl) (by decide) ?_
            refine L_both1 hT hd _ _ u3 (fun v => ⟨rfl, rfl, _, rfl, ?_⟩)
            rw [← hres]
            exact u3
          · refine s_iload_n (tb_ok aX8_both1_0 21 rfl) rfl ?_
            refine s_if_eq (tgt := 44) (tb_ok aX8_both1_0 22 rfl) (by decide) (fun c37 => ?_) (fun c37 => ?_)
            · refine s_iconst (v := 0) (tb_ok aX8_both1_1 1 rfl) (by decide) ?_
              refine s_istore_n (ls' := [some (.ref 66), some (.int (0)), some (.int v3_)]) (tb_ok aX8_both1_1 2 rfl) rfl rfl ?_
              refine s_goto (tgt := 5) (tb_ok aX8_both1_1 3 rfl) (by decide) ?_
              refine L_both1 hT hd _ _ u3 (fun v => ⟨rfl, rfl, _, rfl, ?_⟩)
              rw [← hres]
              exact u3
            · refine s_iconst (v := 1) (tb_ok aX8_both1_0 23 rfl) (by decide) ?_
              refine s_goto (tgt := 45) (tb_ok aX8_both1_1 0 rfl) (by decide) ?_
              refine s_istore_n (ls' := [some (.ref 66), some (.int (1)), some (.int v3_)]) (tb_ok aX8_both1_1 2 rfl) rfl rfl ?_
              refine s_goto (tgt := 5) (tb_ok aX8_both1_1 3 rfl) (by decide) ?_
              refine L_both1 hT hd _ _ u3 (fun v => ⟨rfl, rfl, _, rfl, ?_⟩)
              rw [← hres]
              exact u3
        | inl qq =>
          obtain ⟨c3_, f3_, s3_⟩ := qq
          rw [e3_] at u3
          obtain ⟨w3_, u3⟩ := u3
          have w3_ : v3_ = f3_ nm := w3_
          have u3 : ROk t n 1 I0 s3_ _ _ := u3
          have b3_ := Nice.two (t := t) hN u1.2.1 e3_
          rw [loopP, if_pos hop, e3_] at hres
          refine s_istore_n (ls' := [some (.ref 66), some (.int x), some (.int v3_)]) (tb_ok aX8_both1_0 18 rfl) rfl rfl ?_
          refine s_iload_n (tb_ok aX8_both1_0 19 rfl) rfl ?_
          refine s_if_eq (tgt := 44) (tb_ok aX8_both1_0 20 rfl) (by decide) (fun c33 => ?_) (fun c33 => ?_)
          · refine s_iconst (v := 0) (tb_ok aX8_both1_1 1 rfl) (by decide) ?_
            refine s_istore_n (ls' := [some (.ref 66), some (.int (0)), some (.int v3_)]) (tb_ok aX8_both1_1 2 rfl) rfl rfl ?_
            refine s_goto (tgt := 5) (tb_ok aX8_both1_1 3 rfl) (by decide) ?_
            refine ih _ _ _ _ _ _ (0) ?_ u3 (by omega) hres
            show ((0) : Int32) = of2 30005 (f nm) _
            rw [of2_and, ← hx, ← w3_]
            exact (bI_f (fun h_ => by first | exact h_.1 c33 | exact h_.2 c37)).symm
          · refine s_iload_n (tb_ok aX8_both1_0 21 rfl) rfl ?_
            refine s_if_eq (tgt := 44) (tb_ok aX8_both1_0 22 rfl) (by decide) (fun c37 => ?_) (fun c37 => ?_)
            · refine s_iconst (v := 0) (tb_ok aX8_both1_1 1 rfl) (by decide) ?_
              refine s_istore_n (ls' := [some (.ref 66), some (.int (0)), some (.int v3_)]) (tb_ok aX8_both1_1 2 rfl) rfl rfl ?_
              refine s_goto (tgt := 5) (tb_ok aX8_both1_1 3 rfl) (by decide) ?_
              refine ih _ _ _ _ _ _ (0) ?_ u3 (by omega) hres
              show ((0) : Int32) = of2 30005 (f nm) _
              rw [of2_and, ← hx, ← w3_]
              exact (bI_f (fun h_ => by first | exact h_.1 c33 | exact h_.2 c37)).symm
            · refine s_iconst (v := 1) (tb_ok aX8_both1_0 23 rfl) (by decide) ?_
              refine s_goto (tgt := 45) (tb_ok aX8_both1_1 0 rfl) (by decide) ?_
              refine s_istore_n (ls' := [some (.ref 66), some (.int (1)), some (.int v3_)]) (tb_ok aX8_both1_1 2 rfl) rfl rfl ?_
              refine s_goto (tgt := 5) (tb_ok aX8_both1_1 3 rfl) (by decide) ?_
              refine ih _ _ _ _ _ _ (1) ?_ u3 (by omega) hres
              show ((1) : Int32) = of2 30005 (f nm) _
              rw [of2_and, ← hx, ← w3_]
              exact (bI_t ⟨c33, c37⟩).symm
  refine ev_of (by decide +kernel) rfl ?_
  show SW X _ _ _ 0 [some (.ref 66), none, none] [] S0 I L (R0 q) _
  refine s_aload_n (tb_ok aX8_both1_0 0 rfl) rfl ?_
  refine s_cV (as := []) (tb_ok aX8_both1_0 1 rfl) v_RX8_311 (hi _ _ _ h) (by omega) rfl rfl rfl rfl rfl (Nat.le_of_ble_eq_true rfl) (by decide) (fun r1 S1 I1 L1 R1 q1 => ?_)
  obtain ⟨rfl, rfl, v4_, rfl, u4⟩ := q1
  cases e4_ : P s with
  | inr g4_ =>
    rw [e4_] at u4
    have u4 : RBad I0 g4_ _ := u4
    have hsq : (seqP t n opB cdB P) s = .inr g4_ := by unfold seqP; rw [e4_]
    refine s_istore_n (ls' := [some (.ref 66), some (.int v4_), none]) (tb_ok aX8_both1_0 2 rfl) rfl rfl ?_
    refine L_both1 hT hd _ _ u4 (fun v => ⟨rfl, rfl, _, rfl, ?_⟩)
    rw [hsq]
    exact u4
  | inl qq =>
    obtain ⟨c4_, f4_, s4_⟩ := qq
    rw [e4_] at u4
    obtain ⟨w4_, u4⟩ := u4
    have w4_ : v4_ = f4_ nm := w4_
    have u4 : ROk t n 1 I0 s4_ _ _ := u4
    have b4_ := Nice.two (t := t) hN h.2.1 e4_
    have hsq : (seqP t n opB cdB P) s = loopP t n opB cdB P 160 c4_ f4_ s4_ := by unfold seqP; rw [e4_]
    refine s_istore_n (ls' := [some (.ref 66), some (.int v4_), none]) (tb_ok aX8_both1_0 2 rfl) rfl rfl ?_
    exact loop 160 _ _ _ _ _ _ _ w4_ u4 (by omega) hsq.symm

set_option maxRecDepth 100000 in
set_option maxHeartbeats 1000000 in
theorem L_either1 {X : En} {q : Nat × Nat} {I0 : FI} {F n : Nat} {t nm : Nat → Int32} (hT : TxX I0 F n t nm) {d f : Nat} (hd : 2 < d) {Q : Pst} {I : FI} {L : FL} (x : Int32) (o2 : Option Value) (h : RBad I0 f I) (hQ : ∀ v, Q (some (.int v)) S0 I L (R0 q)) : SW X (d + 1) mX8_either1 (0, 0) 5 [some (.ref 66), some (.int x), o2] [] S0 I L (R0 q) (KQ X Q) := by
  refine s_aload_n (tb_ok aX8_either1_0 3 rfl) rfl ?_
  refine s_bipush (v := 111) (tb_ok aX8_either1_0 4 rfl) (by decide) ?_
  refine s_bipush (v := 114) (tb_ok aX8_either1_0 5 rfl) (by decide) ?_
  refine s_iconst (v := 0) (tb_ok aX8_either1_0 6 rfl) (by decide) ?_
  refine s_iconst (v := 0) (tb_ok aX8_either1_0 7 rfl) (by decide) ?_
  refine s_iconst (v := 0) (tb_ok aX8_either1_0 8 rfl) (by decide) ?_
  refine s_iconst (v := 0) (tb_ok aX8_either1_0 9 rfl) (by decide) ?_
  refine s_iconst (v := 0) (tb_ok aX8_either1_0 10 rfl) (by decide) ?_
  refine s_iconst (v := 0) (tb_ok aX8_either1_0 11 rfl) (by decide) ?_
  refine s_cVp (as := [.int (111), .int (114), .int (0), .int (0), .int (0), .int (0), .int (0), .int (0)]) (tb_ok aX8_either1_0 12 rfl) v_RX8_193 (R_isWordE (I0 := I0) h.2.1) (by omega) rfl rfl rfl rfl rfl (Nat.le_of_ble_eq_true rfl) (by decide) ?_
  refine s_if_eq (tgt := 48) (tb_ok aX8_either1_0 13 rfl) (by decide) (fun c19 => ?_) (fun c19 => ?_)
  · refine s_iload_n (tb_ok aX8_either1_1 4 rfl) rfl ?_
    refine s_iret (tb_ok aX8_either1_1 5 rfl) rfl ?_
    exact hQ _
  · exact absurd c19 (by decide)

set_option maxRecDepth 100000 in
set_option maxHeartbeats 1000000 in
theorem C_either1 {X : En} {q : Nat × Nat} {I0 : FI} {F n : Nat} {t nm : Nat → Int32} (hT : TxX I0 F n t nm) {d dp : Nat} (hd : 2 < d) {P : Pa} (hN : Nice n dp P) (hi : CtX X q t nm n I0 d mX8_both1 1 P) : CtX X q t nm n I0 (d + 1) mX8_either1 1 (seqP t n opE cdE P) := by
  intro I L s h
  obtain ⟨hF, hn, hn160, hFn, ht, ht0, hnm⟩ := id hT
  have loop : ∀ k, ∀ (o2 : Option Value) (I : FI) (L : FL) (c : List Int32) (f : Sem) (s1 : St) (x : Int32), x = f nm → ROk t n 1 I0 s1 I L → 160 < s1.pl + k → loopP t n opE cdE P k c f s1 = (seqP t n opE cdE P) s → SW X (d + 1) mX8_either1 (0, 0) 5 [some (.ref 66), some (.int x), o2] [] S0 I L (R0 q) (KQ X (AfP q t nm n 1 I0 ((seqP t n opE cdE P) s))) := by
    intro k
    induction k with
    | zero =>
      intro o2 I L c f s1 x hx h1 hk hres
      have := h1.pln
      omega
    | succ k ih =>
      intro o2 I L c f s1 x hx h1 hk hres
      refine s_aload_n (tb_ok aX8_either1_0 3 rfl) rfl ?_
      refine s_bipush (v := 111) (tb_ok aX8_either1_0 4 rfl) (by decide) ?_
      refine s_bipush (v := 114) (tb_ok aX8_either1_0 5 rfl) (by decide) ?_
      refine s_iconst (v := 0) (tb_ok aX8_either1_0 6 rfl) (by decide) ?_
      refine s_iconst (v := 0) (tb_ok aX8_either1_0 7 rfl) (by decide) ?_
      refine s_iconst (v := 0) (tb_ok aX8_either1_0 8 rfl) (by decide) ?_
      refine s_iconst (v := 0) (tb_ok aX8_either1_0 9 rfl) (by decide) ?_
      refine s_iconst (v := 0) (tb_ok aX8_either1_0 10 rfl) (by decide) ?_
      refine s_iconst (v := 0) (tb_ok aX8_either1_0 11 rfl) (by decide) ?_
      refine s_cVp (as := [.int (111), .int (114), .int (0), .int (0), .int (0), .int (0), .int (0), .int (0)]) (tb_ok aX8_either1_0 12 rfl) v_RX8_193 (R_isWord hT h1 9 (by decide)) (by omega) rfl rfl rfl rfl rfl (Nat.le_of_ble_eq_true rfl) (by decide) ?_
      refine s_topi (bI_congr (isK_key (k := 9) (j := 7) (by decide) rfl)) ?_
      refine s_if_eq (tgt := 48) (tb_ok aX8_either1_0 13 rfl) (by decide) (fun c19 => ?_) (fun c19 => ?_)
      · refine s_iload_n (tb_ok aX8_either1_1 4 rfl) rfl ?_
        refine s_iret (tb_ok aX8_either1_1 5 rfl) rfl ?_
        refine ⟨rfl, rfl, _, rfl, ?_⟩
        rw [← hres, loopP, if_neg (bI_0.mp c19)]
        exact ⟨hx, h1⟩
      · have hop : opE s1.tok := bI_n c19
        refine s_aload_n (tb_ok aX8_either1_0 14 rfl) rfl ?_
        refine s_cV (as := []) (tb_ok aX8_either1_0 15 rfl) v_RX8_190 (R_next hT h1 (by rw [hop]; decide) (by rw [hop]; decide)) (by omega) rfl rfl rfl rfl rfl (Nat.le_of_ble_eq_true rfl) (by decide) (fun r1 S1 I1 L1 R1 q1 => ?_)
        obtain ⟨rfl, rfl, rfl, u1⟩ := q1
        have a2 := (adv_wf (t := t) h1.2.1).2.2 (by rw [hop]; decide)
        refine s_aload_n (tb_ok aX8_either1_0 16 rfl) rfl ?_
        refine s_cV (as := []) (tb_ok aX8_either1_0 17 rfl) v_RX8_314 (hi _ _ _ u1) (by omega) rfl rfl rfl rfl rfl (Nat.le_of_ble_eq_true rfl) (by decide) (fun r2 S2 I2 L2 R2 q2 => ?_)
        obtain ⟨rfl, rfl, v3_, rfl, u3⟩ := q2
        cases e3_ : P (adv t n s1) with
        | inr g3_ =>
          rw [e3_] at u3
          have u3 : RBad I0 g3_ _ := u3
          rw [loopP, if_pos hop, e3_] at hres
          refine s_istore_n (ls' := [some (.ref 66), some (.int x), some (.int v3_)]) (tb_ok aX8_either1_0 18 rfl) rfl rfl ?_
          refine s_iload_n (tb_ok aX8_either1_0 19 rfl) rfl ?_
          refine s_if_ne (tgt := 39) (tb_ok aX8_either1_0 20 rfl) (by decide) (fun c32 => ?_) (fun c32 => ?_)
          · refine s_iconst (v := 1) (tb_ok aX8_either1_0 23 rfl) (by decide) ?_
            refine s_goto (tgt := 44) (tb_ok aX8_either1_1 0 rfl) (by decide) ?_
            refine s_istore_n (ls' := [some (.ref 66), some (.int (1)), some (.int v3_)]) (tb_ok aX8_either1_1 2 rfl) rfl rfl ?_
            refine s_goto (tgt := 5) (tb_ok aX8_either1_1 3 rfl) (by decide) ?_
            refine L_either1 hT hd _ _ u3 (fun v => ⟨rfl, rfl, _, rfl, ?_⟩)
            rw [← hres]
            exact u3
          · refine s_iload_n (tb_ok aX8_either1_0 21 rfl) rfl ?_
            refine s_if_eq (tgt := 43) (tb_ok aX8_either1_0 22 rfl) (by decide) (fun c36 => ?_) (fun c36 => ?_)
            · refine s_iconst (v := 0) (tb_ok aX8_either1_1 1 rfl) (by decide) ?_
              refine s_istore_n (ls' := [some (.ref 66), some (.int (0)), some (.int v3_)]) (tb_ok aX8_either1_1 2 rfl) rfl rfl ?_
              refine s_goto (tgt := 5) (tb_ok aX8_either1_1 3 rfl) (by decide) ?_
              refine L_either1 hT hd _ _ u3 (fun v => ⟨rfl, rfl, _, rfl, ?_⟩)
              rw [← hres]
              exact u3
            · refine s_iconst (v := 1) (tb_ok aX8_either1_0 23 rfl) (by decide) ?_
              refine s_goto (tgt := 44) (tb_ok aX8_either1_1 0 rfl) (by decide) ?_
              refine s_istore_n (ls' := [some (.ref 66), some (.int (1)), some (.int v3_)]) (tb_ok aX8_either1_1 2 rfl) rfl rfl ?_
              refine s_goto (tgt := 5) (tb_ok aX8_either1_1 3 rfl) (by decide) ?_
              refine L_either1 hT hd _ _ u3 (fun v => ⟨rfl, rfl, _, rfl, ?_⟩)
              rw [← hres]
              exact u3
        | inl qq =>
          obtain ⟨c3_, f3_, s3_⟩ := qq
          rw [e3_] at u3
          obtain ⟨w3_, u3⟩ := u3
          have w3_ : v3_ = f3_ nm := w3_
          have u3 : ROk t n 1 I0 s3_ _ _ := u3
          have b3_ := Nice.two (t := t) hN u1.2.1 e3_
          rw [loopP, if_pos hop, e3_] at hres
          refine s_istore_n (ls' := [some (.ref 66), some (.int x), some (.int v3_)]) (tb_ok aX8_either1_0 18 rfl) rfl rfl ?_
          refine s_iload_n (tb_ok aX8_either1_0 19 rfl) rfl ?_
          refine s_if_ne (tgt := 39) (tb_ok aX8_either1_0 20 rfl) (by decide) (fun c32 => ?_) (fun c32 => ?_)
          · refine s_iconst (v := 1) (tb_ok aX8_either1_0 23 rfl) (by decide) ?_
            refine s_goto (tgt := 44) (tb_ok aX8_either1_1 0 rfl) (by decide) ?_
            refine s_istore_n (ls' := [some (.ref 66), some (.int (1)), some (.int v3_)]) (tb_ok aX8_either1_1 2 rfl) rfl rfl ?_
            refine s_goto (tgt := 5) (tb_ok aX8_either1_1 3 rfl) (by decide) ?_
            refine ih _ _ _ _ _ _ (1) ?_ u3 (by omega) hres
            show ((1) : Int32) = of2 30006 (f nm) _
            rw [of2_or, ← hx, ← w3_]
            exact (bI_t (by first | exact Or.inl c32 | exact Or.inr c36)).symm
          · refine s_iload_n (tb_ok aX8_either1_0 21 rfl) rfl ?_
            refine s_if_eq (tgt := 43) (tb_ok aX8_either1_0 22 rfl) (by decide) (fun c36 => ?_) (fun c36 => ?_)
            · refine s_iconst (v := 0) (tb_ok aX8_either1_1 1 rfl) (by decide) ?_
              refine s_istore_n (ls' := [some (.ref 66), some (.int (0)), some (.int v3_)]) (tb_ok aX8_either1_1 2 rfl) rfl rfl ?_
              refine s_goto (tgt := 5) (tb_ok aX8_either1_1 3 rfl) (by decide) ?_
              refine ih _ _ _ _ _ _ (0) ?_ u3 (by omega) hres
              show ((0) : Int32) = of2 30006 (f nm) _
              rw [of2_or, ← hx, ← w3_]
              exact (bI_f (fun h_ => h_.elim (fun k_ => k_ c32) (fun k_ => k_ c36))).symm
            · refine s_iconst (v := 1) (tb_ok aX8_either1_0 23 rfl) (by decide) ?_
              refine s_goto (tgt := 44) (tb_ok aX8_either1_1 0 rfl) (by decide) ?_
              refine s_istore_n (ls' := [some (.ref 66), some (.int (1)), some (.int v3_)]) (tb_ok aX8_either1_1 2 rfl) rfl rfl ?_
              refine s_goto (tgt := 5) (tb_ok aX8_either1_1 3 rfl) (by decide) ?_
              refine ih _ _ _ _ _ _ (1) ?_ u3 (by omega) hres
              show ((1) : Int32) = of2 30006 (f nm) _
              rw [of2_or, ← hx, ← w3_]
              exact (bI_t (by first | exact Or.inl c32 | exact Or.inr c36)).symm
  refine ev_of (by decide +kernel) rfl ?_
  show SW X _ _ _ 0 [some (.ref 66), none, none] [] S0 I L (R0 q) _
  refine s_aload_n (tb_ok aX8_either1_0 0 rfl) rfl ?_
  refine s_cV (as := []) (tb_ok aX8_either1_0 1 rfl) v_RX8_314 (hi _ _ _ h) (by omega) rfl rfl rfl rfl rfl (Nat.le_of_ble_eq_true rfl) (by decide) (fun r1 S1 I1 L1 R1 q1 => ?_)
  obtain ⟨rfl, rfl, v4_, rfl, u4⟩ := q1
  cases e4_ : P s with
  | inr g4_ =>
    rw [e4_] at u4
    have u4 : RBad I0 g4_ _ := u4
    have hsq : (seqP t n opE cdE P) s = .inr g4_ := by unfold seqP; rw [e4_]
    refine s_istore_n (ls' := [some (.ref 66), some (.int v4_), none]) (tb_ok aX8_either1_0 2 rfl) rfl rfl ?_
    refine L_either1 hT hd _ _ u4 (fun v => ⟨rfl, rfl, _, rfl, ?_⟩)
    rw [hsq]
    exact u4
  | inl qq =>
    obtain ⟨c4_, f4_, s4_⟩ := qq
    rw [e4_] at u4
    obtain ⟨w4_, u4⟩ := u4
    have w4_ : v4_ = f4_ nm := w4_
    have u4 : ROk t n 1 I0 s4_ _ _ := u4
    have b4_ := Nice.two (t := t) hN h.2.1 e4_
    have hsq : (seqP t n opE cdE P) s = loopP t n opE cdE P 160 c4_ f4_ s4_ := by unfold seqP; rw [e4_]
    refine s_istore_n (ls' := [some (.ref 66), some (.int v4_), none]) (tb_ok aX8_either1_0 2 rfl) rfl rfl ?_
    exact loop 160 _ _ _ _ _ _ _ w4_ u4 (by omega) hsq.symm

set_option maxRecDepth 100000 in
set_option maxHeartbeats 1000000 in
theorem C_atom0 {X : En} {q : Nat × Nat} {I0 : FI} {F n : Nat} {t nm : Nat → Int32} (hT : TxX I0 F n t nm) {d : Nat} (hd : 3 < d) {q2 : Pa × Pa × Pa} {d1 d2 : Nat} (hd1 : d1 < d) (hd2 : d2 < d) (hi : CtX X q t nm n I0 d1 mX8_atom1 1 q2.2.2) (hj : CtX X q t nm n I0 d2 mX8_either1 1 q2.1) : CtX X q t nm n I0 d mX8_atom0 0 (oneP t n (some q2)) := by
  intro I L s h
  obtain ⟨hF, hn, hn160, hFn, ht, ht0, hnm⟩ := id hT
  refine ev_of (by decide +kernel) rfl ?_
  show SW X _ _ _ 0 [some (.ref 66), none] [] S0 I L (R0 q) _
  refine s_iconst (v := 0) (tb_ok aX8_atom0_0 0 rfl) (by decide) ?_
  refine s_istore_n (ls' := [some (.ref 66), some (.int (0))]) (tb_ok aX8_atom0_0 1 rfl) rfl rfl ?_
  refine s_aload_n (tb_ok aX8_atom0_0 2 rfl) rfl ?_
  refine s_bipush (v := 45) (tb_ok aX8_atom0_0 3 rfl) (by decide) ?_
  refine s_cVp (as := [.int (45)]) (tb_ok aX8_atom0_0 4 rfl) v_RX8_215 (R_isSign (I0 := I0) h.2.2.1 h.2.2.2.2.2 (by decide)) (by omega) rfl rfl rfl rfl rfl (Nat.le_of_ble_eq_true rfl) (by decide) ?_
  refine s_if_eq (tgt := 37) (tb_ok aX8_atom0_0 5 rfl) (by decide) (fun c8 => ?_) (fun c8 => ?_)
  · have n45 : ¬ s.tok = 45 := bI_0.mp c8
    refine s_aload_n (tb_ok aX8_atom0_0 20 rfl) rfl ?_
    refine s_bipush (v := 40) (tb_ok aX8_atom0_0 21 rfl) (by decide) ?_
    refine s_cVp (as := [.int (40)]) (tb_ok aX8_atom0_0 22 rfl) v_RX8_215 (R_isSign (I0 := I0) h.2.2.1 h.2.2.2.2.2 (by decide)) (by omega) rfl rfl rfl rfl rfl (Nat.le_of_ble_eq_true rfl) (by decide) ?_
    refine s_if_eq (tgt := 95) (tb_ok aX8_atom0_0 23 rfl) (by decide) (fun c43 => ?_) (fun c43 => ?_)
    · have n40 : ¬ s.tok = 40 := bI_0.mp c43
      refine s_aload_n (tb_ok aX8_atom0_2 0 rfl) rfl ?_
      refine s_getI (x := (0)) (tb_ok aX8_atom0_2 1 rfl) f_RX8_173 rfl rfl h.2.2.1 ?_
      refine s_if_ne (tgt := 123) (tb_ok aX8_atom0_2 2 rfl) (by decide) (fun c99 => ?_) (fun c99 => ?_)
      · exact absurd c99 (by decide)
      · refine s_aload_n (tb_ok aX8_atom0_2 3 rfl) rfl ?_
        refine s_getI (tb_ok aX8_atom0_2 4 rfl) f_RX8_156 rfl rfl rfl ?_
        refine s_iconst (v := 2) (tb_ok aX8_atom0_2 5 rfl) (by decide) ?_
        refine s_icmp_ne (tgt := 123) (tb_ok aX8_atom0_2 6 rfl) (by decide) (fun c107 => ?_) (fun c107 => ?_)
        · refine s_aload_n (tb_ok aX8_atom0_2 14 rfl) rfl ?_
          refine s_getI (x := (0)) (tb_ok aX8_atom0_2 15 rfl) f_RX8_173 rfl rfl h.2.2.1 ?_
          refine s_if_ne (tgt := 157) (tb_ok aX8_atom0_2 16 rfl) (by decide) (fun c127 => ?_) (fun c127 => ?_)
          · exact absurd c127 (by decide)
          · refine s_aload_n (tb_ok aX8_atom0_2 17 rfl) rfl ?_
            refine s_getI (tb_ok aX8_atom0_2 18 rfl) f_RX8_156 rfl rfl rfl ?_
            refine s_iconst (v := 1) (tb_ok aX8_atom0_2 19 rfl) (by decide) ?_
            refine s_icmp_ne (tgt := 157) (tb_ok aX8_atom0_2 20 rfl) (by decide) (fun c135 => ?_) (fun c135 => ?_)
            · have n2 : ¬ s.tok = 2 := fun e_ => c107 (h.num.mpr e_)
              have n3 : ¬ s.tok = 3 := fun e_ => by
                rcases h.now c135 with k_ | k_ | k_ | k_
                · rw [e_] at k_; exact absurd k_ (by decide)
                · rw [e_] at k_; exact absurd k_ (by decide)
                · rw [e_] at k_; exact absurd k_ (by decide)
                · exact (sg_no k_).2.2.2.1 e_
              have hsq : (oneP t n (some q2)) s = .inr s.pl := by unfold oneP; rw [if_neg (fun h_ => h_.elim n2 n3), if_neg (fun h_ => h_.elim n45 n40)]
              refine s_aload_n (tb_ok aX8_atom0_3 6 rfl) rfl ?_
              refine s_cV (as := []) (tb_ok aX8_atom0_3 7 rfl) v_RX8_187 (R_fail h) (by omega) rfl rfl rfl rfl rfl (Nat.le_of_ble_eq_true rfl) (by decide) (fun r1 S1 I1 L1 R1 q1 => ?_)
              obtain ⟨rfl, rfl, rfl, u1⟩ := q1
              refine s_iload_n (tb_ok aX8_atom0_3 8 rfl) rfl ?_
              refine s_iret (tb_ok aX8_atom0_3 9 rfl) rfl ?_
              refine ⟨rfl, rfl, _, rfl, ?_⟩
              rw [hsq]
              exact u1
            · refine s_aload_n (tb_ok aX8_atom0_2 21 rfl) rfl ?_
              refine s_cV (as := []) (tb_ok aX8_atom0_2 22 rfl) v_RX8_222 (R_name hT h) (by omega) rfl rfl rfl rfl rfl (Nat.le_of_ble_eq_true rfl) (by decide) (fun r2 S2 I2 L2 R2 q2 => ?_)
              obtain ⟨rfl, rfl, v2_, rfl, ⟨h3, w2_, u2⟩ | ⟨n3, u2⟩⟩ := q2
              · have hsq : (oneP t n (some q2)) s = .inl ([s.val], (fun nm => atm nm s.val), adv t n s) := by unfold oneP; rw [if_pos (Or.inr h3)]
                refine s_istore_n (ls' := [some (.ref 66), some (.int v2_)]) (tb_ok aX8_atom0_2 23 rfl) rfl rfl ?_
                refine s_aload_n (tb_ok aX8_atom0_3 0 rfl) rfl ?_
                refine s_getI (x := (0)) (tb_ok aX8_atom0_3 1 rfl) f_RX8_173 rfl rfl u2.2.2.1 ?_
                refine s_if_ne (tgt := 161) (tb_ok aX8_atom0_3 2 rfl) (by decide) (fun c147 => ?_) (fun c147 => ?_)
                · exact absurd c147 (by decide)
                · refine s_aload_n (tb_ok aX8_atom0_3 3 rfl) rfl ?_
                  refine s_cV (as := []) (tb_ok aX8_atom0_3 4 rfl) v_RX8_190 (R_next hT u2 (by rw [h3]; decide) (by rw [h3]; decide)) (by omega) rfl rfl rfl rfl rfl (Nat.le_of_ble_eq_true rfl) (by decide) (fun r3 S3 I3 L3 R3 q3 => ?_)
                  obtain ⟨rfl, rfl, rfl, u3⟩ := q3
                  have a4 := (adv_wf (t := t) u2.2.1).2.2 (by rw [h3]; decide)
                  refine s_goto (tgt := 161) (tb_ok aX8_atom0_3 5 rfl) (by decide) ?_
                  refine s_iload_n (tb_ok aX8_atom0_3 8 rfl) rfl ?_
                  refine s_iret (tb_ok aX8_atom0_3 9 rfl) rfl ?_
                  refine ⟨rfl, rfl, _, rfl, ?_⟩
                  rw [hsq]
                  refine ⟨?_, u3⟩
                  exact w2_
              · have n2 : ¬ s.tok = 2 := fun e_ => by have := h.num.mpr e_; exact c107 this
                have hsq : (oneP t n (some q2)) s = .inr s.pl := by unfold oneP; rw [if_neg (fun h_ => h_.elim n2 n3), if_neg (fun h_ => h_.elim n45 n40)]
                refine s_istore_n (ls' := [some (.ref 66), some (.int v2_)]) (tb_ok aX8_atom0_2 23 rfl) rfl rfl ?_
                refine s_aload_n (tb_ok aX8_atom0_3 0 rfl) rfl ?_
                refine s_getI (x := (1)) (tb_ok aX8_atom0_3 1 rfl) f_RX8_173 rfl rfl u2.2.1 ?_
                refine s_if_ne (tgt := 161) (tb_ok aX8_atom0_3 2 rfl) (by decide) (fun c147 => ?_) (fun c147 => ?_)
                · refine s_iload_n (tb_ok aX8_atom0_3 8 rfl) rfl ?_
                  refine s_iret (tb_ok aX8_atom0_3 9 rfl) rfl ?_
                  refine ⟨rfl, rfl, _, rfl, ?_⟩
                  rw [hsq]
                  exact u2
                · exact absurd c147 (by decide)
        · have ht2 : s.tok = 2 := h.num.mp c107
          have hnv : (L 66 25).toInt32 = atm nm s.val := h.nvl ht2
          have hsq : (oneP t n (some q2)) s = .inl ([s.val], (fun nm => atm nm s.val), adv t n s) := by unfold oneP; rw [if_pos (Or.inl ht2)]
          refine s_aload_n (tb_ok aX8_atom0_2 7 rfl) rfl ?_
          refine s_getL (tb_ok aX8_atom0_2 8 rfl) f_RX8_167 rfl rfl rfl ?_
          refine s_l2i (tb_ok aX8_atom0_2 9 rfl) ?_
          refine s_name (fun x1 ex1 => ?_)
          refine s_istore_n (ls' := [some (.ref 66), some (.int x1)]) (tb_ok aX8_atom0_2 10 rfl) rfl rfl ?_
          refine s_aload_n (tb_ok aX8_atom0_2 11 rfl) rfl ?_
          refine s_cV (as := []) (tb_ok aX8_atom0_2 12 rfl) v_RX8_190 (R_next hT h (by rw [ht2]; decide) (by rw [ht2]; decide)) (by omega) rfl rfl rfl rfl rfl (Nat.le_of_ble_eq_true rfl) (by decide) (fun r4 S4 I4 L4 R4 q4 => ?_)
          obtain ⟨rfl, rfl, rfl, u5⟩ := q4
          have a6 := (adv_wf (t := t) h.2.1).2.2 (by rw [ht2]; decide)
          refine s_goto (tgt := 161) (tb_ok aX8_atom0_2 13 rfl) (by decide) ?_
          refine s_iload_n (tb_ok aX8_atom0_3 8 rfl) rfl ?_
          refine s_iret (tb_ok aX8_atom0_3 9 rfl) rfl ?_
          refine ⟨rfl, rfl, _, rfl, ?_⟩
          rw [hsq]
          refine ⟨?_, u5⟩
          first | exact ex1.trans hnv | exact ex1.trans (congrArg Neg.neg w2_)
    · have h40 : s.tok = 40 := bI_n c43
      have h4 : s.tok = 45 ∨ s.tok = 40 := Or.inr h40
      have h23 : ¬ (s.tok = 2 ∨ s.tok = 3) := by rw [h40]; decide
      refine s_aload_n (tb_ok aX8_atom0_1 0 rfl) rfl ?_
      refine s_cV (as := []) (tb_ok aX8_atom0_1 1 rfl) v_RX8_218 (R_opens hT h (by rw [h40]; decide) (by rw [h40]; decide) (by decide)) (by omega) rfl rfl rfl rfl rfl (Nat.le_of_ble_eq_true rfl) (by decide) (fun r5 S5 I5 L5 R5 q5 => ?_)
      obtain ⟨rfl, rfl, rfl, u7⟩ := q5
      have a8 := (adv_wf (t := t) h.2.1).2.2 (by rw [h40]; decide)
      refine s_if_eq (tgt := 161) (tb_ok aX8_atom0_1 2 rfl) (by decide) (fun c50 => ?_) (fun c50 => ?_)
      · exact absurd c50 (by decide)
      · refine s_aload_n (tb_ok aX8_atom0_1 3 rfl) rfl ?_
        refine s_cV (as := []) (tb_ok aX8_atom0_1 4 rfl) v_RX8_317 (hj _ _ _ u7) (by omega) rfl rfl rfl rfl rfl (Nat.le_of_ble_eq_true rfl) (by decide) (fun r6 S6 I6 L6 R6 q6 => ?_)
        obtain ⟨rfl, rfl, v9_, rfl, u9⟩ := q6
        cases e9_ : q2.1 (adv t n s) with
        | inr g9_ =>
          rw [e9_] at u9
          have u9 : RBad I0 g9_ _ := u9
          have hsq : (oneP t n (some q2)) s = .inr g9_ := by
            unfold oneP
            rw [if_neg h23, if_pos h4]
            show (if s.tok = 45 then _ else _) = _
            rw [if_neg (by rw [h40]; decide)]
            simp only [e9_]
          refine s_istore_n (ls' := [some (.ref 66), some (.int v9_)]) (tb_ok aX8_atom0_1 5 rfl) rfl rfl ?_
          refine s_aload_n (tb_ok aX8_atom0_1 6 rfl) rfl ?_
          refine s_bipush (v := 41) (tb_ok aX8_atom0_1 7 rfl) (by decide) ?_
          refine s_cVp (as := [.int (41)]) (tb_ok aX8_atom0_1 8 rfl) v_RX8_215 (R_isSignE (I0 := I0) u9.2.1) (by omega) rfl rfl rfl rfl rfl (Nat.le_of_ble_eq_true rfl) (by decide) ?_
          refine s_if_ne (tgt := 71) (tb_ok aX8_atom0_1 9 rfl) (by decide) (fun c64 => ?_) (fun c64 => ?_)
          · exact absurd c64 (by decide)
          · refine s_aload_n (tb_ok aX8_atom0_1 10 rfl) rfl ?_
            refine s_cV (as := []) (tb_ok aX8_atom0_1 11 rfl) v_RX8_187 (R_failE u9) (by omega) rfl rfl rfl rfl rfl (Nat.le_of_ble_eq_true rfl) (by decide) (fun r7 S7 I7 L7 R7 q7 => ?_)
            obtain ⟨rfl, rfl, rfl, u10⟩ := q7
            refine s_aload_n (tb_ok aX8_atom0_1 12 rfl) rfl ?_
            refine s_dup (tb_ok aX8_atom0_1 13 rfl) rfl ?_
            refine s_getI (tb_ok aX8_atom0_1 14 rfl) f_RX8_184 rfl rfl rfl ?_
            refine s_iconst (v := 1) (tb_ok aX8_atom0_1 15 rfl) (by decide) ?_
            refine s_isub (tb_ok aX8_atom0_1 16 rfl) ?_
            refine s_putI (tb_ok aX8_atom0_1 17 rfl) f_RX8_184 rfl rfl ?_
            refine s_aload_n (tb_ok aX8_atom0_1 18 rfl) rfl ?_
            refine s_getI (x := (1)) (tb_ok aX8_atom0_1 19 rfl) f_RX8_173 rfl rfl (u10.put26 _).2.1 ?_
            refine s_if_ne (tgt := 161) (tb_ok aX8_atom0_1 20 rfl) (by decide) (fun c85 => ?_) (fun c85 => ?_)
            · refine s_iload_n (tb_ok aX8_atom0_3 8 rfl) rfl ?_
              refine s_iret (tb_ok aX8_atom0_3 9 rfl) rfl ?_
              refine ⟨rfl, rfl, _, rfl, ?_⟩
              rw [hsq]
              exact (u10.put26 _)
            · exact absurd c85 (by decide)
        | inl qq =>
          obtain ⟨c9_, f9_, s9_⟩ := qq
          rw [e9_] at u9
          obtain ⟨w9_, u9⟩ := u9
          have w9_ : v9_ = f9_ nm := w9_
          have u9 : ROk t n 1 I0 s9_ _ _ := u9
          refine s_istore_n (ls' := [some (.ref 66), some (.int v9_)]) (tb_ok aX8_atom0_1 5 rfl) rfl rfl ?_
          refine s_aload_n (tb_ok aX8_atom0_1 6 rfl) rfl ?_
          refine s_bipush (v := 41) (tb_ok aX8_atom0_1 7 rfl) (by decide) ?_
          refine s_cVp (as := [.int (41)]) (tb_ok aX8_atom0_1 8 rfl) v_RX8_215 (R_isSign (I0 := I0) u9.2.2.1 u9.2.2.2.2.2 (by decide)) (by omega) rfl rfl rfl rfl rfl (Nat.le_of_ble_eq_true rfl) (by decide) ?_
          refine s_if_ne (tgt := 71) (tb_ok aX8_atom0_1 9 rfl) (by decide) (fun c64 => ?_) (fun c64 => ?_)
          · refine s_aload_n (tb_ok aX8_atom0_1 12 rfl) rfl ?_
            refine s_dup (tb_ok aX8_atom0_1 13 rfl) rfl ?_
            refine s_getI (x := (nI 1)) (tb_ok aX8_atom0_1 14 rfl) f_RX8_184 rfl rfl u9.2.2.2.1 ?_
            refine s_iconst (v := 1) (tb_ok aX8_atom0_1 15 rfl) (by decide) ?_
            refine s_isub (tb_ok aX8_atom0_1 16 rfl) ?_
            refine s_topi (z := (nI 0)) (by decide) ?_
            refine s_putI (tb_ok aX8_atom0_1 17 rfl) f_RX8_184 rfl rfl ?_
            have u12 := u9.put26 0
            refine s_aload_n (tb_ok aX8_atom0_1 18 rfl) rfl ?_
            refine s_getI (x := (0)) (tb_ok aX8_atom0_1 19 rfl) f_RX8_173 rfl rfl u12.2.2.1 ?_
            refine s_if_ne (tgt := 161) (tb_ok aX8_atom0_1 20 rfl) (by decide) (fun c85 => ?_) (fun c85 => ?_)
            · exact absurd c85 (by decide)
            · have h41 : s9_.tok = 41 := bI_n c64
              have hsq : (oneP t n (some q2)) s = .inl (c9_, f9_, adv t n s9_) := by
                unfold oneP
                rw [if_neg h23, if_pos h4]
                show (if s.tok = 45 then _ else _) = _
                rw [if_neg (by rw [h40]; decide)]
                simp only [e9_]
                rw [if_pos h41]
              refine s_aload_n (tb_ok aX8_atom0_1 21 rfl) rfl ?_
              refine s_cV (as := []) (tb_ok aX8_atom0_1 22 rfl) v_RX8_190 (R_next hT u12 (by rw [h41]; decide) (by rw [h41]; decide)) (by omega) rfl rfl rfl rfl rfl (Nat.le_of_ble_eq_true rfl) (by decide) (fun r8 S8 I8 L8 R8 q8 => ?_)
              obtain ⟨rfl, rfl, rfl, u13⟩ := q8
              have a14 := (adv_wf (t := t) u12.2.1).2.2 (by rw [h41]; decide)
              refine s_goto (tgt := 161) (tb_ok aX8_atom0_1 23 rfl) (by decide) ?_
              refine s_iload_n (tb_ok aX8_atom0_3 8 rfl) rfl ?_
              refine s_iret (tb_ok aX8_atom0_3 9 rfl) rfl ?_
              refine ⟨rfl, rfl, _, rfl, ?_⟩
              rw [hsq]
              refine ⟨?_, u13⟩
              exact w9_
          · have hsq : (oneP t n (some q2)) s = .inr s9_.pl := by
              unfold oneP
              rw [if_neg h23, if_pos h4]
              show (if s.tok = 45 then _ else _) = _
              rw [if_neg (by rw [h40]; decide)]
              simp only [e9_]
              rw [if_neg (bI_0.mp c64)]
            refine s_aload_n (tb_ok aX8_atom0_1 10 rfl) rfl ?_
            refine s_cV (as := []) (tb_ok aX8_atom0_1 11 rfl) v_RX8_187 (R_fail u9) (by omega) rfl rfl rfl rfl rfl (Nat.le_of_ble_eq_true rfl) (by decide) (fun r9 S9 I9 L9 R9 q9 => ?_)
            obtain ⟨rfl, rfl, rfl, u15⟩ := q9
            refine s_aload_n (tb_ok aX8_atom0_1 12 rfl) rfl ?_
            refine s_dup (tb_ok aX8_atom0_1 13 rfl) rfl ?_
            refine s_getI (tb_ok aX8_atom0_1 14 rfl) f_RX8_184 rfl rfl rfl ?_
            refine s_iconst (v := 1) (tb_ok aX8_atom0_1 15 rfl) (by decide) ?_
            refine s_isub (tb_ok aX8_atom0_1 16 rfl) ?_
            refine s_putI (tb_ok aX8_atom0_1 17 rfl) f_RX8_184 rfl rfl ?_
            refine s_aload_n (tb_ok aX8_atom0_1 18 rfl) rfl ?_
            refine s_getI (x := (1)) (tb_ok aX8_atom0_1 19 rfl) f_RX8_173 rfl rfl (u15.put26 _).2.1 ?_
            refine s_if_ne (tgt := 161) (tb_ok aX8_atom0_1 20 rfl) (by decide) (fun c85 => ?_) (fun c85 => ?_)
            · refine s_iload_n (tb_ok aX8_atom0_3 8 rfl) rfl ?_
              refine s_iret (tb_ok aX8_atom0_3 9 rfl) rfl ?_
              refine ⟨rfl, rfl, _, rfl, ?_⟩
              rw [hsq]
              exact (u15.put26 _)
            · exact absurd c85 (by decide)
  · have h45 : s.tok = 45 := bI_n c8
    have h4 : s.tok = 45 ∨ s.tok = 40 := Or.inl h45
    have h23 : ¬ (s.tok = 2 ∨ s.tok = 3) := by rw [h45]; decide
    refine s_aload_n (tb_ok aX8_atom0_0 6 rfl) rfl ?_
    refine s_cV (as := []) (tb_ok aX8_atom0_0 7 rfl) v_RX8_218 (R_opens hT h (by rw [h45]; decide) (by rw [h45]; decide) (by decide)) (by omega) rfl rfl rfl rfl rfl (Nat.le_of_ble_eq_true rfl) (by decide) (fun r10 S10 I10 L10 R10 q10 => ?_)
    obtain ⟨rfl, rfl, rfl, u17⟩ := q10
    have a18 := (adv_wf (t := t) h.2.1).2.2 (by rw [h45]; decide)
    refine s_if_eq (tgt := 161) (tb_ok aX8_atom0_0 8 rfl) (by decide) (fun c15 => ?_) (fun c15 => ?_)
    · exact absurd c15 (by decide)
    · refine s_aload_n (tb_ok aX8_atom0_0 9 rfl) rfl ?_
      refine s_cV (as := []) (tb_ok aX8_atom0_0 10 rfl) v_RX8_302 (hi _ _ _ u17) (by omega) rfl rfl rfl rfl rfl (Nat.le_of_ble_eq_true rfl) (by decide) (fun r11 S11 I11 L11 R11 q11 => ?_)
      obtain ⟨rfl, rfl, v19_, rfl, u19⟩ := q11
      cases e19_ : q2.2.2 (adv t n s) with
      | inr g19_ =>
        rw [e19_] at u19
        have u19 : RBad I0 g19_ _ := u19
        have hsq : (oneP t n (some q2)) s = .inr g19_ := by
          unfold oneP
          rw [if_neg h23, if_pos h4]
          show (if s.tok = 45 then _ else _) = _
          rw [if_pos h45]
          simp only [e19_]
        refine s_ineg (tb_ok aX8_atom0_0 11 rfl) ?_
        refine s_name (fun x2 ex2 => ?_)
        refine s_istore_n (ls' := [some (.ref 66), some (.int x2)]) (tb_ok aX8_atom0_0 12 rfl) rfl rfl ?_
        refine s_aload_n (tb_ok aX8_atom0_0 13 rfl) rfl ?_
        refine s_dup (tb_ok aX8_atom0_0 14 rfl) rfl ?_
        refine s_getI (tb_ok aX8_atom0_0 15 rfl) f_RX8_184 rfl rfl rfl ?_
        refine s_iconst (v := 1) (tb_ok aX8_atom0_0 16 rfl) (by decide) ?_
        refine s_isub (tb_ok aX8_atom0_0 17 rfl) ?_
        refine s_putI (tb_ok aX8_atom0_0 18 rfl) f_RX8_184 rfl rfl ?_
        refine s_goto (tgt := 161) (tb_ok aX8_atom0_0 19 rfl) (by decide) ?_
        refine s_iload_n (tb_ok aX8_atom0_3 8 rfl) rfl ?_
        refine s_iret (tb_ok aX8_atom0_3 9 rfl) rfl ?_
        refine ⟨rfl, rfl, _, rfl, ?_⟩
        rw [hsq]
        exact (u19.put26 _)
      | inl qq =>
        obtain ⟨c19_, f19_, s19_⟩ := qq
        rw [e19_] at u19
        obtain ⟨w19_, u19⟩ := u19
        have w19_ : v19_ = f19_ nm := w19_
        have u19 : ROk t n 1 I0 s19_ _ _ := u19
        have hsq : (oneP t n (some q2)) s = .inl (c19_ ++ [20000], (fun nm => of1 20000 (f19_ nm)), s19_) := by
          unfold oneP
          rw [if_neg h23, if_pos h4]
          show (if s.tok = 45 then _ else _) = _
          rw [if_pos h45]
          simp only [e19_]
        refine s_ineg (tb_ok aX8_atom0_0 11 rfl) ?_
        refine s_name (fun x3 ex3 => ?_)
        refine s_istore_n (ls' := [some (.ref 66), some (.int x3)]) (tb_ok aX8_atom0_0 12 rfl) rfl rfl ?_
        refine s_aload_n (tb_ok aX8_atom0_0 13 rfl) rfl ?_
        refine s_dup (tb_ok aX8_atom0_0 14 rfl) rfl ?_
        refine s_getI (x := (nI 1)) (tb_ok aX8_atom0_0 15 rfl) f_RX8_184 rfl rfl u19.2.2.2.1 ?_
        refine s_iconst (v := 1) (tb_ok aX8_atom0_0 16 rfl) (by decide) ?_
        refine s_isub (tb_ok aX8_atom0_0 17 rfl) ?_
        refine s_topi (z := (nI 0)) (by decide) ?_
        refine s_putI (tb_ok aX8_atom0_0 18 rfl) f_RX8_184 rfl rfl ?_
        have u21 := u19.put26 0
        refine s_goto (tgt := 161) (tb_ok aX8_atom0_0 19 rfl) (by decide) ?_
        refine s_iload_n (tb_ok aX8_atom0_3 8 rfl) rfl ?_
        refine s_iret (tb_ok aX8_atom0_3 9 rfl) rfl ?_
        refine ⟨rfl, rfl, _, rfl, ?_⟩
        rw [hsq]
        refine ⟨?_, u21⟩
        first | exact ex3.trans hnv | exact ex3.trans (congrArg Neg.neg w19_)

set_option maxRecDepth 100000 in
set_option maxHeartbeats 1000000 in
theorem L_term0 {X : En} {q : Nat × Nat} {I0 : FI} {F n : Nat} {t nm : Nat → Int32} (hT : TxX I0 F n t nm) {d f : Nat} (hd : 2 < d) {Q : Pst} {I : FI} {L : FL} (x : Int32) (h : RBad I0 f I) (hQ : ∀ v, Q (some (.int v)) S0 I L (R0 q)) : SW X (d + 1) mX8_term0 (0, 0) 5 [some (.ref 66), some (.int x)] [] S0 I L (R0 q) (KQ X Q) := by
  refine s_aload_n (tb_ok aX8_term0_0 3 rfl) rfl ?_
  refine s_bipush (v := 42) (tb_ok aX8_term0_0 4 rfl) (by decide) ?_
  refine s_cVp (as := [.int (42)]) (tb_ok aX8_term0_0 5 rfl) v_RX8_215 (R_isSignE (I0 := I0) h.2.1) (by omega) rfl rfl rfl rfl rfl (Nat.le_of_ble_eq_true rfl) (by decide) ?_
  refine s_if_eq (tgt := 28) (tb_ok aX8_term0_0 6 rfl) (by decide) (fun c11 => ?_) (fun c11 => ?_)
  · refine s_iload_n (tb_ok aX8_term0_0 15 rfl) rfl ?_
    refine s_iret (tb_ok aX8_term0_0 16 rfl) rfl ?_
    exact hQ _
  · exact absurd c11 (by decide)

set_option maxRecDepth 100000 in
set_option maxHeartbeats 1000000 in
theorem C_term0 {X : En} {q : Nat × Nat} {I0 : FI} {F n : Nat} {t nm : Nat → Int32} (hT : TxX I0 F n t nm) {d dp : Nat} (hd : 2 < d) {P : Pa} (hN : Nice n dp P) (hi : CtX X q t nm n I0 d mX8_atom0 0 P) : CtX X q t nm n I0 (d + 1) mX8_term0 0 (seqP t n opT cdT P) := by
  intro I L s h
  obtain ⟨hF, hn, hn160, hFn, ht, ht0, hnm⟩ := id hT
  have loop : ∀ k, ∀ (I : FI) (L : FL) (c : List Int32) (f : Sem) (s1 : St) (x : Int32), x = f nm → ROk t n 0 I0 s1 I L → 160 < s1.pl + k → loopP t n opT cdT P k c f s1 = (seqP t n opT cdT P) s → SW X (d + 1) mX8_term0 (0, 0) 5 [some (.ref 66), some (.int x)] [] S0 I L (R0 q) (KQ X (AfP q t nm n 0 I0 ((seqP t n opT cdT P) s))) := by
    intro k
    induction k with
    | zero =>
      intro I L c f s1 x hx h1 hk hres
      have := h1.pln
      omega
    | succ k ih =>
      intro I L c f s1 x hx h1 hk hres
      refine s_aload_n (tb_ok aX8_term0_0 3 rfl) rfl ?_
      refine s_bipush (v := 42) (tb_ok aX8_term0_0 4 rfl) (by decide) ?_
      refine s_cVp (as := [.int (42)]) (tb_ok aX8_term0_0 5 rfl) v_RX8_215 (R_isSign (I0 := I0) h1.2.2.1 h1.2.2.2.2.2 (by decide)) (by omega) rfl rfl rfl rfl rfl (Nat.le_of_ble_eq_true rfl) (by decide) ?_
      refine s_if_eq (tgt := 28) (tb_ok aX8_term0_0 6 rfl) (by decide) (fun c11 => ?_) (fun c11 => ?_)
      · refine s_iload_n (tb_ok aX8_term0_0 15 rfl) rfl ?_
        refine s_iret (tb_ok aX8_term0_0 16 rfl) rfl ?_
        refine ⟨rfl, rfl, _, rfl, ?_⟩
        rw [← hres, loopP, if_neg (bI_0.mp c11)]
        exact ⟨hx, h1⟩
      · have hop : opT s1.tok := bI_n c11
        refine s_aload_n (tb_ok aX8_term0_0 7 rfl) rfl ?_
        refine s_cV (as := []) (tb_ok aX8_term0_0 8 rfl) v_RX8_190 (R_next hT h1 (by rw [hop]; decide) (by rw [hop]; decide)) (by omega) rfl rfl rfl rfl rfl (Nat.le_of_ble_eq_true rfl) (by decide) (fun r1 S1 I1 L1 R1 q1 => ?_)
        obtain ⟨rfl, rfl, rfl, u1⟩ := q1
        have a2 := (adv_wf (t := t) h1.2.1).2.2 (by rw [hop]; decide)
        refine s_iload_n (tb_ok aX8_term0_0 9 rfl) rfl ?_
        refine s_aload_n (tb_ok aX8_term0_0 10 rfl) rfl ?_
        refine s_cV (as := []) (tb_ok aX8_term0_0 11 rfl) v_RX8_320 (hi _ _ _ u1) (by omega) rfl rfl rfl rfl rfl (Nat.le_of_ble_eq_true rfl) (by decide) (fun r2 S2 I2 L2 R2 q2 => ?_)
        obtain ⟨rfl, rfl, v3_, rfl, u3⟩ := q2
        cases e3_ : P (adv t n s1) with
        | inr g3_ =>
          rw [e3_] at u3
          have u3 : RBad I0 g3_ _ := u3
          rw [loopP, if_pos hop, e3_] at hres
          refine s_imul (tb_ok aX8_term0_0 12 rfl) ?_
          refine s_name (fun x1 ex1 => ?_)
          refine s_istore_n (ls' := [some (.ref 66), some (.int x1)]) (tb_ok aX8_term0_0 13 rfl) rfl rfl ?_
          refine s_goto (tgt := 5) (tb_ok aX8_term0_0 14 rfl) (by decide) ?_
          refine L_term0 hT hd _ u3 (fun v => ⟨rfl, rfl, _, rfl, ?_⟩)
          rw [← hres]
          exact u3
        | inl qq =>
          obtain ⟨c3_, f3_, s3_⟩ := qq
          rw [e3_] at u3
          obtain ⟨w3_, u3⟩ := u3
          have w3_ : v3_ = f3_ nm := w3_
          have u3 : ROk t n 0 I0 s3_ _ _ := u3
          have b3_ := Nice.two (t := t) hN u1.2.1 e3_
          rw [loopP, if_pos hop, e3_] at hres
          refine s_imul (tb_ok aX8_term0_0 12 rfl) ?_
          refine s_name (fun x2 ex2 => ?_)
          refine s_istore_n (ls' := [some (.ref 66), some (.int x2)]) (tb_ok aX8_term0_0 13 rfl) rfl rfl ?_
          refine s_goto (tgt := 5) (tb_ok aX8_term0_0 14 rfl) (by decide) ?_
          refine ih _ _ _ _ _ x2 ?_ u3 (by omega) hres
          show x2 = of2 30002 (f nm) _
          rw [of2_mul, ex2, hx, w3_]
  refine ev_of (by decide +kernel) rfl ?_
  show SW X _ _ _ 0 [some (.ref 66), none] [] S0 I L (R0 q) _
  refine s_aload_n (tb_ok aX8_term0_0 0 rfl) rfl ?_
  refine s_cV (as := []) (tb_ok aX8_term0_0 1 rfl) v_RX8_320 (hi _ _ _ h) (by omega) rfl rfl rfl rfl rfl (Nat.le_of_ble_eq_true rfl) (by decide) (fun r1 S1 I1 L1 R1 q1 => ?_)
  obtain ⟨rfl, rfl, v4_, rfl, u4⟩ := q1
  cases e4_ : P s with
  | inr g4_ =>
    rw [e4_] at u4
    have u4 : RBad I0 g4_ _ := u4
    have hsq : (seqP t n opT cdT P) s = .inr g4_ := by unfold seqP; rw [e4_]
    refine s_istore_n (ls' := [some (.ref 66), some (.int v4_)]) (tb_ok aX8_term0_0 2 rfl) rfl rfl ?_
    refine L_term0 hT hd _ u4 (fun v => ⟨rfl, rfl, _, rfl, ?_⟩)
    rw [hsq]
    exact u4
  | inl qq =>
    obtain ⟨c4_, f4_, s4_⟩ := qq
    rw [e4_] at u4
    obtain ⟨w4_, u4⟩ := u4
    have w4_ : v4_ = f4_ nm := w4_
    have u4 : ROk t n 0 I0 s4_ _ _ := u4
    have b4_ := Nice.two (t := t) hN h.2.1 e4_
    have hsq : (seqP t n opT cdT P) s = loopP t n opT cdT P 160 c4_ f4_ s4_ := by unfold seqP; rw [e4_]
    refine s_istore_n (ls' := [some (.ref 66), some (.int v4_)]) (tb_ok aX8_term0_0 2 rfl) rfl rfl ?_
    exact loop 160 _ _ _ _ _ _ w4_ u4 (by omega) hsq.symm

set_option maxRecDepth 100000 in
set_option maxHeartbeats 1000000 in
theorem L_added0 {X : En} {q : Nat × Nat} {I0 : FI} {F n : Nat} {t nm : Nat → Int32} (hT : TxX I0 F n t nm) {d f : Nat} (hd : 2 < d) {Q : Pst} {I : FI} {L : FL} (x : Int32) (o2 : Option Value) (o3 : Option Value) (h : RBad I0 f I) (hQ : ∀ v, Q (some (.int v)) S0 I L (R0 q)) : SW X (d + 1) mX8_added0 (0, 0) 5 [some (.ref 66), some (.int x), o2, o3] [] S0 I L (R0 q) (KQ X Q) := by
  refine s_aload_n (tb_ok aX8_added0_0 3 rfl) rfl ?_
  refine s_bipush (v := 43) (tb_ok aX8_added0_0 4 rfl) (by decide) ?_
  refine s_cVp (as := [.int (43)]) (tb_ok aX8_added0_0 5 rfl) v_RX8_215 (R_isSignE (I0 := I0) h.2.1) (by omega) rfl rfl rfl rfl rfl (Nat.le_of_ble_eq_true rfl) (by decide) ?_
  refine s_if_ne (tgt := 23) (tb_ok aX8_added0_0 6 rfl) (by decide) (fun c11 => ?_) (fun c11 => ?_)
  · exact absurd c11 (by decide)
  · refine s_aload_n (tb_ok aX8_added0_0 7 rfl) rfl ?_
    refine s_bipush (v := 45) (tb_ok aX8_added0_0 8 rfl) (by decide) ?_
    refine s_cVp (as := [.int (45)]) (tb_ok aX8_added0_0 9 rfl) v_RX8_215 (R_isSignE (I0 := I0) h.2.1) (by omega) rfl rfl rfl rfl rfl (Nat.le_of_ble_eq_true rfl) (by decide) ?_
    refine s_if_eq (tgt := 66) (tb_ok aX8_added0_0 10 rfl) (by decide) (fun c20 => ?_) (fun c20 => ?_)
    · refine s_iload_n (tb_ok aX8_added0_1 12 rfl) rfl ?_
      refine s_iret (tb_ok aX8_added0_1 13 rfl) rfl ?_
      exact hQ _
    · exact absurd c20 (by decide)

set_option maxRecDepth 100000 in
set_option maxHeartbeats 1000000 in
theorem C_added0 {X : En} {q : Nat × Nat} {I0 : FI} {F n : Nat} {t nm : Nat → Int32} (hT : TxX I0 F n t nm) {d dp : Nat} (hd : 2 < d) {P : Pa} (hN : Nice n dp P) (hi : CtX X q t nm n I0 d mX8_term0 0 P) : CtX X q t nm n I0 (d + 1) mX8_added0 0 (seqP t n opS cdS P) := by
  intro I L s h
  obtain ⟨hF, hn, hn160, hFn, ht, ht0, hnm⟩ := id hT
  have loop : ∀ k, ∀ (o2 : Option Value) (o3 : Option Value) (I : FI) (L : FL) (c : List Int32) (f : Sem) (s1 : St) (x : Int32), x = f nm → ROk t n 0 I0 s1 I L → 160 < s1.pl + k → loopP t n opS cdS P k c f s1 = (seqP t n opS cdS P) s → SW X (d + 1) mX8_added0 (0, 0) 5 [some (.ref 66), some (.int x), o2, o3] [] S0 I L (R0 q) (KQ X (AfP q t nm n 0 I0 ((seqP t n opS cdS P) s))) := by
    intro k
    induction k with
    | zero =>
      intro o2 o3 I L c f s1 x hx h1 hk hres
      have := h1.pln
      omega
    | succ k ih =>
      intro o2 o3 I L c f s1 x hx h1 hk hres
      refine s_aload_n (tb_ok aX8_added0_0 3 rfl) rfl ?_
      refine s_bipush (v := 43) (tb_ok aX8_added0_0 4 rfl) (by decide) ?_
      refine s_cVp (as := [.int (43)]) (tb_ok aX8_added0_0 5 rfl) v_RX8_215 (R_isSign (I0 := I0) h1.2.2.1 h1.2.2.2.2.2 (by decide)) (by omega) rfl rfl rfl rfl rfl (Nat.le_of_ble_eq_true rfl) (by decide) ?_
      refine s_if_ne (tgt := 23) (tb_ok aX8_added0_0 6 rfl) (by decide) (fun c11 => ?_) (fun c11 => ?_)
      · have hop : opS s1.tok := by first | exact Or.inl (bI_n c11) | exact Or.inr (bI_n c20)
        have hwr := h1.wrth (by rcases hop with e_ | e_ <;> rw [e_] <;> decide)
        refine s_aload_n (tb_ok aX8_added0_0 11 rfl) rfl ?_
        refine s_getL (tb_ok aX8_added0_0 12 rfl) f_RX8_167 rfl rfl rfl ?_
        refine s_ldc2 (tb_ok aX8_added0_0 13 rfl) k_RX8_232 ?_
        refine s_lcmp (tb_ok aX8_added0_0 14 rfl) ?_
        refine s_if_ne (tgt := 38) (tb_ok aX8_added0_0 15 rfl) (by decide) (fun c31 => ?_) (fun c31 => ?_)
        · have h43 : ¬ s1.tok = 43 := fun e_ => c31 ((cmp_eq _ _).mpr (hwr.trans (by rw [e_]; rfl)))
          refine s_iconst (v := 0) (tb_ok aX8_added0_0 18 rfl) (by decide) ?_
          refine s_istore_n (ls' := [some (.ref 66), some (.int x), some (.int (0)), o3]) (tb_ok aX8_added0_0 19 rfl) rfl rfl ?_
          refine s_aload_n (tb_ok aX8_added0_0 20 rfl) rfl ?_
          refine s_cV (as := []) (tb_ok aX8_added0_0 21 rfl) v_RX8_190 (R_next hT h1 (by rcases hop with e_ | e_ <;> rw [e_] <;> decide) (by rcases hop with e_ | e_ <;> rw [e_] <;> decide)) (by omega) rfl rfl rfl rfl rfl (Nat.le_of_ble_eq_true rfl) (by decide) (fun r1 S1 I1 L1 R1 q1 => ?_)
          obtain ⟨rfl, rfl, rfl, u1⟩ := q1
          have a2 := (adv_wf (t := t) h1.2.1).2.2 (by rcases hop with e_ | e_ <;> rw [e_] <;> decide)
          refine s_aload_n (tb_ok aX8_added0_0 22 rfl) rfl ?_
          refine s_cV (as := []) (tb_ok aX8_added0_0 23 rfl) v_RX8_323 (hi _ _ _ u1) (by omega) rfl rfl rfl rfl rfl (Nat.le_of_ble_eq_true rfl) (by decide) (fun r2 S2 I2 L2 R2 q2 => ?_)
          obtain ⟨rfl, rfl, v3_, rfl, u3⟩ := q2
          cases e3_ : P (adv t n s1) with
          | inr g3_ =>
            rw [e3_] at u3
            have u3 : RBad I0 g3_ _ := u3
            rw [loopP, if_pos hop, e3_] at hres
            refine s_istore_n (ls' := [some (.ref 66), some (.int x), some (.int (0)), some (.int v3_)]) (tb_ok aX8_added0_1 0 rfl) rfl rfl ?_
            refine s_iload_n (tb_ok aX8_added0_1 1 rfl) rfl ?_
            refine s_if_eq (tgt := 59) (tb_ok aX8_added0_1 2 rfl) (by decide) (fun c50 => ?_) (fun c50 => ?_)
            · refine s_iload_n (tb_ok aX8_added0_1 7 rfl) rfl ?_
              refine s_iload_n (tb_ok aX8_added0_1 8 rfl) rfl ?_
              refine s_isub (tb_ok aX8_added0_1 9 rfl) ?_
              refine s_name (fun x1 ex1 => ?_)
              refine s_istore_n (ls' := [some (.ref 66), some (.int x1), some (.int (0)), some (.int v3_)]) (tb_ok aX8_added0_1 10 rfl) rfl rfl ?_
              refine s_goto (tgt := 5) (tb_ok aX8_added0_1 11 rfl) (by decide) ?_
              refine L_added0 hT hd _ _ _ u3 (fun v => ⟨rfl, rfl, _, rfl, ?_⟩)
              rw [← hres]
              exact u3
            · exact absurd c50 (by decide)
          | inl qq =>
            obtain ⟨c3_, f3_, s3_⟩ := qq
            rw [e3_] at u3
            obtain ⟨w3_, u3⟩ := u3
            have w3_ : v3_ = f3_ nm := w3_
            have u3 : ROk t n 0 I0 s3_ _ _ := u3
            have b3_ := Nice.two (t := t) hN u1.2.1 e3_
            rw [loopP, if_pos hop, e3_] at hres
            refine s_istore_n (ls' := [some (.ref 66), some (.int x), some (.int (0)), some (.int v3_)]) (tb_ok aX8_added0_1 0 rfl) rfl rfl ?_
            refine s_iload_n (tb_ok aX8_added0_1 1 rfl) rfl ?_
            refine s_if_eq (tgt := 59) (tb_ok aX8_added0_1 2 rfl) (by decide) (fun c50 => ?_) (fun c50 => ?_)
            · refine s_iload_n (tb_ok aX8_added0_1 7 rfl) rfl ?_
              refine s_iload_n (tb_ok aX8_added0_1 8 rfl) rfl ?_
              refine s_isub (tb_ok aX8_added0_1 9 rfl) ?_
              refine s_name (fun x2 ex2 => ?_)
              refine s_istore_n (ls' := [some (.ref 66), some (.int x2), some (.int (0)), some (.int v3_)]) (tb_ok aX8_added0_1 10 rfl) rfl rfl ?_
              refine s_goto (tgt := 5) (tb_ok aX8_added0_1 11 rfl) (by decide) ?_
              refine ih _ _ _ _ _ _ _ x2 ?_ u3 (by omega) hres
              show x2 = of2 (cdS s1.tok) (f nm) _
              first | (rw [show cdS s1.tok = 30000 from if_pos h43, of2_add, ex2, hx, w3_]; done) | (rw [show cdS s1.tok = 30001 from if_neg h43, of2_sub, ex2, hx, w3_]; done)
            · exact absurd c50 (by decide)
        · have h43 : s1.tok = 43 := i64_inj.mp (hwr.symm.trans ((cmp_eq _ _).mp c31))
          refine s_iconst (v := 1) (tb_ok aX8_added0_0 16 rfl) (by decide) ?_
          refine s_goto (tgt := 39) (tb_ok aX8_added0_0 17 rfl) (by decide) ?_
          refine s_istore_n (ls' := [some (.ref 66), some (.int x), some (.int (1)), o3]) (tb_ok aX8_added0_0 19 rfl) rfl rfl ?_
          refine s_aload_n (tb_ok aX8_added0_0 20 rfl) rfl ?_
          refine s_cV (as := []) (tb_ok aX8_added0_0 21 rfl) v_RX8_190 (R_next hT h1 (by rcases hop with e_ | e_ <;> rw [e_] <;> decide) (by rcases hop with e_ | e_ <;> rw [e_] <;> decide)) (by omega) rfl rfl rfl rfl rfl (Nat.le_of_ble_eq_true rfl) (by decide) (fun r3 S3 I3 L3 R3 q3 => ?_)
          obtain ⟨rfl, rfl, rfl, u4⟩ := q3
          have a5 := (adv_wf (t := t) h1.2.1).2.2 (by rcases hop with e_ | e_ <;> rw [e_] <;> decide)
          refine s_aload_n (tb_ok aX8_added0_0 22 rfl) rfl ?_
          refine s_cV (as := []) (tb_ok aX8_added0_0 23 rfl) v_RX8_323 (hi _ _ _ u4) (by omega) rfl rfl rfl rfl rfl (Nat.le_of_ble_eq_true rfl) (by decide) (fun r4 S4 I4 L4 R4 q4 => ?_)
          obtain ⟨rfl, rfl, v6_, rfl, u6⟩ := q4
          cases e6_ : P (adv t n s1) with
          | inr g6_ =>
            rw [e6_] at u6
            have u6 : RBad I0 g6_ _ := u6
            rw [loopP, if_pos hop, e6_] at hres
            refine s_istore_n (ls' := [some (.ref 66), some (.int x), some (.int (1)), some (.int v6_)]) (tb_ok aX8_added0_1 0 rfl) rfl rfl ?_
            refine s_iload_n (tb_ok aX8_added0_1 1 rfl) rfl ?_
            refine s_if_eq (tgt := 59) (tb_ok aX8_added0_1 2 rfl) (by decide) (fun c50 => ?_) (fun c50 => ?_)
            · exact absurd c50 (by decide)
            · refine s_iload_n (tb_ok aX8_added0_1 3 rfl) rfl ?_
              refine s_iload_n (tb_ok aX8_added0_1 4 rfl) rfl ?_
              refine s_iadd (tb_ok aX8_added0_1 5 rfl) ?_
              refine s_goto (tgt := 62) (tb_ok aX8_added0_1 6 rfl) (by decide) ?_
              refine s_name (fun x3 ex3 => ?_)
              refine s_istore_n (ls' := [some (.ref 66), some (.int x3), some (.int (1)), some (.int v6_)]) (tb_ok aX8_added0_1 10 rfl) rfl rfl ?_
              refine s_goto (tgt := 5) (tb_ok aX8_added0_1 11 rfl) (by decide) ?_
              refine L_added0 hT hd _ _ _ u6 (fun v => ⟨rfl, rfl, _, rfl, ?_⟩)
              rw [← hres]
              exact u6
          | inl qq =>
            obtain ⟨c6_, f6_, s6_⟩ := qq
            rw [e6_] at u6
            obtain ⟨w6_, u6⟩ := u6
            have w6_ : v6_ = f6_ nm := w6_
            have u6 : ROk t n 0 I0 s6_ _ _ := u6
            have b6_ := Nice.two (t := t) hN u4.2.1 e6_
            rw [loopP, if_pos hop, e6_] at hres
            refine s_istore_n (ls' := [some (.ref 66), some (.int x), some (.int (1)), some (.int v6_)]) (tb_ok aX8_added0_1 0 rfl) rfl rfl ?_
            refine s_iload_n (tb_ok aX8_added0_1 1 rfl) rfl ?_
            refine s_if_eq (tgt := 59) (tb_ok aX8_added0_1 2 rfl) (by decide) (fun c50 => ?_) (fun c50 => ?_)
            · exact absurd c50 (by decide)
            · refine s_iload_n (tb_ok aX8_added0_1 3 rfl) rfl ?_
              refine s_iload_n (tb_ok aX8_added0_1 4 rfl) rfl ?_
              refine s_iadd (tb_ok aX8_added0_1 5 rfl) ?_
              refine s_goto (tgt := 62) (tb_ok aX8_added0_1 6 rfl) (by decide) ?_
              refine s_name (fun x4 ex4 => ?_)
              refine s_istore_n (ls' := [some (.ref 66), some (.int x4), some (.int (1)), some (.int v6_)]) (tb_ok aX8_added0_1 10 rfl) rfl rfl ?_
              refine s_goto (tgt := 5) (tb_ok aX8_added0_1 11 rfl) (by decide) ?_
              refine ih _ _ _ _ _ _ _ x4 ?_ u6 (by omega) hres
              show x4 = of2 (cdS s1.tok) (f nm) _
              first | (rw [show cdS s1.tok = 30000 from if_pos h43, of2_add, ex4, hx, w6_]; done) | (rw [show cdS s1.tok = 30001 from if_neg h43, of2_sub, ex4, hx, w6_]; done)
      · refine s_aload_n (tb_ok aX8_added0_0 7 rfl) rfl ?_
        refine s_bipush (v := 45) (tb_ok aX8_added0_0 8 rfl) (by decide) ?_
        refine s_cVp (as := [.int (45)]) (tb_ok aX8_added0_0 9 rfl) v_RX8_215 (R_isSign (I0 := I0) h1.2.2.1 h1.2.2.2.2.2 (by decide)) (by omega) rfl rfl rfl rfl rfl (Nat.le_of_ble_eq_true rfl) (by decide) ?_
        refine s_if_eq (tgt := 66) (tb_ok aX8_added0_0 10 rfl) (by decide) (fun c20 => ?_) (fun c20 => ?_)
        · refine s_iload_n (tb_ok aX8_added0_1 12 rfl) rfl ?_
          refine s_iret (tb_ok aX8_added0_1 13 rfl) rfl ?_
          refine ⟨rfl, rfl, _, rfl, ?_⟩
          rw [← hres, loopP, if_neg (fun h_ => h_.elim (bI_0.mp c11) (bI_0.mp c20))]
          exact ⟨hx, h1⟩
        · have hop : opS s1.tok := by first | exact Or.inl (bI_n c11) | exact Or.inr (bI_n c20)
          have hwr := h1.wrth (by rcases hop with e_ | e_ <;> rw [e_] <;> decide)
          refine s_aload_n (tb_ok aX8_added0_0 11 rfl) rfl ?_
          refine s_getL (tb_ok aX8_added0_0 12 rfl) f_RX8_167 rfl rfl rfl ?_
          refine s_ldc2 (tb_ok aX8_added0_0 13 rfl) k_RX8_232 ?_
          refine s_lcmp (tb_ok aX8_added0_0 14 rfl) ?_
          refine s_if_ne (tgt := 38) (tb_ok aX8_added0_0 15 rfl) (by decide) (fun c31 => ?_) (fun c31 => ?_)
          · have h43 : ¬ s1.tok = 43 := fun e_ => c31 ((cmp_eq _ _).mpr (hwr.trans (by rw [e_]; rfl)))
            refine s_iconst (v := 0) (tb_ok aX8_added0_0 18 rfl) (by decide) ?_
            refine s_istore_n (ls' := [some (.ref 66), some (.int x), some (.int (0)), o3]) (tb_ok aX8_added0_0 19 rfl) rfl rfl ?_
            refine s_aload_n (tb_ok aX8_added0_0 20 rfl) rfl ?_
            refine s_cV (as := []) (tb_ok aX8_added0_0 21 rfl) v_RX8_190 (R_next hT h1 (by rcases hop with e_ | e_ <;> rw [e_] <;> decide) (by rcases hop with e_ | e_ <;> rw [e_] <;> decide)) (by omega) rfl rfl rfl rfl rfl (Nat.le_of_ble_eq_true rfl) (by decide) (fun r5 S5 I5 L5 R5 q5 => ?_)
            obtain ⟨rfl, rfl, rfl, u7⟩ := q5
            have a8 := (adv_wf (t := t) h1.2.1).2.2 (by rcases hop with e_ | e_ <;> rw [e_] <;> decide)
            refine s_aload_n (tb_ok aX8_added0_0 22 rfl) rfl ?_
            refine s_cV (as := []) (tb_ok aX8_added0_0 23 rfl) v_RX8_323 (hi _ _ _ u7) (by omega) rfl rfl rfl rfl rfl (Nat.le_of_ble_eq_true rfl) (by decide) (fun r6 S6 I6 L6 R6 q6 => ?_)
            obtain ⟨rfl, rfl, v9_, rfl, u9⟩ := q6
            cases e9_ : P (adv t n s1) with
            | inr g9_ =>
              rw [e9_] at u9
              have u9 : RBad I0 g9_ _ := u9
              rw [loopP, if_pos hop, e9_] at hres
              refine s_istore_n (ls' := [some (.ref 66), some (.int x), some (.int (0)), some (.int v9_)]) (tb_ok aX8_added0_1 0 rfl) rfl rfl ?_
              refine s_iload_n (tb_ok aX8_added0_1 1 rfl) rfl ?_
              refine s_if_eq (tgt := 59) (tb_ok aX8_added0_1 2 rfl) (by decide) (fun c50 => ?_) (fun c50 => ?_)
              · refine s_iload_n (tb_ok aX8_added0_1 7 rfl) rfl ?_
                refine s_iload_n (tb_ok aX8_added0_1 8 rfl) rfl ?_
                refine s_isub (tb_ok aX8_added0_1 9 rfl) ?_
                refine s_name (fun x5 ex5 => ?_)
                refine s_istore_n (ls' := [some (.ref 66), some (.int x5), some (.int (0)), some (.int v9_)]) (tb_ok aX8_added0_1 10 rfl) rfl rfl ?_
                refine s_goto (tgt := 5) (tb_ok aX8_added0_1 11 rfl) (by decide) ?_
                refine L_added0 hT hd _ _ _ u9 (fun v => ⟨rfl, rfl, _, rfl, ?_⟩)
                rw [← hres]
                exact u9
              · exact absurd c50 (by decide)
            | inl qq =>
              obtain ⟨c9_, f9_, s9_⟩ := qq
              rw [e9_] at u9
              obtain ⟨w9_, u9⟩ := u9
              have w9_ : v9_ = f9_ nm := w9_
              have u9 : ROk t n 0 I0 s9_ _ _ := u9
              have b9_ := Nice.two (t := t) hN u7.2.1 e9_
              rw [loopP, if_pos hop, e9_] at hres
              refine s_istore_n (ls' := [some (.ref 66), some (.int x), some (.int (0)), some (.int v9_)]) (tb_ok aX8_added0_1 0 rfl) rfl rfl ?_
              refine s_iload_n (tb_ok aX8_added0_1 1 rfl) rfl ?_
              refine s_if_eq (tgt := 59) (tb_ok aX8_added0_1 2 rfl) (by decide) (fun c50 => ?_) (fun c50 => ?_)
              · refine s_iload_n (tb_ok aX8_added0_1 7 rfl) rfl ?_
                refine s_iload_n (tb_ok aX8_added0_1 8 rfl) rfl ?_
                refine s_isub (tb_ok aX8_added0_1 9 rfl) ?_
                refine s_name (fun x6 ex6 => ?_)
                refine s_istore_n (ls' := [some (.ref 66), some (.int x6), some (.int (0)), some (.int v9_)]) (tb_ok aX8_added0_1 10 rfl) rfl rfl ?_
                refine s_goto (tgt := 5) (tb_ok aX8_added0_1 11 rfl) (by decide) ?_
                refine ih _ _ _ _ _ _ _ x6 ?_ u9 (by omega) hres
                show x6 = of2 (cdS s1.tok) (f nm) _
                first | (rw [show cdS s1.tok = 30000 from if_pos h43, of2_add, ex6, hx, w9_]; done) | (rw [show cdS s1.tok = 30001 from if_neg h43, of2_sub, ex6, hx, w9_]; done)
              · exact absurd c50 (by decide)
          · have h43 : s1.tok = 43 := i64_inj.mp (hwr.symm.trans ((cmp_eq _ _).mp c31))
            refine s_iconst (v := 1) (tb_ok aX8_added0_0 16 rfl) (by decide) ?_
            refine s_goto (tgt := 39) (tb_ok aX8_added0_0 17 rfl) (by decide) ?_
            refine s_istore_n (ls' := [some (.ref 66), some (.int x), some (.int (1)), o3]) (tb_ok aX8_added0_0 19 rfl) rfl rfl ?_
            refine s_aload_n (tb_ok aX8_added0_0 20 rfl) rfl ?_
            refine s_cV (as := []) (tb_ok aX8_added0_0 21 rfl) v_RX8_190 (R_next hT h1 (by rcases hop with e_ | e_ <;> rw [e_] <;> decide) (by rcases hop with e_ | e_ <;> rw [e_] <;> decide)) (by omega) rfl rfl rfl rfl rfl (Nat.le_of_ble_eq_true rfl) (by decide) (fun r7 S7 I7 L7 R7 q7 => ?_)
            obtain ⟨rfl, rfl, rfl, u10⟩ := q7
            have a11 := (adv_wf (t := t) h1.2.1).2.2 (by rcases hop with e_ | e_ <;> rw [e_] <;> decide)
            refine s_aload_n (tb_ok aX8_added0_0 22 rfl) rfl ?_
            refine s_cV (as := []) (tb_ok aX8_added0_0 23 rfl) v_RX8_323 (hi _ _ _ u10) (by omega) rfl rfl rfl rfl rfl (Nat.le_of_ble_eq_true rfl) (by decide) (fun r8 S8 I8 L8 R8 q8 => ?_)
            obtain ⟨rfl, rfl, v12_, rfl, u12⟩ := q8
            cases e12_ : P (adv t n s1) with
            | inr g12_ =>
              rw [e12_] at u12
              have u12 : RBad I0 g12_ _ := u12
              rw [loopP, if_pos hop, e12_] at hres
              refine s_istore_n (ls' := [some (.ref 66), some (.int x), some (.int (1)), some (.int v12_)]) (tb_ok aX8_added0_1 0 rfl) rfl rfl ?_
              refine s_iload_n (tb_ok aX8_added0_1 1 rfl) rfl ?_
              refine s_if_eq (tgt := 59) (tb_ok aX8_added0_1 2 rfl) (by decide) (fun c50 => ?_) (fun c50 => ?_)
              · exact absurd c50 (by decide)
              · refine s_iload_n (tb_ok aX8_added0_1 3 rfl) rfl ?_
                refine s_iload_n (tb_ok aX8_added0_1 4 rfl) rfl ?_
                refine s_iadd (tb_ok aX8_added0_1 5 rfl) ?_
                refine s_goto (tgt := 62) (tb_ok aX8_added0_1 6 rfl) (by decide) ?_
                refine s_name (fun x7 ex7 => ?_)
                refine s_istore_n (ls' := [some (.ref 66), some (.int x7), some (.int (1)), some (.int v12_)]) (tb_ok aX8_added0_1 10 rfl) rfl rfl ?_
                refine s_goto (tgt := 5) (tb_ok aX8_added0_1 11 rfl) (by decide) ?_
                refine L_added0 hT hd _ _ _ u12 (fun v => ⟨rfl, rfl, _, rfl, ?_⟩)
                rw [← hres]
                exact u12
            | inl qq =>
              obtain ⟨c12_, f12_, s12_⟩ := qq
              rw [e12_] at u12
              obtain ⟨w12_, u12⟩ := u12
              have w12_ : v12_ = f12_ nm := w12_
              have u12 : ROk t n 0 I0 s12_ _ _ := u12
              have b12_ := Nice.two (t := t) hN u10.2.1 e12_
              rw [loopP, if_pos hop, e12_] at hres
              refine s_istore_n (ls' := [some (.ref 66), some (.int x), some (.int (1)), some (.int v12_)]) (tb_ok aX8_added0_1 0 rfl) rfl rfl ?_
              refine s_iload_n (tb_ok aX8_added0_1 1 rfl) rfl ?_
              refine s_if_eq (tgt := 59) (tb_ok aX8_added0_1 2 rfl) (by decide) (fun c50 => ?_) (fun c50 => ?_)
              · exact absurd c50 (by decide)
              · refine s_iload_n (tb_ok aX8_added0_1 3 rfl) rfl ?_
                refine s_iload_n (tb_ok aX8_added0_1 4 rfl) rfl ?_
                refine s_iadd (tb_ok aX8_added0_1 5 rfl) ?_
                refine s_goto (tgt := 62) (tb_ok aX8_added0_1 6 rfl) (by decide) ?_
                refine s_name (fun x8 ex8 => ?_)
                refine s_istore_n (ls' := [some (.ref 66), some (.int x8), some (.int (1)), some (.int v12_)]) (tb_ok aX8_added0_1 10 rfl) rfl rfl ?_
                refine s_goto (tgt := 5) (tb_ok aX8_added0_1 11 rfl) (by decide) ?_
                refine ih _ _ _ _ _ _ _ x8 ?_ u12 (by omega) hres
                show x8 = of2 (cdS s1.tok) (f nm) _
                first | (rw [show cdS s1.tok = 30000 from if_pos h43, of2_add, ex8, hx, w12_]; done) | (rw [show cdS s1.tok = 30001 from if_neg h43, of2_sub, ex8, hx, w12_]; done)
  refine ev_of (by decide +kernel) rfl ?_
  show SW X _ _ _ 0 [some (.ref 66), none, none, none] [] S0 I L (R0 q) _
  refine s_aload_n (tb_ok aX8_added0_0 0 rfl) rfl ?_
  refine s_cV (as := []) (tb_ok aX8_added0_0 1 rfl) v_RX8_323 (hi _ _ _ h) (by omega) rfl rfl rfl rfl rfl (Nat.le_of_ble_eq_true rfl) (by decide) (fun r1 S1 I1 L1 R1 q1 => ?_)
  obtain ⟨rfl, rfl, v13_, rfl, u13⟩ := q1
  cases e13_ : P s with
  | inr g13_ =>
    rw [e13_] at u13
    have u13 : RBad I0 g13_ _ := u13
    have hsq : (seqP t n opS cdS P) s = .inr g13_ := by unfold seqP; rw [e13_]
    refine s_istore_n (ls' := [some (.ref 66), some (.int v13_), none, none]) (tb_ok aX8_added0_0 2 rfl) rfl rfl ?_
    refine L_added0 hT hd _ _ _ u13 (fun v => ⟨rfl, rfl, _, rfl, ?_⟩)
    rw [hsq]
    exact u13
  | inl qq =>
    obtain ⟨c13_, f13_, s13_⟩ := qq
    rw [e13_] at u13
    obtain ⟨w13_, u13⟩ := u13
    have w13_ : v13_ = f13_ nm := w13_
    have u13 : ROk t n 0 I0 s13_ _ _ := u13
    have b13_ := Nice.two (t := t) hN h.2.1 e13_
    have hsq : (seqP t n opS cdS P) s = loopP t n opS cdS P 160 c13_ f13_ s13_ := by unfold seqP; rw [e13_]
    refine s_istore_n (ls' := [some (.ref 66), some (.int v13_), none, none]) (tb_ok aX8_added0_0 2 rfl) rfl rfl ?_
    exact loop 160 _ _ _ _ _ _ _ _ w13_ u13 (by omega) hsq.symm

set_option maxRecDepth 100000 in
set_option maxHeartbeats 1000000 in
theorem C_not0 {X : En} {q : Nat × Nat} {I0 : FI} {F n : Nat} {t nm : Nat → Int32} (hT : TxX I0 F n t nm) {d : Nat} (hd : 3 < d) {d1 d2 : Nat} (hd1 : d1 < d) (hd2 : d2 < d) {P : Pa} (hc : CtX X q t nm n I0 d1 mX8_added0 0 P) {q2 : Pa × Pa × Pa} (hi : CtX X q t nm n I0 d2 mX8_not1 1 q2.2.1) : CtX X q t nm n I0 d mX8_not0 0 (notP t n (some q2) (cmpP t n P)) := by
  intro I L s h
  obtain ⟨hF, hn, hn160, hFn, ht, ht0, hnm⟩ := id hT
  refine ev_of (by decide +kernel) rfl ?_
  show SW X _ _ _ 0 [some (.ref 66), none, none, none] [] S0 I L (R0 q) _
  refine s_aload_n (tb_ok aX8_not0_0 0 rfl) rfl ?_
  refine s_bipush (v := 110) (tb_ok aX8_not0_0 1 rfl) (by decide) ?_
  refine s_bipush (v := 111) (tb_ok aX8_not0_0 2 rfl) (by decide) ?_
  refine s_bipush (v := 116) (tb_ok aX8_not0_0 3 rfl) (by decide) ?_
  refine s_iconst (v := 0) (tb_ok aX8_not0_0 4 rfl) (by decide) ?_
  refine s_iconst (v := 0) (tb_ok aX8_not0_0 5 rfl) (by decide) ?_
  refine s_iconst (v := 0) (tb_ok aX8_not0_0 6 rfl) (by decide) ?_
  refine s_iconst (v := 0) (tb_ok aX8_not0_0 7 rfl) (by decide) ?_
  refine s_iconst (v := 0) (tb_ok aX8_not0_0 8 rfl) (by decide) ?_
  refine s_cVp (as := [.int (110), .int (111), .int (116), .int (0), .int (0), .int (0), .int (0), .int (0)]) (tb_ok aX8_not0_0 9 rfl) v_RX8_193 (R_isWord hT h 11 (by decide)) (by omega) rfl rfl rfl rfl rfl (Nat.le_of_ble_eq_true rfl) (by decide) ?_
  refine s_topi (bI_congr (isK_key (k := 11) (j := 9) (by decide) rfl)) ?_
  refine s_if_eq (tgt := 52) (tb_ok aX8_not0_0 10 rfl) (by decide) (fun c15 => ?_) (fun c15 => ?_)
  · have n9 : ¬ s.tok = 9 := bI_0.mp c15
    refine s_aload_n (tb_ok aX8_not0_1 7 rfl) rfl ?_
    refine s_cV (as := []) (tb_ok aX8_not0_1 8 rfl) v_RX8_326 (hc _ _ _ h) (by omega) rfl rfl rfl rfl rfl (Nat.le_of_ble_eq_true rfl) (by decide) (fun r1 S1 I1 L1 R1 q1 => ?_)
    obtain ⟨rfl, rfl, v1_, rfl, u1⟩ := q1
    cases e1_ : P s with
    | inr g1_ =>
      rw [e1_] at u1
      have u1 : RBad I0 g1_ _ := u1
      have hsq : (notP t n (some q2) (cmpP t n P)) s = .inr g1_ := by
        unfold notP
        rw [if_neg n9]
        unfold cmpP
        rw [e1_]
      refine s_istore_n (ls' := [some (.ref 66), some (.int v1_), none, none]) (tb_ok aX8_not0_1 9 rfl) rfl rfl ?_
      refine s_aload_n (tb_ok aX8_not0_1 10 rfl) rfl ?_
      refine s_bipush (v := 60) (tb_ok aX8_not0_1 11 rfl) (by decide) ?_
      refine s_cVp (as := [.int (60)]) (tb_ok aX8_not0_1 12 rfl) v_RX8_215 (R_isSignE (I0 := I0) u1.2.1) (by omega) rfl rfl rfl rfl rfl (Nat.le_of_ble_eq_true rfl) (by decide) ?_
      refine s_if_ne (tgt := 77) (tb_ok aX8_not0_1 13 rfl) (by decide) (fun c63 => ?_) (fun c63 => ?_)
      · exact absurd c63 (by decide)
      · refine s_aload_n (tb_ok aX8_not0_1 14 rfl) rfl ?_
        refine s_bipush (v := 61) (tb_ok aX8_not0_1 15 rfl) (by decide) ?_
        refine s_cVp (as := [.int (61)]) (tb_ok aX8_not0_1 16 rfl) v_RX8_215 (R_isSignE (I0 := I0) u1.2.1) (by omega) rfl rfl rfl rfl rfl (Nat.le_of_ble_eq_true rfl) (by decide) ?_
        refine s_if_ne (tgt := 77) (tb_ok aX8_not0_1 17 rfl) (by decide) (fun c72 => ?_) (fun c72 => ?_)
        · exact absurd c72 (by decide)
        · refine s_iload_n (tb_ok aX8_not0_1 18 rfl) rfl ?_
          refine s_iret (tb_ok aX8_not0_1 19 rfl) rfl ?_
          refine ⟨rfl, rfl, _, rfl, ?_⟩
          rw [hsq]
          exact u1
    | inl qq =>
      obtain ⟨c1_, f1_, s1_⟩ := qq
      rw [e1_] at u1
      obtain ⟨w1_, u1⟩ := u1
      have w1_ : v1_ = f1_ nm := w1_
      have u1 : ROk t n 0 I0 s1_ _ _ := u1
      refine s_istore_n (ls' := [some (.ref 66), some (.int v1_), none, none]) (tb_ok aX8_not0_1 9 rfl) rfl rfl ?_
      refine s_aload_n (tb_ok aX8_not0_1 10 rfl) rfl ?_
      refine s_bipush (v := 60) (tb_ok aX8_not0_1 11 rfl) (by decide) ?_
      refine s_cVp (as := [.int (60)]) (tb_ok aX8_not0_1 12 rfl) v_RX8_215 (R_isSign (I0 := I0) u1.2.2.1 u1.2.2.2.2.2 (by decide)) (by omega) rfl rfl rfl rfl rfl (Nat.le_of_ble_eq_true rfl) (by decide) ?_
      refine s_if_ne (tgt := 77) (tb_ok aX8_not0_1 13 rfl) (by decide) (fun c63 => ?_) (fun c63 => ?_)
      · have hop : s1_.tok = 60 ∨ s1_.tok = 61 := by first | exact Or.inl (bI_n c63) | exact Or.inr (bI_n c72)
        have hwr := u1.wrth (by rcases hop with e_ | e_ <;> rw [e_] <;> decide)
        refine s_aload_n (tb_ok aX8_not0_1 20 rfl) rfl ?_
        refine s_getL (tb_ok aX8_not0_1 21 rfl) f_RX8_167 rfl rfl rfl ?_
        refine s_ldc2 (tb_ok aX8_not0_1 22 rfl) k_RX8_237 ?_
        refine s_lcmp (tb_ok aX8_not0_1 23 rfl) ?_
        refine s_if_ne (tgt := 92) (tb_ok aX8_not0_2 0 rfl) (by decide) (fun c85 => ?_) (fun c85 => ?_)
        · have h60 : ¬ s1_.tok = 60 := fun e_ => c85 ((cmp_eq _ _).mpr (hwr.trans (by rw [e_]; rfl)))
          refine s_iconst (v := 0) (tb_ok aX8_not0_2 3 rfl) (by decide) ?_
          refine s_istore_n (ls' := [some (.ref 66), some (.int v1_), some (.int (0)), none]) (tb_ok aX8_not0_2 4 rfl) rfl rfl ?_
          refine s_aload_n (tb_ok aX8_not0_2 5 rfl) rfl ?_
          refine s_cV (as := []) (tb_ok aX8_not0_2 6 rfl) v_RX8_190 (R_next hT u1 (by rcases hop with e_ | e_ <;> rw [e_] <;> decide) (by rcases hop with e_ | e_ <;> rw [e_] <;> decide)) (by omega) rfl rfl rfl rfl rfl (Nat.le_of_ble_eq_true rfl) (by decide) (fun r2 S2 I2 L2 R2 q2 => ?_)
          obtain ⟨rfl, rfl, rfl, u2⟩ := q2
          have a3 := (adv_wf (t := t) u1.2.1).2.2 (by rcases hop with e_ | e_ <;> rw [e_] <;> decide)
          refine s_aload_n (tb_ok aX8_not0_2 7 rfl) rfl ?_
          refine s_cV (as := []) (tb_ok aX8_not0_2 8 rfl) v_RX8_326 (hc _ _ _ u2) (by omega) rfl rfl rfl rfl rfl (Nat.le_of_ble_eq_true rfl) (by decide) (fun r3 S3 I3 L3 R3 q3 => ?_)
          obtain ⟨rfl, rfl, v4_, rfl, u4⟩ := q3
          cases e4_ : P (adv t n s1_) with
          | inr g4_ =>
            rw [e4_] at u4
            have u4 : RBad I0 g4_ _ := u4
            have hsq : (notP t n (some q2) (cmpP t n P)) s = .inr g4_ := by
              unfold notP
              rw [if_neg n9]
              unfold cmpP
              rw [e1_]
              show (if s1_.tok = 60 ∨ s1_.tok = 61 then _ else _) = _
              rw [if_pos hop, e4_]
            refine s_istore_n (ls' := [some (.ref 66), some (.int v1_), some (.int (0)), some (.int v4_)]) (tb_ok aX8_not0_2 9 rfl) rfl rfl ?_
            refine s_iload_n (tb_ok aX8_not0_2 10 rfl) rfl ?_
            refine s_if_eq (tgt := 115) (tb_ok aX8_not0_2 11 rfl) (by decide) (fun c104 => ?_) (fun c104 => ?_)
            · refine s_iload_n (tb_ok aX8_not0_2 16 rfl) rfl ?_
              refine s_iload_n (tb_ok aX8_not0_2 17 rfl) rfl ?_
              refine s_icmp_ne (tgt := 124) (tb_ok aX8_not0_2 18 rfl) (by decide) (fun c117 => ?_) (fun c117 => ?_)
              · refine s_iconst (v := 0) (tb_ok aX8_not0_2 21 rfl) (by decide) ?_
                refine s_iret (tb_ok aX8_not0_2 22 rfl) rfl ?_
                refine ⟨rfl, rfl, _, rfl, ?_⟩
                rw [hsq]
                exact u4
              · refine s_iconst (v := 1) (tb_ok aX8_not0_2 19 rfl) (by decide) ?_
                refine s_goto (tgt := 125) (tb_ok aX8_not0_2 20 rfl) (by decide) ?_
                refine s_iret (tb_ok aX8_not0_2 22 rfl) rfl ?_
                refine ⟨rfl, rfl, _, rfl, ?_⟩
                rw [hsq]
                exact u4
            · exact absurd c104 (by decide)
          | inl qq =>
            obtain ⟨c4_, f4_, s4_⟩ := qq
            rw [e4_] at u4
            obtain ⟨w4_, u4⟩ := u4
            have w4_ : v4_ = f4_ nm := w4_
            have u4 : ROk t n 0 I0 s4_ _ _ := u4
            have hsq : (notP t n (some q2) (cmpP t n P)) s = .inl (c1_ ++ c4_ ++ [cdC s1_.tok], (fun nm => of2 (cdC s1_.tok) (f1_ nm) (f4_ nm)), s4_) := by
              unfold notP
              rw [if_neg n9]
              unfold cmpP
              rw [e1_]
              show (if s1_.tok = 60 ∨ s1_.tok = 61 then _ else _) = _
              rw [if_pos hop, e4_]
            refine s_istore_n (ls' := [some (.ref 66), some (.int v1_), some (.int (0)), some (.int v4_)]) (tb_ok aX8_not0_2 9 rfl) rfl rfl ?_
            refine s_iload_n (tb_ok aX8_not0_2 10 rfl) rfl ?_
            refine s_if_eq (tgt := 115) (tb_ok aX8_not0_2 11 rfl) (by decide) (fun c104 => ?_) (fun c104 => ?_)
            · refine s_iload_n (tb_ok aX8_not0_2 16 rfl) rfl ?_
              refine s_iload_n (tb_ok aX8_not0_2 17 rfl) rfl ?_
              refine s_icmp_ne (tgt := 124) (tb_ok aX8_not0_2 18 rfl) (by decide) (fun c117 => ?_) (fun c117 => ?_)
              · refine s_iconst (v := 0) (tb_ok aX8_not0_2 21 rfl) (by decide) ?_
                refine s_iret (tb_ok aX8_not0_2 22 rfl) rfl ?_
                refine ⟨rfl, rfl, _, rfl, ?_⟩
                rw [hsq]
                refine ⟨?_, u4⟩
                show ((0) : Int32) = of2 (cdC s1_.tok) (f1_ nm) _
                first | (rw [show cdC s1_.tok = 30003 from if_pos h60, of2_lt, ← w1_, ← w4_]; first | exact (bI_f (Int32.not_lt.mpr c109)).symm | exact (bI_t (Int32.not_le.mp c109)).symm) | (rw [show cdC s1_.tok = 30004 from if_neg h60, of2_eq, ← w1_, ← w4_]; first | exact (bI_t c117).symm | exact (bI_f c117).symm)
              · refine s_iconst (v := 1) (tb_ok aX8_not0_2 19 rfl) (by decide) ?_
                refine s_goto (tgt := 125) (tb_ok aX8_not0_2 20 rfl) (by decide) ?_
                refine s_iret (tb_ok aX8_not0_2 22 rfl) rfl ?_
                refine ⟨rfl, rfl, _, rfl, ?_⟩
                rw [hsq]
                refine ⟨?_, u4⟩
                show ((1) : Int32) = of2 (cdC s1_.tok) (f1_ nm) _
                first | (rw [show cdC s1_.tok = 30003 from if_pos h60, of2_lt, ← w1_, ← w4_]; first | exact (bI_f (Int32.not_lt.mpr c109)).symm | exact (bI_t (Int32.not_le.mp c109)).symm) | (rw [show cdC s1_.tok = 30004 from if_neg h60, of2_eq, ← w1_, ← w4_]; first | exact (bI_t c117).symm | exact (bI_f c117).symm)
            · exact absurd c104 (by decide)
        · have h60 : s1_.tok = 60 := i64_inj.mp (hwr.symm.trans ((cmp_eq _ _).mp c85))
          refine s_iconst (v := 1) (tb_ok aX8_not0_2 1 rfl) (by decide) ?_
          refine s_goto (tgt := 93) (tb_ok aX8_not0_2 2 rfl) (by decide) ?_
          refine s_istore_n (ls' := [some (.ref 66), some (.int v1_), some (.int (1)), none]) (tb_ok aX8_not0_2 4 rfl) rfl rfl ?_
          refine s_aload_n (tb_ok aX8_not0_2 5 rfl) rfl ?_
          refine s_cV (as := []) (tb_ok aX8_not0_2 6 rfl) v_RX8_190 (R_next hT u1 (by rcases hop with e_ | e_ <;> rw [e_] <;> decide) (by rcases hop with e_ | e_ <;> rw [e_] <;> decide)) (by omega) rfl rfl rfl rfl rfl (Nat.le_of_ble_eq_true rfl) (by decide) (fun r4 S4 I4 L4 R4 q4 => ?_)
          obtain ⟨rfl, rfl, rfl, u5⟩ := q4
          have a6 := (adv_wf (t := t) u1.2.1).2.2 (by rcases hop with e_ | e_ <;> rw [e_] <;> decide)
          refine s_aload_n (tb_ok aX8_not0_2 7 rfl) rfl ?_
          refine s_cV (as := []) (tb_ok aX8_not0_2 8 rfl) v_RX8_326 (hc _ _ _ u5) (by omega) rfl rfl rfl rfl rfl (Nat.le_of_ble_eq_true rfl) (by decide) (fun r5 S5 I5 L5 R5 q5 => ?_)
          obtain ⟨rfl, rfl, v7_, rfl, u7⟩ := q5
          cases e7_ : P (adv t n s1_) with
          | inr g7_ =>
            rw [e7_] at u7
            have u7 : RBad I0 g7_ _ := u7
            have hsq : (notP t n (some q2) (cmpP t n P)) s = .inr g7_ := by
              unfold notP
              rw [if_neg n9]
              unfold cmpP
              rw [e1_]
              show (if s1_.tok = 60 ∨ s1_.tok = 61 then _ else _) = _
              rw [if_pos hop, e7_]
            refine s_istore_n (ls' := [some (.ref 66), some (.int v1_), some (.int (1)), some (.int v7_)]) (tb_ok aX8_not0_2 9 rfl) rfl rfl ?_
            refine s_iload_n (tb_ok aX8_not0_2 10 rfl) rfl ?_
            refine s_if_eq (tgt := 115) (tb_ok aX8_not0_2 11 rfl) (by decide) (fun c104 => ?_) (fun c104 => ?_)
            · exact absurd c104 (by decide)
            · refine s_iload_n (tb_ok aX8_not0_2 12 rfl) rfl ?_
              refine s_iload_n (tb_ok aX8_not0_2 13 rfl) rfl ?_
              refine s_icmp_ge (tgt := 124) (tb_ok aX8_not0_2 14 rfl) (by decide) (fun c109 => ?_) (fun c109 => ?_)
              · refine s_iconst (v := 0) (tb_ok aX8_not0_2 21 rfl) (by decide) ?_
                refine s_iret (tb_ok aX8_not0_2 22 rfl) rfl ?_
                refine ⟨rfl, rfl, _, rfl, ?_⟩
                rw [hsq]
                exact u7
              · refine s_goto (tgt := 120) (tb_ok aX8_not0_2 15 rfl) (by decide) ?_
                refine s_iconst (v := 1) (tb_ok aX8_not0_2 19 rfl) (by decide) ?_
                refine s_goto (tgt := 125) (tb_ok aX8_not0_2 20 rfl) (by decide) ?_
                refine s_iret (tb_ok aX8_not0_2 22 rfl) rfl ?_
                refine ⟨rfl, rfl, _, rfl, ?_⟩
                rw [hsq]
                exact u7
          | inl qq =>
            obtain ⟨c7_, f7_, s7_⟩ := qq
            rw [e7_] at u7
            obtain ⟨w7_, u7⟩ := u7
            have w7_ : v7_ = f7_ nm := w7_
            have u7 : ROk t n 0 I0 s7_ _ _ := u7
            have hsq : (notP t n (some q2) (cmpP t n P)) s = .inl (c1_ ++ c7_ ++ [cdC s1_.tok], (fun nm => of2 (cdC s1_.tok) (f1_ nm) (f7_ nm)), s7_) := by
              unfold notP
              rw [if_neg n9]
              unfold cmpP
              rw [e1_]
              show (if s1_.tok = 60 ∨ s1_.tok = 61 then _ else _) = _
              rw [if_pos hop, e7_]
            refine s_istore_n (ls' := [some (.ref 66), some (.int v1_), some (.int (1)), some (.int v7_)]) (tb_ok aX8_not0_2 9 rfl) rfl rfl ?_
            refine s_iload_n (tb_ok aX8_not0_2 10 rfl) rfl ?_
            refine s_if_eq (tgt := 115) (tb_ok aX8_not0_2 11 rfl) (by decide) (fun c104 => ?_) (fun c104 => ?_)
            · exact absurd c104 (by decide)
            · refine s_iload_n (tb_ok aX8_not0_2 12 rfl) rfl ?_
              refine s_iload_n (tb_ok aX8_not0_2 13 rfl) rfl ?_
              refine s_icmp_ge (tgt := 124) (tb_ok aX8_not0_2 14 rfl) (by decide) (fun c109 => ?_) (fun c109 => ?_)
              · refine s_iconst (v := 0) (tb_ok aX8_not0_2 21 rfl) (by decide) ?_
                refine s_iret (tb_ok aX8_not0_2 22 rfl) rfl ?_
                refine ⟨rfl, rfl, _, rfl, ?_⟩
                rw [hsq]
                refine ⟨?_, u7⟩
                show ((0) : Int32) = of2 (cdC s1_.tok) (f1_ nm) _
                first | (rw [show cdC s1_.tok = 30003 from if_pos h60, of2_lt, ← w1_, ← w7_]; first | exact (bI_f (Int32.not_lt.mpr c109)).symm | exact (bI_t (Int32.not_le.mp c109)).symm) | (rw [show cdC s1_.tok = 30004 from if_neg h60, of2_eq, ← w1_, ← w7_]; first | exact (bI_t c117).symm | exact (bI_f c117).symm)
              · refine s_goto (tgt := 120) (tb_ok aX8_not0_2 15 rfl) (by decide) ?_
                refine s_iconst (v := 1) (tb_ok aX8_not0_2 19 rfl) (by decide) ?_
                refine s_goto (tgt := 125) (tb_ok aX8_not0_2 20 rfl) (by decide) ?_
                refine s_iret (tb_ok aX8_not0_2 22 rfl) rfl ?_
                refine ⟨rfl, rfl, _, rfl, ?_⟩
                rw [hsq]
                refine ⟨?_, u7⟩
                show ((1) : Int32) = of2 (cdC s1_.tok) (f1_ nm) _
                first | (rw [show cdC s1_.tok = 30003 from if_pos h60, of2_lt, ← w1_, ← w7_]; first | exact (bI_f (Int32.not_lt.mpr c109)).symm | exact (bI_t (Int32.not_le.mp c109)).symm) | (rw [show cdC s1_.tok = 30004 from if_neg h60, of2_eq, ← w1_, ← w7_]; first | exact (bI_t c117).symm | exact (bI_f c117).symm)
      · refine s_aload_n (tb_ok aX8_not0_1 14 rfl) rfl ?_
        refine s_bipush (v := 61) (tb_ok aX8_not0_1 15 rfl) (by decide) ?_
        refine s_cVp (as := [.int (61)]) (tb_ok aX8_not0_1 16 rfl) v_RX8_215 (R_isSign (I0 := I0) u1.2.2.1 u1.2.2.2.2.2 (by decide)) (by omega) rfl rfl rfl rfl rfl (Nat.le_of_ble_eq_true rfl) (by decide) ?_
        refine s_if_ne (tgt := 77) (tb_ok aX8_not0_1 17 rfl) (by decide) (fun c72 => ?_) (fun c72 => ?_)
        · have hop : s1_.tok = 60 ∨ s1_.tok = 61 := by first | exact Or.inl (bI_n c63) | exact Or.inr (bI_n c72)
          have hwr := u1.wrth (by rcases hop with e_ | e_ <;> rw [e_] <;> decide)
          refine s_aload_n (tb_ok aX8_not0_1 20 rfl) rfl ?_
          refine s_getL (tb_ok aX8_not0_1 21 rfl) f_RX8_167 rfl rfl rfl ?_
          refine s_ldc2 (tb_ok aX8_not0_1 22 rfl) k_RX8_237 ?_
          refine s_lcmp (tb_ok aX8_not0_1 23 rfl) ?_
          refine s_if_ne (tgt := 92) (tb_ok aX8_not0_2 0 rfl) (by decide) (fun c85 => ?_) (fun c85 => ?_)
          · have h60 : ¬ s1_.tok = 60 := fun e_ => c85 ((cmp_eq _ _).mpr (hwr.trans (by rw [e_]; rfl)))
            refine s_iconst (v := 0) (tb_ok aX8_not0_2 3 rfl) (by decide) ?_
            refine s_istore_n (ls' := [some (.ref 66), some (.int v1_), some (.int (0)), none]) (tb_ok aX8_not0_2 4 rfl) rfl rfl ?_
            refine s_aload_n (tb_ok aX8_not0_2 5 rfl) rfl ?_
            refine s_cV (as := []) (tb_ok aX8_not0_2 6 rfl) v_RX8_190 (R_next hT u1 (by rcases hop with e_ | e_ <;> rw [e_] <;> decide) (by rcases hop with e_ | e_ <;> rw [e_] <;> decide)) (by omega) rfl rfl rfl rfl rfl (Nat.le_of_ble_eq_true rfl) (by decide) (fun r6 S6 I6 L6 R6 q6 => ?_)
            obtain ⟨rfl, rfl, rfl, u8⟩ := q6
            have a9 := (adv_wf (t := t) u1.2.1).2.2 (by rcases hop with e_ | e_ <;> rw [e_] <;> decide)
            refine s_aload_n (tb_ok aX8_not0_2 7 rfl) rfl ?_
            refine s_cV (as := []) (tb_ok aX8_not0_2 8 rfl) v_RX8_326 (hc _ _ _ u8) (by omega) rfl rfl rfl rfl rfl (Nat.le_of_ble_eq_true rfl) (by decide) (fun r7 S7 I7 L7 R7 q7 => ?_)
            obtain ⟨rfl, rfl, v10_, rfl, u10⟩ := q7
            cases e10_ : P (adv t n s1_) with
            | inr g10_ =>
              rw [e10_] at u10
              have u10 : RBad I0 g10_ _ := u10
              have hsq : (notP t n (some q2) (cmpP t n P)) s = .inr g10_ := by
                unfold notP
                rw [if_neg n9]
                unfold cmpP
                rw [e1_]
                show (if s1_.tok = 60 ∨ s1_.tok = 61 then _ else _) = _
                rw [if_pos hop, e10_]
              refine s_istore_n (ls' := [some (.ref 66), some (.int v1_), some (.int (0)), some (.int v10_)]) (tb_ok aX8_not0_2 9 rfl) rfl rfl ?_
              refine s_iload_n (tb_ok aX8_not0_2 10 rfl) rfl ?_
              refine s_if_eq (tgt := 115) (tb_ok aX8_not0_2 11 rfl) (by decide) (fun c104 => ?_) (fun c104 => ?_)
              · refine s_iload_n (tb_ok aX8_not0_2 16 rfl) rfl ?_
                refine s_iload_n (tb_ok aX8_not0_2 17 rfl) rfl ?_
                refine s_icmp_ne (tgt := 124) (tb_ok aX8_not0_2 18 rfl) (by decide) (fun c117 => ?_) (fun c117 => ?_)
                · refine s_iconst (v := 0) (tb_ok aX8_not0_2 21 rfl) (by decide) ?_
                  refine s_iret (tb_ok aX8_not0_2 22 rfl) rfl ?_
                  refine ⟨rfl, rfl, _, rfl, ?_⟩
                  rw [hsq]
                  exact u10
                · refine s_iconst (v := 1) (tb_ok aX8_not0_2 19 rfl) (by decide) ?_
                  refine s_goto (tgt := 125) (tb_ok aX8_not0_2 20 rfl) (by decide) ?_
                  refine s_iret (tb_ok aX8_not0_2 22 rfl) rfl ?_
                  refine ⟨rfl, rfl, _, rfl, ?_⟩
                  rw [hsq]
                  exact u10
              · exact absurd c104 (by decide)
            | inl qq =>
              obtain ⟨c10_, f10_, s10_⟩ := qq
              rw [e10_] at u10
              obtain ⟨w10_, u10⟩ := u10
              have w10_ : v10_ = f10_ nm := w10_
              have u10 : ROk t n 0 I0 s10_ _ _ := u10
              have hsq : (notP t n (some q2) (cmpP t n P)) s = .inl (c1_ ++ c10_ ++ [cdC s1_.tok], (fun nm => of2 (cdC s1_.tok) (f1_ nm) (f10_ nm)), s10_) := by
                unfold notP
                rw [if_neg n9]
                unfold cmpP
                rw [e1_]
                show (if s1_.tok = 60 ∨ s1_.tok = 61 then _ else _) = _
                rw [if_pos hop, e10_]
              refine s_istore_n (ls' := [some (.ref 66), some (.int v1_), some (.int (0)), some (.int v10_)]) (tb_ok aX8_not0_2 9 rfl) rfl rfl ?_
              refine s_iload_n (tb_ok aX8_not0_2 10 rfl) rfl ?_
              refine s_if_eq (tgt := 115) (tb_ok aX8_not0_2 11 rfl) (by decide) (fun c104 => ?_) (fun c104 => ?_)
              · refine s_iload_n (tb_ok aX8_not0_2 16 rfl) rfl ?_
                refine s_iload_n (tb_ok aX8_not0_2 17 rfl) rfl ?_
                refine s_icmp_ne (tgt := 124) (tb_ok aX8_not0_2 18 rfl) (by decide) (fun c117 => ?_) (fun c117 => ?_)
                · refine s_iconst (v := 0) (tb_ok aX8_not0_2 21 rfl) (by decide) ?_
                  refine s_iret (tb_ok aX8_not0_2 22 rfl) rfl ?_
                  refine ⟨rfl, rfl, _, rfl, ?_⟩
                  rw [hsq]
                  refine ⟨?_, u10⟩
                  show ((0) : Int32) = of2 (cdC s1_.tok) (f1_ nm) _
                  first | (rw [show cdC s1_.tok = 30003 from if_pos h60, of2_lt, ← w1_, ← w10_]; first | exact (bI_f (Int32.not_lt.mpr c109)).symm | exact (bI_t (Int32.not_le.mp c109)).symm) | (rw [show cdC s1_.tok = 30004 from if_neg h60, of2_eq, ← w1_, ← w10_]; first | exact (bI_t c117).symm | exact (bI_f c117).symm)
                · refine s_iconst (v := 1) (tb_ok aX8_not0_2 19 rfl) (by decide) ?_
                  refine s_goto (tgt := 125) (tb_ok aX8_not0_2 20 rfl) (by decide) ?_
                  refine s_iret (tb_ok aX8_not0_2 22 rfl) rfl ?_
                  refine ⟨rfl, rfl, _, rfl, ?_⟩
                  rw [hsq]
                  refine ⟨?_, u10⟩
                  show ((1) : Int32) = of2 (cdC s1_.tok) (f1_ nm) _
                  first | (rw [show cdC s1_.tok = 30003 from if_pos h60, of2_lt, ← w1_, ← w10_]; first | exact (bI_f (Int32.not_lt.mpr c109)).symm | exact (bI_t (Int32.not_le.mp c109)).symm) | (rw [show cdC s1_.tok = 30004 from if_neg h60, of2_eq, ← w1_, ← w10_]; first | exact (bI_t c117).symm | exact (bI_f c117).symm)
              · exact absurd c104 (by decide)
          · have h60 : s1_.tok = 60 := i64_inj.mp (hwr.symm.trans ((cmp_eq _ _).mp c85))
            refine s_iconst (v := 1) (tb_ok aX8_not0_2 1 rfl) (by decide) ?_
            refine s_goto (tgt := 93) (tb_ok aX8_not0_2 2 rfl) (by decide) ?_
            refine s_istore_n (ls' := [some (.ref 66), some (.int v1_), some (.int (1)), none]) (tb_ok aX8_not0_2 4 rfl) rfl rfl ?_
            refine s_aload_n (tb_ok aX8_not0_2 5 rfl) rfl ?_
            refine s_cV (as := []) (tb_ok aX8_not0_2 6 rfl) v_RX8_190 (R_next hT u1 (by rcases hop with e_ | e_ <;> rw [e_] <;> decide) (by rcases hop with e_ | e_ <;> rw [e_] <;> decide)) (by omega) rfl rfl rfl rfl rfl (Nat.le_of_ble_eq_true rfl) (by decide) (fun r8 S8 I8 L8 R8 q8 => ?_)
            obtain ⟨rfl, rfl, rfl, u11⟩ := q8
            have a12 := (adv_wf (t := t) u1.2.1).2.2 (by rcases hop with e_ | e_ <;> rw [e_] <;> decide)
            refine s_aload_n (tb_ok aX8_not0_2 7 rfl) rfl ?_
            refine s_cV (as := []) (tb_ok aX8_not0_2 8 rfl) v_RX8_326 (hc _ _ _ u11) (by omega) rfl rfl rfl rfl rfl (Nat.le_of_ble_eq_true rfl) (by decide) (fun r9 S9 I9 L9 R9 q9 => ?_)
            obtain ⟨rfl, rfl, v13_, rfl, u13⟩ := q9
            cases e13_ : P (adv t n s1_) with
            | inr g13_ =>
              rw [e13_] at u13
              have u13 : RBad I0 g13_ _ := u13
              have hsq : (notP t n (some q2) (cmpP t n P)) s = .inr g13_ := by
                unfold notP
                rw [if_neg n9]
                unfold cmpP
                rw [e1_]
                show (if s1_.tok = 60 ∨ s1_.tok = 61 then _ else _) = _
                rw [if_pos hop, e13_]
              refine s_istore_n (ls' := [some (.ref 66), some (.int v1_), some (.int (1)), some (.int v13_)]) (tb_ok aX8_not0_2 9 rfl) rfl rfl ?_
              refine s_iload_n (tb_ok aX8_not0_2 10 rfl) rfl ?_
              refine s_if_eq (tgt := 115) (tb_ok aX8_not0_2 11 rfl) (by decide) (fun c104 => ?_) (fun c104 => ?_)
              · exact absurd c104 (by decide)
              · refine s_iload_n (tb_ok aX8_not0_2 12 rfl) rfl ?_
                refine s_iload_n (tb_ok aX8_not0_2 13 rfl) rfl ?_
                refine s_icmp_ge (tgt := 124) (tb_ok aX8_not0_2 14 rfl) (by decide) (fun c109 => ?_) (fun c109 => ?_)
                · refine s_iconst (v := 0) (tb_ok aX8_not0_2 21 rfl) (by decide) ?_
                  refine s_iret (tb_ok aX8_not0_2 22 rfl) rfl ?_
                  refine ⟨rfl, rfl, _, rfl, ?_⟩
                  rw [hsq]
                  exact u13
                · refine s_goto (tgt := 120) (tb_ok aX8_not0_2 15 rfl) (by decide) ?_
                  refine s_iconst (v := 1) (tb_ok aX8_not0_2 19 rfl) (by decide) ?_
                  refine s_goto (tgt := 125) (tb_ok aX8_not0_2 20 rfl) (by decide) ?_
                  refine s_iret (tb_ok aX8_not0_2 22 rfl) rfl ?_
                  refine ⟨rfl, rfl, _, rfl, ?_⟩
                  rw [hsq]
                  exact u13
            | inl qq =>
              obtain ⟨c13_, f13_, s13_⟩ := qq
              rw [e13_] at u13
              obtain ⟨w13_, u13⟩ := u13
              have w13_ : v13_ = f13_ nm := w13_
              have u13 : ROk t n 0 I0 s13_ _ _ := u13
              have hsq : (notP t n (some q2) (cmpP t n P)) s = .inl (c1_ ++ c13_ ++ [cdC s1_.tok], (fun nm => of2 (cdC s1_.tok) (f1_ nm) (f13_ nm)), s13_) := by
                unfold notP
                rw [if_neg n9]
                unfold cmpP
                rw [e1_]
                show (if s1_.tok = 60 ∨ s1_.tok = 61 then _ else _) = _
                rw [if_pos hop, e13_]
              refine s_istore_n (ls' := [some (.ref 66), some (.int v1_), some (.int (1)), some (.int v13_)]) (tb_ok aX8_not0_2 9 rfl) rfl rfl ?_
              refine s_iload_n (tb_ok aX8_not0_2 10 rfl) rfl ?_
              refine s_if_eq (tgt := 115) (tb_ok aX8_not0_2 11 rfl) (by decide) (fun c104 => ?_) (fun c104 => ?_)
              · exact absurd c104 (by decide)
              · refine s_iload_n (tb_ok aX8_not0_2 12 rfl) rfl ?_
                refine s_iload_n (tb_ok aX8_not0_2 13 rfl) rfl ?_
                refine s_icmp_ge (tgt := 124) (tb_ok aX8_not0_2 14 rfl) (by decide) (fun c109 => ?_) (fun c109 => ?_)
                · refine s_iconst (v := 0) (tb_ok aX8_not0_2 21 rfl) (by decide) ?_
                  refine s_iret (tb_ok aX8_not0_2 22 rfl) rfl ?_
                  refine ⟨rfl, rfl, _, rfl, ?_⟩
                  rw [hsq]
                  refine ⟨?_, u13⟩
                  show ((0) : Int32) = of2 (cdC s1_.tok) (f1_ nm) _
                  first | (rw [show cdC s1_.tok = 30003 from if_pos h60, of2_lt, ← w1_, ← w13_]; first | exact (bI_f (Int32.not_lt.mpr c109)).symm | exact (bI_t (Int32.not_le.mp c109)).symm) | (rw [show cdC s1_.tok = 30004 from if_neg h60, of2_eq, ← w1_, ← w13_]; first | exact (bI_t c117).symm | exact (bI_f c117).symm)
                · refine s_goto (tgt := 120) (tb_ok aX8_not0_2 15 rfl) (by decide) ?_
                  refine s_iconst (v := 1) (tb_ok aX8_not0_2 19 rfl) (by decide) ?_
                  refine s_goto (tgt := 125) (tb_ok aX8_not0_2 20 rfl) (by decide) ?_
                  refine s_iret (tb_ok aX8_not0_2 22 rfl) rfl ?_
                  refine ⟨rfl, rfl, _, rfl, ?_⟩
                  rw [hsq]
                  refine ⟨?_, u13⟩
                  show ((1) : Int32) = of2 (cdC s1_.tok) (f1_ nm) _
                  first | (rw [show cdC s1_.tok = 30003 from if_pos h60, of2_lt, ← w1_, ← w13_]; first | exact (bI_f (Int32.not_lt.mpr c109)).symm | exact (bI_t (Int32.not_le.mp c109)).symm) | (rw [show cdC s1_.tok = 30004 from if_neg h60, of2_eq, ← w1_, ← w13_]; first | exact (bI_t c117).symm | exact (bI_f c117).symm)
        · refine s_iload_n (tb_ok aX8_not0_1 18 rfl) rfl ?_
          refine s_iret (tb_ok aX8_not0_1 19 rfl) rfl ?_
          have hsq : (notP t n (some q2) (cmpP t n P)) s = .inl (c1_, f1_, s1_) := by
            unfold notP
            rw [if_neg n9]
            unfold cmpP
            rw [e1_]
            show (if s1_.tok = 60 ∨ s1_.tok = 61 then _ else _) = _
            rw [if_neg (fun h_ => h_.elim (bI_0.mp c63) (bI_0.mp c72))]
          refine ⟨rfl, rfl, _, rfl, ?_⟩
          rw [hsq]
          refine ⟨?_, u1⟩
          exact w1_
  · have hop9 : s.tok = 9 := bI_n c15
    refine s_aload_n (tb_ok aX8_not0_0 11 rfl) rfl ?_
    refine s_cV (as := []) (tb_ok aX8_not0_0 12 rfl) v_RX8_218 (R_opens hT h (by rw [hop9]; decide) (by rw [hop9]; decide) (by decide)) (by omega) rfl rfl rfl rfl rfl (Nat.le_of_ble_eq_true rfl) (by decide) (fun r10 S10 I10 L10 R10 q10 => ?_)
    obtain ⟨rfl, rfl, rfl, u14⟩ := q10
    have a15 := (adv_wf (t := t) h.2.1).2.2 (by rw [hop9]; decide)
    refine s_if_ne (tgt := 27) (tb_ok aX8_not0_0 13 rfl) (by decide) (fun c22 => ?_) (fun c22 => ?_)
    · refine s_aload_n (tb_ok aX8_not0_0 16 rfl) rfl ?_
      refine s_cV (as := []) (tb_ok aX8_not0_0 17 rfl) v_RX8_311 (hi _ _ _ u14) (by omega) rfl rfl rfl rfl rfl (Nat.le_of_ble_eq_true rfl) (by decide) (fun r11 S11 I11 L11 R11 q11 => ?_)
      obtain ⟨rfl, rfl, v16_, rfl, u16⟩ := q11
      cases e16_ : q2.2.1 (adv t n s) with
      | inr g16_ =>
        rw [e16_] at u16
        have u16 : RBad I0 g16_ _ := u16
        have hsq : (notP t n (some q2) (cmpP t n P)) s = .inr g16_ := by unfold notP; rw [if_pos hop9]; simp only [e16_]
        refine s_istore_n (ls' := [some (.ref 66), some (.int v16_), none, none]) (tb_ok aX8_not0_0 18 rfl) rfl rfl ?_
        refine s_aload_n (tb_ok aX8_not0_0 19 rfl) rfl ?_
        refine s_dup (tb_ok aX8_not0_0 20 rfl) rfl ?_
        refine s_getI (tb_ok aX8_not0_0 21 rfl) f_RX8_184 rfl rfl rfl ?_
        refine s_iconst (v := 1) (tb_ok aX8_not0_0 22 rfl) (by decide) ?_
        refine s_isub (tb_ok aX8_not0_0 23 rfl) ?_
        refine s_putI (tb_ok aX8_not0_1 0 rfl) f_RX8_184 rfl rfl ?_
        refine s_iload_n (tb_ok aX8_not0_1 1 rfl) rfl ?_
        refine s_if_ne (tgt := 50) (tb_ok aX8_not0_1 2 rfl) (by decide) (fun c43 => ?_) (fun c43 => ?_)
        · refine s_iconst (v := 0) (tb_ok aX8_not0_1 5 rfl) (by decide) ?_
          refine s_iret (tb_ok aX8_not0_1 6 rfl) rfl ?_
          refine ⟨rfl, rfl, _, rfl, ?_⟩
          rw [hsq]
          exact (u16.put26 _)
        · refine s_iconst (v := 1) (tb_ok aX8_not0_1 3 rfl) (by decide) ?_
          refine s_goto (tgt := 51) (tb_ok aX8_not0_1 4 rfl) (by decide) ?_
          refine s_iret (tb_ok aX8_not0_1 6 rfl) rfl ?_
          refine ⟨rfl, rfl, _, rfl, ?_⟩
          rw [hsq]
          exact (u16.put26 _)
      | inl qq =>
        obtain ⟨c16_, f16_, s16_⟩ := qq
        rw [e16_] at u16
        obtain ⟨w16_, u16⟩ := u16
        have w16_ : v16_ = f16_ nm := w16_
        have u16 : ROk t n 1 I0 s16_ _ _ := u16
        have hsq : (notP t n (some q2) (cmpP t n P)) s = .inl (c16_ ++ [20001], (fun nm => of1 20001 (f16_ nm)), s16_) := by unfold notP; rw [if_pos hop9]; simp only [e16_]
        refine s_istore_n (ls' := [some (.ref 66), some (.int v16_), none, none]) (tb_ok aX8_not0_0 18 rfl) rfl rfl ?_
        refine s_aload_n (tb_ok aX8_not0_0 19 rfl) rfl ?_
        refine s_dup (tb_ok aX8_not0_0 20 rfl) rfl ?_
        refine s_getI (x := (nI 1)) (tb_ok aX8_not0_0 21 rfl) f_RX8_184 rfl rfl u16.2.2.2.1 ?_
        refine s_iconst (v := 1) (tb_ok aX8_not0_0 22 rfl) (by decide) ?_
        refine s_isub (tb_ok aX8_not0_0 23 rfl) ?_
        refine s_topi (z := (nI 0)) (by decide) ?_
        refine s_putI (tb_ok aX8_not0_1 0 rfl) f_RX8_184 rfl rfl ?_
        have u18 := u16.put26 0
        refine s_iload_n (tb_ok aX8_not0_1 1 rfl) rfl ?_
        refine s_if_ne (tgt := 50) (tb_ok aX8_not0_1 2 rfl) (by decide) (fun c43 => ?_) (fun c43 => ?_)
        · refine s_iconst (v := 0) (tb_ok aX8_not0_1 5 rfl) (by decide) ?_
          refine s_iret (tb_ok aX8_not0_1 6 rfl) rfl ?_
          refine ⟨rfl, rfl, _, rfl, ?_⟩
          rw [hsq]
          refine ⟨?_, u18⟩
          show ((0) : Int32) = of1 20001 _
          rw [of1_not, ← w16_]
          first | exact (bI_t c43).symm | exact (bI_f c43).symm
        · refine s_iconst (v := 1) (tb_ok aX8_not0_1 3 rfl) (by decide) ?_
          refine s_goto (tgt := 51) (tb_ok aX8_not0_1 4 rfl) (by decide) ?_
          refine s_iret (tb_ok aX8_not0_1 6 rfl) rfl ?_
          refine ⟨rfl, rfl, _, rfl, ?_⟩
          rw [hsq]
          refine ⟨?_, u18⟩
          show ((1) : Int32) = of1 20001 _
          rw [of1_not, ← w16_]
          first | exact (bI_t c43).symm | exact (bI_f c43).symm
    · exact absurd c22 (by decide)

set_option maxRecDepth 100000 in
set_option maxHeartbeats 1000000 in
theorem L_both0 {X : En} {q : Nat × Nat} {I0 : FI} {F n : Nat} {t nm : Nat → Int32} (hT : TxX I0 F n t nm) {d f : Nat} (hd : 2 < d) {Q : Pst} {I : FI} {L : FL} (x : Int32) (o2 : Option Value) (h : RBad I0 f I) (hQ : ∀ v, Q (some (.int v)) S0 I L (R0 q)) : SW X (d + 1) mX8_both0 (0, 0) 5 [some (.ref 66), some (.int x), o2] [] S0 I L (R0 q) (KQ X Q) := by
  refine s_aload_n (tb_ok aX8_both0_0 3 rfl) rfl ?_
  refine s_bipush (v := 97) (tb_ok aX8_both0_0 4 rfl) (by decide) ?_
  refine s_bipush (v := 110) (tb_ok aX8_both0_0 5 rfl) (by decide) ?_
  refine s_bipush (v := 100) (tb_ok aX8_both0_0 6 rfl) (by decide) ?_
  refine s_iconst (v := 0) (tb_ok aX8_both0_0 7 rfl) (by decide) ?_
  refine s_iconst (v := 0) (tb_ok aX8_both0_0 8 rfl) (by decide) ?_
  refine s_iconst (v := 0) (tb_ok aX8_both0_0 9 rfl) (by decide) ?_
  refine s_iconst (v := 0) (tb_ok aX8_both0_0 10 rfl) (by decide) ?_
  refine s_iconst (v := 0) (tb_ok aX8_both0_0 11 rfl) (by decide) ?_
  refine s_cVp (as := [.int (97), .int (110), .int (100), .int (0), .int (0), .int (0), .int (0), .int (0)]) (tb_ok aX8_both0_0 12 rfl) v_RX8_193 (R_isWordE (I0 := I0) h.2.1) (by omega) rfl rfl rfl rfl rfl (Nat.le_of_ble_eq_true rfl) (by decide) ?_
  refine s_if_eq (tgt := 49) (tb_ok aX8_both0_0 13 rfl) (by decide) (fun c20 => ?_) (fun c20 => ?_)
  · refine s_iload_n (tb_ok aX8_both0_1 4 rfl) rfl ?_
    refine s_iret (tb_ok aX8_both0_1 5 rfl) rfl ?_
    exact hQ _
  · exact absurd c20 (by decide)

set_option maxRecDepth 100000 in
set_option maxHeartbeats 1000000 in
theorem C_both0 {X : En} {q : Nat × Nat} {I0 : FI} {F n : Nat} {t nm : Nat → Int32} (hT : TxX I0 F n t nm) {d dp : Nat} (hd : 2 < d) {P : Pa} (hN : Nice n dp P) (hi : CtX X q t nm n I0 d mX8_not0 0 P) : CtX X q t nm n I0 (d + 1) mX8_both0 0 (seqP t n opB cdB P) := by
  intro I L s h
  obtain ⟨hF, hn, hn160, hFn, ht, ht0, hnm⟩ := id hT
  have loop : ∀ k, ∀ (o2 : Option Value) (I : FI) (L : FL) (c : List Int32) (f : Sem) (s1 : St) (x : Int32), x = f nm → ROk t n 0 I0 s1 I L → 160 < s1.pl + k → loopP t n opB cdB P k c f s1 = (seqP t n opB cdB P) s → SW X (d + 1) mX8_both0 (0, 0) 5 [some (.ref 66), some (.int x), o2] [] S0 I L (R0 q) (KQ X (AfP q t nm n 0 I0 ((seqP t n opB cdB P) s))) := by
    intro k
    induction k with
    | zero =>
      intro o2 I L c f s1 x hx h1 hk hres
      have := h1.pln
      omega
    | succ k ih =>
      intro o2 I L c f s1 x hx h1 hk hres
      refine s_aload_n (tb_ok aX8_both0_0 3 rfl) rfl ?_
      refine s_bipush (v := 97) (tb_ok aX8_both0_0 4 rfl) (by decide) ?_
      refine s_bipush (v := 110) (tb_ok aX8_both0_0 5 rfl) (by decide) ?_
      refine s_bipush (v := 100) (tb_ok aX8_both0_0 6 rfl) (by decide) ?_
      refine s_iconst (v := 0) (tb_ok aX8_both0_0 7 rfl) (by decide) ?_
      refine s_iconst (v := 0) (tb_ok aX8_both0_0 8 rfl) (by decide) ?_
      refine s_iconst (v := 0) (tb_ok aX8_both0_0 9 rfl) (by decide) ?_
      refine s_iconst (v := 0) (tb_ok aX8_both0_0 10 rfl) (by decide) ?_
      refine s_iconst (v := 0) (tb_ok aX8_both0_0 11 rfl) (by decide) ?_
      refine s_cVp (as := [.int (97), .int (110), .int (100), .int (0), .int (0), .int (0), .int (0), .int (0)]) (tb_ok aX8_both0_0 12 rfl) v_RX8_193 (R_isWord hT h1 10 (by decide)) (by omega) rfl rfl rfl rfl rfl (Nat.le_of_ble_eq_true rfl) (by decide) ?_
      refine s_topi (bI_congr (isK_key (k := 10) (j := 8) (by decide) rfl)) ?_
      refine s_if_eq (tgt := 49) (tb_ok aX8_both0_0 13 rfl) (by decide) (fun c20 => ?_) (fun c20 => ?_)
      · refine s_iload_n (tb_ok aX8_both0_1 4 rfl) rfl ?_
        refine s_iret (tb_ok aX8_both0_1 5 rfl) rfl ?_
        refine ⟨rfl, rfl, _, rfl, ?_⟩
        rw [← hres, loopP, if_neg (bI_0.mp c20)]
        exact ⟨hx, h1⟩
      · have hop : opB s1.tok := bI_n c20
        refine s_aload_n (tb_ok aX8_both0_0 14 rfl) rfl ?_
        refine s_cV (as := []) (tb_ok aX8_both0_0 15 rfl) v_RX8_190 (R_next hT h1 (by rw [hop]; decide) (by rw [hop]; decide)) (by omega) rfl rfl rfl rfl rfl (Nat.le_of_ble_eq_true rfl) (by decide) (fun r1 S1 I1 L1 R1 q1 => ?_)
        obtain ⟨rfl, rfl, rfl, u1⟩ := q1
        have a2 := (adv_wf (t := t) h1.2.1).2.2 (by rw [hop]; decide)
        refine s_aload_n (tb_ok aX8_both0_0 16 rfl) rfl ?_
        refine s_cV (as := []) (tb_ok aX8_both0_0 17 rfl) v_RX8_329 (hi _ _ _ u1) (by omega) rfl rfl rfl rfl rfl (Nat.le_of_ble_eq_true rfl) (by decide) (fun r2 S2 I2 L2 R2 q2 => ?_)
        obtain ⟨rfl, rfl, v3_, rfl, u3⟩ := q2
        cases e3_ : P (adv t n s1) with
        | inr g3_ =>
          rw [e3_] at u3
          have u3 : RBad I0 g3_ _ := u3
          rw [loopP, if_pos hop, e3_] at hres
          refine s_istore_n (ls' := [some (.ref 66), some (.int x), some (.int v3_)]) (tb_ok aX8_both0_0 18 rfl) rfl rfl ?_
          refine s_iload_n (tb_ok aX8_both0_0 19 rfl) rfl ?_
          refine s_if_eq (tgt := 44) (tb_ok aX8_both0_0 20 rfl) (by decide) (fun c33 => ?_) (fun c33 => ?_)
          · refine s_iconst (v := 0) (tb_ok aX8_both0_1 1 rfl) (by decide) ?_
            refine s_istore_n (ls' := [some (.ref 66), some (.int (0)), some (.int v3_)]) (tb_ok aX8_both0_1 2 rfl) rfl rfl ?_
            refine s_goto (tgt := 5) (tb_ok aX8_both0_1 3 rfl) (by decide) ?_
            refine L_both0 hT hd _ _ u3 (fun v => ⟨rfl, rfl, _, rfl, ?_⟩)
            rw [← hres]
            exact u3
          · refine s_iload_n (tb_ok aX8_both0_0 21 rfl) rfl ?_
            refine s_if_eq (tgt := 44) (tb_ok aX8_both0_0 22 rfl) (by decide) (fun c37 => ?_) (fun c37 => ?_)
            · refine s_iconst (v := 0) (tb_ok aX8_both0_1 1 rfl) (by decide) ?_
              refine s_istore_n (ls' := [some (.ref 66), some (.int (0)), some (.int v3_)]) (tb_ok aX8_both0_1 2 rfl) rfl rfl ?_
              refine s_goto (tgt := 5) (tb_ok aX8_both0_1 3 rfl) (by decide) ?_
              refine L_both0 hT hd _ _ u3 (fun v => ⟨rfl, rfl, _, rfl, ?_⟩)
              rw [← hres]
              exact u3
            · refine s_iconst (v := 1) (tb_ok aX8_both0_0 23 rfl) (by decide) ?_
              refine s_goto (tgt := 45) (tb_ok aX8_both0_1 0 rfl) (by decide) ?_
              refine s_istore_n (ls' := [some (.ref 66), some (.int (1)), some (.int v3_)]) (tb_ok aX8_both0_1 2 rfl) rfl rfl ?_
              refine s_goto (tgt := 5) (tb_ok aX8_both0_1 3 rfl) (by decide) ?_
              refine L_both0 hT hd _ _ u3 (fun v => ⟨rfl, rfl, _, rfl, ?_⟩)
              rw [← hres]
              exact u3
        | inl qq =>
          obtain ⟨c3_, f3_, s3_⟩ := qq
          rw [e3_] at u3
          obtain ⟨w3_, u3⟩ := u3
          have w3_ : v3_ = f3_ nm := w3_
          have u3 : ROk t n 0 I0 s3_ _ _ := u3
          have b3_ := Nice.two (t := t) hN u1.2.1 e3_
          rw [loopP, if_pos hop, e3_] at hres
          refine s_istore_n (ls' := [some (.ref 66), some (.int x), some (.int v3_)]) (tb_ok aX8_both0_0 18 rfl) rfl rfl ?_
          refine s_iload_n (tb_ok aX8_both0_0 19 rfl) rfl ?_
          refine s_if_eq (tgt := 44) (tb_ok aX8_both0_0 20 rfl) (by decide) (fun c33 => ?_) (fun c33 => ?_)
          · refine s_iconst (v := 0) (tb_ok aX8_both0_1 1 rfl) (by decide) ?_
            refine s_istore_n (ls' := [some (.ref 66), some (.int (0)), some (.int v3_)]) (tb_ok aX8_both0_1 2 rfl) rfl rfl ?_
            refine s_goto (tgt := 5) (tb_ok aX8_both0_1 3 rfl) (by decide) ?_
            refine ih _ _ _ _ _ _ (0) ?_ u3 (by omega) hres
            show ((0) : Int32) = of2 30005 (f nm) _
            rw [of2_and, ← hx, ← w3_]
            exact (bI_f (fun h_ => by first | exact h_.1 c33 | exact h_.2 c37)).symm
          · refine s_iload_n (tb_ok aX8_both0_0 21 rfl) rfl ?_
            refine s_if_eq (tgt := 44) (tb_ok aX8_both0_0 22 rfl) (by decide) (fun c37 => ?_) (fun c37 => ?_)
            · refine s_iconst (v := 0) (tb_ok aX8_both0_1 1 rfl) (by decide) ?_
              refine s_istore_n (ls' := [some (.ref 66), some (.int (0)), some (.int v3_)]) (tb_ok aX8_both0_1 2 rfl) rfl rfl ?_
              refine s_goto (tgt := 5) (tb_ok aX8_both0_1 3 rfl) (by decide) ?_
              refine ih _ _ _ _ _ _ (0) ?_ u3 (by omega) hres
              show ((0) : Int32) = of2 30005 (f nm) _
              rw [of2_and, ← hx, ← w3_]
              exact (bI_f (fun h_ => by first | exact h_.1 c33 | exact h_.2 c37)).symm
            · refine s_iconst (v := 1) (tb_ok aX8_both0_0 23 rfl) (by decide) ?_
              refine s_goto (tgt := 45) (tb_ok aX8_both0_1 0 rfl) (by decide) ?_
              refine s_istore_n (ls' := [some (.ref 66), some (.int (1)), some (.int v3_)]) (tb_ok aX8_both0_1 2 rfl) rfl rfl ?_
              refine s_goto (tgt := 5) (tb_ok aX8_both0_1 3 rfl) (by decide) ?_
              refine ih _ _ _ _ _ _ (1) ?_ u3 (by omega) hres
              show ((1) : Int32) = of2 30005 (f nm) _
              rw [of2_and, ← hx, ← w3_]
              exact (bI_t ⟨c33, c37⟩).symm
  refine ev_of (by decide +kernel) rfl ?_
  show SW X _ _ _ 0 [some (.ref 66), none, none] [] S0 I L (R0 q) _
  refine s_aload_n (tb_ok aX8_both0_0 0 rfl) rfl ?_
  refine s_cV (as := []) (tb_ok aX8_both0_0 1 rfl) v_RX8_329 (hi _ _ _ h) (by omega) rfl rfl rfl rfl rfl (Nat.le_of_ble_eq_true rfl) (by decide) (fun r1 S1 I1 L1 R1 q1 => ?_)
  obtain ⟨rfl, rfl, v4_, rfl, u4⟩ := q1
  cases e4_ : P s with
  | inr g4_ =>
    rw [e4_] at u4
    have u4 : RBad I0 g4_ _ := u4
    have hsq : (seqP t n opB cdB P) s = .inr g4_ := by unfold seqP; rw [e4_]
    refine s_istore_n (ls' := [some (.ref 66), some (.int v4_), none]) (tb_ok aX8_both0_0 2 rfl) rfl rfl ?_
    refine L_both0 hT hd _ _ u4 (fun v => ⟨rfl, rfl, _, rfl, ?_⟩)
    rw [hsq]
    exact u4
  | inl qq =>
    obtain ⟨c4_, f4_, s4_⟩ := qq
    rw [e4_] at u4
    obtain ⟨w4_, u4⟩ := u4
    have w4_ : v4_ = f4_ nm := w4_
    have u4 : ROk t n 0 I0 s4_ _ _ := u4
    have b4_ := Nice.two (t := t) hN h.2.1 e4_
    have hsq : (seqP t n opB cdB P) s = loopP t n opB cdB P 160 c4_ f4_ s4_ := by unfold seqP; rw [e4_]
    refine s_istore_n (ls' := [some (.ref 66), some (.int v4_), none]) (tb_ok aX8_both0_0 2 rfl) rfl rfl ?_
    exact loop 160 _ _ _ _ _ _ _ w4_ u4 (by omega) hsq.symm

set_option maxRecDepth 100000 in
set_option maxHeartbeats 1000000 in
theorem L_either0 {X : En} {q : Nat × Nat} {I0 : FI} {F n : Nat} {t nm : Nat → Int32} (hT : TxX I0 F n t nm) {d f : Nat} (hd : 2 < d) {Q : Pst} {I : FI} {L : FL} (x : Int32) (o2 : Option Value) (h : RBad I0 f I) (hQ : ∀ v, Q (some (.int v)) S0 I L (R0 q)) : SW X (d + 1) mX8_either0 (0, 0) 5 [some (.ref 66), some (.int x), o2] [] S0 I L (R0 q) (KQ X Q) := by
  refine s_aload_n (tb_ok aX8_either0_0 3 rfl) rfl ?_
  refine s_bipush (v := 111) (tb_ok aX8_either0_0 4 rfl) (by decide) ?_
  refine s_bipush (v := 114) (tb_ok aX8_either0_0 5 rfl) (by decide) ?_
  refine s_iconst (v := 0) (tb_ok aX8_either0_0 6 rfl) (by decide) ?_
  refine s_iconst (v := 0) (tb_ok aX8_either0_0 7 rfl) (by decide) ?_
  refine s_iconst (v := 0) (tb_ok aX8_either0_0 8 rfl) (by decide) ?_
  refine s_iconst (v := 0) (tb_ok aX8_either0_0 9 rfl) (by decide) ?_
  refine s_iconst (v := 0) (tb_ok aX8_either0_0 10 rfl) (by decide) ?_
  refine s_iconst (v := 0) (tb_ok aX8_either0_0 11 rfl) (by decide) ?_
  refine s_cVp (as := [.int (111), .int (114), .int (0), .int (0), .int (0), .int (0), .int (0), .int (0)]) (tb_ok aX8_either0_0 12 rfl) v_RX8_193 (R_isWordE (I0 := I0) h.2.1) (by omega) rfl rfl rfl rfl rfl (Nat.le_of_ble_eq_true rfl) (by decide) ?_
  refine s_if_eq (tgt := 48) (tb_ok aX8_either0_0 13 rfl) (by decide) (fun c19 => ?_) (fun c19 => ?_)
  · refine s_iload_n (tb_ok aX8_either0_1 4 rfl) rfl ?_
    refine s_iret (tb_ok aX8_either0_1 5 rfl) rfl ?_
    exact hQ _
  · exact absurd c19 (by decide)

set_option maxRecDepth 100000 in
set_option maxHeartbeats 1000000 in
theorem C_either0 {X : En} {q : Nat × Nat} {I0 : FI} {F n : Nat} {t nm : Nat → Int32} (hT : TxX I0 F n t nm) {d dp : Nat} (hd : 2 < d) {P : Pa} (hN : Nice n dp P) (hi : CtX X q t nm n I0 d mX8_both0 0 P) : CtX X q t nm n I0 (d + 1) mX8_either0 0 (seqP t n opE cdE P) := by
  intro I L s h
  obtain ⟨hF, hn, hn160, hFn, ht, ht0, hnm⟩ := id hT
  have loop : ∀ k, ∀ (o2 : Option Value) (I : FI) (L : FL) (c : List Int32) (f : Sem) (s1 : St) (x : Int32), x = f nm → ROk t n 0 I0 s1 I L → 160 < s1.pl + k → loopP t n opE cdE P k c f s1 = (seqP t n opE cdE P) s → SW X (d + 1) mX8_either0 (0, 0) 5 [some (.ref 66), some (.int x), o2] [] S0 I L (R0 q) (KQ X (AfP q t nm n 0 I0 ((seqP t n opE cdE P) s))) := by
    intro k
    induction k with
    | zero =>
      intro o2 I L c f s1 x hx h1 hk hres
      have := h1.pln
      omega
    | succ k ih =>
      intro o2 I L c f s1 x hx h1 hk hres
      refine s_aload_n (tb_ok aX8_either0_0 3 rfl) rfl ?_
      refine s_bipush (v := 111) (tb_ok aX8_either0_0 4 rfl) (by decide) ?_
      refine s_bipush (v := 114) (tb_ok aX8_either0_0 5 rfl) (by decide) ?_
      refine s_iconst (v := 0) (tb_ok aX8_either0_0 6 rfl) (by decide) ?_
      refine s_iconst (v := 0) (tb_ok aX8_either0_0 7 rfl) (by decide) ?_
      refine s_iconst (v := 0) (tb_ok aX8_either0_0 8 rfl) (by decide) ?_
      refine s_iconst (v := 0) (tb_ok aX8_either0_0 9 rfl) (by decide) ?_
      refine s_iconst (v := 0) (tb_ok aX8_either0_0 10 rfl) (by decide) ?_
      refine s_iconst (v := 0) (tb_ok aX8_either0_0 11 rfl) (by decide) ?_
      refine s_cVp (as := [.int (111), .int (114), .int (0), .int (0), .int (0), .int (0), .int (0), .int (0)]) (tb_ok aX8_either0_0 12 rfl) v_RX8_193 (R_isWord hT h1 9 (by decide)) (by omega) rfl rfl rfl rfl rfl (Nat.le_of_ble_eq_true rfl) (by decide) ?_
      refine s_topi (bI_congr (isK_key (k := 9) (j := 7) (by decide) rfl)) ?_
      refine s_if_eq (tgt := 48) (tb_ok aX8_either0_0 13 rfl) (by decide) (fun c19 => ?_) (fun c19 => ?_)
      · refine s_iload_n (tb_ok aX8_either0_1 4 rfl) rfl ?_
        refine s_iret (tb_ok aX8_either0_1 5 rfl) rfl ?_
        refine ⟨rfl, rfl, _, rfl, ?_⟩
        rw [← hres, loopP, if_neg (bI_0.mp c19)]
        exact ⟨hx, h1⟩
      · have hop : opE s1.tok := bI_n c19
        refine s_aload_n (tb_ok aX8_either0_0 14 rfl) rfl ?_
        refine s_cV (as := []) (tb_ok aX8_either0_0 15 rfl) v_RX8_190 (R_next hT h1 (by rw [hop]; decide) (by rw [hop]; decide)) (by omega) rfl rfl rfl rfl rfl (Nat.le_of_ble_eq_true rfl) (by decide) (fun r1 S1 I1 L1 R1 q1 => ?_)
        obtain ⟨rfl, rfl, rfl, u1⟩ := q1
        have a2 := (adv_wf (t := t) h1.2.1).2.2 (by rw [hop]; decide)
        refine s_aload_n (tb_ok aX8_either0_0 16 rfl) rfl ?_
        refine s_cV (as := []) (tb_ok aX8_either0_0 17 rfl) v_RX8_332 (hi _ _ _ u1) (by omega) rfl rfl rfl rfl rfl (Nat.le_of_ble_eq_true rfl) (by decide) (fun r2 S2 I2 L2 R2 q2 => ?_)
        obtain ⟨rfl, rfl, v3_, rfl, u3⟩ := q2
        cases e3_ : P (adv t n s1) with
        | inr g3_ =>
          rw [e3_] at u3
          have u3 : RBad I0 g3_ _ := u3
          rw [loopP, if_pos hop, e3_] at hres
          refine s_istore_n (ls' := [some (.ref 66), some (.int x), some (.int v3_)]) (tb_ok aX8_either0_0 18 rfl) rfl rfl ?_
          refine s_iload_n (tb_ok aX8_either0_0 19 rfl) rfl ?_
          refine s_if_ne (tgt := 39) (tb_ok aX8_either0_0 20 rfl) (by decide) (fun c32 => ?_) (fun c32 => ?_)
          · refine s_iconst (v := 1) (tb_ok aX8_either0_0 23 rfl) (by decide) ?_
            refine s_goto (tgt := 44) (tb_ok aX8_either0_1 0 rfl) (by decide) ?_
            refine s_istore_n (ls' := [some (.ref 66), some (.int (1)), some (.int v3_)]) (tb_ok aX8_either0_1 2 rfl) rfl rfl ?_
            refine s_goto (tgt := 5) (tb_ok aX8_either0_1 3 rfl) (by decide) ?_
            refine L_either0 hT hd _ _ u3 (fun v => ⟨rfl, rfl, _, rfl, ?_⟩)
            rw [← hres]
            exact u3
          · refine s_iload_n (tb_ok aX8_either0_0 21 rfl) rfl ?_
            refine s_if_eq (tgt := 43) (tb_ok aX8_either0_0 22 rfl) (by decide) (fun c36 => ?_) (fun c36 => ?_)
            · refine s_iconst (v := 0) (tb_ok aX8_either0_1 1 rfl) (by decide) ?_
              refine s_istore_n (ls' := [some (.ref 66), some (.int (0)), some (.int v3_)]) (tb_ok aX8_either0_1 2 rfl) rfl rfl ?_
              refine s_goto (tgt := 5) (tb_ok aX8_either0_1 3 rfl) (by decide) ?_
              refine L_either0 hT hd _ _ u3 (fun v => ⟨rfl, rfl, _, rfl, ?_⟩)
              rw [← hres]
              exact u3
            · refine s_iconst (v := 1) (tb_ok aX8_either0_0 23 rfl) (by decide) ?_
              refine s_goto (tgt := 44) (tb_ok aX8_either0_1 0 rfl) (by decide) ?_
              refine s_istore_n (ls' := [some (.ref 66), some (.int (1)), some (.int v3_)]) (tb_ok aX8_either0_1 2 rfl) rfl rfl ?_
              refine s_goto (tgt := 5) (tb_ok aX8_either0_1 3 rfl) (by decide) ?_
              refine L_either0 hT hd _ _ u3 (fun v => ⟨rfl, rfl, _, rfl, ?_⟩)
              rw [← hres]
              exact u3
        | inl qq =>
          obtain ⟨c3_, f3_, s3_⟩ := qq
          rw [e3_] at u3
          obtain ⟨w3_, u3⟩ := u3
          have w3_ : v3_ = f3_ nm := w3_
          have u3 : ROk t n 0 I0 s3_ _ _ := u3
          have b3_ := Nice.two (t := t) hN u1.2.1 e3_
          rw [loopP, if_pos hop, e3_] at hres
          refine s_istore_n (ls' := [some (.ref 66), some (.int x), some (.int v3_)]) (tb_ok aX8_either0_0 18 rfl) rfl rfl ?_
          refine s_iload_n (tb_ok aX8_either0_0 19 rfl) rfl ?_
          refine s_if_ne (tgt := 39) (tb_ok aX8_either0_0 20 rfl) (by decide) (fun c32 => ?_) (fun c32 => ?_)
          · refine s_iconst (v := 1) (tb_ok aX8_either0_0 23 rfl) (by decide) ?_
            refine s_goto (tgt := 44) (tb_ok aX8_either0_1 0 rfl) (by decide) ?_
            refine s_istore_n (ls' := [some (.ref 66), some (.int (1)), some (.int v3_)]) (tb_ok aX8_either0_1 2 rfl) rfl rfl ?_
            refine s_goto (tgt := 5) (tb_ok aX8_either0_1 3 rfl) (by decide) ?_
            refine ih _ _ _ _ _ _ (1) ?_ u3 (by omega) hres
            show ((1) : Int32) = of2 30006 (f nm) _
            rw [of2_or, ← hx, ← w3_]
            exact (bI_t (by first | exact Or.inl c32 | exact Or.inr c36)).symm
          · refine s_iload_n (tb_ok aX8_either0_0 21 rfl) rfl ?_
            refine s_if_eq (tgt := 43) (tb_ok aX8_either0_0 22 rfl) (by decide) (fun c36 => ?_) (fun c36 => ?_)
            · refine s_iconst (v := 0) (tb_ok aX8_either0_1 1 rfl) (by decide) ?_
              refine s_istore_n (ls' := [some (.ref 66), some (.int (0)), some (.int v3_)]) (tb_ok aX8_either0_1 2 rfl) rfl rfl ?_
              refine s_goto (tgt := 5) (tb_ok aX8_either0_1 3 rfl) (by decide) ?_
              refine ih _ _ _ _ _ _ (0) ?_ u3 (by omega) hres
              show ((0) : Int32) = of2 30006 (f nm) _
              rw [of2_or, ← hx, ← w3_]
              exact (bI_f (fun h_ => h_.elim (fun k_ => k_ c32) (fun k_ => k_ c36))).symm
            · refine s_iconst (v := 1) (tb_ok aX8_either0_0 23 rfl) (by decide) ?_
              refine s_goto (tgt := 44) (tb_ok aX8_either0_1 0 rfl) (by decide) ?_
              refine s_istore_n (ls' := [some (.ref 66), some (.int (1)), some (.int v3_)]) (tb_ok aX8_either0_1 2 rfl) rfl rfl ?_
              refine s_goto (tgt := 5) (tb_ok aX8_either0_1 3 rfl) (by decide) ?_
              refine ih _ _ _ _ _ _ (1) ?_ u3 (by omega) hres
              show ((1) : Int32) = of2 30006 (f nm) _
              rw [of2_or, ← hx, ← w3_]
              exact (bI_t (by first | exact Or.inl c32 | exact Or.inr c36)).symm
  refine ev_of (by decide +kernel) rfl ?_
  show SW X _ _ _ 0 [some (.ref 66), none, none] [] S0 I L (R0 q) _
  refine s_aload_n (tb_ok aX8_either0_0 0 rfl) rfl ?_
  refine s_cV (as := []) (tb_ok aX8_either0_0 1 rfl) v_RX8_332 (hi _ _ _ h) (by omega) rfl rfl rfl rfl rfl (Nat.le_of_ble_eq_true rfl) (by decide) (fun r1 S1 I1 L1 R1 q1 => ?_)
  obtain ⟨rfl, rfl, v4_, rfl, u4⟩ := q1
  cases e4_ : P s with
  | inr g4_ =>
    rw [e4_] at u4
    have u4 : RBad I0 g4_ _ := u4
    have hsq : (seqP t n opE cdE P) s = .inr g4_ := by unfold seqP; rw [e4_]
    refine s_istore_n (ls' := [some (.ref 66), some (.int v4_), none]) (tb_ok aX8_either0_0 2 rfl) rfl rfl ?_
    refine L_either0 hT hd _ _ u4 (fun v => ⟨rfl, rfl, _, rfl, ?_⟩)
    rw [hsq]
    exact u4
  | inl qq =>
    obtain ⟨c4_, f4_, s4_⟩ := qq
    rw [e4_] at u4
    obtain ⟨w4_, u4⟩ := u4
    have w4_ : v4_ = f4_ nm := w4_
    have u4 : ROk t n 0 I0 s4_ _ _ := u4
    have b4_ := Nice.two (t := t) hN h.2.1 e4_
    have hsq : (seqP t n opE cdE P) s = loopP t n opE cdE P 160 c4_ f4_ s4_ := by unfold seqP; rw [e4_]
    refine s_istore_n (ls' := [some (.ref 66), some (.int v4_), none]) (tb_ok aX8_either0_0 2 rfl) rfl rfl ?_
    exact loop 160 _ _ _ _ _ _ _ w4_ u4 (by omega) hsq.symm
