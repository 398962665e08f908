/-! the reference: its houses, what falls, what a house takes, a day -/
def FrE (E : Nat → Nat → Prop) (I' I : FI) : Prop := ∀ o k, ¬ E o k → I' o k = I o k
theorem FrE.refl {E : Nat → Nat → Prop} {I : FI} : FrE E I I := fun _ _ _ => rfl
theorem FrE.trans {E : Nat → Nat → Prop} {A B C : FI} (h : FrE E A B) (h2 : FrE E B C) : FrE E A C := fun o k hn => (h o k hn).trans (h2 o k hn)
theorem FrE.mono {E F : Nat → Nat → Prop} {A B : FI} (h : FrE E A B) (hm : ∀ o k, E o k → F o k) : FrE F A B := fun o k hn => h o k (fun e => hn (hm o k e))
theorem FrE.put {E : Nat → Nat → Prop} {A B : FI} (h : FrE E A B) {o k : Nat} (he : E o k) (v : Int32) : FrE E (up2 A o k v) B := fun a j hn => (up2_nn _ _ (fun e => hn (by rw [e.1, e.2]; exact he))).trans (h a j hn)
/-- what a text's reading touches -/
def eS (o k : Nat) : Prop := o = 66 ∧ 14 ≤ k ∧ k ≤ 28
/-- what a day touches -/
def eP (o k : Nat) : Prop := eS o k ∨ (o = 66 ∧ k = 7) ∨ (o = 73 ∧ k < 20)
/-- what days that are laid back touch -/
def eB (o k : Nat) : Prop := eS o k ∨ (o = 66 ∧ k = 30) ∨ (o = 74 ∧ k < 20)
/-- the text of the rule, and what it says -/
def RTx (I : FI) (sem : Nat → Sem) : Prop := ∃ (ri n : Nat) (t : Nat → Int32), I 66 4 = nI ri ∧ ri < 6 ∧ I 68 ri = nI n ∧ n ≤ 160 ∧ (∀ k, k < n → I 67 (160 * ri + k) = t k) ∧ (∀ k, k < n → ¬ t k < 0) ∧ ∃ v0 c1 c2 c3 f1 f2 f3, readP t n v0 = .inl (c1, c2, c3, f1, f2, f3) ∧ sem = sem3 f1 f2 f3
def RSt (I : FI) (m : Nat) (fr fa : Nat → Int32) (M : Nat) (T : Nat → Nat → Int32) (d : Nat) (sem : Nat → Sem) : Prop := RLw I m fr fa ∧ okFa m fa ∧ RHs I M T ∧ I 66 7 = nI d ∧ RTx I sem ∧ ∀ j, j < M → okT (T j)
def Sees (A B : FI) : Prop := A 66 4 = B 66 4 ∧ A 66 7 = B 66 7 ∧ A 66 10 = B 66 10 ∧ A 66 13 = B 66 13 ∧ ∀ k, A 67 k = B 67 k ∧ A 68 k = B 68 k ∧ A 70 k = B 70 k ∧ A 71 k = B 71 k ∧ A 72 k = B 72 k ∧ A 73 k = B 73 k
section RST
variable {A I : FI} {m : Nat} {fr fa : Nat → Int32} {M : Nat} {T : Nat → Nat → Int32} {d : Nat} {sem : Nat → Sem}
theorem RSt.see (h : RSt I m fr fa M T d sem) (s : Sees A I) : RSt A m fr fa M T d sem := by
  obtain ⟨⟨a1, a2, a3⟩, hfa, ⟨b1, b2, b3⟩, hd, ⟨ri, n, t, c1, c2, c3, c4, c5, c6, c7⟩, hk⟩ := h
  obtain ⟨s1, s2, s3, s4, s5⟩ := s
  refine ⟨⟨s3.trans a1, a2, fun k hk => ⟨(s5 k).2.2.1.trans (a3 k hk).1, (s5 k).2.2.2.1.trans (a3 k hk).2⟩⟩, hfa, ⟨s4.trans b1, b2, fun j hj => ?_⟩, s2.trans hd, ⟨ri, n, t, s1.trans c1, c2, (s5 ri).2.1.trans c3, c4, fun k hk => (s5 _).1.trans (c5 k hk), c6, c7⟩, hk⟩
  obtain ⟨e0, e1, e2, e3, e4⟩ := b3 j hj
  exact ⟨(s5 _).2.2.2.2.1.trans e0, (s5 _).2.2.2.2.2.trans e1, (s5 _).2.2.2.2.2.trans e2, (s5 _).2.2.2.2.2.trans e3, (s5 _).2.2.2.2.2.trans e4⟩
theorem see_eS (h : FrE eS A I) : Sees A I := by
  have e : ∀ o k, ¬ eS o k → A o k = I o k := h
  refine ⟨e _ _ ?_, e _ _ ?_, e _ _ ?_, e _ _ ?_, fun k => ⟨e _ _ ?_, e _ _ ?_, e _ _ ?_, e _ _ ?_, e _ _ ?_, e _ _ ?_⟩⟩ <;> (intro x; obtain ⟨x1, x2, x3⟩ := x; omega)
theorem see_eB (h : FrE eB A I) : Sees A I := by
  have e : ∀ o k, ¬ eB o k → A o k = I o k := h
  refine ⟨e _ _ ?_, e _ _ ?_, e _ _ ?_, e _ _ ?_, fun k => ⟨e _ _ ?_, e _ _ ?_, e _ _ ?_, e _ _ ?_, e _ _ ?_, e _ _ ?_⟩⟩ <;> (intro x; rcases x with ⟨x1, x2, x3⟩ | ⟨x1, x2⟩ | ⟨x1, x2⟩ <;> omega)
theorem RSt.M5 (h : RSt I m fr fa M T d sem) : M ≤ 5 := h.2.2.1.2.1
theorem RSt.mn (h : RSt I m fr fa M T d sem) : I 66 13 = nI M := h.2.2.1.1
theorem RSt.c0 (h : RSt I m fr fa M T d sem) {j : Nat} (hj : j < M) : I 72 j = T j 0 := (h.2.2.1.2.2 j hj).1
theorem RSt.c1 (h : RSt I m fr fa M T d sem) {j : Nat} (hj : j < M) : I 73 (4 * j) = T j 1 := (h.2.2.1.2.2 j hj).2.1
theorem RSt.c2 (h : RSt I m fr fa M T d sem) {j : Nat} (hj : j < M) : I 73 (4 * j + 1) = T j 2 := (h.2.2.1.2.2 j hj).2.2.1
theorem RSt.c3 (h : RSt I m fr fa M T d sem) {j : Nat} (hj : j < M) : I 73 (4 * j + 2) = T j 3 := (h.2.2.1.2.2 j hj).2.2.2.1
theorem RSt.c4 (h : RSt I m fr fa M T d sem) {j : Nat} (hj : j < M) : I 73 (4 * j + 3) = T j 4 := (h.2.2.1.2.2 j hj).2.2.2.2
theorem RSt.day (h : RSt I m fr fa M T d sem) : I 66 7 = nI d := h.2.2.2.1
theorem RSt.ok (h : RSt I m fr fa M T d sem) {j : Nat} (hj : j < M) : okT (T j) := h.2.2.2.2.2 j hj
def uT (T : Nat → Nat → Int32) (j : Nat) (f : Nat → Int32) : Nat → Nat → Int32 := fun a => if a = j then f else T a
theorem uT_o {j : Nat} {f : Nat → Int32} : uT T j f j = f := if_pos rfl
theorem uT_n {j a : Nat} {f : Nat → Int32} (h : a ≠ j) : uT T j f a = T a := if_neg h
theorem RSt.row (h : RSt I m fr fa M T d sem) {j i : Nat} {v : Int32} (hj : j < M) (hi : i < 4) (hk : okT (upd (T j) (i + 1) v)) : RSt (up2 I 73 (4 * j + i) v) m fr fa M (uT T j (upd (T j) (i + 1) v)) d sem := by
  obtain ⟨⟨a1, a2, a3⟩, hfa, ⟨b1, b2, b3⟩, hd, hx, ho⟩ := h
  refine ⟨⟨a1, a2, a3⟩, hfa, ⟨b1, b2, fun a ha => ?_⟩, hd, hx, fun a ha => ?_⟩
  · have key : ∀ i2, i2 < 4 → I 73 (4 * a + i2) = T a (i2 + 1) → up2 I 73 (4 * j + i) v 73 (4 * a + i2) = uT T j (upd (T j) (i + 1) v) a (i2 + 1) := by
      intro i2 h2 e
      by_cases ha2 : a = j
      · subst ha2
        rw [uT_o]
        by_cases hi2 : i2 = i
        · subst hi2
          rw [up2_oo, upd_o]
        · rw [up2_nn _ _ (fun e => by omega), upd_ne (by omega)]
          exact e
      · rw [uT_n ha2, up2_nn _ _ (fun e => by omega)]
        exact e
    obtain ⟨e0, e1, e2, e3, e4⟩ := b3 a ha
    refine ⟨?_, key 0 (by omega) e1, key 1 (by omega) e2, key 2 (by omega) e3, key 3 (by omega) e4⟩
    show I 72 a = _
    rw [e0]
    by_cases ha2 : a = j
    · subst ha2; rw [uT_o, upd_ne (by omega)]
    · rw [uT_n ha2]
  · by_cases ha2 : a = j
    · subst ha2; rw [uT_o]; exact hk
    · rw [uT_n ha2]; exact ho a ha
theorem RSt.congr (h : RSt I m fr fa M T d sem) {T2 : Nat → Nat → Int32} (e : ∀ j, j < M → T2 j = T j) : RSt I m fr fa M T2 d sem := by
  obtain ⟨a, hfa, ⟨b1, b2, b3⟩, hd, hx, ho⟩ := h
  exact ⟨a, hfa, ⟨b1, b2, fun j hj => by rw [e j hj]; exact b3 j hj⟩, hd, hx, fun j hj => by rw [e j hj]; exact ho j hj⟩
theorem RSt.setDay (h : RSt I m fr fa M T d sem) (d2 : Nat) : RSt (up2 I 66 7 (nI d2)) m fr fa M T d2 sem := by
  obtain ⟨a, hfa, b, hd, hx, ho⟩ := h
  exact ⟨a, hfa, b, rfl, hx, ho⟩
theorem RSt.z (h : RSt I m fr fa M T d sem) {v : Nat} (hv : v < 4096) (wo : Int32) : nx fr fa m (clo fr fa m wo 12 (nI v)) wo = 0 := clo_z h.2.1 hv
end RST
/-- an answer, with what is read laid elsewhere -/
def AfZ (q : Nat × Nat) (E : Nat → Nat → Prop) (I : FI) (v : Int32) : Pst := fun r S' I' L' R' => r = some (.int v) ∧ S' = S0 ∧ R' = R0 q ∧ FrE E I' I
theorem afZ {q : Nat × Nat} {E : Nat → Nat → Prop} {I I' : FI} {v w : Int32} {L : FL} (e : w = v) (h : FrE E I' I) : AfZ q E I v (some (.int w)) S0 I' L (R0 q) := ⟨by rw [e], rfl, rfl, h⟩
def sy6 (I : FI) (a b c d e f : Int32) : FI := up2 (up2 (up2 (up2 (up2 (up2 I 66 14 a) 66 15 b) 66 16 c) 66 17 d) 66 18 e) 66 19 f
theorem sy6_fr {I A : FI} {a b c d e f : Int32} {ri n : Nat} (h : FrX A (hdX (sy6 I a b c d e f) ri n)) : FrE eS A I := by
  intro o k hn
  have hn2 : ¬ (o = 66 ∧ 14 ≤ k ∧ k ≤ 28) := hn
  rw [h o k (fun e => hn2 ⟨e.1, by omega, e.2.2⟩)]
  unfold hdX sy6
  rw [up2_nn _ _ (fun e => hn2 ⟨e.1, by omega, by omega⟩), up2_nn _ _ (fun e => hn2 ⟨e.1, by omega, by omega⟩), up2_nn _ _ (fun e => hn2 ⟨e.1, by omega, by omega⟩), up2_nn _ _ (fun e => hn2 ⟨e.1, by omega, by omega⟩), up2_nn _ _ (fun e => hn2 ⟨e.1, by omega, by omega⟩), up2_nn _ _ (fun e => hn2 ⟨e.1, by omega, by omega⟩), up2_nn _ _ (fun e => hn2 ⟨e.1, by omega, by omega⟩), up2_nn _ _ (fun e => hn2 ⟨e.1, by omega, by omega⟩)]
set_option maxRecDepth 100000 in
set_option maxHeartbeats 1000000 in
theorem R_knows {X : En} {L : FL} {q : Nat × Nat} {I : FI} {m : Nat} {fr fa : Nat → Int32} {M : Nat} {T : Nat → Nat → Int32} {d : Nat} {sem : Nat → Sem} (h : RSt I m fr fa M T d sem) {j : Nat} (hj : j < M) : Ev X 0 mX8_knows (0, 0) [.ref 66, .int (nI j)] S0 I L (R0 q) (PureR (some (.int (T j 2))) S0 I L (R0 q)) := by
  have hM5 := h.M5
  refine ev_of (by decide +kernel) rfl ?_
  show SW X _ _ _ 0 [some (.ref 66), some (.int (nI j))] [] S0 I L (R0 q) _
  refine s_aload_n (tb_ok aX8_knows_0 0 rfl) rfl ?_
  refine s_getR (r := 73) (tb_ok aX8_knows_0 1 rfl) f_RX8_32 rfl rfl rfl ?_
  refine s_iconst (v := 4) (tb_ok aX8_knows_0 2 rfl) (by decide) ?_
  refine s_iload_n (tb_ok aX8_knows_0 3 rfl) rfl ?_
  refine s_imul (tb_ok aX8_knows_0 4 rfl) ?_
  refine s_topi (z := (nI (4 * j))) (nI_mul 4 j) ?_
  refine s_iconst (v := 1) (tb_ok aX8_knows_0 5 rfl) (by decide) ?_
  refine s_iadd (tb_ok aX8_knows_0 6 rfl) ?_
  refine s_topi (z := (nI (4 * j + 1))) (nI_add' (4 * j) 1) ?_
  refine s_ialdX (x := (T j 2)) (tb_ok aX8_knows_0 7 rfl) rfl (by omega) (by decide) (h.c2 hj) ?_
  refine s_iret (tb_ok aX8_knows_0 8 rfl) rfl ?_
  exact pureR

set_option maxRecDepth 100000 in
set_option maxHeartbeats 1000000 in
theorem R_says0 {X : En} {L : FL} {q : Nat × Nat} {I : FI} {m : Nat} {fr fa : Nat → Int32} {M : Nat} {T : Nat → Nat → Int32} {d : Nat} {sem : Nat → Sem} (h : RSt I m fr fa M T d sem) {j : Nat} (hj : j < M) (fact : Int32) : Ev X 52 mX8_says (0, 0) [.ref 66, .int (0), .int (nI j), .int fact] S0 I L (R0 q) (AfZ q eS I (held (sem 0 (nmT (T j) fact (nI d))) 0 99)) := by
  have hM5 := h.M5
  obtain ⟨_, _, ⟨v, hv, ev⟩, _, _⟩ := h.ok hj
  obtain ⟨ri, n, t, e0, e1, e2, e3, e4, e5, v0, c1, c2, c3, f1, f2, f3, e6, e7⟩ := id h.2.2.2.2.1
  subst e7
  have hT : TxX (hdX (sy6 I fact (T j 4) (T j 1) (nI d) (bcF (T j 2)) (T j 3)) ri n) (160 * ri) n t (nmT (T j) fact (nI d)) := by
    refine ⟨rfl, rfl, e3, by omega, e4, e5, fun k hk => ?_⟩
    match k, hk with
    | 0, _ => rfl
    | 1, _ => rfl
    | 2, _ => rfl
    | 3, _ => rfl
    | 4, _ => rfl
    | 5, _ => rfl
  refine ev_of (by decide +kernel) rfl ?_
  show SW X _ _ _ 0 [some (.ref 66), some (.int (0)), some (.int (nI j)), some (.int fact), none] [] S0 I L (R0 q) _
  refine s_aload_n (tb_ok aX8_says_0 0 rfl) rfl ?_
  refine s_iload_n (tb_ok aX8_says_0 1 rfl) rfl ?_
  refine s_putI (tb_ok aX8_says_0 2 rfl) f_RX8_197 rfl rfl ?_
  refine s_aload_n (tb_ok aX8_says_0 3 rfl) rfl ?_
  refine s_aload_n (tb_ok aX8_says_0 4 rfl) rfl ?_
  refine s_getR (r := 73) (tb_ok aX8_says_0 5 rfl) f_RX8_32 rfl rfl rfl ?_
  refine s_iconst (v := 4) (tb_ok aX8_says_0 6 rfl) (by decide) ?_
  refine s_iload_n (tb_ok aX8_says_0 7 rfl) rfl ?_
  refine s_imul (tb_ok aX8_says_0 8 rfl) ?_
  refine s_topi (z := (nI (4 * j))) (nI_mul 4 j) ?_
  refine s_iconst (v := 3) (tb_ok aX8_says_0 9 rfl) (by decide) ?_
  refine s_iadd (tb_ok aX8_says_0 10 rfl) ?_
  refine s_topi (z := (nI (4 * j + 3))) (nI_add' (4 * j) 3) ?_
  refine s_ialdX (x := (T j 4)) (tb_ok aX8_says_0 11 rfl) rfl (by omega) (by decide) (h.c4 hj) ?_
  refine s_putI (tb_ok aX8_says_0 12 rfl) f_RX8_200 rfl rfl ?_
  refine s_aload_n (tb_ok aX8_says_0 13 rfl) rfl ?_
  refine s_aload_n (tb_ok aX8_says_0 14 rfl) rfl ?_
  refine s_getR (r := 73) (tb_ok aX8_says_0 15 rfl) f_RX8_32 rfl rfl rfl ?_
  refine s_iconst (v := 4) (tb_ok aX8_says_0 16 rfl) (by decide) ?_
  refine s_iload_n (tb_ok aX8_says_0 17 rfl) rfl ?_
  refine s_imul (tb_ok aX8_says_0 18 rfl) ?_
  refine s_topi (z := (nI (4 * j))) (nI_mul 4 j) ?_
  refine s_ialdX (x := (T j 1)) (tb_ok aX8_says_0 19 rfl) rfl (by omega) (by decide) (h.c1 hj) ?_
  refine s_putI (tb_ok aX8_says_0 20 rfl) f_RX8_203 rfl rfl ?_
  refine s_aload_n (tb_ok aX8_says_0 21 rfl) rfl ?_
  refine s_aload_n (tb_ok aX8_says_0 22 rfl) rfl ?_
  refine s_getI (x := (nI d)) (tb_ok aX8_says_0 23 rfl) f_RX8_105 rfl rfl h.day ?_
  refine s_putI (tb_ok aX8_says_1 0 rfl) f_RX8_206 rfl rfl ?_
  refine s_aload_n (tb_ok aX8_says_1 1 rfl) rfl ?_
  refine s_aload_n (tb_ok aX8_says_1 2 rfl) rfl ?_
  refine s_iload_n (tb_ok aX8_says_1 3 rfl) rfl ?_
  refine s_cVp (as := [.int (nI j)]) (tb_ok aX8_says_1 4 rfl) v_RX8_115 (R_knows (RSt.see h (see_eS (I := I) (by repeat first | exact FrE.refl | refine FrE.put ?_ ⟨rfl, by decide, by decide⟩ _))) hj) (by decide) rfl rfl rfl rfl rfl (Nat.le_of_ble_eq_true rfl) (by decide) ?_
  rw [ev]
  refine s_cSp (as := [.int (nI v)]) (tb_ok aX8_says_1 5 rfl) v_RX8_345 (R_bitsOf hv) (by decide) rfl rfl (Nat.le_of_ble_eq_true rfl) ?_
  rw [← ev]
  refine s_putI (tb_ok aX8_says_1 6 rfl) f_RX8_209 rfl rfl ?_
  refine s_aload_n (tb_ok aX8_says_1 7 rfl) rfl ?_
  refine s_aload_n (tb_ok aX8_says_1 8 rfl) rfl ?_
  refine s_getR (r := 73) (tb_ok aX8_says_1 9 rfl) f_RX8_32 rfl rfl rfl ?_
  refine s_iconst (v := 4) (tb_ok aX8_says_1 10 rfl) (by decide) ?_
  refine s_iload_n (tb_ok aX8_says_1 11 rfl) rfl ?_
  refine s_imul (tb_ok aX8_says_1 12 rfl) ?_
  refine s_topi (z := (nI (4 * j))) (nI_mul 4 j) ?_
  refine s_iconst (v := 2) (tb_ok aX8_says_1 13 rfl) (by decide) ?_
  refine s_iadd (tb_ok aX8_says_1 14 rfl) ?_
  refine s_topi (z := (nI (4 * j + 2))) (nI_add' (4 * j) 2) ?_
  refine s_ialdX (x := (T j 3)) (tb_ok aX8_says_1 15 rfl) rfl (by omega) (by decide) (h.c3 hj) ?_
  refine s_putI (tb_ok aX8_says_1 16 rfl) f_RX8_212 rfl rfl ?_
  refine s_aload_n (tb_ok aX8_says_1 17 rfl) rfl ?_
  refine s_aload_n (tb_ok aX8_says_1 18 rfl) rfl ?_
  refine s_getI (x := (nI ri)) (tb_ok aX8_says_1 19 rfl) f_RX8_108 rfl rfl e0 ?_
  refine s_iload_n (tb_ok aX8_says_1 20 rfl) rfl ?_
  refine s_cV (as := [.int (nI ri), .int (0)]) (tb_ok aX8_says_1 21 rfl) v_RX8_342 (R_read (I := sy6 I _ _ _ _ _ _) hT e2 e1 (0) v0) (by decide) rfl rfl rfl rfl rfl (Nat.le_of_ble_eq_true rfl) (by decide) (fun r1 S1 I1 L1 R1 q1 => ?_)
  obtain ⟨rfl, rfl, hfr, v1, rfl, hz⟩ := q1
  rw [e6] at hz
  have hz : v1 = _ ∧ _ := hz
  have hz1 := hz.1
  have hfs := sy6_fr hfr
  refine s_istore (ls' := [some (.ref 66), some (.int (0)), some (.int (nI j)), some (.int fact), some (.int v1)]) (tb_ok aX8_says_1 22 rfl) rfl rfl ?_
  refine s_iload_n (tb_ok aX8_says_1 23 rfl) rfl ?_
  refine s_if_ne (tgt := 91) (tb_ok aX8_says_2 0 rfl) (by decide) (fun c77 => ?_) (fun c77 => ?_)
  · exact absurd c77 (by decide)
  · refine s_iload (tb_ok aX8_says_2 1 rfl) rfl ?_
    refine s_iconst (v := 0) (tb_ok aX8_says_2 2 rfl) (by decide) ?_
    refine s_bipush (v := 99) (tb_ok aX8_says_2 3 rfl) (by decide) ?_
    refine s_cSp (as := [.int v1, .int (0), .int (99)]) (tb_ok aX8_says_2 4 rfl) v_RX8_348 (R_within _ _ _) (by decide) rfl rfl (Nat.le_of_ble_eq_true rfl) ?_
    rw [wit_held (by decide)]
    refine s_goto (tgt := 110) (tb_ok aX8_says_2 5 rfl) (by decide) ?_
    refine s_iret (tb_ok aX8_says_2 15 rfl) rfl ?_
    exact afZ (by rw [hz1]; rfl) hfs

set_option maxRecDepth 100000 in
set_option maxHeartbeats 1000000 in
theorem R_says1 {X : En} {L : FL} {q : Nat × Nat} {I : FI} {m : Nat} {fr fa : Nat → Int32} {M : Nat} {T : Nat → Nat → Int32} {d : Nat} {sem : Nat → Sem} (h : RSt I m fr fa M T d sem) {j : Nat} (hj : j < M) (fact : Int32) : Ev X 52 mX8_says (0, 0) [.ref 66, .int (1), .int (nI j), .int fact] S0 I L (R0 q) (AfZ q eS I (held (sem 1 (nmT (T j) fact (nI d))) (-9) 9)) := by
  have hM5 := h.M5
  obtain ⟨_, _, ⟨v, hv, ev⟩, _, _⟩ := h.ok hj
  obtain ⟨ri, n, t, e0, e1, e2, e3, e4, e5, v0, c1, c2, c3, f1, f2, f3, e6, e7⟩ := id h.2.2.2.2.1
  subst e7
  have hT : TxX (hdX (sy6 I fact (T j 4) (T j 1) (nI d) (bcF (T j 2)) (T j 3)) ri n) (160 * ri) n t (nmT (T j) fact (nI d)) := by
    refine ⟨rfl, rfl, e3, by omega, e4, e5, fun k hk => ?_⟩
    match k, hk with
    | 0, _ => rfl
    | 1, _ => rfl
    | 2, _ => rfl
    | 3, _ => rfl
    | 4, _ => rfl
    | 5, _ => rfl
  refine ev_of (by decide +kernel) rfl ?_
  show SW X _ _ _ 0 [some (.ref 66), some (.int (1)), some (.int (nI j)), some (.int fact), none] [] S0 I L (R0 q) _
  refine s_aload_n (tb_ok aX8_says_0 0 rfl) rfl ?_
  refine s_iload_n (tb_ok aX8_says_0 1 rfl) rfl ?_
  refine s_putI (tb_ok aX8_says_0 2 rfl) f_RX8_197 rfl rfl ?_
  refine s_aload_n (tb_ok aX8_says_0 3 rfl) rfl ?_
  refine s_aload_n (tb_ok aX8_says_0 4 rfl) rfl ?_
  refine s_getR (r := 73) (tb_ok aX8_says_0 5 rfl) f_RX8_32 rfl rfl rfl ?_
  refine s_iconst (v := 4) (tb_ok aX8_says_0 6 rfl) (by decide) ?_
  refine s_iload_n (tb_ok aX8_says_0 7 rfl) rfl ?_
  refine s_imul (tb_ok aX8_says_0 8 rfl) ?_
  refine s_topi (z := (nI (4 * j))) (nI_mul 4 j) ?_
  refine s_iconst (v := 3) (tb_ok aX8_says_0 9 rfl) (by decide) ?_
  refine s_iadd (tb_ok aX8_says_0 10 rfl) ?_
  refine s_topi (z := (nI (4 * j + 3))) (nI_add' (4 * j) 3) ?_
  refine s_ialdX (x := (T j 4)) (tb_ok aX8_says_0 11 rfl) rfl (by omega) (by decide) (h.c4 hj) ?_
  refine s_putI (tb_ok aX8_says_0 12 rfl) f_RX8_200 rfl rfl ?_
  refine s_aload_n (tb_ok aX8_says_0 13 rfl) rfl ?_
  refine s_aload_n (tb_ok aX8_says_0 14 rfl) rfl ?_
  refine s_getR (r := 73) (tb_ok aX8_says_0 15 rfl) f_RX8_32 rfl rfl rfl ?_
  refine s_iconst (v := 4) (tb_ok aX8_says_0 16 rfl) (by decide) ?_
  refine s_iload_n (tb_ok aX8_says_0 17 rfl) rfl ?_
  refine s_imul (tb_ok aX8_says_0 18 rfl) ?_
  refine s_topi (z := (nI (4 * j))) (nI_mul 4 j) ?_
  refine s_ialdX (x := (T j 1)) (tb_ok aX8_says_0 19 rfl) rfl (by omega) (by decide) (h.c1 hj) ?_
  refine s_putI (tb_ok aX8_says_0 20 rfl) f_RX8_203 rfl rfl ?_
  refine s_aload_n (tb_ok aX8_says_0 21 rfl) rfl ?_
  refine s_aload_n (tb_ok aX8_says_0 22 rfl) rfl ?_
  refine s_getI (x := (nI d)) (tb_ok aX8_says_0 23 rfl) f_RX8_105 rfl rfl h.day ?_
  refine s_putI (tb_ok aX8_says_1 0 rfl) f_RX8_206 rfl rfl ?_
  refine s_aload_n (tb_ok aX8_says_1 1 rfl) rfl ?_
  refine s_aload_n (tb_ok aX8_says_1 2 rfl) rfl ?_
  refine s_iload_n (tb_ok aX8_says_1 3 rfl) rfl ?_
  refine s_cVp (as := [.int (nI j)]) (tb_ok aX8_says_1 4 rfl) v_RX8_115 (R_knows (RSt.see h (see_eS (I := I) (by repeat first | exact FrE.refl | refine FrE.put ?_ ⟨rfl, by decide, by decide⟩ _))) hj) (by decide) rfl rfl rfl rfl rfl (Nat.le_of_ble_eq_true rfl) (by decide) ?_
  rw [ev]
  refine s_cSp (as := [.int (nI v)]) (tb_ok aX8_says_1 5 rfl) v_RX8_345 (R_bitsOf hv) (by decide) rfl rfl (Nat.le_of_ble_eq_true rfl) ?_
  rw [← ev]
  refine s_putI (tb_ok aX8_says_1 6 rfl) f_RX8_209 rfl rfl ?_
  refine s_aload_n (tb_ok aX8_says_1 7 rfl) rfl ?_
  refine s_aload_n (tb_ok aX8_says_1 8 rfl) rfl ?_
  refine s_getR (r := 73) (tb_ok aX8_says_1 9 rfl) f_RX8_32 rfl rfl rfl ?_
  refine s_iconst (v := 4) (tb_ok aX8_says_1 10 rfl) (by decide) ?_
  refine s_iload_n (tb_ok aX8_says_1 11 rfl) rfl ?_
  refine s_imul (tb_ok aX8_says_1 12 rfl) ?_
  refine s_topi (z := (nI (4 * j))) (nI_mul 4 j) ?_
  refine s_iconst (v := 2) (tb_ok aX8_says_1 13 rfl) (by decide) ?_
  refine s_iadd (tb_ok aX8_says_1 14 rfl) ?_
  refine s_topi (z := (nI (4 * j + 2))) (nI_add' (4 * j) 2) ?_
  refine s_ialdX (x := (T j 3)) (tb_ok aX8_says_1 15 rfl) rfl (by omega) (by decide) (h.c3 hj) ?_
  refine s_putI (tb_ok aX8_says_1 16 rfl) f_RX8_212 rfl rfl ?_
  refine s_aload_n (tb_ok aX8_says_1 17 rfl) rfl ?_
  refine s_aload_n (tb_ok aX8_says_1 18 rfl) rfl ?_
  refine s_getI (x := (nI ri)) (tb_ok aX8_says_1 19 rfl) f_RX8_108 rfl rfl e0 ?_
  refine s_iload_n (tb_ok aX8_says_1 20 rfl) rfl ?_
  refine s_cV (as := [.int (nI ri), .int (1)]) (tb_ok aX8_says_1 21 rfl) v_RX8_342 (R_read (I := sy6 I _ _ _ _ _ _) hT e2 e1 (1) v0) (by decide) rfl rfl rfl rfl rfl (Nat.le_of_ble_eq_true rfl) (by decide) (fun r1 S1 I1 L1 R1 q1 => ?_)
  obtain ⟨rfl, rfl, hfr, v1, rfl, hz⟩ := q1
  rw [e6] at hz
  have hz : v1 = _ ∧ _ := hz
  have hz1 := hz.1
  have hfs := sy6_fr hfr
  refine s_istore (ls' := [some (.ref 66), some (.int (1)), some (.int (nI j)), some (.int fact), some (.int v1)]) (tb_ok aX8_says_1 22 rfl) rfl rfl ?_
  refine s_iload_n (tb_ok aX8_says_1 23 rfl) rfl ?_
  refine s_if_ne (tgt := 91) (tb_ok aX8_says_2 0 rfl) (by decide) (fun c77 => ?_) (fun c77 => ?_)
  · refine s_iload_n (tb_ok aX8_says_2 6 rfl) rfl ?_
    refine s_iconst (v := 1) (tb_ok aX8_says_2 7 rfl) (by decide) ?_
    refine s_icmp_ne (tgt := 108) (tb_ok aX8_says_2 8 rfl) (by decide) (fun c93 => ?_) (fun c93 => ?_)
    · exact absurd rfl c93
    · refine s_iload (tb_ok aX8_says_2 9 rfl) rfl ?_
      refine s_bipush (v := -9) (tb_ok aX8_says_2 10 rfl) (by decide) ?_
      refine s_bipush (v := 9) (tb_ok aX8_says_2 11 rfl) (by decide) ?_
      refine s_cSp (as := [.int v1, .int (-9), .int (9)]) (tb_ok aX8_says_2 12 rfl) v_RX8_348 (R_within _ _ _) (by decide) rfl rfl (Nat.le_of_ble_eq_true rfl) ?_
      rw [wit_held (by decide)]
      refine s_goto (tgt := 110) (tb_ok aX8_says_2 13 rfl) (by decide) ?_
      refine s_iret (tb_ok aX8_says_2 15 rfl) rfl ?_
      exact afZ (by rw [hz1]; rfl) hfs
  · exact absurd c77 (by decide)

set_option maxRecDepth 100000 in
set_option maxHeartbeats 1000000 in
theorem R_says2 {X : En} {L : FL} {q : Nat × Nat} {I : FI} {m : Nat} {fr fa : Nat → Int32} {M : Nat} {T : Nat → Nat → Int32} {d : Nat} {sem : Nat → Sem} (h : RSt I m fr fa M T d sem) {j : Nat} (hj : j < M) (fact : Int32) : Ev X 52 mX8_says (0, 0) [.ref 66, .int (2), .int (nI j), .int fact] S0 I L (R0 q) (AfZ q eS I (sem 2 (nmT (T j) fact (nI d)))) := by
  have hM5 := h.M5
  obtain ⟨_, _, ⟨v, hv, ev⟩, _, _⟩ := h.ok hj
  obtain ⟨ri, n, t, e0, e1, e2, e3, e4, e5, v0, c1, c2, c3, f1, f2, f3, e6, e7⟩ := id h.2.2.2.2.1
  subst e7
  have hT : TxX (hdX (sy6 I fact (T j 4) (T j 1) (nI d) (bcF (T j 2)) (T j 3)) ri n) (160 * ri) n t (nmT (T j) fact (nI d)) := by
    refine ⟨rfl, rfl, e3, by omega, e4, e5, fun k hk => ?_⟩
    match k, hk with
    | 0, _ => rfl
    | 1, _ => rfl
    | 2, _ => rfl
    | 3, _ => rfl
    | 4, _ => rfl
    | 5, _ => rfl
  refine ev_of (by decide +kernel) rfl ?_
  show SW X _ _ _ 0 [some (.ref 66), some (.int (2)), some (.int (nI j)), some (.int fact), none] [] S0 I L (R0 q) _
  refine s_aload_n (tb_ok aX8_says_0 0 rfl) rfl ?_
  refine s_iload_n (tb_ok aX8_says_0 1 rfl) rfl ?_
  refine s_putI (tb_ok aX8_says_0 2 rfl) f_RX8_197 rfl rfl ?_
  refine s_aload_n (tb_ok aX8_says_0 3 rfl) rfl ?_
  refine s_aload_n (tb_ok aX8_says_0 4 rfl) rfl ?_
  refine s_getR (r := 73) (tb_ok aX8_says_0 5 rfl) f_RX8_32 rfl rfl rfl ?_
  refine s_iconst (v := 4) (tb_ok aX8_says_0 6 rfl) (by decide) ?_
  refine s_iload_n (tb_ok aX8_says_0 7 rfl) rfl ?_
  refine s_imul (tb_ok aX8_says_0 8 rfl) ?_
  refine s_topi (z := (nI (4 * j))) (nI_mul 4 j) ?_
  refine s_iconst (v := 3) (tb_ok aX8_says_0 9 rfl) (by decide) ?_
  refine s_iadd (tb_ok aX8_says_0 10 rfl) ?_
  refine s_topi (z := (nI (4 * j + 3))) (nI_add' (4 * j) 3) ?_
  refine s_ialdX (x := (T j 4)) (tb_ok aX8_says_0 11 rfl) rfl (by omega) (by decide) (h.c4 hj) ?_
  refine s_putI (tb_ok aX8_says_0 12 rfl) f_RX8_200 rfl rfl ?_
  refine s_aload_n (tb_ok aX8_says_0 13 rfl) rfl ?_
  refine s_aload_n (tb_ok aX8_says_0 14 rfl) rfl ?_
  refine s_getR (r := 73) (tb_ok aX8_says_0 15 rfl) f_RX8_32 rfl rfl rfl ?_
  refine s_iconst (v := 4) (tb_ok aX8_says_0 16 rfl) (by decide) ?_
  refine s_iload_n (tb_ok aX8_says_0 17 rfl) rfl ?_
  refine s_imul (tb_ok aX8_says_0 18 rfl) ?_
  refine s_topi (z := (nI (4 * j))) (nI_mul 4 j) ?_
  refine s_ialdX (x := (T j 1)) (tb_ok aX8_says_0 19 rfl) rfl (by omega) (by decide) (h.c1 hj) ?_
  refine s_putI (tb_ok aX8_says_0 20 rfl) f_RX8_203 rfl rfl ?_
  refine s_aload_n (tb_ok aX8_says_0 21 rfl) rfl ?_
  refine s_aload_n (tb_ok aX8_says_0 22 rfl) rfl ?_
  refine s_getI (x := (nI d)) (tb_ok aX8_says_0 23 rfl) f_RX8_105 rfl rfl h.day ?_
  refine s_putI (tb_ok aX8_says_1 0 rfl) f_RX8_206 rfl rfl ?_
  refine s_aload_n (tb_ok aX8_says_1 1 rfl) rfl ?_
  refine s_aload_n (tb_ok aX8_says_1 2 rfl) rfl ?_
  refine s_iload_n (tb_ok aX8_says_1 3 rfl) rfl ?_
  refine s_cVp (as := [.int (nI j)]) (tb_ok aX8_says_1 4 rfl) v_RX8_115 (R_knows (RSt.see h (see_eS (I := I) (by repeat first | exact FrE.refl | refine FrE.put ?_ ⟨rfl, by decide, by decide⟩ _))) hj) (by decide) rfl rfl rfl rfl rfl (Nat.le_of_ble_eq_true rfl) (by decide) ?_
  rw [ev]
  refine s_cSp (as := [.int (nI v)]) (tb_ok aX8_says_1 5 rfl) v_RX8_345 (R_bitsOf hv) (by decide) rfl rfl (Nat.le_of_ble_eq_true rfl) ?_
  rw [← ev]
  refine s_putI (tb_ok aX8_says_1 6 rfl) f_RX8_209 rfl rfl ?_
  refine s_aload_n (tb_ok aX8_says_1 7 rfl) rfl ?_
  refine s_aload_n (tb_ok aX8_says_1 8 rfl) rfl ?_
  refine s_getR (r := 73) (tb_ok aX8_says_1 9 rfl) f_RX8_32 rfl rfl rfl ?_
  refine s_iconst (v := 4) (tb_ok aX8_says_1 10 rfl) (by decide) ?_
  refine s_iload_n (tb_ok aX8_says_1 11 rfl) rfl ?_
  refine s_imul (tb_ok aX8_says_1 12 rfl) ?_
  refine s_topi (z := (nI (4 * j))) (nI_mul 4 j) ?_
  refine s_iconst (v := 2) (tb_ok aX8_says_1 13 rfl) (by decide) ?_
  refine s_iadd (tb_ok aX8_says_1 14 rfl) ?_
  refine s_topi (z := (nI (4 * j + 2))) (nI_add' (4 * j) 2) ?_
  refine s_ialdX (x := (T j 3)) (tb_ok aX8_says_1 15 rfl) rfl (by omega) (by decide) (h.c3 hj) ?_
  refine s_putI (tb_ok aX8_says_1 16 rfl) f_RX8_212 rfl rfl ?_
  refine s_aload_n (tb_ok aX8_says_1 17 rfl) rfl ?_
  refine s_aload_n (tb_ok aX8_says_1 18 rfl) rfl ?_
  refine s_getI (x := (nI ri)) (tb_ok aX8_says_1 19 rfl) f_RX8_108 rfl rfl e0 ?_
  refine s_iload_n (tb_ok aX8_says_1 20 rfl) rfl ?_
  refine s_cV (as := [.int (nI ri), .int (2)]) (tb_ok aX8_says_1 21 rfl) v_RX8_342 (R_read (I := sy6 I _ _ _ _ _ _) hT e2 e1 (2) v0) (by decide) rfl rfl rfl rfl rfl (Nat.le_of_ble_eq_true rfl) (by decide) (fun r1 S1 I1 L1 R1 q1 => ?_)
  obtain ⟨rfl, rfl, hfr, v1, rfl, hz⟩ := q1
  rw [e6] at hz
  have hz : v1 = _ ∧ _ := hz
  have hz1 := hz.1
  have hfs := sy6_fr hfr
  refine s_istore (ls' := [some (.ref 66), some (.int (2)), some (.int (nI j)), some (.int fact), some (.int v1)]) (tb_ok aX8_says_1 22 rfl) rfl rfl ?_
  refine s_iload_n (tb_ok aX8_says_1 23 rfl) rfl ?_
  refine s_if_ne (tgt := 91) (tb_ok aX8_says_2 0 rfl) (by decide) (fun c77 => ?_) (fun c77 => ?_)
  · refine s_iload_n (tb_ok aX8_says_2 6 rfl) rfl ?_
    refine s_iconst (v := 1) (tb_ok aX8_says_2 7 rfl) (by decide) ?_
    refine s_icmp_ne (tgt := 108) (tb_ok aX8_says_2 8 rfl) (by decide) (fun c93 => ?_) (fun c93 => ?_)
    · refine s_iload (tb_ok aX8_says_2 14 rfl) rfl ?_
      refine s_iret (tb_ok aX8_says_2 15 rfl) rfl ?_
      exact afZ (by rw [hz1]; rfl) hfs
    · exact absurd c93 (by decide)
  · exact absurd c77 (by decide)
