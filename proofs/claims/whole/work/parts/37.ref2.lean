/-! the reference reads a text: its token, its signs, its words -/
def FrX (I I0 : FI) : Prop := ∀ o k, ¬ (o = 66 ∧ 22 ≤ k ∧ k ≤ 28) → I o k = I0 o k
def TxX (I0 : FI) (F n : Nat) (t nm : Nat → Int32) : Prop := I0 66 20 = nI F ∧ I0 66 21 = nI n ∧ n ≤ 160 ∧ F + n ≤ 960 ∧ (∀ k, k < n → I0 67 (F + k) = t k) ∧ (∀ k, k < n → ¬ t k < 0) ∧ ∀ k, k < 6 → I0 66 (14 + k) = nm k
theorem FrX.put {I I0 : FI} (h : FrX I I0) {k : Nat} (h1 : 22 ≤ k) (h2 : k ≤ 28) (v : Int32) : FrX (up2 I 66 k v) I0 := by
  intro o j hn
  rw [up2_nn _ _ (fun e => hn ⟨e.1, by omega, by omega⟩)]
  exact h o j hn
theorem FrX.at {I I0 : FI} (h : FrX I I0) {k : Nat} (h1 : ¬ (22 ≤ k ∧ k ≤ 28)) : I 66 k = I0 66 k := h 66 k (fun e => h1 e.2)
theorem FrX.far {I I0 : FI} (h : FrX I I0) {o : Nat} (h1 : o ≠ 66) (k : Nat) : I o k = I0 o k := h o k (fun e => h1 e.1)
/-- the token at hand is s -/
def TkX (t : Nat → Int32) (I : FI) (L : FL) (s : St) : Prop :=
  (s.tok = 0 ∧ I 66 23 = 0) ∨ (s.tok = 1 ∧ I 66 23 = 4)
  ∨ (s.tok = 2 ∧ I 66 23 = 2 ∧ I 66 22 = nI s.at_ ∧ ∃ m, m < 10000 ∧ s.val = nI m ∧ L 66 25 = (nI m).toInt64)
  ∨ (I 66 23 = 1 ∧ ∃ e v0, I 66 22 = nI e ∧ e ≤ 160 ∧ s.pl < e ∧ (∀ j, s.pl ≤ j → j < e → ltP (t j)) ∧ s = wdS v0 (wrdI (slc t s.pl (e - s.pl)) wordsL 0) s.pl e)
  ∨ (sgP s.tok ∧ I 66 23 = 3 ∧ I 66 22 = nI s.at_ ∧ L 66 25 = s.tok.toInt64)
def ROk (t : Nat → Int32) (n o : Nat) (I0 : FI) (s : St) (I : FI) (L : FL) : Prop := FrX I I0 ∧ Wf n s ∧ I 66 27 = 0 ∧ I 66 26 = nI o ∧ I 66 24 = nI s.pl ∧ TkX t I L s
def RBad (I0 : FI) (f : Nat) (I : FI) : Prop := FrX I I0 ∧ I 66 27 = 1 ∧ I 66 28 = nI f
def AfF (q : Nat × Nat) (I0 : FI) (f : Nat) : Pst := fun r S' I' L' R' => r = none ∧ S' = S0 ∧ R' = R0 q ∧ RBad I0 f I'
def AfT (q : Nat × Nat) (t : Nat → Int32) (n o : Nat) (I0 : FI) (s : St) (r0 : Option Value) : Pst := fun r S' I' L' R' => r = r0 ∧ S' = S0 ∧ R' = R0 q ∧ ROk t n o I0 s I' L'
theorem bI_n {p : Prop} [Decidable p] (h : ¬ bI p = 0) : p := Classical.byContradiction (fun h2 => h (bI_f h2))
theorem cmp_eq (x z : Int64) : lg_cmp x z = 0 ↔ x = z := by
  constructor
  · intro h
    have h1 : ¬ x < z := fun h2 => by have := (cmp_lt x z).mpr h2; rw [h] at this; exact absurd this (by decide)
    have h2 : ¬ z < x := fun h2 => by have := (cmp_gt x z).mpr h2; rw [h] at this; exact absurd this (by decide)
    apply Int64.toInt_inj.mp
    simp only [Int64.lt_iff_toInt_lt] at h1 h2
    omega
  · intro h
    have h1 : ¬ lg_cmp x z < 0 := fun h2 => by have := (cmp_lt x z).mp h2; rw [h] at this; exact absurd this (by simp [Int64.lt_iff_toInt_lt])
    have h2 : ¬ 0 < lg_cmp x z := fun h2 => by have := (cmp_gt x z).mp h2; rw [h] at this; exact absurd this (by simp [Int64.lt_iff_toInt_lt])
    apply Int32.toInt_inj.mp
    simp only [Int32.lt_iff_toInt_lt] at h1 h2
    have e : (0 : Int32).toInt = 0 := by decide
    omega
def btx (t : Nat → Int32) (n i : Nat) : Int32 := if i < n then t i else -1
theorem btx_lt {t : Nat → Int32} {n i : Nat} {p : Int32 → Prop} (hp : ¬ p (-1)) (h : p (btx t n i)) : i < n ∧ p (t i) := by
  unfold btx at h
  by_cases h1 : i < n
  · rw [if_pos h1] at h; exact ⟨h1, h⟩
  · rw [if_neg h1] at h; exact absurd h hp
theorem btx_no {t : Nat → Int32} {n i : Nat} {p : Int32 → Prop} (h : ¬ p (btx t n i)) : ¬ (i < n ∧ p (t i)) := by
  intro hh
  unfold btx at h
  rw [if_pos hh.1] at h
  exact h hh.2
set_option maxRecDepth 100000 in
set_option maxHeartbeats 1000000 in
theorem R_byteAt {X : En} {L : FL} {q : Nat × Nat} {I I0 : FI} {F n : Nat} {t nm : Nat → Int32} (hT : TxX I0 F n t nm) {i : Nat} (hf : FrX I I0) (hi : i ≤ 1000) : Ev X 0 mX8_byteAt (0, 0) [.ref 66, .int (nI i)] S0 I L (R0 q) (PureR (some (.int (btx t n i))) S0 I L (R0 q)) := by
  obtain ⟨hF, hn, hn160, hFn, ht, ht0, hnm⟩ := id hT
  refine ev_of (by decide +kernel) rfl ?_
  show SW X _ _ _ 0 [some (.ref 66), some (.int (nI i))] [] S0 I L (R0 q) _
  refine s_iload_n (tb_ok aX8_byteAt_0 0 rfl) rfl ?_
  refine s_aload_n (tb_ok aX8_byteAt_0 1 rfl) rfl ?_
  refine s_getI (x := (nI n)) (tb_ok aX8_byteAt_0 2 rfl) f_RX8_141 rfl rfl ((FrX.at hf (by decide)).trans hn) ?_
  refine s_icmp_ge (tgt := 22) (tb_ok aX8_byteAt_0 3 rfl) (by decide) (fun c5 => ?_) (fun c5 => ?_)
  · refine s_iconst (v := -1) (tb_ok aX8_byteAt_0 12 rfl) (by decide) ?_
    refine s_iret (tb_ok aX8_byteAt_0 13 rfl) rfl ?_
    refine pureE (congrArg (fun z => some (Value.int z)) (if_neg ?_).symm)
    simp (disch := omega) only [nI_ltI, nI_leI, nI_eq] at c5
    omega
  · refine s_aload_n (tb_ok aX8_byteAt_0 4 rfl) rfl ?_
    refine s_getR (r := 67) (tb_ok aX8_byteAt_0 5 rfl) f_RX8_13 rfl rfl rfl ?_
    refine s_aload_n (tb_ok aX8_byteAt_0 6 rfl) rfl ?_
    refine s_getI (x := (nI F)) (tb_ok aX8_byteAt_0 7 rfl) f_RX8_144 rfl rfl ((FrX.at hf (by decide)).trans hF) ?_
    refine s_iload_n (tb_ok aX8_byteAt_0 8 rfl) rfl ?_
    refine s_iadd (tb_ok aX8_byteAt_0 9 rfl) ?_
    refine s_topi (z := (nI (F + i))) (nI_add' F i) ?_
    refine s_ialdN (tb_ok aX8_byteAt_0 10 rfl) rfl (by simp (disch := omega) only [nI_leI] at c5; omega) (by decide) ?_
    refine s_goto (tgt := 23) (tb_ok aX8_byteAt_0 11 rfl) (by decide) ?_
    refine s_iret (tb_ok aX8_byteAt_0 13 rfl) rfl ?_
    simp (disch := omega) only [nI_leI] at c5
    refine pureE (congrArg (fun z => some (Value.int z)) ?_)
    unfold btx
    rw [if_pos (by omega)]
    exact (FrX.far hf (by decide) _).trans (ht i (by omega))

theorem ROk.pln {t : Nat → Int32} {n o : Nat} {I0 I : FI} {L : FL} {s : St} (h : ROk t n o I0 s I L) : s.pl ≤ n := h.2.1.pl
theorem ROk.bad {t : Nat → Int32} {n o : Nat} {I0 I : FI} {L : FL} {s : St} (h : ROk t n o I0 s I L) : RBad I0 s.pl (up2 (up2 I 66 27 1) 66 28 (nI s.pl)) :=
  ⟨(h.1.put (by omega) (by omega) _).put (by omega) (by omega) _, rfl, rfl⟩
theorem RBad.put26 {I0 I : FI} {f : Nat} (h : RBad I0 f I) (v : Int32) : RBad I0 f (up2 I 66 26 v) := ⟨h.1.put (by omega) (by omega) _, h.2.1, h.2.2⟩
theorem ROk.put26 {t : Nat → Int32} {n o : Nat} {I0 I : FI} {L : FL} {s : St} (h : ROk t n o I0 s I L) (o2 : Nat) : ROk t n o2 I0 s (up2 I 66 26 (nI o2)) L := ⟨h.1.put (by omega) (by omega) _, h.2.1, h.2.2.1, rfl, h.2.2.2.2.1, h.2.2.2.2.2⟩
set_option maxRecDepth 100000 in
set_option maxHeartbeats 1000000 in
theorem R_fail {X : En} {L : FL} {q : Nat × Nat} {I I0 : FI} {n o : Nat} {t : Nat → Int32} {s : St} (h : ROk t n o I0 s I L) : Ev X 0 mX8_fail (0, 0) [.ref 66] S0 I L (R0 q) (AfF q I0 s.pl) := by
  refine ev_of (by decide +kernel) rfl ?_
  show SW X _ _ _ 0 [some (.ref 66)] [] S0 I L (R0 q) _
  refine s_aload_n (tb_ok aX8_fail_0 0 rfl) rfl ?_
  refine s_getI (x := (0)) (tb_ok aX8_fail_0 1 rfl) f_RX8_173 rfl rfl h.2.2.1 ?_
  refine s_if_ne (tgt := 20) (tb_ok aX8_fail_0 2 rfl) (by decide) (fun c4 => ?_) (fun c4 => ?_)
  · exact absurd c4 (by decide)
  · refine s_aload_n (tb_ok aX8_fail_0 3 rfl) rfl ?_
    refine s_iconst (v := 1) (tb_ok aX8_fail_0 4 rfl) (by decide) ?_
    refine s_putZ (tb_ok aX8_fail_0 5 rfl) f_RX8_173 rfl rfl (Or.inr rfl) ?_
    refine s_aload_n (tb_ok aX8_fail_0 6 rfl) rfl ?_
    refine s_aload_n (tb_ok aX8_fail_0 7 rfl) rfl ?_
    refine s_getI (x := (nI s.pl)) (tb_ok aX8_fail_0 8 rfl) f_RX8_153 rfl rfl h.2.2.2.2.1 ?_
    refine s_putI (tb_ok aX8_fail_0 9 rfl) f_RX8_177 rfl rfl ?_
    refine s_vret (tb_ok aX8_fail_0 10 rfl) rfl ?_
    exact ⟨rfl, rfl, rfl, h.bad⟩

set_option maxRecDepth 100000 in
set_option maxHeartbeats 1000000 in
theorem R_failE {X : En} {L : FL} {q : Nat × Nat} {I I0 : FI} {f : Nat} (h : RBad I0 f I) : Ev X 0 mX8_fail (0, 0) [.ref 66] S0 I L (R0 q) (AfF q I0 f) := by
  refine ev_of (by decide +kernel) rfl ?_
  show SW X _ _ _ 0 [some (.ref 66)] [] S0 I L (R0 q) _
  refine s_aload_n (tb_ok aX8_fail_0 0 rfl) rfl ?_
  refine s_getI (x := (1)) (tb_ok aX8_fail_0 1 rfl) f_RX8_173 rfl rfl h.2.1 ?_
  refine s_if_ne (tgt := 20) (tb_ok aX8_fail_0 2 rfl) (by decide) (fun c4 => ?_) (fun c4 => ?_)
  · refine s_vret (tb_ok aX8_fail_0 10 rfl) rfl ?_
    exact ⟨rfl, rfl, rfl, h⟩
  · exact absurd c4 (by decide)

theorem i64_inj {a b : Int32} : a.toInt64 = b.toInt64 ↔ a = b := by
  constructor
  · intro h
    have := congrArg Int64.toInt h
    simp only [Int32.toInt_toInt64] at this
    exact Int32.toInt_inj.mp this
  · intro h; rw [h]
theorem wdS_pl (v w : Int32) (p e : Nat) : (wdS v w p e).at_ = e := by
  unfold wdS
  by_cases h : w < 6
  · rw [if_pos h]
  · rw [if_neg h]
/-- a word's token is 1, 3 or 4 .. 9 -/
theorem wdS_tok (v : Int32) (c : List Int32) (p e : Nat) : (wrdI c wordsL 0 = -1 ∧ (wdS v (wrdI c wordsL 0) p e).tok = 1) ∨ (∃ j, j < 6 ∧ wrdI c wordsL 0 = nI j ∧ (wdS v (wrdI c wordsL 0) p e).tok = 3 ∧ (wdS v (wrdI c wordsL 0) p e).val = nI (10000 + j)) ∨ ∃ j, 6 ≤ j ∧ j < 12 ∧ wrdI c wordsL 0 = nI j ∧ (wdS v (wrdI c wordsL 0) p e).tok = nI (j - 2) := by
  rcases wrd_12 c with h | ⟨j, hj, h⟩
  · exact Or.inl ⟨h, by rw [h]; rfl⟩
  · refine Or.inr ?_
    rw [h]
    by_cases h6 : j < 6
    · refine Or.inl ⟨j, h6, rfl, ?_⟩
      match j, h6 with
      | 0, _ => exact ⟨rfl, rfl⟩
      | 1, _ => exact ⟨rfl, rfl⟩
      | 2, _ => exact ⟨rfl, rfl⟩
      | 3, _ => exact ⟨rfl, rfl⟩
      | 4, _ => exact ⟨rfl, rfl⟩
      | 5, _ => exact ⟨rfl, rfl⟩
    · refine Or.inr ⟨j, by omega, hj, rfl, ?_⟩
      have e : j = 6 ∨ j = 7 ∨ j = 8 ∨ j = 9 ∨ j = 10 ∨ j = 11 := by omega
      rcases e with e | e | e | e | e | e <;> subst e <;> rfl
theorem sg_no {x : Int32} (h : sgP x) : x ≠ 0 ∧ x ≠ 1 ∧ x ≠ 2 ∧ x ≠ 3 ∧ ∀ j, 6 ≤ j → j < 12 → x ≠ nI (j - 2) := by
  have key : ∀ x : Int32, (x = 40 ∨ x = 41 ∨ x = 59 ∨ x = 43 ∨ x = 45 ∨ x = 42 ∨ x = 60 ∨ x = 61) → x ≠ 0 ∧ x ≠ 1 ∧ x ≠ 2 ∧ x ≠ 3 ∧ ∀ j, j < 12 → 6 ≤ j → x ≠ nI (j - 2) := by
    intro x h
    rcases h with h | h | h | h | h | h | h | h <;> subst h <;> exact ⟨by decide, by decide, by decide, by decide, by decide⟩
  obtain ⟨h1, h2, h3, h4, h5⟩ := key x h
  exact ⟨h1, h2, h3, h4, fun j a b => h5 j b a⟩
theorem TkX.sign {t : Nat → Int32} {I : FI} {L : FL} {s : St} (h : TkX t I L s) {c : Int32} (hc : sgP c) : s.tok = c ↔ (I 66 23 = 3 ∧ L 66 25 = c.toInt64) := by
  obtain ⟨g0, g1, g2, g3, g4⟩ := sg_no hc
  rcases h with ⟨h1, h2⟩ | ⟨h1, h2⟩ | ⟨h1, h2, _⟩ | ⟨h2, e, v0, _, _, _, _, h3⟩ | ⟨h1, h2, _, h3⟩
  · rw [h1, h2]; exact ⟨fun e => absurd e.symm g0, fun e => absurd e.1 (by decide)⟩
  · rw [h1, h2]; exact ⟨fun e => absurd e.symm g1, fun e => absurd e.1 (by decide)⟩
  · rw [h1, h2]; exact ⟨fun e => absurd e.symm g2, fun e => absurd e.1 (by decide)⟩
  · rw [h2]
    refine ⟨fun e1 => ?_, fun e => absurd e.1 (by decide)⟩
    exfalso
    rw [h3] at e1
    rcases wdS_tok v0 (slc t s.pl (e - s.pl)) s.pl e with ⟨_, h⟩ | ⟨j, _, _, h, _⟩ | ⟨j, a, b, _, h⟩
    · exact g1 (e1.symm.trans h)
    · exact g3 (e1.symm.trans h)
    · exact g4 j a b (e1.symm.trans h)
  · rw [h2, h3, i64_inj]
    exact ⟨fun e => ⟨rfl, e⟩, fun e => e.2⟩
set_option maxRecDepth 100000 in
set_option maxHeartbeats 1000000 in
theorem R_isSign {X : En} {L : FL} {q : Nat × Nat} {I I0 : FI} {t : Nat → Int32} {s : St} (hb : I 66 27 = 0) (h : TkX t I L s) {c : Int32} (hc : sgP c) : Ev X 0 mX8_isSign (0, 0) [.ref 66, .int c] S0 I L (R0 q) (PureR (some (.int (bI (s.tok = c)))) S0 I L (R0 q)) := by
  refine ev_of (by decide +kernel) rfl ?_
  show SW X _ _ _ 0 [some (.ref 66), some (.int c)] [] S0 I L (R0 q) _
  refine s_aload_n (tb_ok aX8_isSign_0 0 rfl) rfl ?_
  refine s_getI (x := (0)) (tb_ok aX8_isSign_0 1 rfl) f_RX8_173 rfl rfl hb ?_
  refine s_if_ne (tgt := 29) (tb_ok aX8_isSign_0 2 rfl) (by decide) (fun c4 => ?_) (fun c4 => ?_)
  · exact absurd c4 (by decide)
  · refine s_aload_n (tb_ok aX8_isSign_0 3 rfl) rfl ?_
    refine s_getI (tb_ok aX8_isSign_0 4 rfl) f_RX8_156 rfl rfl rfl ?_
    refine s_iconst (v := 3) (tb_ok aX8_isSign_0 5 rfl) (by decide) ?_
    refine s_icmp_ne (tgt := 29) (tb_ok aX8_isSign_0 6 rfl) (by decide) (fun c12 => ?_) (fun c12 => ?_)
    · refine s_iconst (v := 0) (tb_ok aX8_isSign_0 15 rfl) (by decide) ?_
      refine s_zret (tb_ok aX8_isSign_0 16 rfl) rfl ?_ ?_
      exact Or.inl rfl
      refine pureE (congrArg (fun z => some (Value.int z)) (bI_f (fun e => ?_)).symm)
      have e2 := (h.sign hc).mp e
      first | exact c12 e2.1 | exact c22 ((cmp_eq _ _).mpr e2.2)
    · refine s_aload_n (tb_ok aX8_isSign_0 7 rfl) rfl ?_
      refine s_getL (tb_ok aX8_isSign_0 8 rfl) f_RX8_167 rfl rfl rfl ?_
      refine s_iload_n (tb_ok aX8_isSign_0 9 rfl) rfl ?_
      refine s_i2l (tb_ok aX8_isSign_0 10 rfl) ?_
      refine s_lcmp (tb_ok aX8_isSign_0 11 rfl) ?_
      refine s_if_ne (tgt := 29) (tb_ok aX8_isSign_0 12 rfl) (by decide) (fun c22 => ?_) (fun c22 => ?_)
      · refine s_iconst (v := 0) (tb_ok aX8_isSign_0 15 rfl) (by decide) ?_
        refine s_zret (tb_ok aX8_isSign_0 16 rfl) rfl ?_ ?_
        exact Or.inl rfl
        refine pureE (congrArg (fun z => some (Value.int z)) (bI_f (fun e => ?_)).symm)
        have e2 := (h.sign hc).mp e
        first | exact c12 e2.1 | exact c22 ((cmp_eq _ _).mpr e2.2)
      · refine s_iconst (v := 1) (tb_ok aX8_isSign_0 13 rfl) (by decide) ?_
        refine s_goto (tgt := 30) (tb_ok aX8_isSign_0 14 rfl) (by decide) ?_
        refine s_zret (tb_ok aX8_isSign_0 16 rfl) rfl ?_ ?_
        exact Or.inr rfl
        exact pureE (congrArg (fun z => some (Value.int z)) (bI_t (h.sign hc |>.mpr ⟨c12, (cmp_eq _ _).mp c22⟩)).symm)

set_option maxRecDepth 100000 in
set_option maxHeartbeats 1000000 in
theorem R_isSignE {X : En} {L : FL} {q : Nat × Nat} {I I0 : FI} (hb : I 66 27 = 1) {c : Int32} : Ev X 0 mX8_isSign (0, 0) [.ref 66, .int c] S0 I L (R0 q) (PureR (some (.int 0)) S0 I L (R0 q)) := by
  refine ev_of (by decide +kernel) rfl ?_
  show SW X _ _ _ 0 [some (.ref 66), some (.int c)] [] S0 I L (R0 q) _
  refine s_aload_n (tb_ok aX8_isSign_0 0 rfl) rfl ?_
  refine s_getI (x := (1)) (tb_ok aX8_isSign_0 1 rfl) f_RX8_173 rfl rfl hb ?_
  refine s_if_ne (tgt := 29) (tb_ok aX8_isSign_0 2 rfl) (by decide) (fun c4 => ?_) (fun c4 => ?_)
  · refine s_iconst (v := 0) (tb_ok aX8_isSign_0 15 rfl) (by decide) ?_
    refine s_zret (tb_ok aX8_isSign_0 16 rfl) rfl ?_ ?_
    exact Or.inl rfl
    exact pureR
  · exact absurd c4 (by decide)

def ltx (t : Nat → Int32) (p e i : Nat) (c : Int32) : Int32 := if p + i < e then bI (t (p + i) = c) else bI (c = 0)
set_option maxRecDepth 100000 in
set_option maxHeartbeats 1000000 in
theorem R_isLetter {X : En} {L : FL} {q : Nat × Nat} {I I0 : FI} {F n : Nat} {t nm : Nat → Int32} (hT : TxX I0 F n t nm) {p e i : Nat} {c : Int32} (hf : FrX I I0) (hp : I 66 24 = nI p) (he : I 66 22 = nI e) (hpn : p ≤ 160) (hen : e ≤ n) (hi : i ≤ 100) : Ev X 1 mX8_isLetter (0, 0) [.ref 66, .int (nI i), .int c] S0 I L (R0 q) (PureR (some (.int (ltx t p e i c))) S0 I L (R0 q)) := by
  obtain ⟨hF, hn, hn160, hFn, ht, ht0, hnm⟩ := id hT
  refine ev_of (by decide +kernel) rfl ?_
  show SW X _ _ _ 0 [some (.ref 66), some (.int (nI i)), some (.int c)] [] S0 I L (R0 q) _
  refine s_aload_n (tb_ok aX8_isLetter_0 0 rfl) rfl ?_
  refine s_getI (x := (nI p)) (tb_ok aX8_isLetter_0 1 rfl) f_RX8_153 rfl rfl hp ?_
  refine s_iload_n (tb_ok aX8_isLetter_0 2 rfl) rfl ?_
  refine s_iadd (tb_ok aX8_isLetter_0 3 rfl) ?_
  refine s_topi (z := (nI (p + i))) (nI_add' p i) ?_
  refine s_aload_n (tb_ok aX8_isLetter_0 4 rfl) rfl ?_
  refine s_getI (x := (nI e)) (tb_ok aX8_isLetter_0 5 rfl) f_RX8_147 rfl rfl he ?_
  refine s_icmp_ge (tgt := 35) (tb_ok aX8_isLetter_0 6 rfl) (by decide) (fun c10 => ?_) (fun c10 => ?_)
  · refine s_iload_n (tb_ok aX8_isLetter_0 19 rfl) rfl ?_
    refine s_if_ne (tgt := 43) (tb_ok aX8_isLetter_0 20 rfl) (by decide) (fun c36 => ?_) (fun c36 => ?_)
    · refine s_iconst (v := 0) (tb_ok aX8_isLetter_0 23 rfl) (by decide) ?_
      refine s_zret (tb_ok aX8_isLetter_1 0 rfl) rfl ?_ ?_
      exact Or.inl rfl
      refine pureE (congrArg (fun z => some (Value.int z)) ?_)
      try simp (disch := omega) only [nI_leI] at c10
      unfold ltx
      first | (rw [if_pos (by omega)]; first | exact (bI_t c24).symm | exact (bI_f c24).symm) | (rw [if_neg (by omega)]; first | exact (bI_t c36).symm | exact (bI_f c36).symm)
    · refine s_iconst (v := 1) (tb_ok aX8_isLetter_0 21 rfl) (by decide) ?_
      refine s_goto (tgt := 44) (tb_ok aX8_isLetter_0 22 rfl) (by decide) ?_
      refine s_zret (tb_ok aX8_isLetter_1 0 rfl) rfl ?_ ?_
      exact Or.inr rfl
      refine pureE (congrArg (fun z => some (Value.int z)) ?_)
      try simp (disch := omega) only [nI_leI] at c10
      unfold ltx
      first | (rw [if_pos (by omega)]; first | exact (bI_t c24).symm | exact (bI_f c24).symm) | (rw [if_neg (by omega)]; first | exact (bI_t c36).symm | exact (bI_f c36).symm)
  · refine s_aload_n (tb_ok aX8_isLetter_0 7 rfl) rfl ?_
    refine s_aload_n (tb_ok aX8_isLetter_0 8 rfl) rfl ?_
    refine s_getI (x := (nI p)) (tb_ok aX8_isLetter_0 9 rfl) f_RX8_153 rfl rfl hp ?_
    refine s_iload_n (tb_ok aX8_isLetter_0 10 rfl) rfl ?_
    refine s_iadd (tb_ok aX8_isLetter_0 11 rfl) ?_
    refine s_topi (z := (nI (p + i))) (nI_add' p i) ?_
    refine s_cVp (as := [.int (nI (p + i))]) (tb_ok aX8_isLetter_0 12 rfl) v_RX8_150 (R_byteAt hT (i := p + i) hf (by omega)) (by decide) rfl rfl rfl rfl rfl (Nat.le_of_ble_eq_true rfl) (by decide) ?_
    simp (disch := omega) only [nI_leI] at c10
    have eb : btx t n (p + i) = t (p + i) := if_pos (by omega)
    rw [eb]
    refine s_iload_n (tb_ok aX8_isLetter_0 13 rfl) rfl ?_
    refine s_icmp_ne (tgt := 31) (tb_ok aX8_isLetter_0 14 rfl) (by decide) (fun c24 => ?_) (fun c24 => ?_)
    · refine s_iconst (v := 0) (tb_ok aX8_isLetter_0 17 rfl) (by decide) ?_
      refine s_goto (tgt := 44) (tb_ok aX8_isLetter_0 18 rfl) (by decide) ?_
      refine s_zret (tb_ok aX8_isLetter_1 0 rfl) rfl ?_ ?_
      exact Or.inl rfl
      refine pureE (congrArg (fun z => some (Value.int z)) ?_)
      try simp (disch := omega) only [nI_leI] at c10
      unfold ltx
      first | (rw [if_pos (by omega)]; first | exact (bI_t c24).symm | exact (bI_f c24).symm) | (rw [if_neg (by omega)]; first | exact (bI_t c36).symm | exact (bI_f c36).symm)
    · refine s_iconst (v := 1) (tb_ok aX8_isLetter_0 15 rfl) (by decide) ?_
      refine s_goto (tgt := 44) (tb_ok aX8_isLetter_0 16 rfl) (by decide) ?_
      refine s_zret (tb_ok aX8_isLetter_1 0 rfl) rfl ?_ ?_
      exact Or.inr rfl
      refine pureE (congrArg (fun z => some (Value.int z)) ?_)
      try simp (disch := omega) only [nI_leI] at c10
      unfold ltx
      first | (rw [if_pos (by omega)]; first | exact (bI_t c24).symm | exact (bI_f c24).symm) | (rw [if_neg (by omega)]; first | exact (bI_t c36).symm | exact (bI_f c36).symm)

theorem ltx1 {t : Nat → Int32} {p e i : Nat} {c : Int32} (h : ¬ ltx t p e i c = 0) : ltx t p e i c = 1 := by
  unfold ltx at *
  by_cases h1 : p + i < e
  · rw [if_pos h1] at *; exact bI_t (bI_n h)
  · rw [if_neg h1] at *; exact bI_t (bI_n h)
set_option maxRecDepth 100000 in
set_option maxHeartbeats 1000000 in
theorem R_isWord1 {X : En} {L : FL} {q : Nat × Nat} {I I0 : FI} {F n : Nat} {t nm : Nat → Int32} (hT : TxX I0 F n t nm) {p e : Nat} {a0 a1 a2 a3 a4 a5 a6 a7 : Int32} (hf : FrX I I0) (hb : I 66 27 = 0) (hk : I 66 23 = 1) (hp : I 66 24 = nI p) (he : I 66 22 = nI e) (hpn : p ≤ 160) (hen : e ≤ n) : Ev X 2 mX8_isWord (0, 0) [.ref 66, .int a0, .int a1, .int a2, .int a3, .int a4, .int a5, .int a6, .int a7] S0 I L (R0 q) (PureR (some (.int (bI (e ≤ p + 8 ∧ ltx t p e 0 a0 = 1 ∧ ltx t p e 1 a1 = 1 ∧ ltx t p e 2 a2 = 1 ∧ ltx t p e 3 a3 = 1 ∧ ltx t p e 4 a4 = 1 ∧ ltx t p e 5 a5 = 1 ∧ ltx t p e 6 a6 = 1 ∧ ltx t p e 7 a7 = 1)))) S0 I L (R0 q)) := by
  obtain ⟨hF, hn, hn160, hFn, ht, ht0, hnm⟩ := id hT
  refine ev_of (by decide +kernel) rfl ?_
  show SW X _ _ _ 0 [some (.ref 66), some (.int a0), some (.int a1), some (.int a2), some (.int a3), some (.int a4), some (.int a5), some (.int a6), some (.int a7)] [] S0 I L (R0 q) _
  refine s_aload_n (tb_ok aX8_isWord_0 0 rfl) rfl ?_
  refine s_getI (x := (0)) (tb_ok aX8_isWord_0 1 rfl) f_RX8_173 rfl rfl hb ?_
  refine s_if_ne (tgt := 112) (tb_ok aX8_isWord_0 2 rfl) (by decide) (fun c4 => ?_) (fun c4 => ?_)
  · exact absurd c4 (by decide)
  · refine s_aload_n (tb_ok aX8_isWord_0 3 rfl) rfl ?_
    refine s_getI (x := (1)) (tb_ok aX8_isWord_0 4 rfl) f_RX8_156 rfl rfl hk ?_
    refine s_iconst (v := 1) (tb_ok aX8_isWord_0 5 rfl) (by decide) ?_
    refine s_icmp_ne (tgt := 112) (tb_ok aX8_isWord_0 6 rfl) (by decide) (fun c12 => ?_) (fun c12 => ?_)
    · exact absurd rfl c12
    · refine s_aload_n (tb_ok aX8_isWord_0 7 rfl) rfl ?_
      refine s_getI (x := (nI e)) (tb_ok aX8_isWord_0 8 rfl) f_RX8_147 rfl rfl he ?_
      refine s_aload_n (tb_ok aX8_isWord_0 9 rfl) rfl ?_
      refine s_getI (x := (nI p)) (tb_ok aX8_isWord_0 10 rfl) f_RX8_153 rfl rfl hp ?_
      refine s_bipush (v := 8) (tb_ok aX8_isWord_0 11 rfl) (by decide) ?_
      refine s_iadd (tb_ok aX8_isWord_0 12 rfl) ?_
      refine s_topi (z := (nI (p + 8))) (nI_add' p 8) ?_
      refine s_icmp_gt (tgt := 112) (tb_ok aX8_isWord_0 13 rfl) (by decide) (fun c26 => ?_) (fun c26 => ?_)
      · refine s_iconst (v := 0) (tb_ok aX8_isWord_2 8 rfl) (by decide) ?_
        refine s_zret (tb_ok aX8_isWord_2 9 rfl) rfl ?_ ?_
        exact Or.inl rfl
        refine pureE (congrArg (fun z => some (Value.int z)) (bI_f (fun hh => ?_)).symm)
        first | (simp (disch := omega) only [nI_leI, nI_ltI] at c26; have h9 := hh.1; omega; done) | exact absurd (c35.symm.trans (hh.2.1)) (by decide) | exact absurd (c44.symm.trans (hh.2.2.1)) (by decide) | exact absurd (c53.symm.trans (hh.2.2.2.1)) (by decide) | exact absurd (c63.symm.trans (hh.2.2.2.2.1)) (by decide) | exact absurd (c73.symm.trans (hh.2.2.2.2.2.1)) (by decide) | exact absurd (c83.symm.trans (hh.2.2.2.2.2.2.1)) (by decide) | exact absurd (c94.symm.trans (hh.2.2.2.2.2.2.2.1)) (by decide) | exact absurd (c105.symm.trans (hh.2.2.2.2.2.2.2.2)) (by decide)
      · refine s_aload_n (tb_ok aX8_isWord_0 14 rfl) rfl ?_
        refine s_iconst (v := 0) (tb_ok aX8_isWord_0 15 rfl) (by decide) ?_
        refine s_iload_n (tb_ok aX8_isWord_0 16 rfl) rfl ?_
        refine s_cVp (as := [.int (0), .int a0]) (tb_ok aX8_isWord_0 17 rfl) v_RX8_180 (R_isLetter hT (i := 0) hf hp he (by omega) hen (by omega)) (by decide) rfl rfl rfl rfl rfl (Nat.le_of_ble_eq_true rfl) (by decide) ?_
        refine s_if_eq (tgt := 112) (tb_ok aX8_isWord_0 18 rfl) (by decide) (fun c35 => ?_) (fun c35 => ?_)
        · refine s_iconst (v := 0) (tb_ok aX8_isWord_2 8 rfl) (by decide) ?_
          refine s_zret (tb_ok aX8_isWord_2 9 rfl) rfl ?_ ?_
          exact Or.inl rfl
          refine pureE (congrArg (fun z => some (Value.int z)) (bI_f (fun hh => ?_)).symm)
          first | (simp (disch := omega) only [nI_leI, nI_ltI] at c26; have h9 := hh.1; omega; done) | exact absurd (c35.symm.trans (hh.2.1)) (by decide) | exact absurd (c44.symm.trans (hh.2.2.1)) (by decide) | exact absurd (c53.symm.trans (hh.2.2.2.1)) (by decide) | exact absurd (c63.symm.trans (hh.2.2.2.2.1)) (by decide) | exact absurd (c73.symm.trans (hh.2.2.2.2.2.1)) (by decide) | exact absurd (c83.symm.trans (hh.2.2.2.2.2.2.1)) (by decide) | exact absurd (c94.symm.trans (hh.2.2.2.2.2.2.2.1)) (by decide) | exact absurd (c105.symm.trans (hh.2.2.2.2.2.2.2.2)) (by decide)
        · refine s_aload_n (tb_ok aX8_isWord_0 19 rfl) rfl ?_
          refine s_iconst (v := 1) (tb_ok aX8_isWord_0 20 rfl) (by decide) ?_
          refine s_iload_n (tb_ok aX8_isWord_0 21 rfl) rfl ?_
          refine s_cVp (as := [.int (1), .int a1]) (tb_ok aX8_isWord_0 22 rfl) v_RX8_180 (R_isLetter hT (i := 1) hf hp he (by omega) hen (by omega)) (by decide) rfl rfl rfl rfl rfl (Nat.le_of_ble_eq_true rfl) (by decide) ?_
          refine s_if_eq (tgt := 112) (tb_ok aX8_isWord_0 23 rfl) (by decide) (fun c44 => ?_) (fun c44 => ?_)
          · refine s_iconst (v := 0) (tb_ok aX8_isWord_2 8 rfl) (by decide) ?_
            refine s_zret (tb_ok aX8_isWord_2 9 rfl) rfl ?_ ?_
            exact Or.inl rfl
            refine pureE (congrArg (fun z => some (Value.int z)) (bI_f (fun hh => ?_)).symm)
            first | (simp (disch := omega) only [nI_leI, nI_ltI] at c26; have h9 := hh.1; omega; done) | exact absurd (c35.symm.trans (hh.2.1)) (by decide) | exact absurd (c44.symm.trans (hh.2.2.1)) (by decide) | exact absurd (c53.symm.trans (hh.2.2.2.1)) (by decide) | exact absurd (c63.symm.trans (hh.2.2.2.2.1)) (by decide) | exact absurd (c73.symm.trans (hh.2.2.2.2.2.1)) (by decide) | exact absurd (c83.symm.trans (hh.2.2.2.2.2.2.1)) (by decide) | exact absurd (c94.symm.trans (hh.2.2.2.2.2.2.2.1)) (by decide) | exact absurd (c105.symm.trans (hh.2.2.2.2.2.2.2.2)) (by decide)
          · refine s_aload_n (tb_ok aX8_isWord_1 0 rfl) rfl ?_
            refine s_iconst (v := 2) (tb_ok aX8_isWord_1 1 rfl) (by decide) ?_
            refine s_iload_n (tb_ok aX8_isWord_1 2 rfl) rfl ?_
            refine s_cVp (as := [.int (2), .int a2]) (tb_ok aX8_isWord_1 3 rfl) v_RX8_180 (R_isLetter hT (i := 2) hf hp he (by omega) hen (by omega)) (by decide) rfl rfl rfl rfl rfl (Nat.le_of_ble_eq_true rfl) (by decide) ?_
            refine s_if_eq (tgt := 112) (tb_ok aX8_isWord_1 4 rfl) (by decide) (fun c53 => ?_) (fun c53 => ?_)
            · refine s_iconst (v := 0) (tb_ok aX8_isWord_2 8 rfl) (by decide) ?_
              refine s_zret (tb_ok aX8_isWord_2 9 rfl) rfl ?_ ?_
              exact Or.inl rfl
              refine pureE (congrArg (fun z => some (Value.int z)) (bI_f (fun hh => ?_)).symm)
              first | (simp (disch := omega) only [nI_leI, nI_ltI] at c26; have h9 := hh.1; omega; done) | exact absurd (c35.symm.trans (hh.2.1)) (by decide) | exact absurd (c44.symm.trans (hh.2.2.1)) (by decide) | exact absurd (c53.symm.trans (hh.2.2.2.1)) (by decide) | exact absurd (c63.symm.trans (hh.2.2.2.2.1)) (by decide) | exact absurd (c73.symm.trans (hh.2.2.2.2.2.1)) (by decide) | exact absurd (c83.symm.trans (hh.2.2.2.2.2.2.1)) (by decide) | exact absurd (c94.symm.trans (hh.2.2.2.2.2.2.2.1)) (by decide) | exact absurd (c105.symm.trans (hh.2.2.2.2.2.2.2.2)) (by decide)
            · refine s_aload_n (tb_ok aX8_isWord_1 5 rfl) rfl ?_
              refine s_iconst (v := 3) (tb_ok aX8_isWord_1 6 rfl) (by decide) ?_
              refine s_iload (tb_ok aX8_isWord_1 7 rfl) rfl ?_
              refine s_cVp (as := [.int (3), .int a3]) (tb_ok aX8_isWord_1 8 rfl) v_RX8_180 (R_isLetter hT (i := 3) hf hp he (by omega) hen (by omega)) (by decide) rfl rfl rfl rfl rfl (Nat.le_of_ble_eq_true rfl) (by decide) ?_
              refine s_if_eq (tgt := 112) (tb_ok aX8_isWord_1 9 rfl) (by decide) (fun c63 => ?_) (fun c63 => ?_)
              · refine s_iconst (v := 0) (tb_ok aX8_isWord_2 8 rfl) (by decide) ?_
                refine s_zret (tb_ok aX8_isWord_2 9 rfl) rfl ?_ ?_
                exact Or.inl rfl
                refine pureE (congrArg (fun z => some (Value.int z)) (bI_f (fun hh => ?_)).symm)
                first | (simp (disch := omega) only [nI_leI, nI_ltI] at c26; have h9 := hh.1; omega; done) | exact absurd (c35.symm.trans (hh.2.1)) (by decide) | exact absurd (c44.symm.trans (hh.2.2.1)) (by decide) | exact absurd (c53.symm.trans (hh.2.2.2.1)) (by decide) | exact absurd (c63.symm.trans (hh.2.2.2.2.1)) (by decide) | exact absurd (c73.symm.trans (hh.2.2.2.2.2.1)) (by decide) | exact absurd (c83.symm.trans (hh.2.2.2.2.2.2.1)) (by decide) | exact absurd (c94.symm.trans (hh.2.2.2.2.2.2.2.1)) (by decide) | exact absurd (c105.symm.trans (hh.2.2.2.2.2.2.2.2)) (by decide)
              · refine s_aload_n (tb_ok aX8_isWord_1 10 rfl) rfl ?_
                refine s_iconst (v := 4) (tb_ok aX8_isWord_1 11 rfl) (by decide) ?_
                refine s_iload (tb_ok aX8_isWord_1 12 rfl) rfl ?_
                refine s_cVp (as := [.int (4), .int a4]) (tb_ok aX8_isWord_1 13 rfl) v_RX8_180 (R_isLetter hT (i := 4) hf hp he (by omega) hen (by omega)) (by decide) rfl rfl rfl rfl rfl (Nat.le_of_ble_eq_true rfl) (by decide) ?_
                refine s_if_eq (tgt := 112) (tb_ok aX8_isWord_1 14 rfl) (by decide) (fun c73 => ?_) (fun c73 => ?_)
                · refine s_iconst (v := 0) (tb_ok aX8_isWord_2 8 rfl) (by decide) ?_
                  refine s_zret (tb_ok aX8_isWord_2 9 rfl) rfl ?_ ?_
                  exact Or.inl rfl
                  refine pureE (congrArg (fun z => some (Value.int z)) (bI_f (fun hh => ?_)).symm)
                  first | (simp (disch := omega) only [nI_leI, nI_ltI] at c26; have h9 := hh.1; omega; done) | exact absurd (c35.symm.trans (hh.2.1)) (by decide) | exact absurd (c44.symm.trans (hh.2.2.1)) (by decide) | exact absurd (c53.symm.trans (hh.2.2.2.1)) (by decide) | exact absurd (c63.symm.trans (hh.2.2.2.2.1)) (by decide) | exact absurd (c73.symm.trans (hh.2.2.2.2.2.1)) (by decide) | exact absurd (c83.symm.trans (hh.2.2.2.2.2.2.1)) (by decide) | exact absurd (c94.symm.trans (hh.2.2.2.2.2.2.2.1)) (by decide) | exact absurd (c105.symm.trans (hh.2.2.2.2.2.2.2.2)) (by decide)
                · refine s_aload_n (tb_ok aX8_isWord_1 15 rfl) rfl ?_
                  refine s_iconst (v := 5) (tb_ok aX8_isWord_1 16 rfl) (by decide) ?_
                  refine s_iload (tb_ok aX8_isWord_1 17 rfl) rfl ?_
                  refine s_cVp (as := [.int (5), .int a5]) (tb_ok aX8_isWord_1 18 rfl) v_RX8_180 (R_isLetter hT (i := 5) hf hp he (by omega) hen (by omega)) (by decide) rfl rfl rfl rfl rfl (Nat.le_of_ble_eq_true rfl) (by decide) ?_
                  refine s_if_eq (tgt := 112) (tb_ok aX8_isWord_1 19 rfl) (by decide) (fun c83 => ?_) (fun c83 => ?_)
                  · refine s_iconst (v := 0) (tb_ok aX8_isWord_2 8 rfl) (by decide) ?_
                    refine s_zret (tb_ok aX8_isWord_2 9 rfl) rfl ?_ ?_
                    exact Or.inl rfl
                    refine pureE (congrArg (fun z => some (Value.int z)) (bI_f (fun hh => ?_)).symm)
                    first | (simp (disch := omega) only [nI_leI, nI_ltI] at c26; have h9 := hh.1; omega; done) | exact absurd (c35.symm.trans (hh.2.1)) (by decide) | exact absurd (c44.symm.trans (hh.2.2.1)) (by decide) | exact absurd (c53.symm.trans (hh.2.2.2.1)) (by decide) | exact absurd (c63.symm.trans (hh.2.2.2.2.1)) (by decide) | exact absurd (c73.symm.trans (hh.2.2.2.2.2.1)) (by decide) | exact absurd (c83.symm.trans (hh.2.2.2.2.2.2.1)) (by decide) | exact absurd (c94.symm.trans (hh.2.2.2.2.2.2.2.1)) (by decide) | exact absurd (c105.symm.trans (hh.2.2.2.2.2.2.2.2)) (by decide)
                  · refine s_aload_n (tb_ok aX8_isWord_1 20 rfl) rfl ?_
                    refine s_bipush (v := 6) (tb_ok aX8_isWord_1 21 rfl) (by decide) ?_
                    refine s_iload (tb_ok aX8_isWord_1 22 rfl) rfl ?_
                    refine s_cVp (as := [.int (6), .int a6]) (tb_ok aX8_isWord_1 23 rfl) v_RX8_180 (R_isLetter hT (i := 6) hf hp he (by omega) hen (by omega)) (by decide) rfl rfl rfl rfl rfl (Nat.le_of_ble_eq_true rfl) (by decide) ?_
                    refine s_if_eq (tgt := 112) (tb_ok aX8_isWord_2 0 rfl) (by decide) (fun c94 => ?_) (fun c94 => ?_)
                    · refine s_iconst (v := 0) (tb_ok aX8_isWord_2 8 rfl) (by decide) ?_
                      refine s_zret (tb_ok aX8_isWord_2 9 rfl) rfl ?_ ?_
                      exact Or.inl rfl
                      refine pureE (congrArg (fun z => some (Value.int z)) (bI_f (fun hh => ?_)).symm)
                      first | (simp (disch := omega) only [nI_leI, nI_ltI] at c26; have h9 := hh.1; omega; done) | exact absurd (c35.symm.trans (hh.2.1)) (by decide) | exact absurd (c44.symm.trans (hh.2.2.1)) (by decide) | exact absurd (c53.symm.trans (hh.2.2.2.1)) (by decide) | exact absurd (c63.symm.trans (hh.2.2.2.2.1)) (by decide) | exact absurd (c73.symm.trans (hh.2.2.2.2.2.1)) (by decide) | exact absurd (c83.symm.trans (hh.2.2.2.2.2.2.1)) (by decide) | exact absurd (c94.symm.trans (hh.2.2.2.2.2.2.2.1)) (by decide) | exact absurd (c105.symm.trans (hh.2.2.2.2.2.2.2.2)) (by decide)
                    · refine s_aload_n (tb_ok aX8_isWord_2 1 rfl) rfl ?_
                      refine s_bipush (v := 7) (tb_ok aX8_isWord_2 2 rfl) (by decide) ?_
                      refine s_iload (tb_ok aX8_isWord_2 3 rfl) rfl ?_
                      refine s_cVp (as := [.int (7), .int a7]) (tb_ok aX8_isWord_2 4 rfl) v_RX8_180 (R_isLetter hT (i := 7) hf hp he (by omega) hen (by omega)) (by decide) rfl rfl rfl rfl rfl (Nat.le_of_ble_eq_true rfl) (by decide) ?_
                      refine s_if_eq (tgt := 112) (tb_ok aX8_isWord_2 5 rfl) (by decide) (fun c105 => ?_) (fun c105 => ?_)
                      · refine s_iconst (v := 0) (tb_ok aX8_isWord_2 8 rfl) (by decide) ?_
                        refine s_zret (tb_ok aX8_isWord_2 9 rfl) rfl ?_ ?_
                        exact Or.inl rfl
                        refine pureE (congrArg (fun z => some (Value.int z)) (bI_f (fun hh => ?_)).symm)
                        first | (simp (disch := omega) only [nI_leI, nI_ltI] at c26; have h9 := hh.1; omega; done) | exact absurd (c35.symm.trans (hh.2.1)) (by decide) | exact absurd (c44.symm.trans (hh.2.2.1)) (by decide) | exact absurd (c53.symm.trans (hh.2.2.2.1)) (by decide) | exact absurd (c63.symm.trans (hh.2.2.2.2.1)) (by decide) | exact absurd (c73.symm.trans (hh.2.2.2.2.2.1)) (by decide) | exact absurd (c83.symm.trans (hh.2.2.2.2.2.2.1)) (by decide) | exact absurd (c94.symm.trans (hh.2.2.2.2.2.2.2.1)) (by decide) | exact absurd (c105.symm.trans (hh.2.2.2.2.2.2.2.2)) (by decide)
                      · refine s_iconst (v := 1) (tb_ok aX8_isWord_2 6 rfl) (by decide) ?_
                        refine s_goto (tgt := 113) (tb_ok aX8_isWord_2 7 rfl) (by decide) ?_
                        refine s_zret (tb_ok aX8_isWord_2 9 rfl) rfl ?_ ?_
                        exact Or.inr rfl
                        refine pureE (congrArg (fun z => some (Value.int z)) (bI_t ⟨?_, ltx1 c35, ltx1 c44, ltx1 c53, ltx1 c63, ltx1 c73, ltx1 c83, ltx1 c94, ltx1 c105⟩).symm)
                        simp (disch := omega) only [nI_leI, nI_ltI] at c26
                        omega

set_option maxRecDepth 100000 in
set_option maxHeartbeats 1000000 in
theorem R_isWord0 {X : En} {L : FL} {q : Nat × Nat} {I I0 : FI} {a0 a1 a2 a3 a4 a5 a6 a7 : Int32} (hk : ¬ I 66 23 = 1) : Ev X 2 mX8_isWord (0, 0) [.ref 66, .int a0, .int a1, .int a2, .int a3, .int a4, .int a5, .int a6, .int a7] S0 I L (R0 q) (PureR (some (.int 0)) S0 I L (R0 q)) := by
  refine ev_of (by decide +kernel) rfl ?_
  show SW X _ _ _ 0 [some (.ref 66), some (.int a0), some (.int a1), some (.int a2), some (.int a3), some (.int a4), some (.int a5), some (.int a6), some (.int a7)] [] S0 I L (R0 q) _
  refine s_aload_n (tb_ok aX8_isWord_0 0 rfl) rfl ?_
  refine s_getI (tb_ok aX8_isWord_0 1 rfl) f_RX8_173 rfl rfl rfl ?_
  refine s_if_ne (tgt := 112) (tb_ok aX8_isWord_0 2 rfl) (by decide) (fun c4 => ?_) (fun c4 => ?_)
  · refine s_iconst (v := 0) (tb_ok aX8_isWord_2 8 rfl) (by decide) ?_
    refine s_zret (tb_ok aX8_isWord_2 9 rfl) rfl ?_ ?_
    exact Or.inl rfl
    exact pureR
  · refine s_aload_n (tb_ok aX8_isWord_0 3 rfl) rfl ?_
    refine s_getI (tb_ok aX8_isWord_0 4 rfl) f_RX8_156 rfl rfl rfl ?_
    refine s_iconst (v := 1) (tb_ok aX8_isWord_0 5 rfl) (by decide) ?_
    refine s_icmp_ne (tgt := 112) (tb_ok aX8_isWord_0 6 rfl) (by decide) (fun c12 => ?_) (fun c12 => ?_)
    · refine s_iconst (v := 0) (tb_ok aX8_isWord_2 8 rfl) (by decide) ?_
      refine s_zret (tb_ok aX8_isWord_2 9 rfl) rfl ?_ ?_
      exact Or.inl rfl
      exact pureR
    · exact absurd c12 hk

set_option maxRecDepth 100000 in
set_option maxHeartbeats 1000000 in
theorem R_isWordE {X : En} {L : FL} {q : Nat × Nat} {I I0 : FI} {a0 a1 a2 a3 a4 a5 a6 a7 : Int32} (hb : I 66 27 = 1) : Ev X 2 mX8_isWord (0, 0) [.ref 66, .int a0, .int a1, .int a2, .int a3, .int a4, .int a5, .int a6, .int a7] S0 I L (R0 q) (PureR (some (.int 0)) S0 I L (R0 q)) := by
  refine ev_of (by decide +kernel) rfl ?_
  show SW X _ _ _ 0 [some (.ref 66), some (.int a0), some (.int a1), some (.int a2), some (.int a3), some (.int a4), some (.int a5), some (.int a6), some (.int a7)] [] S0 I L (R0 q) _
  refine s_aload_n (tb_ok aX8_isWord_0 0 rfl) rfl ?_
  refine s_getI (x := (1)) (tb_ok aX8_isWord_0 1 rfl) f_RX8_173 rfl rfl hb ?_
  refine s_if_ne (tgt := 112) (tb_ok aX8_isWord_0 2 rfl) (by decide) (fun c4 => ?_) (fun c4 => ?_)
  · refine s_iconst (v := 0) (tb_ok aX8_isWord_2 8 rfl) (by decide) ?_
    refine s_zret (tb_ok aX8_isWord_2 9 rfl) rfl ?_ ?_
    exact Or.inl rfl
    exact pureR
  · exact absurd c4 (by decide)
