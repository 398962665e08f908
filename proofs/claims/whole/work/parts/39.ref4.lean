/-! the reference: which word stands there; names; one more that is open -/
theorem wrd_get (c : List Int32) : ∀ (ws : List (List Int32)) (j k : Nat), ws.Nodup → k < ws.length → j + ws.length < 1000 → (wrdI c ws j = nI (j + k) ↔ ws[k]? = some c) := by
  intro ws
  induction ws with
  | nil => intro j k _ h; exact absurd h (by simp)
  | cons w ws ih =>
    intro j k hn hk hj
    have hn1 := (List.nodup_cons.mp hn)
    simp only [List.length_cons] at hk hj
    unfold wrdI
    by_cases h : c = w
    · rw [if_pos h]
      cases k with
      | zero => exact ⟨fun _ => by rw [h]; rfl, fun _ => rfl⟩
      | succ k =>
        refine ⟨fun e => ?_, fun e => ?_⟩
        · exfalso
          simp (disch := omega) only [nI_eq] at e
          omega
        · exfalso
          have e2 : ws[k]? = some c := e
          rw [h] at e2
          exact hn1.1 (List.mem_of_getElem? e2)
    · rw [if_neg h]
      cases k with
      | zero =>
        refine ⟨fun e => ?_, fun e => ?_⟩
        · exfalso
          rcases wrd_rng c ws (j + 1) with h1 | ⟨i, h1, h2, h3⟩
          · rw [h1] at e
            exact absurd e.symm (fun e2 => by
              have h5 := congrArg Int32.toInt e2
              rw [nI_int (by omega)] at h5
              have h6 : (-1 : Int32).toInt = -1 := by decide
              omega)
          · rw [h3] at e
            simp (disch := omega) only [nI_eq] at e
            omega
        · have e2 : some w = some c := e
          exact absurd (Option.some.inj e2).symm h
      | succ k =>
        have := ih (j + 1) k hn1.2 (by omega) (by omega)
        rw [show j + (k + 1) = j + 1 + k by omega, this]
        rfl
theorem wrd_iff (c : List Int32) {k : Nat} (hk : k < 12) : wrdI c wordsL 0 = nI k ↔ c = wordsL.getD k [] := by
  have h := wrd_get c wordsL 0 k (by decide) hk (by decide)
  rw [Nat.zero_add] at h
  rw [h]
  have hk2 : k < wordsL.length := hk
  rw [List.getD_eq_getElem?_getD, List.getElem?_eq_getElem hk2]
  simp only [Option.getD_some, Option.some.injEq]
  exact ⟨fun e => e.symm, fun e => e.symm⟩
abbrev isK (k : Nat) (s : St) : Prop := s.tok = (if k < 6 then 3 else nI (k - 2)) ∧ (k < 6 → s.val = nI (10000 + k))
theorem isK_wd {v : Int32} {c : List Int32} {p e k : Nat} (hk : k < 12) : isK k (wdS v (wrdI c wordsL 0) p e) ↔ c = wordsL.getD k [] := by
  rw [← wrd_iff c hk]
  unfold isK
  rcases wdS_tok v c p e with ⟨h1, h2⟩ | ⟨j, hj, h1, h2, h3⟩ | ⟨j, a, b, h1, h2⟩
  · rw [h2, h1]
    refine ⟨fun e => ?_, fun e => ?_⟩
    · exfalso
      by_cases h6 : k < 6
      · rw [if_pos h6] at e; exact absurd e.1 (by decide)
      · rw [if_neg h6] at e
        have e1 : nI 1 = nI (k - 2) := e.1
        simp (disch := omega) only [nI_eq] at e1
        omega
    · exfalso
      have h5 := congrArg Int32.toInt e
      rw [nI_int (by omega)] at h5
      have h6 : (-1 : Int32).toInt = -1 := by decide
      omega
  · rw [h2, h3, h1]
    refine ⟨fun e => ?_, fun e => ?_⟩
    · by_cases h6 : k < 6
      · have e1 := e.2 h6
        simp (disch := omega) only [nI_eq] at e1 ⊢
        omega
      · rw [if_neg h6] at e
        have e1 : nI 3 = nI (k - 2) := e.1
        simp (disch := omega) only [nI_eq] at e1
        omega
    · simp (disch := omega) only [nI_eq] at e
      subst e
      exact ⟨(if_pos hj).symm, fun _ => rfl⟩
  · rw [h2, h1]
    refine ⟨fun e => ?_, fun e => ?_⟩
    · by_cases h6 : k < 6
      · rw [if_pos h6] at e
        have e1 : nI (j - 2) = nI 3 := e.1
        simp (disch := omega) only [nI_eq] at e1
        omega
      · rw [if_neg h6] at e
        have e1 := e.1
        simp (disch := omega) only [nI_eq] at e1 ⊢
        omega
    · simp (disch := omega) only [nI_eq] at e
      subst e
      exact ⟨(if_neg (by omega)).symm, fun h => absurd h (by omega)⟩
theorem lt_n0 {x : Int32} (h : ltP x) : x ≠ 0 := fun e => h.1 (by rw [e]; decide)
theorem slc_iff {t : Nat → Int32} {p e : Nat} {w : List Int32} (hw : w.length ≤ 8) (hz : ∀ x ∈ w, x ≠ 0) (hpe : p < e) (hl : ∀ j, p ≤ j → j < e → ltP (t j)) : (e ≤ p + 8 ∧ ∀ i, i < 8 → ltx t p e i (w.getD i 0) = 1) ↔ slc t p (e - p) = w := by
  constructor
  · rintro ⟨h1, h2⟩
    apply List.ext_getElem?
    intro i
    unfold slc
    rw [List.getElem?_map]
    by_cases hi : i < e - p
    · rw [List.getElem?_range hi]
      have h3 := h2 i (by omega)
      unfold ltx at h3
      rw [if_pos (by omega)] at h3
      have h4 := bI_1.mp h3
      have h5 := lt_n0 (hl (p + i) (by omega) (by omega))
      by_cases h6 : i < w.length
      · rw [List.getElem?_eq_getElem h6]
        rw [List.getD_eq_getElem?_getD, List.getElem?_eq_getElem h6] at h4
        exact congrArg some h4
      · rw [List.getD_eq_getElem?_getD, List.getElem?_eq_none (by omega)] at h4
        exact absurd h4 h5
    · rw [List.getElem?_eq_none (by rw [List.length_range]; omega)]
      by_cases h6 : i < w.length
      · exfalso
        have h3 := h2 i (by omega)
        unfold ltx at h3
        rw [if_neg (by omega)] at h3
        have h4 := bI_1.mp h3
        rw [List.getD_eq_getElem?_getD, List.getElem?_eq_getElem h6] at h4
        exact hz _ (List.getElem_mem h6) h4
      · rw [List.getElem?_eq_none (by omega)]
        rfl
  · intro h
    have hlen : w.length = e - p := by rw [← h]; simp [slc]
    refine ⟨by omega, fun i hi => ?_⟩
    unfold ltx
    by_cases h1 : p + i < e
    · rw [if_pos h1]
      refine bI_t ?_
      rw [← h, List.getD_eq_getElem?_getD]
      unfold slc
      rw [List.getElem?_map, List.getElem?_range (by omega)]
      rfl
    · rw [if_neg h1]
      refine bI_t ?_
      rw [List.getD_eq_getElem?_getD, List.getElem?_eq_none (by omega)]
      rfl
theorem all8 {A : Prop} {f : Nat → Int32} : (A ∧ f 0 = 1 ∧ f 1 = 1 ∧ f 2 = 1 ∧ f 3 = 1 ∧ f 4 = 1 ∧ f 5 = 1 ∧ f 6 = 1 ∧ f 7 = 1) ↔ (A ∧ ∀ i, i < 8 → f i = 1) := by
  refine and_congr_right (fun _ => ⟨fun h i hi => ?_, fun h => ⟨h 0 (by omega), h 1 (by omega), h 2 (by omega), h 3 (by omega), h 4 (by omega), h 5 (by omega), h 6 (by omega), h 7 (by omega)⟩⟩)
  have e : i = 0 ∨ i = 1 ∨ i = 2 ∨ i = 3 ∨ i = 4 ∨ i = 5 ∨ i = 6 ∨ i = 7 := by omega
  obtain ⟨h0, h1, h2, h3, h4, h5, h6, h7⟩ := h
  rcases e with e | e | e | e | e | e | e | e <;> subst e <;> assumption
def wd (k i : Nat) : Int32 := (wordsL.getD k []).getD i 0
theorem words_ok : ∀ k, k < 12 → (wordsL.getD k []).length ≤ 8 ∧ ∀ x ∈ wordsL.getD k [], x ≠ 0 := by decide
theorem isK_no {s : St} {k : Nat} (hk : k < 12) (h : s.tok = 0 ∨ s.tok = 1 ∨ s.tok = 2 ∨ sgP s.tok) : ¬ isK k s := by
  rintro ⟨h1, _⟩
  by_cases h6 : k < 6
  · rw [if_pos h6] at h1
    rcases h with h | h | h | h
    · rw [h] at h1; exact absurd h1 (by decide)
    · rw [h] at h1; exact absurd h1 (by decide)
    · rw [h] at h1; exact absurd h1 (by decide)
    · exact (sg_no h).2.2.2.1 h1
  · rw [if_neg h6] at h1
    rcases h with h | h | h | h
    · rw [h] at h1
      have h1 : nI 0 = nI (k - 2) := h1
      simp (disch := omega) only [nI_eq] at h1
      omega
    · rw [h] at h1
      have h1 : nI 1 = nI (k - 2) := h1
      simp (disch := omega) only [nI_eq] at h1
      omega
    · rw [h] at h1
      have h1 : nI 2 = nI (k - 2) := h1
      simp (disch := omega) only [nI_eq] at h1
      omega
    · exact (sg_no h).2.2.2.2 k (by omega) hk h1
theorem ROk.here {t : Nat → Int32} {n o : Nat} {I0 I : FI} {L : FL} {s : St} (h : ROk t n o I0 s I L) (h0 : s.tok ≠ 0) (h1 : s.tok ≠ 1) : I 66 22 = nI s.at_ := by
  rcases h.2.2.2.2.2 with ⟨a, _⟩ | ⟨a, _⟩ | ⟨_, _, a, _⟩ | ⟨_, e, v0, a, _, _, _, b⟩ | ⟨_, _, a, _⟩
  · exact absurd a h0
  · exact absurd a h1
  · exact a
  · rw [a, b, wdS_pl]
  · exact a
/-- a token of 3 is a name -/
theorem ROk.nam {t : Nat → Int32} {n o : Nat} {I0 I : FI} {L : FL} {s : St} (h : ROk t n o I0 s I L) (h3 : s.tok = 3) : ∃ j, j < 6 ∧ s.val = nI (10000 + j) := by
  rcases h.2.2.2.2.2 with ⟨a, _⟩ | ⟨a, _⟩ | ⟨a, _⟩ | ⟨_, e, v0, _, _, _, _, b⟩ | ⟨a, _⟩
  · rw [h3] at a; exact absurd a (by decide)
  · rw [h3] at a; exact absurd a (by decide)
  · rw [h3] at a; exact absurd a (by decide)
  · rcases wdS_tok v0 (slc t s.pl (e - s.pl)) s.pl e with ⟨_, g⟩ | ⟨j, hj, _, _, g⟩ | ⟨j, hj, hj2, _, g⟩
    · rw [← b, h3] at g; exact absurd g (by decide)
    · exact ⟨j, hj, b ▸ g⟩
    · rw [← b, h3] at g
      have g : nI 3 = nI (j - 2) := g
      simp (disch := omega) only [nI_eq] at g
      omega
  · rw [h3] at a; exact absurd rfl (sg_no a).2.2.2.1
theorem ROk.num {t : Nat → Int32} {n o : Nat} {I0 I : FI} {L : FL} {s : St} (h : ROk t n o I0 s I L) : I 66 23 = 2 ↔ s.tok = 2 := by
  rcases h.2.2.2.2.2 with ⟨a, b⟩ | ⟨a, b⟩ | ⟨a, b, _⟩ | ⟨a, e, v0, _, _, _, _, b⟩ | ⟨a, b, _⟩
  · rw [a, b]
  · rw [a, b]; decide
  · rw [a, b]
  · rw [a]
    refine ⟨fun g => absurd g (by decide), fun g => ?_⟩
    exfalso
    rcases wdS_tok v0 (slc t s.pl (e - s.pl)) s.pl e with ⟨_, k⟩ | ⟨j, hj, _, k, _⟩ | ⟨j, hj, hj2, _, k⟩
    · rw [← b, g] at k; exact absurd k (by decide)
    · rw [← b, g] at k; exact absurd k (by decide)
    · rw [← b, g] at k
      have k : nI 2 = nI (j - 2) := k
      simp (disch := omega) only [nI_eq] at k
      omega
  · rw [b]
    exact ⟨fun g => absurd g (by decide), fun g => absurd g (sg_no a).2.2.1⟩
/-- what is no word is no name -/
theorem ROk.now {t : Nat → Int32} {n o : Nat} {I0 I : FI} {L : FL} {s : St} (h : ROk t n o I0 s I L) (h1 : ¬ I 66 23 = 1) : s.tok = 0 ∨ s.tok = 1 ∨ s.tok = 2 ∨ sgP s.tok := by
  rcases h.2.2.2.2.2 with ⟨a, b⟩ | ⟨a, b⟩ | ⟨a, b, _⟩ | ⟨a, _⟩ | ⟨a, b, _⟩
  · exact Or.inl a
  · exact Or.inr (Or.inl a)
  · exact Or.inr (Or.inr (Or.inl a))
  · exact absurd a h1
  · exact Or.inr (Or.inr (Or.inr a))
theorem ROk.wrth {t : Nat → Int32} {n o : Nat} {I0 I : FI} {L : FL} {s : St} (h : ROk t n o I0 s I L) (h1 : sgP s.tok) : L 66 25 = s.tok.toInt64 := ((h.2.2.2.2.2.sign h1).mp rfl).2
theorem ROk.nval {t : Nat → Int32} {n o : Nat} {I0 I : FI} {L : FL} {s : St} (h : ROk t n o I0 s I L) (h1 : s.tok = 2) : ∃ m, m < 10000 ∧ s.val = nI m ∧ L 66 25 = (nI m).toInt64 := by
  rcases h.2.2.2.2.2 with ⟨a, b⟩ | ⟨a, b⟩ | ⟨a, b, _, m⟩ | ⟨a, _⟩ | ⟨a, b, _⟩
  · rw [h1] at a; exact absurd a (by decide)
  · rw [h1] at a; exact absurd a (by decide)
  · exact m
  · have := h.num.mpr h1; rw [a] at this; exact absurd this (by decide)
  · exact absurd h1 (sg_no a).2.2.1
theorem R_isWord {X : En} {L : FL} {q : Nat × Nat} {I I0 : FI} {F n o : Nat} {t nm : Nat → Int32} (hT : TxX I0 F n t nm) {s : St} (h : ROk t n o I0 s I L) (k : Nat) (hk : k < 12) : Ev X 2 mX8_isWord (0, 0) [.ref 66, .int (wd k 0), .int (wd k 1), .int (wd k 2), .int (wd k 3), .int (wd k 4), .int (wd k 5), .int (wd k 6), .int (wd k 7)] S0 I L (R0 q) (PureR (some (.int (bI (isK k s)))) S0 I L (R0 q)) := by
  by_cases hk1 : I 66 23 = 1
  · rcases id h.2.2.2.2.2 with ⟨_, a⟩ | ⟨_, a⟩ | ⟨_, a, _⟩ | ⟨_, e, v0, a, b, c, d, g⟩ | ⟨_, a, _⟩
    · rw [hk1] at a; exact absurd a (by decide)
    · rw [hk1] at a; exact absurd a (by decide)
    · rw [hk1] at a; exact absurd a (by decide)
    · have hen : e ≤ n := by have := h.2.1.2.1; rw [g, wdS_pl] at this; exact this
      have hq : (e ≤ s.pl + 8 ∧ ltx t s.pl e 0 (wd k 0) = 1 ∧ ltx t s.pl e 1 (wd k 1) = 1 ∧ ltx t s.pl e 2 (wd k 2) = 1 ∧ ltx t s.pl e 3 (wd k 3) = 1 ∧ ltx t s.pl e 4 (wd k 4) = 1 ∧ ltx t s.pl e 5 (wd k 5) = 1 ∧ ltx t s.pl e 6 (wd k 6) = 1 ∧ ltx t s.pl e 7 (wd k 7) = 1) ↔ isK k s := by
        refine (all8 (f := fun i => ltx t s.pl e i (wd k i))).trans ?_
        refine (slc_iff (words_ok k hk).1 (words_ok k hk).2 c d).trans ?_
        conv => rhs; rw [g]
        exact (isK_wd hk).symm
      have hr := R_isWord1 (X := X) (L := L) (q := q) hT (a0 := wd k 0) (a1 := wd k 1) (a2 := wd k 2) (a3 := wd k 3) (a4 := wd k 4) (a5 := wd k 5) (a6 := wd k 6) (a7 := wd k 7) h.1 h.2.2.1 hk1 h.2.2.2.2.1 a (Nat.le_trans (Nat.le_of_lt c) b) hen
      rw [bI_congr hq] at hr
      exact hr
    · rw [hk1] at a; exact absurd a (by decide)
  · have hr := R_isWord0 (X := X) (L := L) (q := q) (I0 := I0) (a0 := wd k 0) (a1 := wd k 1) (a2 := wd k 2) (a3 := wd k 3) (a4 := wd k 4) (a5 := wd k 5) (a6 := wd k 6) (a7 := wd k 7) hk1
    rw [bI_f (isK_no hk (h.now hk1))]
    exact hr
theorem R_next {X : En} {L : FL} {q : Nat × Nat} {I I0 : FI} {F n o : Nat} {t nm : Nat → Int32} (hT : TxX I0 F n t nm) {s : St} (h : ROk t n o I0 s I L) (h0 : s.tok ≠ 0) (h1 : s.tok ≠ 1) : Ev X 2 mX8_next (0, 0) [.ref 66] S0 I L (R0 q) (AfT q t n o I0 (adv t n s) none) :=
  R_next0 hT ⟨h.1, h.2.2.1, h.2.2.2.1, h.here h0 h1, rfl, rfl⟩ h.2.1.2.1 s.val
def AfV (q : Nat × Nat) (I0 : FI) (f : Nat) (r0 : Option Value) : Pst := fun r S' I' L' R' => r = r0 ∧ S' = S0 ∧ R' = R0 q ∧ RBad I0 f I'
set_option maxRecDepth 100000 in
set_option maxHeartbeats 1000000 in
theorem R_opens {X : En} {L : FL} {q : Nat × Nat} {I I0 : FI} {F n o : Nat} {t nm : Nat → Int32} (hT : TxX I0 F n t nm) {s : St} (h : ROk t n o I0 s I L) (h0 : s.tok ≠ 0) (h1 : s.tok ≠ 1) (ho : o < 5) : Ev X 3 mX8_opens (0, 0) [.ref 66] S0 I L (R0 q) (AfT q t n (o + 1) I0 (adv t n s) (some (.int 1))) := by
  refine ev_of (by decide +kernel) rfl ?_
  show SW X _ _ _ 0 [some (.ref 66)] [] S0 I L (R0 q) _
  refine s_aload_n (tb_ok aX8_opens_0 0 rfl) rfl ?_
  refine s_getI (x := (nI o)) (tb_ok aX8_opens_0 1 rfl) f_RX8_184 rfl rfl h.2.2.2.1 ?_
  refine s_iconst (v := nI 5) (tb_ok aX8_opens_0 2 rfl) (by decide) ?_
  refine s_icmp_ne (tgt := 14) (tb_ok aX8_opens_0 3 rfl) (by decide) (fun c5 => ?_) (fun c5 => ?_)
  · refine s_aload_n (tb_ok aX8_opens_0 8 rfl) rfl ?_
    refine s_dup (tb_ok aX8_opens_0 9 rfl) rfl ?_
    refine s_getI (x := (nI o)) (tb_ok aX8_opens_0 10 rfl) f_RX8_184 rfl rfl h.2.2.2.1 ?_
    refine s_iconst (v := 1) (tb_ok aX8_opens_0 11 rfl) (by decide) ?_
    refine s_iadd (tb_ok aX8_opens_0 12 rfl) ?_
    refine s_topi (z := (nI (o + 1))) (nI_1 o) ?_
    refine s_putI (tb_ok aX8_opens_0 13 rfl) f_RX8_184 rfl rfl ?_
    refine s_aload_n (tb_ok aX8_opens_0 14 rfl) rfl ?_
    refine s_cV (as := []) (tb_ok aX8_opens_0 15 rfl) v_RX8_190 (R_next hT (h.put26 (o + 1)) h0 h1) (by decide) rfl rfl rfl rfl rfl (Nat.le_of_ble_eq_true rfl) (by decide) (fun r1 S1 I1 L1 R1 q1 => ?_)
    obtain ⟨rfl, rfl, rfl, h2⟩ := q1
    refine s_iconst (v := 1) (tb_ok aX8_opens_0 16 rfl) (by decide) ?_
    refine s_zret (tb_ok aX8_opens_0 17 rfl) rfl ?_ ?_
    exact Or.inr rfl
    exact ⟨rfl, rfl, rfl, h2⟩
  · simp (disch := omega) only [nI_eq] at c5
    omega

set_option maxRecDepth 100000 in
set_option maxHeartbeats 1000000 in
theorem R_opens5 {X : En} {L : FL} {q : Nat × Nat} {I I0 : FI} {n : Nat} {t : Nat → Int32} {s : St} (h : ROk t n 5 I0 s I L) : Ev X 3 mX8_opens (0, 0) [.ref 66] S0 I L (R0 q) (AfV q I0 s.pl (some (.int 0))) := by
  refine ev_of (by decide +kernel) rfl ?_
  show SW X _ _ _ 0 [some (.ref 66)] [] S0 I L (R0 q) _
  refine s_aload_n (tb_ok aX8_opens_0 0 rfl) rfl ?_
  refine s_getI (x := (5)) (tb_ok aX8_opens_0 1 rfl) f_RX8_184 rfl rfl h.2.2.2.1 ?_
  refine s_iconst (v := 5) (tb_ok aX8_opens_0 2 rfl) (by decide) ?_
  refine s_icmp_ne (tgt := 14) (tb_ok aX8_opens_0 3 rfl) (by decide) (fun c5 => ?_) (fun c5 => ?_)
  · exact absurd rfl c5
  · refine s_aload_n (tb_ok aX8_opens_0 4 rfl) rfl ?_
    refine s_cV (as := []) (tb_ok aX8_opens_0 5 rfl) v_RX8_187 (R_fail h) (by decide) rfl rfl rfl rfl rfl (Nat.le_of_ble_eq_true rfl) (by decide) (fun r1 S1 I1 L1 R1 q1 => ?_)
    obtain ⟨rfl, rfl, rfl, h2⟩ := q1
    refine s_iconst (v := 0) (tb_ok aX8_opens_0 6 rfl) (by decide) ?_
    refine s_zret (tb_ok aX8_opens_0 7 rfl) rfl ?_ ?_
    exact Or.inl rfl
    exact ⟨rfl, rfl, rfl, h2⟩

def AfN (q : Nat × Nat) (t nm : Nat → Int32) (n o : Nat) (I0 : FI) (s : St) : Pst := fun r S' I' L' R' => S' = S0 ∧ R' = R0 q ∧ ∃ v, r = some (.int v) ∧ ((s.tok = 3 ∧ v = atm nm s.val ∧ ROk t n o I0 s I' L') ∨ (¬ s.tok = 3 ∧ RBad I0 s.pl I'))
theorem atm_nm {nm : Nat → Int32} : ∀ {k : Nat}, k < 6 → atm nm (nI (10000 + k)) = nm k := by
  intro k hk
  match k, hk with
  | 0, _ => rfl
  | 1, _ => rfl
  | 2, _ => rfl
  | 3, _ => rfl
  | 4, _ => rfl
  | 5, _ => rfl
theorem atm_n {nm : Nat → Int32} {m : Nat} (hm : m < 10000) : atm nm (nI m) = nI m := by
  unfold atm
  have h1 : (0 : Int32).toInt = 0 := by decide
  have h2 : (10000 : Int32).toInt = 10000 := by decide
  rw [if_pos ?_]
  have : (10000 : Int32) = nI 10000 := rfl
  rw [this]
  have h3 := nI_int (n := m) (by omega)
  have h4 := nI_int (n := 10000) (by omega)
  rw [Int32.lt_iff_toInt_lt, Int32.toInt_sub, h3, h4, h1]
  rw [Int.bmod_eq_of_le (by omega) (by omega)]
  omega
set_option maxRecDepth 100000 in
set_option maxHeartbeats 1000000 in
theorem R_name {X : En} {L : FL} {q : Nat × Nat} {I I0 : FI} {F n o : Nat} {t nm : Nat → Int32} (hT : TxX I0 F n t nm) {s : St} (h : ROk t n o I0 s I L) : Ev X 3 mX8_name (0, 0) [.ref 66] S0 I L (R0 q) (AfN q t nm n o I0 s) := by
  obtain ⟨hF, hn, hn160, hFn, ht, ht0, hnm⟩ := id hT
  refine ev_of (by decide +kernel) rfl ?_
  show SW X _ _ _ 0 [some (.ref 66)] [] S0 I L (R0 q) _
  refine s_aload_n (tb_ok aX8_name_0 0 rfl) rfl ?_
  refine s_bipush (v := 102) (tb_ok aX8_name_0 1 rfl) (by decide) ?_
  refine s_bipush (v := 97) (tb_ok aX8_name_0 2 rfl) (by decide) ?_
  refine s_bipush (v := 99) (tb_ok aX8_name_0 3 rfl) (by decide) ?_
  refine s_bipush (v := 116) (tb_ok aX8_name_0 4 rfl) (by decide) ?_
  refine s_iconst (v := 0) (tb_ok aX8_name_0 5 rfl) (by decide) ?_
  refine s_iconst (v := 0) (tb_ok aX8_name_0 6 rfl) (by decide) ?_
  refine s_iconst (v := 0) (tb_ok aX8_name_0 7 rfl) (by decide) ?_
  refine s_iconst (v := 0) (tb_ok aX8_name_0 8 rfl) (by decide) ?_
  refine s_cVp (as := [.int (102), .int (97), .int (99), .int (116), .int (0), .int (0), .int (0), .int (0)]) (tb_ok aX8_name_0 9 rfl) v_RX8_193 (R_isWord hT h 0 (by decide)) (by decide) rfl rfl rfl rfl rfl (Nat.le_of_ble_eq_true rfl) (by decide) ?_
  refine s_if_eq (tgt := 24) (tb_ok aX8_name_0 10 rfl) (by decide) (fun c16 => ?_) (fun c16 => ?_)
  · refine s_aload_n (tb_ok aX8_name_0 14 rfl) rfl ?_
    refine s_bipush (v := 114) (tb_ok aX8_name_0 15 rfl) (by decide) ?_
    refine s_bipush (v := 105) (tb_ok aX8_name_0 16 rfl) (by decide) ?_
    refine s_bipush (v := 112) (tb_ok aX8_name_0 17 rfl) (by decide) ?_
    refine s_bipush (v := 101) (tb_ok aX8_name_0 18 rfl) (by decide) ?_
    refine s_iconst (v := 0) (tb_ok aX8_name_0 19 rfl) (by decide) ?_
    refine s_iconst (v := 0) (tb_ok aX8_name_0 20 rfl) (by decide) ?_
    refine s_iconst (v := 0) (tb_ok aX8_name_0 21 rfl) (by decide) ?_
    refine s_iconst (v := 0) (tb_ok aX8_name_0 22 rfl) (by decide) ?_
    refine s_cVp (as := [.int (114), .int (105), .int (112), .int (101), .int (0), .int (0), .int (0), .int (0)]) (tb_ok aX8_name_0 23 rfl) v_RX8_193 (R_isWord hT h 1 (by decide)) (by decide) rfl rfl rfl rfl rfl (Nat.le_of_ble_eq_true rfl) (by decide) ?_
    refine s_if_eq (tgt := 48) (tb_ok aX8_name_1 0 rfl) (by decide) (fun c40 => ?_) (fun c40 => ?_)
    · refine s_aload_n (tb_ok aX8_name_1 4 rfl) rfl ?_
      refine s_bipush (v := 110) (tb_ok aX8_name_1 5 rfl) (by decide) ?_
      refine s_bipush (v := 117) (tb_ok aX8_name_1 6 rfl) (by decide) ?_
      refine s_bipush (v := 109) (tb_ok aX8_name_1 7 rfl) (by decide) ?_
      refine s_bipush (v := 98) (tb_ok aX8_name_1 8 rfl) (by decide) ?_
      refine s_bipush (v := 101) (tb_ok aX8_name_1 9 rfl) (by decide) ?_
      refine s_bipush (v := 114) (tb_ok aX8_name_1 10 rfl) (by decide) ?_
      refine s_iconst (v := 0) (tb_ok aX8_name_1 11 rfl) (by decide) ?_
      refine s_iconst (v := 0) (tb_ok aX8_name_1 12 rfl) (by decide) ?_
      refine s_cVp (as := [.int (110), .int (117), .int (109), .int (98), .int (101), .int (114), .int (0), .int (0)]) (tb_ok aX8_name_1 13 rfl) v_RX8_193 (R_isWord hT h 2 (by decide)) (by decide) rfl rfl rfl rfl rfl (Nat.le_of_ble_eq_true rfl) (by decide) ?_
      refine s_if_eq (tgt := 74) (tb_ok aX8_name_1 14 rfl) (by decide) (fun c66 => ?_) (fun c66 => ?_)
      · refine s_aload_n (tb_ok aX8_name_1 18 rfl) rfl ?_
        refine s_bipush (v := 100) (tb_ok aX8_name_1 19 rfl) (by decide) ?_
        refine s_bipush (v := 97) (tb_ok aX8_name_1 20 rfl) (by decide) ?_
        refine s_bipush (v := 121) (tb_ok aX8_name_1 21 rfl) (by decide) ?_
        refine s_iconst (v := 0) (tb_ok aX8_name_1 22 rfl) (by decide) ?_
        refine s_iconst (v := 0) (tb_ok aX8_name_1 23 rfl) (by decide) ?_
        refine s_iconst (v := 0) (tb_ok aX8_name_2 0 rfl) (by decide) ?_
        refine s_iconst (v := 0) (tb_ok aX8_name_2 1 rfl) (by decide) ?_
        refine s_iconst (v := 0) (tb_ok aX8_name_2 2 rfl) (by decide) ?_
        refine s_cVp (as := [.int (100), .int (97), .int (121), .int (0), .int (0), .int (0), .int (0), .int (0)]) (tb_ok aX8_name_2 3 rfl) v_RX8_193 (R_isWord hT h 3 (by decide)) (by decide) rfl rfl rfl rfl rfl (Nat.le_of_ble_eq_true rfl) (by decide) ?_
        refine s_if_eq (tgt := 97) (tb_ok aX8_name_2 4 rfl) (by decide) (fun c89 => ?_) (fun c89 => ?_)
        · refine s_aload_n (tb_ok aX8_name_2 8 rfl) rfl ?_
          refine s_bipush (v := 107) (tb_ok aX8_name_2 9 rfl) (by decide) ?_
          refine s_bipush (v := 110) (tb_ok aX8_name_2 10 rfl) (by decide) ?_
          refine s_bipush (v := 111) (tb_ok aX8_name_2 11 rfl) (by decide) ?_
          refine s_bipush (v := 119) (tb_ok aX8_name_2 12 rfl) (by decide) ?_
          refine s_bipush (v := 110) (tb_ok aX8_name_2 13 rfl) (by decide) ?_
          refine s_iconst (v := 0) (tb_ok aX8_name_2 14 rfl) (by decide) ?_
          refine s_iconst (v := 0) (tb_ok aX8_name_2 15 rfl) (by decide) ?_
          refine s_iconst (v := 0) (tb_ok aX8_name_2 16 rfl) (by decide) ?_
          refine s_cVp (as := [.int (107), .int (110), .int (111), .int (119), .int (110), .int (0), .int (0), .int (0)]) (tb_ok aX8_name_2 17 rfl) v_RX8_193 (R_isWord hT h 4 (by decide)) (by decide) rfl rfl rfl rfl rfl (Nat.le_of_ble_eq_true rfl) (by decide) ?_
          refine s_if_eq (tgt := 122) (tb_ok aX8_name_2 18 rfl) (by decide) (fun c114 => ?_) (fun c114 => ?_)
          · refine s_aload_n (tb_ok aX8_name_2 22 rfl) rfl ?_
            refine s_bipush (v := 97) (tb_ok aX8_name_2 23 rfl) (by decide) ?_
            refine s_bipush (v := 112) (tb_ok aX8_name_3 0 rfl) (by decide) ?_
            refine s_bipush (v := 112) (tb_ok aX8_name_3 1 rfl) (by decide) ?_
            refine s_bipush (v := 108) (tb_ok aX8_name_3 2 rfl) (by decide) ?_
            refine s_bipush (v := 101) (tb_ok aX8_name_3 3 rfl) (by decide) ?_
            refine s_bipush (v := 115) (tb_ok aX8_name_3 4 rfl) (by decide) ?_
            refine s_iconst (v := 0) (tb_ok aX8_name_3 5 rfl) (by decide) ?_
            refine s_iconst (v := 0) (tb_ok aX8_name_3 6 rfl) (by decide) ?_
            refine s_cVp (as := [.int (97), .int (112), .int (112), .int (108), .int (101), .int (115), .int (0), .int (0)]) (tb_ok aX8_name_3 7 rfl) v_RX8_193 (R_isWord hT h 5 (by decide)) (by decide) rfl rfl rfl rfl rfl (Nat.le_of_ble_eq_true rfl) (by decide) ?_
            refine s_if_eq (tgt := 148) (tb_ok aX8_name_3 8 rfl) (by decide) (fun c140 => ?_) (fun c140 => ?_)
            · refine s_aload_n (tb_ok aX8_name_3 12 rfl) rfl ?_
              refine s_cV (as := []) (tb_ok aX8_name_3 13 rfl) v_RX8_187 (R_fail h) (by decide) rfl rfl rfl rfl rfl (Nat.le_of_ble_eq_true rfl) (by decide) (fun r1 S1 I1 L1 R1 q1 => ?_)
              obtain ⟨rfl, rfl, rfl, h2⟩ := q1
              refine s_iconst (v := 0) (tb_ok aX8_name_3 14 rfl) (by decide) ?_
              refine s_iret (tb_ok aX8_name_3 15 rfl) rfl ?_
              refine ⟨rfl, rfl, _, rfl, Or.inr ⟨fun h3 => ?_, h2⟩⟩
              obtain ⟨j, hj, ej⟩ := h.nam h3
              have e_ : j = 0 ∨ j = 1 ∨ j = 2 ∨ j = 3 ∨ j = 4 ∨ j = 5 := by omega
              rcases e_ with e_ | e_ | e_ | e_ | e_ | e_ <;> subst e_
              · exact bI_0.mp c16 ⟨h3, fun _ => ej⟩
              · exact bI_0.mp c40 ⟨h3, fun _ => ej⟩
              · exact bI_0.mp c66 ⟨h3, fun _ => ej⟩
              · exact bI_0.mp c89 ⟨h3, fun _ => ej⟩
              · exact bI_0.mp c114 ⟨h3, fun _ => ej⟩
              · exact bI_0.mp c140 ⟨h3, fun _ => ej⟩
            · refine s_aload_n (tb_ok aX8_name_3 9 rfl) rfl ?_
              refine s_getI (tb_ok aX8_name_3 10 rfl) f_RX8_212 rfl rfl rfl ?_
              refine s_iret (tb_ok aX8_name_3 11 rfl) rfl ?_
              have hk := bI_n c140
              refine ⟨rfl, rfl, _, rfl, Or.inl ⟨hk.1, ?_, h⟩⟩
              rw [hk.2 (by decide)]
              exact ((FrX.at h.1 (by decide)).trans (hnm 5 (by decide))).trans (atm_nm (by decide)).symm
          · refine s_aload_n (tb_ok aX8_name_2 19 rfl) rfl ?_
            refine s_getI (tb_ok aX8_name_2 20 rfl) f_RX8_209 rfl rfl rfl ?_
            refine s_iret (tb_ok aX8_name_2 21 rfl) rfl ?_
            have hk := bI_n c114
            refine ⟨rfl, rfl, _, rfl, Or.inl ⟨hk.1, ?_, h⟩⟩
            rw [hk.2 (by decide)]
            exact ((FrX.at h.1 (by decide)).trans (hnm 4 (by decide))).trans (atm_nm (by decide)).symm
        · refine s_aload_n (tb_ok aX8_name_2 5 rfl) rfl ?_
          refine s_getI (tb_ok aX8_name_2 6 rfl) f_RX8_206 rfl rfl rfl ?_
          refine s_iret (tb_ok aX8_name_2 7 rfl) rfl ?_
          have hk := bI_n c89
          refine ⟨rfl, rfl, _, rfl, Or.inl ⟨hk.1, ?_, h⟩⟩
          rw [hk.2 (by decide)]
          exact ((FrX.at h.1 (by decide)).trans (hnm 3 (by decide))).trans (atm_nm (by decide)).symm
      · refine s_aload_n (tb_ok aX8_name_1 15 rfl) rfl ?_
        refine s_getI (tb_ok aX8_name_1 16 rfl) f_RX8_203 rfl rfl rfl ?_
        refine s_iret (tb_ok aX8_name_1 17 rfl) rfl ?_
        have hk := bI_n c66
        refine ⟨rfl, rfl, _, rfl, Or.inl ⟨hk.1, ?_, h⟩⟩
        rw [hk.2 (by decide)]
        exact ((FrX.at h.1 (by decide)).trans (hnm 2 (by decide))).trans (atm_nm (by decide)).symm
    · refine s_aload_n (tb_ok aX8_name_1 1 rfl) rfl ?_
      refine s_getI (tb_ok aX8_name_1 2 rfl) f_RX8_200 rfl rfl rfl ?_
      refine s_iret (tb_ok aX8_name_1 3 rfl) rfl ?_
      have hk := bI_n c40
      refine ⟨rfl, rfl, _, rfl, Or.inl ⟨hk.1, ?_, h⟩⟩
      rw [hk.2 (by decide)]
      exact ((FrX.at h.1 (by decide)).trans (hnm 1 (by decide))).trans (atm_nm (by decide)).symm
  · refine s_aload_n (tb_ok aX8_name_0 11 rfl) rfl ?_
    refine s_getI (tb_ok aX8_name_0 12 rfl) f_RX8_197 rfl rfl rfl ?_
    refine s_iret (tb_ok aX8_name_0 13 rfl) rfl ?_
    have hk := bI_n c16
    refine ⟨rfl, rfl, _, rfl, Or.inl ⟨hk.1, ?_, h⟩⟩
    rw [hk.2 (by decide)]
    exact ((FrX.at h.1 (by decide)).trans (hnm 0 (by decide))).trans (atm_nm (by decide)).symm
