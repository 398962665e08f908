/-! a reading looks at its text's signs only -/
section CG
variable {t u : Nat → Int32} {n : Nat}
theorem scn_cg {p : Int32 → Prop} [DecidablePred p] (h : ∀ k, k < n → t k = u k) : ∀ k i, scn p t n k i = scn p u n k i := by
  intro k
  induction k with
  | zero => intro i; rfl
  | succ k ih =>
    intro i
    unfold scn
    by_cases hi : i < n
    · rw [h i hi, ih]
    · rw [if_neg (fun e => hi e.1), if_neg (fun e => hi e.1)]
theorem scan_cg {p : Int32 → Prop} [DecidablePred p] (h : ∀ k, k < n → t k = u k) (i : Nat) : scan p t n i = scan p u n i := scn_cg h _ _
theorem nuV_cg (h : ∀ k, k < n → t k = u k) {p : Nat} : ∀ k, p + k ≤ n → nuV t p k = nuV u p k := by
  intro k
  induction k with
  | zero => intro _; rfl
  | succ k ih =>
    intro hk
    unfold nuV
    rw [ih (by omega), h (p + k) (by omega)]
theorem slc_cg (h : ∀ k, k < n → t k = u k) {p l : Nat} (hl : p + l ≤ n) : slc t p l = slc u p l := by
  unfold slc
  refine List.map_congr_left (fun i hi => h _ ?_)
  have := List.mem_range.mp hi
  omega
theorem lex_cg (h : ∀ k, k < n → t k = u k) : lex t n = lex u n := by
  funext i v
  unfold lex
  rw [scan_cg h]
  generalize scan blP u n i = p
  unfold lexS
  by_cases c : n ≤ p
  · rw [if_pos c, if_pos c]
  · have hs1 : scan ltP u n p ≤ n := scan_le (by omega)
    have hs2 : scan dgP u n p ≤ n := scan_le (by omega)
    have hg1 : p ≤ scan ltP u n p := scan_ge p
    have hg2 : p ≤ scan dgP u n p := scan_ge p
    rw [if_neg c, if_neg c, h p (by omega), scan_cg h, scan_cg h, slc_cg h (by omega), nuV_cg h _ (by omega)]
theorem adv_cg (h : ∀ k, k < n → t k = u k) : adv t n = adv u n := by
  funext s
  unfold adv
  rw [lex_cg h]
theorem one_cg (h : adv t n = adv u n) : oneP t n = oneP u n := by
  funext sub s
  unfold oneP
  rw [h]
theorem loop_cg (h : adv t n = adv u n) {op : Int32 → Prop} [DecidablePred op] {cd : Int32 → Int32} {item : Pa} : ∀ k, loopP t n op cd item k = loopP u n op cd item k := by
  intro k
  induction k with
  | zero => rfl
  | succ k ih =>
    funext c v s
    unfold loopP
    rw [h, ih]
theorem seq_cg (h : adv t n = adv u n) {op : Int32 → Prop} [DecidablePred op] {cd : Int32 → Int32} {item : Pa} : seqP t n op cd item = seqP u n op cd item := by
  funext s
  unfold seqP
  rw [loop_cg h]
theorem eith_cg (h : adv t n = adv u n) : eithP t n = eithP u n ∧ nottP t n = nottP u n := by
  have e1 : termP t n = termP u n := by funext sub; unfold termP; rw [one_cg h, seq_cg h]
  have e2 : sumP t n = sumP u n := by funext sub; unfold sumP; rw [e1, seq_cg h]
  have e3 : ∀ x, cmpP t n x = cmpP u n x := by intro x; funext s; unfold cmpP; rw [h]
  have e4 : compP t n = compP u n := by funext sub; unfold compP; rw [e2, e3]
  have e5 : ∀ sub x, notP t n sub x = notP u n sub x := by intro sub x; funext s; unfold notP; rw [h]
  have e6 : nottP t n = nottP u n := by funext sub; unfold nottP; rw [e4, e5]
  have e7 : bothP t n = bothP u n := by funext sub; unfold bothP; rw [e6, seq_cg h]
  exact ⟨by funext sub; unfold eithP; rw [e7, seq_cg h], e6⟩
theorem lev_cg (h : adv t n = adv u n) : ∀ k, lev t n k = lev u n k := by
  intro k
  induction k with
  | zero => rfl
  | succ k ih =>
    unfold lev
    rw [ih, (eith_cg h).1, (eith_cg h).2, one_cg h]
theorem part_cg (h : adv t n = adv u n) (key : Int32) : partP t n key = partP u n key := by
  funext s
  unfold partP
  rw [h, (eith_cg h).1, lev_cg h]
theorem readP_cg (h : ∀ k, k < n → t k = u k) (v0 : Int32) : readP t n v0 = readP u n v0 := by
  have e := adv_cg h
  unfold readP
  rw [lex_cg h, part_cg e, part_cg e, part_cg e]
end CG
