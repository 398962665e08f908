/-! rows for the walks that follow: names, calls that make nothing, answers that leave the world as it is -/
def PureR (r : Option Value) (S : Sh) (I : FI) (L : FL) (R : FR) : Pst := fun r' S' I' L' R' => r' = r ∧ S' = S ∧ I' = I ∧ L' = L ∧ R' = R
/-- an answer, and ints that changed -/
def IntR (r : Option Value) (S : Sh) (I : FI) (L : FL) (R : FR) : Pst := PureR r S I L R
theorem pureR {r : Option Value} {S : Sh} {I : FI} {L : FL} {R : FR} : PureR r S I L R r S I L R := ⟨rfl, rfl, rfl, rfl, rfl⟩
theorem pureE {r r2 : Option Value} {S : Sh} {I : FI} {L : FL} {R : FR} (h : r2 = r) : PureR r S I L R r2 S I L R := ⟨h, rfl, rfl, rfl, rfl⟩
theorem for_up {P : Nat → Prop} (n : Nat) (he : P n) (hs : ∀ k, k < n → P (k + 1) → P k) : ∀ k, k ≤ n → P k := by
  intro k hk
  obtain ⟨j, rfl⟩ : ∃ j, n = k + j := ⟨n - k, by omega⟩
  clear hk
  induction j generalizing k with
  | zero => exact he
  | succ j ih =>
    have h1 : k + (j + 1) = (k + 1) + j := by omega
    rw [h1] at he hs
    exact hs k (by omega) (ih (k + 1) he hs)
theorem vp_lit {i : Int32} {n : Nat} (h : decide (i < 0 ∨ n ≤ i.toNatClampNeg) = false := by decide) : vp_in i n := of_decide_eq_false h
section USER
variable {X : En} {d : Nat} {y : MD} {b : Nat × Nat} {pc : Nat} {ls ls' : List (Option Value)} {st : List Value} {S : Sh} {I : FI} {L : FL} {R : FR} {K : Kt}
theorem s_name {x : Int32} (k : ∀ z : Int32, z = x → SW X d y b pc ls (.int z :: st) S I L R K) : SW X d y b pc ls (.int x :: st) S I L R K := k x rfl
theorem s_nameL {x : Int64} (k : ∀ z : Int64, z = x → SW X d y b pc ls (.long z :: st) S I L R K) : SW X d y b pc ls (.long x :: st) S I L R K := k x rfl
theorem s_top {v v' : Value} (h : v = v') (k : SW X d y b pc ls (v' :: st) S I L R K) : SW X d y b pc ls (v :: st) S I L R K := h ▸ k
theorem s_topi {x z : Int32} (h : x = z) (k : SW X d y b pc ls (.int z :: st) S I L R K) : SW X d y b pc ls (.int x :: st) S I L R K := h ▸ k
theorem s_ls (h : ls = ls') (k : SW X d y b pc ls' st S I L R K) : SW X d y b pc ls st S I L R K := h ▸ k
theorem s_nameI (k : ∀ I' : FI, I' = I → SW X d y b pc ls st S I' L R K) : SW X d y b pc ls st S I L R K := k I rfl
theorem s_eqI {I' : FI} (h : I = I') (k : SW X d y b pc ls st S I' L R K) : SW X d y b pc ls st S I L R K := h ▸ k
theorem s_ialdN {o n k : Nat} (h : decode (yb y) pc = .ok (.iaload, 1)) (ho : S[o]? = some (9, n)) (hk : k < n) (hn : n < 2 ^ 31) (kk : SW X d y b (pc + 1) ls (.int (I o k) :: st) S I L R K) : SW X d y b pc ls (.int (nI k) :: .ref o :: st) S I L R K :=
  s_iald h ho (vp_in_nI hk hn) (by rw [nI_clamp (by omega)]) kk
theorem s_ialdX {o n k : Nat} {x : Int32} (h : decode (yb y) pc = .ok (.iaload, 1)) (ho : S[o]? = some (9, n)) (hk : k < n) (hn : n < 2 ^ 31) (hx : I o k = x) (kk : SW X d y b (pc + 1) ls (.int x :: st) S I L R K) : SW X d y b pc ls (.int (nI k) :: .ref o :: st) S I L R K :=
  s_iald h ho (vp_in_nI hk hn) (by rw [nI_clamp (by omega)]; exact hx) kk
theorem s_iastN {o n k : Nat} {x : Int32} (h : decode (yb y) pc = .ok (.iastore, 1)) (ho : S[o]? = some (9, n)) (hk : k < n) (hn : n < 2 ^ 31) (kk : SW X d y b (pc + 1) ls st S (up2 I o k x) L R K) : SW X d y b pc ls (.int x :: .int (nI k) :: .ref o :: st) S I L R K := by
  refine s_iast h ho (vp_in_nI hk hn) ?_
  rw [nI_clamp (by omega)]
  exact kk
theorem s_aaldN {o a n k r : Nat} (h : decode (yb y) pc = .ok (.aaload, 1)) (ha : a < 3) (ho : S[o]? = some (11 + a, n)) (hk : k < n) (hn : n < 2 ^ 31) (hx : R o k = some r) (kk : SW X d y b (pc + 1) ls (.ref r :: st) S I L R K) : SW X d y b pc ls (.int (nI k) :: .ref o :: st) S I L R K :=
  s_aald h ha ho (vp_in_nI hk hn) (by rw [nI_clamp (by omega)]; exact hx) kk
theorem s_cV {y2 : MD} {d2 ix o n c : Nat} {as st0 : List Value} {q : vw_C} {Q2 : Pst} (h : decode (yb y) pc = .ok (.invokevirtual ix, 3)) (f : VirP (yn y).cls ix y2) (hm : Ev X d2 y2 (0, 0) (.ref o :: as) S I L R Q2) (hd : d2 < d) (ho : S[o]? = some (c, n)) (hc : vwCl[c]? = some q) (hqn : q.1 = (yn y2).cls) (hn : as.length = ya y2) (hst : st0 = as.reverse ++ .ref o :: st) (hw : (st.map fun v => v.category).sum ≤ 8) (h9 : c < 9)
    (kk : ∀ r S' I' L' R', Q2 r S' I' L' R' → SW X d y b (pc + 3) ls (r.toList ++ st) S' I' L' R' K) : SW X d y b pc ls st0 S I L R K :=
  s_callV h f hm hd ho hc hqn hn hst hw ⟨Nat.zero_le _, Nat.zero_le _⟩ h9 kk
theorem s_cS {y2 : MD} {d2 ix : Nat} {as st0 : List Value} {Q2 : Pst} (h : decode (yb y) pc = .ok (.invokestatic ix, 3)) (f : StaP (yn y).cls ix y2) (hm : Ev X d2 y2 (0, 0) as S I L R Q2) (hd : d2 < d) (hn : as.length = ya y2) (hst : st0 = as.reverse ++ st) (hw : (st.map fun v => v.category).sum ≤ 8)
    (kk : ∀ r S' I' L' R', Q2 r S' I' L' R' → SW X d y b (pc + 3) ls (r.toList ++ st) S' I' L' R' K) : SW X d y b pc ls st0 S I L R K :=
  s_callS h f hm hd hn hst hw ⟨Nat.zero_le _, Nat.zero_le _⟩ kk
theorem s_cSN {y2 : MD} {d2 ix : Nat} {as st0 : List Value} {Q2 : Pst} (h : decode (yb y) pc = .ok (.invokestatic ix, 3)) (f : StaNP (yn y).cls ix y2) (hm : Ev X d2 y2 (0, 0) as S I L R Q2) (hd : d2 < d) (hn : as.length = ya y2) (hst : st0 = as.reverse ++ st) (hw : (st.map fun v => v.category).sum ≤ 8)
    (kk : ∀ r S' I' L' R', Q2 r S' I' L' R' → SW X d y b (pc + 3) ls (r.toList ++ st) S' I' L' R' K) : SW X d y b pc ls st0 S I L R K :=
  s_callSN h f hm hd hn hst hw ⟨Nat.zero_le _, Nat.zero_le _⟩ kk
/-- a call whose answer is known, and that changes nothing -/
theorem s_cVp {y2 : MD} {d2 ix o n c : Nat} {as st0 : List Value} {q : vw_C} {v : Value} (h : decode (yb y) pc = .ok (.invokevirtual ix, 3)) (f : VirP (yn y).cls ix y2) (hm : Ev X d2 y2 (0, 0) (.ref o :: as) S I L R (PureR (some v) S I L R)) (hd : d2 < d) (ho : S[o]? = some (c, n)) (hc : vwCl[c]? = some q) (hqn : q.1 = (yn y2).cls) (hn : as.length = ya y2) (hst : st0 = as.reverse ++ .ref o :: st) (hw : (st.map fun v => v.category).sum ≤ 8) (h9 : c < 9)
    (kk : SW X d y b (pc + 3) ls (v :: st) S I L R K) : SW X d y b pc ls st0 S I L R K :=
  s_cV h f hm hd ho hc hqn hn hst hw h9 (fun r' S' I' L' R' hq => by obtain ⟨rfl, rfl, rfl, rfl, rfl⟩ := hq; exact kk)
theorem s_cVpv {y2 : MD} {d2 ix o n c : Nat} {as st0 : List Value} {q : vw_C} (h : decode (yb y) pc = .ok (.invokevirtual ix, 3)) (f : VirP (yn y).cls ix y2) (hm : Ev X d2 y2 (0, 0) (.ref o :: as) S I L R (PureR none S I L R)) (hd : d2 < d) (ho : S[o]? = some (c, n)) (hc : vwCl[c]? = some q) (hqn : q.1 = (yn y2).cls) (hn : as.length = ya y2) (hst : st0 = as.reverse ++ .ref o :: st) (hw : (st.map fun v => v.category).sum ≤ 8) (h9 : c < 9)
    (kk : SW X d y b (pc + 3) ls st S I L R K) : SW X d y b pc ls st0 S I L R K :=
  s_cV h f hm hd ho hc hqn hn hst hw h9 (fun r' S' I' L' R' hq => by obtain ⟨rfl, rfl, rfl, rfl, rfl⟩ := hq; exact kk)
theorem s_cSp {y2 : MD} {d2 ix : Nat} {as st0 : List Value} {v : Value} (h : decode (yb y) pc = .ok (.invokestatic ix, 3)) (f : StaP (yn y).cls ix y2) (hm : Ev X d2 y2 (0, 0) as S I L R (PureR (some v) S I L R)) (hd : d2 < d) (hn : as.length = ya y2) (hst : st0 = as.reverse ++ st) (hw : (st.map fun v => v.category).sum ≤ 8)
    (kk : SW X d y b (pc + 3) ls (v :: st) S I L R K) : SW X d y b pc ls st0 S I L R K :=
  s_cS h f hm hd hn hst hw (fun r' S' I' L' R' hq => by obtain ⟨rfl, rfl, rfl, rfl, rfl⟩ := hq; exact kk)
theorem s_cSpv {y2 : MD} {d2 ix : Nat} {as st0 : List Value} (h : decode (yb y) pc = .ok (.invokestatic ix, 3)) (f : StaP (yn y).cls ix y2) (hm : Ev X d2 y2 (0, 0) as S I L R (PureR none S I L R)) (hd : d2 < d) (hn : as.length = ya y2) (hst : st0 = as.reverse ++ st) (hw : (st.map fun v => v.category).sum ≤ 8)
    (kk : SW X d y b (pc + 3) ls st S I L R K) : SW X d y b pc ls st0 S I L R K :=
  s_cS h f hm hd hn hst hw (fun r' S' I' L' R' hq => by obtain ⟨rfl, rfl, rfl, rfl, rfl⟩ := hq; exact kk)
theorem s_cSNp {y2 : MD} {d2 ix : Nat} {as st0 : List Value} {v : Value} (h : decode (yb y) pc = .ok (.invokestatic ix, 3)) (f : StaNP (yn y).cls ix y2) (hm : Ev X d2 y2 (0, 0) as S I L R (PureR (some v) S I L R)) (hd : d2 < d) (hn : as.length = ya y2) (hst : st0 = as.reverse ++ st) (hw : (st.map fun v => v.category).sum ≤ 8)
    (kk : SW X d y b (pc + 3) ls (v :: st) S I L R K) : SW X d y b pc ls st0 S I L R K :=
  s_cSN h f hm hd hn hst hw (fun r' S' I' L' R' hq => by obtain ⟨rfl, rfl, rfl, rfl, rfl⟩ := hq; exact kk)
theorem s_cSNpv {y2 : MD} {d2 ix : Nat} {as st0 : List Value} (h : decode (yb y) pc = .ok (.invokestatic ix, 3)) (f : StaNP (yn y).cls ix y2) (hm : Ev X d2 y2 (0, 0) as S I L R (PureR none S I L R)) (hd : d2 < d) (hn : as.length = ya y2) (hst : st0 = as.reverse ++ st) (hw : (st.map fun v => v.category).sum ≤ 8)
    (kk : SW X d y b (pc + 3) ls st S I L R K) : SW X d y b pc ls st0 S I L R K :=
  s_cSN h f hm hd hn hst hw (fun r' S' I' L' R' hq => by obtain ⟨rfl, rfl, rfl, rfl, rfl⟩ := hq; exact kk)
theorem s_mmax {x z : Int32} {ix : Nat} (h : decode (yb y) pc = .ok (.invokestatic ix, 3)) (f : StaP (yn y).cls ix mJ9_max_7cf53) (hd : 0 < d) (hw : (st.map fun v => v.category).sum ≤ 8) (kk : SW X d y b (pc + 3) ls (.int (if x < z then z else x) :: st) S I L R K) : SW X d y b pc ls (.int z :: .int x :: st) S I L R K := by
  intro p e Rm s m args below meth c0 H locs cells slots la hC hRm hW hS hl
  obtain ⟨r1, r2, r3, r4⟩ := hRm
  have hts := hC.2.2.2.2.2.1
  obtain ⟨hy, hk1, hk2⟩ := f
  have hcat : (cvS X st).map (fun v => v.category) = st.map (fun v => v.category) := by rw [List.map_map]; exact List.map_congr_left fun v _ => cv_cat X v
  exact va_mmax hC.1 hC.2.1 (hC.2.2.2.1.trans hl.1.symm) hC.2.2.2.2.1 (hts _ hk1) (hts _ hk2) (hts _ hy.2.1) (hts _ hy.1) (by omega) (by rw [hcat]; omega) (by omega) (by omega) h (kk p e Rm s m args below meth c0 H locs cells slots la hC ⟨r1, r2, r3, r4⟩ hW hS hl)
theorem s_mmin {x z : Int32} {ix : Nat} (h : decode (yb y) pc = .ok (.invokestatic ix, 3)) (f : StaP (yn y).cls ix mJ9_min_7cf53) (hd : 0 < d) (hw : (st.map fun v => v.category).sum ≤ 8) (kk : SW X d y b (pc + 3) ls (.int (if z < x then z else x) :: st) S I L R K) : SW X d y b pc ls (.int z :: .int x :: st) S I L R K := by
  intro p e Rm s m args below meth c0 H locs cells slots la hC hRm hW hS hl
  obtain ⟨r1, r2, r3, r4⟩ := hRm
  have hts := hC.2.2.2.2.2.1
  obtain ⟨hy, hk1, hk2⟩ := f
  have hcat : (cvS X st).map (fun v => v.category) = st.map (fun v => v.category) := by rw [List.map_map]; exact List.map_congr_left fun v _ => cv_cat X v
  exact va_mmin hC.1 hC.2.1 (hC.2.2.2.1.trans hl.1.symm) hC.2.2.2.2.1 (hts _ hk1) (hts _ hk2) (hts _ hy.2.1) (hts _ hy.1) (by omega) (by rw [hcat]; omega) (by omega) (by omega) h (kk p e Rm s m args below meth c0 H locs cells slots la hC ⟨r1, r2, r3, r4⟩ hW hS hl)
theorem s_cret {Q : Pst} {x : Int32} {t : FieldType} (h : decode (yb y) pc = .ok (.ireturn, 1)) (hr : yr y = some t) (hn : narrow t (.int x) = .int x) (hq : Q (some (.int x)) S I L R) : SW X d y b pc ls [.int x] S I L R (KQ X Q) := by
  intro p e Rm s m args below meth c0 H locs cells slots la hC hRm hW hS hl
  obtain ⟨r1, r2, r3, r4⟩ := hRm
  refine W.widen (k := Rm.cells) (n := Rm.slots) (by omega) (by omega) ?_
  exact W.zret hC.1 hC.2.1 (hC.2.2.1.trans hr) hn (fun t ht _ => qcO_of hq hW hS t ht) hS.2.2 h hC.2.2.2.2.2.2.1
end USER
