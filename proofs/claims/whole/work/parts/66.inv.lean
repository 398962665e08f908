/-! what holds of class and reference between two calls -/
def ShR (I : FI) (s : Nat) : Prop := (I (rowN s) 1 = -1 ∧ I 78 s = 0) ∨ (I 78 s = 1 ∧ ∃ z, z ≤ 40 ∧ (I 79 s = 0 ∨ I 79 s = 1 ∨ I 79 s = 2) ∧ I (rowN s) 1 = I 79 s ∧ I (rowN s) 2 = nI z ∧ I 80 s = nI z ∧ ∀ i, i < z → I (rowN s + 1) i = I 81 (40 * s + i))
def ImR (I : FI) (m M tx : Nat) : Prop := (I 0 12 = 0 ∧ I 66 35 = -1) ∨ (I 0 12 = 1 ∧ ∃ mk Mk dk rk, mk ≤ m ∧ I 0 11 = nI mk ∧ I 66 34 = nI mk ∧ (∀ k, k < mk → I 75 k = I 70 k ∧ I 76 k = I 71 k) ∧ I 12 1 = nI Mk ∧ I 66 35 = nI Mk ∧ Mk ≤ M ∧ I 12 2 = nI dk ∧ I 66 36 = nI dk ∧ dk ≤ 999 ∧ I 12 3 = nI rk ∧ I 66 37 = nI rk ∧ rk < tx ∧ ∀ j, j < Mk → okT (I (12 + 2 + j)) ∧ I (12 + 2 + j) 0 = I (5 + 2 + j) 0 ∧ I 77 (4 * j) = I (12 + 2 + j) 1 ∧ I 77 (4 * j + 1) = I (12 + 2 + j) 2 ∧ I 77 (4 * j + 2) = I (12 + 2 + j) 3 ∧ I 77 (4 * j + 3) = I (12 + 2 + j) 4)
def TpR (I : FI) (tn : Nat) : Prop := I 62 1 = nI tn ∧ I 66 6 = nI tn ∧ tn ≤ 160 ∧ ∀ k, k < tn → I 63 k = I 69 k ∧ ¬ I 69 k < 0
def TxR (I : FI) (tx : Nat) (sems : Nat → Nat → Sem) : Prop := I 0 10 = nI tx ∧ I 66 3 = nI tx ∧ tx ≤ 6 ∧ ∀ i, i < tx → okRule I (ruleN i) (sems i) ∧ RT1 I i (sems i)
def TT (I : FI) : Nat → Nat → Int32 := fun j => I (5 + 2 + j)
def Inv0 (q : Nat × Nat) (I : FI) (m M d ri tx tn : Nat) (sems : Nat → Nat → Sem) : Prop := I 1 3 = nI m ∧ RSt I m (I 2) (I 3) M (TT I) d (sems ri) ∧ okFr m (I 2) ∧ I 5 1 = nI M ∧ I 5 2 = nI d ∧ d ≤ 999 ∧ I 5 3 = nI ri ∧ I 66 4 = nI ri ∧ ri < tx ∧ q.1 = ruleN ri ∧ (∃ i, i < 6 ∧ q.2 = ruleN i) ∧ TxR I tx sems ∧ TpR I tn ∧ (∀ s, s < 4 → ShR I s) ∧ ImR I m M tx
def Inv (q : Nat × Nat) (I : FI) : Prop := ∃ m M d ri tx tn sems, Inv0 q I m M d ri tx tn sems
/-- the cells that matter between two calls -/
def Rl (a k : Nat) : Prop := W1 a = false ∧ a ≠ 4 ∧ a ≠ 74 ∧ ¬ (a = 66 ∧ ((14 ≤ k ∧ k ≤ 28) ∨ k = 30))
def Same (J I : FI) : Prop := ∀ a k, Rl a k → J a k = I a k
theorem Same.tr {A B C : FI} (h : Same A B) (h2 : Same B C) : Same A C := fun a k e => (h a k e).trans (h2 a k e)
theorem Same.rf {A : FI} : Same A A := fun _ _ _ => rfl
theorem AgL.same {I J : FI} (h : AgL I J) : Same J I := fun a k e => congrFun (h a e.1 e.2.1) k
theorem eB_same {I J : FI} (h : FrE eB J I) : Same J I := fun a k e => h a k (fun e2 => by
  rcases e2 with ⟨e1, e2, e3⟩ | ⟨e1, e2⟩ | ⟨e1, e2⟩
  · exact e.2.2.2 ⟨e1, Or.inl ⟨e2, e3⟩⟩
  · exact e.2.2.2 ⟨e1, Or.inr e2⟩
  · exact e.2.2.1 e1)
theorem Same.f {J I : FI} (h : Same J I) {a : Nat} (h1 : W1 a = false) (h2 : a ≠ 4) (h3 : a ≠ 74) (h4 : a ≠ 66) : J a = I a := funext (fun k => h a k ⟨h1, h2, h3, fun e => h4 e.1⟩)
theorem Same.c {J I : FI} (h : Same J I) {k : Nat} (h1 : ¬ ((14 ≤ k ∧ k ≤ 28) ∨ k = 30)) : J 66 k = I 66 k := h 66 k ⟨by decide, by decide, by decide, fun e => h1 e.2⟩
theorem wTT : ∀ j, j < 5 → W1 (5 + 2 + j) = false ∧ W1 (12 + 2 + j) = false := by decide
theorem w1_hi : ∀ a, 54 ≤ a → a ≠ 65 → W1 a = false := by
  intro a h h65
  unfold W1 W0
  have e1 : (a == 65) = false := beq_false_of_ne h65
  have e2 : decide (a ≤ 53) = false := decide_eq_false (by omega)
  have e3 : (a == 26) = false := beq_false_of_ne (by omega)
  have e4 : (a == 27) = false := beq_false_of_ne (by omega)
  have e5 : decide (a ≤ 25) = false := decide_eq_false (by omega)
  rw [e1, e2, e3, e4, e5]
  simp
theorem Same.sees {J I : FI} (h : Same J I) : Sees J I := ⟨h.c (by omega), h.c (by omega), h.c (by omega), h.c (by omega), fun k => ⟨congrFun (h.f (by decide) (by decide) (by decide) (by decide)) k, congrFun (h.f (by decide) (by decide) (by decide) (by decide)) k, congrFun (h.f (by decide) (by decide) (by decide) (by decide)) k, congrFun (h.f (by decide) (by decide) (by decide) (by decide)) k, congrFun (h.f (by decide) (by decide) (by decide) (by decide)) k, congrFun (h.f (by decide) (by decide) (by decide) (by decide)) k⟩⟩
theorem Same.hi {J I : FI} (h : Same J I) {a : Nat} (h1 : 66 < a) (h2 : a ≠ 74) : J a = I a := h.f (w1_hi a (by omega) (by omega)) (by omega) h2 (by omega)
theorem ShR.same {J I : FI} (h : Same J I) {s : Nat} (hs : s < 4) (g : ShR I s) : ShR J s := by
  have hb := rw_b hs
  have hb2 : rowN s + 1 ≠ 62 := by omega
  have e1 : J (rowN s) = I (rowN s) := h.f (row_W s hs).1 (by omega) (by omega) (by omega)
  have e2 : J (rowN s + 1) = I (rowN s + 1) := h.f (row_W s hs).2.1 (by omega) (by omega) (by omega)
  unfold ShR
  rw [e1, e2, h.hi (a := 78) (by decide) (by decide), h.hi (a := 79) (by decide) (by decide), h.hi (a := 80) (by decide) (by decide), h.hi (a := 81) (by decide) (by decide)]
  exact g
theorem ImR.same {J I : FI} (h : Same J I) {m M tx : Nat} (hM : M ≤ 5) (g : ImR I m M tx) : ImR J m M tx := by
  have e0 : J 0 = I 0 := h.f (by decide) (by decide) (by decide) (by decide)
  have e12 : J 12 = I 12 := h.f (by decide) (by decide) (by decide) (by decide)
  unfold ImR
  rw [e0, e12, h.c (k := 35) (by omega), h.c (k := 34) (by omega), h.c (k := 36) (by omega), h.c (k := 37) (by omega), h.hi (a := 75) (by decide) (by decide), h.hi (a := 76) (by decide) (by decide), h.hi (a := 77) (by decide) (by decide), h.hi (a := 70) (by decide) (by decide), h.hi (a := 71) (by decide) (by decide)]
  rcases g with g | ⟨g0, mk, Mk, dk, rk, g1, g2, g3, g4, g5, g6, g7, g8, g9, g10, g11, g12, g13, g14⟩
  · exact Or.inl g
  · refine Or.inr ⟨g0, mk, Mk, dk, rk, g1, g2, g3, g4, g5, g6, g7, g8, g9, g10, g11, g12, g13, fun j hj => ?_⟩
    have hw := wTT j (by omega)
    rw [h.f (a := 12 + 2 + j) hw.2 (by omega) (by omega) (by omega), h.f (a := 5 + 2 + j) hw.1 (by omega) (by omega) (by omega)]
    exact g14 j hj
theorem RT1.same {J I : FI} (h : Same J I) {i : Nat} {sem : Nat → Sem} (g : RT1 I i sem) : RT1 J i sem := by
  unfold RT1
  rw [h.hi (a := 67) (by decide) (by decide), h.hi (a := 68) (by decide) (by decide)]
  exact g
theorem TxR.same {J I : FI} (h : Same J I) {tx : Nat} {sems : Nat → Nat → Sem} (g : TxR I tx sems) : TxR J tx sems := by
  obtain ⟨g1, g2, g3, g4⟩ := g
  refine ⟨by rw [h.f (a := 0) (by decide) (by decide) (by decide) (by decide)]; exact g1, by rw [h.c (k := 3) (by omega)]; exact g2, g3, fun i hi => ⟨?_, RT1.same h (g4 i hi).2⟩⟩
  have hb := rn_b (i := i) (by omega)
  have hw := rnW i (by omega)
  exact (g4 i hi).1.o0 (h.f hw.1 (by omega) (by omega) (by omega)) (h.f hw.2 (by omega) (by omega) (by omega))
theorem TpR.same {J I : FI} (h : Same J I) {tn : Nat} (g : TpR I tn) : TpR J tn := by
  unfold TpR
  rw [h.f (a := 62) (by decide) (by decide) (by decide) (by decide), h.f (a := 63) (by decide) (by decide) (by decide) (by decide), h.hi (a := 69) (by decide) (by decide), h.c (k := 6) (by omega)]
  exact g
theorem Inv0.same {q : Nat × Nat} {I J : FI} {m M d ri tx tn : Nat} {sems : Nat → Nat → Sem} (g : Inv0 q I m M d ri tx tn sems) (h : Same J I) : Inv0 q J m M d ri tx tn sems := by
  obtain ⟨a1, a2, a3, a4, a5, a6, a7, a8, a9, a10, a11, a12, a13, a14, a15⟩ := g
  have e1 : J 1 = I 1 := h.f (by decide) (by decide) (by decide) (by decide)
  have e2 : J 2 = I 2 := h.f (by decide) (by decide) (by decide) (by decide)
  have e3 : J 3 = I 3 := h.f (by decide) (by decide) (by decide) (by decide)
  have e5 : J 5 = I 5 := h.f (by decide) (by decide) (by decide) (by decide)
  have hM := a2.M5
  refine ⟨by rw [e1]; exact a1, ?_, by rw [e2]; exact a3, by rw [e5]; exact a4, by rw [e5]; exact a5, a6, by rw [e5]; exact a7, by rw [h.c (k := 4) (by omega)]; exact a8, a9, a10, a11, a12.same h, a13.same h, fun s hs => (a14 s hs).same h hs, a15.same h hM⟩
  rw [e2, e3]
  exact (a2.see h.sees).congr (fun j hj => h.f (wTT j (by omega)).1 (by omega) (by omega) (by omega))
theorem Inv0.st {q : Nat × Nat} {I J : FI} {m M d ri tx tn : Nat} {sems : Nat → Nat → Sem} (g : Inv0 q I m M d ri tx tn sems) (h : Same J I) : RSt J m (I 2) (I 3) M (TT I) d (sems ri) := g.2.1.see h.sees
theorem Inv0.cs {q : Nat × Nat} {I : FI} {m M d ri tx tn : Nat} {sems : Nat → Nat → Sem} (g : Inv0 q I m M d ri tx tn sems) : CSt I q m M ri (sems ri) := by
  obtain ⟨a1, a2, a3, a4, a5, a6, a7, a8, a9, a10, a11, a12, a13, a14, a15⟩ := g
  exact ⟨a1, a2.1.2.1, a4, a2.M5, Nat.lt_of_lt_of_le a9 a12.2.2.1, a10, (a12.2.2.2 ri a9).1⟩
/-- a call of the class, and the reference's behind it: one answer, and all holds again -/
def PrB (X : En) (dC dR : Nat) (yC yR : MD) (args : List Value) (q : Nat × Nat) (I : FI) (L : FL) : Prop := Ev X dC yC (0, 0) (.ref 0 :: args) S0 I L (R0 q) (fun r S' I1 L1 R1 => S' = S0 ∧ L1 = L ∧ ∃ (q1 : Nat × Nat) (v : Int32), R1 = R0 q1 ∧ r = some (.int v) ∧ ∀ L2, Ev X dR yR (0, 0) (.ref 66 :: args) S0 I1 L2 (R0 q1) (fun r2 S2 I2 L3 R2 => S2 = S0 ∧ R2 = R0 q1 ∧ r2 = some (.int v) ∧ Inv q1 I2))
def PrBL (X : En) (dC dR : Nat) (yC yR : MD) (args : List Value) (q : Nat × Nat) (I : FI) (L : FL) : Prop := Ev X dC yC (0, 0) (.ref 0 :: args) S0 I L (R0 q) (fun r S' I1 L1 R1 => S' = S0 ∧ L1 = L ∧ ∃ (q1 : Nat × Nat) (v : Int64), R1 = R0 q1 ∧ r = some (.long v) ∧ ∀ L2, Ev X dR yR (0, 0) (.ref 66 :: args) S0 I1 L2 (R0 q1) (fun r2 S2 I2 L3 R2 => S2 = S0 ∧ R2 = R0 q1 ∧ r2 = some (.long v) ∧ Inv q1 I2))
def Pr (X : En) (dC dR : Nat) (yC yR : MD) (args : List Value) : Prop := ∀ (q : Nat × Nat) (I : FI) (L : FL), Inv q I → PrB X dC dR yC yR args q I L
def PrL (X : En) (dC dR : Nat) (yC yR : MD) (args : List Value) : Prop := ∀ (q : Nat × Nat) (I : FI) (L : FL), Inv q I → PrBL X dC dR yC yR args q I L
theorem pr_ask {X : En} {dC dR : Nat} {yC yR : MD} {args : List Value} {q : Nat × Nat} {I : FI} {L : FL} {m M d ri tx tn : Nat} {sems : Nat → Nat → Sem} (g : Inv0 q I m M d ri tx tn sems) {a : Int32} (hc : Ev X dC yC (0, 0) (.ref 0 :: args) S0 I L (R0 q) (AgLR (some (.int a)) I L q)) (hr : ∀ (J : FI) (L2 : FL), RSt J m (I 2) (I 3) M (TT I) d (sems ri) → Same J I → Ev X dR yR (0, 0) (.ref 66 :: args) S0 J L2 (R0 q) (AfZ q eB J a)) : PrB X dC dR yC yR args q I L :=
  ev_mono hc (fun r S' I1 L1 R1 z => by
    obtain ⟨rfl, rfl, hA, rfl, rfl⟩ := z
    refine ⟨rfl, rfl, q, _, rfl, rfl, fun L2 => ?_⟩
    exact ev_mono (hr I1 L2 (g.st hA.same) hA.same) (fun r2 S2 I2 L3 R2 z => by
      obtain ⟨rfl, rfl, rfl, hf⟩ := z
      exact ⟨rfl, rfl, rfl, _, _, _, _, _, _, _, g.same ((eB_same hf).tr hA.same)⟩))
theorem afP {q : Nat × Nat} {E : Nat → Nat → Prop} {I : FI} {L : FL} {v : Int32} {r : Option Value} {S : Sh} {J : FI} {L' : FL} {R : FR} (h : PureR (some (.int v)) S0 I L (R0 q) r S J L' R) : AfZ q E I v r S J L' R := by
  obtain ⟨rfl, rfl, rfl, rfl, rfl⟩ := h
  exact ⟨rfl, rfl, rfl, FrE.refl⟩
theorem hcase {x : Int32} {M : Nat} (hM : M ≤ 5) : (∃ j, j < M ∧ x = nI j) ∨ ((x < 0 ∨ nI M ≤ x) ∧ ¬ vH x M) := by
  by_cases h : vH x M
  · exact Or.inl (vH_N hM h)
  · exact Or.inr ⟨(vH_f hM).mpr h, h⟩
theorem Inv0.day {q : Nat × Nat} {I : FI} {m M d ri tx tn : Nat} {sems : Nat → Nat → Sem} (g : Inv0 q I m M d ri tx tn sems) : I 5 2 = nI d ∧ d ≤ 5000 := ⟨g.2.2.2.2.1, Nat.le_trans g.2.2.2.2.2.1 (by decide)⟩
/-- a range, said in two ways -/
theorem rg_le {x hi : Int32} : (¬ x < 0 ∧ ¬ hi < x) ↔ (¬ x < 0 ∧ x ≤ hi) := by rw [Int32.not_lt (a := hi)]
