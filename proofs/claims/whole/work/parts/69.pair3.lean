/-! one call and the other: learns, feed, force, house, day, tell, set -/
def DSh (a : Nat) : Prop := (54 ≤ a ∧ a ≤ 61) ∨ 78 ≤ a
def DIm (a k : Nat) : Prop := (a = 0 ∧ (k = 11 ∨ k = 12)) ∨ a = 12 ∨ (14 ≤ a ∧ a ≤ 18) ∨ (a = 66 ∧ 34 ≤ k ∧ k ≤ 37) ∨ (75 ≤ a ∧ a ≤ 77)
def DTx (a k : Nat) : Prop := (a = 0 ∧ k = 10) ∨ (a = 66 ∧ k = 3) ∨ a = 67 ∨ a = 68 ∨ (30 ≤ a ∧ a < 54 ∧ W1 a = false)
def DTp (a k : Nat) : Prop := (a = 62 ∧ k = 1) ∨ a = 63 ∨ (a = 66 ∧ k = 6) ∨ a = 69
theorem ShR.d {J I : FI} (h : ∀ a k, DSh a → J a k = I a k) {s : Nat} (hs : s < 4) (g : ShR I s) : ShR J s := by
  have hb : 54 ≤ rowN s ∧ rowN s + 1 ≤ 61 := by unfold rowN; omega
  have e : ∀ a, DSh a → J a = I a := fun a ha => funext (fun k => h a k ha)
  unfold ShR
  rw [e (rowN s) (Or.inl (by omega)), e (rowN s + 1) (Or.inl (by omega)), e 78 (Or.inr (by omega)), e 79 (Or.inr (by omega)), e 80 (Or.inr (by omega)), e 81 (Or.inr (by omega))]
  exact g
theorem ImR.d {J I : FI} (h : ∀ a k, DIm a k → J a k = I a k) {m M tx m2 M2 tx2 : Nat} (h70 : ∀ k, k < m → J 70 k = I 70 k ∧ J 71 k = I 71 k) (hkd : ∀ j, j < M → J (5 + 2 + j) 0 = I (5 + 2 + j) 0) (hM : M ≤ 5) (hm2 : m ≤ m2) (hM2 : M ≤ M2) (ht2 : tx ≤ tx2) (g : ImR I m M tx) : ImR J m2 M2 tx2 := by
  unfold ImR
  rw [h 0 12 (by unfold DIm; omega), h 66 35 (by unfold DIm; omega)]
  rcases g with g | ⟨g0, mk, Mk, dk, rk, g1, g2, g3, g4, g5, g6, g7, g8, g9, g10, g11, g12, g13, g14⟩
  · exact Or.inl g
  · refine Or.inr ⟨g0, mk, Mk, dk, rk, by omega, by rw [h 0 11 (by unfold DIm; omega)]; exact g2, by rw [h 66 34 (by unfold DIm; omega)]; exact g3, fun k hk => ?_, by rw [h 12 1 (by unfold DIm; omega)]; exact g5, g6, by omega, by rw [h 12 2 (by unfold DIm; omega)]; exact g8, by rw [h 66 36 (by unfold DIm; omega)]; exact g9, g10, by rw [h 12 3 (by unfold DIm; omega)]; exact g11, by rw [h 66 37 (by unfold DIm; omega)]; exact g12, by omega, fun j hj => ?_⟩
    · rw [h 75 k (by unfold DIm; omega), h 76 k (by unfold DIm; omega), (h70 k (by omega)).1, (h70 k (by omega)).2]
      exact g4 k hk
    · have e : J (12 + 2 + j) = I (12 + 2 + j) := funext (fun k => h _ k (by unfold DIm; omega))
      rw [e, hkd j (by omega), h 77 _ (by unfold DIm; omega), h 77 _ (by unfold DIm; omega), h 77 _ (by unfold DIm; omega), h 77 _ (by unfold DIm; omega)]
      exact g14 j hj
theorem TxR.d {J I : FI} (h : ∀ a k, DTx a k → J a k = I a k) {tx : Nat} {sems : Nat → Nat → Sem} (g : TxR I tx sems) : TxR J tx sems := by
  obtain ⟨g1, g2, g3, g4⟩ := g
  have e67 : J 67 = I 67 := funext (fun k => h 67 k (by unfold DTx; omega))
  have e68 : J 68 = I 68 := funext (fun k => h 68 k (by unfold DTx; omega))
  refine ⟨(h 0 10 (by unfold DTx; omega)).trans g1, (h 66 3 (by unfold DTx; omega)).trans g2, g3, fun i hi => ⟨?_, ?_⟩⟩
  · have hb := rn_b (i := i) (by omega)
    have hw := rnW i (by omega)
    exact (g4 i hi).1.o0 (funext (fun k => h _ k (Or.inr (Or.inr (Or.inr (Or.inr ⟨by omega, by omega, hw.1⟩)))))) (funext (fun k => h _ k (Or.inr (Or.inr (Or.inr (Or.inr ⟨by omega, by omega, hw.2⟩))))))
  · have g5 := (g4 i hi).2
    unfold RT1 at *
    rw [e67, e68]
    exact g5
theorem TpR.d {J I : FI} (h : ∀ a k, DTp a k → J a k = I a k) {tn : Nat} (g : TpR I tn) : TpR J tn := by
  obtain ⟨g1, g2, g3, g4⟩ := g
  exact ⟨(h 62 1 (by unfold DTp; omega)).trans g1, (h 66 6 (by unfold DTp; omega)).trans g2, g3, fun k hk => by rw [h 63 k (by unfold DTp; omega), h 69 k (by unfold DTp; omega)]; exact g4 k hk⟩
theorem see_66 {A I : FI} (h : ∀ a k, 66 ≤ a → A a k = I a k) : Sees A I := ⟨h _ _ (by omega), h _ _ (by omega), h _ _ (by omega), h _ _ (by omega), fun k => ⟨h _ _ (by omega), h _ _ (by omega), h _ _ (by omega), h _ _ (by omega), h _ _ (by omega), h _ _ (by omega)⟩⟩
theorem pr_bad {X : En} {dC dR : Nat} {yC yR : MD} {args : List Value} {q : Nat × Nat} {I : FI} {L : FL} {m M d ri tx tn : Nat} {sems : Nat → Nat → Sem} (g : Inv0 q I m M d ri tx tn sems) {a : Int32} (hc : Ev X dC yC (0, 0) (.ref 0 :: args) S0 I L (R0 q) (AgLR (some (.int a)) I L q)) (hr : ∀ (J : FI) (L2 : FL), RSt J m (I 2) (I 3) M (TT I) d (sems ri) → Same J I → Ev X dR yR (0, 0) (.ref 66 :: args) S0 J L2 (R0 q) (PureR (some (.int a)) S0 J L2 (R0 q))) : PrB X dC dR yC yR args q I L :=
  pr_ask g hc (fun J L2 hs hsm => ev_mono (hr J L2 hs hsm) (fun r2 S2 I2 L3 R2 z => by
    obtain ⟨rfl, rfl, rfl, rfl, rfl⟩ := z
    exact ⟨rfl, rfl, rfl, FrE.refl⟩))
theorem RSt.congr5 {I : FI} {m : Nat} {fr fa : Nat → Int32} {M : Nat} {T T2 : Nat → Nat → Int32} {d : Nat} {sem : Nat → Sem} (h : RSt I m fr fa M T d sem) (e : ∀ j, j < M → T5 (T2 j) (T j)) : RSt I m fr fa M T2 d sem := by
  obtain ⟨a, hfa, ⟨b1, b2, b3⟩, hd, hx, ho⟩ := h
  refine ⟨a, hfa, ⟨b1, b2, fun j hj => ?_⟩, hd, hx, fun j hj => ?_⟩
  · have h5 := e j hj
    rw [h5 0 (by omega), h5 1 (by omega), h5 2 (by omega), h5 3 (by omega), h5 4 (by omega)]
    exact b3 j hj
  · have h5 := e j hj
    obtain ⟨k0, k1, k2, k3, k4⟩ := ho j hj
    exact ⟨by rw [h5 0 (by omega)]; exact k0, by rw [h5 1 (by omega)]; exact k1, by rw [h5 2 (by omega)]; exact k2, by rw [h5 3 (by omega)]; exact k3, by rw [h5 4 (by omega)]; exact k4⟩
set_option maxHeartbeats 1000000 in
theorem P_learns {X : En} (x w : Int32) : Pr X 9 3 mX7_learns mX8_learns [.int x, .int w] := by
  intro q I L ⟨m, M, d, ri, tx, tn, sems, g⟩
  have hcs := g.cs
  have hM5 := g.2.1.M5
  obtain ⟨a1, a2, a3, a4, a5, a6, a7, a8, a9, a10, a11, a12, a13, a14, a15⟩ := id g
  by_cases hv : (¬ x < 0 ∧ ¬ 4095 < x) ∧ (¬ w < 0 ∧ ¬ 11 < w)
  · obtain ⟨f, hf, rfl⟩ := nat_N (h := 11) rfl (by decide) hv.2
    obtain ⟨v, hv2, ev⟩ := nat_N (h := 4095) rfl (by decide) hv.1
    have hx : ¬ x < 0 ∧ x ≤ 4095 := rg_le.mp hv.1
    by_cases hm : m < 10
    · refine ev_mono (C_learns (X := X) (L := L) hcs hx (g := f) (by omega) hm) (fun r S' I1 L1 R1 z => ?_)
      obtain ⟨rfl, rfl, rfl, rfl, rfl⟩ := z
      refine ⟨rfl, rfl, q, _, rfl, rfl, fun L2 => ?_⟩
      have hst : RSt (up2 (up2 (up2 I (1 + 1) m x) (1 + 2) m (nI f)) 1 3 (nI (m + 1))) m (I 2) (I 3) M (TT I) d (sems ri) := a2.see (see_66 (fun a k ha => by rw [up2_n _ _ (by omega), up2_n _ _ (by omega), up2_n _ _ (by omega)]))
      refine ev_mono (R_learns (X := X) (L := L2) (q := q) hst hv.1 (g := f) (by omega) hm) (fun r2 S2 I2 L3 R2 z => ?_)
      obtain ⟨rfl, rfl, rfl, rfl, rfl⟩ := z
      have hl := hst.learn hm (x := x) (g := f) (by omega)
      have fz : ∀ a k, a ≠ 1 → a ≠ 2 → a ≠ 3 → a ≠ 70 → a ≠ 71 → ¬ (a = 66 ∧ k = 10) → (up2 (up2 (up2 (up2 (up2 (up2 I (1 + 1) m x) (1 + 2) m (nI f)) 1 3 (nI (m + 1))) 70 m x) 71 m (nI f)) 66 10 (nI (m + 1))) a k = I a k := fun a k h1 h2 h3 h4 h5 h6 => by
        rw [up2_nn _ _ h6, up2_n _ _ h5, up2_n _ _ h4, up2_n _ _ h1, up2_n _ _ h3, up2_n _ _ h2]
      refine ⟨rfl, rfl, rfl, m + 1, M, d, ri, tx, tn, sems, rfl, ?_, ?_, ?_, ?_, a6, ?_, ?_, a9, a10, a11, a12.d (fun a k h => ?_), a13.d (fun a k h => ?_), fun s hs => (a14 s hs).d (fun a k h => ?_) hs, a15.d (fun a k h => ?_) (fun k hk => ⟨?_, ?_⟩) (fun j hj => fz _ _ (by omega) (by omega) (by omega) (by omega) (by omega) (by omega)) hM5 (by omega) (Nat.le_refl _) (Nat.le_refl _)⟩
      · exact hl.congr (fun j hj => funext (fun k => fz _ k (by omega) (by omega) (by omega) (by omega) (by omega) (by omega)))
      · intro k hk
        show ∃ v, v < 4096 ∧ upd (I 2) m x k = nI v
        by_cases e : k = m
        · subst e; rw [upd_o]; exact ⟨v, by omega, ev⟩
        · rw [upd_ne e]; exact a3 k (by omega)
      · rw [fz _ _ (by omega) (by omega) (by omega) (by omega) (by omega) (by omega)]; exact a4
      · rw [fz _ _ (by omega) (by omega) (by omega) (by omega) (by omega) (by omega)]; exact a5
      · rw [fz _ _ (by omega) (by omega) (by omega) (by omega) (by omega) (by omega)]; exact a7
      · rw [fz _ _ (by omega) (by omega) (by omega) (by omega) (by omega) (by omega)]; exact a8
      · exact fz _ _ (by unfold DTx at h; omega) (by unfold DTx at h; omega) (by unfold DTx at h; omega) (by unfold DTx at h; omega) (by unfold DTx at h; omega) (by unfold DTx at h; omega)
      · exact fz _ _ (by unfold DTp at h; omega) (by unfold DTp at h; omega) (by unfold DTp at h; omega) (by unfold DTp at h; omega) (by unfold DTp at h; omega) (by unfold DTp at h; omega)
      · exact fz _ _ (by unfold DSh at h; omega) (by unfold DSh at h; omega) (by unfold DSh at h; omega) (by unfold DSh at h; omega) (by unfold DSh at h; omega) (by unfold DSh at h; omega)
      · exact fz _ _ (by unfold DIm at h; omega) (by unfold DIm at h; omega) (by unfold DIm at h; omega) (by unfold DIm at h; omega) (by unfold DIm at h; omega) (by unfold DIm at h; omega)
      · rw [up2_n _ _ (by omega), up2_n _ _ (by omega), up2_nn _ _ (fun e => by omega), up2_n _ _ (by omega), up2_n _ _ (by omega), up2_n _ _ (by omega)]
      · rw [up2_n _ _ (by omega), up2_nn _ _ (fun e => by omega), up2_n _ _ (by omega), up2_n _ _ (by omega), up2_n _ _ (by omega), up2_n _ _ (by omega)]
    · have h10 : m = 10 := by have := a2.1.2.1; omega
      exact pr_bad g (C_learnsF (X := X) (L := L) hcs hx (g := f) (by omega) h10) (fun J L2 hs hsm => R_learnsF hs hv.1 (by omega) h10)
  · exact pr_bad g (C_learnsB (X := X) (L := L) (fun h => hv ⟨⟨h.1.1, le_n.mp h.1.2⟩, h.2.1, lt12.mp h.2.2⟩)) (fun J L2 hs hsm => R_learnsB hs hv)
