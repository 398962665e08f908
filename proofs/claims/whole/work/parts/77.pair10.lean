/-! one call and the other: text -/
set_option maxRecDepth 100000 in
set_option maxHeartbeats 1000000 in
theorem tx_fin {q : Nat × Nat} {I I2 : FI} {m M d ri tx tn : Nat} {sems : Nat → Nat → Sem} (g : Inv0 q I m M d ri tx tn sems) (h6 : tx < 6) (fz : ∀ a k, ¬ ((a = 0 ∧ k = 10) ∨ a = 62 ∨ a = ruleN tx ∨ a = ruleN tx + 1 ∨ a = ruleN tx + 2 ∨ (a = 66 ∧ ((14 ≤ k ∧ k ≤ 28) ∨ k = 3 ∨ k = 6)) ∨ (a = 68 ∧ k = tx) ∨ (a = 67 ∧ 160 * tx ≤ k)) → I2 a k = I a k) {tx' : Nat} {sems' : Nat → Nat → Sem} (hx : TxR I2 tx' sems') (hp : TpR I2 0) (hle : tx ≤ tx') : Inv (q.1, ruleN tx) I2 := by
  have hM5 := g.2.1.M5
  have hrb := rn_b h6
  obtain ⟨a1, a2, a3, a4, a5, a6, a7, a8, a9, a10, a11, a12, a13, a14, a15⟩ := id g
  obtain ⟨⟨l1, l2, l3⟩, hfa, ⟨b1, b2, b3⟩, hd, _, hk⟩ := id a2
  obtain ⟨nt, t, k1, k2, k3, k4, k5⟩ := (hx.2.2.2 ri (by omega)).2
  refine ⟨ m, M, d, ri, tx', 0, sems', ?_, ?_, ?_, ?_, ?_, ?_, ?_, ?_, ?_, ?_, ?_, ?_, ?_, ?_, ?_⟩
  · rw [fz _ _ (by omega)]
    exact a1
  · have e2 : I2 2 = I 2 := funext (fun k => fz _ _ (by omega))
    have e3 : I2 3 = I 3 := funext (fun k => fz _ _ (by omega))
    rw [e2, e3]
    have e7 : ∀ j, j < M → I2 (5 + 2 + j) = I (5 + 2 + j) := fun j hj => funext (fun k => fz _ _ (by omega))
    have e71 : ∀ j, j < M → TT I2 j = TT I j := e7
    refine ⟨⟨(fz _ _ (by omega)).trans l1, l2, fun k hk => ⟨(fz _ _ (by omega)).trans (l3 k hk).1, (fz _ _ (by omega)).trans (l3 k hk).2⟩⟩, hfa, ⟨(fz _ _ (by omega)).trans b1, b2, fun j hj => ?_⟩, (fz _ _ (by omega)).trans hd, ⟨ri, nt, t, (fz _ _ (by omega)).trans a8, by omega, k1, k2, k3, k4, k5⟩, fun j hj => ?_⟩
    · obtain ⟨e0, e1, e2, e3, e4⟩ := b3 j hj
      rw [e71 j hj]
      exact ⟨(fz _ _ (by omega)).trans e0, (fz _ _ (by omega)).trans e1, (fz _ _ (by omega)).trans e2, (fz _ _ (by omega)).trans e3, (fz _ _ (by omega)).trans e4⟩
    · rw [e71 j hj]; exact hk j hj
  · intro k hk
    rw [fz 2 k (by omega)]
    exact a3 k hk
  · rw [fz _ _ (by omega)]
    exact a4
  · rw [fz _ _ (by omega)]
    exact a5
  · exact a6
  · rw [fz _ _ (by omega)]
    exact a7
  · rw [fz _ _ (by omega)]
    exact a8
  · omega
  · exact a10
  · exact ⟨tx, h6, rfl⟩
  · exact hx
  · exact hp
  · exact fun s hs => (a14 s hs).d (fun a k h => fz _ _ (by unfold DSh at h; omega)) hs
  · exact a15.d (fun a k h => fz _ _ (by unfold DIm at h; omega)) (fun k hk => ⟨fz _ _ (by omega), fz _ _ (by omega)⟩) (fun j hj => fz _ _ (by omega)) hM5 (Nat.le_refl _) (Nat.le_refl _) hle

set_option maxRecDepth 100000 in
set_option maxHeartbeats 1000000 in
theorem P_text {X : En} : Pr X 60 52 mX7_text mX8_text [] := by
  intro q I L ⟨m, M, d, ri, tx, tn, sems, g⟩
  have hcs := g.cs
  have hM5 := g.2.1.M5
  obtain ⟨hday, hd⟩ := g.day
  obtain ⟨a1, a2, a3, a4, a5, a6, a7, a8, a9, a10, a11, a12, a13, a14, a15⟩ := id g
  obtain ⟨htx, ht3, htx6, hts⟩ := id a12
  obtain ⟨t1, t2, t3, t4⟩ := a13
  by_cases h6 : tx < 6
  · have hrb := rn_b h6
    refine ev_mono (C_text (X := X) (L := L) htx h6 t1 t3) (fun r S' I1 L1 R1 z => ?_)
    obtain ⟨rfl, rfl, rfl, ⟨w1, w2, w3⟩, v, rfl, hz⟩ := z
    refine ⟨rfl, rfl, (q.1, ruleN tx), _, rfl, rfl, fun L2 => ?_⟩
    have fzc : ∀ a k, ¬ ((a = 0 ∧ k = 10) ∨ a = 62 ∨ a = ruleN tx ∨ a = ruleN tx + 1 ∨ a = ruleN tx + 2) → I1 a k = I a k := fun a k h => by
      by_cases e : a = 0
      · subst e; exact w3 k (by omega)
      · exact congrFun (w1 a (by omega) (by omega) (by omega) (by omega) e) k
    have hR := R_text (X := X) (L := L2) (q := (q.1, ruleN tx)) (I := I1) (by rw [fzc _ _ (by omega)]; exact ht3) h6 (by rw [fzc _ _ (by omega)]; exact t2) t3 (fun k hk => by rw [fzc _ _ (by omega)]; exact (t4 k hk).2) (I 62 6)
    have e69 : ∀ k, k < tn → I1 69 k = I 63 k := fun k hk => (fzc _ _ (by omega)).trans (t4 k hk).1.symm
    rw [readP_cg (u := I 63) e69] at hR
    refine ev_mono hR (fun r2 S2 I2 L3 R2 y => ?_)
    obtain ⟨rfl, rfl, hf, f6, f68, f67, v2, rfl, hx⟩ := y
    have fz : ∀ a k, ¬ ((a = 0 ∧ k = 10) ∨ a = 62 ∨ a = ruleN tx ∨ a = ruleN tx + 1 ∨ a = ruleN tx + 2 ∨ (a = 66 ∧ ((14 ≤ k ∧ k ≤ 28) ∨ k = 3 ∨ k = 6)) ∨ (a = 68 ∧ k = tx) ∨ (a = 67 ∧ 160 * tx ≤ k)) → I2 a k = I a k := fun a k h => (hf a k (fun e => by
      rcases e with ⟨e1, e2, e3⟩ | ⟨e1, e2⟩ | ⟨e1, e2⟩ | ⟨e1, e2⟩ | ⟨e1, e2, e3⟩ <;> omega)).trans (fzc a k (by omega))
    have lo : ∀ a k, a < 66 → I2 a k = I1 a k := fun a k h => hf a k (fun e => by
      rcases e with ⟨e1, e2, e3⟩ | ⟨e1, e2⟩ | ⟨e1, e2⟩ | ⟨e1, e2⟩ | ⟨e1, e2, e3⟩ <;> omega)
    have hp : TpR I2 0 := ⟨(lo _ _ (by omega)).trans w2, f6, by omega, fun k hk => by omega⟩
    have old : ∀ i, i < tx → okRule I2 (ruleN i) (sems i) ∧ RT1 I2 i (sems i) := fun i hi => by
      have hri : ruleN i + 4 ≤ ruleN tx := by unfold ruleN; omega
      have hr30 : 30 ≤ ruleN i := (rn_b (by omega)).1
      refine ⟨(hts i hi).1.o0 (funext (fun k => fz _ _ (by omega))) (funext (fun k => fz _ _ (by omega))), ?_⟩
      obtain ⟨nt, t, k1, k2, k3, k4, k5⟩ := (hts i hi).2
      exact ⟨nt, t, (fz _ _ (by omega)).trans k1, k2, fun k hk => (fz _ _ (by omega)).trans (k3 k hk), k4, k5⟩
    cases hrd : readP (I 63) tn (I 62 6) with
    | inr f =>
      rw [hrd] at hz hx
      obtain ⟨rfl, hz10⟩ := hz
      obtain ⟨rfl, hx3⟩ := hx
      exact ⟨rfl, rfl, rfl, tx_fin g h6 fz ⟨(lo _ _ (by omega)).trans hz10, hx3, htx6, old⟩ hp (Nat.le_refl _)⟩
    | inl p =>
      rw [hrd] at hz hx
      obtain ⟨c1, c2, c3, s1, s2, s3⟩ := p
      obtain ⟨rfl, hz10, hok⟩ := hz
      obtain ⟨rfl, hx3⟩ := hx
      refine ⟨rfl, rfl, rfl, tx_fin g h6 fz (sems' := fun i => if i = tx then sem3 s1 s2 s3 else sems i) ⟨(lo _ _ (by omega)).trans hz10, hx3, by omega, fun i hi => ?_⟩ hp (Nat.le_succ _)⟩
      by_cases e : i = tx
      · subst e
        simp only [if_pos]
        refine ⟨hok.o0 (funext (fun k => lo _ _ (by omega))) (funext (fun k => lo _ _ (by omega))), tn, I 63, f68, t3, fun k hk => (f67 k hk).trans (e69 k hk), fun k hk => ?_, I 62 6, c1, c2, c3, s1, s2, s3, hrd, rfl⟩
        rw [(t4 k hk).1]; exact (t4 k hk).2
      · simp only [if_neg e]
        exact old i (by omega)
  · have e6 : tx = 6 := by omega
    exact pr_bad g (C_textF (X := X) (L := L) (by rw [htx, e6])) (fun J L2 hs hsm => R_textF (by rw [hsm.c (k := 3) (by omega), ht3, e6]))
