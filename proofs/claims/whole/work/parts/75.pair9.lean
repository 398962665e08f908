/-! one call and the other: houses -/
theorem hsS_cg {f g : Nat → Int32} {M : Nat} {T : Nat → Nat → Int32} : ∀ k, (∀ j, j < 2 * k → f j = g j) → hsS f M T k = hsS g M T k := by
  intro k
  induction k with
  | zero => intro _; rfl
  | succ k ih =>
    intro h
    unfold hsS
    rw [ih (fun j hj => h j (by omega)), h (2 * k) (by omega), h (2 * k + 1) (by omega)]
theorem hsS_lo {f : Nat → Int32} {M : Nat} {T : Nat → Nat → Int32} : ∀ k, M ≤ (hsS f M T k).1 ∧ ∀ j, j < M → (hsS f M T k).2.1 j = T j := by
  intro k
  induction k with
  | zero => exact ⟨Nat.le_refl _, fun _ _ => rfl⟩
  | succ k ih =>
    unfold hsS
    split
    · refine ⟨by show M ≤ (hsS f M T k).1 + 1; omega, fun j hj => ?_⟩
      show uT (hsS f M T k).2.1 (hsS f M T k).1 _ j = T j
      unfold uT
      rw [if_neg (by omega)]
      exact ih.2 j hj
    · exact ih
set_option maxRecDepth 100000 in
set_option maxHeartbeats 1000000 in
theorem hs_fin {q : Nat × Nat} {I I1 I2 : FI} {m M d ri tx tn : Nat} {sems : Nat → Nat → Sem} (g : Inv0 q I m M d ri tx tn sems) {M' : Nat} {T' : Nat → Nat → Int32} (hw : HsW I I1 M' T') (hr : RSt I2 m (I 2) (I 3) M' T' d (sems ri)) (hf : FrE eH I2 I1) (hM : M ≤ M') (hT : ∀ j, j < M → T' j = TT I j) : Inv q I2 := by
  have hM5 := g.2.1.M5
  obtain ⟨a1, a2, a3, a4, a5, a6, a7, a8, a9, a10, a11, a12, a13, a14, a15⟩ := id g
  obtain ⟨w1, w2, w3, w4, w5⟩ := hw
  have lo : ∀ a k, 5 ≤ a → a ≤ 11 → I2 a k = I1 a k := fun a k h1 h2 => hf a k (fun e => by rcases e with ⟨e, _⟩ | e | ⟨e, _⟩ <;> omega)
  have fz : ∀ a k, ¬ (5 ≤ a ∧ a ≤ 11) → a ≠ 72 → a ≠ 73 → ¬ (a = 66 ∧ k = 13) → I2 a k = I a k := fun a k h1 h2 h3 h4 => (hf a k (fun e => by
    rcases e with e | e | ⟨e, _⟩
    · exact h4 e
    · exact h2 e
    · exact h3 e)).trans (congrFun (w1 a h1) k)
  have t5 : ∀ j, j < M' → T5 (I2 (5 + 2 + j)) (T' j) := fun j hj i hi => (lo _ i (by omega) (by omega)).trans (w5 j hj i hi)
  have k5 : ∀ k, k ≠ 1 → I2 5 k = I 5 k := fun k hk => (lo 5 k (by omega) (by omega)).trans (w3 k hk)
  refine ⟨ m, M', d, ri, tx, tn, sems, ?_, ?_, ?_, ?_, ?_, ?_, ?_, ?_, ?_, ?_, ?_, ?_, ?_, ?_, ?_⟩
  · rw [fz _ _ (by omega) (by omega) (by omega) (by omega)]
    exact a1
  · have e2 : I2 2 = I 2 := funext (fun k => fz _ _ (by omega) (by omega) (by omega) (by omega))
    have e3 : I2 3 = I 3 := funext (fun k => fz _ _ (by omega) (by omega) (by omega) (by omega))
    rw [e2, e3]
    exact hr.congr5 t5
  · intro k hk
    rw [fz 2 k (by omega) (by omega) (by omega) (by omega)]
    exact a3 k hk
  · exact (lo 5 1 (by omega) (by omega)).trans w2
  · rw [k5 2 (by omega)]; exact a5
  · exact a6
  · rw [k5 3 (by omega)]; exact a7
  · rw [fz _ _ (by omega) (by omega) (by omega) (by omega)]
    exact a8
  · exact a9
  · exact a10
  · exact a11
  · exact a12.d (fun a k h => fz _ _ (by unfold DTx at h; omega) (by unfold DTx at h; omega) (by unfold DTx at h; omega) (by unfold DTx at h; omega))
  · exact a13.d (fun a k h => fz _ _ (by unfold DTp at h; omega) (by unfold DTp at h; omega) (by unfold DTp at h; omega) (by unfold DTp at h; omega))
  · exact fun s hs => (a14 s hs).d (fun a k h => fz _ _ (by unfold DSh at h; omega) (by unfold DSh at h; omega) (by unfold DSh at h; omega) (by unfold DSh at h; omega)) hs
  · exact a15.d (fun a k h => fz _ _ (by unfold DIm at h; omega) (by unfold DIm at h; omega) (by unfold DIm at h; omega) (by unfold DIm at h; omega)) (fun k hk => ⟨fz _ _ (by omega) (by omega) (by omega) (by omega), fz _ _ (by omega) (by omega) (by omega) (by omega)⟩) (fun j hj => (t5 j (by omega) 0 (by omega)).trans (by rw [hT j hj]; rfl)) hM5 (Nat.le_refl _) hM (Nat.le_refl _)

set_option maxRecDepth 100000 in
set_option maxHeartbeats 1000000 in
theorem P_houses {X : En} (x w t v : Int32) : Pr X 9 4 mX7_houses mX8_houses [.int x, .int w, .int t, .int v] := by
  intro q I L ⟨m, M, d, ri, tx, tn, sems, g⟩
  have hcs := g.cs
  have hM5 := g.2.1.M5
  obtain ⟨hday, hd⟩ := g.day
  obtain ⟨a1, a2, a3, a4, a5, a6, a7, a8, a9, a10, a11, a12, a13, a14, a15⟩ := id g
  rcases nR (x := x) with ⟨s, hrs, rfl, hy3⟩ | ⟨hy, hny⟩
  · have hb : 54 ≤ rowN s ∧ rowN s + 1 ≤ 61 := by unfold rowN; omega
    by_cases hv : (¬ w < 0 ∧ ¬ 2 < w) ∧ (¬ v < 0 ∧ ¬ 5 < v)
    · obtain ⟨hso, hv2⟩ := hv
      have hso2 : ¬ w < 0 ∧ w < 3 := ⟨hso.1, lt3.mpr hso.2⟩
      obtain ⟨n, hn, rfl⟩ := nat_N (h := 5) rfl (by decide) hv2
      rcases a14 s hrs with ⟨hmi, h78⟩ | hsh
      · exact pr_bad g (C_housesM (X := X) (L := L) hrs hso2 hn hmi (x := t)) (fun J L2 hs hsm => R_housesM hrs hso hn (by rw [hsm.hi (a := 78) (by decide) (by decide)]; exact h78))
      · obtain ⟨h78, z, hz40, hs3, hss, hzz, h80, hit⟩ := hsh
        have hnm : ¬ I (rowN s) 1 = -1 := by rw [hss]; rcases hs3 with e | e | e <;> rw [e] <;> decide
        by_cases hu : I 79 s = w
        · have hcu : I (rowN s) 1 = w := by rw [hss]; exact hu
          by_cases hn0 : n = 0
          · exact pr_bad g (C_housesZ (X := X) (L := L) hrs hso2 hn hnm hcu hn0 (x := t)) (fun J L2 hs hsm => R_housesZ hrs hso hn (by rw [hsm.hi (a := 78) (by decide) (by decide)]; exact h78) (by rw [hsm.hi (a := 79) (by decide) (by decide)]; exact hu) hn0)
          · by_cases hx0 : t < 0
            · exact pr_bad g (C_housesL (X := X) (L := L) hrs hso2 hn hnm hcu hx0 (by omega)) (fun J L2 hs hsm => R_housesL hrs hso hn (by rw [hsm.hi (a := 78) (by decide) (by decide)]; exact h78) (by rw [hsm.hi (a := 79) (by decide) (by decide)]; exact hu) hx0 (by omega))
            · obtain ⟨a, ha, rfl⟩ := nI_of hx0
              by_cases hfit : a + 2 * n ≤ z
              · refine ev_mono (C_housesA (X := X) (L := L) a4 hM5 hrs hso2 hnm hcu hzz hz40 hn hfit) (fun r S' I1 L1 R1 y => ?_)
                obtain ⟨rfl, rfl, hw, rfl, rfl⟩ := y
                refine ⟨rfl, rfl, q, _, rfl, rfl, fun L2 => ?_⟩
                have up : ∀ b k, 54 ≤ b → I1 b k = I b k := fun b k hb => congrFun (hw.1 b (by omega)) k
                have hst : RSt I1 m (I 2) (I 3) M (TT I) d (sems ri) := a2.see (see_66 (fun b k hb => up b k (by omega)))
                have e : hsS (fun q => I1 81 (40 * s + a + q)) M (TT I) n = hsS (fun q => I (rowN s + 1) (a + q)) M (fun j => I (5 + 2 + j)) n := hsS_cg n (fun j hj => by
                  show I1 81 (40 * s + a + j) = I (rowN s + 1) (a + j)
                  rw [up _ _ (by omega), show 40 * s + a + j = 40 * s + (a + j) by omega]
                  exact (hit _ (by omega)).symm)
                have hR := R_housesA (X := X) (L := L2) (q := q) hst hrs (by rw [up _ _ (by omega)]; exact h78) (by rw [up _ _ (by omega)]; exact h80) hz40 hso (by rw [up _ _ (by omega)]; exact hu) hn hfit
                rw [e] at hR
                refine ev_mono hR (fun r2 S2 I2 L3 R2 y => ?_)
                obtain ⟨rfl, rfl, rfl, hr, hf⟩ := y
                exact ⟨rfl, rfl, rfl, hs_fin g hw hr hf (hsS_lo _).1 (hsS_lo _).2⟩
              · refine ev_mono (C_housesO (X := X) (L := L) a4 hM5 hrs hso2 hnm hcu hzz hz40 hn (K := (z - a) / 2) (by omega) ha (by omega) (by omega)) (fun r S' I1 L1 R1 y => ?_)
                obtain ⟨rfl, rfl, hw, rfl, rfl⟩ := y
                refine ⟨rfl, rfl, q, _, rfl, rfl, fun L2 => ?_⟩
                have up : ∀ b k, 54 ≤ b → I1 b k = I b k := fun b k hb => congrFun (hw.1 b (by omega)) k
                have hst : RSt I1 m (I 2) (I 3) M (TT I) d (sems ri) := a2.see (see_66 (fun b k hb => up b k (by omega)))
                have e : hsS (fun q => I1 81 (40 * s + a + q)) M (TT I) ((z - a) / 2) = hsS (fun q => I (rowN s + 1) (a + q)) M (fun j => I (5 + 2 + j)) ((z - a) / 2) := hsS_cg ((z - a) / 2) (fun j hj => by
                  show I1 81 (40 * s + a + j) = I (rowN s + 1) (a + j)
                  rw [up _ _ (by omega), show 40 * s + a + j = 40 * s + (a + j) by omega]
                  exact (hit _ (by omega)).symm)
                have hR := R_housesO (X := X) (L := L2) (q := q) hst hrs (by rw [up _ _ (by omega)]; exact h78) (by rw [up _ _ (by omega)]; exact h80) hz40 hso (by rw [up _ _ (by omega)]; exact hu) hn (K := (z - a) / 2) (by omega) ha (by omega) (by omega)
                rw [e] at hR
                refine ev_mono hR (fun r2 S2 I2 L3 R2 y => ?_)
                obtain ⟨rfl, rfl, rfl, hr, hf⟩ := y
                exact ⟨rfl, rfl, rfl, hs_fin g hw hr hf (hsS_lo _).1 (hsS_lo _).2⟩
        · exact pr_bad g (C_housesU (X := X) (L := L) hrs hso2 hn hnm (fun h => hu (by rw [hss] at h; exact h)) (x := t)) (fun J L2 hs hsm => R_housesU hrs hso hn (by rw [hsm.hi (a := 78) (by decide) (by decide)]; exact h78) (by rw [hsm.hi (a := 79) (by decide) (by decide)]; exact hu))
    · exact pr_bad g (C_housesB (X := X) (L := L) hrs (w := w) (t := t) (v := v) (fun h => hv ⟨⟨h.1.1, lt3.mp h.1.2⟩, h.2.1, le_n.mp h.2.2⟩)) (fun J L2 hs hsm => R_housesB (fun h => hv ⟨h.2.1, h.2.2⟩))
  · exact pr_bad g (C_housesX (X := X) (L := L) hy (w := w) (t := t) (v := v)) (fun J L2 hs hsm => R_housesB (fun h => hny h.1))
