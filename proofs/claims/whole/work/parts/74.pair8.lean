/-! one call and the other: back -/
theorem bck_n {I : FI} {M : Nat} (hM : M ≤ 5) {a k : Nat} (h : ¬ ((a = 1 ∧ k = 3) ∨ a = 5 ∨ (7 ≤ a ∧ a ≤ 11))) : bckC I M a k = I a k := by
  unfold bckC
  simp only []
  rw [stT_out (by omega), setO_n (by omega), up2_nn _ _ (by omega)]
theorem bck_t {I : FI} {M k : Nat} (hk : k < M) : bckC I M (5 + 2 + k) = cp5 (I (12 + 2 + k)) (I (5 + 2 + k)) := by
  unfold bckC
  simp only []
  rw [stT_at hk, up2_n _ _ (by omega), up2_n _ _ (by omega)]
theorem bck_5 {I : FI} {M : Nat} : bckC I M 5 = upd (upd (upd (I 5) 1 (nI M)) 2 (I 12 2)) 3 (I 12 3) := by
  unfold bckC
  simp only []
  rw [stT_out (by omega), setO_o, up2_n _ _ (by omega), up2_n _ _ (by omega)]
theorem bck_13 {I : FI} {M : Nat} : bckC I M 1 3 = I 0 11 := by
  unfold bckC
  simp only []
  rw [stT_out (by omega), setO_n (by omega), up2_oo]
def bckR (I : FI) : FI := (up2 (up2 (up2 (up2 (flO (flO (flO I 70 (I 75) 10) 71 (I 76) 10) 73 (I 77) 20) 66 10 (I 66 34)) 66 13 (I 66 35)) 66 7 (I 66 36)) 66 4 (I 66 37))
theorem bcR_n {I : FI} {a k : Nat} (h : ¬ (a = 70 ∨ a = 71 ∨ a = 73 ∨ (a = 66 ∧ (k = 10 ∨ k = 13 ∨ k = 7 ∨ k = 4)))) : bckR I a k = I a k := by
  unfold bckR
  rw [up2_nn _ _ (by omega), up2_nn _ _ (by omega), up2_nn _ _ (by omega), up2_nn _ _ (by omega), flO_n (by omega), flO_n (by omega), flO_n (by omega)]
theorem bcR_70 {I : FI} {k : Nat} (h : k < 10) : bckR I 70 k = I 75 k := by
  unfold bckR
  rw [up2_n _ _ (by omega), up2_n _ _ (by omega), up2_n _ _ (by omega), up2_n _ _ (by omega), flO_n (by omega), flO_n (by omega), flO_at h]
theorem bcR_71 {I : FI} {k : Nat} (h : k < 10) : bckR I 71 k = I 76 k := by
  unfold bckR
  rw [up2_n _ _ (by omega), up2_n _ _ (by omega), up2_n _ _ (by omega), up2_n _ _ (by omega), flO_n (by omega), flO_at h]
theorem bcR_73 {I : FI} {k : Nat} (h : k < 20) : bckR I 73 k = I 77 k := by
  unfold bckR
  rw [up2_n _ _ (by omega), up2_n _ _ (by omega), up2_n _ _ (by omega), up2_n _ _ (by omega), flO_at h]
theorem bcR_66 {I : FI} : bckR I 66 10 = I 66 34 ∧ bckR I 66 13 = I 66 35 ∧ bckR I 66 7 = I 66 36 ∧ bckR I 66 4 = I 66 37 := by
  unfold bckR
  refine ⟨?_, ?_, ?_, ?_⟩
  · rw [up2_nn _ _ (by omega), up2_nn _ _ (by omega), up2_nn _ _ (by omega), up2_oo]
  · rw [up2_nn _ _ (by omega), up2_nn _ _ (by omega), up2_oo]
  · rw [up2_nn _ _ (by omega), up2_oo]
  · rw [up2_oo]
theorem R_backW {X : En} {L : FL} {q : Nat × Nat} {I : FI} (hk : ¬ I 66 35 = -1) : Ev X 3 mX8_back (0, 0) [.ref 66] S0 I L (R0 q) (PureR (some (.int (I 66 35))) S0 (bckR I) L (R0 q)) := R_back hk
theorem nI_nm {n : Nat} (h : n < 2147483648) : ¬ nI n = -1 := fun e => by
  have e2 := congrArg Int32.toInt e
  rw [nI_int h] at e2
  have e3 : (-1 : Int32).toInt = -1 := by decide
  omega
set_option maxRecDepth 100000 in
set_option maxHeartbeats 1000000 in
theorem P_back {X : En} : Pr X 9 3 mX7_back mX8_back [] := by
  intro q I L ⟨m, M, d, ri, tx, tn, sems, g⟩
  have hcs := g.cs
  have hM5 := g.2.1.M5
  obtain ⟨hday, hd⟩ := g.day
  obtain ⟨a1, a2, a3, a4, a5, a6, a7, a8, a9, a10, a11, a12, a13, a14, a15⟩ := id g
  rcases id a15 with ⟨h0, h35⟩ | ⟨g0, mk, Mk, dk, rk, g1, g2, g3, g4, g5, g6, g7, g8, g9, g10, g11, g12, g13, g14⟩
  · exact pr_bad g (C_backN (X := X) (L := L) h0) (fun J L2 hs hsm => R_backN (by rw [hsm.c (k := 35) (by omega)]; exact h35))
  · have htx6 : tx ≤ 6 := a12.2.2.1
    refine ev_mono (C_back (X := X) (L := L) g0 g5 (Nat.le_trans g7 hM5) g11 (by omega)) (fun r S' I1 L1 R1 z => ?_)
    obtain ⟨rfl, rfl, rfl, rfl, rfl⟩ := z
    refine ⟨rfl, rfl, (ruleN rk, q.2), _, rfl, rfl, fun L2 => ?_⟩
    have hMk5 : Mk ≤ 5 := Nat.le_trans g7 hM5
    have hm10 : m ≤ 10 := a2.1.2.1
    have ci : ∀ a k, ¬ ((a = 1 ∧ k = 3) ∨ a = 5 ∨ (7 ≤ a ∧ a ≤ 11)) → bckC I Mk a k = I a k := fun a k h => bck_n hMk5 h
    have h35 : bckC I Mk 66 35 = nI Mk := (ci _ _ (by omega)).trans g6
    refine ev_mono (R_backW (X := X) (L := L2) (q := (ruleN rk, q.2)) (I := bckC I Mk) (by rw [h35]; exact nI_nm (by omega))) (fun r2 S2 I2 L3 R2 z => ?_)
    obtain ⟨rfl, rfl, rfl, rfl, rfl⟩ := z
    have fz : ∀ a k, ¬ ((a = 1 ∧ k = 3) ∨ a = 5 ∨ (7 ≤ a ∧ a ≤ 11) ∨ a = 70 ∨ a = 71 ∨ a = 73 ∨ (a = 66 ∧ (k = 10 ∨ k = 13 ∨ k = 7 ∨ k = 4))) → (bckR (bckC I Mk)) a k = I a k := fun a k h => (bcR_n (by omega)).trans (ci a k (by omega))
    have w70 : ∀ k, k < 10 → (bckR (bckC I Mk)) 70 k = I 75 k := fun k hk => (bcR_70 hk).trans (ci _ _ (by omega))
    have w71 : ∀ k, k < 10 → (bckR (bckC I Mk)) 71 k = I 76 k := fun k hk => (bcR_71 hk).trans (ci _ _ (by omega))
    have w73 : ∀ k, k < 20 → (bckR (bckC I Mk)) 73 k = I 77 k := fun k hk => (bcR_73 hk).trans (ci _ _ (by omega))
    have w7 : ∀ j, j < Mk → (bckR (bckC I Mk)) (5 + 2 + j) = cp5 (I (12 + 2 + j)) (I (5 + 2 + j)) := fun j hj => (funext (fun k => bcR_n (by omega))).trans (bck_t hj)
    have w14 : ∀ j, j < Mk → (bckR (bckC I Mk)) (12 + 2 + j) = I (12 + 2 + j) := fun j hj => funext (fun k => fz _ _ (by omega))
    refine ⟨rfl, rfl, by rw [h35], mk, Mk, dk, rk, tx, tn, sems, ?_, ?_, ?_, ?_, ?_, ?_, ?_, ?_, ?_, ?_, ?_, ?_, ?_, ?_, ?_⟩
    · exact ((bcR_n (by omega)).trans bck_13).trans g2
    · obtain ⟨nt, t, k1, k2, k3, k4, k5⟩ := (a12.2.2.2 rk g13).2
      refine ⟨⟨?_, by omega, fun k hk => ⟨?_, ?_⟩⟩, fun k hk => ?_, ⟨?_, hMk5, fun j hj => ?_⟩, ?_, ⟨rk, nt, t, ?_, by omega, ?_, k2, fun k hk => ?_, k4, k5⟩, fun j hj => ?_⟩
      · exact (bcR_66.1.trans (ci _ _ (by omega))).trans g3
      · rw [w70 k (by omega), (g4 k hk).1, (a2.1.2.2 k (by omega)).1, fz 2 k (by omega)]
      · rw [w71 k (by omega), (g4 k hk).2, (a2.1.2.2 k (by omega)).2, fz 3 k (by omega)]
      · rw [fz 3 k (by omega)]; exact a2.2.1 k (by omega)
      · exact bcR_66.2.1.trans h35
      · obtain ⟨p0, p1, p2, p3, p4, p5⟩ := g14 j hj
        show _ = (bckR (bckC I Mk)) (5 + 2 + j) 0 ∧ _ = (bckR (bckC I Mk)) (5 + 2 + j) 1 ∧ _ = (bckR (bckC I Mk)) (5 + 2 + j) 2 ∧ _ = (bckR (bckC I Mk)) (5 + 2 + j) 3 ∧ _ = (bckR (bckC I Mk)) (5 + 2 + j) 4
        rw [w7 j hj, fz 72 j (by omega), w73 _ (by omega), w73 _ (by omega), w73 _ (by omega), w73 _ (by omega), a2.c0 (show j < M by omega)]
        exact ⟨p1.symm, p2, p3, p4, p5⟩
      · exact (bcR_66.2.2.1.trans (ci _ _ (by omega))).trans g9
      · exact (bcR_66.2.2.2.trans (ci _ _ (by omega))).trans g12
      · rw [fz 68 _ (by omega)]; exact k1
      · rw [fz 67 _ (by omega)]; exact k3 k hk
      · show okT ((bckR (bckC I Mk)) (5 + 2 + j))
        rw [w7 j hj]
        exact (g14 j hj).1.t5 cp5_t5
    · intro k hk
      rw [fz 2 k (by omega)]
      exact a3 k (by omega)
    · rw [bcR_n (by omega), bck_5]; rfl
    · rw [bcR_n (by omega), bck_5]; exact g8
    · exact g10
    · rw [bcR_n (by omega), bck_5]; exact g11
    · exact (bcR_66.2.2.2.trans (ci _ _ (by omega))).trans g12
    · exact g13
    · rfl
    · exact a11
    · exact a12.d (fun a k h => fz _ _ (by unfold DTx at h; omega))
    · exact a13.d (fun a k h => fz _ _ (by unfold DTp at h; omega))
    · exact fun s hs => (a14 s hs).d (fun a k h => fz _ _ (by unfold DSh at h; omega)) hs
    · refine Or.inr ⟨?_, mk, Mk, dk, rk, Nat.le_refl _, ?_, ?_, fun k hk => ⟨?_, ?_⟩, ?_, ?_, Nat.le_refl _, ?_, ?_, g10, ?_, ?_, g13, fun j hj => ?_⟩
      · rw [fz _ _ (by omega)]; exact g0
      · rw [fz _ _ (by omega)]; exact g2
      · rw [fz _ _ (by omega)]; exact g3
      · rw [w70 k (by omega), fz _ _ (by omega)]
      · rw [w71 k (by omega), fz _ _ (by omega)]
      · rw [fz _ _ (by omega)]; exact g5
      · rw [fz _ _ (by omega)]; exact g6
      · rw [fz _ _ (by omega)]; exact g8
      · rw [fz _ _ (by omega)]; exact g9
      · rw [fz _ _ (by omega)]; exact g11
      · rw [fz _ _ (by omega)]; exact g12
      · obtain ⟨p0, p1, p2, p3, p4, p5⟩ := g14 j hj
        rw [w14 j hj, w7 j hj, fz 77 _ (by omega), fz 77 _ (by omega), fz 77 _ (by omega), fz 77 _ (by omega)]
        exact ⟨p0, rfl, p2, p3, p4, p5⟩
