/-! one call and the other: image, back -/
theorem okT.t5 {f g : Nat → Int32} (h : okT f) (e : T5 g f) : okT g := by
  obtain ⟨k0, k1, k2, k3, k4⟩ := h
  exact ⟨by rw [e 0 (by omega)]; exact k0, by rw [e 1 (by omega)]; exact k1, by rw [e 2 (by omega)]; exact k2, by rw [e 3 (by omega)]; exact k3, by rw [e 4 (by omega)]; exact k4⟩
theorem cp5_t5 {f g : Nat → Int32} : T5 (cp5 f g) f := fun j h => if_pos h
theorem img_n {I : FI} {M : Nat} (hM : M ≤ 5) {a k : Nat} (h : ¬ ((a = 0 ∧ (k = 11 ∨ k = 12)) ∨ a = 12 ∨ (14 ≤ a ∧ a ≤ 18) ∨ (a = 66 ∧ 34 ≤ k ∧ k ≤ 37) ∨ (75 ≤ a ∧ a ≤ 77))) : imgC I M a k = I a k := by
  unfold imgC
  simp only []
  rw [up2_nn _ _ (by omega), stT_out (by omega), setO_n (by omega), up2_nn _ _ (by omega)]
theorem img_t {I : FI} {M k : Nat} (hk : k < M) : imgC I M (12 + 2 + k) = cp5 (I (5 + 2 + k)) (I (12 + 2 + k)) := by
  unfold imgC
  simp only []
  rw [up2_n _ _ (by omega), stT_at hk, up2_n _ _ (by omega), up2_n _ _ (by omega)]
theorem img_12 {I : FI} {M : Nat} : imgC I M 12 = upd (upd (upd (I 12) 1 (nI M)) 2 (I 5 2)) 3 (I 5 3) := by
  unfold imgC
  simp only []
  rw [up2_n _ _ (by omega), stT_out (by omega), setO_o, up2_n _ _ (by omega), up2_n _ _ (by omega)]
theorem img_011 {I : FI} {M : Nat} : imgC I M 0 11 = I 1 3 := by
  unfold imgC
  simp only []
  rw [up2_nn _ _ (by omega), stT_out (by omega), setO_n (by omega), up2_oo]
theorem img_012 {I : FI} {M : Nat} : imgC I M 0 12 = 1 := by
  unfold imgC
  simp only []
  rw [up2_oo]
def imgR (I : FI) : FI := (up2 (up2 (up2 (up2 (flO (flO (flO I 75 (I 70) 10) 76 (I 71) 10) 77 (I 73) 20) 66 34 (I 66 10)) 66 35 (I 66 13)) 66 36 (I 66 7)) 66 37 (I 66 4))
theorem imR_n {I : FI} {a k : Nat} (h : ¬ ((a = 66 ∧ 34 ≤ k ∧ k ≤ 37) ∨ (75 ≤ a ∧ a ≤ 77))) : imgR I a k = I a k := by
  unfold imgR
  rw [up2_nn _ _ (by omega), up2_nn _ _ (by omega), up2_nn _ _ (by omega), up2_nn _ _ (by omega), flO_n (by omega), flO_n (by omega), flO_n (by omega)]
theorem imR_75 {I : FI} {k : Nat} (h : k < 10) : imgR I 75 k = I 70 k := by
  unfold imgR
  rw [up2_n _ _ (by omega), up2_n _ _ (by omega), up2_n _ _ (by omega), up2_n _ _ (by omega), flO_n (by omega), flO_n (by omega), flO_at h]
theorem imR_76 {I : FI} {k : Nat} (h : k < 10) : imgR I 76 k = I 71 k := by
  unfold imgR
  rw [up2_n _ _ (by omega), up2_n _ _ (by omega), up2_n _ _ (by omega), up2_n _ _ (by omega), flO_n (by omega), flO_at h]
theorem imR_77 {I : FI} {k : Nat} (h : k < 20) : imgR I 77 k = I 73 k := by
  unfold imgR
  rw [up2_n _ _ (by omega), up2_n _ _ (by omega), up2_n _ _ (by omega), up2_n _ _ (by omega), flO_at h]
theorem imR_66 {I : FI} : imgR I 66 34 = I 66 10 ∧ imgR I 66 35 = I 66 13 ∧ imgR I 66 36 = I 66 7 ∧ imgR I 66 37 = I 66 4 := by
  unfold imgR
  refine ⟨?_, ?_, ?_, ?_⟩
  · rw [up2_nn _ _ (by omega), up2_nn _ _ (by omega), up2_nn _ _ (by omega), up2_oo]
  · rw [up2_nn _ _ (by omega), up2_nn _ _ (by omega), up2_oo]
  · rw [up2_nn _ _ (by omega), up2_oo]
  · rw [up2_oo]
theorem R_imageW {X : En} {L : FL} {q : Nat × Nat} {I : FI} : Ev X 3 mX8_image (0, 0) [.ref 66] S0 I L (R0 q) (PureR (some (.int (I 66 13))) S0 (imgR I) L (R0 q)) := R_image
set_option maxRecDepth 100000 in
set_option maxHeartbeats 1000000 in
theorem P_image {X : En} : Pr X 9 3 mX7_image mX8_image [] := by
  intro q I L ⟨m, M, d, ri, tx, tn, sems, g⟩
  have hcs := g.cs
  have hM5 := g.2.1.M5
  obtain ⟨hday, hd⟩ := g.day
  obtain ⟨a1, a2, a3, a4, a5, a6, a7, a8, a9, a10, a11, a12, a13, a14, a15⟩ := id g
  refine ev_mono (C_image (X := X) (L := L) hcs) (fun r S' I1 L1 R1 z => ?_)
  obtain ⟨rfl, rfl, rfl, rfl, rfl⟩ := z
  refine ⟨rfl, rfl, q, _, rfl, rfl, fun L2 => ?_⟩
  refine ev_mono (R_imageW (X := X) (L := L2) (q := q) (I := imgC I M)) (fun r2 S2 I2 L3 R2 z => ?_)
  obtain ⟨rfl, rfl, rfl, rfl, rfl⟩ := z
  have hm10 : m ≤ 10 := a2.1.2.1
  have ci : ∀ a k, ¬ ((a = 0 ∧ (k = 11 ∨ k = 12)) ∨ a = 12 ∨ (14 ≤ a ∧ a ≤ 18) ∨ (a = 66 ∧ 34 ≤ k ∧ k ≤ 37) ∨ (75 ≤ a ∧ a ≤ 77)) → imgC I M a k = I a k := fun a k h => img_n hM5 h
  have fz : ∀ a k, ¬ ((a = 0 ∧ (k = 11 ∨ k = 12)) ∨ a = 12 ∨ (14 ≤ a ∧ a ≤ 18) ∨ (a = 66 ∧ 34 ≤ k ∧ k ≤ 37) ∨ (75 ≤ a ∧ a ≤ 77)) → (imgR (imgC I M)) a k = I a k := fun a k h => (imR_n (by omega)).trans (ci a k h)
  have h13 : imgC I M 66 13 = nI M := (ci _ _ (by omega)).trans a2.mn
  refine ⟨rfl, rfl, by rw [h13], m, M, d, ri, tx, tn, sems, ?_, ?_, ?_, ?_, ?_, ?_, ?_, ?_, ?_, ?_, ?_, ?_, ?_, ?_, ?_⟩
  · rw [fz _ _ (by omega)]
    exact a1
  · have e2 : (imgR (imgC I M)) 2 = I 2 := funext (fun k => fz _ _ (by omega))
    have e3 : (imgR (imgC I M)) 3 = I 3 := funext (fun k => fz _ _ (by omega))
    rw [e2, e3]
    refine (a2.see ⟨fz _ _ (by omega), fz _ _ (by omega), fz _ _ (by omega), fz _ _ (by omega), fun k => ⟨fz _ _ (by omega), fz _ _ (by omega), fz _ _ (by omega), fz _ _ (by omega), fz _ _ (by omega), fz _ _ (by omega)⟩⟩).congr (fun j hj => funext (fun k => fz _ _ (by omega)))
  · intro k hk
    rw [fz 2 k (by omega)]
    exact a3 k hk
  · rw [fz _ _ (by omega)]
    exact a4
  · rw [fz _ _ (by omega)]
    exact a5
  · exact a6
  · rw [fz _ _ (by omega)]
    exact a7
  · rw [fz _ _ (by omega)]
    exact a8
  · exact a9
  · exact a10
  · exact a11
  · exact a12.d (fun a k h => fz _ _ (by unfold DTx at h; omega))
  · exact a13.d (fun a k h => fz _ _ (by unfold DTp at h; omega))
  · exact fun s hs => (a14 s hs).d (fun a k h => fz _ _ (by unfold DSh at h; omega)) hs
  · refine Or.inr ⟨?_, m, M, d, ri, Nat.le_refl _, ?_, ?_, fun k hk => ⟨?_, ?_⟩, ?_, ?_, Nat.le_refl _, ?_, ?_, a6, ?_, ?_, a9, fun j hj => ?_⟩
    · exact (imR_n (by omega)).trans img_012
    · exact ((imR_n (by omega)).trans img_011).trans a1
    · exact (imR_66.1.trans (ci _ _ (by omega))).trans a2.1.1
    · exact ((imR_75 (by omega)).trans (ci _ _ (by omega))).trans (fz _ _ (by omega)).symm
    · exact ((imR_76 (by omega)).trans (ci _ _ (by omega))).trans (fz _ _ (by omega)).symm
    · rw [imR_n (by omega), img_12]; rfl
    · exact imR_66.2.1.trans h13
    · rw [imR_n (by omega), img_12]; exact a5
    · exact (imR_66.2.2.1.trans (ci _ _ (by omega))).trans a2.day
    · rw [imR_n (by omega), img_12]; exact a7
    · exact (imR_66.2.2.2.trans (ci _ _ (by omega))).trans a8
    · have eW : (imgR (imgC I M)) (12 + 2 + j) = cp5 (I (5 + 2 + j)) (I (12 + 2 + j)) := (funext (fun k => imR_n (by omega))).trans (img_t hj)
      have e7 : (imgR (imgC I M)) (5 + 2 + j) = I (5 + 2 + j) := funext (fun k => fz _ _ (by omega))
      rw [eW, e7]
      refine ⟨(a2.ok hj).t5 cp5_t5, cp5_t5 0 (by omega), ?_, ?_, ?_, ?_⟩
      · exact (((imR_77 (by omega)).trans (ci _ _ (by omega))).trans (a2.c1 hj)).trans (cp5_t5 1 (by omega)).symm
      · exact (((imR_77 (by omega)).trans (ci _ _ (by omega))).trans (a2.c2 hj)).trans (cp5_t5 2 (by omega)).symm
      · exact (((imR_77 (by omega)).trans (ci _ _ (by omega))).trans (a2.c3 hj)).trans (cp5_t5 3 (by omega)).symm
      · exact (((imR_77 (by omega)).trans (ci _ _ (by omega))).trans (a2.c4 hj)).trans (cp5_t5 4 (by omega)).symm
