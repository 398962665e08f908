/-! what holds at the start -/
theorem WM_n {I : FI} {a : Nat} (h : a < 66 ∨ 68 < a) : WM I a = I a := by
  unfold WM
  rw [up2_n _ _ (by omega), up2_n _ _ (by omega), up2_n _ _ (by omega), up2_n _ _ (by omega), up2_n _ _ (by omega), up2_n _ _ (by omega), up2_n _ _ (by omega), up2_n _ _ (by omega), up2_n _ _ (by omega), up2_n _ _ (by omega), up2_n _ _ (by omega), up2_n _ _ (by omega), up2_n _ _ (by omega), up2_n _ _ (by omega), up2_n _ _ (by omega), up2_n _ _ (by omega), up2_n _ _ (by omega), up2_n _ _ (by omega), up2_n _ _ (by omega), up2_n _ _ (by omega), up2_n _ _ (by omega), up2_n _ _ (by omega), up2_n _ _ (by omega), up2_n _ _ (by omega), up2_n _ _ (by omega), up2_n _ _ (by omega), up2_n _ _ (by omega), up2_n _ _ (by omega), up2_n _ _ (by omega), up2_n _ _ (by omega), up2_n _ _ (by omega), up2_n _ _ (by omega), up2_n _ _ (by omega), up2_n _ _ (by omega), up2_n _ _ (by omega), up2_n _ _ (by omega), up2_n _ _ (by omega), up2_n _ _ (by omega), up2_n _ _ (by omega), up2_n _ _ (by omega), up2_n _ _ (by omega), up2_n _ _ (by omega), up2_n _ _ (by omega), up2_n _ _ (by omega), up2_n _ _ (by omega), up2_n _ _ (by omega), up2_n _ _ (by omega), up2_n _ _ (by omega), up2_n _ _ (by omega), up2_n _ _ (by omega), up2_n _ _ (by omega)]
theorem WM_66 {I : FI} {k : Nat} (h : k ≠ 3) (h2 : k ≠ 35) : WM I 66 k = I 66 k := by
  unfold WM
  rw [up2_nn _ _ (by omega), up2_n _ _ (by omega), up2_n _ _ (by omega), up2_n _ _ (by omega), up2_n _ _ (by omega), up2_n _ _ (by omega), up2_n _ _ (by omega), up2_n _ _ (by omega), up2_n _ _ (by omega), up2_n _ _ (by omega), up2_n _ _ (by omega), up2_n _ _ (by omega), up2_n _ _ (by omega), up2_n _ _ (by omega), up2_n _ _ (by omega), up2_n _ _ (by omega), up2_n _ _ (by omega), up2_n _ _ (by omega), up2_n _ _ (by omega), up2_n _ _ (by omega), up2_n _ _ (by omega), up2_n _ _ (by omega), up2_n _ _ (by omega), up2_n _ _ (by omega), up2_n _ _ (by omega), up2_n _ _ (by omega), up2_n _ _ (by omega), up2_n _ _ (by omega), up2_n _ _ (by omega), up2_n _ _ (by omega), up2_n _ _ (by omega), up2_n _ _ (by omega), up2_n _ _ (by omega), up2_n _ _ (by omega), up2_n _ _ (by omega), up2_n _ _ (by omega), up2_n _ _ (by omega), up2_n _ _ (by omega), up2_n _ _ (by omega), up2_n _ _ (by omega), up2_n _ _ (by omega), up2_n _ _ (by omega), up2_n _ _ (by omega), up2_n _ _ (by omega), up2_n _ _ (by omega), up2_n _ _ (by omega), up2_n _ _ (by omega), up2_n _ _ (by omega), up2_n _ _ (by omega), up2_n _ _ (by omega), up2_nn _ _ (by omega)]
theorem WM_663 {I : FI} : WM I 66 3 = 1 := by
  unfold WM
  rw [up2_oo]
theorem WM_6635 {I : FI} : WM I 66 35 = -1 := by
  unfold WM
  rw [up2_nn _ _ (by omega), up2_n _ _ (by omega), up2_n _ _ (by omega), up2_n _ _ (by omega), up2_n _ _ (by omega), up2_n _ _ (by omega), up2_n _ _ (by omega), up2_n _ _ (by omega), up2_n _ _ (by omega), up2_n _ _ (by omega), up2_n _ _ (by omega), up2_n _ _ (by omega), up2_n _ _ (by omega), up2_n _ _ (by omega), up2_n _ _ (by omega), up2_n _ _ (by omega), up2_n _ _ (by omega), up2_n _ _ (by omega), up2_n _ _ (by omega), up2_n _ _ (by omega), up2_n _ _ (by omega), up2_n _ _ (by omega), up2_n _ _ (by omega), up2_n _ _ (by omega), up2_n _ _ (by omega), up2_n _ _ (by omega), up2_n _ _ (by omega), up2_n _ _ (by omega), up2_n _ _ (by omega), up2_n _ _ (by omega), up2_n _ _ (by omega), up2_n _ _ (by omega), up2_n _ _ (by omega), up2_n _ _ (by omega), up2_n _ _ (by omega), up2_n _ _ (by omega), up2_n _ _ (by omega), up2_n _ _ (by omega), up2_n _ _ (by omega), up2_n _ _ (by omega), up2_n _ _ (by omega), up2_n _ _ (by omega), up2_n _ _ (by omega), up2_n _ _ (by omega), up2_n _ _ (by omega), up2_n _ _ (by omega), up2_n _ _ (by omega), up2_n _ _ (by omega), up2_n _ _ (by omega), up2_n _ _ (by omega), up2_oo]
theorem WM_68 {I : FI} : WM I 68 0 = 48 := by
  unfold WM
  rw [up2_n _ _ (by omega), up2_oo]
theorem IB_hi {a : Nat} (h : 63 ≤ a) : IB a = fun _ => 0 := by
  unfold IB
  rw [up2_n _ _ (by omega), up2_n _ _ (by omega), up2_n _ _ (by omega), up2_n _ _ (by omega), up2_n _ _ (by omega), up2_n _ _ (by omega), up2_n _ _ (by omega), up2_n _ _ (by omega), up2_n _ _ (by omega), up2_n _ _ (by omega), up2_n _ _ (by omega), up2_n _ _ (by omega), up2_n _ _ (by omega), up2_n _ _ (by omega), up2_n _ _ (by omega), up2_n _ _ (by omega), up2_n _ _ (by omega), up2_n _ _ (by omega), up2_n _ _ (by omega), up2_n _ _ (by omega), up2_n _ _ (by omega), up2_n _ _ (by omega), up2_n _ _ (by omega), up2_n _ _ (by omega), up2_n _ _ (by omega), up2_n _ _ (by omega), up2_n _ _ (by omega), up2_n _ _ (by omega), up2_n _ _ (by omega)]
  rfl
theorem inv_start {I : FI} (h : IniC I) : Inv (30, 30) (WM I) := by
  obtain ⟨h1, h2, c1, c2, c3, f1, f2, f3, h3, h4⟩ := h
  have lo : ∀ a k, a < 66 → a ≠ 62 → a ≠ 63 → a ≠ 30 → a ≠ 31 → a ≠ 32 → WM I a k = IB a k := fun a k g0 g1 g2 g3 g4 g5 => congrFun ((WM_n (Or.inl g0)).trans (h1 a g1 g2 g3 g4 g5)) k
  have hi : ∀ a k, 68 < a → WM I a k = 0 := fun a k g => (congrFun ((WM_n (Or.inr g)).trans (h1 a (by omega) (by omega) (by omega) (by omega) (by omega))) k).trans (congrFun (IB_hi (by omega)) k)
  have h66 : ∀ k, k ≠ 3 → k ≠ 35 → WM I 66 k = 0 := fun k g1 g2 => (WM_66 g1 g2).trans ((congrFun (h1 66 (by omega) (by omega) (by omega) (by omega) (by omega)) k).trans (congrFun (IB_hi (by omega)) k))
  have hrt : RT1 (WM I) 0 (sem3 f1 f2 f3) := by
    cases hr : readP (fun k => ftM.getD k 0) 48 0 with
    | inr f =>
      have e := ftM_cd
      rw [hr] at e
      cases e
    | inl p =>
      obtain ⟨d1, d2, d3, g1, g2, g3⟩ := p
      refine ⟨48, fun k => ftM.getD k 0, WM_68, by omega, fun k hk => ?_, ftM_pos, 0, d1, d2, d3, g1, g2, g3, hr, sem_eq h3 hr (ft_cd.trans ftM_cd.symm)⟩
      rw [show 160 * 0 + k = k by omega]
      exact WM_t I k hk
  refine ⟨0, 0, 0, 0, 1, 0, fun _ => sem3 f1 f2 f3, ?_, ?_, ?_, ?_, ?_, ?_, ?_, ?_, ?_, ?_, ?_, ?_, ?_, ?_, ?_⟩
  · rw [lo _ _ (by omega) (by omega) (by omega) (by omega) (by omega) (by omega)]; rfl
  · obtain ⟨n, t, k1, k2, k3, k4, k5⟩ := hrt
    exact ⟨⟨h66 10 (by omega) (by omega), by omega, fun k hk => absurd hk (Nat.not_lt_zero k)⟩, fun k hk => absurd hk (Nat.not_lt_zero k), ⟨h66 13 (by omega) (by omega), by omega, fun k hk => absurd hk (Nat.not_lt_zero k)⟩, h66 7 (by omega) (by omega), ⟨0, n, t, h66 4 (by omega) (by omega), by omega, k1, k2, k3, k4, k5⟩, fun k hk => absurd hk (Nat.not_lt_zero k)⟩
  · exact fun k hk => absurd hk (Nat.not_lt_zero k)
  · rw [lo _ _ (by omega) (by omega) (by omega) (by omega) (by omega) (by omega)]; rfl
  · rw [lo _ _ (by omega) (by omega) (by omega) (by omega) (by omega) (by omega)]; rfl
  · omega
  · rw [lo _ _ (by omega) (by omega) (by omega) (by omega) (by omega) (by omega)]; rfl
  · exact h66 4 (by omega) (by omega)
  · omega
  · rfl
  · exact ⟨0, by omega, rfl⟩
  · refine ⟨?_, WM_663, by omega, fun i hi => ?_⟩
    · rw [lo _ _ (by omega) (by omega) (by omega) (by omega) (by omega) (by omega)]; rfl
    · have e : i = 0 := by omega
      subst e
      refine ⟨?_, hrt⟩
      exact okRule.o0 h4 (WM_n (Or.inl (by decide))) (WM_n (Or.inl (by decide)))
  · exact ⟨(congrFun (WM_n (Or.inl (by omega))) 1).trans h2, h66 6 (by omega) (by omega), by omega, fun k hk => absurd hk (Nat.not_lt_zero k)⟩
  · intro s hs
    refine Or.inl ⟨?_, hi 78 s (by omega)⟩
    have hb : 54 ≤ rowN s ∧ rowN s + 1 ≤ 61 := by unfold rowN; omega
    rw [lo _ _ (by omega) (by omega) (by omega) (by omega) (by omega) (by omega)]
    have e : ∀ s, s < 4 → IB (rowN s) 1 = -1 := by decide +kernel
    exact e s hs
  · refine Or.inl ⟨?_, WM_6635⟩
    rw [lo _ _ (by omega) (by omega) (by omega) (by omega) (by omega) (by omega)]; rfl
