/-! one call and the other: sheet, cell, copy, film -/
theorem row_step {q : Nat × Nat} {I J : FI} {m M d ri tx tn : Nat} {sems : Nat → Nat → Sem} (g : Inv0 q I m M d ri tx tn sems) {s : Nat} (hs : s < 4) (hz : ∀ a k, Rl a k → a ≠ rowN s → a ≠ rowN s + 1 → ¬ (a = 78 ∧ k = s) → ¬ (a = 79 ∧ k = s) → ¬ (a = 80 ∧ k = s) → ¬ (a = 81 ∧ 40 * s ≤ k ∧ k < 40 * s + 40) → J a k = I a k) (hsh : ShR J s) : Inv0 q J m M d ri tx tn sems := by
  obtain ⟨a1, a2, a3, a4, a5, a6, a7, a8, a9, a10, a11, a12, a13, a14, a15⟩ := g
  have hb : 54 ≤ rowN s ∧ rowN s + 1 ≤ 61 := by unfold rowN; omega
  have hM5 := a2.M5
  have lo : ∀ a k, W1 a = false → a ≠ 4 → (a < 54 ∨ a = 62 ∨ a = 63) → J a k = I a k := fun a k h1 h2 h3 => hz a k ⟨h1, h2, by omega, by omega⟩ (by omega) (by omega) (by omega) (by omega) (by omega) (by omega)
  have hi : ∀ a k, 67 ≤ a → a < 78 → a ≠ 74 → J a k = I a k := fun a k h1 h2 h3 => hz a k ⟨w1_hi a (by omega) (by omega), by omega, h3, by omega⟩ (by omega) (by omega) (by omega) (by omega) (by omega) (by omega)
  have h66 : ∀ k, ¬ ((14 ≤ k ∧ k ≤ 28) ∨ k = 30) → J 66 k = I 66 k := fun k h => hz 66 k ⟨by decide, by decide, by decide, fun e => h e.2⟩ (by omega) (by omega) (by omega) (by omega) (by omega) (by omega)
  have e2 : J 2 = I 2 := funext (fun k => lo 2 k (by decide) (by decide) (by omega))
  have e3 : J 3 = I 3 := funext (fun k => lo 3 k (by decide) (by decide) (by omega))
  have sees : Sees J I := ⟨h66 4 (by omega), h66 7 (by omega), h66 10 (by omega), h66 13 (by omega), fun k => ⟨hi 67 k (by omega) (by omega) (by omega), hi 68 k (by omega) (by omega) (by omega), hi 70 k (by omega) (by omega) (by omega), hi 71 k (by omega) (by omega) (by omega), hi 72 k (by omega) (by omega) (by omega), hi 73 k (by omega) (by omega) (by omega)⟩⟩
  refine ⟨(lo 1 3 (by decide) (by decide) (by omega)).trans a1, ?_, by rw [e2]; exact a3, (lo 5 1 (by decide) (by decide) (by omega)).trans a4, (lo 5 2 (by decide) (by decide) (by omega)).trans a5, a6, (lo 5 3 (by decide) (by decide) (by omega)).trans a7, (h66 4 (by omega)).trans a8, a9, a10, a11, a12.d (fun a k h => ?_), a13.d (fun a k h => ?_), fun s2 hs2 => ?_, a15.d (fun a k h => ?_) (fun k hk => ⟨hi 70 k (by omega) (by omega) (by omega), hi 71 k (by omega) (by omega) (by omega)⟩) (fun j hj => lo _ _ (wTT j (by omega)).1 (by omega) (by omega)) hM5 (Nat.le_refl _) (Nat.le_refl _) (Nat.le_refl _)⟩
  · rw [e2, e3]
    exact (a2.see sees).congr (fun j hj => funext (fun k => lo _ _ (wTT j (by omega)).1 (by omega) (by omega)))
  · rcases h with ⟨e, e4⟩ | ⟨e, e4⟩ | e | e | ⟨h1, h2, h3⟩
    · subst e; exact lo 0 k (by decide) (by decide) (by omega)
    · subst e; exact h66 k (by omega)
    · subst e; exact hi 67 k (by omega) (by omega) (by omega)
    · subst e; exact hi 68 k (by omega) (by omega) (by omega)
    · exact lo a k h3 (by omega) (by omega)
  · rcases h with ⟨e, e4⟩ | e | ⟨e, e4⟩ | e
    · subst e; exact lo 62 k (by decide) (by decide) (by omega)
    · subst e; exact lo 63 k (by decide) (by decide) (by omega)
    · subst e; exact h66 k (by omega)
    · subst e; exact hi 69 k (by omega) (by omega) (by omega)
  · by_cases e : s2 = s
    · subst e; exact hsh
    · have hb2 : 54 ≤ rowN s2 ∧ rowN s2 + 1 ≤ 61 := by unfold rowN; omega
      have hne : rowN s2 ≠ rowN s ∧ rowN s2 ≠ rowN s + 1 ∧ rowN s2 + 1 ≠ rowN s := by unfold rowN; omega
      have r1 : J (rowN s2) = I (rowN s2) := funext (fun k => hz _ k ⟨(row_W s2 hs2).1, by omega, by omega, by omega⟩ hne.1 hne.2.1 (by omega) (by omega) (by omega) (by omega))
      have r2 : J (rowN s2 + 1) = I (rowN s2 + 1) := funext (fun k => hz _ k ⟨(row_W s2 hs2).2.1, by omega, by omega, by omega⟩ hne.2.2 (by omega) (by omega) (by omega) (by omega) (by omega))
      have c : ∀ a, 78 ≤ a → a ≤ 80 → J a s2 = I a s2 := fun a h1 h2 => hz a s2 ⟨w1_hi a (by omega) (by omega), by omega, by omega, by omega⟩ (by omega) (by omega) (by omega) (by omega) (by omega) (by omega)
      have c81 : ∀ i, i < 40 → J 81 (40 * s2 + i) = I 81 (40 * s2 + i) := fun i hi2 => hz 81 _ ⟨by decide, by decide, by decide, by omega⟩ (by omega) (by omega) (by omega) (by omega) (by omega) (by omega)
      unfold ShR
      rw [r1, r2, c 78 (by omega) (by omega), c 79 (by omega) (by omega), c 80 (by omega) (by omega)]
      rcases a14 s2 hs2 with k1 | ⟨k1, z, k2, k3, k4, k5, k6, k7⟩
      · exact Or.inl k1
      · exact Or.inr ⟨k1, z, k2, k3, k4, k5, k6, fun i hi2 => by rw [c81 i (by omega)]; exact k7 i hi2⟩
  · rcases h with ⟨e, e4⟩ | e | ⟨h1, h2⟩ | ⟨e, h1, h2⟩ | ⟨h1, h2⟩
    · subst e; exact lo 0 k (by decide) (by decide) (by omega)
    · subst e; exact lo 12 k (by decide) (by decide) (by omega)
    · exact lo a k (dim_w (k := k) (Or.inr (Or.inr (Or.inl ⟨h1, h2⟩)))) (by omega) (by omega)
    · subst e; exact h66 k (by omega)
    · exact hi a k (by omega) (by omega) (by omega)
theorem lt_m1 {w : Int32} (h : -1 < w) : ¬ w < 0 := fun h2 => by
  rw [Int32.lt_iff_toInt_lt] at h h2
  have e1 : (-1 : Int32).toInt = -1 := by decide
  have e2 : (0 : Int32).toInt = 0 := by decide
  omega
theorem rg_m1 {w : Int32} (h : ¬ w < -1 ∧ ¬ 2 < w) (h1 : ¬ w = -1) : ¬ w < 0 ∧ ¬ 2 < w := by
  refine ⟨?_, h.2⟩
  rcases Int32.lt_or_eq_of_le (Int32.not_lt.mp h.1) with h8 | h8
  · exact lt_m1 h8
  · exact absurd h8.symm h1
set_option maxRecDepth 100000 in
set_option maxHeartbeats 1000000 in
theorem P_sheet {X : En} (x w n : Int32) : Pr X 9 3 mX7_sheet mX8_sheet [.int x, .int w, .int n] := by
  intro q I L ⟨m, M, d, ri, tx, tn, sems, g⟩
  have hcs := g.cs
  have hM5 := g.2.1.M5
  obtain ⟨hday, hd⟩ := g.day
  obtain ⟨a1, a2, a3, a4, a5, a6, a7, a8, a9, a10, a11, a12, a13, a14, a15⟩ := id g
  rcases nR (x := x) with ⟨s, hrs, rfl, hy3⟩ | ⟨hy, hny⟩
  · by_cases hm1 : w = -1
    · subst hm1
      have hb : 54 ≤ rowN s ∧ rowN s + 1 ≤ 61 := by unfold rowN; omega
      refine ev_mono (C_sheetM (X := X) (L := L) hrs (n := n)) (fun r S' I1 L1 R1 z => ?_)
      obtain ⟨rfl, rfl, rfl, rfl, rfl⟩ := z
      refine ⟨rfl, rfl, q, _, rfl, rfl, fun L2 => ?_⟩
      refine ev_mono (R_sheetM (X := X) (L := L2) (q := q) (I := (setO (setO I (rowN s) (upd (upd (I (rowN s)) 1 (-1)) 2 0)) (rowN s + 1) (zr40 (I (rowN s + 1)) 40))) hrs n) (fun r2 S2 I2 L3 R2 z => ?_)
      obtain ⟨rfl, rfl, rfl, rfl, rfl⟩ := z
      refine ⟨rfl, rfl, rfl, m, M, d, ri, tx, tn, sems, row_step g hrs (fun a k h1 h2 h3 h4 h5 h6 h7 => ?_) ?_⟩
      · rw [up2_nn _ _ h6, up2_nn _ _ h5, up2_nn _ _ h4, setO_n h3, setO_n h2]
      · refine Or.inl ⟨?_, ?_⟩
        · rw [up2_n _ _ (by omega), up2_n _ _ (by omega), up2_n _ _ (by omega), setO_n (by omega), setO_o]; rfl
        · rw [up2_n _ _ (by omega), up2_n _ _ (by omega), up2_oo]
    · by_cases hw : ¬ w < 0 ∧ ¬ 2 < w
      · obtain ⟨k, hk, rfl⟩ := nat_N (h := 2) rfl (by decide) hw
        have hk3 : k = 0 ∨ k = 1 ∨ k = 2 := by omega
        rcases hk3 with e | e | e <;> subst e
        · by_cases hn : ¬ n < 0 ∧ ¬ 40 < n
          · have hb : 54 ≤ rowN s ∧ rowN s + 1 ≤ 61 := by unfold rowN; omega
            have hn2 := rg_le.mp hn
            obtain ⟨z, hz, rfl⟩ := nat_N (h := 40) rfl (by decide) hn
            refine ev_mono (C_sheet0 (X := X) (L := L) hrs hn2) (fun r S' I1 L1 R1 z => ?_)
            obtain ⟨rfl, rfl, rfl, rfl, rfl⟩ := z
            refine ⟨rfl, rfl, q, _, rfl, rfl, fun L2 => ?_⟩
            refine ev_mono (R_sheet0 (X := X) (L := L2) (q := q) (I := (setO (setO I (rowN s) (upd (upd (I (rowN s)) 1 0) 2 (nI z))) (rowN s + 1) (zr40 (I (rowN s + 1)) 40))) hrs (z := z) (by omega)) (fun r2 S2 I2 L3 R2 z => ?_)
            obtain ⟨rfl, rfl, rfl, rfl, rfl⟩ := z
            refine ⟨rfl, rfl, rfl, m, M, d, ri, tx, tn, sems, row_step g hrs (fun a k h1 h2 h3 h4 h5 h6 h7 => ?_) ?_⟩
            · rw [flB_n (by omega), up2_nn _ _ h6, up2_nn _ _ h5, up2_nn _ _ h4, setO_n h3, setO_n h2]
            · refine Or.inr ⟨?_, z, hz, ?_, ?_, ?_, ?_, fun i hi => ?_⟩
              · rw [flB_n (by omega), up2_n _ _ (by omega), up2_n _ _ (by omega), up2_oo]
              · rw [flB_n (by omega), up2_n _ _ (by omega), up2_oo]; decide
              · rw [flB_n (by omega), up2_n _ _ (by omega), up2_n _ _ (by omega), up2_n _ _ (by omega), setO_n (by omega), setO_o, flB_n (by omega), up2_n _ _ (by omega), up2_oo]; rfl
              · rw [flB_n (by omega), up2_n _ _ (by omega), up2_n _ _ (by omega), up2_n _ _ (by omega), setO_n (by omega), setO_o]; rfl
              · rw [flB_n (by omega), up2_oo]
              · rw [flB_at hi, flB_n (by omega), up2_n _ _ (by omega), up2_n _ _ (by omega), up2_n _ _ (by omega), setO_o]
                exact if_pos (by omega)
          · by_cases hn0 : n < 0
            · exact pr_bad g (C_sheetL0 (X := X) (L := L) hrs hn0) (fun J L2 hs hsm => R_sheetL0 hrs hn0)
            · have hn4 : 40 < n := Classical.byContradiction (fun h => hn ⟨hn0, h⟩)
              exact pr_bad g (C_sheetH0 (X := X) (L := L) hrs hn4) (fun J L2 hs hsm => R_sheetH0 hrs hn4)
        · by_cases hn : ¬ n < 0 ∧ ¬ 40 < n
          · have hb : 54 ≤ rowN s ∧ rowN s + 1 ≤ 61 := by unfold rowN; omega
            have hn2 := rg_le.mp hn
            obtain ⟨z, hz, rfl⟩ := nat_N (h := 40) rfl (by decide) hn
            refine ev_mono (C_sheet1 (X := X) (L := L) hrs hn2) (fun r S' I1 L1 R1 z => ?_)
            obtain ⟨rfl, rfl, rfl, rfl, rfl⟩ := z
            refine ⟨rfl, rfl, q, _, rfl, rfl, fun L2 => ?_⟩
            refine ev_mono (R_sheet1 (X := X) (L := L2) (q := q) (I := (setO (setO I (rowN s) (upd (upd (I (rowN s)) 1 1) 2 (nI z))) (rowN s + 1) (zr40 (I (rowN s + 1)) 40))) hrs (z := z) (by omega)) (fun r2 S2 I2 L3 R2 z => ?_)
            obtain ⟨rfl, rfl, rfl, rfl, rfl⟩ := z
            refine ⟨rfl, rfl, rfl, m, M, d, ri, tx, tn, sems, row_step g hrs (fun a k h1 h2 h3 h4 h5 h6 h7 => ?_) ?_⟩
            · rw [flB_n (by omega), up2_nn _ _ h6, up2_nn _ _ h5, up2_nn _ _ h4, setO_n h3, setO_n h2]
            · refine Or.inr ⟨?_, z, hz, ?_, ?_, ?_, ?_, fun i hi => ?_⟩
              · rw [flB_n (by omega), up2_n _ _ (by omega), up2_n _ _ (by omega), up2_oo]
              · rw [flB_n (by omega), up2_n _ _ (by omega), up2_oo]; decide
              · rw [flB_n (by omega), up2_n _ _ (by omega), up2_n _ _ (by omega), up2_n _ _ (by omega), setO_n (by omega), setO_o, flB_n (by omega), up2_n _ _ (by omega), up2_oo]; rfl
              · rw [flB_n (by omega), up2_n _ _ (by omega), up2_n _ _ (by omega), up2_n _ _ (by omega), setO_n (by omega), setO_o]; rfl
              · rw [flB_n (by omega), up2_oo]
              · rw [flB_at hi, flB_n (by omega), up2_n _ _ (by omega), up2_n _ _ (by omega), up2_n _ _ (by omega), setO_o]
                exact if_pos (by omega)
          · by_cases hn0 : n < 0
            · exact pr_bad g (C_sheetL1 (X := X) (L := L) hrs hn0) (fun J L2 hs hsm => R_sheetL1 hrs hn0)
            · have hn4 : 40 < n := Classical.byContradiction (fun h => hn ⟨hn0, h⟩)
              exact pr_bad g (C_sheetH1 (X := X) (L := L) hrs hn4) (fun J L2 hs hsm => R_sheetH1 hrs hn4)
        · by_cases hn : ¬ n < 0 ∧ ¬ 40 < n
          · have hb : 54 ≤ rowN s ∧ rowN s + 1 ≤ 61 := by unfold rowN; omega
            have hn2 := rg_le.mp hn
            obtain ⟨z, hz, rfl⟩ := nat_N (h := 40) rfl (by decide) hn
            refine ev_mono (C_sheet2 (X := X) (L := L) hrs hn2) (fun r S' I1 L1 R1 z => ?_)
            obtain ⟨rfl, rfl, rfl, rfl, rfl⟩ := z
            refine ⟨rfl, rfl, q, _, rfl, rfl, fun L2 => ?_⟩
            refine ev_mono (R_sheet2 (X := X) (L := L2) (q := q) (I := (setO (setO I (rowN s) (upd (upd (I (rowN s)) 1 2) 2 (nI z))) (rowN s + 1) (zr40 (I (rowN s + 1)) 40))) hrs (z := z) (by omega)) (fun r2 S2 I2 L3 R2 z => ?_)
            obtain ⟨rfl, rfl, rfl, rfl, rfl⟩ := z
            refine ⟨rfl, rfl, rfl, m, M, d, ri, tx, tn, sems, row_step g hrs (fun a k h1 h2 h3 h4 h5 h6 h7 => ?_) ?_⟩
            · rw [flB_n (by omega), up2_nn _ _ h6, up2_nn _ _ h5, up2_nn _ _ h4, setO_n h3, setO_n h2]
            · refine Or.inr ⟨?_, z, hz, ?_, ?_, ?_, ?_, fun i hi => ?_⟩
              · rw [flB_n (by omega), up2_n _ _ (by omega), up2_n _ _ (by omega), up2_oo]
              · rw [flB_n (by omega), up2_n _ _ (by omega), up2_oo]; decide
              · rw [flB_n (by omega), up2_n _ _ (by omega), up2_n _ _ (by omega), up2_n _ _ (by omega), setO_n (by omega), setO_o, flB_n (by omega), up2_n _ _ (by omega), up2_oo]; rfl
              · rw [flB_n (by omega), up2_n _ _ (by omega), up2_n _ _ (by omega), up2_n _ _ (by omega), setO_n (by omega), setO_o]; rfl
              · rw [flB_n (by omega), up2_oo]
              · rw [flB_at hi, flB_n (by omega), up2_n _ _ (by omega), up2_n _ _ (by omega), up2_n _ _ (by omega), setO_o]
                exact if_pos (by omega)
          · by_cases hn0 : n < 0
            · exact pr_bad g (C_sheetL2 (X := X) (L := L) hrs hn0) (fun J L2 hs hsm => R_sheetL2 hrs hn0)
            · have hn4 : 40 < n := Classical.byContradiction (fun h => hn ⟨hn0, h⟩)
              exact pr_bad g (C_sheetH2 (X := X) (L := L) hrs hn4) (fun J L2 hs hsm => R_sheetH2 hrs hn4)
      · exact pr_bad g (C_sheetW (X := X) (L := L) hrs (w := w) (n := n) hm1 (fun h => hw ⟨h.1, lt3.mp h.2⟩)) (fun J L2 hs hsm => R_sheetB (fun h => hw (rg_m1 h.2 hm1)))
  · exact pr_bad g (C_sheetX (X := X) (L := L) hy (w := w) (n := n)) (fun J L2 hs hsm => R_sheetB (fun h => hny h.1))

theorem vH_zN {x : Int32} {z : Nat} (hz : z ≤ 40) (h : vH x z) : ∃ j, j < z ∧ x = nI j := by
  obtain ⟨h1, h2⟩ := h
  obtain ⟨j, hj, rfl⟩ := nI_of h1
  refine ⟨j, ?_, rfl⟩
  by_cases h0 : z = 0
  · subst h0
    exfalso
    refine h2 ?_
    have e : nI 0 - 1 = -1 := by decide
    rw [e, Int32.lt_iff_toInt_lt, nI_int hj]
    have h6 : (-1 : Int32).toInt = -1 := by decide
    omega
  · rw [show nI z - 1 = nI (z - 1) from nI_sub' (a := 1) (by omega)] at h2
    simp (disch := omega) only [nI_ltI] at h2
    omega
theorem has_z {x : Int32} {z : Nat} (hz : z ≤ 40) (h : ¬ x < 0 ∧ x < nI z) : vH x z := by
  obtain ⟨h1, h2⟩ := h
  obtain ⟨j, hj, rfl⟩ := nI_of h1
  simp (disch := omega) only [nI_ltI] at h2
  refine ⟨h1, fun h3 => ?_⟩
  rw [show nI z - 1 = nI (z - 1) from nI_sub' (a := 1) (by omega)] at h3
  simp (disch := omega) only [nI_ltI] at h3
  omega
set_option maxRecDepth 100000 in
set_option maxHeartbeats 1000000 in
theorem P_cell {X : En} (x y v : Int32) : Pr X 9 3 mX7_cell mX8_cell [.int x, .int y, .int v] := by
  intro q I L ⟨m, M, d, ri, tx, tn, sems, g⟩
  have hcs := g.cs
  have hM5 := g.2.1.M5
  obtain ⟨hday, hd⟩ := g.day
  obtain ⟨a1, a2, a3, a4, a5, a6, a7, a8, a9, a10, a11, a12, a13, a14, a15⟩ := id g
  rcases nR (x := x) with ⟨s, hrs, rfl, hy3⟩ | ⟨hy, hny⟩
  · rcases a14 s hrs with hsh | hsh
    · obtain ⟨hmi, h78⟩ := hsh
      exact pr_bad g (C_cellM (X := X) (L := L) hrs hmi (x := y) (v := v)) (fun J L2 hs hsm => R_cellM hrs (by rw [hsm.hi (a := 78) (by decide) (by decide)]; exact h78))
    · obtain ⟨h78, z, hz40, hs3, hso, hzz, h80, hit⟩ := hsh
      by_cases hv : vH y z
      · obtain ⟨i, hi, rfl⟩ := vH_zN hz40 hv
        rcases hs3 with hs79 | hs79 | hs79
        · have hb : 54 ≤ rowN s ∧ rowN s + 1 ≤ 61 := by unfold rowN; omega
          have hnm : ¬ I (rowN s) 1 = -1 := by rw [hso, hs79]; decide
          refine ev_mono (C_cell (X := X) (L := L) hrs hnm hzz hz40 hi (v := v)) (fun r S' I1 L1 R1 z => ?_)
          obtain ⟨rfl, rfl, rfl, rfl, rfl⟩ := z
          refine ⟨rfl, rfl, q, _, rfl, rfl, fun L2 => ?_⟩
          refine ev_mono (R_cell0 (X := X) (L := L2) (q := q) (I := up2 I (rowN s + 1) i (cvt (I (rowN s) 1) v)) hrs (by rw [up2_n _ _ (by omega)]; exact h78) (z := z) (by rw [up2_n _ _ (by omega)]; exact h80) hz40 (by rw [up2_n _ _ (by omega)]; exact hs79) hi v) (fun r2 S2 I2 L3 R2 z => ?_)
          obtain ⟨rfl, rfl, rfl, rfl, rfl⟩ := z
          refine ⟨rfl, rfl, rfl, m, M, d, ri, tx, tn, sems, row_step g hrs (fun a k h1 h2 h3 h4 h5 h6 h7 => ?_) ?_⟩
          · rw [up2_nn _ _ (by omega), up2_nn _ _ (by omega)]
          · refine Or.inr ⟨?_, z, hz40, ?_, ?_, ?_, ?_, fun t ht => ?_⟩
            · rw [up2_n _ _ (by omega), up2_n _ _ (by omega)]; exact h78
            · rw [up2_n _ _ (by omega), up2_n _ _ (by omega), hs79]; decide
            · rw [up2_n _ _ (by omega), up2_n _ _ (by omega), up2_n _ _ (by omega), up2_n _ _ (by omega)]; exact hso
            · rw [up2_n _ _ (by omega), up2_n _ _ (by omega)]; exact hzz
            · rw [up2_n _ _ (by omega), up2_n _ _ (by omega)]; exact h80
            · rw [up2_n (a := rowN s + 1) _ _ (by omega)]
              by_cases e : t = i
              · subst e
                rw [up2_oo, up2_oo, hso, hs79]
              · rw [up2_nn _ _ (fun e2 => e e2.2), up2_nn _ _ (by omega), up2_n _ _ (by omega)]
                exact hit t ht
        · have hb : 54 ≤ rowN s ∧ rowN s + 1 ≤ 61 := by unfold rowN; omega
          have hnm : ¬ I (rowN s) 1 = -1 := by rw [hso, hs79]; decide
          refine ev_mono (C_cell (X := X) (L := L) hrs hnm hzz hz40 hi (v := v)) (fun r S' I1 L1 R1 z => ?_)
          obtain ⟨rfl, rfl, rfl, rfl, rfl⟩ := z
          refine ⟨rfl, rfl, q, _, rfl, rfl, fun L2 => ?_⟩
          refine ev_mono (R_cell1 (X := X) (L := L2) (q := q) (I := up2 I (rowN s + 1) i (cvt (I (rowN s) 1) v)) hrs (by rw [up2_n _ _ (by omega)]; exact h78) (z := z) (by rw [up2_n _ _ (by omega)]; exact h80) hz40 (by rw [up2_n _ _ (by omega)]; exact hs79) hi v) (fun r2 S2 I2 L3 R2 z => ?_)
          obtain ⟨rfl, rfl, rfl, rfl, rfl⟩ := z
          refine ⟨rfl, rfl, rfl, m, M, d, ri, tx, tn, sems, row_step g hrs (fun a k h1 h2 h3 h4 h5 h6 h7 => ?_) ?_⟩
          · rw [up2_nn _ _ (by omega), up2_nn _ _ (by omega)]
          · refine Or.inr ⟨?_, z, hz40, ?_, ?_, ?_, ?_, fun t ht => ?_⟩
            · rw [up2_n _ _ (by omega), up2_n _ _ (by omega)]; exact h78
            · rw [up2_n _ _ (by omega), up2_n _ _ (by omega), hs79]; decide
            · rw [up2_n _ _ (by omega), up2_n _ _ (by omega), up2_n _ _ (by omega), up2_n _ _ (by omega)]; exact hso
            · rw [up2_n _ _ (by omega), up2_n _ _ (by omega)]; exact hzz
            · rw [up2_n _ _ (by omega), up2_n _ _ (by omega)]; exact h80
            · rw [up2_n (a := rowN s + 1) _ _ (by omega)]
              by_cases e : t = i
              · subst e
                rw [up2_oo, up2_oo, hso, hs79]
              · rw [up2_nn _ _ (fun e2 => e e2.2), up2_nn _ _ (by omega), up2_n _ _ (by omega)]
                exact hit t ht
        · have hb : 54 ≤ rowN s ∧ rowN s + 1 ≤ 61 := by unfold rowN; omega
          have hnm : ¬ I (rowN s) 1 = -1 := by rw [hso, hs79]; decide
          refine ev_mono (C_cell (X := X) (L := L) hrs hnm hzz hz40 hi (v := v)) (fun r S' I1 L1 R1 z => ?_)
          obtain ⟨rfl, rfl, rfl, rfl, rfl⟩ := z
          refine ⟨rfl, rfl, q, _, rfl, rfl, fun L2 => ?_⟩
          refine ev_mono (R_cell2 (X := X) (L := L2) (q := q) (I := up2 I (rowN s + 1) i (cvt (I (rowN s) 1) v)) hrs (by rw [up2_n _ _ (by omega)]; exact h78) (z := z) (by rw [up2_n _ _ (by omega)]; exact h80) hz40 (by rw [up2_n _ _ (by omega)]; exact hs79) hi v) (fun r2 S2 I2 L3 R2 z => ?_)
          obtain ⟨rfl, rfl, rfl, rfl, rfl⟩ := z
          refine ⟨rfl, rfl, rfl, m, M, d, ri, tx, tn, sems, row_step g hrs (fun a k h1 h2 h3 h4 h5 h6 h7 => ?_) ?_⟩
          · rw [up2_nn _ _ (by omega), up2_nn _ _ (by omega)]
          · refine Or.inr ⟨?_, z, hz40, ?_, ?_, ?_, ?_, fun t ht => ?_⟩
            · rw [up2_n _ _ (by omega), up2_n _ _ (by omega)]; exact h78
            · rw [up2_n _ _ (by omega), up2_n _ _ (by omega), hs79]; decide
            · rw [up2_n _ _ (by omega), up2_n _ _ (by omega), up2_n _ _ (by omega), up2_n _ _ (by omega)]; exact hso
            · rw [up2_n _ _ (by omega), up2_n _ _ (by omega)]; exact hzz
            · rw [up2_n _ _ (by omega), up2_n _ _ (by omega)]; exact h80
            · rw [up2_n (a := rowN s + 1) _ _ (by omega)]
              by_cases e : t = i
              · subst e
                rw [up2_oo, up2_oo, hso, hs79]
              · rw [up2_nn _ _ (fun e2 => e e2.2), up2_nn _ _ (by omega), up2_n _ _ (by omega)]
                exact hit t ht
      · have hnm : ¬ I (rowN s) 1 = -1 := by rw [hso]; rcases hs3 with e | e | e <;> rw [e] <;> decide
        exact pr_bad g (C_cellO (X := X) (L := L) hrs hnm (x := y) (v := v) (fun h => hv (has_z hz40 (by rw [hzz] at h; exact ⟨h.1, h.2.1⟩)))) (fun J L2 hs hsm => R_cellO hrs (by rw [hsm.hi (a := 78) (by decide) (by decide)]; exact h78) (z := z) (by rw [hsm.hi (a := 80) (by decide) (by decide)]; exact h80) hz40 hv)
  · exact pr_bad g (C_cellX (X := X) (L := L) hy (w := y) (v := v)) (fun J L2 hs hsm => R_cellB hny)

set_option maxRecDepth 100000 in
set_option maxHeartbeats 1000000 in
theorem P_film {X : En} (y x w : Int32) : Pr X 9 60 mX7_film mX8_film [.int y, .int x, .int w] := by
  intro q I L ⟨m, M, d, ri, tx, tn, sems, g⟩
  have hcs := g.cs
  have hM5 := g.2.1.M5
  obtain ⟨hday, hd⟩ := g.day
  obtain ⟨a1, a2, a3, a4, a5, a6, a7, a8, a9, a10, a11, a12, a13, a14, a15⟩ := id g
  rcases hcase (x := x) hM5 with ⟨j, hj, rfl⟩ | ⟨hx, hnv⟩
  · rcases nR (x := y) with ⟨s, hrs, rfl, hy3⟩ | ⟨hy, hny⟩
    · by_cases hw : ¬ w < 0 ∧ ¬ 20 < w
      · obtain ⟨n, hn, rfl⟩ := nat_N (h := 20) rfl (by decide) hw
        have hb : 54 ≤ rowN s ∧ rowN s + 1 ≤ 61 := by unfold rowN; omega
        have hfa := a2.2.1
        have hto := a2.ok hj
        have hc := C_film (X := X) (L := L) hcs hj hfa hto hrs hn
        rw [hday] at hc
        refine ev_mono hc (fun r S' I1 L1 R1 z => ?_)
        obtain ⟨rfl, rfl, ⟨hA, f1, f2, f3⟩, rfl, rfl⟩ := z
        refine ⟨rfl, rfl, q, _, rfl, rfl, fun L2 => ?_⟩
        have hst : RSt I1 m (I 2) (I 3) M (TT I) d (sems ri) := a2.see (see_66 (fun a k ha => congrFun (hA a (w1_hi a (by omega) (by omega)) (by omega) (by omega) (by omega)) k))
        refine ev_mono (R_film (X := X) (L := L2) (q := q) hst hd hj hrs hn) (fun r2 S2 I2 L3 R2 z => ?_)
        obtain ⟨rfl, rfl, rfl, hf⟩ := z
        have sm := eB_same hf
        have hlo : ∀ a k, a ≠ 78 → a ≠ 79 → a ≠ 80 → a ≠ 81 → flB (flmW I1 s n) 81 (40 * s) (fun t => itP (sems ri) (I 2) (I 3) m (nI d) (TT I j) (t + 1) 3) n a k = I1 a k := fun a k h1 h2 h3 h4 => by rw [flB_n (by omega)]; unfold flmW; rw [flB_n (by omega), up2_n _ _ h3, up2_n _ _ h2, up2_n _ _ h1]
        refine ⟨rfl, rfl, rfl, m, M, d, ri, tx, tn, sems, row_step g hrs (fun a k h1 h2 h3 h4 h5 h6 h7 => ?_) ?_⟩
        · rw [sm a k h1]
          by_cases h81 : a = 81
          · rw [flB_n (by omega)]; unfold flmW; rw [flB_n (by omega), up2_nn _ _ h6, up2_nn _ _ h5, up2_nn _ _ h4]; exact congrFun (hA a h1.1 h1.2.1 h2 h3) k
          · rw [flB_n (by omega)]; unfold flmW; rw [flB_n (by omega), up2_nn _ _ h6, up2_nn _ _ h5, up2_nn _ _ h4]; exact congrFun (hA a h1.1 h1.2.1 h2 h3) k
        · have hrw := row_W s hrs
          refine Or.inr ⟨?_, n, by omega, ?_, ?_, ?_, ?_, fun t ht => ?_⟩
          · rw [sm 78 s ⟨by decide, by decide, by decide, by omega⟩, flB_n (by omega)]; unfold flmW; rw [flB_n (by omega), up2_n _ _ (by omega), up2_n _ _ (by omega), up2_oo]
          · rw [sm 79 s ⟨by decide, by decide, by decide, by omega⟩, flB_n (by omega)]; unfold flmW; rw [flB_n (by omega), up2_n _ _ (by omega), up2_oo]; decide
          · rw [sm 79 s ⟨by decide, by decide, by decide, by omega⟩, flB_n (by omega), sm (rowN s) 1 ⟨hrw.1, by omega, by omega, by omega⟩, hlo _ _ (by omega) (by omega) (by omega) (by omega)]; unfold flmW; rw [flB_n (by omega), up2_n _ _ (by omega), up2_oo]; exact f1
          · rw [sm (rowN s) 2 ⟨hrw.1, by omega, by omega, by omega⟩, hlo _ _ (by omega) (by omega) (by omega) (by omega)]; exact f2
          · rw [sm 80 s ⟨by decide, by decide, by decide, by omega⟩, flB_n (by omega)]; unfold flmW; rw [flB_n (by omega), up2_oo]
          · rw [sm 81 _ ⟨by decide, by decide, by decide, by omega⟩, flB_at ht, sm (rowN s + 1) t ⟨hrw.2.1, by omega, by omega, by omega⟩, hlo _ _ (by omega) (by omega) (by omega) (by omega)]
            exact f3 t ht
      · have hc := C_filmW (X := X) (L := L) hcs hj hrs (w := w) (fun h => hw ⟨h.1, le_n.mp h.2⟩)
        (try rw [hday] at hc)
        exact pr_ask g hc (fun J L2 hs hsm => R_filmB hs (fun h => hw h.2.2))
    · have hc := C_filmX (X := X) (L := L) hcs hj (x := y) (w := w) hy
      (try rw [hday] at hc)
      exact pr_ask g hc (fun J L2 hs hsm => R_filmB hs (fun h => hny h.1))
  · rcases nR (x := y) with ⟨s, hrs, rfl, hy3⟩ | ⟨hy, hny⟩
    · have hc := C_filmH1 (X := X) (L := L) hcs hx hrs (w := w)
      (try rw [hday] at hc)
      exact pr_ask g hc (fun J L2 hs hsm => R_filmB hs (fun h => hnv h.2.1))
    · have hc := C_filmH2 (X := X) (L := L) hcs hx (z := y) (w := w) hy
      (try rw [hday] at hc)
      exact pr_ask g hc (fun J L2 hs hsm => R_filmB hs (fun h => hnv h.2.1))
