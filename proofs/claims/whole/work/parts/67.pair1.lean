/-! one call and the other: those that only ask -/
theorem lt6 {w : Int32} : w < 6 ↔ ¬ 5 < w := by
  simp only [Int32.lt_iff_toInt_lt, show (5 : Int32).toInt = 5 from rfl, show (6 : Int32).toInt = 6 from rfl]
  omega
theorem lt12 {w : Int32} : w < 12 ↔ ¬ 11 < w := by
  simp only [Int32.lt_iff_toInt_lt, show (11 : Int32).toInt = 11 from rfl, show (12 : Int32).toInt = 12 from rfl]
  omega
theorem lt3 {w : Int32} : w < 3 ↔ ¬ 2 < w := by
  simp only [Int32.lt_iff_toInt_lt, show (2 : Int32).toInt = 2 from rfl, show (3 : Int32).toInt = 3 from rfl]
  omega
theorem lt10 {w : Int32} : w < 10 ↔ ¬ 9 < w := by
  simp only [Int32.lt_iff_toInt_lt, show (9 : Int32).toInt = 9 from rfl, show (10 : Int32).toInt = 10 from rfl]
  omega
theorem le_n {w h : Int32} : w ≤ h ↔ ¬ h < w := (Int32.not_lt).symm
theorem out_n {w : Int32} {h : Int32} (e : ¬ (¬ w < 0 ∧ ¬ h < w)) : w < 0 ∨ h < w := by
  by_cases h1 : w < 0
  · exact Or.inl h1
  · exact Or.inr (Classical.byContradiction (fun h2 => e ⟨h1, h2⟩))
theorem mxS_M {ok v : Nat → Int32} {m0 : Int32} {M : Nat} : ∀ k, M ≤ k → mxS (fun k => if k < M then ok k else 0) v m0 k = mxS ok v m0 M := by
  have low : ∀ k, k ≤ M → mxS (fun k => if k < M then ok k else 0) v m0 k = mxS ok v m0 k := by
    intro k
    induction k with
    | zero => intro _; rfl
    | succ k ih =>
      intro h
      unfold mxS
      rw [ih (by omega), if_pos (show k < M by omega)]
  intro k
  induction k with
  | zero => intro h; rw [show M = 0 by omega]; rfl
  | succ k ih =>
    intro h
    by_cases e : M = k + 1
    · rw [e]; rw [← e]; exact low M (Nat.le_refl _)
    · rw [← ih (by omega)]
      show (if ¬ (if k < M then ok k else 0) = 0 ∧ _ then _ else _) = _
      rw [if_neg (fun h2 => h2.1 (if_neg (by omega)))]
theorem pos_n {w : Int32} (h0 : ¬ w = 0) (h1 : ¬ w < 0) : 0 < w := by
  rcases Int32.lt_or_eq_of_le (Int32.not_lt.mp h1) with h | h
  · exact h
  · exact absurd h.symm h0
set_option maxRecDepth 100000 in
set_option maxHeartbeats 1000000 in
theorem P_told {X : En} (x w : Int32) : Pr X 9 60 mX7_told mX8_told [.int x, .int w] := by
  intro q I L ⟨m, M, d, ri, tx, tn, sems, g⟩
  have hcs := g.cs
  have hM5 := g.2.1.M5
  obtain ⟨hday, hd⟩ := g.day
  by_cases h0 : w = 0
  · subst h0
    rcases hcase (x := x) hM5 with ⟨j, hj, rfl⟩ | ⟨hx, hnv⟩
    · have hc := C_told0v (X := X) (L := L) hcs hj
      (try rw [hday] at hc)
      exact pr_ask g hc (fun J L2 hs hsm => R_told0 hs hd _)
    · have hc := C_told0n (X := X) (L := L) hcs hx
      (try rw [hday] at hc)
      exact pr_ask g hc (fun J L2 hs hsm => R_told0 hs hd _)
  · rcases hcase (x := x) hM5 with ⟨j, hj, rfl⟩ | ⟨hx, hnv⟩
    · by_cases hw : ¬ w < 0 ∧ ¬ 11 < w
      · obtain ⟨k, hk, rfl⟩ := nat_N (h := 11) rfl (by decide) hw
        have hk0 : k ≠ 0 := fun e => h0 (by rw [e]; rfl)
        have hk11 : k = 1 ∨ k = 2 ∨ k = 3 ∨ k = 4 ∨ k = 5 ∨ k = 6 ∨ k = 7 ∨ k = 8 ∨ k = 9 ∨ k = 10 ∨ k = 11 := by omega
        rcases hk11 with e | e | e | e | e | e | e | e | e | e | e <;> subst e
        · have hc := C_told1 (X := X) (L := L) hcs hj
          (try rw [hday] at hc)
          exact pr_ask g hc (fun J L2 hs hsm => R_told1 hs hd hj)
        · have hc := C_told2 (X := X) (L := L) hcs hj
          (try rw [hday] at hc)
          exact pr_ask g hc (fun J L2 hs hsm => R_told2 hs hd hj)
        · have hc := C_told3 (X := X) (L := L) hcs hj
          (try rw [hday] at hc)
          exact pr_ask g hc (fun J L2 hs hsm => R_told3 hs hd hj)
        · have hc := C_told4 (X := X) (L := L) hcs hj
          (try rw [hday] at hc)
          exact pr_ask g hc (fun J L2 hs hsm => R_told4 hs hd hj)
        · have hc := C_told5 (X := X) (L := L) hcs hj
          (try rw [hday] at hc)
          exact pr_ask g hc (fun J L2 hs hsm => R_told5 hs hd hj)
        · have hc := C_told6 (X := X) (L := L) hcs hj
          (try rw [hday] at hc)
          exact pr_ask g hc (fun J L2 hs hsm => R_told6 hs hd hj)
        · have hc := C_told7 (X := X) (L := L) hcs hj
          (try rw [hday] at hc)
          exact pr_ask g hc (fun J L2 hs hsm => R_told7 hs hd hj)
        · have hc := C_told8 (X := X) (L := L) hcs hj
          (try rw [hday] at hc)
          exact pr_ask g hc (fun J L2 hs hsm => R_told8 hs hd hj)
        · have hc := C_told9 (X := X) (L := L) hcs hj
          (try rw [hday] at hc)
          exact pr_ask g hc (fun J L2 hs hsm => R_told9 hs hd hj)
        · have hc := C_told10 (X := X) (L := L) hcs hj
          (try rw [hday] at hc)
          exact pr_ask g hc (fun J L2 hs hsm => R_told10 hs hd hj)
        · have hc := C_told11 (X := X) (L := L) hcs hj
          (try rw [hday] at hc)
          exact pr_ask g hc (fun J L2 hs hsm => R_told11 hs hd hj)
      · have hc := C_toldR (X := X) (L := L) hcs hj (out_n hw)
        (try rw [hday] at hc)
        exact pr_ask g hc (fun J L2 hs hsm => R_toldB hs (fun h => hw h.1))
    · have hc := C_toldN (X := X) (L := L) hcs hx h0
      (try rw [hday] at hc)
      exact pr_ask g hc (fun J L2 hs hsm => R_toldB hs (fun h => hnv (h.2 (pos_n h0 h.1.1))))

set_option maxRecDepth 100000 in
set_option maxHeartbeats 1000000 in
theorem P_follows {X : En} (x w : Int32) : Pr X 9 60 mX7_follows mX8_follows [.int x, .int w] := by
  intro q I L ⟨m, M, d, ri, tx, tn, sems, g⟩
  have hcs := g.cs
  have hM5 := g.2.1.M5
  obtain ⟨hday, hd⟩ := g.day
  by_cases hx : ¬ x < 0 ∧ ¬ 4095 < x
  · obtain ⟨v, hv, rfl⟩ := nat_N (h := 4095) rfl (by decide) hx
    have hx2 : ¬ nI v < 0 ∧ nI v ≤ 4095 := ⟨hx.1, le_n.mpr hx.2⟩
    by_cases hw : ¬ w < 0 ∧ ¬ 2 < w
    · obtain ⟨k, hk, rfl⟩ := nat_N (h := 2) rfl (by decide) hw
      have hk3 : k = 0 ∨ k = 1 ∨ k = 2 := by omega
      rcases hk3 with e | e | e <;> subst e
      · have hc := C_follows0 (X := X) (L := L) hcs hx2
        (try rw [hday] at hc)
        exact pr_ask g hc (fun J L2 hs hsm => R_follows0 hs (v := v) (by omega))
      · have hc := C_follows1 (X := X) (L := L) hcs hx2
        (try rw [hday] at hc)
        exact pr_ask g hc (fun J L2 hs hsm => R_follows1 hs (v := v) (by omega))
      · have hc := C_follows2 (X := X) (L := L) hcs hx2
        (try rw [hday] at hc)
        exact pr_ask g hc (fun J L2 hs hsm => R_follows2 hs (v := v) (by omega))
    · have hc := C_followsW (X := X) (L := L) hcs hx2 (out_n hw)
      (try rw [hday] at hc)
      exact pr_ask g hc (fun J L2 hs hsm => R_followsB hs (fun h => hw h.2))
  · have hc := C_followsX (X := X) (L := L) hcs (w := w) (fun h => hx ⟨h.1, le_n.mp h.2⟩)
    (try rw [hday] at hc)
    exact pr_ask g hc (fun J L2 hs hsm => R_followsB hs (fun h => hx h.1))

set_option maxRecDepth 100000 in
set_option maxHeartbeats 1000000 in
theorem P_run {X : En} (x z w : Int32) : Pr X 9 60 mX7_run mX8_run [.int x, .int z, .int w] := by
  intro q I L ⟨m, M, d, ri, tx, tn, sems, g⟩
  have hcs := g.cs
  have hM5 := g.2.1.M5
  obtain ⟨hday, hd⟩ := g.day
  rcases hcase (x := x) hM5 with ⟨j, hj, rfl⟩ | ⟨hx, hnv⟩
  · by_cases hv : (¬ z < 0 ∧ ¬ 40 < z) ∧ (¬ w < 0 ∧ ¬ 3 < w)
    · obtain ⟨n, hn, rfl⟩ := nat_N (h := 40) rfl (by decide) hv.1
      obtain ⟨k, hk, rfl⟩ := nat_N (h := 3) rfl (by decide) hv.2
      have hk3 : k = 0 ∨ k = 1 ∨ k = 2 ∨ k = 3 := by omega
      rcases hk3 with e | e | e | e <;> subst e
      · have hc := C_run0 (X := X) (L := L) hcs hj hn
        (try rw [hday] at hc)
        exact pr_ask g hc (fun J L2 hs hsm => R_run0 hs hd hj hn)
      · have hc := C_run1 (X := X) (L := L) hcs hj hn
        (try rw [hday] at hc)
        exact pr_ask g hc (fun J L2 hs hsm => R_run1 hs hd hj hn)
      · have hc := C_run2 (X := X) (L := L) hcs hj hn
        (try rw [hday] at hc)
        exact pr_ask g hc (fun J L2 hs hsm => R_run2 hs hd hj hn)
      · have hc := C_run3 (X := X) (L := L) hcs hj hn
        (try rw [hday] at hc)
        exact pr_ask g hc (fun J L2 hs hsm => R_run3 hs hd hj hn)
    · have hc := C_runB (X := X) (L := L) hcs hj (z := z) (w := w) (fun h => hv ⟨⟨h.1.1, le_n.mp h.1.2⟩, h.2.1, le_n.mp h.2.2⟩)
      (try rw [hday] at hc)
      exact pr_ask g hc (fun J L2 hs hsm => R_runB hs (fun h => hv h.2))
  · have hc := C_runN (X := X) (L := L) hcs hx (z := z) (w := w)
    (try rw [hday] at hc)
    exact pr_ask g hc (fun J L2 hs hsm => R_runB hs (fun h => hnv h.1))

set_option maxRecDepth 100000 in
set_option maxHeartbeats 1000000 in
theorem P_asks {X : En} (x z w : Int32) : Pr X 9 60 mX7_asks mX8_asks [.int x, .int z, .int w] := by
  intro q I L ⟨m, M, d, ri, tx, tn, sems, g⟩
  have hcs := g.cs
  have hM5 := g.2.1.M5
  obtain ⟨hday, hd⟩ := g.day
  rcases hcase (x := x) hM5 with ⟨j, hj, rfl⟩ | ⟨hx, hnv⟩
  · by_cases hz : ¬ z < 0 ∧ ¬ 11 < z
    · obtain ⟨f, hf, rfl⟩ := nat_N (h := 11) rfl (by decide) hz
      by_cases hw : ¬ w < 0 ∧ ¬ 4 < w
      · obtain ⟨k, hk, rfl⟩ := nat_N (h := 4) rfl (by decide) hw
        have hk3 : k = 0 ∨ k = 1 ∨ k = 2 ∨ k = 3 ∨ k = 4 := by omega
        rcases hk3 with e | e | e | e | e <;> subst e
        · have hc := C_asks0 (X := X) (L := L) hcs hj (g := f) (by omega)
          (try rw [hday] at hc)
          exact pr_ask g hc (fun J L2 hs hsm => R_asks0 hs hd hj (g := f) (by omega))
        · have hc := C_asks1 (X := X) (L := L) hcs hj (g := f) (by omega)
          (try rw [hday] at hc)
          exact pr_ask g hc (fun J L2 hs hsm => R_asks1 hs hd hj (g := f) (by omega))
        · have hc := C_asks2 (X := X) (L := L) hcs hj (g := f) (by omega)
          (try rw [hday] at hc)
          exact pr_ask g hc (fun J L2 hs hsm => R_asks2 hs hd hj (g := f) (by omega))
        · have hc := C_asks3 (X := X) (L := L) hcs hj (g := f) (by omega)
          (try rw [hday] at hc)
          exact pr_ask g hc (fun J L2 hs hsm => R_asks3 hs hd hj (g := f) (by omega))
        · have hc := C_asks4 (X := X) (L := L) hcs hj (g := f) (by omega)
          (try rw [hday] at hc)
          exact pr_ask g hc (fun J L2 hs hsm => R_asks4 hs hd hj (g := f) (by omega))
      · have hc := C_asksW (X := X) (L := L) hcs hj (g := f) (by omega) (out_n hw)
        (try rw [hday] at hc)
        exact pr_ask g hc (fun J L2 hs hsm => R_asksB hs (fun h => hw h.2.2))
    · have hc := C_asksF (X := X) (L := L) hcs hj (z := z) (w := w) (fun h => hz ⟨h.1, lt12.mp h.2⟩)
      (try rw [hday] at hc)
      exact pr_ask g hc (fun J L2 hs hsm => R_asksB hs (fun h => hz h.2.1))
  · have hc := C_asksN (X := X) (L := L) hcs hx (z := z) (w := w)
    (try rw [hday] at hc)
    exact pr_ask g hc (fun J L2 hs hsm => R_asksB hs (fun h => hnv h.1))

set_option maxRecDepth 100000 in
set_option maxHeartbeats 1000000 in
theorem P_drawn {X : En} (x : Int32) : Pr X 9 60 mX7_drawn mX8_drawn [.int x] := by
  intro q I L ⟨m, M, d, ri, tx, tn, sems, g⟩
  have hcs := g.cs
  have hM5 := g.2.1.M5
  obtain ⟨hday, hd⟩ := g.day
  have hc := C_drawn (X := X) (L := L) hcs x
  (try rw [hday] at hc)
  exact pr_ask g hc (fun J L2 hs hsm => R_drawnP hs hd x)

set_option maxRecDepth 100000 in
set_option maxHeartbeats 1000000 in
theorem P_count {X : En} (w : Int32) : Pr X 9 60 mX7_count mX8_count [.int w] := by
  intro q I L ⟨m, M, d, ri, tx, tn, sems, g⟩
  have hcs := g.cs
  have hM5 := g.2.1.M5
  obtain ⟨hday, hd⟩ := g.day
  have htx := g.2.2.2.2.2.2.2.2.2.2.2.1
  have htp := g.2.2.2.2.2.2.2.2.2.2.2.2.1
  have h53 := g.2.2.2.2.2.2.1
  have h64 := g.2.2.2.2.2.2.2.1
  by_cases hw : ¬ w < 0 ∧ ¬ 5 < w
  · obtain ⟨k, hk, rfl⟩ := nat_N (h := 5) rfl (by decide) hw
    have hk3 : k = 0 ∨ k = 1 ∨ k = 2 ∨ k = 3 ∨ k = 4 ∨ k = 5 := by omega
    rcases hk3 with e | e | e | e | e | e <;> subst e
    · have hc := C_count0 (X := X) (L := L) hcs
      (try rw [hday] at hc)
      exact pr_ask g hc (fun J L2 hs hsm => R_count0 hs)
    · have hc := C_count1 (X := X) (L := L) hcs
      (try rw [hday] at hc)
      exact pr_ask g hc (fun J L2 hs hsm => R_count1 hs)
    · have hc := C_count2 (X := X) (L := L) hcs
      (try rw [hday] at hc)
      exact pr_ask g hc (fun J L2 hs hsm => R_count2 hs)
    · have hc := C_count3 (X := X) (L := L) hcs
      rw [htx.1] at hc
      exact pr_ask g hc (fun J L2 hs hsm => by have hr := R_count3 (X := X) (L := L2) (q := q) hs; rw [hsm.c (k := 3) (by omega), htx.2.1] at hr; exact hr)
    · have hc := C_count4 (X := X) (L := L) hcs
      rw [htp.1] at hc
      exact pr_ask g hc (fun J L2 hs hsm => by have hr := R_count4 (X := X) (L := L2) (q := q) hs; rw [hsm.c (k := 6) (by omega), htp.2.1] at hr; exact hr)
    · have hc := C_count5 (X := X) (L := L) hcs
      rw [h53] at hc
      exact pr_ask g hc (fun J L2 hs hsm => by have hr := R_count5 (X := X) (L := L2) (q := q) hs; rw [hsm.c (k := 4) (by omega), h64] at hr; exact hr)
  · have hc := C_countB (X := X) (L := L) hcs (out_n hw)
    (try rw [hday] at hc)
    exact pr_ask g hc (fun J L2 hs hsm => R_countB hs hw)

set_option maxRecDepth 100000 in
set_option maxHeartbeats 1000000 in
theorem P_taken {X : En} (x w : Int32) : Pr X 9 60 mX7_taken mX8_taken [.int x, .int w] := by
  intro q I L ⟨m, M, d, ri, tx, tn, sems, g⟩
  have hcs := g.cs
  have hM5 := g.2.1.M5
  obtain ⟨hday, hd⟩ := g.day
  by_cases hw : ¬ w < 0 ∧ ¬ 5 < w
  · obtain ⟨k, hk, rfl⟩ := nat_N (h := 5) rfl (by decide) hw
    rcases hcase (x := x) hM5 with ⟨j, hj, rfl⟩ | ⟨hx, hnv⟩
    · have hc := C_taken (X := X) (L := L) hcs hj (k := k) (by omega)
      (try rw [hday] at hc)
      exact pr_ask g hc (fun J L2 hs hsm => R_takenP hs hj (by omega))
    · have hc := C_takenN (X := X) (L := L) hcs hx (k := k) (by omega)
      (try rw [hday] at hc)
      exact pr_ask g hc (fun J L2 hs hsm => R_takenN hs (by omega) hnv)
  · have hc := C_takenB (X := X) (L := L) hcs (x := x) (fun h => hw ⟨h.1, lt6.mp h.2⟩)
    (try rw [hday] at hc)
    exact pr_ask g hc (fun J L2 hs hsm => R_takenB hs hw)

set_option maxRecDepth 100000 in
set_option maxHeartbeats 1000000 in
theorem P_best {X : En} (x z w : Int32) : Pr X 9 60 mX7_best mX8_best [.int x, .int z, .int w] := by
  intro q I L ⟨m, M, d, ri, tx, tn, sems, g⟩
  have hcs := g.cs
  have hM5 := g.2.1.M5
  obtain ⟨hday, hd⟩ := g.day
  rcases hcase (x := x) hM5 with ⟨j, hj, rfl⟩ | ⟨hx, hnv⟩
  · by_cases hv : (¬ z < 0 ∧ ¬ 40 < z) ∧ (¬ w < 0 ∧ ¬ 1 < w)
    · obtain ⟨n, hn, rfl⟩ := nat_N (h := 40) rfl (by decide) hv.1
      obtain ⟨k, hk, rfl⟩ := nat_N (h := 1) rfl (by decide) hv.2
      have hk3 : k = 0 ∨ k = 1 := by omega
      rcases hk3 with e | e <;> subst e
      · have hc := C_best0 (X := X) (L := L) hcs hj hn
        (try rw [hday] at hc)
        exact pr_ask g hc (fun J L2 hs hsm => R_best0 hs hd hj hn)
      · have hc := C_best1 (X := X) (L := L) hcs hj hn
        (try rw [hday] at hc)
        exact pr_ask g hc (fun J L2 hs hsm => R_best1 hs hd hj hn)
    · have hc := C_bestB (X := X) (L := L) hcs hj (z := z) (w := w) (fun h => hv ⟨⟨h.1.1, le_n.mp h.1.2⟩, h.2.1, le_n.mp h.2.2⟩)
      (try rw [hday] at hc)
      exact pr_ask g hc (fun J L2 hs hsm => R_bestB hs (fun h => hv h.2))
  · have hc := C_bestN (X := X) (L := L) hcs hx (z := z) (w := w)
    (try rw [hday] at hc)
    exact pr_ask g hc (fun J L2 hs hsm => R_bestB hs (fun h => hnv h.1))

set_option maxRecDepth 100000 in
set_option maxHeartbeats 1000000 in
theorem P_whom {X : En} (x z w : Int32) : Pr X 9 60 mX7_whom mX8_whom [.int x, .int z, .int w] := by
  intro q I L ⟨m, M, d, ri, tx, tn, sems, g⟩
  have hcs := g.cs
  have hM5 := g.2.1.M5
  obtain ⟨hday, hd⟩ := g.day
  by_cases hv : (¬ x < 0 ∧ ¬ 11 < x) ∧ (¬ z < 0 ∧ ¬ 40 < z) ∧ (¬ w < 0 ∧ ¬ 1 < w)
  · obtain ⟨f, hf, rfl⟩ := nat_N (h := 11) rfl (by decide) hv.1
    obtain ⟨n, hn, rfl⟩ := nat_N (h := 40) rfl (by decide) hv.2.1
    obtain ⟨k, hk, rfl⟩ := nat_N (h := 1) rfl (by decide) hv.2.2
    have hk3 : k = 0 ∨ k = 1 := by omega
    rcases hk3 with e | e <;> subst e
    · have hc := C_whom0 (X := X) (L := L) hcs (g := f) (by omega) hn
      (try rw [hday] at hc)
      rw [mxS_M (M := M) (ok := fun k => wlI (sems ri) (I 2) (I 3) m (I (5 + 2 + k)) (nI f) (nI d)) 5 hM5] at hc
      exact pr_ask g hc (fun J L2 hs hsm => R_whom0 hs hd (g := f) (by omega) hn)
    · have hc := C_whom1 (X := X) (L := L) hcs (g := f) (by omega) hn
      (try rw [hday] at hc)
      rw [mxS_M (M := M) (ok := fun k => wlI (sems ri) (I 2) (I 3) m (I (5 + 2 + k)) (nI f) (nI d)) 5 hM5] at hc
      exact pr_ask g hc (fun J L2 hs hsm => R_whom1 hs hd (g := f) (by omega) hn)
  · have hc := C_whomB (X := X) (L := L) hcs (x := x) (z := z) (w := w) (fun h => hv ⟨⟨h.1.1, lt12.mp h.1.2⟩, ⟨h.2.1.1, le_n.mp h.2.1.2⟩, h.2.2.1, le_n.mp h.2.2.2⟩)
    (try rw [hday] at hc)
    exact pr_ask g hc (fun J L2 hs hsm => R_whomB hs hv)
