/-! one call and the other: laws, the chance, what was told -/
theorem has_v {x : Int32} {m : Nat} (hm : m ≤ 10) : (¬ x < 0 ∧ x < nI m ∧ x < nI 10) ↔ vH x m := by
  constructor
  · rintro ⟨h1, h2, _⟩
    obtain ⟨j, hj, rfl⟩ := nI_of h1
    exact vH_m (by simp (disch := omega) only [nI_ltI] at h2; exact h2) hm
  · intro h
    obtain ⟨j, hj, rfl⟩ := nI_of h.1
    have h2 := h.2
    have hj2 : j < m := by
      by_cases h0 : m = 0
      · subst h0
        exfalso
        refine h2 ?_
        have e : nI 0 - 1 = -1 := by decide
        rw [e, Int32.lt_iff_toInt_lt, nI_int hj]
        have h6 : (-1 : Int32).toInt = -1 := by decide
        omega
      · rw [show nI m - 1 = nI (m - 1) from nI_sub' (a := 1) (by omega)] at h2
        simp (disch := omega) only [nI_ltI] at h2
        omega
    refine ⟨h.1, ?_, ?_⟩ <;> (simp (disch := omega) only [nI_ltI]; omega)
theorem vH_mN {x : Int32} {m : Nat} (hm : m ≤ 10) (h : vH x m) : ∃ j, j < m ∧ x = nI j := by
  obtain ⟨h1, h2, h3⟩ := (has_v hm).mpr h
  obtain ⟨j, hj, rfl⟩ := nI_of h1
  exact ⟨j, by simp (disch := omega) only [nI_ltI] at h2; exact h2, rfl⟩
theorem i_add_sub (w c : Int32) : w = c + (w - c) := by rw [Int32.add_comm, Int32.sub_add_cancel]
theorem inl_g : ∀ n, n ≤ 20 → ∀ c, c ≤ n → 1 ≤ n → inl1 (nI c) (nI c) (nI n) n = nI (c / Nat.gcd c n) ∧ inl1 (nI n) (nI c) (nI n) n = nI (n / Nat.gcd c n) := by
  have key : ∀ n, n ≤ 20 → ∀ c, c ≤ 20 → c ≤ n → 1 ≤ n → inl1 (nI c) (nI c) (nI n) n = nI (c / Nat.gcd c n) ∧ inl1 (nI n) (nI c) (nI n) n = nI (n / Nat.gcd c n) := by decide +kernel
  intro n hn c hc h1
  exact key n hn c (by omega) hc h1
theorem pr_askL {X : En} {dC dR : Nat} {yC yR : MD} {args : List Value} {q : Nat × Nat} {I : FI} {L : FL} {m M d ri tx tn : Nat} {sems : Nat → Nat → Sem} (g : Inv0 q I m M d ri tx tn sems) {a : Int64} (hc : Ev X dC yC (0, 0) (.ref 0 :: args) S0 I L (R0 q) (AgLL a I L q)) (hr : ∀ (J : FI) (L2 : FL), RSt J m (I 2) (I 3) M (TT I) d (sems ri) → Same J I → Ev X dR yR (0, 0) (.ref 66 :: args) S0 J L2 (R0 q) (AfL q eB J a)) : PrBL X dC dR yC yR args q I L :=
  ev_mono hc (fun r S' I1 L1 R1 z => by
    obtain ⟨rfl, rfl, hA, rfl, rfl⟩ := z
    refine ⟨rfl, rfl, q, _, rfl, rfl, fun L2 => ?_⟩
    exact ev_mono (hr I1 L2 (g.st hA.same) hA.same) (fun r2 S2 I2 L3 R2 z => by
      obtain ⟨rfl, rfl, rfl, hf⟩ := z
      exact ⟨rfl, rfl, rfl, _, _, _, _, _, _, _, g.same ((eB_same hf).tr hA.same)⟩))
set_option maxRecDepth 100000 in
set_option maxHeartbeats 1000000 in
theorem P_laws {X : En} (w : Int32) : Pr X 9 60 mX7_laws mX8_laws [.int w] := by
  intro q I L ⟨m, M, d, ri, tx, tn, sems, g⟩
  have hcs := g.cs
  have hM5 := g.2.1.M5
  obtain ⟨hday, hd⟩ := g.day
  have hfr := g.2.2.1
  have hm10 := g.2.1.1.2.1
  by_cases h2 : ¬ w < 0 ∧ ¬ 2 < w
  · obtain ⟨k, hk, rfl⟩ := nat_N (h := 2) rfl (by decide) h2
    have hk3 : k = 0 ∨ k = 1 ∨ k = 2 := by omega
    rcases hk3 with e | e | e <;> subst e
    · have hc := C_laws0 (X := X) (L := L) hcs
      (try rw [hday] at hc)
      exact pr_ask g hc (fun J L2 hs hsm => R_laws0 hs hfr)
    · have hc := C_laws1 (X := X) (L := L) hcs
      (try rw [hday] at hc)
      exact pr_ask g hc (fun J L2 hs hsm => R_laws1 hs hfr)
    · have hc := C_laws2 (X := X) (L := L) hcs
      (try rw [hday] at hc)
      exact pr_ask g hc (fun J L2 hs hsm => R_laws2 hs hfr)
  · by_cases h20 : 20 ≤ w
    · by_cases hb : vH (w - 20) m
      · obtain ⟨i, hi, e⟩ := vH_mN hm10 hb
        have ew : w = nI (20 + i) := by
          rw [i_add_sub w 20, e]
          exact nI_add' 20 i
        subst ew
        have hc := C_lawsA (X := X) (L := L) hcs hi
        (try rw [hday] at hc)
        exact pr_ask g hc (fun J L2 hs hsm => R_lawsA hs hi)
      · have hc := C_lawsB (X := X) (L := L) hcs (w := w) (fun e => h2 (by rw [e]; decide)) (fun e => h2 (by rw [e]; decide)) (fun e => h2 (by rw [e]; decide)) (fun _ b _ => Int32.not_lt.mpr h20 b) (fun _ h => hb ((has_v hm10).mp h))
        (try rw [hday] at hc)
        exact pr_ask g hc (fun J L2 hs hsm => R_lawsB hs h2 (fun b => absurd b (Int32.not_lt.mpr h20)) (fun _ => hb))
    · by_cases hb : vH (w - 10) m
      · obtain ⟨i, hi, e⟩ := vH_mN hm10 hb
        have ew : w = nI (10 + i) := by
          rw [i_add_sub w 10, e]
          exact nI_add' 10 i
        subst ew
        have hc := C_lawsF (X := X) (L := L) hcs hi
        (try rw [hday] at hc)
        exact pr_ask g hc (fun J L2 hs hsm => R_lawsF hs hi)
      · have hc := C_lawsB (X := X) (L := L) hcs (w := w) (fun e => h2 (by rw [e]; decide)) (fun e => h2 (by rw [e]; decide)) (fun e => h2 (by rw [e]; decide)) (fun _ _ h => hb ((has_v hm10).mp h)) (fun b => absurd b h20)
        (try rw [hday] at hc)
        exact pr_ask g hc (fun J L2 hs hsm => R_lawsB hs h2 (fun _ => hb) (fun b => absurd b h20))

set_option maxRecDepth 100000 in
set_option maxHeartbeats 1000000 in
theorem P_chance {X : En} (s z t w : Int32) : PrL X 9 60 mX7_chance mX8_chance [.int s, .int z, .int t, .int w] := by
  intro q I L ⟨m, M, d, ri, tx, tn, sems, g⟩
  have hcs := g.cs
  have hM5 := g.2.1.M5
  obtain ⟨hday, hd⟩ := g.day
  by_cases hv : (¬ z < 1 ∧ ¬ 20 < z) ∧ (¬ t < 0 ∧ ¬ 999 < t) ∧ (¬ w < 0 ∧ ¬ 1 < w)
  · obtain ⟨n, hn, rfl⟩ := nat_N (x := z) (h := 20) rfl (by decide) ⟨fun h => hv.1.1 (Int32.lt_of_lt_of_le h (by decide)), hv.1.2⟩
    have h1n : 1 ≤ n := by
      have h := hv.1.1
      rw [show (1 : Int32) = nI 1 from rfl] at h
      simp (disch := omega) only [nI_ltI] at h
      omega
    obtain ⟨kk, hk, rfl⟩ := nat_N (h := 999) rfl (by decide) hv.2.1
    obtain ⟨p, hp, rfl⟩ := nat_N (h := 1) rfl (by decide) hv.2.2
    have hk3 : p = 0 ∨ p = 1 := by omega
    rcases hk3 with e | e <;> subst e
    · have hc := C_chance0 (X := X) (L := L) hcs s h1n hn hk
      rw [(inl_g n hn _ (hitS_le n) h1n).1] at hc
      (try rw [hday] at hc)
      exact pr_askL g hc (fun J L2 hs hsm => R_chance0 hs hd s h1n hn hk)
    · have hc := C_chance1 (X := X) (L := L) hcs s h1n hn hk
      rw [(inl_g n hn _ (hitS_le n) h1n).2] at hc
      (try rw [hday] at hc)
      exact pr_askL g hc (fun J L2 hs hsm => R_chance1 hs hd s h1n hn hk)
  · have hc := C_chanceB (X := X) (L := L) hcs (x := s) (z := z) (t := t) (w := w) (fun h => hv ⟨⟨h.1, h.2.1⟩, ⟨h.2.2.1, h.2.2.2.1⟩, h.2.2.2.2.1, le_n.mp h.2.2.2.2.2⟩)
    exact pr_askL g hc (fun J L2 hs hsm => R_chanceB hs hv)

theorem nR {x : Int32} : (∃ s, s < 4 ∧ x = nI s ∧ ¬ x < 0 ∧ ¬ 3 < x) ∨ ((x < 0 ∨ nI 4 ≤ x) ∧ ¬ (¬ x < 0 ∧ ¬ 3 < x)) := by
  by_cases h : ¬ x < 0 ∧ ¬ 3 < x
  · obtain ⟨s, hs, rfl⟩ := nat_N (h := 3) rfl (by decide) h
    exact Or.inl ⟨s, by omega, rfl, h⟩
  · refine Or.inr ⟨?_, h⟩
    rcases out_n h with h1 | h1
    · exact Or.inl h1
    · refine Or.inr ?_
      rw [Int32.lt_iff_toInt_lt] at h1
      rw [Int32.le_iff_toInt_le]
      have e3 : (3 : Int32).toInt = 3 := by decide
      have e4 : (nI 4).toInt = 4 := by decide
      omega
theorem fst_c {sem : Nat → Sem} {fr fa : Nat → Int32} {m : Nat} {day : Int32} {f a b : Nat → Int32} {z : Nat} (h : ∀ i, i < z → a i = b i) : fstP sem fr fa m day f a z = fstP sem fr fa m day f b z := by
  have key : ∀ n k, fstS sem fr fa m day f a z n k = fstS sem fr fa m day f b z n k := by
    intro n
    induction n with
    | zero => intro k; rfl
    | succ n ih =>
      intro k
      unfold fstS
      by_cases hk : k < z
      · rw [if_pos hk, if_pos hk, h k hk, ih]
      · rw [if_neg hk, if_neg hk]
  exact key 20 0
theorem tc5 {f : Nat → Int32} {v : Int32} : tChg f 5 v = upd f 0 v := rfl
theorem tc1 {f : Nat → Int32} {v : Int32} : tChg f 1 v = upd f 1 v := rfl
theorem tc6 {f : Nat → Int32} {v : Int32} : tChg f 6 v = upd f 2 (f 2 ^^^ ((1 : Int32) <<< (v &&& 31))) := rfl
theorem cntS_c {f g : Nat → Int32} : ∀ k, (∀ j, j < k → f j = g j) → cntS f k = cntS g k := by
  intro k
  induction k with
  | zero => intro _; rfl
  | succ k ih =>
    intro h
    unfold cntS
    rw [ih (fun j hj => h j (by omega)), h k (by omega)]
theorem lstS_c {f g : Nat → Int32} (h : ∀ j, f j = g j) : ∀ n k, lstS f n k = lstS g n k := by
  intro n
  induction n with
  | zero => intro k; rfl
  | succ n ih =>
    intro k
    unfold lstS
    rw [h k, ih]
set_option maxRecDepth 100000 in
set_option maxHeartbeats 1000000 in
theorem P_tells {X : En} (y x w : Int32) : Pr X 9 61 mX7_tells mX8_tells [.int y, .int x, .int w] := by
  intro q I L ⟨m, M, d, ri, tx, tn, sems, g⟩
  have hcs := g.cs
  have hM5 := g.2.1.M5
  obtain ⟨hday, hd⟩ := g.day
  have htx := g.2.2.2.2.2.2.2.2.2.2.2.1
  have hSh := g.2.2.2.2.2.2.2.2.2.2.2.2.2.1
  have h9 := g.2.2.2.2.2.2.2.2.1
  rcases hcase (x := x) hM5 with ⟨j, hj, rfl⟩ | ⟨hx, hnv⟩
  · rcases nR (x := y) with ⟨s, hrs, rfl, hy3⟩ | ⟨hy, hny⟩
    · by_cases hw : ¬ w < 0 ∧ ¬ 7 < w
      · rcases hSh s hrs with hsh | hsh
        · obtain ⟨hmi, h78⟩ := hsh
          exact pr_ask g (C_tellsM (X := X) (L := L) hcs hj hrs hmi ⟨hw.1, le_n.mpr hw.2⟩) (fun J L2 hs hsm => R_tellsN hs hj hrs hw (by rw [hsm.hi (a := 78) (by decide) (by decide)]; exact h78))
        · obtain ⟨h78, z, hz40, hs3, hso, hzz, h80, hit⟩ := hsh
          by_cases hz20 : z ≤ 20
          · have hnm : ¬ I (rowN s) 1 = -1 := by rw [hso]; rcases hs3 with e | e | e <;> rw [e] <;> decide
            obtain ⟨k, hk, rfl⟩ := nat_N (h := 7) rfl (by decide) hw
            have hk7 : k = 0 ∨ k = 1 ∨ k = 2 ∨ k = 3 ∨ k = 4 ∨ k = 5 ∨ k = 6 ∨ k = 7 := by omega
            rcases hk7 with e | e | e | e | e | e | e | e <;> subst e
            · have hc := C_tells0 (X := X) (L := L) hcs hj hrs hzz hz40 hnm hz20
              (try rw [hday] at hc)
              rw [fst_c hit] at hc
              refine pr_ask g hc (fun J L2 hs hsm => ?_)
              have j78 : J 78 s = 1 := by rw [hsm.hi (a := 78) (by decide) (by decide)]; exact h78
              have j80 : J 80 s = nI z := by rw [hsm.hi (a := 80) (by decide) (by decide)]; exact h80
              have j81 : (fun t => J 81 (40 * s + t)) = (fun t => I 81 (40 * s + t)) := by rw [hsm.hi (a := 81) (by decide) (by decide)]
              have hr := R_tells0 (X := X) (L := L2) (q := q) hs hd hj hrs j78 j80 hz20
              rw [j81] at hr
              exact hr
            · have hc := C_tells1 (X := X) (L := L) hcs hj hrs hzz hz40 hnm hz20
              (try rw [hday] at hc)
              rw [show bitS (fun v => fstP (sems ri) (I 2) (I 3) m (nI d) (tChg (I (5 + 2 + j)) 5 (nI v)) (I (rowN s + 1)) z) 6 = bitS (fun v => fstP (sems ri) (I 2) (I 3) m (nI d) (upd (TT I j) 0 (nI v)) (fun t => I 81 (40 * s + t)) z) 6 from bitS_c 6 (fun v _ => fst_c hit)] at hc
              refine pr_ask g hc (fun J L2 hs hsm => ?_)
              have j78 : J 78 s = 1 := by rw [hsm.hi (a := 78) (by decide) (by decide)]; exact h78
              have j80 : J 80 s = nI z := by rw [hsm.hi (a := 80) (by decide) (by decide)]; exact h80
              have j81 : (fun t => J 81 (40 * s + t)) = (fun t => I 81 (40 * s + t)) := by rw [hsm.hi (a := 81) (by decide) (by decide)]
              have hr := R_tells1 (X := X) (L := L2) (q := q) hs hd hj hrs j78 j80 hz20
              rw [j81] at hr
              exact hr
            · have hc := C_tells2 (X := X) (L := L) hcs hj hrs hzz hz40 hnm hz20
              (try rw [hday] at hc)
              rw [show bitS (fun v => fstP (sems ri) (I 2) (I 3) m (nI d) (tChg (I (5 + 2 + j)) 1 (nI v)) (I (rowN s + 1)) z) 10 = bitS (fun v => fstP (sems ri) (I 2) (I 3) m (nI d) (upd (TT I j) 1 (nI v)) (fun t => I 81 (40 * s + t)) z) 10 from bitS_c 10 (fun v _ => fst_c hit)] at hc
              refine pr_ask g hc (fun J L2 hs hsm => ?_)
              have j78 : J 78 s = 1 := by rw [hsm.hi (a := 78) (by decide) (by decide)]; exact h78
              have j80 : J 80 s = nI z := by rw [hsm.hi (a := 80) (by decide) (by decide)]; exact h80
              have j81 : (fun t => J 81 (40 * s + t)) = (fun t => I 81 (40 * s + t)) := by rw [hsm.hi (a := 81) (by decide) (by decide)]
              have hr := R_tells2 (X := X) (L := L2) (q := q) hs hd hj hrs j78 j80 hz20
              rw [j81] at hr
              exact hr
            · have hc := C_tells3 (X := X) (L := L) hcs hj hrs hzz hz40 hnm hz20
              (try rw [hday] at hc)
              rw [show cntS (fun v => fstP (sems ri) (I 2) (I 3) m (nI d) (upd (I (5 + 2 + j)) 4 (nI v)) (I (rowN s + 1)) z) 100 = cntS (fun v => fstP (sems ri) (I 2) (I 3) m (nI d) (upd (TT I j) 4 (nI v)) (fun t => I 81 (40 * s + t)) z) 100 from cntS_c 100 (fun v _ => fst_c hit)] at hc
              refine pr_ask g hc (fun J L2 hs hsm => ?_)
              have j78 : J 78 s = 1 := by rw [hsm.hi (a := 78) (by decide) (by decide)]; exact h78
              have j80 : J 80 s = nI z := by rw [hsm.hi (a := 80) (by decide) (by decide)]; exact h80
              have j81 : (fun t => J 81 (40 * s + t)) = (fun t => I 81 (40 * s + t)) := by rw [hsm.hi (a := 81) (by decide) (by decide)]
              have hr := R_tells3 (X := X) (L := L2) (q := q) hs hd hj hrs j78 j80 hz20
              rw [j81] at hr
              exact hr
            · have hc := C_tells4 (X := X) (L := L) hcs hj hrs hzz hz40 hnm hz20
              (try rw [hday] at hc)
              rw [show lstS (fun v => fstP (sems ri) (I 2) (I 3) m (nI d) (upd (I (5 + 2 + j)) 4 (nI v)) (I (rowN s + 1)) z) 100 0 = lstS (fun v => fstP (sems ri) (I 2) (I 3) m (nI d) (upd (TT I j) 4 (nI v)) (fun t => I 81 (40 * s + t)) z) 100 0 from lstS_c (fun v => fst_c hit) 100 0] at hc
              refine pr_ask g hc (fun J L2 hs hsm => ?_)
              have j78 : J 78 s = 1 := by rw [hsm.hi (a := 78) (by decide) (by decide)]; exact h78
              have j80 : J 80 s = nI z := by rw [hsm.hi (a := 80) (by decide) (by decide)]; exact h80
              have j81 : (fun t => J 81 (40 * s + t)) = (fun t => I 81 (40 * s + t)) := by rw [hsm.hi (a := 81) (by decide) (by decide)]
              have hr := R_tells4 (X := X) (L := L2) (q := q) hs hd hj hrs j78 j80 hz20
              rw [j81] at hr
              exact hr
            · have hc := C_tells5 (X := X) (L := L) hcs hj hrs hzz hz40 hnm hz20
              (try rw [hday] at hc)
              rw [show bitS (fun v => fstP (sems ri) (I 2) (I 3) m (nI d) (tChg (I (5 + 2 + j)) 6 (nI v)) (I (rowN s + 1)) z) 12 = bitS (fun g => fstP (sems ri) (I 2) (I 3) m (nI d) (upd (TT I j) 2 (TT I j 2 ^^^ ((1 : Int32) <<< (nI g &&& 31)))) (fun t => I 81 (40 * s + t)) z) 12 from bitS_c 12 (fun v _ => fst_c hit)] at hc
              refine pr_ask g hc (fun J L2 hs hsm => ?_)
              have j78 : J 78 s = 1 := by rw [hsm.hi (a := 78) (by decide) (by decide)]; exact h78
              have j80 : J 80 s = nI z := by rw [hsm.hi (a := 80) (by decide) (by decide)]; exact h80
              have j81 : (fun t => J 81 (40 * s + t)) = (fun t => I 81 (40 * s + t)) := by rw [hsm.hi (a := 81) (by decide) (by decide)]
              have hr := R_tells5 (X := X) (L := L2) (q := q) hs hd hj hrs j78 j80 hz20
              rw [j81] at hr
              exact hr
            · have hc := C_tells6 (X := X) (L := L) hcs hj hrs hzz hz40 hnm hz20 htx.1 htx.2.2.1 (fun i hi => (htx.2.2.2 i hi).1)
              (try rw [hday] at hc)
              rw [show bitS (fun i => fstP (sems i) (I 2) (I 3) m (nI d) (I (5 + 2 + j)) (I (rowN s + 1)) z) tx = bitS (fun i => fstP (sems i) (I 2) (I 3) m (nI d) (TT I j) (fun t => I 81 (40 * s + t)) z) tx from bitS_c tx (fun v _ => fst_c hit)] at hc
              refine pr_ask g hc (fun J L2 hs hsm => ?_)
              have j78 : J 78 s = 1 := by rw [hsm.hi (a := 78) (by decide) (by decide)]; exact h78
              have j80 : J 80 s = nI z := by rw [hsm.hi (a := 80) (by decide) (by decide)]; exact h80
              have j81 : (fun t => J 81 (40 * s + t)) = (fun t => I 81 (40 * s + t)) := by rw [hsm.hi (a := 81) (by decide) (by decide)]
              have hr := R_tells6 (X := X) (L := L2) (q := q) hs hd hj hrs j78 j80 hz20 (by rw [hsm.c (k := 3) (by omega)]; exact htx.2.1) htx.2.2.1 (by omega) (fun i hi => RT1.same hsm (htx.2.2.2 i hi).2)
              rw [j81] at hr
              exact hr
            · have hc := C_tells7 (X := X) (L := L) hcs hj hrs hzz hz40 hnm hz20
              (try rw [hday] at hc)
              rw [bitS_M (f := fun i => fstP (sems ri) (I 2) (I 3) m (nI d) (I (5 + 2 + i)) (I (rowN s + 1)) z) 5 hM5, show bitS (fun i => fstP (sems ri) (I 2) (I 3) m (nI d) (I (5 + 2 + i)) (I (rowN s + 1)) z) M = bitS (fun i => fstP (sems ri) (I 2) (I 3) m (nI d) (TT I i) (fun t => I 81 (40 * s + t)) z) M from bitS_c M (fun v _ => fst_c hit)] at hc
              refine pr_ask g hc (fun J L2 hs hsm => ?_)
              have j78 : J 78 s = 1 := by rw [hsm.hi (a := 78) (by decide) (by decide)]; exact h78
              have j80 : J 80 s = nI z := by rw [hsm.hi (a := 80) (by decide) (by decide)]; exact h80
              have j81 : (fun t => J 81 (40 * s + t)) = (fun t => I 81 (40 * s + t)) := by rw [hsm.hi (a := 81) (by decide) (by decide)]
              have hr := R_tells7 (X := X) (L := L2) (q := q) hs hd hj hrs j78 j80 hz20
              rw [j81] at hr
              exact hr
          · have hnm : ¬ I (rowN s) 1 = -1 := by rw [hso]; rcases hs3 with e | e | e <;> rw [e] <;> decide
            exact pr_ask g (C_tellsL (X := X) (L := L) hcs hj hrs hzz hz40 hnm (by omega) ⟨hw.1, le_n.mpr hw.2⟩) (fun J L2 hs hsm => R_tellsL hs hj hrs hw (by rw [hsm.hi (a := 78) (by decide) (by decide)]; exact h78) (by rw [hsm.hi (a := 80) (by decide) (by decide)]; exact h80) (by omega) hz40)
      · have hc := C_tellsW (X := X) (L := L) hcs hj hrs (w := w) (fun h => hw ⟨h.1, le_n.mp h.2⟩)
        (try rw [hday] at hc)
        exact pr_ask g hc (fun J L2 hs hsm => R_tellsB hs (fun h => hw h.2.2))
    · have hc := C_tellsS (X := X) (L := L) hcs hj (x := y) (w := w) hy
      (try rw [hday] at hc)
      exact pr_ask g hc (fun J L2 hs hsm => R_tellsB hs (fun h => hny h.1))
  · rcases nR (x := y) with ⟨s, hrs, rfl, hy3⟩ | ⟨hy, hny⟩
    · have hc := C_tellsH1 (X := X) (L := L) hcs hx hrs (w := w)
      (try rw [hday] at hc)
      exact pr_ask g hc (fun J L2 hs hsm => R_tellsB hs (fun h => hnv h.2.1))
    · have hc := C_tellsH2 (X := X) (L := L) hcs hx (z := y) (w := w) hy
      (try rw [hday] at hc)
      exact pr_ask g hc (fun J L2 hs hsm => R_tellsB hs (fun h => hnv h.2.1))
