/-! one call and the other: feed, force, house, day, tell, set -/
set_option maxRecDepth 100000 in
set_option maxHeartbeats 1000000 in
theorem P_feed {X : En} (x : Int32) : Pr X 9 3 mX7_feed mX8_feed [.int x] := by
  intro q I L ⟨m, M, d, ri, tx, tn, sems, g⟩
  have hcs := g.cs
  have hM5 := g.2.1.M5
  obtain ⟨hday, hd⟩ := g.day
  obtain ⟨a1, a2, a3, a4, a5, a6, a7, a8, a9, a10, a11, a12, a13, a14, a15⟩ := id g
  obtain ⟨t1, t2, t3, t4⟩ := a13
  obtain ⟨i, hi, hq2⟩ := a11
  have a11 : ∃ i, i < 6 ∧ q.2 = ruleN i := ⟨i, hi, hq2⟩
  by_cases hx : ¬ x < 0 ∧ ¬ 255 < x
  · have hx2 := rg_le.mp hx
    by_cases ht : tn < 160
    · refine ev_mono (C_feed (X := X) (L := L) hi hq2 hx2 t1 ht) (fun r S' I1 L1 R1 z => ?_)
      obtain ⟨rfl, rfl, rfl, rfl, rfl⟩ := z
      refine ⟨rfl, rfl, q, _, rfl, rfl, fun L2 => ?_⟩
      refine ev_mono (R_feed (X := X) (L := L2) (q := q) (I := (up2 (up2 I 63 tn x) 62 1 (nI (tn + 1)))) hx t2 ht) (fun r2 S2 I2 L3 R2 z => ?_)
      obtain ⟨rfl, rfl, rfl, rfl, rfl⟩ := z
      have fz : ∀ a k, a ≠ 63 → ¬ (a = 62 ∧ k = 1) → a ≠ 69 → ¬ (a = 66 ∧ k = 6) → (up2 (up2 (up2 (up2 I 63 tn x) 62 1 (nI (tn + 1))) 69 tn x) 66 6 (nI (tn + 1))) a k = I a k := fun a k h1 h2 h3 h4 => by rw [up2_nn _ _ h4, up2_n _ _ h3, up2_nn _ _ h2, up2_n _ _ h1]
      refine ⟨rfl, rfl, rfl, m, M, d, ri, tx, tn + 1, sems, ?_, ?_, ?_, ?_, ?_, ?_, ?_, ?_, ?_, ?_, ?_, ?_, ?_, ?_, ?_⟩
      · rw [fz _ _ (by omega) (by omega) (by omega) (by omega)]
        exact a1
      · have e2 : (up2 (up2 (up2 (up2 I 63 tn x) 62 1 (nI (tn + 1))) 69 tn x) 66 6 (nI (tn + 1))) 2 = I 2 := funext (fun k => fz _ _ (by omega) (by omega) (by omega) (by omega))
        have e3 : (up2 (up2 (up2 (up2 I 63 tn x) 62 1 (nI (tn + 1))) 69 tn x) 66 6 (nI (tn + 1))) 3 = I 3 := funext (fun k => fz _ _ (by omega) (by omega) (by omega) (by omega))
        rw [e2, e3]
        refine (a2.see ⟨fz _ _ (by omega) (by omega) (by omega) (by omega), fz _ _ (by omega) (by omega) (by omega) (by omega), fz _ _ (by omega) (by omega) (by omega) (by omega), fz _ _ (by omega) (by omega) (by omega) (by omega), fun k => ⟨fz _ _ (by omega) (by omega) (by omega) (by omega), fz _ _ (by omega) (by omega) (by omega) (by omega), fz _ _ (by omega) (by omega) (by omega) (by omega), fz _ _ (by omega) (by omega) (by omega) (by omega), fz _ _ (by omega) (by omega) (by omega) (by omega), fz _ _ (by omega) (by omega) (by omega) (by omega)⟩⟩).congr (fun j hj => funext (fun k => fz _ _ (by omega) (by omega) (by omega) (by omega)))
      · intro k hk
        rw [fz 2 k (by omega) (by omega) (by omega) (by omega)]
        exact a3 k hk
      · rw [fz _ _ (by omega) (by omega) (by omega) (by omega)]
        exact a4
      · rw [fz _ _ (by omega) (by omega) (by omega) (by omega)]
        exact a5
      · exact a6
      · rw [fz _ _ (by omega) (by omega) (by omega) (by omega)]
        exact a7
      · rw [fz _ _ (by omega) (by omega) (by omega) (by omega)]
        exact a8
      · exact a9
      · exact a10
      · exact a11
      · exact a12.d (fun a k h => fz _ _ (by unfold DTx at h; omega) (by unfold DTx at h; omega) (by unfold DTx at h; omega) (by unfold DTx at h; omega))
      · refine ⟨?_, up2_oo _ _ _ _, by omega, fun k hk => ?_⟩
        · rw [up2_n _ _ (by omega), up2_n _ _ (by omega), up2_oo]
        · have e63 : (up2 (up2 (up2 (up2 I 63 tn x) 62 1 (nI (tn + 1))) 69 tn x) 66 6 (nI (tn + 1))) 63 k = if k = tn then x else I 63 k := rfl
          have e69 : (up2 (up2 (up2 (up2 I 63 tn x) 62 1 (nI (tn + 1))) 69 tn x) 66 6 (nI (tn + 1))) 69 k = if k = tn then x else I 69 k := rfl
          rw [e63, e69]
          by_cases e : k = tn
          · rw [if_pos e, if_pos e]
            exact ⟨rfl, hx.1⟩
          · rw [if_neg e, if_neg e]
            exact t4 k (by omega)
      · exact fun s hs => (a14 s hs).d (fun a k h => fz _ _ (by unfold DSh at h; omega) (by unfold DSh at h; omega) (by unfold DSh at h; omega) (by unfold DSh at h; omega)) hs
      · exact a15.d (fun a k h => fz _ _ (by unfold DIm at h; omega) (by unfold DIm at h; omega) (by unfold DIm at h; omega) (by unfold DIm at h; omega)) (fun k hk => ⟨fz _ _ (by omega) (by omega) (by omega) (by omega), fz _ _ (by omega) (by omega) (by omega) (by omega)⟩) (fun j hj => fz _ _ (by omega) (by omega) (by omega) (by omega)) hM5 (Nat.le_refl _) (by omega) (Nat.le_refl _)
    · have h160 : tn = 160 := by omega
      subst h160
      exact pr_bad g (C_feedF (X := X) (L := L) hi hq2 hx2 t1) (fun J L2 hs hsm => R_feedF hx (by rw [hsm.c (k := 6) (by omega)]; exact t2))
  · exact pr_bad g (C_feedB (X := X) (L := L) (fun h => hx ⟨h.1, le_n.mp h.2⟩)) (fun J L2 hs hsm => R_feedB hx)

set_option maxRecDepth 100000 in
set_option maxHeartbeats 1000000 in
theorem P_force {X : En} (x : Int32) : Pr X 9 3 mX7_force mX8_force [.int x] := by
  intro q I L ⟨m, M, d, ri, tx, tn, sems, g⟩
  have hcs := g.cs
  have hM5 := g.2.1.M5
  obtain ⟨hday, hd⟩ := g.day
  obtain ⟨a1, a2, a3, a4, a5, a6, a7, a8, a9, a10, a11, a12, a13, a14, a15⟩ := id g
  obtain ⟨htx, ht3, htx6, hts⟩ := id a12
  by_cases hv : vH x tx
  · obtain ⟨i, hi, rfl⟩ := vH_mN (by omega) hv
    refine ev_mono (C_force (X := X) (L := L) htx htx6 hi) (fun r S' I1 L1 R1 z => ?_)
    obtain ⟨rfl, rfl, rfl, rfl, rfl⟩ := z
    refine ⟨rfl, rfl, (ruleN i, q.2), _, rfl, rfl, fun L2 => ?_⟩
    refine ev_mono (R_force (X := X) (L := L2) (q := (ruleN i, q.2)) (I := up2 I 5 3 (nI i)) ht3 htx6 hi) (fun r2 S2 I2 L3 R2 z => ?_)
    obtain ⟨rfl, rfl, rfl, rfl, rfl⟩ := z
    have fz : ∀ a k, ¬ (a = 5 ∧ k = 3) → ¬ (a = 66 ∧ k = 4) → (up2 (up2 I 5 3 (nI i)) 66 4 (nI i)) a k = I a k := fun a k h1 h2 => by rw [up2_nn _ _ h2, up2_nn _ _ h1]
    have hans : I 5 3 = (up2 I 5 3 (nI i)) 66 4 := by rw [up2_n _ _ (by omega), a7, a8]
    refine ⟨rfl, rfl, by rw [hans], m, M, d, i, tx, tn, sems, ?_, ?_, ?_, ?_, ?_, ?_, ?_, ?_, ?_, ?_, ?_, ?_, ?_, ?_, ?_⟩
    · rw [fz _ _ (by omega) (by omega)]
      exact a1
    · have e2 : (up2 (up2 I 5 3 (nI i)) 66 4 (nI i)) 2 = I 2 := funext (fun k => fz _ _ (by omega) (by omega))
      have e3 : (up2 (up2 I 5 3 (nI i)) 66 4 (nI i)) 3 = I 3 := funext (fun k => fz _ _ (by omega) (by omega))
      rw [e2, e3]
      have h1 : RSt (up2 I 5 3 (nI i)) m (I 2) (I 3) M (TT I) d (sems ri) := a2.see (see_66 (fun a k ha => up2_nn _ _ (fun e => by omega)))
      have h2 := h1.rule (i := i) (sem2 := sems i) (by omega) (hts i hi).2
      exact h2.congr (fun j hj => funext (fun k => fz _ _ (by omega) (by omega)))
    · intro k hk
      rw [fz 2 k (by omega) (by omega)]
      exact a3 k hk
    · rw [fz _ _ (by omega) (by omega)]
      exact a4
    · rw [fz _ _ (by omega) (by omega)]
      exact a5
    · exact a6
    · rw [up2_n _ _ (by omega), up2_oo]
    · exact up2_oo _ _ _ _
    · exact hi
    · rfl
    · exact a11
    · exact a12.d (fun a k h => fz _ _ (by unfold DTx at h; omega) (by unfold DTx at h; omega))
    · exact a13.d (fun a k h => fz _ _ (by unfold DTp at h; omega) (by unfold DTp at h; omega))
    · exact fun s hs => (a14 s hs).d (fun a k h => fz _ _ (by unfold DSh at h; omega) (by unfold DSh at h; omega)) hs
    · exact a15.d (fun a k h => fz _ _ (by unfold DIm at h; omega) (by unfold DIm at h; omega)) (fun k hk => ⟨fz _ _ (by omega) (by omega), fz _ _ (by omega) (by omega)⟩) (fun j hj => fz _ _ (by omega) (by omega)) hM5 (Nat.le_refl _) (by omega) (Nat.le_refl _)
  · by_cases hx0 : x < 0
    · exact pr_bad g (C_forceL (X := X) (L := L) htx hx0) (fun J L2 hs hsm => R_forceB (by rw [hsm.c (k := 3) (by omega)]; exact ht3) hv)
    · obtain ⟨i, hi, rfl⟩ := nI_of hx0
      have hge : tx ≤ i := by
        by_cases h : i < tx
        · exact absurd (vH_m h (by omega)) hv
        · omega
      exact pr_bad g (C_forceH (X := X) (L := L) htx (by simp (disch := omega) only [nI_leI]; exact hge)) (fun J L2 hs hsm => R_forceB (by rw [hsm.c (k := 3) (by omega)]; exact ht3) hv)

theorem hok_l {x w : Int32} : hok x w ↔ (¬ x < 0 ∧ x < 6 ∧ ¬ w < 0 ∧ w < 10) := hok_6
theorem pas_0 {sem : Nat → Sem} {fr fa : Nat → Int32} {m : Nat} {f : Nat → Int32} {day : Int32} : pasP sem fr fa m f day 0 = f 0 := by
  unfold pasP pasA
  rw [upd_ne (by decide), upd_ne (by decide), upd_ne (by decide)]
theorem hea_0 {sem : Nat → Sem} {fr fa : Nat → Int32} {m : Nat} {f : Nat → Int32} {g day : Int32} : heaP sem fr fa m f g day 0 = f 0 := by
  unfold heaP
  split
  · rfl
  · exact upd_ne (by decide)
theorem hea_kn {sem : Nat → Sem} {fr fa : Nat → Int32} {m : Nat} {f : Nat → Int32} {day : Int32} (hf : okT f) {g : Nat} (hg : g < 12) (hk : knI f (nI g) = 0) : knI (heaP sem fr fa m f (nI g) day) (nI g) = wlI sem fr fa m f (nI g) day := by
  have h01 : wlI sem fr fa m f (nI g) day = 0 ∨ wlI sem fr fa m f (nI g) day = 1 := bI_01 _
  by_cases h : wlI sem fr fa m f (nI g) day = 0
  · rw [h]
    unfold heaP
    rw [if_pos h]
    exact hk
  · rw [h01.resolve_left h]
    unfold heaP
    rw [if_neg h]
    obtain ⟨_, _, ⟨v, hv, ev⟩, _, _⟩ := hf
    unfold knI
    refine bI_t ?_
    rw [upd_o, ev, shl_2 hg, nI_or, bit_N hg, Nat.testBit_or, Nat.testBit_two_pow_self, Bool.or_true]
    decide
set_option maxRecDepth 100000 in
set_option maxHeartbeats 1000000 in
theorem P_house {X : En} (x w : Int32) : Pr X 9 3 mX7_house mX8_house [.int x, .int w] := by
  intro q I L ⟨m, M, d, ri, tx, tn, sems, g⟩
  have hcs := g.cs
  have hM5 := g.2.1.M5
  obtain ⟨hday, hd⟩ := g.day
  obtain ⟨a1, a2, a3, a4, a5, a6, a7, a8, a9, a10, a11, a12, a13, a14, a15⟩ := id g
  by_cases hv : hok x w
  · obtain ⟨kd, hkd, rfl⟩ := nat_N (h := 5) rfl (by decide) hv.1
    obtain ⟨nu, hnu, rfl⟩ := nat_N (h := 9) rfl (by decide) hv.2
    by_cases hM4 : M < 5
    · refine ev_mono (C_house (X := X) (L := L) hcs (hok_l.mp hv) hM4) (fun r S' I1 L1 R1 z => ?_)
      obtain ⟨rfl, rfl, rfl, rfl, rfl⟩ := z
      refine ⟨rfl, rfl, q, _, rfl, rfl, fun L2 => ?_⟩
      have j1 : ∀ a k, a ≠ 5 + 2 + M → ¬ (a = 5 ∧ k = 1) → (setO (up2 I 5 1 (nI (M + 1))) (5 + 2 + M) (cp5 (mkT (nI kd) (nI nu) 0 50 0) ((up2 I 5 1 (nI (M + 1))) (5 + 2 + M)))) a k = I a k := fun a k h1 h2 => by rw [setO_n h1, up2_nn _ _ h2]
      have hst : RSt (setO (up2 I 5 1 (nI (M + 1))) (5 + 2 + M) (cp5 (mkT (nI kd) (nI nu) 0 50 0) ((up2 I 5 1 (nI (M + 1))) (5 + 2 + M)))) m (I 2) (I 3) M (TT I) d (sems ri) := a2.see (see_66 (fun a k ha => j1 a k (by omega) (by omega)))
      refine ev_mono (R_house (X := X) (L := L2) (q := q) hst (k := kd) (n := nu) (by omega) (by omega) hM4) (fun r2 S2 I2 L3 R2 z => ?_)
      obtain ⟨rfl, rfl, rfl, rfl, rfl⟩ := z
      have fz : ∀ a k, a ≠ 5 + 2 + M → ¬ (a = 5 ∧ k = 1) → a ≠ 72 → a ≠ 73 → ¬ (a = 66 ∧ k = 13) → (house6 (setO (up2 I 5 1 (nI (M + 1))) (5 + 2 + M) (cp5 (mkT (nI kd) (nI nu) 0 50 0) ((up2 I 5 1 (nI (M + 1))) (5 + 2 + M)))) M (nI kd) (nI nu)) a k = I a k := fun a k h1 h2 h3 h4 h5 => by
        unfold house6
        rw [up2_nn _ _ h5, up2_n _ _ h4, up2_n _ _ h4, up2_n _ _ h4, up2_n _ _ h4, up2_n _ _ h3]
        exact j1 a k h1 h2
      have hh := hst.hous hM4 (k := kd) (n := nu) (by omega) (by omega)
      refine ⟨rfl, rfl, rfl, m, M + 1, d, ri, tx, tn, sems, ?_, ?_, ?_, ?_, ?_, ?_, ?_, ?_, ?_, ?_, ?_, ?_, ?_, ?_, ?_⟩
      · rw [fz _ _ (by omega) (by omega) (by omega) (by omega) (by omega)]
        exact a1
      · have e2 : (house6 (setO (up2 I 5 1 (nI (M + 1))) (5 + 2 + M) (cp5 (mkT (nI kd) (nI nu) 0 50 0) ((up2 I 5 1 (nI (M + 1))) (5 + 2 + M)))) M (nI kd) (nI nu)) 2 = I 2 := funext (fun k => fz _ _ (by omega) (by omega) (by omega) (by omega) (by omega))
        have e3 : (house6 (setO (up2 I 5 1 (nI (M + 1))) (5 + 2 + M) (cp5 (mkT (nI kd) (nI nu) 0 50 0) ((up2 I 5 1 (nI (M + 1))) (5 + 2 + M)))) M (nI kd) (nI nu)) 3 = I 3 := funext (fun k => fz _ _ (by omega) (by omega) (by omega) (by omega) (by omega))
        rw [e2, e3]
        refine hh.congr5 (fun j hj => ?_)
        by_cases e : j = M
        · subst e
          rw [uT_o]
          intro i hi
          show (house6 (setO (up2 I 5 1 (nI (j + 1))) (5 + 2 + j) (cp5 (mkT (nI kd) (nI nu) 0 50 0) ((up2 I 5 1 (nI (j + 1))) (5 + 2 + j)))) j (nI kd) (nI nu)) (5 + 2 + j) i = _
          unfold house6
          rw [up2_n _ _ (by omega), up2_n _ _ (by omega), up2_n _ _ (by omega), up2_n _ _ (by omega), up2_n _ _ (by omega), up2_n _ _ (by omega), setO_o]
          exact T5.cp i hi
        · rw [uT_n e]
          exact fun i _ => fz _ _ (by omega) (by omega) (by omega) (by omega) (by omega)
      · intro k hk
        rw [fz 2 k (by omega) (by omega) (by omega) (by omega) (by omega)]
        exact a3 k hk
      · unfold house6
        rw [up2_n _ _ (by omega), up2_n _ _ (by omega), up2_n _ _ (by omega), up2_n _ _ (by omega), up2_n _ _ (by omega), up2_n _ _ (by omega), setO_n (by omega)]
        exact up2_oo _ _ _ _
      · rw [fz _ _ (by omega) (by omega) (by omega) (by omega) (by omega)]
        exact a5
      · exact a6
      · rw [fz _ _ (by omega) (by omega) (by omega) (by omega) (by omega)]
        exact a7
      · rw [fz _ _ (by omega) (by omega) (by omega) (by omega) (by omega)]
        exact a8
      · exact a9
      · exact a10
      · exact a11
      · exact a12.d (fun a k h => fz _ _ (by unfold DTx at h; omega) (by unfold DTx at h; omega) (by unfold DTx at h; omega) (by unfold DTx at h; omega) (by unfold DTx at h; omega))
      · exact a13.d (fun a k h => fz _ _ (by unfold DTp at h; omega) (by unfold DTp at h; omega) (by unfold DTp at h; omega) (by unfold DTp at h; omega) (by unfold DTp at h; omega))
      · exact fun s hs => (a14 s hs).d (fun a k h => fz _ _ (by unfold DSh at h; omega) (by unfold DSh at h; omega) (by unfold DSh at h; omega) (by unfold DSh at h; omega) (by unfold DSh at h; omega)) hs
      · exact a15.d (fun a k h => fz _ _ (by unfold DIm at h; omega) (by unfold DIm at h; omega) (by unfold DIm at h; omega) (by unfold DIm at h; omega) (by unfold DIm at h; omega)) (fun k hk => ⟨fz _ _ (by omega) (by omega) (by omega) (by omega) (by omega), fz _ _ (by omega) (by omega) (by omega) (by omega) (by omega)⟩) (fun j hj => fz _ _ (by omega) (by omega) (by omega) (by omega) (by omega)) hM5 (Nat.le_refl _) (by omega) (Nat.le_refl _)
    · have h5 : M = 5 := by omega
      exact pr_bad g (C_houseF (X := X) (L := L) hcs (hok_l.mp hv) h5) (fun J L2 hs hsm => R_houseF hs (k := kd) (n := nu) (by omega) (by omega) h5)
  · exact pr_bad g (C_houseB (X := X) (L := L) (fun h => hv (hok_l.mpr h))) (fun J L2 hs hsm => R_houseB hv)

theorem dim_w {a k : Nat} (h : DIm a k) : W1 a = false := by
  rcases h with ⟨e, _⟩ | e | ⟨h1, h2⟩ | ⟨e, _⟩ | ⟨h1, h2⟩
  · subst e; decide
  · subst e; decide
  · have e : a = 14 ∨ a = 15 ∨ a = 16 ∨ a = 17 ∨ a = 18 := by omega
    rcases e with e | e | e | e | e <;> subst e <;> decide
  · subst e; decide
  · exact w1_hi a (by omega) (by omega)
set_option maxRecDepth 100000 in
set_option maxHeartbeats 1000000 in
theorem P_day {X : En} : Pr X 9 60 mX7_day mX8_day [] := by
  intro q I L ⟨m, M, d, ri, tx, tn, sems, g⟩
  have hcs := g.cs
  have hM5 := g.2.1.M5
  obtain ⟨hday, hd⟩ := g.day
  obtain ⟨a1, a2, a3, a4, a5, a6, a7, a8, a9, a10, a11, a12, a13, a14, a15⟩ := id g
  by_cases h9 : d < 999
  · have hlt : I 5 2 < 999 := by rw [a5, show (999 : Int32) = nI 999 from rfl]; simp (disch := omega) only [nI_ltI]; exact h9
    refine ev_mono (C_day (X := X) (L := L) hcs hlt) (fun r S' I1 L1 R1 z => ?_)
    obtain ⟨rfl, rfl, hA, rfl, rfl⟩ := z
    refine ⟨rfl, rfl, q, _, rfl, rfl, fun L2 => ?_⟩
    rw [a5] at hA
    have j1 : ∀ a, W1 a = false → a ≠ 4 → ¬ (7 ≤ a ∧ a < 7 + M) → ∀ k, ¬ (a = 5 ∧ k = 2) → I1 a k = I a k := fun a h1 h2 h3 k h4 => by
      rw [hA a h1 h2, up2_nn _ _ h4, stT_out (by omega)]
    have hst : RSt I1 m (I 2) (I 3) M (TT I) d (sems ri) := a2.see (see_66 (fun a k ha => j1 a (w1_hi a (by omega) (by omega)) (by omega) (by omega) k (by omega)))
    refine ev_mono (R_day (X := X) (L := L2) (q := q) hst h9) (fun r2 S2 I2 L3 R2 z => ?_)
    obtain ⟨rfl, rfl, rfl, hz, hf⟩ := z
    have fz : ∀ a k, W1 a = false → a ≠ 4 → ¬ (7 ≤ a ∧ a < 7 + M) → ¬ (a = 5 ∧ k = 2) → ¬ (a = 66 ∧ ((14 ≤ k ∧ k ≤ 28) ∨ k = 7)) → a ≠ 73 → I2 a k = I a k := fun a k h1 h2 h3 h4 h5 h6 => by
      rw [hf a k (fun e => by
        rcases e with ⟨e1, e2, e3⟩ | ⟨e1, e2⟩ | ⟨e1, e2⟩
        · exact h5 ⟨e1, Or.inl ⟨e2, e3⟩⟩
        · exact h5 ⟨e1, Or.inr e2⟩
        · exact h6 e1)]
      exact j1 a h1 h2 h3 k h4
    have hT : ∀ j, j < M → TT I2 j = pasP (sems ri) (I 2) (I 3) m (TT I j) (nI d) := fun j hj => funext (fun k => by
      show I2 (5 + 2 + j) k = _
      rw [hf _ _ (fun e => by rcases e with ⟨e1, _, _⟩ | ⟨e1, _⟩ | ⟨e1, _⟩ <;> omega), hA _ (wTT j (by omega)).1 (by omega), up2_n _ _ (by omega), stT_at hj]
      rfl)
    have hans : apS (fun j => I (5 + 2 + j)) M 5 - apS (fun j => pasP (sems ri) (I 2) (I 3) m (I (5 + 2 + j)) (I 5 2)) M 5 = pdS (sems ri) (I 2) (I 3) m (TT I) (nI d) M := by rw [a5, pdS_ap M (Nat.le_refl _), apS_big 5 hM5, apS_big 5 hM5]; rfl
    refine ⟨rfl, rfl, by rw [hans], m, M, d + 1, ri, tx, tn, sems, ?_, ?_, ?_, ?_, ?_, ?_, ?_, ?_, ?_, ?_, ?_, ?_, ?_, ?_, ?_⟩
    · rw [fz 1 3 (by decide) (by omega) (by omega) (by omega) (by omega) (by omega)]
      exact a1
    · have e2 : I2 2 = I 2 := funext (fun k => fz 2 k (by decide) (by omega) (by omega) (by omega) (by omega) (by omega))
      have e3 : I2 3 = I 3 := funext (fun k => fz 3 k (by decide) (by omega) (by omega) (by omega) (by omega) (by omega))
      rw [e2, e3]
      exact hz.congr hT
    · intro k hk
      rw [fz 2 k (by decide) (by omega) (by omega) (by omega) (by omega) (by omega)]
      exact a3 k hk
    · rw [fz 5 1 (by decide) (by omega) (by omega) (by omega) (by omega) (by omega)]
      exact a4
    · rw [hf 5 2 (fun e => by rcases e with ⟨e1, _, _⟩ | ⟨e1, _⟩ | ⟨e1, _⟩ <;> omega), hA 5 (by decide) (by decide), up2_oo]
      exact nI_1 d
    · omega
    · rw [fz 5 3 (by decide) (by omega) (by omega) (by omega) (by omega) (by omega)]
      exact a7
    · rw [fz 66 4 (by decide) (by omega) (by omega) (by omega) (by omega) (by omega)]
      exact a8
    · exact a9
    · exact a10
    · exact a11
    · exact a12.d (fun a k h => fz a k (by rcases h with ⟨e, _⟩ | ⟨e, _⟩ | e | e | ⟨_, _, e⟩ <;> first | exact e | (subst e; decide)) (by unfold DTx at h; omega) (by unfold DTx at h; omega) (by unfold DTx at h; omega) (by unfold DTx at h; omega) (by unfold DTx at h; omega))
    · exact a13.d (fun a k h => fz a k (by rcases h with ⟨e, _⟩ | e | ⟨e, _⟩ | e <;> (subst e; decide)) (by unfold DTp at h; omega) (by unfold DTp at h; omega) (by unfold DTp at h; omega) (by unfold DTp at h; omega) (by unfold DTp at h; omega))
    · exact fun s hs => (a14 s hs).d (fun a k h => fz a k (w1_hi a (by unfold DSh at h; omega) (by unfold DSh at h; omega)) (by unfold DSh at h; omega) (by unfold DSh at h; omega) (by unfold DSh at h; omega) (by unfold DSh at h; omega) (by unfold DSh at h; omega)) hs
    · refine a15.d (fun a k h => fz a k (dim_w h) (by unfold DIm at h; omega) (by unfold DIm at h; omega) (by unfold DIm at h; omega) (by unfold DIm at h; omega) (by unfold DIm at h; omega)) (fun k hk => ⟨fz 70 k (by decide) (by omega) (by omega) (by omega) (by omega) (by omega), fz 71 k (by decide) (by omega) (by omega) (by omega) (by omega) (by omega)⟩) (fun j hj => ?_) hM5 (Nat.le_refl _) (Nat.le_refl _) (Nat.le_refl _)
      show TT I2 j 0 = _
      rw [hT j hj]
      exact pas_0
  · have hc := C_dayE (X := X) (L := L) (I := I) (q := q) (by rw [a5, show (999 : Int32) = nI 999 from rfl]; simp (disch := omega) only [nI_ltI]; exact h9)
    (try rw [hday] at hc)
    exact pr_ask g hc (fun J L2 hs hsm => R_dayE hs (by omega))

set_option maxRecDepth 100000 in
set_option maxHeartbeats 1000000 in
theorem P_tell {X : En} (x w : Int32) : Pr X 9 60 mX7_tell mX8_tell [.int x, .int w] := by
  intro q I L ⟨m, M, d, ri, tx, tn, sems, g⟩
  have hcs := g.cs
  have hM5 := g.2.1.M5
  obtain ⟨hday, hd⟩ := g.day
  obtain ⟨a1, a2, a3, a4, a5, a6, a7, a8, a9, a10, a11, a12, a13, a14, a15⟩ := id g
  rcases hcase (x := x) hM5 with ⟨j, hj, rfl⟩ | ⟨hx, hnv⟩
  · by_cases hw : ¬ w < 0 ∧ ¬ 11 < w
    · obtain ⟨f, hf, rfl⟩ := nat_N (h := 11) rfl (by decide) hw
      by_cases hk : knI (I (5 + 2 + j)) (nI f) = 0
      · refine ev_mono (C_tell (X := X) (L := L) hcs hj (g := f) (by omega) hk) (fun r S' I1 L1 R1 z => ?_)
        obtain ⟨rfl, rfl, hA, rfl, rfl⟩ := z
        refine ⟨rfl, rfl, q, _, rfl, rfl, fun L2 => ?_⟩
        rw [a5] at hA ⊢
        have j1 : ∀ a, W1 a = false → a ≠ 4 → a ≠ 5 + 2 + j → ∀ k, I1 a k = I a k := fun a h1 h2 h3 k => by
          rw [hA a h1 h2, setO_n h3]
        have hst : RSt I1 m (I 2) (I 3) M (TT I) d (sems ri) := a2.see (see_66 (fun a k ha => j1 a (w1_hi a (by omega) (by omega)) (by omega) (by omega) k))
        refine ev_mono (R_tell (X := X) (L := L2) (q := q) hst hd hj (g := f) (by omega) hk) (fun r2 S2 I2 L3 R2 z => ?_)
        obtain ⟨rfl, rfl, rfl, hz, hf2⟩ := z
        have fz : ∀ a k, W1 a = false → a ≠ 4 → a ≠ 5 + 2 + j → ¬ (a = 66 ∧ ((14 ≤ k ∧ k ≤ 28) ∨ k = 7)) → a ≠ 73 → I2 a k = I a k := fun a k h1 h2 h3 h5 h6 => by
          rw [hf2 a k (fun e => by
            rcases e with ⟨e1, e2, e3⟩ | ⟨e1, e2⟩ | ⟨e1, e2⟩
            · exact h5 ⟨e1, Or.inl ⟨e2, e3⟩⟩
            · exact h5 ⟨e1, Or.inr e2⟩
            · exact h6 e1)]
          exact j1 a h1 h2 h3 k
        have hT : ∀ i, i < M → TT I2 i = uT (TT I) j (heaP (sems ri) (I 2) (I 3) m (I (5 + 2 + j)) (nI f) (nI d)) i := fun i hi => funext (fun k => by
          show I2 (5 + 2 + i) k = _
          by_cases e : i = j
          · subst e
            rw [uT_o, hf2 _ _ (fun e => by rcases e with ⟨e1, _, _⟩ | ⟨e1, _⟩ | ⟨e1, _⟩ <;> omega), hA _ (wTT i (by omega)).1 (by omega), setO_o]
          · rw [uT_n e, fz _ _ (wTT i (by omega)).1 (by omega) (by omega) (by omega) (by omega)]
            rfl)
        have hans : knI (heaP (sems ri) (I 2) (I 3) m (I (5 + 2 + j)) (nI f) (nI d)) (nI f) = wlI (sems ri) (I 2) (I 3) m (TT I j) (nI f) (nI d) := hea_kn (a2.ok hj) (by omega) hk
        refine ⟨rfl, rfl, by rw [hans], m, M, d, ri, tx, tn, sems, ?_, ?_, ?_, ?_, ?_, ?_, ?_, ?_, ?_, ?_, ?_, ?_, ?_, ?_, ?_⟩
        · rw [fz 1 3 (by decide) (by omega) (by omega) (by omega) (by omega)]
          exact a1
        · have e2 : I2 2 = I 2 := funext (fun k => fz 2 k (by decide) (by omega) (by omega) (by omega) (by omega))
          have e3 : I2 3 = I 3 := funext (fun k => fz 3 k (by decide) (by omega) (by omega) (by omega) (by omega))
          rw [e2, e3]
          exact hz.congr hT
        · intro k hk
          rw [fz 2 k (by decide) (by omega) (by omega) (by omega) (by omega)]
          exact a3 k hk
        · rw [fz 5 1 (by decide) (by omega) (by omega) (by omega) (by omega)]
          exact a4
        · rw [fz 5 2 (by decide) (by omega) (by omega) (by omega) (by omega)]
          exact a5
        · exact a6
        · rw [fz 5 3 (by decide) (by omega) (by omega) (by omega) (by omega)]
          exact a7
        · rw [fz 66 4 (by decide) (by omega) (by omega) (by omega) (by omega)]
          exact a8
        · exact a9
        · exact a10
        · exact a11
        · exact a12.d (fun a k h => fz a k (by rcases h with ⟨e, _⟩ | ⟨e, _⟩ | e | e | ⟨_, _, e⟩ <;> first | exact e | (subst e; decide)) (by unfold DTx at h; omega) (by unfold DTx at h; omega) (by unfold DTx at h; omega) (by unfold DTx at h; omega))
        · exact a13.d (fun a k h => fz a k (by rcases h with ⟨e, _⟩ | e | ⟨e, _⟩ | e <;> (subst e; decide)) (by unfold DTp at h; omega) (by unfold DTp at h; omega) (by unfold DTp at h; omega) (by unfold DTp at h; omega))
        · exact fun s hs => (a14 s hs).d (fun a k h => fz a k (w1_hi a (by unfold DSh at h; omega) (by unfold DSh at h; omega)) (by unfold DSh at h; omega) (by unfold DSh at h; omega) (by unfold DSh at h; omega) (by unfold DSh at h; omega)) hs
        · refine a15.d (fun a k h => fz a k (dim_w h) (by unfold DIm at h; omega) (by unfold DIm at h; omega) (by unfold DIm at h; omega) (by unfold DIm at h; omega)) (fun k hk => ⟨fz 70 k (by decide) (by omega) (by omega) (by omega) (by omega), fz 71 k (by decide) (by omega) (by omega) (by omega) (by omega)⟩) (fun i hi => ?_) hM5 (Nat.le_refl _) (Nat.le_refl _) (Nat.le_refl _)
          show TT I2 i 0 = _
          rw [hT i hi]
          by_cases e : i = j
          · subst e; rw [uT_o]; exact hea_0
          · rw [uT_n e]; rfl
      · have hc := C_tellK (X := X) (L := L) hcs hj (g := f) (by omega) hk
        (try rw [hday] at hc)
        exact pr_ask g hc (fun J L2 hs hsm => R_tellK hs hd hj (g := f) (by omega) hk)
    · have hc := C_tellF (X := X) (L := L) hcs hj (w := w) (fun h => hw ⟨h.1, lt12.mp h.2⟩)
      (try rw [hday] at hc)
      exact pr_ask g hc (fun J L2 hs hsm => R_tellB hs (fun h => hw h.2))
  · have hc := C_tellN (X := X) (L := L) hcs hx (w := w)
    (try rw [hday] at hc)
    exact pr_ask g hc (fun J L2 hs hsm => R_tellB hs (fun h => hnv h.1))

set_option maxRecDepth 100000 in
set_option maxHeartbeats 1000000 in
theorem P_set {X : En} (w x v : Int32) : Pr X 9 62 mX7_set mX8_set [.int w, .int x, .int v] := by
  intro q I L ⟨m, M, d, ri, tx, tn, sems, g⟩
  have hcs := g.cs
  have hM5 := g.2.1.M5
  obtain ⟨hday, hd⟩ := g.day
  obtain ⟨a1, a2, a3, a4, a5, a6, a7, a8, a9, a10, a11, a12, a13, a14, a15⟩ := id g
  by_cases h0 : w = 0
  · subst h0
    rcases hcase (x := x) hM5 with ⟨j, hj, rfl⟩ | ⟨hx, hnv⟩
    · by_cases hv : ¬ v < 0 ∧ ¬ 999 < v
      · have hv2 := rg_le.mp hv
        obtain ⟨dv, hdv, rfl⟩ := nat_N (h := 999) rfl (by decide) hv
        refine ev_mono (C_set0 (X := X) (L := L) hcs hj hv2) (fun r S' I1 L1 R1 z => ?_)
        obtain ⟨rfl, rfl, rfl, rfl, rfl⟩ := z
        refine ⟨rfl, rfl, q, _, rfl, rfl, fun L2 => ?_⟩
        have hst : RSt (up2 I 5 2 (nI dv)) m (I 2) (I 3) M (TT I) d (sems ri) := a2.see (see_66 (fun a k ha => up2_nn _ _ (fun e => by omega)))
        refine ev_mono (R_set0 (X := X) (L := L2) (q := q) hst hd (x := nI j) hv) (fun r2 S2 I2 L3 R2 z => ?_)
        obtain ⟨rfl, rfl, rfl, hf2⟩ := z
        have sm := eB_same hf2
        have h2 := (hst.setDay dv).see sm.sees
        have fz : ∀ a k, Rl a k → ¬ (a = 5 ∧ k = 2) → ¬ (a = 66 ∧ k = 7) → I2 a k = I a k := fun a k h1 h2 h3 => by rw [sm a k h1, up2_nn _ _ h3, up2_nn _ _ h2]
        refine ⟨rfl, rfl, by rw [a5], m, M, dv, ri, tx, tn, sems, ?_, ?_, ?_, ?_, ?_, ?_, ?_, ?_, ?_, ?_, ?_, ?_, ?_, ?_, ?_⟩
        · rw [fz 1 3 ⟨by decide, by decide, by decide, by omega⟩ (by omega) (by omega)]
          exact a1
        · have e2 : I2 2 = I 2 := funext (fun k => fz 2 k ⟨by decide, by decide, by decide, by omega⟩ (by omega) (by omega))
          have e3 : I2 3 = I 3 := funext (fun k => fz 3 k ⟨by decide, by decide, by decide, by omega⟩ (by omega) (by omega))
          rw [e2, e3]
          exact h2.congr (fun i hi => funext (fun k => fz _ _ ⟨(wTT i (by omega)).1, by omega, by omega, by omega⟩ (by omega) (by omega)))
        · intro k hk
          rw [fz 2 k ⟨by decide, by decide, by decide, by omega⟩ (by omega) (by omega)]
          exact a3 k hk
        · rw [fz 5 1 ⟨by decide, by decide, by decide, by omega⟩ (by omega) (by omega)]
          exact a4
        · rw [sm 5 2 ⟨by decide, by decide, by decide, by omega⟩, up2_nn _ _ (fun e => by omega), up2_oo]
        · omega
        · rw [fz 5 3 ⟨by decide, by decide, by decide, by omega⟩ (by omega) (by omega)]
          exact a7
        · rw [fz 66 4 ⟨by decide, by decide, by decide, by omega⟩ (by omega) (by omega)]
          exact a8
        · exact a9
        · exact a10
        · exact a11
        · exact a12.d (fun a k h => fz a k ⟨(by rcases h with ⟨e, _⟩ | ⟨e, _⟩ | e | e | ⟨_, _, e⟩ <;> first | exact e | (subst e; decide)), by unfold DTx at h; omega, by unfold DTx at h; omega, by unfold DTx at h; omega⟩ (by unfold DTx at h; omega) (by unfold DTx at h; omega))
        · exact a13.d (fun a k h => fz a k ⟨(by rcases h with ⟨e, _⟩ | e | ⟨e, _⟩ | e <;> (subst e; decide)), by unfold DTp at h; omega, by unfold DTp at h; omega, by unfold DTp at h; omega⟩ (by unfold DTp at h; omega) (by unfold DTp at h; omega))
        · exact fun s hs => (a14 s hs).d (fun a k h => fz a k ⟨(w1_hi a (by unfold DSh at h; omega) (by unfold DSh at h; omega)), by unfold DSh at h; omega, by unfold DSh at h; omega, by unfold DSh at h; omega⟩ (by unfold DSh at h; omega) (by unfold DSh at h; omega)) hs
        · refine a15.d (fun a k h => fz a k ⟨(dim_w h), by unfold DIm at h; omega, by unfold DIm at h; omega, by unfold DIm at h; omega⟩ (by unfold DIm at h; omega) (by unfold DIm at h; omega)) (fun k hk => ⟨fz 70 k ⟨by decide, by decide, by decide, by omega⟩ (by omega) (by omega), fz 71 k ⟨by decide, by decide, by decide, by omega⟩ (by omega) (by omega)⟩) (fun i hi => ?_) hM5 (Nat.le_refl _) (Nat.le_refl _) (Nat.le_refl _)
          exact fz _ _ ⟨(wTT i (by omega)).1, by omega, by omega, by omega⟩ (by omega) (by omega)
      · have hc := C_setV0 (X := X) (L := L) hcs hj (v := v) (fun h => hv (rg_le.mpr h))
        (try rw [hday] at hc)
        exact pr_ask g hc (fun J L2 hs hsm => R_setV0 hs (x := nI j) hv)
    · by_cases hv : ¬ v < 0 ∧ ¬ 999 < v
      · have hv2 := rg_le.mp hv
        obtain ⟨dv, hdv, rfl⟩ := nat_N (h := 999) rfl (by decide) hv
        refine ev_mono (C_set0n (X := X) (L := L) hcs hx hv2) (fun r S' I1 L1 R1 z => ?_)
        obtain ⟨rfl, rfl, rfl, rfl, rfl⟩ := z
        refine ⟨rfl, rfl, q, _, rfl, rfl, fun L2 => ?_⟩
        have hst : RSt (up2 I 5 2 (nI dv)) m (I 2) (I 3) M (TT I) d (sems ri) := a2.see (see_66 (fun a k ha => up2_nn _ _ (fun e => by omega)))
        refine ev_mono (R_set0 (X := X) (L := L2) (q := q) hst hd (x := x) hv) (fun r2 S2 I2 L3 R2 z => ?_)
        obtain ⟨rfl, rfl, rfl, hf2⟩ := z
        have sm := eB_same hf2
        have h2 := (hst.setDay dv).see sm.sees
        have fz : ∀ a k, Rl a k → ¬ (a = 5 ∧ k = 2) → ¬ (a = 66 ∧ k = 7) → I2 a k = I a k := fun a k h1 h2 h3 => by rw [sm a k h1, up2_nn _ _ h3, up2_nn _ _ h2]
        refine ⟨rfl, rfl, by rw [a5], m, M, dv, ri, tx, tn, sems, ?_, ?_, ?_, ?_, ?_, ?_, ?_, ?_, ?_, ?_, ?_, ?_, ?_, ?_, ?_⟩
        · rw [fz 1 3 ⟨by decide, by decide, by decide, by omega⟩ (by omega) (by omega)]
          exact a1
        · have e2 : I2 2 = I 2 := funext (fun k => fz 2 k ⟨by decide, by decide, by decide, by omega⟩ (by omega) (by omega))
          have e3 : I2 3 = I 3 := funext (fun k => fz 3 k ⟨by decide, by decide, by decide, by omega⟩ (by omega) (by omega))
          rw [e2, e3]
          exact h2.congr (fun i hi => funext (fun k => fz _ _ ⟨(wTT i (by omega)).1, by omega, by omega, by omega⟩ (by omega) (by omega)))
        · intro k hk
          rw [fz 2 k ⟨by decide, by decide, by decide, by omega⟩ (by omega) (by omega)]
          exact a3 k hk
        · rw [fz 5 1 ⟨by decide, by decide, by decide, by omega⟩ (by omega) (by omega)]
          exact a4
        · rw [sm 5 2 ⟨by decide, by decide, by decide, by omega⟩, up2_nn _ _ (fun e => by omega), up2_oo]
        · omega
        · rw [fz 5 3 ⟨by decide, by decide, by decide, by omega⟩ (by omega) (by omega)]
          exact a7
        · rw [fz 66 4 ⟨by decide, by decide, by decide, by omega⟩ (by omega) (by omega)]
          exact a8
        · exact a9
        · exact a10
        · exact a11
        · exact a12.d (fun a k h => fz a k ⟨(by rcases h with ⟨e, _⟩ | ⟨e, _⟩ | e | e | ⟨_, _, e⟩ <;> first | exact e | (subst e; decide)), by unfold DTx at h; omega, by unfold DTx at h; omega, by unfold DTx at h; omega⟩ (by unfold DTx at h; omega) (by unfold DTx at h; omega))
        · exact a13.d (fun a k h => fz a k ⟨(by rcases h with ⟨e, _⟩ | e | ⟨e, _⟩ | e <;> (subst e; decide)), by unfold DTp at h; omega, by unfold DTp at h; omega, by unfold DTp at h; omega⟩ (by unfold DTp at h; omega) (by unfold DTp at h; omega))
        · exact fun s hs => (a14 s hs).d (fun a k h => fz a k ⟨(w1_hi a (by unfold DSh at h; omega) (by unfold DSh at h; omega)), by unfold DSh at h; omega, by unfold DSh at h; omega, by unfold DSh at h; omega⟩ (by unfold DSh at h; omega) (by unfold DSh at h; omega)) hs
        · refine a15.d (fun a k h => fz a k ⟨(dim_w h), by unfold DIm at h; omega, by unfold DIm at h; omega, by unfold DIm at h; omega⟩ (by unfold DIm at h; omega) (by unfold DIm at h; omega)) (fun k hk => ⟨fz 70 k ⟨by decide, by decide, by decide, by omega⟩ (by omega) (by omega), fz 71 k ⟨by decide, by decide, by decide, by omega⟩ (by omega) (by omega)⟩) (fun i hi => ?_) hM5 (Nat.le_refl _) (Nat.le_refl _) (Nat.le_refl _)
          exact fz _ _ ⟨(wTT i (by omega)).1, by omega, by omega, by omega⟩ (by omega) (by omega)
      · have hc := C_setV0n (X := X) (L := L) hcs hx (v := v) (fun h => hv (rg_le.mpr h))
        (try rw [hday] at hc)
        exact pr_ask g hc (fun J L2 hs hsm => R_setV0 hs (x := x) hv)
  · rcases hcase (x := x) hM5 with ⟨j, hj, rfl⟩ | ⟨hx, hnv⟩
    · by_cases hw : ¬ w < 0 ∧ ¬ 4 < w
      · obtain ⟨k, hk, rfl⟩ := nat_N (h := 4) rfl (by decide) hw
        have hk0 : k ≠ 0 := fun e => h0 (by rw [e]; rfl)
        have hk4 : k = 1 ∨ k = 2 ∨ k = 3 ∨ k = 4 := by omega
        rcases hk4 with e | e | e | e <;> subst e
        · by_cases hv : ¬ v < 0 ∧ ¬ 9 < v
          · have hv2 := rg_le.mp hv
            obtain ⟨v0, hv0, rfl⟩ := nat_N (h := 9) rfl (by decide) hv
            refine ev_mono (C_set1 (X := X) (L := L) hcs hj hv2) (fun r S' I1 L1 R1 z => ?_)
            obtain ⟨rfl, rfl, rfl, rfl, rfl⟩ := z
            refine ⟨rfl, rfl, q, _, rfl, rfl, fun L2 => ?_⟩
            have hst : RSt (setO I (5 + 2 + j) (tChg (I (5 + 2 + j)) 1 (nI v0))) m (I 2) (I 3) M (TT I) d (sems ri) := a2.see (see_66 (fun a k ha => by rw [setO_n (by omega)]))
            refine ev_mono (R_set1 (X := X) (L := L2) (q := q) hst hd hj hv) (fun r2 S2 I2 L3 R2 z => ?_)
            obtain ⟨rfl, rfl, rfl, hf2⟩ := z
            have sm := eB_same hf2
            have hok : okT (upd (TT I j) 1 (nI v0)) := ⟨(a2.ok hj).1, ⟨v0, by omega, rfl⟩, (a2.ok hj).2.2⟩
            have h2 := (hst.row hj (i := 0) (v := nI v0) (by decide) hok).see sm.sees
            have fz : ∀ a k, Rl a k → a ≠ 5 + 2 + j → a ≠ 73 → I2 a k = I a k := fun a k h1 h2 h3 => by rw [sm a k h1, up2_n _ _ h3, setO_n h2]
            have hT : ∀ i, i < M → TT I2 i = uT (TT I) j (upd (TT I j) 1 (nI v0)) i := fun i hi => funext (fun k => by
              show I2 (5 + 2 + i) k = _
              by_cases e : i = j
              · subst e
                rw [uT_o, sm _ _ ⟨(wTT i (by omega)).1, by omega, by omega, by omega⟩, up2_n _ _ (by omega), setO_o]
                rfl
              · rw [uT_n e, fz _ _ ⟨(wTT i (by omega)).1, by omega, by omega, by omega⟩ (by omega) (by omega)]
                rfl)
            refine ⟨rfl, rfl, rfl, m, M, d, ri, tx, tn, sems, ?_, ?_, ?_, ?_, ?_, ?_, ?_, ?_, ?_, ?_, ?_, ?_, ?_, ?_, ?_⟩
            · rw [fz 1 3 ⟨by decide, by decide, by decide, by omega⟩ (by omega) (by omega)]
              exact a1
            · have e2 : I2 2 = I 2 := funext (fun k => fz 2 k ⟨by decide, by decide, by decide, by omega⟩ (by omega) (by omega))
              have e3 : I2 3 = I 3 := funext (fun k => fz 3 k ⟨by decide, by decide, by decide, by omega⟩ (by omega) (by omega))
              rw [e2, e3]
              exact h2.congr hT
            · intro k hk
              rw [fz 2 k ⟨by decide, by decide, by decide, by omega⟩ (by omega) (by omega)]
              exact a3 k hk
            · rw [fz 5 1 ⟨by decide, by decide, by decide, by omega⟩ (by omega) (by omega)]
              exact a4
            · rw [fz 5 2 ⟨by decide, by decide, by decide, by omega⟩ (by omega) (by omega)]
              exact a5
            · omega
            · rw [fz 5 3 ⟨by decide, by decide, by decide, by omega⟩ (by omega) (by omega)]
              exact a7
            · rw [fz 66 4 ⟨by decide, by decide, by decide, by omega⟩ (by omega) (by omega)]
              exact a8
            · exact a9
            · exact a10
            · exact a11
            · exact a12.d (fun a k h => fz a k ⟨(by rcases h with ⟨e, _⟩ | ⟨e, _⟩ | e | e | ⟨_, _, e⟩ <;> first | exact e | (subst e; decide)), by unfold DTx at h; omega, by unfold DTx at h; omega, by unfold DTx at h; omega⟩ (by unfold DTx at h; omega) (by unfold DTx at h; omega))
            · exact a13.d (fun a k h => fz a k ⟨(by rcases h with ⟨e, _⟩ | e | ⟨e, _⟩ | e <;> (subst e; decide)), by unfold DTp at h; omega, by unfold DTp at h; omega, by unfold DTp at h; omega⟩ (by unfold DTp at h; omega) (by unfold DTp at h; omega))
            · exact fun s hs => (a14 s hs).d (fun a k h => fz a k ⟨(w1_hi a (by unfold DSh at h; omega) (by unfold DSh at h; omega)), by unfold DSh at h; omega, by unfold DSh at h; omega, by unfold DSh at h; omega⟩ (by unfold DSh at h; omega) (by unfold DSh at h; omega)) hs
            · refine a15.d (fun a k h => fz a k ⟨(dim_w h), by unfold DIm at h; omega, by unfold DIm at h; omega, by unfold DIm at h; omega⟩ (by unfold DIm at h; omega) (by unfold DIm at h; omega)) (fun k hk => ⟨fz 70 k ⟨by decide, by decide, by decide, by omega⟩ (by omega) (by omega), fz 71 k ⟨by decide, by decide, by decide, by omega⟩ (by omega) (by omega)⟩) (fun i hi => ?_) hM5 (Nat.le_refl _) (Nat.le_refl _) (Nat.le_refl _)
              show TT I2 i 0 = _
              rw [hT i hi]
              by_cases e : i = j
              · subst e; rw [uT_o]; exact upd_ne (by decide)
              · rw [uT_n e]; rfl
          · have hc := C_setV1 (X := X) (L := L) hcs hj (v := v) (fun h => hv (rg_le.mpr h))
            (try rw [hday] at hc)
            exact pr_ask g hc (fun J L2 hs hsm => R_setV1 hs hj hv)
        · by_cases hv : ¬ v < 0 ∧ ¬ 4095 < v
          · have hv2 := rg_le.mp hv
            obtain ⟨v0, hv0, rfl⟩ := nat_N (h := 4095) rfl (by decide) hv
            refine ev_mono (C_set2 (X := X) (L := L) hcs hj hv2) (fun r S' I1 L1 R1 z => ?_)
            obtain ⟨rfl, rfl, rfl, rfl, rfl⟩ := z
            refine ⟨rfl, rfl, q, _, rfl, rfl, fun L2 => ?_⟩
            have hst : RSt (setO I (5 + 2 + j) (tChg (I (5 + 2 + j)) 2 (nI v0))) m (I 2) (I 3) M (TT I) d (sems ri) := a2.see (see_66 (fun a k ha => by rw [setO_n (by omega)]))
            refine ev_mono (R_set2 (X := X) (L := L2) (q := q) hst hd hj hv) (fun r2 S2 I2 L3 R2 z => ?_)
            obtain ⟨rfl, rfl, rfl, hf2⟩ := z
            have sm := eB_same hf2
            have hok : okT (upd (TT I j) 2 (nI v0)) := ⟨(a2.ok hj).1, (a2.ok hj).2.1, ⟨v0, by omega, rfl⟩, (a2.ok hj).2.2.2⟩
            have h2 := (hst.row hj (i := 1) (v := nI v0) (by decide) hok).see sm.sees
            have fz : ∀ a k, Rl a k → a ≠ 5 + 2 + j → a ≠ 73 → I2 a k = I a k := fun a k h1 h2 h3 => by rw [sm a k h1, up2_n _ _ h3, setO_n h2]
            have hT : ∀ i, i < M → TT I2 i = uT (TT I) j (upd (TT I j) 2 (nI v0)) i := fun i hi => funext (fun k => by
              show I2 (5 + 2 + i) k = _
              by_cases e : i = j
              · subst e
                rw [uT_o, sm _ _ ⟨(wTT i (by omega)).1, by omega, by omega, by omega⟩, up2_n _ _ (by omega), setO_o]
                rfl
              · rw [uT_n e, fz _ _ ⟨(wTT i (by omega)).1, by omega, by omega, by omega⟩ (by omega) (by omega)]
                rfl)
            refine ⟨rfl, rfl, rfl, m, M, d, ri, tx, tn, sems, ?_, ?_, ?_, ?_, ?_, ?_, ?_, ?_, ?_, ?_, ?_, ?_, ?_, ?_, ?_⟩
            · rw [fz 1 3 ⟨by decide, by decide, by decide, by omega⟩ (by omega) (by omega)]
              exact a1
            · have e2 : I2 2 = I 2 := funext (fun k => fz 2 k ⟨by decide, by decide, by decide, by omega⟩ (by omega) (by omega))
              have e3 : I2 3 = I 3 := funext (fun k => fz 3 k ⟨by decide, by decide, by decide, by omega⟩ (by omega) (by omega))
              rw [e2, e3]
              exact h2.congr hT
            · intro k hk
              rw [fz 2 k ⟨by decide, by decide, by decide, by omega⟩ (by omega) (by omega)]
              exact a3 k hk
            · rw [fz 5 1 ⟨by decide, by decide, by decide, by omega⟩ (by omega) (by omega)]
              exact a4
            · rw [fz 5 2 ⟨by decide, by decide, by decide, by omega⟩ (by omega) (by omega)]
              exact a5
            · omega
            · rw [fz 5 3 ⟨by decide, by decide, by decide, by omega⟩ (by omega) (by omega)]
              exact a7
            · rw [fz 66 4 ⟨by decide, by decide, by decide, by omega⟩ (by omega) (by omega)]
              exact a8
            · exact a9
            · exact a10
            · exact a11
            · exact a12.d (fun a k h => fz a k ⟨(by rcases h with ⟨e, _⟩ | ⟨e, _⟩ | e | e | ⟨_, _, e⟩ <;> first | exact e | (subst e; decide)), by unfold DTx at h; omega, by unfold DTx at h; omega, by unfold DTx at h; omega⟩ (by unfold DTx at h; omega) (by unfold DTx at h; omega))
            · exact a13.d (fun a k h => fz a k ⟨(by rcases h with ⟨e, _⟩ | e | ⟨e, _⟩ | e <;> (subst e; decide)), by unfold DTp at h; omega, by unfold DTp at h; omega, by unfold DTp at h; omega⟩ (by unfold DTp at h; omega) (by unfold DTp at h; omega))
            · exact fun s hs => (a14 s hs).d (fun a k h => fz a k ⟨(w1_hi a (by unfold DSh at h; omega) (by unfold DSh at h; omega)), by unfold DSh at h; omega, by unfold DSh at h; omega, by unfold DSh at h; omega⟩ (by unfold DSh at h; omega) (by unfold DSh at h; omega)) hs
            · refine a15.d (fun a k h => fz a k ⟨(dim_w h), by unfold DIm at h; omega, by unfold DIm at h; omega, by unfold DIm at h; omega⟩ (by unfold DIm at h; omega) (by unfold DIm at h; omega)) (fun k hk => ⟨fz 70 k ⟨by decide, by decide, by decide, by omega⟩ (by omega) (by omega), fz 71 k ⟨by decide, by decide, by decide, by omega⟩ (by omega) (by omega)⟩) (fun i hi => ?_) hM5 (Nat.le_refl _) (Nat.le_refl _) (Nat.le_refl _)
              show TT I2 i 0 = _
              rw [hT i hi]
              by_cases e : i = j
              · subst e; rw [uT_o]; exact upd_ne (by decide)
              · rw [uT_n e]; rfl
          · have hc := C_setV2 (X := X) (L := L) hcs hj (v := v) (fun h => hv (rg_le.mpr h))
            (try rw [hday] at hc)
            exact pr_ask g hc (fun J L2 hs hsm => R_setV2 hs hj hv)
        · by_cases hv : ¬ v < 0 ∧ ¬ 99 < v
          · have hv2 := rg_le.mp hv
            obtain ⟨v0, hv0, rfl⟩ := nat_N (h := 99) rfl (by decide) hv
            refine ev_mono (C_set3 (X := X) (L := L) hcs hj hv2) (fun r S' I1 L1 R1 z => ?_)
            obtain ⟨rfl, rfl, rfl, rfl, rfl⟩ := z
            refine ⟨rfl, rfl, q, _, rfl, rfl, fun L2 => ?_⟩
            have hst : RSt (setO I (5 + 2 + j) (tChg (I (5 + 2 + j)) 3 (nI v0))) m (I 2) (I 3) M (TT I) d (sems ri) := a2.see (see_66 (fun a k ha => by rw [setO_n (by omega)]))
            refine ev_mono (R_set3 (X := X) (L := L2) (q := q) hst hd hj hv) (fun r2 S2 I2 L3 R2 z => ?_)
            obtain ⟨rfl, rfl, rfl, hf2⟩ := z
            have sm := eB_same hf2
            have hok : okT (upd (TT I j) 3 (nI v0)) := ⟨(a2.ok hj).1, (a2.ok hj).2.1, (a2.ok hj).2.2.1, ⟨v0, by omega, rfl⟩, (a2.ok hj).2.2.2.2⟩
            have h2 := (hst.row hj (i := 2) (v := nI v0) (by decide) hok).see sm.sees
            have fz : ∀ a k, Rl a k → a ≠ 5 + 2 + j → a ≠ 73 → I2 a k = I a k := fun a k h1 h2 h3 => by rw [sm a k h1, up2_n _ _ h3, setO_n h2]
            have hT : ∀ i, i < M → TT I2 i = uT (TT I) j (upd (TT I j) 3 (nI v0)) i := fun i hi => funext (fun k => by
              show I2 (5 + 2 + i) k = _
              by_cases e : i = j
              · subst e
                rw [uT_o, sm _ _ ⟨(wTT i (by omega)).1, by omega, by omega, by omega⟩, up2_n _ _ (by omega), setO_o]
                rfl
              · rw [uT_n e, fz _ _ ⟨(wTT i (by omega)).1, by omega, by omega, by omega⟩ (by omega) (by omega)]
                rfl)
            refine ⟨rfl, rfl, rfl, m, M, d, ri, tx, tn, sems, ?_, ?_, ?_, ?_, ?_, ?_, ?_, ?_, ?_, ?_, ?_, ?_, ?_, ?_, ?_⟩
            · rw [fz 1 3 ⟨by decide, by decide, by decide, by omega⟩ (by omega) (by omega)]
              exact a1
            · have e2 : I2 2 = I 2 := funext (fun k => fz 2 k ⟨by decide, by decide, by decide, by omega⟩ (by omega) (by omega))
              have e3 : I2 3 = I 3 := funext (fun k => fz 3 k ⟨by decide, by decide, by decide, by omega⟩ (by omega) (by omega))
              rw [e2, e3]
              exact h2.congr hT
            · intro k hk
              rw [fz 2 k ⟨by decide, by decide, by decide, by omega⟩ (by omega) (by omega)]
              exact a3 k hk
            · rw [fz 5 1 ⟨by decide, by decide, by decide, by omega⟩ (by omega) (by omega)]
              exact a4
            · rw [fz 5 2 ⟨by decide, by decide, by decide, by omega⟩ (by omega) (by omega)]
              exact a5
            · omega
            · rw [fz 5 3 ⟨by decide, by decide, by decide, by omega⟩ (by omega) (by omega)]
              exact a7
            · rw [fz 66 4 ⟨by decide, by decide, by decide, by omega⟩ (by omega) (by omega)]
              exact a8
            · exact a9
            · exact a10
            · exact a11
            · exact a12.d (fun a k h => fz a k ⟨(by rcases h with ⟨e, _⟩ | ⟨e, _⟩ | e | e | ⟨_, _, e⟩ <;> first | exact e | (subst e; decide)), by unfold DTx at h; omega, by unfold DTx at h; omega, by unfold DTx at h; omega⟩ (by unfold DTx at h; omega) (by unfold DTx at h; omega))
            · exact a13.d (fun a k h => fz a k ⟨(by rcases h with ⟨e, _⟩ | e | ⟨e, _⟩ | e <;> (subst e; decide)), by unfold DTp at h; omega, by unfold DTp at h; omega, by unfold DTp at h; omega⟩ (by unfold DTp at h; omega) (by unfold DTp at h; omega))
            · exact fun s hs => (a14 s hs).d (fun a k h => fz a k ⟨(w1_hi a (by unfold DSh at h; omega) (by unfold DSh at h; omega)), by unfold DSh at h; omega, by unfold DSh at h; omega, by unfold DSh at h; omega⟩ (by unfold DSh at h; omega) (by unfold DSh at h; omega)) hs
            · refine a15.d (fun a k h => fz a k ⟨(dim_w h), by unfold DIm at h; omega, by unfold DIm at h; omega, by unfold DIm at h; omega⟩ (by unfold DIm at h; omega) (by unfold DIm at h; omega)) (fun k hk => ⟨fz 70 k ⟨by decide, by decide, by decide, by omega⟩ (by omega) (by omega), fz 71 k ⟨by decide, by decide, by decide, by omega⟩ (by omega) (by omega)⟩) (fun i hi => ?_) hM5 (Nat.le_refl _) (Nat.le_refl _) (Nat.le_refl _)
              show TT I2 i 0 = _
              rw [hT i hi]
              by_cases e : i = j
              · subst e; rw [uT_o]; exact upd_ne (by decide)
              · rw [uT_n e]; rfl
          · have hc := C_setV3 (X := X) (L := L) hcs hj (v := v) (fun h => hv (rg_le.mpr h))
            (try rw [hday] at hc)
            exact pr_ask g hc (fun J L2 hs hsm => R_setV3 hs hj hv)
        · by_cases hv : ¬ v < 0 ∧ ¬ 99 < v
          · have hv2 := rg_le.mp hv
            obtain ⟨v0, hv0, rfl⟩ := nat_N (h := 99) rfl (by decide) hv
            refine ev_mono (C_set4 (X := X) (L := L) hcs hj hv2) (fun r S' I1 L1 R1 z => ?_)
            obtain ⟨rfl, rfl, rfl, rfl, rfl⟩ := z
            refine ⟨rfl, rfl, q, _, rfl, rfl, fun L2 => ?_⟩
            have hst : RSt (setO I (5 + 2 + j) (tChg (I (5 + 2 + j)) 4 (nI v0))) m (I 2) (I 3) M (TT I) d (sems ri) := a2.see (see_66 (fun a k ha => by rw [setO_n (by omega)]))
            refine ev_mono (R_set4 (X := X) (L := L2) (q := q) hst hd hj hv) (fun r2 S2 I2 L3 R2 z => ?_)
            obtain ⟨rfl, rfl, rfl, hf2⟩ := z
            have sm := eB_same hf2
            have hok : okT (upd (TT I j) 4 (nI v0)) := ⟨(a2.ok hj).1, (a2.ok hj).2.1, (a2.ok hj).2.2.1, (a2.ok hj).2.2.2.1, ⟨v0, by omega, rfl⟩⟩
            have h2 := (hst.row hj (i := 3) (v := nI v0) (by decide) hok).see sm.sees
            have fz : ∀ a k, Rl a k → a ≠ 5 + 2 + j → a ≠ 73 → I2 a k = I a k := fun a k h1 h2 h3 => by rw [sm a k h1, up2_n _ _ h3, setO_n h2]
            have hT : ∀ i, i < M → TT I2 i = uT (TT I) j (upd (TT I j) 4 (nI v0)) i := fun i hi => funext (fun k => by
              show I2 (5 + 2 + i) k = _
              by_cases e : i = j
              · subst e
                rw [uT_o, sm _ _ ⟨(wTT i (by omega)).1, by omega, by omega, by omega⟩, up2_n _ _ (by omega), setO_o]
                rfl
              · rw [uT_n e, fz _ _ ⟨(wTT i (by omega)).1, by omega, by omega, by omega⟩ (by omega) (by omega)]
                rfl)
            refine ⟨rfl, rfl, rfl, m, M, d, ri, tx, tn, sems, ?_, ?_, ?_, ?_, ?_, ?_, ?_, ?_, ?_, ?_, ?_, ?_, ?_, ?_, ?_⟩
            · rw [fz 1 3 ⟨by decide, by decide, by decide, by omega⟩ (by omega) (by omega)]
              exact a1
            · have e2 : I2 2 = I 2 := funext (fun k => fz 2 k ⟨by decide, by decide, by decide, by omega⟩ (by omega) (by omega))
              have e3 : I2 3 = I 3 := funext (fun k => fz 3 k ⟨by decide, by decide, by decide, by omega⟩ (by omega) (by omega))
              rw [e2, e3]
              exact h2.congr hT
            · intro k hk
              rw [fz 2 k ⟨by decide, by decide, by decide, by omega⟩ (by omega) (by omega)]
              exact a3 k hk
            · rw [fz 5 1 ⟨by decide, by decide, by decide, by omega⟩ (by omega) (by omega)]
              exact a4
            · rw [fz 5 2 ⟨by decide, by decide, by decide, by omega⟩ (by omega) (by omega)]
              exact a5
            · omega
            · rw [fz 5 3 ⟨by decide, by decide, by decide, by omega⟩ (by omega) (by omega)]
              exact a7
            · rw [fz 66 4 ⟨by decide, by decide, by decide, by omega⟩ (by omega) (by omega)]
              exact a8
            · exact a9
            · exact a10
            · exact a11
            · exact a12.d (fun a k h => fz a k ⟨(by rcases h with ⟨e, _⟩ | ⟨e, _⟩ | e | e | ⟨_, _, e⟩ <;> first | exact e | (subst e; decide)), by unfold DTx at h; omega, by unfold DTx at h; omega, by unfold DTx at h; omega⟩ (by unfold DTx at h; omega) (by unfold DTx at h; omega))
            · exact a13.d (fun a k h => fz a k ⟨(by rcases h with ⟨e, _⟩ | e | ⟨e, _⟩ | e <;> (subst e; decide)), by unfold DTp at h; omega, by unfold DTp at h; omega, by unfold DTp at h; omega⟩ (by unfold DTp at h; omega) (by unfold DTp at h; omega))
            · exact fun s hs => (a14 s hs).d (fun a k h => fz a k ⟨(w1_hi a (by unfold DSh at h; omega) (by unfold DSh at h; omega)), by unfold DSh at h; omega, by unfold DSh at h; omega, by unfold DSh at h; omega⟩ (by unfold DSh at h; omega) (by unfold DSh at h; omega)) hs
            · refine a15.d (fun a k h => fz a k ⟨(dim_w h), by unfold DIm at h; omega, by unfold DIm at h; omega, by unfold DIm at h; omega⟩ (by unfold DIm at h; omega) (by unfold DIm at h; omega)) (fun k hk => ⟨fz 70 k ⟨by decide, by decide, by decide, by omega⟩ (by omega) (by omega), fz 71 k ⟨by decide, by decide, by decide, by omega⟩ (by omega) (by omega)⟩) (fun i hi => ?_) hM5 (Nat.le_refl _) (Nat.le_refl _) (Nat.le_refl _)
              show TT I2 i 0 = _
              rw [hT i hi]
              by_cases e : i = j
              · subst e; rw [uT_o]; exact upd_ne (by decide)
              · rw [uT_n e]; rfl
          · have hc := C_setV4 (X := X) (L := L) hcs hj (v := v) (fun h => hv (rg_le.mpr h))
            (try rw [hday] at hc)
            exact pr_ask g hc (fun J L2 hs hsm => R_setV4 hs hj hv)
      · have hc := C_setW (X := X) (L := L) hcs hj (w := w) (v := v) (out_n hw)
        (try rw [hday] at hc)
        exact pr_ask g hc (fun J L2 hs hsm => R_setB hs (fun h => hw h.1))
    · have hc := C_setN (X := X) (L := L) hcs hx (w := w) (v := v) h0
      (try rw [hday] at hc)
      exact pr_ask g hc (fun J L2 hs hsm => R_setB hs (fun h => hnv (h.2 (pos_n h0 h.1.1))))
