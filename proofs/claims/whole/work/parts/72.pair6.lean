/-! one call and the other: copy, image -/
theorem cp_rng {x w : Int32} {z : Nat} (hz : z ≤ 40) (hw : ¬ w < 0) (hx : ¬ x < 0) (h : x ≤ nI z - w) : ∃ i n, x = nI i ∧ w = nI n ∧ i + n ≤ z := by
  obtain ⟨n, hn, rfl⟩ := nI_of hw
  obtain ⟨i, hi, rfl⟩ := nI_of hx
  refine ⟨i, n, rfl, rfl, ?_⟩
  by_cases hzn : n ≤ z
  · rw [nI_sub' hzn] at h
    simp (disch := omega) only [nI_leI] at h
    omega
  · exfalso
    rw [Int32.le_iff_toInt_le, Int32.toInt_sub, nI_int hi, nI_int hn, nI_int (show z < 2147483648 by omega), Int.bmod_eq_of_le (by omega) (by omega)] at h
    omega
theorem cp_40 {x w : Int32} {z : Nat} (hz : z ≤ 40) {i n : Nat} (h : i + n ≤ z) (hx : x = nI i) (hw : w = nI n) : x ≤ nI 40 - w := by
  subst hx hw
  rw [nI_sub' (show n ≤ 40 by omega)]
  simp (disch := omega) only [nI_leI]
  omega
set_option maxRecDepth 100000 in
set_option maxHeartbeats 1000000 in
theorem P_copy {X : En} (x y u v w : Int32) : Pr X 9 3 mX7_copy mX8_copy [.int x, .int y, .int u, .int v, .int w] := by
  intro q I L ⟨m, M, d, ri, tx, tn, sems, g⟩
  have hcs := g.cs
  have hM5 := g.2.1.M5
  obtain ⟨hday, hd⟩ := g.day
  obtain ⟨a1, a2, a3, a4, a5, a6, a7, a8, a9, a10, a11, a12, a13, a14, a15⟩ := id g
  rcases nR (x := x) with ⟨s, hrs, rfl, hy3⟩ | ⟨hy, hny⟩
  · rcases nR (x := u) with ⟨o, hro, rfl, hy4⟩ | ⟨hy2, hny2⟩
    · have hb : 54 ≤ rowN s ∧ rowN s + 1 ≤ 61 := by unfold rowN; omega
      have hbo : 54 ≤ rowN o ∧ rowN o + 1 ≤ 61 := by unfold rowN; omega
      rcases a14 s hrs with ⟨hmi, h78⟩ | hsh
      · exact pr_bad g (C_copyN1 (X := X) (L := L) hrs hro hmi (x := y) (z := v) (w := w)) (fun J L2 hs hsm => R_copyN1 hrs hro (by rw [hsm.hi (a := 78) (by decide) (by decide)]; exact h78))
      · obtain ⟨s78, zs, hzs4, sk3, sso, szz, s80, sit⟩ := hsh
        have hns : ¬ I (rowN s) 1 = -1 := by rw [sso]; rcases sk3 with e | e | e <;> rw [e] <;> decide
        rcases a14 o hro with ⟨hmo, ho78⟩ | hsho
        · exact pr_bad g (C_copyN2 (X := X) (L := L) hrs hro hns hmo (x := y) (z := v) (w := w)) (fun J L2 hs hsm => R_copyN2 hrs hro (by rw [hsm.hi (a := 78) (by decide) (by decide)]; exact s78) (by rw [hsm.hi (a := 78) (by decide) (by decide)]; exact ho78))
        · obtain ⟨o78, zo, hzo4, ok3, oso, ozz, o80, oit⟩ := hsho
          have hno : ¬ I (rowN o) 1 = -1 := by rw [oso]; rcases ok3 with e | e | e <;> rw [e] <;> decide
          by_cases hkk : I 79 s = I 79 o
          · have hck : I (rowN s) 1 = I (rowN o) 1 := by rw [sso, oso]; exact hkk
            by_cases hv : ¬ w < 0 ∧ ¬ y < 0 ∧ ¬ v < 0 ∧ ¬ nI zs - w < y ∧ v ≤ nI zo - w
            · obtain ⟨v1, v2, v3, v4, v5⟩ := hv
              obtain ⟨i, n, rfl, rfl, hi⟩ := cp_rng hzs4 v1 v2 (Int32.not_lt.mp v4)
              obtain ⟨j, n2, rfl, e2, hj2⟩ := cp_rng hzo4 v1 v3 v5
              have hj : j + n ≤ zo := by
                have e3 := congrArg Int32.toInt e2
                rw [nI_int (by omega), nI_int (by omega)] at e3
                omega
              by_cases hup : s = o ∧ i < j
              · refine ev_mono (C_copy (X := X) (L := L) hrs hro hns hno (zs := zs) (zo := zo) szz ozz hzs4 hzo4 hck hi hj) (fun r S' I1 L1 R1 z => ?_)
                obtain ⟨rfl, rfl, rfl, rfl, rfl⟩ := z
                refine ⟨rfl, rfl, q, _, rfl, rfl, fun L2 => ?_⟩
                refine ev_mono (R_copy1 (X := X) (L := L2) (q := q) (I := (setO I (rowN o + 1) (va_cpy (I (rowN s + 1)) (I (rowN o + 1)) i j n))) hrs hro (by rw [setO_n (by omega)]; exact s78) (by rw [setO_n (by omega)]; exact o78) (zs := zs) (zo := zo) (by rw [setO_n (by omega)]; exact s80) (by rw [setO_n (by omega)]; exact o80) hzs4 hzo4 (by rw [setO_n (by omega)]; exact hkk) hi hj hup) (fun r2 S2 I2 L3 R2 z => ?_)
                obtain ⟨rfl, rfl, rfl, rfl, rfl⟩ := z
                refine ⟨rfl, rfl, rfl, m, M, d, ri, tx, tn, sems, row_step g hro (fun a k h1 h2 h3 h4 h5 h6 h7 => ?_) ?_⟩
                · rw [flB_n (fun e => h7 ⟨e.1, by omega, by omega⟩), setO_n h3]
                · refine Or.inr ⟨?_, zo, hzo4, ?_, ?_, ?_, ?_, fun t ht => ?_⟩
                  · rw [flB_n (by omega), setO_n (by omega)]; exact o78
                  · rw [flB_n (by omega), setO_n (by omega)]; exact ok3
                  · rw [flB_n (by omega), flB_n (by omega), setO_n (by omega), setO_n (by omega)]; exact oso
                  · rw [flB_n (by omega), setO_n (by omega)]; exact ozz
                  · rw [flB_n (by omega), setO_n (by omega)]; exact o80
                  · rw [flB_n (a := rowN o + 1) (by omega), setO_o]
                    show (if j ≤ t ∧ t < j + n then I (rowN s + 1) (i + (t - j)) else I (rowN o + 1) t) = _
                    by_cases e : j ≤ t ∧ t < j + n
                    · rw [if_pos e, show 40 * o + t = 40 * o + j + (t - j) by omega, flB_at (by omega)]
                      show _ = setO I (rowN o + 1) _ 81 _
                      rw [setO_n (by omega), show 40 * s + i + (t - j) = 40 * s + (i + (t - j)) by omega]
                      exact sit _ (by omega)
                    · rw [if_neg e, flB_n (by omega), setO_n (by omega)]
                      exact oit t ht
              · refine ev_mono (C_copy (X := X) (L := L) hrs hro hns hno (zs := zs) (zo := zo) szz ozz hzs4 hzo4 hck hi hj) (fun r S' I1 L1 R1 z => ?_)
                obtain ⟨rfl, rfl, rfl, rfl, rfl⟩ := z
                refine ⟨rfl, rfl, q, _, rfl, rfl, fun L2 => ?_⟩
                refine ev_mono (R_copy0 (X := X) (L := L2) (q := q) (I := (setO I (rowN o + 1) (va_cpy (I (rowN s + 1)) (I (rowN o + 1)) i j n))) hrs hro (by rw [setO_n (by omega)]; exact s78) (by rw [setO_n (by omega)]; exact o78) (zs := zs) (zo := zo) (by rw [setO_n (by omega)]; exact s80) (by rw [setO_n (by omega)]; exact o80) hzs4 hzo4 (by rw [setO_n (by omega)]; exact hkk) hi hj hup) (fun r2 S2 I2 L3 R2 z => ?_)
                obtain ⟨rfl, rfl, rfl, rfl, rfl⟩ := z
                refine ⟨rfl, rfl, rfl, m, M, d, ri, tx, tn, sems, row_step g hro (fun a k h1 h2 h3 h4 h5 h6 h7 => ?_) ?_⟩
                · rw [flB_n (fun e => h7 ⟨e.1, by omega, by omega⟩), setO_n h3]
                · refine Or.inr ⟨?_, zo, hzo4, ?_, ?_, ?_, ?_, fun t ht => ?_⟩
                  · rw [flB_n (by omega), setO_n (by omega)]; exact o78
                  · rw [flB_n (by omega), setO_n (by omega)]; exact ok3
                  · rw [flB_n (by omega), flB_n (by omega), setO_n (by omega), setO_n (by omega)]; exact oso
                  · rw [flB_n (by omega), setO_n (by omega)]; exact ozz
                  · rw [flB_n (by omega), setO_n (by omega)]; exact o80
                  · rw [flB_n (a := rowN o + 1) (by omega), setO_o]
                    show (if j ≤ t ∧ t < j + n then I (rowN s + 1) (i + (t - j)) else I (rowN o + 1) t) = _
                    by_cases e : j ≤ t ∧ t < j + n
                    · rw [if_pos e, show 40 * o + t = 40 * o + j + (t - j) by omega, flB_at (by omega)]
                      show _ = setO I (rowN o + 1) _ 81 _
                      rw [setO_n (by omega), show 40 * s + i + (t - j) = 40 * s + (i + (t - j)) by omega]
                      exact sit _ (by omega)
                    · rw [if_neg e, flB_n (by omega), setO_n (by omega)]
                      exact oit t ht
            · refine pr_bad g (C_copyO (X := X) (L := L) hrs hro hns hno hck (fun h => hv ?_)) (fun J L2 hs hsm => R_copyO hrs hro (by rw [hsm.hi (a := 78) (by decide) (by decide)]; exact s78) (by rw [hsm.hi (a := 78) (by decide) (by decide)]; exact o78) (by rw [hsm.hi (a := 80) (by decide) (by decide)]; exact s80) (by rw [hsm.hi (a := 80) (by decide) (by decide)]; exact o80) hzs4 hzo4 (by rw [hsm.hi (a := 79) (by decide) (by decide)]; exact hkk) hv)
              obtain ⟨⟨v1, v2, v3, _⟩, _, v5, v6, _⟩ := h
              rw [szz] at v3
              rw [ozz] at v6
              exact ⟨v1, v2, v5, Int32.not_lt.mpr v3, v6⟩
          · exact pr_bad g (C_copyU (X := X) (L := L) hrs hro hns hno (fun h => hkk (by rw [sso, oso] at h; exact h)) (x := y) (z := v) (w := w)) (fun J L2 hs hsm => R_copyU hrs hro (by rw [hsm.hi (a := 78) (by decide) (by decide)]; exact s78) (by rw [hsm.hi (a := 78) (by decide) (by decide)]; exact o78) (by rw [hsm.hi (a := 80) (by decide) (by decide)]; exact s80) (by rw [hsm.hi (a := 80) (by decide) (by decide)]; exact o80) hzs4 hzo4 (by rw [hsm.hi (a := 79) (by decide) (by decide)]; exact hkk))
    · exact pr_bad g (C_copyX2 (X := X) (L := L) hrs hy2 (x := y) (z := v) (w := w)) (fun J L2 hs hsm => R_copyB (fun h => hny2 h.2))
  · rcases nR (x := u) with ⟨o, hro, rfl, hy4⟩ | ⟨hy2, hny2⟩
    · exact pr_bad g (C_copyX1 (X := X) (L := L) hro hy (x := y) (z := v) (w := w)) (fun J L2 hs hsm => R_copyB (fun h => hny h.1))
    · exact pr_bad g (C_copyX (X := X) (L := L) hy hy2 (x := y) (z := v) (w := w)) (fun J L2 hs hsm => R_copyB (fun h => hny h.1))
