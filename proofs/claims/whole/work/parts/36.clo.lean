/-! what follows ends within twelve rounds; all of it is a set of twelve -/
theorem nI_or (a b : Nat) : nI a ||| nI b = nI (a ||| b) := by
  apply Int32.toBitVec_inj.mp
  show BitVec.ofNat 32 a ||| BitVec.ofNat 32 b = BitVec.ofNat 32 (a ||| b)
  exact (BitVec.ofNat_or).symm
theorem b12 (i : Nat) : (4095 : Nat).testBit i = decide (i < 12) := Nat.testBit_two_pow_sub_one 12 i
theorem tb12 {s i : Nat} (hs : s < 4096) (hi : ¬ i < 12) : s.testBit i = false := Nat.testBit_lt_two_pow (Nat.lt_of_lt_of_le hs (show 2 ^ 12 ≤ 2 ^ i from Nat.pow_le_pow_right (by omega) (Nat.le_of_not_lt hi)))
theorem nI_andn {s v : Nat} (hs : s < 4096) : nI s &&& ~~~(nI v) = nI (s &&& (4095 ^^^ v)) := by
  apply Int32.toBitVec_inj.mp
  show BitVec.ofNat 32 s &&& ~~~(BitVec.ofNat 32 v) = BitVec.ofNat 32 (s &&& (4095 ^^^ v))
  apply BitVec.eq_of_getLsbD_eq
  intro i hi
  simp only [BitVec.getLsbD_and, BitVec.getLsbD_not, BitVec.getLsbD_ofNat, Nat.testBit_and, Nat.testBit_xor, b12, hi, decide_true, Bool.true_and]
  by_cases h : i < 12
  · simp [h]
  · simp [tb12 hs h]
theorem shl_nI : ∀ g, g < 12 → (1 : Int32) <<< (nI g &&& 31) = nI (2 ^ g) := by decide
def pcN (v : Nat) : Nat → Nat
  | 0 => 0
  | i + 1 => pcN v i + (if v.testBit i = true then 1 else 0)
theorem pcN_le (v : Nat) : ∀ i, pcN v i ≤ i := by
  intro i
  induction i with
  | zero => exact Nat.le_refl _
  | succ i ih => unfold pcN; split <;> omega
theorem pcN_mono {v w : Nat} (h : ∀ j, v.testBit j = true → w.testBit j = true) : ∀ i, pcN v i ≤ pcN w i := by
  intro i
  induction i with
  | zero => exact Nat.le_refl _
  | succ i ih =>
    unfold pcN
    by_cases h1 : v.testBit i = true
    · rw [if_pos h1, if_pos (h i h1)]; omega
    · rw [if_neg h1]; omega
theorem pcN_lt {v w j : Nat} (h : ∀ j, v.testBit j = true → w.testBit j = true) (h1 : w.testBit j = true) (h2 : ¬ v.testBit j = true) : ∀ i, j < i → pcN v i < pcN w i := by
  intro i
  induction i with
  | zero => intro h; omega
  | succ i ih =>
    intro hj
    unfold pcN
    by_cases e : j = i
    · subst e
      rw [if_neg h2, if_pos h1]
      have := pcN_mono h j
      omega
    · have := ih (by omega)
      by_cases h3 : v.testBit i = true
      · rw [if_pos h3, if_pos (h i h3)]; omega
      · rw [if_neg h3]; omega
theorem pcN_full {v : Nat} : ∀ i, pcN v i = i → ∀ j, j < i → v.testBit j = true := by
  intro i
  induction i with
  | zero => intro _ j hj; omega
  | succ i ih =>
    intro h j hj
    unfold pcN at h
    have := pcN_le v i
    by_cases h3 : v.testBit i = true
    · rw [if_pos h3] at h
      by_cases e : j = i
      · rw [e]; exact h3
      · exact ih (by omega) j (by omega)
    · rw [if_neg h3] at h; omega
/-- facts are twelve -/
def okFa (m : Nat) (fa : Nat → Int32) : Prop := ∀ k, k < m → ∃ g, g < 12 ∧ fa k = nI g
theorem nxS_N {fr fa : Nat → Int32} {set wo : Int32} : ∀ m, okFa m fa → ∃ s, s < 4096 ∧ nxS fr fa set wo m = nI s := by
  intro m
  induction m with
  | zero => intro _; exact ⟨0, by omega, rfl⟩
  | succ m ih =>
    intro h
    obtain ⟨s, hs, es⟩ := ih (fun k hk => h k (by omega))
    obtain ⟨g, hg, eg⟩ := h m (by omega)
    unfold nxS
    by_cases c : ¬ (nI m = wo) ∧ fr m &&& ~~~set = 0
    · rw [if_pos c, es, eg, shl_nI g hg, nI_or]
      exact ⟨s ||| 2 ^ g, Nat.or_lt_two_pow (n := 12) hs (Nat.pow_lt_pow_right (by omega) hg), rfl⟩
    · rw [if_neg c]; exact ⟨s, hs, es⟩
theorem nx_N {fr fa : Nat → Int32} {m v : Nat} {wo : Int32} (h : okFa m fa) : ∃ u, u < 4096 ∧ nx fr fa m (nI v) wo = nI u ∧ ∀ j, u.testBit j = true → ¬ v.testBit j = true := by
  obtain ⟨s, hs, es⟩ := nxS_N (fr := fr) (set := nI v) (wo := wo) m h
  refine ⟨s &&& (4095 ^^^ v), Nat.lt_of_le_of_lt Nat.and_le_left hs, by rw [nx, es, nI_andn hs], fun j hj hv => ?_⟩
  rw [Nat.testBit_and, Nat.testBit_xor, b12, hv] at hj
  by_cases h : j < 12
  · simp [h] at hj
  · simp [tb12 hs h] at hj
theorem nI_0' {u : Nat} (hu : u < 4096) (h : nI u = 0) : u = 0 := (nI_eq (a := u) (b := 0) (by omega) (by omega)).mp h
theorem clo_N {fr fa : Nat → Int32} {m : Nat} {wo : Int32} (h : okFa m fa) : ∀ (k v : Nat), v < 4096 → 12 - pcN v 12 ≤ k → nx fr fa m (clo fr fa m wo k (nI v)) wo = 0 ∧ ∃ w, w < 4096 ∧ clo fr fa m wo k (nI v) = nI w ∧ ∀ j, v.testBit j = true → w.testBit j = true := by
  intro k
  induction k with
  | zero =>
    intro v hv hk
    refine ⟨?_, v, hv, rfl, fun _ hj => hj⟩
    obtain ⟨u, hu, eu, hd⟩ := nx_N (fr := fr) (v := v) (wo := wo) h
    show nx fr fa m (nI v) wo = 0
    rw [eu]
    have hf := pcN_full (v := v) 12 (by have := pcN_le v 12; omega)
    have : u = 0 := by
      apply Nat.eq_of_testBit_eq
      intro j
      rw [Nat.zero_testBit]
      by_cases hj : j < 12
      · have := hf j hj
        cases hb : u.testBit j with
        | false => rfl
        | true => exact absurd this (hd j hb)
      · exact tb12 hu hj
    rw [this]
    rfl
  | succ k ih =>
    intro v hv hk
    obtain ⟨u, hu, eu, hd⟩ := nx_N (fr := fr) (v := v) (wo := wo) h
    unfold clo
    by_cases c : nx fr fa m (nI v) wo = 0
    · rw [if_pos c]; exact ⟨c, v, hv, rfl, fun _ hj => hj⟩
    · rw [if_neg c, eu, nI_or]
      have hu0 : u ≠ 0 := fun e => c (by rw [eu, e]; rfl)
      obtain ⟨j, hj⟩ : ∃ j, u.testBit j = true := Nat.exists_testBit_of_ne_zero hu0
      have hj12 : j < 12 := by
        rcases Nat.lt_or_ge j 12 with h1 | h1
        · exact h1
        · rw [tb12 hu (by omega)] at hj; cases hj
      have hm : ∀ i, v.testBit i = true → (v ||| u).testBit i = true := fun i hi => by rw [Nat.testBit_or, hi]; rfl
      have hlt := pcN_lt hm (show (v ||| u).testBit j = true by rw [Nat.testBit_or, hj, Bool.or_true]) (hd j hj) 12 hj12
      obtain ⟨r1, w, hw, ew, hww⟩ := ih (v ||| u) (Nat.or_lt_two_pow (n := 12) hv hu) (by omega)
      exact ⟨r1, w, hw, ew, fun i hi => hww i (hm i hi)⟩
theorem clo_z {fr fa : Nat → Int32} {m v : Nat} {wo : Int32} (h : okFa m fa) (hv : v < 4096) : nx fr fa m (clo fr fa m wo 12 (nI v)) wo = 0 := (clo_N h 12 v hv (by omega)).1
theorem clo_w {fr fa : Nat → Int32} {m v : Nat} {wo : Int32} (h : okFa m fa) (hv : v < 4096) : ∃ w, w < 4096 ∧ clo fr fa m wo 12 (nI v) = nI w ∧ ∀ j, v.testBit j = true → w.testBit j = true := (clo_N h 12 v hv (by omega)).2
