/-! numbers of a tree, and what a day makes of them -/
theorem and1 (x : Int32) : x &&& 1 = 0 ∨ x &&& 1 = 1 := by
  have h : (x &&& 1).toBitVec = x.toBitVec &&& 1#32 := rfl
  have h2 : (x.toBitVec &&& 1#32).toNat = x.toBitVec.toNat % 2 := by rw [BitVec.toNat_and]; exact Nat.and_one_is_mod _
  rcases Nat.mod_two_eq_zero_or_one x.toBitVec.toNat with h3 | h3
  · left; apply Int32.toBitVec_inj.mp; apply BitVec.eq_of_toNat_eq; rw [h, h2, h3]; rfl
  · right; apply Int32.toBitVec_inj.mp; apply BitVec.eq_of_toNat_eq; rw [h, h2, h3]; rfl
theorem and1_1 {x : Int32} : x &&& 1 = 1 ↔ ¬ x &&& 1 = 0 := by
  rcases and1 x with h | h
  · rw [h]; decide
  · rw [h]; decide
theorem nI_div {a b : Nat} (ha : a < 2 ^ 31) (hb : b < 2 ^ 31) : nI a / nI b = nI (a / b) := by
  apply Int32.toInt_inj.mp
  have h1 : a / b ≤ a := Nat.div_le_self a b
  rw [Int32.toInt_div, nI_int ha, nI_int hb, nI_int (by omega)]
  rw [show ((a : Int).tdiv (b : Int)) = ((a / b : Nat) : Int) from rfl]
  generalize a / b = c at h1
  exact Int.bmod_eq_of_le (by omega) (by omega)
theorem nI_mod {a b : Nat} (ha : a < 2 ^ 31) (hb : b < 2 ^ 31) : nI a % nI b = nI (a % b) := by
  apply Int32.toInt_inj.mp
  have h1 : a % b ≤ a := Nat.mod_le a b
  rw [Int32.toInt_mod, nI_int ha, nI_int hb, nI_int (by omega)]
  rfl
theorem par2 {d : Nat} (hd : d < 2 ^ 30) : nI d % 2 = 1 ↔ ¬ nI d - nI d / 2 * 2 = 0 := by
  have e : (2 : Int32) = nI 2 := rfl
  rw [e, nI_mod (by omega) (by omega), nI_div (by omega) (by omega), nI_mul, nI_sub' (by omega)]
  have e1 : (1 : Int32) = nI 1 := rfl
  have e0 : (0 : Int32) = nI 0 := rfl
  rw [e1, e0]
  simp (disch := omega) only [nI_eq]
  omega
theorem bc_lt2 : ∀ v, v < 4096 → (bcF (nI v) < 2 ↔ nI v = nI v &&& -(nI v)) := by
  have key : ∀ a, a < 64 → ∀ b, b < 64 → (bcF (nI (64 * a + b)) < 2 ↔ nI (64 * a + b) = nI (64 * a + b) &&& -(nI (64 * a + b))) := by decide +kernel
  intro v hv
  have h := key (v / 64) (by omega) (v % 64) (by omega)
  rw [show 64 * (v / 64) + v % 64 = v by omega] at h
  exact h
theorem held_nI {v : Int32} {hi : Nat} (hh : hi < 1000) : ∃ r, r ≤ hi ∧ held v 0 (nI hi) = nI r := by
  unfold held
  by_cases h1 : v < nI hi
  · rw [if_pos h1]
    show ∃ r, r ≤ hi ∧ (if 0 < v then v else 0) = nI r
    by_cases h2 : 0 < v
    · rw [if_pos h2]
      have h3 : ¬ v < 0 := Int32.not_lt.mpr (Int32.le_of_lt h2)
      obtain ⟨r, hr, rfl⟩ := nI_of h3
      exact ⟨r, by simp (disch := omega) only [nI_ltI] at h1; omega, rfl⟩
    · rw [if_neg h2]; exact ⟨0, by omega, rfl⟩
  · rw [if_neg h1]
    show ∃ r, r ≤ hi ∧ (if 0 < nI hi then nI hi else 0) = nI r
    by_cases h2 : (0 : Int32) < nI hi
    · rw [if_pos h2]; exact ⟨hi, Nat.le_refl _, rfl⟩
    · rw [if_neg h2]; exact ⟨0, by omega, rfl⟩
theorem held_id {a hi : Nat} (h : a ≤ hi) (hh : hi < 1000) : held (nI a) 0 (nI hi) = nI a := by
  unfold held
  have e0 : (0 : Int32) = nI 0 := rfl
  by_cases h1 : nI a < nI hi
  · rw [if_pos h1]
    show (if 0 < nI a then nI a else 0) = nI a
    by_cases h2 : (0 : Int32) < nI a
    · rw [if_pos h2]
    · rw [if_neg h2]
      rw [e0] at h2 ⊢
      simp (disch := omega) only [nI_ltI, nI_eq] at h2 ⊢
      omega
  · rw [if_neg h1]
    show (if 0 < nI hi then nI hi else 0) = nI a
    by_cases h2 : (0 : Int32) < nI hi
    · rw [if_pos h2]
      simp (disch := omega) only [nI_ltI, nI_eq] at h1 ⊢
      omega
    · rw [if_neg h2]
      rw [e0] at h2 ⊢
      simp (disch := omega) only [nI_ltI, nI_eq] at h1 h2 ⊢
      omega
theorem nI_and {a : Nat} (ha : a < 4096) (y : Int32) : ∃ b, b ≤ a ∧ nI a &&& y = nI b := by
  refine ⟨a &&& y.toBitVec.toNat, Nat.and_le_left, ?_⟩
  apply Int32.toBitVec_inj.mp
  apply BitVec.eq_of_toNat_eq
  show (BitVec.ofNat 32 a &&& y.toBitVec).toNat = (BitVec.ofNat 32 (a &&& y.toBitVec.toNat)).toNat
  rw [BitVec.toNat_and, BitVec.toNat_ofNat, BitVec.toNat_ofNat]
  have h : a &&& y.toBitVec.toNat ≤ a := Nat.and_le_left
  rw [Nat.mod_eq_of_lt (a := a) (by omega), Nat.mod_eq_of_lt (by omega)]
theorem or_4096 {a b : Nat} (ha : a < 4096) (hb : b < 4096) : a ||| b < 4096 := Nat.or_lt_two_pow (n := 12) ha hb
/-- what a tree's numbers may be -/
def okT (f : Nat → Int32) : Prop := (∃ k, k < 6 ∧ f 0 = nI k) ∧ (∃ n, n < 10 ∧ f 1 = nI n) ∧ (∃ v, v < 4096 ∧ f 2 = nI v) ∧ (∃ a, a < 100 ∧ f 3 = nI a) ∧ ∃ r, r < 100 ∧ f 4 = nI r
theorem und_N {fr fa : Nat → Int32} {m : Nat} (hfa : okFa m fa) {f : Nat → Int32} (hf : okT f) (day : Int32) : ∃ u, u < 4096 ∧ undP fr fa m f day = nI u := by
  obtain ⟨⟨k, hk, ek⟩, ⟨n, hn, en⟩, ⟨v, hv, ev⟩, _, _⟩ := hf
  unfold undP
  rw [ev]
  obtain ⟨u, hu, eu, _⟩ := nx_N (fr := fr) (v := v) (wo := -1) hfa
  obtain ⟨w, hw, ew, _⟩ := clo_w (fr := fr) (wo := -1) hfa hv
  rw [eu, ew]
  show ∃ u', u' < 4096 ∧ (if f 0 = 1 then nI u &&& -nI u else if f 0 = 2 then nI w &&& ~~~(nI v) else if f 0 = 3 then (if day - day / 2 * 2 = 0 then nI u &&& -nI u else 0) else if f 0 = 4 then (nI w &&& ~~~(nI v)) &&& ~~~((1 : Int32) <<< (f 1 &&& 31)) else if f 0 = 5 then (if nI u = nI u &&& -nI u then 0 else nI u) else nI u) = nI u'
  obtain ⟨b, hb, eb⟩ := nI_and hu (-nI u)
  obtain ⟨c, hc, ec⟩ := nI_and hw (~~~(nI v))
  obtain ⟨d, hd, ed⟩ := nI_and (show c < 4096 by omega) (~~~((1 : Int32) <<< (f 1 &&& 31)))
  rw [eb, ec, ed]
  by_cases h1 : f 0 = 1
  · rw [if_pos h1]; exact ⟨b, by omega, rfl⟩
  rw [if_neg h1]
  by_cases h2 : f 0 = 2
  · rw [if_pos h2]; exact ⟨c, by omega, rfl⟩
  rw [if_neg h2]
  by_cases h3 : f 0 = 3
  · rw [if_pos h3]
    by_cases h6 : day - day / 2 * 2 = 0
    · rw [if_pos h6]; exact ⟨b, by omega, rfl⟩
    · rw [if_neg h6]; exact ⟨0, by omega, rfl⟩
  rw [if_neg h3]
  by_cases h4 : f 0 = 4
  · rw [if_pos h4]; exact ⟨d, by omega, rfl⟩
  rw [if_neg h4]
  by_cases h5 : f 0 = 5
  · rw [if_pos h5]
    by_cases h6 : nI u = nI b
    · rw [if_pos h6]; exact ⟨0, by omega, rfl⟩
    · rw [if_neg h6]; exact ⟨u, by omega, rfl⟩
  · rw [if_neg h5]; exact ⟨u, by omega, rfl⟩
theorem held99 (v : Int32) : ∃ r, r < 100 ∧ held v 0 99 = nI r := by
  obtain ⟨r, hr, er⟩ := held_nI (v := v) (hi := 99) (by omega)
  exact ⟨r, by omega, er⟩
theorem fall_N {sem : Nat → (Nat → Int32) → Int32} (f : Nat → Int32) (fact day : Int32) : ∃ r, r < 100 ∧ fallP sem f fact day = nI r := by
  unfold fallP
  obtain ⟨a, ha, ea⟩ := held99 (sem 0 (nmT f fact day))
  rw [ea]
  show ∃ r, r < 100 ∧ (if f 0 = 1 then nI a / 2 else if f 0 = 2 then held (nI a + 1) 0 99 else if f 0 = 3 then held (nI a / 2 + f 1) 0 99 else if f 0 = 4 then held (nI a + 1) 0 99 else if f 0 = 5 then (if 50 < f 4 then held (2 * nI a) 0 99 else 0) else nI a) = nI r
  by_cases h1 : f 0 = 1
  · rw [if_pos h1]; exact ⟨a / 2, by omega, nI_div (b := 2) (by omega) (by omega)⟩
  rw [if_neg h1]
  by_cases h2 : f 0 = 2
  · rw [if_pos h2]; exact held99 _
  rw [if_neg h2]
  by_cases h3 : f 0 = 3
  · rw [if_pos h3]; exact held99 _
  rw [if_neg h3]
  by_cases h4 : f 0 = 4
  · rw [if_pos h4]; exact held99 _
  rw [if_neg h4]
  by_cases h5 : f 0 = 5
  · rw [if_pos h5]
    by_cases h6 : 50 < f 4
    · rw [if_pos h6]; exact held99 _
    · rw [if_neg h6]; exact ⟨0, by omega, rfl⟩
  · rw [if_neg h5]; exact ⟨a, ha, rfl⟩
theorem falS_N {sem : Nat → (Nat → Int32) → Int32} (f : Nat → Int32) (set day : Int32) : ∀ k, ∃ r, r ≤ 100 * k ∧ falS sem f set day k = nI r := by
  intro k
  induction k with
  | zero => exact ⟨0, by omega, rfl⟩
  | succ k ih =>
    obtain ⟨r, hr, er⟩ := ih
    unfold falS
    by_cases h : (set >>> (nI k &&& 31)) &&& 1 = 0
    · rw [if_pos h]; exact ⟨r, by omega, er⟩
    · rw [if_neg h]
      obtain ⟨b, hb, eb⟩ := fall_N (sem := sem) f (nI k) day
      rw [er, eb, nI_add']
      exact ⟨r + b, by omega, rfl⟩
theorem upd_o {f : Nat → Int32} {k : Nat} {v : Int32} : upd f k v k = v := by unfold upd; rw [if_pos rfl]
theorem upd_ne {f : Nat → Int32} {k j : Nat} {v : Int32} (h : j ≠ k) : upd f k v j = f j := by unfold upd; rw [if_neg h]
theorem okT.pasA {sem : Nat → (Nat → Int32) → Int32} {fr fa : Nat → Int32} {m : Nat} (hfa : okFa m fa) {f : Nat → Int32} (hf : okT f) (day : Int32) : okT (pasA sem fr fa m f day) := by
  obtain ⟨u, hu, eu⟩ := und_N (fr := fr) hfa hf day
  obtain ⟨h0, h1, ⟨v, hv, ev⟩, ⟨a, ha, ea⟩, h4⟩ := hf
  obtain ⟨s, hs, es⟩ := falS_N (sem := sem) f (undP fr fa m f day) day 12
  unfold Jvm.Pilot.CApplesFallLaw_law_r1223_e06496.pasA
  refine ⟨?_, ?_, ?_, ?_, ?_⟩
  · rw [upd_ne (by decide), upd_ne (by decide)]; exact h0
  · rw [upd_ne (by decide), upd_ne (by decide)]; exact h1
  · rw [upd_ne (by decide), upd_o, ev, eu, nI_or]; exact ⟨_, or_4096 hv hu, rfl⟩
  · rw [upd_o, es, ea]
    by_cases hlt : s < a
    · rw [nI_sub' (by omega)]
      rw [if_pos (show (0 : Int32) < nI (a - s) from nI_lt (a := 0) (by omega) (by omega))]
      exact ⟨a - s, by omega, rfl⟩
    · rw [if_neg ?_]
      · exact ⟨0, by omega, rfl⟩
      · intro h
        have e0 : (0 : Int32).toInt = 0 := by decide
        rw [Int32.lt_iff_toInt_lt, Int32.toInt_sub, nI_int (by omega), nI_int (by omega), e0, Int.bmod_eq_of_le (by omega) (by omega)] at h
        omega
  · rw [upd_ne (by decide), upd_ne (by decide)]; exact h4
theorem okT.pasP {sem : Nat → (Nat → Int32) → Int32} {fr fa : Nat → Int32} {m : Nat} (hfa : okFa m fa) {f : Nat → Int32} (hf : okT f) (day : Int32) : okT (pasP sem fr fa m f day) := by
  obtain ⟨h0, h1, h2, h3, h4⟩ := okT.pasA (sem := sem) (fr := fr) hfa hf day
  unfold Jvm.Pilot.CApplesFallLaw_law_r1223_e06496.pasP
  refine ⟨?_, ?_, ?_, ?_, ?_⟩
  · rw [upd_ne (by decide)]; exact h0
  · rw [upd_ne (by decide)]; exact h1
  · rw [upd_ne (by decide)]; exact h2
  · rw [upd_ne (by decide)]; exact h3
  · rw [upd_o]; exact held99 _
theorem shl_N {j : Nat} (hj : j < 12) : ∃ v, v < 4096 ∧ (1 : Int32) <<< (nI j &&& 31) = nI v := by
  refine ⟨2 ^ j, Nat.lt_of_lt_of_le (Nat.pow_lt_pow_right (by omega) hj) (by decide), ?_⟩
  match j, hj with
  | 0, _ => rfl
  | 1, _ => rfl
  | 2, _ => rfl
  | 3, _ => rfl
  | 4, _ => rfl
  | 5, _ => rfl
  | 6, _ => rfl
  | 7, _ => rfl
  | 8, _ => rfl
  | 9, _ => rfl
  | 10, _ => rfl
  | 11, _ => rfl
theorem okT.or {f : Nat → Int32} (hf : okT f) {u : Nat} (hu : u < 4096) : okT (upd f 2 (f 2 ||| nI u)) := by
  obtain ⟨h0, h1, ⟨v, hv, ev⟩, h3, h4⟩ := hf
  refine ⟨?_, ?_, ?_, ?_, ?_⟩
  · rw [upd_ne (by decide)]; exact h0
  · rw [upd_ne (by decide)]; exact h1
  · rw [upd_o, ev, nI_or]; exact ⟨_, or_4096 hv hu, rfl⟩
  · rw [upd_ne (by decide)]; exact h3
  · rw [upd_ne (by decide)]; exact h4
theorem okT.heaP {sem : Nat → (Nat → Int32) → Int32} {fr fa : Nat → Int32} {m : Nat} {f : Nat → Int32} (hf : okT f) {j : Nat} (hj : j < 12) (day : Int32) : okT (heaP sem fr fa m f (nI j) day) := by
  unfold Jvm.Pilot.CApplesFallLaw_law_r1223_e06496.heaP
  by_cases h : wlI sem fr fa m f (nI j) day = 0
  · rw [if_pos h]; exact hf
  · rw [if_neg h]
    obtain ⟨u, hu, eu⟩ := shl_N hj
    rw [eu]
    exact hf.or hu
theorem okT.itP {sem : Nat → (Nat → Int32) → Int32} {fr fa : Nat → Int32} {m : Nat} (hfa : okFa m fa) {f : Nat → Int32} (hf : okT f) (day : Int32) : ∀ k, okT (itP sem fr fa m day f k) := by
  intro k
  induction k with
  | zero => exact hf
  | succ k ih => exact okT.pasP hfa ih _
