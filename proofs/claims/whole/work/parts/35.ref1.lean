/-! the reference: numbers, laws, what follows -/
def wit (v lo hi : Int32) : Int32 := if v < lo then lo else if hi < v then hi else v
theorem wit_held {v lo hi : Int32} (h : lo ≤ hi) : wit v lo hi = held v lo hi := by
  unfold wit held
  by_cases h1 : v < lo
  · rw [if_pos h1]
    have h2 : v < hi := by simp only [Int32.lt_iff_toInt_lt, Int32.le_iff_toInt_le] at *; omega
    have h3 : ¬ lo < v := by simp only [Int32.lt_iff_toInt_lt, Int32.le_iff_toInt_le] at *; omega
    rw [if_pos h2]
    exact (if_neg h3).symm
  · rw [if_neg h1]
    by_cases h2 : hi < v
    · rw [if_pos h2, if_neg (show ¬ v < hi by simp only [Int32.lt_iff_toInt_lt, Int32.le_iff_toInt_le] at *; omega)]
      show hi = if lo < hi then hi else lo
      by_cases h3 : lo < hi
      · rw [if_pos h3]
      · rw [if_neg h3]; apply Int32.toInt_inj.mp; simp only [Int32.lt_iff_toInt_lt, Int32.le_iff_toInt_le] at *; omega
    · rw [if_neg h2]
      by_cases h4 : v < hi
      · rw [if_pos h4]
        show v = if lo < v then v else lo
        by_cases h3 : lo < v
        · rw [if_pos h3]
        · rw [if_neg h3]; apply Int32.toInt_inj.mp; simp only [Int32.lt_iff_toInt_lt, Int32.le_iff_toInt_le] at *; omega
      · rw [if_neg h4]
        have e : v = hi := by apply Int32.toInt_inj.mp; simp only [Int32.lt_iff_toInt_lt, Int32.le_iff_toInt_le] at *; omega
        subst e
        show v = if lo < v then v else lo
        by_cases h3 : lo < v
        · rw [if_pos h3]
        · rw [if_neg h3]; apply Int32.toInt_inj.mp; simp only [Int32.lt_iff_toInt_lt, Int32.le_iff_toInt_le] at *; omega
/-- the laws of the reference -/
def RLw (I : FI) (m : Nat) (fr fa : Nat → Int32) : Prop := I 66 10 = nI m ∧ m ≤ 10 ∧ ∀ k, k < m → I 70 k = fr k ∧ I 71 k = fa k
/-- its houses, the day -/
def RHs (I : FI) (M : Nat) (T : Nat → Nat → Int32) : Prop := I 66 13 = nI M ∧ M ≤ 5 ∧ ∀ j, j < M → I 72 j = T j 0 ∧ I 73 (4 * j) = T j 1 ∧ I 73 (4 * j + 1) = T j 2 ∧ I 73 (4 * j + 2) = T j 3 ∧ I 73 (4 * j + 3) = T j 4
theorem bI_congr {p q : Prop} [Decidable p] [Decidable q] (h : p ↔ q) : bI p = bI q := by
  unfold bI
  by_cases hp : p
  · rw [if_pos hp, if_pos (h.mp hp)]
  · rw [if_neg hp, if_neg (fun hq => hp (h.mpr hq))]
theorem cmp_lt (x z : Int64) : lg_cmp x z < 0 ↔ x < z := by
  have h := lg_cmp_ge x z
  constructor
  · intro h1; exact Int64.not_le.mp (fun h2 => Int32.not_le.mpr h1 (h.mpr h2))
  · intro h1; exact Int32.not_le.mp (fun h2 => Int64.not_le.mpr h1 (h.mp h2))
theorem cmp_gt (x z : Int64) : 0 < lg_cmp x z ↔ z < x := by
  have h := lg_cmp_le x z
  constructor
  · intro h1; exact Int64.not_le.mp (fun h2 => Int32.not_le.mpr h1 (h.mpr h2))
  · intro h1; exact Int32.not_le.mp (fun h2 => Int64.not_le.mpr h1 (h.mp h2))
theorem in_iff {x lo hi : Int32} {a b c : Int64} (ha : a = x.toInt64) (hb : b.toInt = lo.toInt) (hc : c.toInt = hi.toInt) : (¬ a < b ∧ ¬ c < a) ↔ (¬ x < lo ∧ ¬ hi < x) := by
  subst ha
  simp only [Int64.lt_iff_toInt_lt, Int32.lt_iff_toInt_lt, Int32.toInt_toInt64, hb, hc]
theorem lw_in {k n : Nat} (h : k < n) (hn : n < 2 ^ 31) : vp_in (nI k) n := vp_in_nI h hn
set_option maxRecDepth 100000 in
set_option maxHeartbeats 1000000 in
theorem R_in {X : En} {S : Sh} {I : FI} {L : FL} {R : FR} (a b c : Int64) : Ev X 0 mX8_in (0, 0) [.long a, .long b, .long c] S I L R (PureR (some (.int (bI (¬ a < b ∧ ¬ c < a)))) S I L R) := by
  refine ev_of (by decide +kernel) rfl ?_
  show SW X _ _ _ 0 [some (.long a), none, some (.long b), none, some (.long c), none] [] S I L R _
  refine s_lload_n (tb_ok aX8_in_0 0 rfl) rfl ?_
  refine s_lload_n (tb_ok aX8_in_0 1 rfl) rfl ?_
  refine s_lcmp (tb_ok aX8_in_0 2 rfl) ?_
  refine s_if_lt (tgt := 17) (tb_ok aX8_in_0 3 rfl) (by decide) (fun c3 => ?_) (fun c3 => ?_)
  · refine s_iconst (v := 0) (tb_ok aX8_in_0 10 rfl) (by decide) ?_
    refine s_zret (tb_ok aX8_in_0 11 rfl) rfl ?_ ?_
    first | exact Or.inl rfl | exact Or.inr rfl
    refine pureE (congrArg (fun z => some (Value.int z)) (bI_f ?_).symm)
    first | exact fun h => h.1 ((cmp_lt _ _).mp c3) | exact fun h => h.2 ((cmp_gt _ _).mp c10)
  · refine s_lload_n (tb_ok aX8_in_0 4 rfl) rfl ?_
    refine s_lload (tb_ok aX8_in_0 5 rfl) rfl ?_
    refine s_lcmp (tb_ok aX8_in_0 6 rfl) ?_
    refine s_if_gt (tgt := 17) (tb_ok aX8_in_0 7 rfl) (by decide) (fun c10 => ?_) (fun c10 => ?_)
    · refine s_iconst (v := 0) (tb_ok aX8_in_0 10 rfl) (by decide) ?_
      refine s_zret (tb_ok aX8_in_0 11 rfl) rfl ?_ ?_
      first | exact Or.inl rfl | exact Or.inr rfl
      refine pureE (congrArg (fun z => some (Value.int z)) (bI_f ?_).symm)
      first | exact fun h => h.1 ((cmp_lt _ _).mp c3) | exact fun h => h.2 ((cmp_gt _ _).mp c10)
    · refine s_iconst (v := 1) (tb_ok aX8_in_0 8 rfl) (by decide) ?_
      refine s_goto (tgt := 18) (tb_ok aX8_in_0 9 rfl) (by decide) ?_
      refine s_zret (tb_ok aX8_in_0 11 rfl) rfl ?_ ?_
      first | exact Or.inl rfl | exact Or.inr rfl
      refine pureE (congrArg (fun z => some (Value.int z)) (bI_t ?_).symm)
      exact ⟨fun h => c3 ((cmp_lt _ _).mpr h), fun h => c10 ((cmp_gt _ _).mpr h)⟩

set_option maxRecDepth 100000 in
set_option maxHeartbeats 1000000 in
theorem R_within {X : En} {S : Sh} {I : FI} {L : FL} {R : FR} (v lo hi : Int32) : Ev X 0 mX8_within (0, 0) [.int v, .int lo, .int hi] S I L R (PureR (some (.int (wit v lo hi))) S I L R) := by
  refine ev_of (by decide +kernel) rfl ?_
  show SW X _ _ _ 0 [some (.int v), some (.int lo), some (.int hi)] [] S I L R _
  refine s_iload_n (tb_ok aX8_within_0 0 rfl) rfl ?_
  refine s_iload_n (tb_ok aX8_within_0 1 rfl) rfl ?_
  refine s_icmp_ge (tgt := 9) (tb_ok aX8_within_0 2 rfl) (by decide) (fun c2 => ?_) (fun c2 => ?_)
  · refine s_iload_n (tb_ok aX8_within_0 5 rfl) rfl ?_
    refine s_iload_n (tb_ok aX8_within_0 6 rfl) rfl ?_
    refine s_icmp_le (tgt := 18) (tb_ok aX8_within_0 7 rfl) (by decide) (fun c11 => ?_) (fun c11 => ?_)
    · refine s_iload_n (tb_ok aX8_within_0 10 rfl) rfl ?_
      refine s_iret (tb_ok aX8_within_0 11 rfl) rfl ?_
      refine pureE (congrArg (fun z => some (Value.int z)) ?_)
      unfold wit
      first | (rw [if_pos (Int32.not_le.mp c2)]; done) | (rw [if_neg (Int32.not_lt.mpr c2), if_pos (Int32.not_le.mp c11)]; done) | (rw [if_neg (Int32.not_lt.mpr c2), if_neg (Int32.not_lt.mpr c11)]; done)
    · refine s_iload_n (tb_ok aX8_within_0 8 rfl) rfl ?_
      refine s_goto (tgt := 19) (tb_ok aX8_within_0 9 rfl) (by decide) ?_
      refine s_iret (tb_ok aX8_within_0 11 rfl) rfl ?_
      refine pureE (congrArg (fun z => some (Value.int z)) ?_)
      unfold wit
      first | (rw [if_pos (Int32.not_le.mp c2)]; done) | (rw [if_neg (Int32.not_lt.mpr c2), if_pos (Int32.not_le.mp c11)]; done) | (rw [if_neg (Int32.not_lt.mpr c2), if_neg (Int32.not_lt.mpr c11)]; done)
  · refine s_iload_n (tb_ok aX8_within_0 3 rfl) rfl ?_
    refine s_goto (tgt := 19) (tb_ok aX8_within_0 4 rfl) (by decide) ?_
    refine s_iret (tb_ok aX8_within_0 11 rfl) rfl ?_
    refine pureE (congrArg (fun z => some (Value.int z)) ?_)
    unfold wit
    first | (rw [if_pos (Int32.not_le.mp c2)]; done) | (rw [if_neg (Int32.not_lt.mpr c2), if_pos (Int32.not_le.mp c11)]; done) | (rw [if_neg (Int32.not_lt.mpr c2), if_neg (Int32.not_lt.mpr c11)]; done)

set_option maxRecDepth 100000 in
set_option maxHeartbeats 1000000 in
theorem R_isFact {X : En} {S : Sh} {I : FI} {L : FL} {R : FR} (x : Int32) : Ev X 1 mX8_isFact (0, 0) [.int x] S I L R (PureR (some (.int (bI (¬ x < 0 ∧ ¬ 11 < x)))) S I L R) := by
  refine ev_of (by decide +kernel) rfl ?_
  show SW X _ _ _ 0 [some (.int x)] [] S I L R _
  refine s_iload_n (tb_ok aX8_isFact_0 0 rfl) rfl ?_
  refine s_i2l (tb_ok aX8_isFact_0 1 rfl) ?_
  refine s_lconst (v := 0) (tb_ok aX8_isFact_0 2 rfl) (by decide) ?_
  refine s_ldc2 (tb_ok aX8_isFact_0 3 rfl) k_RX8_77 ?_
  refine s_cSp (as := [_, .long (0), .long (11)]) (tb_ok aX8_isFact_0 4 rfl) v_RX8_73 (R_in _ _ _) (by decide) rfl rfl (Nat.le_of_ble_eq_true rfl) ?_
  refine s_topi (bI_congr (in_iff (lo := 0) (hi := 11) rfl (by decide) (by decide))) ?_
  refine s_zret (tb_ok aX8_isFact_0 5 rfl) rfl ?_ ?_
  exact bI_01 _
  exact pureR

set_option maxRecDepth 100000 in
set_option maxHeartbeats 1000000 in
theorem R_isSheet {X : En} {S : Sh} {I : FI} {L : FL} {R : FR} (x : Int32) : Ev X 1 mX8_isSheet (0, 0) [.int x] S I L R (PureR (some (.int (bI (¬ x < 0 ∧ ¬ 3 < x)))) S I L R) := by
  refine ev_of (by decide +kernel) rfl ?_
  show SW X _ _ _ 0 [some (.int x)] [] S I L R _
  refine s_iload_n (tb_ok aX8_isSheet_0 0 rfl) rfl ?_
  refine s_i2l (tb_ok aX8_isSheet_0 1 rfl) ?_
  refine s_lconst (v := 0) (tb_ok aX8_isSheet_0 2 rfl) (by decide) ?_
  refine s_ldc2 (tb_ok aX8_isSheet_0 3 rfl) k_RX8_389 ?_
  refine s_cSp (as := [_, .long (0), .long (3)]) (tb_ok aX8_isSheet_0 4 rfl) v_RX8_73 (R_in _ _ _) (by decide) rfl rfl (Nat.le_of_ble_eq_true rfl) ?_
  refine s_topi (bI_congr (in_iff (lo := 0) (hi := 3) rfl (by decide) (by decide))) ?_
  refine s_zret (tb_ok aX8_isSheet_0 5 rfl) rfl ?_ ?_
  exact bI_01 _
  exact pureR

set_option maxRecDepth 100000 in
set_option maxHeartbeats 1000000 in
theorem R_isHouse {X : En} {I : FI} {L : FL} {q : Nat × Nat} {M : Nat} (hM : I 66 13 = nI M) (x : Int32) : Ev X 1 mX8_isHouse (0, 0) [.ref 66, .int x] S0 I L (R0 q) (PureR (some (.int (bI (¬ x < 0 ∧ ¬ nI M - 1 < x)))) S0 I L (R0 q)) := by
  refine ev_of (by decide +kernel) rfl ?_
  show SW X _ _ _ 0 [some (.ref 66), some (.int x)] [] S0 I L (R0 q) _
  refine s_iload_n (tb_ok aX8_isHouse_0 0 rfl) rfl ?_
  refine s_i2l (tb_ok aX8_isHouse_0 1 rfl) ?_
  refine s_lconst (v := 0) (tb_ok aX8_isHouse_0 2 rfl) (by decide) ?_
  refine s_aload_n (tb_ok aX8_isHouse_0 3 rfl) rfl ?_
  refine s_getI (x := (nI M)) (tb_ok aX8_isHouse_0 4 rfl) f_RX8_70 rfl rfl hM ?_
  refine s_iconst (v := 1) (tb_ok aX8_isHouse_0 5 rfl) (by decide) ?_
  refine s_isub (tb_ok aX8_isHouse_0 6 rfl) ?_
  refine s_i2l (tb_ok aX8_isHouse_0 7 rfl) ?_
  refine s_cSp (as := [_, .long (0), _]) (tb_ok aX8_isHouse_0 8 rfl) v_RX8_73 (R_in _ _ _) (by decide) rfl rfl (Nat.le_of_ble_eq_true rfl) ?_
  refine s_topi (bI_congr (in_iff (lo := 0) (hi := (nI M - 1)) rfl (by decide) (Int32.toInt_toInt64 _))) ?_
  refine s_zret (tb_ok aX8_isHouse_0 9 rfl) rfl ?_ ?_
  exact bI_01 _
  exact pureR

def btL : Nat → Int32 → Int32 → Int32
  | 0, _, n => n
  | k + 1, x, n => if x = 0 then n else btL k (x &&& (x - 1)) (n + 1)
def btZ : Nat → Int32 → Int32
  | 0, x => x
  | k + 1, x => btZ k (x &&& (x - 1))
theorem bt_all0 : ∀ a, a < 64 → ∀ b, b < 64 → btZ 12 (nI (64 * a + b)) = 0 ∧ btL 12 (nI (64 * a + b)) 0 = bcF (nI (64 * a + b)) := by decide +kernel
theorem bt_all : ∀ v, v < 4096 → btZ 12 (nI v) = 0 ∧ btL 12 (nI v) 0 = bcF (nI v) := by
  intro v hv
  have h := bt_all0 (v / 64) (by omega) (v % 64) (by omega)
  rw [show 64 * (v / 64) + v % 64 = v by omega] at h
  exact h
theorem btZ_0 : ∀ k, btZ k 0 = 0 := by
  intro k
  induction k with
  | zero => rfl
  | succ k ih => exact ih
set_option maxRecDepth 100000 in
set_option maxHeartbeats 1000000 in
theorem R_bits0 {X : En} {S : Sh} {I : FI} {L : FL} {R : FR} {v : Int32} (h : btZ 12 v = 0) : Ev X 0 mX8_bitsOf (0, 0) [.int v] S I L R (PureR (some (.int (btL 12 v 0))) S I L R) := by
  have loop : ∀ (k : Nat) (x n : Int32), btZ k x = 0 → SW X 0 mX8_bitsOf (0, 0) 4 [some (.int v), some (.int n), some (.int x)] [] S I L R (KQ X (PureR (some (.int (btL k x n))) S I L R)) := by
    intro k
    induction k with
    | zero =>
      intro x n h
      have h : x = 0 := h
      refine s_iload_n (tb_ok aX8_bitsOf_0 4 rfl) rfl ?_
      refine s_if_eq (tgt := 20) (tb_ok aX8_bitsOf_0 5 rfl) (by decide) (fun c5 => ?_) (fun c5 => ?_)
      · refine s_iload_n (tb_ok aX8_bitsOf_0 14 rfl) rfl ?_
        refine s_iret (tb_ok aX8_bitsOf_0 15 rfl) rfl ?_
        exact pureR
      · exact absurd h c5
    | succ k ih =>
      intro x n h
      refine s_iload_n (tb_ok aX8_bitsOf_0 4 rfl) rfl ?_
      refine s_if_eq (tgt := 20) (tb_ok aX8_bitsOf_0 5 rfl) (by decide) (fun c5 => ?_) (fun c5 => ?_)
      · refine s_iload_n (tb_ok aX8_bitsOf_0 14 rfl) rfl ?_
        refine s_iret (tb_ok aX8_bitsOf_0 15 rfl) rfl ?_
        refine pureE ?_
        rw [btL, if_pos c5]
      · obtain ⟨x1, ex1⟩ : ∃ q : Int32, q = n + Int32.ofInt (1) := ⟨_, rfl⟩
        refine s_iinc (v := x1) (ls' := [some (.int v), some (.int x1), some (.int x)]) (tb_ok aX8_bitsOf_0 6 rfl) rfl ex1.symm rfl rfl ?_
        refine s_iload_n (tb_ok aX8_bitsOf_0 7 rfl) rfl ?_
        refine s_iload_n (tb_ok aX8_bitsOf_0 8 rfl) rfl ?_
        refine s_iconst (v := 1) (tb_ok aX8_bitsOf_0 9 rfl) (by decide) ?_
        refine s_isub (tb_ok aX8_bitsOf_0 10 rfl) ?_
        refine s_iand (tb_ok aX8_bitsOf_0 11 rfl) ?_
        refine s_name (fun x2 ex2 => ?_)
        refine s_istore_n (ls' := [some (.int v), some (.int x1), some (.int x2)]) (tb_ok aX8_bitsOf_0 12 rfl) rfl rfl ?_
        refine s_goto (tgt := 4) (tb_ok aX8_bitsOf_0 13 rfl) (by decide) ?_
        rw [btL, if_neg c5]
        have h2 : btZ k (x &&& (x - 1)) = 0 := h
        subst ex1
        subst ex2
        exact ih _ _ h2
  refine ev_of (by decide +kernel) rfl ?_
  show SW X _ _ _ 0 [some (.int v), none, none] [] S I L R _
  refine s_iconst (v := 0) (tb_ok aX8_bitsOf_0 0 rfl) (by decide) ?_
  refine s_istore_n (ls' := [some (.int v), some (.int (0)), none]) (tb_ok aX8_bitsOf_0 1 rfl) rfl rfl ?_
  refine s_iload_n (tb_ok aX8_bitsOf_0 2 rfl) rfl ?_
  refine s_istore_n (ls' := [some (.int v), some (.int (0)), some (.int v)]) (tb_ok aX8_bitsOf_0 3 rfl) rfl rfl ?_
  exact loop 12 _ _ h

theorem R_bitsOf {X : En} {S : Sh} {I : FI} {L : FL} {R : FR} {v : Nat} (hv : v < 4096) : Ev X 0 mX8_bitsOf (0, 0) [.int (nI v)] S I L R (PureR (some (.int (bcF (nI v)))) S I L R) := by
  have h := bt_all v hv
  rw [← h.2]
  exact R_bits0 h.1
set_option maxRecDepth 100000 in
set_option maxHeartbeats 1000000 in
theorem R_followsOf {X : En} {I : FI} {L : FL} {q : Nat × Nat} {m : Nat} {fr fa : Nat → Int32} (hl : RLw I m fr fa) (set wo : Int32) : Ev X 0 mX8_followsOf (0, 0) [.ref 66, .int set, .int wo] S0 I L (R0 q) (PureR (some (.int (nx fr fa m set wo))) S0 I L (R0 q)) := by
  obtain ⟨hm, hm10, hf⟩ := id hl
  have loop : ∀ k, k ≤ m → SW X 0 mX8_followsOf (0, 0) 5 [some (.ref 66), some (.int set), some (.int wo), some (.int (nxS fr fa set wo k)), some (.int (nI k))] [] S0 I L (R0 q) (KQ X (PureR (some (.int (nx fr fa m set wo))) S0 I L (R0 q))) := by
    refine for_up (P := fun k => SW X 0 mX8_followsOf (0, 0) 5 [some (.ref 66), some (.int set), some (.int wo), some (.int (nxS fr fa set wo k)), some (.int (nI k))] [] S0 I L (R0 q) (KQ X (PureR (some (.int (nx fr fa m set wo))) S0 I L (R0 q)))) m ?_ ?_
    · refine s_iload (tb_ok aX8_followsOf_0 4 rfl) rfl ?_
      refine s_aload_n (tb_ok aX8_followsOf_0 5 rfl) rfl ?_
      refine s_getI (x := (nI m)) (tb_ok aX8_followsOf_0 6 rfl) f_RX8_85 rfl rfl hm ?_
      refine s_icmp_ge (tgt := 56) (tb_ok aX8_followsOf_0 7 rfl) (by decide) (fun c11 => ?_) (fun c11 => ?_)
      · refine s_iload_n (tb_ok aX8_followsOf_1 9 rfl) rfl ?_
        refine s_iload_n (tb_ok aX8_followsOf_1 10 rfl) rfl ?_
        refine s_iconst (v := -1) (tb_ok aX8_followsOf_1 11 rfl) (by decide) ?_
        refine s_ixor (tb_ok aX8_followsOf_1 12 rfl) ?_
        refine s_iand (tb_ok aX8_followsOf_1 13 rfl) ?_
        refine s_iret (tb_ok aX8_followsOf_1 14 rfl) rfl ?_
        refine pureE ?_
        simp [nx]
      · simp (disch := omega) only [nI_ltI, nI_leI, nI_eq] at c11
        omega
    · intro k hk ih
      refine s_iload (tb_ok aX8_followsOf_0 4 rfl) rfl ?_
      refine s_aload_n (tb_ok aX8_followsOf_0 5 rfl) rfl ?_
      refine s_getI (x := (nI m)) (tb_ok aX8_followsOf_0 6 rfl) f_RX8_85 rfl rfl hm ?_
      refine s_icmp_ge (tgt := 56) (tb_ok aX8_followsOf_0 7 rfl) (by decide) (fun c11 => ?_) (fun c11 => ?_)
      · simp (disch := omega) only [nI_ltI, nI_leI, nI_eq] at c11
        omega
      · refine s_iload_n (tb_ok aX8_followsOf_0 8 rfl) rfl ?_
        refine s_iload (tb_ok aX8_followsOf_0 9 rfl) rfl ?_
        refine s_iload_n (tb_ok aX8_followsOf_0 10 rfl) rfl ?_
        refine s_icmp_eq (tgt := 47) (tb_ok aX8_followsOf_0 11 rfl) (by decide) (fun c18 => ?_) (fun c18 => ?_)
        · refine s_iconst (v := 0) (tb_ok aX8_followsOf_1 4 rfl) (by decide) ?_
          refine s_ior (tb_ok aX8_followsOf_1 5 rfl) ?_
          refine s_name (fun x1 ex1 => ?_)
          refine s_istore_n (ls' := [some (.ref 66), some (.int set), some (.int wo), some (.int x1), some (.int (nI k))]) (tb_ok aX8_followsOf_1 6 rfl) rfl rfl ?_
          refine s_iinc (v := nI (k + 1)) (ls' := [some (.ref 66), some (.int set), some (.int wo), some (.int x1), some (.int (nI (k + 1)))]) (tb_ok aX8_followsOf_1 7 rfl) rfl (nI_1 _) rfl rfl ?_
          refine s_goto (tgt := 5) (tb_ok aX8_followsOf_1 8 rfl) (by decide) ?_
          refine s_ls ?_ ih
          simp_all [nxS]
        · refine s_aload_n (tb_ok aX8_followsOf_0 12 rfl) rfl ?_
          refine s_getR (r := 70) (tb_ok aX8_followsOf_0 13 rfl) f_RX8_23 rfl rfl rfl ?_
          refine s_iload (tb_ok aX8_followsOf_0 14 rfl) rfl ?_
          refine s_ialdX (x := (fr k)) (tb_ok aX8_followsOf_0 15 rfl) rfl (by omega) (by decide) (hf k hk).1 ?_
          refine s_iload_n (tb_ok aX8_followsOf_0 16 rfl) rfl ?_
          refine s_iconst (v := -1) (tb_ok aX8_followsOf_0 17 rfl) (by decide) ?_
          refine s_ixor (tb_ok aX8_followsOf_0 18 rfl) ?_
          refine s_iand (tb_ok aX8_followsOf_0 19 rfl) ?_
          refine s_if_ne (tgt := 47) (tb_ok aX8_followsOf_0 20 rfl) (by decide) (fun c32 => ?_) (fun c32 => ?_)
          · refine s_iconst (v := 0) (tb_ok aX8_followsOf_1 4 rfl) (by decide) ?_
            refine s_ior (tb_ok aX8_followsOf_1 5 rfl) ?_
            refine s_name (fun x2 ex2 => ?_)
            refine s_istore_n (ls' := [some (.ref 66), some (.int set), some (.int wo), some (.int x2), some (.int (nI k))]) (tb_ok aX8_followsOf_1 6 rfl) rfl rfl ?_
            refine s_iinc (v := nI (k + 1)) (ls' := [some (.ref 66), some (.int set), some (.int wo), some (.int x2), some (.int (nI (k + 1)))]) (tb_ok aX8_followsOf_1 7 rfl) rfl (nI_1 _) rfl rfl ?_
            refine s_goto (tgt := 5) (tb_ok aX8_followsOf_1 8 rfl) (by decide) ?_
            refine s_ls ?_ ih
            simp_all [nxS]
          · refine s_iconst (v := 1) (tb_ok aX8_followsOf_0 21 rfl) (by decide) ?_
            refine s_aload_n (tb_ok aX8_followsOf_0 22 rfl) rfl ?_
            refine s_getR (r := 71) (tb_ok aX8_followsOf_0 23 rfl) f_RX8_26 rfl rfl rfl ?_
            refine s_iload (tb_ok aX8_followsOf_1 0 rfl) rfl ?_
            refine s_ialdX (x := (fa k)) (tb_ok aX8_followsOf_1 1 rfl) rfl (by omega) (by decide) (hf k hk).2 ?_
            refine s_ishl (tb_ok aX8_followsOf_1 2 rfl) ?_
            refine s_goto (tgt := 48) (tb_ok aX8_followsOf_1 3 rfl) (by decide) ?_
            refine s_ior (tb_ok aX8_followsOf_1 5 rfl) ?_
            refine s_name (fun x3 ex3 => ?_)
            refine s_istore_n (ls' := [some (.ref 66), some (.int set), some (.int wo), some (.int x3), some (.int (nI k))]) (tb_ok aX8_followsOf_1 6 rfl) rfl rfl ?_
            refine s_iinc (v := nI (k + 1)) (ls' := [some (.ref 66), some (.int set), some (.int wo), some (.int x3), some (.int (nI (k + 1)))]) (tb_ok aX8_followsOf_1 7 rfl) rfl (nI_1 _) rfl rfl ?_
            refine s_goto (tgt := 5) (tb_ok aX8_followsOf_1 8 rfl) (by decide) ?_
            refine s_ls ?_ ih
            simp_all [nxS]
  refine ev_of (by decide +kernel) rfl ?_
  show SW X _ _ _ 0 [some (.ref 66), some (.int set), some (.int wo), none, none] [] S0 I L (R0 q) _
  refine s_iconst (v := 0) (tb_ok aX8_followsOf_0 0 rfl) (by decide) ?_
  refine s_istore_n (ls' := [some (.ref 66), some (.int set), some (.int wo), some (.int (0)), none]) (tb_ok aX8_followsOf_0 1 rfl) rfl rfl ?_
  refine s_iconst (v := 0) (tb_ok aX8_followsOf_0 2 rfl) (by decide) ?_
  refine s_istore (ls' := [some (.ref 66), some (.int set), some (.int wo), some (.int (0)), some (.int (0))]) (tb_ok aX8_followsOf_0 3 rfl) rfl rfl ?_
  exact loop 0 (Nat.zero_le _)

set_option maxRecDepth 100000 in
set_option maxHeartbeats 1000000 in
theorem R_allOf {X : En} {I : FI} {L : FL} {q : Nat × Nat} {m : Nat} {fr fa : Nat → Int32} (hl : RLw I m fr fa) {set wo : Int32} (hz : nx fr fa m (clo fr fa m wo 12 set) wo = 0) : Ev X 1 mX8_allOf (0, 0) [.ref 66, .int set, .int wo] S0 I L (R0 q) (PureR (some (.int (clo fr fa m wo 12 set))) S0 I L (R0 q)) := by
  obtain ⟨hm, hm10, hf⟩ := id hl
  have loop : ∀ (k : Nat) (x : Int32), nx fr fa m (clo fr fa m wo k x) wo = 0 → SW X 1 mX8_allOf (0, 0) 2 [some (.ref 66), some (.int set), some (.int wo), some (.int x)] [] S0 I L (R0 q) (KQ X (PureR (some (.int (clo fr fa m wo k x))) S0 I L (R0 q))) := by
    intro k
    induction k with
    | zero =>
      intro x h
      have h : nx fr fa m x wo = 0 := h
      refine s_aload_n (tb_ok aX8_allOf_0 2 rfl) rfl ?_
      refine s_iload_n (tb_ok aX8_allOf_0 3 rfl) rfl ?_
      refine s_iload_n (tb_ok aX8_allOf_0 4 rfl) rfl ?_
      refine s_cVp (as := [.int x, .int wo]) (tb_ok aX8_allOf_0 5 rfl) v_RX8_118 (R_followsOf hl _ _) (by decide) rfl rfl rfl rfl rfl (Nat.le_of_ble_eq_true rfl) (by decide) ?_
      refine s_if_eq (tgt := 23) (tb_ok aX8_allOf_0 6 rfl) (by decide) (fun c8 => ?_) (fun c8 => ?_)
      · refine s_iload_n (tb_ok aX8_allOf_0 15 rfl) rfl ?_
        refine s_iret (tb_ok aX8_allOf_0 16 rfl) rfl ?_
        exact pureR
      · exact absurd h c8
    | succ k ih =>
      intro x h
      refine s_aload_n (tb_ok aX8_allOf_0 2 rfl) rfl ?_
      refine s_iload_n (tb_ok aX8_allOf_0 3 rfl) rfl ?_
      refine s_iload_n (tb_ok aX8_allOf_0 4 rfl) rfl ?_
      refine s_cVp (as := [.int x, .int wo]) (tb_ok aX8_allOf_0 5 rfl) v_RX8_118 (R_followsOf hl _ _) (by decide) rfl rfl rfl rfl rfl (Nat.le_of_ble_eq_true rfl) (by decide) ?_
      refine s_if_eq (tgt := 23) (tb_ok aX8_allOf_0 6 rfl) (by decide) (fun c8 => ?_) (fun c8 => ?_)
      · refine s_iload_n (tb_ok aX8_allOf_0 15 rfl) rfl ?_
        refine s_iret (tb_ok aX8_allOf_0 16 rfl) rfl ?_
        refine pureE ?_
        rw [clo, if_pos c8]
      · refine s_iload_n (tb_ok aX8_allOf_0 7 rfl) rfl ?_
        refine s_aload_n (tb_ok aX8_allOf_0 8 rfl) rfl ?_
        refine s_iload_n (tb_ok aX8_allOf_0 9 rfl) rfl ?_
        refine s_iload_n (tb_ok aX8_allOf_0 10 rfl) rfl ?_
        refine s_cVp (as := [.int x, .int wo]) (tb_ok aX8_allOf_0 11 rfl) v_RX8_118 (R_followsOf hl _ _) (by decide) rfl rfl rfl rfl rfl (Nat.le_of_ble_eq_true rfl) (by decide) ?_
        refine s_ior (tb_ok aX8_allOf_0 12 rfl) ?_
        refine s_name (fun x1 ex1 => ?_)
        refine s_istore_n (ls' := [some (.ref 66), some (.int set), some (.int wo), some (.int x1)]) (tb_ok aX8_allOf_0 13 rfl) rfl rfl ?_
        refine s_goto (tgt := 2) (tb_ok aX8_allOf_0 14 rfl) (by decide) ?_
        rw [clo, if_neg c8] at h ⊢
        subst ex1
        exact ih _ h
  refine ev_of (by decide +kernel) rfl ?_
  show SW X _ _ _ 0 [some (.ref 66), some (.int set), some (.int wo), none] [] S0 I L (R0 q) _
  refine s_iload_n (tb_ok aX8_allOf_0 0 rfl) rfl ?_
  refine s_istore_n (ls' := [some (.ref 66), some (.int set), some (.int wo), some (.int set)]) (tb_ok aX8_allOf_0 1 rfl) rfl rfl ?_
  exact loop 12 _ hz

set_option maxRecDepth 100000 in
set_option maxHeartbeats 1000000 in
theorem R_roundsOf {X : En} {I : FI} {L : FL} {q : Nat × Nat} {m : Nat} {fr fa : Nat → Int32} (hl : RLw I m fr fa) {set : Int32} (hz : nx fr fa m (clo fr fa m (-1) 12 set) (-1) = 0) : Ev X 1 mX8_roundsOf (0, 0) [.ref 66, .int set] S0 I L (R0 q) (PureR (some (.int (nI (rnd fr fa m 12 set 0)))) S0 I L (R0 q)) := by
  obtain ⟨hm, hm10, hf⟩ := id hl
  have loop : ∀ (k : Nat) (x : Int32) (c : Nat), nx fr fa m (clo fr fa m (-1) k x) (-1) = 0 → SW X 1 mX8_roundsOf (0, 0) 4 [some (.ref 66), some (.int set), some (.int x), some (.int (nI c))] [] S0 I L (R0 q) (KQ X (PureR (some (.int (nI (rnd fr fa m k x c)))) S0 I L (R0 q))) := by
    intro k
    induction k with
    | zero =>
      intro x c h
      have h : nx fr fa m x (-1) = 0 := h
      refine s_aload_n (tb_ok aX8_roundsOf_0 4 rfl) rfl ?_
      refine s_iload_n (tb_ok aX8_roundsOf_0 5 rfl) rfl ?_
      refine s_iconst (v := -1) (tb_ok aX8_roundsOf_0 6 rfl) (by decide) ?_
      refine s_cVp (as := [.int x, .int (-1)]) (tb_ok aX8_roundsOf_0 7 rfl) v_RX8_118 (R_followsOf hl _ _) (by decide) rfl rfl rfl rfl rfl (Nat.le_of_ble_eq_true rfl) (by decide) ?_
      refine s_if_eq (tgt := 28) (tb_ok aX8_roundsOf_0 8 rfl) (by decide) (fun c10 => ?_) (fun c10 => ?_)
      · refine s_iload_n (tb_ok aX8_roundsOf_0 18 rfl) rfl ?_
        refine s_iret (tb_ok aX8_roundsOf_0 19 rfl) rfl ?_
        exact pureR
      · exact absurd h c10
    | succ k ih =>
      intro x c h
      refine s_aload_n (tb_ok aX8_roundsOf_0 4 rfl) rfl ?_
      refine s_iload_n (tb_ok aX8_roundsOf_0 5 rfl) rfl ?_
      refine s_iconst (v := -1) (tb_ok aX8_roundsOf_0 6 rfl) (by decide) ?_
      refine s_cVp (as := [.int x, .int (-1)]) (tb_ok aX8_roundsOf_0 7 rfl) v_RX8_118 (R_followsOf hl _ _) (by decide) rfl rfl rfl rfl rfl (Nat.le_of_ble_eq_true rfl) (by decide) ?_
      refine s_if_eq (tgt := 28) (tb_ok aX8_roundsOf_0 8 rfl) (by decide) (fun c10 => ?_) (fun c10 => ?_)
      · refine s_iload_n (tb_ok aX8_roundsOf_0 18 rfl) rfl ?_
        refine s_iret (tb_ok aX8_roundsOf_0 19 rfl) rfl ?_
        refine pureE ?_
        rw [rnd, if_pos c10]
      · refine s_iload_n (tb_ok aX8_roundsOf_0 9 rfl) rfl ?_
        refine s_aload_n (tb_ok aX8_roundsOf_0 10 rfl) rfl ?_
        refine s_iload_n (tb_ok aX8_roundsOf_0 11 rfl) rfl ?_
        refine s_iconst (v := -1) (tb_ok aX8_roundsOf_0 12 rfl) (by decide) ?_
        refine s_cVp (as := [.int x, .int (-1)]) (tb_ok aX8_roundsOf_0 13 rfl) v_RX8_118 (R_followsOf hl _ _) (by decide) rfl rfl rfl rfl rfl (Nat.le_of_ble_eq_true rfl) (by decide) ?_
        refine s_ior (tb_ok aX8_roundsOf_0 14 rfl) ?_
        refine s_name (fun x1 ex1 => ?_)
        refine s_istore_n (ls' := [some (.ref 66), some (.int set), some (.int x1), some (.int (nI c))]) (tb_ok aX8_roundsOf_0 15 rfl) rfl rfl ?_
        refine s_iinc (v := nI (c + 1)) (ls' := [some (.ref 66), some (.int set), some (.int x1), some (.int (nI (c + 1)))]) (tb_ok aX8_roundsOf_0 16 rfl) rfl (nI_1 _) rfl rfl ?_
        refine s_goto (tgt := 4) (tb_ok aX8_roundsOf_0 17 rfl) (by decide) ?_
        rw [rnd, if_neg c10]
        rw [clo, if_neg c10] at h
        subst ex1
        exact ih _ _ h
  refine ev_of (by decide +kernel) rfl ?_
  show SW X _ _ _ 0 [some (.ref 66), some (.int set), none, none] [] S0 I L (R0 q) _
  refine s_iload_n (tb_ok aX8_roundsOf_0 0 rfl) rfl ?_
  refine s_istore_n (ls' := [some (.ref 66), some (.int set), some (.int set), none]) (tb_ok aX8_roundsOf_0 1 rfl) rfl rfl ?_
  refine s_iconst (v := nI 0) (tb_ok aX8_roundsOf_0 2 rfl) (by decide) ?_
  refine s_istore_n (ls' := [some (.ref 66), some (.int set), some (.int set), some (.int (nI 0))]) (tb_ok aX8_roundsOf_0 3 rfl) rfl rfl ?_
  exact loop 12 _ 0 hz

set_option maxRecDepth 100000 in
set_option maxHeartbeats 1000000 in
theorem R_idleSet {X : En} {I : FI} {L : FL} {q : Nat × Nat} {m : Nat} {fr fa : Nat → Int32} (hl : RLw I m fr fa) (hz : ∀ k, k < m → nx fr fa m (clo fr fa m (nI k) 12 (fr k)) (nI k) = 0) : Ev X 2 mX8_idleSet (0, 0) [.ref 66] S0 I L (R0 q) (PureR (some (.int (idl fr fa m m))) S0 I L (R0 q)) := by
  obtain ⟨hm, hm10, hf⟩ := id hl
  have loop : ∀ k, k ≤ m → SW X 2 mX8_idleSet (0, 0) 4 [some (.ref 66), some (.int (idl fr fa m k)), some (.int (nI k))] [] S0 I L (R0 q) (KQ X (PureR (some (.int (idl fr fa m m))) S0 I L (R0 q))) := by
    refine for_up (P := fun k => SW X 2 mX8_idleSet (0, 0) 4 [some (.ref 66), some (.int (idl fr fa m k)), some (.int (nI k))] [] S0 I L (R0 q) (KQ X (PureR (some (.int (idl fr fa m m))) S0 I L (R0 q)))) m ?_ ?_
    · refine s_iload_n (tb_ok aX8_idleSet_0 4 rfl) rfl ?_
      refine s_aload_n (tb_ok aX8_idleSet_0 5 rfl) rfl ?_
      refine s_getI (x := (nI m)) (tb_ok aX8_idleSet_0 6 rfl) f_RX8_85 rfl rfl hm ?_
      refine s_icmp_ge (tgt := 43) (tb_ok aX8_idleSet_0 7 rfl) (by decide) (fun c9 => ?_) (fun c9 => ?_)
      · refine s_iload_n (tb_ok aX8_idleSet_1 5 rfl) rfl ?_
        refine s_iret (tb_ok aX8_idleSet_1 6 rfl) rfl ?_
        exact pureR
      · simp (disch := omega) only [nI_ltI, nI_leI, nI_eq] at c9
        omega
    · intro k hk ih
      refine s_iload_n (tb_ok aX8_idleSet_0 4 rfl) rfl ?_
      refine s_aload_n (tb_ok aX8_idleSet_0 5 rfl) rfl ?_
      refine s_getI (x := (nI m)) (tb_ok aX8_idleSet_0 6 rfl) f_RX8_85 rfl rfl hm ?_
      refine s_icmp_ge (tgt := 43) (tb_ok aX8_idleSet_0 7 rfl) (by decide) (fun c9 => ?_) (fun c9 => ?_)
      · simp (disch := omega) only [nI_ltI, nI_leI, nI_eq] at c9
        omega
      · refine s_iload_n (tb_ok aX8_idleSet_0 8 rfl) rfl ?_
        refine s_aload_n (tb_ok aX8_idleSet_0 9 rfl) rfl ?_
        refine s_aload_n (tb_ok aX8_idleSet_0 10 rfl) rfl ?_
        refine s_getR (r := 70) (tb_ok aX8_idleSet_0 11 rfl) f_RX8_23 rfl rfl rfl ?_
        refine s_iload_n (tb_ok aX8_idleSet_0 12 rfl) rfl ?_
        refine s_ialdX (x := (fr k)) (tb_ok aX8_idleSet_0 13 rfl) rfl (by omega) (by decide) (hf k hk).1 ?_
        refine s_iload_n (tb_ok aX8_idleSet_0 14 rfl) rfl ?_
        refine s_cVp (as := [.int (fr k), .int (nI k)]) (tb_ok aX8_idleSet_0 15 rfl) v_RX8_127 (R_allOf hl (hz k hk)) (by decide) rfl rfl rfl rfl rfl (Nat.le_of_ble_eq_true rfl) (by decide) ?_
        refine s_aload_n (tb_ok aX8_idleSet_0 16 rfl) rfl ?_
        refine s_getR (r := 71) (tb_ok aX8_idleSet_0 17 rfl) f_RX8_26 rfl rfl rfl ?_
        refine s_iload_n (tb_ok aX8_idleSet_0 18 rfl) rfl ?_
        refine s_ialdX (x := (fa k)) (tb_ok aX8_idleSet_0 19 rfl) rfl (by omega) (by decide) (hf k hk).2 ?_
        refine s_ishr (tb_ok aX8_idleSet_0 20 rfl) ?_
        refine s_iconst (v := 1) (tb_ok aX8_idleSet_0 21 rfl) (by decide) ?_
        refine s_iand (tb_ok aX8_idleSet_0 22 rfl) ?_
        refine s_iload_n (tb_ok aX8_idleSet_0 23 rfl) rfl ?_
        refine s_ishl (tb_ok aX8_idleSet_1 0 rfl) ?_
        refine s_ior (tb_ok aX8_idleSet_1 1 rfl) ?_
        refine s_name (fun x1 ex1 => ?_)
        refine s_istore_n (ls' := [some (.ref 66), some (.int x1), some (.int (nI k))]) (tb_ok aX8_idleSet_1 2 rfl) rfl rfl ?_
        refine s_iinc (v := nI (k + 1)) (ls' := [some (.ref 66), some (.int x1), some (.int (nI (k + 1)))]) (tb_ok aX8_idleSet_1 3 rfl) rfl (nI_1 _) rfl rfl ?_
        refine s_goto (tgt := 4) (tb_ok aX8_idleSet_1 4 rfl) (by decide) ?_
        rw [ex1]
        exact ih
  refine ev_of (by decide +kernel) rfl ?_
  show SW X _ _ _ 0 [some (.ref 66), none, none] [] S0 I L (R0 q) _
  refine s_iconst (v := 0) (tb_ok aX8_idleSet_0 0 rfl) (by decide) ?_
  refine s_istore_n (ls' := [some (.ref 66), some (.int (0)), none]) (tb_ok aX8_idleSet_0 1 rfl) rfl rfl ?_
  refine s_iconst (v := nI 0) (tb_ok aX8_idleSet_0 2 rfl) (by decide) ?_
  refine s_istore_n (ls' := [some (.ref 66), some (.int (0)), some (.int (nI 0))]) (tb_ok aX8_idleSet_0 3 rfl) rfl rfl ?_
  exact loop 0 (Nat.zero_le _)

set_option maxRecDepth 100000 in
set_option maxHeartbeats 1000000 in
theorem R_rootSet {X : En} {I : FI} {L : FL} {q : Nat × Nat} {m : Nat} {fr fa : Nat → Int32} (hl : RLw I m fr fa) : Ev X 0 mX8_rootSet (0, 0) [.ref 66] S0 I L (R0 q) (PureR (some (.int (rts fa m))) S0 I L (R0 q)) := by
  obtain ⟨hm, hm10, hf⟩ := id hl
  have loop : ∀ k, k ≤ m → SW X 0 mX8_rootSet (0, 0) 6 [some (.ref 66), some (.int (rts fa k)), some (.int (nI k))] [] S0 I L (R0 q) (KQ X (PureR (some (.int (rts fa m))) S0 I L (R0 q))) := by
    refine for_up (P := fun k => SW X 0 mX8_rootSet (0, 0) 6 [some (.ref 66), some (.int (rts fa k)), some (.int (nI k))] [] S0 I L (R0 q) (KQ X (PureR (some (.int (rts fa m))) S0 I L (R0 q)))) m ?_ ?_
    · refine s_iload_n (tb_ok aX8_rootSet_0 4 rfl) rfl ?_
      refine s_aload_n (tb_ok aX8_rootSet_0 5 rfl) rfl ?_
      refine s_getI (x := (nI m)) (tb_ok aX8_rootSet_0 6 rfl) f_RX8_85 rfl rfl hm ?_
      refine s_icmp_ge (tgt := 33) (tb_ok aX8_rootSet_0 7 rfl) (by decide) (fun c11 => ?_) (fun c11 => ?_)
      · refine s_iload_n (tb_ok aX8_rootSet_0 21 rfl) rfl ?_
        refine s_iret (tb_ok aX8_rootSet_0 22 rfl) rfl ?_
        exact pureR
      · simp (disch := omega) only [nI_ltI, nI_leI, nI_eq] at c11
        omega
    · intro k hk ih
      refine s_iload_n (tb_ok aX8_rootSet_0 4 rfl) rfl ?_
      refine s_aload_n (tb_ok aX8_rootSet_0 5 rfl) rfl ?_
      refine s_getI (x := (nI m)) (tb_ok aX8_rootSet_0 6 rfl) f_RX8_85 rfl rfl hm ?_
      refine s_icmp_ge (tgt := 33) (tb_ok aX8_rootSet_0 7 rfl) (by decide) (fun c11 => ?_) (fun c11 => ?_)
      · simp (disch := omega) only [nI_ltI, nI_leI, nI_eq] at c11
        omega
      · refine s_iload_n (tb_ok aX8_rootSet_0 8 rfl) rfl ?_
        refine s_iconst (v := 1) (tb_ok aX8_rootSet_0 9 rfl) (by decide) ?_
        refine s_aload_n (tb_ok aX8_rootSet_0 10 rfl) rfl ?_
        refine s_getR (r := 71) (tb_ok aX8_rootSet_0 11 rfl) f_RX8_26 rfl rfl rfl ?_
        refine s_iload_n (tb_ok aX8_rootSet_0 12 rfl) rfl ?_
        refine s_ialdX (x := (fa k)) (tb_ok aX8_rootSet_0 13 rfl) rfl (by omega) (by decide) (hf k hk).2 ?_
        refine s_ishl (tb_ok aX8_rootSet_0 14 rfl) ?_
        refine s_iconst (v := -1) (tb_ok aX8_rootSet_0 15 rfl) (by decide) ?_
        refine s_ixor (tb_ok aX8_rootSet_0 16 rfl) ?_
        refine s_iand (tb_ok aX8_rootSet_0 17 rfl) ?_
        refine s_name (fun x1 ex1 => ?_)
        refine s_istore_n (ls' := [some (.ref 66), some (.int x1), some (.int (nI k))]) (tb_ok aX8_rootSet_0 18 rfl) rfl rfl ?_
        refine s_iinc (v := nI (k + 1)) (ls' := [some (.ref 66), some (.int x1), some (.int (nI (k + 1)))]) (tb_ok aX8_rootSet_0 19 rfl) rfl (nI_1 _) rfl rfl ?_
        refine s_goto (tgt := 6) (tb_ok aX8_rootSet_0 20 rfl) (by decide) ?_
        refine s_ls ?_ ih
        simp_all [rts]
  refine ev_of (by decide +kernel) rfl ?_
  show SW X _ _ _ 0 [some (.ref 66), none, none] [] S0 I L (R0 q) _
  refine s_sipush (v := 4095) (tb_ok aX8_rootSet_0 0 rfl) (by decide) ?_
  refine s_istore_n (ls' := [some (.ref 66), some (.int (4095)), none]) (tb_ok aX8_rootSet_0 1 rfl) rfl rfl ?_
  refine s_iconst (v := nI 0) (tb_ok aX8_rootSet_0 2 rfl) (by decide) ?_
  refine s_istore_n (ls' := [some (.ref 66), some (.int (4095)), some (.int (nI 0))]) (tb_ok aX8_rootSet_0 3 rfl) rfl rfl ?_
  exact loop 0 (Nat.zero_le _)

/-- the pairs, as the reference counts them -/
def tsm (A : Nat → Int32) (a b : Nat) : Int32 := ((A a >>> (nI b &&& 31)) &&& (A b >>> (nI a &&& 31))) &&& 1
def sm2 (A : Nat → Int32) (a : Nat) : Nat → Int32
  | 0 => 0
  | j + 1 => sm2 A a j + tsm A a (a + 1 + j)
def sm3 (A : Nat → Int32) (N : Nat) : Nat → Int32
  | 0 => 0
  | a + 1 => sm3 A N a + sm2 A a (N - (a + 1))
theorem tsm_c (A : Nat → Int32) (a b : Nat) : tsm A a b = tsm A b a := by unfold tsm; rw [Int32.and_comm (A a >>> _)]
theorem smB_t (A : Nat → Int32) (f : Nat) : ∀ k, smB A f (k + 1) = smB A f k + tsm A f k := fun _ => rfl
theorem sm3_s (A : Nat → Int32) (N : Nat) : ∀ a, a ≤ N → sm3 A (N + 1) a = sm3 A N a + smB A N a := by
  intro a
  induction a with
  | zero => intro _; rfl
  | succ a ih =>
    intro h
    rw [sm3, sm3, ih (by omega), smB_t, show N + 1 - (a + 1) = (N - (a + 1)) + 1 by omega, sm2, show a + 1 + (N - (a + 1)) = N by omega, tsm_c A N a]
    ac_rfl
theorem sm_eq (A : Nat → Int32) : ∀ N, smT A N = sm3 A N N := by
  intro N
  induction N with
  | zero => rfl
  | succ N ih =>
    rw [smT, sm3, sm3_s A N N (Nat.le_refl _), ih, show N + 1 - (N + 1) = 0 by omega, sm2, Int32.add_zero]
set_option maxRecDepth 100000 in
set_option maxHeartbeats 1000000 in
theorem R_sameMany {X : En} {I : FI} {L : FL} {q : Nat × Nat} {m : Nat} {fr fa : Nat → Int32} (hl : RLw I m fr fa) (hz : ∀ f, f < 12 → nx fr fa m (clo fr fa m (-1) 12 ((1 : Int32) <<< (nI f &&& 31))) (-1) = 0) : Ev X 2 mX8_sameMany (0, 0) [.ref 66] S0 I L (R0 q) (PureR (some (.int (smT (cl1 fr fa m) 12))) S0 I L (R0 q)) := by
  obtain ⟨hm, hm10, hf⟩ := id hl
  rw [sm_eq]
  have loop : ∀ k, k ≤ 12 → ∀ (o3 : Option Value), SW X 2 mX8_sameMany (0, 0) 4 [some (.ref 66), some (.int (sm3 (cl1 fr fa m) 12 k)), some (.int (nI k)), o3] [] S0 I L (R0 q) (KQ X (PureR (some (.int (sm3 (cl1 fr fa m) 12 12))) S0 I L (R0 q))) := by
    refine for_up (P := fun k => ∀ (o3 : Option Value), SW X 2 mX8_sameMany (0, 0) 4 [some (.ref 66), some (.int (sm3 (cl1 fr fa m) 12 k)), some (.int (nI k)), o3] [] S0 I L (R0 q) (KQ X (PureR (some (.int (sm3 (cl1 fr fa m) 12 12))) S0 I L (R0 q)))) 12 ?_ ?_
    · intro o3
      refine s_iload_n (tb_ok aX8_sameMany_0 4 rfl) rfl ?_
      refine s_bipush (v := nI 12) (tb_ok aX8_sameMany_0 5 rfl) (by decide) ?_
      refine s_icmp_ge (tgt := 58) (tb_ok aX8_sameMany_0 6 rfl) (by decide) (fun c7 => ?_) (fun c7 => ?_)
      · refine s_iload_n (tb_ok aX8_sameMany_1 16 rfl) rfl ?_
        refine s_iret (tb_ok aX8_sameMany_1 17 rfl) rfl ?_
        exact pureR
      · simp (disch := omega) only [nI_ltI, nI_leI, nI_eq] at c7
        omega
    · intro a hk iho o3
      refine s_iload_n (tb_ok aX8_sameMany_0 4 rfl) rfl ?_
      refine s_bipush (v := nI 12) (tb_ok aX8_sameMany_0 5 rfl) (by decide) ?_
      refine s_icmp_ge (tgt := 58) (tb_ok aX8_sameMany_0 6 rfl) (by decide) (fun c7 => ?_) (fun c7 => ?_)
      · simp (disch := omega) only [nI_leI] at c7
        omega
      · refine s_iload_n (tb_ok aX8_sameMany_0 7 rfl) rfl ?_
        refine s_iconst (v := 1) (tb_ok aX8_sameMany_0 8 rfl) (by decide) ?_
        refine s_iadd (tb_ok aX8_sameMany_0 9 rfl) ?_
        refine s_topi (z := (nI (a + 1))) (nI_1 a) ?_
        refine s_istore_n (ls' := [some (.ref 66), some (.int (sm3 (cl1 fr fa m) 12 a)), some (.int (nI a)), some (.int (nI (a + 1)))]) (tb_ok aX8_sameMany_0 10 rfl) rfl rfl ?_
        have inner : ∀ k, k ≤ (12 - (a + 1)) → SW X 2 mX8_sameMany (0, 0) 14 [some (.ref 66), some (.int (sm3 (cl1 fr fa m) 12 a + sm2 (cl1 fr fa m) a k)), some (.int (nI a)), some (.int (nI (a + 1 + k)))] [] S0 I L (R0 q) (KQ X (PureR (some (.int (sm3 (cl1 fr fa m) 12 12))) S0 I L (R0 q))) := by
          refine for_up (P := fun k => SW X 2 mX8_sameMany (0, 0) 14 [some (.ref 66), some (.int (sm3 (cl1 fr fa m) 12 a + sm2 (cl1 fr fa m) a k)), some (.int (nI a)), some (.int (nI (a + 1 + k)))] [] S0 I L (R0 q) (KQ X (PureR (some (.int (sm3 (cl1 fr fa m) 12 12))) S0 I L (R0 q)))) (12 - (a + 1)) ?_ ?_
          · refine s_iload_n (tb_ok aX8_sameMany_0 11 rfl) rfl ?_
            refine s_bipush (v := nI 12) (tb_ok aX8_sameMany_0 12 rfl) (by decide) ?_
            refine s_icmp_ge (tgt := 52) (tb_ok aX8_sameMany_0 13 rfl) (by decide) (fun c17 => ?_) (fun c17 => ?_)
            · refine s_iinc (v := nI (a + 1)) (ls' := [some (.ref 66), some (.int (sm3 (cl1 fr fa m) 12 a + sm2 (cl1 fr fa m) a (12 - (a + 1)))), some (.int (nI (a + 1))), some (.int (nI (a + 1 + (12 - (a + 1)))))]) (tb_ok aX8_sameMany_1 14 rfl) rfl (nI_1 _) rfl rfl ?_
              refine s_goto (tgt := 4) (tb_ok aX8_sameMany_1 15 rfl) (by decide) ?_
              refine s_ls ?_ (iho (some (.int (nI (a + 1 + (12 - (a + 1)))))))
              rw [sm3]
            · simp (disch := omega) only [nI_leI] at c17
              omega
          · intro k hk ih
            refine s_iload_n (tb_ok aX8_sameMany_0 11 rfl) rfl ?_
            refine s_bipush (v := nI 12) (tb_ok aX8_sameMany_0 12 rfl) (by decide) ?_
            refine s_icmp_ge (tgt := 52) (tb_ok aX8_sameMany_0 13 rfl) (by decide) (fun c17 => ?_) (fun c17 => ?_)
            · simp (disch := omega) only [nI_leI] at c17
              omega
            · refine s_iload_n (tb_ok aX8_sameMany_0 14 rfl) rfl ?_
              refine s_aload_n (tb_ok aX8_sameMany_0 15 rfl) rfl ?_
              refine s_iconst (v := 1) (tb_ok aX8_sameMany_0 16 rfl) (by decide) ?_
              refine s_iload_n (tb_ok aX8_sameMany_0 17 rfl) rfl ?_
              refine s_ishl (tb_ok aX8_sameMany_0 18 rfl) ?_
              refine s_iconst (v := -1) (tb_ok aX8_sameMany_0 19 rfl) (by decide) ?_
              refine s_cVp (as := [_, .int (-1)]) (tb_ok aX8_sameMany_0 20 rfl) v_RX8_127 (R_allOf hl (hz a (by omega))) (by decide) rfl rfl rfl rfl rfl (Nat.le_of_ble_eq_true rfl) (by decide) ?_
              refine s_topi (z := cl1 fr fa m a) rfl ?_
              refine s_iload_n (tb_ok aX8_sameMany_0 21 rfl) rfl ?_
              refine s_ishr (tb_ok aX8_sameMany_0 22 rfl) ?_
              refine s_aload_n (tb_ok aX8_sameMany_0 23 rfl) rfl ?_
              refine s_iconst (v := 1) (tb_ok aX8_sameMany_1 0 rfl) (by decide) ?_
              refine s_iload_n (tb_ok aX8_sameMany_1 1 rfl) rfl ?_
              refine s_ishl (tb_ok aX8_sameMany_1 2 rfl) ?_
              refine s_iconst (v := -1) (tb_ok aX8_sameMany_1 3 rfl) (by decide) ?_
              refine s_cVp (as := [_, .int (-1)]) (tb_ok aX8_sameMany_1 4 rfl) v_RX8_127 (R_allOf hl (hz (a + 1 + k) (by omega))) (by decide) rfl rfl rfl rfl rfl (Nat.le_of_ble_eq_true rfl) (by decide) ?_
              refine s_topi (z := cl1 fr fa m (a + 1 + k)) rfl ?_
              refine s_iload_n (tb_ok aX8_sameMany_1 5 rfl) rfl ?_
              refine s_ishr (tb_ok aX8_sameMany_1 6 rfl) ?_
              refine s_iand (tb_ok aX8_sameMany_1 7 rfl) ?_
              refine s_iconst (v := 1) (tb_ok aX8_sameMany_1 8 rfl) (by decide) ?_
              refine s_iand (tb_ok aX8_sameMany_1 9 rfl) ?_
              refine s_iadd (tb_ok aX8_sameMany_1 10 rfl) ?_
              refine s_name (fun x1 ex1 => ?_)
              refine s_istore_n (ls' := [some (.ref 66), some (.int x1), some (.int (nI a)), some (.int (nI (a + 1 + k)))]) (tb_ok aX8_sameMany_1 11 rfl) rfl rfl ?_
              refine s_iinc (v := nI ((a + 1 + k) + 1)) (ls' := [some (.ref 66), some (.int x1), some (.int (nI a)), some (.int (nI ((a + 1 + k) + 1)))]) (tb_ok aX8_sameMany_1 12 rfl) rfl (nI_1 _) rfl rfl ?_
              refine s_goto (tgt := 14) (tb_ok aX8_sameMany_1 13 rfl) (by decide) ?_
              refine s_ls ?_ ih
              rw [ex1, sm2, ← Int32.add_assoc, show a + 1 + (k + 1) = a + 1 + k + 1 by omega]
              rfl
        have h0 := inner 0 (Nat.zero_le _)
        rw [show a + 1 + 0 = a + 1 from rfl, sm2, Int32.add_zero] at h0
        exact h0
  refine ev_of (by decide +kernel) rfl ?_
  show SW X _ _ _ 0 [some (.ref 66), none, none, none] [] S0 I L (R0 q) _
  refine s_iconst (v := 0) (tb_ok aX8_sameMany_0 0 rfl) (by decide) ?_
  refine s_istore_n (ls' := [some (.ref 66), some (.int (0)), none, none]) (tb_ok aX8_sameMany_0 1 rfl) rfl rfl ?_
  refine s_iconst (v := nI 0) (tb_ok aX8_sameMany_0 2 rfl) (by decide) ?_
  refine s_istore_n (ls' := [some (.ref 66), some (.int (0)), some (.int (nI 0)), none]) (tb_ok aX8_sameMany_0 3 rfl) rfl rfl ?_
  exact loop 0 (Nat.zero_le _) _
