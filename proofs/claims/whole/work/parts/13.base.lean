/-! the world that both constructors leave: its shape, its references (q: the rule of Ways, the rule of the Reader) -/
def S0 : Sh := [(7, 13), (0, 4), (9, 10), (9, 10), (9, 12), (1, 4), (11, 5), (5, 5), (5, 5), (5, 5), (5, 5), (5, 5), (1, 4), (11, 5), (5, 5), (5, 5), (5, 5), (5, 5), (5, 5), (1, 4), (11, 5), (5, 5), (5, 5), (5, 5), (5, 5), (5, 5), (5, 5), (5, 5), (12, 6), (13, 4), (4, 4), (9, 160), (9, 3), (9, 31), (4, 4), (9, 160), (9, 3), (9, 31), (4, 4), (9, 160), (9, 3), (9, 31), (4, 4), (9, 160), (9, 3), (9, 31), (4, 4), (9, 160), (9, 3), (9, 31), (4, 4), (9, 160), (9, 3), (9, 31), (3, 3), (9, 40), (3, 3), (9, 40), (3, 3), (9, 40), (3, 3), (9, 40), (2, 8), (9, 160), (6, 3), (9, 6), (8, 42), (9, 960), (9, 6), (9, 160), (9, 10), (9, 10), (9, 5), (9, 20), (9, 20), (9, 10), (9, 10), (9, 20), (10, 4), (9, 4), (9, 4), (9, 160)]
def R0L : List (List (Option Nat)) := [[some 1, some 5, some 12, some 19, some 26, some 27, some 28, some 29, some 62, some 64, none, none, none], [some 2, some 3, some 4, none], [], [], [], [some 6, none, none, none], [some 7, some 8, some 9, some 10, some 11], [], [], [], [], [], [some 13, none, none, none], [some 14, some 15, some 16, some 17, some 18], [], [], [], [], [], [some 20, none, none, none], [some 21, some 22, some 23, some 24, some 25], [], [], [], [], [], [], [], [some 30, some 34, some 38, some 42, some 46, some 50], [some 54, some 56, some 58, some 60], [some 31, some 32, some 33, none], [], [], [], [some 35, some 36, some 37, none], [], [], [], [some 39, some 40, some 41, none], [], [], [], [some 43, some 44, some 45, none], [], [], [], [some 47, some 48, some 49, none], [], [], [], [some 51, some 52, some 53, none], [], [], [], [some 55, none, none], [], [some 57, none, none], [], [some 59, none, none], [], [some 61, none, none], [], [some 63, none, none, none, none, none, none, none], [], [some 1, some 65, none], [], [none, some 67, some 68, none, none, some 69, none, none, some 70, some 71, none, some 72, some 73, none, none, none, none, none, none, none, none, none, none, none, none, none, none, none, none, some 74, none, some 75, some 76, some 77, none, none, none, none, some 78, some 79, some 80, some 81], [], [], [], [], [], [], [], [], [], [], [], [], [], [], []]
def R0 (q : Nat × Nat) : FR := fun o k => if o = 64 ∧ k = 2 then some q.1 else if o = 62 ∧ k = 2 then some q.2 else (R0L.getD o []).getD k none
theorem R0_rd (q : Nat × Nat) (t : Nat) : up2 (R0 q) 62 2 (some t) = R0 (q.1, t) := by
  funext o k
  unfold up2 R0
  by_cases h : o = 62
  · subst h
    by_cases h2 : k = 2
    · subst h2; simp
    · simp [h2]
  · simp [h]
theorem R0_wy (q : Nat × Nat) (t : Nat) : up2 (R0 q) 64 2 (some t) = R0 (t, q.2) := by
  funext o k
  unfold up2 R0
  by_cases h : o = 64
  · subst h
    by_cases h2 : k = 2
    · subst h2; simp
    · simp [h2]
  · simp [h]
def isLore (S : Sh) (R : FR) (o : Nat) : Prop := S[o]? = some (0, 4) ∧ R o 0 = some (o + 1) ∧ S[o + 1]? = some (9, 10) ∧ R o 1 = some (o + 2) ∧ S[o + 2]? = some (9, 10) ∧ R o 2 = some (o + 3) ∧ S[o + 3]? = some (9, 12)
def isRule (S : Sh) (R : FR) (o : Nat) : Prop := S[o]? = some (4, 4) ∧ R o 0 = some (o + 1) ∧ S[o + 1]? = some (9, 160) ∧ R o 1 = some (o + 2) ∧ S[o + 2]? = some (9, 3) ∧ R o 2 = some (o + 3) ∧ S[o + 3]? = some (9, 31)
theorem lore0 (q : Nat × Nat) : isLore S0 (R0 q) 1 := ⟨rfl, rfl, rfl, rfl, rfl, rfl, rfl⟩
def ruleN (i : Nat) : Nat := 30 + 4 * i
theorem rule0 (q : Nat × Nat) {i : Nat} (h : i < 6) : isRule S0 (R0 q) (ruleN i) := by
  match i, h with
  | 0, _ => exact ⟨rfl, rfl, rfl, rfl, rfl, rfl, rfl⟩
  | 1, _ => exact ⟨rfl, rfl, rfl, rfl, rfl, rfl, rfl⟩
  | 2, _ => exact ⟨rfl, rfl, rfl, rfl, rfl, rfl, rfl⟩
  | 3, _ => exact ⟨rfl, rfl, rfl, rfl, rfl, rfl, rfl⟩
  | 4, _ => exact ⟨rfl, rfl, rfl, rfl, rfl, rfl, rfl⟩
  | 5, _ => exact ⟨rfl, rfl, rfl, rfl, rfl, rfl, rfl⟩
/-- an answer of yes or no -/
def bI (p : Prop) [Decidable p] : Int32 := if p then 1 else 0
theorem bI_01 (p : Prop) [Decidable p] : bI p = 0 ∨ bI p = 1 := by unfold bI; by_cases h : p <;> simp [h]
theorem bI_0 {p : Prop} [Decidable p] : bI p = 0 ↔ ¬ p := by unfold bI; by_cases h : p <;> simp [h]
theorem bI_1 {p : Prop} [Decidable p] : bI p = 1 ↔ p := by unfold bI; by_cases h : p <;> simp [h]
theorem bI_t {p : Prop} [Decidable p] (h : p) : bI p = 1 := bI_1.mpr h
theorem bI_f {p : Prop} [Decidable p] (h : ¬ p) : bI p = 0 := bI_0.mpr h
theorem nI_lt0 {n : Nat} (h : n < 2 ^ 31) : ¬ nI n < 0 := nI_pos h
theorem i32_case (x : Int32) : x < 0 ∨ ∃ j : Nat, j < 2 ^ 31 ∧ x = nI j := by
  by_cases h : x < 0
  · exact Or.inl h
  · exact Or.inr (nI_of h)
