/-! how a text is read: a reading of its own, that class and reference are both held to -/
abbrev blP (x : Int32) : Prop := x = 32 ∨ x = 10
abbrev ltP (x : Int32) : Prop := ¬ x < 97 ∧ ¬ 122 < x
abbrev dgP (x : Int32) : Prop := ¬ x < 48 ∧ ¬ 57 < x
abbrev sgP (x : Int32) : Prop := x = 40 ∨ x = 41 ∨ x = 59 ∨ x = 43 ∨ x = 45 ∨ x = 42 ∨ x = 60 ∨ x = 61
def scn (p : Int32 → Prop) [DecidablePred p] (t : Nat → Int32) (n : Nat) : Nat → Nat → Nat
  | 0, i => i
  | k + 1, i => if i < n ∧ p (t i) then scn p t n k (i + 1) else i
/-- the first place from i on where no p stands -/
def scan (p : Int32 → Prop) [DecidablePred p] (t : Nat → Int32) (n i : Nat) : Nat := scn p t n (n - i) i
section SCAN
variable {t : Nat → Int32} {n : Nat}
theorem scan_s {p : Int32 → Prop} [DecidablePred p] {i : Nat} (h : i < n) (hp : p (t i)) : scan p t n i = scan p t n (i + 1) := by
  unfold scan
  rw [show n - i = (n - (i + 1)) + 1 by omega, scn, if_pos ⟨h, hp⟩]
theorem scan_e {p : Int32 → Prop} [DecidablePred p] {i : Nat} (h : ¬ (i < n ∧ p (t i))) : scan p t n i = i := by
  unfold scan
  cases hk : n - i with
  | zero => rfl
  | succ k => rw [scn, if_neg h]
theorem scan_all {p : Int32 → Prop} [DecidablePred p] : ∀ (k i : Nat), n - i = k → i ≤ scan p t n i ∧ (i ≤ n → scan p t n i ≤ n) ∧ (∀ j, i ≤ j → j < scan p t n i → p (t j)) ∧ ¬ (scan p t n i < n ∧ p (t (scan p t n i))) := by
  intro k
  induction k with
  | zero =>
    intro i hk
    have h : ¬ (i < n ∧ p (t i)) := fun h => by omega
    rw [scan_e h]
    exact ⟨Nat.le_refl _, fun h => h, fun j h1 h2 => by omega, h⟩
  | succ k ih =>
    intro i hk
    by_cases h : i < n ∧ p (t i)
    · rw [scan_s h.1 h.2]
      obtain ⟨h1, h2, h3, h4⟩ := ih (i + 1) (by omega)
      refine ⟨by omega, fun _ => h2 (by omega), fun j g1 g2 => ?_, h4⟩
      by_cases e : j = i
      · rw [e]; exact h.2
      · exact h3 j (by omega) g2
    · rw [scan_e h]
      exact ⟨Nat.le_refl _, fun h => h, fun j h1 h2 => by omega, h⟩
theorem scan_ge {p : Int32 → Prop} [DecidablePred p] (i : Nat) : i ≤ scan p t n i := (scan_all _ i rfl).1
theorem scan_le {p : Int32 → Prop} [DecidablePred p] {i : Nat} (h : i ≤ n) : scan p t n i ≤ n := (scan_all _ i rfl).2.1 h
theorem scan_p {p : Int32 → Prop} [DecidablePred p] {i j : Nat} (h : i ≤ j) (h2 : j < scan p t n i) : p (t j) := (scan_all _ i rfl).2.2.1 j h h2
theorem scan_n {p : Int32 → Prop} [DecidablePred p] (i : Nat) : ¬ (scan p t n i < n ∧ p (t (scan p t n i))) := (scan_all _ i rfl).2.2.2
theorem scan_gt {p : Int32 → Prop} [DecidablePred p] {i : Nat} (h : i < n) (hp : p (t i)) : i < scan p t n i := by
  rw [scan_s h hp]
  exact scan_ge (i + 1)
end SCAN
/-- the number of the k digits from p on -/
def nuV (t : Nat → Int32) (p : Nat) : Nat → Int32
  | 0 => 0
  | k + 1 => nuV t p k * 10 + t (p + k) - 48
theorem dg_nI {x : Int32} (h : dgP x) : ∃ j, j < 10 ∧ x = nI (48 + j) := by
  have e1 : (0 : Int32).toInt = 0 := by decide
  have e2 : (48 : Int32).toInt = 48 := by decide
  obtain ⟨m, hm, rfl⟩ := nI_of (x := x) (fun h2 => h.1 (by simp only [Int32.lt_iff_toInt_lt] at *; omega))
  have h1 : ¬ m < 48 := fun h2 => h.1 (nI_lt (b := 48) h2 (by omega))
  have h2 : ¬ 57 < m := fun h3 => h.2 (nI_lt (a := 57) h3 (by omega))
  exact ⟨m - 48, by omega, by congr 1; omega⟩
theorem nI_mul (a b : Nat) : nI a * nI b = nI (a * b) := by
  unfold nI
  apply Int32.toBitVec_inj.mp
  simp [← BitVec.ofNat_mul]
theorem nI_add' (a b : Nat) : nI a + nI b = nI (a + b) := by
  unfold nI
  apply Int32.toBitVec_inj.mp
  simp [← BitVec.ofNat_add]
theorem nuV_lt {t : Nat → Int32} {p : Nat} : ∀ k, (∀ j, j < k → dgP (t (p + j))) → ∃ m, m < 10 ^ k ∧ nuV t p k = nI m := by
  intro k
  induction k with
  | zero => intro _; exact ⟨0, by omega, rfl⟩
  | succ k ih =>
    intro h
    obtain ⟨m, hm, em⟩ := ih (fun j hj => h j (by omega))
    obtain ⟨j, hj, ej⟩ := dg_nI (h k (by omega))
    refine ⟨m * 10 + j, by rw [Nat.pow_succ]; omega, ?_⟩
    rw [nuV, em, ej]
    have e1 : nI m * 10 = nI (m * 10) := nI_mul m 10
    have e2 : nI (48 + j) = nI j + 48 := by rw [Nat.add_comm]; exact (nI_add' j 48).symm
    rw [e1, e2, ← Int32.add_assoc, Int32.add_sub_cancel, nI_add']
def wordsL : List (List Int32) := [[102, 97, 99, 116], [114, 105, 112, 101], [110, 117, 109, 98, 101, 114], [100, 97, 121], [107, 110, 111, 119, 110], [97, 112, 112, 108, 101, 115], [102, 97, 108, 108, 115], [114, 105, 112, 101, 110, 115], [116, 97, 107, 101, 115], [111, 114], [97, 110, 100], [110, 111, 116]]
def slc (t : Nat → Int32) (p l : Nat) : List Int32 := (List.range l).map (fun i => t (p + i))
def wrdI (s : List Int32) : List (List Int32) → Nat → Int32
  | [], _ => -1
  | w :: ws, k => if s = w then nI k else wrdI s ws (k + 1)
abbrev St : Type := Int32 × Int32 × Nat × Nat
abbrev St.tok (s : St) : Int32 := s.1
abbrev St.val (s : St) : Int32 := s.2.1
abbrev St.pl (s : St) : Nat := s.2.2.1
abbrev St.at_ (s : St) : Nat := s.2.2.2
def wdS (v w : Int32) (p e : Nat) : St := if w < 6 then (if w = -1 then 1 else 3, 10000 + w, p, e) else (4 + w - 6, v, p, e)
/-- the token from place i on -/
def lexS (t : Nat → Int32) (n : Nat) (v : Int32) (p : Nat) : St :=
  if n ≤ p then (0, v, p, p)
  else if ltP (t p) then wdS v (wrdI (slc t p (scan ltP t n p - p)) wordsL 0) p (scan ltP t n p)
  else if dgP (t p) then (if scan dgP t n p - p ≤ 4 then 2 else 1, nuV t p (scan dgP t n p - p), p, scan dgP t n p)
  else (if sgP (t p) then t p else 1, v, p, p + 1)
def lex (t : Nat → Int32) (n i : Nat) (v : Int32) : St := lexS t n v (scan blP t n i)
def adv (t : Nat → Int32) (n : Nat) (s : St) : St := lex t n s.at_ s.val
abbrev Sem : Type := (Nat → Int32) → Int32
abbrev PR : Type := (List Int32 × Sem × St) ⊕ Nat
abbrev Pa := St → PR
section PARSE
variable (t : Nat → Int32) (n : Nat)
def oneP (sub : Option (Pa × Pa × Pa)) : Pa := fun s =>
  if s.tok = 2 ∨ s.tok = 3 then .inl ([s.val], (fun nm => atm nm s.val), (adv t n s))
  else if s.tok = 45 ∨ s.tok = 40 then
    match sub with
    | none => .inr s.pl
    | some q =>
      if s.tok = 45 then
        match q.2.2 (adv t n s) with
        | .inr f => .inr f
        | .inl (c, v, s') => .inl ((c ++ [20000]), (fun nm => of1 20000 (v nm)), s')
      else
        match q.1 (adv t n s) with
        | .inr f => .inr f
        | .inl (c, v, s') => if s'.tok = 41 then .inl (c, v, (adv t n s')) else .inr s'.pl
  else .inr s.pl
def loopP (op : Int32 → Prop) [DecidablePred op] (cd : Int32 → Int32) (item : Pa) : Nat → List Int32 → Sem → St → PR
  | 0, c, v, s => .inl (c, v, s)
  | k + 1, c, v, s => if op s.tok then
      match item (adv t n s) with
      | .inr f => .inr f
      | .inl (c', v', s') => loopP op cd item k (c ++ c' ++ [cd s.tok]) (fun nm => of2 (cd s.tok) (v nm) (v' nm)) s'
    else .inl (c, v, s)
def seqP (op : Int32 → Prop) [DecidablePred op] (cd : Int32 → Int32) (item : Pa) : Pa := fun s =>
  match item s with
  | .inr f => .inr f
  | .inl (c, v, s') => loopP t n op cd item 160 c v s'
abbrev opT (x : Int32) : Prop := x = 42
abbrev opS (x : Int32) : Prop := x = 43 ∨ x = 45
abbrev opB (x : Int32) : Prop := x = 8
abbrev opE (x : Int32) : Prop := x = 7
def cdT (_ : Int32) : Int32 := 30002
def cdS (x : Int32) : Int32 := if x = 43 then 30000 else 30001
def cdB (_ : Int32) : Int32 := 30005
def cdE (_ : Int32) : Int32 := 30006
def cdC (x : Int32) : Int32 := if x = 60 then 30003 else 30004
def cmpP (sum : Pa) : Pa := fun s =>
  match sum s with
  | .inr f => .inr f
  | .inl (c, v, s') => if s'.tok = 60 ∨ s'.tok = 61 then
      match sum (adv t n s') with
      | .inr f => .inr f
      | .inl (c', v', s'') => .inl ((c ++ c' ++ [cdC s'.tok]), (fun nm => of2 (cdC s'.tok) (v nm) (v' nm)), s'')
    else .inl (c, v, s')
def notP (sub : Option (Pa × Pa × Pa)) (cmp : Pa) : Pa := fun s =>
  if s.tok = 9 then
    match sub with
    | none => .inr s.pl
    | some q =>
      match q.2.1 (adv t n s) with
      | .inr f => .inr f
      | .inl (c, v, s') => .inl ((c ++ [20001]), (fun nm => of1 20001 (v nm)), s')
  else cmp s
def termP (sub : Option (Pa × Pa × Pa)) : Pa := seqP t n opT cdT (oneP t n sub)
def sumP (sub : Option (Pa × Pa × Pa)) : Pa := seqP t n opS cdS (termP t n sub)
def compP (sub : Option (Pa × Pa × Pa)) : Pa := cmpP t n (sumP t n sub)
def nottP (sub : Option (Pa × Pa × Pa)) : Pa := notP t n sub (compP t n sub)
def bothP (sub : Option (Pa × Pa × Pa)) : Pa := seqP t n opB cdB (nottP t n sub)
def eithP (sub : Option (Pa × Pa × Pa)) : Pa := seqP t n opE cdE (bothP t n sub)
/-- what may stand within k that can still be opened -/
def lev : Nat → Option (Pa × Pa × Pa)
  | 0 => none
  | k + 1 => some (eithP t n (lev k), nottP t n (lev k), oneP t n (lev k))
/-- a part: its key, what it says, a ; -/
def partP (key : Int32) : Pa := fun s =>
  if s.tok = key then
    match eithP t n (lev t n 5) (adv t n s) with
    | .inr f => .inr f
    | .inl (c, v, s') => if s'.tok = 59 then .inl (c, v, (adv t n s')) else .inr s'.pl
  else .inr s.pl
abbrev TR : Type := (List Int32 × List Int32 × List Int32 × Sem × Sem × Sem) ⊕ Nat
def readP (v0 : Int32) : TR :=
  match partP t n 4 (lex t n 0 v0) with
  | .inr f => .inr f
  | .inl (c1, v1, s1) =>
    match partP t n 5 s1 with
    | .inr f => .inr f
    | .inl (c2, v2, s2) =>
      match partP t n 6 s2 with
      | .inr f => .inr f
      | .inl (c3, v3, s3) => if s3.tok = 0 then .inl (c1, c2, c3, v1, v2, v3) else .inr s3.pl
end PARSE
/-- a token that stands in a text of n signs -/
def Wf (n : Nat) (s : St) : Prop := s.pl ≤ s.at_ ∧ s.at_ ≤ n ∧ (s.tok ≠ 0 → s.pl < s.at_) ∧ (s.tok = 2 ∨ s.tok = 3 → s.val < 20000)
theorem wrd_rng (s : List Int32) : ∀ (ws : List (List Int32)) (k : Nat), wrdI s ws k = -1 ∨ ∃ j, k ≤ j ∧ j < k + ws.length ∧ wrdI s ws k = nI j := by
  intro ws
  induction ws with
  | nil => intro k; exact Or.inl rfl
  | cons w ws ih =>
    intro k
    unfold wrdI
    by_cases h : s = w
    · rw [if_pos h]; exact Or.inr ⟨k, Nat.le_refl _, by simp, rfl⟩
    · rw [if_neg h]
      rcases ih (k + 1) with h1 | ⟨j, h1, h2, h3⟩
      · exact Or.inl h1
      · exact Or.inr ⟨j, by omega, by simp only [List.length_cons]; omega, h3⟩
theorem wrd_12 (s : List Int32) : wrdI s wordsL 0 = -1 ∨ ∃ j, j < 12 ∧ wrdI s wordsL 0 = nI j := by
  rcases wrd_rng s wordsL 0 with h | ⟨j, _, h2, h3⟩
  · exact Or.inl h
  · exact Or.inr ⟨j, h2, h3⟩
theorem lex_wf {t : Nat → Int32} {n i : Nat} (h : i ≤ n) (v : Int32) : Wf n (lex t n i v) ∧ i ≤ (lex t n i v).pl := by
  have h1 : i ≤ scan blP t n i := scan_ge i
  have h2 : scan blP t n i ≤ n := scan_le h
  unfold lex
  generalize scan blP t n i = p at h1 h2
  unfold lexS
  by_cases c1 : n ≤ p
  · rw [if_pos c1]
    exact ⟨⟨Nat.le_refl _, h2, fun h => absurd rfl h, fun h => by
      have h : (0 : Int32) = 2 ∨ (0 : Int32) = 3 := h
      exact absurd h (by decide)⟩, h1⟩
  rw [if_neg c1]
  by_cases c2 : ltP (t p)
  · rw [if_pos c2]
    have e1 : p < scan ltP t n p := scan_gt (by omega) c2
    have e2 : scan ltP t n p ≤ n := scan_le h2
    have hw := wrd_12 (slc t p (scan ltP t n p - p))
    generalize wrdI (slc t p (scan ltP t n p - p)) wordsL 0 = w at hw
    unfold wdS
    by_cases c3 : w < 6
    · rw [if_pos c3]
      refine ⟨⟨Nat.le_of_lt e1, e2, fun _ => e1, fun _ => ?_⟩, h1⟩
      rcases hw with rfl | ⟨j, hj, rfl⟩
      · show (10000 : Int32) + -1 < 20000
        decide
      · show 10000 + nI j < 20000
        have : (10000 : Int32) + nI j = nI (10000 + j) := nI_add' 10000 j
        rw [this]
        exact nI_lt (b := 20000) (by omega) (by omega)
    · rw [if_neg c3]
      refine ⟨⟨Nat.le_of_lt e1, e2, fun _ => e1, fun h => ?_⟩, h1⟩
      exfalso
      rcases hw with rfl | ⟨j, hj, rfl⟩
      · exact c3 (by decide)
      · have h6 : ¬ j < 6 := fun h => c3 (nI_lt (b := 6) h (by omega))
        have : ∀ j, j < 12 → ¬ j < 6 → ¬ (4 + nI j - 6 = 2 ∨ 4 + nI j - 6 = 3) := by decide
        exact this j hj h6 h
  rw [if_neg c2]
  by_cases c3 : dgP (t p)
  · rw [if_pos c3]
    have e1 : p < scan dgP t n p := scan_gt (by omega) c3
    have e2 : scan dgP t n p ≤ n := scan_le h2
    refine ⟨⟨Nat.le_of_lt e1, e2, fun _ => e1, fun h => ?_⟩, h1⟩
    have h4 : scan dgP t n p - p ≤ 4 := by
      by_cases c4 : scan dgP t n p - p ≤ 4
      · exact c4
      · exfalso
        rw [if_neg c4] at h
        have h : (1 : Int32) = 2 ∨ (1 : Int32) = 3 := h
        exact absurd h (by decide)
    obtain ⟨m, hm, em⟩ := nuV_lt (t := t) (p := p) (scan dgP t n p - p) (fun j hj => scan_p (i := p) (n := n) (by omega) (by omega))
    show nuV t p (scan dgP t n p - p) < 20000
    rw [em]
    have : 10 ^ (scan dgP t n p - p) ≤ 10 ^ 4 := Nat.pow_le_pow_right (by omega) h4
    exact nI_lt (b := 20000) (by omega) (by omega)
  · rw [if_neg c3]
    refine ⟨⟨by show p ≤ p + 1; omega, by show p + 1 ≤ n; omega, fun _ => by show p < p + 1; omega, fun h => ?_⟩, h1⟩
    exfalso
    by_cases c4 : sgP (t p)
    · rw [if_pos c4] at h
      have h : t p = 2 ∨ t p = 3 := h
      rcases c4 with e | e | e | e | e | e | e | e <;> rw [e] at h <;> exact absurd h (by decide)
    · rw [if_neg c4] at h
      have h : (1 : Int32) = 2 ∨ (1 : Int32) = 3 := h
      exact absurd h (by decide)
theorem adv_wf {t : Nat → Int32} {n : Nat} {s : St} (h : Wf n s) : Wf n (adv t n s) ∧ s.pl ≤ (adv t n s).pl ∧ (s.tok ≠ 0 → s.pl + 1 ≤ (adv t n s).pl) := by
  obtain ⟨h1, h2⟩ := lex_wf (t := t) (n := n) (i := s.at_) h.2.1 s.val
  exact ⟨h1, Nat.le_trans h.1 h2, fun h3 => Nat.le_trans (h.2.2.1 h3) h2⟩
/-- the steps c, from a stack of t values on -/
def runL (nm : Nat → Int32) (c : List Int32) (s : Nat × (Nat → Int32)) : Nat × (Nat → Int32) := c.foldl (fun s c => stp nm c s.1 s.2) s
theorem runL_app (nm : Nat → Int32) (c d : List Int32) (s : Nat × (Nat → Int32)) : runL nm (c ++ d) s = runL nm d (runL nm c s) := List.foldl_append
/-- the steps c lay one value more -/
def Good (dp : Nat) (c : List Int32) (x : Int32) (nm : Nat → Int32) : Prop := ∀ (t : Nat) (w : Nat → Int32), t + dp ≤ 31 → ∃ w', runL nm c (t, w) = (t + 1, w') ∧ w' t = x ∧ ∀ j, j < t → w' j = w j
theorem Good.mono {a b : Nat} {c : List Int32} {x : Int32} {nm : Nat → Int32} (h : Good a c x nm) (hab : a ≤ b) : Good b c x nm := fun t w ht => h t w (by omega)
theorem Good.atm1 {x : Int32} {nm : Nat → Int32} (hx : x < 20000) : Good 1 [x] (atm nm x) nm := by
  intro t w ht
  refine ⟨upd w t (atm nm x), ?_, by simp [upd], fun j hj => by simp only [upd]; rw [if_neg (by omega)]⟩
  show stp nm x t w = _
  have h3 : x < 30000 := by simp only [Int32.lt_iff_toInt_lt] at *; have : (20000 : Int32).toInt = 20000 := by decide
                            have : (30000 : Int32).toInt = 30000 := by decide
                            omega
  rw [stp, if_pos h3, if_pos hx, if_neg (by omega)]
theorem Good.one {dp : Nat} {c : List Int32} {x k : Int32} {nm : Nat → Int32} (h : Good dp c x nm) (hk : ¬ k < 20000) (hk2 : k < 30000) : Good dp (c ++ [k]) (of1 k x) nm := by
  intro t w ht
  obtain ⟨w1, e1, e2, e3⟩ := h t w ht
  refine ⟨upd w1 t (of1 k x), ?_, by simp [upd], fun j hj => by simp only [upd]; rw [if_neg (by omega)]; exact e3 j hj⟩
  rw [runL_app, e1]
  show stp nm k (t + 1) w1 = _
  rw [stp, if_pos hk2, if_neg hk, if_neg (by omega), show t + 1 - 1 = t by omega, e2]
theorem Good.two {dp : Nat} {c d : List Int32} {x z k : Int32} {nm : Nat → Int32} (h : Good (dp + 1) c x nm) (h2 : Good dp d z nm) (hk : ¬ k < 30000) : Good (dp + 1) (c ++ d ++ [k]) (of2 k x z) nm := by
  intro t w ht
  obtain ⟨w1, e1, e2, e3⟩ := h t w (by omega)
  obtain ⟨w2, f1, f2, f3⟩ := h2 (t + 1) w1 (by omega)
  refine ⟨upd w2 t (of2 k x z), ?_, by simp [upd], fun j hj => by simp only [upd]; rw [if_neg (by omega), f3 j (by omega)]; exact e3 j hj⟩
  rw [runL_app, runL_app, e1, f1]
  show stp nm k (t + 1 + 1) w2 = _
  rw [stp, if_neg hk, if_neg (by omega), show t + 1 + 1 - 1 - 1 = t by omega, show t + 1 + 1 - 1 = t + 1 by omega, f2, f3 t (by omega), e2]
/-- what a reading keeps -/
def Sat (n dp : Nat) (s : St) : PR → Prop
  | .inl (c, v, s') => Wf n s' ∧ s.pl + c.length ≤ s'.pl ∧ 1 ≤ c.length ∧ ∀ nm, Good dp c (v nm) nm
  | .inr f => f ≤ n
def Nice (n dp : Nat) (P : Pa) : Prop := ∀ s, Wf n s → Sat n dp s (P s)
theorem Sat.mono {n a b : Nat} {s : St} {r : PR} (h : Sat n a s r) (hab : a ≤ b) : Sat n b s r := by
  cases r with
  | inl q => exact ⟨h.1, h.2.1, h.2.2.1, fun nm => (h.2.2.2 nm).mono hab⟩
  | inr f => exact h
theorem Wf.pl {n : Nat} {s : St} (h : Wf n s) : s.pl ≤ n := Nat.le_trans h.1 h.2.1
theorem loop_nice {t : Nat → Int32} {n dp : Nat} {op : Int32 → Prop} [DecidablePred op] {cd : Int32 → Int32} {item : Pa} (hop : ∀ x, op x → x ≠ 0) (hcd : ∀ x, op x → ¬ cd x < 30000) (hi : Nice n dp item) : ∀ (k : Nat) (s0 : St) (c : List Int32) (v : (Nat → Int32) → Int32) (s : St), Wf n s → s0.pl + c.length ≤ s.pl → 1 ≤ c.length → (∀ nm, Good (dp + 1) c (v nm) nm) → Sat n (dp + 1) s0 (loopP t n op cd item k c v s) := by
  intro k
  induction k with
  | zero => intro s0 c v s hw h1 h2 h3; exact ⟨hw, h1, h2, h3⟩
  | succ k ih =>
    intro s0 c v s hw h1 h2 h3
    unfold loopP
    by_cases h : op s.tok
    · rw [if_pos h]
      obtain ⟨hwa, _, hp⟩ := adv_wf (t := t) hw
      have hp := hp (hop _ h)
      have hs := hi _ hwa
      cases hr : item (adv t n s) with
      | inr f => rw [hr] at hs; exact hs
      | inl qq =>
        obtain ⟨c', v', s'⟩ := qq
        rw [hr] at hs
        obtain ⟨g1, g2, g3, g4⟩ := hs
        refine ih s0 _ _ s' g1 ?_ ?_ (fun nm => (h3 nm).two (g4 nm) (hcd _ h))
        · simp only [List.length_append, List.length_cons, List.length_nil]; omega
        · simp only [List.length_append, List.length_cons, List.length_nil]; omega
    · rw [if_neg h]
      exact ⟨hw, h1, h2, h3⟩
theorem seq_nice {t : Nat → Int32} {n dp : Nat} {op : Int32 → Prop} [DecidablePred op] {cd : Int32 → Int32} {item : Pa} (hop : ∀ x, op x → x ≠ 0) (hcd : ∀ x, op x → ¬ cd x < 30000) (hi : Nice n dp item) : Nice n (dp + 1) (seqP t n op cd item) := by
  intro s hw
  unfold seqP
  have hs := hi s hw
  cases hr : item s with
  | inr f => rw [hr] at hs; exact hs
  | inl qq =>
    obtain ⟨c, v, s'⟩ := qq
    rw [hr] at hs
    obtain ⟨g1, g2, g3, g4⟩ := hs
    exact loop_nice hop hcd hi 160 s c v s' g1 g2 g3 (fun nm => (g4 nm).mono (by omega))
theorem cmp_nice {t : Nat → Int32} {n dp : Nat} {sum : Pa} (hi : Nice n dp sum) : Nice n (dp + 1) (cmpP t n sum) := by
  intro s hw
  unfold cmpP
  have hs := hi s hw
  cases hr : sum s with
  | inr f => rw [hr] at hs; exact hs
  | inl qq =>
    obtain ⟨c, v, s'⟩ := qq
    rw [hr] at hs
    obtain ⟨g1, g2, g3, g4⟩ := hs
    by_cases h : s'.tok = 60 ∨ s'.tok = 61
    · show Sat n (dp + 1) s (if s'.tok = 60 ∨ s'.tok = 61 then _ else _)
      rw [if_pos h]
      obtain ⟨hwa, _, hp⟩ := adv_wf (t := t) g1
      have hp := hp (by rcases h with h | h <;> rw [h] <;> decide)
      have hs2 := hi _ hwa
      cases hr2 : sum (adv t n s') with
      | inr f => rw [hr2] at hs2; exact hs2
      | inl qq =>
        obtain ⟨c', v', s''⟩ := qq
        rw [hr2] at hs2
        obtain ⟨f1, f2, f3, f4⟩ := hs2
        refine ⟨f1, ?_, ?_, fun nm => ((g4 nm).mono (by omega)).two (f4 nm) ?_⟩
        · simp only [List.length_append, List.length_cons, List.length_nil]; omega
        · simp only [List.length_append, List.length_cons, List.length_nil]; omega
        · unfold cdC
          by_cases h6 : s'.tok = 60
          · rw [if_pos h6]; decide
          · rw [if_neg h6]; decide
    · show Sat n (dp + 1) s (if s'.tok = 60 ∨ s'.tok = 61 then _ else _)
      rw [if_neg h]
      exact ⟨g1, g2, g3, fun nm => (g4 nm).mono (by omega)⟩
def SubN (n dp : Nat) (sub : Option (Pa × Pa × Pa)) : Prop := 1 ≤ dp ∧ ∀ q, sub = some q → Nice n dp q.1 ∧ Nice n dp q.2.1 ∧ Nice n dp q.2.2
theorem one_nice {t : Nat → Int32} {n dp : Nat} {sub : Option (Pa × Pa × Pa)} (hs : SubN n dp sub) : Nice n dp (oneP t n sub) := by
  intro s hw
  obtain ⟨hwa, hp0, hp⟩ := adv_wf (t := t) hw
  unfold oneP
  by_cases h1 : s.tok = 2 ∨ s.tok = 3
  · rw [if_pos h1]
    exact ⟨hwa, hp (by rcases h1 with h | h <;> rw [h] <;> decide), Nat.le_refl _, fun nm => (Good.atm1 (hw.2.2.2 h1)).mono hs.1⟩
  rw [if_neg h1]
  by_cases h2 : s.tok = 45 ∨ s.tok = 40
  · rw [if_pos h2]
    have hp := hp (by rcases h2 with h | h <;> rw [h] <;> decide)
    cases sub with
    | none => exact hw.pl
    | some q =>
      obtain ⟨n1, n2, n3⟩ := hs.2 q rfl
      by_cases h3 : s.tok = 45
      · show Sat n dp s (if s.tok = 45 then _ else _)
        rw [if_pos h3]
        have hs2 := n3 _ hwa
        cases hr : q.2.2 (adv t n s) with
        | inr f => rw [hr] at hs2; exact hs2
        | inl qq =>
          obtain ⟨c, v, s'⟩ := qq
          rw [hr] at hs2
          obtain ⟨g1, g2, g3, g4⟩ := hs2
          refine ⟨g1, ?_, ?_, fun nm => (g4 nm).one (by decide) (by decide)⟩
          · simp only [List.length_append, List.length_cons, List.length_nil]; omega
          · simp only [List.length_append, List.length_cons, List.length_nil]; omega
      · show Sat n dp s (if s.tok = 45 then _ else _)
        rw [if_neg h3]
        have hs2 := n1 _ hwa
        cases hr : q.1 (adv t n s) with
        | inr f => rw [hr] at hs2; exact hs2
        | inl qq =>
          obtain ⟨c, v, s'⟩ := qq
          rw [hr] at hs2
          obtain ⟨g1, g2, g3, g4⟩ := hs2
          show Sat n dp s (if s'.tok = 41 then _ else _)
          by_cases h4 : s'.tok = 41
          · rw [if_pos h4]
            obtain ⟨b1, b2, b3⟩ := adv_wf (t := t) g1
            exact ⟨b1, by omega, g3, g4⟩
          · rw [if_neg h4]
            exact g1.pl
  · rw [if_neg h2]
    exact hw.pl
theorem cdS_ok (x : Int32) : ¬ cdS x < 30000 := by
  unfold cdS
  by_cases h : x = 43
  · rw [if_pos h]; decide
  · rw [if_neg h]; decide
theorem nott_nice {t : Nat → Int32} {n dp : Nat} {sub : Option (Pa × Pa × Pa)} (hs : SubN n dp sub) : Nice n (dp + 3) (nottP t n sub) := by
  intro s hw
  obtain ⟨hwa, hp0, hp⟩ := adv_wf (t := t) hw
  unfold nottP notP
  by_cases h1 : s.tok = 9
  · rw [if_pos h1]
    have hp := hp (by rw [h1]; decide)
    cases sub with
    | none => exact hw.pl
    | some q =>
      obtain ⟨n1, n2, n3⟩ := hs.2 q rfl
      have hs2 := n2 _ hwa
      show Sat n _ s (match q.2.1 (adv t n s) with | .inr f => .inr f | .inl (c, v, s') => _)
      cases hr : q.2.1 (adv t n s) with
      | inr f => rw [hr] at hs2; exact hs2
      | inl qq =>
        obtain ⟨c, v, s'⟩ := qq
        rw [hr] at hs2
        obtain ⟨g1, g2, g3, g4⟩ := hs2
        refine ⟨g1, ?_, ?_, fun nm => ((g4 nm).one (by decide) (by decide)).mono (by omega)⟩
        · simp only [List.length_append, List.length_cons, List.length_nil]; omega
        · simp only [List.length_append, List.length_cons, List.length_nil]; omega
  · rw [if_neg h1]
    exact cmp_nice (seq_nice (fun x h => by rcases h with h | h <;> rw [h] <;> decide) (fun x _ => cdS_ok x) (seq_nice (fun x h => by rw [h]; decide) (fun x _ => by show ¬ (30002 : Int32) < 30000; decide) (one_nice hs))) s hw
theorem eith_nice {t : Nat → Int32} {n dp : Nat} {sub : Option (Pa × Pa × Pa)} (hs : SubN n dp sub) : Nice n (dp + 5) (eithP t n sub) :=
  seq_nice (fun x h => by rw [h]; decide) (fun x _ => by show ¬ (30006 : Int32) < 30000; decide) (seq_nice (fun x h => by rw [h]; decide) (fun x _ => by show ¬ (30005 : Int32) < 30000; decide) (nott_nice hs))
theorem Nice.mono {n a b : Nat} {P : Pa} (h : Nice n a P) (hab : a ≤ b) : Nice n b P := fun s hw => (h s hw).mono hab
theorem lev_nice (t : Nat → Int32) (n : Nat) : ∀ k, SubN n (1 + 5 * k) (lev t n k) := by
  intro k
  induction k with
  | zero => exact ⟨by omega, fun q h => by cases h⟩
  | succ k ih =>
    refine ⟨by omega, fun q h => ?_⟩
    cases h
    exact ⟨(eith_nice ih).mono (by omega), (nott_nice ih).mono (by omega), (one_nice ih).mono (by omega)⟩
theorem part_nice {t : Nat → Int32} {n : Nat} {key : Int32} (hk : key ≠ 0) : Nice n 31 (partP t n key) := by
  intro s hw
  obtain ⟨hwa, hp0, hp⟩ := adv_wf (t := t) hw
  unfold partP
  by_cases h1 : s.tok = key
  · rw [if_pos h1]
    have hs2 := eith_nice (t := t) (lev_nice t n 5) _ hwa
    cases hr : eithP t n (lev t n 5) (adv t n s) with
    | inr f => rw [hr] at hs2; exact hs2
    | inl qq =>
      obtain ⟨c, v, s'⟩ := qq
      rw [hr] at hs2
      obtain ⟨g1, g2, g3, g4⟩ := hs2
      show Sat n 31 s (if s'.tok = 59 then _ else _)
      by_cases h4 : s'.tok = 59
      · rw [if_pos h4]
        obtain ⟨b1, b2, b3⟩ := adv_wf (t := t) g1
        exact ⟨b1, by omega, g3, g4⟩
      · rw [if_neg h4]
        exact g1.pl
  · rw [if_neg h1]
    exact hw.pl
theorem read_nice (t : Nat → Int32) (n : Nat) (v0 : Int32) : match readP t n v0 with | .inr f => f ≤ n | .inl (c1, c2, c3, v1, v2, v3) => c1.length + c2.length + c3.length ≤ n ∧ ∀ nm, Good 31 c1 (v1 nm) nm ∧ Good 31 c2 (v2 nm) nm ∧ Good 31 c3 (v3 nm) nm := by
  unfold readP
  obtain ⟨w0, _⟩ := lex_wf (t := t) (n := n) (Nat.zero_le n) v0
  have a1 := part_nice (t := t) (key := 4) (by decide) _ w0
  cases h1 : partP t n 4 (lex t n 0 v0) with
  | inr f => rw [h1] at a1; exact a1
  | inl qq =>
    obtain ⟨c1, v1, s1⟩ := qq
    rw [h1] at a1
    obtain ⟨w1, l1, _, g1⟩ := a1
    have a2 := part_nice (t := t) (key := 5) (by decide) _ w1
    simp only
    cases h2 : partP t n 5 s1 with
    | inr f => rw [h2] at a2; exact a2
    | inl qq =>
      obtain ⟨c2, v2, s2⟩ := qq
      rw [h2] at a2
      obtain ⟨w2, l2, _, g2⟩ := a2
      have a3 := part_nice (t := t) (key := 6) (by decide) _ w2
      simp only
      cases h3 : partP t n 6 s2 with
      | inr f => rw [h3] at a3; exact a3
      | inl qq =>
        obtain ⟨c3, v3, s3⟩ := qq
        rw [h3] at a3
        obtain ⟨w3, l3, _, g3⟩ := a3
        simp only
        by_cases h : s3.tok = 0
        · rw [if_pos h]
          exact ⟨by have := w3.pl; omega, fun nm => ⟨g1 nm, g2 nm, g3 nm⟩⟩
        · rw [if_neg h]
          exact w3.pl
