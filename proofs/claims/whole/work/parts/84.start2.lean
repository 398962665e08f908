/-- YOUR PART: from the entry, for every script of at most 3072 ints, the law comes to its end with true ('hflags': the launch's flags, for a law that throws: no stack traces) -/
theorem whole_start {p : Program} {e : Env} {s : State} {m : MethodId} {below : List Frame} {meth : Method} {c : Code} (l : Launch) (hflags : l.flags = flags0) {b L : Nat} {xs : Nat → Int32} (hL : L ≤ 3072) (C0 : lw_At p s m meth c b L xs) : W p l e room_1 s m #[Value.ref b] below meth c s.heap [] 0 0 (lw_Z below #[Value.ref b] s) (entryFrame m ([Value.ref b] : List Value).toArray 4) := by
  obtain ⟨hx, hb, hr, hml, hown, hts, hX, hbl, hlocks, hgv⟩ := C0
  obtain ⟨ad, hSt⟩ := sta_of hts hgv
  obtain ⟨D, g, hK⟩ := k_of hts
  obtain ⟨X, e1, e2, e3, e4, e5, e6⟩ : ∃ X : En, xl X = l ∧ xD X = D ∧ xc X = g ∧ xb X = s.heap.size ∧ xe X 40 = b ∧ ∀ i, i < 40 → xe X i = ad i := ⟨(l, D, g, s.heap.size, fun i => if i = 40 then b else ad i), rfl, rfl, rfl, rfl, rfl, fun i hi => (show (if i = 40 then b else ad i) = ad i from if_neg (by omega))⟩
  subst e1 e2 e3 e5
  have hC : Cx X (mL meth.name) p s m #[Value.ref (xe X 40)] meth c := ⟨hx, hb, hr, hml, hown, fun w hw => hts w (in_tbl hw), hlocks, rfl, hK, Nat.le_of_eq e4, hSt X e4 e6⟩
  have hW : World X [] ZI ZL ZR s.heap := ⟨by rw [e4]; rfl, Nat.zero_le _, fun k q h => by simp [wsO] at h⟩
  have ea : ([.ref 1000040] : List Value).map (cv X) = [.ref (xe X 40)] := cvS_far X (i := 40) rfl []
  have hl := lH.entry X [.ref 1000040] (n := 4) (by decide)
  rw [ea] at hl
  have w := law_entry (nm := meth.name) (xs := xs) hL p e room_1 s m #[Value.ref (xe X 40)] below meth c s.heap [] 0 0 _ hC ⟨Nat.le_of_ble_eq_true rfl, Nat.le_of_ble_eq_true rfl, Nat.le_of_ble_eq_true rfl, Nat.le_of_ble_eq_true rfl⟩ hW va_S.rf hl
  rw [lg_entry_eq]
  intro T hT Y
  obtain ⟨t, h1, h2⟩ := w T hT Y
  exact ⟨t, h1, h2 ⟨rfl, rfl, hX, hbl, e4⟩⟩
