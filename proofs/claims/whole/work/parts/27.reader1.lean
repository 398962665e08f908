/-! the Reader: signs, words, numbers, one token on -/
set_option maxRecDepth 100000 in
set_option maxHeartbeats 4000000 in
theorem E_isBlank {X : En} {S : Sh} {I : FI} {L : FL} {R : FR} (x : Int32) : Ev X 0 mX2_isBlank (0, 0) [.int x] S I L R (PureR (some (.int (bI (blP x)))) S I L R) := by
  refine ev_of (by decide +kernel) rfl ?_
  show SW X _ _ _ 0 [some (.int x)] [] S I L R _
  refine s_iload_n (tb_ok aX2_isBlank_0 0 rfl) rfl ?_
  refine s_bipush (v := 32) (tb_ok aX2_isBlank_0 1 rfl) (by decide) ?_
  refine s_icmp_eq (tgt := 12) (tb_ok aX2_isBlank_0 2 rfl) (by decide) (fun c3 => ?_) (fun c3 => ?_)
  · refine s_iconst (v := 1) (tb_ok aX2_isBlank_0 6 rfl) (by decide) ?_
    refine s_goto (tgt := 17) (tb_ok aX2_isBlank_0 7 rfl) (by decide) ?_
    refine s_zret (tb_ok aX2_isBlank_0 9 rfl) rfl ?_ ?_
    first | exact Or.inl rfl | exact Or.inr rfl
    refine pureE (congrArg (fun z => some (Value.int z)) (Eq.symm ?_))
    first | exact bI_t (Or.inl (by assumption)) | exact bI_t (Or.inr (by assumption)) | exact bI_t ⟨by assumption, by assumption⟩
  · refine s_iload_n (tb_ok aX2_isBlank_0 3 rfl) rfl ?_
    refine s_bipush (v := 10) (tb_ok aX2_isBlank_0 4 rfl) (by decide) ?_
    refine s_icmp_ne (tgt := 16) (tb_ok aX2_isBlank_0 5 rfl) (by decide) (fun c9 => ?_) (fun c9 => ?_)
    · refine s_iconst (v := 0) (tb_ok aX2_isBlank_0 8 rfl) (by decide) ?_
      refine s_zret (tb_ok aX2_isBlank_0 9 rfl) rfl ?_ ?_
      first | exact Or.inl rfl | exact Or.inr rfl
      refine pureE (congrArg (fun z => some (Value.int z)) (Eq.symm ?_))
      refine bI_f (fun h => ?_)
      first | (rcases h with h | h <;> contradiction) | (exact absurd c3 h.1) | (exact absurd c9 h.2)
    · refine s_iconst (v := 1) (tb_ok aX2_isBlank_0 6 rfl) (by decide) ?_
      refine s_goto (tgt := 17) (tb_ok aX2_isBlank_0 7 rfl) (by decide) ?_
      refine s_zret (tb_ok aX2_isBlank_0 9 rfl) rfl ?_ ?_
      first | exact Or.inl rfl | exact Or.inr rfl
      refine pureE (congrArg (fun z => some (Value.int z)) (Eq.symm ?_))
      first | exact bI_t (Or.inl (by assumption)) | exact bI_t (Or.inr (by assumption)) | exact bI_t ⟨by assumption, by assumption⟩

set_option maxRecDepth 100000 in
set_option maxHeartbeats 4000000 in
theorem E_isLetter {X : En} {S : Sh} {I : FI} {L : FL} {R : FR} (x : Int32) : Ev X 0 mX2_isLetter (0, 0) [.int x] S I L R (PureR (some (.int (bI (ltP x)))) S I L R) := by
  refine ev_of (by decide +kernel) rfl ?_
  show SW X _ _ _ 0 [some (.int x)] [] S I L R _
  refine s_iload_n (tb_ok aX2_isLetter_0 0 rfl) rfl ?_
  refine s_bipush (v := 97) (tb_ok aX2_isLetter_0 1 rfl) (by decide) ?_
  refine s_icmp_lt (tgt := 16) (tb_ok aX2_isLetter_0 2 rfl) (by decide) (fun c3 => ?_) (fun c3 => ?_)
  · refine s_iconst (v := 0) (tb_ok aX2_isLetter_0 8 rfl) (by decide) ?_
    refine s_zret (tb_ok aX2_isLetter_0 9 rfl) rfl ?_ ?_
    first | exact Or.inl rfl | exact Or.inr rfl
    refine pureE (congrArg (fun z => some (Value.int z)) (Eq.symm ?_))
    refine bI_f (fun h => ?_)
    first | (rcases h with h | h <;> contradiction) | (exact absurd c3 h.1) | (exact absurd c9 h.2)
  · refine s_iload_n (tb_ok aX2_isLetter_0 3 rfl) rfl ?_
    refine s_bipush (v := 122) (tb_ok aX2_isLetter_0 4 rfl) (by decide) ?_
    refine s_icmp_gt (tgt := 16) (tb_ok aX2_isLetter_0 5 rfl) (by decide) (fun c9 => ?_) (fun c9 => ?_)
    · refine s_iconst (v := 0) (tb_ok aX2_isLetter_0 8 rfl) (by decide) ?_
      refine s_zret (tb_ok aX2_isLetter_0 9 rfl) rfl ?_ ?_
      first | exact Or.inl rfl | exact Or.inr rfl
      refine pureE (congrArg (fun z => some (Value.int z)) (Eq.symm ?_))
      refine bI_f (fun h => ?_)
      first | (rcases h with h | h <;> contradiction) | (exact absurd c3 h.1) | (exact absurd c9 h.2)
    · refine s_iconst (v := 1) (tb_ok aX2_isLetter_0 6 rfl) (by decide) ?_
      refine s_goto (tgt := 17) (tb_ok aX2_isLetter_0 7 rfl) (by decide) ?_
      refine s_zret (tb_ok aX2_isLetter_0 9 rfl) rfl ?_ ?_
      first | exact Or.inl rfl | exact Or.inr rfl
      refine pureE (congrArg (fun z => some (Value.int z)) (Eq.symm ?_))
      first | exact bI_t (Or.inl (by assumption)) | exact bI_t (Or.inr (by assumption)) | exact bI_t ⟨by assumption, by assumption⟩

set_option maxRecDepth 100000 in
set_option maxHeartbeats 4000000 in
theorem E_isDigit {X : En} {S : Sh} {I : FI} {L : FL} {R : FR} (x : Int32) : Ev X 0 mX2_isDigit (0, 0) [.int x] S I L R (PureR (some (.int (bI (dgP x)))) S I L R) := by
  refine ev_of (by decide +kernel) rfl ?_
  show SW X _ _ _ 0 [some (.int x)] [] S I L R _
  refine s_iload_n (tb_ok aX2_isDigit_0 0 rfl) rfl ?_
  refine s_bipush (v := 48) (tb_ok aX2_isDigit_0 1 rfl) (by decide) ?_
  refine s_icmp_lt (tgt := 16) (tb_ok aX2_isDigit_0 2 rfl) (by decide) (fun c3 => ?_) (fun c3 => ?_)
  · refine s_iconst (v := 0) (tb_ok aX2_isDigit_0 8 rfl) (by decide) ?_
    refine s_zret (tb_ok aX2_isDigit_0 9 rfl) rfl ?_ ?_
    first | exact Or.inl rfl | exact Or.inr rfl
    refine pureE (congrArg (fun z => some (Value.int z)) (Eq.symm ?_))
    refine bI_f (fun h => ?_)
    first | (rcases h with h | h <;> contradiction) | (exact absurd c3 h.1) | (exact absurd c9 h.2)
  · refine s_iload_n (tb_ok aX2_isDigit_0 3 rfl) rfl ?_
    refine s_bipush (v := 57) (tb_ok aX2_isDigit_0 4 rfl) (by decide) ?_
    refine s_icmp_gt (tgt := 16) (tb_ok aX2_isDigit_0 5 rfl) (by decide) (fun c9 => ?_) (fun c9 => ?_)
    · refine s_iconst (v := 0) (tb_ok aX2_isDigit_0 8 rfl) (by decide) ?_
      refine s_zret (tb_ok aX2_isDigit_0 9 rfl) rfl ?_ ?_
      first | exact Or.inl rfl | exact Or.inr rfl
      refine pureE (congrArg (fun z => some (Value.int z)) (Eq.symm ?_))
      refine bI_f (fun h => ?_)
      first | (rcases h with h | h <;> contradiction) | (exact absurd c3 h.1) | (exact absurd c9 h.2)
    · refine s_iconst (v := 1) (tb_ok aX2_isDigit_0 6 rfl) (by decide) ?_
      refine s_goto (tgt := 17) (tb_ok aX2_isDigit_0 7 rfl) (by decide) ?_
      refine s_zret (tb_ok aX2_isDigit_0 9 rfl) rfl ?_ ?_
      first | exact Or.inl rfl | exact Or.inr rfl
      refine pureE (congrArg (fun z => some (Value.int z)) (Eq.symm ?_))
      first | exact bI_t (Or.inl (by assumption)) | exact bI_t (Or.inr (by assumption)) | exact bI_t ⟨by assumption, by assumption⟩

set_option maxRecDepth 100000 in
set_option maxHeartbeats 4000000 in
theorem E_isSign {X : En} {S : Sh} {I : FI} {L : FL} {R : FR} (x : Int32) : Ev X 0 mX2_isSign (0, 0) [.int x] S I L R (PureR (some (.int (bI (sgP x)))) S I L R) := by
  refine ev_of (by decide +kernel) rfl ?_
  show SW X _ _ _ 0 [some (.int x)] [] S I L R _
  refine s_iload_n (tb_ok aX2_isSign_0 0 rfl) rfl ?_
  by_cases e40 : x = 40
  · subst e40
    refine s_tableIn (off := 103) (tgt := 104) (tb_ok aX2_isSign_0 1 rfl) (by decide) (by decide) rfl (by decide) ?_
    refine s_iconst (v := 1) (tb_ok aX2_isSign_0 2 rfl) (by decide) ?_
    refine s_zret (tb_ok aX2_isSign_0 3 rfl) rfl ?_ ?_
    exact Or.inr rfl
    refine pureE (congrArg (fun z => some (Value.int z)) (bI_t ?_).symm)
    decide
  by_cases e41 : x = 41
  · subst e41
    refine s_tableIn (off := 103) (tgt := 104) (tb_ok aX2_isSign_0 1 rfl) (by decide) (by decide) rfl (by decide) ?_
    refine s_iconst (v := 1) (tb_ok aX2_isSign_0 2 rfl) (by decide) ?_
    refine s_zret (tb_ok aX2_isSign_0 3 rfl) rfl ?_ ?_
    exact Or.inr rfl
    refine pureE (congrArg (fun z => some (Value.int z)) (bI_t ?_).symm)
    decide
  by_cases e42 : x = 42
  · subst e42
    refine s_tableIn (off := 103) (tgt := 104) (tb_ok aX2_isSign_0 1 rfl) (by decide) (by decide) rfl (by decide) ?_
    refine s_iconst (v := 1) (tb_ok aX2_isSign_0 2 rfl) (by decide) ?_
    refine s_zret (tb_ok aX2_isSign_0 3 rfl) rfl ?_ ?_
    exact Or.inr rfl
    refine pureE (congrArg (fun z => some (Value.int z)) (bI_t ?_).symm)
    decide
  by_cases e43 : x = 43
  · subst e43
    refine s_tableIn (off := 103) (tgt := 104) (tb_ok aX2_isSign_0 1 rfl) (by decide) (by decide) rfl (by decide) ?_
    refine s_iconst (v := 1) (tb_ok aX2_isSign_0 2 rfl) (by decide) ?_
    refine s_zret (tb_ok aX2_isSign_0 3 rfl) rfl ?_ ?_
    exact Or.inr rfl
    refine pureE (congrArg (fun z => some (Value.int z)) (bI_t ?_).symm)
    decide
  by_cases e44 : x = 44
  · subst e44
    refine s_tableIn (off := 105) (tgt := 106) (tb_ok aX2_isSign_0 1 rfl) (by decide) (by decide) rfl (by decide) ?_
    refine s_iconst (v := 0) (tb_ok aX2_isSign_0 4 rfl) (by decide) ?_
    refine s_zret (tb_ok aX2_isSign_0 5 rfl) rfl ?_ ?_
    exact Or.inl rfl
    refine pureE (congrArg (fun z => some (Value.int z)) (bI_f ?_).symm)
    first | decide | (intro h; rcases h with h | h | h | h | h | h | h | h <;> simp_all)
  by_cases e45 : x = 45
  · subst e45
    refine s_tableIn (off := 103) (tgt := 104) (tb_ok aX2_isSign_0 1 rfl) (by decide) (by decide) rfl (by decide) ?_
    refine s_iconst (v := 1) (tb_ok aX2_isSign_0 2 rfl) (by decide) ?_
    refine s_zret (tb_ok aX2_isSign_0 3 rfl) rfl ?_ ?_
    exact Or.inr rfl
    refine pureE (congrArg (fun z => some (Value.int z)) (bI_t ?_).symm)
    decide
  by_cases e46 : x = 46
  · subst e46
    refine s_tableIn (off := 105) (tgt := 106) (tb_ok aX2_isSign_0 1 rfl) (by decide) (by decide) rfl (by decide) ?_
    refine s_iconst (v := 0) (tb_ok aX2_isSign_0 4 rfl) (by decide) ?_
    refine s_zret (tb_ok aX2_isSign_0 5 rfl) rfl ?_ ?_
    exact Or.inl rfl
    refine pureE (congrArg (fun z => some (Value.int z)) (bI_f ?_).symm)
    first | decide | (intro h; rcases h with h | h | h | h | h | h | h | h <;> simp_all)
  by_cases e47 : x = 47
  · subst e47
    refine s_tableIn (off := 105) (tgt := 106) (tb_ok aX2_isSign_0 1 rfl) (by decide) (by decide) rfl (by decide) ?_
    refine s_iconst (v := 0) (tb_ok aX2_isSign_0 4 rfl) (by decide) ?_
    refine s_zret (tb_ok aX2_isSign_0 5 rfl) rfl ?_ ?_
    exact Or.inl rfl
    refine pureE (congrArg (fun z => some (Value.int z)) (bI_f ?_).symm)
    first | decide | (intro h; rcases h with h | h | h | h | h | h | h | h <;> simp_all)
  by_cases e48 : x = 48
  · subst e48
    refine s_tableIn (off := 105) (tgt := 106) (tb_ok aX2_isSign_0 1 rfl) (by decide) (by decide) rfl (by decide) ?_
    refine s_iconst (v := 0) (tb_ok aX2_isSign_0 4 rfl) (by decide) ?_
    refine s_zret (tb_ok aX2_isSign_0 5 rfl) rfl ?_ ?_
    exact Or.inl rfl
    refine pureE (congrArg (fun z => some (Value.int z)) (bI_f ?_).symm)
    first | decide | (intro h; rcases h with h | h | h | h | h | h | h | h <;> simp_all)
  by_cases e49 : x = 49
  · subst e49
    refine s_tableIn (off := 105) (tgt := 106) (tb_ok aX2_isSign_0 1 rfl) (by decide) (by decide) rfl (by decide) ?_
    refine s_iconst (v := 0) (tb_ok aX2_isSign_0 4 rfl) (by decide) ?_
    refine s_zret (tb_ok aX2_isSign_0 5 rfl) rfl ?_ ?_
    exact Or.inl rfl
    refine pureE (congrArg (fun z => some (Value.int z)) (bI_f ?_).symm)
    first | decide | (intro h; rcases h with h | h | h | h | h | h | h | h <;> simp_all)
  by_cases e50 : x = 50
  · subst e50
    refine s_tableIn (off := 105) (tgt := 106) (tb_ok aX2_isSign_0 1 rfl) (by decide) (by decide) rfl (by decide) ?_
    refine s_iconst (v := 0) (tb_ok aX2_isSign_0 4 rfl) (by decide) ?_
    refine s_zret (tb_ok aX2_isSign_0 5 rfl) rfl ?_ ?_
    exact Or.inl rfl
    refine pureE (congrArg (fun z => some (Value.int z)) (bI_f ?_).symm)
    first | decide | (intro h; rcases h with h | h | h | h | h | h | h | h <;> simp_all)
  by_cases e51 : x = 51
  · subst e51
    refine s_tableIn (off := 105) (tgt := 106) (tb_ok aX2_isSign_0 1 rfl) (by decide) (by decide) rfl (by decide) ?_
    refine s_iconst (v := 0) (tb_ok aX2_isSign_0 4 rfl) (by decide) ?_
    refine s_zret (tb_ok aX2_isSign_0 5 rfl) rfl ?_ ?_
    exact Or.inl rfl
    refine pureE (congrArg (fun z => some (Value.int z)) (bI_f ?_).symm)
    first | decide | (intro h; rcases h with h | h | h | h | h | h | h | h <;> simp_all)
  by_cases e52 : x = 52
  · subst e52
    refine s_tableIn (off := 105) (tgt := 106) (tb_ok aX2_isSign_0 1 rfl) (by decide) (by decide) rfl (by decide) ?_
    refine s_iconst (v := 0) (tb_ok aX2_isSign_0 4 rfl) (by decide) ?_
    refine s_zret (tb_ok aX2_isSign_0 5 rfl) rfl ?_ ?_
    exact Or.inl rfl
    refine pureE (congrArg (fun z => some (Value.int z)) (bI_f ?_).symm)
    first | decide | (intro h; rcases h with h | h | h | h | h | h | h | h <;> simp_all)
  by_cases e53 : x = 53
  · subst e53
    refine s_tableIn (off := 105) (tgt := 106) (tb_ok aX2_isSign_0 1 rfl) (by decide) (by decide) rfl (by decide) ?_
    refine s_iconst (v := 0) (tb_ok aX2_isSign_0 4 rfl) (by decide) ?_
    refine s_zret (tb_ok aX2_isSign_0 5 rfl) rfl ?_ ?_
    exact Or.inl rfl
    refine pureE (congrArg (fun z => some (Value.int z)) (bI_f ?_).symm)
    first | decide | (intro h; rcases h with h | h | h | h | h | h | h | h <;> simp_all)
  by_cases e54 : x = 54
  · subst e54
    refine s_tableIn (off := 105) (tgt := 106) (tb_ok aX2_isSign_0 1 rfl) (by decide) (by decide) rfl (by decide) ?_
    refine s_iconst (v := 0) (tb_ok aX2_isSign_0 4 rfl) (by decide) ?_
    refine s_zret (tb_ok aX2_isSign_0 5 rfl) rfl ?_ ?_
    exact Or.inl rfl
    refine pureE (congrArg (fun z => some (Value.int z)) (bI_f ?_).symm)
    first | decide | (intro h; rcases h with h | h | h | h | h | h | h | h <;> simp_all)
  by_cases e55 : x = 55
  · subst e55
    refine s_tableIn (off := 105) (tgt := 106) (tb_ok aX2_isSign_0 1 rfl) (by decide) (by decide) rfl (by decide) ?_
    refine s_iconst (v := 0) (tb_ok aX2_isSign_0 4 rfl) (by decide) ?_
    refine s_zret (tb_ok aX2_isSign_0 5 rfl) rfl ?_ ?_
    exact Or.inl rfl
    refine pureE (congrArg (fun z => some (Value.int z)) (bI_f ?_).symm)
    first | decide | (intro h; rcases h with h | h | h | h | h | h | h | h <;> simp_all)
  by_cases e56 : x = 56
  · subst e56
    refine s_tableIn (off := 105) (tgt := 106) (tb_ok aX2_isSign_0 1 rfl) (by decide) (by decide) rfl (by decide) ?_
    refine s_iconst (v := 0) (tb_ok aX2_isSign_0 4 rfl) (by decide) ?_
    refine s_zret (tb_ok aX2_isSign_0 5 rfl) rfl ?_ ?_
    exact Or.inl rfl
    refine pureE (congrArg (fun z => some (Value.int z)) (bI_f ?_).symm)
    first | decide | (intro h; rcases h with h | h | h | h | h | h | h | h <;> simp_all)
  by_cases e57 : x = 57
  · subst e57
    refine s_tableIn (off := 105) (tgt := 106) (tb_ok aX2_isSign_0 1 rfl) (by decide) (by decide) rfl (by decide) ?_
    refine s_iconst (v := 0) (tb_ok aX2_isSign_0 4 rfl) (by decide) ?_
    refine s_zret (tb_ok aX2_isSign_0 5 rfl) rfl ?_ ?_
    exact Or.inl rfl
    refine pureE (congrArg (fun z => some (Value.int z)) (bI_f ?_).symm)
    first | decide | (intro h; rcases h with h | h | h | h | h | h | h | h <;> simp_all)
  by_cases e58 : x = 58
  · subst e58
    refine s_tableIn (off := 105) (tgt := 106) (tb_ok aX2_isSign_0 1 rfl) (by decide) (by decide) rfl (by decide) ?_
    refine s_iconst (v := 0) (tb_ok aX2_isSign_0 4 rfl) (by decide) ?_
    refine s_zret (tb_ok aX2_isSign_0 5 rfl) rfl ?_ ?_
    exact Or.inl rfl
    refine pureE (congrArg (fun z => some (Value.int z)) (bI_f ?_).symm)
    first | decide | (intro h; rcases h with h | h | h | h | h | h | h | h <;> simp_all)
  by_cases e59 : x = 59
  · subst e59
    refine s_tableIn (off := 103) (tgt := 104) (tb_ok aX2_isSign_0 1 rfl) (by decide) (by decide) rfl (by decide) ?_
    refine s_iconst (v := 1) (tb_ok aX2_isSign_0 2 rfl) (by decide) ?_
    refine s_zret (tb_ok aX2_isSign_0 3 rfl) rfl ?_ ?_
    exact Or.inr rfl
    refine pureE (congrArg (fun z => some (Value.int z)) (bI_t ?_).symm)
    decide
  by_cases e60 : x = 60
  · subst e60
    refine s_tableIn (off := 103) (tgt := 104) (tb_ok aX2_isSign_0 1 rfl) (by decide) (by decide) rfl (by decide) ?_
    refine s_iconst (v := 1) (tb_ok aX2_isSign_0 2 rfl) (by decide) ?_
    refine s_zret (tb_ok aX2_isSign_0 3 rfl) rfl ?_ ?_
    exact Or.inr rfl
    refine pureE (congrArg (fun z => some (Value.int z)) (bI_t ?_).symm)
    decide
  by_cases e61 : x = 61
  · subst e61
    refine s_tableIn (off := 103) (tgt := 104) (tb_ok aX2_isSign_0 1 rfl) (by decide) (by decide) rfl (by decide) ?_
    refine s_iconst (v := 1) (tb_ok aX2_isSign_0 2 rfl) (by decide) ?_
    refine s_zret (tb_ok aX2_isSign_0 3 rfl) rfl ?_ ?_
    exact Or.inr rfl
    refine pureE (congrArg (fun z => some (Value.int z)) (bI_t ?_).symm)
    decide
  · refine s_tableOut (tgt := 106) (tb_ok aX2_isSign_0 1 rfl) ?_ (by decide) ?_
    · by_cases h : x.toInt < 40
      · exact Or.inl h
      · by_cases h2 : 61 < x.toInt
        · exact Or.inr h2
        · exfalso
          have q40 : ¬ x.toInt = 40 := fun h => e40 (Int32.toInt_inj.mp h)
          have q41 : ¬ x.toInt = 41 := fun h => e41 (Int32.toInt_inj.mp h)
          have q42 : ¬ x.toInt = 42 := fun h => e42 (Int32.toInt_inj.mp h)
          have q43 : ¬ x.toInt = 43 := fun h => e43 (Int32.toInt_inj.mp h)
          have q44 : ¬ x.toInt = 44 := fun h => e44 (Int32.toInt_inj.mp h)
          have q45 : ¬ x.toInt = 45 := fun h => e45 (Int32.toInt_inj.mp h)
          have q46 : ¬ x.toInt = 46 := fun h => e46 (Int32.toInt_inj.mp h)
          have q47 : ¬ x.toInt = 47 := fun h => e47 (Int32.toInt_inj.mp h)
          have q48 : ¬ x.toInt = 48 := fun h => e48 (Int32.toInt_inj.mp h)
          have q49 : ¬ x.toInt = 49 := fun h => e49 (Int32.toInt_inj.mp h)
          have q50 : ¬ x.toInt = 50 := fun h => e50 (Int32.toInt_inj.mp h)
          have q51 : ¬ x.toInt = 51 := fun h => e51 (Int32.toInt_inj.mp h)
          have q52 : ¬ x.toInt = 52 := fun h => e52 (Int32.toInt_inj.mp h)
          have q53 : ¬ x.toInt = 53 := fun h => e53 (Int32.toInt_inj.mp h)
          have q54 : ¬ x.toInt = 54 := fun h => e54 (Int32.toInt_inj.mp h)
          have q55 : ¬ x.toInt = 55 := fun h => e55 (Int32.toInt_inj.mp h)
          have q56 : ¬ x.toInt = 56 := fun h => e56 (Int32.toInt_inj.mp h)
          have q57 : ¬ x.toInt = 57 := fun h => e57 (Int32.toInt_inj.mp h)
          have q58 : ¬ x.toInt = 58 := fun h => e58 (Int32.toInt_inj.mp h)
          have q59 : ¬ x.toInt = 59 := fun h => e59 (Int32.toInt_inj.mp h)
          have q60 : ¬ x.toInt = 60 := fun h => e60 (Int32.toInt_inj.mp h)
          have q61 : ¬ x.toInt = 61 := fun h => e61 (Int32.toInt_inj.mp h)
          omega
    · refine s_iconst (v := 0) (tb_ok aX2_isSign_0 4 rfl) (by decide) ?_
      refine s_zret (tb_ok aX2_isSign_0 5 rfl) rfl ?_ ?_
      exact Or.inl rfl
      refine pureE (congrArg (fun z => some (Value.int z)) (bI_f ?_).symm)
      first | decide | (intro h; rcases h with h | h | h | h | h | h | h | h <;> simp_all)

theorem nI_sub' {a b : Nat} (h : a ≤ b) : nI b - nI a = nI (b - a) := by
  obtain ⟨j, rfl⟩ : ∃ j, b = a + j := ⟨b - a, by omega⟩
  rw [show a + j - a = j by omega, Nat.add_comm, ← nI_add, Int32.add_sub_cancel]
def alI (a : Option Nat) : Int32 := match a with
  | none => -1
  | some j => nI j
/-- which word stands from p to e: letter for letter of the list of words -/
def wrR (t : Nat → Int32) (p e : Nat) : Nat → Nat → Nat → Option Nat → Int32
  | 0, _, _, _ => -1
  | f + 1, i, w, a => if txb 0 i = 32 then (if a = some (e - p) then nI w else wrR t p e f (i + 1) (w + 1) (some 0))
    else match a with
      | none => wrR t p e f (i + 1) w none
      | some j => if p + j < e ∧ t (p + j) = txb 0 i then wrR t p e f (i + 1) w (some (j + 1)) else wrR t p e f (i + 1) w none
def isRead (S : Sh) (R : FR) (r : Nat) : Prop := S[62]? = some (2, 8) ∧ R 62 0 = some 63 ∧ S[63]? = some (9, 160) ∧ R 62 2 = some r ∧ isRule S R r ∧ r + 3 < 62
set_option maxRecDepth 100000 in
set_option maxHeartbeats 4000000 in
theorem E_wordRead {X : En} {S : Sh} {I : FI} {L : FL} {R : FR} {r : Nat} (hR : isRead S R r) {p e : Nat} (hp : I 62 4 = nI p) (he : I 62 3 = nI e) (hpe : p < e) (he2 : e ≤ 160) : Ev X 4 mX2_wordRead (0, 0) [.ref 62] S I L R (PureR (some (.int (wrR (I 63) p e 64 0 0 (some 0)))) S I L R) := by
  obtain ⟨g1, g2, g3, g4, g5, g6⟩ := id hR
  have loop : ∀ k, k ≤ 64 → ∀ (w : Nat), ∀ (a : Option Nat), ∀ (o4 : Option Value), ∀ (o5 : Option Value), (w ≤ k) → (∀ j, a = some j → j ≤ k) → (wrR (I 63) p e (64 - k) k w a = (wrR (I 63) p e 64 0 0 (some 0))) → SW X 4 mX2_wordRead (0, 0) 6 [some (.ref 62), some (.int (nI w)), some (.int (alI a)), some (.int (nI k)), o4, o5] [] S I L R (KQ X (PureR (some (.int (wrR (I 63) p e 64 0 0 (some 0)))) S I L R)) := by
    refine for_up (P := fun k => ∀ (w : Nat), ∀ (a : Option Nat), ∀ (o4 : Option Value), ∀ (o5 : Option Value), (w ≤ k) → (∀ j, a = some j → j ≤ k) → (wrR (I 63) p e (64 - k) k w a = (wrR (I 63) p e 64 0 0 (some 0))) → SW X 4 mX2_wordRead (0, 0) 6 [some (.ref 62), some (.int (nI w)), some (.int (alI a)), some (.int (nI k)), o4, o5] [] S I L R (KQ X (PureR (some (.int (wrR (I 63) p e 64 0 0 (some 0)))) S I L R))) 64 ?_ ?_
    · intro w a o4 o5 hi hi0 hi1
      refine s_iload_n (tb_ok aX2_wordRead_0 6 rfl) rfl ?_
      refine s_ldcW (tb_ok aX2_wordRead_0 7 rfl) rfl ?_
      refine s_cT (i := 0) (as := []) (by decide) (tb_ok aX2_wordRead_0 8 rfl) v_RX2_109 (E_length (by decide)) (by decide) rfl rfl rfl (Nat.le_of_ble_eq_true rfl) ?_
      refine s_topi (z := nI 64) rfl ?_
      refine s_icmp_ge (tgt := 112) (tb_ok aX2_wordRead_0 9 rfl) (by decide) (fun c12 => ?_) (fun c12 => ?_)
      · refine s_iconst (v := -1) (tb_ok aX2_wordRead_2 10 rfl) (by decide) ?_
        refine s_iret (tb_ok aX2_wordRead_2 11 rfl) rfl ?_
        refine pureE ?_
        rw [← hi1]; rfl
      · simp (disch := omega) only [nI_ltI, nI_leI, nI_eq] at c12
        omega
    · intro k hk ih w a o4 o5 hi hi0 hi1
      cases a with
      | none =>
        show SW X 4 mX2_wordRead (0, 0) 6 [some (.ref 62), some (.int (nI w)), some (.int (-1)), some (.int (nI k)), o4, o5] [] S I L R _
        refine s_iload_n (tb_ok aX2_wordRead_0 6 rfl) rfl ?_
        refine s_ldcW (tb_ok aX2_wordRead_0 7 rfl) rfl ?_
        refine s_cT (i := 0) (as := []) (by decide) (tb_ok aX2_wordRead_0 8 rfl) v_RX2_109 (E_length (by decide)) (by decide) rfl rfl rfl (Nat.le_of_ble_eq_true rfl) ?_
        refine s_topi (z := nI 64) rfl ?_
        refine s_icmp_ge (tgt := 112) (tb_ok aX2_wordRead_0 9 rfl) (by decide) (fun c12 => ?_) (fun c12 => ?_)
        · simp (disch := omega) only [nI_ltI, nI_leI, nI_eq] at c12
          omega
        · refine s_ldcW (tb_ok aX2_wordRead_0 10 rfl) rfl ?_
          refine s_iload_n (tb_ok aX2_wordRead_0 11 rfl) rfl ?_
          refine s_cT (i := 0) (as := [.int (nI k)]) (by decide) (tb_ok aX2_wordRead_0 12 rfl) v_RX2_114 (E_charAt (by decide) (show k < lenS.getD 0 0 from hk)) (by decide) rfl rfl rfl (Nat.le_of_ble_eq_true rfl) ?_
          refine s_name (fun x1 ex1 => ?_)
          refine s_istore (ls' := [some (.ref 62), some (.int (nI w)), some (.int (-1)), some (.int (nI k)), some (.int x1), o5]) (tb_ok aX2_wordRead_0 13 rfl) rfl rfl ?_
          refine s_aload_n (tb_ok aX2_wordRead_0 14 rfl) rfl ?_
          refine s_getI (x := (nI p)) (tb_ok aX2_wordRead_0 15 rfl) f_RX2_53 g1 rfl hp ?_
          refine s_iload_n (tb_ok aX2_wordRead_0 16 rfl) rfl ?_
          refine s_iconst (v := 0) (tb_ok aX2_wordRead_0 17 rfl) (by decide) ?_
          refine s_mmax (tb_ok aX2_wordRead_0 18 rfl) v_RX2_118 (by decide) (Nat.le_of_ble_eq_true rfl) ?_
          refine s_iadd (tb_ok aX2_wordRead_0 19 rfl) ?_
          refine s_name (fun x2 ex2 => ?_)
          refine s_istore (ls' := [some (.ref 62), some (.int (nI w)), some (.int (-1)), some (.int (nI k)), some (.int x1), some (.int x2)]) (tb_ok aX2_wordRead_0 20 rfl) rfl rfl ?_
          refine s_iload (tb_ok aX2_wordRead_0 21 rfl) rfl ?_
          refine s_bipush (v := 32) (tb_ok aX2_wordRead_0 22 rfl) (by decide) ?_
          refine s_icmp_ne (tgt := 65) (tb_ok aX2_wordRead_0 23 rfl) (by decide) (fun c39 => ?_) (fun c39 => ?_)
          · refine s_iload_n (tb_ok aX2_wordRead_1 13 rfl) rfl ?_
            refine s_if_lt (tgt := 104) (tb_ok aX2_wordRead_1 14 rfl) (by decide) (fun c66 => ?_) (fun c66 => ?_)
            · refine s_iconst (v := -1) (tb_ok aX2_wordRead_2 6 rfl) (by decide) ?_
              refine s_istore_n (ls' := [some (.ref 62), some (.int (nI w)), some (.int (-1)), some (.int (nI k)), some (.int x1), some (.int x2)]) (tb_ok aX2_wordRead_2 7 rfl) rfl rfl ?_
              refine s_iinc (v := nI (k + 1)) (ls' := [some (.ref 62), some (.int (nI w)), some (.int (-1)), some (.int (nI (k + 1))), some (.int x1), some (.int x2)]) (tb_ok aX2_wordRead_2 8 rfl) rfl (nI_1 _) rfl rfl ?_
              refine s_goto (tgt := 6) (tb_ok aX2_wordRead_2 9 rfl) (by decide) ?_
              refine ih w none (some (.int x1)) (some (.int x2)) (by omega) (fun i h => by cases h) ?_
              rw [← hi1, show 64 - k = 64 - (k + 1) + 1 by omega, wrR, if_neg (fun h => c39 (ex1.trans h))]
            · exact absurd c66 (by decide)
          · refine s_iload_n (tb_ok aX2_wordRead_1 0 rfl) rfl ?_
            refine s_aload_n (tb_ok aX2_wordRead_1 1 rfl) rfl ?_
            refine s_getI (x := (nI e)) (tb_ok aX2_wordRead_1 2 rfl) f_RX2_31 g1 rfl he ?_
            refine s_aload_n (tb_ok aX2_wordRead_1 3 rfl) rfl ?_
            refine s_getI (x := (nI p)) (tb_ok aX2_wordRead_1 4 rfl) f_RX2_53 g1 rfl hp ?_
            refine s_isub (tb_ok aX2_wordRead_1 5 rfl) ?_
            refine s_topi (z := (nI (e - p))) (nI_sub' (by omega)) ?_
            refine s_icmp_ne (tgt := 57) (tb_ok aX2_wordRead_1 6 rfl) (by decide) (fun c52 => ?_) (fun c52 => ?_)
            · refine s_iinc (v := nI (w + 1)) (ls' := [some (.ref 62), some (.int (nI (w + 1))), some (.int (-1)), some (.int (nI k)), some (.int x1), some (.int x2)]) (tb_ok aX2_wordRead_1 9 rfl) rfl (nI_1 _) rfl rfl ?_
              refine s_iconst (v := nI 0) (tb_ok aX2_wordRead_1 10 rfl) (by decide) ?_
              refine s_istore_n (ls' := [some (.ref 62), some (.int (nI (w + 1))), some (.int (nI 0)), some (.int (nI k)), some (.int x1), some (.int x2)]) (tb_ok aX2_wordRead_1 11 rfl) rfl rfl ?_
              refine s_goto (tgt := 106) (tb_ok aX2_wordRead_1 12 rfl) (by decide) ?_
              refine s_iinc (v := nI (k + 1)) (ls' := [some (.ref 62), some (.int (nI (w + 1))), some (.int (nI 0)), some (.int (nI (k + 1))), some (.int x1), some (.int x2)]) (tb_ok aX2_wordRead_2 8 rfl) rfl (nI_1 _) rfl rfl ?_
              refine s_goto (tgt := 6) (tb_ok aX2_wordRead_2 9 rfl) (by decide) ?_
              refine ih (w + 1) (some 0) (some (.int x1)) (some (.int x2)) (by omega) (fun j h => by cases h; omega) ?_
              rw [← hi1, show 64 - k = 64 - (k + 1) + 1 by omega, wrR, if_pos ((ex1.symm.trans c39)), if_neg (fun h => by cases h)]
            · exfalso
              have h := nI_pos (n := e - p) (by omega)
              rw [← c52] at h
              exact h (by decide)
      | some j =>
        have hj : j ≤ k := hi0 j rfl
        show SW X 4 mX2_wordRead (0, 0) 6 [some (.ref 62), some (.int (nI w)), some (.int (nI j)), some (.int (nI k)), o4, o5] [] S I L R _
        refine s_iload_n (tb_ok aX2_wordRead_0 6 rfl) rfl ?_
        refine s_ldcW (tb_ok aX2_wordRead_0 7 rfl) rfl ?_
        refine s_cT (i := 0) (as := []) (by decide) (tb_ok aX2_wordRead_0 8 rfl) v_RX2_109 (E_length (by decide)) (by decide) rfl rfl rfl (Nat.le_of_ble_eq_true rfl) ?_
        refine s_topi (z := nI 64) rfl ?_
        refine s_icmp_ge (tgt := 112) (tb_ok aX2_wordRead_0 9 rfl) (by decide) (fun c12 => ?_) (fun c12 => ?_)
        · simp (disch := omega) only [nI_ltI, nI_leI, nI_eq] at c12
          omega
        · refine s_ldcW (tb_ok aX2_wordRead_0 10 rfl) rfl ?_
          refine s_iload_n (tb_ok aX2_wordRead_0 11 rfl) rfl ?_
          refine s_cT (i := 0) (as := [.int (nI k)]) (by decide) (tb_ok aX2_wordRead_0 12 rfl) v_RX2_114 (E_charAt (by decide) (show k < lenS.getD 0 0 from hk)) (by decide) rfl rfl rfl (Nat.le_of_ble_eq_true rfl) ?_
          refine s_name (fun x1 ex1 => ?_)
          refine s_istore (ls' := [some (.ref 62), some (.int (nI w)), some (.int (nI j)), some (.int (nI k)), some (.int x1), o5]) (tb_ok aX2_wordRead_0 13 rfl) rfl rfl ?_
          refine s_aload_n (tb_ok aX2_wordRead_0 14 rfl) rfl ?_
          refine s_getI (x := (nI p)) (tb_ok aX2_wordRead_0 15 rfl) f_RX2_53 g1 rfl hp ?_
          refine s_iload_n (tb_ok aX2_wordRead_0 16 rfl) rfl ?_
          refine s_iconst (v := 0) (tb_ok aX2_wordRead_0 17 rfl) (by decide) ?_
          refine s_mmax (tb_ok aX2_wordRead_0 18 rfl) v_RX2_118 (by decide) (Nat.le_of_ble_eq_true rfl) ?_
          refine s_iadd (tb_ok aX2_wordRead_0 19 rfl) ?_
          refine s_topi (z := (nI (p + j))) (by rw [if_neg (nI_pos (by omega)), nI_add]) ?_
          refine s_istore (ls' := [some (.ref 62), some (.int (nI w)), some (.int (nI j)), some (.int (nI k)), some (.int x1), some (.int (nI (p + j)))]) (tb_ok aX2_wordRead_0 20 rfl) rfl rfl ?_
          refine s_iload (tb_ok aX2_wordRead_0 21 rfl) rfl ?_
          refine s_bipush (v := 32) (tb_ok aX2_wordRead_0 22 rfl) (by decide) ?_
          refine s_icmp_ne (tgt := 65) (tb_ok aX2_wordRead_0 23 rfl) (by decide) (fun c39 => ?_) (fun c39 => ?_)
          · refine s_iload_n (tb_ok aX2_wordRead_1 13 rfl) rfl ?_
            refine s_if_lt (tgt := 104) (tb_ok aX2_wordRead_1 14 rfl) (by decide) (fun c66 => ?_) (fun c66 => ?_)
            · exact absurd c66 (nI_pos (by omega))
            · refine s_iload (tb_ok aX2_wordRead_1 15 rfl) rfl ?_
              refine s_aload_n (tb_ok aX2_wordRead_1 16 rfl) rfl ?_
              refine s_getI (x := (nI e)) (tb_ok aX2_wordRead_1 17 rfl) f_RX2_31 g1 rfl he ?_
              refine s_icmp_ge (tgt := 104) (tb_ok aX2_wordRead_1 18 rfl) (by decide) (fun c75 => ?_) (fun c75 => ?_)
              · refine s_iconst (v := -1) (tb_ok aX2_wordRead_2 6 rfl) (by decide) ?_
                refine s_istore_n (ls' := [some (.ref 62), some (.int (nI w)), some (.int (-1)), some (.int (nI k)), some (.int x1), some (.int (nI (p + j)))]) (tb_ok aX2_wordRead_2 7 rfl) rfl rfl ?_
                refine s_iinc (v := nI (k + 1)) (ls' := [some (.ref 62), some (.int (nI w)), some (.int (-1)), some (.int (nI (k + 1))), some (.int x1), some (.int (nI (p + j)))]) (tb_ok aX2_wordRead_2 8 rfl) rfl (nI_1 _) rfl rfl ?_
                refine s_goto (tgt := 6) (tb_ok aX2_wordRead_2 9 rfl) (by decide) ?_
                refine ih w none (some (.int x1)) (some (.int (nI (p + j)))) (by omega) (fun i h => by cases h) ?_
                rw [← hi1, show 64 - k = 64 - (k + 1) + 1 by omega, wrR, if_neg (fun h => c39 (ex1.trans h))]
                refine (if_neg (fun h => ?_)).symm
                first | (exact c95 (h.2.trans ex1.symm)) | (simp (disch := omega) only [nI_leI] at c75; omega) | (simp (disch := omega) only [nI_leI] at c83; omega)
              · refine s_iload (tb_ok aX2_wordRead_1 19 rfl) rfl ?_
                refine s_sipush (v := nI 160) (tb_ok aX2_wordRead_1 20 rfl) (by decide) ?_
                refine s_icmp_ge (tgt := 104) (tb_ok aX2_wordRead_1 21 rfl) (by decide) (fun c83 => ?_) (fun c83 => ?_)
                · refine s_iconst (v := -1) (tb_ok aX2_wordRead_2 6 rfl) (by decide) ?_
                  refine s_istore_n (ls' := [some (.ref 62), some (.int (nI w)), some (.int (-1)), some (.int (nI k)), some (.int x1), some (.int (nI (p + j)))]) (tb_ok aX2_wordRead_2 7 rfl) rfl rfl ?_
                  refine s_iinc (v := nI (k + 1)) (ls' := [some (.ref 62), some (.int (nI w)), some (.int (-1)), some (.int (nI (k + 1))), some (.int x1), some (.int (nI (p + j)))]) (tb_ok aX2_wordRead_2 8 rfl) rfl (nI_1 _) rfl rfl ?_
                  refine s_goto (tgt := 6) (tb_ok aX2_wordRead_2 9 rfl) (by decide) ?_
                  refine ih w none (some (.int x1)) (some (.int (nI (p + j)))) (by omega) (fun i h => by cases h) ?_
                  rw [← hi1, show 64 - k = 64 - (k + 1) + 1 by omega, wrR, if_neg (fun h => c39 (ex1.trans h))]
                  refine (if_neg (fun h => ?_)).symm
                  first | (exact c95 (h.2.trans ex1.symm)) | (simp (disch := omega) only [nI_leI] at c75; omega) | (simp (disch := omega) only [nI_leI] at c83; omega)
                · refine s_aload_n (tb_ok aX2_wordRead_1 22 rfl) rfl ?_
                  refine s_getR (r := 63) (tb_ok aX2_wordRead_1 23 rfl) f_RX2_11 g1 rfl g2 ?_
                  refine s_iload (tb_ok aX2_wordRead_2 0 rfl) rfl ?_
                  refine s_ialdN (tb_ok aX2_wordRead_2 1 rfl) g3 (by simp (disch := omega) only [nI_leI] at c75; omega) (by decide) ?_
                  refine s_iload (tb_ok aX2_wordRead_2 2 rfl) rfl ?_
                  refine s_icmp_ne (tgt := 104) (tb_ok aX2_wordRead_2 3 rfl) (by decide) (fun c95 => ?_) (fun c95 => ?_)
                  · refine s_iconst (v := -1) (tb_ok aX2_wordRead_2 6 rfl) (by decide) ?_
                    refine s_istore_n (ls' := [some (.ref 62), some (.int (nI w)), some (.int (-1)), some (.int (nI k)), some (.int x1), some (.int (nI (p + j)))]) (tb_ok aX2_wordRead_2 7 rfl) rfl rfl ?_
                    refine s_iinc (v := nI (k + 1)) (ls' := [some (.ref 62), some (.int (nI w)), some (.int (-1)), some (.int (nI (k + 1))), some (.int x1), some (.int (nI (p + j)))]) (tb_ok aX2_wordRead_2 8 rfl) rfl (nI_1 _) rfl rfl ?_
                    refine s_goto (tgt := 6) (tb_ok aX2_wordRead_2 9 rfl) (by decide) ?_
                    refine ih w none (some (.int x1)) (some (.int (nI (p + j)))) (by omega) (fun i h => by cases h) ?_
                    rw [← hi1, show 64 - k = 64 - (k + 1) + 1 by omega, wrR, if_neg (fun h => c39 (ex1.trans h))]
                    refine (if_neg (fun h => ?_)).symm
                    first | (exact c95 (h.2.trans ex1.symm)) | (simp (disch := omega) only [nI_leI] at c75; omega) | (simp (disch := omega) only [nI_leI] at c83; omega)
                  · refine s_iinc (v := nI (j + 1)) (ls' := [some (.ref 62), some (.int (nI w)), some (.int (nI (j + 1))), some (.int (nI k)), some (.int x1), some (.int (nI (p + j)))]) (tb_ok aX2_wordRead_2 4 rfl) rfl (nI_1 _) rfl rfl ?_
                    refine s_goto (tgt := 106) (tb_ok aX2_wordRead_2 5 rfl) (by decide) ?_
                    refine s_iinc (v := nI (k + 1)) (ls' := [some (.ref 62), some (.int (nI w)), some (.int (nI (j + 1))), some (.int (nI (k + 1))), some (.int x1), some (.int (nI (p + j)))]) (tb_ok aX2_wordRead_2 8 rfl) rfl (nI_1 _) rfl rfl ?_
                    refine s_goto (tgt := 6) (tb_ok aX2_wordRead_2 9 rfl) (by decide) ?_
                    refine ih w (some (j + 1)) (some (.int x1)) (some (.int (nI (p + j)))) (by omega) (fun i h => by cases h; omega) ?_
                    rw [← hi1, show 64 - k = 64 - (k + 1) + 1 by omega, wrR, if_neg (fun h => c39 (ex1.trans h))]
                    simp (disch := omega) only [nI_leI] at c75
                    exact (if_pos ⟨by omega, c95.trans ex1⟩).symm
          · refine s_iload_n (tb_ok aX2_wordRead_1 0 rfl) rfl ?_
            refine s_aload_n (tb_ok aX2_wordRead_1 1 rfl) rfl ?_
            refine s_getI (x := (nI e)) (tb_ok aX2_wordRead_1 2 rfl) f_RX2_31 g1 rfl he ?_
            refine s_aload_n (tb_ok aX2_wordRead_1 3 rfl) rfl ?_
            refine s_getI (x := (nI p)) (tb_ok aX2_wordRead_1 4 rfl) f_RX2_53 g1 rfl hp ?_
            refine s_isub (tb_ok aX2_wordRead_1 5 rfl) ?_
            refine s_topi (z := (nI (e - p))) (nI_sub' (by omega)) ?_
            refine s_icmp_ne (tgt := 57) (tb_ok aX2_wordRead_1 6 rfl) (by decide) (fun c52 => ?_) (fun c52 => ?_)
            · refine s_iinc (v := nI (w + 1)) (ls' := [some (.ref 62), some (.int (nI (w + 1))), some (.int (nI j)), some (.int (nI k)), some (.int x1), some (.int (nI (p + j)))]) (tb_ok aX2_wordRead_1 9 rfl) rfl (nI_1 _) rfl rfl ?_
              refine s_iconst (v := nI 0) (tb_ok aX2_wordRead_1 10 rfl) (by decide) ?_
              refine s_istore_n (ls' := [some (.ref 62), some (.int (nI (w + 1))), some (.int (nI 0)), some (.int (nI k)), some (.int x1), some (.int (nI (p + j)))]) (tb_ok aX2_wordRead_1 11 rfl) rfl rfl ?_
              refine s_goto (tgt := 106) (tb_ok aX2_wordRead_1 12 rfl) (by decide) ?_
              refine s_iinc (v := nI (k + 1)) (ls' := [some (.ref 62), some (.int (nI (w + 1))), some (.int (nI 0)), some (.int (nI (k + 1))), some (.int x1), some (.int (nI (p + j)))]) (tb_ok aX2_wordRead_2 8 rfl) rfl (nI_1 _) rfl rfl ?_
              refine s_goto (tgt := 6) (tb_ok aX2_wordRead_2 9 rfl) (by decide) ?_
              refine ih (w + 1) (some 0) (some (.int x1)) (some (.int (nI (p + j)))) (by omega) (fun j h => by cases h; omega) ?_
              rw [← hi1, show 64 - k = 64 - (k + 1) + 1 by omega, wrR, if_pos ((ex1.symm.trans c39)), if_neg (fun h => c52 (by rw [Option.some.inj h]))]
            · refine s_iload_n (tb_ok aX2_wordRead_1 7 rfl) rfl ?_
              refine s_iret (tb_ok aX2_wordRead_1 8 rfl) rfl ?_
              refine pureE ?_
              rw [← hi1, show 64 - k = 64 - (k + 1) + 1 by omega, wrR, if_pos ((ex1.symm.trans c39)), if_pos (congrArg some ((nI_eq (by omega) (by omega)).mp c52))]
  refine ev_of (by decide +kernel) rfl ?_
  show SW X _ _ _ 0 [some (.ref 62), none, none, none, none, none] [] S I L R _
  refine s_iconst (v := nI 0) (tb_ok aX2_wordRead_0 0 rfl) (by decide) ?_
  refine s_istore_n (ls' := [some (.ref 62), some (.int (nI 0)), none, none, none, none]) (tb_ok aX2_wordRead_0 1 rfl) rfl rfl ?_
  refine s_iconst (v := nI 0) (tb_ok aX2_wordRead_0 2 rfl) (by decide) ?_
  refine s_istore_n (ls' := [some (.ref 62), some (.int (nI 0)), some (.int (nI 0)), none, none, none]) (tb_ok aX2_wordRead_0 3 rfl) rfl rfl ?_
  refine s_iconst (v := nI 0) (tb_ok aX2_wordRead_0 4 rfl) (by decide) ?_
  refine s_istore_n (ls' := [some (.ref 62), some (.int (nI 0)), some (.int (nI 0)), some (.int (nI 0)), none, none]) (tb_ok aX2_wordRead_0 5 rfl) rfl rfl ?_
  exact loop 0 (Nat.zero_le _) 0 (some 0) _ _ (Nat.le_refl _) (fun j h => by cases h; exact Nat.le_refl _) rfl
