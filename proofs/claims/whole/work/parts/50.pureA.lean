/-! PURE: the small questions -/
theorem pu_in (x a b : Int32) : fC_isWithin x a b = fM_in x a b := rfl
theorem pu_in0 {x a b : Int32} : fM_in x a b = 0 ↔ ¬ (a ≤ x ∧ x ≤ b) := by
  unfold fM_in
  by_cases h1 : x < a
  · rw [if_pos h1]
    exact ⟨fun _ h => absurd h1 (Int32.not_lt.mpr h.1), fun _ => rfl⟩
  · rw [if_neg h1]
    by_cases h2 : b < x
    · rw [if_pos h2]
      exact ⟨fun _ h => absurd h2 (Int32.not_lt.mpr h.2), fun _ => rfl⟩
    · rw [if_neg h2]
      exact ⟨fun h => absurd h (by decide), fun h => absurd ⟨Int32.not_lt.mp h1, Int32.not_lt.mp h2⟩ h⟩
theorem pu_in01 (x a b : Int32) : fM_in x a b = 0 ∨ fM_in x a b = 1 := by
  unfold fM_in
  by_cases h1 : x < a
  · rw [if_pos h1]; exact Or.inl rfl
  · rw [if_neg h1]
    by_cases h2 : b < x
    · rw [if_pos h2]; exact Or.inl rfl
    · rw [if_neg h2]; exact Or.inr rfl
theorem pu_nb {v : Int32} (h : v = 0 ∨ v = 1) : narrow .boolean (.int v) = .int v := by
  rcases h with rfl | rfl <;> rfl
theorem pu_kin (x a b : Int32) : kM_in x a b := ⟨fun _ => trivial, fun _ => ⟨fun _ => trivial, fun _ => trivial⟩⟩
theorem pu_kw (x a b : Int32) : kC_isWithin x a b := ⟨fun _ => trivial, fun _ => ⟨fun _ => trivial, fun _ => trivial⟩⟩
theorem pu_kG (x : Int32) : kM_isGood x := ⟨pu_kin _ _ _, pu_nb (pu_in01 _ _ _)⟩
theorem pu_kPn (x : Int32) : kM_isPerson x := ⟨pu_kin _ _ _, pu_nb (pu_in01 _ _ _)⟩
theorem pu_kPl (x : Int32) (μ : Nat → Nat → Int32) : kM_isPlace x μ := ⟨pu_kin _ _ _, pu_nb (pu_in01 _ _ _)⟩
theorem pu_kCt (x : Int32) (μ : Nat → Nat → Int32) : kM_isCount x μ := ⟨pu_kin _ _ _, pu_nb (pu_in01 _ _ _)⟩
theorem pu_cG (x : Int32) : kC_isGood x := ⟨pu_kw _ _ _, pu_nb (pu_in01 _ _ _)⟩
theorem pu_cK (x : Int32) : kC_isKind x := ⟨pu_kw _ _ _, pu_nb (pu_in01 _ _ _)⟩
theorem pu_cPn (x : Int32) : kC_isPerson x := ⟨pu_kw _ _ _, pu_nb (pu_in01 _ _ _)⟩
theorem pu_cPc (x : Int32) : kC_isPieces x := ⟨pu_kw _ _ _, pu_nb (pu_in01 _ _ _)⟩
theorem pu_cD (x : Int32) : kC_isDay x := ⟨pu_kw _ _ _, pu_nb (pu_in01 _ _ _)⟩
/-- a number in a range of small naturals -/
theorem pu_ix {x : Int32} {n : Nat} (h0 : 0 ≤ x) (h : x ≤ nI n) (hn : n < 2 ^ 31) : ∃ j : Nat, j ≤ n ∧ x = nI j := nI_of2 (nI_toInt hn) (Int32.not_lt.mpr h0) h
