def fS_tell (i0 : Nat) (x1 : Int32) (x2 : Int32) (x3 : Int32) (g : Nat → Nat → Nat → Int32) (N : Nat → Nat) : Int32 × (Nat → Nat → Nat → Int32) := if (g 12 i0 x1.toNatClampNeg) = x3 then ((-3), g) else if (g 13 i0 x1.toNatClampNeg) = x3 then ((-3), g) else if (g 13 i0 x1.toNatClampNeg) = (-1) then if (g 12 i0 x1.toNatClampNeg) = (-1) then (1, (u3 (u3 (u3 g 12 i0 x1.toNatClampNeg x3) 11 i0 x1.toNatClampNeg x2) 8 i0 1 ((g 8 i0 1) + 1))) else (1, (u3 (u3 (u3 g 13 i0 x1.toNatClampNeg x3) 11 i0 x1.toNatClampNeg x2) 8 i0 1 ((g 8 i0 1) + 1))) else ((-4), g)
def kS_tell (i0 : Nat) (x1 : Int32) (x2 : Int32) (x3 : Int32) (g : Nat → Nat → Nat → Int32) (N : Nat → Nat) : Prop := (vp_in x1 (6 * N (3 + i0))) ∧ (((g 12 i0 x1.toNatClampNeg) = x3 → True) ∧ (¬ ((g 12 i0 x1.toNatClampNeg) = x3) → (vp_in x1 (6 * N (3 + i0))) ∧ (((g 13 i0 x1.toNatClampNeg) = x3 → True) ∧ (¬ ((g 13 i0 x1.toNatClampNeg) = x3) → (vp_in x1 (6 * N (3 + i0))) ∧ (((g 13 i0 x1.toNatClampNeg) = (-1) → (vp_in x1 (6 * N (3 + i0))) ∧ (((g 12 i0 x1.toNatClampNeg) = (-1) → (vp_in x1 (6 * N (3 + i0))) ∧ ((vp_in x1 (6 * N (3 + i0))) ∧ (True))) ∧ (¬ ((g 12 i0 x1.toNatClampNeg) = (-1)) → (vp_in x1 (6 * N (3 + i0))) ∧ ((vp_in x1 (6 * N (3 + i0))) ∧ (True))))) ∧ (¬ ((g 13 i0 x1.toNatClampNeg) = (-1)) → True))))))
def fS_addDifference (i0 : Nat) (x1 : Int32) (g : Nat → Nat → Nat → Int32) (N : Nat → Nat) : Nat → Nat → Nat → Int32 := if (nI (6 * N (3 + i0))) ≤ (g 8 i0 0) then g else (u3 (u3 g 16 i0 ((g 8 i0 0).toNatClampNeg) x1) 8 i0 0 ((g 8 i0 0) + 1))
def kS_addDifference (i0 : Nat) (x1 : Int32) (g : Nat → Nat → Nat → Int32) (N : Nat → Nat) : Prop := ((nI (6 * N (3 + i0))) ≤ (g 8 i0 0) → True) ∧ (¬ ((nI (6 * N (3 + i0))) ≤ (g 8 i0 0)) → (vp_in (g 8 i0 0) (6 * N (3 + i0))) ∧ (True))
def fC_placeNumbered (x1 : Int32) (g : Nat → Nat → Nat → Int32) (N : Nat → Nat) : Nat := if (fC_isWithin x1 0 ((g 0 0 0) - 1)) = 0 then 0 else x1.toNatClampNeg
def kC_placeNumbered (x1 : Int32) (g : Nat → Nat → Nat → Int32) (N : Nat → Nat) : Prop := (kC_isWithin x1 0 ((g 0 0 0) - 1)) ∧ (((fC_isWithin x1 0 ((g 0 0 0) - 1)) = 0 → False) ∧ (¬ ((fC_isWithin x1 0 ((g 0 0 0) - 1)) = 0) → (vp_in x1 20) ∧ (x1.toNatClampNeg < N 0) ∧ (True)))
def fC_transferNumbered (x1 : Int32) (g : Nat → Nat → Nat → Int32) (N : Nat → Nat) : Nat := if (fC_isWithin x1 1 (g 0 0 1)) = 0 then 0 else (x1 - 1).toNatClampNeg
def kC_transferNumbered (x1 : Int32) (g : Nat → Nat → Nat → Int32) (N : Nat → Nat) : Prop := (kC_isWithin x1 1 (g 0 0 1)) ∧ (((fC_isWithin x1 1 (g 0 0 1)) = 0 → False) ∧ (¬ ((fC_isWithin x1 1 (g 0 0 1)) = 0) → (vp_in (x1 - 1) 60) ∧ ((x1 - 1).toNatClampNeg < N 1) ∧ (True)))
def fC_sheetNumbered (x1 : Int32) (g : Nat → Nat → Nat → Int32) (N : Nat → Nat) : Nat := if (fC_isWithin x1 1 (g 0 0 2)) = 0 then 0 else (x1 - 1).toNatClampNeg
def kC_sheetNumbered (x1 : Int32) (g : Nat → Nat → Nat → Int32) (N : Nat → Nat) : Prop := (kC_isWithin x1 1 (g 0 0 2)) ∧ (((fC_isWithin x1 1 (g 0 0 2)) = 0 → False) ∧ (¬ ((fC_isWithin x1 1 (g 0 0 2)) = 0) → (vp_in (x1 - 1) 20) ∧ ((x1 - 1).toNatClampNeg < N 2) ∧ (True)))
def fC_openMoves_4x  (x1 : Int32) (x2 : Int32) (g : Nat → Nat → Nat → Int32) (N : Nat → Nat) : Int32 := x1
def kC_openMoves_4x  (x1 : Int32) (x2 : Int32) (g : Nat → Nat → Nat → Int32) (N : Nat → Nat) : Prop := True
def fC_openMoves_4  (E4 : Int32 → Int32 → (Nat → Nat → Nat → Int32) → (Nat → Nat) → Int32) : Nat → Int32 → Int32 → (Nat → Nat → Nat → Int32) → (Nat → Nat) → Int32
  | 0, _, _, _, _ => 0
  | n + 1, x1, x2, g, N => if (g 0 0 1) < x2 then E4 x1 x2 g N else if (g 7 ((x2 - 1).toNatClampNeg) 4) = 0 then (fC_openMoves_4 E4 n) x1 (x2 + 1) g N else (fC_openMoves_4 E4 n) (x1 + 1) (x2 + 1) g N
def kC_openMoves_4  (KE4 : Int32 → Int32 → (Nat → Nat → Nat → Int32) → (Nat → Nat) → Prop) : Nat → Int32 → Int32 → (Nat → Nat → Nat → Int32) → (Nat → Nat) → Prop
  | 0, _, _, _, _ => False
  | n + 1, x1, x2, g, N => ((g 0 0 1) < x2 → KE4 x1 x2 g N) ∧ (¬ ((g 0 0 1) < x2) → (kC_transferNumbered x2 g N) ∧ (¬ (fC_isWithin x2 1 (g 0 0 1)) = 0) ∧ ((x2 - 1).toNatClampNeg < N 1) ∧ (((g 7 ((x2 - 1).toNatClampNeg) 4) = 0 → (kC_openMoves_4 KE4 n) x1 (x2 + 1) g N) ∧ (¬ ((g 7 ((x2 - 1).toNatClampNeg) 4) = 0) → (kC_openMoves_4 KE4 n) (x1 + 1) (x2 + 1) g N)))
def fC_openMoves  (g : Nat → Nat → Nat → Int32) (N : Nat → Nat) : Int32 := fC_openMoves_4 fC_openMoves_4x 200 0 1 g N
def kC_openMoves  (g : Nat → Nat → Nat → Int32) (N : Nat → Nat) : Prop := kC_openMoves_4 kC_openMoves_4x 200 0 1 g N
def fC_openMovesAt_4x  (x1 : Int32) (x2 : Int32) (x3 : Int32) (g : Nat → Nat → Nat → Int32) (N : Nat → Nat) : Int32 := x2
def kC_openMovesAt_4x  (x1 : Int32) (x2 : Int32) (x3 : Int32) (g : Nat → Nat → Nat → Int32) (N : Nat → Nat) : Prop := True
def fC_openMovesAt_4  (E4 : Int32 → Int32 → Int32 → (Nat → Nat → Nat → Int32) → (Nat → Nat) → Int32) : Nat → Int32 → Int32 → Int32 → (Nat → Nat → Nat → Int32) → (Nat → Nat) → Int32
  | 0, _, _, _, _, _ => 0
  | n + 1, x1, x2, x3, g, N => if (g 0 0 1) < x3 then E4 x1 x2 x3 g N else if (g 7 ((x3 - 1).toNatClampNeg) 4) = 0 then (fC_openMovesAt_4 E4 n) x1 x2 (x3 + 1) g N else if (g 7 ((x3 - 1).toNatClampNeg) 0) = x1 then (fC_openMovesAt_4 E4 n) x1 (x2 + 1) (x3 + 1) g N else if (g 7 ((x3 - 1).toNatClampNeg) 1) = x1 then (fC_openMovesAt_4 E4 n) x1 (x2 + 1) (x3 + 1) g N else (fC_openMovesAt_4 E4 n) x1 x2 (x3 + 1) g N
def kC_openMovesAt_4  (KE4 : Int32 → Int32 → Int32 → (Nat → Nat → Nat → Int32) → (Nat → Nat) → Prop) : Nat → Int32 → Int32 → Int32 → (Nat → Nat → Nat → Int32) → (Nat → Nat) → Prop
  | 0, _, _, _, _, _ => False
  | n + 1, x1, x2, x3, g, N => ((g 0 0 1) < x3 → KE4 x1 x2 x3 g N) ∧ (¬ ((g 0 0 1) < x3) → (kC_transferNumbered x3 g N) ∧ (¬ (fC_isWithin x3 1 (g 0 0 1)) = 0) ∧ ((x3 - 1).toNatClampNeg < N 1) ∧ (((g 7 ((x3 - 1).toNatClampNeg) 4) = 0 → (kC_openMovesAt_4 KE4 n) x1 x2 (x3 + 1) g N) ∧ (¬ ((g 7 ((x3 - 1).toNatClampNeg) 4) = 0) → ((g 7 ((x3 - 1).toNatClampNeg) 0) = x1 → (kC_openMovesAt_4 KE4 n) x1 (x2 + 1) (x3 + 1) g N) ∧ (¬ ((g 7 ((x3 - 1).toNatClampNeg) 0) = x1) → ((g 7 ((x3 - 1).toNatClampNeg) 1) = x1 → (kC_openMovesAt_4 KE4 n) x1 (x2 + 1) (x3 + 1) g N) ∧ (¬ ((g 7 ((x3 - 1).toNatClampNeg) 1) = x1) → (kC_openMovesAt_4 KE4 n) x1 x2 (x3 + 1) g N)))))
def fC_openMovesAt (x1 : Int32) (g : Nat → Nat → Nat → Int32) (N : Nat → Nat) : Int32 := fC_openMovesAt_4 fC_openMovesAt_4x 200 x1 0 1 g N
def kC_openMovesAt (x1 : Int32) (g : Nat → Nat → Nat → Int32) (N : Nat → Nat) : Prop := kC_openMovesAt_4 kC_openMovesAt_4x 200 x1 0 1 g N
def fC_hasOpenMoves_2x  (i1 : Nat) (x2 : Int32) (g : Nat → Nat → Nat → Int32) (N : Nat → Nat) : Int32 := 0
def kC_hasOpenMoves_2x  (i1 : Nat) (x2 : Int32) (g : Nat → Nat → Nat → Int32) (N : Nat → Nat) : Prop := True
def fC_hasOpenMoves_2  (E2 : Nat → Int32 → (Nat → Nat → Nat → Int32) → (Nat → Nat) → Int32) : Nat → Nat → Int32 → (Nat → Nat → Nat → Int32) → (Nat → Nat) → Int32
  | 0, _, _, _, _ => 0
  | n + 1, i1, x2, g, N => if (nI (N (3 + i1))) ≤ x2 then E2 i1 x2 g N else if (fC_openMovesAt (g 9 i1 x2.toNatClampNeg) g N) ≤ 0 then (fC_hasOpenMoves_2 E2 n) i1 (x2 + 1) g N else 1
def kC_hasOpenMoves_2  (KE2 : Nat → Int32 → (Nat → Nat → Nat → Int32) → (Nat → Nat) → Prop) : Nat → Nat → Int32 → (Nat → Nat → Nat → Int32) → (Nat → Nat) → Prop
  | 0, _, _, _, _ => False
  | n + 1, i1, x2, g, N => ((nI (N (3 + i1))) ≤ x2 → KE2 i1 x2 g N) ∧ (¬ ((nI (N (3 + i1))) ≤ x2) → (vp_in x2 (N (3 + i1))) ∧ ((kC_openMovesAt (g 9 i1 x2.toNatClampNeg) g N) ∧ (((fC_openMovesAt (g 9 i1 x2.toNatClampNeg) g N) ≤ 0 → (kC_hasOpenMoves_2 KE2 n) i1 (x2 + 1) g N) ∧ (¬ ((fC_openMovesAt (g 9 i1 x2.toNatClampNeg) g N) ≤ 0) → True))))
def fC_hasOpenMoves (i1 : Nat) (g : Nat → Nat → Nat → Int32) (N : Nat → Nat) : Int32 := fC_hasOpenMoves_2 fC_hasOpenMoves_2x 200 i1 0 g N
def kC_hasOpenMoves (i1 : Nat) (g : Nat → Nat → Nat → Int32) (N : Nat → Nat) : Prop := kC_hasOpenMoves_2 kC_hasOpenMoves_2x 200 i1 0 g N
def fC_longestUncounted_4x  (x1 : Int32) (x2 : Int32) (x3 : Int32) (g : Nat → Nat → Nat → Int32) (N : Nat → Nat) : Int32 := x2
def kC_longestUncounted_4x  (x1 : Int32) (x2 : Int32) (x3 : Int32) (g : Nat → Nat → Nat → Int32) (N : Nat → Nat) : Prop := True
def fC_longestUncounted_4  (E4 : Int32 → Int32 → Int32 → (Nat → Nat → Nat → Int32) → (Nat → Nat) → Int32) : Nat → Int32 → Int32 → Int32 → (Nat → Nat → Nat → Int32) → (Nat → Nat) → Int32
  | 0, _, _, _, _, _ => 0
  | n + 1, x1, x2, x3, g, N => if x1 ≤ x3 then E4 x1 x2 x3 g N else if (g 5 ((g 4 0 x2.toNatClampNeg).toNatClampNeg) 1) ≤ (g 5 ((g 4 0 x3.toNatClampNeg).toNatClampNeg) 1) then (fC_longestUncounted_4 E4 n) x1 x2 (x3 + 1) g N else (fC_longestUncounted_4 E4 n) x1 x3 (x3 + 1) g N
def kC_longestUncounted_4  (KE4 : Int32 → Int32 → Int32 → (Nat → Nat → Nat → Int32) → (Nat → Nat) → Prop) : Nat → Int32 → Int32 → Int32 → (Nat → Nat → Nat → Int32) → (Nat → Nat) → Prop
  | 0, _, _, _, _, _ => False
  | n + 1, x1, x2, x3, g, N => (x1 ≤ x3 → KE4 x1 x2 x3 g N) ∧ (¬ (x1 ≤ x3) → (vp_in x3 20) ∧ ((kC_placeNumbered (g 4 0 x3.toNatClampNeg) g N) ∧ (¬ (fC_isWithin (g 4 0 x3.toNatClampNeg) 0 ((g 0 0 0) - 1)) = 0) ∧ ((g 4 0 x3.toNatClampNeg).toNatClampNeg < N 0) ∧ ((vp_in x2 20) ∧ ((kC_placeNumbered (g 4 0 x2.toNatClampNeg) g N) ∧ (¬ (fC_isWithin (g 4 0 x2.toNatClampNeg) 0 ((g 0 0 0) - 1)) = 0) ∧ ((g 4 0 x2.toNatClampNeg).toNatClampNeg < N 0) ∧ (((g 5 ((g 4 0 x2.toNatClampNeg).toNatClampNeg) 1) ≤ (g 5 ((g 4 0 x3.toNatClampNeg).toNatClampNeg) 1) → (kC_longestUncounted_4 KE4 n) x1 x2 (x3 + 1) g N) ∧ (¬ ((g 5 ((g 4 0 x2.toNatClampNeg).toNatClampNeg) 1) ≤ (g 5 ((g 4 0 x3.toNatClampNeg).toNatClampNeg) 1)) → (kC_longestUncounted_4 KE4 n) x1 x3 (x3 + 1) g N))))))
def fC_longestUncounted (x1 : Int32) (g : Nat → Nat → Nat → Int32) (N : Nat → Nat) : Int32 := fC_longestUncounted_4 fC_longestUncounted_4x 200 x1 0 1 g N
def kC_longestUncounted (x1 : Int32) (g : Nat → Nat → Nat → Int32) (N : Nat → Nat) : Prop := kC_longestUncounted_4 kC_longestUncounted_4x 200 x1 0 1 g N
def fC_isTolerated (x1 : Int32) (i2 : Nat) (g : Nat → Nat → Nat → Int32) (N : Nat → Nat) : Int32 := if (g 2 0 ((g 5 i2 0).toNatClampNeg)) < (if 0 ≤ x1 then x1 else 0 - x1) then 0 else 1
def kC_isTolerated (x1 : Int32) (i2 : Nat) (g : Nat → Nat → Nat → Int32) (N : Nat → Nat) : Prop := (vp_in (g 5 i2 0) 3) ∧ (((g 2 0 ((g 5 i2 0).toNatClampNeg)) < (if 0 ≤ x1 then x1 else 0 - x1) → True) ∧ (¬ ((g 2 0 ((g 5 i2 0).toNatClampNeg)) < (if 0 ≤ x1 then x1 else 0 - x1)) → True))
def fC_mayCorrect (i1 : Nat) (x2 : Int32) (x3 : Int32) (g : Nat → Nat → Nat → Int32) (N : Nat → Nat) : Int32 := if (g 3 0 x3.toNatClampNeg) < (if 0 ≤ (fS_differenceOf i1 x2 g N) then (fS_differenceOf i1 x2 g N) else 0 - (fS_differenceOf i1 x2 g N)) then if (g 14 i1 x2.toNatClampNeg) = (-1) then 0 else if (g 14 i1 x2.toNatClampNeg) = x3 then 0 else 1 else if (g 14 i1 x2.toNatClampNeg) = (-1) then 1 else if (g 14 i1 x2.toNatClampNeg) = x3 then 1 else 1
def kC_mayCorrect (i1 : Nat) (x2 : Int32) (x3 : Int32) (g : Nat → Nat → Nat → Int32) (N : Nat → Nat) : Prop := (vp_in x2 (6 * N (3 + i1))) ∧ ((vp_in x3 6) ∧ ((kS_differenceOf i1 x2 g N) ∧ (((g 3 0 x3.toNatClampNeg) < (if 0 ≤ (fS_differenceOf i1 x2 g N) then (fS_differenceOf i1 x2 g N) else 0 - (fS_differenceOf i1 x2 g N)) → ((g 14 i1 x2.toNatClampNeg) = (-1) → True) ∧ (¬ ((g 14 i1 x2.toNatClampNeg) = (-1)) → ((g 14 i1 x2.toNatClampNeg) = x3 → True) ∧ (¬ ((g 14 i1 x2.toNatClampNeg) = x3) → True))) ∧ (¬ ((g 3 0 x3.toNatClampNeg) < (if 0 ≤ (fS_differenceOf i1 x2 g N) then (fS_differenceOf i1 x2 g N) else 0 - (fS_differenceOf i1 x2 g N))) → ((g 14 i1 x2.toNatClampNeg) = (-1) → True) ∧ (¬ ((g 14 i1 x2.toNatClampNeg) = (-1)) → ((g 14 i1 x2.toNatClampNeg) = x3 → True) ∧ (¬ ((g 14 i1 x2.toNatClampNeg) = x3) → True))))))
def fC_gatherCandidates_4x  (x1 : Int32) (x2 : Int32) (x3 : Int32) (g : Nat → Nat → Nat → Int32) (N : Nat → Nat) : Int32 × (Nat → Nat → Nat → Int32) := (x2, g)
def kC_gatherCandidates_4x  (x1 : Int32) (x2 : Int32) (x3 : Int32) (g : Nat → Nat → Nat → Int32) (N : Nat → Nat) : Prop := True
def fC_gatherCandidates_4  (E4 : Int32 → Int32 → Int32 → (Nat → Nat → Nat → Int32) → (Nat → Nat) → (Int32 × (Nat → Nat → Nat → Int32))) : Nat → Int32 → Int32 → Int32 → (Nat → Nat → Nat → Int32) → (Nat → Nat) → (Int32 × (Nat → Nat → Nat → Int32))
  | 0, _, _, _, _, _ => (0, fun _ _ _ => 0)
  | n + 1, x1, x2, x3, g, N => if (g 0 0 0) ≤ x3 then E4 x1 x2 x3 g N else if (g 5 x3.toNatClampNeg 2) = 0 then if x1 = (-1) then (fC_gatherCandidates_4 E4 n) x1 (x2 + 1) (x3 + 1) (u3 g 4 0 x2.toNatClampNeg x3) N else if (g 5 x3.toNatClampNeg 0) = x1 then (fC_gatherCandidates_4 E4 n) x1 (x2 + 1) (x3 + 1) (u3 g 4 0 x2.toNatClampNeg x3) N else (fC_gatherCandidates_4 E4 n) x1 x2 (x3 + 1) g N else (fC_gatherCandidates_4 E4 n) x1 x2 (x3 + 1) g N
def kC_gatherCandidates_4  (KE4 : Int32 → Int32 → Int32 → (Nat → Nat → Nat → Int32) → (Nat → Nat) → Prop) : Nat → Int32 → Int32 → Int32 → (Nat → Nat → Nat → Int32) → (Nat → Nat) → Prop
  | 0, _, _, _, _, _ => False
  | n + 1, x1, x2, x3, g, N => ((g 0 0 0) ≤ x3 → KE4 x1 x2 x3 g N) ∧ (¬ ((g 0 0 0) ≤ x3) → (kC_placeNumbered x3 g N) ∧ (¬ (fC_isWithin x3 0 ((g 0 0 0) - 1)) = 0) ∧ (x3.toNatClampNeg < N 0) ∧ (((g 5 x3.toNatClampNeg 2) = 0 → (x1 = (-1) → (vp_in x2 20) ∧ ((kC_gatherCandidates_4 KE4 n) x1 (x2 + 1) (x3 + 1) (u3 g 4 0 x2.toNatClampNeg x3) N)) ∧ (¬ (x1 = (-1)) → ((g 5 x3.toNatClampNeg 0) = x1 → (vp_in x2 20) ∧ ((kC_gatherCandidates_4 KE4 n) x1 (x2 + 1) (x3 + 1) (u3 g 4 0 x2.toNatClampNeg x3) N)) ∧ (¬ ((g 5 x3.toNatClampNeg 0) = x1) → (kC_gatherCandidates_4 KE4 n) x1 x2 (x3 + 1) g N))) ∧ (¬ ((g 5 x3.toNatClampNeg 2) = 0) → (kC_gatherCandidates_4 KE4 n) x1 x2 (x3 + 1) g N)))
def fC_gatherCandidates (x1 : Int32) (g : Nat → Nat → Nat → Int32) (N : Nat → Nat) : Int32 × (Nat → Nat → Nat → Int32) := fC_gatherCandidates_4 fC_gatherCandidates_4x 200 x1 0 0 g N
def kC_gatherCandidates (x1 : Int32) (g : Nat → Nat → Nat → Int32) (N : Nat → Nat) : Prop := kC_gatherCandidates_4 kC_gatherCandidates_4x 200 x1 0 0 g N
def fC_countPlace_6x  (i1 : Nat) (x2 : Int32) (i3 : Nat) (x4 : Int32) (x5 : Int32) (g : Nat → Nat → Nat → Int32) (N : Nat → Nat) : Nat → Nat → Nat → Int32 := if x4 = 0 then (u3 (u3 g 5 i3 1 (g 0 0 3)) 0 0 5 ((g 0 0 5) + 1)) else (u3 (u3 (u3 g 5 i3 1 (g 0 0 3)) 0 0 5 ((g 0 0 5) + 1)) 0 0 6 ((g 0 0 6) + 1))
def kC_countPlace_6x  (i1 : Nat) (x2 : Int32) (i3 : Nat) (x4 : Int32) (x5 : Int32) (g : Nat → Nat → Nat → Int32) (N : Nat → Nat) : Prop := (x4 = 0 → True) ∧ (¬ (x4 = 0) → True)
def fC_countPlace_6  (E6 : Nat → Int32 → Nat → Int32 → Int32 → (Nat → Nat → Nat → Int32) → (Nat → Nat) → (Nat → Nat → Nat → Int32)) : Nat → Nat → Int32 → Nat → Int32 → Int32 → (Nat → Nat → Nat → Int32) → (Nat → Nat) → (Nat → Nat → Nat → Int32)
  | 0, _, _, _, _, _, _, _ => fun _ _ _ => 0
  | n + 1, i1, x2, i3, x4, x5, g, N => if 6 ≤ x5 then E6 i1 x2 i3 x4 x5 g N else if (fS_differenceOf i1 ((x2 * 6) + x5) g N) = 0 then if x4 = 0 then (fC_countPlace_6 E6 n) i1 x2 i3 0 (x5 + 1) g N else if (fC_isTolerated (fS_differenceOf i1 ((x2 * 6) + x5) g N) i3 g N) = 0 then (fC_countPlace_6 E6 n) i1 x2 i3 0 (x5 + 1) g N else (fC_countPlace_6 E6 n) i1 x2 i3 1 (x5 + 1) g N else if x4 = 0 then (fC_countPlace_6 E6 n) i1 x2 i3 0 (x5 + 1) (fS_addDifference i1 ((x2 * 6) + x5) g N) N else if (fC_isTolerated (fS_differenceOf i1 ((x2 * 6) + x5) g N) i3 (fS_addDifference i1 ((x2 * 6) + x5) g N) N) = 0 then (fC_countPlace_6 E6 n) i1 x2 i3 0 (x5 + 1) (fS_addDifference i1 ((x2 * 6) + x5) g N) N else (fC_countPlace_6 E6 n) i1 x2 i3 1 (x5 + 1) (fS_addDifference i1 ((x2 * 6) + x5) g N) N
def kC_countPlace_6  (KE6 : Nat → Int32 → Nat → Int32 → Int32 → (Nat → Nat → Nat → Int32) → (Nat → Nat) → Prop) : Nat → Nat → Int32 → Nat → Int32 → Int32 → (Nat → Nat → Nat → Int32) → (Nat → Nat) → Prop
  | 0, _, _, _, _, _, _, _ => False
  | n + 1, i1, x2, i3, x4, x5, g, N => (6 ≤ x5 → KE6 i1 x2 i3 x4 x5 g N) ∧ (¬ (6 ≤ x5) → (kS_differenceOf i1 ((x2 * 6) + x5) g N) ∧ (((fS_differenceOf i1 ((x2 * 6) + x5) g N) = 0 → (x4 = 0 → (kC_countPlace_6 KE6 n) i1 x2 i3 0 (x5 + 1) g N) ∧ (¬ (x4 = 0) → (kC_isTolerated (fS_differenceOf i1 ((x2 * 6) + x5) g N) i3 g N) ∧ (((fC_isTolerated (fS_differenceOf i1 ((x2 * 6) + x5) g N) i3 g N) = 0 → (kC_countPlace_6 KE6 n) i1 x2 i3 0 (x5 + 1) g N) ∧ (¬ ((fC_isTolerated (fS_differenceOf i1 ((x2 * 6) + x5) g N) i3 g N) = 0) → (kC_countPlace_6 KE6 n) i1 x2 i3 1 (x5 + 1) g N)))) ∧ (¬ ((fS_differenceOf i1 ((x2 * 6) + x5) g N) = 0) → (kS_addDifference i1 ((x2 * 6) + x5) g N) ∧ ((x4 = 0 → (kC_countPlace_6 KE6 n) i1 x2 i3 0 (x5 + 1) (fS_addDifference i1 ((x2 * 6) + x5) g N) N) ∧ (¬ (x4 = 0) → (kC_isTolerated (fS_differenceOf i1 ((x2 * 6) + x5) g N) i3 (fS_addDifference i1 ((x2 * 6) + x5) g N) N) ∧ (((fC_isTolerated (fS_differenceOf i1 ((x2 * 6) + x5) g N) i3 (fS_addDifference i1 ((x2 * 6) + x5) g N) N) = 0 → (kC_countPlace_6 KE6 n) i1 x2 i3 0 (x5 + 1) (fS_addDifference i1 ((x2 * 6) + x5) g N) N) ∧ (¬ ((fC_isTolerated (fS_differenceOf i1 ((x2 * 6) + x5) g N) i3 (fS_addDifference i1 ((x2 * 6) + x5) g N) N) = 0) → (kC_countPlace_6 KE6 n) i1 x2 i3 1 (x5 + 1) (fS_addDifference i1 ((x2 * 6) + x5) g N) N)))))))
def fC_countPlace (i1 : Nat) (x2 : Int32) (i3 : Nat) (g : Nat → Nat → Nat → Int32) (N : Nat → Nat) : Nat → Nat → Nat → Int32 := fC_countPlace_6 fC_countPlace_6x 200 i1 x2 i3 1 0 g N
def kC_countPlace (i1 : Nat) (x2 : Int32) (i3 : Nat) (g : Nat → Nat → Nat → Int32) (N : Nat → Nat) : Prop := kC_countPlace_6 kC_countPlace_6x 200 i1 x2 i3 1 0 g N
def fC_count (x1 : Int32) (g : Nat → Nat → Nat → Int32) (N : Nat → Nat) : Int32 := if x1 = 0 then g 0 0 0 else if x1 = 1 then g 0 0 1 else if x1 = 2 then g 0 0 2 else if x1 = 3 then g 0 0 3 else if x1 = 4 then fC_openMoves g N else (-1)
def kC_count (x1 : Int32) (g : Nat → Nat → Nat → Int32) (N : Nat → Nat) : Prop := (x1 = 0 → True) ∧ (¬ (x1 = 0) → (x1 = 1 → True) ∧ (¬ (x1 = 1) → (x1 = 2 → True) ∧ (¬ (x1 = 2) → (x1 = 3 → True) ∧ (¬ (x1 = 3) → (x1 = 4 → (kC_openMoves g N) ∧ (True)) ∧ (¬ (x1 = 4) → True)))))
def fC_cycle (x1 : Int32) (x2 : Int32) (x3 : Int32) (g : Nat → Nat → Nat → Int32) (N : Nat → Nat) : Option String × Int32 × (Nat → Nat → Nat → Int32) := if (fC_isKind x1) = 0 then (some "java/lang/IllegalArgumentException", 0, g) else if (fC_isWithin x2 1 1000) = 0 then (some "java/lang/IllegalArgumentException", 0, g) else if (fC_isWithin x3 0 1000) = 0 then (some "java/lang/IllegalArgumentException", 0, g) else (none, 0, (u3 (u3 g 1 0 x1.toNatClampNeg x2) 2 0 x1.toNatClampNeg x3))
def kC_cycle (x1 : Int32) (x2 : Int32) (x3 : Int32) (g : Nat → Nat → Nat → Int32) (N : Nat → Nat) : Prop := (kC_isKind x1) ∧ (((fC_isKind x1) = 0 → True) ∧ (¬ ((fC_isKind x1) = 0) → (kC_isWithin x2 1 1000) ∧ (((fC_isWithin x2 1 1000) = 0 → True) ∧ (¬ ((fC_isWithin x2 1 1000) = 0) → (kC_isWithin x3 0 1000) ∧ (((fC_isWithin x3 0 1000) = 0 → True) ∧ (¬ ((fC_isWithin x3 0 1000) = 0) → (vp_in x1 3) ∧ ((vp_in x1 3) ∧ (True))))))))
def fC_right (x1 : Int32) (x2 : Int32) (g : Nat → Nat → Nat → Int32) (N : Nat → Nat) : Option String × Int32 × (Nat → Nat → Nat → Int32) := if (fC_isPerson x1) = 0 then (some "java/lang/IllegalArgumentException", 0, g) else if (fC_isPieces x2) = 0 then (some "java/lang/IllegalArgumentException", 0, g) else (none, 0, (u3 g 3 0 x1.toNatClampNeg x2))
def kC_right (x1 : Int32) (x2 : Int32) (g : Nat → Nat → Nat → Int32) (N : Nat → Nat) : Prop := (kC_isPerson x1) ∧ (((fC_isPerson x1) = 0 → True) ∧ (¬ ((fC_isPerson x1) = 0) → (kC_isPieces x2) ∧ (((fC_isPieces x2) = 0 → True) ∧ (¬ ((fC_isPieces x2) = 0) → (vp_in x1 6) ∧ (True)))))
def fC_setting (x1 : Int32) (g : Nat → Nat → Nat → Int32) (N : Nat → Nat) : Option String × Int32 × (Nat → Nat → Nat → Int32) := if (fC_isWithin x1 0 1) = 0 then (some "java/lang/IllegalArgumentException", 0, g) else if x1 = 0 then (none, 0, (u3 g 0 0 4 1)) else (none, 0, (u3 g 0 0 4 0))
def kC_setting (x1 : Int32) (g : Nat → Nat → Nat → Int32) (N : Nat → Nat) : Prop := (kC_isWithin x1 0 1) ∧ (((fC_isWithin x1 0 1) = 0 → True) ∧ (¬ ((fC_isWithin x1 0 1) = 0) → (x1 = 0 → True) ∧ (¬ (x1 = 0) → True)))
def fC_day (x1 : Int32) (g : Nat → Nat → Nat → Int32) (N : Nat → Nat) : Option String × Int32 × (Nat → Nat → Nat → Int32) := if (fC_isDay x1) = 0 then (some "java/lang/IllegalArgumentException", 0, g) else if (g 0 0 3) ≤ x1 then (none, 0, (u3 g 0 0 3 x1)) else (some "java/lang/IllegalStateException", 0, g)
def kC_day (x1 : Int32) (g : Nat → Nat → Nat → Int32) (N : Nat → Nat) : Prop := (kC_isDay x1) ∧ (((fC_isDay x1) = 0 → True) ∧ (¬ ((fC_isDay x1) = 0) → ((g 0 0 3) ≤ x1 → True) ∧ (¬ ((g 0 0 3) ≤ x1) → True)))
def fC_share (x1 : Int32) (g : Nat → Nat → Nat → Int32) (N : Nat → Nat) : Option String × Int32 × (Nat → Nat → Nat → Int32) := if (fC_isWithin x1 0 1) = 0 then (some "java/lang/IllegalArgumentException", 0, g) else if (fC_commonDivisor (g 0 0 5) (g 0 0 6)) = 0 then (some "java/lang/ArithmeticException", 0, g) else if x1 = 0 then (none, (g 0 0 6) / (fC_commonDivisor (g 0 0 5) (g 0 0 6)), g) else (none, (g 0 0 5) / (fC_commonDivisor (g 0 0 5) (g 0 0 6)), g)
def kC_share (x1 : Int32) (g : Nat → Nat → Nat → Int32) (N : Nat → Nat) : Prop := (kC_isWithin x1 0 1) ∧ (((fC_isWithin x1 0 1) = 0 → True) ∧ (¬ ((fC_isWithin x1 0 1) = 0) → (kC_commonDivisor (g 0 0 5) (g 0 0 6)) ∧ (((fC_commonDivisor (g 0 0 5) (g 0 0 6)) = 0 → True) ∧ (¬ ((fC_commonDivisor (g 0 0 5) (g 0 0 6)) = 0) → (x1 = 0 → (¬ (fC_commonDivisor (g 0 0 5) (g 0 0 6)) = 0) ∧ (True)) ∧ (¬ (x1 = 0) → (¬ (fC_commonDivisor (g 0 0 5) (g 0 0 6)) = 0) ∧ (True))))))
def fC_due_21x  (x1 : Int32) (x2 : Int32) (x3 : Int32) (g : Nat → Nat → Nat → Int32) (N : Nat → Nat) : Option String × Int32 × (Nat → Nat → Nat → Int32) := (none, x2, g)
def kC_due_21x  (x1 : Int32) (x2 : Int32) (x3 : Int32) (g : Nat → Nat → Nat → Int32) (N : Nat → Nat) : Prop := True
def fC_due_21  (E21 : Int32 → Int32 → Int32 → (Nat → Nat → Nat → Int32) → (Nat → Nat) → (Option String × Int32 × (Nat → Nat → Nat → Int32))) : Nat → Int32 → Int32 → Int32 → (Nat → Nat → Nat → Int32) → (Nat → Nat) → (Option String × Int32 × (Nat → Nat → Nat → Int32))
  | 0, _, _, _, _, _ => (none, 0, fun _ _ _ => 0)
  | n + 1, x1, x2, x3, g, N => if (g 0 0 0) ≤ x3 then E21 x1 x2 x3 g N else if (g 5 x3.toNatClampNeg 1) = (-1) then (fC_due_21 E21 n) x1 (x2 + 1) (x3 + 1) g N else if (x1 - (g 5 x3.toNatClampNeg 1)) < (g 1 0 ((g 5 x3.toNatClampNeg 0).toNatClampNeg)) then (fC_due_21 E21 n) x1 x2 (x3 + 1) g N else (fC_due_21 E21 n) x1 (x2 + 1) (x3 + 1) g N
def kC_due_21  (KE21 : Int32 → Int32 → Int32 → (Nat → Nat → Nat → Int32) → (Nat → Nat) → Prop) : Nat → Int32 → Int32 → Int32 → (Nat → Nat → Nat → Int32) → (Nat → Nat) → Prop
  | 0, _, _, _, _, _ => False
  | n + 1, x1, x2, x3, g, N => ((g 0 0 0) ≤ x3 → KE21 x1 x2 x3 g N) ∧ (¬ ((g 0 0 0) ≤ x3) → (kC_placeNumbered x3 g N) ∧ (¬ (fC_isWithin x3 0 ((g 0 0 0) - 1)) = 0) ∧ (x3.toNatClampNeg < N 0) ∧ (((g 5 x3.toNatClampNeg 1) = (-1) → (kC_due_21 KE21 n) x1 (x2 + 1) (x3 + 1) g N) ∧ (¬ ((g 5 x3.toNatClampNeg 1) = (-1)) → (vp_in (g 5 x3.toNatClampNeg 0) 3) ∧ (((x1 - (g 5 x3.toNatClampNeg 1)) < (g 1 0 ((g 5 x3.toNatClampNeg 0).toNatClampNeg)) → (kC_due_21 KE21 n) x1 x2 (x3 + 1) g N) ∧ (¬ ((x1 - (g 5 x3.toNatClampNeg 1)) < (g 1 0 ((g 5 x3.toNatClampNeg 0).toNatClampNeg))) → (kC_due_21 KE21 n) x1 (x2 + 1) (x3 + 1) g N)))))
def fC_due (x1 : Int32) (g : Nat → Nat → Nat → Int32) (N : Nat → Nat) : Option String × Int32 × (Nat → Nat → Nat → Int32) := if (fC_isDay x1) = 0 then (some "java/lang/IllegalArgumentException", 0, g) else fC_due_21 fC_due_21x 200 x1 0 0 g N
def kC_due (x1 : Int32) (g : Nat → Nat → Nat → Int32) (N : Nat → Nat) : Prop := (kC_isDay x1) ∧ (((fC_isDay x1) = 0 → True) ∧ (¬ ((fC_isDay x1) = 0) → kC_due_21 kC_due_21x 200 x1 0 0 g N))
set_option maxHeartbeats 4000000 in
set_option maxRecDepth 100000 in
theorem cS_tell (l : Launch) (D : va_G) (tc : Nat → ClassId) (sa : Nat → Nat) (ad : Nat → Nat → Nat) (Y : va_W) (sz : Nat) (i0 : Nat) (x1 : Int32) (x2 : Int32) (x3 : Int32) (g : Nat → Nat → Nat → Int32) (N : Nat → Nat) (hj0 : i0 < N 2) {F : Int32 × (Nat → Nat → Nat → Int32)} (hok : kS_tell i0 x1 x2 x3 g N) (hF : fS_tell i0 x1 x2 x3 g N = F) : Met l y_S_tell (Cond.code y_S_tell b_S_tell 4 (some .int) :: gw) ({ frames := 0, cells := 0, slots := 0, locals := 0 } : Room) (va_Pc [.ref (ad 4 i0), .int x1, .int x2, .int x3] (pC D tc sa (cl tc g N ad ++ Y) sz)) (va_Qi (fun r u => (r, u) = F) (fun u t => qW D tc (va_A (cl tc g N ad ++ Y) sz) (cl tc u N ad ++ Y) t) (va_A (cl tc g N ad ++ Y) sz)) 0 0 (va_A (cl tc g N ad ++ Y) sz) := by
  refine en_C (by decide) (Nat.le_of_ble_eq_true rfl) ?_
  intro p e s m args below meth c ls h0 hN hX hr hlocks hin hsz hw hl
  obtain ⟨hx, hb, hml, hown, hts, hK⟩ := id h0
  have hA : ∀ q : Nat, s.heap.size ≤ q → (va_A (cl tc g N ad ++ Y) sz) q := fun q h => Or.inr (by rw [← hsz]; exact h)
  generalize va_A (cl tc g N ad ++ Y) sz = A at hw hA hX ⊢
  obtain ⟨H, eH⟩ : ∃ z, z = s.heap := ⟨_, rfl⟩
  obtain ⟨locs, eL⟩ : ∃ z : List Loc, z = [] := ⟨_, rfl⟩
  have hw : wH D A s.heap (cl tc g N ad ++ Y) H locs := by rw [eH, eL]; exact hw
  have gl : W p l e ({ frames := 0, cells := 0, slots := 0, locals := 0 } : Room) s m args below meth c H locs 0 0 (MQ below (va_Qi (fun r u => (r, u) = F) (fun u t => qW D tc A (cl tc u N ad ++ Y) t) A) args s 0 0 A) (F0 m 0 ls []) := ?_
  · rw [eH, eL] at gl; exact gl
  have hl : lv_has ls 4 [(0, .ref (ad 4 i0)), (1, .int x1), (2, .int x2), (3, .int x3)] := hl
  unfold kS_tell at hok
  unfold fS_tell at hF
  refine lv_aload_n hx hb d_S_tell_0 rfl (lv_at hl 0 rfl) ?_
  refine gSS_3 h0 hw hj0 d_S_tell_1 ?_
  refine lv_iload_n hx hb d_S_tell_4 rfl (lv_at hl 1 rfl) ?_
  obtain ⟨hi_1, hok⟩ := hok
  refine l_first h0 hw hj0 hi_1 d_S_tell_5 ?_
  refine lv_iload_n hx hb d_S_tell_6 rfl (lv_at hl 3 rfl) ?_
  refine lv_icmp_eq (tgt := 20) hx hb d_S_tell_7 (by decide) (fun c_2 => ?_) (fun c_2 => ?_)
  · have hok := hok.1 c_2
    have hF := (if_pos c_2).symm.trans hF
    refine lv_bipush (v := (-3)) hx hb d_S_tell_20 (by decide) ?_
    exact rt_i h0 hw hr hlocks rfl g hF rfl d_S_tell_22 (Nat.le_of_ble_eq_true rfl) (Nat.le_of_ble_eq_true rfl)
  · have hok := hok.2 c_2
    have hF := (if_neg c_2).symm.trans hF
    refine lv_aload_n hx hb d_S_tell_10 rfl (lv_at hl 0 rfl) ?_
    refine gSS_4 h0 hw hj0 d_S_tell_11 ?_
    refine lv_iload_n hx hb d_S_tell_14 rfl (lv_at hl 1 rfl) ?_
    obtain ⟨hi_3, hok⟩ := hok
    refine l_second h0 hw hj0 hi_3 d_S_tell_15 ?_
    refine lv_iload_n hx hb d_S_tell_16 rfl (lv_at hl 3 rfl) ?_
    refine lv_icmp_ne (tgt := 23) hx hb d_S_tell_17 (by decide) (fun c_4 => ?_) (fun c_4 => ?_)
    · have hok := hok.2 c_4
      have hF := (if_neg c_4).symm.trans hF
      refine lv_aload_n hx hb d_S_tell_23 rfl (lv_at hl 0 rfl) ?_
      refine gSS_4 h0 hw hj0 d_S_tell_24 ?_
      refine lv_iload_n hx hb d_S_tell_27 rfl (lv_at hl 1 rfl) ?_
      obtain ⟨hi_5, hok⟩ := hok
      refine l_second h0 hw hj0 hi_5 d_S_tell_28 ?_
      refine lv_iconst (v := (-1)) hx hb d_S_tell_29 (by decide) ?_
      refine lv_icmp_eq (tgt := 36) hx hb d_S_tell_30 (by decide) (fun c_6 => ?_) (fun c_6 => ?_)
      · have hok := hok.1 c_6
        have hF := (if_pos c_6).symm.trans hF
        refine lv_aload_n hx hb d_S_tell_36 rfl (lv_at hl 0 rfl) ?_
        refine gSS_3 h0 hw hj0 d_S_tell_37 ?_
        refine lv_iload_n hx hb d_S_tell_40 rfl (lv_at hl 1 rfl) ?_
        obtain ⟨hi_7, hok⟩ := hok
        refine l_first h0 hw hj0 hi_7 d_S_tell_41 ?_
        refine lv_iconst (v := (-1)) hx hb d_S_tell_42 (by decide) ?_
        refine lv_icmp_ne (tgt := 56) hx hb d_S_tell_43 (by decide) (fun c_8 => ?_) (fun c_8 => ?_)
        · have hok := hok.2 c_8
          have hF := (if_neg c_8).symm.trans hF
          refine lv_aload_n hx hb d_S_tell_56 rfl (lv_at hl 0 rfl) ?_
          refine gSS_4 h0 hw hj0 d_S_tell_57 ?_
          refine lv_iload_n hx hb d_S_tell_60 rfl (lv_at hl 1 rfl) ?_
          refine lv_iload_n hx hb d_S_tell_61 rfl (lv_at hl 3 rfl) ?_
          obtain ⟨hi_9, hok⟩ := hok
          refine s_second h0 hw hj0 hi_9 d_S_tell_62 (fun H locs hw => ?_)
          refine lv_aload_n hx hb d_S_tell_63 rfl (lv_at hl 0 rfl) ?_
          refine gSS_2 h0 hw hj0 d_S_tell_64 ?_
          refine lv_iload_n hx hb d_S_tell_67 rfl (lv_at hl 1 rfl) ?_
          refine lv_iload_n hx hb d_S_tell_68 rfl (lv_at hl 2 rfl) ?_
          obtain ⟨hi_10, hok⟩ := hok
          refine s_spieces h0 hw hj0 hi_10 d_S_tell_69 (fun H locs hw => ?_)
          refine lv_aload_n hx hb d_S_tell_70 rfl (lv_at hl 0 rfl) ?_
          refine lv_dup hx hb d_S_tell_71 rfl ?_
          refine gSS_9 h0 hw hj0 d_S_tell_72 ?_
          refine W.eq (g2 := F0 m 75 ls [.int (g 8 i0 1), .ref (ad 4 i0)]) rfl ?_
          refine lv_iconst (v := 1) hx hb d_S_tell_75 (by decide) ?_
          refine lv_iadd hx hb d_S_tell_76 ?_
          refine pSS_9 h0 hw hj0 d_S_tell_77 (fun H locs hw => ?_)
          refine lv_iconst (v := 1) hx hb d_S_tell_80 (by decide) ?_
          exact rt_i h0 hw hr hlocks rfl (u3 (u3 (u3 g 13 i0 x1.toNatClampNeg x3) 11 i0 x1.toNatClampNeg x2) 8 i0 1 ((g 8 i0 1) + 1)) hF rfl d_S_tell_81 (Nat.le_of_ble_eq_true rfl) (Nat.le_of_ble_eq_true rfl)
        · have hok := hok.1 c_8
          have hF := (if_pos c_8).symm.trans hF
          refine lv_aload_n hx hb d_S_tell_46 rfl (lv_at hl 0 rfl) ?_
          refine gSS_3 h0 hw hj0 d_S_tell_47 ?_
          refine lv_iload_n hx hb d_S_tell_50 rfl (lv_at hl 1 rfl) ?_
          refine lv_iload_n hx hb d_S_tell_51 rfl (lv_at hl 3 rfl) ?_
          obtain ⟨hi_11, hok⟩ := hok
          refine s_first h0 hw hj0 hi_11 d_S_tell_52 (fun H locs hw => ?_)
          refine lv_goto (tgt := 63) hx hb d_S_tell_53 (by decide) ?_
          refine lv_aload_n hx hb d_S_tell_63 rfl (lv_at hl 0 rfl) ?_
          refine gSS_2 h0 hw hj0 d_S_tell_64 ?_
          refine lv_iload_n hx hb d_S_tell_67 rfl (lv_at hl 1 rfl) ?_
          refine lv_iload_n hx hb d_S_tell_68 rfl (lv_at hl 2 rfl) ?_
          obtain ⟨hi_12, hok⟩ := hok
          refine s_spieces h0 hw hj0 hi_12 d_S_tell_69 (fun H locs hw => ?_)
          refine lv_aload_n hx hb d_S_tell_70 rfl (lv_at hl 0 rfl) ?_
          refine lv_dup hx hb d_S_tell_71 rfl ?_
          refine gSS_9 h0 hw hj0 d_S_tell_72 ?_
          refine W.eq (g2 := F0 m 75 ls [.int (g 8 i0 1), .ref (ad 4 i0)]) rfl ?_
          refine lv_iconst (v := 1) hx hb d_S_tell_75 (by decide) ?_
          refine lv_iadd hx hb d_S_tell_76 ?_
          refine pSS_9 h0 hw hj0 d_S_tell_77 (fun H locs hw => ?_)
          refine lv_iconst (v := 1) hx hb d_S_tell_80 (by decide) ?_
          exact rt_i h0 hw hr hlocks rfl (u3 (u3 (u3 g 12 i0 x1.toNatClampNeg x3) 11 i0 x1.toNatClampNeg x2) 8 i0 1 ((g 8 i0 1) + 1)) hF rfl d_S_tell_81 (Nat.le_of_ble_eq_true rfl) (Nat.le_of_ble_eq_true rfl)
      · have hok := hok.2 c_6
        have hF := (if_neg c_6).symm.trans hF
        refine lv_bipush (v := (-4)) hx hb d_S_tell_33 (by decide) ?_
        exact rt_i h0 hw hr hlocks rfl g hF rfl d_S_tell_35 (Nat.le_of_ble_eq_true rfl) (Nat.le_of_ble_eq_true rfl)
    · have hok := hok.1 c_4
      have hF := (if_pos c_4).symm.trans hF
      refine lv_bipush (v := (-3)) hx hb d_S_tell_20 (by decide) ?_
      exact rt_i h0 hw hr hlocks rfl g hF rfl d_S_tell_22 (Nat.le_of_ble_eq_true rfl) (Nat.le_of_ble_eq_true rfl)
set_option maxHeartbeats 4000000 in
set_option maxRecDepth 100000 in
theorem cS_addDifference (l : Launch) (D : va_G) (tc : Nat → ClassId) (sa : Nat → Nat) (ad : Nat → Nat → Nat) (Y : va_W) (sz : Nat) (i0 : Nat) (x1 : Int32) (g : Nat → Nat → Nat → Int32) (N : Nat → Nat) (hj0 : i0 < N 2) {F : Nat → Nat → Nat → Int32} (hok : kS_addDifference i0 x1 g N) (hF : fS_addDifference i0 x1 g N = F) : Met l y_S_addDifference (Cond.code y_S_addDifference b_S_addDifference 2 none :: gw) ({ frames := 0, cells := 0, slots := 0, locals := 0 } : Room) (va_Pc [.ref (ad 4 i0), .int x1] (pC D tc sa (cl tc g N ad ++ Y) sz)) (va_Qv (fun u => u = F) (fun u t => qW D tc (va_A (cl tc g N ad ++ Y) sz) (cl tc u N ad ++ Y) t) (va_A (cl tc g N ad ++ Y) sz)) 0 0 (va_A (cl tc g N ad ++ Y) sz) := by
  refine en_C (by decide) (Nat.le_of_ble_eq_true rfl) ?_
  intro p e s m args below meth c ls h0 hN hX hr hlocks hin hsz hw hl
  obtain ⟨hx, hb, hml, hown, hts, hK⟩ := id h0
  have hA : ∀ q : Nat, s.heap.size ≤ q → (va_A (cl tc g N ad ++ Y) sz) q := fun q h => Or.inr (by rw [← hsz]; exact h)
  generalize va_A (cl tc g N ad ++ Y) sz = A at hw hA hX ⊢
  obtain ⟨H, eH⟩ : ∃ z, z = s.heap := ⟨_, rfl⟩
  obtain ⟨locs, eL⟩ : ∃ z : List Loc, z = [] := ⟨_, rfl⟩
  have hw : wH D A s.heap (cl tc g N ad ++ Y) H locs := by rw [eH, eL]; exact hw
  have gl : W p l e ({ frames := 0, cells := 0, slots := 0, locals := 0 } : Room) s m args below meth c H locs 0 0 (MQ below (va_Qv (fun u => u = F) (fun u t => qW D tc A (cl tc u N ad ++ Y) t) A) args s 0 0 A) (F0 m 0 ls []) := ?_
  · rw [eH, eL] at gl; exact gl
  have hl : lv_has ls 2 [(0, .ref (ad 4 i0)), (1, .int x1)] := hl
  unfold kS_addDifference at hok
  unfold fS_addDifference at hF
  refine lv_aload_n hx hb d_S_addDifference_0 rfl (lv_at hl 0 rfl) ?_
  refine gSS_8 h0 hw hj0 d_S_addDifference_1 ?_
  refine lv_aload_n hx hb d_S_addDifference_4 rfl (lv_at hl 0 rfl) ?_
  refine gSS_7 h0 hw hj0 d_S_addDifference_5 ?_
  refine n_differing h0 hw hj0 d_S_addDifference_8 ?_
  refine lv_icmp_ge (tgt := 32) hx hb d_S_addDifference_9 (by decide) (fun c_1 => ?_) (fun c_1 => ?_)
  · have hok := hok.1 c_1
    have hF := (if_pos c_1).symm.trans hF
    exact rt_v h0 hw hr hlocks g hF rfl d_S_addDifference_32 (Nat.le_of_ble_eq_true rfl) (Nat.le_of_ble_eq_true rfl)
  · have hok := hok.2 c_1
    have hF := (if_neg c_1).symm.trans hF
    refine lv_aload_n hx hb d_S_addDifference_12 rfl (lv_at hl 0 rfl) ?_
    refine gSS_7 h0 hw hj0 d_S_addDifference_13 ?_
    refine lv_aload_n hx hb d_S_addDifference_16 rfl (lv_at hl 0 rfl) ?_
    refine gSS_8 h0 hw hj0 d_S_addDifference_17 ?_
    refine lv_iload_n hx hb d_S_addDifference_20 rfl (lv_at hl 1 rfl) ?_
    obtain ⟨hi_2, hok⟩ := hok
    refine s_differing h0 hw hj0 hi_2 d_S_addDifference_21 (fun H locs hw => ?_)
    refine lv_aload_n hx hb d_S_addDifference_22 rfl (lv_at hl 0 rfl) ?_
    refine lv_dup hx hb d_S_addDifference_23 rfl ?_
    refine gSS_8 h0 hw hj0 d_S_addDifference_24 ?_
    refine W.eq (g2 := F0 m 27 ls [.int (g 8 i0 0), .ref (ad 4 i0)]) rfl ?_
    refine lv_iconst (v := 1) hx hb d_S_addDifference_27 (by decide) ?_
    refine lv_iadd hx hb d_S_addDifference_28 ?_
    refine pSS_8 h0 hw hj0 d_S_addDifference_29 (fun H locs hw => ?_)
    exact rt_v h0 hw hr hlocks (u3 (u3 g 16 i0 ((g 8 i0 0).toNatClampNeg) x1) 8 i0 0 ((g 8 i0 0) + 1)) hF rfl d_S_addDifference_32 (Nat.le_of_ble_eq_true rfl) (Nat.le_of_ble_eq_true rfl)
set_option maxHeartbeats 4000000 in
set_option maxRecDepth 100000 in
theorem cC_placeNumbered (l : Launch) (D : va_G) (tc : Nat → ClassId) (sa : Nat → Nat) (ad : Nat → Nat → Nat) (Y : va_W) (sz : Nat) (x1 : Int32) (g : Nat → Nat → Nat → Int32) (N : Nat → Nat) {F : Nat} (hok : kC_placeNumbered x1 g N) (hF : fC_placeNumbered x1 g N = F) : Met l y_C_placeNumbered (Cond.code y_C_placeNumbered b_C_placeNumbered 3 (some (.object "CountRounds$Place")) :: gw) ({ frames := 1, cells := 0, slots := 0, locals := 22 } : Room) (va_Pc [.ref (ad 0 0), .int x1] (pC D tc sa (cl tc g N ad ++ Y) sz)) (qP (.ref (ad 1 F))) 0 0 (fun _ => False) := by
  refine en_C (by decide) (Nat.le_of_ble_eq_true rfl) ?_
  intro p e s m args below meth c ls h0 hN hX hr hlocks hin hsz hw hl
  obtain ⟨hx, hb, hml, hown, hts, hK⟩ := id h0
  have hA : ∀ q : Nat, s.heap.size ≤ q → (va_A (cl tc g N ad ++ Y) sz) q := fun q h => Or.inr (by rw [← hsz]; exact h)
  generalize va_A (cl tc g N ad ++ Y) sz = A at hw hA hX
  have hl : lv_has ls 3 [(0, .ref (ad 0 0)), (1, .int x1)] := hl
  unfold kC_placeNumbered at hok
  unfold fC_placeNumbered at hF
  refine lv_iload_n hx hb d_C_placeNumbered_0 rfl (lv_at hl 1 rfl) ?_
  refine lv_iconst (v := 0) hx hb d_C_placeNumbered_1 (by decide) ?_
  refine lv_aload_n hx hb d_C_placeNumbered_2 rfl (lv_at hl 0 rfl) ?_
  refine gCC_7 h0 hw d_C_placeNumbered_3 ?_
  refine lv_iconst (v := 1) hx hb d_C_placeNumbered_6 (by decide) ?_
  refine lv_isub hx hb d_C_placeNumbered_7 ?_
  obtain ⟨hi_1, hok⟩ := hok
  refine cs_p (n := 3) (As := [.int x1, .int 0, .int ((g 0 0 0) - 1)]) (rest := []) hx hb hml hown hts (cC_isWithin l x1 0 ((g 0 0 0) - 1) hi_1 rfl) (gd_S wd_90 wd_91 wd_1 wd_92) (by decide +kernel) ⟨rfl, rfl, (Nat.le_of_ble_eq_true rfl), (Nat.le_of_ble_eq_true rfl), (Nat.le_of_ble_eq_true rfl), (Nat.le_of_ble_eq_true rfl)⟩ rfl hl.1 rfl (Nat.le_of_ble_eq_true rfl) d_C_placeNumbered_8 ?_
  refine lv_if_eq (tgt := 23) hx hb d_C_placeNumbered_11 (by decide) (fun c_2 => ?_) (fun c_2 => ?_)
  · have hok := hok.1 c_2
    have hF := (if_pos c_2).symm.trans hF
    refine lv_null hx hb d_C_placeNumbered_23 ?_
    refine lv_astore_nN (lv' := [(2, .null), (0, .ref (ad 0 0)), (1, .int x1)]) hx hb d_C_placeNumbered_24 rfl hl (by decide) rfl (fun ls hl => ?_)
    refine lv_aload_nN hx hb d_C_placeNumbered_25 rfl (lv_at hl 0 rfl) ?_
    refine lv_ifnonnullN hx hb d_C_placeNumbered_26 ?_
    exact hok.elim
  · have hok := hok.2 c_2
    have hF := (if_neg c_2).symm.trans hF
    refine lv_aload_n hx hb d_C_placeNumbered_14 rfl (lv_at hl 0 rfl) ?_
    refine gCC_0 h0 hw d_C_placeNumbered_15 ?_
    refine lv_iload_n hx hb d_C_placeNumbered_18 rfl (lv_at hl 1 rfl) ?_
    obtain ⟨hi_3, hi_4, hok⟩ := hok
    refine l_places h0 hw hi_3 hi_4 d_C_placeNumbered_19 ?_
    refine lv_goto (tgt := 24) hx hb d_C_placeNumbered_20 (by decide) ?_
    refine lv_astore_n (lv' := [(2, .ref (ad 1 x1.toNatClampNeg)), (0, .ref (ad 0 0)), (1, .int x1)]) hx hb d_C_placeNumbered_24 rfl hl (by decide) rfl (fun ls hl => ?_)
    refine lv_aload_n hx hb d_C_placeNumbered_25 rfl (lv_at hl 0 rfl) ?_
    refine lv_ifnonnull (tgt := 40) hx hb d_C_placeNumbered_26 (by decide) ?_
    refine lv_aload_n hx hb d_C_placeNumbered_40 rfl (lv_at hl 0 rfl) ?_
    exact rt_r hx hb hr hlocks (Or.inl ⟨_, rfl⟩) (by rw [← hF]) d_C_placeNumbered_41 (Nat.le_refl 0) (Nat.le_refl 0)
set_option maxHeartbeats 4000000 in
set_option maxRecDepth 100000 in
theorem cC_transferNumbered (l : Launch) (D : va_G) (tc : Nat → ClassId) (sa : Nat → Nat) (ad : Nat → Nat → Nat) (Y : va_W) (sz : Nat) (x1 : Int32) (g : Nat → Nat → Nat → Int32) (N : Nat → Nat) {F : Nat} (hok : kC_transferNumbered x1 g N) (hF : fC_transferNumbered x1 g N = F) : Met l y_C_transferNumbered (Cond.code y_C_transferNumbered b_C_transferNumbered 3 (some (.object "CountRounds$Transfer")) :: gw) ({ frames := 1, cells := 0, slots := 0, locals := 22 } : Room) (va_Pc [.ref (ad 0 0), .int x1] (pC D tc sa (cl tc g N ad ++ Y) sz)) (qP (.ref (ad 3 F))) 0 0 (fun _ => False) := by
  refine en_C (by decide) (Nat.le_of_ble_eq_true rfl) ?_
  intro p e s m args below meth c ls h0 hN hX hr hlocks hin hsz hw hl
  obtain ⟨hx, hb, hml, hown, hts, hK⟩ := id h0
  have hA : ∀ q : Nat, s.heap.size ≤ q → (va_A (cl tc g N ad ++ Y) sz) q := fun q h => Or.inr (by rw [← hsz]; exact h)
  generalize va_A (cl tc g N ad ++ Y) sz = A at hw hA hX
  have hl : lv_has ls 3 [(0, .ref (ad 0 0)), (1, .int x1)] := hl
  unfold kC_transferNumbered at hok
  unfold fC_transferNumbered at hF
  refine lv_iload_n hx hb d_C_transferNumbered_0 rfl (lv_at hl 1 rfl) ?_
  refine lv_iconst (v := 1) hx hb d_C_transferNumbered_1 (by decide) ?_
  refine lv_aload_n hx hb d_C_transferNumbered_2 rfl (lv_at hl 0 rfl) ?_
  refine gCC_8 h0 hw d_C_transferNumbered_3 ?_
  obtain ⟨hi_1, hok⟩ := hok
  refine cs_p (n := 3) (As := [.int x1, .int 1, .int (g 0 0 1)]) (rest := []) hx hb hml hown hts (cC_isWithin l x1 1 (g 0 0 1) hi_1 rfl) (gd_S wd_90 wd_91 wd_1 wd_92) (by decide +kernel) ⟨rfl, rfl, (Nat.le_of_ble_eq_true rfl), (Nat.le_of_ble_eq_true rfl), (Nat.le_of_ble_eq_true rfl), (Nat.le_of_ble_eq_true rfl)⟩ rfl hl.1 rfl (Nat.le_of_ble_eq_true rfl) d_C_transferNumbered_6 ?_
  refine lv_if_eq (tgt := 23) hx hb d_C_transferNumbered_9 (by decide) (fun c_2 => ?_) (fun c_2 => ?_)
  · have hok := hok.1 c_2
    have hF := (if_pos c_2).symm.trans hF
    refine lv_null hx hb d_C_transferNumbered_23 ?_
    refine lv_astore_nN (lv' := [(2, .null), (0, .ref (ad 0 0)), (1, .int x1)]) hx hb d_C_transferNumbered_24 rfl hl (by decide) rfl (fun ls hl => ?_)
    refine lv_aload_nN hx hb d_C_transferNumbered_25 rfl (lv_at hl 0 rfl) ?_
    refine lv_ifnonnullN hx hb d_C_transferNumbered_26 ?_
    exact hok.elim
  · have hok := hok.2 c_2
    have hF := (if_neg c_2).symm.trans hF
    refine lv_aload_n hx hb d_C_transferNumbered_12 rfl (lv_at hl 0 rfl) ?_
    refine gCC_1 h0 hw d_C_transferNumbered_13 ?_
    refine lv_iload_n hx hb d_C_transferNumbered_16 rfl (lv_at hl 1 rfl) ?_
    refine lv_iconst (v := 1) hx hb d_C_transferNumbered_17 (by decide) ?_
    refine lv_isub hx hb d_C_transferNumbered_18 ?_
    obtain ⟨hi_3, hi_4, hok⟩ := hok
    refine l_transfers h0 hw hi_3 hi_4 d_C_transferNumbered_19 ?_
    refine lv_goto (tgt := 24) hx hb d_C_transferNumbered_20 (by decide) ?_
    refine lv_astore_n (lv' := [(2, .ref (ad 3 ((x1 - 1).toNatClampNeg))), (0, .ref (ad 0 0)), (1, .int x1)]) hx hb d_C_transferNumbered_24 rfl hl (by decide) rfl (fun ls hl => ?_)
    refine lv_aload_n hx hb d_C_transferNumbered_25 rfl (lv_at hl 0 rfl) ?_
    refine lv_ifnonnull (tgt := 40) hx hb d_C_transferNumbered_26 (by decide) ?_
    refine lv_aload_n hx hb d_C_transferNumbered_40 rfl (lv_at hl 0 rfl) ?_
    exact rt_r hx hb hr hlocks (Or.inl ⟨_, rfl⟩) (by rw [← hF]) d_C_transferNumbered_41 (Nat.le_refl 0) (Nat.le_refl 0)
set_option maxHeartbeats 4000000 in
set_option maxRecDepth 100000 in
theorem cC_sheetNumbered (l : Launch) (D : va_G) (tc : Nat → ClassId) (sa : Nat → Nat) (ad : Nat → Nat → Nat) (Y : va_W) (sz : Nat) (x1 : Int32) (g : Nat → Nat → Nat → Int32) (N : Nat → Nat) {F : Nat} (hok : kC_sheetNumbered x1 g N) (hF : fC_sheetNumbered x1 g N = F) : Met l y_C_sheetNumbered (Cond.code y_C_sheetNumbered b_C_sheetNumbered 3 (some (.object "CountRounds$Sheet")) :: gw) ({ frames := 1, cells := 0, slots := 0, locals := 22 } : Room) (va_Pc [.ref (ad 0 0), .int x1] (pC D tc sa (cl tc g N ad ++ Y) sz)) (qP (.ref (ad 4 F))) 0 0 (fun _ => False) := by
  refine en_C (by decide) (Nat.le_of_ble_eq_true rfl) ?_
  intro p e s m args below meth c ls h0 hN hX hr hlocks hin hsz hw hl
  obtain ⟨hx, hb, hml, hown, hts, hK⟩ := id h0
  have hA : ∀ q : Nat, s.heap.size ≤ q → (va_A (cl tc g N ad ++ Y) sz) q := fun q h => Or.inr (by rw [← hsz]; exact h)
  generalize va_A (cl tc g N ad ++ Y) sz = A at hw hA hX
  have hl : lv_has ls 3 [(0, .ref (ad 0 0)), (1, .int x1)] := hl
  unfold kC_sheetNumbered at hok
  unfold fC_sheetNumbered at hF
  refine lv_iload_n hx hb d_C_sheetNumbered_0 rfl (lv_at hl 1 rfl) ?_
  refine lv_iconst (v := 1) hx hb d_C_sheetNumbered_1 (by decide) ?_
  refine lv_aload_n hx hb d_C_sheetNumbered_2 rfl (lv_at hl 0 rfl) ?_
  refine gCC_9 h0 hw d_C_sheetNumbered_3 ?_
  obtain ⟨hi_1, hok⟩ := hok
  refine cs_p (n := 3) (As := [.int x1, .int 1, .int (g 0 0 2)]) (rest := []) hx hb hml hown hts (cC_isWithin l x1 1 (g 0 0 2) hi_1 rfl) (gd_S wd_90 wd_91 wd_1 wd_92) (by decide +kernel) ⟨rfl, rfl, (Nat.le_of_ble_eq_true rfl), (Nat.le_of_ble_eq_true rfl), (Nat.le_of_ble_eq_true rfl), (Nat.le_of_ble_eq_true rfl)⟩ rfl hl.1 rfl (Nat.le_of_ble_eq_true rfl) d_C_sheetNumbered_6 ?_
  refine lv_if_eq (tgt := 23) hx hb d_C_sheetNumbered_9 (by decide) (fun c_2 => ?_) (fun c_2 => ?_)
  · have hok := hok.1 c_2
    have hF := (if_pos c_2).symm.trans hF
    refine lv_null hx hb d_C_sheetNumbered_23 ?_
    refine lv_astore_nN (lv' := [(2, .null), (0, .ref (ad 0 0)), (1, .int x1)]) hx hb d_C_sheetNumbered_24 rfl hl (by decide) rfl (fun ls hl => ?_)
    refine lv_aload_nN hx hb d_C_sheetNumbered_25 rfl (lv_at hl 0 rfl) ?_
    refine lv_ifnonnullN hx hb d_C_sheetNumbered_26 ?_
    exact hok.elim
  · have hok := hok.2 c_2
    have hF := (if_neg c_2).symm.trans hF
    refine lv_aload_n hx hb d_C_sheetNumbered_12 rfl (lv_at hl 0 rfl) ?_
    refine gCC_2 h0 hw d_C_sheetNumbered_13 ?_
    refine lv_iload_n hx hb d_C_sheetNumbered_16 rfl (lv_at hl 1 rfl) ?_
    refine lv_iconst (v := 1) hx hb d_C_sheetNumbered_17 (by decide) ?_
    refine lv_isub hx hb d_C_sheetNumbered_18 ?_
    obtain ⟨hi_3, hi_4, hok⟩ := hok
    refine l_sheets h0 hw hi_3 hi_4 d_C_sheetNumbered_19 ?_
    refine lv_goto (tgt := 24) hx hb d_C_sheetNumbered_20 (by decide) ?_
    refine lv_astore_n (lv' := [(2, .ref (ad 4 ((x1 - 1).toNatClampNeg))), (0, .ref (ad 0 0)), (1, .int x1)]) hx hb d_C_sheetNumbered_24 rfl hl (by decide) rfl (fun ls hl => ?_)
    refine lv_aload_n hx hb d_C_sheetNumbered_25 rfl (lv_at hl 0 rfl) ?_
    refine lv_ifnonnull (tgt := 40) hx hb d_C_sheetNumbered_26 (by decide) ?_
    refine lv_aload_n hx hb d_C_sheetNumbered_40 rfl (lv_at hl 0 rfl) ?_
    exact rt_r hx hb hr hlocks (Or.inl ⟨_, rfl⟩) (by rw [← hF]) d_C_sheetNumbered_41 (Nat.le_refl 0) (Nat.le_refl 0)
set_option maxHeartbeats 4000000 in
set_option maxRecDepth 100000 in
theorem cC_openMoves (l : Launch) (D : va_G) (tc : Nat → ClassId) (sa : Nat → Nat) (ad : Nat → Nat → Nat) (Y : va_W) (sz : Nat) (g : Nat → Nat → Nat → Int32) (N : Nat → Nat) {F : Int32} (hok : kC_openMoves  g N) (hF : fC_openMoves  g N = F) : Met l y_C_openMoves (Cond.code y_C_openMoves b_C_openMoves 3 (some .int) :: gw) ({ frames := 2, cells := 0, slots := 0, locals := 44 } : Room) (va_Pc [.ref (ad 0 0)] (pC D tc sa (cl tc g N ad ++ Y) sz)) (qP (.int F)) 0 0 (fun _ => False) := by
  refine en_C (by decide) (Nat.le_of_ble_eq_true rfl) ?_
  intro p e s m args below meth c ls h0 hN hX hr hlocks hin hsz hw hl
  obtain ⟨hx, hb, hml, hown, hts, hK⟩ := id h0
  have hA : ∀ q : Nat, s.heap.size ≤ q → (va_A (cl tc g N ad ++ Y) sz) q := fun q h => Or.inr (by rw [← hsz]; exact h)
  generalize va_A (cl tc g N ad ++ Y) sz = A at hw hA hX
  have hl : lv_has ls 3 [(0, .ref (ad 0 0))] := hl
  unfold kC_openMoves at hok
  unfold fC_openMoves at hF
  refine lv_iconst (v := 0) hx hb d_C_openMoves_0 (by decide) ?_
  refine lv_istore_n (lv' := [(1, .int 0), (0, .ref (ad 0 0))]) hx hb d_C_openMoves_1 rfl hl (by decide) rfl (fun ls hl => ?_)
  refine lv_iconst (v := 1) hx hb d_C_openMoves_2 (by decide) ?_
  refine lv_istore_n (lv' := [(2, .int 1), (1, .int 0), (0, .ref (ad 0 0))]) hx hb d_C_openMoves_3 rfl hl (by decide) rfl (fun ls hl => ?_)
  have hx_4 : ∀ (x1 : Int32) (x2 : Int32) (ls : Array Slot), lv_has ls 3 [(0, .ref (ad 0 0)), (1, .int x1), (2, .int x2)] → kC_openMoves_4x x1 x2 g N → fC_openMoves_4x x1 x2 g N = F → W p l e ({ frames := 2, cells := 0, slots := 0, locals := 44 } : Room) s m args below meth c s.heap [] 0 0 (MQ below (qP (.int F)) args s 0 0 (fun _ => False)) (F0 m 32 ls []) := by
    intro x1 x2 ls hl hok hF
    unfold kC_openMoves_4x at hok
    unfold fC_openMoves_4x at hF
    refine lv_iload_n hx hb d_C_openMoves_32 rfl (lv_at hl 1 rfl) ?_
    exact rt_p hx hb hr hlocks rfl (by rw [← hF]) d_C_openMoves_33 (Nat.le_refl 0) (Nat.le_refl 0)
  have lp_4 : ∀ (n4 : Nat) (x1 : Int32) (x2 : Int32) (ls : Array Slot), lv_has ls 3 [(0, .ref (ad 0 0)), (1, .int x1), (2, .int x2)] → kC_openMoves_4 kC_openMoves_4x n4 x1 x2 g N → fC_openMoves_4 fC_openMoves_4x n4 x1 x2 g N = F → W p l e ({ frames := 2, cells := 0, slots := 0, locals := 44 } : Room) s m args below meth c s.heap [] 0 0 (MQ below (qP (.int F)) args s 0 0 (fun _ => False)) (F0 m 4 ls []) := by
    intro n4
    induction n4 with
    | zero =>
      intro x1 x2 ls hl hok hF
      unfold kC_openMoves_4 at hok
      exact hok.elim
    | succ n4 ih_4 =>
      intro x1 x2 ls hl hok hF
      unfold kC_openMoves_4 at hok
      unfold fC_openMoves_4 at hF
      refine lv_iload_n hx hb d_C_openMoves_4 rfl (lv_at hl 2 rfl) ?_
      refine lv_aload_n hx hb d_C_openMoves_5 rfl (lv_at hl 0 rfl) ?_
      refine gCC_8 h0 hw d_C_openMoves_6 ?_
      refine lv_icmp_gt (tgt := 32) hx hb d_C_openMoves_9 (by decide) (fun c_1 => ?_) (fun c_1 => ?_)
      · have hok := hok.1 c_1
        have hF := (if_pos c_1).symm.trans hF
        exact hx_4 x1 x2 ls (lv_sub hl [0, 1, 2] rfl) hok hF
      · have hok := hok.2 c_1
        have hF := (if_neg c_1).symm.trans hF
        refine lv_aload_n hx hb d_C_openMoves_12 rfl (lv_at hl 0 rfl) ?_
        refine lv_iload_n hx hb d_C_openMoves_13 rfl (lv_at hl 2 rfl) ?_
        obtain ⟨hi_2, hi_3, hi_4, hok⟩ := hok
        refine dv_p (n := 1) (C := "CountRounds") (b := ad 0 0) (q0 := bw_o (cb tc g N ad) 0 + 0) (ci := 3) (As := [.int x2]) (rest := []) h0 hX hw hA (cC_transferNumbered l D tc sa ad Y s.heap.size x2 g N hi_2 (if_neg hi_3)) (gd_V wd_86 wd_88 (gw_s 1 rfl rfl) wd_1 wd_89) (by decide +kernel) ⟨rfl, rfl, (Nat.le_of_ble_eq_true rfl), (Nat.le_of_ble_eq_true rfl), (Nat.le_of_ble_eq_true rfl), (Nat.le_of_ble_eq_true rfl)⟩ (bw_get (bs := cb tc g N ad) (j := 0) rfl Nat.one_pos Y) rfl rfl hl.1 rfl (Nat.le_of_ble_eq_true rfl) d_C_openMoves_14 ?_
        refine gCT_4 h0 hN hw hi_4 d_C_openMoves_17 ?_
        refine lv_if_eq (tgt := 26) hx hb d_C_openMoves_20 (by decide) (fun c_5 => ?_) (fun c_5 => ?_)
        · have hok := hok.1 c_5
          have hF := (if_pos c_5).symm.trans hF
          refine lv_iinc (v := x2 + 1) (lv' := [(2, .int (x2 + 1)), (0, .ref (ad 0 0)), (1, .int x1)]) hx hb d_C_openMoves_26 hl (k := 2) rfl rfl (by decide) rfl (fun ls hl => ?_)
          refine lv_goto (tgt := 4) hx hb d_C_openMoves_29 (by decide) ?_
          exact ih_4 x1 (x2 + 1) ls (lv_sub hl [1, 2, 0] rfl) hok hF
        · have hok := hok.2 c_5
          have hF := (if_neg c_5).symm.trans hF
          refine lv_iinc (v := x1 + 1) (lv' := [(1, .int (x1 + 1)), (0, .ref (ad 0 0)), (2, .int x2)]) hx hb d_C_openMoves_23 hl (k := 1) rfl rfl (by decide) rfl (fun ls hl => ?_)
          refine lv_iinc (v := x2 + 1) (lv' := [(2, .int (x2 + 1)), (1, .int (x1 + 1)), (0, .ref (ad 0 0))]) hx hb d_C_openMoves_26 hl (k := 2) rfl rfl (by decide) rfl (fun ls hl => ?_)
          refine lv_goto (tgt := 4) hx hb d_C_openMoves_29 (by decide) ?_
          exact ih_4 (x1 + 1) (x2 + 1) ls (lv_sub hl [2, 1, 0] rfl) hok hF
  exact lp_4 200 0 1 ls (lv_sub hl [2, 1, 0] rfl) hok hF
set_option maxHeartbeats 4000000 in
set_option maxRecDepth 100000 in
theorem cC_openMovesAt (l : Launch) (D : va_G) (tc : Nat → ClassId) (sa : Nat → Nat) (ad : Nat → Nat → Nat) (Y : va_W) (sz : Nat) (x1 : Int32) (g : Nat → Nat → Nat → Int32) (N : Nat → Nat) {F : Int32} (hok : kC_openMovesAt x1 g N) (hF : fC_openMovesAt x1 g N = F) : Met l y_C_openMovesAt (Cond.code y_C_openMovesAt b_C_openMovesAt 5 (some .int) :: gw) ({ frames := 2, cells := 0, slots := 0, locals := 44 } : Room) (va_Pc [.ref (ad 0 0), .int x1] (pC D tc sa (cl tc g N ad ++ Y) sz)) (qP (.int F)) 0 0 (fun _ => False) := by
  refine en_C (by decide) (Nat.le_of_ble_eq_true rfl) ?_
  intro p e s m args below meth c ls h0 hN hX hr hlocks hin hsz hw hl
  obtain ⟨hx, hb, hml, hown, hts, hK⟩ := id h0
  have hA : ∀ q : Nat, s.heap.size ≤ q → (va_A (cl tc g N ad ++ Y) sz) q := fun q h => Or.inr (by rw [← hsz]; exact h)
  generalize va_A (cl tc g N ad ++ Y) sz = A at hw hA hX
  have hl : lv_has ls 5 [(0, .ref (ad 0 0)), (1, .int x1)] := hl
  unfold kC_openMovesAt at hok
  unfold fC_openMovesAt at hF
  refine lv_iconst (v := 0) hx hb d_C_openMovesAt_0 (by decide) ?_
  refine lv_istore_n (lv' := [(2, .int 0), (0, .ref (ad 0 0)), (1, .int x1)]) hx hb d_C_openMovesAt_1 rfl hl (by decide) rfl (fun ls hl => ?_)
  refine lv_iconst (v := 1) hx hb d_C_openMovesAt_2 (by decide) ?_
  refine lv_istore_n (lv' := [(3, .int 1), (2, .int 0), (0, .ref (ad 0 0)), (1, .int x1)]) hx hb d_C_openMovesAt_3 rfl hl (by decide) rfl (fun ls hl => ?_)
  have hx_4 : ∀ (x1 : Int32) (x2 : Int32) (x3 : Int32) (ls : Array Slot), lv_has ls 5 [(0, .ref (ad 0 0)), (1, .int x1), (2, .int x2), (3, .int x3)] → kC_openMovesAt_4x x1 x2 x3 g N → fC_openMovesAt_4x x1 x2 x3 g N = F → W p l e ({ frames := 2, cells := 0, slots := 0, locals := 44 } : Room) s m args below meth c s.heap [] 0 0 (MQ below (qP (.int F)) args s 0 0 (fun _ => False)) (F0 m 54 ls []) := by
    intro x1 x2 x3 ls hl hok hF
    unfold kC_openMovesAt_4x at hok
    unfold fC_openMovesAt_4x at hF
    refine lv_iload_n hx hb d_C_openMovesAt_54 rfl (lv_at hl 2 rfl) ?_
    exact rt_p hx hb hr hlocks rfl (by rw [← hF]) d_C_openMovesAt_55 (Nat.le_refl 0) (Nat.le_refl 0)
  have lp_4 : ∀ (n4 : Nat) (x1 : Int32) (x2 : Int32) (x3 : Int32) (ls : Array Slot), lv_has ls 5 [(0, .ref (ad 0 0)), (1, .int x1), (2, .int x2), (3, .int x3)] → kC_openMovesAt_4 kC_openMovesAt_4x n4 x1 x2 x3 g N → fC_openMovesAt_4 fC_openMovesAt_4x n4 x1 x2 x3 g N = F → W p l e ({ frames := 2, cells := 0, slots := 0, locals := 44 } : Room) s m args below meth c s.heap [] 0 0 (MQ below (qP (.int F)) args s 0 0 (fun _ => False)) (F0 m 4 ls []) := by
    intro n4
    induction n4 with
    | zero =>
      intro x1 x2 x3 ls hl hok hF
      unfold kC_openMovesAt_4 at hok
      exact hok.elim
    | succ n4 ih_4 =>
      intro x1 x2 x3 ls hl hok hF
      unfold kC_openMovesAt_4 at hok
      unfold fC_openMovesAt_4 at hF
      refine lv_iload_n hx hb d_C_openMovesAt_4 rfl (lv_at hl 3 rfl) ?_
      refine lv_aload_n hx hb d_C_openMovesAt_5 rfl (lv_at hl 0 rfl) ?_
      refine gCC_8 h0 hw d_C_openMovesAt_6 ?_
      refine lv_icmp_gt (tgt := 54) hx hb d_C_openMovesAt_9 (by decide) (fun c_1 => ?_) (fun c_1 => ?_)
      · have hok := hok.1 c_1
        have hF := (if_pos c_1).symm.trans hF
        exact hx_4 x1 x2 x3 ls (lv_sub hl [0, 1, 2, 3] rfl) hok hF
      · have hok := hok.2 c_1
        have hF := (if_neg c_1).symm.trans hF
        refine lv_aload_n hx hb d_C_openMovesAt_12 rfl (lv_at hl 0 rfl) ?_
        refine lv_iload_n hx hb d_C_openMovesAt_13 rfl (lv_at hl 3 rfl) ?_
        obtain ⟨hi_2, hi_3, hi_4, hok⟩ := hok
        refine dv_p (n := 1) (C := "CountRounds") (b := ad 0 0) (q0 := bw_o (cb tc g N ad) 0 + 0) (ci := 3) (As := [.int x3]) (rest := []) h0 hX hw hA (cC_transferNumbered l D tc sa ad Y s.heap.size x3 g N hi_2 (if_neg hi_3)) (gd_V wd_86 wd_88 (gw_s 1 rfl rfl) wd_1 wd_89) (by decide +kernel) ⟨rfl, rfl, (Nat.le_of_ble_eq_true rfl), (Nat.le_of_ble_eq_true rfl), (Nat.le_of_ble_eq_true rfl), (Nat.le_of_ble_eq_true rfl)⟩ (bw_get (bs := cb tc g N ad) (j := 0) rfl Nat.one_pos Y) rfl rfl hl.1 rfl (Nat.le_of_ble_eq_true rfl) d_C_openMovesAt_14 ?_
        refine lv_astore (lv' := [(4, .ref (ad 3 ((x3 - 1).toNatClampNeg))), (0, .ref (ad 0 0)), (1, .int x1), (2, .int x2), (3, .int x3)]) hx hb d_C_openMovesAt_17 hl (by decide) rfl (fun ls hl => ?_)
        refine lv_aload hx hb d_C_openMovesAt_19 (lv_at hl 0 rfl) ?_
        refine gCT_4 h0 hN hw hi_4 d_C_openMovesAt_21 ?_
        refine lv_if_eq (tgt := 48) hx hb d_C_openMovesAt_24 (by decide) (fun c_5 => ?_) (fun c_5 => ?_)
        · have hok := hok.1 c_5
          have hF := (if_pos c_5).symm.trans hF
          refine lv_iinc (v := x3 + 1) (lv' := [(3, .int (x3 + 1)), (4, .ref (ad 3 ((x3 - 1).toNatClampNeg))), (0, .ref (ad 0 0)), (1, .int x1), (2, .int x2)]) hx hb d_C_openMovesAt_48 hl (k := 4) rfl rfl (by decide) rfl (fun ls hl => ?_)
          refine lv_goto (tgt := 4) hx hb d_C_openMovesAt_51 (by decide) ?_
          exact ih_4 x1 x2 (x3 + 1) ls (lv_sub hl [2, 3, 4, 0] rfl) hok hF
        · have hok := hok.2 c_5
          have hF := (if_neg c_5).symm.trans hF
          refine lv_aload hx hb d_C_openMovesAt_27 (lv_at hl 0 rfl) ?_
          refine gCT_0 h0 hN hw hi_4 d_C_openMovesAt_29 ?_
          refine lv_iload_n hx hb d_C_openMovesAt_32 rfl (lv_at hl 2 rfl) ?_
          refine lv_icmp_eq (tgt := 45) hx hb d_C_openMovesAt_33 (by decide) (fun c_6 => ?_) (fun c_6 => ?_)
          · have hok := hok.1 c_6
            have hF := (if_pos c_6).symm.trans hF
            refine lv_iinc (v := x2 + 1) (lv' := [(2, .int (x2 + 1)), (4, .ref (ad 3 ((x3 - 1).toNatClampNeg))), (0, .ref (ad 0 0)), (1, .int x1), (3, .int x3)]) hx hb d_C_openMovesAt_45 hl (k := 3) rfl rfl (by decide) rfl (fun ls hl => ?_)
            refine lv_iinc (v := x3 + 1) (lv' := [(3, .int (x3 + 1)), (2, .int (x2 + 1)), (4, .ref (ad 3 ((x3 - 1).toNatClampNeg))), (0, .ref (ad 0 0)), (1, .int x1)]) hx hb d_C_openMovesAt_48 hl (k := 4) rfl rfl (by decide) rfl (fun ls hl => ?_)
            refine lv_goto (tgt := 4) hx hb d_C_openMovesAt_51 (by decide) ?_
            exact ih_4 x1 (x2 + 1) (x3 + 1) ls (lv_sub hl [3, 4, 1, 0] rfl) hok hF
          · have hok := hok.2 c_6
            have hF := (if_neg c_6).symm.trans hF
            refine lv_aload hx hb d_C_openMovesAt_36 (lv_at hl 0 rfl) ?_
            refine gCT_1 h0 hN hw hi_4 d_C_openMovesAt_38 ?_
            refine lv_iload_n hx hb d_C_openMovesAt_41 rfl (lv_at hl 2 rfl) ?_
            refine lv_icmp_ne (tgt := 48) hx hb d_C_openMovesAt_42 (by decide) (fun c_7 => ?_) (fun c_7 => ?_)
            · have hok := hok.2 c_7
              have hF := (if_neg c_7).symm.trans hF
              refine lv_iinc (v := x3 + 1) (lv' := [(3, .int (x3 + 1)), (4, .ref (ad 3 ((x3 - 1).toNatClampNeg))), (0, .ref (ad 0 0)), (1, .int x1), (2, .int x2)]) hx hb d_C_openMovesAt_48 hl (k := 4) rfl rfl (by decide) rfl (fun ls hl => ?_)
              refine lv_goto (tgt := 4) hx hb d_C_openMovesAt_51 (by decide) ?_
              exact ih_4 x1 x2 (x3 + 1) ls (lv_sub hl [2, 3, 4, 0] rfl) hok hF
            · have hok := hok.1 c_7
              have hF := (if_pos c_7).symm.trans hF
              refine lv_iinc (v := x2 + 1) (lv' := [(2, .int (x2 + 1)), (4, .ref (ad 3 ((x3 - 1).toNatClampNeg))), (0, .ref (ad 0 0)), (1, .int x1), (3, .int x3)]) hx hb d_C_openMovesAt_45 hl (k := 3) rfl rfl (by decide) rfl (fun ls hl => ?_)
              refine lv_iinc (v := x3 + 1) (lv' := [(3, .int (x3 + 1)), (2, .int (x2 + 1)), (4, .ref (ad 3 ((x3 - 1).toNatClampNeg))), (0, .ref (ad 0 0)), (1, .int x1)]) hx hb d_C_openMovesAt_48 hl (k := 4) rfl rfl (by decide) rfl (fun ls hl => ?_)
              refine lv_goto (tgt := 4) hx hb d_C_openMovesAt_51 (by decide) ?_
              exact ih_4 x1 (x2 + 1) (x3 + 1) ls (lv_sub hl [3, 4, 1, 0] rfl) hok hF
  exact lp_4 200 x1 0 1 ls (lv_sub hl [2, 3, 1, 0] rfl) hok hF
set_option maxHeartbeats 4000000 in
set_option maxRecDepth 100000 in
theorem cC_hasOpenMoves (l : Launch) (D : va_G) (tc : Nat → ClassId) (sa : Nat → Nat) (ad : Nat → Nat → Nat) (Y : va_W) (sz : Nat) (i1 : Nat) (g : Nat → Nat → Nat → Int32) (N : Nat → Nat) (hj1 : i1 < N 2) {F : Int32} (hok : kC_hasOpenMoves i1 g N) (hF : fC_hasOpenMoves i1 g N = F) : Met l y_C_hasOpenMoves (Cond.code y_C_hasOpenMoves b_C_hasOpenMoves 3 (some .boolean) :: gw) ({ frames := 3, cells := 0, slots := 0, locals := 68 } : Room) (va_Pc [.ref (ad 0 0), .ref (ad 4 i1)] (pC D tc sa (cl tc g N ad ++ Y) sz)) (qP (.int F)) 0 0 (fun _ => False) := by
  refine en_C (by decide) (Nat.le_of_ble_eq_true rfl) ?_
  intro p e s m args below meth c ls h0 hN hX hr hlocks hin hsz hw hl
  obtain ⟨hx, hb, hml, hown, hts, hK⟩ := id h0
  have hA : ∀ q : Nat, s.heap.size ≤ q → (va_A (cl tc g N ad ++ Y) sz) q := fun q h => Or.inr (by rw [← hsz]; exact h)
  generalize va_A (cl tc g N ad ++ Y) sz = A at hw hA hX
  have hl : lv_has ls 3 [(0, .ref (ad 0 0)), (1, .ref (ad 4 i1))] := hl
  unfold kC_hasOpenMoves at hok
  unfold fC_hasOpenMoves at hF
  refine lv_iconst (v := 0) hx hb d_C_hasOpenMoves_0 (by decide) ?_
  refine lv_istore_n (lv' := [(2, .int 0), (0, .ref (ad 0 0)), (1, .ref (ad 4 i1))]) hx hb d_C_hasOpenMoves_1 rfl hl (by decide) rfl (fun ls hl => ?_)
  have hx_2 : ∀ (i1 : Nat) (x2 : Int32) (ls : Array Slot), i1 < N 2 → lv_has ls 3 [(0, .ref (ad 0 0)), (1, .ref (ad 4 i1)), (2, .int x2)] → kC_hasOpenMoves_2x i1 x2 g N → fC_hasOpenMoves_2x i1 x2 g N = F → W p l e ({ frames := 3, cells := 0, slots := 0, locals := 68 } : Room) s m args below meth c s.heap [] 0 0 (MQ below (qP (.int F)) args s 0 0 (fun _ => False)) (F0 m 32 ls []) := by
    intro i1 x2 ls hj1 hl hok hF
    unfold kC_hasOpenMoves_2x at hok
    unfold fC_hasOpenMoves_2x at hF
    refine lv_iconst (v := 0) hx hb d_C_hasOpenMoves_32 (by decide) ?_
    exact rt_p hx hb hr hlocks rfl (by rw [← hF]) d_C_hasOpenMoves_33 (Nat.le_refl 0) (Nat.le_refl 0)
  have lp_2 : ∀ (n2 : Nat) (i1 : Nat) (x2 : Int32) (ls : Array Slot), i1 < N 2 → lv_has ls 3 [(0, .ref (ad 0 0)), (1, .ref (ad 4 i1)), (2, .int x2)] → kC_hasOpenMoves_2 kC_hasOpenMoves_2x n2 i1 x2 g N → fC_hasOpenMoves_2 fC_hasOpenMoves_2x n2 i1 x2 g N = F → W p l e ({ frames := 3, cells := 0, slots := 0, locals := 68 } : Room) s m args below meth c s.heap [] 0 0 (MQ below (qP (.int F)) args s 0 0 (fun _ => False)) (F0 m 2 ls []) := by
    intro n2
    induction n2 with
    | zero =>
      intro i1 x2 ls hj1 hl hok hF
      unfold kC_hasOpenMoves_2 at hok
      exact hok.elim
    | succ n2 ih_2 =>
      intro i1 x2 ls hj1 hl hok hF
      unfold kC_hasOpenMoves_2 at hok
      unfold fC_hasOpenMoves_2 at hF
      refine lv_iload_n hx hb d_C_hasOpenMoves_2 rfl (lv_at hl 2 rfl) ?_
      refine lv_aload_n hx hb d_C_hasOpenMoves_3 rfl (lv_at hl 1 rfl) ?_
      refine gCS_0 h0 hN hw hj1 d_C_hasOpenMoves_4 ?_
      refine n_members h0 hw hj1 d_C_hasOpenMoves_7 ?_
      refine lv_icmp_ge (tgt := 32) hx hb d_C_hasOpenMoves_8 (by decide) (fun c_1 => ?_) (fun c_1 => ?_)
      · have hok := hok.1 c_1
        have hF := (if_pos c_1).symm.trans hF
        exact hx_2 i1 x2 ls hj1 (lv_sub hl [0, 1, 2] rfl) hok hF
      · have hok := hok.2 c_1
        have hF := (if_neg c_1).symm.trans hF
        refine lv_aload_n hx hb d_C_hasOpenMoves_11 rfl (lv_at hl 0 rfl) ?_
        refine lv_aload_n hx hb d_C_hasOpenMoves_12 rfl (lv_at hl 1 rfl) ?_
        refine gCS_0 h0 hN hw hj1 d_C_hasOpenMoves_13 ?_
        refine lv_iload_n hx hb d_C_hasOpenMoves_16 rfl (lv_at hl 2 rfl) ?_
        obtain ⟨hi_2, hok⟩ := hok
        refine l_members h0 hw hj1 hi_2 d_C_hasOpenMoves_17 ?_
        obtain ⟨hi_3, hok⟩ := hok
        refine dv_p (n := 1) (C := "CountRounds") (b := ad 0 0) (q0 := bw_o (cb tc g N ad) 0 + 0) (ci := 3) (As := [.int (g 9 i1 x2.toNatClampNeg)]) (rest := []) h0 hX hw hA (cC_openMovesAt l D tc sa ad Y s.heap.size (g 9 i1 x2.toNatClampNeg) g N hi_3 rfl) (gd_V wd_355 wd_357 (gw_s 4 rfl rfl) wd_1 wd_358) (by decide +kernel) ⟨rfl, rfl, (Nat.le_of_ble_eq_true rfl), (Nat.le_of_ble_eq_true rfl), (Nat.le_of_ble_eq_true rfl), (Nat.le_of_ble_eq_true rfl)⟩ (bw_get (bs := cb tc g N ad) (j := 0) rfl Nat.one_pos Y) rfl rfl hl.1 rfl (Nat.le_of_ble_eq_true rfl) d_C_hasOpenMoves_18 ?_
        refine lv_if_le (tgt := 26) hx hb d_C_hasOpenMoves_21 (by decide) (fun c_4 => ?_) (fun c_4 => ?_)
        · have hok := hok.1 c_4
          have hF := (if_pos c_4).symm.trans hF
          refine lv_iinc (v := x2 + 1) (lv' := [(2, .int (x2 + 1)), (0, .ref (ad 0 0)), (1, .ref (ad 4 i1))]) hx hb d_C_hasOpenMoves_26 hl (k := 2) rfl rfl (by decide) rfl (fun ls hl => ?_)
          refine lv_goto (tgt := 2) hx hb d_C_hasOpenMoves_29 (by decide) ?_
          exact ih_2 i1 (x2 + 1) ls hj1 (lv_sub hl [1, 2, 0] rfl) hok hF
        · have hok := hok.2 c_4
          have hF := (if_neg c_4).symm.trans hF
          refine lv_iconst (v := 1) hx hb d_C_hasOpenMoves_24 (by decide) ?_
          exact rt_p hx hb hr hlocks rfl (by rw [← hF]) d_C_hasOpenMoves_25 (Nat.le_refl 0) (Nat.le_refl 0)
  exact lp_2 200 i1 0 ls hj1 (lv_sub hl [1, 2, 0] rfl) hok hF
set_option maxHeartbeats 4000000 in
set_option maxRecDepth 100000 in
theorem cC_longestUncounted (l : Launch) (D : va_G) (tc : Nat → ClassId) (sa : Nat → Nat) (ad : Nat → Nat → Nat) (Y : va_W) (sz : Nat) (x1 : Int32) (g : Nat → Nat → Nat → Int32) (N : Nat → Nat) {F : Int32} (hok : kC_longestUncounted x1 g N) (hF : fC_longestUncounted x1 g N = F) : Met l y_C_longestUncounted (Cond.code y_C_longestUncounted b_C_longestUncounted 4 (some .int) :: gw) ({ frames := 2, cells := 0, slots := 0, locals := 44 } : Room) (va_Pc [.ref (ad 0 0), .int x1] (pC D tc sa (cl tc g N ad ++ Y) sz)) (qP (.int F)) 0 0 (fun _ => False) := by
  refine en_C (by decide) (Nat.le_of_ble_eq_true rfl) ?_
  intro p e s m args below meth c ls h0 hN hX hr hlocks hin hsz hw hl
  obtain ⟨hx, hb, hml, hown, hts, hK⟩ := id h0
  have hA : ∀ q : Nat, s.heap.size ≤ q → (va_A (cl tc g N ad ++ Y) sz) q := fun q h => Or.inr (by rw [← hsz]; exact h)
  generalize va_A (cl tc g N ad ++ Y) sz = A at hw hA hX
  have hl : lv_has ls 4 [(0, .ref (ad 0 0)), (1, .int x1)] := hl
  unfold kC_longestUncounted at hok
  unfold fC_longestUncounted at hF
  refine lv_iconst (v := 0) hx hb d_C_longestUncounted_0 (by decide) ?_
  refine lv_istore_n (lv' := [(2, .int 0), (0, .ref (ad 0 0)), (1, .int x1)]) hx hb d_C_longestUncounted_1 rfl hl (by decide) rfl (fun ls hl => ?_)
  refine lv_iconst (v := 1) hx hb d_C_longestUncounted_2 (by decide) ?_
  refine lv_istore_n (lv' := [(3, .int 1), (2, .int 0), (0, .ref (ad 0 0)), (1, .int x1)]) hx hb d_C_longestUncounted_3 rfl hl (by decide) rfl (fun ls hl => ?_)
  have hx_4 : ∀ (x1 : Int32) (x2 : Int32) (x3 : Int32) (ls : Array Slot), lv_has ls 4 [(0, .ref (ad 0 0)), (1, .int x1), (2, .int x2), (3, .int x3)] → kC_longestUncounted_4x x1 x2 x3 g N → fC_longestUncounted_4x x1 x2 x3 g N = F → W p l e ({ frames := 2, cells := 0, slots := 0, locals := 44 } : Room) s m args below meth c s.heap [] 0 0 (MQ below (qP (.int F)) args s 0 0 (fun _ => False)) (F0 m 46 ls []) := by
    intro x1 x2 x3 ls hl hok hF
    unfold kC_longestUncounted_4x at hok
    unfold fC_longestUncounted_4x at hF
    refine lv_iload_n hx hb d_C_longestUncounted_46 rfl (lv_at hl 2 rfl) ?_
    exact rt_p hx hb hr hlocks rfl (by rw [← hF]) d_C_longestUncounted_47 (Nat.le_refl 0) (Nat.le_refl 0)
  have lp_4 : ∀ (n4 : Nat) (x1 : Int32) (x2 : Int32) (x3 : Int32) (ls : Array Slot), lv_has ls 4 [(0, .ref (ad 0 0)), (1, .int x1), (2, .int x2), (3, .int x3)] → kC_longestUncounted_4 kC_longestUncounted_4x n4 x1 x2 x3 g N → fC_longestUncounted_4 fC_longestUncounted_4x n4 x1 x2 x3 g N = F → W p l e ({ frames := 2, cells := 0, slots := 0, locals := 44 } : Room) s m args below meth c s.heap [] 0 0 (MQ below (qP (.int F)) args s 0 0 (fun _ => False)) (F0 m 4 ls []) := by
    intro n4
    induction n4 with
    | zero =>
      intro x1 x2 x3 ls hl hok hF
      unfold kC_longestUncounted_4 at hok
      exact hok.elim
    | succ n4 ih_4 =>
      intro x1 x2 x3 ls hl hok hF
      unfold kC_longestUncounted_4 at hok
      unfold fC_longestUncounted_4 at hF
      refine lv_iload_n hx hb d_C_longestUncounted_4 rfl (lv_at hl 3 rfl) ?_
      refine lv_iload_n hx hb d_C_longestUncounted_5 rfl (lv_at hl 1 rfl) ?_
      refine lv_icmp_ge (tgt := 46) hx hb d_C_longestUncounted_6 (by decide) (fun c_1 => ?_) (fun c_1 => ?_)
      · have hok := hok.1 c_1
        have hF := (if_pos c_1).symm.trans hF
        exact hx_4 x1 x2 x3 ls (lv_sub hl [0, 1, 2, 3] rfl) hok hF
      · have hok := hok.2 c_1
        have hF := (if_neg c_1).symm.trans hF
        refine lv_aload_n hx hb d_C_longestUncounted_9 rfl (lv_at hl 0 rfl) ?_
        refine lv_aload_n hx hb d_C_longestUncounted_10 rfl (lv_at hl 0 rfl) ?_
        refine gCC_6 h0 hw d_C_longestUncounted_11 ?_
        refine lv_iload_n hx hb d_C_longestUncounted_14 rfl (lv_at hl 3 rfl) ?_
        obtain ⟨hi_2, hok⟩ := hok
        refine l_candidates h0 hw hi_2 d_C_longestUncounted_15 ?_
        obtain ⟨hi_3, hi_4, hi_5, hok⟩ := hok
        refine dv_p (n := 1) (C := "CountRounds") (b := ad 0 0) (q0 := bw_o (cb tc g N ad) 0 + 0) (ci := 3) (As := [.int (g 4 0 x3.toNatClampNeg)]) (rest := []) h0 hX hw hA (cC_placeNumbered l D tc sa ad Y s.heap.size (g 4 0 x3.toNatClampNeg) g N hi_3 (if_neg hi_4)) (gd_V wd_236 wd_238 (gw_s 3 rfl rfl) wd_1 wd_239) (by decide +kernel) ⟨rfl, rfl, (Nat.le_of_ble_eq_true rfl), (Nat.le_of_ble_eq_true rfl), (Nat.le_of_ble_eq_true rfl), (Nat.le_of_ble_eq_true rfl)⟩ (bw_get (bs := cb tc g N ad) (j := 0) rfl Nat.one_pos Y) rfl rfl hl.1 rfl (Nat.le_of_ble_eq_true rfl) d_C_longestUncounted_16 ?_
        refine gCP_2 h0 hN hw hi_5 d_C_longestUncounted_19 ?_
        refine lv_aload_n hx hb d_C_longestUncounted_22 rfl (lv_at hl 0 rfl) ?_
        refine lv_aload_n hx hb d_C_longestUncounted_23 rfl (lv_at hl 0 rfl) ?_
        refine gCC_6 h0 hw d_C_longestUncounted_24 ?_
        refine lv_iload_n hx hb d_C_longestUncounted_27 rfl (lv_at hl 2 rfl) ?_
        obtain ⟨hi_6, hok⟩ := hok
        refine l_candidates h0 hw hi_6 d_C_longestUncounted_28 ?_
        obtain ⟨hi_7, hi_8, hi_9, hok⟩ := hok
        refine dv_p (n := 1) (C := "CountRounds") (b := ad 0 0) (q0 := bw_o (cb tc g N ad) 0 + 0) (ci := 3) (As := [.int (g 4 0 x2.toNatClampNeg)]) (rest := [.int (g 5 ((g 4 0 x3.toNatClampNeg).toNatClampNeg) 1)]) h0 hX hw hA (cC_placeNumbered l D tc sa ad Y s.heap.size (g 4 0 x2.toNatClampNeg) g N hi_7 (if_neg hi_8)) (gd_V wd_236 wd_238 (gw_s 3 rfl rfl) wd_1 wd_239) (by decide +kernel) ⟨rfl, rfl, (Nat.le_of_ble_eq_true rfl), (Nat.le_of_ble_eq_true rfl), (Nat.le_of_ble_eq_true rfl), (Nat.le_of_ble_eq_true rfl)⟩ (bw_get (bs := cb tc g N ad) (j := 0) rfl Nat.one_pos Y) rfl rfl hl.1 rfl (Nat.le_of_ble_eq_true rfl) d_C_longestUncounted_29 ?_
        refine gCP_2 h0 hN hw hi_9 d_C_longestUncounted_32 ?_
        refine lv_icmp_ge (tgt := 40) hx hb d_C_longestUncounted_35 (by decide) (fun c_10 => ?_) (fun c_10 => ?_)
        · have hok := hok.1 c_10
          have hF := (if_pos c_10).symm.trans hF
          refine lv_iinc (v := x3 + 1) (lv' := [(3, .int (x3 + 1)), (0, .ref (ad 0 0)), (1, .int x1), (2, .int x2)]) hx hb d_C_longestUncounted_40 hl (k := 3) rfl rfl (by decide) rfl (fun ls hl => ?_)
          refine lv_goto (tgt := 4) hx hb d_C_longestUncounted_43 (by decide) ?_
          exact ih_4 x1 x2 (x3 + 1) ls (lv_sub hl [1, 2, 3, 0] rfl) hok hF
        · have hok := hok.2 c_10
          have hF := (if_neg c_10).symm.trans hF
          refine lv_iload_n hx hb d_C_longestUncounted_38 rfl (lv_at hl 3 rfl) ?_
          refine lv_istore_n (lv' := [(2, .int x3), (0, .ref (ad 0 0)), (1, .int x1), (3, .int x3)]) hx hb d_C_longestUncounted_39 rfl hl (by decide) rfl (fun ls hl => ?_)
          refine lv_iinc (v := x3 + 1) (lv' := [(3, .int (x3 + 1)), (2, .int x3), (0, .ref (ad 0 0)), (1, .int x1)]) hx hb d_C_longestUncounted_40 hl (k := 3) rfl rfl (by decide) rfl (fun ls hl => ?_)
          refine lv_goto (tgt := 4) hx hb d_C_longestUncounted_43 (by decide) ?_
          exact ih_4 x1 x3 (x3 + 1) ls (lv_sub hl [2, 3, 1, 0] rfl) hok hF
  exact lp_4 200 x1 0 1 ls (lv_sub hl [2, 3, 1, 0] rfl) hok hF
set_option maxHeartbeats 4000000 in
set_option maxRecDepth 100000 in
theorem cC_isTolerated (l : Launch) (D : va_G) (tc : Nat → ClassId) (sa : Nat → Nat) (ad : Nat → Nat → Nat) (Y : va_W) (sz : Nat) (x1 : Int32) (i2 : Nat) (g : Nat → Nat → Nat → Int32) (N : Nat → Nat) (hj2 : i2 < N 0) {F : Int32} (hok : kC_isTolerated x1 i2 g N) (hF : fC_isTolerated x1 i2 g N = F) : Met l y_C_isTolerated (Cond.code y_C_isTolerated b_C_isTolerated 3 (some .boolean) :: gw) ({ frames := 1, cells := 0, slots := 0, locals := 21 } : Room) (va_Pc [.ref (ad 0 0), .int x1, .ref (ad 1 i2)] (pC D tc sa (cl tc g N ad ++ Y) sz)) (qP (.int F)) 0 0 (fun _ => False) := by
  refine en_C (by decide) (Nat.le_of_ble_eq_true rfl) ?_
  intro p e s m args below meth c ls h0 hN hX hr hlocks hin hsz hw hl
  obtain ⟨hx, hb, hml, hown, hts, hK⟩ := id h0
  have hA : ∀ q : Nat, s.heap.size ≤ q → (va_A (cl tc g N ad ++ Y) sz) q := fun q h => Or.inr (by rw [← hsz]; exact h)
  generalize va_A (cl tc g N ad ++ Y) sz = A at hw hA hX
  have hl : lv_has ls 3 [(0, .ref (ad 0 0)), (1, .int x1), (2, .ref (ad 1 i2))] := hl
  unfold kC_isTolerated at hok
  unfold fC_isTolerated at hF
  refine lv_iload_n hx hb d_C_isTolerated_0 rfl (lv_at hl 1 rfl) ?_
  refine va_mabs hx hb (hml.trans hl.1.symm) hown (hts _ wd_496) (hts _ wd_497) (hts _ wd_13) (hts _ wd_498) (Nat.le_of_ble_eq_true rfl) (Nat.le_of_ble_eq_true rfl) (Nat.le_of_ble_eq_true rfl) (Nat.le_of_ble_eq_true rfl) d_C_isTolerated_1 ?_
  refine lv_aload_n hx hb d_C_isTolerated_4 rfl (lv_at hl 0 rfl) ?_
  refine gCC_4 h0 hw d_C_isTolerated_5 ?_
  refine lv_aload_n hx hb d_C_isTolerated_8 rfl (lv_at hl 2 rfl) ?_
  refine gCP_0 h0 hN hw hj2 d_C_isTolerated_9 ?_
  obtain ⟨hi_1, hok⟩ := hok
  refine l_tolerances h0 hw hi_1 d_C_isTolerated_12 ?_
  refine lv_icmp_gt (tgt := 20) hx hb d_C_isTolerated_13 (by decide) (fun c_2 => ?_) (fun c_2 => ?_)
  · have hok := hok.1 c_2
    have hF := (if_pos c_2).symm.trans hF
    refine lv_iconst (v := 0) hx hb d_C_isTolerated_20 (by decide) ?_
    exact rt_p hx hb hr hlocks rfl (by rw [← hF]) d_C_isTolerated_21 (Nat.le_refl 0) (Nat.le_refl 0)
  · have hok := hok.2 c_2
    have hF := (if_neg c_2).symm.trans hF
    refine lv_iconst (v := 1) hx hb d_C_isTolerated_16 (by decide) ?_
    refine lv_goto (tgt := 21) hx hb d_C_isTolerated_17 (by decide) ?_
    exact rt_p hx hb hr hlocks rfl (by rw [← hF]) d_C_isTolerated_21 (Nat.le_refl 0) (Nat.le_refl 0)
set_option maxHeartbeats 4000000 in
set_option maxRecDepth 100000 in
theorem cC_mayCorrect (l : Launch) (D : va_G) (tc : Nat → ClassId) (sa : Nat → Nat) (ad : Nat → Nat → Nat) (Y : va_W) (sz : Nat) (i1 : Nat) (x2 : Int32) (x3 : Int32) (g : Nat → Nat → Nat → Int32) (N : Nat → Nat) (hj1 : i1 < N 2) {F : Int32} (hok : kC_mayCorrect i1 x2 x3 g N) (hF : fC_mayCorrect i1 x2 x3 g N = F) : Met l y_C_mayCorrect (Cond.code y_C_mayCorrect b_C_mayCorrect 7 (some .boolean) :: gw) ({ frames := 1, cells := 0, slots := 0, locals := 21 } : Room) (va_Pc [.ref (ad 0 0), .ref (ad 4 i1), .int x2, .int x3] (pC D tc sa (cl tc g N ad ++ Y) sz)) (qP (.int F)) 0 0 (fun _ => False) := by
  refine en_C (by decide) (Nat.le_of_ble_eq_true rfl) ?_
  intro p e s m args below meth c ls h0 hN hX hr hlocks hin hsz hw hl
  obtain ⟨hx, hb, hml, hown, hts, hK⟩ := id h0
  have hA : ∀ q : Nat, s.heap.size ≤ q → (va_A (cl tc g N ad ++ Y) sz) q := fun q h => Or.inr (by rw [← hsz]; exact h)
  generalize va_A (cl tc g N ad ++ Y) sz = A at hw hA hX
  have hl : lv_has ls 7 [(0, .ref (ad 0 0)), (1, .ref (ad 4 i1)), (2, .int x2), (3, .int x3)] := hl
  unfold kC_mayCorrect at hok
  unfold fC_mayCorrect at hF
  refine lv_aload_n hx hb d_C_mayCorrect_0 rfl (lv_at hl 1 rfl) ?_
  refine gCS_5 h0 hN hw hj1 d_C_mayCorrect_1 ?_
  refine lv_iload_n hx hb d_C_mayCorrect_4 rfl (lv_at hl 2 rfl) ?_
  obtain ⟨hi_1, hok⟩ := hok
  refine l_askers h0 hw hj1 hi_1 d_C_mayCorrect_5 ?_
  refine lv_istore (lv' := [(4, .int (g 14 i1 x2.toNatClampNeg)), (0, .ref (ad 0 0)), (1, .ref (ad 4 i1)), (2, .int x2), (3, .int x3)]) hx hb d_C_mayCorrect_6 hl (by decide) rfl (fun ls hl => ?_)
  refine lv_aload_n hx hb d_C_mayCorrect_8 rfl (lv_at hl 1 rfl) ?_
  refine gCC_5 h0 hw d_C_mayCorrect_9 ?_
  refine lv_iload_n hx hb d_C_mayCorrect_12 rfl (lv_at hl 4 rfl) ?_
  obtain ⟨hi_2, hok⟩ := hok
  refine l_rights h0 hw hi_2 d_C_mayCorrect_13 ?_
  refine lv_aload_n hx hb d_C_mayCorrect_14 rfl (lv_at hl 2 rfl) ?_
  refine lv_iload_n hx hb d_C_mayCorrect_15 rfl (lv_at hl 3 rfl) ?_
  obtain ⟨hi_3, hok⟩ := hok
  refine dn_p (n := 1) (C := "CountRounds$Sheet") (b := ad 4 i1) (q0 := bw_o (cb tc g N ad) 11 + i1) (ci := 1) (As := [.int x2]) (rest := [.int (g 3 0 x3.toNatClampNeg)]) h0 hX hw hA (cS_differenceOf l D tc sa ad Y s.heap.size i1 x2 g N hj1 hi_3 rfl) wd_491 wn_488 wd_15 wd_490 (gw_s 14 rfl rfl) (by decide +kernel) ⟨rfl, rfl, (Nat.le_of_ble_eq_true rfl), (Nat.le_of_ble_eq_true rfl), (Nat.le_of_ble_eq_true rfl), (Nat.le_of_ble_eq_true rfl)⟩ (bw_get (bs := cb tc g N ad) (j := 11) rfl hj1 Y) rfl rfl hl.1 rfl (Nat.le_of_ble_eq_true rfl) d_C_mayCorrect_16 ?_
  refine va_mabs hx hb (hml.trans hl.1.symm) hown (hts _ wd_496) (hts _ wd_497) (hts _ wd_13) (hts _ wd_498) (Nat.le_of_ble_eq_true rfl) (Nat.le_of_ble_eq_true rfl) (Nat.le_of_ble_eq_true rfl) (Nat.le_of_ble_eq_true rfl) d_C_mayCorrect_19 ?_
  refine lv_icmp_lt (tgt := 29) hx hb d_C_mayCorrect_22 (by decide) (fun c_4 => ?_) (fun c_4 => ?_)
  · have hok := hok.1 c_4
    have hF := (if_pos c_4).symm.trans hF
    refine lv_iconst (v := 0) hx hb d_C_mayCorrect_29 (by decide) ?_
    refine lv_istore (lv' := [(5, .int 0), (4, .int (g 14 i1 x2.toNatClampNeg)), (0, .ref (ad 0 0)), (1, .ref (ad 4 i1)), (2, .int x2), (3, .int x3)]) hx hb d_C_mayCorrect_30 hl (by decide) rfl (fun ls hl => ?_)
    refine lv_iload hx hb d_C_mayCorrect_32 (lv_at hl 1 rfl) ?_
    refine lv_iconst (v := (-1)) hx hb d_C_mayCorrect_34 (by decide) ?_
    refine lv_icmp_eq (tgt := 48) hx hb d_C_mayCorrect_35 (by decide) (fun c_5 => ?_) (fun c_5 => ?_)
    · have hok := hok.1 c_5
      have hF := (if_pos c_5).symm.trans hF
      refine lv_iconst (v := 0) hx hb d_C_mayCorrect_48 (by decide) ?_
      refine lv_istore (lv' := [(6, .int 0), (5, .int 0), (4, .int (g 14 i1 x2.toNatClampNeg)), (0, .ref (ad 0 0)), (1, .ref (ad 4 i1)), (2, .int x2), (3, .int x3)]) hx hb d_C_mayCorrect_49 hl (by decide) rfl (fun ls hl => ?_)
      refine lv_iload hx hb d_C_mayCorrect_51 (lv_at hl 1 rfl) ?_
      refine lv_if_ne (tgt := 61) hx hb d_C_mayCorrect_53 (by decide) (fun c_0 => absurd c_0 (by decide)) (fun _ => ?_)
      refine lv_iload hx hb d_C_mayCorrect_56 (lv_at hl 0 rfl) ?_
      refine lv_if_eq (tgt := 65) hx hb d_C_mayCorrect_58 (by decide) (fun _ => ?_) (fun c_0 => absurd c_0 (by decide))
      refine lv_iconst (v := 0) hx hb d_C_mayCorrect_65 (by decide) ?_
      exact rt_p hx hb hr hlocks rfl (by rw [← hF]) d_C_mayCorrect_66 (Nat.le_refl 0) (Nat.le_refl 0)
    · have hok := hok.2 c_5
      have hF := (if_neg c_5).symm.trans hF
      refine lv_iload hx hb d_C_mayCorrect_38 (lv_at hl 1 rfl) ?_
      refine lv_iload_n hx hb d_C_mayCorrect_40 rfl (lv_at hl 5 rfl) ?_
      refine lv_icmp_eq (tgt := 48) hx hb d_C_mayCorrect_41 (by decide) (fun c_6 => ?_) (fun c_6 => ?_)
      · have hok := hok.1 c_6
        have hF := (if_pos c_6).symm.trans hF
        refine lv_iconst (v := 0) hx hb d_C_mayCorrect_48 (by decide) ?_
        refine lv_istore (lv' := [(6, .int 0), (5, .int 0), (4, .int (g 14 i1 x2.toNatClampNeg)), (0, .ref (ad 0 0)), (1, .ref (ad 4 i1)), (2, .int x2), (3, .int x3)]) hx hb d_C_mayCorrect_49 hl (by decide) rfl (fun ls hl => ?_)
        refine lv_iload hx hb d_C_mayCorrect_51 (lv_at hl 1 rfl) ?_
        refine lv_if_ne (tgt := 61) hx hb d_C_mayCorrect_53 (by decide) (fun c_0 => absurd c_0 (by decide)) (fun _ => ?_)
        refine lv_iload hx hb d_C_mayCorrect_56 (lv_at hl 0 rfl) ?_
        refine lv_if_eq (tgt := 65) hx hb d_C_mayCorrect_58 (by decide) (fun _ => ?_) (fun c_0 => absurd c_0 (by decide))
        refine lv_iconst (v := 0) hx hb d_C_mayCorrect_65 (by decide) ?_
        exact rt_p hx hb hr hlocks rfl (by rw [← hF]) d_C_mayCorrect_66 (Nat.le_refl 0) (Nat.le_refl 0)
      · have hok := hok.2 c_6
        have hF := (if_neg c_6).symm.trans hF
        refine lv_iconst (v := 1) hx hb d_C_mayCorrect_44 (by decide) ?_
        refine lv_goto (tgt := 49) hx hb d_C_mayCorrect_45 (by decide) ?_
        refine lv_istore (lv' := [(6, .int 1), (5, .int 0), (4, .int (g 14 i1 x2.toNatClampNeg)), (0, .ref (ad 0 0)), (1, .ref (ad 4 i1)), (2, .int x2), (3, .int x3)]) hx hb d_C_mayCorrect_49 hl (by decide) rfl (fun ls hl => ?_)
        refine lv_iload hx hb d_C_mayCorrect_51 (lv_at hl 1 rfl) ?_
        refine lv_if_ne (tgt := 61) hx hb d_C_mayCorrect_53 (by decide) (fun c_0 => absurd c_0 (by decide)) (fun _ => ?_)
        refine lv_iload hx hb d_C_mayCorrect_56 (lv_at hl 0 rfl) ?_
        refine lv_if_eq (tgt := 65) hx hb d_C_mayCorrect_58 (by decide) (fun c_0 => absurd c_0 (by decide)) (fun _ => ?_)
        refine lv_iconst (v := 1) hx hb d_C_mayCorrect_61 (by decide) ?_
        refine lv_goto (tgt := 66) hx hb d_C_mayCorrect_62 (by decide) ?_
        exact rt_p hx hb hr hlocks rfl (by rw [← hF]) d_C_mayCorrect_66 (Nat.le_refl 0) (Nat.le_refl 0)
  · have hok := hok.2 c_4
    have hF := (if_neg c_4).symm.trans hF
    refine lv_iconst (v := 1) hx hb d_C_mayCorrect_25 (by decide) ?_
    refine lv_goto (tgt := 30) hx hb d_C_mayCorrect_26 (by decide) ?_
    refine lv_istore (lv' := [(5, .int 1), (4, .int (g 14 i1 x2.toNatClampNeg)), (0, .ref (ad 0 0)), (1, .ref (ad 4 i1)), (2, .int x2), (3, .int x3)]) hx hb d_C_mayCorrect_30 hl (by decide) rfl (fun ls hl => ?_)
    refine lv_iload hx hb d_C_mayCorrect_32 (lv_at hl 1 rfl) ?_
    refine lv_iconst (v := (-1)) hx hb d_C_mayCorrect_34 (by decide) ?_
    refine lv_icmp_eq (tgt := 48) hx hb d_C_mayCorrect_35 (by decide) (fun c_7 => ?_) (fun c_7 => ?_)
    · have hok := hok.1 c_7
      have hF := (if_pos c_7).symm.trans hF
      refine lv_iconst (v := 0) hx hb d_C_mayCorrect_48 (by decide) ?_
      refine lv_istore (lv' := [(6, .int 0), (5, .int 1), (4, .int (g 14 i1 x2.toNatClampNeg)), (0, .ref (ad 0 0)), (1, .ref (ad 4 i1)), (2, .int x2), (3, .int x3)]) hx hb d_C_mayCorrect_49 hl (by decide) rfl (fun ls hl => ?_)
      refine lv_iload hx hb d_C_mayCorrect_51 (lv_at hl 1 rfl) ?_
      refine lv_if_ne (tgt := 61) hx hb d_C_mayCorrect_53 (by decide) (fun _ => ?_) (fun c_0 => absurd c_0 (by decide))
      refine lv_iconst (v := 1) hx hb d_C_mayCorrect_61 (by decide) ?_
      refine lv_goto (tgt := 66) hx hb d_C_mayCorrect_62 (by decide) ?_
      exact rt_p hx hb hr hlocks rfl (by rw [← hF]) d_C_mayCorrect_66 (Nat.le_refl 0) (Nat.le_refl 0)
    · have hok := hok.2 c_7
      have hF := (if_neg c_7).symm.trans hF
      refine lv_iload hx hb d_C_mayCorrect_38 (lv_at hl 1 rfl) ?_
      refine lv_iload_n hx hb d_C_mayCorrect_40 rfl (lv_at hl 5 rfl) ?_
      refine lv_icmp_eq (tgt := 48) hx hb d_C_mayCorrect_41 (by decide) (fun c_8 => ?_) (fun c_8 => ?_)
      · have hok := hok.1 c_8
        have hF := (if_pos c_8).symm.trans hF
        refine lv_iconst (v := 0) hx hb d_C_mayCorrect_48 (by decide) ?_
        refine lv_istore (lv' := [(6, .int 0), (5, .int 1), (4, .int (g 14 i1 x2.toNatClampNeg)), (0, .ref (ad 0 0)), (1, .ref (ad 4 i1)), (2, .int x2), (3, .int x3)]) hx hb d_C_mayCorrect_49 hl (by decide) rfl (fun ls hl => ?_)
        refine lv_iload hx hb d_C_mayCorrect_51 (lv_at hl 1 rfl) ?_
        refine lv_if_ne (tgt := 61) hx hb d_C_mayCorrect_53 (by decide) (fun _ => ?_) (fun c_0 => absurd c_0 (by decide))
        refine lv_iconst (v := 1) hx hb d_C_mayCorrect_61 (by decide) ?_
        refine lv_goto (tgt := 66) hx hb d_C_mayCorrect_62 (by decide) ?_
        exact rt_p hx hb hr hlocks rfl (by rw [← hF]) d_C_mayCorrect_66 (Nat.le_refl 0) (Nat.le_refl 0)
      · have hok := hok.2 c_8
        have hF := (if_neg c_8).symm.trans hF
        refine lv_iconst (v := 1) hx hb d_C_mayCorrect_44 (by decide) ?_
        refine lv_goto (tgt := 49) hx hb d_C_mayCorrect_45 (by decide) ?_
        refine lv_istore (lv' := [(6, .int 1), (5, .int 1), (4, .int (g 14 i1 x2.toNatClampNeg)), (0, .ref (ad 0 0)), (1, .ref (ad 4 i1)), (2, .int x2), (3, .int x3)]) hx hb d_C_mayCorrect_49 hl (by decide) rfl (fun ls hl => ?_)
        refine lv_iload hx hb d_C_mayCorrect_51 (lv_at hl 1 rfl) ?_
        refine lv_if_ne (tgt := 61) hx hb d_C_mayCorrect_53 (by decide) (fun _ => ?_) (fun c_0 => absurd c_0 (by decide))
        refine lv_iconst (v := 1) hx hb d_C_mayCorrect_61 (by decide) ?_
        refine lv_goto (tgt := 66) hx hb d_C_mayCorrect_62 (by decide) ?_
        exact rt_p hx hb hr hlocks rfl (by rw [← hF]) d_C_mayCorrect_66 (Nat.le_refl 0) (Nat.le_refl 0)
set_option maxHeartbeats 4000000 in
set_option maxRecDepth 100000 in
theorem cC_gatherCandidates (l : Launch) (D : va_G) (tc : Nat → ClassId) (sa : Nat → Nat) (ad : Nat → Nat → Nat) (Y : va_W) (sz : Nat) (x1 : Int32) (g : Nat → Nat → Nat → Int32) (N : Nat → Nat) {F : Int32 × (Nat → Nat → Nat → Int32)} (hok : kC_gatherCandidates x1 g N) (hF : fC_gatherCandidates x1 g N = F) : Met l y_C_gatherCandidates (Cond.code y_C_gatherCandidates b_C_gatherCandidates 5 (some .int) :: gw) ({ frames := 2, cells := 0, slots := 0, locals := 44 } : Room) (va_Pc [.ref (ad 0 0), .int x1] (pC D tc sa (cl tc g N ad ++ Y) sz)) (va_Qi (fun r u => (r, u) = F) (fun u t => qW D tc (va_A (cl tc g N ad ++ Y) sz) (cl tc u N ad ++ Y) t) (va_A (cl tc g N ad ++ Y) sz)) 0 0 (va_A (cl tc g N ad ++ Y) sz) := by
  refine en_C (by decide) (Nat.le_of_ble_eq_true rfl) ?_
  intro p e s m args below meth c ls h0 hN hX hr hlocks hin hsz hw hl
  obtain ⟨hx, hb, hml, hown, hts, hK⟩ := id h0
  have hA : ∀ q : Nat, s.heap.size ≤ q → (va_A (cl tc g N ad ++ Y) sz) q := fun q h => Or.inr (by rw [← hsz]; exact h)
  generalize va_A (cl tc g N ad ++ Y) sz = A at hw hA hX ⊢
  obtain ⟨H, eH⟩ : ∃ z, z = s.heap := ⟨_, rfl⟩
  obtain ⟨locs, eL⟩ : ∃ z : List Loc, z = [] := ⟨_, rfl⟩
  have hw : wH D A s.heap (cl tc g N ad ++ Y) H locs := by rw [eH, eL]; exact hw
  have gl : W p l e ({ frames := 2, cells := 0, slots := 0, locals := 44 } : Room) s m args below meth c H locs 0 0 (MQ below (va_Qi (fun r u => (r, u) = F) (fun u t => qW D tc A (cl tc u N ad ++ Y) t) A) args s 0 0 A) (F0 m 0 ls []) := ?_
  · rw [eH, eL] at gl; exact gl
  have hl : lv_has ls 5 [(0, .ref (ad 0 0)), (1, .int x1)] := hl
  unfold kC_gatherCandidates at hok
  unfold fC_gatherCandidates at hF
  refine lv_iconst (v := 0) hx hb d_C_gatherCandidates_0 (by decide) ?_
  refine lv_istore_n (lv' := [(2, .int 0), (0, .ref (ad 0 0)), (1, .int x1)]) hx hb d_C_gatherCandidates_1 rfl hl (by decide) rfl (fun ls hl => ?_)
  refine lv_iconst (v := 0) hx hb d_C_gatherCandidates_2 (by decide) ?_
  refine lv_istore_n (lv' := [(3, .int 0), (2, .int 0), (0, .ref (ad 0 0)), (1, .int x1)]) hx hb d_C_gatherCandidates_3 rfl hl (by decide) rfl (fun ls hl => ?_)
  have hx_4 : ∀ (x1 : Int32) (x2 : Int32) (x3 : Int32) (g : Nat → Nat → Nat → Int32) (H : Heap) (locs : List Loc) (ls : Array Slot), wH D A s.heap (cl tc g N ad ++ Y) H locs → lv_has ls 5 [(0, .ref (ad 0 0)), (1, .int x1), (2, .int x2), (3, .int x3)] → kC_gatherCandidates_4x x1 x2 x3 g N → fC_gatherCandidates_4x x1 x2 x3 g N = F → W p l e ({ frames := 2, cells := 0, slots := 0, locals := 44 } : Room) s m args below meth c H locs 0 0 (MQ below (va_Qi (fun r u => (r, u) = F) (fun u t => qW D tc A (cl tc u N ad ++ Y) t) A) args s 0 0 A) (F0 m 57 ls []) := by
    intro x1 x2 x3 g H locs ls hw hl hok hF
    unfold kC_gatherCandidates_4x at hok
    unfold fC_gatherCandidates_4x at hF
    refine lv_iload_n hx hb d_C_gatherCandidates_57 rfl (lv_at hl 2 rfl) ?_
    exact rt_i h0 hw hr hlocks rfl g hF rfl d_C_gatherCandidates_58 (Nat.le_of_ble_eq_true rfl) (Nat.le_of_ble_eq_true rfl)
  have lp_4 : ∀ (n4 : Nat) (x1 : Int32) (x2 : Int32) (x3 : Int32) (g : Nat → Nat → Nat → Int32) (H : Heap) (locs : List Loc) (ls : Array Slot), wH D A s.heap (cl tc g N ad ++ Y) H locs → lv_has ls 5 [(0, .ref (ad 0 0)), (1, .int x1), (2, .int x2), (3, .int x3)] → kC_gatherCandidates_4 kC_gatherCandidates_4x n4 x1 x2 x3 g N → fC_gatherCandidates_4 fC_gatherCandidates_4x n4 x1 x2 x3 g N = F → W p l e ({ frames := 2, cells := 0, slots := 0, locals := 44 } : Room) s m args below meth c H locs 0 0 (MQ below (va_Qi (fun r u => (r, u) = F) (fun u t => qW D tc A (cl tc u N ad ++ Y) t) A) args s 0 0 A) (F0 m 4 ls []) := by
    intro n4
    induction n4 with
    | zero =>
      intro x1 x2 x3 g H locs ls hw hl hok hF
      unfold kC_gatherCandidates_4 at hok
      exact hok.elim
    | succ n4 ih_4 =>
      intro x1 x2 x3 g H locs ls hw hl hok hF
      unfold kC_gatherCandidates_4 at hok
      unfold fC_gatherCandidates_4 at hF
      refine lv_iload_n hx hb d_C_gatherCandidates_4 rfl (lv_at hl 3 rfl) ?_
      refine lv_aload_n hx hb d_C_gatherCandidates_5 rfl (lv_at hl 0 rfl) ?_
      refine gCC_7 h0 hw d_C_gatherCandidates_6 ?_
      refine lv_icmp_ge (tgt := 57) hx hb d_C_gatherCandidates_9 (by decide) (fun c_1 => ?_) (fun c_1 => ?_)
      · have hok := hok.1 c_1
        have hF := (if_pos c_1).symm.trans hF
        exact hx_4 x1 x2 x3 g H locs ls hw (lv_sub hl [0, 1, 2, 3] rfl) hok hF
      · have hok := hok.2 c_1
        have hF := (if_neg c_1).symm.trans hF
        refine lv_aload_n hx hb d_C_gatherCandidates_12 rfl (lv_at hl 0 rfl) ?_
        refine lv_iload_n hx hb d_C_gatherCandidates_13 rfl (lv_at hl 3 rfl) ?_
        obtain ⟨hi_2, hi_3, hi_4, hok⟩ := hok
        refine dv_p (n := 1) (C := "CountRounds") (b := ad 0 0) (q0 := bw_o (cb tc g N ad) 0 + 0) (ci := 3) (As := [.int x3]) (rest := []) h0 hX hw hA (cC_placeNumbered l D tc sa ad Y H.size x3 g N hi_2 (if_neg hi_3)) (gd_V wd_236 wd_238 (gw_s 3 rfl rfl) wd_1 wd_239) (by decide +kernel) ⟨rfl, rfl, (Nat.le_of_ble_eq_true rfl), (Nat.le_of_ble_eq_true rfl), (Nat.le_of_ble_eq_true rfl), (Nat.le_of_ble_eq_true rfl)⟩ (bw_get (bs := cb tc g N ad) (j := 0) rfl Nat.one_pos Y) rfl rfl hl.1 rfl (Nat.le_of_ble_eq_true rfl) d_C_gatherCandidates_14 ?_
        refine lv_astore (lv' := [(4, .ref (ad 1 x3.toNatClampNeg)), (0, .ref (ad 0 0)), (1, .int x1), (2, .int x2), (3, .int x3)]) hx hb d_C_gatherCandidates_17 hl (by decide) rfl (fun ls hl => ?_)
        refine lv_aload hx hb d_C_gatherCandidates_19 (lv_at hl 0 rfl) ?_
        refine gCP_3 h0 hN hw hi_4 d_C_gatherCandidates_21 ?_
        refine lv_if_ne (tgt := 51) hx hb d_C_gatherCandidates_24 (by decide) (fun c_5 => ?_) (fun c_5 => ?_)
        · have hok := hok.2 c_5
          have hF := (if_neg c_5).symm.trans hF
          refine lv_iinc (v := x3 + 1) (lv' := [(3, .int (x3 + 1)), (4, .ref (ad 1 x3.toNatClampNeg)), (0, .ref (ad 0 0)), (1, .int x1), (2, .int x2)]) hx hb d_C_gatherCandidates_51 hl (k := 4) rfl rfl (by decide) rfl (fun ls hl => ?_)
          refine lv_goto (tgt := 4) hx hb d_C_gatherCandidates_54 (by decide) ?_
          exact ih_4 x1 x2 (x3 + 1) g H locs ls hw (lv_sub hl [2, 3, 4, 0] rfl) hok hF
        · have hok := hok.1 c_5
          have hF := (if_pos c_5).symm.trans hF
          refine lv_iload_n hx hb d_C_gatherCandidates_27 rfl (lv_at hl 2 rfl) ?_
          refine lv_iconst (v := (-1)) hx hb d_C_gatherCandidates_28 (by decide) ?_
          refine lv_icmp_eq (tgt := 41) hx hb d_C_gatherCandidates_29 (by decide) (fun c_6 => ?_) (fun c_6 => ?_)
          · have hok := hok.1 c_6
            have hF := (if_pos c_6).symm.trans hF
            refine lv_aload_n hx hb d_C_gatherCandidates_41 rfl (lv_at hl 1 rfl) ?_
            refine gCC_6 h0 hw d_C_gatherCandidates_42 ?_
            refine lv_iload_n hx hb d_C_gatherCandidates_45 rfl (lv_at hl 3 rfl) ?_
            refine lv_iload_n hx hb d_C_gatherCandidates_46 rfl (lv_at hl 4 rfl) ?_
            obtain ⟨hi_7, hok⟩ := hok
            refine s_candidates h0 hw hi_7 d_C_gatherCandidates_47 (fun H locs hw => ?_)
            refine lv_iinc (v := x2 + 1) (lv' := [(2, .int (x2 + 1)), (4, .ref (ad 1 x3.toNatClampNeg)), (0, .ref (ad 0 0)), (1, .int x1), (3, .int x3)]) hx hb d_C_gatherCandidates_48 hl (k := 3) rfl rfl (by decide) rfl (fun ls hl => ?_)
            refine lv_iinc (v := x3 + 1) (lv' := [(3, .int (x3 + 1)), (2, .int (x2 + 1)), (4, .ref (ad 1 x3.toNatClampNeg)), (0, .ref (ad 0 0)), (1, .int x1)]) hx hb d_C_gatherCandidates_51 hl (k := 4) rfl rfl (by decide) rfl (fun ls hl => ?_)
            refine lv_goto (tgt := 4) hx hb d_C_gatherCandidates_54 (by decide) ?_
            exact ih_4 x1 (x2 + 1) (x3 + 1) (u3 g 4 0 x2.toNatClampNeg x3) H locs ls hw (lv_sub hl [3, 4, 1, 0] rfl) hok hF
          · have hok := hok.2 c_6
            have hF := (if_neg c_6).symm.trans hF
            refine lv_aload hx hb d_C_gatherCandidates_32 (lv_at hl 0 rfl) ?_
            refine gCP_0 h0 hN hw hi_4 d_C_gatherCandidates_34 ?_
            refine lv_iload_n hx hb d_C_gatherCandidates_37 rfl (lv_at hl 2 rfl) ?_
            refine lv_icmp_ne (tgt := 51) hx hb d_C_gatherCandidates_38 (by decide) (fun c_8 => ?_) (fun c_8 => ?_)
            · have hok := hok.2 c_8
              have hF := (if_neg c_8).symm.trans hF
              refine lv_iinc (v := x3 + 1) (lv' := [(3, .int (x3 + 1)), (4, .ref (ad 1 x3.toNatClampNeg)), (0, .ref (ad 0 0)), (1, .int x1), (2, .int x2)]) hx hb d_C_gatherCandidates_51 hl (k := 4) rfl rfl (by decide) rfl (fun ls hl => ?_)
              refine lv_goto (tgt := 4) hx hb d_C_gatherCandidates_54 (by decide) ?_
              exact ih_4 x1 x2 (x3 + 1) g H locs ls hw (lv_sub hl [2, 3, 4, 0] rfl) hok hF
            · have hok := hok.1 c_8
              have hF := (if_pos c_8).symm.trans hF
              refine lv_aload_n hx hb d_C_gatherCandidates_41 rfl (lv_at hl 1 rfl) ?_
              refine gCC_6 h0 hw d_C_gatherCandidates_42 ?_
              refine lv_iload_n hx hb d_C_gatherCandidates_45 rfl (lv_at hl 3 rfl) ?_
              refine lv_iload_n hx hb d_C_gatherCandidates_46 rfl (lv_at hl 4 rfl) ?_
              obtain ⟨hi_9, hok⟩ := hok
              refine s_candidates h0 hw hi_9 d_C_gatherCandidates_47 (fun H locs hw => ?_)
              refine lv_iinc (v := x2 + 1) (lv' := [(2, .int (x2 + 1)), (4, .ref (ad 1 x3.toNatClampNeg)), (0, .ref (ad 0 0)), (1, .int x1), (3, .int x3)]) hx hb d_C_gatherCandidates_48 hl (k := 3) rfl rfl (by decide) rfl (fun ls hl => ?_)
              refine lv_iinc (v := x3 + 1) (lv' := [(3, .int (x3 + 1)), (2, .int (x2 + 1)), (4, .ref (ad 1 x3.toNatClampNeg)), (0, .ref (ad 0 0)), (1, .int x1)]) hx hb d_C_gatherCandidates_51 hl (k := 4) rfl rfl (by decide) rfl (fun ls hl => ?_)
              refine lv_goto (tgt := 4) hx hb d_C_gatherCandidates_54 (by decide) ?_
              exact ih_4 x1 (x2 + 1) (x3 + 1) (u3 g 4 0 x2.toNatClampNeg x3) H locs ls hw (lv_sub hl [3, 4, 1, 0] rfl) hok hF
  exact lp_4 200 x1 0 0 g H locs ls hw (lv_sub hl [2, 3, 1, 0] rfl) hok hF
set_option maxHeartbeats 4000000 in
set_option maxRecDepth 100000 in
theorem cC_countPlace (l : Launch) (D : va_G) (tc : Nat → ClassId) (sa : Nat → Nat) (ad : Nat → Nat → Nat) (Y : va_W) (sz : Nat) (i1 : Nat) (x2 : Int32) (i3 : Nat) (g : Nat → Nat → Nat → Int32) (N : Nat → Nat) (hj1 : i1 < N 2) (hj3 : i3 < N 0) {F : Nat → Nat → Nat → Int32} (hok : kC_countPlace i1 x2 i3 g N) (hF : fC_countPlace i1 x2 i3 g N = F) : Met l y_C_countPlace (Cond.code y_C_countPlace b_C_countPlace 8 none :: gw) ({ frames := 2, cells := 0, slots := 0, locals := 43 } : Room) (va_Pc [.ref (ad 0 0), .ref (ad 4 i1), .int x2, .ref (ad 1 i3)] (pC D tc sa (cl tc g N ad ++ Y) sz)) (va_Qv (fun u => u = F) (fun u t => qW D tc (va_A (cl tc g N ad ++ Y) sz) (cl tc u N ad ++ Y) t) (va_A (cl tc g N ad ++ Y) sz)) 0 0 (va_A (cl tc g N ad ++ Y) sz) := by
  refine en_C (by decide) (Nat.le_of_ble_eq_true rfl) ?_
  intro p e s m args below meth c ls h0 hN hX hr hlocks hin hsz hw hl
  obtain ⟨hx, hb, hml, hown, hts, hK⟩ := id h0
  have hA : ∀ q : Nat, s.heap.size ≤ q → (va_A (cl tc g N ad ++ Y) sz) q := fun q h => Or.inr (by rw [← hsz]; exact h)
  generalize va_A (cl tc g N ad ++ Y) sz = A at hw hA hX ⊢
  obtain ⟨H, eH⟩ : ∃ z, z = s.heap := ⟨_, rfl⟩
  obtain ⟨locs, eL⟩ : ∃ z : List Loc, z = [] := ⟨_, rfl⟩
  have hw : wH D A s.heap (cl tc g N ad ++ Y) H locs := by rw [eH, eL]; exact hw
  have gl : W p l e ({ frames := 2, cells := 0, slots := 0, locals := 43 } : Room) s m args below meth c H locs 0 0 (MQ below (va_Qv (fun u => u = F) (fun u t => qW D tc A (cl tc u N ad ++ Y) t) A) args s 0 0 A) (F0 m 0 ls []) := ?_
  · rw [eH, eL] at gl; exact gl
  have hl : lv_has ls 8 [(0, .ref (ad 0 0)), (1, .ref (ad 4 i1)), (2, .int x2), (3, .ref (ad 1 i3))] := hl
  unfold kC_countPlace at hok
  unfold fC_countPlace at hF
  refine lv_iconst (v := 1) hx hb d_C_countPlace_0 (by decide) ?_
  refine lv_istore (lv' := [(4, .int 1), (0, .ref (ad 0 0)), (1, .ref (ad 4 i1)), (2, .int x2), (3, .ref (ad 1 i3))]) hx hb d_C_countPlace_1 hl (by decide) rfl (fun ls hl => ?_)
  refine lv_iconst (v := 0) hx hb d_C_countPlace_3 (by decide) ?_
  refine lv_istore (lv' := [(5, .int 0), (4, .int 1), (0, .ref (ad 0 0)), (1, .ref (ad 4 i1)), (2, .int x2), (3, .ref (ad 1 i3))]) hx hb d_C_countPlace_4 hl (by decide) rfl (fun ls hl => ?_)
  have hx_6 : ∀ (i1 : Nat) (x2 : Int32) (i3 : Nat) (x4 : Int32) (x5 : Int32) (g : Nat → Nat → Nat → Int32) (H : Heap) (locs : List Loc) (ls : Array Slot), i1 < N 2 → i3 < N 0 → wH D A s.heap (cl tc g N ad ++ Y) H locs → lv_has ls 8 [(0, .ref (ad 0 0)), (1, .ref (ad 4 i1)), (2, .int x2), (3, .ref (ad 1 i3)), (4, .int x4), (5, .int x5)] → kC_countPlace_6x i1 x2 i3 x4 x5 g N → fC_countPlace_6x i1 x2 i3 x4 x5 g N = F → W p l e ({ frames := 2, cells := 0, slots := 0, locals := 43 } : Room) s m args below meth c H locs 0 0 (MQ below (va_Qv (fun u => u = F) (fun u t => qW D tc A (cl tc u N ad ++ Y) t) A) args s 0 0 A) (F0 m 69 ls []) := by
    intro i1 x2 i3 x4 x5 g H locs ls hj1 hj3 hw hl hok hF
    unfold kC_countPlace_6x at hok
    unfold fC_countPlace_6x at hF
    refine lv_aload_n hx hb d_C_countPlace_69 rfl (lv_at hl 3 rfl) ?_
    refine lv_aload_n hx hb d_C_countPlace_70 rfl (lv_at hl 0 rfl) ?_
    refine gCC_10 h0 hw d_C_countPlace_71 ?_
    refine pCP_2 h0 hN hw hj3 d_C_countPlace_74 (fun H locs hw => ?_)
    refine lv_aload_n hx hb d_C_countPlace_77 rfl (lv_at hl 0 rfl) ?_
    refine lv_dup hx hb d_C_countPlace_78 rfl ?_
    refine gCC_12 h0 hw d_C_countPlace_79 ?_
    refine W.eq (g2 := F0 m 82 ls [.int (g 0 0 5), .ref (ad 0 0)]) rfl ?_
    refine lv_iconst (v := 1) hx hb d_C_countPlace_82 (by decide) ?_
    refine lv_iadd hx hb d_C_countPlace_83 ?_
    refine pCC_12 h0 hw d_C_countPlace_84 (fun H locs hw => ?_)
    refine lv_iload hx hb d_C_countPlace_87 (lv_at hl 4 rfl) ?_
    refine lv_if_eq (tgt := 102) hx hb d_C_countPlace_89 (by decide) (fun c_1 => ?_) (fun c_1 => ?_)
    · have hok := hok.1 c_1
      have hF := (if_pos c_1).symm.trans hF
      exact rt_v h0 hw hr hlocks (u3 (u3 g 5 i3 1 (g 0 0 3)) 0 0 5 ((g 0 0 5) + 1)) hF rfl d_C_countPlace_102 (Nat.le_of_ble_eq_true rfl) (Nat.le_of_ble_eq_true rfl)
    · have hok := hok.2 c_1
      have hF := (if_neg c_1).symm.trans hF
      refine lv_aload_n hx hb d_C_countPlace_92 rfl (lv_at hl 0 rfl) ?_
      refine lv_dup hx hb d_C_countPlace_93 rfl ?_
      refine gCC_13 h0 hw d_C_countPlace_94 ?_
      refine W.eq (g2 := F0 m 97 ls [.int (g 0 0 6), .ref (ad 0 0)]) rfl ?_
      refine lv_iconst (v := 1) hx hb d_C_countPlace_97 (by decide) ?_
      refine lv_iadd hx hb d_C_countPlace_98 ?_
      refine pCC_13 h0 hw d_C_countPlace_99 (fun H locs hw => ?_)
      exact rt_v h0 hw hr hlocks (u3 (u3 (u3 g 5 i3 1 (g 0 0 3)) 0 0 5 ((g 0 0 5) + 1)) 0 0 6 ((g 0 0 6) + 1)) hF rfl d_C_countPlace_102 (Nat.le_of_ble_eq_true rfl) (Nat.le_of_ble_eq_true rfl)
  have lp_6 : ∀ (n6 : Nat) (i1 : Nat) (x2 : Int32) (i3 : Nat) (x4 : Int32) (x5 : Int32) (g : Nat → Nat → Nat → Int32) (H : Heap) (locs : List Loc) (ls : Array Slot), i1 < N 2 → i3 < N 0 → wH D A s.heap (cl tc g N ad ++ Y) H locs → lv_has ls 8 [(0, .ref (ad 0 0)), (1, .ref (ad 4 i1)), (2, .int x2), (3, .ref (ad 1 i3)), (4, .int x4), (5, .int x5)] → kC_countPlace_6 kC_countPlace_6x n6 i1 x2 i3 x4 x5 g N → fC_countPlace_6 fC_countPlace_6x n6 i1 x2 i3 x4 x5 g N = F → W p l e ({ frames := 2, cells := 0, slots := 0, locals := 43 } : Room) s m args below meth c H locs 0 0 (MQ below (va_Qv (fun u => u = F) (fun u t => qW D tc A (cl tc u N ad ++ Y) t) A) args s 0 0 A) (F0 m 6 ls []) := by
    intro n6
    induction n6 with
    | zero =>
      intro i1 x2 i3 x4 x5 g H locs ls hj1 hj3 hw hl hok hF
      unfold kC_countPlace_6 at hok
      exact hok.elim
    | succ n6 ih_6 =>
      intro i1 x2 i3 x4 x5 g H locs ls hj1 hj3 hw hl hok hF
      unfold kC_countPlace_6 at hok
      unfold fC_countPlace_6 at hF
      refine lv_iload hx hb d_C_countPlace_6 (lv_at hl 5 rfl) ?_
      refine lv_bipush (v := 6) hx hb d_C_countPlace_8 (by decide) ?_
      refine lv_icmp_ge (tgt := 69) hx hb d_C_countPlace_10 (by decide) (fun c_2 => ?_) (fun c_2 => ?_)
      · have hok := hok.1 c_2
        have hF := (if_pos c_2).symm.trans hF
        exact hx_6 i1 x2 i3 x4 x5 g H locs ls hj1 hj3 hw (lv_sub hl [0, 1, 2, 3, 4, 5] rfl) hok hF
      · have hok := hok.2 c_2
        have hF := (if_neg c_2).symm.trans hF
        refine lv_iload_n hx hb d_C_countPlace_13 rfl (lv_at hl 2 rfl) ?_
        refine lv_bipush (v := 6) hx hb d_C_countPlace_14 (by decide) ?_
        refine lv_imul hx hb d_C_countPlace_16 ?_
        refine lv_iload hx hb d_C_countPlace_17 (lv_at hl 5 rfl) ?_
        refine lv_iadd hx hb d_C_countPlace_19 ?_
        refine lv_istore (lv' := [(6, .int ((x2 * 6) + x5)), (0, .ref (ad 0 0)), (1, .ref (ad 4 i1)), (2, .int x2), (3, .ref (ad 1 i3)), (4, .int x4), (5, .int x5)]) hx hb d_C_countPlace_20 hl (by decide) rfl (fun ls hl => ?_)
        refine lv_aload_n hx hb d_C_countPlace_22 rfl (lv_at hl 2 rfl) ?_
        refine lv_iload hx hb d_C_countPlace_23 (lv_at hl 0 rfl) ?_
        obtain ⟨hi_3, hok⟩ := hok
        refine dn_p (n := 1) (C := "CountRounds$Sheet") (b := ad 4 i1) (q0 := bw_o (cb tc g N ad) 11 + i1) (ci := 1) (As := [.int ((x2 * 6) + x5)]) (rest := []) h0 hX hw hA (cS_differenceOf l D tc sa ad Y H.size i1 ((x2 * 6) + x5) g N hj1 hi_3 rfl) wd_491 wn_488 wd_15 wd_490 (gw_s 14 rfl rfl) (by decide +kernel) ⟨rfl, rfl, (Nat.le_of_ble_eq_true rfl), (Nat.le_of_ble_eq_true rfl), (Nat.le_of_ble_eq_true rfl), (Nat.le_of_ble_eq_true rfl)⟩ (bw_get (bs := cb tc g N ad) (j := 11) rfl hj1 Y) rfl rfl hl.1 rfl (Nat.le_of_ble_eq_true rfl) d_C_countPlace_25 ?_
        refine lv_istore (lv' := [(7, .int (fS_differenceOf i1 ((x2 * 6) + x5) g N)), (6, .int ((x2 * 6) + x5)), (0, .ref (ad 0 0)), (1, .ref (ad 4 i1)), (2, .int x2), (3, .ref (ad 1 i3)), (4, .int x4), (5, .int x5)]) hx hb d_C_countPlace_28 hl (by decide) rfl (fun ls hl => ?_)
        refine lv_iload hx hb d_C_countPlace_30 (lv_at hl 0 rfl) ?_
        refine lv_if_eq (tgt := 41) hx hb d_C_countPlace_32 (by decide) (fun c_4 => ?_) (fun c_4 => ?_)
        · have hok := hok.1 c_4
          have hF := (if_pos c_4).symm.trans hF
          refine lv_iload hx hb d_C_countPlace_41 (lv_at hl 6 rfl) ?_
          refine lv_if_eq (tgt := 60) hx hb d_C_countPlace_43 (by decide) (fun c_5 => ?_) (fun c_5 => ?_)
          · have hok := hok.1 c_5
            have hF := (if_pos c_5).symm.trans hF
            refine lv_iconst (v := 0) hx hb d_C_countPlace_60 (by decide) ?_
            refine lv_istore (lv' := [(4, .int 0), (7, .int (fS_differenceOf i1 ((x2 * 6) + x5) g N)), (6, .int ((x2 * 6) + x5)), (0, .ref (ad 0 0)), (1, .ref (ad 4 i1)), (2, .int x2), (3, .ref (ad 1 i3)), (5, .int x5)]) hx hb d_C_countPlace_61 hl (by decide) rfl (fun ls hl => ?_)
            refine lv_iinc (v := x5 + 1) (lv' := [(5, .int (x5 + 1)), (4, .int 0), (7, .int (fS_differenceOf i1 ((x2 * 6) + x5) g N)), (6, .int ((x2 * 6) + x5)), (0, .ref (ad 0 0)), (1, .ref (ad 4 i1)), (2, .int x2), (3, .ref (ad 1 i3))]) hx hb d_C_countPlace_63 hl (k := 7) rfl rfl (by decide) rfl (fun ls hl => ?_)
            refine lv_goto (tgt := 6) hx hb d_C_countPlace_66 (by decide) ?_
            exact ih_6 i1 x2 i3 0 (x5 + 1) g H locs ls hj1 hj3 hw (lv_sub hl [4, 5, 6, 7, 1, 0] rfl) hok hF
          · have hok := hok.2 c_5
            have hF := (if_neg c_5).symm.trans hF
            refine lv_aload_n hx hb d_C_countPlace_46 rfl (lv_at hl 2 rfl) ?_
            refine lv_iload hx hb d_C_countPlace_47 (lv_at hl 0 rfl) ?_
            refine lv_aload_n hx hb d_C_countPlace_49 rfl (lv_at hl 5 rfl) ?_
            obtain ⟨hi_6, hok⟩ := hok
            refine dv_p (n := 2) (C := "CountRounds") (b := ad 0 0) (q0 := bw_o (cb tc g N ad) 0 + 0) (ci := 3) (As := [.int (fS_differenceOf i1 ((x2 * 6) + x5) g N), .ref (ad 1 i3)]) (rest := []) h0 hX hw hA (cC_isTolerated l D tc sa ad Y H.size (fS_differenceOf i1 ((x2 * 6) + x5) g N) i3 g N hj3 hi_6 rfl) (gd_V wd_492 wd_494 (gw_s 15 rfl rfl) wd_1 wd_495) (by decide +kernel) ⟨rfl, rfl, (Nat.le_of_ble_eq_true rfl), (Nat.le_of_ble_eq_true rfl), (Nat.le_of_ble_eq_true rfl), (Nat.le_of_ble_eq_true rfl)⟩ (bw_get (bs := cb tc g N ad) (j := 0) rfl Nat.one_pos Y) rfl rfl hl.1 rfl (Nat.le_of_ble_eq_true rfl) d_C_countPlace_50 ?_
            refine lv_if_eq (tgt := 60) hx hb d_C_countPlace_53 (by decide) (fun c_7 => ?_) (fun c_7 => ?_)
            · have hok := hok.1 c_7
              have hF := (if_pos c_7).symm.trans hF
              refine lv_iconst (v := 0) hx hb d_C_countPlace_60 (by decide) ?_
              refine lv_istore (lv' := [(4, .int 0), (7, .int (fS_differenceOf i1 ((x2 * 6) + x5) g N)), (6, .int ((x2 * 6) + x5)), (0, .ref (ad 0 0)), (1, .ref (ad 4 i1)), (2, .int x2), (3, .ref (ad 1 i3)), (5, .int x5)]) hx hb d_C_countPlace_61 hl (by decide) rfl (fun ls hl => ?_)
              refine lv_iinc (v := x5 + 1) (lv' := [(5, .int (x5 + 1)), (4, .int 0), (7, .int (fS_differenceOf i1 ((x2 * 6) + x5) g N)), (6, .int ((x2 * 6) + x5)), (0, .ref (ad 0 0)), (1, .ref (ad 4 i1)), (2, .int x2), (3, .ref (ad 1 i3))]) hx hb d_C_countPlace_63 hl (k := 7) rfl rfl (by decide) rfl (fun ls hl => ?_)
              refine lv_goto (tgt := 6) hx hb d_C_countPlace_66 (by decide) ?_
              exact ih_6 i1 x2 i3 0 (x5 + 1) g H locs ls hj1 hj3 hw (lv_sub hl [4, 5, 6, 7, 1, 0] rfl) hok hF
            · have hok := hok.2 c_7
              have hF := (if_neg c_7).symm.trans hF
              refine lv_iconst (v := 1) hx hb d_C_countPlace_56 (by decide) ?_
              refine lv_goto (tgt := 61) hx hb d_C_countPlace_57 (by decide) ?_
              refine lv_istore (lv' := [(4, .int 1), (7, .int (fS_differenceOf i1 ((x2 * 6) + x5) g N)), (6, .int ((x2 * 6) + x5)), (0, .ref (ad 0 0)), (1, .ref (ad 4 i1)), (2, .int x2), (3, .ref (ad 1 i3)), (5, .int x5)]) hx hb d_C_countPlace_61 hl (by decide) rfl (fun ls hl => ?_)
              refine lv_iinc (v := x5 + 1) (lv' := [(5, .int (x5 + 1)), (4, .int 1), (7, .int (fS_differenceOf i1 ((x2 * 6) + x5) g N)), (6, .int ((x2 * 6) + x5)), (0, .ref (ad 0 0)), (1, .ref (ad 4 i1)), (2, .int x2), (3, .ref (ad 1 i3))]) hx hb d_C_countPlace_63 hl (k := 7) rfl rfl (by decide) rfl (fun ls hl => ?_)
              refine lv_goto (tgt := 6) hx hb d_C_countPlace_66 (by decide) ?_
              exact ih_6 i1 x2 i3 1 (x5 + 1) g H locs ls hj1 hj3 hw (lv_sub hl [4, 5, 6, 7, 1, 0] rfl) hok hF
        · have hok := hok.2 c_4
          have hF := (if_neg c_4).symm.trans hF
          refine lv_aload_n hx hb d_C_countPlace_35 rfl (lv_at hl 3 rfl) ?_
          refine lv_iload hx hb d_C_countPlace_36 (lv_at hl 1 rfl) ?_
          obtain ⟨hi_8, hok⟩ := hok
          refine dn_v (wd := fun u => cl tc u N ad ++ Y) (n := 1) (C := "CountRounds$Sheet") (b := ad 4 i1) (q0 := bw_o (cb tc g N ad) 11 + i1) (ci := 1) (As := [.int ((x2 * 6) + x5)]) (rest := []) h0 hX hw hA (cS_addDifference l D tc sa ad Y H.size i1 ((x2 * 6) + x5) g N hj1 hi_8 rfl) wd_517 wn_514 wd_15 wd_516 (gw_s 18 rfl rfl) (by decide +kernel) ⟨rfl, rfl, (Nat.le_of_ble_eq_true rfl), (Nat.le_of_ble_eq_true rfl), (Nat.le_of_ble_eq_true rfl), (Nat.le_of_ble_eq_true rfl)⟩ (bw_get (bs := cb tc g N ad) (j := 11) rfl hj1 Y) rfl rfl hl.1 rfl (Nat.le_of_ble_eq_true rfl) d_C_countPlace_38 (fun u H locs hu hw => ?_)
          subst hu
          refine lv_iload hx hb d_C_countPlace_41 (lv_at hl 6 rfl) ?_
          refine lv_if_eq (tgt := 60) hx hb d_C_countPlace_43 (by decide) (fun c_9 => ?_) (fun c_9 => ?_)
          · have hok := hok.1 c_9
            have hF := (if_pos c_9).symm.trans hF
            refine lv_iconst (v := 0) hx hb d_C_countPlace_60 (by decide) ?_
            refine lv_istore (lv' := [(4, .int 0), (7, .int (fS_differenceOf i1 ((x2 * 6) + x5) g N)), (6, .int ((x2 * 6) + x5)), (0, .ref (ad 0 0)), (1, .ref (ad 4 i1)), (2, .int x2), (3, .ref (ad 1 i3)), (5, .int x5)]) hx hb d_C_countPlace_61 hl (by decide) rfl (fun ls hl => ?_)
            refine lv_iinc (v := x5 + 1) (lv' := [(5, .int (x5 + 1)), (4, .int 0), (7, .int (fS_differenceOf i1 ((x2 * 6) + x5) g N)), (6, .int ((x2 * 6) + x5)), (0, .ref (ad 0 0)), (1, .ref (ad 4 i1)), (2, .int x2), (3, .ref (ad 1 i3))]) hx hb d_C_countPlace_63 hl (k := 7) rfl rfl (by decide) rfl (fun ls hl => ?_)
            refine lv_goto (tgt := 6) hx hb d_C_countPlace_66 (by decide) ?_
            exact ih_6 i1 x2 i3 0 (x5 + 1) (fS_addDifference i1 ((x2 * 6) + x5) g N) H locs ls hj1 hj3 hw (lv_sub hl [4, 5, 6, 7, 1, 0] rfl) hok hF
          · have hok := hok.2 c_9
            have hF := (if_neg c_9).symm.trans hF
            refine lv_aload_n hx hb d_C_countPlace_46 rfl (lv_at hl 2 rfl) ?_
            refine lv_iload hx hb d_C_countPlace_47 (lv_at hl 0 rfl) ?_
            refine lv_aload_n hx hb d_C_countPlace_49 rfl (lv_at hl 5 rfl) ?_
            obtain ⟨hi_10, hok⟩ := hok
            refine dv_p (n := 2) (C := "CountRounds") (b := ad 0 0) (q0 := bw_o (cb tc (fS_addDifference i1 ((x2 * 6) + x5) g N) N ad) 0 + 0) (ci := 3) (As := [.int (fS_differenceOf i1 ((x2 * 6) + x5) g N), .ref (ad 1 i3)]) (rest := []) h0 hX hw hA (cC_isTolerated l D tc sa ad Y H.size (fS_differenceOf i1 ((x2 * 6) + x5) g N) i3 (fS_addDifference i1 ((x2 * 6) + x5) g N) N hj3 hi_10 rfl) (gd_V wd_492 wd_494 (gw_s 15 rfl rfl) wd_1 wd_495) (by decide +kernel) ⟨rfl, rfl, (Nat.le_of_ble_eq_true rfl), (Nat.le_of_ble_eq_true rfl), (Nat.le_of_ble_eq_true rfl), (Nat.le_of_ble_eq_true rfl)⟩ (bw_get (bs := cb tc (fS_addDifference i1 ((x2 * 6) + x5) g N) N ad) (j := 0) rfl Nat.one_pos Y) rfl rfl hl.1 rfl (Nat.le_of_ble_eq_true rfl) d_C_countPlace_50 ?_
            refine lv_if_eq (tgt := 60) hx hb d_C_countPlace_53 (by decide) (fun c_11 => ?_) (fun c_11 => ?_)
            · have hok := hok.1 c_11
              have hF := (if_pos c_11).symm.trans hF
              refine lv_iconst (v := 0) hx hb d_C_countPlace_60 (by decide) ?_
              refine lv_istore (lv' := [(4, .int 0), (7, .int (fS_differenceOf i1 ((x2 * 6) + x5) g N)), (6, .int ((x2 * 6) + x5)), (0, .ref (ad 0 0)), (1, .ref (ad 4 i1)), (2, .int x2), (3, .ref (ad 1 i3)), (5, .int x5)]) hx hb d_C_countPlace_61 hl (by decide) rfl (fun ls hl => ?_)
              refine lv_iinc (v := x5 + 1) (lv' := [(5, .int (x5 + 1)), (4, .int 0), (7, .int (fS_differenceOf i1 ((x2 * 6) + x5) g N)), (6, .int ((x2 * 6) + x5)), (0, .ref (ad 0 0)), (1, .ref (ad 4 i1)), (2, .int x2), (3, .ref (ad 1 i3))]) hx hb d_C_countPlace_63 hl (k := 7) rfl rfl (by decide) rfl (fun ls hl => ?_)
              refine lv_goto (tgt := 6) hx hb d_C_countPlace_66 (by decide) ?_
              exact ih_6 i1 x2 i3 0 (x5 + 1) (fS_addDifference i1 ((x2 * 6) + x5) g N) H locs ls hj1 hj3 hw (lv_sub hl [4, 5, 6, 7, 1, 0] rfl) hok hF
            · have hok := hok.2 c_11
              have hF := (if_neg c_11).symm.trans hF
              refine lv_iconst (v := 1) hx hb d_C_countPlace_56 (by decide) ?_
              refine lv_goto (tgt := 61) hx hb d_C_countPlace_57 (by decide) ?_
              refine lv_istore (lv' := [(4, .int 1), (7, .int (fS_differenceOf i1 ((x2 * 6) + x5) g N)), (6, .int ((x2 * 6) + x5)), (0, .ref (ad 0 0)), (1, .ref (ad 4 i1)), (2, .int x2), (3, .ref (ad 1 i3)), (5, .int x5)]) hx hb d_C_countPlace_61 hl (by decide) rfl (fun ls hl => ?_)
              refine lv_iinc (v := x5 + 1) (lv' := [(5, .int (x5 + 1)), (4, .int 1), (7, .int (fS_differenceOf i1 ((x2 * 6) + x5) g N)), (6, .int ((x2 * 6) + x5)), (0, .ref (ad 0 0)), (1, .ref (ad 4 i1)), (2, .int x2), (3, .ref (ad 1 i3))]) hx hb d_C_countPlace_63 hl (k := 7) rfl rfl (by decide) rfl (fun ls hl => ?_)
              refine lv_goto (tgt := 6) hx hb d_C_countPlace_66 (by decide) ?_
              exact ih_6 i1 x2 i3 1 (x5 + 1) (fS_addDifference i1 ((x2 * 6) + x5) g N) H locs ls hj1 hj3 hw (lv_sub hl [4, 5, 6, 7, 1, 0] rfl) hok hF
  exact lp_6 200 i1 x2 i3 1 0 g H locs ls hj1 hj3 hw (lv_sub hl [2, 3, 4, 5, 1, 0] rfl) hok hF
set_option maxHeartbeats 4000000 in
set_option maxRecDepth 100000 in
theorem cC_count (l : Launch) (D : va_G) (tc : Nat → ClassId) (sa : Nat → Nat) (ad : Nat → Nat → Nat) (Y : va_W) (sz : Nat) (x1 : Int32) (g : Nat → Nat → Nat → Int32) (N : Nat → Nat) {F : Int32} (hok : kC_count x1 g N) (hF : fC_count x1 g N = F) : Met l y_C_count (Cond.code y_C_count b_C_count 2 (some .int) :: gw) ({ frames := 3, cells := 0, slots := 0, locals := 66 } : Room) (va_Pc [.ref (ad 0 0), .int x1] (pC D tc sa (cl tc g N ad ++ Y) sz)) (qP (.int F)) 0 0 (fun _ => False) := by
  refine en_C (by decide) (Nat.le_of_ble_eq_true rfl) ?_
  intro p e s m args below meth c ls h0 hN hX hr hlocks hin hsz hw hl
  obtain ⟨hx, hb, hml, hown, hts, hK⟩ := id h0
  have hA : ∀ q : Nat, s.heap.size ≤ q → (va_A (cl tc g N ad ++ Y) sz) q := fun q h => Or.inr (by rw [← hsz]; exact h)
  generalize va_A (cl tc g N ad ++ Y) sz = A at hw hA hX
  have hl : lv_has ls 2 [(0, .ref (ad 0 0)), (1, .int x1)] := hl
  unfold kC_count at hok
  unfold fC_count at hF
  refine lv_iload_n hx hb d_C_count_0 rfl (lv_at hl 1 rfl) ?_
  by_cases c_1 : x1 = 0
  · have hok := hok.1 c_1
    have hF := (if_pos c_1).symm.trans hF
    refine lv_tableIn (tgt := 36) hx hb d_C_count_1 (by rw [c_1]; decide) (by rw [c_1]; decide) (by rw [c_1]; rfl) (by decide) ?_
    refine lv_aload_n hx hb d_C_count_36 rfl (lv_at hl 0 rfl) ?_
    refine gCC_7 h0 hw d_C_count_37 ?_
    exact rt_p hx hb hr hlocks rfl (by rw [← hF]) d_C_count_40 (Nat.le_refl 0) (Nat.le_refl 0)
  have hok := hok.2 c_1
  have hF := (if_neg c_1).symm.trans hF
  by_cases c_2 : x1 = 1
  · have hok := hok.1 c_2
    have hF := (if_pos c_2).symm.trans hF
    refine lv_tableIn (tgt := 41) hx hb d_C_count_1 (by rw [c_2]; decide) (by rw [c_2]; decide) (by rw [c_2]; rfl) (by decide) ?_
    refine lv_aload_n hx hb d_C_count_41 rfl (lv_at hl 0 rfl) ?_
    refine gCC_8 h0 hw d_C_count_42 ?_
    exact rt_p hx hb hr hlocks rfl (by rw [← hF]) d_C_count_45 (Nat.le_refl 0) (Nat.le_refl 0)
  have hok := hok.2 c_2
  have hF := (if_neg c_2).symm.trans hF
  by_cases c_3 : x1 = 2
  · have hok := hok.1 c_3
    have hF := (if_pos c_3).symm.trans hF
    refine lv_tableIn (tgt := 46) hx hb d_C_count_1 (by rw [c_3]; decide) (by rw [c_3]; decide) (by rw [c_3]; rfl) (by decide) ?_
    refine lv_aload_n hx hb d_C_count_46 rfl (lv_at hl 0 rfl) ?_
    refine gCC_9 h0 hw d_C_count_47 ?_
    exact rt_p hx hb hr hlocks rfl (by rw [← hF]) d_C_count_50 (Nat.le_refl 0) (Nat.le_refl 0)
  have hok := hok.2 c_3
  have hF := (if_neg c_3).symm.trans hF
  by_cases c_4 : x1 = 3
  · have hok := hok.1 c_4
    have hF := (if_pos c_4).symm.trans hF
    refine lv_tableIn (tgt := 51) hx hb d_C_count_1 (by rw [c_4]; decide) (by rw [c_4]; decide) (by rw [c_4]; rfl) (by decide) ?_
    refine lv_aload_n hx hb d_C_count_51 rfl (lv_at hl 0 rfl) ?_
    refine gCC_10 h0 hw d_C_count_52 ?_
    exact rt_p hx hb hr hlocks rfl (by rw [← hF]) d_C_count_55 (Nat.le_refl 0) (Nat.le_refl 0)
  have hok := hok.2 c_4
  have hF := (if_neg c_4).symm.trans hF
  by_cases c_5 : x1 = 4
  · have hok := hok.1 c_5
    have hF := (if_pos c_5).symm.trans hF
    refine lv_tableIn (tgt := 56) hx hb d_C_count_1 (by rw [c_5]; decide) (by rw [c_5]; decide) (by rw [c_5]; rfl) (by decide) ?_
    refine lv_aload_n hx hb d_C_count_56 rfl (lv_at hl 0 rfl) ?_
    obtain ⟨hi_6, hok⟩ := hok
    refine dv_p (n := 0) (C := "CountRounds") (b := ad 0 0) (q0 := bw_o (cb tc g N ad) 0 + 0) (ci := 3) (As := []) (rest := []) h0 hX hw hA (cC_openMoves l D tc sa ad Y s.heap.size g N hi_6 rfl) (gd_V wd_82 wd_84 (gw_s 0 rfl rfl) wd_1 wd_85) (by decide +kernel) ⟨rfl, rfl, (Nat.le_of_ble_eq_true rfl), (Nat.le_of_ble_eq_true rfl), (Nat.le_of_ble_eq_true rfl), (Nat.le_of_ble_eq_true rfl)⟩ (bw_get (bs := cb tc g N ad) (j := 0) rfl Nat.one_pos Y) rfl rfl hl.1 rfl (Nat.le_of_ble_eq_true rfl) d_C_count_57 ?_
    exact rt_p hx hb hr hlocks rfl (by rw [← hF]) d_C_count_60 (Nat.le_refl 0) (Nat.le_refl 0)
  have hok := hok.2 c_5
  have hF := (if_neg c_5).symm.trans hF
  have ec_1 := lv_neT (a := 0) c_1 rfl
  have ec_2 := lv_neT (a := 1) c_2 rfl
  have ec_3 := lv_neT (a := 2) c_3 rfl
  have ec_4 := lv_neT (a := 3) c_4 rfl
  have ec_5 := lv_neT (a := 4) c_5 rfl
  refine lv_tableOut (tgt := 61) hx hb d_C_count_1 (by omega) (by decide) ?_
  refine lv_iconst (v := (-1)) hx hb d_C_count_61 (by decide) ?_
  exact rt_p hx hb hr hlocks rfl (by rw [← hF]) d_C_count_62 (Nat.le_refl 0) (Nat.le_refl 0)
set_option maxHeartbeats 4000000 in
set_option maxRecDepth 100000 in
theorem cC_cycle (l : Launch) (hlt : l.stackTraces = false) (D : va_G) (tc : Nat → ClassId) (sa : Nat → Nat) (ad : Nat → Nat → Nat) (Y : va_W) (sz : Nat) (x1 : Int32) (x2 : Int32) (x3 : Int32) (g : Nat → Nat → Nat → Int32) (N : Nat → Nat) {F : Option String × Int32 × (Nat → Nat → Nat → Int32)} (hok : kC_cycle x1 x2 x3 g N) (hF : fC_cycle x1 x2 x3 g N = F) : vx_Met l y_C_cycle (Cond.code y_C_cycle b_C_cycle 4 none :: gw) ({ frames := 6, cells := 1, slots := 6, locals := 82 } : Room) (va_Pc [.ref (ad 0 0), .int x1, .int x2, .int x3] (pC D tc sa (cl tc g N ad ++ Y) sz)) (va_Qv (fun u => (none, (0 : Int32), u) = F) (fun u t => qW D tc (va_A (cl tc g N ad ++ Y) sz) (cl tc u N ad ++ Y) t) (va_A (cl tc g N ad ++ Y) sz)) (xC D tc (va_A (cl tc g N ad ++ Y) sz) (fun E u => (some E, (0 : Int32), u) = F) (fun u => cl tc u N ad ++ Y)) 1 6 (va_A (cl tc g N ad ++ Y) sz) := by
  refine en_X (by decide) (Nat.le_of_ble_eq_true rfl) ?_
  intro p e s m args below meth c ls h0 hN hX hr hlocks htab hsz hw hl
  obtain ⟨hx, hb, hml, hown, hts, hK⟩ := id h0
  have hA : ∀ q : Nat, s.heap.size ≤ q → (va_A (cl tc g N ad ++ Y) sz) q := fun q h => Or.inr (by rw [← hsz]; exact h)
  generalize va_A (cl tc g N ad ++ Y) sz = A at hw hA hX ⊢
  obtain ⟨H, eH⟩ : ∃ z, z = s.heap := ⟨_, rfl⟩
  obtain ⟨locs, eL⟩ : ∃ z : List Loc, z = [] := ⟨_, rfl⟩
  have hw : wH D A s.heap (cl tc g N ad ++ Y) H locs := by rw [eH, eL]; exact hw
  have gl : W p l e ({ frames := 6, cells := 1, slots := 6, locals := 82 } : Room) s m args below meth c H locs 0 0 (vx_MQ below (va_Qv (fun u => (none, (0 : Int32), u) = F) (fun u t => qW D tc A (cl tc u N ad ++ Y) t) A) (xC D tc A (fun E u => (some E, (0 : Int32), u) = F) (fun u => cl tc u N ad ++ Y)) args s 1 6 A) (F0 m 0 ls []) := ?_
  · rw [eH, eL] at gl; exact gl
  have hl : lv_has ls 4 [(0, .ref (ad 0 0)), (1, .int x1), (2, .int x2), (3, .int x3)] := hl
  unfold kC_cycle at hok
  unfold fC_cycle at hF
  refine lv_iload_n hx hb d_C_cycle_0 rfl (lv_at hl 1 rfl) ?_
  obtain ⟨hi_1, hok⟩ := hok
  refine cs_p (n := 1) (As := [.int x1]) (rest := []) hx hb hml hown hts (cC_isKind l x1 hi_1 rfl) (gd_S wd_172 wd_173 wd_1 wd_174) (by decide +kernel) ⟨rfl, rfl, (Nat.le_of_ble_eq_true rfl), (Nat.le_of_ble_eq_true rfl), (Nat.le_of_ble_eq_true rfl), (Nat.le_of_ble_eq_true rfl)⟩ rfl hl.1 rfl (Nat.le_of_ble_eq_true rfl) d_C_cycle_1 ?_
  refine lv_if_eq (tgt := 29) hx hb d_C_cycle_4 (by decide) (fun c_2 => ?_) (fun c_2 => ?_)
  · have hok := hok.1 c_2
    have hF := (if_pos c_2).symm.trans hF
    exact th_S hlt h0 rfl hX hw (by decide +kernel) wd_175 wd_7 (q9 := 5) rfl at_iae ag_iae hl.1 d_C_cycle_29 d_C_cycle_32 d_C_cycle_33 d_C_cycle_35 d_C_cycle_38 htab hlocks ⟨(Nat.le_of_ble_eq_true rfl), (Nat.le_of_ble_eq_true rfl), (Nat.le_of_ble_eq_true rfl), (Nat.le_of_ble_eq_true rfl)⟩ g hF rfl (Nat.le_of_ble_eq_true rfl) (Nat.le_of_ble_eq_true rfl)
  · have hok := hok.2 c_2
    have hF := (if_neg c_2).symm.trans hF
    refine lv_iload_n hx hb d_C_cycle_7 rfl (lv_at hl 2 rfl) ?_
    refine lv_iconst (v := 1) hx hb d_C_cycle_8 (by decide) ?_
    refine lv_sipush (v := 1000) hx hb d_C_cycle_9 (by decide) ?_
    obtain ⟨hi_3, hok⟩ := hok
    refine cs_p (n := 3) (As := [.int x2, .int 1, .int 1000]) (rest := []) hx hb hml hown hts (cC_isWithin l x2 1 1000 hi_3 rfl) (gd_S wd_90 wd_91 wd_1 wd_92) (by decide +kernel) ⟨rfl, rfl, (Nat.le_of_ble_eq_true rfl), (Nat.le_of_ble_eq_true rfl), (Nat.le_of_ble_eq_true rfl), (Nat.le_of_ble_eq_true rfl)⟩ rfl hl.1 rfl (Nat.le_of_ble_eq_true rfl) d_C_cycle_12 ?_
    refine lv_if_eq (tgt := 29) hx hb d_C_cycle_15 (by decide) (fun c_4 => ?_) (fun c_4 => ?_)
    · have hok := hok.1 c_4
      have hF := (if_pos c_4).symm.trans hF
      exact th_S hlt h0 rfl hX hw (by decide +kernel) wd_175 wd_7 (q9 := 5) rfl at_iae ag_iae hl.1 d_C_cycle_29 d_C_cycle_32 d_C_cycle_33 d_C_cycle_35 d_C_cycle_38 htab hlocks ⟨(Nat.le_of_ble_eq_true rfl), (Nat.le_of_ble_eq_true rfl), (Nat.le_of_ble_eq_true rfl), (Nat.le_of_ble_eq_true rfl)⟩ g hF rfl (Nat.le_of_ble_eq_true rfl) (Nat.le_of_ble_eq_true rfl)
    · have hok := hok.2 c_4
      have hF := (if_neg c_4).symm.trans hF
      refine lv_iload_n hx hb d_C_cycle_18 rfl (lv_at hl 3 rfl) ?_
      refine lv_iconst (v := 0) hx hb d_C_cycle_19 (by decide) ?_
      refine lv_sipush (v := 1000) hx hb d_C_cycle_20 (by decide) ?_
      obtain ⟨hi_5, hok⟩ := hok
      refine cs_p (n := 3) (As := [.int x3, .int 0, .int 1000]) (rest := []) hx hb hml hown hts (cC_isWithin l x3 0 1000 hi_5 rfl) (gd_S wd_90 wd_91 wd_1 wd_92) (by decide +kernel) ⟨rfl, rfl, (Nat.le_of_ble_eq_true rfl), (Nat.le_of_ble_eq_true rfl), (Nat.le_of_ble_eq_true rfl), (Nat.le_of_ble_eq_true rfl)⟩ rfl hl.1 rfl (Nat.le_of_ble_eq_true rfl) d_C_cycle_23 ?_
      refine lv_if_ne (tgt := 39) hx hb d_C_cycle_26 (by decide) (fun c_6 => ?_) (fun c_6 => ?_)
      · have hok := hok.2 c_6
        have hF := (if_neg c_6).symm.trans hF
        refine lv_aload_n hx hb d_C_cycle_39 rfl (lv_at hl 0 rfl) ?_
        refine gCC_3 h0 hw d_C_cycle_40 ?_
        refine lv_iload_n hx hb d_C_cycle_43 rfl (lv_at hl 1 rfl) ?_
        refine lv_iload_n hx hb d_C_cycle_44 rfl (lv_at hl 2 rfl) ?_
        obtain ⟨hi_7, hok⟩ := hok
        refine s_cycles h0 hw hi_7 d_C_cycle_45 (fun H locs hw => ?_)
        refine lv_aload_n hx hb d_C_cycle_46 rfl (lv_at hl 0 rfl) ?_
        refine gCC_4 h0 hw d_C_cycle_47 ?_
        refine lv_iload_n hx hb d_C_cycle_50 rfl (lv_at hl 1 rfl) ?_
        refine lv_iload_n hx hb d_C_cycle_51 rfl (lv_at hl 3 rfl) ?_
        obtain ⟨hi_8, hok⟩ := hok
        refine s_tolerances h0 hw hi_8 d_C_cycle_52 (fun H locs hw => ?_)
        exact vx_ret (rt_v h0 hw hr hlocks (u3 (u3 g 1 0 x1.toNatClampNeg x2) 2 0 x1.toNatClampNeg x3) hF rfl d_C_cycle_53 (Nat.le_of_ble_eq_true rfl) (Nat.le_of_ble_eq_true rfl))
      · have hok := hok.1 c_6
        have hF := (if_pos c_6).symm.trans hF
        exact th_S hlt h0 rfl hX hw (by decide +kernel) wd_175 wd_7 (q9 := 5) rfl at_iae ag_iae hl.1 d_C_cycle_29 d_C_cycle_32 d_C_cycle_33 d_C_cycle_35 d_C_cycle_38 htab hlocks ⟨(Nat.le_of_ble_eq_true rfl), (Nat.le_of_ble_eq_true rfl), (Nat.le_of_ble_eq_true rfl), (Nat.le_of_ble_eq_true rfl)⟩ g hF rfl (Nat.le_of_ble_eq_true rfl) (Nat.le_of_ble_eq_true rfl)
set_option maxHeartbeats 4000000 in
set_option maxRecDepth 100000 in
theorem cC_right (l : Launch) (hlt : l.stackTraces = false) (D : va_G) (tc : Nat → ClassId) (sa : Nat → Nat) (ad : Nat → Nat → Nat) (Y : va_W) (sz : Nat) (x1 : Int32) (x2 : Int32) (g : Nat → Nat → Nat → Int32) (N : Nat → Nat) {F : Option String × Int32 × (Nat → Nat → Nat → Int32)} (hok : kC_right x1 x2 g N) (hF : fC_right x1 x2 g N = F) : vx_Met l y_C_right (Cond.code y_C_right b_C_right 3 none :: gw) ({ frames := 6, cells := 1, slots := 6, locals := 82 } : Room) (va_Pc [.ref (ad 0 0), .int x1, .int x2] (pC D tc sa (cl tc g N ad ++ Y) sz)) (va_Qv (fun u => (none, (0 : Int32), u) = F) (fun u t => qW D tc (va_A (cl tc g N ad ++ Y) sz) (cl tc u N ad ++ Y) t) (va_A (cl tc g N ad ++ Y) sz)) (xC D tc (va_A (cl tc g N ad ++ Y) sz) (fun E u => (some E, (0 : Int32), u) = F) (fun u => cl tc u N ad ++ Y)) 1 6 (va_A (cl tc g N ad ++ Y) sz) := by
  refine en_X (by decide) (Nat.le_of_ble_eq_true rfl) ?_
  intro p e s m args below meth c ls h0 hN hX hr hlocks htab hsz hw hl
  obtain ⟨hx, hb, hml, hown, hts, hK⟩ := id h0
  have hA : ∀ q : Nat, s.heap.size ≤ q → (va_A (cl tc g N ad ++ Y) sz) q := fun q h => Or.inr (by rw [← hsz]; exact h)
  generalize va_A (cl tc g N ad ++ Y) sz = A at hw hA hX ⊢
  obtain ⟨H, eH⟩ : ∃ z, z = s.heap := ⟨_, rfl⟩
  obtain ⟨locs, eL⟩ : ∃ z : List Loc, z = [] := ⟨_, rfl⟩
  have hw : wH D A s.heap (cl tc g N ad ++ Y) H locs := by rw [eH, eL]; exact hw
  have gl : W p l e ({ frames := 6, cells := 1, slots := 6, locals := 82 } : Room) s m args below meth c H locs 0 0 (vx_MQ below (va_Qv (fun u => (none, (0 : Int32), u) = F) (fun u t => qW D tc A (cl tc u N ad ++ Y) t) A) (xC D tc A (fun E u => (some E, (0 : Int32), u) = F) (fun u => cl tc u N ad ++ Y)) args s 1 6 A) (F0 m 0 ls []) := ?_
  · rw [eH, eL] at gl; exact gl
  have hl : lv_has ls 3 [(0, .ref (ad 0 0)), (1, .int x1), (2, .int x2)] := hl
  unfold kC_right at hok
  unfold fC_right at hF
  refine lv_iload_n hx hb d_C_right_0 rfl (lv_at hl 1 rfl) ?_
  obtain ⟨hi_1, hok⟩ := hok
  refine cs_p (n := 1) (As := [.int x1]) (rest := []) hx hb hml hown hts (cC_isPerson l x1 hi_1 rfl) (gd_S wd_264 wd_265 wd_1 wd_266) (by decide +kernel) ⟨rfl, rfl, (Nat.le_of_ble_eq_true rfl), (Nat.le_of_ble_eq_true rfl), (Nat.le_of_ble_eq_true rfl), (Nat.le_of_ble_eq_true rfl)⟩ rfl hl.1 rfl (Nat.le_of_ble_eq_true rfl) d_C_right_1 ?_
  refine lv_if_eq (tgt := 14) hx hb d_C_right_4 (by decide) (fun c_2 => ?_) (fun c_2 => ?_)
  · have hok := hok.1 c_2
    have hF := (if_pos c_2).symm.trans hF
    exact th_S hlt h0 rfl hX hw (by decide +kernel) wd_175 wd_7 (q9 := 6) rfl at_iae ag_iae hl.1 d_C_right_14 d_C_right_17 d_C_right_18 d_C_right_20 d_C_right_23 htab hlocks ⟨(Nat.le_of_ble_eq_true rfl), (Nat.le_of_ble_eq_true rfl), (Nat.le_of_ble_eq_true rfl), (Nat.le_of_ble_eq_true rfl)⟩ g hF rfl (Nat.le_of_ble_eq_true rfl) (Nat.le_of_ble_eq_true rfl)
  · have hok := hok.2 c_2
    have hF := (if_neg c_2).symm.trans hF
    refine lv_iload_n hx hb d_C_right_7 rfl (lv_at hl 2 rfl) ?_
    obtain ⟨hi_3, hok⟩ := hok
    refine cs_p (n := 1) (As := [.int x2]) (rest := []) hx hb hml hown hts (cC_isPieces l x2 hi_3 rfl) (gd_S wd_244 wd_245 wd_1 wd_246) (by decide +kernel) ⟨rfl, rfl, (Nat.le_of_ble_eq_true rfl), (Nat.le_of_ble_eq_true rfl), (Nat.le_of_ble_eq_true rfl), (Nat.le_of_ble_eq_true rfl)⟩ rfl hl.1 rfl (Nat.le_of_ble_eq_true rfl) d_C_right_8 ?_
    refine lv_if_ne (tgt := 24) hx hb d_C_right_11 (by decide) (fun c_4 => ?_) (fun c_4 => ?_)
    · have hok := hok.2 c_4
      have hF := (if_neg c_4).symm.trans hF
      refine lv_aload_n hx hb d_C_right_24 rfl (lv_at hl 0 rfl) ?_
      refine gCC_5 h0 hw d_C_right_25 ?_
      refine lv_iload_n hx hb d_C_right_28 rfl (lv_at hl 1 rfl) ?_
      refine lv_iload_n hx hb d_C_right_29 rfl (lv_at hl 2 rfl) ?_
      obtain ⟨hi_5, hok⟩ := hok
      refine s_rights h0 hw hi_5 d_C_right_30 (fun H locs hw => ?_)
      exact vx_ret (rt_v h0 hw hr hlocks (u3 g 3 0 x1.toNatClampNeg x2) hF rfl d_C_right_31 (Nat.le_of_ble_eq_true rfl) (Nat.le_of_ble_eq_true rfl))
    · have hok := hok.1 c_4
      have hF := (if_pos c_4).symm.trans hF
      exact th_S hlt h0 rfl hX hw (by decide +kernel) wd_175 wd_7 (q9 := 6) rfl at_iae ag_iae hl.1 d_C_right_14 d_C_right_17 d_C_right_18 d_C_right_20 d_C_right_23 htab hlocks ⟨(Nat.le_of_ble_eq_true rfl), (Nat.le_of_ble_eq_true rfl), (Nat.le_of_ble_eq_true rfl), (Nat.le_of_ble_eq_true rfl)⟩ g hF rfl (Nat.le_of_ble_eq_true rfl) (Nat.le_of_ble_eq_true rfl)
set_option maxHeartbeats 4000000 in
set_option maxRecDepth 100000 in
theorem cC_setting (l : Launch) (hlt : l.stackTraces = false) (D : va_G) (tc : Nat → ClassId) (sa : Nat → Nat) (ad : Nat → Nat → Nat) (Y : va_W) (sz : Nat) (x1 : Int32) (g : Nat → Nat → Nat → Int32) (N : Nat → Nat) {F : Option String × Int32 × (Nat → Nat → Nat → Int32)} (hok : kC_setting x1 g N) (hF : fC_setting x1 g N = F) : vx_Met l y_C_setting (Cond.code y_C_setting b_C_setting 2 none :: gw) ({ frames := 6, cells := 1, slots := 6, locals := 82 } : Room) (va_Pc [.ref (ad 0 0), .int x1] (pC D tc sa (cl tc g N ad ++ Y) sz)) (va_Qv (fun u => (none, (0 : Int32), u) = F) (fun u t => qW D tc (va_A (cl tc g N ad ++ Y) sz) (cl tc u N ad ++ Y) t) (va_A (cl tc g N ad ++ Y) sz)) (xC D tc (va_A (cl tc g N ad ++ Y) sz) (fun E u => (some E, (0 : Int32), u) = F) (fun u => cl tc u N ad ++ Y)) 1 6 (va_A (cl tc g N ad ++ Y) sz) := by
  refine en_X (by decide) (Nat.le_of_ble_eq_true rfl) ?_
  intro p e s m args below meth c ls h0 hN hX hr hlocks htab hsz hw hl
  obtain ⟨hx, hb, hml, hown, hts, hK⟩ := id h0
  have hA : ∀ q : Nat, s.heap.size ≤ q → (va_A (cl tc g N ad ++ Y) sz) q := fun q h => Or.inr (by rw [← hsz]; exact h)
  generalize va_A (cl tc g N ad ++ Y) sz = A at hw hA hX ⊢
  obtain ⟨H, eH⟩ : ∃ z, z = s.heap := ⟨_, rfl⟩
  obtain ⟨locs, eL⟩ : ∃ z : List Loc, z = [] := ⟨_, rfl⟩
  have hw : wH D A s.heap (cl tc g N ad ++ Y) H locs := by rw [eH, eL]; exact hw
  have gl : W p l e ({ frames := 6, cells := 1, slots := 6, locals := 82 } : Room) s m args below meth c H locs 0 0 (vx_MQ below (va_Qv (fun u => (none, (0 : Int32), u) = F) (fun u t => qW D tc A (cl tc u N ad ++ Y) t) A) (xC D tc A (fun E u => (some E, (0 : Int32), u) = F) (fun u => cl tc u N ad ++ Y)) args s 1 6 A) (F0 m 0 ls []) := ?_
  · rw [eH, eL] at gl; exact gl
  have hl : lv_has ls 2 [(0, .ref (ad 0 0)), (1, .int x1)] := hl
  unfold kC_setting at hok
  unfold fC_setting at hF
  refine lv_iload_n hx hb d_C_setting_0 rfl (lv_at hl 1 rfl) ?_
  refine lv_iconst (v := 0) hx hb d_C_setting_1 (by decide) ?_
  refine lv_iconst (v := 1) hx hb d_C_setting_2 (by decide) ?_
  obtain ⟨hi_1, hok⟩ := hok
  refine cs_p (n := 3) (As := [.int x1, .int 0, .int 1]) (rest := []) hx hb hml hown hts (cC_isWithin l x1 0 1 hi_1 rfl) (gd_S wd_90 wd_91 wd_1 wd_92) (by decide +kernel) ⟨rfl, rfl, (Nat.le_of_ble_eq_true rfl), (Nat.le_of_ble_eq_true rfl), (Nat.le_of_ble_eq_true rfl), (Nat.le_of_ble_eq_true rfl)⟩ rfl hl.1 rfl (Nat.le_of_ble_eq_true rfl) d_C_setting_3 ?_
  refine lv_if_ne (tgt := 19) hx hb d_C_setting_6 (by decide) (fun c_2 => ?_) (fun c_2 => ?_)
  · have hok := hok.2 c_2
    have hF := (if_neg c_2).symm.trans hF
    refine lv_aload_n hx hb d_C_setting_19 rfl (lv_at hl 0 rfl) ?_
    refine lv_iload_n hx hb d_C_setting_20 rfl (lv_at hl 1 rfl) ?_
    refine lv_if_ne (tgt := 28) hx hb d_C_setting_21 (by decide) (fun c_3 => ?_) (fun c_3 => ?_)
    · have hok := hok.2 c_3
      have hF := (if_neg c_3).symm.trans hF
      refine lv_iconst (v := 0) hx hb d_C_setting_28 (by decide) ?_
      refine pCC_11 h0 hw rfl rfl d_C_setting_29 (fun H locs hw => ?_)
      exact vx_ret (rt_v h0 hw hr hlocks (u3 g 0 0 4 0) hF rfl d_C_setting_32 (Nat.le_of_ble_eq_true rfl) (Nat.le_of_ble_eq_true rfl))
    · have hok := hok.1 c_3
      have hF := (if_pos c_3).symm.trans hF
      refine lv_iconst (v := 1) hx hb d_C_setting_24 (by decide) ?_
      refine lv_goto (tgt := 29) hx hb d_C_setting_25 (by decide) ?_
      refine pCC_11 h0 hw rfl rfl d_C_setting_29 (fun H locs hw => ?_)
      exact vx_ret (rt_v h0 hw hr hlocks (u3 g 0 0 4 1) hF rfl d_C_setting_32 (Nat.le_of_ble_eq_true rfl) (Nat.le_of_ble_eq_true rfl))
  · have hok := hok.1 c_2
    have hF := (if_pos c_2).symm.trans hF
    exact th_S hlt h0 rfl hX hw (by decide +kernel) wd_175 wd_7 (q9 := 7) rfl at_iae ag_iae hl.1 d_C_setting_9 d_C_setting_12 d_C_setting_13 d_C_setting_15 d_C_setting_18 htab hlocks ⟨(Nat.le_of_ble_eq_true rfl), (Nat.le_of_ble_eq_true rfl), (Nat.le_of_ble_eq_true rfl), (Nat.le_of_ble_eq_true rfl)⟩ g hF rfl (Nat.le_of_ble_eq_true rfl) (Nat.le_of_ble_eq_true rfl)
set_option maxHeartbeats 4000000 in
set_option maxRecDepth 100000 in
theorem cC_day (l : Launch) (hlt : l.stackTraces = false) (D : va_G) (tc : Nat → ClassId) (sa : Nat → Nat) (ad : Nat → Nat → Nat) (Y : va_W) (sz : Nat) (x1 : Int32) (g : Nat → Nat → Nat → Int32) (N : Nat → Nat) {F : Option String × Int32 × (Nat → Nat → Nat → Int32)} (hok : kC_day x1 g N) (hF : fC_day x1 g N = F) : vx_Met l y_C_day (Cond.code y_C_day b_C_day 2 none :: gw) ({ frames := 6, cells := 1, slots := 6, locals := 82 } : Room) (va_Pc [.ref (ad 0 0), .int x1] (pC D tc sa (cl tc g N ad ++ Y) sz)) (va_Qv (fun u => (none, (0 : Int32), u) = F) (fun u t => qW D tc (va_A (cl tc g N ad ++ Y) sz) (cl tc u N ad ++ Y) t) (va_A (cl tc g N ad ++ Y) sz)) (xC D tc (va_A (cl tc g N ad ++ Y) sz) (fun E u => (some E, (0 : Int32), u) = F) (fun u => cl tc u N ad ++ Y)) 1 6 (va_A (cl tc g N ad ++ Y) sz) := by
  refine en_X (by decide) (Nat.le_of_ble_eq_true rfl) ?_
  intro p e s m args below meth c ls h0 hN hX hr hlocks htab hsz hw hl
  obtain ⟨hx, hb, hml, hown, hts, hK⟩ := id h0
  have hA : ∀ q : Nat, s.heap.size ≤ q → (va_A (cl tc g N ad ++ Y) sz) q := fun q h => Or.inr (by rw [← hsz]; exact h)
  generalize va_A (cl tc g N ad ++ Y) sz = A at hw hA hX ⊢
  obtain ⟨H, eH⟩ : ∃ z, z = s.heap := ⟨_, rfl⟩
  obtain ⟨locs, eL⟩ : ∃ z : List Loc, z = [] := ⟨_, rfl⟩
  have hw : wH D A s.heap (cl tc g N ad ++ Y) H locs := by rw [eH, eL]; exact hw
  have gl : W p l e ({ frames := 6, cells := 1, slots := 6, locals := 82 } : Room) s m args below meth c H locs 0 0 (vx_MQ below (va_Qv (fun u => (none, (0 : Int32), u) = F) (fun u t => qW D tc A (cl tc u N ad ++ Y) t) A) (xC D tc A (fun E u => (some E, (0 : Int32), u) = F) (fun u => cl tc u N ad ++ Y)) args s 1 6 A) (F0 m 0 ls []) := ?_
  · rw [eH, eL] at gl; exact gl
  have hl : lv_has ls 2 [(0, .ref (ad 0 0)), (1, .int x1)] := hl
  unfold kC_day at hok
  unfold fC_day at hF
  refine lv_iload_n hx hb d_C_day_0 rfl (lv_at hl 1 rfl) ?_
  obtain ⟨hi_1, hok⟩ := hok
  refine cs_p (n := 1) (As := [.int x1]) (rest := []) hx hb hml hown hts (cC_isDay l x1 hi_1 rfl) (gd_S wd_284 wd_285 wd_1 wd_286) (by decide +kernel) ⟨rfl, rfl, (Nat.le_of_ble_eq_true rfl), (Nat.le_of_ble_eq_true rfl), (Nat.le_of_ble_eq_true rfl), (Nat.le_of_ble_eq_true rfl)⟩ rfl hl.1 rfl (Nat.le_of_ble_eq_true rfl) d_C_day_1 ?_
  refine lv_if_ne (tgt := 17) hx hb d_C_day_4 (by decide) (fun c_2 => ?_) (fun c_2 => ?_)
  · have hok := hok.2 c_2
    have hF := (if_neg c_2).symm.trans hF
    refine lv_iload_n hx hb d_C_day_17 rfl (lv_at hl 1 rfl) ?_
    refine lv_aload_n hx hb d_C_day_18 rfl (lv_at hl 0 rfl) ?_
    refine gCC_10 h0 hw d_C_day_19 ?_
    refine lv_icmp_ge (tgt := 35) hx hb d_C_day_22 (by decide) (fun c_3 => ?_) (fun c_3 => ?_)
    · have hok := hok.1 c_3
      have hF := (if_pos c_3).symm.trans hF
      refine lv_aload_n hx hb d_C_day_35 rfl (lv_at hl 0 rfl) ?_
      refine lv_iload_n hx hb d_C_day_36 rfl (lv_at hl 1 rfl) ?_
      refine pCC_10 h0 hw d_C_day_37 (fun H locs hw => ?_)
      exact vx_ret (rt_v h0 hw hr hlocks (u3 g 0 0 3 x1) hF rfl d_C_day_40 (Nat.le_of_ble_eq_true rfl) (Nat.le_of_ble_eq_true rfl))
    · have hok := hok.2 c_3
      have hF := (if_neg c_3).symm.trans hF
      exact th_S hlt h0 rfl hX hw (by decide +kernel) wd_288 wd_11 (q9 := 9) rfl at_ise ag_ise hl.1 d_C_day_25 d_C_day_28 d_C_day_29 d_C_day_31 d_C_day_34 htab hlocks ⟨(Nat.le_of_ble_eq_true rfl), (Nat.le_of_ble_eq_true rfl), (Nat.le_of_ble_eq_true rfl), (Nat.le_of_ble_eq_true rfl)⟩ g hF rfl (Nat.le_of_ble_eq_true rfl) (Nat.le_of_ble_eq_true rfl)
  · have hok := hok.1 c_2
    have hF := (if_pos c_2).symm.trans hF
    exact th_S hlt h0 rfl hX hw (by decide +kernel) wd_175 wd_7 (q9 := 8) rfl at_iae ag_iae hl.1 d_C_day_7 d_C_day_10 d_C_day_11 d_C_day_13 d_C_day_16 htab hlocks ⟨(Nat.le_of_ble_eq_true rfl), (Nat.le_of_ble_eq_true rfl), (Nat.le_of_ble_eq_true rfl), (Nat.le_of_ble_eq_true rfl)⟩ g hF rfl (Nat.le_of_ble_eq_true rfl) (Nat.le_of_ble_eq_true rfl)
set_option maxHeartbeats 4000000 in
set_option maxRecDepth 100000 in
theorem cC_share (l : Launch) (hlt : l.stackTraces = false) (D : va_G) (tc : Nat → ClassId) (sa : Nat → Nat) (ad : Nat → Nat → Nat) (Y : va_W) (sz : Nat) (x1 : Int32) (g : Nat → Nat → Nat → Int32) (N : Nat → Nat) {F : Option String × Int32 × (Nat → Nat → Nat → Int32)} (hok : kC_share x1 g N) (hF : fC_share x1 g N = F) : vx_Met l y_C_share (Cond.code y_C_share b_C_share 3 (some .int) :: gw) ({ frames := 6, cells := 1, slots := 6, locals := 82 } : Room) (va_Pc [.ref (ad 0 0), .int x1] (pC D tc sa (cl tc g N ad ++ Y) sz)) (va_Qi (fun r u => (none, r, u) = F) (fun u t => qW D tc (va_A (cl tc g N ad ++ Y) sz) (cl tc u N ad ++ Y) t) (va_A (cl tc g N ad ++ Y) sz)) (xC D tc (va_A (cl tc g N ad ++ Y) sz) (fun E u => (some E, (0 : Int32), u) = F) (fun u => cl tc u N ad ++ Y)) 1 6 (va_A (cl tc g N ad ++ Y) sz) := by
  refine en_X (by decide) (Nat.le_of_ble_eq_true rfl) ?_
  intro p e s m args below meth c ls h0 hN hX hr hlocks htab hsz hw hl
  obtain ⟨hx, hb, hml, hown, hts, hK⟩ := id h0
  have hA : ∀ q : Nat, s.heap.size ≤ q → (va_A (cl tc g N ad ++ Y) sz) q := fun q h => Or.inr (by rw [← hsz]; exact h)
  generalize va_A (cl tc g N ad ++ Y) sz = A at hw hA hX ⊢
  obtain ⟨H, eH⟩ : ∃ z, z = s.heap := ⟨_, rfl⟩
  obtain ⟨locs, eL⟩ : ∃ z : List Loc, z = [] := ⟨_, rfl⟩
  have hw : wH D A s.heap (cl tc g N ad ++ Y) H locs := by rw [eH, eL]; exact hw
  have gl : W p l e ({ frames := 6, cells := 1, slots := 6, locals := 82 } : Room) s m args below meth c H locs 0 0 (vx_MQ below (va_Qi (fun r u => (none, r, u) = F) (fun u t => qW D tc A (cl tc u N ad ++ Y) t) A) (xC D tc A (fun E u => (some E, (0 : Int32), u) = F) (fun u => cl tc u N ad ++ Y)) args s 1 6 A) (F0 m 0 ls []) := ?_
  · rw [eH, eL] at gl; exact gl
  have hl : lv_has ls 3 [(0, .ref (ad 0 0)), (1, .int x1)] := hl
  unfold kC_share at hok
  unfold fC_share at hF
  refine lv_iload_n hx hb d_C_share_0 rfl (lv_at hl 1 rfl) ?_
  refine lv_iconst (v := 0) hx hb d_C_share_1 (by decide) ?_
  refine lv_iconst (v := 1) hx hb d_C_share_2 (by decide) ?_
  obtain ⟨hi_1, hok⟩ := hok
  refine cs_p (n := 3) (As := [.int x1, .int 0, .int 1]) (rest := []) hx hb hml hown hts (cC_isWithin l x1 0 1 hi_1 rfl) (gd_S wd_90 wd_91 wd_1 wd_92) (by decide +kernel) ⟨rfl, rfl, (Nat.le_of_ble_eq_true rfl), (Nat.le_of_ble_eq_true rfl), (Nat.le_of_ble_eq_true rfl), (Nat.le_of_ble_eq_true rfl)⟩ rfl hl.1 rfl (Nat.le_of_ble_eq_true rfl) d_C_share_3 ?_
  refine lv_if_ne (tgt := 20) hx hb d_C_share_6 (by decide) (fun c_2 => ?_) (fun c_2 => ?_)
  · have hok := hok.2 c_2
    have hF := (if_neg c_2).symm.trans hF
    refine lv_aload_n hx hb d_C_share_20 rfl (lv_at hl 0 rfl) ?_
    refine gCC_12 h0 hw d_C_share_21 ?_
    refine lv_aload_n hx hb d_C_share_24 rfl (lv_at hl 0 rfl) ?_
    refine gCC_13 h0 hw d_C_share_25 ?_
    obtain ⟨hi_3, hok⟩ := hok
    refine cs_p (n := 2) (As := [.int (g 0 0 5), .int (g 0 0 6)]) (rest := []) hx hb hml hown hts (cC_commonDivisor l (g 0 0 5) (g 0 0 6) hi_3 rfl) (gd_S wd_561 wd_562 wd_1 wd_563) (by decide +kernel) ⟨rfl, rfl, (Nat.le_of_ble_eq_true rfl), (Nat.le_of_ble_eq_true rfl), (Nat.le_of_ble_eq_true rfl), (Nat.le_of_ble_eq_true rfl)⟩ rfl hl.1 rfl (Nat.le_of_ble_eq_true rfl) d_C_share_28 ?_
    refine lv_istore_n (lv' := [(2, .int (fC_commonDivisor (g 0 0 5) (g 0 0 6))), (0, .ref (ad 0 0)), (1, .int x1)]) hx hb d_C_share_31 rfl hl (by decide) rfl (fun ls hl => ?_)
    refine lv_iload_n hx hb d_C_share_32 rfl (lv_at hl 0 rfl) ?_
    refine lv_if_ne (tgt := 47) hx hb d_C_share_33 (by decide) (fun c_4 => ?_) (fun c_4 => ?_)
    · have hok := hok.2 c_4
      have hF := (if_neg c_4).symm.trans hF
      refine lv_iload_n hx hb d_C_share_47 rfl (lv_at hl 2 rfl) ?_
      refine lv_if_ne (tgt := 58) hx hb d_C_share_48 (by decide) (fun c_5 => ?_) (fun c_5 => ?_)
      · have hok := hok.2 c_5
        have hF := (if_neg c_5).symm.trans hF
        refine lv_aload_n hx hb d_C_share_58 rfl (lv_at hl 1 rfl) ?_
        refine gCC_12 h0 hw d_C_share_59 ?_
        refine lv_iload_n hx hb d_C_share_62 rfl (lv_at hl 0 rfl) ?_
        obtain ⟨hi_6, hok⟩ := hok
        refine lv_idiv hx hb d_C_share_63 hi_6 ?_
        exact vx_ret (rt_i h0 hw hr hlocks rfl g hF rfl d_C_share_64 (Nat.le_of_ble_eq_true rfl) (Nat.le_of_ble_eq_true rfl))
      · have hok := hok.1 c_5
        have hF := (if_pos c_5).symm.trans hF
        refine lv_aload_n hx hb d_C_share_51 rfl (lv_at hl 1 rfl) ?_
        refine gCC_13 h0 hw d_C_share_52 ?_
        refine lv_goto (tgt := 62) hx hb d_C_share_55 (by decide) ?_
        refine lv_iload_n hx hb d_C_share_62 rfl (lv_at hl 0 rfl) ?_
        obtain ⟨hi_7, hok⟩ := hok
        refine lv_idiv hx hb d_C_share_63 hi_7 ?_
        exact vx_ret (rt_i h0 hw hr hlocks rfl g hF rfl d_C_share_64 (Nat.le_of_ble_eq_true rfl) (Nat.le_of_ble_eq_true rfl))
    · have hok := hok.1 c_4
      have hF := (if_pos c_4).symm.trans hF
      exact th_W hlt h0 rfl hX hw (by decide +kernel) wd_564 wd_16 (q9 := 29) rfl at_are ag_are hl.1 d_C_share_36 d_C_share_39 d_C_share_40 d_C_share_43 d_C_share_46 htab hlocks ⟨(Nat.le_of_ble_eq_true rfl), (Nat.le_of_ble_eq_true rfl), (Nat.le_of_ble_eq_true rfl), (Nat.le_of_ble_eq_true rfl)⟩ g hF rfl (Nat.le_of_ble_eq_true rfl) (Nat.le_of_ble_eq_true rfl)
  · have hok := hok.1 c_2
    have hF := (if_pos c_2).symm.trans hF
    exact th_W hlt h0 rfl hX hw (by decide +kernel) wd_175 wd_7 (q9 := 28) rfl at_iae ag_iae hl.1 d_C_share_9 d_C_share_12 d_C_share_13 d_C_share_16 d_C_share_19 htab hlocks ⟨(Nat.le_of_ble_eq_true rfl), (Nat.le_of_ble_eq_true rfl), (Nat.le_of_ble_eq_true rfl), (Nat.le_of_ble_eq_true rfl)⟩ g hF rfl (Nat.le_of_ble_eq_true rfl) (Nat.le_of_ble_eq_true rfl)
set_option maxHeartbeats 4000000 in
set_option maxRecDepth 100000 in
theorem cC_due (l : Launch) (hlt : l.stackTraces = false) (D : va_G) (tc : Nat → ClassId) (sa : Nat → Nat) (ad : Nat → Nat → Nat) (Y : va_W) (sz : Nat) (x1 : Int32) (g : Nat → Nat → Nat → Int32) (N : Nat → Nat) {F : Option String × Int32 × (Nat → Nat → Nat → Int32)} (hok : kC_due x1 g N) (hF : fC_due x1 g N = F) : vx_Met l y_C_due (Cond.code y_C_due b_C_due 5 (some .int) :: gw) ({ frames := 6, cells := 1, slots := 6, locals := 82 } : Room) (va_Pc [.ref (ad 0 0), .int x1] (pC D tc sa (cl tc g N ad ++ Y) sz)) (va_Qi (fun r u => (none, r, u) = F) (fun u t => qW D tc (va_A (cl tc g N ad ++ Y) sz) (cl tc u N ad ++ Y) t) (va_A (cl tc g N ad ++ Y) sz)) (xC D tc (va_A (cl tc g N ad ++ Y) sz) (fun E u => (some E, (0 : Int32), u) = F) (fun u => cl tc u N ad ++ Y)) 1 6 (va_A (cl tc g N ad ++ Y) sz) := by
  refine en_X (by decide) (Nat.le_of_ble_eq_true rfl) ?_
  intro p e s m args below meth c ls h0 hN hX hr hlocks htab hsz hw hl
  obtain ⟨hx, hb, hml, hown, hts, hK⟩ := id h0
  have hA : ∀ q : Nat, s.heap.size ≤ q → (va_A (cl tc g N ad ++ Y) sz) q := fun q h => Or.inr (by rw [← hsz]; exact h)
  generalize va_A (cl tc g N ad ++ Y) sz = A at hw hA hX ⊢
  obtain ⟨H, eH⟩ : ∃ z, z = s.heap := ⟨_, rfl⟩
  obtain ⟨locs, eL⟩ : ∃ z : List Loc, z = [] := ⟨_, rfl⟩
  have hw : wH D A s.heap (cl tc g N ad ++ Y) H locs := by rw [eH, eL]; exact hw
  have gl : W p l e ({ frames := 6, cells := 1, slots := 6, locals := 82 } : Room) s m args below meth c H locs 0 0 (vx_MQ below (va_Qi (fun r u => (none, r, u) = F) (fun u t => qW D tc A (cl tc u N ad ++ Y) t) A) (xC D tc A (fun E u => (some E, (0 : Int32), u) = F) (fun u => cl tc u N ad ++ Y)) args s 1 6 A) (F0 m 0 ls []) := ?_
  · rw [eH, eL] at gl; exact gl
  have hl : lv_has ls 5 [(0, .ref (ad 0 0)), (1, .int x1)] := hl
  unfold kC_due at hok
  unfold fC_due at hF
  refine lv_iload_n hx hb d_C_due_0 rfl (lv_at hl 1 rfl) ?_
  obtain ⟨hi_1, hok⟩ := hok
  refine cs_p (n := 1) (As := [.int x1]) (rest := []) hx hb hml hown hts (cC_isDay l x1 hi_1 rfl) (gd_S wd_284 wd_285 wd_1 wd_286) (by decide +kernel) ⟨rfl, rfl, (Nat.le_of_ble_eq_true rfl), (Nat.le_of_ble_eq_true rfl), (Nat.le_of_ble_eq_true rfl), (Nat.le_of_ble_eq_true rfl)⟩ rfl hl.1 rfl (Nat.le_of_ble_eq_true rfl) d_C_due_1 ?_
  refine lv_if_ne (tgt := 17) hx hb d_C_due_4 (by decide) (fun c_2 => ?_) (fun c_2 => ?_)
  · have hok := hok.2 c_2
    have hF := (if_neg c_2).symm.trans hF
    refine lv_iconst (v := 0) hx hb d_C_due_17 (by decide) ?_
    refine lv_istore_n (lv' := [(2, .int 0), (0, .ref (ad 0 0)), (1, .int x1)]) hx hb d_C_due_18 rfl hl (by decide) rfl (fun ls hl => ?_)
    refine lv_iconst (v := 0) hx hb d_C_due_19 (by decide) ?_
    refine lv_istore_n (lv' := [(3, .int 0), (2, .int 0), (0, .ref (ad 0 0)), (1, .int x1)]) hx hb d_C_due_20 rfl hl (by decide) rfl (fun ls hl => ?_)
    have hx_21 : ∀ (x1 : Int32) (x2 : Int32) (x3 : Int32) (g : Nat → Nat → Nat → Int32) (H : Heap) (locs : List Loc) (ls : Array Slot), wH D A s.heap (cl tc g N ad ++ Y) H locs → lv_has ls 5 [(0, .ref (ad 0 0)), (1, .int x1), (2, .int x2), (3, .int x3)] → kC_due_21x x1 x2 x3 g N → fC_due_21x x1 x2 x3 g N = F → W p l e ({ frames := 6, cells := 1, slots := 6, locals := 82 } : Room) s m args below meth c H locs 0 0 (vx_MQ below (va_Qi (fun r u => (none, r, u) = F) (fun u t => qW D tc A (cl tc u N ad ++ Y) t) A) (xC D tc A (fun E u => (some E, (0 : Int32), u) = F) (fun u => cl tc u N ad ++ Y)) args s 1 6 A) (F0 m 74 ls []) := by
      intro x1 x2 x3 g H locs ls hw hl hok hF
      unfold kC_due_21x at hok
      unfold fC_due_21x at hF
      refine lv_iload_n hx hb d_C_due_74 rfl (lv_at hl 2 rfl) ?_
      exact vx_ret (rt_i h0 hw hr hlocks rfl g hF rfl d_C_due_75 (Nat.le_of_ble_eq_true rfl) (Nat.le_of_ble_eq_true rfl))
    have lp_21 : ∀ (n21 : Nat) (x1 : Int32) (x2 : Int32) (x3 : Int32) (g : Nat → Nat → Nat → Int32) (H : Heap) (locs : List Loc) (ls : Array Slot), wH D A s.heap (cl tc g N ad ++ Y) H locs → lv_has ls 5 [(0, .ref (ad 0 0)), (1, .int x1), (2, .int x2), (3, .int x3)] → kC_due_21 kC_due_21x n21 x1 x2 x3 g N → fC_due_21 fC_due_21x n21 x1 x2 x3 g N = F → W p l e ({ frames := 6, cells := 1, slots := 6, locals := 82 } : Room) s m args below meth c H locs 0 0 (vx_MQ below (va_Qi (fun r u => (none, r, u) = F) (fun u t => qW D tc A (cl tc u N ad ++ Y) t) A) (xC D tc A (fun E u => (some E, (0 : Int32), u) = F) (fun u => cl tc u N ad ++ Y)) args s 1 6 A) (F0 m 21 ls []) := by
      intro n21
      induction n21 with
      | zero =>
        intro x1 x2 x3 g H locs ls hw hl hok hF
        unfold kC_due_21 at hok
        exact hok.elim
      | succ n21 ih_21 =>
        intro x1 x2 x3 g H locs ls hw hl hok hF
        unfold kC_due_21 at hok
        unfold fC_due_21 at hF
        refine lv_iload_n hx hb d_C_due_21 rfl (lv_at hl 3 rfl) ?_
        refine lv_aload_n hx hb d_C_due_22 rfl (lv_at hl 0 rfl) ?_
        refine gCC_7 h0 hw d_C_due_23 ?_
        refine lv_icmp_ge (tgt := 74) hx hb d_C_due_26 (by decide) (fun c_3 => ?_) (fun c_3 => ?_)
        · have hok := hok.1 c_3
          have hF := (if_pos c_3).symm.trans hF
          exact hx_21 x1 x2 x3 g H locs ls hw (lv_sub hl [0, 1, 2, 3] rfl) hok hF
        · have hok := hok.2 c_3
          have hF := (if_neg c_3).symm.trans hF
          refine lv_aload_n hx hb d_C_due_29 rfl (lv_at hl 0 rfl) ?_
          refine lv_iload_n hx hb d_C_due_30 rfl (lv_at hl 3 rfl) ?_
          obtain ⟨hi_4, hi_5, hi_6, hok⟩ := hok
          refine dv_p (n := 1) (C := "CountRounds") (b := ad 0 0) (q0 := bw_o (cb tc g N ad) 0 + 0) (ci := 3) (As := [.int x3]) (rest := []) h0 hX hw hA (cC_placeNumbered l D tc sa ad Y H.size x3 g N hi_4 (if_neg hi_5)) (gd_V wd_236 wd_238 (gw_s 3 rfl rfl) wd_1 wd_239) (by decide +kernel) ⟨rfl, rfl, (Nat.le_of_ble_eq_true rfl), (Nat.le_of_ble_eq_true rfl), (Nat.le_of_ble_eq_true rfl), (Nat.le_of_ble_eq_true rfl)⟩ (bw_get (bs := cb tc g N ad) (j := 0) rfl Nat.one_pos Y) rfl rfl hl.1 rfl (Nat.le_of_ble_eq_true rfl) d_C_due_31 ?_
          refine lv_astore (lv' := [(4, .ref (ad 1 x3.toNatClampNeg)), (0, .ref (ad 0 0)), (1, .int x1), (2, .int x2), (3, .int x3)]) hx hb d_C_due_34 hl (by decide) rfl (fun ls hl => ?_)
          refine lv_aload hx hb d_C_due_36 (lv_at hl 0 rfl) ?_
          refine gCP_2 h0 hN hw hi_6 d_C_due_38 ?_
          refine lv_iconst (v := (-1)) hx hb d_C_due_41 (by decide) ?_
          refine lv_icmp_eq (tgt := 65) hx hb d_C_due_42 (by decide) (fun c_7 => ?_) (fun c_7 => ?_)
          · have hok := hok.1 c_7
            have hF := (if_pos c_7).symm.trans hF
            refine lv_iinc (v := x2 + 1) (lv' := [(2, .int (x2 + 1)), (4, .ref (ad 1 x3.toNatClampNeg)), (0, .ref (ad 0 0)), (1, .int x1), (3, .int x3)]) hx hb d_C_due_65 hl (k := 3) rfl rfl (by decide) rfl (fun ls hl => ?_)
            refine lv_iinc (v := x3 + 1) (lv' := [(3, .int (x3 + 1)), (2, .int (x2 + 1)), (4, .ref (ad 1 x3.toNatClampNeg)), (0, .ref (ad 0 0)), (1, .int x1)]) hx hb d_C_due_68 hl (k := 4) rfl rfl (by decide) rfl (fun ls hl => ?_)
            refine lv_goto (tgt := 21) hx hb d_C_due_71 (by decide) ?_
            exact ih_21 x1 (x2 + 1) (x3 + 1) g H locs ls hw (lv_sub hl [3, 4, 1, 0] rfl) hok hF
          · have hok := hok.2 c_7
            have hF := (if_neg c_7).symm.trans hF
            refine lv_iload_n hx hb d_C_due_45 rfl (lv_at hl 2 rfl) ?_
            refine lv_aload hx hb d_C_due_46 (lv_at hl 0 rfl) ?_
            refine gCP_2 h0 hN hw hi_6 d_C_due_48 ?_
            refine lv_isub hx hb d_C_due_51 ?_
            refine lv_aload_n hx hb d_C_due_52 rfl (lv_at hl 1 rfl) ?_
            refine gCC_3 h0 hw d_C_due_53 ?_
            refine lv_aload hx hb d_C_due_56 (lv_at hl 0 rfl) ?_
            refine gCP_0 h0 hN hw hi_6 d_C_due_58 ?_
            obtain ⟨hi_8, hok⟩ := hok
            refine l_cycles h0 hw hi_8 d_C_due_61 ?_
            refine lv_icmp_lt (tgt := 68) hx hb d_C_due_62 (by decide) (fun c_9 => ?_) (fun c_9 => ?_)
            · have hok := hok.1 c_9
              have hF := (if_pos c_9).symm.trans hF
              refine lv_iinc (v := x3 + 1) (lv' := [(3, .int (x3 + 1)), (4, .ref (ad 1 x3.toNatClampNeg)), (0, .ref (ad 0 0)), (1, .int x1), (2, .int x2)]) hx hb d_C_due_68 hl (k := 4) rfl rfl (by decide) rfl (fun ls hl => ?_)
              refine lv_goto (tgt := 21) hx hb d_C_due_71 (by decide) ?_
              exact ih_21 x1 x2 (x3 + 1) g H locs ls hw (lv_sub hl [2, 3, 4, 0] rfl) hok hF
            · have hok := hok.2 c_9
              have hF := (if_neg c_9).symm.trans hF
              refine lv_iinc (v := x2 + 1) (lv' := [(2, .int (x2 + 1)), (4, .ref (ad 1 x3.toNatClampNeg)), (0, .ref (ad 0 0)), (1, .int x1), (3, .int x3)]) hx hb d_C_due_65 hl (k := 3) rfl rfl (by decide) rfl (fun ls hl => ?_)
              refine lv_iinc (v := x3 + 1) (lv' := [(3, .int (x3 + 1)), (2, .int (x2 + 1)), (4, .ref (ad 1 x3.toNatClampNeg)), (0, .ref (ad 0 0)), (1, .int x1)]) hx hb d_C_due_68 hl (k := 4) rfl rfl (by decide) rfl (fun ls hl => ?_)
              refine lv_goto (tgt := 21) hx hb d_C_due_71 (by decide) ?_
              exact ih_21 x1 (x2 + 1) (x3 + 1) g H locs ls hw (lv_sub hl [3, 4, 1, 0] rfl) hok hF
    exact lp_21 200 x1 0 0 g H locs ls hw (lv_sub hl [2, 3, 1, 0] rfl) hok hF
  · have hok := hok.1 c_2
    have hF := (if_pos c_2).symm.trans hF
    exact th_S hlt h0 rfl hX hw (by decide +kernel) wd_175 wd_7 (q9 := 8) rfl at_iae ag_iae hl.1 d_C_due_7 d_C_due_10 d_C_due_11 d_C_due_13 d_C_due_16 htab hlocks ⟨(Nat.le_of_ble_eq_true rfl), (Nat.le_of_ble_eq_true rfl), (Nat.le_of_ble_eq_true rfl), (Nat.le_of_ble_eq_true rfl)⟩ g hF rfl (Nat.le_of_ble_eq_true rfl) (Nat.le_of_ble_eq_true rfl)
