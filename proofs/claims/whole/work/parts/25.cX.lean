def fC_stock (x1 : Int32) (x2 : Int32) (x3 : Int32) (g : Nat → Nat → Nat → Int32) (N : Nat → Nat) : Option String × Int32 × (Nat → Nat → Nat → Int32) := if (fC_isWithin x1 0 ((g 0 0 0) - 1)) = 0 then (some "java/util/NoSuchElementException", 0, g) else if (fC_isGood x2) = 0 then (some "java/lang/IllegalArgumentException", 0, g) else if (fC_isPieces x3) = 0 then (some "java/lang/IllegalArgumentException", 0, g) else (none, 0, (u3 g 6 x1.toNatClampNeg x2.toNatClampNeg x3))
def kC_stock (x1 : Int32) (x2 : Int32) (x3 : Int32) (g : Nat → Nat → Nat → Int32) (N : Nat → Nat) : Prop := kC_isWithin x1 0 ((g 0 0 0) - 1) ∧ (((fC_isWithin x1 0 ((g 0 0 0) - 1)) = 0 → True) ∧ (¬ ((fC_isWithin x1 0 ((g 0 0 0) - 1)) = 0) → (vp_in x1 20) ∧ (x1.toNatClampNeg < N 0) ∧ ((kC_isGood x2) ∧ (((fC_isGood x2) = 0 → True) ∧ (¬ ((fC_isGood x2) = 0) → (kC_isPieces x3) ∧ (((fC_isPieces x3) = 0 → True) ∧ (¬ ((fC_isPieces x3) = 0) → (vp_in x2 6) ∧ (True))))))))
def fC_end (x1 : Int32) (g : Nat → Nat → Nat → Int32) (N : Nat → Nat) : Option String × Int32 × (Nat → Nat → Nat → Int32) := if (fC_isWithin x1 1 (g 0 0 1)) = 0 then (some "java/util/NoSuchElementException", 0, g) else if (g 7 ((x1 - 1).toNatClampNeg) 4) = 0 then (some "java/lang/IllegalStateException", 0, g) else if (fC_isPieces ((g 6 ((g 7 ((x1 - 1).toNatClampNeg) 1).toNatClampNeg) ((g 7 ((x1 - 1).toNatClampNeg) 2).toNatClampNeg)) + (g 7 ((x1 - 1).toNatClampNeg) 3))) = 0 then (some "java/lang/IllegalStateException", 0, g) else (none, 0, (u3 (u3 g 6 ((g 7 ((x1 - 1).toNatClampNeg) 1).toNatClampNeg) ((g 7 ((x1 - 1).toNatClampNeg) 2).toNatClampNeg) ((g 6 ((g 7 ((x1 - 1).toNatClampNeg) 1).toNatClampNeg) ((g 7 ((x1 - 1).toNatClampNeg) 2).toNatClampNeg)) + (g 7 ((x1 - 1).toNatClampNeg) 3))) 7 ((x1 - 1).toNatClampNeg) 4 0))
def kC_end (x1 : Int32) (g : Nat → Nat → Nat → Int32) (N : Nat → Nat) : Prop := kC_isWithin x1 1 (g 0 0 1) ∧ (((fC_isWithin x1 1 (g 0 0 1)) = 0 → True) ∧ (¬ ((fC_isWithin x1 1 (g 0 0 1)) = 0) → (vp_in (x1 - 1) 60) ∧ ((x1 - 1).toNatClampNeg < N 1) ∧ ((kC_placeNumbered (g 7 ((x1 - 1).toNatClampNeg) 1) g N) ∧ (¬ (fC_isWithin (g 7 ((x1 - 1).toNatClampNeg) 1) 0 ((g 0 0 0) - 1)) = 0) ∧ ((g 7 ((x1 - 1).toNatClampNeg) 1).toNatClampNeg < N 0) ∧ ((vp_in (g 7 ((x1 - 1).toNatClampNeg) 2) 6) ∧ (((g 7 ((x1 - 1).toNatClampNeg) 4) = 0 → True) ∧ (¬ ((g 7 ((x1 - 1).toNatClampNeg) 4) = 0) → (kC_isPieces ((g 6 ((g 7 ((x1 - 1).toNatClampNeg) 1).toNatClampNeg) ((g 7 ((x1 - 1).toNatClampNeg) 2).toNatClampNeg)) + (g 7 ((x1 - 1).toNatClampNeg) 3))) ∧ (((fC_isPieces ((g 6 ((g 7 ((x1 - 1).toNatClampNeg) 1).toNatClampNeg) ((g 7 ((x1 - 1).toNatClampNeg) 2).toNatClampNeg)) + (g 7 ((x1 - 1).toNatClampNeg) 3))) = 0 → True) ∧ (¬ ((fC_isPieces ((g 6 ((g 7 ((x1 - 1).toNatClampNeg) 1).toNatClampNeg) ((g 7 ((x1 - 1).toNatClampNeg) 2).toNatClampNeg)) + (g 7 ((x1 - 1).toNatClampNeg) 3))) = 0) → (vp_in (g 7 ((x1 - 1).toNatClampNeg) 2) 6) ∧ (True)))))))))
def fC_moves (x1 : Int32) (g : Nat → Nat → Nat → Int32) (N : Nat → Nat) : Option String × Int32 × (Nat → Nat → Nat → Int32) := if (fC_isWithin x1 0 ((g 0 0 0) - 1)) = 0 then (some "java/util/NoSuchElementException", 0, g) else (none, fC_openMovesAt x1 g N, g)
def kC_moves (x1 : Int32) (g : Nat → Nat → Nat → Int32) (N : Nat → Nat) : Prop := kC_isWithin x1 0 ((g 0 0 0) - 1) ∧ (((fC_isWithin x1 0 ((g 0 0 0) - 1)) = 0 → True) ∧ (¬ ((fC_isWithin x1 0 ((g 0 0 0) - 1)) = 0) → (vp_in x1 20) ∧ (x1.toNatClampNeg < N 0) ∧ ((kC_openMovesAt x1 g N) ∧ (True))))
def fC_found (x1 : Int32) (x2 : Int32) (x3 : Int32) (x4 : Int32) (x5 : Int32) (g : Nat → Nat → Nat → Int32) (N : Nat → Nat) : Option String × Int32 × (Nat → Nat → Nat → Int32) := if (fC_isWithin x1 1 (g 0 0 2)) = 0 then (some "java/util/NoSuchElementException", 0, g) else if (fC_isWithin x2 0 ((g 0 0 0) - 1)) = 0 then (some "java/util/NoSuchElementException", 0, g) else if (fC_isGood x3) = 0 then (some "java/lang/IllegalArgumentException", 0, g) else if (fC_isPieces x4) = 0 then (some "java/lang/IllegalArgumentException", 0, g) else if (fC_isPerson x5) = 0 then (some "java/lang/IllegalArgumentException", 0, g) else if (g 8 ((x1 - 1).toNatClampNeg) 2) = 1 then if (fS_positionOf ((x1 - 1).toNatClampNeg) x2 g N) = (-1) then (none, (-2), g) else (none, (fS_tell ((x1 - 1).toNatClampNeg) (((fS_positionOf ((x1 - 1).toNatClampNeg) x2 g N) * 6) + x3) x4 x5 g N).1, (fS_tell ((x1 - 1).toNatClampNeg) (((fS_positionOf ((x1 - 1).toNatClampNeg) x2 g N) * 6) + x3) x4 x5 g N).2) else (none, (-1), g)
def kC_found (x1 : Int32) (x2 : Int32) (x3 : Int32) (x4 : Int32) (x5 : Int32) (g : Nat → Nat → Nat → Int32) (N : Nat → Nat) : Prop := kC_isWithin x1 1 (g 0 0 2) ∧ (((fC_isWithin x1 1 (g 0 0 2)) = 0 → True) ∧ (¬ ((fC_isWithin x1 1 (g 0 0 2)) = 0) → (vp_in (x1 - 1) 20) ∧ ((x1 - 1).toNatClampNeg < N 2) ∧ (kC_isWithin x2 0 ((g 0 0 0) - 1) ∧ (((fC_isWithin x2 0 ((g 0 0 0) - 1)) = 0 → True) ∧ (¬ ((fC_isWithin x2 0 ((g 0 0 0) - 1)) = 0) → (vp_in x2 20) ∧ (x2.toNatClampNeg < N 0) ∧ ((kC_isGood x3) ∧ (((fC_isGood x3) = 0 → True) ∧ (¬ ((fC_isGood x3) = 0) → (kC_isPieces x4) ∧ (((fC_isPieces x4) = 0 → True) ∧ (¬ ((fC_isPieces x4) = 0) → (kC_isPerson x5) ∧ (((fC_isPerson x5) = 0 → True) ∧ (¬ ((fC_isPerson x5) = 0) → ((g 8 ((x1 - 1).toNatClampNeg) 2) = 1 → (kS_positionOf ((x1 - 1).toNatClampNeg) x2 g N) ∧ (((fS_positionOf ((x1 - 1).toNatClampNeg) x2 g N) = (-1) → True) ∧ (¬ ((fS_positionOf ((x1 - 1).toNatClampNeg) x2 g N) = (-1)) → (kS_tell ((x1 - 1).toNatClampNeg) (((fS_positionOf ((x1 - 1).toNatClampNeg) x2 g N) * 6) + x3) x4 x5 g N) ∧ (True)))) ∧ (¬ ((g 8 ((x1 - 1).toNatClampNeg) 2) = 1) → True)))))))))))))
def fC_second (x1 : Int32) (x2 : Int32) (x3 : Int32) (g : Nat → Nat → Nat → Int32) (N : Nat → Nat) : Option String × Int32 × (Nat → Nat → Nat → Int32) := if (fC_isWithin x1 1 (g 0 0 2)) = 0 then (some "java/util/NoSuchElementException", 0, g) else if (fC_isWithin x2 0 ((g 0 0 0) - 1)) = 0 then (some "java/util/NoSuchElementException", 0, g) else if (fS_positionOf ((x1 - 1).toNatClampNeg) x2 g N) = (-1) then (some "java/util/NoSuchElementException", 0, g) else if (fC_isGood x3) = 0 then (some "java/lang/IllegalArgumentException", 0, g) else if (g 8 ((x1 - 1).toNatClampNeg) 2) = 1 then if (fS_isToldOnce ((x1 - 1).toNatClampNeg) (((fS_positionOf ((x1 - 1).toNatClampNeg) x2 g N) * 6) + x3) g N) = 0 then (none, 0, g) else if (fC_isTolerated (fS_differenceOf ((x1 - 1).toNatClampNeg) (((fS_positionOf ((x1 - 1).toNatClampNeg) x2 g N) * 6) + x3) g N) x2.toNatClampNeg g N) = 0 then (none, 1, g) else (none, 0, g) else (some "java/lang/IllegalStateException", 0, g)
def kC_second (x1 : Int32) (x2 : Int32) (x3 : Int32) (g : Nat → Nat → Nat → Int32) (N : Nat → Nat) : Prop := kC_isWithin x1 1 (g 0 0 2) ∧ (((fC_isWithin x1 1 (g 0 0 2)) = 0 → True) ∧ (¬ ((fC_isWithin x1 1 (g 0 0 2)) = 0) → (vp_in (x1 - 1) 20) ∧ ((x1 - 1).toNatClampNeg < N 2) ∧ (kC_isWithin x2 0 ((g 0 0 0) - 1) ∧ (((fC_isWithin x2 0 ((g 0 0 0) - 1)) = 0 → True) ∧ (¬ ((fC_isWithin x2 0 ((g 0 0 0) - 1)) = 0) → (vp_in x2 20) ∧ (x2.toNatClampNeg < N 0) ∧ ((kS_positionOf ((x1 - 1).toNatClampNeg) x2 g N) ∧ (((fS_positionOf ((x1 - 1).toNatClampNeg) x2 g N) = (-1) → True) ∧ (¬ ((fS_positionOf ((x1 - 1).toNatClampNeg) x2 g N) = (-1)) → (kC_isGood x3) ∧ (((fC_isGood x3) = 0 → True) ∧ (¬ ((fC_isGood x3) = 0) → ((g 8 ((x1 - 1).toNatClampNeg) 2) = 1 → (kS_isToldOnce ((x1 - 1).toNatClampNeg) (((fS_positionOf ((x1 - 1).toNatClampNeg) x2 g N) * 6) + x3) g N) ∧ (((fS_isToldOnce ((x1 - 1).toNatClampNeg) (((fS_positionOf ((x1 - 1).toNatClampNeg) x2 g N) * 6) + x3) g N) = 0 → True) ∧ (¬ ((fS_isToldOnce ((x1 - 1).toNatClampNeg) (((fS_positionOf ((x1 - 1).toNatClampNeg) x2 g N) * 6) + x3) g N) = 0) → (kS_differenceOf ((x1 - 1).toNatClampNeg) (((fS_positionOf ((x1 - 1).toNatClampNeg) x2 g N) * 6) + x3) g N) ∧ ((kC_isTolerated (fS_differenceOf ((x1 - 1).toNatClampNeg) (((fS_positionOf ((x1 - 1).toNatClampNeg) x2 g N) * 6) + x3) g N) x2.toNatClampNeg g N) ∧ (((fC_isTolerated (fS_differenceOf ((x1 - 1).toNatClampNeg) (((fS_positionOf ((x1 - 1).toNatClampNeg) x2 g N) * 6) + x3) g N) x2.toNatClampNeg g N) = 0 → True) ∧ (¬ ((fC_isTolerated (fS_differenceOf ((x1 - 1).toNatClampNeg) (((fS_positionOf ((x1 - 1).toNatClampNeg) x2 g N) * 6) + x3) g N) x2.toNatClampNeg g N) = 0) → True)))))) ∧ (¬ ((g 8 ((x1 - 1).toNatClampNeg) 2) = 1) → True)))))))))))
def fC_close_26x  (x1 : Int32) (i2 : Nat) (x3 : Int32) (g : Nat → Nat → Nat → Int32) (N : Nat → Nat) : Option String × Int32 × (Nat → Nat → Nat → Int32) := (none, (u3 g 8 i2 2 2) 8 i2 0, (u3 g 8 i2 2 2))
def kC_close_26x  (x1 : Int32) (i2 : Nat) (x3 : Int32) (g : Nat → Nat → Nat → Int32) (N : Nat → Nat) : Prop := True
def fC_close_26  (E26 : Int32 → Nat → Int32 → (Nat → Nat → Nat → Int32) → (Nat → Nat) → (Option String × Int32 × (Nat → Nat → Nat → Int32))) : Nat → Int32 → Nat → Int32 → (Nat → Nat → Nat → Int32) → (Nat → Nat) → (Option String × Int32 × (Nat → Nat → Nat → Int32))
  | 0, _, _, _, _, _ => (none, 0, fun _ _ _ => 0)
  | n + 1, x1, i2, x3, g, N => if (nI (N (3 + i2))) ≤ x3 then E26 x1 i2 x3 g N else if (fS_isPlaceTold i2 x3 (u3 g 5 ((g 9 i2 x3.toNatClampNeg).toNatClampNeg) 2 0) N) = 0 then (fC_close_26 E26 n) x1 i2 (x3 + 1) (u3 g 5 ((g 9 i2 x3.toNatClampNeg).toNatClampNeg) 2 0) N else (fC_close_26 E26 n) x1 i2 (x3 + 1) (fC_countPlace i2 x3 ((g 9 i2 x3.toNatClampNeg).toNatClampNeg) (u3 g 5 ((g 9 i2 x3.toNatClampNeg).toNatClampNeg) 2 0) N) N
def kC_close_26  (KE26 : Int32 → Nat → Int32 → (Nat → Nat → Nat → Int32) → (Nat → Nat) → Prop) : Nat → Int32 → Nat → Int32 → (Nat → Nat → Nat → Int32) → (Nat → Nat) → Prop
  | 0, _, _, _, _, _ => False
  | n + 1, x1, i2, x3, g, N => ((nI (N (3 + i2))) ≤ x3 → KE26 x1 i2 x3 g N) ∧ (¬ ((nI (N (3 + i2))) ≤ x3) → (vp_in x3 (N (3 + i2))) ∧ ((kC_placeNumbered (g 9 i2 x3.toNatClampNeg) g N) ∧ (¬ (fC_isWithin (g 9 i2 x3.toNatClampNeg) 0 ((g 0 0 0) - 1)) = 0) ∧ ((g 9 i2 x3.toNatClampNeg).toNatClampNeg < N 0) ∧ ((kS_isPlaceTold i2 x3 (u3 g 5 ((g 9 i2 x3.toNatClampNeg).toNatClampNeg) 2 0) N) ∧ (((fS_isPlaceTold i2 x3 (u3 g 5 ((g 9 i2 x3.toNatClampNeg).toNatClampNeg) 2 0) N) = 0 → (kC_close_26 KE26 n) x1 i2 (x3 + 1) (u3 g 5 ((g 9 i2 x3.toNatClampNeg).toNatClampNeg) 2 0) N) ∧ (¬ ((fS_isPlaceTold i2 x3 (u3 g 5 ((g 9 i2 x3.toNatClampNeg).toNatClampNeg) 2 0) N) = 0) → (kC_countPlace i2 x3 ((g 9 i2 x3.toNatClampNeg).toNatClampNeg) (u3 g 5 ((g 9 i2 x3.toNatClampNeg).toNatClampNeg) 2 0) N) ∧ ((kC_close_26 KE26 n) x1 i2 (x3 + 1) (fC_countPlace i2 x3 ((g 9 i2 x3.toNatClampNeg).toNatClampNeg) (u3 g 5 ((g 9 i2 x3.toNatClampNeg).toNatClampNeg) 2 0) N) N))))))
def fC_close (x1 : Int32) (g : Nat → Nat → Nat → Int32) (N : Nat → Nat) : Option String × Int32 × (Nat → Nat → Nat → Int32) := if (fC_isWithin x1 1 (g 0 0 2)) = 0 then (some "java/util/NoSuchElementException", 0, g) else if (g 8 ((x1 - 1).toNatClampNeg) 2) = 1 then fC_close_26 fC_close_26x 200 x1 ((x1 - 1).toNatClampNeg) 0 g N else (some "java/lang/IllegalStateException", 0, g)
def kC_close (x1 : Int32) (g : Nat → Nat → Nat → Int32) (N : Nat → Nat) : Prop := kC_isWithin x1 1 (g 0 0 2) ∧ (((fC_isWithin x1 1 (g 0 0 2)) = 0 → True) ∧ (¬ ((fC_isWithin x1 1 (g 0 0 2)) = 0) → (vp_in (x1 - 1) 20) ∧ ((x1 - 1).toNatClampNeg < N 2) ∧ (((g 8 ((x1 - 1).toNatClampNeg) 2) = 1 → kC_close_26 kC_close_26x 200 x1 ((x1 - 1).toNatClampNeg) 0 g N) ∧ (¬ ((g 8 ((x1 - 1).toNatClampNeg) 2) = 1) → True))))
def fC_differ (x1 : Int32) (x2 : Int32) (x3 : Int32) (g : Nat → Nat → Nat → Int32) (N : Nat → Nat) : Option String × Int32 × (Nat → Nat → Nat → Int32) := if (fC_isWithin x1 1 (g 0 0 2)) = 0 then (some "java/util/NoSuchElementException", 0, g) else if (fS_differingLine ((x1 - 1).toNatClampNeg) x2 g N) = (-1) then (some "java/util/NoSuchElementException", 0, g) else if x3 = 0 then (none, g 9 ((x1 - 1).toNatClampNeg) (((fS_differingLine ((x1 - 1).toNatClampNeg) x2 g N) / 6).toNatClampNeg), g) else if x3 = 1 then (none, (fS_differingLine ((x1 - 1).toNatClampNeg) x2 g N) - (fS_differingLine ((x1 - 1).toNatClampNeg) x2 g N) / 6 * 6, g) else if x3 = 2 then (none, fS_differenceOf ((x1 - 1).toNatClampNeg) (fS_differingLine ((x1 - 1).toNatClampNeg) x2 g N) g N, g) else if x3 = 3 then (none, fS_finderOf ((x1 - 1).toNatClampNeg) (fS_differingLine ((x1 - 1).toNatClampNeg) x2 g N) g N, g) else if x3 = 4 then if (g 15 ((x1 - 1).toNatClampNeg) ((fS_differingLine ((x1 - 1).toNatClampNeg) x2 g N).toNatClampNeg)) = 0 then (none, 0, g) else (none, 1, g) else if x3 = 5 then (none, g 14 ((x1 - 1).toNatClampNeg) ((fS_differingLine ((x1 - 1).toNatClampNeg) x2 g N).toNatClampNeg), g) else (some "java/lang/IllegalArgumentException", 0, g)
def kC_differ (x1 : Int32) (x2 : Int32) (x3 : Int32) (g : Nat → Nat → Nat → Int32) (N : Nat → Nat) : Prop := kC_isWithin x1 1 (g 0 0 2) ∧ (((fC_isWithin x1 1 (g 0 0 2)) = 0 → True) ∧ (¬ ((fC_isWithin x1 1 (g 0 0 2)) = 0) → (vp_in (x1 - 1) 20) ∧ ((x1 - 1).toNatClampNeg < N 2) ∧ ((kS_differingLine ((x1 - 1).toNatClampNeg) x2 g N) ∧ (((fS_differingLine ((x1 - 1).toNatClampNeg) x2 g N) = (-1) → True) ∧ (¬ ((fS_differingLine ((x1 - 1).toNatClampNeg) x2 g N) = (-1)) → (x3 = 0 → (vp_in ((fS_differingLine ((x1 - 1).toNatClampNeg) x2 g N) / 6) (N (3 + ((x1 - 1).toNatClampNeg)))) ∧ (True)) ∧ (¬ (x3 = 0) → (x3 = 1 → True) ∧ (¬ (x3 = 1) → (x3 = 2 → (kS_differenceOf ((x1 - 1).toNatClampNeg) (fS_differingLine ((x1 - 1).toNatClampNeg) x2 g N) g N) ∧ (True)) ∧ (¬ (x3 = 2) → (x3 = 3 → (kS_finderOf ((x1 - 1).toNatClampNeg) (fS_differingLine ((x1 - 1).toNatClampNeg) x2 g N) g N) ∧ (True)) ∧ (¬ (x3 = 3) → (x3 = 4 → (vp_in (fS_differingLine ((x1 - 1).toNatClampNeg) x2 g N) (6 * N (3 + ((x1 - 1).toNatClampNeg)))) ∧ (((g 15 ((x1 - 1).toNatClampNeg) ((fS_differingLine ((x1 - 1).toNatClampNeg) x2 g N).toNatClampNeg)) = 0 → True) ∧ (¬ ((g 15 ((x1 - 1).toNatClampNeg) ((fS_differingLine ((x1 - 1).toNatClampNeg) x2 g N).toNatClampNeg)) = 0) → True))) ∧ (¬ (x3 = 4) → (x3 = 5 → (vp_in (fS_differingLine ((x1 - 1).toNatClampNeg) x2 g N) (6 * N (3 + ((x1 - 1).toNatClampNeg)))) ∧ (True)) ∧ (¬ (x3 = 5) → True)))))))))))
def fC_correct (x1 : Int32) (x2 : Int32) (x3 : Int32) (g : Nat → Nat → Nat → Int32) (N : Nat → Nat) : Option String × Int32 × (Nat → Nat → Nat → Int32) := if (fC_isWithin x1 1 (g 0 0 2)) = 0 then (some "java/util/NoSuchElementException", 0, g) else if (fS_differingLine ((x1 - 1).toNatClampNeg) x2 g N) = (-1) then (some "java/util/NoSuchElementException", 0, g) else if (fC_isPerson x3) = 0 then (some "java/lang/IllegalArgumentException", 0, g) else if (g 15 ((x1 - 1).toNatClampNeg) ((fS_differingLine ((x1 - 1).toNatClampNeg) x2 g N).toNatClampNeg)) = 0 then if (fC_mayCorrect ((x1 - 1).toNatClampNeg) (fS_differingLine ((x1 - 1).toNatClampNeg) x2 g N) x3 g N) = 0 then (none, 0, (u3 g 14 ((x1 - 1).toNatClampNeg) ((fS_differingLine ((x1 - 1).toNatClampNeg) x2 g N).toNatClampNeg) x3)) else if (fC_isPieces ((g 6 ((g 9 ((x1 - 1).toNatClampNeg) (((fS_differingLine ((x1 - 1).toNatClampNeg) x2 g N) / 6).toNatClampNeg)).toNatClampNeg) (((fS_differingLine ((x1 - 1).toNatClampNeg) x2 g N) - (fS_differingLine ((x1 - 1).toNatClampNeg) x2 g N) / 6 * 6).toNatClampNeg)) + (fS_differenceOf ((x1 - 1).toNatClampNeg) (fS_differingLine ((x1 - 1).toNatClampNeg) x2 g N) g N))) = 0 then (some "java/lang/IllegalStateException", 0, g) else (none, 1, (u3 (u3 g 6 ((g 9 ((x1 - 1).toNatClampNeg) (((fS_differingLine ((x1 - 1).toNatClampNeg) x2 g N) / 6).toNatClampNeg)).toNatClampNeg) (((fS_differingLine ((x1 - 1).toNatClampNeg) x2 g N) - (fS_differingLine ((x1 - 1).toNatClampNeg) x2 g N) / 6 * 6).toNatClampNeg) ((g 6 ((g 9 ((x1 - 1).toNatClampNeg) (((fS_differingLine ((x1 - 1).toNatClampNeg) x2 g N) / 6).toNatClampNeg)).toNatClampNeg) (((fS_differingLine ((x1 - 1).toNatClampNeg) x2 g N) - (fS_differingLine ((x1 - 1).toNatClampNeg) x2 g N) / 6 * 6).toNatClampNeg)) + (fS_differenceOf ((x1 - 1).toNatClampNeg) (fS_differingLine ((x1 - 1).toNatClampNeg) x2 g N) g N))) 15 ((x1 - 1).toNatClampNeg) ((fS_differingLine ((x1 - 1).toNatClampNeg) x2 g N).toNatClampNeg) (vp_nar .boolean 1))) else (some "java/lang/IllegalStateException", 0, g)
def kC_correct (x1 : Int32) (x2 : Int32) (x3 : Int32) (g : Nat → Nat → Nat → Int32) (N : Nat → Nat) : Prop := kC_isWithin x1 1 (g 0 0 2) ∧ (((fC_isWithin x1 1 (g 0 0 2)) = 0 → True) ∧ (¬ ((fC_isWithin x1 1 (g 0 0 2)) = 0) → (vp_in (x1 - 1) 20) ∧ ((x1 - 1).toNatClampNeg < N 2) ∧ ((kS_differingLine ((x1 - 1).toNatClampNeg) x2 g N) ∧ (((fS_differingLine ((x1 - 1).toNatClampNeg) x2 g N) = (-1) → True) ∧ (¬ ((fS_differingLine ((x1 - 1).toNatClampNeg) x2 g N) = (-1)) → (kC_isPerson x3) ∧ (((fC_isPerson x3) = 0 → True) ∧ (¬ ((fC_isPerson x3) = 0) → (vp_in (fS_differingLine ((x1 - 1).toNatClampNeg) x2 g N) (6 * N (3 + ((x1 - 1).toNatClampNeg)))) ∧ (((g 15 ((x1 - 1).toNatClampNeg) ((fS_differingLine ((x1 - 1).toNatClampNeg) x2 g N).toNatClampNeg)) = 0 → (kC_mayCorrect ((x1 - 1).toNatClampNeg) (fS_differingLine ((x1 - 1).toNatClampNeg) x2 g N) x3 g N) ∧ (((fC_mayCorrect ((x1 - 1).toNatClampNeg) (fS_differingLine ((x1 - 1).toNatClampNeg) x2 g N) x3 g N) = 0 → (vp_in (fS_differingLine ((x1 - 1).toNatClampNeg) x2 g N) (6 * N (3 + ((x1 - 1).toNatClampNeg)))) ∧ (True)) ∧ (¬ ((fC_mayCorrect ((x1 - 1).toNatClampNeg) (fS_differingLine ((x1 - 1).toNatClampNeg) x2 g N) x3 g N) = 0) → (vp_in ((fS_differingLine ((x1 - 1).toNatClampNeg) x2 g N) / 6) (N (3 + ((x1 - 1).toNatClampNeg)))) ∧ ((kC_placeNumbered (g 9 ((x1 - 1).toNatClampNeg) (((fS_differingLine ((x1 - 1).toNatClampNeg) x2 g N) / 6).toNatClampNeg)) g N) ∧ (¬ (fC_isWithin (g 9 ((x1 - 1).toNatClampNeg) (((fS_differingLine ((x1 - 1).toNatClampNeg) x2 g N) / 6).toNatClampNeg)) 0 ((g 0 0 0) - 1)) = 0) ∧ ((g 9 ((x1 - 1).toNatClampNeg) (((fS_differingLine ((x1 - 1).toNatClampNeg) x2 g N) / 6).toNatClampNeg)).toNatClampNeg < N 0) ∧ ((vp_in ((fS_differingLine ((x1 - 1).toNatClampNeg) x2 g N) - (fS_differingLine ((x1 - 1).toNatClampNeg) x2 g N) / 6 * 6) 6) ∧ ((kS_differenceOf ((x1 - 1).toNatClampNeg) (fS_differingLine ((x1 - 1).toNatClampNeg) x2 g N) g N) ∧ ((kC_isPieces ((g 6 ((g 9 ((x1 - 1).toNatClampNeg) (((fS_differingLine ((x1 - 1).toNatClampNeg) x2 g N) / 6).toNatClampNeg)).toNatClampNeg) (((fS_differingLine ((x1 - 1).toNatClampNeg) x2 g N) - (fS_differingLine ((x1 - 1).toNatClampNeg) x2 g N) / 6 * 6).toNatClampNeg)) + (fS_differenceOf ((x1 - 1).toNatClampNeg) (fS_differingLine ((x1 - 1).toNatClampNeg) x2 g N) g N))) ∧ (((fC_isPieces ((g 6 ((g 9 ((x1 - 1).toNatClampNeg) (((fS_differingLine ((x1 - 1).toNatClampNeg) x2 g N) / 6).toNatClampNeg)).toNatClampNeg) (((fS_differingLine ((x1 - 1).toNatClampNeg) x2 g N) - (fS_differingLine ((x1 - 1).toNatClampNeg) x2 g N) / 6 * 6).toNatClampNeg)) + (fS_differenceOf ((x1 - 1).toNatClampNeg) (fS_differingLine ((x1 - 1).toNatClampNeg) x2 g N) g N))) = 0 → True) ∧ (¬ ((fC_isPieces ((g 6 ((g 9 ((x1 - 1).toNatClampNeg) (((fS_differingLine ((x1 - 1).toNatClampNeg) x2 g N) / 6).toNatClampNeg)).toNatClampNeg) (((fS_differingLine ((x1 - 1).toNatClampNeg) x2 g N) - (fS_differingLine ((x1 - 1).toNatClampNeg) x2 g N) / 6 * 6).toNatClampNeg)) + (fS_differenceOf ((x1 - 1).toNatClampNeg) (fS_differingLine ((x1 - 1).toNatClampNeg) x2 g N) g N))) = 0) → (vp_in ((fS_differingLine ((x1 - 1).toNatClampNeg) x2 g N) - (fS_differingLine ((x1 - 1).toNatClampNeg) x2 g N) / 6 * 6) 6) ∧ ((vp_in (fS_differingLine ((x1 - 1).toNatClampNeg) x2 g N) (6 * N (3 + ((x1 - 1).toNatClampNeg)))) ∧ (True))))))))))) ∧ (¬ ((g 15 ((x1 - 1).toNatClampNeg) ((fS_differingLine ((x1 - 1).toNatClampNeg) x2 g N).toNatClampNeg)) = 0) → True)))))))))
def fC_last (x1 : Int32) (g : Nat → Nat → Nat → Int32) (N : Nat → Nat) : Option String × Int32 × (Nat → Nat → Nat → Int32) := if (fC_isWithin x1 0 ((g 0 0 0) - 1)) = 0 then (some "java/util/NoSuchElementException", 0, g) else (none, g 5 x1.toNatClampNeg 1, g)
def kC_last (x1 : Int32) (g : Nat → Nat → Nat → Int32) (N : Nat → Nat) : Prop := kC_isWithin x1 0 ((g 0 0 0) - 1) ∧ (((fC_isWithin x1 0 ((g 0 0 0) - 1)) = 0 → True) ∧ (¬ ((fC_isWithin x1 0 ((g 0 0 0) - 1)) = 0) → (vp_in x1 20) ∧ (x1.toNatClampNeg < N 0) ∧ (True)))
def fC_booked (x1 : Int32) (x2 : Int32) (g : Nat → Nat → Nat → Int32) (N : Nat → Nat) : Option String × Int32 × (Nat → Nat → Nat → Int32) := if (fC_isWithin x1 0 ((g 0 0 0) - 1)) = 0 then (some "java/util/NoSuchElementException", 0, g) else if (fC_isGood x2) = 0 then (some "java/lang/IllegalArgumentException", 0, g) else (none, g 6 x1.toNatClampNeg x2.toNatClampNeg, g)
def kC_booked (x1 : Int32) (x2 : Int32) (g : Nat → Nat → Nat → Int32) (N : Nat → Nat) : Prop := kC_isWithin x1 0 ((g 0 0 0) - 1) ∧ (((fC_isWithin x1 0 ((g 0 0 0) - 1)) = 0 → True) ∧ (¬ ((fC_isWithin x1 0 ((g 0 0 0) - 1)) = 0) → (vp_in x1 20) ∧ (x1.toNatClampNeg < N 0) ∧ ((kC_isGood x2) ∧ (((fC_isGood x2) = 0 → True) ∧ (¬ ((fC_isGood x2) = 0) → (vp_in x2 6) ∧ (True))))))
def fC_told (x1 : Int32) (x2 : Int32) (g : Nat → Nat → Nat → Int32) (N : Nat → Nat) : Option String × Int32 × (Nat → Nat → Nat → Int32) := if (fC_isWithin x1 1 (g 0 0 2)) = 0 then (some "java/util/NoSuchElementException", 0, g) else if x2 < 10 then if x2 = 0 then (none, g 8 ((x1 - 1).toNatClampNeg) 2, g) else if x2 = 1 then (none, nI (N (3 + ((x1 - 1).toNatClampNeg))), g) else if x2 = 2 then (none, g 8 ((x1 - 1).toNatClampNeg) 1, g) else (some "java/lang/IllegalArgumentException", 0, g) else if (nI (N (3 + ((x1 - 1).toNatClampNeg)))) ≤ (x2 - 10) then (none, (-1), g) else (none, g 9 ((x1 - 1).toNatClampNeg) ((x2 - 10).toNatClampNeg), g)
def kC_told (x1 : Int32) (x2 : Int32) (g : Nat → Nat → Nat → Int32) (N : Nat → Nat) : Prop := kC_isWithin x1 1 (g 0 0 2) ∧ (((fC_isWithin x1 1 (g 0 0 2)) = 0 → True) ∧ (¬ ((fC_isWithin x1 1 (g 0 0 2)) = 0) → (vp_in (x1 - 1) 20) ∧ ((x1 - 1).toNatClampNeg < N 2) ∧ ((x2 < 10 → (x2 = 0 → True) ∧ (¬ (x2 = 0) → (x2 = 1 → True) ∧ (¬ (x2 = 1) → (x2 = 2 → True) ∧ (¬ (x2 = 2) → True)))) ∧ (¬ (x2 < 10) → ((nI (N (3 + ((x1 - 1).toNatClampNeg)))) ≤ (x2 - 10) → True) ∧ (¬ ((nI (N (3 + ((x1 - 1).toNatClampNeg)))) ≤ (x2 - 10)) → (vp_in (x2 - 10) (N (3 + ((x1 - 1).toNatClampNeg)))) ∧ (True))))))
set_option maxHeartbeats 4000000 in
set_option maxRecDepth 100000 in
theorem cC_stock (l : Launch) (hlt : l.stackTraces = false) (D : va_G) (tc : Nat → ClassId) (sa : Nat → Nat) (ad : Nat → Nat → Nat) (Y : va_W) (sz : Nat) (x1 : Int32) (x2 : Int32) (x3 : Int32) (g : Nat → Nat → Nat → Int32) (N : Nat → Nat) {F : Option String × Int32 × (Nat → Nat → Nat → Int32)} (hok : kC_stock x1 x2 x3 g N) (hF : fC_stock x1 x2 x3 g N = F) : vx_Met l y_C_stock (Cond.code y_C_stock b_C_stock 5 none :: gw) ({ frames := 7, cells := 2, slots := 12, locals := 104 } : Room) (va_Pc [.ref (ad 0 0), .int x1, .int x2, .int x3] (pC D tc sa (cl tc g N ad ++ Y) sz)) (va_Qv (fun u => (none, (0 : Int32), u) = F) (fun u t => qW D tc (va_A (cl tc g N ad ++ Y) sz) (cl tc u N ad ++ Y) t) (va_A (cl tc g N ad ++ Y) sz)) (xC D tc (va_A (cl tc g N ad ++ Y) sz) (fun E u => (some E, (0 : Int32), u) = F) (fun u => cl tc u N ad ++ Y)) 2 12 (va_A (cl tc g N ad ++ Y) sz) := by
  refine en_X (by decide) (Nat.le_of_ble_eq_true rfl) ?_
  intro p e s m args below meth c ls h0 hN hX hr hlocks htab hsz hw hl
  obtain ⟨hx, hb, hml, hown, hts, hK⟩ := id h0
  have hA : ∀ q : Nat, s.heap.size ≤ q → (va_A (cl tc g N ad ++ Y) sz) q := fun q h => Or.inr (by rw [← hsz]; exact h)
  generalize va_A (cl tc g N ad ++ Y) sz = A at hw hA hX ⊢
  obtain ⟨H, eH⟩ : ∃ z, z = s.heap := ⟨_, rfl⟩
  obtain ⟨locs, eL⟩ : ∃ z : List Loc, z = [] := ⟨_, rfl⟩
  have hw : wH D A s.heap (cl tc g N ad ++ Y) H locs := by rw [eH, eL]; exact hw
  have gl : W p l e ({ frames := 7, cells := 2, slots := 12, locals := 104 } : Room) s m args below meth c H locs 0 0 (vx_MQ below (va_Qv (fun u => (none, (0 : Int32), u) = F) (fun u t => qW D tc A (cl tc u N ad ++ Y) t) A) (xC D tc A (fun E u => (some E, (0 : Int32), u) = F) (fun u => cl tc u N ad ++ Y)) args s 2 12 A) (F0 m 0 ls []) := ?_
  · rw [eH, eL] at gl; exact gl
  have hl : lv_has ls 5 [(0, .ref (ad 0 0)), (1, .int x1), (2, .int x2), (3, .int x3)] := hl
  unfold kC_stock at hok
  unfold fC_stock at hF
  refine lv_aload_n hx hb d_C_stock_0 rfl (lv_at hl 0 rfl) ?_
  refine lv_iload_n hx hb d_C_stock_1 rfl (lv_at hl 1 rfl) ?_
  obtain ⟨hi_1, hok⟩ := hok
  refine dx_r (n := 1) (C := "CountRounds") (b := ad 0 0) (q0 := bw_o (cb tc g N ad) 0 + 0) (ci := 3) (As := [.int x1]) (rest := []) h0 hX hw hA (xC_placeNumbered l hlt D tc sa ad Y H.size x1 g N ⟨hi_1, fun _ => trivial, fun c9 => ⟨(hok.2 c9).1, (hok.2 c9).2.1, trivial⟩⟩) (gd_V wd_236 wd_238 (gw_s 3 rfl rfl) wd_1 wd_239) (by decide +kernel) ⟨rfl, rfl, (Nat.le_of_ble_eq_true rfl), (Nat.le_of_ble_eq_true rfl), (Nat.le_of_ble_eq_true rfl), (Nat.le_of_ble_eq_true rfl)⟩ (bw_get (bs := cb tc g N ad) (j := 0) rfl Nat.one_pos Y) rfl rfl hl.1 rfl (Nat.le_of_ble_eq_true rfl) d_C_stock_2 (fun c_2 H locs q ce hw hq hv hcl => ?_) (fun c_2 locs hw => ?_)
  · have hF := (if_pos c_2).symm.trans hF
    exact ox_t h0 hw htab hlocks hq hv hcl g hF rfl (Nat.le_of_ble_eq_true rfl) (Nat.le_of_ble_eq_true rfl)
  · have hok := hok.2 c_2
    have hF := (if_neg c_2).symm.trans hF
    obtain ⟨hi_3, hi_4, hok⟩ := hok
    refine lv_astore (lv' := [(4, .ref (ad 1 x1.toNatClampNeg)), (0, .ref (ad 0 0)), (1, .int x1), (2, .int x2), (3, .int x3)]) hx hb d_C_stock_5 hl (by decide) rfl (fun ls hl => ?_)
    refine lv_iload_n hx hb d_C_stock_7 rfl (lv_at hl 3 rfl) ?_
    obtain ⟨hi_5, hok⟩ := hok
    refine cs_p (n := 1) (As := [.int x2]) (rest := []) hx hb hml hown hts (cC_isGood l x2 hi_5 rfl) (gd_S wd_241 wd_242 wd_1 wd_243) (by decide +kernel) ⟨rfl, rfl, (Nat.le_of_ble_eq_true rfl), (Nat.le_of_ble_eq_true rfl), (Nat.le_of_ble_eq_true rfl), (Nat.le_of_ble_eq_true rfl)⟩ rfl hl.1 rfl (Nat.le_of_ble_eq_true rfl) d_C_stock_8 ?_
    refine lv_if_eq (tgt := 21) hx hb d_C_stock_11 (by decide) (fun c_6 => ?_) (fun c_6 => ?_)
    · have hok := hok.1 c_6
      have hF := (if_pos c_6).symm.trans hF
      exact th_S hlt h0 rfl hX hw (by decide +kernel) wd_175 wd_7 (q9 := 4) rfl at_iae ag_iae hl.1 d_C_stock_21 d_C_stock_24 d_C_stock_25 d_C_stock_27 d_C_stock_30 htab hlocks ⟨(Nat.le_of_ble_eq_true rfl), (Nat.le_of_ble_eq_true rfl), (Nat.le_of_ble_eq_true rfl), (Nat.le_of_ble_eq_true rfl)⟩ g hF rfl (Nat.le_of_ble_eq_true rfl) (Nat.le_of_ble_eq_true rfl)
    · have hok := hok.2 c_6
      have hF := (if_neg c_6).symm.trans hF
      refine lv_iload_n hx hb d_C_stock_14 rfl (lv_at hl 4 rfl) ?_
      obtain ⟨hi_7, hok⟩ := hok
      refine cs_p (n := 1) (As := [.int x3]) (rest := []) hx hb hml hown hts (cC_isPieces l x3 hi_7 rfl) (gd_S wd_244 wd_245 wd_1 wd_246) (by decide +kernel) ⟨rfl, rfl, (Nat.le_of_ble_eq_true rfl), (Nat.le_of_ble_eq_true rfl), (Nat.le_of_ble_eq_true rfl), (Nat.le_of_ble_eq_true rfl)⟩ rfl hl.1 rfl (Nat.le_of_ble_eq_true rfl) d_C_stock_15 ?_
      refine lv_if_ne (tgt := 31) hx hb d_C_stock_18 (by decide) (fun c_8 => ?_) (fun c_8 => ?_)
      · have hok := hok.2 c_8
        have hF := (if_neg c_8).symm.trans hF
        refine lv_aload hx hb d_C_stock_31 (lv_at hl 0 rfl) ?_
        refine gCP_1 h0 hN hw hi_4 d_C_stock_33 ?_
        refine lv_iload_n hx hb d_C_stock_36 rfl (lv_at hl 3 rfl) ?_
        refine lv_iload_n hx hb d_C_stock_37 rfl (lv_at hl 4 rfl) ?_
        obtain ⟨hi_9, hok⟩ := hok
        refine s_pieces h0 hw hi_4 hi_9 d_C_stock_38 (fun H locs hw => ?_)
        exact vx_ret (rt_v h0 hw hr hlocks (u3 g 6 x1.toNatClampNeg x2.toNatClampNeg x3) hF rfl d_C_stock_39 (Nat.le_of_ble_eq_true rfl) (Nat.le_of_ble_eq_true rfl))
      · have hok := hok.1 c_8
        have hF := (if_pos c_8).symm.trans hF
        exact th_S hlt h0 rfl hX hw (by decide +kernel) wd_175 wd_7 (q9 := 4) rfl at_iae ag_iae hl.1 d_C_stock_21 d_C_stock_24 d_C_stock_25 d_C_stock_27 d_C_stock_30 htab hlocks ⟨(Nat.le_of_ble_eq_true rfl), (Nat.le_of_ble_eq_true rfl), (Nat.le_of_ble_eq_true rfl), (Nat.le_of_ble_eq_true rfl)⟩ g hF rfl (Nat.le_of_ble_eq_true rfl) (Nat.le_of_ble_eq_true rfl)
set_option maxHeartbeats 4000000 in
set_option maxRecDepth 100000 in
theorem cC_end (l : Launch) (hlt : l.stackTraces = false) (D : va_G) (tc : Nat → ClassId) (sa : Nat → Nat) (ad : Nat → Nat → Nat) (Y : va_W) (sz : Nat) (x1 : Int32) (g : Nat → Nat → Nat → Int32) (N : Nat → Nat) {F : Option String × Int32 × (Nat → Nat → Nat → Int32)} (hok : kC_end x1 g N) (hF : fC_end x1 g N = F) : vx_Met l y_C_end (Cond.code y_C_end b_C_end 5 none :: gw) ({ frames := 7, cells := 2, slots := 12, locals := 104 } : Room) (va_Pc [.ref (ad 0 0), .int x1] (pC D tc sa (cl tc g N ad ++ Y) sz)) (va_Qv (fun u => (none, (0 : Int32), u) = F) (fun u t => qW D tc (va_A (cl tc g N ad ++ Y) sz) (cl tc u N ad ++ Y) t) (va_A (cl tc g N ad ++ Y) sz)) (xC D tc (va_A (cl tc g N ad ++ Y) sz) (fun E u => (some E, (0 : Int32), u) = F) (fun u => cl tc u N ad ++ Y)) 2 12 (va_A (cl tc g N ad ++ Y) sz) := by
  refine en_X (by decide) (Nat.le_of_ble_eq_true rfl) ?_
  intro p e s m args below meth c ls h0 hN hX hr hlocks htab hsz hw hl
  obtain ⟨hx, hb, hml, hown, hts, hK⟩ := id h0
  have hA : ∀ q : Nat, s.heap.size ≤ q → (va_A (cl tc g N ad ++ Y) sz) q := fun q h => Or.inr (by rw [← hsz]; exact h)
  generalize va_A (cl tc g N ad ++ Y) sz = A at hw hA hX ⊢
  obtain ⟨H, eH⟩ : ∃ z, z = s.heap := ⟨_, rfl⟩
  obtain ⟨locs, eL⟩ : ∃ z : List Loc, z = [] := ⟨_, rfl⟩
  have hw : wH D A s.heap (cl tc g N ad ++ Y) H locs := by rw [eH, eL]; exact hw
  have gl : W p l e ({ frames := 7, cells := 2, slots := 12, locals := 104 } : Room) s m args below meth c H locs 0 0 (vx_MQ below (va_Qv (fun u => (none, (0 : Int32), u) = F) (fun u t => qW D tc A (cl tc u N ad ++ Y) t) A) (xC D tc A (fun E u => (some E, (0 : Int32), u) = F) (fun u => cl tc u N ad ++ Y)) args s 2 12 A) (F0 m 0 ls []) := ?_
  · rw [eH, eL] at gl; exact gl
  have hl : lv_has ls 5 [(0, .ref (ad 0 0)), (1, .int x1)] := hl
  unfold kC_end at hok
  unfold fC_end at hF
  refine lv_aload_n hx hb d_C_end_0 rfl (lv_at hl 0 rfl) ?_
  refine lv_iload_n hx hb d_C_end_1 rfl (lv_at hl 1 rfl) ?_
  obtain ⟨hi_1, hok⟩ := hok
  refine dx_r (n := 1) (C := "CountRounds") (b := ad 0 0) (q0 := bw_o (cb tc g N ad) 0 + 0) (ci := 3) (As := [.int x1]) (rest := []) h0 hX hw hA (xC_transferNumbered l hlt D tc sa ad Y H.size x1 g N ⟨hi_1, fun _ => trivial, fun c9 => ⟨(hok.2 c9).1, (hok.2 c9).2.1, trivial⟩⟩) (gd_V wd_86 wd_88 (gw_s 1 rfl rfl) wd_1 wd_89) (by decide +kernel) ⟨rfl, rfl, (Nat.le_of_ble_eq_true rfl), (Nat.le_of_ble_eq_true rfl), (Nat.le_of_ble_eq_true rfl), (Nat.le_of_ble_eq_true rfl)⟩ (bw_get (bs := cb tc g N ad) (j := 0) rfl Nat.one_pos Y) rfl rfl hl.1 rfl (Nat.le_of_ble_eq_true rfl) d_C_end_2 (fun c_2 H locs q ce hw hq hv hcl => ?_) (fun c_2 locs hw => ?_)
  · have hF := (if_pos c_2).symm.trans hF
    exact ox_t h0 hw htab hlocks hq hv hcl g hF rfl (Nat.le_of_ble_eq_true rfl) (Nat.le_of_ble_eq_true rfl)
  · have hok := hok.2 c_2
    have hF := (if_neg c_2).symm.trans hF
    obtain ⟨hi_3, hi_4, hok⟩ := hok
    refine lv_astore_n (lv' := [(2, .ref (ad 3 ((x1 - 1).toNatClampNeg))), (0, .ref (ad 0 0)), (1, .int x1)]) hx hb d_C_end_5 rfl hl (by decide) rfl (fun ls hl => ?_)
    refine lv_aload_n hx hb d_C_end_6 rfl (lv_at hl 1 rfl) ?_
    refine lv_aload_n hx hb d_C_end_7 rfl (lv_at hl 0 rfl) ?_
    refine gCT_1 h0 hN hw hi_4 d_C_end_8 ?_
    obtain ⟨hi_5, hi_6, hi_7, hok⟩ := hok
    refine dv_p (n := 1) (C := "CountRounds") (b := ad 0 0) (q0 := bw_o (cb tc g N ad) 0 + 0) (ci := 3) (As := [.int (g 7 ((x1 - 1).toNatClampNeg) 1)]) (rest := []) h0 hX hw hA (cC_placeNumbered l D tc sa ad Y H.size (g 7 ((x1 - 1).toNatClampNeg) 1) g N hi_5 (if_neg hi_6)) (gd_V wd_236 wd_238 (gw_s 3 rfl rfl) wd_1 wd_239) (by decide +kernel) ⟨rfl, rfl, (Nat.le_of_ble_eq_true rfl), (Nat.le_of_ble_eq_true rfl), (Nat.le_of_ble_eq_true rfl), (Nat.le_of_ble_eq_true rfl)⟩ (bw_get (bs := cb tc g N ad) (j := 0) rfl Nat.one_pos Y) rfl rfl hl.1 rfl (Nat.le_of_ble_eq_true rfl) d_C_end_11 ?_
    refine lv_astore_n (lv' := [(3, .ref (ad 1 ((g 7 ((x1 - 1).toNatClampNeg) 1).toNatClampNeg))), (2, .ref (ad 3 ((x1 - 1).toNatClampNeg))), (0, .ref (ad 0 0)), (1, .int x1)]) hx hb d_C_end_14 rfl hl (by decide) rfl (fun ls hl => ?_)
    refine lv_aload_n hx hb d_C_end_15 rfl (lv_at hl 0 rfl) ?_
    refine gCP_1 h0 hN hw hi_7 d_C_end_16 ?_
    refine lv_aload_n hx hb d_C_end_19 rfl (lv_at hl 1 rfl) ?_
    refine gCT_2 h0 hN hw hi_4 d_C_end_20 ?_
    obtain ⟨hi_8, hok⟩ := hok
    refine l_pieces h0 hw hi_7 hi_8 d_C_end_23 ?_
    refine lv_aload_n hx hb d_C_end_24 rfl (lv_at hl 1 rfl) ?_
    refine gCT_3 h0 hN hw hi_4 d_C_end_25 ?_
    refine lv_iadd hx hb d_C_end_28 ?_
    refine lv_istore (lv' := [(4, .int ((g 6 ((g 7 ((x1 - 1).toNatClampNeg) 1).toNatClampNeg) ((g 7 ((x1 - 1).toNatClampNeg) 2).toNatClampNeg)) + (g 7 ((x1 - 1).toNatClampNeg) 3))), (3, .ref (ad 1 ((g 7 ((x1 - 1).toNatClampNeg) 1).toNatClampNeg))), (2, .ref (ad 3 ((x1 - 1).toNatClampNeg))), (0, .ref (ad 0 0)), (1, .int x1)]) hx hb d_C_end_29 hl (by decide) rfl (fun ls hl => ?_)
    refine lv_aload_n hx hb d_C_end_31 rfl (lv_at hl 2 rfl) ?_
    refine gCT_4 h0 hN hw hi_4 d_C_end_32 ?_
    refine lv_if_eq (tgt := 46) hx hb d_C_end_35 (by decide) (fun c_9 => ?_) (fun c_9 => ?_)
    · have hok := hok.1 c_9
      have hF := (if_pos c_9).symm.trans hF
      exact th_S hlt h0 rfl hX hw (by decide +kernel) wd_288 wd_11 (q9 := 13) rfl at_ise ag_ise hl.1 d_C_end_46 d_C_end_49 d_C_end_50 d_C_end_52 d_C_end_55 htab hlocks ⟨(Nat.le_of_ble_eq_true rfl), (Nat.le_of_ble_eq_true rfl), (Nat.le_of_ble_eq_true rfl), (Nat.le_of_ble_eq_true rfl)⟩ g hF rfl (Nat.le_of_ble_eq_true rfl) (Nat.le_of_ble_eq_true rfl)
    · have hok := hok.2 c_9
      have hF := (if_neg c_9).symm.trans hF
      refine lv_iload hx hb d_C_end_38 (lv_at hl 0 rfl) ?_
      obtain ⟨hi_10, hok⟩ := hok
      refine cs_p (n := 1) (As := [.int ((g 6 ((g 7 ((x1 - 1).toNatClampNeg) 1).toNatClampNeg) ((g 7 ((x1 - 1).toNatClampNeg) 2).toNatClampNeg)) + (g 7 ((x1 - 1).toNatClampNeg) 3))]) (rest := []) hx hb hml hown hts (cC_isPieces l ((g 6 ((g 7 ((x1 - 1).toNatClampNeg) 1).toNatClampNeg) ((g 7 ((x1 - 1).toNatClampNeg) 2).toNatClampNeg)) + (g 7 ((x1 - 1).toNatClampNeg) 3)) hi_10 rfl) (gd_S wd_244 wd_245 wd_1 wd_246) (by decide +kernel) ⟨rfl, rfl, (Nat.le_of_ble_eq_true rfl), (Nat.le_of_ble_eq_true rfl), (Nat.le_of_ble_eq_true rfl), (Nat.le_of_ble_eq_true rfl)⟩ rfl hl.1 rfl (Nat.le_of_ble_eq_true rfl) d_C_end_40 ?_
      refine lv_if_ne (tgt := 56) hx hb d_C_end_43 (by decide) (fun c_11 => ?_) (fun c_11 => ?_)
      · have hok := hok.2 c_11
        have hF := (if_neg c_11).symm.trans hF
        refine lv_aload_n hx hb d_C_end_56 rfl (lv_at hl 1 rfl) ?_
        refine gCP_1 h0 hN hw hi_7 d_C_end_57 ?_
        refine lv_aload_n hx hb d_C_end_60 rfl (lv_at hl 2 rfl) ?_
        refine gCT_2 h0 hN hw hi_4 d_C_end_61 ?_
        refine lv_iload hx hb d_C_end_64 (lv_at hl 0 rfl) ?_
        obtain ⟨hi_12, hok⟩ := hok
        refine s_pieces h0 hw hi_7 hi_12 d_C_end_66 (fun H locs hw => ?_)
        refine lv_aload_n hx hb d_C_end_67 rfl (lv_at hl 2 rfl) ?_
        refine lv_iconst (v := 0) hx hb d_C_end_68 (by decide) ?_
        refine pCT_4 h0 hN hw hi_4 rfl rfl d_C_end_69 (fun H locs hw => ?_)
        exact vx_ret (rt_v h0 hw hr hlocks (u3 (u3 g 6 ((g 7 ((x1 - 1).toNatClampNeg) 1).toNatClampNeg) ((g 7 ((x1 - 1).toNatClampNeg) 2).toNatClampNeg) ((g 6 ((g 7 ((x1 - 1).toNatClampNeg) 1).toNatClampNeg) ((g 7 ((x1 - 1).toNatClampNeg) 2).toNatClampNeg)) + (g 7 ((x1 - 1).toNatClampNeg) 3))) 7 ((x1 - 1).toNatClampNeg) 4 0) hF rfl d_C_end_72 (Nat.le_of_ble_eq_true rfl) (Nat.le_of_ble_eq_true rfl))
      · have hok := hok.1 c_11
        have hF := (if_pos c_11).symm.trans hF
        exact th_S hlt h0 rfl hX hw (by decide +kernel) wd_288 wd_11 (q9 := 13) rfl at_ise ag_ise hl.1 d_C_end_46 d_C_end_49 d_C_end_50 d_C_end_52 d_C_end_55 htab hlocks ⟨(Nat.le_of_ble_eq_true rfl), (Nat.le_of_ble_eq_true rfl), (Nat.le_of_ble_eq_true rfl), (Nat.le_of_ble_eq_true rfl)⟩ g hF rfl (Nat.le_of_ble_eq_true rfl) (Nat.le_of_ble_eq_true rfl)
set_option maxHeartbeats 4000000 in
set_option maxRecDepth 100000 in
theorem cC_moves (l : Launch) (hlt : l.stackTraces = false) (D : va_G) (tc : Nat → ClassId) (sa : Nat → Nat) (ad : Nat → Nat → Nat) (Y : va_W) (sz : Nat) (x1 : Int32) (g : Nat → Nat → Nat → Int32) (N : Nat → Nat) {F : Option String × Int32 × (Nat → Nat → Nat → Int32)} (hok : kC_moves x1 g N) (hF : fC_moves x1 g N = F) : vx_Met l y_C_moves (Cond.code y_C_moves b_C_moves 2 (some .int) :: gw) ({ frames := 7, cells := 1, slots := 6, locals := 104 } : Room) (va_Pc [.ref (ad 0 0), .int x1] (pC D tc sa (cl tc g N ad ++ Y) sz)) (va_Qi (fun r u => (none, r, u) = F) (fun u t => qW D tc (va_A (cl tc g N ad ++ Y) sz) (cl tc u N ad ++ Y) t) (va_A (cl tc g N ad ++ Y) sz)) (xC D tc (va_A (cl tc g N ad ++ Y) sz) (fun E u => (some E, (0 : Int32), u) = F) (fun u => cl tc u N ad ++ Y)) 1 6 (va_A (cl tc g N ad ++ Y) sz) := by
  refine en_X (by decide) (Nat.le_of_ble_eq_true rfl) ?_
  intro p e s m args below meth c ls h0 hN hX hr hlocks htab hsz hw hl
  obtain ⟨hx, hb, hml, hown, hts, hK⟩ := id h0
  have hA : ∀ q : Nat, s.heap.size ≤ q → (va_A (cl tc g N ad ++ Y) sz) q := fun q h => Or.inr (by rw [← hsz]; exact h)
  generalize va_A (cl tc g N ad ++ Y) sz = A at hw hA hX ⊢
  obtain ⟨H, eH⟩ : ∃ z, z = s.heap := ⟨_, rfl⟩
  obtain ⟨locs, eL⟩ : ∃ z : List Loc, z = [] := ⟨_, rfl⟩
  have hw : wH D A s.heap (cl tc g N ad ++ Y) H locs := by rw [eH, eL]; exact hw
  have gl : W p l e ({ frames := 7, cells := 1, slots := 6, locals := 104 } : Room) s m args below meth c H locs 0 0 (vx_MQ below (va_Qi (fun r u => (none, r, u) = F) (fun u t => qW D tc A (cl tc u N ad ++ Y) t) A) (xC D tc A (fun E u => (some E, (0 : Int32), u) = F) (fun u => cl tc u N ad ++ Y)) args s 1 6 A) (F0 m 0 ls []) := ?_
  · rw [eH, eL] at gl; exact gl
  have hl : lv_has ls 2 [(0, .ref (ad 0 0)), (1, .int x1)] := hl
  unfold kC_moves at hok
  unfold fC_moves at hF
  refine lv_aload_n hx hb d_C_moves_0 rfl (lv_at hl 0 rfl) ?_
  refine lv_iload_n hx hb d_C_moves_1 rfl (lv_at hl 1 rfl) ?_
  obtain ⟨hi_1, hok⟩ := hok
  refine dx_r (n := 1) (C := "CountRounds") (b := ad 0 0) (q0 := bw_o (cb tc g N ad) 0 + 0) (ci := 3) (As := [.int x1]) (rest := []) h0 hX hw hA (xC_placeNumbered l hlt D tc sa ad Y H.size x1 g N ⟨hi_1, fun _ => trivial, fun c9 => ⟨(hok.2 c9).1, (hok.2 c9).2.1, trivial⟩⟩) (gd_V wd_236 wd_238 (gw_s 3 rfl rfl) wd_1 wd_239) (by decide +kernel) ⟨rfl, rfl, (Nat.le_of_ble_eq_true rfl), (Nat.le_of_ble_eq_true rfl), (Nat.le_of_ble_eq_true rfl), (Nat.le_of_ble_eq_true rfl)⟩ (bw_get (bs := cb tc g N ad) (j := 0) rfl Nat.one_pos Y) rfl rfl hl.1 rfl (Nat.le_of_ble_eq_true rfl) d_C_moves_2 (fun c_2 H locs q ce hw hq hv hcl => ?_) (fun c_2 locs hw => ?_)
  · have hF := (if_pos c_2).symm.trans hF
    exact ox_t h0 hw htab hlocks hq hv hcl g hF rfl (Nat.le_of_ble_eq_true rfl) (Nat.le_of_ble_eq_true rfl)
  · have hok := hok.2 c_2
    have hF := (if_neg c_2).symm.trans hF
    obtain ⟨hi_3, hi_4, hok⟩ := hok
    refine lv_pop hx hb d_C_moves_5 rfl ?_
    refine lv_aload_n hx hb d_C_moves_6 rfl (lv_at hl 0 rfl) ?_
    refine lv_iload_n hx hb d_C_moves_7 rfl (lv_at hl 1 rfl) ?_
    obtain ⟨hi_5, hok⟩ := hok
    refine dv_p (n := 1) (C := "CountRounds") (b := ad 0 0) (q0 := bw_o (cb tc g N ad) 0 + 0) (ci := 3) (As := [.int x1]) (rest := []) h0 hX hw hA (cC_openMovesAt l D tc sa ad Y H.size x1 g N hi_5 rfl) (gd_V wd_355 wd_357 (gw_s 4 rfl rfl) wd_1 wd_358) (by decide +kernel) ⟨rfl, rfl, (Nat.le_of_ble_eq_true rfl), (Nat.le_of_ble_eq_true rfl), (Nat.le_of_ble_eq_true rfl), (Nat.le_of_ble_eq_true rfl)⟩ (bw_get (bs := cb tc g N ad) (j := 0) rfl Nat.one_pos Y) rfl rfl hl.1 rfl (Nat.le_of_ble_eq_true rfl) d_C_moves_8 ?_
    exact vx_ret (rt_i h0 hw hr hlocks rfl g hF rfl d_C_moves_11 (Nat.le_of_ble_eq_true rfl) (Nat.le_of_ble_eq_true rfl))
set_option maxHeartbeats 4000000 in
set_option maxRecDepth 100000 in
theorem cC_found (l : Launch) (hlt : l.stackTraces = false) (D : va_G) (tc : Nat → ClassId) (sa : Nat → Nat) (ad : Nat → Nat → Nat) (Y : va_W) (sz : Nat) (x1 : Int32) (x2 : Int32) (x3 : Int32) (x4 : Int32) (x5 : Int32) (g : Nat → Nat → Nat → Int32) (N : Nat → Nat) {F : Option String × Int32 × (Nat → Nat → Nat → Int32)} (hok : kC_found x1 x2 x3 x4 x5 g N) (hF : fC_found x1 x2 x3 x4 x5 g N = F) : vx_Met l y_C_found (Cond.code y_C_found b_C_found 8 (some .int) :: gw) ({ frames := 7, cells := 3, slots := 18, locals := 104 } : Room) (va_Pc [.ref (ad 0 0), .int x1, .int x2, .int x3, .int x4, .int x5] (pC D tc sa (cl tc g N ad ++ Y) sz)) (va_Qi (fun r u => (none, r, u) = F) (fun u t => qW D tc (va_A (cl tc g N ad ++ Y) sz) (cl tc u N ad ++ Y) t) (va_A (cl tc g N ad ++ Y) sz)) (xC D tc (va_A (cl tc g N ad ++ Y) sz) (fun E u => (some E, (0 : Int32), u) = F) (fun u => cl tc u N ad ++ Y)) 3 18 (va_A (cl tc g N ad ++ Y) sz) := by
  refine en_X (by decide) (Nat.le_of_ble_eq_true rfl) ?_
  intro p e s m args below meth c ls h0 hN hX hr hlocks htab hsz hw hl
  obtain ⟨hx, hb, hml, hown, hts, hK⟩ := id h0
  have hA : ∀ q : Nat, s.heap.size ≤ q → (va_A (cl tc g N ad ++ Y) sz) q := fun q h => Or.inr (by rw [← hsz]; exact h)
  generalize va_A (cl tc g N ad ++ Y) sz = A at hw hA hX ⊢
  obtain ⟨H, eH⟩ : ∃ z, z = s.heap := ⟨_, rfl⟩
  obtain ⟨locs, eL⟩ : ∃ z : List Loc, z = [] := ⟨_, rfl⟩
  have hw : wH D A s.heap (cl tc g N ad ++ Y) H locs := by rw [eH, eL]; exact hw
  have gl : W p l e ({ frames := 7, cells := 3, slots := 18, locals := 104 } : Room) s m args below meth c H locs 0 0 (vx_MQ below (va_Qi (fun r u => (none, r, u) = F) (fun u t => qW D tc A (cl tc u N ad ++ Y) t) A) (xC D tc A (fun E u => (some E, (0 : Int32), u) = F) (fun u => cl tc u N ad ++ Y)) args s 3 18 A) (F0 m 0 ls []) := ?_
  · rw [eH, eL] at gl; exact gl
  have hl : lv_has ls 8 [(0, .ref (ad 0 0)), (1, .int x1), (2, .int x2), (3, .int x3), (4, .int x4), (5, .int x5)] := hl
  unfold kC_found at hok
  unfold fC_found at hF
  refine lv_aload_n hx hb d_C_found_0 rfl (lv_at hl 0 rfl) ?_
  refine lv_iload_n hx hb d_C_found_1 rfl (lv_at hl 1 rfl) ?_
  obtain ⟨hi_1, hok⟩ := hok
  refine dx_r (n := 1) (C := "CountRounds") (b := ad 0 0) (q0 := bw_o (cb tc g N ad) 0 + 0) (ci := 3) (As := [.int x1]) (rest := []) h0 hX hw hA (xC_sheetNumbered l hlt D tc sa ad Y H.size x1 g N ⟨hi_1, fun _ => trivial, fun c9 => ⟨(hok.2 c9).1, (hok.2 c9).2.1, trivial⟩⟩) (gd_V wd_444 wd_446 (gw_s 8 rfl rfl) wd_1 wd_447) (by decide +kernel) ⟨rfl, rfl, (Nat.le_of_ble_eq_true rfl), (Nat.le_of_ble_eq_true rfl), (Nat.le_of_ble_eq_true rfl), (Nat.le_of_ble_eq_true rfl)⟩ (bw_get (bs := cb tc g N ad) (j := 0) rfl Nat.one_pos Y) rfl rfl hl.1 rfl (Nat.le_of_ble_eq_true rfl) d_C_found_2 (fun c_2 H locs q ce hw hq hv hcl => ?_) (fun c_2 locs hw => ?_)
  · have hF := (if_pos c_2).symm.trans hF
    exact ox_t h0 hw htab hlocks hq hv hcl g hF rfl (Nat.le_of_ble_eq_true rfl) (Nat.le_of_ble_eq_true rfl)
  · have hok := hok.2 c_2
    have hF := (if_neg c_2).symm.trans hF
    obtain ⟨hi_3, hi_4, hok⟩ := hok
    refine lv_astore (lv' := [(6, .ref (ad 4 ((x1 - 1).toNatClampNeg))), (0, .ref (ad 0 0)), (1, .int x1), (2, .int x2), (3, .int x3), (4, .int x4), (5, .int x5)]) hx hb d_C_found_5 hl (by decide) rfl (fun ls hl => ?_)
    refine lv_aload_n hx hb d_C_found_7 rfl (lv_at hl 1 rfl) ?_
    refine lv_iload_n hx hb d_C_found_8 rfl (lv_at hl 3 rfl) ?_
    obtain ⟨hi_5, hok⟩ := hok
    refine dx_r (n := 1) (C := "CountRounds") (b := ad 0 0) (q0 := bw_o (cb tc g N ad) 0 + 0) (ci := 3) (As := [.int x2]) (rest := []) h0 hX hw hA (xC_placeNumbered l hlt D tc sa ad Y H.size x2 g N ⟨hi_5, fun _ => trivial, fun c9 => ⟨(hok.2 c9).1, (hok.2 c9).2.1, trivial⟩⟩) (gd_V wd_236 wd_238 (gw_s 3 rfl rfl) wd_1 wd_239) (by decide +kernel) ⟨rfl, rfl, (Nat.le_of_ble_eq_true rfl), (Nat.le_of_ble_eq_true rfl), (Nat.le_of_ble_eq_true rfl), (Nat.le_of_ble_eq_true rfl)⟩ (bw_get (bs := cb tc g N ad) (j := 0) rfl Nat.one_pos Y) rfl rfl hl.1 rfl (Nat.le_of_ble_eq_true rfl) d_C_found_9 (fun c_6 H locs q ce hw hq hv hcl => ?_) (fun c_6 locs hw => ?_)
    · have hF := (if_pos c_6).symm.trans hF
      exact ox_t h0 hw htab hlocks hq hv hcl g hF rfl (Nat.le_of_ble_eq_true rfl) (Nat.le_of_ble_eq_true rfl)
    · have hok := hok.2 c_6
      have hF := (if_neg c_6).symm.trans hF
      obtain ⟨hi_7, hi_8, hok⟩ := hok
      refine lv_pop hx hb d_C_found_12 rfl ?_
      refine lv_iload_n hx hb d_C_found_13 rfl (lv_at hl 4 rfl) ?_
      obtain ⟨hi_9, hok⟩ := hok
      refine cs_p (n := 1) (As := [.int x3]) (rest := []) hx hb hml hown hts (cC_isGood l x3 hi_9 rfl) (gd_S wd_241 wd_242 wd_1 wd_243) (by decide +kernel) ⟨rfl, rfl, (Nat.le_of_ble_eq_true rfl), (Nat.le_of_ble_eq_true rfl), (Nat.le_of_ble_eq_true rfl), (Nat.le_of_ble_eq_true rfl)⟩ rfl hl.1 rfl (Nat.le_of_ble_eq_true rfl) d_C_found_14 ?_
      refine lv_if_eq (tgt := 36) hx hb d_C_found_17 (by decide) (fun c_10 => ?_) (fun c_10 => ?_)
      · have hok := hok.1 c_10
        have hF := (if_pos c_10).symm.trans hF
        exact th_S hlt h0 rfl hX hw (by decide +kernel) wd_175 wd_7 (q9 := 19) rfl at_iae ag_iae hl.1 d_C_found_36 d_C_found_39 d_C_found_40 d_C_found_42 d_C_found_45 htab hlocks ⟨(Nat.le_of_ble_eq_true rfl), (Nat.le_of_ble_eq_true rfl), (Nat.le_of_ble_eq_true rfl), (Nat.le_of_ble_eq_true rfl)⟩ g hF rfl (Nat.le_of_ble_eq_true rfl) (Nat.le_of_ble_eq_true rfl)
      · have hok := hok.2 c_10
        have hF := (if_neg c_10).symm.trans hF
        refine lv_iload hx hb d_C_found_20 (lv_at hl 5 rfl) ?_
        obtain ⟨hi_11, hok⟩ := hok
        refine cs_p (n := 1) (As := [.int x4]) (rest := []) hx hb hml hown hts (cC_isPieces l x4 hi_11 rfl) (gd_S wd_244 wd_245 wd_1 wd_246) (by decide +kernel) ⟨rfl, rfl, (Nat.le_of_ble_eq_true rfl), (Nat.le_of_ble_eq_true rfl), (Nat.le_of_ble_eq_true rfl), (Nat.le_of_ble_eq_true rfl)⟩ rfl hl.1 rfl (Nat.le_of_ble_eq_true rfl) d_C_found_22 ?_
        refine lv_if_eq (tgt := 36) hx hb d_C_found_25 (by decide) (fun c_12 => ?_) (fun c_12 => ?_)
        · have hok := hok.1 c_12
          have hF := (if_pos c_12).symm.trans hF
          exact th_S hlt h0 rfl hX hw (by decide +kernel) wd_175 wd_7 (q9 := 19) rfl at_iae ag_iae hl.1 d_C_found_36 d_C_found_39 d_C_found_40 d_C_found_42 d_C_found_45 htab hlocks ⟨(Nat.le_of_ble_eq_true rfl), (Nat.le_of_ble_eq_true rfl), (Nat.le_of_ble_eq_true rfl), (Nat.le_of_ble_eq_true rfl)⟩ g hF rfl (Nat.le_of_ble_eq_true rfl) (Nat.le_of_ble_eq_true rfl)
        · have hok := hok.2 c_12
          have hF := (if_neg c_12).symm.trans hF
          refine lv_iload hx hb d_C_found_28 (lv_at hl 6 rfl) ?_
          obtain ⟨hi_13, hok⟩ := hok
          refine cs_p (n := 1) (As := [.int x5]) (rest := []) hx hb hml hown hts (cC_isPerson l x5 hi_13 rfl) (gd_S wd_264 wd_265 wd_1 wd_266) (by decide +kernel) ⟨rfl, rfl, (Nat.le_of_ble_eq_true rfl), (Nat.le_of_ble_eq_true rfl), (Nat.le_of_ble_eq_true rfl), (Nat.le_of_ble_eq_true rfl)⟩ rfl hl.1 rfl (Nat.le_of_ble_eq_true rfl) d_C_found_30 ?_
          refine lv_if_ne (tgt := 46) hx hb d_C_found_33 (by decide) (fun c_14 => ?_) (fun c_14 => ?_)
          · have hok := hok.2 c_14
            have hF := (if_neg c_14).symm.trans hF
            refine lv_aload hx hb d_C_found_46 (lv_at hl 0 rfl) ?_
            refine gCS_10 h0 hN hw hi_4 d_C_found_48 ?_
            refine lv_iconst (v := 1) hx hb d_C_found_51 (by decide) ?_
            refine lv_icmp_eq (tgt := 57) hx hb d_C_found_52 (by decide) (fun c_15 => ?_) (fun c_15 => ?_)
            · have hok := hok.1 c_15
              have hF := (if_pos c_15).symm.trans hF
              refine lv_aload hx hb d_C_found_57 (lv_at hl 0 rfl) ?_
              refine lv_iload_n hx hb d_C_found_59 rfl (lv_at hl 3 rfl) ?_
              obtain ⟨hi_16, hok⟩ := hok
              refine dn_p (n := 1) (C := "CountRounds$Sheet") (b := ad 4 ((x1 - 1).toNatClampNeg)) (q0 := bw_o (cb tc g N ad) 11 + ((x1 - 1).toNatClampNeg)) (ci := 1) (As := [.int x2]) (rest := []) h0 hX hw hA (cS_positionOf l D tc sa ad Y H.size ((x1 - 1).toNatClampNeg) x2 g N hi_4 hi_16 rfl) wd_461 wn_458 wd_15 wd_460 (gw_s 11 rfl rfl) (by decide +kernel) ⟨rfl, rfl, (Nat.le_of_ble_eq_true rfl), (Nat.le_of_ble_eq_true rfl), (Nat.le_of_ble_eq_true rfl), (Nat.le_of_ble_eq_true rfl)⟩ (bw_get (bs := cb tc g N ad) (j := 11) rfl hi_4 Y) rfl rfl hl.1 rfl (Nat.le_of_ble_eq_true rfl) d_C_found_60 ?_
              refine lv_istore (lv' := [(7, .int (fS_positionOf ((x1 - 1).toNatClampNeg) x2 g N)), (6, .ref (ad 4 ((x1 - 1).toNatClampNeg))), (0, .ref (ad 0 0)), (1, .int x1), (2, .int x2), (3, .int x3), (4, .int x4), (5, .int x5)]) hx hb d_C_found_63 hl (by decide) rfl (fun ls hl => ?_)
              refine lv_iload hx hb d_C_found_65 (lv_at hl 0 rfl) ?_
              refine lv_iconst (v := (-1)) hx hb d_C_found_67 (by decide) ?_
              refine lv_icmp_ne (tgt := 74) hx hb d_C_found_68 (by decide) (fun c_17 => ?_) (fun c_17 => ?_)
              · have hok := hok.2 c_17
                have hF := (if_neg c_17).symm.trans hF
                refine lv_aload hx hb d_C_found_74 (lv_at hl 1 rfl) ?_
                refine lv_iload hx hb d_C_found_76 (lv_at hl 0 rfl) ?_
                refine lv_bipush (v := 6) hx hb d_C_found_78 (by decide) ?_
                refine lv_imul hx hb d_C_found_80 ?_
                refine lv_iload_n hx hb d_C_found_81 rfl (lv_at hl 5 rfl) ?_
                refine lv_iadd hx hb d_C_found_82 ?_
                refine lv_iload hx hb d_C_found_83 (lv_at hl 6 rfl) ?_
                refine lv_iload hx hb d_C_found_85 (lv_at hl 7 rfl) ?_
                obtain ⟨hi_18, hok⟩ := hok
                refine dn_i (wd := fun u => cl tc u N ad ++ Y) (n := 3) (C := "CountRounds$Sheet") (b := ad 4 ((x1 - 1).toNatClampNeg)) (q0 := bw_o (cb tc g N ad) 11 + ((x1 - 1).toNatClampNeg)) (ci := 1) (As := [.int (((fS_positionOf ((x1 - 1).toNatClampNeg) x2 g N) * 6) + x3), .int x4, .int x5]) (rest := []) h0 hX hw hA (cS_tell l D tc sa ad Y H.size ((x1 - 1).toNatClampNeg) (((fS_positionOf ((x1 - 1).toNatClampNeg) x2 g N) * 6) + x3) x4 x5 g N hi_4 hi_18 rfl) wd_473 wn_470 wd_15 wd_472 (gw_s 12 rfl rfl) (by decide +kernel) ⟨rfl, rfl, (Nat.le_of_ble_eq_true rfl), (Nat.le_of_ble_eq_true rfl), (Nat.le_of_ble_eq_true rfl), (Nat.le_of_ble_eq_true rfl)⟩ (bw_get (bs := cb tc g N ad) (j := 11) rfl hi_4 Y) rfl rfl hl.1 rfl (Nat.le_of_ble_eq_true rfl) d_C_found_87 (fun r u H locs hu hw => ?_)
                have hu19 := congrArg Prod.fst hu
                have hv19 := congrArg Prod.snd hu
                dsimp only at hu19 hv19
                subst hu19
                subst hv19
                exact vx_ret (rt_i h0 hw hr hlocks rfl (fS_tell ((x1 - 1).toNatClampNeg) (((fS_positionOf ((x1 - 1).toNatClampNeg) x2 g N) * 6) + x3) x4 x5 g N).2 hF rfl d_C_found_90 (Nat.le_of_ble_eq_true rfl) (Nat.le_of_ble_eq_true rfl))
              · have hok := hok.1 c_17
                have hF := (if_pos c_17).symm.trans hF
                refine lv_bipush (v := (-2)) hx hb d_C_found_71 (by decide) ?_
                exact vx_ret (rt_i h0 hw hr hlocks rfl g hF rfl d_C_found_73 (Nat.le_of_ble_eq_true rfl) (Nat.le_of_ble_eq_true rfl))
            · have hok := hok.2 c_15
              have hF := (if_neg c_15).symm.trans hF
              refine lv_iconst (v := (-1)) hx hb d_C_found_55 (by decide) ?_
              exact vx_ret (rt_i h0 hw hr hlocks rfl g hF rfl d_C_found_56 (Nat.le_of_ble_eq_true rfl) (Nat.le_of_ble_eq_true rfl))
          · have hok := hok.1 c_14
            have hF := (if_pos c_14).symm.trans hF
            exact th_S hlt h0 rfl hX hw (by decide +kernel) wd_175 wd_7 (q9 := 19) rfl at_iae ag_iae hl.1 d_C_found_36 d_C_found_39 d_C_found_40 d_C_found_42 d_C_found_45 htab hlocks ⟨(Nat.le_of_ble_eq_true rfl), (Nat.le_of_ble_eq_true rfl), (Nat.le_of_ble_eq_true rfl), (Nat.le_of_ble_eq_true rfl)⟩ g hF rfl (Nat.le_of_ble_eq_true rfl) (Nat.le_of_ble_eq_true rfl)
set_option maxHeartbeats 4000000 in
set_option maxRecDepth 100000 in
theorem cC_second (l : Launch) (hlt : l.stackTraces = false) (D : va_G) (tc : Nat → ClassId) (sa : Nat → Nat) (ad : Nat → Nat → Nat) (Y : va_W) (sz : Nat) (x1 : Int32) (x2 : Int32) (x3 : Int32) (g : Nat → Nat → Nat → Int32) (N : Nat → Nat) {F : Option String × Int32 × (Nat → Nat → Nat → Int32)} (hok : kC_second x1 x2 x3 g N) (hF : fC_second x1 x2 x3 g N = F) : vx_Met l y_C_second (Cond.code y_C_second b_C_second 8 (some .boolean) :: gw) ({ frames := 7, cells := 3, slots := 18, locals := 104 } : Room) (va_Pc [.ref (ad 0 0), .int x1, .int x2, .int x3] (pC D tc sa (cl tc g N ad ++ Y) sz)) (va_Qi (fun r u => (none, r, u) = F) (fun u t => qW D tc (va_A (cl tc g N ad ++ Y) sz) (cl tc u N ad ++ Y) t) (va_A (cl tc g N ad ++ Y) sz)) (xC D tc (va_A (cl tc g N ad ++ Y) sz) (fun E u => (some E, (0 : Int32), u) = F) (fun u => cl tc u N ad ++ Y)) 3 18 (va_A (cl tc g N ad ++ Y) sz) := by
  refine en_X (by decide) (Nat.le_of_ble_eq_true rfl) ?_
  intro p e s m args below meth c ls h0 hN hX hr hlocks htab hsz hw hl
  obtain ⟨hx, hb, hml, hown, hts, hK⟩ := id h0
  have hA : ∀ q : Nat, s.heap.size ≤ q → (va_A (cl tc g N ad ++ Y) sz) q := fun q h => Or.inr (by rw [← hsz]; exact h)
  generalize va_A (cl tc g N ad ++ Y) sz = A at hw hA hX ⊢
  obtain ⟨H, eH⟩ : ∃ z, z = s.heap := ⟨_, rfl⟩
  obtain ⟨locs, eL⟩ : ∃ z : List Loc, z = [] := ⟨_, rfl⟩
  have hw : wH D A s.heap (cl tc g N ad ++ Y) H locs := by rw [eH, eL]; exact hw
  have gl : W p l e ({ frames := 7, cells := 3, slots := 18, locals := 104 } : Room) s m args below meth c H locs 0 0 (vx_MQ below (va_Qi (fun r u => (none, r, u) = F) (fun u t => qW D tc A (cl tc u N ad ++ Y) t) A) (xC D tc A (fun E u => (some E, (0 : Int32), u) = F) (fun u => cl tc u N ad ++ Y)) args s 3 18 A) (F0 m 0 ls []) := ?_
  · rw [eH, eL] at gl; exact gl
  have hl : lv_has ls 8 [(0, .ref (ad 0 0)), (1, .int x1), (2, .int x2), (3, .int x3)] := hl
  unfold kC_second at hok
  unfold fC_second at hF
  refine lv_aload_n hx hb d_C_second_0 rfl (lv_at hl 0 rfl) ?_
  refine lv_iload_n hx hb d_C_second_1 rfl (lv_at hl 1 rfl) ?_
  obtain ⟨hi_1, hok⟩ := hok
  refine dx_r (n := 1) (C := "CountRounds") (b := ad 0 0) (q0 := bw_o (cb tc g N ad) 0 + 0) (ci := 3) (As := [.int x1]) (rest := []) h0 hX hw hA (xC_sheetNumbered l hlt D tc sa ad Y H.size x1 g N ⟨hi_1, fun _ => trivial, fun c9 => ⟨(hok.2 c9).1, (hok.2 c9).2.1, trivial⟩⟩) (gd_V wd_444 wd_446 (gw_s 8 rfl rfl) wd_1 wd_447) (by decide +kernel) ⟨rfl, rfl, (Nat.le_of_ble_eq_true rfl), (Nat.le_of_ble_eq_true rfl), (Nat.le_of_ble_eq_true rfl), (Nat.le_of_ble_eq_true rfl)⟩ (bw_get (bs := cb tc g N ad) (j := 0) rfl Nat.one_pos Y) rfl rfl hl.1 rfl (Nat.le_of_ble_eq_true rfl) d_C_second_2 (fun c_2 H locs q ce hw hq hv hcl => ?_) (fun c_2 locs hw => ?_)
  · have hF := (if_pos c_2).symm.trans hF
    exact ox_t h0 hw htab hlocks hq hv hcl g hF rfl (Nat.le_of_ble_eq_true rfl) (Nat.le_of_ble_eq_true rfl)
  · have hok := hok.2 c_2
    have hF := (if_neg c_2).symm.trans hF
    obtain ⟨hi_3, hi_4, hok⟩ := hok
    refine lv_astore (lv' := [(4, .ref (ad 4 ((x1 - 1).toNatClampNeg))), (0, .ref (ad 0 0)), (1, .int x1), (2, .int x2), (3, .int x3)]) hx hb d_C_second_5 hl (by decide) rfl (fun ls hl => ?_)
    refine lv_aload_n hx hb d_C_second_7 rfl (lv_at hl 1 rfl) ?_
    refine lv_iload_n hx hb d_C_second_8 rfl (lv_at hl 3 rfl) ?_
    obtain ⟨hi_5, hok⟩ := hok
    refine dx_r (n := 1) (C := "CountRounds") (b := ad 0 0) (q0 := bw_o (cb tc g N ad) 0 + 0) (ci := 3) (As := [.int x2]) (rest := []) h0 hX hw hA (xC_placeNumbered l hlt D tc sa ad Y H.size x2 g N ⟨hi_5, fun _ => trivial, fun c9 => ⟨(hok.2 c9).1, (hok.2 c9).2.1, trivial⟩⟩) (gd_V wd_236 wd_238 (gw_s 3 rfl rfl) wd_1 wd_239) (by decide +kernel) ⟨rfl, rfl, (Nat.le_of_ble_eq_true rfl), (Nat.le_of_ble_eq_true rfl), (Nat.le_of_ble_eq_true rfl), (Nat.le_of_ble_eq_true rfl)⟩ (bw_get (bs := cb tc g N ad) (j := 0) rfl Nat.one_pos Y) rfl rfl hl.1 rfl (Nat.le_of_ble_eq_true rfl) d_C_second_9 (fun c_6 H locs q ce hw hq hv hcl => ?_) (fun c_6 locs hw => ?_)
    · have hF := (if_pos c_6).symm.trans hF
      exact ox_t h0 hw htab hlocks hq hv hcl g hF rfl (Nat.le_of_ble_eq_true rfl) (Nat.le_of_ble_eq_true rfl)
    · have hok := hok.2 c_6
      have hF := (if_neg c_6).symm.trans hF
      obtain ⟨hi_7, hi_8, hok⟩ := hok
      refine lv_astore (lv' := [(5, .ref (ad 1 x2.toNatClampNeg)), (4, .ref (ad 4 ((x1 - 1).toNatClampNeg))), (0, .ref (ad 0 0)), (1, .int x1), (2, .int x2), (3, .int x3)]) hx hb d_C_second_12 hl (by decide) rfl (fun ls hl => ?_)
      refine lv_aload hx hb d_C_second_14 (lv_at hl 1 rfl) ?_
      refine lv_iload_n hx hb d_C_second_16 rfl (lv_at hl 4 rfl) ?_
      obtain ⟨hi_9, hok⟩ := hok
      refine dn_p (n := 1) (C := "CountRounds$Sheet") (b := ad 4 ((x1 - 1).toNatClampNeg)) (q0 := bw_o (cb tc g N ad) 11 + ((x1 - 1).toNatClampNeg)) (ci := 1) (As := [.int x2]) (rest := []) h0 hX hw hA (cS_positionOf l D tc sa ad Y H.size ((x1 - 1).toNatClampNeg) x2 g N hi_4 hi_9 rfl) wd_461 wn_458 wd_15 wd_460 (gw_s 11 rfl rfl) (by decide +kernel) ⟨rfl, rfl, (Nat.le_of_ble_eq_true rfl), (Nat.le_of_ble_eq_true rfl), (Nat.le_of_ble_eq_true rfl), (Nat.le_of_ble_eq_true rfl)⟩ (bw_get (bs := cb tc g N ad) (j := 11) rfl hi_4 Y) rfl rfl hl.1 rfl (Nat.le_of_ble_eq_true rfl) d_C_second_17 ?_
      refine lv_istore (lv' := [(6, .int (fS_positionOf ((x1 - 1).toNatClampNeg) x2 g N)), (5, .ref (ad 1 x2.toNatClampNeg)), (4, .ref (ad 4 ((x1 - 1).toNatClampNeg))), (0, .ref (ad 0 0)), (1, .int x1), (2, .int x2), (3, .int x3)]) hx hb d_C_second_20 hl (by decide) rfl (fun ls hl => ?_)
      refine lv_iload hx hb d_C_second_22 (lv_at hl 0 rfl) ?_
      refine lv_iconst (v := (-1)) hx hb d_C_second_24 (by decide) ?_
      refine lv_icmp_ne (tgt := 38) hx hb d_C_second_25 (by decide) (fun c_10 => ?_) (fun c_10 => ?_)
      · have hok := hok.2 c_10
        have hF := (if_neg c_10).symm.trans hF
        refine lv_iload_n hx hb d_C_second_38 rfl (lv_at hl 6 rfl) ?_
        obtain ⟨hi_11, hok⟩ := hok
        refine cs_p (n := 1) (As := [.int x3]) (rest := []) hx hb hml hown hts (cC_isGood l x3 hi_11 rfl) (gd_S wd_241 wd_242 wd_1 wd_243) (by decide +kernel) ⟨rfl, rfl, (Nat.le_of_ble_eq_true rfl), (Nat.le_of_ble_eq_true rfl), (Nat.le_of_ble_eq_true rfl), (Nat.le_of_ble_eq_true rfl)⟩ rfl hl.1 rfl (Nat.le_of_ble_eq_true rfl) d_C_second_39 ?_
        refine lv_if_ne (tgt := 55) hx hb d_C_second_42 (by decide) (fun c_12 => ?_) (fun c_12 => ?_)
        · have hok := hok.2 c_12
          have hF := (if_neg c_12).symm.trans hF
          refine lv_aload hx hb d_C_second_55 (lv_at hl 2 rfl) ?_
          refine gCS_10 h0 hN hw hi_4 d_C_second_57 ?_
          refine lv_iconst (v := 1) hx hb d_C_second_60 (by decide) ?_
          refine lv_icmp_eq (tgt := 74) hx hb d_C_second_61 (by decide) (fun c_13 => ?_) (fun c_13 => ?_)
          · have hok := hok.1 c_13
            have hF := (if_pos c_13).symm.trans hF
            refine lv_iload hx hb d_C_second_74 (lv_at hl 0 rfl) ?_
            refine lv_bipush (v := 6) hx hb d_C_second_76 (by decide) ?_
            refine lv_imul hx hb d_C_second_78 ?_
            refine lv_iload_n hx hb d_C_second_79 rfl (lv_at hl 6 rfl) ?_
            refine lv_iadd hx hb d_C_second_80 ?_
            refine lv_istore (lv' := [(7, .int (((fS_positionOf ((x1 - 1).toNatClampNeg) x2 g N) * 6) + x3)), (6, .int (fS_positionOf ((x1 - 1).toNatClampNeg) x2 g N)), (5, .ref (ad 1 x2.toNatClampNeg)), (4, .ref (ad 4 ((x1 - 1).toNatClampNeg))), (0, .ref (ad 0 0)), (1, .int x1), (2, .int x2), (3, .int x3)]) hx hb d_C_second_81 hl (by decide) rfl (fun ls hl => ?_)
            refine lv_aload hx hb d_C_second_83 (lv_at hl 3 rfl) ?_
            refine lv_iload hx hb d_C_second_85 (lv_at hl 0 rfl) ?_
            obtain ⟨hi_14, hok⟩ := hok
            refine dn_p (n := 1) (C := "CountRounds$Sheet") (b := ad 4 ((x1 - 1).toNatClampNeg)) (q0 := bw_o (cb tc g N ad) 11 + ((x1 - 1).toNatClampNeg)) (ci := 1) (As := [.int (((fS_positionOf ((x1 - 1).toNatClampNeg) x2 g N) * 6) + x3)]) (rest := []) h0 hX hw hA (cS_isToldOnce l D tc sa ad Y H.size ((x1 - 1).toNatClampNeg) (((fS_positionOf ((x1 - 1).toNatClampNeg) x2 g N) * 6) + x3) g N hi_4 hi_14 rfl) wd_487 wn_484 wd_15 wd_486 (gw_s 13 rfl rfl) (by decide +kernel) ⟨rfl, rfl, (Nat.le_of_ble_eq_true rfl), (Nat.le_of_ble_eq_true rfl), (Nat.le_of_ble_eq_true rfl), (Nat.le_of_ble_eq_true rfl)⟩ (bw_get (bs := cb tc g N ad) (j := 11) rfl hi_4 Y) rfl rfl hl.1 rfl (Nat.le_of_ble_eq_true rfl) d_C_second_87 ?_
            refine lv_if_eq (tgt := 113) hx hb d_C_second_90 (by decide) (fun c_15 => ?_) (fun c_15 => ?_)
            · have hok := hok.1 c_15
              have hF := (if_pos c_15).symm.trans hF
              refine lv_iconst (v := 0) hx hb d_C_second_113 (by decide) ?_
              exact vx_ret (rt_i h0 hw hr hlocks rfl g hF rfl d_C_second_114 (Nat.le_of_ble_eq_true rfl) (Nat.le_of_ble_eq_true rfl))
            · have hok := hok.2 c_15
              have hF := (if_neg c_15).symm.trans hF
              refine lv_aload_n hx hb d_C_second_93 rfl (lv_at hl 4 rfl) ?_
              refine lv_aload hx hb d_C_second_94 (lv_at hl 3 rfl) ?_
              refine lv_iload hx hb d_C_second_96 (lv_at hl 0 rfl) ?_
              obtain ⟨hi_16, hok⟩ := hok
              refine dn_p (n := 1) (C := "CountRounds$Sheet") (b := ad 4 ((x1 - 1).toNatClampNeg)) (q0 := bw_o (cb tc g N ad) 11 + ((x1 - 1).toNatClampNeg)) (ci := 1) (As := [.int (((fS_positionOf ((x1 - 1).toNatClampNeg) x2 g N) * 6) + x3)]) (rest := [.ref (ad 0 0)]) h0 hX hw hA (cS_differenceOf l D tc sa ad Y H.size ((x1 - 1).toNatClampNeg) (((fS_positionOf ((x1 - 1).toNatClampNeg) x2 g N) * 6) + x3) g N hi_4 hi_16 rfl) wd_491 wn_488 wd_15 wd_490 (gw_s 14 rfl rfl) (by decide +kernel) ⟨rfl, rfl, (Nat.le_of_ble_eq_true rfl), (Nat.le_of_ble_eq_true rfl), (Nat.le_of_ble_eq_true rfl), (Nat.le_of_ble_eq_true rfl)⟩ (bw_get (bs := cb tc g N ad) (j := 11) rfl hi_4 Y) rfl rfl hl.1 rfl (Nat.le_of_ble_eq_true rfl) d_C_second_98 ?_
              refine lv_aload hx hb d_C_second_101 (lv_at hl 2 rfl) ?_
              obtain ⟨hi_17, hok⟩ := hok
              refine dv_p (n := 2) (C := "CountRounds") (b := ad 0 0) (q0 := bw_o (cb tc g N ad) 0 + 0) (ci := 3) (As := [.int (fS_differenceOf ((x1 - 1).toNatClampNeg) (((fS_positionOf ((x1 - 1).toNatClampNeg) x2 g N) * 6) + x3) g N), .ref (ad 1 x2.toNatClampNeg)]) (rest := []) h0 hX hw hA (cC_isTolerated l D tc sa ad Y H.size (fS_differenceOf ((x1 - 1).toNatClampNeg) (((fS_positionOf ((x1 - 1).toNatClampNeg) x2 g N) * 6) + x3) g N) x2.toNatClampNeg g N hi_8 hi_17 rfl) (gd_V wd_492 wd_494 (gw_s 15 rfl rfl) wd_1 wd_495) (by decide +kernel) ⟨rfl, rfl, (Nat.le_of_ble_eq_true rfl), (Nat.le_of_ble_eq_true rfl), (Nat.le_of_ble_eq_true rfl), (Nat.le_of_ble_eq_true rfl)⟩ (bw_get (bs := cb tc g N ad) (j := 0) rfl Nat.one_pos Y) rfl rfl hl.1 rfl (Nat.le_of_ble_eq_true rfl) d_C_second_103 ?_
              refine lv_if_ne (tgt := 113) hx hb d_C_second_106 (by decide) (fun c_18 => ?_) (fun c_18 => ?_)
              · have hok := hok.2 c_18
                have hF := (if_neg c_18).symm.trans hF
                refine lv_iconst (v := 0) hx hb d_C_second_113 (by decide) ?_
                exact vx_ret (rt_i h0 hw hr hlocks rfl g hF rfl d_C_second_114 (Nat.le_of_ble_eq_true rfl) (Nat.le_of_ble_eq_true rfl))
              · have hok := hok.1 c_18
                have hF := (if_pos c_18).symm.trans hF
                refine lv_iconst (v := 1) hx hb d_C_second_109 (by decide) ?_
                refine lv_goto (tgt := 114) hx hb d_C_second_110 (by decide) ?_
                exact vx_ret (rt_i h0 hw hr hlocks rfl g hF rfl d_C_second_114 (Nat.le_of_ble_eq_true rfl) (Nat.le_of_ble_eq_true rfl))
          · have hok := hok.2 c_13
            have hF := (if_neg c_13).symm.trans hF
            exact th_S hlt h0 rfl hX hw (by decide +kernel) wd_288 wd_11 (q9 := 22) rfl at_ise ag_ise hl.1 d_C_second_64 d_C_second_67 d_C_second_68 d_C_second_70 d_C_second_73 htab hlocks ⟨(Nat.le_of_ble_eq_true rfl), (Nat.le_of_ble_eq_true rfl), (Nat.le_of_ble_eq_true rfl), (Nat.le_of_ble_eq_true rfl)⟩ g hF rfl (Nat.le_of_ble_eq_true rfl) (Nat.le_of_ble_eq_true rfl)
        · have hok := hok.1 c_12
          have hF := (if_pos c_12).symm.trans hF
          exact th_S hlt h0 rfl hX hw (by decide +kernel) wd_175 wd_7 (q9 := 21) rfl at_iae ag_iae hl.1 d_C_second_45 d_C_second_48 d_C_second_49 d_C_second_51 d_C_second_54 htab hlocks ⟨(Nat.le_of_ble_eq_true rfl), (Nat.le_of_ble_eq_true rfl), (Nat.le_of_ble_eq_true rfl), (Nat.le_of_ble_eq_true rfl)⟩ g hF rfl (Nat.le_of_ble_eq_true rfl) (Nat.le_of_ble_eq_true rfl)
      · have hok := hok.1 c_10
        have hF := (if_pos c_10).symm.trans hF
        exact tn_S hlt h0 rfl hX hw wd_93 wd_10 (q9 := 20) rfl rfl rfl hl.1 d_C_second_28 d_C_second_31 d_C_second_32 d_C_second_34 d_C_second_37 htab hlocks ⟨(Nat.le_of_ble_eq_true rfl), (Nat.le_of_ble_eq_true rfl), (Nat.le_of_ble_eq_true rfl), (Nat.le_of_ble_eq_true rfl)⟩ g hF rfl (Nat.le_of_ble_eq_true rfl) (Nat.le_of_ble_eq_true rfl)
set_option maxHeartbeats 4000000 in
set_option maxRecDepth 100000 in
theorem cC_close (l : Launch) (hlt : l.stackTraces = false) (D : va_G) (tc : Nat → ClassId) (sa : Nat → Nat) (ad : Nat → Nat → Nat) (Y : va_W) (sz : Nat) (x1 : Int32) (g : Nat → Nat → Nat → Int32) (N : Nat → Nat) {F : Option String × Int32 × (Nat → Nat → Nat → Int32)} (hok : kC_close x1 g N) (hF : fC_close x1 g N = F) : vx_Met l y_C_close (Cond.code y_C_close b_C_close 5 (some .int) :: gw) ({ frames := 7, cells := 2, slots := 12, locals := 104 } : Room) (va_Pc [.ref (ad 0 0), .int x1] (pC D tc sa (cl tc g N ad ++ Y) sz)) (va_Qi (fun r u => (none, r, u) = F) (fun u t => qW D tc (va_A (cl tc g N ad ++ Y) sz) (cl tc u N ad ++ Y) t) (va_A (cl tc g N ad ++ Y) sz)) (xC D tc (va_A (cl tc g N ad ++ Y) sz) (fun E u => (some E, (0 : Int32), u) = F) (fun u => cl tc u N ad ++ Y)) 2 12 (va_A (cl tc g N ad ++ Y) sz) := by
  refine en_X (by decide) (Nat.le_of_ble_eq_true rfl) ?_
  intro p e s m args below meth c ls h0 hN hX hr hlocks htab hsz hw hl
  obtain ⟨hx, hb, hml, hown, hts, hK⟩ := id h0
  have hA : ∀ q : Nat, s.heap.size ≤ q → (va_A (cl tc g N ad ++ Y) sz) q := fun q h => Or.inr (by rw [← hsz]; exact h)
  generalize va_A (cl tc g N ad ++ Y) sz = A at hw hA hX ⊢
  obtain ⟨H, eH⟩ : ∃ z, z = s.heap := ⟨_, rfl⟩
  obtain ⟨locs, eL⟩ : ∃ z : List Loc, z = [] := ⟨_, rfl⟩
  have hw : wH D A s.heap (cl tc g N ad ++ Y) H locs := by rw [eH, eL]; exact hw
  have gl : W p l e ({ frames := 7, cells := 2, slots := 12, locals := 104 } : Room) s m args below meth c H locs 0 0 (vx_MQ below (va_Qi (fun r u => (none, r, u) = F) (fun u t => qW D tc A (cl tc u N ad ++ Y) t) A) (xC D tc A (fun E u => (some E, (0 : Int32), u) = F) (fun u => cl tc u N ad ++ Y)) args s 2 12 A) (F0 m 0 ls []) := ?_
  · rw [eH, eL] at gl; exact gl
  have hl : lv_has ls 5 [(0, .ref (ad 0 0)), (1, .int x1)] := hl
  unfold kC_close at hok
  unfold fC_close at hF
  refine lv_aload_n hx hb d_C_close_0 rfl (lv_at hl 0 rfl) ?_
  refine lv_iload_n hx hb d_C_close_1 rfl (lv_at hl 1 rfl) ?_
  obtain ⟨hi_1, hok⟩ := hok
  refine dx_r (n := 1) (C := "CountRounds") (b := ad 0 0) (q0 := bw_o (cb tc g N ad) 0 + 0) (ci := 3) (As := [.int x1]) (rest := []) h0 hX hw hA (xC_sheetNumbered l hlt D tc sa ad Y H.size x1 g N ⟨hi_1, fun _ => trivial, fun c9 => ⟨(hok.2 c9).1, (hok.2 c9).2.1, trivial⟩⟩) (gd_V wd_444 wd_446 (gw_s 8 rfl rfl) wd_1 wd_447) (by decide +kernel) ⟨rfl, rfl, (Nat.le_of_ble_eq_true rfl), (Nat.le_of_ble_eq_true rfl), (Nat.le_of_ble_eq_true rfl), (Nat.le_of_ble_eq_true rfl)⟩ (bw_get (bs := cb tc g N ad) (j := 0) rfl Nat.one_pos Y) rfl rfl hl.1 rfl (Nat.le_of_ble_eq_true rfl) d_C_close_2 (fun c_2 H locs q ce hw hq hv hcl => ?_) (fun c_2 locs hw => ?_)
  · have hF := (if_pos c_2).symm.trans hF
    exact ox_t h0 hw htab hlocks hq hv hcl g hF rfl (Nat.le_of_ble_eq_true rfl) (Nat.le_of_ble_eq_true rfl)
  · have hok := hok.2 c_2
    have hF := (if_neg c_2).symm.trans hF
    obtain ⟨hi_3, hi_4, hok⟩ := hok
    refine lv_astore_n (lv' := [(2, .ref (ad 4 ((x1 - 1).toNatClampNeg))), (0, .ref (ad 0 0)), (1, .int x1)]) hx hb d_C_close_5 rfl hl (by decide) rfl (fun ls hl => ?_)
    refine lv_aload_n hx hb d_C_close_6 rfl (lv_at hl 0 rfl) ?_
    refine gCS_10 h0 hN hw hi_4 d_C_close_7 ?_
    refine lv_iconst (v := 1) hx hb d_C_close_10 (by decide) ?_
    refine lv_icmp_eq (tgt := 24) hx hb d_C_close_11 (by decide) (fun c_5 => ?_) (fun c_5 => ?_)
    · have hok := hok.1 c_5
      have hF := (if_pos c_5).symm.trans hF
      refine lv_iconst (v := 0) hx hb d_C_close_24 (by decide) ?_
      refine lv_istore_n (lv' := [(3, .int 0), (2, .ref (ad 4 ((x1 - 1).toNatClampNeg))), (0, .ref (ad 0 0)), (1, .int x1)]) hx hb d_C_close_25 rfl hl (by decide) rfl (fun ls hl => ?_)
      have hx_26 : ∀ (x1 : Int32) (i2 : Nat) (x3 : Int32) (g : Nat → Nat → Nat → Int32) (H : Heap) (locs : List Loc) (ls : Array Slot), i2 < N 2 → wH D A s.heap (cl tc g N ad ++ Y) H locs → lv_has ls 5 [(0, .ref (ad 0 0)), (1, .int x1), (2, .ref (ad 4 i2)), (3, .int x3)] → kC_close_26x x1 i2 x3 g N → fC_close_26x x1 i2 x3 g N = F → W p l e ({ frames := 7, cells := 2, slots := 12, locals := 104 } : Room) s m args below meth c H locs 1 6 (vx_MQ below (va_Qi (fun r u => (none, r, u) = F) (fun u t => qW D tc A (cl tc u N ad ++ Y) t) A) (xC D tc A (fun E u => (some E, (0 : Int32), u) = F) (fun u => cl tc u N ad ++ Y)) args s 2 12 A) (F0 m 75 ls []) := by
        intro x1 i2 x3 g H locs ls hj2 hw hl hok hF
        unfold kC_close_26x at hok
        unfold fC_close_26x at hF
        refine lv_aload_n hx hb d_C_close_75 rfl (lv_at hl 2 rfl) ?_
        refine lv_iconst (v := 2) hx hb d_C_close_76 (by decide) ?_
        refine pCS_10 h0 hN hw hj2 d_C_close_77 (fun H locs hw => ?_)
        refine lv_aload_n hx hb d_C_close_80 rfl (lv_at hl 2 rfl) ?_
        refine gCS_8 h0 hN hw hj2 d_C_close_81 ?_
        exact vx_ret (rt_i h0 hw hr hlocks rfl (u3 g 8 i2 2 2) hF rfl d_C_close_84 (Nat.le_of_ble_eq_true rfl) (Nat.le_of_ble_eq_true rfl))
      have lp_26 : ∀ (n26 : Nat) (x1 : Int32) (i2 : Nat) (x3 : Int32) (g : Nat → Nat → Nat → Int32) (H : Heap) (locs : List Loc) (ls : Array Slot), i2 < N 2 → wH D A s.heap (cl tc g N ad ++ Y) H locs → lv_has ls 5 [(0, .ref (ad 0 0)), (1, .int x1), (2, .ref (ad 4 i2)), (3, .int x3)] → kC_close_26 kC_close_26x n26 x1 i2 x3 g N → fC_close_26 fC_close_26x n26 x1 i2 x3 g N = F → W p l e ({ frames := 7, cells := 2, slots := 12, locals := 104 } : Room) s m args below meth c H locs 1 6 (vx_MQ below (va_Qi (fun r u => (none, r, u) = F) (fun u t => qW D tc A (cl tc u N ad ++ Y) t) A) (xC D tc A (fun E u => (some E, (0 : Int32), u) = F) (fun u => cl tc u N ad ++ Y)) args s 2 12 A) (F0 m 26 ls []) := by
        intro n26
        induction n26 with
        | zero =>
          intro x1 i2 x3 g H locs ls hj2 hw hl hok hF
          unfold kC_close_26 at hok
          exact hok.elim
        | succ n26 ih_26 =>
          intro x1 i2 x3 g H locs ls hj2 hw hl hok hF
          unfold kC_close_26 at hok
          unfold fC_close_26 at hF
          refine lv_iload_n hx hb d_C_close_26 rfl (lv_at hl 3 rfl) ?_
          refine lv_aload_n hx hb d_C_close_27 rfl (lv_at hl 2 rfl) ?_
          refine gCS_0 h0 hN hw hj2 d_C_close_28 ?_
          refine n_members h0 hw hj2 d_C_close_31 ?_
          refine lv_icmp_ge (tgt := 75) hx hb d_C_close_32 (by decide) (fun c_6 => ?_) (fun c_6 => ?_)
          · have hok := hok.1 c_6
            have hF := (if_pos c_6).symm.trans hF
            exact hx_26 x1 i2 x3 g H locs ls hj2 hw (lv_sub hl [0, 1, 2, 3] rfl) hok hF
          · have hok := hok.2 c_6
            have hF := (if_neg c_6).symm.trans hF
            refine lv_aload_n hx hb d_C_close_35 rfl (lv_at hl 0 rfl) ?_
            refine lv_aload_n hx hb d_C_close_36 rfl (lv_at hl 2 rfl) ?_
            refine gCS_0 h0 hN hw hj2 d_C_close_37 ?_
            refine lv_iload_n hx hb d_C_close_40 rfl (lv_at hl 3 rfl) ?_
            obtain ⟨hi_7, hok⟩ := hok
            refine l_members h0 hw hj2 hi_7 d_C_close_41 ?_
            obtain ⟨hi_8, hi_9, hi_10, hok⟩ := hok
            refine dv_p (n := 1) (C := "CountRounds") (b := ad 0 0) (q0 := bw_o (cb tc g N ad) 0 + 0) (ci := 3) (As := [.int (g 9 i2 x3.toNatClampNeg)]) (rest := []) h0 hX hw hA (cC_placeNumbered l D tc sa ad Y H.size (g 9 i2 x3.toNatClampNeg) g N hi_8 (if_neg hi_9)) (gd_V wd_236 wd_238 (gw_s 3 rfl rfl) wd_1 wd_239) (by decide +kernel) ⟨rfl, rfl, (Nat.le_of_ble_eq_true rfl), (Nat.le_of_ble_eq_true rfl), (Nat.le_of_ble_eq_true rfl), (Nat.le_of_ble_eq_true rfl)⟩ (bw_get (bs := cb tc g N ad) (j := 0) rfl Nat.one_pos Y) rfl rfl hl.1 rfl (Nat.le_of_ble_eq_true rfl) d_C_close_42 ?_
            refine lv_astore (lv' := [(4, .ref (ad 1 ((g 9 i2 x3.toNatClampNeg).toNatClampNeg))), (0, .ref (ad 0 0)), (1, .int x1), (2, .ref (ad 4 i2)), (3, .int x3)]) hx hb d_C_close_45 hl (by decide) rfl (fun ls hl => ?_)
            refine lv_aload hx hb d_C_close_47 (lv_at hl 0 rfl) ?_
            refine lv_iconst (v := 0) hx hb d_C_close_49 (by decide) ?_
            refine pCP_3 h0 hN hw hi_10 rfl rfl d_C_close_50 (fun H locs hw => ?_)
            refine lv_aload_n hx hb d_C_close_53 rfl (lv_at hl 3 rfl) ?_
            refine lv_iload_n hx hb d_C_close_54 rfl (lv_at hl 4 rfl) ?_
            obtain ⟨hi_11, hok⟩ := hok
            refine dn_p (n := 1) (C := "CountRounds$Sheet") (b := ad 4 i2) (q0 := bw_o (cb tc (u3 g 5 ((g 9 i2 x3.toNatClampNeg).toNatClampNeg) 2 0) N ad) 11 + i2) (ci := 1) (As := [.int x3]) (rest := []) h0 hX hw hA (cS_isPlaceTold l D tc sa ad Y H.size i2 x3 (u3 g 5 ((g 9 i2 x3.toNatClampNeg).toNatClampNeg) 2 0) N hj2 hi_11 rfl) wd_509 wn_506 wd_15 wd_508 (gw_s 16 rfl rfl) (by decide +kernel) ⟨rfl, rfl, (Nat.le_of_ble_eq_true rfl), (Nat.le_of_ble_eq_true rfl), (Nat.le_of_ble_eq_true rfl), (Nat.le_of_ble_eq_true rfl)⟩ (bw_get (bs := cb tc (u3 g 5 ((g 9 i2 x3.toNatClampNeg).toNatClampNeg) 2 0) N ad) (j := 11) rfl hj2 Y) rfl rfl hl.1 rfl (Nat.le_of_ble_eq_true rfl) d_C_close_55 ?_
            refine lv_if_eq (tgt := 69) hx hb d_C_close_58 (by decide) (fun c_12 => ?_) (fun c_12 => ?_)
            · have hok := hok.1 c_12
              have hF := (if_pos c_12).symm.trans hF
              refine lv_iinc (v := x3 + 1) (lv' := [(3, .int (x3 + 1)), (4, .ref (ad 1 ((g 9 i2 x3.toNatClampNeg).toNatClampNeg))), (0, .ref (ad 0 0)), (1, .int x1), (2, .ref (ad 4 i2))]) hx hb d_C_close_69 hl (k := 4) rfl rfl (by decide) rfl (fun ls hl => ?_)
              refine lv_goto (tgt := 26) hx hb d_C_close_72 (by decide) ?_
              exact ih_26 x1 i2 (x3 + 1) (u3 g 5 ((g 9 i2 x3.toNatClampNeg).toNatClampNeg) 2 0) H locs ls hj2 hw (lv_sub hl [2, 3, 4, 0] rfl) hok hF
            · have hok := hok.2 c_12
              have hF := (if_neg c_12).symm.trans hF
              refine lv_aload_n hx hb d_C_close_61 rfl (lv_at hl 1 rfl) ?_
              refine lv_aload_n hx hb d_C_close_62 rfl (lv_at hl 3 rfl) ?_
              refine lv_iload_n hx hb d_C_close_63 rfl (lv_at hl 4 rfl) ?_
              refine lv_aload hx hb d_C_close_64 (lv_at hl 0 rfl) ?_
              obtain ⟨hi_13, hok⟩ := hok
              refine dv_v (wd := fun u => cl tc u N ad ++ Y) (n := 3) (C := "CountRounds") (b := ad 0 0) (q0 := bw_o (cb tc (u3 g 5 ((g 9 i2 x3.toNatClampNeg).toNatClampNeg) 2 0) N ad) 0 + 0) (ci := 3) (As := [.ref (ad 4 i2), .int x3, .ref (ad 1 ((g 9 i2 x3.toNatClampNeg).toNatClampNeg))]) (rest := []) h0 hX hw hA (cC_countPlace l D tc sa ad Y H.size i2 x3 ((g 9 i2 x3.toNatClampNeg).toNatClampNeg) (u3 g 5 ((g 9 i2 x3.toNatClampNeg).toNatClampNeg) 2 0) N hj2 hi_10 hi_13 rfl) (gd_V wd_510 wd_512 (gw_s 17 rfl rfl) wd_1 wd_513) (by decide +kernel) ⟨rfl, rfl, (Nat.le_of_ble_eq_true rfl), (Nat.le_of_ble_eq_true rfl), (Nat.le_of_ble_eq_true rfl), (Nat.le_of_ble_eq_true rfl)⟩ (bw_get (bs := cb tc (u3 g 5 ((g 9 i2 x3.toNatClampNeg).toNatClampNeg) 2 0) N ad) (j := 0) rfl Nat.one_pos Y) rfl rfl hl.1 rfl (Nat.le_of_ble_eq_true rfl) d_C_close_66 (fun u H locs hu hw => ?_)
              subst hu
              refine lv_iinc (v := x3 + 1) (lv' := [(3, .int (x3 + 1)), (4, .ref (ad 1 ((g 9 i2 x3.toNatClampNeg).toNatClampNeg))), (0, .ref (ad 0 0)), (1, .int x1), (2, .ref (ad 4 i2))]) hx hb d_C_close_69 hl (k := 4) rfl rfl (by decide) rfl (fun ls hl => ?_)
              refine lv_goto (tgt := 26) hx hb d_C_close_72 (by decide) ?_
              exact ih_26 x1 i2 (x3 + 1) (fC_countPlace i2 x3 ((g 9 i2 x3.toNatClampNeg).toNatClampNeg) (u3 g 5 ((g 9 i2 x3.toNatClampNeg).toNatClampNeg) 2 0) N) H locs ls hj2 hw (lv_sub hl [2, 3, 4, 0] rfl) hok hF
      exact lp_26 200 x1 ((x1 - 1).toNatClampNeg) 0 g H locs ls hi_4 hw (lv_sub hl [2, 3, 1, 0] rfl) hok hF
    · have hok := hok.2 c_5
      have hF := (if_neg c_5).symm.trans hF
      exact th_S hlt h0 rfl hX hw (by decide +kernel) wd_288 wd_11 (q9 := 22) rfl at_ise ag_ise hl.1 d_C_close_14 d_C_close_17 d_C_close_18 d_C_close_20 d_C_close_23 htab hlocks ⟨(Nat.le_of_ble_eq_true rfl), (Nat.le_of_ble_eq_true rfl), (Nat.le_of_ble_eq_true rfl), (Nat.le_of_ble_eq_true rfl)⟩ g hF rfl (Nat.le_of_ble_eq_true rfl) (Nat.le_of_ble_eq_true rfl)
set_option maxHeartbeats 4000000 in
set_option maxRecDepth 100000 in
theorem cC_differ (l : Launch) (hlt : l.stackTraces = false) (D : va_G) (tc : Nat → ClassId) (sa : Nat → Nat) (ad : Nat → Nat → Nat) (Y : va_W) (sz : Nat) (x1 : Int32) (x2 : Int32) (x3 : Int32) (g : Nat → Nat → Nat → Int32) (N : Nat → Nat) {F : Option String × Int32 × (Nat → Nat → Nat → Int32)} (hok : kC_differ x1 x2 x3 g N) (hF : fC_differ x1 x2 x3 g N = F) : vx_Met l y_C_differ (Cond.code y_C_differ b_C_differ 6 (some .int) :: gw) ({ frames := 7, cells := 3, slots := 18, locals := 104 } : Room) (va_Pc [.ref (ad 0 0), .int x1, .int x2, .int x3] (pC D tc sa (cl tc g N ad ++ Y) sz)) (va_Qi (fun r u => (none, r, u) = F) (fun u t => qW D tc (va_A (cl tc g N ad ++ Y) sz) (cl tc u N ad ++ Y) t) (va_A (cl tc g N ad ++ Y) sz)) (xC D tc (va_A (cl tc g N ad ++ Y) sz) (fun E u => (some E, (0 : Int32), u) = F) (fun u => cl tc u N ad ++ Y)) 3 18 (va_A (cl tc g N ad ++ Y) sz) := by
  refine en_X (by decide) (Nat.le_of_ble_eq_true rfl) ?_
  intro p e s m args below meth c ls h0 hN hX hr hlocks htab hsz hw hl
  obtain ⟨hx, hb, hml, hown, hts, hK⟩ := id h0
  have hA : ∀ q : Nat, s.heap.size ≤ q → (va_A (cl tc g N ad ++ Y) sz) q := fun q h => Or.inr (by rw [← hsz]; exact h)
  generalize va_A (cl tc g N ad ++ Y) sz = A at hw hA hX ⊢
  obtain ⟨H, eH⟩ : ∃ z, z = s.heap := ⟨_, rfl⟩
  obtain ⟨locs, eL⟩ : ∃ z : List Loc, z = [] := ⟨_, rfl⟩
  have hw : wH D A s.heap (cl tc g N ad ++ Y) H locs := by rw [eH, eL]; exact hw
  have gl : W p l e ({ frames := 7, cells := 3, slots := 18, locals := 104 } : Room) s m args below meth c H locs 0 0 (vx_MQ below (va_Qi (fun r u => (none, r, u) = F) (fun u t => qW D tc A (cl tc u N ad ++ Y) t) A) (xC D tc A (fun E u => (some E, (0 : Int32), u) = F) (fun u => cl tc u N ad ++ Y)) args s 3 18 A) (F0 m 0 ls []) := ?_
  · rw [eH, eL] at gl; exact gl
  have hl : lv_has ls 6 [(0, .ref (ad 0 0)), (1, .int x1), (2, .int x2), (3, .int x3)] := hl
  unfold kC_differ at hok
  unfold fC_differ at hF
  refine lv_aload_n hx hb d_C_differ_0 rfl (lv_at hl 0 rfl) ?_
  refine lv_iload_n hx hb d_C_differ_1 rfl (lv_at hl 1 rfl) ?_
  obtain ⟨hi_1, hok⟩ := hok
  refine dx_r (n := 1) (C := "CountRounds") (b := ad 0 0) (q0 := bw_o (cb tc g N ad) 0 + 0) (ci := 3) (As := [.int x1]) (rest := []) h0 hX hw hA (xC_sheetNumbered l hlt D tc sa ad Y H.size x1 g N ⟨hi_1, fun _ => trivial, fun c9 => ⟨(hok.2 c9).1, (hok.2 c9).2.1, trivial⟩⟩) (gd_V wd_444 wd_446 (gw_s 8 rfl rfl) wd_1 wd_447) (by decide +kernel) ⟨rfl, rfl, (Nat.le_of_ble_eq_true rfl), (Nat.le_of_ble_eq_true rfl), (Nat.le_of_ble_eq_true rfl), (Nat.le_of_ble_eq_true rfl)⟩ (bw_get (bs := cb tc g N ad) (j := 0) rfl Nat.one_pos Y) rfl rfl hl.1 rfl (Nat.le_of_ble_eq_true rfl) d_C_differ_2 (fun c_2 H locs q ce hw hq hv hcl => ?_) (fun c_2 locs hw => ?_)
  · have hF := (if_pos c_2).symm.trans hF
    exact ox_t h0 hw htab hlocks hq hv hcl g hF rfl (Nat.le_of_ble_eq_true rfl) (Nat.le_of_ble_eq_true rfl)
  · have hok := hok.2 c_2
    have hF := (if_neg c_2).symm.trans hF
    obtain ⟨hi_3, hi_4, hok⟩ := hok
    refine lv_astore (lv' := [(4, .ref (ad 4 ((x1 - 1).toNatClampNeg))), (0, .ref (ad 0 0)), (1, .int x1), (2, .int x2), (3, .int x3)]) hx hb d_C_differ_5 hl (by decide) rfl (fun ls hl => ?_)
    refine lv_aload hx hb d_C_differ_7 (lv_at hl 0 rfl) ?_
    refine lv_iload_n hx hb d_C_differ_9 rfl (lv_at hl 3 rfl) ?_
    obtain ⟨hi_5, hok⟩ := hok
    refine dx_s (n := 2) (As := [.ref (ad 4 ((x1 - 1).toNatClampNeg)), .int x2]) (rest := []) h0 hX hw hA (xC_lineOfDifference l hlt D tc sa ad Y H.size ((x1 - 1).toNatClampNeg) x2 g N hi_4 ⟨hi_5, fun _ => trivial, fun _ => trivial⟩) (gd_S wd_525 wd_526 wd_1 wd_527) (by decide +kernel) ⟨rfl, rfl, (Nat.le_of_ble_eq_true rfl), (Nat.le_of_ble_eq_true rfl), (Nat.le_of_ble_eq_true rfl), (Nat.le_of_ble_eq_true rfl)⟩ rfl hl.1 rfl (Nat.le_of_ble_eq_true rfl) d_C_differ_10 (fun c_6 H locs q ce hw hq hv hcl => ?_) (fun c_6 locs hw => ?_)
    · have hF := (if_pos c_6).symm.trans hF
      exact ox_t h0 hw htab hlocks hq hv hcl g hF rfl (Nat.le_of_ble_eq_true rfl) (Nat.le_of_ble_eq_true rfl)
    · have hok := hok.2 c_6
      have hF := (if_neg c_6).symm.trans hF
      refine lv_istore (lv' := [(5, .int (fS_differingLine ((x1 - 1).toNatClampNeg) x2 g N)), (4, .ref (ad 4 ((x1 - 1).toNatClampNeg))), (0, .ref (ad 0 0)), (1, .int x1), (2, .int x2), (3, .int x3)]) hx hb d_C_differ_13 hl (by decide) rfl (fun ls hl => ?_)
      refine lv_iload_n hx hb d_C_differ_15 rfl (lv_at hl 5 rfl) ?_
      by_cases c_7 : x3 = 0
      · have hok := hok.1 c_7
        have hF := (if_pos c_7).symm.trans hF
        refine lv_tableIn (tgt := 56) hx hb d_C_differ_16 (by rw [c_7]; decide) (by rw [c_7]; decide) (by rw [c_7]; rfl) (by decide) ?_
        refine lv_aload hx hb d_C_differ_56 (lv_at hl 1 rfl) ?_
        refine gCS_0 h0 hN hw hi_4 d_C_differ_58 ?_
        refine lv_iload hx hb d_C_differ_61 (lv_at hl 0 rfl) ?_
        refine lv_bipush (v := 6) hx hb d_C_differ_63 (by decide) ?_
        refine lv_idiv hx hb d_C_differ_65 (by decide) ?_
        obtain ⟨hi_8, hok⟩ := hok
        refine l_members h0 hw hi_4 hi_8 d_C_differ_66 ?_
        exact vx_ret (rt_i h0 hw hr hlocks rfl g hF rfl d_C_differ_67 (Nat.le_of_ble_eq_true rfl) (Nat.le_of_ble_eq_true rfl))
      have hok := hok.2 c_7
      have hF := (if_neg c_7).symm.trans hF
      by_cases c_9 : x3 = 1
      · have hok := hok.1 c_9
        have hF := (if_pos c_9).symm.trans hF
        refine lv_tableIn (tgt := 68) hx hb d_C_differ_16 (by rw [c_9]; decide) (by rw [c_9]; decide) (by rw [c_9]; rfl) (by decide) ?_
        refine lv_iload hx hb d_C_differ_68 (lv_at hl 0 rfl) ?_
        refine lv_bipush (v := 6) hx hb d_C_differ_70 (by decide) ?_
        refine lv_irem hx hb d_C_differ_72 (by decide) ?_
        exact vx_ret (rt_i h0 hw hr hlocks rfl g hF rfl d_C_differ_73 (Nat.le_of_ble_eq_true rfl) (Nat.le_of_ble_eq_true rfl))
      have hok := hok.2 c_9
      have hF := (if_neg c_9).symm.trans hF
      by_cases c_10 : x3 = 2
      · have hok := hok.1 c_10
        have hF := (if_pos c_10).symm.trans hF
        refine lv_tableIn (tgt := 74) hx hb d_C_differ_16 (by rw [c_10]; decide) (by rw [c_10]; decide) (by rw [c_10]; rfl) (by decide) ?_
        refine lv_aload hx hb d_C_differ_74 (lv_at hl 1 rfl) ?_
        refine lv_iload hx hb d_C_differ_76 (lv_at hl 0 rfl) ?_
        obtain ⟨hi_11, hok⟩ := hok
        refine dn_p (n := 1) (C := "CountRounds$Sheet") (b := ad 4 ((x1 - 1).toNatClampNeg)) (q0 := bw_o (cb tc g N ad) 11 + ((x1 - 1).toNatClampNeg)) (ci := 1) (As := [.int (fS_differingLine ((x1 - 1).toNatClampNeg) x2 g N)]) (rest := []) h0 hX hw hA (cS_differenceOf l D tc sa ad Y H.size ((x1 - 1).toNatClampNeg) (fS_differingLine ((x1 - 1).toNatClampNeg) x2 g N) g N hi_4 hi_11 rfl) wd_491 wn_488 wd_15 wd_490 (gw_s 14 rfl rfl) (by decide +kernel) ⟨rfl, rfl, (Nat.le_of_ble_eq_true rfl), (Nat.le_of_ble_eq_true rfl), (Nat.le_of_ble_eq_true rfl), (Nat.le_of_ble_eq_true rfl)⟩ (bw_get (bs := cb tc g N ad) (j := 11) rfl hi_4 Y) rfl rfl hl.1 rfl (Nat.le_of_ble_eq_true rfl) d_C_differ_78 ?_
        exact vx_ret (rt_i h0 hw hr hlocks rfl g hF rfl d_C_differ_81 (Nat.le_of_ble_eq_true rfl) (Nat.le_of_ble_eq_true rfl))
      have hok := hok.2 c_10
      have hF := (if_neg c_10).symm.trans hF
      by_cases c_12 : x3 = 3
      · have hok := hok.1 c_12
        have hF := (if_pos c_12).symm.trans hF
        refine lv_tableIn (tgt := 82) hx hb d_C_differ_16 (by rw [c_12]; decide) (by rw [c_12]; decide) (by rw [c_12]; rfl) (by decide) ?_
        refine lv_aload hx hb d_C_differ_82 (lv_at hl 1 rfl) ?_
        refine lv_iload hx hb d_C_differ_84 (lv_at hl 0 rfl) ?_
        obtain ⟨hi_13, hok⟩ := hok
        refine dn_p (n := 1) (C := "CountRounds$Sheet") (b := ad 4 ((x1 - 1).toNatClampNeg)) (q0 := bw_o (cb tc g N ad) 11 + ((x1 - 1).toNatClampNeg)) (ci := 1) (As := [.int (fS_differingLine ((x1 - 1).toNatClampNeg) x2 g N)]) (rest := []) h0 hX hw hA (cS_finderOf l D tc sa ad Y H.size ((x1 - 1).toNatClampNeg) (fS_differingLine ((x1 - 1).toNatClampNeg) x2 g N) g N hi_4 hi_13 rfl) wd_536 wn_533 wd_15 wd_535 (gw_s 20 rfl rfl) (by decide +kernel) ⟨rfl, rfl, (Nat.le_of_ble_eq_true rfl), (Nat.le_of_ble_eq_true rfl), (Nat.le_of_ble_eq_true rfl), (Nat.le_of_ble_eq_true rfl)⟩ (bw_get (bs := cb tc g N ad) (j := 11) rfl hi_4 Y) rfl rfl hl.1 rfl (Nat.le_of_ble_eq_true rfl) d_C_differ_86 ?_
        exact vx_ret (rt_i h0 hw hr hlocks rfl g hF rfl d_C_differ_89 (Nat.le_of_ble_eq_true rfl) (Nat.le_of_ble_eq_true rfl))
      have hok := hok.2 c_12
      have hF := (if_neg c_12).symm.trans hF
      by_cases c_14 : x3 = 4
      · have hok := hok.1 c_14
        have hF := (if_pos c_14).symm.trans hF
        refine lv_tableIn (tgt := 90) hx hb d_C_differ_16 (by rw [c_14]; decide) (by rw [c_14]; decide) (by rw [c_14]; rfl) (by decide) ?_
        refine lv_aload hx hb d_C_differ_90 (lv_at hl 1 rfl) ?_
        refine gCS_6 h0 hN hw hi_4 d_C_differ_92 ?_
        refine lv_iload hx hb d_C_differ_95 (lv_at hl 0 rfl) ?_
        obtain ⟨hi_15, hok⟩ := hok
        refine l_corrected h0 hw hi_4 hi_15 d_C_differ_97 ?_
        refine lv_if_eq (tgt := 105) hx hb d_C_differ_98 (by decide) (fun c_16 => ?_) (fun c_16 => ?_)
        · have hok := hok.1 c_16
          have hF := (if_pos c_16).symm.trans hF
          refine lv_iconst (v := 0) hx hb d_C_differ_105 (by decide) ?_
          exact vx_ret (rt_i h0 hw hr hlocks rfl g hF rfl d_C_differ_106 (Nat.le_of_ble_eq_true rfl) (Nat.le_of_ble_eq_true rfl))
        · have hok := hok.2 c_16
          have hF := (if_neg c_16).symm.trans hF
          refine lv_iconst (v := 1) hx hb d_C_differ_101 (by decide) ?_
          refine lv_goto (tgt := 106) hx hb d_C_differ_102 (by decide) ?_
          exact vx_ret (rt_i h0 hw hr hlocks rfl g hF rfl d_C_differ_106 (Nat.le_of_ble_eq_true rfl) (Nat.le_of_ble_eq_true rfl))
      have hok := hok.2 c_14
      have hF := (if_neg c_14).symm.trans hF
      by_cases c_17 : x3 = 5
      · have hok := hok.1 c_17
        have hF := (if_pos c_17).symm.trans hF
        refine lv_tableIn (tgt := 107) hx hb d_C_differ_16 (by rw [c_17]; decide) (by rw [c_17]; decide) (by rw [c_17]; rfl) (by decide) ?_
        refine lv_aload hx hb d_C_differ_107 (lv_at hl 1 rfl) ?_
        refine gCS_5 h0 hN hw hi_4 d_C_differ_109 ?_
        refine lv_iload hx hb d_C_differ_112 (lv_at hl 0 rfl) ?_
        obtain ⟨hi_18, hok⟩ := hok
        refine l_askers h0 hw hi_4 hi_18 d_C_differ_114 ?_
        exact vx_ret (rt_i h0 hw hr hlocks rfl g hF rfl d_C_differ_115 (Nat.le_of_ble_eq_true rfl) (Nat.le_of_ble_eq_true rfl))
      have hok := hok.2 c_17
      have hF := (if_neg c_17).symm.trans hF
      have ec_7 := lv_neT (a := 0) c_7 rfl
      have ec_9 := lv_neT (a := 1) c_9 rfl
      have ec_10 := lv_neT (a := 2) c_10 rfl
      have ec_12 := lv_neT (a := 3) c_12 rfl
      have ec_14 := lv_neT (a := 4) c_14 rfl
      have ec_17 := lv_neT (a := 5) c_17 rfl
      refine lv_tableOut (tgt := 116) hx hb d_C_differ_16 (by omega) (by decide) ?_
      exact th_S hlt h0 rfl hX hw (by decide +kernel) wd_175 wd_7 (q9 := 24) rfl at_iae ag_iae hl.1 d_C_differ_116 d_C_differ_119 d_C_differ_120 d_C_differ_122 d_C_differ_125 htab hlocks ⟨(Nat.le_of_ble_eq_true rfl), (Nat.le_of_ble_eq_true rfl), (Nat.le_of_ble_eq_true rfl), (Nat.le_of_ble_eq_true rfl)⟩ g hF rfl (Nat.le_of_ble_eq_true rfl) (Nat.le_of_ble_eq_true rfl)
set_option maxHeartbeats 4000000 in
set_option maxRecDepth 100000 in
theorem cC_correct (l : Launch) (hlt : l.stackTraces = false) (D : va_G) (tc : Nat → ClassId) (sa : Nat → Nat) (ad : Nat → Nat → Nat) (Y : va_W) (sz : Nat) (x1 : Int32) (x2 : Int32) (x3 : Int32) (g : Nat → Nat → Nat → Int32) (N : Nat → Nat) {F : Option String × Int32 × (Nat → Nat → Nat → Int32)} (hok : kC_correct x1 x2 x3 g N) (hF : fC_correct x1 x2 x3 g N = F) : vx_Met l y_C_correct (Cond.code y_C_correct b_C_correct 8 (some .boolean) :: gw) ({ frames := 7, cells := 3, slots := 18, locals := 104 } : Room) (va_Pc [.ref (ad 0 0), .int x1, .int x2, .int x3] (pC D tc sa (cl tc g N ad ++ Y) sz)) (va_Qi (fun r u => (none, r, u) = F) (fun u t => qW D tc (va_A (cl tc g N ad ++ Y) sz) (cl tc u N ad ++ Y) t) (va_A (cl tc g N ad ++ Y) sz)) (xC D tc (va_A (cl tc g N ad ++ Y) sz) (fun E u => (some E, (0 : Int32), u) = F) (fun u => cl tc u N ad ++ Y)) 3 18 (va_A (cl tc g N ad ++ Y) sz) := by
  refine en_X (by decide) (Nat.le_of_ble_eq_true rfl) ?_
  intro p e s m args below meth c ls h0 hN hX hr hlocks htab hsz hw hl
  obtain ⟨hx, hb, hml, hown, hts, hK⟩ := id h0
  have hA : ∀ q : Nat, s.heap.size ≤ q → (va_A (cl tc g N ad ++ Y) sz) q := fun q h => Or.inr (by rw [← hsz]; exact h)
  generalize va_A (cl tc g N ad ++ Y) sz = A at hw hA hX ⊢
  obtain ⟨H, eH⟩ : ∃ z, z = s.heap := ⟨_, rfl⟩
  obtain ⟨locs, eL⟩ : ∃ z : List Loc, z = [] := ⟨_, rfl⟩
  have hw : wH D A s.heap (cl tc g N ad ++ Y) H locs := by rw [eH, eL]; exact hw
  have gl : W p l e ({ frames := 7, cells := 3, slots := 18, locals := 104 } : Room) s m args below meth c H locs 0 0 (vx_MQ below (va_Qi (fun r u => (none, r, u) = F) (fun u t => qW D tc A (cl tc u N ad ++ Y) t) A) (xC D tc A (fun E u => (some E, (0 : Int32), u) = F) (fun u => cl tc u N ad ++ Y)) args s 3 18 A) (F0 m 0 ls []) := ?_
  · rw [eH, eL] at gl; exact gl
  have hl : lv_has ls 8 [(0, .ref (ad 0 0)), (1, .int x1), (2, .int x2), (3, .int x3)] := hl
  unfold kC_correct at hok
  unfold fC_correct at hF
  refine lv_aload_n hx hb d_C_correct_0 rfl (lv_at hl 0 rfl) ?_
  refine lv_iload_n hx hb d_C_correct_1 rfl (lv_at hl 1 rfl) ?_
  obtain ⟨hi_1, hok⟩ := hok
  refine dx_r (n := 1) (C := "CountRounds") (b := ad 0 0) (q0 := bw_o (cb tc g N ad) 0 + 0) (ci := 3) (As := [.int x1]) (rest := []) h0 hX hw hA (xC_sheetNumbered l hlt D tc sa ad Y H.size x1 g N ⟨hi_1, fun _ => trivial, fun c9 => ⟨(hok.2 c9).1, (hok.2 c9).2.1, trivial⟩⟩) (gd_V wd_444 wd_446 (gw_s 8 rfl rfl) wd_1 wd_447) (by decide +kernel) ⟨rfl, rfl, (Nat.le_of_ble_eq_true rfl), (Nat.le_of_ble_eq_true rfl), (Nat.le_of_ble_eq_true rfl), (Nat.le_of_ble_eq_true rfl)⟩ (bw_get (bs := cb tc g N ad) (j := 0) rfl Nat.one_pos Y) rfl rfl hl.1 rfl (Nat.le_of_ble_eq_true rfl) d_C_correct_2 (fun c_2 H locs q ce hw hq hv hcl => ?_) (fun c_2 locs hw => ?_)
  · have hF := (if_pos c_2).symm.trans hF
    exact ox_t h0 hw htab hlocks hq hv hcl g hF rfl (Nat.le_of_ble_eq_true rfl) (Nat.le_of_ble_eq_true rfl)
  · have hok := hok.2 c_2
    have hF := (if_neg c_2).symm.trans hF
    obtain ⟨hi_3, hi_4, hok⟩ := hok
    refine lv_astore (lv' := [(4, .ref (ad 4 ((x1 - 1).toNatClampNeg))), (0, .ref (ad 0 0)), (1, .int x1), (2, .int x2), (3, .int x3)]) hx hb d_C_correct_5 hl (by decide) rfl (fun ls hl => ?_)
    refine lv_aload hx hb d_C_correct_7 (lv_at hl 0 rfl) ?_
    refine lv_iload_n hx hb d_C_correct_9 rfl (lv_at hl 3 rfl) ?_
    obtain ⟨hi_5, hok⟩ := hok
    refine dx_s (n := 2) (As := [.ref (ad 4 ((x1 - 1).toNatClampNeg)), .int x2]) (rest := []) h0 hX hw hA (xC_lineOfDifference l hlt D tc sa ad Y H.size ((x1 - 1).toNatClampNeg) x2 g N hi_4 ⟨hi_5, fun _ => trivial, fun _ => trivial⟩) (gd_S wd_525 wd_526 wd_1 wd_527) (by decide +kernel) ⟨rfl, rfl, (Nat.le_of_ble_eq_true rfl), (Nat.le_of_ble_eq_true rfl), (Nat.le_of_ble_eq_true rfl), (Nat.le_of_ble_eq_true rfl)⟩ rfl hl.1 rfl (Nat.le_of_ble_eq_true rfl) d_C_correct_10 (fun c_6 H locs q ce hw hq hv hcl => ?_) (fun c_6 locs hw => ?_)
    · have hF := (if_pos c_6).symm.trans hF
      exact ox_t h0 hw htab hlocks hq hv hcl g hF rfl (Nat.le_of_ble_eq_true rfl) (Nat.le_of_ble_eq_true rfl)
    · have hok := hok.2 c_6
      have hF := (if_neg c_6).symm.trans hF
      refine lv_istore (lv' := [(5, .int (fS_differingLine ((x1 - 1).toNatClampNeg) x2 g N)), (4, .ref (ad 4 ((x1 - 1).toNatClampNeg))), (0, .ref (ad 0 0)), (1, .int x1), (2, .int x2), (3, .int x3)]) hx hb d_C_correct_13 hl (by decide) rfl (fun ls hl => ?_)
      refine lv_iload_n hx hb d_C_correct_15 rfl (lv_at hl 5 rfl) ?_
      obtain ⟨hi_7, hok⟩ := hok
      refine cs_p (n := 1) (As := [.int x3]) (rest := []) hx hb hml hown hts (cC_isPerson l x3 hi_7 rfl) (gd_S wd_264 wd_265 wd_1 wd_266) (by decide +kernel) ⟨rfl, rfl, (Nat.le_of_ble_eq_true rfl), (Nat.le_of_ble_eq_true rfl), (Nat.le_of_ble_eq_true rfl), (Nat.le_of_ble_eq_true rfl)⟩ rfl hl.1 rfl (Nat.le_of_ble_eq_true rfl) d_C_correct_16 ?_
      refine lv_if_ne (tgt := 32) hx hb d_C_correct_19 (by decide) (fun c_8 => ?_) (fun c_8 => ?_)
      · have hok := hok.2 c_8
        have hF := (if_neg c_8).symm.trans hF
        refine lv_aload hx hb d_C_correct_32 (lv_at hl 1 rfl) ?_
        refine gCS_6 h0 hN hw hi_4 d_C_correct_34 ?_
        refine lv_iload hx hb d_C_correct_37 (lv_at hl 0 rfl) ?_
        obtain ⟨hi_9, hok⟩ := hok
        refine l_corrected h0 hw hi_4 hi_9 d_C_correct_39 ?_
        refine lv_if_eq (tgt := 53) hx hb d_C_correct_40 (by decide) (fun c_10 => ?_) (fun c_10 => ?_)
        · have hok := hok.1 c_10
          have hF := (if_pos c_10).symm.trans hF
          refine lv_aload_n hx hb d_C_correct_53 rfl (lv_at hl 2 rfl) ?_
          refine lv_aload hx hb d_C_correct_54 (lv_at hl 1 rfl) ?_
          refine lv_iload hx hb d_C_correct_56 (lv_at hl 0 rfl) ?_
          refine lv_iload_n hx hb d_C_correct_58 rfl (lv_at hl 5 rfl) ?_
          obtain ⟨hi_11, hok⟩ := hok
          refine dv_p (n := 3) (C := "CountRounds") (b := ad 0 0) (q0 := bw_o (cb tc g N ad) 0 + 0) (ci := 3) (As := [.ref (ad 4 ((x1 - 1).toNatClampNeg)), .int (fS_differingLine ((x1 - 1).toNatClampNeg) x2 g N), .int x3]) (rest := []) h0 hX hw hA (cC_mayCorrect l D tc sa ad Y H.size ((x1 - 1).toNatClampNeg) (fS_differingLine ((x1 - 1).toNatClampNeg) x2 g N) x3 g N hi_4 hi_11 rfl) (gd_V wd_547 wd_549 (gw_s 21 rfl rfl) wd_1 wd_550) (by decide +kernel) ⟨rfl, rfl, (Nat.le_of_ble_eq_true rfl), (Nat.le_of_ble_eq_true rfl), (Nat.le_of_ble_eq_true rfl), (Nat.le_of_ble_eq_true rfl)⟩ (bw_get (bs := cb tc g N ad) (j := 0) rfl Nat.one_pos Y) rfl rfl hl.1 rfl (Nat.le_of_ble_eq_true rfl) d_C_correct_59 ?_
          refine lv_if_ne (tgt := 76) hx hb d_C_correct_62 (by decide) (fun c_12 => ?_) (fun c_12 => ?_)
          · have hok := hok.2 c_12
            have hF := (if_neg c_12).symm.trans hF
            refine lv_aload_n hx hb d_C_correct_76 rfl (lv_at hl 2 rfl) ?_
            refine lv_aload hx hb d_C_correct_77 (lv_at hl 1 rfl) ?_
            refine gCS_0 h0 hN hw hi_4 d_C_correct_79 ?_
            refine lv_iload hx hb d_C_correct_82 (lv_at hl 0 rfl) ?_
            refine lv_bipush (v := 6) hx hb d_C_correct_84 (by decide) ?_
            refine lv_idiv hx hb d_C_correct_86 (by decide) ?_
            obtain ⟨hi_13, hok⟩ := hok
            refine l_members h0 hw hi_4 hi_13 d_C_correct_87 ?_
            obtain ⟨hi_14, hi_15, hi_16, hok⟩ := hok
            refine dv_p (n := 1) (C := "CountRounds") (b := ad 0 0) (q0 := bw_o (cb tc g N ad) 0 + 0) (ci := 3) (As := [.int (g 9 ((x1 - 1).toNatClampNeg) (((fS_differingLine ((x1 - 1).toNatClampNeg) x2 g N) / 6).toNatClampNeg))]) (rest := []) h0 hX hw hA (cC_placeNumbered l D tc sa ad Y H.size (g 9 ((x1 - 1).toNatClampNeg) (((fS_differingLine ((x1 - 1).toNatClampNeg) x2 g N) / 6).toNatClampNeg)) g N hi_14 (if_neg hi_15)) (gd_V wd_236 wd_238 (gw_s 3 rfl rfl) wd_1 wd_239) (by decide +kernel) ⟨rfl, rfl, (Nat.le_of_ble_eq_true rfl), (Nat.le_of_ble_eq_true rfl), (Nat.le_of_ble_eq_true rfl), (Nat.le_of_ble_eq_true rfl)⟩ (bw_get (bs := cb tc g N ad) (j := 0) rfl Nat.one_pos Y) rfl rfl hl.1 rfl (Nat.le_of_ble_eq_true rfl) d_C_correct_88 ?_
            refine lv_astore (lv' := [(6, .ref (ad 1 ((g 9 ((x1 - 1).toNatClampNeg) (((fS_differingLine ((x1 - 1).toNatClampNeg) x2 g N) / 6).toNatClampNeg)).toNatClampNeg))), (5, .int (fS_differingLine ((x1 - 1).toNatClampNeg) x2 g N)), (4, .ref (ad 4 ((x1 - 1).toNatClampNeg))), (0, .ref (ad 0 0)), (1, .int x1), (2, .int x2), (3, .int x3)]) hx hb d_C_correct_91 hl (by decide) rfl (fun ls hl => ?_)
            refine lv_aload hx hb d_C_correct_93 (lv_at hl 0 rfl) ?_
            refine gCP_1 h0 hN hw hi_16 d_C_correct_95 ?_
            refine lv_iload hx hb d_C_correct_98 (lv_at hl 1 rfl) ?_
            refine lv_bipush (v := 6) hx hb d_C_correct_100 (by decide) ?_
            refine lv_irem hx hb d_C_correct_102 (by decide) ?_
            obtain ⟨hi_17, hok⟩ := hok
            refine l_pieces h0 hw hi_16 hi_17 d_C_correct_103 ?_
            refine lv_aload hx hb d_C_correct_104 (lv_at hl 2 rfl) ?_
            refine lv_iload hx hb d_C_correct_106 (lv_at hl 1 rfl) ?_
            obtain ⟨hi_18, hok⟩ := hok
            refine dn_p (n := 1) (C := "CountRounds$Sheet") (b := ad 4 ((x1 - 1).toNatClampNeg)) (q0 := bw_o (cb tc g N ad) 11 + ((x1 - 1).toNatClampNeg)) (ci := 1) (As := [.int (fS_differingLine ((x1 - 1).toNatClampNeg) x2 g N)]) (rest := [.int (g 6 ((g 9 ((x1 - 1).toNatClampNeg) (((fS_differingLine ((x1 - 1).toNatClampNeg) x2 g N) / 6).toNatClampNeg)).toNatClampNeg) (((fS_differingLine ((x1 - 1).toNatClampNeg) x2 g N) - (fS_differingLine ((x1 - 1).toNatClampNeg) x2 g N) / 6 * 6).toNatClampNeg))]) h0 hX hw hA (cS_differenceOf l D tc sa ad Y H.size ((x1 - 1).toNatClampNeg) (fS_differingLine ((x1 - 1).toNatClampNeg) x2 g N) g N hi_4 hi_18 rfl) wd_491 wn_488 wd_15 wd_490 (gw_s 14 rfl rfl) (by decide +kernel) ⟨rfl, rfl, (Nat.le_of_ble_eq_true rfl), (Nat.le_of_ble_eq_true rfl), (Nat.le_of_ble_eq_true rfl), (Nat.le_of_ble_eq_true rfl)⟩ (bw_get (bs := cb tc g N ad) (j := 11) rfl hi_4 Y) rfl rfl hl.1 rfl (Nat.le_of_ble_eq_true rfl) d_C_correct_108 ?_
            refine lv_iadd hx hb d_C_correct_111 ?_
            refine lv_istore (lv' := [(7, .int ((g 6 ((g 9 ((x1 - 1).toNatClampNeg) (((fS_differingLine ((x1 - 1).toNatClampNeg) x2 g N) / 6).toNatClampNeg)).toNatClampNeg) (((fS_differingLine ((x1 - 1).toNatClampNeg) x2 g N) - (fS_differingLine ((x1 - 1).toNatClampNeg) x2 g N) / 6 * 6).toNatClampNeg)) + (fS_differenceOf ((x1 - 1).toNatClampNeg) (fS_differingLine ((x1 - 1).toNatClampNeg) x2 g N) g N))), (6, .ref (ad 1 ((g 9 ((x1 - 1).toNatClampNeg) (((fS_differingLine ((x1 - 1).toNatClampNeg) x2 g N) / 6).toNatClampNeg)).toNatClampNeg))), (5, .int (fS_differingLine ((x1 - 1).toNatClampNeg) x2 g N)), (4, .ref (ad 4 ((x1 - 1).toNatClampNeg))), (0, .ref (ad 0 0)), (1, .int x1), (2, .int x2), (3, .int x3)]) hx hb d_C_correct_112 hl (by decide) rfl (fun ls hl => ?_)
            refine lv_iload hx hb d_C_correct_114 (lv_at hl 0 rfl) ?_
            obtain ⟨hi_19, hok⟩ := hok
            refine cs_p (n := 1) (As := [.int ((g 6 ((g 9 ((x1 - 1).toNatClampNeg) (((fS_differingLine ((x1 - 1).toNatClampNeg) x2 g N) / 6).toNatClampNeg)).toNatClampNeg) (((fS_differingLine ((x1 - 1).toNatClampNeg) x2 g N) - (fS_differingLine ((x1 - 1).toNatClampNeg) x2 g N) / 6 * 6).toNatClampNeg)) + (fS_differenceOf ((x1 - 1).toNatClampNeg) (fS_differingLine ((x1 - 1).toNatClampNeg) x2 g N) g N))]) (rest := []) hx hb hml hown hts (cC_isPieces l ((g 6 ((g 9 ((x1 - 1).toNatClampNeg) (((fS_differingLine ((x1 - 1).toNatClampNeg) x2 g N) / 6).toNatClampNeg)).toNatClampNeg) (((fS_differingLine ((x1 - 1).toNatClampNeg) x2 g N) - (fS_differingLine ((x1 - 1).toNatClampNeg) x2 g N) / 6 * 6).toNatClampNeg)) + (fS_differenceOf ((x1 - 1).toNatClampNeg) (fS_differingLine ((x1 - 1).toNatClampNeg) x2 g N) g N)) hi_19 rfl) (gd_S wd_244 wd_245 wd_1 wd_246) (by decide +kernel) ⟨rfl, rfl, (Nat.le_of_ble_eq_true rfl), (Nat.le_of_ble_eq_true rfl), (Nat.le_of_ble_eq_true rfl), (Nat.le_of_ble_eq_true rfl)⟩ rfl hl.1 rfl (Nat.le_of_ble_eq_true rfl) d_C_correct_116 ?_
            refine lv_if_ne (tgt := 133) hx hb d_C_correct_119 (by decide) (fun c_20 => ?_) (fun c_20 => ?_)
            · have hok := hok.2 c_20
              have hF := (if_neg c_20).symm.trans hF
              refine lv_aload hx hb d_C_correct_133 (lv_at hl 1 rfl) ?_
              refine gCP_1 h0 hN hw hi_16 d_C_correct_135 ?_
              refine lv_iload hx hb d_C_correct_138 (lv_at hl 2 rfl) ?_
              refine lv_bipush (v := 6) hx hb d_C_correct_140 (by decide) ?_
              refine lv_irem hx hb d_C_correct_142 (by decide) ?_
              refine lv_iload hx hb d_C_correct_143 (lv_at hl 0 rfl) ?_
              obtain ⟨hi_21, hok⟩ := hok
              refine s_pieces h0 hw hi_16 hi_21 d_C_correct_145 (fun H locs hw => ?_)
              refine lv_aload hx hb d_C_correct_146 (lv_at hl 3 rfl) ?_
              refine gCS_6 h0 hN hw hi_4 d_C_correct_148 ?_
              refine lv_iload hx hb d_C_correct_151 (lv_at hl 2 rfl) ?_
              refine lv_iconst (v := 1) hx hb d_C_correct_153 (by decide) ?_
              obtain ⟨hi_22, hok⟩ := hok
              refine s_corrected h0 hw hi_4 hi_22 d_C_correct_154 (fun H locs hw => ?_)
              refine lv_iconst (v := 1) hx hb d_C_correct_155 (by decide) ?_
              exact vx_ret (rt_i h0 hw hr hlocks rfl (u3 (u3 g 6 ((g 9 ((x1 - 1).toNatClampNeg) (((fS_differingLine ((x1 - 1).toNatClampNeg) x2 g N) / 6).toNatClampNeg)).toNatClampNeg) (((fS_differingLine ((x1 - 1).toNatClampNeg) x2 g N) - (fS_differingLine ((x1 - 1).toNatClampNeg) x2 g N) / 6 * 6).toNatClampNeg) ((g 6 ((g 9 ((x1 - 1).toNatClampNeg) (((fS_differingLine ((x1 - 1).toNatClampNeg) x2 g N) / 6).toNatClampNeg)).toNatClampNeg) (((fS_differingLine ((x1 - 1).toNatClampNeg) x2 g N) - (fS_differingLine ((x1 - 1).toNatClampNeg) x2 g N) / 6 * 6).toNatClampNeg)) + (fS_differenceOf ((x1 - 1).toNatClampNeg) (fS_differingLine ((x1 - 1).toNatClampNeg) x2 g N) g N))) 15 ((x1 - 1).toNatClampNeg) ((fS_differingLine ((x1 - 1).toNatClampNeg) x2 g N).toNatClampNeg) (vp_nar .boolean 1)) hF rfl d_C_correct_156 (Nat.le_of_ble_eq_true rfl) (Nat.le_of_ble_eq_true rfl))
            · have hok := hok.1 c_20
              have hF := (if_pos c_20).symm.trans hF
              exact th_W hlt h0 rfl hX hw (by decide +kernel) wd_288 wd_11 (q9 := 27) rfl at_ise ag_ise hl.1 d_C_correct_122 d_C_correct_125 d_C_correct_126 d_C_correct_129 d_C_correct_132 htab hlocks ⟨(Nat.le_of_ble_eq_true rfl), (Nat.le_of_ble_eq_true rfl), (Nat.le_of_ble_eq_true rfl), (Nat.le_of_ble_eq_true rfl)⟩ g hF rfl (Nat.le_of_ble_eq_true rfl) (Nat.le_of_ble_eq_true rfl)
          · have hok := hok.1 c_12
            have hF := (if_pos c_12).symm.trans hF
            refine lv_aload hx hb d_C_correct_65 (lv_at hl 1 rfl) ?_
            refine gCS_5 h0 hN hw hi_4 d_C_correct_67 ?_
            refine lv_iload hx hb d_C_correct_70 (lv_at hl 0 rfl) ?_
            refine lv_iload_n hx hb d_C_correct_72 rfl (lv_at hl 5 rfl) ?_
            obtain ⟨hi_23, hok⟩ := hok
            refine s_askers h0 hw hi_4 hi_23 d_C_correct_73 (fun H locs hw => ?_)
            refine lv_iconst (v := 0) hx hb d_C_correct_74 (by decide) ?_
            exact vx_ret (rt_i h0 hw hr hlocks rfl (u3 g 14 ((x1 - 1).toNatClampNeg) ((fS_differingLine ((x1 - 1).toNatClampNeg) x2 g N).toNatClampNeg) x3) hF rfl d_C_correct_75 (Nat.le_of_ble_eq_true rfl) (Nat.le_of_ble_eq_true rfl))
        · have hok := hok.2 c_10
          have hF := (if_neg c_10).symm.trans hF
          exact th_S hlt h0 rfl hX hw (by decide +kernel) wd_288 wd_11 (q9 := 26) rfl at_ise ag_ise hl.1 d_C_correct_43 d_C_correct_46 d_C_correct_47 d_C_correct_49 d_C_correct_52 htab hlocks ⟨(Nat.le_of_ble_eq_true rfl), (Nat.le_of_ble_eq_true rfl), (Nat.le_of_ble_eq_true rfl), (Nat.le_of_ble_eq_true rfl)⟩ g hF rfl (Nat.le_of_ble_eq_true rfl) (Nat.le_of_ble_eq_true rfl)
      · have hok := hok.1 c_8
        have hF := (if_pos c_8).symm.trans hF
        exact th_S hlt h0 rfl hX hw (by decide +kernel) wd_175 wd_7 (q9 := 25) rfl at_iae ag_iae hl.1 d_C_correct_22 d_C_correct_25 d_C_correct_26 d_C_correct_28 d_C_correct_31 htab hlocks ⟨(Nat.le_of_ble_eq_true rfl), (Nat.le_of_ble_eq_true rfl), (Nat.le_of_ble_eq_true rfl), (Nat.le_of_ble_eq_true rfl)⟩ g hF rfl (Nat.le_of_ble_eq_true rfl) (Nat.le_of_ble_eq_true rfl)
set_option maxHeartbeats 4000000 in
set_option maxRecDepth 100000 in
theorem cC_last (l : Launch) (hlt : l.stackTraces = false) (D : va_G) (tc : Nat → ClassId) (sa : Nat → Nat) (ad : Nat → Nat → Nat) (Y : va_W) (sz : Nat) (x1 : Int32) (g : Nat → Nat → Nat → Int32) (N : Nat → Nat) {F : Option String × Int32 × (Nat → Nat → Nat → Int32)} (hok : kC_last x1 g N) (hF : fC_last x1 g N = F) : vx_Met l y_C_last (Cond.code y_C_last b_C_last 2 (some .int) :: gw) ({ frames := 7, cells := 1, slots := 6, locals := 104 } : Room) (va_Pc [.ref (ad 0 0), .int x1] (pC D tc sa (cl tc g N ad ++ Y) sz)) (va_Qi (fun r u => (none, r, u) = F) (fun u t => qW D tc (va_A (cl tc g N ad ++ Y) sz) (cl tc u N ad ++ Y) t) (va_A (cl tc g N ad ++ Y) sz)) (xC D tc (va_A (cl tc g N ad ++ Y) sz) (fun E u => (some E, (0 : Int32), u) = F) (fun u => cl tc u N ad ++ Y)) 1 6 (va_A (cl tc g N ad ++ Y) sz) := by
  refine en_X (by decide) (Nat.le_of_ble_eq_true rfl) ?_
  intro p e s m args below meth c ls h0 hN hX hr hlocks htab hsz hw hl
  obtain ⟨hx, hb, hml, hown, hts, hK⟩ := id h0
  have hA : ∀ q : Nat, s.heap.size ≤ q → (va_A (cl tc g N ad ++ Y) sz) q := fun q h => Or.inr (by rw [← hsz]; exact h)
  generalize va_A (cl tc g N ad ++ Y) sz = A at hw hA hX ⊢
  obtain ⟨H, eH⟩ : ∃ z, z = s.heap := ⟨_, rfl⟩
  obtain ⟨locs, eL⟩ : ∃ z : List Loc, z = [] := ⟨_, rfl⟩
  have hw : wH D A s.heap (cl tc g N ad ++ Y) H locs := by rw [eH, eL]; exact hw
  have gl : W p l e ({ frames := 7, cells := 1, slots := 6, locals := 104 } : Room) s m args below meth c H locs 0 0 (vx_MQ below (va_Qi (fun r u => (none, r, u) = F) (fun u t => qW D tc A (cl tc u N ad ++ Y) t) A) (xC D tc A (fun E u => (some E, (0 : Int32), u) = F) (fun u => cl tc u N ad ++ Y)) args s 1 6 A) (F0 m 0 ls []) := ?_
  · rw [eH, eL] at gl; exact gl
  have hl : lv_has ls 2 [(0, .ref (ad 0 0)), (1, .int x1)] := hl
  unfold kC_last at hok
  unfold fC_last at hF
  refine lv_aload_n hx hb d_C_last_0 rfl (lv_at hl 0 rfl) ?_
  refine lv_iload_n hx hb d_C_last_1 rfl (lv_at hl 1 rfl) ?_
  obtain ⟨hi_1, hok⟩ := hok
  refine dx_r (n := 1) (C := "CountRounds") (b := ad 0 0) (q0 := bw_o (cb tc g N ad) 0 + 0) (ci := 3) (As := [.int x1]) (rest := []) h0 hX hw hA (xC_placeNumbered l hlt D tc sa ad Y H.size x1 g N ⟨hi_1, fun _ => trivial, fun c9 => ⟨(hok.2 c9).1, (hok.2 c9).2.1, trivial⟩⟩) (gd_V wd_236 wd_238 (gw_s 3 rfl rfl) wd_1 wd_239) (by decide +kernel) ⟨rfl, rfl, (Nat.le_of_ble_eq_true rfl), (Nat.le_of_ble_eq_true rfl), (Nat.le_of_ble_eq_true rfl), (Nat.le_of_ble_eq_true rfl)⟩ (bw_get (bs := cb tc g N ad) (j := 0) rfl Nat.one_pos Y) rfl rfl hl.1 rfl (Nat.le_of_ble_eq_true rfl) d_C_last_2 (fun c_2 H locs q ce hw hq hv hcl => ?_) (fun c_2 locs hw => ?_)
  · have hF := (if_pos c_2).symm.trans hF
    exact ox_t h0 hw htab hlocks hq hv hcl g hF rfl (Nat.le_of_ble_eq_true rfl) (Nat.le_of_ble_eq_true rfl)
  · have hok := hok.2 c_2
    have hF := (if_neg c_2).symm.trans hF
    obtain ⟨hi_3, hi_4, hok⟩ := hok
    refine gCP_2 h0 hN hw hi_4 d_C_last_5 ?_
    exact vx_ret (rt_i h0 hw hr hlocks rfl g hF rfl d_C_last_8 (Nat.le_of_ble_eq_true rfl) (Nat.le_of_ble_eq_true rfl))
set_option maxHeartbeats 4000000 in
set_option maxRecDepth 100000 in
theorem cC_booked (l : Launch) (hlt : l.stackTraces = false) (D : va_G) (tc : Nat → ClassId) (sa : Nat → Nat) (ad : Nat → Nat → Nat) (Y : va_W) (sz : Nat) (x1 : Int32) (x2 : Int32) (g : Nat → Nat → Nat → Int32) (N : Nat → Nat) {F : Option String × Int32 × (Nat → Nat → Nat → Int32)} (hok : kC_booked x1 x2 g N) (hF : fC_booked x1 x2 g N = F) : vx_Met l y_C_booked (Cond.code y_C_booked b_C_booked 4 (some .int) :: gw) ({ frames := 7, cells := 2, slots := 12, locals := 104 } : Room) (va_Pc [.ref (ad 0 0), .int x1, .int x2] (pC D tc sa (cl tc g N ad ++ Y) sz)) (va_Qi (fun r u => (none, r, u) = F) (fun u t => qW D tc (va_A (cl tc g N ad ++ Y) sz) (cl tc u N ad ++ Y) t) (va_A (cl tc g N ad ++ Y) sz)) (xC D tc (va_A (cl tc g N ad ++ Y) sz) (fun E u => (some E, (0 : Int32), u) = F) (fun u => cl tc u N ad ++ Y)) 2 12 (va_A (cl tc g N ad ++ Y) sz) := by
  refine en_X (by decide) (Nat.le_of_ble_eq_true rfl) ?_
  intro p e s m args below meth c ls h0 hN hX hr hlocks htab hsz hw hl
  obtain ⟨hx, hb, hml, hown, hts, hK⟩ := id h0
  have hA : ∀ q : Nat, s.heap.size ≤ q → (va_A (cl tc g N ad ++ Y) sz) q := fun q h => Or.inr (by rw [← hsz]; exact h)
  generalize va_A (cl tc g N ad ++ Y) sz = A at hw hA hX ⊢
  obtain ⟨H, eH⟩ : ∃ z, z = s.heap := ⟨_, rfl⟩
  obtain ⟨locs, eL⟩ : ∃ z : List Loc, z = [] := ⟨_, rfl⟩
  have hw : wH D A s.heap (cl tc g N ad ++ Y) H locs := by rw [eH, eL]; exact hw
  have gl : W p l e ({ frames := 7, cells := 2, slots := 12, locals := 104 } : Room) s m args below meth c H locs 0 0 (vx_MQ below (va_Qi (fun r u => (none, r, u) = F) (fun u t => qW D tc A (cl tc u N ad ++ Y) t) A) (xC D tc A (fun E u => (some E, (0 : Int32), u) = F) (fun u => cl tc u N ad ++ Y)) args s 2 12 A) (F0 m 0 ls []) := ?_
  · rw [eH, eL] at gl; exact gl
  have hl : lv_has ls 4 [(0, .ref (ad 0 0)), (1, .int x1), (2, .int x2)] := hl
  unfold kC_booked at hok
  unfold fC_booked at hF
  refine lv_aload_n hx hb d_C_booked_0 rfl (lv_at hl 0 rfl) ?_
  refine lv_iload_n hx hb d_C_booked_1 rfl (lv_at hl 1 rfl) ?_
  obtain ⟨hi_1, hok⟩ := hok
  refine dx_r (n := 1) (C := "CountRounds") (b := ad 0 0) (q0 := bw_o (cb tc g N ad) 0 + 0) (ci := 3) (As := [.int x1]) (rest := []) h0 hX hw hA (xC_placeNumbered l hlt D tc sa ad Y H.size x1 g N ⟨hi_1, fun _ => trivial, fun c9 => ⟨(hok.2 c9).1, (hok.2 c9).2.1, trivial⟩⟩) (gd_V wd_236 wd_238 (gw_s 3 rfl rfl) wd_1 wd_239) (by decide +kernel) ⟨rfl, rfl, (Nat.le_of_ble_eq_true rfl), (Nat.le_of_ble_eq_true rfl), (Nat.le_of_ble_eq_true rfl), (Nat.le_of_ble_eq_true rfl)⟩ (bw_get (bs := cb tc g N ad) (j := 0) rfl Nat.one_pos Y) rfl rfl hl.1 rfl (Nat.le_of_ble_eq_true rfl) d_C_booked_2 (fun c_2 H locs q ce hw hq hv hcl => ?_) (fun c_2 locs hw => ?_)
  · have hF := (if_pos c_2).symm.trans hF
    exact ox_t h0 hw htab hlocks hq hv hcl g hF rfl (Nat.le_of_ble_eq_true rfl) (Nat.le_of_ble_eq_true rfl)
  · have hok := hok.2 c_2
    have hF := (if_neg c_2).symm.trans hF
    obtain ⟨hi_3, hi_4, hok⟩ := hok
    refine lv_astore_n (lv' := [(3, .ref (ad 1 x1.toNatClampNeg)), (0, .ref (ad 0 0)), (1, .int x1), (2, .int x2)]) hx hb d_C_booked_5 rfl hl (by decide) rfl (fun ls hl => ?_)
    refine lv_iload_n hx hb d_C_booked_6 rfl (lv_at hl 3 rfl) ?_
    obtain ⟨hi_5, hok⟩ := hok
    refine cs_p (n := 1) (As := [.int x2]) (rest := []) hx hb hml hown hts (cC_isGood l x2 hi_5 rfl) (gd_S wd_241 wd_242 wd_1 wd_243) (by decide +kernel) ⟨rfl, rfl, (Nat.le_of_ble_eq_true rfl), (Nat.le_of_ble_eq_true rfl), (Nat.le_of_ble_eq_true rfl), (Nat.le_of_ble_eq_true rfl)⟩ rfl hl.1 rfl (Nat.le_of_ble_eq_true rfl) d_C_booked_7 ?_
    refine lv_if_ne (tgt := 23) hx hb d_C_booked_10 (by decide) (fun c_6 => ?_) (fun c_6 => ?_)
    · have hok := hok.2 c_6
      have hF := (if_neg c_6).symm.trans hF
      refine lv_aload_n hx hb d_C_booked_23 rfl (lv_at hl 0 rfl) ?_
      refine gCP_1 h0 hN hw hi_4 d_C_booked_24 ?_
      refine lv_iload_n hx hb d_C_booked_27 rfl (lv_at hl 3 rfl) ?_
      obtain ⟨hi_7, hok⟩ := hok
      refine l_pieces h0 hw hi_4 hi_7 d_C_booked_28 ?_
      exact vx_ret (rt_i h0 hw hr hlocks rfl g hF rfl d_C_booked_29 (Nat.le_of_ble_eq_true rfl) (Nat.le_of_ble_eq_true rfl))
    · have hok := hok.1 c_6
      have hF := (if_pos c_6).symm.trans hF
      exact th_S hlt h0 rfl hX hw (by decide +kernel) wd_175 wd_7 (q9 := 21) rfl at_iae ag_iae hl.1 d_C_booked_13 d_C_booked_16 d_C_booked_17 d_C_booked_19 d_C_booked_22 htab hlocks ⟨(Nat.le_of_ble_eq_true rfl), (Nat.le_of_ble_eq_true rfl), (Nat.le_of_ble_eq_true rfl), (Nat.le_of_ble_eq_true rfl)⟩ g hF rfl (Nat.le_of_ble_eq_true rfl) (Nat.le_of_ble_eq_true rfl)
set_option maxHeartbeats 4000000 in
set_option maxRecDepth 100000 in
theorem cC_told (l : Launch) (hlt : l.stackTraces = false) (D : va_G) (tc : Nat → ClassId) (sa : Nat → Nat) (ad : Nat → Nat → Nat) (Y : va_W) (sz : Nat) (x1 : Int32) (x2 : Int32) (g : Nat → Nat → Nat → Int32) (N : Nat → Nat) {F : Option String × Int32 × (Nat → Nat → Nat → Int32)} (hok : kC_told x1 x2 g N) (hF : fC_told x1 x2 g N = F) : vx_Met l y_C_told (Cond.code y_C_told b_C_told 5 (some .int) :: gw) ({ frames := 7, cells := 2, slots := 12, locals := 104 } : Room) (va_Pc [.ref (ad 0 0), .int x1, .int x2] (pC D tc sa (cl tc g N ad ++ Y) sz)) (va_Qi (fun r u => (none, r, u) = F) (fun u t => qW D tc (va_A (cl tc g N ad ++ Y) sz) (cl tc u N ad ++ Y) t) (va_A (cl tc g N ad ++ Y) sz)) (xC D tc (va_A (cl tc g N ad ++ Y) sz) (fun E u => (some E, (0 : Int32), u) = F) (fun u => cl tc u N ad ++ Y)) 2 12 (va_A (cl tc g N ad ++ Y) sz) := by
  refine en_X (by decide) (Nat.le_of_ble_eq_true rfl) ?_
  intro p e s m args below meth c ls h0 hN hX hr hlocks htab hsz hw hl
  obtain ⟨hx, hb, hml, hown, hts, hK⟩ := id h0
  have hA : ∀ q : Nat, s.heap.size ≤ q → (va_A (cl tc g N ad ++ Y) sz) q := fun q h => Or.inr (by rw [← hsz]; exact h)
  generalize va_A (cl tc g N ad ++ Y) sz = A at hw hA hX ⊢
  obtain ⟨H, eH⟩ : ∃ z, z = s.heap := ⟨_, rfl⟩
  obtain ⟨locs, eL⟩ : ∃ z : List Loc, z = [] := ⟨_, rfl⟩
  have hw : wH D A s.heap (cl tc g N ad ++ Y) H locs := by rw [eH, eL]; exact hw
  have gl : W p l e ({ frames := 7, cells := 2, slots := 12, locals := 104 } : Room) s m args below meth c H locs 0 0 (vx_MQ below (va_Qi (fun r u => (none, r, u) = F) (fun u t => qW D tc A (cl tc u N ad ++ Y) t) A) (xC D tc A (fun E u => (some E, (0 : Int32), u) = F) (fun u => cl tc u N ad ++ Y)) args s 2 12 A) (F0 m 0 ls []) := ?_
  · rw [eH, eL] at gl; exact gl
  have hl : lv_has ls 5 [(0, .ref (ad 0 0)), (1, .int x1), (2, .int x2)] := hl
  unfold kC_told at hok
  unfold fC_told at hF
  refine lv_aload_n hx hb d_C_told_0 rfl (lv_at hl 0 rfl) ?_
  refine lv_iload_n hx hb d_C_told_1 rfl (lv_at hl 1 rfl) ?_
  obtain ⟨hi_1, hok⟩ := hok
  refine dx_r (n := 1) (C := "CountRounds") (b := ad 0 0) (q0 := bw_o (cb tc g N ad) 0 + 0) (ci := 3) (As := [.int x1]) (rest := []) h0 hX hw hA (xC_sheetNumbered l hlt D tc sa ad Y H.size x1 g N ⟨hi_1, fun _ => trivial, fun c9 => ⟨(hok.2 c9).1, (hok.2 c9).2.1, trivial⟩⟩) (gd_V wd_444 wd_446 (gw_s 8 rfl rfl) wd_1 wd_447) (by decide +kernel) ⟨rfl, rfl, (Nat.le_of_ble_eq_true rfl), (Nat.le_of_ble_eq_true rfl), (Nat.le_of_ble_eq_true rfl), (Nat.le_of_ble_eq_true rfl)⟩ (bw_get (bs := cb tc g N ad) (j := 0) rfl Nat.one_pos Y) rfl rfl hl.1 rfl (Nat.le_of_ble_eq_true rfl) d_C_told_2 (fun c_2 H locs q ce hw hq hv hcl => ?_) (fun c_2 locs hw => ?_)
  · have hF := (if_pos c_2).symm.trans hF
    exact ox_t h0 hw htab hlocks hq hv hcl g hF rfl (Nat.le_of_ble_eq_true rfl) (Nat.le_of_ble_eq_true rfl)
  · have hok := hok.2 c_2
    have hF := (if_neg c_2).symm.trans hF
    obtain ⟨hi_3, hi_4, hok⟩ := hok
    refine lv_astore_n (lv' := [(3, .ref (ad 4 ((x1 - 1).toNatClampNeg))), (0, .ref (ad 0 0)), (1, .int x1), (2, .int x2)]) hx hb d_C_told_5 rfl hl (by decide) rfl (fun ls hl => ?_)
    refine lv_iload_n hx hb d_C_told_6 rfl (lv_at hl 3 rfl) ?_
    refine lv_bipush (v := 10) hx hb d_C_told_7 (by decide) ?_
    refine lv_icmp_lt (tgt := 40) hx hb d_C_told_9 (by decide) (fun c_5 => ?_) (fun c_5 => ?_)
    · have hok := hok.1 c_5
      have hF := (if_pos c_5).symm.trans hF
      refine lv_iload_n hx hb d_C_told_40 rfl (lv_at hl 3 rfl) ?_
      by_cases c_6 : x2 = 0
      · have hok := hok.1 c_6
        have hF := (if_pos c_6).symm.trans hF
        refine lv_tableIn (tgt := 68) hx hb d_C_told_41 (by rw [c_6]; decide) (by rw [c_6]; decide) (by rw [c_6]; rfl) (by decide) ?_
        refine lv_aload_n hx hb d_C_told_68 rfl (lv_at hl 0 rfl) ?_
        refine gCS_10 h0 hN hw hi_4 d_C_told_69 ?_
        exact vx_ret (rt_i h0 hw hr hlocks rfl g hF rfl d_C_told_72 (Nat.le_of_ble_eq_true rfl) (Nat.le_of_ble_eq_true rfl))
      have hok := hok.2 c_6
      have hF := (if_neg c_6).symm.trans hF
      by_cases c_7 : x2 = 1
      · have hok := hok.1 c_7
        have hF := (if_pos c_7).symm.trans hF
        refine lv_tableIn (tgt := 73) hx hb d_C_told_41 (by rw [c_7]; decide) (by rw [c_7]; decide) (by rw [c_7]; rfl) (by decide) ?_
        refine lv_aload_n hx hb d_C_told_73 rfl (lv_at hl 0 rfl) ?_
        refine gCS_0 h0 hN hw hi_4 d_C_told_74 ?_
        refine n_members h0 hw hi_4 d_C_told_77 ?_
        exact vx_ret (rt_i h0 hw hr hlocks rfl g hF rfl d_C_told_78 (Nat.le_of_ble_eq_true rfl) (Nat.le_of_ble_eq_true rfl))
      have hok := hok.2 c_7
      have hF := (if_neg c_7).symm.trans hF
      by_cases c_8 : x2 = 2
      · have hok := hok.1 c_8
        have hF := (if_pos c_8).symm.trans hF
        refine lv_tableIn (tgt := 79) hx hb d_C_told_41 (by rw [c_8]; decide) (by rw [c_8]; decide) (by rw [c_8]; rfl) (by decide) ?_
        refine lv_aload_n hx hb d_C_told_79 rfl (lv_at hl 0 rfl) ?_
        refine gCS_9 h0 hN hw hi_4 d_C_told_80 ?_
        exact vx_ret (rt_i h0 hw hr hlocks rfl g hF rfl d_C_told_83 (Nat.le_of_ble_eq_true rfl) (Nat.le_of_ble_eq_true rfl))
      have hok := hok.2 c_8
      have hF := (if_neg c_8).symm.trans hF
      have ec_6 := lv_neT (a := 0) c_6 rfl
      have ec_7 := lv_neT (a := 1) c_7 rfl
      have ec_8 := lv_neT (a := 2) c_8 rfl
      refine lv_tableOut (tgt := 84) hx hb d_C_told_41 (by omega) (by decide) ?_
      exact th_S hlt h0 rfl hX hw (by decide +kernel) wd_175 wd_7 (q9 := 24) rfl at_iae ag_iae hl.1 d_C_told_84 d_C_told_87 d_C_told_88 d_C_told_90 d_C_told_93 htab hlocks ⟨(Nat.le_of_ble_eq_true rfl), (Nat.le_of_ble_eq_true rfl), (Nat.le_of_ble_eq_true rfl), (Nat.le_of_ble_eq_true rfl)⟩ g hF rfl (Nat.le_of_ble_eq_true rfl) (Nat.le_of_ble_eq_true rfl)
    · have hok := hok.2 c_5
      have hF := (if_neg c_5).symm.trans hF
      refine lv_iload_n hx hb d_C_told_12 rfl (lv_at hl 3 rfl) ?_
      refine lv_bipush (v := 10) hx hb d_C_told_13 (by decide) ?_
      refine lv_isub hx hb d_C_told_15 ?_
      refine lv_istore (lv' := [(4, .int (x2 - 10)), (3, .ref (ad 4 ((x1 - 1).toNatClampNeg))), (0, .ref (ad 0 0)), (1, .int x1), (2, .int x2)]) hx hb d_C_told_16 hl (by decide) rfl (fun ls hl => ?_)
      refine lv_iload hx hb d_C_told_18 (lv_at hl 0 rfl) ?_
      refine lv_aload_n hx hb d_C_told_20 rfl (lv_at hl 1 rfl) ?_
      refine gCS_0 h0 hN hw hi_4 d_C_told_21 ?_
      refine n_members h0 hw hi_4 d_C_told_24 ?_
      refine lv_icmp_ge (tgt := 38) hx hb d_C_told_25 (by decide) (fun c_9 => ?_) (fun c_9 => ?_)
      · have hok := hok.1 c_9
        have hF := (if_pos c_9).symm.trans hF
        refine lv_iconst (v := (-1)) hx hb d_C_told_38 (by decide) ?_
        exact vx_ret (rt_i h0 hw hr hlocks rfl g hF rfl d_C_told_39 (Nat.le_of_ble_eq_true rfl) (Nat.le_of_ble_eq_true rfl))
      · have hok := hok.2 c_9
        have hF := (if_neg c_9).symm.trans hF
        refine lv_aload_n hx hb d_C_told_28 rfl (lv_at hl 1 rfl) ?_
        refine gCS_0 h0 hN hw hi_4 d_C_told_29 ?_
        refine lv_iload hx hb d_C_told_32 (lv_at hl 0 rfl) ?_
        obtain ⟨hi_10, hok⟩ := hok
        refine l_members h0 hw hi_4 hi_10 d_C_told_34 ?_
        refine lv_goto (tgt := 39) hx hb d_C_told_35 (by decide) ?_
        exact vx_ret (rt_i h0 hw hr hlocks rfl g hF rfl d_C_told_39 (Nat.le_of_ble_eq_true rfl) (Nat.le_of_ble_eq_true rfl))
