def fM_closePlace_28x  (x1 : Int32) (x2 : Int32) (x3 : Int32) (x4 : Int32) (x5 : Int32) (μ : Nat → Nat → Int32) : Nat → Nat → Int32 := if x4 = 0 then (u2 (u2 (u2 μ 5 x3.toNatClampNeg (μ 1 0)) 26 0 ((μ 26 0) + 1)) 27 0 ((μ 27 0) + 0)) else (u2 (u2 (u2 μ 5 x3.toNatClampNeg (μ 1 0)) 26 0 ((μ 26 0) + 1)) 27 0 ((μ 27 0) + 1))
def kM_closePlace_28x  (x1 : Int32) (x2 : Int32) (x3 : Int32) (x4 : Int32) (x5 : Int32) (μ : Nat → Nat → Int32) : Prop := (vp_in x3 20) ∧ ((x4 = 0 → True) ∧ (¬ (x4 = 0) → True))
def fM_closePlace_28  (E28 : Int32 → Int32 → Int32 → Int32 → Int32 → (Nat → Nat → Int32) → (Nat → Nat → Int32)) : Nat → Int32 → Int32 → Int32 → Int32 → Int32 → (Nat → Nat → Int32) → (Nat → Nat → Int32)
  | 0, _, _, _, _, _, _ => fun _ _ => 0
  | n + 1, x1, x2, x3, x4, x5, μ => if 6 ≤ x5 then E28 x1 x2 x3 x4 x5 μ else if x4 = 0 then (fM_closePlace_28 E28 n) x1 x2 x3 0 (x5 + 1) μ else if (μ 8 (μ 4 x3.toNatClampNeg).toNatClampNeg) < (fM_far (fM_counts (((120 * x1) + (6 * x2)) + x5) μ) (μ 21 (((120 * x1) + (6 * x2)) + x5).toNatClampNeg)) then (fM_closePlace_28 E28 n) x1 x2 x3 0 (x5 + 1) μ else (fM_closePlace_28 E28 n) x1 x2 x3 1 (x5 + 1) μ
def kM_closePlace_28  (KE28 : Int32 → Int32 → Int32 → Int32 → Int32 → (Nat → Nat → Int32) → Prop) : Nat → Int32 → Int32 → Int32 → Int32 → Int32 → (Nat → Nat → Int32) → Prop
  | 0, _, _, _, _, _, _ => False
  | n + 1, x1, x2, x3, x4, x5, μ => (6 ≤ x5 → KE28 x1 x2 x3 x4 x5 μ) ∧ (¬ (6 ≤ x5) → (x4 = 0 → (kM_closePlace_28 KE28 n) x1 x2 x3 0 (x5 + 1) μ) ∧ (¬ (x4 = 0) → (kM_counts (((120 * x1) + (6 * x2)) + x5) μ) ∧ ((vp_in (((120 * x1) + (6 * x2)) + x5) 2520) ∧ ((kM_far (fM_counts (((120 * x1) + (6 * x2)) + x5) μ) (μ 21 (((120 * x1) + (6 * x2)) + x5).toNatClampNeg)) ∧ ((vp_in x3 20) ∧ ((vp_in (μ 4 x3.toNatClampNeg) 3) ∧ (((μ 8 (μ 4 x3.toNatClampNeg).toNatClampNeg) < (fM_far (fM_counts (((120 * x1) + (6 * x2)) + x5) μ) (μ 21 (((120 * x1) + (6 * x2)) + x5).toNatClampNeg)) → (kM_closePlace_28 KE28 n) x1 x2 x3 0 (x5 + 1) μ) ∧ (¬ ((μ 8 (μ 4 x3.toNatClampNeg).toNatClampNeg) < (fM_far (fM_counts (((120 * x1) + (6 * x2)) + x5) μ) (μ 21 (((120 * x1) + (6 * x2)) + x5).toNatClampNeg))) → (kM_closePlace_28 KE28 n) x1 x2 x3 1 (x5 + 1) μ))))))))
def fM_closePlace (x1 : Int32) (x2 : Int32) (μ : Nat → Nat → Int32) : Nat → Nat → Int32 := if (fM_isTold x1 x2 μ) = 0 then μ else fM_closePlace_28 fM_closePlace_28x 200 x1 x2 (μ 20 ((20 * x1) + x2).toNatClampNeg) 1 0 μ
def kM_closePlace (x1 : Int32) (x2 : Int32) (μ : Nat → Nat → Int32) : Prop := (kM_isTold x1 x2 μ) ∧ (((fM_isTold x1 x2 μ) = 0 → True) ∧ (¬ ((fM_isTold x1 x2 μ) = 0) → (vp_in ((20 * x1) + x2) 420) ∧ (kM_closePlace_28 kM_closePlace_28x 200 x1 x2 (μ 20 ((20 * x1) + x2).toNatClampNeg) 1 0 μ)))
def fM_place (x1 : Int32) (μ : Nat → Nat → Int32) : Int32 × (Nat → Nat → Int32) := if (fM_in x1 0 2) = 0 then (0, (u2 μ 0 0 1)) else if (μ 3 0) = 20 then (0, (u2 μ 0 0 2)) else (((μ 3 0) + 1) - 1, (u2 (u2 (u2 (u2 μ 0 0 0) 4 (μ 3 0).toNatClampNeg x1) 5 (μ 3 0).toNatClampNeg (-1)) 3 0 ((μ 3 0) + 1)))
def kM_place (x1 : Int32) (μ : Nat → Nat → Int32) : Prop := (kM_in x1 0 2) ∧ (((fM_in x1 0 2) = 0 → True) ∧ (¬ ((fM_in x1 0 2) = 0) → ((μ 3 0) = 20 → True) ∧ (¬ ((μ 3 0) = 20) → (vp_in (μ 3 0) 20) ∧ ((vp_in (μ 3 0) 20) ∧ (True)))))
def fM_stock (x1 : Int32) (x2 : Int32) (x3 : Int32) (μ : Nat → Nat → Int32) : Nat → Nat → Int32 := if (fM_isPlace x1 μ) = 0 then (u2 μ 0 0 1) else if (fM_isGood x2) = 0 then (u2 μ 0 0 2) else if (fM_in x3 0 1000000) = 0 then (u2 μ 0 0 2) else (u2 (u2 μ 0 0 0) 6 ((6 * x1) + x2).toNatClampNeg x3)
def kM_stock (x1 : Int32) (x2 : Int32) (x3 : Int32) (μ : Nat → Nat → Int32) : Prop := (kM_isPlace x1 μ) ∧ (((fM_isPlace x1 μ) = 0 → True) ∧ (¬ ((fM_isPlace x1 μ) = 0) → (kM_isGood x2) ∧ (((fM_isGood x2) = 0 → True) ∧ (¬ ((fM_isGood x2) = 0) → (kM_in x3 0 1000000) ∧ (((fM_in x3 0 1000000) = 0 → True) ∧ (¬ ((fM_in x3 0 1000000) = 0) → (vp_in ((6 * x1) + x2) 120) ∧ (True)))))))
def fM_cycle (x1 : Int32) (x2 : Int32) (x3 : Int32) (μ : Nat → Nat → Int32) : Nat → Nat → Int32 := if (fM_in x1 0 2) = 0 then (u2 μ 0 0 1) else if (fM_in x2 1 1000) = 0 then (u2 μ 0 0 1) else if (fM_in x3 0 1000) = 0 then (u2 μ 0 0 1) else (u2 (u2 (u2 μ 0 0 0) 7 x1.toNatClampNeg x2) 8 x1.toNatClampNeg x3)
def kM_cycle (x1 : Int32) (x2 : Int32) (x3 : Int32) (μ : Nat → Nat → Int32) : Prop := (kM_in x1 0 2) ∧ (((fM_in x1 0 2) = 0 → True) ∧ (¬ ((fM_in x1 0 2) = 0) → (kM_in x2 1 1000) ∧ (((fM_in x2 1 1000) = 0 → True) ∧ (¬ ((fM_in x2 1 1000) = 0) → (kM_in x3 0 1000) ∧ (((fM_in x3 0 1000) = 0 → True) ∧ (¬ ((fM_in x3 0 1000) = 0) → (vp_in x1 3) ∧ ((vp_in x1 3) ∧ (True))))))))
def fM_right (x1 : Int32) (x2 : Int32) (μ : Nat → Nat → Int32) : Nat → Nat → Int32 := if (fM_isPerson x1) = 0 then (u2 μ 0 0 1) else if (fM_in x2 0 1000000) = 0 then (u2 μ 0 0 1) else (u2 (u2 μ 0 0 0) 9 x1.toNatClampNeg x2)
def kM_right (x1 : Int32) (x2 : Int32) (μ : Nat → Nat → Int32) : Prop := (kM_isPerson x1) ∧ (((fM_isPerson x1) = 0 → True) ∧ (¬ ((fM_isPerson x1) = 0) → (kM_in x2 0 1000000) ∧ (((fM_in x2 0 1000000) = 0 → True) ∧ (¬ ((fM_in x2 0 1000000) = 0) → (vp_in x1 6) ∧ (True)))))
def fM_setting (x1 : Int32) (μ : Nat → Nat → Int32) : Nat → Nat → Int32 := if (fM_in x1 0 1) = 0 then (u2 μ 0 0 1) else (u2 (u2 μ 0 0 0) 2 0 x1)
def kM_setting (x1 : Int32) (μ : Nat → Nat → Int32) : Prop := (kM_in x1 0 1) ∧ (((fM_in x1 0 1) = 0 → True) ∧ (¬ ((fM_in x1 0 1) = 0) → True))
def fM_day (x1 : Int32) (μ : Nat → Nat → Int32) : Nat → Nat → Int32 := if (fM_in x1 0 10000) = 0 then (u2 μ 0 0 1) else if (μ 1 0) ≤ x1 then (u2 (u2 μ 0 0 0) 1 0 x1) else (u2 μ 0 0 2)
def kM_day (x1 : Int32) (μ : Nat → Nat → Int32) : Prop := (kM_in x1 0 10000) ∧ (((fM_in x1 0 10000) = 0 → True) ∧ (¬ ((fM_in x1 0 10000) = 0) → ((μ 1 0) ≤ x1 → True) ∧ (¬ ((μ 1 0) ≤ x1) → True)))
def fM_move (x1 : Int32) (x2 : Int32) (x3 : Int32) (x4 : Int32) (μ : Nat → Nat → Int32) : Int32 × (Nat → Nat → Int32) := if (fM_isPlace x1 μ) = 0 then (0, (u2 μ 0 0 1)) else if (fM_isPlace x2 μ) = 0 then (0, (u2 μ 0 0 1)) else if (fM_isGood x3) = 0 then (0, (u2 μ 0 0 2)) else if (fM_in x4 1 1000000) = 0 then (0, (u2 μ 0 0 2)) else if x1 = x2 then (0, (u2 μ 0 0 2)) else if x4 ≤ (μ 6 ((6 * x1) + x3).toNatClampNeg) then if (μ 10 0) = 60 then (0, (u2 (u2 μ 0 0 0) 0 0 4)) else (((μ 10 0) + 1), (u2 (u2 (u2 (u2 (u2 (u2 (u2 (u2 μ 0 0 0) 0 0 0) 6 ((6 * x1) + x3).toNatClampNeg ((μ 6 ((6 * x1) + x3).toNatClampNeg) - x4)) 10 0 ((μ 10 0) + 1)) 11 ((μ 10 0) + 1).toNatClampNeg x1) 12 ((μ 10 0) + 1).toNatClampNeg x2) 13 ((μ 10 0) + 1).toNatClampNeg x3) 14 ((μ 10 0) + 1).toNatClampNeg x4)) else (0, (u2 (u2 μ 0 0 0) 0 0 3))
def kM_move (x1 : Int32) (x2 : Int32) (x3 : Int32) (x4 : Int32) (μ : Nat → Nat → Int32) : Prop := (kM_isPlace x1 μ) ∧ (((fM_isPlace x1 μ) = 0 → True) ∧ (¬ ((fM_isPlace x1 μ) = 0) → (kM_isPlace x2 μ) ∧ (((fM_isPlace x2 μ) = 0 → True) ∧ (¬ ((fM_isPlace x2 μ) = 0) → (kM_isGood x3) ∧ (((fM_isGood x3) = 0 → True) ∧ (¬ ((fM_isGood x3) = 0) → (kM_in x4 1 1000000) ∧ (((fM_in x4 1 1000000) = 0 → True) ∧ (¬ ((fM_in x4 1 1000000) = 0) → (x1 = x2 → True) ∧ (¬ (x1 = x2) → (vp_in ((6 * x1) + x3) 120) ∧ ((x4 ≤ (μ 6 ((6 * x1) + x3).toNatClampNeg) → ((μ 10 0) = 60 → True) ∧ (¬ ((μ 10 0) = 60) → (vp_in ((6 * x1) + x3) 120) ∧ ((vp_in ((6 * x1) + x3) 120) ∧ ((vp_in ((μ 10 0) + 1) 61) ∧ ((vp_in ((μ 10 0) + 1) 61) ∧ ((vp_in ((μ 10 0) + 1) 61) ∧ ((vp_in ((μ 10 0) + 1) 61) ∧ (True)))))))) ∧ (¬ (x4 ≤ (μ 6 ((6 * x1) + x3).toNatClampNeg)) → True)))))))))))
def fM_end (x1 : Int32) (μ : Nat → Nat → Int32) : Nat → Nat → Int32 := if (fM_in x1 1 (μ 10 0)) = 0 then (u2 μ 0 0 1) else if (μ 15 x1.toNatClampNeg) = 0 then if ((μ 6 ((6 * (μ 12 x1.toNatClampNeg)) + (μ 13 x1.toNatClampNeg)).toNatClampNeg) + (μ 14 x1.toNatClampNeg)) ≤ 1000000 then (u2 (u2 (u2 (u2 μ 0 0 0) 0 0 0) 15 x1.toNatClampNeg (vp_nar .boolean 1)) 6 ((6 * (μ 12 x1.toNatClampNeg)) + (μ 13 x1.toNatClampNeg)).toNatClampNeg ((μ 6 ((6 * (μ 12 x1.toNatClampNeg)) + (μ 13 x1.toNatClampNeg)).toNatClampNeg) + (μ 14 x1.toNatClampNeg))) else (u2 (u2 μ 0 0 0) 0 0 2) else (u2 (u2 μ 0 0 0) 0 0 2)
def kM_end (x1 : Int32) (μ : Nat → Nat → Int32) : Prop := (kM_in x1 1 (μ 10 0)) ∧ (((fM_in x1 1 (μ 10 0)) = 0 → True) ∧ (¬ ((fM_in x1 1 (μ 10 0)) = 0) → (vp_in x1 61) ∧ ((vp_in x1 61) ∧ ((vp_in x1 61) ∧ (((μ 15 x1.toNatClampNeg) = 0 → (vp_in ((6 * (μ 12 x1.toNatClampNeg)) + (μ 13 x1.toNatClampNeg)) 120) ∧ ((vp_in x1 61) ∧ ((((μ 6 ((6 * (μ 12 x1.toNatClampNeg)) + (μ 13 x1.toNatClampNeg)).toNatClampNeg) + (μ 14 x1.toNatClampNeg)) ≤ 1000000 → (vp_in x1 61) ∧ ((vp_in ((6 * (μ 12 x1.toNatClampNeg)) + (μ 13 x1.toNatClampNeg)) 120) ∧ ((vp_in x1 61) ∧ ((vp_in ((6 * (μ 12 x1.toNatClampNeg)) + (μ 13 x1.toNatClampNeg)) 120) ∧ (True))))) ∧ (¬ (((μ 6 ((6 * (μ 12 x1.toNatClampNeg)) + (μ 13 x1.toNatClampNeg)).toNatClampNeg) + (μ 14 x1.toNatClampNeg)) ≤ 1000000) → True)))) ∧ (¬ ((μ 15 x1.toNatClampNeg) = 0) → True))))))
def fM_moves (x1 : Int32) (μ : Nat → Nat → Int32) : Int32 × (Nat → Nat → Int32) := if (fM_isPlace x1 μ) = 0 then (0, (u2 μ 0 0 1)) else (fM_openAt x1 (u2 μ 0 0 0), (u2 μ 0 0 0))
def kM_moves (x1 : Int32) (μ : Nat → Nat → Int32) : Prop := (kM_isPlace x1 μ) ∧ (((fM_isPlace x1 μ) = 0 → True) ∧ (¬ ((fM_isPlace x1 μ) = 0) → (kM_openAt x1 (u2 μ 0 0 0)) ∧ (True)))
def fM_share (x1 : Int32) (μ : Nat → Nat → Int32) : Int32 × (Nat → Nat → Int32) := if (fM_in x1 0 1) = 0 then (0, (u2 μ 0 0 1)) else if (μ 26 0) = 0 then (0, (u2 μ 0 0 2)) else if x1 = 0 then ((μ 27 0) / (fM_divisor (μ 27 0) (μ 26 0)), (u2 μ 0 0 0)) else ((μ 26 0) / (fM_divisor (μ 27 0) (μ 26 0)), (u2 μ 0 0 0))
def kM_share (x1 : Int32) (μ : Nat → Nat → Int32) : Prop := (kM_in x1 0 1) ∧ (((fM_in x1 0 1) = 0 → True) ∧ (¬ ((fM_in x1 0 1) = 0) → ((μ 26 0) = 0 → True) ∧ (¬ ((μ 26 0) = 0) → (kM_divisor (μ 27 0) (μ 26 0)) ∧ ((x1 = 0 → (¬ (fM_divisor (μ 27 0) (μ 26 0)) = 0) ∧ (True)) ∧ (¬ (x1 = 0) → (¬ (fM_divisor (μ 27 0) (μ 26 0)) = 0) ∧ (True))))))
def fM_last (x1 : Int32) (μ : Nat → Nat → Int32) : Int32 × (Nat → Nat → Int32) := if (fM_isPlace x1 μ) = 0 then (0, (u2 μ 0 0 1)) else (μ 5 x1.toNatClampNeg, (u2 μ 0 0 0))
def kM_last (x1 : Int32) (μ : Nat → Nat → Int32) : Prop := (kM_isPlace x1 μ) ∧ (((fM_isPlace x1 μ) = 0 → True) ∧ (¬ ((fM_isPlace x1 μ) = 0) → (vp_in x1 20) ∧ (True)))
def fM_due_24x  (x1 : Int32) (x2 : Int32) (x3 : Int32) (μ : Nat → Nat → Int32) : Int32 × (Nat → Nat → Int32) := (x2, μ)
def kM_due_24x  (x1 : Int32) (x2 : Int32) (x3 : Int32) (μ : Nat → Nat → Int32) : Prop := True
def fM_due_24  (E24 : Int32 → Int32 → Int32 → (Nat → Nat → Int32) → (Int32 × (Nat → Nat → Int32))) : Nat → Int32 → Int32 → Int32 → (Nat → Nat → Int32) → (Int32 × (Nat → Nat → Int32))
  | 0, _, _, _, _ => (0, fun _ _ => 0)
  | n + 1, x1, x2, x3, μ => if (μ 3 0) ≤ x3 then E24 x1 x2 x3 μ else if (μ 0 0) = 0 then if (μ 5 x3.toNatClampNeg) = (-1) then (fM_due_24 E24 n) x1 (x2 + 1) (x3 + 1) μ else if (x1 - (μ 5 x3.toNatClampNeg)) < (μ 7 (μ 4 x3.toNatClampNeg).toNatClampNeg) then (fM_due_24 E24 n) x1 (x2 + 0) (x3 + 1) μ else (fM_due_24 E24 n) x1 (x2 + 1) (x3 + 1) μ else E24 x1 x2 x3 μ
def kM_due_24  (KE24 : Int32 → Int32 → Int32 → (Nat → Nat → Int32) → Prop) : Nat → Int32 → Int32 → Int32 → (Nat → Nat → Int32) → Prop
  | 0, _, _, _, _ => False
  | n + 1, x1, x2, x3, μ => ((μ 3 0) ≤ x3 → KE24 x1 x2 x3 μ) ∧ (¬ ((μ 3 0) ≤ x3) → ((μ 0 0) = 0 → (vp_in x3 20) ∧ (((μ 5 x3.toNatClampNeg) = (-1) → (kM_due_24 KE24 n) x1 (x2 + 1) (x3 + 1) μ) ∧ (¬ ((μ 5 x3.toNatClampNeg) = (-1)) → (vp_in x3 20) ∧ ((vp_in x3 20) ∧ ((vp_in (μ 4 x3.toNatClampNeg) 3) ∧ (((x1 - (μ 5 x3.toNatClampNeg)) < (μ 7 (μ 4 x3.toNatClampNeg).toNatClampNeg) → (kM_due_24 KE24 n) x1 (x2 + 0) (x3 + 1) μ) ∧ (¬ ((x1 - (μ 5 x3.toNatClampNeg)) < (μ 7 (μ 4 x3.toNatClampNeg).toNatClampNeg)) → (kM_due_24 KE24 n) x1 (x2 + 1) (x3 + 1) μ))))))) ∧ (¬ ((μ 0 0) = 0) → KE24 x1 x2 x3 μ))
def fM_due (x1 : Int32) (μ : Nat → Nat → Int32) : Int32 × (Nat → Nat → Int32) := if (fM_in x1 0 10000) = 0 then fM_due_24 fM_due_24x 200 x1 0 0 (u2 μ 0 0 1) else fM_due_24 fM_due_24x 200 x1 0 0 (u2 μ 0 0 0)
def kM_due (x1 : Int32) (μ : Nat → Nat → Int32) : Prop := (kM_in x1 0 10000) ∧ (((fM_in x1 0 10000) = 0 → kM_due_24 kM_due_24x 200 x1 0 0 (u2 μ 0 0 1)) ∧ (¬ ((fM_in x1 0 10000) = 0) → kM_due_24 kM_due_24x 200 x1 0 0 (u2 μ 0 0 0)))
def fM_booked (x1 : Int32) (x2 : Int32) (μ : Nat → Nat → Int32) : Int32 × (Nat → Nat → Int32) := if (fM_isPlace x1 μ) = 0 then (0, (u2 μ 0 0 1)) else if (fM_isGood x2) = 0 then (0, (u2 μ 0 0 2)) else (μ 6 ((6 * x1) + x2).toNatClampNeg, (u2 μ 0 0 0))
def kM_booked (x1 : Int32) (x2 : Int32) (μ : Nat → Nat → Int32) : Prop := (kM_isPlace x1 μ) ∧ (((fM_isPlace x1 μ) = 0 → True) ∧ (¬ ((fM_isPlace x1 μ) = 0) → (kM_isGood x2) ∧ (((fM_isGood x2) = 0 → True) ∧ (¬ ((fM_isGood x2) = 0) → (vp_in ((6 * x1) + x2) 120) ∧ (True)))))
def fM_told (x1 : Int32) (x2 : Int32) (μ : Nat → Nat → Int32) : Int32 × (Nat → Nat → Int32) := if (fM_isCount x1 μ) = 0 then (0, (u2 μ 0 0 1)) else if x2 < 0 then (0, (u2 μ 0 0 2)) else if (fM_in x2 3 9) = 0 then if x2 = 0 then (μ 17 x1.toNatClampNeg, (u2 μ 0 0 0)) else if x2 = 1 then (μ 18 x1.toNatClampNeg, (u2 μ 0 0 0)) else if x2 = 2 then (μ 19 x1.toNatClampNeg, (u2 μ 0 0 0)) else if (μ 18 x1.toNatClampNeg) ≤ (x2 - 10) then ((-1), (u2 μ 0 0 0)) else (μ 20 (((20 * x1) + x2) - 10).toNatClampNeg, (u2 μ 0 0 0)) else (0, (u2 μ 0 0 2))
def kM_told (x1 : Int32) (x2 : Int32) (μ : Nat → Nat → Int32) : Prop := (kM_isCount x1 μ) ∧ (((fM_isCount x1 μ) = 0 → True) ∧ (¬ ((fM_isCount x1 μ) = 0) → (x2 < 0 → True) ∧ (¬ (x2 < 0) → (kM_in x2 3 9) ∧ (((fM_in x2 3 9) = 0 → (x2 = 0 → (vp_in x1 21) ∧ (True)) ∧ (¬ (x2 = 0) → (x2 = 1 → (vp_in x1 21) ∧ (True)) ∧ (¬ (x2 = 1) → (x2 = 2 → (vp_in x1 21) ∧ (True)) ∧ (¬ (x2 = 2) → (vp_in x1 21) ∧ (((μ 18 x1.toNatClampNeg) ≤ (x2 - 10) → True) ∧ (¬ ((μ 18 x1.toNatClampNeg) ≤ (x2 - 10)) → (vp_in (((20 * x1) + x2) - 10) 420) ∧ (True))))))) ∧ (¬ ((fM_in x2 3 9) = 0) → True)))))
def fM_count_48x  (x1 : Int32) (x2 : Int32) (x3 : Int32) (μ : Nat → Nat → Int32) : Int32 × (Nat → Nat → Int32) := if x1 = 4 then (x2, μ) else ((-1), μ)
def kM_count_48x  (x1 : Int32) (x2 : Int32) (x3 : Int32) (μ : Nat → Nat → Int32) : Prop := (x1 = 4 → True) ∧ (¬ (x1 = 4) → True)
def fM_count_48  (E48 : Int32 → Int32 → Int32 → (Nat → Nat → Int32) → (Int32 × (Nat → Nat → Int32))) : Nat → Int32 → Int32 → Int32 → (Nat → Nat → Int32) → (Int32 × (Nat → Nat → Int32))
  | 0, _, _, _, _ => (0, fun _ _ => 0)
  | n + 1, x1, x2, x3, μ => if (μ 10 0) < x3 then E48 x1 x2 x3 μ else if (μ 15 x3.toNatClampNeg) = 0 then (fM_count_48 E48 n) x1 (x2 + 1) (x3 + 1) μ else (fM_count_48 E48 n) x1 (x2 + 0) (x3 + 1) μ
def kM_count_48  (KE48 : Int32 → Int32 → Int32 → (Nat → Nat → Int32) → Prop) : Nat → Int32 → Int32 → Int32 → (Nat → Nat → Int32) → Prop
  | 0, _, _, _, _ => False
  | n + 1, x1, x2, x3, μ => ((μ 10 0) < x3 → KE48 x1 x2 x3 μ) ∧ (¬ ((μ 10 0) < x3) → (vp_in x3 61) ∧ (((μ 15 x3.toNatClampNeg) = 0 → (kM_count_48 KE48 n) x1 (x2 + 1) (x3 + 1) μ) ∧ (¬ ((μ 15 x3.toNatClampNeg) = 0) → (kM_count_48 KE48 n) x1 (x2 + 0) (x3 + 1) μ)))
def fM_count (x1 : Int32) (μ : Nat → Nat → Int32) : Int32 × (Nat → Nat → Int32) := if x1 = 0 then (μ 3 0, (u2 μ 0 0 0)) else if x1 = 1 then (μ 10 0, (u2 μ 0 0 0)) else if x1 = 2 then (μ 16 0, (u2 μ 0 0 0)) else if x1 = 3 then (μ 1 0, (u2 μ 0 0 0)) else fM_count_48 fM_count_48x 200 x1 0 1 (u2 μ 0 0 0)
def kM_count (x1 : Int32) (μ : Nat → Nat → Int32) : Prop := (x1 = 0 → True) ∧ (¬ (x1 = 0) → (x1 = 1 → True) ∧ (¬ (x1 = 1) → (x1 = 2 → True) ∧ (¬ (x1 = 2) → (x1 = 3 → True) ∧ (¬ (x1 = 3) → kM_count_48 kM_count_48x 200 x1 0 1 (u2 μ 0 0 0)))))
set_option maxHeartbeats 4000000 in
set_option maxRecDepth 100000 in
theorem cM_closePlace (l : Launch) (D : va_G) (tc : Nat → ClassId) (a : Nat → Nat) (Y : va_W) (sz : Nat) (x1 : Int32) (x2 : Int32) (μ : Nat → Nat → Int32) {F : Nat → Nat → Int32} (hok : kM_closePlace x1 x2 μ) (hF : fM_closePlace x1 x2 μ = F) : Met l y_M_closePlace (Cond.code y_M_closePlace b_M_closePlace 7 none :: gw) ({ frames := 2, cells := 0, slots := 0, locals := 42 } : Room) (va_Pc [.ref (a 0), .int x1, .int x2] (pW D tc (mo tc a μ ++ Y) sz)) (va_Qv (fun u => u = F) (fun u t => qW D tc (va_A (mo tc a μ ++ Y) sz) (mo tc a u ++ Y) t) (va_A (mo tc a μ ++ Y) sz)) 0 0 (va_A (mo tc a μ ++ Y) sz) := by
  refine en_W (by decide) (Nat.le_of_ble_eq_true rfl) ?_
  intro p e s m args below meth c ls h0 hr hlocks hin hsz hw hl
  obtain ⟨hx, hb, hml, hown, hts, hK⟩ := id h0
  have hA : ∀ q : Nat, s.heap.size ≤ q → (va_A (mo tc a μ ++ Y) sz) q := fun q h => Or.inr (by rw [← hsz]; exact h)
  generalize va_A (mo tc a μ ++ Y) sz = A at hw hA ⊢
  obtain ⟨H, eH⟩ : ∃ z, z = s.heap := ⟨_, rfl⟩
  obtain ⟨locs, eL⟩ : ∃ z : List Loc, z = [] := ⟨_, rfl⟩
  have hw : wH D A s.heap (mo tc a μ ++ Y) H locs := by rw [eH, eL]; exact hw
  show W p l e _ s m _ below meth c s.heap [] 0 0 _ _
  have gl : W p l e ({ frames := 2, cells := 0, slots := 0, locals := 42 } : Room) s m args below meth c H locs 0 0 (MQ below (va_Qv (fun u => u = F) (fun u t => qW D tc A (mo tc a u ++ Y) t) A) args s 0 0 A) (F0 m 0 ls []) := ?_
  · rw [eH, eL] at gl; exact gl
  have hl : lv_has ls 7 [(0, .ref (a 0)), (1, .int x1), (2, .int x2)] := hl
  unfold kM_closePlace at hok
  unfold fM_closePlace at hF
  refine lv_aload_n hx hb d_M_closePlace_0 rfl (lv_at hl 0 rfl) ?_
  refine lv_iload_n hx hb d_M_closePlace_1 rfl (lv_at hl 1 rfl) ?_
  refine lv_iload_n hx hb d_M_closePlace_2 rfl (lv_at hl 2 rfl) ?_
  obtain ⟨hi_1, hok⟩ := hok
  refine cv_p (n := 2) (C := "CountRoundsModel") (b := a 0) (q0 := 0) (ci := 4) (As := [.int x1, .int x2]) (rest := []) h0 hw (cM_isTold l D tc a Y H.size x1 x2 μ hi_1 rfl) (gd_V wd_821 wd_823 (gw_s 33 rfl rfl) wd_3 wd_824) (by decide +kernel) ⟨rfl, rfl, Nat.le_of_ble_eq_true rfl, Nat.le_of_ble_eq_true rfl, Nat.le_of_ble_eq_true rfl, Nat.le_of_ble_eq_true rfl⟩ rfl rfl rfl hl.1 rfl (Nat.le_of_ble_eq_true rfl) d_M_closePlace_3 ?_
  refine lv_if_ne (tgt := 10) hx hb d_M_closePlace_6 (by decide) (fun c_2 => ?_) (fun c_2 => ?_)
  · have hok := hok.2 c_2
    have hF := (if_neg c_2).symm.trans hF
    refine lv_aload_n hx hb d_M_closePlace_10 rfl (lv_at hl 0 rfl) ?_
    refine mg_20 h0 hw d_M_closePlace_11 ?_
    refine lv_bipush (v := 20) hx hb d_M_closePlace_14 (by decide) ?_
    refine lv_iload_n hx hb d_M_closePlace_16 rfl (lv_at hl 1 rfl) ?_
    refine lv_imul hx hb d_M_closePlace_17 ?_
    refine lv_iload_n hx hb d_M_closePlace_18 rfl (lv_at hl 2 rfl) ?_
    refine lv_iadd hx hb d_M_closePlace_19 ?_
    obtain ⟨hi_3, hok⟩ := hok
    refine ml_20 h0 hw hi_3 d_M_closePlace_20 ?_
    refine lv_istore_n (lv' := [(3, .int (μ 20 ((20 * x1) + x2).toNatClampNeg)), (0, .ref (a 0)), (1, .int x1), (2, .int x2)]) hx hb d_M_closePlace_21 rfl hl (by decide) rfl (fun ls hl => ?_)
    refine lv_iconst (v := 1) hx hb d_M_closePlace_22 (by decide) ?_
    refine lv_istore (lv' := [(4, .int 1), (3, .int (μ 20 ((20 * x1) + x2).toNatClampNeg)), (0, .ref (a 0)), (1, .int x1), (2, .int x2)]) hx hb d_M_closePlace_23 hl (by decide) rfl (fun ls hl => ?_)
    refine lv_iconst (v := 0) hx hb d_M_closePlace_25 (by decide) ?_
    refine lv_istore (lv' := [(5, .int 0), (4, .int 1), (3, .int (μ 20 ((20 * x1) + x2).toNatClampNeg)), (0, .ref (a 0)), (1, .int x1), (2, .int x2)]) hx hb d_M_closePlace_26 hl (by decide) rfl (fun ls hl => ?_)
    have hx_28 : ∀ (x1 : Int32) (x2 : Int32) (x3 : Int32) (x4 : Int32) (x5 : Int32) (μ : Nat → Nat → Int32) (H : Heap) (locs : List Loc) (ls : Array Slot), wH D A s.heap (mo tc a μ ++ Y) H locs → lv_has ls 7 [(0, .ref (a 0)), (1, .int x1), (2, .int x2), (3, .int x3), (4, .int x4), (5, .int x5)] → kM_closePlace_28x x1 x2 x3 x4 x5 μ → fM_closePlace_28x x1 x2 x3 x4 x5 μ = F → W p l e ({ frames := 2, cells := 0, slots := 0, locals := 42 } : Room) s m args below meth c H locs 0 0 (MQ below (va_Qv (fun u => u = F) (fun u t => qW D tc A (mo tc a u ++ Y) t) A) args s 0 0 A) (F0 m 97 ls []) := by
      intro x1 x2 x3 x4 x5 μ H locs ls hw hl hok hF
      unfold kM_closePlace_28x at hok
      unfold fM_closePlace_28x at hF
      refine lv_aload_n hx hb d_M_closePlace_97 rfl (lv_at hl 0 rfl) ?_
      refine mg_5 h0 hw d_M_closePlace_98 ?_
      refine lv_iload_n hx hb d_M_closePlace_101 rfl (lv_at hl 3 rfl) ?_
      refine lv_aload_n hx hb d_M_closePlace_102 rfl (lv_at hl 0 rfl) ?_
      refine mg_1 h0 hw d_M_closePlace_103 ?_
      obtain ⟨hi_4, hok⟩ := hok
      refine ms_5 h0 hw hi_4 d_M_closePlace_106 (fun H locs hw => ?_)
      refine lv_aload_n hx hb d_M_closePlace_107 rfl (lv_at hl 0 rfl) ?_
      refine lv_dup hx hb d_M_closePlace_108 rfl ?_
      refine mg_26 h0 hw d_M_closePlace_109 ?_
      refine W.eq (g2 := F0 m 112 ls [.int (μ 26 0), .ref (a 0)]) rfl ?_
      refine lv_iconst (v := 1) hx hb d_M_closePlace_112 (by decide) ?_
      refine lv_iadd hx hb d_M_closePlace_113 ?_
      refine mp_26 h0 hw d_M_closePlace_114 (fun H locs hw => ?_)
      refine lv_aload_n hx hb d_M_closePlace_117 rfl (lv_at hl 0 rfl) ?_
      refine lv_dup hx hb d_M_closePlace_118 rfl ?_
      refine mg_27 h0 hw d_M_closePlace_119 ?_
      refine W.eq (g2 := F0 m 122 ls [.int (μ 27 0), .ref (a 0)]) rfl ?_
      refine lv_iload hx hb d_M_closePlace_122 (lv_at hl 4 rfl) ?_
      refine lv_if_eq (tgt := 131) hx hb d_M_closePlace_124 (by decide) (fun c_5 => ?_) (fun c_5 => ?_)
      · have hok := hok.1 c_5
        have hF := (if_pos c_5).symm.trans hF
        refine lv_iconst (v := 0) hx hb d_M_closePlace_131 (by decide) ?_
        refine lv_iadd hx hb d_M_closePlace_132 ?_
        refine mp_27 h0 hw d_M_closePlace_133 (fun H locs hw => ?_)
        exact rt_v h0 hw hr hlocks (u2 (u2 (u2 μ 5 x3.toNatClampNeg (μ 1 0)) 26 0 ((μ 26 0) + 1)) 27 0 ((μ 27 0) + 0)) hF rfl d_M_closePlace_136 (Nat.le_refl 0) (Nat.le_refl 0)
      · have hok := hok.2 c_5
        have hF := (if_neg c_5).symm.trans hF
        refine lv_iconst (v := 1) hx hb d_M_closePlace_127 (by decide) ?_
        refine lv_goto (tgt := 132) hx hb d_M_closePlace_128 (by decide) ?_
        refine lv_iadd hx hb d_M_closePlace_132 ?_
        refine mp_27 h0 hw d_M_closePlace_133 (fun H locs hw => ?_)
        exact rt_v h0 hw hr hlocks (u2 (u2 (u2 μ 5 x3.toNatClampNeg (μ 1 0)) 26 0 ((μ 26 0) + 1)) 27 0 ((μ 27 0) + 1)) hF rfl d_M_closePlace_136 (Nat.le_refl 0) (Nat.le_refl 0)
    have lp_28 : ∀ (n28 : Nat) (x1 : Int32) (x2 : Int32) (x3 : Int32) (x4 : Int32) (x5 : Int32) (μ : Nat → Nat → Int32) (H : Heap) (locs : List Loc) (ls : Array Slot), wH D A s.heap (mo tc a μ ++ Y) H locs → lv_has ls 7 [(0, .ref (a 0)), (1, .int x1), (2, .int x2), (3, .int x3), (4, .int x4), (5, .int x5)] → kM_closePlace_28 kM_closePlace_28x n28 x1 x2 x3 x4 x5 μ → fM_closePlace_28 fM_closePlace_28x n28 x1 x2 x3 x4 x5 μ = F → W p l e ({ frames := 2, cells := 0, slots := 0, locals := 42 } : Room) s m args below meth c H locs 0 0 (MQ below (va_Qv (fun u => u = F) (fun u t => qW D tc A (mo tc a u ++ Y) t) A) args s 0 0 A) (F0 m 28 ls []) := by
      intro n28
      induction n28 with
      | zero =>
        intro x1 x2 x3 x4 x5 μ H locs ls hw hl hok hF
        unfold kM_closePlace_28 at hok
        exact hok.elim
      | succ n28 ih_28 =>
        intro x1 x2 x3 x4 x5 μ H locs ls hw hl hok hF
        unfold kM_closePlace_28 at hok
        unfold fM_closePlace_28 at hF
        refine lv_iload hx hb d_M_closePlace_28 (lv_at hl 5 rfl) ?_
        refine lv_bipush (v := 6) hx hb d_M_closePlace_30 (by decide) ?_
        refine lv_icmp_ge (tgt := 97) hx hb d_M_closePlace_32 (by decide) (fun c_6 => ?_) (fun c_6 => ?_)
        · have hok := hok.1 c_6
          have hF := (if_pos c_6).symm.trans hF
          exact hx_28 x1 x2 x3 x4 x5 μ H locs ls hw (lv_sub hl [0, 1, 2, 3, 4, 5] rfl) hok hF
        · have hok := hok.2 c_6
          have hF := (if_neg c_6).symm.trans hF
          refine lv_bipush (v := 120) hx hb d_M_closePlace_35 (by decide) ?_
          refine lv_iload_n hx hb d_M_closePlace_37 rfl (lv_at hl 1 rfl) ?_
          refine lv_imul hx hb d_M_closePlace_38 ?_
          refine lv_bipush (v := 6) hx hb d_M_closePlace_39 (by decide) ?_
          refine lv_iload_n hx hb d_M_closePlace_41 rfl (lv_at hl 2 rfl) ?_
          refine lv_imul hx hb d_M_closePlace_42 ?_
          refine lv_iadd hx hb d_M_closePlace_43 ?_
          refine lv_iload hx hb d_M_closePlace_44 (lv_at hl 5 rfl) ?_
          refine lv_iadd hx hb d_M_closePlace_46 ?_
          refine lv_istore (lv' := [(6, .int (((120 * x1) + (6 * x2)) + x5)), (0, .ref (a 0)), (1, .int x1), (2, .int x2), (3, .int x3), (4, .int x4), (5, .int x5)]) hx hb d_M_closePlace_47 hl (by decide) rfl (fun ls hl => ?_)
          refine lv_iload hx hb d_M_closePlace_49 (lv_at hl 5 rfl) ?_
          refine lv_if_eq (tgt := 88) hx hb d_M_closePlace_51 (by decide) (fun c_7 => ?_) (fun c_7 => ?_)
          · have hok := hok.1 c_7
            have hF := (if_pos c_7).symm.trans hF
            refine lv_iconst (v := 0) hx hb d_M_closePlace_88 (by decide) ?_
            refine lv_istore (lv' := [(4, .int 0), (6, .int (((120 * x1) + (6 * x2)) + x5)), (0, .ref (a 0)), (1, .int x1), (2, .int x2), (3, .int x3), (5, .int x5)]) hx hb d_M_closePlace_89 hl (by decide) rfl (fun ls hl => ?_)
            refine lv_iinc (v := x5 + 1) (lv' := [(5, .int (x5 + 1)), (4, .int 0), (6, .int (((120 * x1) + (6 * x2)) + x5)), (0, .ref (a 0)), (1, .int x1), (2, .int x2), (3, .int x3)]) hx hb d_M_closePlace_91 hl (k := 6) rfl rfl (by decide) rfl (fun ls hl => ?_)
            refine lv_goto (tgt := 28) hx hb d_M_closePlace_94 (by decide) ?_
            exact ih_28 x1 x2 x3 0 (x5 + 1) μ H locs ls hw (lv_sub hl [3, 4, 5, 6, 1, 0] rfl) hok hF
          · have hok := hok.2 c_7
            have hF := (if_neg c_7).symm.trans hF
            refine lv_aload_n hx hb d_M_closePlace_54 rfl (lv_at hl 1 rfl) ?_
            refine lv_iload hx hb d_M_closePlace_55 (lv_at hl 0 rfl) ?_
            obtain ⟨hi_8, hok⟩ := hok
            refine cv_p (n := 1) (C := "CountRoundsModel") (b := a 0) (q0 := 0) (ci := 4) (As := [.int (((120 * x1) + (6 * x2)) + x5)]) (rest := []) h0 hw (cM_counts l D tc a Y H.size (((120 * x1) + (6 * x2)) + x5) μ hi_8 rfl) (gd_V wd_825 wd_827 (gw_s 34 rfl rfl) wd_3 wd_828) (by decide +kernel) ⟨rfl, rfl, Nat.le_of_ble_eq_true rfl, Nat.le_of_ble_eq_true rfl, Nat.le_of_ble_eq_true rfl, Nat.le_of_ble_eq_true rfl⟩ rfl rfl rfl hl.1 rfl (Nat.le_of_ble_eq_true rfl) d_M_closePlace_57 ?_
            refine lv_aload_n hx hb d_M_closePlace_60 rfl (lv_at hl 1 rfl) ?_
            refine mg_21 h0 hw d_M_closePlace_61 ?_
            refine lv_iload hx hb d_M_closePlace_64 (lv_at hl 0 rfl) ?_
            obtain ⟨hi_9, hok⟩ := hok
            refine ml_21 h0 hw hi_9 d_M_closePlace_66 ?_
            obtain ⟨hi_10, hok⟩ := hok
            refine cs_p (n := 2) (As := [.int (fM_counts (((120 * x1) + (6 * x2)) + x5) μ), .int (μ 21 (((120 * x1) + (6 * x2)) + x5).toNatClampNeg)]) (rest := []) hx hb hml hown hts (cM_far l (fM_counts (((120 * x1) + (6 * x2)) + x5) μ) (μ 21 (((120 * x1) + (6 * x2)) + x5).toNatClampNeg) hi_10 rfl) (gd_S wd_810 wd_811 wd_3 wd_812) (by decide +kernel) ⟨rfl, rfl, Nat.le_of_ble_eq_true rfl, Nat.le_of_ble_eq_true rfl, Nat.le_of_ble_eq_true rfl, Nat.le_of_ble_eq_true rfl⟩ rfl hl.1 rfl (Nat.le_of_ble_eq_true rfl) d_M_closePlace_67 ?_
            refine lv_aload_n hx hb d_M_closePlace_70 rfl (lv_at hl 1 rfl) ?_
            refine mg_8 h0 hw d_M_closePlace_71 ?_
            refine lv_aload_n hx hb d_M_closePlace_74 rfl (lv_at hl 1 rfl) ?_
            refine mg_4 h0 hw d_M_closePlace_75 ?_
            refine lv_iload_n hx hb d_M_closePlace_78 rfl (lv_at hl 4 rfl) ?_
            obtain ⟨hi_11, hok⟩ := hok
            refine ml_4 h0 hw hi_11 d_M_closePlace_79 ?_
            obtain ⟨hi_12, hok⟩ := hok
            refine ml_8 h0 hw hi_12 d_M_closePlace_80 ?_
            refine lv_icmp_gt (tgt := 88) hx hb d_M_closePlace_81 (by decide) (fun c_13 => ?_) (fun c_13 => ?_)
            · have hok := hok.1 c_13
              have hF := (if_pos c_13).symm.trans hF
              refine lv_iconst (v := 0) hx hb d_M_closePlace_88 (by decide) ?_
              refine lv_istore (lv' := [(4, .int 0), (6, .int (((120 * x1) + (6 * x2)) + x5)), (0, .ref (a 0)), (1, .int x1), (2, .int x2), (3, .int x3), (5, .int x5)]) hx hb d_M_closePlace_89 hl (by decide) rfl (fun ls hl => ?_)
              refine lv_iinc (v := x5 + 1) (lv' := [(5, .int (x5 + 1)), (4, .int 0), (6, .int (((120 * x1) + (6 * x2)) + x5)), (0, .ref (a 0)), (1, .int x1), (2, .int x2), (3, .int x3)]) hx hb d_M_closePlace_91 hl (k := 6) rfl rfl (by decide) rfl (fun ls hl => ?_)
              refine lv_goto (tgt := 28) hx hb d_M_closePlace_94 (by decide) ?_
              exact ih_28 x1 x2 x3 0 (x5 + 1) μ H locs ls hw (lv_sub hl [3, 4, 5, 6, 1, 0] rfl) hok hF
            · have hok := hok.2 c_13
              have hF := (if_neg c_13).symm.trans hF
              refine lv_iconst (v := 1) hx hb d_M_closePlace_84 (by decide) ?_
              refine lv_goto (tgt := 89) hx hb d_M_closePlace_85 (by decide) ?_
              refine lv_istore (lv' := [(4, .int 1), (6, .int (((120 * x1) + (6 * x2)) + x5)), (0, .ref (a 0)), (1, .int x1), (2, .int x2), (3, .int x3), (5, .int x5)]) hx hb d_M_closePlace_89 hl (by decide) rfl (fun ls hl => ?_)
              refine lv_iinc (v := x5 + 1) (lv' := [(5, .int (x5 + 1)), (4, .int 1), (6, .int (((120 * x1) + (6 * x2)) + x5)), (0, .ref (a 0)), (1, .int x1), (2, .int x2), (3, .int x3)]) hx hb d_M_closePlace_91 hl (k := 6) rfl rfl (by decide) rfl (fun ls hl => ?_)
              refine lv_goto (tgt := 28) hx hb d_M_closePlace_94 (by decide) ?_
              exact ih_28 x1 x2 x3 1 (x5 + 1) μ H locs ls hw (lv_sub hl [3, 4, 5, 6, 1, 0] rfl) hok hF
    exact lp_28 200 x1 x2 (μ 20 ((20 * x1) + x2).toNatClampNeg) 1 0 μ H locs ls hw (lv_sub hl [3, 4, 5, 2, 1, 0] rfl) hok hF
  · have hok := hok.1 c_2
    have hF := (if_pos c_2).symm.trans hF
    exact rt_v h0 hw hr hlocks μ hF rfl d_M_closePlace_9 (Nat.le_refl 0) (Nat.le_refl 0)
set_option maxHeartbeats 4000000 in
set_option maxRecDepth 100000 in
theorem cM_place (l : Launch) (D : va_G) (tc : Nat → ClassId) (a : Nat → Nat) (Y : va_W) (sz : Nat) (x1 : Int32) (μ : Nat → Nat → Int32) {F : Int32 × (Nat → Nat → Int32)} (hok : kM_place x1 μ) (hF : fM_place x1 μ = F) : Met l y_M_place (Cond.code y_M_place b_M_place 2 (some .int) :: gw) ({ frames := 1, cells := 0, slots := 0, locals := 22 } : Room) (va_Pc [.ref (a 0), .int x1] (pW D tc (mo tc a μ ++ Y) sz)) (va_Qi (fun r u => (r, u) = F) (fun u t => qW D tc (va_A (mo tc a μ ++ Y) sz) (mo tc a u ++ Y) t) (va_A (mo tc a μ ++ Y) sz)) 0 0 (va_A (mo tc a μ ++ Y) sz) := by
  refine en_W (by decide) (Nat.le_of_ble_eq_true rfl) ?_
  intro p e s m args below meth c ls h0 hr hlocks hin hsz hw hl
  obtain ⟨hx, hb, hml, hown, hts, hK⟩ := id h0
  have hA : ∀ q : Nat, s.heap.size ≤ q → (va_A (mo tc a μ ++ Y) sz) q := fun q h => Or.inr (by rw [← hsz]; exact h)
  generalize va_A (mo tc a μ ++ Y) sz = A at hw hA ⊢
  obtain ⟨H, eH⟩ : ∃ z, z = s.heap := ⟨_, rfl⟩
  obtain ⟨locs, eL⟩ : ∃ z : List Loc, z = [] := ⟨_, rfl⟩
  have hw : wH D A s.heap (mo tc a μ ++ Y) H locs := by rw [eH, eL]; exact hw
  show W p l e _ s m _ below meth c s.heap [] 0 0 _ _
  have gl : W p l e ({ frames := 1, cells := 0, slots := 0, locals := 22 } : Room) s m args below meth c H locs 0 0 (MQ below (va_Qi (fun r u => (r, u) = F) (fun u t => qW D tc A (mo tc a u ++ Y) t) A) args s 0 0 A) (F0 m 0 ls []) := ?_
  · rw [eH, eL] at gl; exact gl
  have hl : lv_has ls 2 [(0, .ref (a 0)), (1, .int x1)] := hl
  unfold kM_place at hok
  unfold fM_place at hF
  refine lv_aload_n hx hb d_M_place_0 rfl (lv_at hl 0 rfl) ?_
  refine lv_iload_n hx hb d_M_place_1 rfl (lv_at hl 1 rfl) ?_
  refine lv_iconst (v := 0) hx hb d_M_place_2 (by decide) ?_
  refine lv_iconst (v := 2) hx hb d_M_place_3 (by decide) ?_
  obtain ⟨hi_1, hok⟩ := hok
  refine cs_p (n := 3) (As := [.int x1, .int 0, .int 2]) (rest := [.ref (a 0)]) hx hb hml hown hts (cM_in l x1 0 2 hi_1 rfl) (gd_S wd_710 wd_711 wd_3 wd_712) (by decide +kernel) ⟨rfl, rfl, Nat.le_of_ble_eq_true rfl, Nat.le_of_ble_eq_true rfl, Nat.le_of_ble_eq_true rfl, Nat.le_of_ble_eq_true rfl⟩ rfl hl.1 rfl (Nat.le_of_ble_eq_true rfl) d_M_place_4 ?_
  refine lv_if_ne (tgt := 14) hx hb d_M_place_7 (by decide) (fun c_2 => ?_) (fun c_2 => ?_)
  · have hok := hok.2 c_2
    have hF := (if_neg c_2).symm.trans hF
    refine lv_aload_n hx hb d_M_place_14 rfl (lv_at hl 0 rfl) ?_
    refine mg_3 h0 hw d_M_place_15 ?_
    refine lv_bipush (v := 20) hx hb d_M_place_18 (by decide) ?_
    refine lv_icmp_ne (tgt := 27) hx hb d_M_place_20 (by decide) (fun c_3 => ?_) (fun c_3 => ?_)
    · have hok := hok.2 c_3
      have hF := (if_neg c_3).symm.trans hF
      refine lv_iconst (v := 0) hx hb d_M_place_27 (by decide) ?_
      refine mp_0 h0 hw d_M_place_28 (fun H locs hw => ?_)
      refine lv_aload_n hx hb d_M_place_31 rfl (lv_at hl 0 rfl) ?_
      refine mg_0 h0 hw d_M_place_32 ?_
      refine W.eq (g2 := F0 m 35 ls [.int 0]) rfl ?_
      refine lv_if_le (tgt := 40) hx hb d_M_place_35 (by decide) (fun _ => ?_) (fun c_0 => absurd c_0 (by decide))
      refine lv_aload_n hx hb d_M_place_40 rfl (lv_at hl 0 rfl) ?_
      refine mg_4 h0 hw d_M_place_41 ?_
      refine lv_aload_n hx hb d_M_place_44 rfl (lv_at hl 0 rfl) ?_
      refine mg_3 h0 hw d_M_place_45 ?_
      refine W.eq (g2 := F0 m 48 ls [.int (μ 3 0), .ref (a 4)]) rfl ?_
      refine lv_iload_n hx hb d_M_place_48 rfl (lv_at hl 1 rfl) ?_
      obtain ⟨hi_4, hok⟩ := hok
      refine ms_4 h0 hw hi_4 d_M_place_49 (fun H locs hw => ?_)
      refine lv_aload_n hx hb d_M_place_50 rfl (lv_at hl 0 rfl) ?_
      refine mg_5 h0 hw d_M_place_51 ?_
      refine lv_aload_n hx hb d_M_place_54 rfl (lv_at hl 0 rfl) ?_
      refine mg_3 h0 hw d_M_place_55 ?_
      refine W.eq (g2 := F0 m 58 ls [.int (μ 3 0), .ref (a 5)]) rfl ?_
      refine lv_iconst (v := (-1)) hx hb d_M_place_58 (by decide) ?_
      obtain ⟨hi_5, hok⟩ := hok
      refine ms_5 h0 hw hi_5 d_M_place_59 (fun H locs hw => ?_)
      refine lv_aload_n hx hb d_M_place_60 rfl (lv_at hl 0 rfl) ?_
      refine lv_dup hx hb d_M_place_61 rfl ?_
      refine mg_3 h0 hw d_M_place_62 ?_
      refine W.eq (g2 := F0 m 65 ls [.int (μ 3 0), .ref (a 0)]) rfl ?_
      refine lv_iconst (v := 1) hx hb d_M_place_65 (by decide) ?_
      refine lv_iadd hx hb d_M_place_66 ?_
      refine mp_3 h0 hw d_M_place_67 (fun H locs hw => ?_)
      refine lv_aload_n hx hb d_M_place_70 rfl (lv_at hl 0 rfl) ?_
      refine mg_3 h0 hw d_M_place_71 ?_
      refine W.eq (g2 := F0 m 74 ls [.int ((μ 3 0) + 1)]) rfl ?_
      refine lv_iconst (v := 1) hx hb d_M_place_74 (by decide) ?_
      refine lv_isub hx hb d_M_place_75 ?_
      exact rt_i h0 hw hr hlocks rfl (u2 (u2 (u2 (u2 μ 0 0 0) 4 (μ 3 0).toNatClampNeg x1) 5 (μ 3 0).toNatClampNeg (-1)) 3 0 ((μ 3 0) + 1)) hF rfl d_M_place_76 (Nat.le_refl 0) (Nat.le_refl 0)
    · have hok := hok.1 c_3
      have hF := (if_pos c_3).symm.trans hF
      refine lv_iconst (v := 2) hx hb d_M_place_23 (by decide) ?_
      refine lv_goto (tgt := 28) hx hb d_M_place_24 (by decide) ?_
      refine mp_0 h0 hw d_M_place_28 (fun H locs hw => ?_)
      refine lv_aload_n hx hb d_M_place_31 rfl (lv_at hl 0 rfl) ?_
      refine mg_0 h0 hw d_M_place_32 ?_
      refine W.eq (g2 := F0 m 35 ls [.int 2]) rfl ?_
      refine lv_if_le (tgt := 40) hx hb d_M_place_35 (by decide) (fun c_0 => absurd c_0 (by decide)) (fun _ => ?_)
      refine lv_iconst (v := 0) hx hb d_M_place_38 (by decide) ?_
      exact rt_i h0 hw hr hlocks rfl (u2 μ 0 0 2) hF rfl d_M_place_39 (Nat.le_refl 0) (Nat.le_refl 0)
  · have hok := hok.1 c_2
    have hF := (if_pos c_2).symm.trans hF
    refine lv_iconst (v := 1) hx hb d_M_place_10 (by decide) ?_
    refine lv_goto (tgt := 28) hx hb d_M_place_11 (by decide) ?_
    refine mp_0 h0 hw d_M_place_28 (fun H locs hw => ?_)
    refine lv_aload_n hx hb d_M_place_31 rfl (lv_at hl 0 rfl) ?_
    refine mg_0 h0 hw d_M_place_32 ?_
    refine W.eq (g2 := F0 m 35 ls [.int 1]) rfl ?_
    refine lv_if_le (tgt := 40) hx hb d_M_place_35 (by decide) (fun c_0 => absurd c_0 (by decide)) (fun _ => ?_)
    refine lv_iconst (v := 0) hx hb d_M_place_38 (by decide) ?_
    exact rt_i h0 hw hr hlocks rfl (u2 μ 0 0 1) hF rfl d_M_place_39 (Nat.le_refl 0) (Nat.le_refl 0)
set_option maxHeartbeats 4000000 in
set_option maxRecDepth 100000 in
theorem cM_stock (l : Launch) (D : va_G) (tc : Nat → ClassId) (a : Nat → Nat) (Y : va_W) (sz : Nat) (x1 : Int32) (x2 : Int32) (x3 : Int32) (μ : Nat → Nat → Int32) {F : Nat → Nat → Int32} (hok : kM_stock x1 x2 x3 μ) (hF : fM_stock x1 x2 x3 μ = F) : Met l y_M_stock (Cond.code y_M_stock b_M_stock 4 none :: gw) ({ frames := 2, cells := 0, slots := 0, locals := 43 } : Room) (va_Pc [.ref (a 0), .int x1, .int x2, .int x3] (pW D tc (mo tc a μ ++ Y) sz)) (va_Qv (fun u => u = F) (fun u t => qW D tc (va_A (mo tc a μ ++ Y) sz) (mo tc a u ++ Y) t) (va_A (mo tc a μ ++ Y) sz)) 0 0 (va_A (mo tc a μ ++ Y) sz) := by
  refine en_W (by decide) (Nat.le_of_ble_eq_true rfl) ?_
  intro p e s m args below meth c ls h0 hr hlocks hin hsz hw hl
  obtain ⟨hx, hb, hml, hown, hts, hK⟩ := id h0
  have hA : ∀ q : Nat, s.heap.size ≤ q → (va_A (mo tc a μ ++ Y) sz) q := fun q h => Or.inr (by rw [← hsz]; exact h)
  generalize va_A (mo tc a μ ++ Y) sz = A at hw hA ⊢
  obtain ⟨H, eH⟩ : ∃ z, z = s.heap := ⟨_, rfl⟩
  obtain ⟨locs, eL⟩ : ∃ z : List Loc, z = [] := ⟨_, rfl⟩
  have hw : wH D A s.heap (mo tc a μ ++ Y) H locs := by rw [eH, eL]; exact hw
  show W p l e _ s m _ below meth c s.heap [] 0 0 _ _
  have gl : W p l e ({ frames := 2, cells := 0, slots := 0, locals := 43 } : Room) s m args below meth c H locs 0 0 (MQ below (va_Qv (fun u => u = F) (fun u t => qW D tc A (mo tc a u ++ Y) t) A) args s 0 0 A) (F0 m 0 ls []) := ?_
  · rw [eH, eL] at gl; exact gl
  have hl : lv_has ls 4 [(0, .ref (a 0)), (1, .int x1), (2, .int x2), (3, .int x3)] := hl
  unfold kM_stock at hok
  unfold fM_stock at hF
  refine lv_aload_n hx hb d_M_stock_0 rfl (lv_at hl 0 rfl) ?_
  refine lv_aload_n hx hb d_M_stock_1 rfl (lv_at hl 0 rfl) ?_
  refine lv_iload_n hx hb d_M_stock_2 rfl (lv_at hl 1 rfl) ?_
  obtain ⟨hi_1, hok⟩ := hok
  refine cv_p (n := 1) (C := "CountRoundsModel") (b := a 0) (q0 := 0) (ci := 4) (As := [.int x1]) (rest := [.ref (a 0)]) h0 hw (cM_isPlace l D tc a Y H.size x1 μ hi_1 rfl) (gd_V wd_717 wd_719 (gw_s 22 rfl rfl) wd_3 wd_720) (by decide +kernel) ⟨rfl, rfl, Nat.le_of_ble_eq_true rfl, Nat.le_of_ble_eq_true rfl, Nat.le_of_ble_eq_true rfl, Nat.le_of_ble_eq_true rfl⟩ rfl rfl rfl hl.1 rfl (Nat.le_of_ble_eq_true rfl) d_M_stock_3 ?_
  refine lv_if_ne (tgt := 13) hx hb d_M_stock_6 (by decide) (fun c_2 => ?_) (fun c_2 => ?_)
  · have hok := hok.2 c_2
    have hF := (if_neg c_2).symm.trans hF
    refine lv_iload_n hx hb d_M_stock_13 rfl (lv_at hl 2 rfl) ?_
    obtain ⟨hi_3, hok⟩ := hok
    refine cs_p (n := 1) (As := [.int x2]) (rest := [.ref (a 0)]) hx hb hml hown hts (cM_isGood l x2 hi_3 rfl) (gd_S wd_721 wd_722 wd_3 wd_723) (by decide +kernel) ⟨rfl, rfl, Nat.le_of_ble_eq_true rfl, Nat.le_of_ble_eq_true rfl, Nat.le_of_ble_eq_true rfl, Nat.le_of_ble_eq_true rfl⟩ rfl hl.1 rfl (Nat.le_of_ble_eq_true rfl) d_M_stock_14 ?_
    refine lv_if_eq (tgt := 30) hx hb d_M_stock_17 (by decide) (fun c_4 => ?_) (fun c_4 => ?_)
    · have hok := hok.1 c_4
      have hF := (if_pos c_4).symm.trans hF
      refine lv_iconst (v := 2) hx hb d_M_stock_30 (by decide) ?_
      refine lv_goto (tgt := 35) hx hb d_M_stock_31 (by decide) ?_
      refine mp_0 h0 hw d_M_stock_35 (fun H locs hw => ?_)
      refine lv_aload_n hx hb d_M_stock_38 rfl (lv_at hl 0 rfl) ?_
      refine mg_0 h0 hw d_M_stock_39 ?_
      refine W.eq (g2 := F0 m 42 ls [.int 2]) rfl ?_
      refine lv_if_ne (tgt := 57) hx hb d_M_stock_42 (by decide) (fun _ => ?_) (fun c_0 => absurd c_0 (by decide))
      exact rt_v h0 hw hr hlocks (u2 μ 0 0 2) hF rfl d_M_stock_57 (Nat.le_refl 0) (Nat.le_refl 0)
    · have hok := hok.2 c_4
      have hF := (if_neg c_4).symm.trans hF
      refine lv_iload_n hx hb d_M_stock_20 rfl (lv_at hl 3 rfl) ?_
      refine lv_iconst (v := 0) hx hb d_M_stock_21 (by decide) ?_
      refine lv_ldc hx hb hown (hts _ wd_724) d_M_stock_22 ?_
      obtain ⟨hi_5, hok⟩ := hok
      refine cs_p (n := 3) (As := [.int x3, .int 0, .int 1000000]) (rest := [.ref (a 0)]) hx hb hml hown hts (cM_in l x3 0 1000000 hi_5 rfl) (gd_S wd_710 wd_711 wd_3 wd_712) (by decide +kernel) ⟨rfl, rfl, Nat.le_of_ble_eq_true rfl, Nat.le_of_ble_eq_true rfl, Nat.le_of_ble_eq_true rfl, Nat.le_of_ble_eq_true rfl⟩ rfl hl.1 rfl (Nat.le_of_ble_eq_true rfl) d_M_stock_24 ?_
      refine lv_if_ne (tgt := 34) hx hb d_M_stock_27 (by decide) (fun c_6 => ?_) (fun c_6 => ?_)
      · have hok := hok.2 c_6
        have hF := (if_neg c_6).symm.trans hF
        refine lv_iconst (v := 0) hx hb d_M_stock_34 (by decide) ?_
        refine mp_0 h0 hw d_M_stock_35 (fun H locs hw => ?_)
        refine lv_aload_n hx hb d_M_stock_38 rfl (lv_at hl 0 rfl) ?_
        refine mg_0 h0 hw d_M_stock_39 ?_
        refine W.eq (g2 := F0 m 42 ls [.int 0]) rfl ?_
        refine lv_if_ne (tgt := 57) hx hb d_M_stock_42 (by decide) (fun c_0 => absurd c_0 (by decide)) (fun _ => ?_)
        refine lv_aload_n hx hb d_M_stock_45 rfl (lv_at hl 0 rfl) ?_
        refine mg_6 h0 hw d_M_stock_46 ?_
        refine lv_bipush (v := 6) hx hb d_M_stock_49 (by decide) ?_
        refine lv_iload_n hx hb d_M_stock_51 rfl (lv_at hl 1 rfl) ?_
        refine lv_imul hx hb d_M_stock_52 ?_
        refine lv_iload_n hx hb d_M_stock_53 rfl (lv_at hl 2 rfl) ?_
        refine lv_iadd hx hb d_M_stock_54 ?_
        refine lv_iload_n hx hb d_M_stock_55 rfl (lv_at hl 3 rfl) ?_
        obtain ⟨hi_7, hok⟩ := hok
        refine ms_6 h0 hw hi_7 d_M_stock_56 (fun H locs hw => ?_)
        exact rt_v h0 hw hr hlocks (u2 (u2 μ 0 0 0) 6 ((6 * x1) + x2).toNatClampNeg x3) hF rfl d_M_stock_57 (Nat.le_refl 0) (Nat.le_refl 0)
      · have hok := hok.1 c_6
        have hF := (if_pos c_6).symm.trans hF
        refine lv_iconst (v := 2) hx hb d_M_stock_30 (by decide) ?_
        refine lv_goto (tgt := 35) hx hb d_M_stock_31 (by decide) ?_
        refine mp_0 h0 hw d_M_stock_35 (fun H locs hw => ?_)
        refine lv_aload_n hx hb d_M_stock_38 rfl (lv_at hl 0 rfl) ?_
        refine mg_0 h0 hw d_M_stock_39 ?_
        refine W.eq (g2 := F0 m 42 ls [.int 2]) rfl ?_
        refine lv_if_ne (tgt := 57) hx hb d_M_stock_42 (by decide) (fun _ => ?_) (fun c_0 => absurd c_0 (by decide))
        exact rt_v h0 hw hr hlocks (u2 μ 0 0 2) hF rfl d_M_stock_57 (Nat.le_refl 0) (Nat.le_refl 0)
  · have hok := hok.1 c_2
    have hF := (if_pos c_2).symm.trans hF
    refine lv_iconst (v := 1) hx hb d_M_stock_9 (by decide) ?_
    refine lv_goto (tgt := 35) hx hb d_M_stock_10 (by decide) ?_
    refine mp_0 h0 hw d_M_stock_35 (fun H locs hw => ?_)
    refine lv_aload_n hx hb d_M_stock_38 rfl (lv_at hl 0 rfl) ?_
    refine mg_0 h0 hw d_M_stock_39 ?_
    refine W.eq (g2 := F0 m 42 ls [.int 1]) rfl ?_
    refine lv_if_ne (tgt := 57) hx hb d_M_stock_42 (by decide) (fun _ => ?_) (fun c_0 => absurd c_0 (by decide))
    exact rt_v h0 hw hr hlocks (u2 μ 0 0 1) hF rfl d_M_stock_57 (Nat.le_refl 0) (Nat.le_refl 0)
set_option maxHeartbeats 4000000 in
set_option maxRecDepth 100000 in
theorem cM_cycle (l : Launch) (D : va_G) (tc : Nat → ClassId) (a : Nat → Nat) (Y : va_W) (sz : Nat) (x1 : Int32) (x2 : Int32) (x3 : Int32) (μ : Nat → Nat → Int32) {F : Nat → Nat → Int32} (hok : kM_cycle x1 x2 x3 μ) (hF : fM_cycle x1 x2 x3 μ = F) : Met l y_M_cycle (Cond.code y_M_cycle b_M_cycle 4 none :: gw) ({ frames := 1, cells := 0, slots := 0, locals := 22 } : Room) (va_Pc [.ref (a 0), .int x1, .int x2, .int x3] (pW D tc (mo tc a μ ++ Y) sz)) (va_Qv (fun u => u = F) (fun u t => qW D tc (va_A (mo tc a μ ++ Y) sz) (mo tc a u ++ Y) t) (va_A (mo tc a μ ++ Y) sz)) 0 0 (va_A (mo tc a μ ++ Y) sz) := by
  refine en_W (by decide) (Nat.le_of_ble_eq_true rfl) ?_
  intro p e s m args below meth c ls h0 hr hlocks hin hsz hw hl
  obtain ⟨hx, hb, hml, hown, hts, hK⟩ := id h0
  have hA : ∀ q : Nat, s.heap.size ≤ q → (va_A (mo tc a μ ++ Y) sz) q := fun q h => Or.inr (by rw [← hsz]; exact h)
  generalize va_A (mo tc a μ ++ Y) sz = A at hw hA ⊢
  obtain ⟨H, eH⟩ : ∃ z, z = s.heap := ⟨_, rfl⟩
  obtain ⟨locs, eL⟩ : ∃ z : List Loc, z = [] := ⟨_, rfl⟩
  have hw : wH D A s.heap (mo tc a μ ++ Y) H locs := by rw [eH, eL]; exact hw
  show W p l e _ s m _ below meth c s.heap [] 0 0 _ _
  have gl : W p l e ({ frames := 1, cells := 0, slots := 0, locals := 22 } : Room) s m args below meth c H locs 0 0 (MQ below (va_Qv (fun u => u = F) (fun u t => qW D tc A (mo tc a u ++ Y) t) A) args s 0 0 A) (F0 m 0 ls []) := ?_
  · rw [eH, eL] at gl; exact gl
  have hl : lv_has ls 4 [(0, .ref (a 0)), (1, .int x1), (2, .int x2), (3, .int x3)] := hl
  unfold kM_cycle at hok
  unfold fM_cycle at hF
  refine lv_aload_n hx hb d_M_cycle_0 rfl (lv_at hl 0 rfl) ?_
  refine lv_iload_n hx hb d_M_cycle_1 rfl (lv_at hl 1 rfl) ?_
  refine lv_iconst (v := 0) hx hb d_M_cycle_2 (by decide) ?_
  refine lv_iconst (v := 2) hx hb d_M_cycle_3 (by decide) ?_
  obtain ⟨hi_1, hok⟩ := hok
  refine cs_p (n := 3) (As := [.int x1, .int 0, .int 2]) (rest := [.ref (a 0)]) hx hb hml hown hts (cM_in l x1 0 2 hi_1 rfl) (gd_S wd_710 wd_711 wd_3 wd_712) (by decide +kernel) ⟨rfl, rfl, Nat.le_of_ble_eq_true rfl, Nat.le_of_ble_eq_true rfl, Nat.le_of_ble_eq_true rfl, Nat.le_of_ble_eq_true rfl⟩ rfl hl.1 rfl (Nat.le_of_ble_eq_true rfl) d_M_cycle_4 ?_
  refine lv_if_eq (tgt := 32) hx hb d_M_cycle_7 (by decide) (fun c_2 => ?_) (fun c_2 => ?_)
  · have hok := hok.1 c_2
    have hF := (if_pos c_2).symm.trans hF
    refine lv_iconst (v := 1) hx hb d_M_cycle_32 (by decide) ?_
    refine lv_goto (tgt := 37) hx hb d_M_cycle_33 (by decide) ?_
    refine mp_0 h0 hw d_M_cycle_37 (fun H locs hw => ?_)
    refine lv_aload_n hx hb d_M_cycle_40 rfl (lv_at hl 0 rfl) ?_
    refine mg_0 h0 hw d_M_cycle_41 ?_
    refine W.eq (g2 := F0 m 44 ls [.int 1]) rfl ?_
    refine lv_if_le (tgt := 48) hx hb d_M_cycle_44 (by decide) (fun c_0 => absurd c_0 (by decide)) (fun _ => ?_)
    exact rt_v h0 hw hr hlocks (u2 μ 0 0 1) hF rfl d_M_cycle_47 (Nat.le_refl 0) (Nat.le_refl 0)
  · have hok := hok.2 c_2
    have hF := (if_neg c_2).symm.trans hF
    refine lv_iload_n hx hb d_M_cycle_10 rfl (lv_at hl 2 rfl) ?_
    refine lv_iconst (v := 1) hx hb d_M_cycle_11 (by decide) ?_
    refine lv_sipush (v := 1000) hx hb d_M_cycle_12 (by decide) ?_
    obtain ⟨hi_3, hok⟩ := hok
    refine cs_p (n := 3) (As := [.int x2, .int 1, .int 1000]) (rest := [.ref (a 0)]) hx hb hml hown hts (cM_in l x2 1 1000 hi_3 rfl) (gd_S wd_710 wd_711 wd_3 wd_712) (by decide +kernel) ⟨rfl, rfl, Nat.le_of_ble_eq_true rfl, Nat.le_of_ble_eq_true rfl, Nat.le_of_ble_eq_true rfl, Nat.le_of_ble_eq_true rfl⟩ rfl hl.1 rfl (Nat.le_of_ble_eq_true rfl) d_M_cycle_15 ?_
    refine lv_if_eq (tgt := 32) hx hb d_M_cycle_18 (by decide) (fun c_4 => ?_) (fun c_4 => ?_)
    · have hok := hok.1 c_4
      have hF := (if_pos c_4).symm.trans hF
      refine lv_iconst (v := 1) hx hb d_M_cycle_32 (by decide) ?_
      refine lv_goto (tgt := 37) hx hb d_M_cycle_33 (by decide) ?_
      refine mp_0 h0 hw d_M_cycle_37 (fun H locs hw => ?_)
      refine lv_aload_n hx hb d_M_cycle_40 rfl (lv_at hl 0 rfl) ?_
      refine mg_0 h0 hw d_M_cycle_41 ?_
      refine W.eq (g2 := F0 m 44 ls [.int 1]) rfl ?_
      refine lv_if_le (tgt := 48) hx hb d_M_cycle_44 (by decide) (fun c_0 => absurd c_0 (by decide)) (fun _ => ?_)
      exact rt_v h0 hw hr hlocks (u2 μ 0 0 1) hF rfl d_M_cycle_47 (Nat.le_refl 0) (Nat.le_refl 0)
    · have hok := hok.2 c_4
      have hF := (if_neg c_4).symm.trans hF
      refine lv_iload_n hx hb d_M_cycle_21 rfl (lv_at hl 3 rfl) ?_
      refine lv_iconst (v := 0) hx hb d_M_cycle_22 (by decide) ?_
      refine lv_sipush (v := 1000) hx hb d_M_cycle_23 (by decide) ?_
      obtain ⟨hi_5, hok⟩ := hok
      refine cs_p (n := 3) (As := [.int x3, .int 0, .int 1000]) (rest := [.ref (a 0)]) hx hb hml hown hts (cM_in l x3 0 1000 hi_5 rfl) (gd_S wd_710 wd_711 wd_3 wd_712) (by decide +kernel) ⟨rfl, rfl, Nat.le_of_ble_eq_true rfl, Nat.le_of_ble_eq_true rfl, Nat.le_of_ble_eq_true rfl, Nat.le_of_ble_eq_true rfl⟩ rfl hl.1 rfl (Nat.le_of_ble_eq_true rfl) d_M_cycle_26 ?_
      refine lv_if_ne (tgt := 36) hx hb d_M_cycle_29 (by decide) (fun c_6 => ?_) (fun c_6 => ?_)
      · have hok := hok.2 c_6
        have hF := (if_neg c_6).symm.trans hF
        refine lv_iconst (v := 0) hx hb d_M_cycle_36 (by decide) ?_
        refine mp_0 h0 hw d_M_cycle_37 (fun H locs hw => ?_)
        refine lv_aload_n hx hb d_M_cycle_40 rfl (lv_at hl 0 rfl) ?_
        refine mg_0 h0 hw d_M_cycle_41 ?_
        refine W.eq (g2 := F0 m 44 ls [.int 0]) rfl ?_
        refine lv_if_le (tgt := 48) hx hb d_M_cycle_44 (by decide) (fun _ => ?_) (fun c_0 => absurd c_0 (by decide))
        refine lv_aload_n hx hb d_M_cycle_48 rfl (lv_at hl 0 rfl) ?_
        refine mg_7 h0 hw d_M_cycle_49 ?_
        refine lv_iload_n hx hb d_M_cycle_52 rfl (lv_at hl 1 rfl) ?_
        refine lv_iload_n hx hb d_M_cycle_53 rfl (lv_at hl 2 rfl) ?_
        obtain ⟨hi_7, hok⟩ := hok
        refine ms_7 h0 hw hi_7 d_M_cycle_54 (fun H locs hw => ?_)
        refine lv_aload_n hx hb d_M_cycle_55 rfl (lv_at hl 0 rfl) ?_
        refine mg_8 h0 hw d_M_cycle_56 ?_
        refine lv_iload_n hx hb d_M_cycle_59 rfl (lv_at hl 1 rfl) ?_
        refine lv_iload_n hx hb d_M_cycle_60 rfl (lv_at hl 3 rfl) ?_
        obtain ⟨hi_8, hok⟩ := hok
        refine ms_8 h0 hw hi_8 d_M_cycle_61 (fun H locs hw => ?_)
        exact rt_v h0 hw hr hlocks (u2 (u2 (u2 μ 0 0 0) 7 x1.toNatClampNeg x2) 8 x1.toNatClampNeg x3) hF rfl d_M_cycle_62 (Nat.le_refl 0) (Nat.le_refl 0)
      · have hok := hok.1 c_6
        have hF := (if_pos c_6).symm.trans hF
        refine lv_iconst (v := 1) hx hb d_M_cycle_32 (by decide) ?_
        refine lv_goto (tgt := 37) hx hb d_M_cycle_33 (by decide) ?_
        refine mp_0 h0 hw d_M_cycle_37 (fun H locs hw => ?_)
        refine lv_aload_n hx hb d_M_cycle_40 rfl (lv_at hl 0 rfl) ?_
        refine mg_0 h0 hw d_M_cycle_41 ?_
        refine W.eq (g2 := F0 m 44 ls [.int 1]) rfl ?_
        refine lv_if_le (tgt := 48) hx hb d_M_cycle_44 (by decide) (fun c_0 => absurd c_0 (by decide)) (fun _ => ?_)
        exact rt_v h0 hw hr hlocks (u2 μ 0 0 1) hF rfl d_M_cycle_47 (Nat.le_refl 0) (Nat.le_refl 0)
set_option maxHeartbeats 4000000 in
set_option maxRecDepth 100000 in
theorem cM_right (l : Launch) (D : va_G) (tc : Nat → ClassId) (a : Nat → Nat) (Y : va_W) (sz : Nat) (x1 : Int32) (x2 : Int32) (μ : Nat → Nat → Int32) {F : Nat → Nat → Int32} (hok : kM_right x1 x2 μ) (hF : fM_right x1 x2 μ = F) : Met l y_M_right (Cond.code y_M_right b_M_right 3 none :: gw) ({ frames := 2, cells := 0, slots := 0, locals := 42 } : Room) (va_Pc [.ref (a 0), .int x1, .int x2] (pW D tc (mo tc a μ ++ Y) sz)) (va_Qv (fun u => u = F) (fun u t => qW D tc (va_A (mo tc a μ ++ Y) sz) (mo tc a u ++ Y) t) (va_A (mo tc a μ ++ Y) sz)) 0 0 (va_A (mo tc a μ ++ Y) sz) := by
  refine en_W (by decide) (Nat.le_of_ble_eq_true rfl) ?_
  intro p e s m args below meth c ls h0 hr hlocks hin hsz hw hl
  obtain ⟨hx, hb, hml, hown, hts, hK⟩ := id h0
  have hA : ∀ q : Nat, s.heap.size ≤ q → (va_A (mo tc a μ ++ Y) sz) q := fun q h => Or.inr (by rw [← hsz]; exact h)
  generalize va_A (mo tc a μ ++ Y) sz = A at hw hA ⊢
  obtain ⟨H, eH⟩ : ∃ z, z = s.heap := ⟨_, rfl⟩
  obtain ⟨locs, eL⟩ : ∃ z : List Loc, z = [] := ⟨_, rfl⟩
  have hw : wH D A s.heap (mo tc a μ ++ Y) H locs := by rw [eH, eL]; exact hw
  show W p l e _ s m _ below meth c s.heap [] 0 0 _ _
  have gl : W p l e ({ frames := 2, cells := 0, slots := 0, locals := 42 } : Room) s m args below meth c H locs 0 0 (MQ below (va_Qv (fun u => u = F) (fun u t => qW D tc A (mo tc a u ++ Y) t) A) args s 0 0 A) (F0 m 0 ls []) := ?_
  · rw [eH, eL] at gl; exact gl
  have hl : lv_has ls 3 [(0, .ref (a 0)), (1, .int x1), (2, .int x2)] := hl
  unfold kM_right at hok
  unfold fM_right at hF
  refine lv_aload_n hx hb d_M_right_0 rfl (lv_at hl 0 rfl) ?_
  refine lv_iload_n hx hb d_M_right_1 rfl (lv_at hl 1 rfl) ?_
  obtain ⟨hi_1, hok⟩ := hok
  refine cs_p (n := 1) (As := [.int x1]) (rest := [.ref (a 0)]) hx hb hml hown hts (cM_isPerson l x1 hi_1 rfl) (gd_S wd_733 wd_734 wd_3 wd_735) (by decide +kernel) ⟨rfl, rfl, Nat.le_of_ble_eq_true rfl, Nat.le_of_ble_eq_true rfl, Nat.le_of_ble_eq_true rfl, Nat.le_of_ble_eq_true rfl⟩ rfl hl.1 rfl (Nat.le_of_ble_eq_true rfl) d_M_right_2 ?_
  refine lv_if_eq (tgt := 18) hx hb d_M_right_5 (by decide) (fun c_2 => ?_) (fun c_2 => ?_)
  · have hok := hok.1 c_2
    have hF := (if_pos c_2).symm.trans hF
    refine lv_iconst (v := 1) hx hb d_M_right_18 (by decide) ?_
    refine lv_goto (tgt := 23) hx hb d_M_right_19 (by decide) ?_
    refine mp_0 h0 hw d_M_right_23 (fun H locs hw => ?_)
    refine lv_aload_n hx hb d_M_right_26 rfl (lv_at hl 0 rfl) ?_
    refine mg_0 h0 hw d_M_right_27 ?_
    refine W.eq (g2 := F0 m 30 ls [.int 1]) rfl ?_
    refine lv_if_ne (tgt := 40) hx hb d_M_right_30 (by decide) (fun _ => ?_) (fun c_0 => absurd c_0 (by decide))
    exact rt_v h0 hw hr hlocks (u2 μ 0 0 1) hF rfl d_M_right_40 (Nat.le_refl 0) (Nat.le_refl 0)
  · have hok := hok.2 c_2
    have hF := (if_neg c_2).symm.trans hF
    refine lv_iload_n hx hb d_M_right_8 rfl (lv_at hl 2 rfl) ?_
    refine lv_iconst (v := 0) hx hb d_M_right_9 (by decide) ?_
    refine lv_ldc hx hb hown (hts _ wd_724) d_M_right_10 ?_
    obtain ⟨hi_3, hok⟩ := hok
    refine cs_p (n := 3) (As := [.int x2, .int 0, .int 1000000]) (rest := [.ref (a 0)]) hx hb hml hown hts (cM_in l x2 0 1000000 hi_3 rfl) (gd_S wd_710 wd_711 wd_3 wd_712) (by decide +kernel) ⟨rfl, rfl, Nat.le_of_ble_eq_true rfl, Nat.le_of_ble_eq_true rfl, Nat.le_of_ble_eq_true rfl, Nat.le_of_ble_eq_true rfl⟩ rfl hl.1 rfl (Nat.le_of_ble_eq_true rfl) d_M_right_12 ?_
    refine lv_if_ne (tgt := 22) hx hb d_M_right_15 (by decide) (fun c_4 => ?_) (fun c_4 => ?_)
    · have hok := hok.2 c_4
      have hF := (if_neg c_4).symm.trans hF
      refine lv_iconst (v := 0) hx hb d_M_right_22 (by decide) ?_
      refine mp_0 h0 hw d_M_right_23 (fun H locs hw => ?_)
      refine lv_aload_n hx hb d_M_right_26 rfl (lv_at hl 0 rfl) ?_
      refine mg_0 h0 hw d_M_right_27 ?_
      refine W.eq (g2 := F0 m 30 ls [.int 0]) rfl ?_
      refine lv_if_ne (tgt := 40) hx hb d_M_right_30 (by decide) (fun c_0 => absurd c_0 (by decide)) (fun _ => ?_)
      refine lv_aload_n hx hb d_M_right_33 rfl (lv_at hl 0 rfl) ?_
      refine mg_9 h0 hw d_M_right_34 ?_
      refine lv_iload_n hx hb d_M_right_37 rfl (lv_at hl 1 rfl) ?_
      refine lv_iload_n hx hb d_M_right_38 rfl (lv_at hl 2 rfl) ?_
      obtain ⟨hi_5, hok⟩ := hok
      refine ms_9 h0 hw hi_5 d_M_right_39 (fun H locs hw => ?_)
      exact rt_v h0 hw hr hlocks (u2 (u2 μ 0 0 0) 9 x1.toNatClampNeg x2) hF rfl d_M_right_40 (Nat.le_refl 0) (Nat.le_refl 0)
    · have hok := hok.1 c_4
      have hF := (if_pos c_4).symm.trans hF
      refine lv_iconst (v := 1) hx hb d_M_right_18 (by decide) ?_
      refine lv_goto (tgt := 23) hx hb d_M_right_19 (by decide) ?_
      refine mp_0 h0 hw d_M_right_23 (fun H locs hw => ?_)
      refine lv_aload_n hx hb d_M_right_26 rfl (lv_at hl 0 rfl) ?_
      refine mg_0 h0 hw d_M_right_27 ?_
      refine W.eq (g2 := F0 m 30 ls [.int 1]) rfl ?_
      refine lv_if_ne (tgt := 40) hx hb d_M_right_30 (by decide) (fun _ => ?_) (fun c_0 => absurd c_0 (by decide))
      exact rt_v h0 hw hr hlocks (u2 μ 0 0 1) hF rfl d_M_right_40 (Nat.le_refl 0) (Nat.le_refl 0)
set_option maxHeartbeats 4000000 in
set_option maxRecDepth 100000 in
theorem cM_setting (l : Launch) (D : va_G) (tc : Nat → ClassId) (a : Nat → Nat) (Y : va_W) (sz : Nat) (x1 : Int32) (μ : Nat → Nat → Int32) {F : Nat → Nat → Int32} (hok : kM_setting x1 μ) (hF : fM_setting x1 μ = F) : Met l y_M_setting (Cond.code y_M_setting b_M_setting 2 none :: gw) ({ frames := 1, cells := 0, slots := 0, locals := 22 } : Room) (va_Pc [.ref (a 0), .int x1] (pW D tc (mo tc a μ ++ Y) sz)) (va_Qv (fun u => u = F) (fun u t => qW D tc (va_A (mo tc a μ ++ Y) sz) (mo tc a u ++ Y) t) (va_A (mo tc a μ ++ Y) sz)) 0 0 (va_A (mo tc a μ ++ Y) sz) := by
  refine en_W (by decide) (Nat.le_of_ble_eq_true rfl) ?_
  intro p e s m args below meth c ls h0 hr hlocks hin hsz hw hl
  obtain ⟨hx, hb, hml, hown, hts, hK⟩ := id h0
  have hA : ∀ q : Nat, s.heap.size ≤ q → (va_A (mo tc a μ ++ Y) sz) q := fun q h => Or.inr (by rw [← hsz]; exact h)
  generalize va_A (mo tc a μ ++ Y) sz = A at hw hA ⊢
  obtain ⟨H, eH⟩ : ∃ z, z = s.heap := ⟨_, rfl⟩
  obtain ⟨locs, eL⟩ : ∃ z : List Loc, z = [] := ⟨_, rfl⟩
  have hw : wH D A s.heap (mo tc a μ ++ Y) H locs := by rw [eH, eL]; exact hw
  show W p l e _ s m _ below meth c s.heap [] 0 0 _ _
  have gl : W p l e ({ frames := 1, cells := 0, slots := 0, locals := 22 } : Room) s m args below meth c H locs 0 0 (MQ below (va_Qv (fun u => u = F) (fun u t => qW D tc A (mo tc a u ++ Y) t) A) args s 0 0 A) (F0 m 0 ls []) := ?_
  · rw [eH, eL] at gl; exact gl
  have hl : lv_has ls 2 [(0, .ref (a 0)), (1, .int x1)] := hl
  unfold kM_setting at hok
  unfold fM_setting at hF
  refine lv_aload_n hx hb d_M_setting_0 rfl (lv_at hl 0 rfl) ?_
  refine lv_iload_n hx hb d_M_setting_1 rfl (lv_at hl 1 rfl) ?_
  refine lv_iconst (v := 0) hx hb d_M_setting_2 (by decide) ?_
  refine lv_iconst (v := 1) hx hb d_M_setting_3 (by decide) ?_
  obtain ⟨hi_1, hok⟩ := hok
  refine cs_p (n := 3) (As := [.int x1, .int 0, .int 1]) (rest := [.ref (a 0)]) hx hb hml hown hts (cM_in l x1 0 1 hi_1 rfl) (gd_S wd_710 wd_711 wd_3 wd_712) (by decide +kernel) ⟨rfl, rfl, Nat.le_of_ble_eq_true rfl, Nat.le_of_ble_eq_true rfl, Nat.le_of_ble_eq_true rfl, Nat.le_of_ble_eq_true rfl⟩ rfl hl.1 rfl (Nat.le_of_ble_eq_true rfl) d_M_setting_4 ?_
  refine lv_if_eq (tgt := 14) hx hb d_M_setting_7 (by decide) (fun c_2 => ?_) (fun c_2 => ?_)
  · have hok := hok.1 c_2
    have hF := (if_pos c_2).symm.trans hF
    refine lv_iconst (v := 1) hx hb d_M_setting_14 (by decide) ?_
    refine mp_0 h0 hw d_M_setting_15 (fun H locs hw => ?_)
    refine lv_aload_n hx hb d_M_setting_18 rfl (lv_at hl 0 rfl) ?_
    refine mg_0 h0 hw d_M_setting_19 ?_
    refine W.eq (g2 := F0 m 22 ls [.int 1]) rfl ?_
    refine lv_if_ne (tgt := 30) hx hb d_M_setting_22 (by decide) (fun _ => ?_) (fun c_0 => absurd c_0 (by decide))
    exact rt_v h0 hw hr hlocks (u2 μ 0 0 1) hF rfl d_M_setting_30 (Nat.le_refl 0) (Nat.le_refl 0)
  · have hok := hok.2 c_2
    have hF := (if_neg c_2).symm.trans hF
    refine lv_iconst (v := 0) hx hb d_M_setting_10 (by decide) ?_
    refine lv_goto (tgt := 15) hx hb d_M_setting_11 (by decide) ?_
    refine mp_0 h0 hw d_M_setting_15 (fun H locs hw => ?_)
    refine lv_aload_n hx hb d_M_setting_18 rfl (lv_at hl 0 rfl) ?_
    refine mg_0 h0 hw d_M_setting_19 ?_
    refine W.eq (g2 := F0 m 22 ls [.int 0]) rfl ?_
    refine lv_if_ne (tgt := 30) hx hb d_M_setting_22 (by decide) (fun c_0 => absurd c_0 (by decide)) (fun _ => ?_)
    refine lv_aload_n hx hb d_M_setting_25 rfl (lv_at hl 0 rfl) ?_
    refine lv_iload_n hx hb d_M_setting_26 rfl (lv_at hl 1 rfl) ?_
    refine mp_2 h0 hw d_M_setting_27 (fun H locs hw => ?_)
    exact rt_v h0 hw hr hlocks (u2 (u2 μ 0 0 0) 2 0 x1) hF rfl d_M_setting_30 (Nat.le_refl 0) (Nat.le_refl 0)
set_option maxHeartbeats 4000000 in
set_option maxRecDepth 100000 in
theorem cM_day (l : Launch) (D : va_G) (tc : Nat → ClassId) (a : Nat → Nat) (Y : va_W) (sz : Nat) (x1 : Int32) (μ : Nat → Nat → Int32) {F : Nat → Nat → Int32} (hok : kM_day x1 μ) (hF : fM_day x1 μ = F) : Met l y_M_day (Cond.code y_M_day b_M_day 2 none :: gw) ({ frames := 1, cells := 0, slots := 0, locals := 22 } : Room) (va_Pc [.ref (a 0), .int x1] (pW D tc (mo tc a μ ++ Y) sz)) (va_Qv (fun u => u = F) (fun u t => qW D tc (va_A (mo tc a μ ++ Y) sz) (mo tc a u ++ Y) t) (va_A (mo tc a μ ++ Y) sz)) 0 0 (va_A (mo tc a μ ++ Y) sz) := by
  refine en_W (by decide) (Nat.le_of_ble_eq_true rfl) ?_
  intro p e s m args below meth c ls h0 hr hlocks hin hsz hw hl
  obtain ⟨hx, hb, hml, hown, hts, hK⟩ := id h0
  have hA : ∀ q : Nat, s.heap.size ≤ q → (va_A (mo tc a μ ++ Y) sz) q := fun q h => Or.inr (by rw [← hsz]; exact h)
  generalize va_A (mo tc a μ ++ Y) sz = A at hw hA ⊢
  obtain ⟨H, eH⟩ : ∃ z, z = s.heap := ⟨_, rfl⟩
  obtain ⟨locs, eL⟩ : ∃ z : List Loc, z = [] := ⟨_, rfl⟩
  have hw : wH D A s.heap (mo tc a μ ++ Y) H locs := by rw [eH, eL]; exact hw
  show W p l e _ s m _ below meth c s.heap [] 0 0 _ _
  have gl : W p l e ({ frames := 1, cells := 0, slots := 0, locals := 22 } : Room) s m args below meth c H locs 0 0 (MQ below (va_Qv (fun u => u = F) (fun u t => qW D tc A (mo tc a u ++ Y) t) A) args s 0 0 A) (F0 m 0 ls []) := ?_
  · rw [eH, eL] at gl; exact gl
  have hl : lv_has ls 2 [(0, .ref (a 0)), (1, .int x1)] := hl
  unfold kM_day at hok
  unfold fM_day at hF
  refine lv_aload_n hx hb d_M_day_0 rfl (lv_at hl 0 rfl) ?_
  refine lv_iload_n hx hb d_M_day_1 rfl (lv_at hl 1 rfl) ?_
  refine lv_iconst (v := 0) hx hb d_M_day_2 (by decide) ?_
  refine lv_sipush (v := 10000) hx hb d_M_day_3 (by decide) ?_
  obtain ⟨hi_1, hok⟩ := hok
  refine cs_p (n := 3) (As := [.int x1, .int 0, .int 10000]) (rest := [.ref (a 0)]) hx hb hml hown hts (cM_in l x1 0 10000 hi_1 rfl) (gd_S wd_710 wd_711 wd_3 wd_712) (by decide +kernel) ⟨rfl, rfl, Nat.le_of_ble_eq_true rfl, Nat.le_of_ble_eq_true rfl, Nat.le_of_ble_eq_true rfl, Nat.le_of_ble_eq_true rfl⟩ rfl hl.1 rfl (Nat.le_of_ble_eq_true rfl) d_M_day_6 ?_
  refine lv_if_ne (tgt := 16) hx hb d_M_day_9 (by decide) (fun c_2 => ?_) (fun c_2 => ?_)
  · have hok := hok.2 c_2
    have hF := (if_neg c_2).symm.trans hF
    refine lv_iload_n hx hb d_M_day_16 rfl (lv_at hl 1 rfl) ?_
    refine lv_aload_n hx hb d_M_day_17 rfl (lv_at hl 0 rfl) ?_
    refine mg_1 h0 hw d_M_day_18 ?_
    refine lv_icmp_ge (tgt := 28) hx hb d_M_day_21 (by decide) (fun c_3 => ?_) (fun c_3 => ?_)
    · have hok := hok.1 c_3
      have hF := (if_pos c_3).symm.trans hF
      refine lv_iconst (v := 0) hx hb d_M_day_28 (by decide) ?_
      refine mp_0 h0 hw d_M_day_29 (fun H locs hw => ?_)
      refine lv_aload_n hx hb d_M_day_32 rfl (lv_at hl 0 rfl) ?_
      refine mg_0 h0 hw d_M_day_33 ?_
      refine W.eq (g2 := F0 m 36 ls [.int 0]) rfl ?_
      refine lv_if_ne (tgt := 44) hx hb d_M_day_36 (by decide) (fun c_0 => absurd c_0 (by decide)) (fun _ => ?_)
      refine lv_aload_n hx hb d_M_day_39 rfl (lv_at hl 0 rfl) ?_
      refine lv_iload_n hx hb d_M_day_40 rfl (lv_at hl 1 rfl) ?_
      refine mp_1 h0 hw d_M_day_41 (fun H locs hw => ?_)
      exact rt_v h0 hw hr hlocks (u2 (u2 μ 0 0 0) 1 0 x1) hF rfl d_M_day_44 (Nat.le_refl 0) (Nat.le_refl 0)
    · have hok := hok.2 c_3
      have hF := (if_neg c_3).symm.trans hF
      refine lv_iconst (v := 2) hx hb d_M_day_24 (by decide) ?_
      refine lv_goto (tgt := 29) hx hb d_M_day_25 (by decide) ?_
      refine mp_0 h0 hw d_M_day_29 (fun H locs hw => ?_)
      refine lv_aload_n hx hb d_M_day_32 rfl (lv_at hl 0 rfl) ?_
      refine mg_0 h0 hw d_M_day_33 ?_
      refine W.eq (g2 := F0 m 36 ls [.int 2]) rfl ?_
      refine lv_if_ne (tgt := 44) hx hb d_M_day_36 (by decide) (fun _ => ?_) (fun c_0 => absurd c_0 (by decide))
      exact rt_v h0 hw hr hlocks (u2 μ 0 0 2) hF rfl d_M_day_44 (Nat.le_refl 0) (Nat.le_refl 0)
  · have hok := hok.1 c_2
    have hF := (if_pos c_2).symm.trans hF
    refine lv_iconst (v := 1) hx hb d_M_day_12 (by decide) ?_
    refine lv_goto (tgt := 29) hx hb d_M_day_13 (by decide) ?_
    refine mp_0 h0 hw d_M_day_29 (fun H locs hw => ?_)
    refine lv_aload_n hx hb d_M_day_32 rfl (lv_at hl 0 rfl) ?_
    refine mg_0 h0 hw d_M_day_33 ?_
    refine W.eq (g2 := F0 m 36 ls [.int 1]) rfl ?_
    refine lv_if_ne (tgt := 44) hx hb d_M_day_36 (by decide) (fun _ => ?_) (fun c_0 => absurd c_0 (by decide))
    exact rt_v h0 hw hr hlocks (u2 μ 0 0 1) hF rfl d_M_day_44 (Nat.le_refl 0) (Nat.le_refl 0)
set_option maxHeartbeats 4000000 in
set_option maxRecDepth 100000 in
theorem cM_move (l : Launch) (D : va_G) (tc : Nat → ClassId) (a : Nat → Nat) (Y : va_W) (sz : Nat) (x1 : Int32) (x2 : Int32) (x3 : Int32) (x4 : Int32) (μ : Nat → Nat → Int32) {F : Int32 × (Nat → Nat → Int32)} (hok : kM_move x1 x2 x3 x4 μ) (hF : fM_move x1 x2 x3 x4 μ = F) : Met l y_M_move (Cond.code y_M_move b_M_move 5 (some .int) :: gw) ({ frames := 2, cells := 0, slots := 0, locals := 43 } : Room) (va_Pc [.ref (a 0), .int x1, .int x2, .int x3, .int x4] (pW D tc (mo tc a μ ++ Y) sz)) (va_Qi (fun r u => (r, u) = F) (fun u t => qW D tc (va_A (mo tc a μ ++ Y) sz) (mo tc a u ++ Y) t) (va_A (mo tc a μ ++ Y) sz)) 0 0 (va_A (mo tc a μ ++ Y) sz) := by
  refine en_W (by decide) (Nat.le_of_ble_eq_true rfl) ?_
  intro p e s m args below meth c ls h0 hr hlocks hin hsz hw hl
  obtain ⟨hx, hb, hml, hown, hts, hK⟩ := id h0
  have hA : ∀ q : Nat, s.heap.size ≤ q → (va_A (mo tc a μ ++ Y) sz) q := fun q h => Or.inr (by rw [← hsz]; exact h)
  generalize va_A (mo tc a μ ++ Y) sz = A at hw hA ⊢
  obtain ⟨H, eH⟩ : ∃ z, z = s.heap := ⟨_, rfl⟩
  obtain ⟨locs, eL⟩ : ∃ z : List Loc, z = [] := ⟨_, rfl⟩
  have hw : wH D A s.heap (mo tc a μ ++ Y) H locs := by rw [eH, eL]; exact hw
  show W p l e _ s m _ below meth c s.heap [] 0 0 _ _
  have gl : W p l e ({ frames := 2, cells := 0, slots := 0, locals := 43 } : Room) s m args below meth c H locs 0 0 (MQ below (va_Qi (fun r u => (r, u) = F) (fun u t => qW D tc A (mo tc a u ++ Y) t) A) args s 0 0 A) (F0 m 0 ls []) := ?_
  · rw [eH, eL] at gl; exact gl
  have hl : lv_has ls 5 [(0, .ref (a 0)), (1, .int x1), (2, .int x2), (3, .int x3), (4, .int x4)] := hl
  unfold kM_move at hok
  unfold fM_move at hF
  refine lv_aload_n hx hb d_M_move_0 rfl (lv_at hl 0 rfl) ?_
  refine lv_aload_n hx hb d_M_move_1 rfl (lv_at hl 0 rfl) ?_
  refine lv_iload_n hx hb d_M_move_2 rfl (lv_at hl 1 rfl) ?_
  obtain ⟨hi_1, hok⟩ := hok
  refine cv_p (n := 1) (C := "CountRoundsModel") (b := a 0) (q0 := 0) (ci := 4) (As := [.int x1]) (rest := [.ref (a 0)]) h0 hw (cM_isPlace l D tc a Y H.size x1 μ hi_1 rfl) (gd_V wd_717 wd_719 (gw_s 22 rfl rfl) wd_3 wd_720) (by decide +kernel) ⟨rfl, rfl, Nat.le_of_ble_eq_true rfl, Nat.le_of_ble_eq_true rfl, Nat.le_of_ble_eq_true rfl, Nat.le_of_ble_eq_true rfl⟩ rfl rfl rfl hl.1 rfl (Nat.le_of_ble_eq_true rfl) d_M_move_3 ?_
  refine lv_if_eq (tgt := 17) hx hb d_M_move_6 (by decide) (fun c_2 => ?_) (fun c_2 => ?_)
  · have hok := hok.1 c_2
    have hF := (if_pos c_2).symm.trans hF
    refine lv_iconst (v := 1) hx hb d_M_move_17 (by decide) ?_
    refine lv_goto (tgt := 49) hx hb d_M_move_18 (by decide) ?_
    refine mp_0 h0 hw d_M_move_49 (fun H locs hw => ?_)
    refine lv_aload_n hx hb d_M_move_52 rfl (lv_at hl 0 rfl) ?_
    refine mg_0 h0 hw d_M_move_53 ?_
    refine W.eq (g2 := F0 m 56 ls [.int 1]) rfl ?_
    refine lv_if_ne (tgt := 97) hx hb d_M_move_56 (by decide) (fun _ => ?_) (fun c_0 => absurd c_0 (by decide))
    refine lv_aload_n hx hb d_M_move_97 rfl (lv_at hl 0 rfl) ?_
    refine mg_0 h0 hw d_M_move_98 ?_
    refine W.eq (g2 := F0 m 101 ls [.int 1]) rfl ?_
    refine lv_if_le (tgt := 106) hx hb d_M_move_101 (by decide) (fun c_0 => absurd c_0 (by decide)) (fun _ => ?_)
    refine lv_iconst (v := 0) hx hb d_M_move_104 (by decide) ?_
    exact rt_i h0 hw hr hlocks rfl (u2 μ 0 0 1) hF rfl d_M_move_105 (Nat.le_refl 0) (Nat.le_refl 0)
  · have hok := hok.2 c_2
    have hF := (if_neg c_2).symm.trans hF
    refine lv_aload_n hx hb d_M_move_9 rfl (lv_at hl 0 rfl) ?_
    refine lv_iload_n hx hb d_M_move_10 rfl (lv_at hl 2 rfl) ?_
    obtain ⟨hi_3, hok⟩ := hok
    refine cv_p (n := 1) (C := "CountRoundsModel") (b := a 0) (q0 := 0) (ci := 4) (As := [.int x2]) (rest := [.ref (a 0)]) h0 hw (cM_isPlace l D tc a Y H.size x2 μ hi_3 rfl) (gd_V wd_717 wd_719 (gw_s 22 rfl rfl) wd_3 wd_720) (by decide +kernel) ⟨rfl, rfl, Nat.le_of_ble_eq_true rfl, Nat.le_of_ble_eq_true rfl, Nat.le_of_ble_eq_true rfl, Nat.le_of_ble_eq_true rfl⟩ rfl rfl rfl hl.1 rfl (Nat.le_of_ble_eq_true rfl) d_M_move_11 ?_
    refine lv_if_ne (tgt := 21) hx hb d_M_move_14 (by decide) (fun c_4 => ?_) (fun c_4 => ?_)
    · have hok := hok.2 c_4
      have hF := (if_neg c_4).symm.trans hF
      refine lv_iload_n hx hb d_M_move_21 rfl (lv_at hl 3 rfl) ?_
      obtain ⟨hi_5, hok⟩ := hok
      refine cs_p (n := 1) (As := [.int x3]) (rest := [.ref (a 0)]) hx hb hml hown hts (cM_isGood l x3 hi_5 rfl) (gd_S wd_721 wd_722 wd_3 wd_723) (by decide +kernel) ⟨rfl, rfl, Nat.le_of_ble_eq_true rfl, Nat.le_of_ble_eq_true rfl, Nat.le_of_ble_eq_true rfl, Nat.le_of_ble_eq_true rfl⟩ rfl hl.1 rfl (Nat.le_of_ble_eq_true rfl) d_M_move_22 ?_
      refine lv_if_eq (tgt := 44) hx hb d_M_move_25 (by decide) (fun c_6 => ?_) (fun c_6 => ?_)
      · have hok := hok.1 c_6
        have hF := (if_pos c_6).symm.trans hF
        refine lv_iconst (v := 2) hx hb d_M_move_44 (by decide) ?_
        refine lv_goto (tgt := 49) hx hb d_M_move_45 (by decide) ?_
        refine mp_0 h0 hw d_M_move_49 (fun H locs hw => ?_)
        refine lv_aload_n hx hb d_M_move_52 rfl (lv_at hl 0 rfl) ?_
        refine mg_0 h0 hw d_M_move_53 ?_
        refine W.eq (g2 := F0 m 56 ls [.int 2]) rfl ?_
        refine lv_if_ne (tgt := 97) hx hb d_M_move_56 (by decide) (fun _ => ?_) (fun c_0 => absurd c_0 (by decide))
        refine lv_aload_n hx hb d_M_move_97 rfl (lv_at hl 0 rfl) ?_
        refine mg_0 h0 hw d_M_move_98 ?_
        refine W.eq (g2 := F0 m 101 ls [.int 2]) rfl ?_
        refine lv_if_le (tgt := 106) hx hb d_M_move_101 (by decide) (fun c_0 => absurd c_0 (by decide)) (fun _ => ?_)
        refine lv_iconst (v := 0) hx hb d_M_move_104 (by decide) ?_
        exact rt_i h0 hw hr hlocks rfl (u2 μ 0 0 2) hF rfl d_M_move_105 (Nat.le_refl 0) (Nat.le_refl 0)
      · have hok := hok.2 c_6
        have hF := (if_neg c_6).symm.trans hF
        refine lv_iload hx hb d_M_move_28 (lv_at hl 4 rfl) ?_
        refine lv_iconst (v := 1) hx hb d_M_move_30 (by decide) ?_
        refine lv_ldc hx hb hown (hts _ wd_724) d_M_move_31 ?_
        obtain ⟨hi_7, hok⟩ := hok
        refine cs_p (n := 3) (As := [.int x4, .int 1, .int 1000000]) (rest := [.ref (a 0)]) hx hb hml hown hts (cM_in l x4 1 1000000 hi_7 rfl) (gd_S wd_710 wd_711 wd_3 wd_712) (by decide +kernel) ⟨rfl, rfl, Nat.le_of_ble_eq_true rfl, Nat.le_of_ble_eq_true rfl, Nat.le_of_ble_eq_true rfl, Nat.le_of_ble_eq_true rfl⟩ rfl hl.1 rfl (Nat.le_of_ble_eq_true rfl) d_M_move_33 ?_
        refine lv_if_eq (tgt := 44) hx hb d_M_move_36 (by decide) (fun c_8 => ?_) (fun c_8 => ?_)
        · have hok := hok.1 c_8
          have hF := (if_pos c_8).symm.trans hF
          refine lv_iconst (v := 2) hx hb d_M_move_44 (by decide) ?_
          refine lv_goto (tgt := 49) hx hb d_M_move_45 (by decide) ?_
          refine mp_0 h0 hw d_M_move_49 (fun H locs hw => ?_)
          refine lv_aload_n hx hb d_M_move_52 rfl (lv_at hl 0 rfl) ?_
          refine mg_0 h0 hw d_M_move_53 ?_
          refine W.eq (g2 := F0 m 56 ls [.int 2]) rfl ?_
          refine lv_if_ne (tgt := 97) hx hb d_M_move_56 (by decide) (fun _ => ?_) (fun c_0 => absurd c_0 (by decide))
          refine lv_aload_n hx hb d_M_move_97 rfl (lv_at hl 0 rfl) ?_
          refine mg_0 h0 hw d_M_move_98 ?_
          refine W.eq (g2 := F0 m 101 ls [.int 2]) rfl ?_
          refine lv_if_le (tgt := 106) hx hb d_M_move_101 (by decide) (fun c_0 => absurd c_0 (by decide)) (fun _ => ?_)
          refine lv_iconst (v := 0) hx hb d_M_move_104 (by decide) ?_
          exact rt_i h0 hw hr hlocks rfl (u2 μ 0 0 2) hF rfl d_M_move_105 (Nat.le_refl 0) (Nat.le_refl 0)
        · have hok := hok.2 c_8
          have hF := (if_neg c_8).symm.trans hF
          refine lv_iload_n hx hb d_M_move_39 rfl (lv_at hl 1 rfl) ?_
          refine lv_iload_n hx hb d_M_move_40 rfl (lv_at hl 2 rfl) ?_
          refine lv_icmp_ne (tgt := 48) hx hb d_M_move_41 (by decide) (fun c_9 => ?_) (fun c_9 => ?_)
          · have hok := hok.2 c_9
            have hF := (if_neg c_9).symm.trans hF
            refine lv_iconst (v := 0) hx hb d_M_move_48 (by decide) ?_
            refine mp_0 h0 hw d_M_move_49 (fun H locs hw => ?_)
            refine lv_aload_n hx hb d_M_move_52 rfl (lv_at hl 0 rfl) ?_
            refine mg_0 h0 hw d_M_move_53 ?_
            refine W.eq (g2 := F0 m 56 ls [.int 0]) rfl ?_
            refine lv_if_ne (tgt := 97) hx hb d_M_move_56 (by decide) (fun c_0 => absurd c_0 (by decide)) (fun _ => ?_)
            refine lv_aload_n hx hb d_M_move_59 rfl (lv_at hl 0 rfl) ?_
            refine lv_aload_n hx hb d_M_move_60 rfl (lv_at hl 0 rfl) ?_
            refine mg_6 h0 hw d_M_move_61 ?_
            refine lv_bipush (v := 6) hx hb d_M_move_64 (by decide) ?_
            refine lv_iload_n hx hb d_M_move_66 rfl (lv_at hl 1 rfl) ?_
            refine lv_imul hx hb d_M_move_67 ?_
            refine lv_iload_n hx hb d_M_move_68 rfl (lv_at hl 3 rfl) ?_
            refine lv_iadd hx hb d_M_move_69 ?_
            obtain ⟨hi_10, hok⟩ := hok
            refine ml_6 h0 hw hi_10 d_M_move_70 ?_
            refine W.eq (g2 := F0 m 71 ls [.int (μ 6 ((6 * x1) + x3).toNatClampNeg), .ref (a 0)]) rfl ?_
            refine lv_iload hx hb d_M_move_71 (lv_at hl 4 rfl) ?_
            refine lv_icmp_ge (tgt := 80) hx hb d_M_move_73 (by decide) (fun c_11 => ?_) (fun c_11 => ?_)
            · have hok := hok.1 c_11
              have hF := (if_pos c_11).symm.trans hF
              refine lv_aload_n hx hb d_M_move_80 rfl (lv_at hl 0 rfl) ?_
              refine mg_10 h0 hw d_M_move_81 ?_
              refine W.eq (g2 := F0 m 84 ls [.int (μ 10 0), .ref (a 0)]) rfl ?_
              refine lv_bipush (v := 60) hx hb d_M_move_84 (by decide) ?_
              refine lv_icmp_ne (tgt := 93) hx hb d_M_move_86 (by decide) (fun c_12 => ?_) (fun c_12 => ?_)
              · have hok := hok.2 c_12
                have hF := (if_neg c_12).symm.trans hF
                refine lv_iconst (v := 0) hx hb d_M_move_93 (by decide) ?_
                refine mp_0 h0 hw d_M_move_94 (fun H locs hw => ?_)
                refine lv_aload_n hx hb d_M_move_97 rfl (lv_at hl 0 rfl) ?_
                refine mg_0 h0 hw d_M_move_98 ?_
                refine W.eq (g2 := F0 m 101 ls [.int 0]) rfl ?_
                refine lv_if_le (tgt := 106) hx hb d_M_move_101 (by decide) (fun _ => ?_) (fun c_0 => absurd c_0 (by decide))
                refine lv_aload_n hx hb d_M_move_106 rfl (lv_at hl 0 rfl) ?_
                refine mg_6 h0 hw d_M_move_107 ?_
                refine lv_bipush (v := 6) hx hb d_M_move_110 (by decide) ?_
                refine lv_iload_n hx hb d_M_move_112 rfl (lv_at hl 1 rfl) ?_
                refine lv_imul hx hb d_M_move_113 ?_
                refine lv_iload_n hx hb d_M_move_114 rfl (lv_at hl 3 rfl) ?_
                refine lv_iadd hx hb d_M_move_115 ?_
                refine lv_dup2_11 hx hb d_M_move_116 rfl rfl ?_
                obtain ⟨hi_13, hok⟩ := hok
                refine ml_6 h0 hw hi_13 d_M_move_117 ?_
                refine W.eq (g2 := F0 m 118 ls [.int (μ 6 ((6 * x1) + x3).toNatClampNeg), .int ((6 * x1) + x3), .ref (a 6)]) rfl ?_
                refine lv_iload hx hb d_M_move_118 (lv_at hl 4 rfl) ?_
                refine lv_isub hx hb d_M_move_120 ?_
                obtain ⟨hi_14, hok⟩ := hok
                refine ms_6 h0 hw hi_14 d_M_move_121 (fun H locs hw => ?_)
                refine lv_aload_n hx hb d_M_move_122 rfl (lv_at hl 0 rfl) ?_
                refine lv_dup hx hb d_M_move_123 rfl ?_
                refine mg_10 h0 hw d_M_move_124 ?_
                refine W.eq (g2 := F0 m 127 ls [.int (μ 10 0), .ref (a 0)]) rfl ?_
                refine lv_iconst (v := 1) hx hb d_M_move_127 (by decide) ?_
                refine lv_iadd hx hb d_M_move_128 ?_
                refine mp_10 h0 hw d_M_move_129 (fun H locs hw => ?_)
                refine lv_aload_n hx hb d_M_move_132 rfl (lv_at hl 0 rfl) ?_
                refine mg_11 h0 hw d_M_move_133 ?_
                refine lv_aload_n hx hb d_M_move_136 rfl (lv_at hl 0 rfl) ?_
                refine mg_10 h0 hw d_M_move_137 ?_
                refine W.eq (g2 := F0 m 140 ls [.int ((μ 10 0) + 1), .ref (a 11)]) rfl ?_
                refine lv_iload_n hx hb d_M_move_140 rfl (lv_at hl 1 rfl) ?_
                obtain ⟨hi_15, hok⟩ := hok
                refine ms_11 h0 hw hi_15 d_M_move_141 (fun H locs hw => ?_)
                refine lv_aload_n hx hb d_M_move_142 rfl (lv_at hl 0 rfl) ?_
                refine mg_12 h0 hw d_M_move_143 ?_
                refine lv_aload_n hx hb d_M_move_146 rfl (lv_at hl 0 rfl) ?_
                refine mg_10 h0 hw d_M_move_147 ?_
                refine W.eq (g2 := F0 m 150 ls [.int ((μ 10 0) + 1), .ref (a 12)]) rfl ?_
                refine lv_iload_n hx hb d_M_move_150 rfl (lv_at hl 2 rfl) ?_
                obtain ⟨hi_16, hok⟩ := hok
                refine ms_12 h0 hw hi_16 d_M_move_151 (fun H locs hw => ?_)
                refine lv_aload_n hx hb d_M_move_152 rfl (lv_at hl 0 rfl) ?_
                refine mg_13 h0 hw d_M_move_153 ?_
                refine lv_aload_n hx hb d_M_move_156 rfl (lv_at hl 0 rfl) ?_
                refine mg_10 h0 hw d_M_move_157 ?_
                refine W.eq (g2 := F0 m 160 ls [.int ((μ 10 0) + 1), .ref (a 13)]) rfl ?_
                refine lv_iload_n hx hb d_M_move_160 rfl (lv_at hl 3 rfl) ?_
                obtain ⟨hi_17, hok⟩ := hok
                refine ms_13 h0 hw hi_17 d_M_move_161 (fun H locs hw => ?_)
                refine lv_aload_n hx hb d_M_move_162 rfl (lv_at hl 0 rfl) ?_
                refine mg_14 h0 hw d_M_move_163 ?_
                refine lv_aload_n hx hb d_M_move_166 rfl (lv_at hl 0 rfl) ?_
                refine mg_10 h0 hw d_M_move_167 ?_
                refine W.eq (g2 := F0 m 170 ls [.int ((μ 10 0) + 1), .ref (a 14)]) rfl ?_
                refine lv_iload hx hb d_M_move_170 (lv_at hl 4 rfl) ?_
                obtain ⟨hi_18, hok⟩ := hok
                refine ms_14 h0 hw hi_18 d_M_move_172 (fun H locs hw => ?_)
                refine lv_aload_n hx hb d_M_move_173 rfl (lv_at hl 0 rfl) ?_
                refine mg_10 h0 hw d_M_move_174 ?_
                refine W.eq (g2 := F0 m 177 ls [.int ((μ 10 0) + 1)]) rfl ?_
                exact rt_i h0 hw hr hlocks rfl (u2 (u2 (u2 (u2 (u2 (u2 (u2 (u2 μ 0 0 0) 0 0 0) 6 ((6 * x1) + x3).toNatClampNeg ((μ 6 ((6 * x1) + x3).toNatClampNeg) - x4)) 10 0 ((μ 10 0) + 1)) 11 ((μ 10 0) + 1).toNatClampNeg x1) 12 ((μ 10 0) + 1).toNatClampNeg x2) 13 ((μ 10 0) + 1).toNatClampNeg x3) 14 ((μ 10 0) + 1).toNatClampNeg x4) hF rfl d_M_move_177 (Nat.le_refl 0) (Nat.le_refl 0)
              · have hok := hok.1 c_12
                have hF := (if_pos c_12).symm.trans hF
                refine lv_iconst (v := 4) hx hb d_M_move_89 (by decide) ?_
                refine lv_goto (tgt := 94) hx hb d_M_move_90 (by decide) ?_
                refine mp_0 h0 hw d_M_move_94 (fun H locs hw => ?_)
                refine lv_aload_n hx hb d_M_move_97 rfl (lv_at hl 0 rfl) ?_
                refine mg_0 h0 hw d_M_move_98 ?_
                refine W.eq (g2 := F0 m 101 ls [.int 4]) rfl ?_
                refine lv_if_le (tgt := 106) hx hb d_M_move_101 (by decide) (fun c_0 => absurd c_0 (by decide)) (fun _ => ?_)
                refine lv_iconst (v := 0) hx hb d_M_move_104 (by decide) ?_
                exact rt_i h0 hw hr hlocks rfl (u2 (u2 μ 0 0 0) 0 0 4) hF rfl d_M_move_105 (Nat.le_refl 0) (Nat.le_refl 0)
            · have hok := hok.2 c_11
              have hF := (if_neg c_11).symm.trans hF
              refine lv_iconst (v := 3) hx hb d_M_move_76 (by decide) ?_
              refine lv_goto (tgt := 94) hx hb d_M_move_77 (by decide) ?_
              refine mp_0 h0 hw d_M_move_94 (fun H locs hw => ?_)
              refine lv_aload_n hx hb d_M_move_97 rfl (lv_at hl 0 rfl) ?_
              refine mg_0 h0 hw d_M_move_98 ?_
              refine W.eq (g2 := F0 m 101 ls [.int 3]) rfl ?_
              refine lv_if_le (tgt := 106) hx hb d_M_move_101 (by decide) (fun c_0 => absurd c_0 (by decide)) (fun _ => ?_)
              refine lv_iconst (v := 0) hx hb d_M_move_104 (by decide) ?_
              exact rt_i h0 hw hr hlocks rfl (u2 (u2 μ 0 0 0) 0 0 3) hF rfl d_M_move_105 (Nat.le_refl 0) (Nat.le_refl 0)
          · have hok := hok.1 c_9
            have hF := (if_pos c_9).symm.trans hF
            refine lv_iconst (v := 2) hx hb d_M_move_44 (by decide) ?_
            refine lv_goto (tgt := 49) hx hb d_M_move_45 (by decide) ?_
            refine mp_0 h0 hw d_M_move_49 (fun H locs hw => ?_)
            refine lv_aload_n hx hb d_M_move_52 rfl (lv_at hl 0 rfl) ?_
            refine mg_0 h0 hw d_M_move_53 ?_
            refine W.eq (g2 := F0 m 56 ls [.int 2]) rfl ?_
            refine lv_if_ne (tgt := 97) hx hb d_M_move_56 (by decide) (fun _ => ?_) (fun c_0 => absurd c_0 (by decide))
            refine lv_aload_n hx hb d_M_move_97 rfl (lv_at hl 0 rfl) ?_
            refine mg_0 h0 hw d_M_move_98 ?_
            refine W.eq (g2 := F0 m 101 ls [.int 2]) rfl ?_
            refine lv_if_le (tgt := 106) hx hb d_M_move_101 (by decide) (fun c_0 => absurd c_0 (by decide)) (fun _ => ?_)
            refine lv_iconst (v := 0) hx hb d_M_move_104 (by decide) ?_
            exact rt_i h0 hw hr hlocks rfl (u2 μ 0 0 2) hF rfl d_M_move_105 (Nat.le_refl 0) (Nat.le_refl 0)
    · have hok := hok.1 c_4
      have hF := (if_pos c_4).symm.trans hF
      refine lv_iconst (v := 1) hx hb d_M_move_17 (by decide) ?_
      refine lv_goto (tgt := 49) hx hb d_M_move_18 (by decide) ?_
      refine mp_0 h0 hw d_M_move_49 (fun H locs hw => ?_)
      refine lv_aload_n hx hb d_M_move_52 rfl (lv_at hl 0 rfl) ?_
      refine mg_0 h0 hw d_M_move_53 ?_
      refine W.eq (g2 := F0 m 56 ls [.int 1]) rfl ?_
      refine lv_if_ne (tgt := 97) hx hb d_M_move_56 (by decide) (fun _ => ?_) (fun c_0 => absurd c_0 (by decide))
      refine lv_aload_n hx hb d_M_move_97 rfl (lv_at hl 0 rfl) ?_
      refine mg_0 h0 hw d_M_move_98 ?_
      refine W.eq (g2 := F0 m 101 ls [.int 1]) rfl ?_
      refine lv_if_le (tgt := 106) hx hb d_M_move_101 (by decide) (fun c_0 => absurd c_0 (by decide)) (fun _ => ?_)
      refine lv_iconst (v := 0) hx hb d_M_move_104 (by decide) ?_
      exact rt_i h0 hw hr hlocks rfl (u2 μ 0 0 1) hF rfl d_M_move_105 (Nat.le_refl 0) (Nat.le_refl 0)
set_option maxHeartbeats 4000000 in
set_option maxRecDepth 100000 in
theorem cM_end (l : Launch) (D : va_G) (tc : Nat → ClassId) (a : Nat → Nat) (Y : va_W) (sz : Nat) (x1 : Int32) (μ : Nat → Nat → Int32) {F : Nat → Nat → Int32} (hok : kM_end x1 μ) (hF : fM_end x1 μ = F) : Met l y_M_end (Cond.code y_M_end b_M_end 3 none :: gw) ({ frames := 1, cells := 0, slots := 0, locals := 22 } : Room) (va_Pc [.ref (a 0), .int x1] (pW D tc (mo tc a μ ++ Y) sz)) (va_Qv (fun u => u = F) (fun u t => qW D tc (va_A (mo tc a μ ++ Y) sz) (mo tc a u ++ Y) t) (va_A (mo tc a μ ++ Y) sz)) 0 0 (va_A (mo tc a μ ++ Y) sz) := by
  refine en_W (by decide) (Nat.le_of_ble_eq_true rfl) ?_
  intro p e s m args below meth c ls h0 hr hlocks hin hsz hw hl
  obtain ⟨hx, hb, hml, hown, hts, hK⟩ := id h0
  have hA : ∀ q : Nat, s.heap.size ≤ q → (va_A (mo tc a μ ++ Y) sz) q := fun q h => Or.inr (by rw [← hsz]; exact h)
  generalize va_A (mo tc a μ ++ Y) sz = A at hw hA ⊢
  obtain ⟨H, eH⟩ : ∃ z, z = s.heap := ⟨_, rfl⟩
  obtain ⟨locs, eL⟩ : ∃ z : List Loc, z = [] := ⟨_, rfl⟩
  have hw : wH D A s.heap (mo tc a μ ++ Y) H locs := by rw [eH, eL]; exact hw
  show W p l e _ s m _ below meth c s.heap [] 0 0 _ _
  have gl : W p l e ({ frames := 1, cells := 0, slots := 0, locals := 22 } : Room) s m args below meth c H locs 0 0 (MQ below (va_Qv (fun u => u = F) (fun u t => qW D tc A (mo tc a u ++ Y) t) A) args s 0 0 A) (F0 m 0 ls []) := ?_
  · rw [eH, eL] at gl; exact gl
  have hl : lv_has ls 3 [(0, .ref (a 0)), (1, .int x1)] := hl
  unfold kM_end at hok
  unfold fM_end at hF
  refine lv_aload_n hx hb d_M_end_0 rfl (lv_at hl 0 rfl) ?_
  refine lv_iload_n hx hb d_M_end_1 rfl (lv_at hl 1 rfl) ?_
  refine lv_iconst (v := 1) hx hb d_M_end_2 (by decide) ?_
  refine lv_aload_n hx hb d_M_end_3 rfl (lv_at hl 0 rfl) ?_
  refine mg_10 h0 hw d_M_end_4 ?_
  obtain ⟨hi_1, hok⟩ := hok
  refine cs_p (n := 3) (As := [.int x1, .int 1, .int (μ 10 0)]) (rest := [.ref (a 0)]) hx hb hml hown hts (cM_in l x1 1 (μ 10 0) hi_1 rfl) (gd_S wd_710 wd_711 wd_3 wd_712) (by decide +kernel) ⟨rfl, rfl, Nat.le_of_ble_eq_true rfl, Nat.le_of_ble_eq_true rfl, Nat.le_of_ble_eq_true rfl, Nat.le_of_ble_eq_true rfl⟩ rfl hl.1 rfl (Nat.le_of_ble_eq_true rfl) d_M_end_7 ?_
  refine lv_if_ne (tgt := 17) hx hb d_M_end_10 (by decide) (fun c_2 => ?_) (fun c_2 => ?_)
  · have hok := hok.2 c_2
    have hF := (if_neg c_2).symm.trans hF
    refine lv_iconst (v := 0) hx hb d_M_end_17 (by decide) ?_
    refine mp_0 h0 hw d_M_end_18 (fun H locs hw => ?_)
    refine lv_aload_n hx hb d_M_end_21 rfl (lv_at hl 0 rfl) ?_
    refine mg_0 h0 hw d_M_end_22 ?_
    refine W.eq (g2 := F0 m 25 ls [.int 0]) rfl ?_
    refine lv_if_le (tgt := 29) hx hb d_M_end_25 (by decide) (fun _ => ?_) (fun c_0 => absurd c_0 (by decide))
    refine lv_bipush (v := 6) hx hb d_M_end_29 (by decide) ?_
    refine lv_aload_n hx hb d_M_end_31 rfl (lv_at hl 0 rfl) ?_
    refine mg_12 h0 hw d_M_end_32 ?_
    refine lv_iload_n hx hb d_M_end_35 rfl (lv_at hl 1 rfl) ?_
    obtain ⟨hi_3, hok⟩ := hok
    refine ml_12 h0 hw hi_3 d_M_end_36 ?_
    refine W.eq (g2 := F0 m 37 ls [.int (μ 12 x1.toNatClampNeg), .int 6]) rfl ?_
    refine lv_imul hx hb d_M_end_37 ?_
    refine lv_aload_n hx hb d_M_end_38 rfl (lv_at hl 0 rfl) ?_
    refine mg_13 h0 hw d_M_end_39 ?_
    refine lv_iload_n hx hb d_M_end_42 rfl (lv_at hl 1 rfl) ?_
    obtain ⟨hi_4, hok⟩ := hok
    refine ml_13 h0 hw hi_4 d_M_end_43 ?_
    refine W.eq (g2 := F0 m 44 ls [.int (μ 13 x1.toNatClampNeg), .int (6 * (μ 12 x1.toNatClampNeg))]) rfl ?_
    refine lv_iadd hx hb d_M_end_44 ?_
    refine lv_istore_n (lv' := [(2, .int ((6 * (μ 12 x1.toNatClampNeg)) + (μ 13 x1.toNatClampNeg))), (0, .ref (a 0)), (1, .int x1)]) hx hb d_M_end_45 rfl hl (by decide) rfl (fun ls hl => ?_)
    refine lv_aload_n hx hb d_M_end_46 rfl (lv_at hl 1 rfl) ?_
    refine lv_aload_n hx hb d_M_end_47 rfl (lv_at hl 1 rfl) ?_
    refine mg_15 h0 hw d_M_end_48 ?_
    refine lv_iload_n hx hb d_M_end_51 rfl (lv_at hl 2 rfl) ?_
    obtain ⟨hi_5, hok⟩ := hok
    refine ml_15 h0 hw hi_5 d_M_end_52 ?_
    refine W.eq (g2 := F0 m 53 ls [.int (μ 15 x1.toNatClampNeg), .ref (a 0)]) rfl ?_
    refine lv_if_ne (tgt := 74) hx hb d_M_end_53 (by decide) (fun c_6 => ?_) (fun c_6 => ?_)
    · have hok := hok.2 c_6
      have hF := (if_neg c_6).symm.trans hF
      refine lv_iconst (v := 2) hx hb d_M_end_74 (by decide) ?_
      refine lv_goto (tgt := 79) hx hb d_M_end_75 (by decide) ?_
      refine mp_0 h0 hw d_M_end_79 (fun H locs hw => ?_)
      refine lv_aload_n hx hb d_M_end_82 rfl (lv_at hl 1 rfl) ?_
      refine mg_0 h0 hw d_M_end_83 ?_
      refine W.eq (g2 := F0 m 86 ls [.int 2]) rfl ?_
      refine lv_if_le (tgt := 90) hx hb d_M_end_86 (by decide) (fun c_0 => absurd c_0 (by decide)) (fun _ => ?_)
      exact rt_v h0 hw hr hlocks (u2 (u2 μ 0 0 0) 0 0 2) hF rfl d_M_end_89 (Nat.le_refl 0) (Nat.le_refl 0)
    · have hok := hok.1 c_6
      have hF := (if_pos c_6).symm.trans hF
      refine lv_aload_n hx hb d_M_end_56 rfl (lv_at hl 1 rfl) ?_
      refine mg_6 h0 hw d_M_end_57 ?_
      refine lv_iload_n hx hb d_M_end_60 rfl (lv_at hl 0 rfl) ?_
      obtain ⟨hi_7, hok⟩ := hok
      refine ml_6 h0 hw hi_7 d_M_end_61 ?_
      refine W.eq (g2 := F0 m 62 ls [.int (μ 6 ((6 * (μ 12 x1.toNatClampNeg)) + (μ 13 x1.toNatClampNeg)).toNatClampNeg), .ref (a 0)]) rfl ?_
      refine lv_aload_n hx hb d_M_end_62 rfl (lv_at hl 1 rfl) ?_
      refine mg_14 h0 hw d_M_end_63 ?_
      refine lv_iload_n hx hb d_M_end_66 rfl (lv_at hl 2 rfl) ?_
      obtain ⟨hi_8, hok⟩ := hok
      refine ml_14 h0 hw hi_8 d_M_end_67 ?_
      refine W.eq (g2 := F0 m 68 ls [.int (μ 14 x1.toNatClampNeg), .int (μ 6 ((6 * (μ 12 x1.toNatClampNeg)) + (μ 13 x1.toNatClampNeg)).toNatClampNeg), .ref (a 0)]) rfl ?_
      refine lv_iadd hx hb d_M_end_68 ?_
      refine lv_ldc hx hb hown (hts _ wd_724) d_M_end_69 ?_
      refine lv_icmp_le (tgt := 78) hx hb d_M_end_71 (by decide) (fun c_9 => ?_) (fun c_9 => ?_)
      · have hok := hok.1 c_9
        have hF := (if_pos c_9).symm.trans hF
        refine lv_iconst (v := 0) hx hb d_M_end_78 (by decide) ?_
        refine mp_0 h0 hw d_M_end_79 (fun H locs hw => ?_)
        refine lv_aload_n hx hb d_M_end_82 rfl (lv_at hl 1 rfl) ?_
        refine mg_0 h0 hw d_M_end_83 ?_
        refine W.eq (g2 := F0 m 86 ls [.int 0]) rfl ?_
        refine lv_if_le (tgt := 90) hx hb d_M_end_86 (by decide) (fun _ => ?_) (fun c_0 => absurd c_0 (by decide))
        refine lv_aload_n hx hb d_M_end_90 rfl (lv_at hl 1 rfl) ?_
        refine mg_15 h0 hw d_M_end_91 ?_
        refine lv_iload_n hx hb d_M_end_94 rfl (lv_at hl 2 rfl) ?_
        refine lv_iconst (v := 1) hx hb d_M_end_95 (by decide) ?_
        obtain ⟨hi_10, hok⟩ := hok
        refine ms_15 h0 hw hi_10 d_M_end_96 (fun H locs hw => ?_)
        refine lv_aload_n hx hb d_M_end_97 rfl (lv_at hl 1 rfl) ?_
        refine mg_6 h0 hw d_M_end_98 ?_
        refine lv_iload_n hx hb d_M_end_101 rfl (lv_at hl 0 rfl) ?_
        refine lv_dup2_11 hx hb d_M_end_102 rfl rfl ?_
        obtain ⟨hi_11, hok⟩ := hok
        refine ml_6 h0 hw hi_11 d_M_end_103 ?_
        refine W.eq (g2 := F0 m 104 ls [.int (μ 6 ((6 * (μ 12 x1.toNatClampNeg)) + (μ 13 x1.toNatClampNeg)).toNatClampNeg), .int ((6 * (μ 12 x1.toNatClampNeg)) + (μ 13 x1.toNatClampNeg)), .ref (a 6)]) rfl ?_
        refine lv_aload_n hx hb d_M_end_104 rfl (lv_at hl 1 rfl) ?_
        refine mg_14 h0 hw d_M_end_105 ?_
        refine lv_iload_n hx hb d_M_end_108 rfl (lv_at hl 2 rfl) ?_
        obtain ⟨hi_12, hok⟩ := hok
        refine ml_14 h0 hw hi_12 d_M_end_109 ?_
        refine W.eq (g2 := F0 m 110 ls [.int (μ 14 x1.toNatClampNeg), .int (μ 6 ((6 * (μ 12 x1.toNatClampNeg)) + (μ 13 x1.toNatClampNeg)).toNatClampNeg), .int ((6 * (μ 12 x1.toNatClampNeg)) + (μ 13 x1.toNatClampNeg)), .ref (a 6)]) rfl ?_
        refine lv_iadd hx hb d_M_end_110 ?_
        obtain ⟨hi_13, hok⟩ := hok
        refine ms_6 h0 hw hi_13 d_M_end_111 (fun H locs hw => ?_)
        exact rt_v h0 hw hr hlocks (u2 (u2 (u2 (u2 μ 0 0 0) 0 0 0) 15 x1.toNatClampNeg (vp_nar .boolean 1)) 6 ((6 * (μ 12 x1.toNatClampNeg)) + (μ 13 x1.toNatClampNeg)).toNatClampNeg ((μ 6 ((6 * (μ 12 x1.toNatClampNeg)) + (μ 13 x1.toNatClampNeg)).toNatClampNeg) + (μ 14 x1.toNatClampNeg))) hF rfl d_M_end_112 (Nat.le_refl 0) (Nat.le_refl 0)
      · have hok := hok.2 c_9
        have hF := (if_neg c_9).symm.trans hF
        refine lv_iconst (v := 2) hx hb d_M_end_74 (by decide) ?_
        refine lv_goto (tgt := 79) hx hb d_M_end_75 (by decide) ?_
        refine mp_0 h0 hw d_M_end_79 (fun H locs hw => ?_)
        refine lv_aload_n hx hb d_M_end_82 rfl (lv_at hl 1 rfl) ?_
        refine mg_0 h0 hw d_M_end_83 ?_
        refine W.eq (g2 := F0 m 86 ls [.int 2]) rfl ?_
        refine lv_if_le (tgt := 90) hx hb d_M_end_86 (by decide) (fun c_0 => absurd c_0 (by decide)) (fun _ => ?_)
        exact rt_v h0 hw hr hlocks (u2 (u2 μ 0 0 0) 0 0 2) hF rfl d_M_end_89 (Nat.le_refl 0) (Nat.le_refl 0)
  · have hok := hok.1 c_2
    have hF := (if_pos c_2).symm.trans hF
    refine lv_iconst (v := 1) hx hb d_M_end_13 (by decide) ?_
    refine lv_goto (tgt := 18) hx hb d_M_end_14 (by decide) ?_
    refine mp_0 h0 hw d_M_end_18 (fun H locs hw => ?_)
    refine lv_aload_n hx hb d_M_end_21 rfl (lv_at hl 0 rfl) ?_
    refine mg_0 h0 hw d_M_end_22 ?_
    refine W.eq (g2 := F0 m 25 ls [.int 1]) rfl ?_
    refine lv_if_le (tgt := 29) hx hb d_M_end_25 (by decide) (fun c_0 => absurd c_0 (by decide)) (fun _ => ?_)
    exact rt_v h0 hw hr hlocks (u2 μ 0 0 1) hF rfl d_M_end_28 (Nat.le_refl 0) (Nat.le_refl 0)
set_option maxHeartbeats 4000000 in
set_option maxRecDepth 100000 in
theorem cM_moves (l : Launch) (D : va_G) (tc : Nat → ClassId) (a : Nat → Nat) (Y : va_W) (sz : Nat) (x1 : Int32) (μ : Nat → Nat → Int32) {F : Int32 × (Nat → Nat → Int32)} (hok : kM_moves x1 μ) (hF : fM_moves x1 μ = F) : Met l y_M_moves (Cond.code y_M_moves b_M_moves 2 (some .int) :: gw) ({ frames := 2, cells := 0, slots := 0, locals := 43 } : Room) (va_Pc [.ref (a 0), .int x1] (pW D tc (mo tc a μ ++ Y) sz)) (va_Qi (fun r u => (r, u) = F) (fun u t => qW D tc (va_A (mo tc a μ ++ Y) sz) (mo tc a u ++ Y) t) (va_A (mo tc a μ ++ Y) sz)) 0 0 (va_A (mo tc a μ ++ Y) sz) := by
  refine en_W (by decide) (Nat.le_of_ble_eq_true rfl) ?_
  intro p e s m args below meth c ls h0 hr hlocks hin hsz hw hl
  obtain ⟨hx, hb, hml, hown, hts, hK⟩ := id h0
  have hA : ∀ q : Nat, s.heap.size ≤ q → (va_A (mo tc a μ ++ Y) sz) q := fun q h => Or.inr (by rw [← hsz]; exact h)
  generalize va_A (mo tc a μ ++ Y) sz = A at hw hA ⊢
  obtain ⟨H, eH⟩ : ∃ z, z = s.heap := ⟨_, rfl⟩
  obtain ⟨locs, eL⟩ : ∃ z : List Loc, z = [] := ⟨_, rfl⟩
  have hw : wH D A s.heap (mo tc a μ ++ Y) H locs := by rw [eH, eL]; exact hw
  show W p l e _ s m _ below meth c s.heap [] 0 0 _ _
  have gl : W p l e ({ frames := 2, cells := 0, slots := 0, locals := 43 } : Room) s m args below meth c H locs 0 0 (MQ below (va_Qi (fun r u => (r, u) = F) (fun u t => qW D tc A (mo tc a u ++ Y) t) A) args s 0 0 A) (F0 m 0 ls []) := ?_
  · rw [eH, eL] at gl; exact gl
  have hl : lv_has ls 2 [(0, .ref (a 0)), (1, .int x1)] := hl
  unfold kM_moves at hok
  unfold fM_moves at hF
  refine lv_aload_n hx hb d_M_moves_0 rfl (lv_at hl 0 rfl) ?_
  refine lv_aload_n hx hb d_M_moves_1 rfl (lv_at hl 0 rfl) ?_
  refine lv_iload_n hx hb d_M_moves_2 rfl (lv_at hl 1 rfl) ?_
  obtain ⟨hi_1, hok⟩ := hok
  refine cv_p (n := 1) (C := "CountRoundsModel") (b := a 0) (q0 := 0) (ci := 4) (As := [.int x1]) (rest := [.ref (a 0)]) h0 hw (cM_isPlace l D tc a Y H.size x1 μ hi_1 rfl) (gd_V wd_717 wd_719 (gw_s 22 rfl rfl) wd_3 wd_720) (by decide +kernel) ⟨rfl, rfl, Nat.le_of_ble_eq_true rfl, Nat.le_of_ble_eq_true rfl, Nat.le_of_ble_eq_true rfl, Nat.le_of_ble_eq_true rfl⟩ rfl rfl rfl hl.1 rfl (Nat.le_of_ble_eq_true rfl) d_M_moves_3 ?_
  refine lv_if_eq (tgt := 13) hx hb d_M_moves_6 (by decide) (fun c_2 => ?_) (fun c_2 => ?_)
  · have hok := hok.1 c_2
    have hF := (if_pos c_2).symm.trans hF
    refine lv_iconst (v := 1) hx hb d_M_moves_13 (by decide) ?_
    refine mp_0 h0 hw d_M_moves_14 (fun H locs hw => ?_)
    refine lv_aload_n hx hb d_M_moves_17 rfl (lv_at hl 0 rfl) ?_
    refine mg_0 h0 hw d_M_moves_18 ?_
    refine W.eq (g2 := F0 m 21 ls [.int 1]) rfl ?_
    refine lv_if_le (tgt := 28) hx hb d_M_moves_21 (by decide) (fun c_0 => absurd c_0 (by decide)) (fun _ => ?_)
    refine lv_iconst (v := 0) hx hb d_M_moves_24 (by decide) ?_
    refine lv_goto (tgt := 33) hx hb d_M_moves_25 (by decide) ?_
    exact rt_i h0 hw hr hlocks rfl (u2 μ 0 0 1) hF rfl d_M_moves_33 (Nat.le_refl 0) (Nat.le_refl 0)
  · have hok := hok.2 c_2
    have hF := (if_neg c_2).symm.trans hF
    refine lv_iconst (v := 0) hx hb d_M_moves_9 (by decide) ?_
    refine lv_goto (tgt := 14) hx hb d_M_moves_10 (by decide) ?_
    refine mp_0 h0 hw d_M_moves_14 (fun H locs hw => ?_)
    refine lv_aload_n hx hb d_M_moves_17 rfl (lv_at hl 0 rfl) ?_
    refine mg_0 h0 hw d_M_moves_18 ?_
    refine W.eq (g2 := F0 m 21 ls [.int 0]) rfl ?_
    refine lv_if_le (tgt := 28) hx hb d_M_moves_21 (by decide) (fun _ => ?_) (fun c_0 => absurd c_0 (by decide))
    refine lv_aload_n hx hb d_M_moves_28 rfl (lv_at hl 0 rfl) ?_
    refine lv_iload_n hx hb d_M_moves_29 rfl (lv_at hl 1 rfl) ?_
    obtain ⟨hi_3, hok⟩ := hok
    refine cv_p (n := 1) (C := "CountRoundsModel") (b := a 0) (q0 := 0) (ci := 4) (As := [.int x1]) (rest := []) h0 hw (cM_openAt l D tc a Y H.size x1 (u2 μ 0 0 0) hi_3 rfl) (gd_V wd_756 wd_758 (gw_s 23 rfl rfl) wd_3 wd_759) (by decide +kernel) ⟨rfl, rfl, Nat.le_of_ble_eq_true rfl, Nat.le_of_ble_eq_true rfl, Nat.le_of_ble_eq_true rfl, Nat.le_of_ble_eq_true rfl⟩ rfl rfl rfl hl.1 rfl (Nat.le_of_ble_eq_true rfl) d_M_moves_30 ?_
    exact rt_i h0 hw hr hlocks rfl (u2 μ 0 0 0) hF rfl d_M_moves_33 (Nat.le_refl 0) (Nat.le_refl 0)
set_option maxHeartbeats 4000000 in
set_option maxRecDepth 100000 in
theorem cM_share (l : Launch) (D : va_G) (tc : Nat → ClassId) (a : Nat → Nat) (Y : va_W) (sz : Nat) (x1 : Int32) (μ : Nat → Nat → Int32) {F : Int32 × (Nat → Nat → Int32)} (hok : kM_share x1 μ) (hF : fM_share x1 μ = F) : Met l y_M_share (Cond.code y_M_share b_M_share 3 (some .int) :: gw) ({ frames := 1, cells := 0, slots := 0, locals := 24 } : Room) (va_Pc [.ref (a 0), .int x1] (pW D tc (mo tc a μ ++ Y) sz)) (va_Qi (fun r u => (r, u) = F) (fun u t => qW D tc (va_A (mo tc a μ ++ Y) sz) (mo tc a u ++ Y) t) (va_A (mo tc a μ ++ Y) sz)) 0 0 (va_A (mo tc a μ ++ Y) sz) := by
  refine en_W (by decide) (Nat.le_of_ble_eq_true rfl) ?_
  intro p e s m args below meth c ls h0 hr hlocks hin hsz hw hl
  obtain ⟨hx, hb, hml, hown, hts, hK⟩ := id h0
  have hA : ∀ q : Nat, s.heap.size ≤ q → (va_A (mo tc a μ ++ Y) sz) q := fun q h => Or.inr (by rw [← hsz]; exact h)
  generalize va_A (mo tc a μ ++ Y) sz = A at hw hA ⊢
  obtain ⟨H, eH⟩ : ∃ z, z = s.heap := ⟨_, rfl⟩
  obtain ⟨locs, eL⟩ : ∃ z : List Loc, z = [] := ⟨_, rfl⟩
  have hw : wH D A s.heap (mo tc a μ ++ Y) H locs := by rw [eH, eL]; exact hw
  show W p l e _ s m _ below meth c s.heap [] 0 0 _ _
  have gl : W p l e ({ frames := 1, cells := 0, slots := 0, locals := 24 } : Room) s m args below meth c H locs 0 0 (MQ below (va_Qi (fun r u => (r, u) = F) (fun u t => qW D tc A (mo tc a u ++ Y) t) A) args s 0 0 A) (F0 m 0 ls []) := ?_
  · rw [eH, eL] at gl; exact gl
  have hl : lv_has ls 3 [(0, .ref (a 0)), (1, .int x1)] := hl
  unfold kM_share at hok
  unfold fM_share at hF
  refine lv_aload_n hx hb d_M_share_0 rfl (lv_at hl 0 rfl) ?_
  refine lv_iload_n hx hb d_M_share_1 rfl (lv_at hl 1 rfl) ?_
  refine lv_iconst (v := 0) hx hb d_M_share_2 (by decide) ?_
  refine lv_iconst (v := 1) hx hb d_M_share_3 (by decide) ?_
  obtain ⟨hi_1, hok⟩ := hok
  refine cs_p (n := 3) (As := [.int x1, .int 0, .int 1]) (rest := [.ref (a 0)]) hx hb hml hown hts (cM_in l x1 0 1 hi_1 rfl) (gd_S wd_710 wd_711 wd_3 wd_712) (by decide +kernel) ⟨rfl, rfl, Nat.le_of_ble_eq_true rfl, Nat.le_of_ble_eq_true rfl, Nat.le_of_ble_eq_true rfl, Nat.le_of_ble_eq_true rfl⟩ rfl hl.1 rfl (Nat.le_of_ble_eq_true rfl) d_M_share_4 ?_
  refine lv_if_ne (tgt := 14) hx hb d_M_share_7 (by decide) (fun c_2 => ?_) (fun c_2 => ?_)
  · have hok := hok.2 c_2
    have hF := (if_neg c_2).symm.trans hF
    refine lv_aload_n hx hb d_M_share_14 rfl (lv_at hl 0 rfl) ?_
    refine mg_26 h0 hw d_M_share_15 ?_
    refine lv_if_ne (tgt := 25) hx hb d_M_share_18 (by decide) (fun c_3 => ?_) (fun c_3 => ?_)
    · have hok := hok.2 c_3
      have hF := (if_neg c_3).symm.trans hF
      refine lv_iconst (v := 0) hx hb d_M_share_25 (by decide) ?_
      refine mp_0 h0 hw d_M_share_26 (fun H locs hw => ?_)
      refine lv_aload_n hx hb d_M_share_29 rfl (lv_at hl 0 rfl) ?_
      refine mg_0 h0 hw d_M_share_30 ?_
      refine W.eq (g2 := F0 m 33 ls [.int 0]) rfl ?_
      refine lv_if_le (tgt := 38) hx hb d_M_share_33 (by decide) (fun _ => ?_) (fun c_0 => absurd c_0 (by decide))
      refine lv_aload_n hx hb d_M_share_38 rfl (lv_at hl 0 rfl) ?_
      refine mg_27 h0 hw d_M_share_39 ?_
      refine W.eq (g2 := F0 m 42 ls [.int (μ 27 0)]) rfl ?_
      refine lv_aload_n hx hb d_M_share_42 rfl (lv_at hl 0 rfl) ?_
      refine mg_26 h0 hw d_M_share_43 ?_
      refine W.eq (g2 := F0 m 46 ls [.int (μ 26 0), .int (μ 27 0)]) rfl ?_
      obtain ⟨hi_4, hok⟩ := hok
      refine cs_p (n := 2) (As := [.int (μ 27 0), .int (μ 26 0)]) (rest := []) hx hb hml hown hts (cM_divisor l (μ 27 0) (μ 26 0) hi_4 rfl) (gd_S wd_849 wd_850 wd_3 wd_851) (by decide +kernel) ⟨rfl, rfl, Nat.le_of_ble_eq_true rfl, Nat.le_of_ble_eq_true rfl, Nat.le_of_ble_eq_true rfl, Nat.le_of_ble_eq_true rfl⟩ rfl hl.1 rfl (Nat.le_of_ble_eq_true rfl) d_M_share_46 ?_
      refine lv_istore_n (lv' := [(2, .int (fM_divisor (μ 27 0) (μ 26 0))), (0, .ref (a 0)), (1, .int x1)]) hx hb d_M_share_49 rfl hl (by decide) rfl (fun ls hl => ?_)
      refine lv_iload_n hx hb d_M_share_50 rfl (lv_at hl 2 rfl) ?_
      refine lv_if_ne (tgt := 63) hx hb d_M_share_51 (by decide) (fun c_5 => ?_) (fun c_5 => ?_)
      · have hok := hok.2 c_5
        have hF := (if_neg c_5).symm.trans hF
        refine lv_aload_n hx hb d_M_share_63 rfl (lv_at hl 1 rfl) ?_
        refine mg_26 h0 hw d_M_share_64 ?_
        refine W.eq (g2 := F0 m 67 ls [.int (μ 26 0)]) rfl ?_
        refine lv_iload_n hx hb d_M_share_67 rfl (lv_at hl 0 rfl) ?_
        obtain ⟨hi_6, hok⟩ := hok
        refine lv_idiv hx hb d_M_share_68 hi_6 ?_
        exact rt_i h0 hw hr hlocks rfl (u2 μ 0 0 0) hF rfl d_M_share_69 (Nat.le_refl 0) (Nat.le_refl 0)
      · have hok := hok.1 c_5
        have hF := (if_pos c_5).symm.trans hF
        refine lv_aload_n hx hb d_M_share_54 rfl (lv_at hl 1 rfl) ?_
        refine mg_27 h0 hw d_M_share_55 ?_
        refine W.eq (g2 := F0 m 58 ls [.int (μ 27 0)]) rfl ?_
        refine lv_iload_n hx hb d_M_share_58 rfl (lv_at hl 0 rfl) ?_
        obtain ⟨hi_7, hok⟩ := hok
        refine lv_idiv hx hb d_M_share_59 hi_7 ?_
        refine lv_goto (tgt := 69) hx hb d_M_share_60 (by decide) ?_
        exact rt_i h0 hw hr hlocks rfl (u2 μ 0 0 0) hF rfl d_M_share_69 (Nat.le_refl 0) (Nat.le_refl 0)
    · have hok := hok.1 c_3
      have hF := (if_pos c_3).symm.trans hF
      refine lv_iconst (v := 2) hx hb d_M_share_21 (by decide) ?_
      refine lv_goto (tgt := 26) hx hb d_M_share_22 (by decide) ?_
      refine mp_0 h0 hw d_M_share_26 (fun H locs hw => ?_)
      refine lv_aload_n hx hb d_M_share_29 rfl (lv_at hl 0 rfl) ?_
      refine mg_0 h0 hw d_M_share_30 ?_
      refine W.eq (g2 := F0 m 33 ls [.int 2]) rfl ?_
      refine lv_if_le (tgt := 38) hx hb d_M_share_33 (by decide) (fun c_0 => absurd c_0 (by decide)) (fun _ => ?_)
      refine lv_iconst (v := 0) hx hb d_M_share_36 (by decide) ?_
      exact rt_i h0 hw hr hlocks rfl (u2 μ 0 0 2) hF rfl d_M_share_37 (Nat.le_refl 0) (Nat.le_refl 0)
  · have hok := hok.1 c_2
    have hF := (if_pos c_2).symm.trans hF
    refine lv_iconst (v := 1) hx hb d_M_share_10 (by decide) ?_
    refine lv_goto (tgt := 26) hx hb d_M_share_11 (by decide) ?_
    refine mp_0 h0 hw d_M_share_26 (fun H locs hw => ?_)
    refine lv_aload_n hx hb d_M_share_29 rfl (lv_at hl 0 rfl) ?_
    refine mg_0 h0 hw d_M_share_30 ?_
    refine W.eq (g2 := F0 m 33 ls [.int 1]) rfl ?_
    refine lv_if_le (tgt := 38) hx hb d_M_share_33 (by decide) (fun c_0 => absurd c_0 (by decide)) (fun _ => ?_)
    refine lv_iconst (v := 0) hx hb d_M_share_36 (by decide) ?_
    exact rt_i h0 hw hr hlocks rfl (u2 μ 0 0 1) hF rfl d_M_share_37 (Nat.le_refl 0) (Nat.le_refl 0)
set_option maxHeartbeats 4000000 in
set_option maxRecDepth 100000 in
theorem cM_last (l : Launch) (D : va_G) (tc : Nat → ClassId) (a : Nat → Nat) (Y : va_W) (sz : Nat) (x1 : Int32) (μ : Nat → Nat → Int32) {F : Int32 × (Nat → Nat → Int32)} (hok : kM_last x1 μ) (hF : fM_last x1 μ = F) : Met l y_M_last (Cond.code y_M_last b_M_last 2 (some .int) :: gw) ({ frames := 2, cells := 0, slots := 0, locals := 43 } : Room) (va_Pc [.ref (a 0), .int x1] (pW D tc (mo tc a μ ++ Y) sz)) (va_Qi (fun r u => (r, u) = F) (fun u t => qW D tc (va_A (mo tc a μ ++ Y) sz) (mo tc a u ++ Y) t) (va_A (mo tc a μ ++ Y) sz)) 0 0 (va_A (mo tc a μ ++ Y) sz) := by
  refine en_W (by decide) (Nat.le_of_ble_eq_true rfl) ?_
  intro p e s m args below meth c ls h0 hr hlocks hin hsz hw hl
  obtain ⟨hx, hb, hml, hown, hts, hK⟩ := id h0
  have hA : ∀ q : Nat, s.heap.size ≤ q → (va_A (mo tc a μ ++ Y) sz) q := fun q h => Or.inr (by rw [← hsz]; exact h)
  generalize va_A (mo tc a μ ++ Y) sz = A at hw hA ⊢
  obtain ⟨H, eH⟩ : ∃ z, z = s.heap := ⟨_, rfl⟩
  obtain ⟨locs, eL⟩ : ∃ z : List Loc, z = [] := ⟨_, rfl⟩
  have hw : wH D A s.heap (mo tc a μ ++ Y) H locs := by rw [eH, eL]; exact hw
  show W p l e _ s m _ below meth c s.heap [] 0 0 _ _
  have gl : W p l e ({ frames := 2, cells := 0, slots := 0, locals := 43 } : Room) s m args below meth c H locs 0 0 (MQ below (va_Qi (fun r u => (r, u) = F) (fun u t => qW D tc A (mo tc a u ++ Y) t) A) args s 0 0 A) (F0 m 0 ls []) := ?_
  · rw [eH, eL] at gl; exact gl
  have hl : lv_has ls 2 [(0, .ref (a 0)), (1, .int x1)] := hl
  unfold kM_last at hok
  unfold fM_last at hF
  refine lv_aload_n hx hb d_M_last_0 rfl (lv_at hl 0 rfl) ?_
  refine lv_aload_n hx hb d_M_last_1 rfl (lv_at hl 0 rfl) ?_
  refine lv_iload_n hx hb d_M_last_2 rfl (lv_at hl 1 rfl) ?_
  obtain ⟨hi_1, hok⟩ := hok
  refine cv_p (n := 1) (C := "CountRoundsModel") (b := a 0) (q0 := 0) (ci := 4) (As := [.int x1]) (rest := [.ref (a 0)]) h0 hw (cM_isPlace l D tc a Y H.size x1 μ hi_1 rfl) (gd_V wd_717 wd_719 (gw_s 22 rfl rfl) wd_3 wd_720) (by decide +kernel) ⟨rfl, rfl, Nat.le_of_ble_eq_true rfl, Nat.le_of_ble_eq_true rfl, Nat.le_of_ble_eq_true rfl, Nat.le_of_ble_eq_true rfl⟩ rfl rfl rfl hl.1 rfl (Nat.le_of_ble_eq_true rfl) d_M_last_3 ?_
  refine lv_if_eq (tgt := 13) hx hb d_M_last_6 (by decide) (fun c_2 => ?_) (fun c_2 => ?_)
  · have hok := hok.1 c_2
    have hF := (if_pos c_2).symm.trans hF
    refine lv_iconst (v := 1) hx hb d_M_last_13 (by decide) ?_
    refine mp_0 h0 hw d_M_last_14 (fun H locs hw => ?_)
    refine lv_aload_n hx hb d_M_last_17 rfl (lv_at hl 0 rfl) ?_
    refine mg_0 h0 hw d_M_last_18 ?_
    refine W.eq (g2 := F0 m 21 ls [.int 1]) rfl ?_
    refine lv_if_le (tgt := 28) hx hb d_M_last_21 (by decide) (fun c_0 => absurd c_0 (by decide)) (fun _ => ?_)
    refine lv_iconst (v := 0) hx hb d_M_last_24 (by decide) ?_
    refine lv_goto (tgt := 34) hx hb d_M_last_25 (by decide) ?_
    exact rt_i h0 hw hr hlocks rfl (u2 μ 0 0 1) hF rfl d_M_last_34 (Nat.le_refl 0) (Nat.le_refl 0)
  · have hok := hok.2 c_2
    have hF := (if_neg c_2).symm.trans hF
    refine lv_iconst (v := 0) hx hb d_M_last_9 (by decide) ?_
    refine lv_goto (tgt := 14) hx hb d_M_last_10 (by decide) ?_
    refine mp_0 h0 hw d_M_last_14 (fun H locs hw => ?_)
    refine lv_aload_n hx hb d_M_last_17 rfl (lv_at hl 0 rfl) ?_
    refine mg_0 h0 hw d_M_last_18 ?_
    refine W.eq (g2 := F0 m 21 ls [.int 0]) rfl ?_
    refine lv_if_le (tgt := 28) hx hb d_M_last_21 (by decide) (fun _ => ?_) (fun c_0 => absurd c_0 (by decide))
    refine lv_aload_n hx hb d_M_last_28 rfl (lv_at hl 0 rfl) ?_
    refine mg_5 h0 hw d_M_last_29 ?_
    refine lv_iload_n hx hb d_M_last_32 rfl (lv_at hl 1 rfl) ?_
    obtain ⟨hi_3, hok⟩ := hok
    refine ml_5 h0 hw hi_3 d_M_last_33 ?_
    refine W.eq (g2 := F0 m 34 ls [.int (μ 5 x1.toNatClampNeg)]) rfl ?_
    exact rt_i h0 hw hr hlocks rfl (u2 μ 0 0 0) hF rfl d_M_last_34 (Nat.le_refl 0) (Nat.le_refl 0)
set_option maxHeartbeats 4000000 in
set_option maxRecDepth 100000 in
theorem cM_due (l : Launch) (D : va_G) (tc : Nat → ClassId) (a : Nat → Nat) (Y : va_W) (sz : Nat) (x1 : Int32) (μ : Nat → Nat → Int32) {F : Int32 × (Nat → Nat → Int32)} (hok : kM_due x1 μ) (hF : fM_due x1 μ = F) : Met l y_M_due (Cond.code y_M_due b_M_due 4 (some .int) :: gw) ({ frames := 1, cells := 0, slots := 0, locals := 22 } : Room) (va_Pc [.ref (a 0), .int x1] (pW D tc (mo tc a μ ++ Y) sz)) (va_Qi (fun r u => (r, u) = F) (fun u t => qW D tc (va_A (mo tc a μ ++ Y) sz) (mo tc a u ++ Y) t) (va_A (mo tc a μ ++ Y) sz)) 0 0 (va_A (mo tc a μ ++ Y) sz) := by
  refine en_W (by decide) (Nat.le_of_ble_eq_true rfl) ?_
  intro p e s m args below meth c ls h0 hr hlocks hin hsz hw hl
  obtain ⟨hx, hb, hml, hown, hts, hK⟩ := id h0
  have hA : ∀ q : Nat, s.heap.size ≤ q → (va_A (mo tc a μ ++ Y) sz) q := fun q h => Or.inr (by rw [← hsz]; exact h)
  generalize va_A (mo tc a μ ++ Y) sz = A at hw hA ⊢
  obtain ⟨H, eH⟩ : ∃ z, z = s.heap := ⟨_, rfl⟩
  obtain ⟨locs, eL⟩ : ∃ z : List Loc, z = [] := ⟨_, rfl⟩
  have hw : wH D A s.heap (mo tc a μ ++ Y) H locs := by rw [eH, eL]; exact hw
  show W p l e _ s m _ below meth c s.heap [] 0 0 _ _
  have gl : W p l e ({ frames := 1, cells := 0, slots := 0, locals := 22 } : Room) s m args below meth c H locs 0 0 (MQ below (va_Qi (fun r u => (r, u) = F) (fun u t => qW D tc A (mo tc a u ++ Y) t) A) args s 0 0 A) (F0 m 0 ls []) := ?_
  · rw [eH, eL] at gl; exact gl
  have hl : lv_has ls 4 [(0, .ref (a 0)), (1, .int x1)] := hl
  unfold kM_due at hok
  unfold fM_due at hF
  refine lv_aload_n hx hb d_M_due_0 rfl (lv_at hl 0 rfl) ?_
  refine lv_iload_n hx hb d_M_due_1 rfl (lv_at hl 1 rfl) ?_
  refine lv_iconst (v := 0) hx hb d_M_due_2 (by decide) ?_
  refine lv_sipush (v := 10000) hx hb d_M_due_3 (by decide) ?_
  obtain ⟨hi_1, hok⟩ := hok
  refine cs_p (n := 3) (As := [.int x1, .int 0, .int 10000]) (rest := [.ref (a 0)]) hx hb hml hown hts (cM_in l x1 0 10000 hi_1 rfl) (gd_S wd_710 wd_711 wd_3 wd_712) (by decide +kernel) ⟨rfl, rfl, Nat.le_of_ble_eq_true rfl, Nat.le_of_ble_eq_true rfl, Nat.le_of_ble_eq_true rfl, Nat.le_of_ble_eq_true rfl⟩ rfl hl.1 rfl (Nat.le_of_ble_eq_true rfl) d_M_due_6 ?_
  refine lv_if_eq (tgt := 16) hx hb d_M_due_9 (by decide) (fun c_2 => ?_) (fun c_2 => ?_)
  · have hok := hok.1 c_2
    have hF := (if_pos c_2).symm.trans hF
    refine lv_iconst (v := 1) hx hb d_M_due_16 (by decide) ?_
    refine mp_0 h0 hw d_M_due_17 (fun H locs hw => ?_)
    refine lv_iconst (v := 0) hx hb d_M_due_20 (by decide) ?_
    refine lv_istore_n (lv' := [(2, .int 0), (0, .ref (a 0)), (1, .int x1)]) hx hb d_M_due_21 rfl hl (by decide) rfl (fun ls hl => ?_)
    refine lv_iconst (v := 0) hx hb d_M_due_22 (by decide) ?_
    refine lv_istore_n (lv' := [(3, .int 0), (2, .int 0), (0, .ref (a 0)), (1, .int x1)]) hx hb d_M_due_23 rfl hl (by decide) rfl (fun ls hl => ?_)
    have hx_24 : ∀ (x1 : Int32) (x2 : Int32) (x3 : Int32) (μ : Nat → Nat → Int32) (H : Heap) (locs : List Loc) (ls : Array Slot), wH D A s.heap (mo tc a μ ++ Y) H locs → lv_has ls 4 [(0, .ref (a 0)), (1, .int x1), (2, .int x2), (3, .int x3)] → kM_due_24x x1 x2 x3 μ → fM_due_24x x1 x2 x3 μ = F → W p l e ({ frames := 1, cells := 0, slots := 0, locals := 22 } : Room) s m args below meth c H locs 0 0 (MQ below (va_Qi (fun r u => (r, u) = F) (fun u t => qW D tc A (mo tc a u ++ Y) t) A) args s 0 0 A) (F0 m 85 ls []) := by
      intro x1 x2 x3 μ H locs ls hw hl hok hF
      unfold kM_due_24x at hok
      unfold fM_due_24x at hF
      refine lv_iload_n hx hb d_M_due_85 rfl (lv_at hl 2 rfl) ?_
      exact rt_i h0 hw hr hlocks rfl μ hF rfl d_M_due_86 (Nat.le_refl 0) (Nat.le_refl 0)
    have lp_24 : ∀ (n24 : Nat) (x1 : Int32) (x2 : Int32) (x3 : Int32) (μ : Nat → Nat → Int32) (H : Heap) (locs : List Loc) (ls : Array Slot), wH D A s.heap (mo tc a μ ++ Y) H locs → lv_has ls 4 [(0, .ref (a 0)), (1, .int x1), (2, .int x2), (3, .int x3)] → kM_due_24 kM_due_24x n24 x1 x2 x3 μ → fM_due_24 fM_due_24x n24 x1 x2 x3 μ = F → W p l e ({ frames := 1, cells := 0, slots := 0, locals := 22 } : Room) s m args below meth c H locs 0 0 (MQ below (va_Qi (fun r u => (r, u) = F) (fun u t => qW D tc A (mo tc a u ++ Y) t) A) args s 0 0 A) (F0 m 24 ls []) := by
      intro n24
      induction n24 with
      | zero =>
        intro x1 x2 x3 μ H locs ls hw hl hok hF
        unfold kM_due_24 at hok
        exact hok.elim
      | succ n24 ih_24 =>
        intro x1 x2 x3 μ H locs ls hw hl hok hF
        unfold kM_due_24 at hok
        unfold fM_due_24 at hF
        refine lv_iload_n hx hb d_M_due_24 rfl (lv_at hl 3 rfl) ?_
        refine lv_aload_n hx hb d_M_due_25 rfl (lv_at hl 0 rfl) ?_
        refine mg_3 h0 hw d_M_due_26 ?_
        refine lv_icmp_ge (tgt := 85) hx hb d_M_due_29 (by decide) (fun c_3 => ?_) (fun c_3 => ?_)
        · have hok := hok.1 c_3
          have hF := (if_pos c_3).symm.trans hF
          exact hx_24 x1 x2 x3 μ H locs ls hw (lv_sub hl [0, 1, 2, 3] rfl) hok hF
        · have hok := hok.2 c_3
          have hF := (if_neg c_3).symm.trans hF
          refine lv_aload_n hx hb d_M_due_32 rfl (lv_at hl 0 rfl) ?_
          refine mg_0 h0 hw d_M_due_33 ?_
          refine lv_if_ne (tgt := 85) hx hb d_M_due_36 (by decide) (fun c_4 => ?_) (fun c_4 => ?_)
          · have hok := hok.2 c_4
            have hF := (if_neg c_4).symm.trans hF
            exact hx_24 x1 x2 x3 μ H locs ls hw (lv_sub hl [0, 1, 2, 3] rfl) hok hF
          · have hok := hok.1 c_4
            have hF := (if_pos c_4).symm.trans hF
            refine lv_iload_n hx hb d_M_due_39 rfl (lv_at hl 2 rfl) ?_
            refine lv_aload_n hx hb d_M_due_40 rfl (lv_at hl 0 rfl) ?_
            refine mg_5 h0 hw d_M_due_41 ?_
            refine lv_iload_n hx hb d_M_due_44 rfl (lv_at hl 3 rfl) ?_
            obtain ⟨hi_5, hok⟩ := hok
            refine ml_5 h0 hw hi_5 d_M_due_45 ?_
            refine lv_iconst (v := (-1)) hx hb d_M_due_46 (by decide) ?_
            refine lv_icmp_eq (tgt := 72) hx hb d_M_due_47 (by decide) (fun c_6 => ?_) (fun c_6 => ?_)
            · have hok := hok.1 c_6
              have hF := (if_pos c_6).symm.trans hF
              refine lv_iconst (v := 1) hx hb d_M_due_72 (by decide) ?_
              refine lv_goto (tgt := 77) hx hb d_M_due_73 (by decide) ?_
              refine lv_iadd hx hb d_M_due_77 ?_
              refine lv_istore_n (lv' := [(2, .int (x2 + 1)), (0, .ref (a 0)), (1, .int x1), (3, .int x3)]) hx hb d_M_due_78 rfl hl (by decide) rfl (fun ls hl => ?_)
              refine lv_iinc (v := x3 + 1) (lv' := [(3, .int (x3 + 1)), (2, .int (x2 + 1)), (0, .ref (a 0)), (1, .int x1)]) hx hb d_M_due_79 hl (k := 3) rfl rfl (by decide) rfl (fun ls hl => ?_)
              refine lv_goto (tgt := 24) hx hb d_M_due_82 (by decide) ?_
              exact ih_24 x1 (x2 + 1) (x3 + 1) μ H locs ls hw (lv_sub hl [2, 3, 1, 0] rfl) hok hF
            · have hok := hok.2 c_6
              have hF := (if_neg c_6).symm.trans hF
              refine lv_iload_n hx hb d_M_due_50 rfl (lv_at hl 1 rfl) ?_
              refine lv_aload_n hx hb d_M_due_51 rfl (lv_at hl 0 rfl) ?_
              refine mg_5 h0 hw d_M_due_52 ?_
              refine lv_iload_n hx hb d_M_due_55 rfl (lv_at hl 3 rfl) ?_
              obtain ⟨hi_7, hok⟩ := hok
              refine ml_5 h0 hw hi_7 d_M_due_56 ?_
              refine lv_isub hx hb d_M_due_57 ?_
              refine lv_aload_n hx hb d_M_due_58 rfl (lv_at hl 0 rfl) ?_
              refine mg_7 h0 hw d_M_due_59 ?_
              refine lv_aload_n hx hb d_M_due_62 rfl (lv_at hl 0 rfl) ?_
              refine mg_4 h0 hw d_M_due_63 ?_
              refine lv_iload_n hx hb d_M_due_66 rfl (lv_at hl 3 rfl) ?_
              obtain ⟨hi_8, hok⟩ := hok
              refine ml_4 h0 hw hi_8 d_M_due_67 ?_
              obtain ⟨hi_9, hok⟩ := hok
              refine ml_7 h0 hw hi_9 d_M_due_68 ?_
              refine lv_icmp_lt (tgt := 76) hx hb d_M_due_69 (by decide) (fun c_10 => ?_) (fun c_10 => ?_)
              · have hok := hok.1 c_10
                have hF := (if_pos c_10).symm.trans hF
                refine lv_iconst (v := 0) hx hb d_M_due_76 (by decide) ?_
                refine lv_iadd hx hb d_M_due_77 ?_
                refine lv_istore_n (lv' := [(2, .int (x2 + 0)), (0, .ref (a 0)), (1, .int x1), (3, .int x3)]) hx hb d_M_due_78 rfl hl (by decide) rfl (fun ls hl => ?_)
                refine lv_iinc (v := x3 + 1) (lv' := [(3, .int (x3 + 1)), (2, .int (x2 + 0)), (0, .ref (a 0)), (1, .int x1)]) hx hb d_M_due_79 hl (k := 3) rfl rfl (by decide) rfl (fun ls hl => ?_)
                refine lv_goto (tgt := 24) hx hb d_M_due_82 (by decide) ?_
                exact ih_24 x1 (x2 + 0) (x3 + 1) μ H locs ls hw (lv_sub hl [2, 3, 1, 0] rfl) hok hF
              · have hok := hok.2 c_10
                have hF := (if_neg c_10).symm.trans hF
                refine lv_iconst (v := 1) hx hb d_M_due_72 (by decide) ?_
                refine lv_goto (tgt := 77) hx hb d_M_due_73 (by decide) ?_
                refine lv_iadd hx hb d_M_due_77 ?_
                refine lv_istore_n (lv' := [(2, .int (x2 + 1)), (0, .ref (a 0)), (1, .int x1), (3, .int x3)]) hx hb d_M_due_78 rfl hl (by decide) rfl (fun ls hl => ?_)
                refine lv_iinc (v := x3 + 1) (lv' := [(3, .int (x3 + 1)), (2, .int (x2 + 1)), (0, .ref (a 0)), (1, .int x1)]) hx hb d_M_due_79 hl (k := 3) rfl rfl (by decide) rfl (fun ls hl => ?_)
                refine lv_goto (tgt := 24) hx hb d_M_due_82 (by decide) ?_
                exact ih_24 x1 (x2 + 1) (x3 + 1) μ H locs ls hw (lv_sub hl [2, 3, 1, 0] rfl) hok hF
    exact lp_24 200 x1 0 0 (u2 μ 0 0 1) H locs ls hw (lv_sub hl [2, 3, 1, 0] rfl) hok hF
  · have hok := hok.2 c_2
    have hF := (if_neg c_2).symm.trans hF
    refine lv_iconst (v := 0) hx hb d_M_due_12 (by decide) ?_
    refine lv_goto (tgt := 17) hx hb d_M_due_13 (by decide) ?_
    refine mp_0 h0 hw d_M_due_17 (fun H locs hw => ?_)
    refine lv_iconst (v := 0) hx hb d_M_due_20 (by decide) ?_
    refine lv_istore_n (lv' := [(2, .int 0), (0, .ref (a 0)), (1, .int x1)]) hx hb d_M_due_21 rfl hl (by decide) rfl (fun ls hl => ?_)
    refine lv_iconst (v := 0) hx hb d_M_due_22 (by decide) ?_
    refine lv_istore_n (lv' := [(3, .int 0), (2, .int 0), (0, .ref (a 0)), (1, .int x1)]) hx hb d_M_due_23 rfl hl (by decide) rfl (fun ls hl => ?_)
    have hx_24 : ∀ (x1 : Int32) (x2 : Int32) (x3 : Int32) (μ : Nat → Nat → Int32) (H : Heap) (locs : List Loc) (ls : Array Slot), wH D A s.heap (mo tc a μ ++ Y) H locs → lv_has ls 4 [(0, .ref (a 0)), (1, .int x1), (2, .int x2), (3, .int x3)] → kM_due_24x x1 x2 x3 μ → fM_due_24x x1 x2 x3 μ = F → W p l e ({ frames := 1, cells := 0, slots := 0, locals := 22 } : Room) s m args below meth c H locs 0 0 (MQ below (va_Qi (fun r u => (r, u) = F) (fun u t => qW D tc A (mo tc a u ++ Y) t) A) args s 0 0 A) (F0 m 85 ls []) := by
      intro x1 x2 x3 μ H locs ls hw hl hok hF
      unfold kM_due_24x at hok
      unfold fM_due_24x at hF
      refine lv_iload_n hx hb d_M_due_85 rfl (lv_at hl 2 rfl) ?_
      exact rt_i h0 hw hr hlocks rfl μ hF rfl d_M_due_86 (Nat.le_refl 0) (Nat.le_refl 0)
    have lp_24 : ∀ (n24 : Nat) (x1 : Int32) (x2 : Int32) (x3 : Int32) (μ : Nat → Nat → Int32) (H : Heap) (locs : List Loc) (ls : Array Slot), wH D A s.heap (mo tc a μ ++ Y) H locs → lv_has ls 4 [(0, .ref (a 0)), (1, .int x1), (2, .int x2), (3, .int x3)] → kM_due_24 kM_due_24x n24 x1 x2 x3 μ → fM_due_24 fM_due_24x n24 x1 x2 x3 μ = F → W p l e ({ frames := 1, cells := 0, slots := 0, locals := 22 } : Room) s m args below meth c H locs 0 0 (MQ below (va_Qi (fun r u => (r, u) = F) (fun u t => qW D tc A (mo tc a u ++ Y) t) A) args s 0 0 A) (F0 m 24 ls []) := by
      intro n24
      induction n24 with
      | zero =>
        intro x1 x2 x3 μ H locs ls hw hl hok hF
        unfold kM_due_24 at hok
        exact hok.elim
      | succ n24 ih_24 =>
        intro x1 x2 x3 μ H locs ls hw hl hok hF
        unfold kM_due_24 at hok
        unfold fM_due_24 at hF
        refine lv_iload_n hx hb d_M_due_24 rfl (lv_at hl 3 rfl) ?_
        refine lv_aload_n hx hb d_M_due_25 rfl (lv_at hl 0 rfl) ?_
        refine mg_3 h0 hw d_M_due_26 ?_
        refine lv_icmp_ge (tgt := 85) hx hb d_M_due_29 (by decide) (fun c_11 => ?_) (fun c_11 => ?_)
        · have hok := hok.1 c_11
          have hF := (if_pos c_11).symm.trans hF
          exact hx_24 x1 x2 x3 μ H locs ls hw (lv_sub hl [0, 1, 2, 3] rfl) hok hF
        · have hok := hok.2 c_11
          have hF := (if_neg c_11).symm.trans hF
          refine lv_aload_n hx hb d_M_due_32 rfl (lv_at hl 0 rfl) ?_
          refine mg_0 h0 hw d_M_due_33 ?_
          refine lv_if_ne (tgt := 85) hx hb d_M_due_36 (by decide) (fun c_12 => ?_) (fun c_12 => ?_)
          · have hok := hok.2 c_12
            have hF := (if_neg c_12).symm.trans hF
            exact hx_24 x1 x2 x3 μ H locs ls hw (lv_sub hl [0, 1, 2, 3] rfl) hok hF
          · have hok := hok.1 c_12
            have hF := (if_pos c_12).symm.trans hF
            refine lv_iload_n hx hb d_M_due_39 rfl (lv_at hl 2 rfl) ?_
            refine lv_aload_n hx hb d_M_due_40 rfl (lv_at hl 0 rfl) ?_
            refine mg_5 h0 hw d_M_due_41 ?_
            refine lv_iload_n hx hb d_M_due_44 rfl (lv_at hl 3 rfl) ?_
            obtain ⟨hi_13, hok⟩ := hok
            refine ml_5 h0 hw hi_13 d_M_due_45 ?_
            refine lv_iconst (v := (-1)) hx hb d_M_due_46 (by decide) ?_
            refine lv_icmp_eq (tgt := 72) hx hb d_M_due_47 (by decide) (fun c_14 => ?_) (fun c_14 => ?_)
            · have hok := hok.1 c_14
              have hF := (if_pos c_14).symm.trans hF
              refine lv_iconst (v := 1) hx hb d_M_due_72 (by decide) ?_
              refine lv_goto (tgt := 77) hx hb d_M_due_73 (by decide) ?_
              refine lv_iadd hx hb d_M_due_77 ?_
              refine lv_istore_n (lv' := [(2, .int (x2 + 1)), (0, .ref (a 0)), (1, .int x1), (3, .int x3)]) hx hb d_M_due_78 rfl hl (by decide) rfl (fun ls hl => ?_)
              refine lv_iinc (v := x3 + 1) (lv' := [(3, .int (x3 + 1)), (2, .int (x2 + 1)), (0, .ref (a 0)), (1, .int x1)]) hx hb d_M_due_79 hl (k := 3) rfl rfl (by decide) rfl (fun ls hl => ?_)
              refine lv_goto (tgt := 24) hx hb d_M_due_82 (by decide) ?_
              exact ih_24 x1 (x2 + 1) (x3 + 1) μ H locs ls hw (lv_sub hl [2, 3, 1, 0] rfl) hok hF
            · have hok := hok.2 c_14
              have hF := (if_neg c_14).symm.trans hF
              refine lv_iload_n hx hb d_M_due_50 rfl (lv_at hl 1 rfl) ?_
              refine lv_aload_n hx hb d_M_due_51 rfl (lv_at hl 0 rfl) ?_
              refine mg_5 h0 hw d_M_due_52 ?_
              refine lv_iload_n hx hb d_M_due_55 rfl (lv_at hl 3 rfl) ?_
              obtain ⟨hi_15, hok⟩ := hok
              refine ml_5 h0 hw hi_15 d_M_due_56 ?_
              refine lv_isub hx hb d_M_due_57 ?_
              refine lv_aload_n hx hb d_M_due_58 rfl (lv_at hl 0 rfl) ?_
              refine mg_7 h0 hw d_M_due_59 ?_
              refine lv_aload_n hx hb d_M_due_62 rfl (lv_at hl 0 rfl) ?_
              refine mg_4 h0 hw d_M_due_63 ?_
              refine lv_iload_n hx hb d_M_due_66 rfl (lv_at hl 3 rfl) ?_
              obtain ⟨hi_16, hok⟩ := hok
              refine ml_4 h0 hw hi_16 d_M_due_67 ?_
              obtain ⟨hi_17, hok⟩ := hok
              refine ml_7 h0 hw hi_17 d_M_due_68 ?_
              refine lv_icmp_lt (tgt := 76) hx hb d_M_due_69 (by decide) (fun c_18 => ?_) (fun c_18 => ?_)
              · have hok := hok.1 c_18
                have hF := (if_pos c_18).symm.trans hF
                refine lv_iconst (v := 0) hx hb d_M_due_76 (by decide) ?_
                refine lv_iadd hx hb d_M_due_77 ?_
                refine lv_istore_n (lv' := [(2, .int (x2 + 0)), (0, .ref (a 0)), (1, .int x1), (3, .int x3)]) hx hb d_M_due_78 rfl hl (by decide) rfl (fun ls hl => ?_)
                refine lv_iinc (v := x3 + 1) (lv' := [(3, .int (x3 + 1)), (2, .int (x2 + 0)), (0, .ref (a 0)), (1, .int x1)]) hx hb d_M_due_79 hl (k := 3) rfl rfl (by decide) rfl (fun ls hl => ?_)
                refine lv_goto (tgt := 24) hx hb d_M_due_82 (by decide) ?_
                exact ih_24 x1 (x2 + 0) (x3 + 1) μ H locs ls hw (lv_sub hl [2, 3, 1, 0] rfl) hok hF
              · have hok := hok.2 c_18
                have hF := (if_neg c_18).symm.trans hF
                refine lv_iconst (v := 1) hx hb d_M_due_72 (by decide) ?_
                refine lv_goto (tgt := 77) hx hb d_M_due_73 (by decide) ?_
                refine lv_iadd hx hb d_M_due_77 ?_
                refine lv_istore_n (lv' := [(2, .int (x2 + 1)), (0, .ref (a 0)), (1, .int x1), (3, .int x3)]) hx hb d_M_due_78 rfl hl (by decide) rfl (fun ls hl => ?_)
                refine lv_iinc (v := x3 + 1) (lv' := [(3, .int (x3 + 1)), (2, .int (x2 + 1)), (0, .ref (a 0)), (1, .int x1)]) hx hb d_M_due_79 hl (k := 3) rfl rfl (by decide) rfl (fun ls hl => ?_)
                refine lv_goto (tgt := 24) hx hb d_M_due_82 (by decide) ?_
                exact ih_24 x1 (x2 + 1) (x3 + 1) μ H locs ls hw (lv_sub hl [2, 3, 1, 0] rfl) hok hF
    exact lp_24 200 x1 0 0 (u2 μ 0 0 0) H locs ls hw (lv_sub hl [2, 3, 1, 0] rfl) hok hF
set_option maxHeartbeats 4000000 in
set_option maxRecDepth 100000 in
theorem cM_booked (l : Launch) (D : va_G) (tc : Nat → ClassId) (a : Nat → Nat) (Y : va_W) (sz : Nat) (x1 : Int32) (x2 : Int32) (μ : Nat → Nat → Int32) {F : Int32 × (Nat → Nat → Int32)} (hok : kM_booked x1 x2 μ) (hF : fM_booked x1 x2 μ = F) : Met l y_M_booked (Cond.code y_M_booked b_M_booked 3 (some .int) :: gw) ({ frames := 2, cells := 0, slots := 0, locals := 43 } : Room) (va_Pc [.ref (a 0), .int x1, .int x2] (pW D tc (mo tc a μ ++ Y) sz)) (va_Qi (fun r u => (r, u) = F) (fun u t => qW D tc (va_A (mo tc a μ ++ Y) sz) (mo tc a u ++ Y) t) (va_A (mo tc a μ ++ Y) sz)) 0 0 (va_A (mo tc a μ ++ Y) sz) := by
  refine en_W (by decide) (Nat.le_of_ble_eq_true rfl) ?_
  intro p e s m args below meth c ls h0 hr hlocks hin hsz hw hl
  obtain ⟨hx, hb, hml, hown, hts, hK⟩ := id h0
  have hA : ∀ q : Nat, s.heap.size ≤ q → (va_A (mo tc a μ ++ Y) sz) q := fun q h => Or.inr (by rw [← hsz]; exact h)
  generalize va_A (mo tc a μ ++ Y) sz = A at hw hA ⊢
  obtain ⟨H, eH⟩ : ∃ z, z = s.heap := ⟨_, rfl⟩
  obtain ⟨locs, eL⟩ : ∃ z : List Loc, z = [] := ⟨_, rfl⟩
  have hw : wH D A s.heap (mo tc a μ ++ Y) H locs := by rw [eH, eL]; exact hw
  show W p l e _ s m _ below meth c s.heap [] 0 0 _ _
  have gl : W p l e ({ frames := 2, cells := 0, slots := 0, locals := 43 } : Room) s m args below meth c H locs 0 0 (MQ below (va_Qi (fun r u => (r, u) = F) (fun u t => qW D tc A (mo tc a u ++ Y) t) A) args s 0 0 A) (F0 m 0 ls []) := ?_
  · rw [eH, eL] at gl; exact gl
  have hl : lv_has ls 3 [(0, .ref (a 0)), (1, .int x1), (2, .int x2)] := hl
  unfold kM_booked at hok
  unfold fM_booked at hF
  refine lv_aload_n hx hb d_M_booked_0 rfl (lv_at hl 0 rfl) ?_
  refine lv_aload_n hx hb d_M_booked_1 rfl (lv_at hl 0 rfl) ?_
  refine lv_iload_n hx hb d_M_booked_2 rfl (lv_at hl 1 rfl) ?_
  obtain ⟨hi_1, hok⟩ := hok
  refine cv_p (n := 1) (C := "CountRoundsModel") (b := a 0) (q0 := 0) (ci := 4) (As := [.int x1]) (rest := [.ref (a 0)]) h0 hw (cM_isPlace l D tc a Y H.size x1 μ hi_1 rfl) (gd_V wd_717 wd_719 (gw_s 22 rfl rfl) wd_3 wd_720) (by decide +kernel) ⟨rfl, rfl, Nat.le_of_ble_eq_true rfl, Nat.le_of_ble_eq_true rfl, Nat.le_of_ble_eq_true rfl, Nat.le_of_ble_eq_true rfl⟩ rfl rfl rfl hl.1 rfl (Nat.le_of_ble_eq_true rfl) d_M_booked_3 ?_
  refine lv_if_ne (tgt := 13) hx hb d_M_booked_6 (by decide) (fun c_2 => ?_) (fun c_2 => ?_)
  · have hok := hok.2 c_2
    have hF := (if_neg c_2).symm.trans hF
    refine lv_iload_n hx hb d_M_booked_13 rfl (lv_at hl 2 rfl) ?_
    obtain ⟨hi_3, hok⟩ := hok
    refine cs_p (n := 1) (As := [.int x2]) (rest := [.ref (a 0)]) hx hb hml hown hts (cM_isGood l x2 hi_3 rfl) (gd_S wd_721 wd_722 wd_3 wd_723) (by decide +kernel) ⟨rfl, rfl, Nat.le_of_ble_eq_true rfl, Nat.le_of_ble_eq_true rfl, Nat.le_of_ble_eq_true rfl, Nat.le_of_ble_eq_true rfl⟩ rfl hl.1 rfl (Nat.le_of_ble_eq_true rfl) d_M_booked_14 ?_
    refine lv_if_ne (tgt := 24) hx hb d_M_booked_17 (by decide) (fun c_4 => ?_) (fun c_4 => ?_)
    · have hok := hok.2 c_4
      have hF := (if_neg c_4).symm.trans hF
      refine lv_iconst (v := 0) hx hb d_M_booked_24 (by decide) ?_
      refine mp_0 h0 hw d_M_booked_25 (fun H locs hw => ?_)
      refine lv_aload_n hx hb d_M_booked_28 rfl (lv_at hl 0 rfl) ?_
      refine mg_0 h0 hw d_M_booked_29 ?_
      refine W.eq (g2 := F0 m 32 ls [.int 0]) rfl ?_
      refine lv_if_le (tgt := 39) hx hb d_M_booked_32 (by decide) (fun _ => ?_) (fun c_0 => absurd c_0 (by decide))
      refine lv_aload_n hx hb d_M_booked_39 rfl (lv_at hl 0 rfl) ?_
      refine mg_6 h0 hw d_M_booked_40 ?_
      refine lv_bipush (v := 6) hx hb d_M_booked_43 (by decide) ?_
      refine lv_iload_n hx hb d_M_booked_45 rfl (lv_at hl 1 rfl) ?_
      refine lv_imul hx hb d_M_booked_46 ?_
      refine lv_iload_n hx hb d_M_booked_47 rfl (lv_at hl 2 rfl) ?_
      refine lv_iadd hx hb d_M_booked_48 ?_
      obtain ⟨hi_5, hok⟩ := hok
      refine ml_6 h0 hw hi_5 d_M_booked_49 ?_
      refine W.eq (g2 := F0 m 50 ls [.int (μ 6 ((6 * x1) + x2).toNatClampNeg)]) rfl ?_
      exact rt_i h0 hw hr hlocks rfl (u2 μ 0 0 0) hF rfl d_M_booked_50 (Nat.le_refl 0) (Nat.le_refl 0)
    · have hok := hok.1 c_4
      have hF := (if_pos c_4).symm.trans hF
      refine lv_iconst (v := 2) hx hb d_M_booked_20 (by decide) ?_
      refine lv_goto (tgt := 25) hx hb d_M_booked_21 (by decide) ?_
      refine mp_0 h0 hw d_M_booked_25 (fun H locs hw => ?_)
      refine lv_aload_n hx hb d_M_booked_28 rfl (lv_at hl 0 rfl) ?_
      refine mg_0 h0 hw d_M_booked_29 ?_
      refine W.eq (g2 := F0 m 32 ls [.int 2]) rfl ?_
      refine lv_if_le (tgt := 39) hx hb d_M_booked_32 (by decide) (fun c_0 => absurd c_0 (by decide)) (fun _ => ?_)
      refine lv_iconst (v := 0) hx hb d_M_booked_35 (by decide) ?_
      refine lv_goto (tgt := 50) hx hb d_M_booked_36 (by decide) ?_
      exact rt_i h0 hw hr hlocks rfl (u2 μ 0 0 2) hF rfl d_M_booked_50 (Nat.le_refl 0) (Nat.le_refl 0)
  · have hok := hok.1 c_2
    have hF := (if_pos c_2).symm.trans hF
    refine lv_iconst (v := 1) hx hb d_M_booked_9 (by decide) ?_
    refine lv_goto (tgt := 25) hx hb d_M_booked_10 (by decide) ?_
    refine mp_0 h0 hw d_M_booked_25 (fun H locs hw => ?_)
    refine lv_aload_n hx hb d_M_booked_28 rfl (lv_at hl 0 rfl) ?_
    refine mg_0 h0 hw d_M_booked_29 ?_
    refine W.eq (g2 := F0 m 32 ls [.int 1]) rfl ?_
    refine lv_if_le (tgt := 39) hx hb d_M_booked_32 (by decide) (fun c_0 => absurd c_0 (by decide)) (fun _ => ?_)
    refine lv_iconst (v := 0) hx hb d_M_booked_35 (by decide) ?_
    refine lv_goto (tgt := 50) hx hb d_M_booked_36 (by decide) ?_
    exact rt_i h0 hw hr hlocks rfl (u2 μ 0 0 1) hF rfl d_M_booked_50 (Nat.le_refl 0) (Nat.le_refl 0)
set_option maxHeartbeats 4000000 in
set_option maxRecDepth 100000 in
theorem cM_told (l : Launch) (D : va_G) (tc : Nat → ClassId) (a : Nat → Nat) (Y : va_W) (sz : Nat) (x1 : Int32) (x2 : Int32) (μ : Nat → Nat → Int32) {F : Int32 × (Nat → Nat → Int32)} (hok : kM_told x1 x2 μ) (hF : fM_told x1 x2 μ = F) : Met l y_M_told (Cond.code y_M_told b_M_told 3 (some .int) :: gw) ({ frames := 2, cells := 0, slots := 0, locals := 43 } : Room) (va_Pc [.ref (a 0), .int x1, .int x2] (pW D tc (mo tc a μ ++ Y) sz)) (va_Qi (fun r u => (r, u) = F) (fun u t => qW D tc (va_A (mo tc a μ ++ Y) sz) (mo tc a u ++ Y) t) (va_A (mo tc a μ ++ Y) sz)) 0 0 (va_A (mo tc a μ ++ Y) sz) := by
  refine en_W (by decide) (Nat.le_of_ble_eq_true rfl) ?_
  intro p e s m args below meth c ls h0 hr hlocks hin hsz hw hl
  obtain ⟨hx, hb, hml, hown, hts, hK⟩ := id h0
  have hA : ∀ q : Nat, s.heap.size ≤ q → (va_A (mo tc a μ ++ Y) sz) q := fun q h => Or.inr (by rw [← hsz]; exact h)
  generalize va_A (mo tc a μ ++ Y) sz = A at hw hA ⊢
  obtain ⟨H, eH⟩ : ∃ z, z = s.heap := ⟨_, rfl⟩
  obtain ⟨locs, eL⟩ : ∃ z : List Loc, z = [] := ⟨_, rfl⟩
  have hw : wH D A s.heap (mo tc a μ ++ Y) H locs := by rw [eH, eL]; exact hw
  show W p l e _ s m _ below meth c s.heap [] 0 0 _ _
  have gl : W p l e ({ frames := 2, cells := 0, slots := 0, locals := 43 } : Room) s m args below meth c H locs 0 0 (MQ below (va_Qi (fun r u => (r, u) = F) (fun u t => qW D tc A (mo tc a u ++ Y) t) A) args s 0 0 A) (F0 m 0 ls []) := ?_
  · rw [eH, eL] at gl; exact gl
  have hl : lv_has ls 3 [(0, .ref (a 0)), (1, .int x1), (2, .int x2)] := hl
  unfold kM_told at hok
  unfold fM_told at hF
  refine lv_aload_n hx hb d_M_told_0 rfl (lv_at hl 0 rfl) ?_
  refine lv_aload_n hx hb d_M_told_1 rfl (lv_at hl 0 rfl) ?_
  refine lv_iload_n hx hb d_M_told_2 rfl (lv_at hl 1 rfl) ?_
  obtain ⟨hi_1, hok⟩ := hok
  refine cv_p (n := 1) (C := "CountRoundsModel") (b := a 0) (q0 := 0) (ci := 4) (As := [.int x1]) (rest := [.ref (a 0)]) h0 hw (cM_isCount l D tc a Y H.size x1 μ hi_1 rfl) (gd_V wd_782 wd_784 (gw_s 27 rfl rfl) wd_3 wd_785) (by decide +kernel) ⟨rfl, rfl, Nat.le_of_ble_eq_true rfl, Nat.le_of_ble_eq_true rfl, Nat.le_of_ble_eq_true rfl, Nat.le_of_ble_eq_true rfl⟩ rfl rfl rfl hl.1 rfl (Nat.le_of_ble_eq_true rfl) d_M_told_3 ?_
  refine lv_if_ne (tgt := 13) hx hb d_M_told_6 (by decide) (fun c_2 => ?_) (fun c_2 => ?_)
  · have hok := hok.2 c_2
    have hF := (if_neg c_2).symm.trans hF
    refine lv_iload_n hx hb d_M_told_13 rfl (lv_at hl 2 rfl) ?_
    refine lv_if_lt (tgt := 27) hx hb d_M_told_14 (by decide) (fun c_3 => ?_) (fun c_3 => ?_)
    · have hok := hok.1 c_3
      have hF := (if_pos c_3).symm.trans hF
      refine lv_iconst (v := 2) hx hb d_M_told_27 (by decide) ?_
      refine lv_goto (tgt := 32) hx hb d_M_told_28 (by decide) ?_
      refine mp_0 h0 hw d_M_told_32 (fun H locs hw => ?_)
      refine lv_aload_n hx hb d_M_told_35 rfl (lv_at hl 0 rfl) ?_
      refine mg_0 h0 hw d_M_told_36 ?_
      refine W.eq (g2 := F0 m 39 ls [.int 2]) rfl ?_
      refine lv_if_le (tgt := 44) hx hb d_M_told_39 (by decide) (fun c_0 => absurd c_0 (by decide)) (fun _ => ?_)
      refine lv_iconst (v := 0) hx hb d_M_told_42 (by decide) ?_
      exact rt_i h0 hw hr hlocks rfl (u2 μ 0 0 2) hF rfl d_M_told_43 (Nat.le_refl 0) (Nat.le_refl 0)
    · have hok := hok.2 c_3
      have hF := (if_neg c_3).symm.trans hF
      refine lv_iload_n hx hb d_M_told_17 rfl (lv_at hl 2 rfl) ?_
      refine lv_iconst (v := 3) hx hb d_M_told_18 (by decide) ?_
      refine lv_bipush (v := 9) hx hb d_M_told_19 (by decide) ?_
      obtain ⟨hi_4, hok⟩ := hok
      refine cs_p (n := 3) (As := [.int x2, .int 3, .int 9]) (rest := [.ref (a 0)]) hx hb hml hown hts (cM_in l x2 3 9 hi_4 rfl) (gd_S wd_710 wd_711 wd_3 wd_712) (by decide +kernel) ⟨rfl, rfl, Nat.le_of_ble_eq_true rfl, Nat.le_of_ble_eq_true rfl, Nat.le_of_ble_eq_true rfl, Nat.le_of_ble_eq_true rfl⟩ rfl hl.1 rfl (Nat.le_of_ble_eq_true rfl) d_M_told_21 ?_
      refine lv_if_eq (tgt := 31) hx hb d_M_told_24 (by decide) (fun c_5 => ?_) (fun c_5 => ?_)
      · have hok := hok.1 c_5
        have hF := (if_pos c_5).symm.trans hF
        refine lv_iconst (v := 0) hx hb d_M_told_31 (by decide) ?_
        refine mp_0 h0 hw d_M_told_32 (fun H locs hw => ?_)
        refine lv_aload_n hx hb d_M_told_35 rfl (lv_at hl 0 rfl) ?_
        refine mg_0 h0 hw d_M_told_36 ?_
        refine W.eq (g2 := F0 m 39 ls [.int 0]) rfl ?_
        refine lv_if_le (tgt := 44) hx hb d_M_told_39 (by decide) (fun _ => ?_) (fun c_0 => absurd c_0 (by decide))
        refine lv_iload_n hx hb d_M_told_44 rfl (lv_at hl 2 rfl) ?_
        refine lv_if_ne (tgt := 55) hx hb d_M_told_45 (by decide) (fun c_6 => ?_) (fun c_6 => ?_)
        · have hok := hok.2 c_6
          have hF := (if_neg c_6).symm.trans hF
          refine lv_iload_n hx hb d_M_told_55 rfl (lv_at hl 2 rfl) ?_
          refine lv_iconst (v := 1) hx hb d_M_told_56 (by decide) ?_
          refine lv_icmp_ne (tgt := 67) hx hb d_M_told_57 (by decide) (fun c_7 => ?_) (fun c_7 => ?_)
          · have hok := hok.2 c_7
            have hF := (if_neg c_7).symm.trans hF
            refine lv_iload_n hx hb d_M_told_67 rfl (lv_at hl 2 rfl) ?_
            refine lv_iconst (v := 2) hx hb d_M_told_68 (by decide) ?_
            refine lv_icmp_ne (tgt := 79) hx hb d_M_told_69 (by decide) (fun c_8 => ?_) (fun c_8 => ?_)
            · have hok := hok.2 c_8
              have hF := (if_neg c_8).symm.trans hF
              refine lv_iload_n hx hb d_M_told_79 rfl (lv_at hl 2 rfl) ?_
              refine lv_bipush (v := 10) hx hb d_M_told_80 (by decide) ?_
              refine lv_isub hx hb d_M_told_82 ?_
              refine lv_aload_n hx hb d_M_told_83 rfl (lv_at hl 0 rfl) ?_
              refine mg_18 h0 hw d_M_told_84 ?_
              refine lv_iload_n hx hb d_M_told_87 rfl (lv_at hl 1 rfl) ?_
              obtain ⟨hi_9, hok⟩ := hok
              refine ml_18 h0 hw hi_9 d_M_told_88 ?_
              refine W.eq (g2 := F0 m 89 ls [.int (μ 18 x1.toNatClampNeg), .int (x2 - 10)]) rfl ?_
              refine lv_icmp_ge (tgt := 109) hx hb d_M_told_89 (by decide) (fun c_10 => ?_) (fun c_10 => ?_)
              · have hok := hok.1 c_10
                have hF := (if_pos c_10).symm.trans hF
                refine lv_iconst (v := (-1)) hx hb d_M_told_109 (by decide) ?_
                exact rt_i h0 hw hr hlocks rfl (u2 μ 0 0 0) hF rfl d_M_told_110 (Nat.le_refl 0) (Nat.le_refl 0)
              · have hok := hok.2 c_10
                have hF := (if_neg c_10).symm.trans hF
                refine lv_aload_n hx hb d_M_told_92 rfl (lv_at hl 0 rfl) ?_
                refine mg_20 h0 hw d_M_told_93 ?_
                refine lv_bipush (v := 20) hx hb d_M_told_96 (by decide) ?_
                refine lv_iload_n hx hb d_M_told_98 rfl (lv_at hl 1 rfl) ?_
                refine lv_imul hx hb d_M_told_99 ?_
                refine lv_iload_n hx hb d_M_told_100 rfl (lv_at hl 2 rfl) ?_
                refine lv_iadd hx hb d_M_told_101 ?_
                refine lv_bipush (v := 10) hx hb d_M_told_102 (by decide) ?_
                refine lv_isub hx hb d_M_told_104 ?_
                obtain ⟨hi_11, hok⟩ := hok
                refine ml_20 h0 hw hi_11 d_M_told_105 ?_
                refine W.eq (g2 := F0 m 106 ls [.int (μ 20 (((20 * x1) + x2) - 10).toNatClampNeg)]) rfl ?_
                refine lv_goto (tgt := 110) hx hb d_M_told_106 (by decide) ?_
                exact rt_i h0 hw hr hlocks rfl (u2 μ 0 0 0) hF rfl d_M_told_110 (Nat.le_refl 0) (Nat.le_refl 0)
            · have hok := hok.1 c_8
              have hF := (if_pos c_8).symm.trans hF
              refine lv_aload_n hx hb d_M_told_72 rfl (lv_at hl 0 rfl) ?_
              refine mg_19 h0 hw d_M_told_73 ?_
              refine lv_iload_n hx hb d_M_told_76 rfl (lv_at hl 1 rfl) ?_
              obtain ⟨hi_12, hok⟩ := hok
              refine ml_19 h0 hw hi_12 d_M_told_77 ?_
              refine W.eq (g2 := F0 m 78 ls [.int (μ 19 x1.toNatClampNeg)]) rfl ?_
              exact rt_i h0 hw hr hlocks rfl (u2 μ 0 0 0) hF rfl d_M_told_78 (Nat.le_refl 0) (Nat.le_refl 0)
          · have hok := hok.1 c_7
            have hF := (if_pos c_7).symm.trans hF
            refine lv_aload_n hx hb d_M_told_60 rfl (lv_at hl 0 rfl) ?_
            refine mg_18 h0 hw d_M_told_61 ?_
            refine lv_iload_n hx hb d_M_told_64 rfl (lv_at hl 1 rfl) ?_
            obtain ⟨hi_13, hok⟩ := hok
            refine ml_18 h0 hw hi_13 d_M_told_65 ?_
            refine W.eq (g2 := F0 m 66 ls [.int (μ 18 x1.toNatClampNeg)]) rfl ?_
            exact rt_i h0 hw hr hlocks rfl (u2 μ 0 0 0) hF rfl d_M_told_66 (Nat.le_refl 0) (Nat.le_refl 0)
        · have hok := hok.1 c_6
          have hF := (if_pos c_6).symm.trans hF
          refine lv_aload_n hx hb d_M_told_48 rfl (lv_at hl 0 rfl) ?_
          refine mg_17 h0 hw d_M_told_49 ?_
          refine lv_iload_n hx hb d_M_told_52 rfl (lv_at hl 1 rfl) ?_
          obtain ⟨hi_14, hok⟩ := hok
          refine ml_17 h0 hw hi_14 d_M_told_53 ?_
          refine W.eq (g2 := F0 m 54 ls [.int (μ 17 x1.toNatClampNeg)]) rfl ?_
          exact rt_i h0 hw hr hlocks rfl (u2 μ 0 0 0) hF rfl d_M_told_54 (Nat.le_refl 0) (Nat.le_refl 0)
      · have hok := hok.2 c_5
        have hF := (if_neg c_5).symm.trans hF
        refine lv_iconst (v := 2) hx hb d_M_told_27 (by decide) ?_
        refine lv_goto (tgt := 32) hx hb d_M_told_28 (by decide) ?_
        refine mp_0 h0 hw d_M_told_32 (fun H locs hw => ?_)
        refine lv_aload_n hx hb d_M_told_35 rfl (lv_at hl 0 rfl) ?_
        refine mg_0 h0 hw d_M_told_36 ?_
        refine W.eq (g2 := F0 m 39 ls [.int 2]) rfl ?_
        refine lv_if_le (tgt := 44) hx hb d_M_told_39 (by decide) (fun c_0 => absurd c_0 (by decide)) (fun _ => ?_)
        refine lv_iconst (v := 0) hx hb d_M_told_42 (by decide) ?_
        exact rt_i h0 hw hr hlocks rfl (u2 μ 0 0 2) hF rfl d_M_told_43 (Nat.le_refl 0) (Nat.le_refl 0)
  · have hok := hok.1 c_2
    have hF := (if_pos c_2).symm.trans hF
    refine lv_iconst (v := 1) hx hb d_M_told_9 (by decide) ?_
    refine lv_goto (tgt := 32) hx hb d_M_told_10 (by decide) ?_
    refine mp_0 h0 hw d_M_told_32 (fun H locs hw => ?_)
    refine lv_aload_n hx hb d_M_told_35 rfl (lv_at hl 0 rfl) ?_
    refine mg_0 h0 hw d_M_told_36 ?_
    refine W.eq (g2 := F0 m 39 ls [.int 1]) rfl ?_
    refine lv_if_le (tgt := 44) hx hb d_M_told_39 (by decide) (fun c_0 => absurd c_0 (by decide)) (fun _ => ?_)
    refine lv_iconst (v := 0) hx hb d_M_told_42 (by decide) ?_
    exact rt_i h0 hw hr hlocks rfl (u2 μ 0 0 1) hF rfl d_M_told_43 (Nat.le_refl 0) (Nat.le_refl 0)
set_option maxHeartbeats 4000000 in
set_option maxRecDepth 100000 in
theorem cM_count (l : Launch) (D : va_G) (tc : Nat → ClassId) (a : Nat → Nat) (Y : va_W) (sz : Nat) (x1 : Int32) (μ : Nat → Nat → Int32) {F : Int32 × (Nat → Nat → Int32)} (hok : kM_count x1 μ) (hF : fM_count x1 μ = F) : Met l y_M_count (Cond.code y_M_count b_M_count 4 (some .int) :: gw) ({ frames := 0, cells := 0, slots := 0, locals := 0 } : Room) (va_Pc [.ref (a 0), .int x1] (pW D tc (mo tc a μ ++ Y) sz)) (va_Qi (fun r u => (r, u) = F) (fun u t => qW D tc (va_A (mo tc a μ ++ Y) sz) (mo tc a u ++ Y) t) (va_A (mo tc a μ ++ Y) sz)) 0 0 (va_A (mo tc a μ ++ Y) sz) := by
  refine en_W (by decide) (Nat.le_of_ble_eq_true rfl) ?_
  intro p e s m args below meth c ls h0 hr hlocks hin hsz hw hl
  obtain ⟨hx, hb, hml, hown, hts, hK⟩ := id h0
  have hA : ∀ q : Nat, s.heap.size ≤ q → (va_A (mo tc a μ ++ Y) sz) q := fun q h => Or.inr (by rw [← hsz]; exact h)
  generalize va_A (mo tc a μ ++ Y) sz = A at hw hA ⊢
  obtain ⟨H, eH⟩ : ∃ z, z = s.heap := ⟨_, rfl⟩
  obtain ⟨locs, eL⟩ : ∃ z : List Loc, z = [] := ⟨_, rfl⟩
  have hw : wH D A s.heap (mo tc a μ ++ Y) H locs := by rw [eH, eL]; exact hw
  show W p l e _ s m _ below meth c s.heap [] 0 0 _ _
  have gl : W p l e ({ frames := 0, cells := 0, slots := 0, locals := 0 } : Room) s m args below meth c H locs 0 0 (MQ below (va_Qi (fun r u => (r, u) = F) (fun u t => qW D tc A (mo tc a u ++ Y) t) A) args s 0 0 A) (F0 m 0 ls []) := ?_
  · rw [eH, eL] at gl; exact gl
  have hl : lv_has ls 4 [(0, .ref (a 0)), (1, .int x1)] := hl
  unfold kM_count at hok
  unfold fM_count at hF
  refine lv_aload_n hx hb d_M_count_0 rfl (lv_at hl 0 rfl) ?_
  refine lv_iconst (v := 0) hx hb d_M_count_1 (by decide) ?_
  refine mp_0 h0 hw d_M_count_2 (fun H locs hw => ?_)
  refine lv_iload_n hx hb d_M_count_5 rfl (lv_at hl 1 rfl) ?_
  refine lv_if_ne (tgt := 14) hx hb d_M_count_6 (by decide) (fun c_1 => ?_) (fun c_1 => ?_)
  · have hok := hok.2 c_1
    have hF := (if_neg c_1).symm.trans hF
    refine lv_iload_n hx hb d_M_count_14 rfl (lv_at hl 1 rfl) ?_
    refine lv_iconst (v := 1) hx hb d_M_count_15 (by decide) ?_
    refine lv_icmp_ne (tgt := 24) hx hb d_M_count_16 (by decide) (fun c_2 => ?_) (fun c_2 => ?_)
    · have hok := hok.2 c_2
      have hF := (if_neg c_2).symm.trans hF
      refine lv_iload_n hx hb d_M_count_24 rfl (lv_at hl 1 rfl) ?_
      refine lv_iconst (v := 2) hx hb d_M_count_25 (by decide) ?_
      refine lv_icmp_ne (tgt := 34) hx hb d_M_count_26 (by decide) (fun c_3 => ?_) (fun c_3 => ?_)
      · have hok := hok.2 c_3
        have hF := (if_neg c_3).symm.trans hF
        refine lv_iload_n hx hb d_M_count_34 rfl (lv_at hl 1 rfl) ?_
        refine lv_iconst (v := 3) hx hb d_M_count_35 (by decide) ?_
        refine lv_icmp_ne (tgt := 44) hx hb d_M_count_36 (by decide) (fun c_4 => ?_) (fun c_4 => ?_)
        · have hok := hok.2 c_4
          have hF := (if_neg c_4).symm.trans hF
          refine lv_iconst (v := 0) hx hb d_M_count_44 (by decide) ?_
          refine lv_istore_n (lv' := [(2, .int 0), (0, .ref (a 0)), (1, .int x1)]) hx hb d_M_count_45 rfl hl (by decide) rfl (fun ls hl => ?_)
          refine lv_iconst (v := 1) hx hb d_M_count_46 (by decide) ?_
          refine lv_istore_n (lv' := [(3, .int 1), (2, .int 0), (0, .ref (a 0)), (1, .int x1)]) hx hb d_M_count_47 rfl hl (by decide) rfl (fun ls hl => ?_)
          have hx_48 : ∀ (x1 : Int32) (x2 : Int32) (x3 : Int32) (μ : Nat → Nat → Int32) (H : Heap) (locs : List Loc) (ls : Array Slot), wH D A s.heap (mo tc a μ ++ Y) H locs → lv_has ls 4 [(0, .ref (a 0)), (1, .int x1), (2, .int x2), (3, .int x3)] → kM_count_48x x1 x2 x3 μ → fM_count_48x x1 x2 x3 μ = F → W p l e ({ frames := 0, cells := 0, slots := 0, locals := 0 } : Room) s m args below meth c H locs 0 0 (MQ below (va_Qi (fun r u => (r, u) = F) (fun u t => qW D tc A (mo tc a u ++ Y) t) A) args s 0 0 A) (F0 m 79 ls []) := by
            intro x1 x2 x3 μ H locs ls hw hl hok hF
            unfold kM_count_48x at hok
            unfold fM_count_48x at hF
            refine lv_iload_n hx hb d_M_count_79 rfl (lv_at hl 1 rfl) ?_
            refine lv_iconst (v := 4) hx hb d_M_count_80 (by decide) ?_
            refine lv_icmp_ne (tgt := 88) hx hb d_M_count_81 (by decide) (fun c_5 => ?_) (fun c_5 => ?_)
            · have hok := hok.2 c_5
              have hF := (if_neg c_5).symm.trans hF
              refine lv_iconst (v := (-1)) hx hb d_M_count_88 (by decide) ?_
              exact rt_i h0 hw hr hlocks rfl μ hF rfl d_M_count_89 (Nat.le_refl 0) (Nat.le_refl 0)
            · have hok := hok.1 c_5
              have hF := (if_pos c_5).symm.trans hF
              refine lv_iload_n hx hb d_M_count_84 rfl (lv_at hl 2 rfl) ?_
              refine lv_goto (tgt := 89) hx hb d_M_count_85 (by decide) ?_
              exact rt_i h0 hw hr hlocks rfl μ hF rfl d_M_count_89 (Nat.le_refl 0) (Nat.le_refl 0)
          have lp_48 : ∀ (n48 : Nat) (x1 : Int32) (x2 : Int32) (x3 : Int32) (μ : Nat → Nat → Int32) (H : Heap) (locs : List Loc) (ls : Array Slot), wH D A s.heap (mo tc a μ ++ Y) H locs → lv_has ls 4 [(0, .ref (a 0)), (1, .int x1), (2, .int x2), (3, .int x3)] → kM_count_48 kM_count_48x n48 x1 x2 x3 μ → fM_count_48 fM_count_48x n48 x1 x2 x3 μ = F → W p l e ({ frames := 0, cells := 0, slots := 0, locals := 0 } : Room) s m args below meth c H locs 0 0 (MQ below (va_Qi (fun r u => (r, u) = F) (fun u t => qW D tc A (mo tc a u ++ Y) t) A) args s 0 0 A) (F0 m 48 ls []) := by
            intro n48
            induction n48 with
            | zero =>
              intro x1 x2 x3 μ H locs ls hw hl hok hF
              unfold kM_count_48 at hok
              exact hok.elim
            | succ n48 ih_48 =>
              intro x1 x2 x3 μ H locs ls hw hl hok hF
              unfold kM_count_48 at hok
              unfold fM_count_48 at hF
              refine lv_iload_n hx hb d_M_count_48 rfl (lv_at hl 3 rfl) ?_
              refine lv_aload_n hx hb d_M_count_49 rfl (lv_at hl 0 rfl) ?_
              refine mg_10 h0 hw d_M_count_50 ?_
              refine lv_icmp_gt (tgt := 79) hx hb d_M_count_53 (by decide) (fun c_6 => ?_) (fun c_6 => ?_)
              · have hok := hok.1 c_6
                have hF := (if_pos c_6).symm.trans hF
                exact hx_48 x1 x2 x3 μ H locs ls hw (lv_sub hl [0, 1, 2, 3] rfl) hok hF
              · have hok := hok.2 c_6
                have hF := (if_neg c_6).symm.trans hF
                refine lv_iload_n hx hb d_M_count_56 rfl (lv_at hl 2 rfl) ?_
                refine lv_aload_n hx hb d_M_count_57 rfl (lv_at hl 0 rfl) ?_
                refine mg_15 h0 hw d_M_count_58 ?_
                refine lv_iload_n hx hb d_M_count_61 rfl (lv_at hl 3 rfl) ?_
                obtain ⟨hi_7, hok⟩ := hok
                refine ml_15 h0 hw hi_7 d_M_count_62 ?_
                refine lv_if_eq (tgt := 70) hx hb d_M_count_63 (by decide) (fun c_8 => ?_) (fun c_8 => ?_)
                · have hok := hok.1 c_8
                  have hF := (if_pos c_8).symm.trans hF
                  refine lv_iconst (v := 1) hx hb d_M_count_70 (by decide) ?_
                  refine lv_iadd hx hb d_M_count_71 ?_
                  refine lv_istore_n (lv' := [(2, .int (x2 + 1)), (0, .ref (a 0)), (1, .int x1), (3, .int x3)]) hx hb d_M_count_72 rfl hl (by decide) rfl (fun ls hl => ?_)
                  refine lv_iinc (v := x3 + 1) (lv' := [(3, .int (x3 + 1)), (2, .int (x2 + 1)), (0, .ref (a 0)), (1, .int x1)]) hx hb d_M_count_73 hl (k := 3) rfl rfl (by decide) rfl (fun ls hl => ?_)
                  refine lv_goto (tgt := 48) hx hb d_M_count_76 (by decide) ?_
                  exact ih_48 x1 (x2 + 1) (x3 + 1) μ H locs ls hw (lv_sub hl [2, 3, 1, 0] rfl) hok hF
                · have hok := hok.2 c_8
                  have hF := (if_neg c_8).symm.trans hF
                  refine lv_iconst (v := 0) hx hb d_M_count_66 (by decide) ?_
                  refine lv_goto (tgt := 71) hx hb d_M_count_67 (by decide) ?_
                  refine lv_iadd hx hb d_M_count_71 ?_
                  refine lv_istore_n (lv' := [(2, .int (x2 + 0)), (0, .ref (a 0)), (1, .int x1), (3, .int x3)]) hx hb d_M_count_72 rfl hl (by decide) rfl (fun ls hl => ?_)
                  refine lv_iinc (v := x3 + 1) (lv' := [(3, .int (x3 + 1)), (2, .int (x2 + 0)), (0, .ref (a 0)), (1, .int x1)]) hx hb d_M_count_73 hl (k := 3) rfl rfl (by decide) rfl (fun ls hl => ?_)
                  refine lv_goto (tgt := 48) hx hb d_M_count_76 (by decide) ?_
                  exact ih_48 x1 (x2 + 0) (x3 + 1) μ H locs ls hw (lv_sub hl [2, 3, 1, 0] rfl) hok hF
          exact lp_48 200 x1 0 1 (u2 μ 0 0 0) H locs ls hw (lv_sub hl [2, 3, 1, 0] rfl) hok hF
        · have hok := hok.1 c_4
          have hF := (if_pos c_4).symm.trans hF
          refine lv_aload_n hx hb d_M_count_39 rfl (lv_at hl 0 rfl) ?_
          refine mg_1 h0 hw d_M_count_40 ?_
          refine W.eq (g2 := F0 m 43 ls [.int (μ 1 0)]) rfl ?_
          exact rt_i h0 hw hr hlocks rfl (u2 μ 0 0 0) hF rfl d_M_count_43 (Nat.le_refl 0) (Nat.le_refl 0)
      · have hok := hok.1 c_3
        have hF := (if_pos c_3).symm.trans hF
        refine lv_aload_n hx hb d_M_count_29 rfl (lv_at hl 0 rfl) ?_
        refine mg_16 h0 hw d_M_count_30 ?_
        refine W.eq (g2 := F0 m 33 ls [.int (μ 16 0)]) rfl ?_
        exact rt_i h0 hw hr hlocks rfl (u2 μ 0 0 0) hF rfl d_M_count_33 (Nat.le_refl 0) (Nat.le_refl 0)
    · have hok := hok.1 c_2
      have hF := (if_pos c_2).symm.trans hF
      refine lv_aload_n hx hb d_M_count_19 rfl (lv_at hl 0 rfl) ?_
      refine mg_10 h0 hw d_M_count_20 ?_
      refine W.eq (g2 := F0 m 23 ls [.int (μ 10 0)]) rfl ?_
      exact rt_i h0 hw hr hlocks rfl (u2 μ 0 0 0) hF rfl d_M_count_23 (Nat.le_refl 0) (Nat.le_refl 0)
  · have hok := hok.1 c_1
    have hF := (if_pos c_1).symm.trans hF
    refine lv_aload_n hx hb d_M_count_9 rfl (lv_at hl 0 rfl) ?_
    refine mg_3 h0 hw d_M_count_10 ?_
    refine W.eq (g2 := F0 m 13 ls [.int (μ 3 0)]) rfl ?_
    exact rt_i h0 hw hr hlocks rfl (u2 μ 0 0 0) hF rfl d_M_count_13 (Nat.le_refl 0) (Nat.le_refl 0)
