def fM_in (x0 : Int32) (x1 : Int32) (x2 : Int32) : Int32 := if x0 < x1 then 0 else if x2 < x0 then 0 else 1
def kM_in (x0 : Int32) (x1 : Int32) (x2 : Int32) : Prop := (x0 < x1 → True) ∧ (¬ (x0 < x1) → (x2 < x0 → True) ∧ (¬ (x2 < x0) → True))
def fM_isGood (x0 : Int32) : Int32 := fM_in x0 0 5
def kM_isGood (x0 : Int32) : Prop := (kM_in x0 0 5) ∧ (narrow .boolean (.int (fM_in x0 0 5)) = .int (fM_in x0 0 5))
def fM_isPerson (x0 : Int32) : Int32 := fM_in x0 0 5
def kM_isPerson (x0 : Int32) : Prop := (kM_in x0 0 5) ∧ (narrow .boolean (.int (fM_in x0 0 5)) = .int (fM_in x0 0 5))
def fM_far (x0 : Int32) (x1 : Int32) : Int32 := if x0 ≤ x1 then x1 - x0 else x0 - x1
def kM_far (x0 : Int32) (x1 : Int32) : Prop := (x0 ≤ x1 → True) ∧ (¬ (x0 ≤ x1) → True)
def fM_divisor_4x  (x0 : Int32) (x1 : Int32) (x2 : Int32) (x3 : Int32)  : Int32 := x2
def kM_divisor_4x  (x0 : Int32) (x1 : Int32) (x2 : Int32) (x3 : Int32)  : Prop := True
def fM_divisor_4  (E4 : Int32 → Int32 → Int32 → Int32 → Int32) : Nat → Int32 → Int32 → Int32 → Int32 → Int32
  | 0, _, _, _, _ => 0
  | n + 1, x0, x1, x2, x3 => if x3 ≤ 0 then E4 x0 x1 x2 x3 else (fM_divisor_4 E4 n) x0 x1 x3 (x2 - x2 / x3 * x3)
def kM_divisor_4  (KE4 : Int32 → Int32 → Int32 → Int32 → Prop) : Nat → Int32 → Int32 → Int32 → Int32 → Prop
  | 0, _, _, _, _ => False
  | n + 1, x0, x1, x2, x3 => (x3 ≤ 0 → KE4 x0 x1 x2 x3) ∧ (¬ (x3 ≤ 0) → (¬ x3 = 0) ∧ ((kM_divisor_4 KE4 n) x0 x1 x3 (x2 - x2 / x3 * x3)))
def fM_divisor (x0 : Int32) (x1 : Int32) : Int32 := fM_divisor_4 fM_divisor_4x 200 x0 x1 x0 x1
def kM_divisor (x0 : Int32) (x1 : Int32) : Prop := kM_divisor_4 kM_divisor_4x 200 x0 x1 x0 x1
def fM_thrown  (μ : Nat → Nat → Int32) : Int32 := μ 0 0
def kM_thrown  (μ : Nat → Nat → Int32) : Prop := True
def fM_isPlace (x1 : Int32) (μ : Nat → Nat → Int32) : Int32 := fM_in x1 0 ((μ 3 0) - 1)
def kM_isPlace (x1 : Int32) (μ : Nat → Nat → Int32) : Prop := (kM_in x1 0 ((μ 3 0) - 1)) ∧ (narrow .boolean (.int (fM_in x1 0 ((μ 3 0) - 1))) = .int (fM_in x1 0 ((μ 3 0) - 1)))
def fM_isCount (x1 : Int32) (μ : Nat → Nat → Int32) : Int32 := fM_in x1 1 (μ 16 0)
def kM_isCount (x1 : Int32) (μ : Nat → Nat → Int32) : Prop := (kM_in x1 1 (μ 16 0)) ∧ (narrow .boolean (.int (fM_in x1 1 (μ 16 0))) = .int (fM_in x1 1 (μ 16 0)))
def fM_firstBy (x1 : Int32) (μ : Nat → Nat → Int32) : Int32 := ((μ 24 x1.toNatClampNeg) - (μ 24 x1.toNatClampNeg) / 10 * 10) - 1
def kM_firstBy (x1 : Int32) (μ : Nat → Nat → Int32) : Prop := (vp_in x1 2520) ∧ (True)
def fM_secondBy (x1 : Int32) (μ : Nat → Nat → Int32) : Int32 := ((μ 24 x1.toNatClampNeg) / 10) - 1
def kM_secondBy (x1 : Int32) (μ : Nat → Nat → Int32) : Prop := (vp_in x1 2520) ∧ (True)
def fM_openAt_4x  (x1 : Int32) (x2 : Int32) (x3 : Int32) (μ : Nat → Nat → Int32) : Int32 := x2
def kM_openAt_4x  (x1 : Int32) (x2 : Int32) (x3 : Int32) (μ : Nat → Nat → Int32) : Prop := True
def fM_openAt_4  (E4 : Int32 → Int32 → Int32 → (Nat → Nat → Int32) → Int32) : Nat → Int32 → Int32 → Int32 → (Nat → Nat → Int32) → Int32
  | 0, _, _, _, _ => 0
  | n + 1, x1, x2, x3, μ => if (μ 10 0) < x3 then E4 x1 x2 x3 μ else if (μ 15 x3.toNatClampNeg) = 0 then if (μ 11 x3.toNatClampNeg) = x1 then (fM_openAt_4 E4 n) x1 (x2 + 1) (x3 + 1) μ else if (μ 12 x3.toNatClampNeg) = x1 then (fM_openAt_4 E4 n) x1 (x2 + 1) (x3 + 1) μ else (fM_openAt_4 E4 n) x1 (x2 + 0) (x3 + 1) μ else (fM_openAt_4 E4 n) x1 (x2 + 0) (x3 + 1) μ
def kM_openAt_4  (KE4 : Int32 → Int32 → Int32 → (Nat → Nat → Int32) → Prop) : Nat → Int32 → Int32 → Int32 → (Nat → Nat → Int32) → Prop
  | 0, _, _, _, _ => False
  | n + 1, x1, x2, x3, μ => ((μ 10 0) < x3 → KE4 x1 x2 x3 μ) ∧ (¬ ((μ 10 0) < x3) → (vp_in x3 61) ∧ (((μ 15 x3.toNatClampNeg) = 0 → (vp_in x3 61) ∧ (((μ 11 x3.toNatClampNeg) = x1 → (kM_openAt_4 KE4 n) x1 (x2 + 1) (x3 + 1) μ) ∧ (¬ ((μ 11 x3.toNatClampNeg) = x1) → (vp_in x3 61) ∧ (((μ 12 x3.toNatClampNeg) = x1 → (kM_openAt_4 KE4 n) x1 (x2 + 1) (x3 + 1) μ) ∧ (¬ ((μ 12 x3.toNatClampNeg) = x1) → (kM_openAt_4 KE4 n) x1 (x2 + 0) (x3 + 1) μ))))) ∧ (¬ ((μ 15 x3.toNatClampNeg) = 0) → (kM_openAt_4 KE4 n) x1 (x2 + 0) (x3 + 1) μ)))
def fM_openAt (x1 : Int32) (μ : Nat → Nat → Int32) : Int32 := fM_openAt_4 fM_openAt_4x 200 x1 0 1 μ
def kM_openAt (x1 : Int32) (μ : Nat → Nat → Int32) : Prop := kM_openAt_4 kM_openAt_4x 200 x1 0 1 μ
def fM_isBusy_2x  (x1 : Int32) (x2 : Int32) (μ : Nat → Nat → Int32) : Int32 := 0
def kM_isBusy_2x  (x1 : Int32) (x2 : Int32) (μ : Nat → Nat → Int32) : Prop := True
def fM_isBusy_12x (O2 : Int32 → Int32 → (Nat → Nat → Int32) → Int32) (E2 : Int32 → Int32 → (Nat → Nat → Int32) → Int32) (x1 : Int32) (x2 : Int32) (x3 : Int32) (μ : Nat → Nat → Int32) : Int32 := O2 x1 (x2 + 1) μ
def kM_isBusy_12x (KO2 : Int32 → Int32 → (Nat → Nat → Int32) → Prop) (KE2 : Int32 → Int32 → (Nat → Nat → Int32) → Prop) (x1 : Int32) (x2 : Int32) (x3 : Int32) (μ : Nat → Nat → Int32) : Prop := KO2 x1 (x2 + 1) μ
def fM_isBusy_12 (O2 : Int32 → Int32 → (Nat → Nat → Int32) → Int32) (E2 : Int32 → Int32 → (Nat → Nat → Int32) → Int32) (E12 : Int32 → Int32 → Int32 → (Nat → Nat → Int32) → Int32) : Nat → Int32 → Int32 → Int32 → (Nat → Nat → Int32) → Int32
  | 0, _, _, _, _ => 0
  | n + 1, x1, x2, x3, μ => if (μ 18 x2.toNatClampNeg) ≤ x3 then E12 x1 x2 x3 μ else if (μ 17 x2.toNatClampNeg) = 2 then E12 x1 x2 x3 μ else if (μ 20 ((20 * x2) + x3).toNatClampNeg) = x1 then 1 else (fM_isBusy_12 O2 E2 E12 n) x1 x2 (x3 + 1) μ
def kM_isBusy_12 (KO2 : Int32 → Int32 → (Nat → Nat → Int32) → Prop) (KE2 : Int32 → Int32 → (Nat → Nat → Int32) → Prop) (KE12 : Int32 → Int32 → Int32 → (Nat → Nat → Int32) → Prop) : Nat → Int32 → Int32 → Int32 → (Nat → Nat → Int32) → Prop
  | 0, _, _, _, _ => False
  | n + 1, x1, x2, x3, μ => (vp_in x2 21) ∧ (((μ 18 x2.toNatClampNeg) ≤ x3 → KE12 x1 x2 x3 μ) ∧ (¬ ((μ 18 x2.toNatClampNeg) ≤ x3) → (vp_in x2 21) ∧ (((μ 17 x2.toNatClampNeg) = 2 → KE12 x1 x2 x3 μ) ∧ (¬ ((μ 17 x2.toNatClampNeg) = 2) → (vp_in ((20 * x2) + x3) 420) ∧ (((μ 20 ((20 * x2) + x3).toNatClampNeg) = x1 → True) ∧ (¬ ((μ 20 ((20 * x2) + x3).toNatClampNeg) = x1) → (kM_isBusy_12 KO2 KE2 KE12 n) x1 x2 (x3 + 1) μ))))))
def fM_isBusy_2  (E2 : Int32 → Int32 → (Nat → Nat → Int32) → Int32) : Nat → Int32 → Int32 → (Nat → Nat → Int32) → Int32
  | 0, _, _, _ => 0
  | n + 1, x1, x2, μ => if (μ 16 0) < x2 then E2 x1 x2 μ else fM_isBusy_12 (fM_isBusy_2 E2 n) E2 (fM_isBusy_12x (fM_isBusy_2 E2 n) E2) 200 x1 x2 0 μ
def kM_isBusy_2  (KE2 : Int32 → Int32 → (Nat → Nat → Int32) → Prop) : Nat → Int32 → Int32 → (Nat → Nat → Int32) → Prop
  | 0, _, _, _ => False
  | n + 1, x1, x2, μ => ((μ 16 0) < x2 → KE2 x1 x2 μ) ∧ (¬ ((μ 16 0) < x2) → kM_isBusy_12 (kM_isBusy_2 KE2 n) KE2 (kM_isBusy_12x (kM_isBusy_2 KE2 n) KE2) 200 x1 x2 0 μ)
def fM_isBusy (x1 : Int32) (μ : Nat → Nat → Int32) : Int32 := fM_isBusy_2 fM_isBusy_2x 200 x1 1 μ
def kM_isBusy (x1 : Int32) (μ : Nat → Nat → Int32) : Prop := kM_isBusy_2 kM_isBusy_2x 200 x1 1 μ
def fM_byRank_4x  (x1 : Int32) (x2 : Int32) (μ : Nat → Nat → Int32) : Int32 := x1
def kM_byRank_4x  (x1 : Int32) (x2 : Int32) (μ : Nat → Nat → Int32) : Prop := True
def fM_byRank_4  (E4 : Int32 → Int32 → (Nat → Nat → Int32) → Int32) : Nat → Int32 → Int32 → (Nat → Nat → Int32) → Int32
  | 0, _, _, _ => 0
  | n + 1, x1, x2, μ => if (μ 3 0) ≤ x2 then E4 x1 x2 μ else if (μ 28 x2.toNatClampNeg) = 0 then (fM_byRank_4 E4 n) x1 (x2 + 1) μ else if x1 = (-1) then (fM_byRank_4 E4 n) x2 (x2 + 1) μ else if (μ 5 x1.toNatClampNeg) ≤ (μ 5 x2.toNatClampNeg) then (fM_byRank_4 E4 n) x1 (x2 + 1) μ else (fM_byRank_4 E4 n) x2 (x2 + 1) μ
def kM_byRank_4  (KE4 : Int32 → Int32 → (Nat → Nat → Int32) → Prop) : Nat → Int32 → Int32 → (Nat → Nat → Int32) → Prop
  | 0, _, _, _ => False
  | n + 1, x1, x2, μ => ((μ 3 0) ≤ x2 → KE4 x1 x2 μ) ∧ (¬ ((μ 3 0) ≤ x2) → (vp_in x2 20) ∧ (((μ 28 x2.toNatClampNeg) = 0 → (kM_byRank_4 KE4 n) x1 (x2 + 1) μ) ∧ (¬ ((μ 28 x2.toNatClampNeg) = 0) → (x1 = (-1) → (kM_byRank_4 KE4 n) x2 (x2 + 1) μ) ∧ (¬ (x1 = (-1)) → (vp_in x2 20) ∧ ((vp_in x1 20) ∧ (((μ 5 x1.toNatClampNeg) ≤ (μ 5 x2.toNatClampNeg) → (kM_byRank_4 KE4 n) x1 (x2 + 1) μ) ∧ (¬ ((μ 5 x1.toNatClampNeg) ≤ (μ 5 x2.toNatClampNeg)) → (kM_byRank_4 KE4 n) x2 (x2 + 1) μ)))))))
def fM_byRank  (μ : Nat → Nat → Int32) : Int32 := fM_byRank_4 fM_byRank_4x 200 (-1) 0 μ
def kM_byRank  (μ : Nat → Nat → Int32) : Prop := kM_byRank_4 kM_byRank_4x 200 (-1) 0 μ
def fM_byNumber_4x  (x1 : Int32) (x2 : Int32) (x3 : Int32) (μ : Nat → Nat → Int32) : Int32 := (-1)
def kM_byNumber_4x  (x1 : Int32) (x2 : Int32) (x3 : Int32) (μ : Nat → Nat → Int32) : Prop := True
def fM_byNumber_4  (E4 : Int32 → Int32 → Int32 → (Nat → Nat → Int32) → Int32) : Nat → Int32 → Int32 → Int32 → (Nat → Nat → Int32) → Int32
  | 0, _, _, _, _ => 0
  | n + 1, x1, x2, x3, μ => if (μ 3 0) ≤ x3 then E4 x1 x2 x3 μ else if (μ 28 x3.toNatClampNeg) = 0 then (fM_byNumber_4 E4 n) x1 x2 (x3 + 1) μ else if x2 = 0 then x3 else (fM_byNumber_4 E4 n) x1 (x2 + (-1)) (x3 + 1) μ
def kM_byNumber_4  (KE4 : Int32 → Int32 → Int32 → (Nat → Nat → Int32) → Prop) : Nat → Int32 → Int32 → Int32 → (Nat → Nat → Int32) → Prop
  | 0, _, _, _, _ => False
  | n + 1, x1, x2, x3, μ => ((μ 3 0) ≤ x3 → KE4 x1 x2 x3 μ) ∧ (¬ ((μ 3 0) ≤ x3) → (vp_in x3 20) ∧ (((μ 28 x3.toNatClampNeg) = 0 → (kM_byNumber_4 KE4 n) x1 x2 (x3 + 1) μ) ∧ (¬ ((μ 28 x3.toNatClampNeg) = 0) → (x2 = 0 → True) ∧ (¬ (x2 = 0) → (kM_byNumber_4 KE4 n) x1 (x2 + (-1)) (x3 + 1) μ))))
def fM_byNumber (x1 : Int32) (μ : Nat → Nat → Int32) : Int32 := fM_byNumber_4 fM_byNumber_4x 200 x1 x1 0 μ
def kM_byNumber (x1 : Int32) (μ : Nat → Nat → Int32) : Prop := kM_byNumber_4 kM_byNumber_4x 200 x1 x1 0 μ
def fM_coming_5x  (x1 : Int32) (x2 : Int32) (x3 : Int32) (x4 : Int32) (μ : Nat → Nat → Int32) : Int32 := x3
def kM_coming_5x  (x1 : Int32) (x2 : Int32) (x3 : Int32) (x4 : Int32) (μ : Nat → Nat → Int32) : Prop := True
def fM_coming_5  (E5 : Int32 → Int32 → Int32 → Int32 → (Nat → Nat → Int32) → Int32) : Nat → Int32 → Int32 → Int32 → Int32 → (Nat → Nat → Int32) → Int32
  | 0, _, _, _, _, _ => 0
  | n + 1, x1, x2, x3, x4, μ => if (μ 10 0) < x4 then E5 x1 x2 x3 x4 μ else if (μ 15 x4.toNatClampNeg) = 0 then if (μ 12 x4.toNatClampNeg) = x1 then if (μ 13 x4.toNatClampNeg) = x2 then (fM_coming_5 E5 n) x1 x2 (x3 + (μ 14 x4.toNatClampNeg)) (x4 + 1) μ else (fM_coming_5 E5 n) x1 x2 (x3 + 0) (x4 + 1) μ else (fM_coming_5 E5 n) x1 x2 (x3 + 0) (x4 + 1) μ else (fM_coming_5 E5 n) x1 x2 (x3 + 0) (x4 + 1) μ
def kM_coming_5  (KE5 : Int32 → Int32 → Int32 → Int32 → (Nat → Nat → Int32) → Prop) : Nat → Int32 → Int32 → Int32 → Int32 → (Nat → Nat → Int32) → Prop
  | 0, _, _, _, _, _ => False
  | n + 1, x1, x2, x3, x4, μ => ((μ 10 0) < x4 → KE5 x1 x2 x3 x4 μ) ∧ (¬ ((μ 10 0) < x4) → (vp_in x4 61) ∧ (((μ 15 x4.toNatClampNeg) = 0 → (vp_in x4 61) ∧ (((μ 12 x4.toNatClampNeg) = x1 → (vp_in x4 61) ∧ (((μ 13 x4.toNatClampNeg) = x2 → (vp_in x4 61) ∧ ((kM_coming_5 KE5 n) x1 x2 (x3 + (μ 14 x4.toNatClampNeg)) (x4 + 1) μ)) ∧ (¬ ((μ 13 x4.toNatClampNeg) = x2) → (kM_coming_5 KE5 n) x1 x2 (x3 + 0) (x4 + 1) μ))) ∧ (¬ ((μ 12 x4.toNatClampNeg) = x1) → (kM_coming_5 KE5 n) x1 x2 (x3 + 0) (x4 + 1) μ))) ∧ (¬ ((μ 15 x4.toNatClampNeg) = 0) → (kM_coming_5 KE5 n) x1 x2 (x3 + 0) (x4 + 1) μ)))
def fM_coming (x1 : Int32) (x2 : Int32) (μ : Nat → Nat → Int32) : Int32 := fM_coming_5 fM_coming_5x 200 x1 x2 0 1 μ
def kM_coming (x1 : Int32) (x2 : Int32) (μ : Nat → Nat → Int32) : Prop := kM_coming_5 kM_coming_5x 200 x1 x2 0 1 μ
def fM_slot_2x  (x1 : Int32) (x2 : Int32) (x3 : Int32) (μ : Nat → Nat → Int32) : Int32 := (-1)
def kM_slot_2x  (x1 : Int32) (x2 : Int32) (x3 : Int32) (μ : Nat → Nat → Int32) : Prop := True
def fM_slot_2  (E2 : Int32 → Int32 → Int32 → (Nat → Nat → Int32) → Int32) : Nat → Int32 → Int32 → Int32 → (Nat → Nat → Int32) → Int32
  | 0, _, _, _, _ => 0
  | n + 1, x1, x2, x3, μ => if (μ 18 x1.toNatClampNeg) ≤ x3 then E2 x1 x2 x3 μ else if (μ 20 ((20 * x1) + x3).toNatClampNeg) = x2 then x3 else (fM_slot_2 E2 n) x1 x2 (x3 + 1) μ
def kM_slot_2  (KE2 : Int32 → Int32 → Int32 → (Nat → Nat → Int32) → Prop) : Nat → Int32 → Int32 → Int32 → (Nat → Nat → Int32) → Prop
  | 0, _, _, _, _ => False
  | n + 1, x1, x2, x3, μ => (vp_in x1 21) ∧ (((μ 18 x1.toNatClampNeg) ≤ x3 → KE2 x1 x2 x3 μ) ∧ (¬ ((μ 18 x1.toNatClampNeg) ≤ x3) → (vp_in ((20 * x1) + x3) 420) ∧ (((μ 20 ((20 * x1) + x3).toNatClampNeg) = x2 → True) ∧ (¬ ((μ 20 ((20 * x1) + x3).toNatClampNeg) = x2) → (kM_slot_2 KE2 n) x1 x2 (x3 + 1) μ))))
def fM_slot (x1 : Int32) (x2 : Int32) (μ : Nat → Nat → Int32) : Int32 := fM_slot_2 fM_slot_2x 200 x1 x2 0 μ
def kM_slot (x1 : Int32) (x2 : Int32) (μ : Nat → Nat → Int32) : Prop := kM_slot_2 kM_slot_2x 200 x1 x2 0 μ
def fM_counts (x1 : Int32) (μ : Nat → Nat → Int32) : Int32 := if (fM_secondBy x1 μ) = (-1) then if (fM_firstBy x1 μ) = (-1) then 0 else μ 22 x1.toNatClampNeg else μ 23 x1.toNatClampNeg
def kM_counts (x1 : Int32) (μ : Nat → Nat → Int32) : Prop := (kM_secondBy x1 μ) ∧ (((fM_secondBy x1 μ) = (-1) → (kM_firstBy x1 μ) ∧ (((fM_firstBy x1 μ) = (-1) → True) ∧ (¬ ((fM_firstBy x1 μ) = (-1)) → (vp_in x1 2520) ∧ (True)))) ∧ (¬ ((fM_secondBy x1 μ) = (-1)) → (vp_in x1 2520) ∧ (True)))
def fM_isTold_5x  (x1 : Int32) (x2 : Int32) (x3 : Int32) (x4 : Int32) (μ : Nat → Nat → Int32) : Int32 := x3
def kM_isTold_5x  (x1 : Int32) (x2 : Int32) (x3 : Int32) (x4 : Int32) (μ : Nat → Nat → Int32) : Prop := narrow .boolean (.int x3) = .int x3
def fM_isTold_5  (E5 : Int32 → Int32 → Int32 → Int32 → (Nat → Nat → Int32) → Int32) : Nat → Int32 → Int32 → Int32 → Int32 → (Nat → Nat → Int32) → Int32
  | 0, _, _, _, _, _ => 0
  | n + 1, x1, x2, x3, x4, μ => if 6 ≤ x4 then E5 x1 x2 x3 x4 μ else if x3 = 0 then if (μ 24 (((120 * x1) + (6 * x2)) + x4).toNatClampNeg) ≤ 0 then (fM_isTold_5 E5 n) x1 x2 0 (x4 + 1) μ else (fM_isTold_5 E5 n) x1 x2 1 (x4 + 1) μ else (fM_isTold_5 E5 n) x1 x2 1 (x4 + 1) μ
def kM_isTold_5  (KE5 : Int32 → Int32 → Int32 → Int32 → (Nat → Nat → Int32) → Prop) : Nat → Int32 → Int32 → Int32 → Int32 → (Nat → Nat → Int32) → Prop
  | 0, _, _, _, _, _ => False
  | n + 1, x1, x2, x3, x4, μ => (6 ≤ x4 → KE5 x1 x2 x3 x4 μ) ∧ (¬ (6 ≤ x4) → (x3 = 0 → (vp_in (((120 * x1) + (6 * x2)) + x4) 2520) ∧ (((μ 24 (((120 * x1) + (6 * x2)) + x4).toNatClampNeg) ≤ 0 → (kM_isTold_5 KE5 n) x1 x2 0 (x4 + 1) μ) ∧ (¬ ((μ 24 (((120 * x1) + (6 * x2)) + x4).toNatClampNeg) ≤ 0) → (kM_isTold_5 KE5 n) x1 x2 1 (x4 + 1) μ))) ∧ (¬ (x3 = 0) → (kM_isTold_5 KE5 n) x1 x2 1 (x4 + 1) μ))
def fM_isTold (x1 : Int32) (x2 : Int32) (μ : Nat → Nat → Int32) : Int32 := fM_isTold_5 fM_isTold_5x 200 x1 x2 0 0 μ
def kM_isTold (x1 : Int32) (x2 : Int32) (μ : Nat → Nat → Int32) : Prop := kM_isTold_5 kM_isTold_5x 200 x1 x2 0 0 μ
def fM_bookedAt (x1 : Int32) (μ : Nat → Nat → Int32) : Int32 := (6 * (μ 20 ((20 * (x1 / 120)) + ((x1 - x1 / 120 * 120) / 6)).toNatClampNeg)) + (x1 - x1 / 6 * 6)
def kM_bookedAt (x1 : Int32) (μ : Nat → Nat → Int32) : Prop := (vp_in ((20 * (x1 / 120)) + ((x1 - x1 / 120 * 120) / 6)) 420) ∧ (True)
def fM_difference_5x  (x1 : Int32) (x2 : Int32) (x3 : Int32) (x4 : Int32) (μ : Nat → Nat → Int32) : Int32 := (-1)
def kM_difference_5x  (x1 : Int32) (x2 : Int32) (x3 : Int32) (x4 : Int32) (μ : Nat → Nat → Int32) : Prop := True
def fM_difference_33x (O5 : Int32 → Int32 → Int32 → Int32 → (Nat → Nat → Int32) → Int32) (E5 : Int32 → Int32 → Int32 → Int32 → (Nat → Nat → Int32) → Int32) (x1 : Int32) (x2 : Int32) (x3 : Int32) (x4 : Int32) (x5 : Int32) (μ : Nat → Nat → Int32) : Int32 := O5 x1 x2 x3 (x4 + 1) μ
def kM_difference_33x (KO5 : Int32 → Int32 → Int32 → Int32 → (Nat → Nat → Int32) → Prop) (KE5 : Int32 → Int32 → Int32 → Int32 → (Nat → Nat → Int32) → Prop) (x1 : Int32) (x2 : Int32) (x3 : Int32) (x4 : Int32) (x5 : Int32) (μ : Nat → Nat → Int32) : Prop := KO5 x1 x2 x3 (x4 + 1) μ
def fM_difference_33 (O5 : Int32 → Int32 → Int32 → Int32 → (Nat → Nat → Int32) → Int32) (E5 : Int32 → Int32 → Int32 → Int32 → (Nat → Nat → Int32) → Int32) (E33 : Int32 → Int32 → Int32 → Int32 → Int32 → (Nat → Nat → Int32) → Int32) : Nat → Int32 → Int32 → Int32 → Int32 → Int32 → (Nat → Nat → Int32) → Int32
  | 0, _, _, _, _, _, _ => 0
  | n + 1, x1, x2, x3, x4, x5, μ => if 6 ≤ x5 then E33 x1 x2 x3 x4 x5 μ else if (fM_isTold x1 x4 μ) = 0 then E33 x1 x2 x3 x4 x5 μ else if (fM_counts (((120 * x1) + (6 * x4)) + x5) μ) = (μ 21 (((120 * x1) + (6 * x4)) + x5).toNatClampNeg) then (fM_difference_33 O5 E5 E33 n) x1 x2 x3 x4 (x5 + 1) μ else if x3 = 0 then ((120 * x1) + (6 * x4)) + x5 else (fM_difference_33 O5 E5 E33 n) x1 x2 (x3 + (-1)) x4 (x5 + 1) μ
def kM_difference_33 (KO5 : Int32 → Int32 → Int32 → Int32 → (Nat → Nat → Int32) → Prop) (KE5 : Int32 → Int32 → Int32 → Int32 → (Nat → Nat → Int32) → Prop) (KE33 : Int32 → Int32 → Int32 → Int32 → Int32 → (Nat → Nat → Int32) → Prop) : Nat → Int32 → Int32 → Int32 → Int32 → Int32 → (Nat → Nat → Int32) → Prop
  | 0, _, _, _, _, _, _ => False
  | n + 1, x1, x2, x3, x4, x5, μ => (6 ≤ x5 → KE33 x1 x2 x3 x4 x5 μ) ∧ (¬ (6 ≤ x5) → (kM_isTold x1 x4 μ) ∧ (((fM_isTold x1 x4 μ) = 0 → KE33 x1 x2 x3 x4 x5 μ) ∧ (¬ ((fM_isTold x1 x4 μ) = 0) → (kM_counts (((120 * x1) + (6 * x4)) + x5) μ) ∧ ((vp_in (((120 * x1) + (6 * x4)) + x5) 2520) ∧ (((fM_counts (((120 * x1) + (6 * x4)) + x5) μ) = (μ 21 (((120 * x1) + (6 * x4)) + x5).toNatClampNeg) → (kM_difference_33 KO5 KE5 KE33 n) x1 x2 x3 x4 (x5 + 1) μ) ∧ (¬ ((fM_counts (((120 * x1) + (6 * x4)) + x5) μ) = (μ 21 (((120 * x1) + (6 * x4)) + x5).toNatClampNeg)) → (x3 = 0 → True) ∧ (¬ (x3 = 0) → (kM_difference_33 KO5 KE5 KE33 n) x1 x2 (x3 + (-1)) x4 (x5 + 1) μ)))))))
def fM_difference_5  (E5 : Int32 → Int32 → Int32 → Int32 → (Nat → Nat → Int32) → Int32) : Nat → Int32 → Int32 → Int32 → Int32 → (Nat → Nat → Int32) → Int32
  | 0, _, _, _, _, _ => 0
  | n + 1, x1, x2, x3, x4, μ => if (μ 18 x1.toNatClampNeg) ≤ x4 then E5 x1 x2 x3 x4 μ else if x2 < 0 then E5 x1 x2 x3 x4 μ else if (μ 17 x1.toNatClampNeg) = 2 then fM_difference_33 (fM_difference_5 E5 n) E5 (fM_difference_33x (fM_difference_5 E5 n) E5) 200 x1 x2 x3 x4 0 μ else E5 x1 x2 x3 x4 μ
def kM_difference_5  (KE5 : Int32 → Int32 → Int32 → Int32 → (Nat → Nat → Int32) → Prop) : Nat → Int32 → Int32 → Int32 → Int32 → (Nat → Nat → Int32) → Prop
  | 0, _, _, _, _, _ => False
  | n + 1, x1, x2, x3, x4, μ => (vp_in x1 21) ∧ (((μ 18 x1.toNatClampNeg) ≤ x4 → KE5 x1 x2 x3 x4 μ) ∧ (¬ ((μ 18 x1.toNatClampNeg) ≤ x4) → (x2 < 0 → KE5 x1 x2 x3 x4 μ) ∧ (¬ (x2 < 0) → (vp_in x1 21) ∧ (((μ 17 x1.toNatClampNeg) = 2 → kM_difference_33 (kM_difference_5 KE5 n) KE5 (kM_difference_33x (kM_difference_5 KE5 n) KE5) 200 x1 x2 x3 x4 0 μ) ∧ (¬ ((μ 17 x1.toNatClampNeg) = 2) → KE5 x1 x2 x3 x4 μ)))))
def fM_difference (x1 : Int32) (x2 : Int32) (μ : Nat → Nat → Int32) : Int32 := fM_difference_5 fM_difference_5x 200 x1 x2 x2 0 μ
def kM_difference (x1 : Int32) (x2 : Int32) (μ : Nat → Nat → Int32) : Prop := kM_difference_5 kM_difference_5x 200 x1 x2 x2 0 μ
set_option maxHeartbeats 4000000 in
set_option maxRecDepth 100000 in
theorem cM_in (l : Launch) (x0 : Int32) (x1 : Int32) (x2 : Int32) {F : Int32} (hok : kM_in x0 x1 x2) (hF : fM_in x0 x1 x2 = F) : Met l y_M_in (Cond.code y_M_in b_M_in 3 (some .boolean) :: gw) ({ frames := 0, cells := 0, slots := 0, locals := 0 } : Room) (va_Pc [.int x0, .int x1, .int x2] (fun _ => True)) (qP (.int F)) 0 0 (fun _ => False) := by
  refine en_P (by decide) (Nat.le_of_ble_eq_true rfl) ?_
  intro p e s m args below meth c ls hx hb hml hown hts hr hlocks hl
  have hl : lv_has ls 3 [(0, .int x0), (1, .int x1), (2, .int x2)] := hl
  unfold kM_in at hok
  unfold fM_in at hF
  refine lv_iload_n hx hb d_M_in_0 rfl (lv_at hl 0 rfl) ?_
  refine lv_iload_n hx hb d_M_in_1 rfl (lv_at hl 1 rfl) ?_
  refine lv_icmp_lt (tgt := 14) hx hb d_M_in_2 (by decide) (fun c_1 => ?_) (fun c_1 => ?_)
  · have hok := hok.1 c_1
    have hF := (if_pos c_1).symm.trans hF
    refine lv_iconst (v := 0) hx hb d_M_in_14 (by decide) ?_
    exact rt_p hx hb hr hlocks rfl (by rw [hF]) d_M_in_15 (Nat.le_refl 0) (Nat.le_refl 0)
  · have hok := hok.2 c_1
    have hF := (if_neg c_1).symm.trans hF
    refine lv_iload_n hx hb d_M_in_5 rfl (lv_at hl 0 rfl) ?_
    refine lv_iload_n hx hb d_M_in_6 rfl (lv_at hl 2 rfl) ?_
    refine lv_icmp_gt (tgt := 14) hx hb d_M_in_7 (by decide) (fun c_2 => ?_) (fun c_2 => ?_)
    · have hok := hok.1 c_2
      have hF := (if_pos c_2).symm.trans hF
      refine lv_iconst (v := 0) hx hb d_M_in_14 (by decide) ?_
      exact rt_p hx hb hr hlocks rfl (by rw [hF]) d_M_in_15 (Nat.le_refl 0) (Nat.le_refl 0)
    · have hok := hok.2 c_2
      have hF := (if_neg c_2).symm.trans hF
      refine lv_iconst (v := 1) hx hb d_M_in_10 (by decide) ?_
      refine lv_goto (tgt := 15) hx hb d_M_in_11 (by decide) ?_
      exact rt_p hx hb hr hlocks rfl (by rw [hF]) d_M_in_15 (Nat.le_refl 0) (Nat.le_refl 0)
set_option maxHeartbeats 4000000 in
set_option maxRecDepth 100000 in
theorem cM_isGood (l : Launch) (x0 : Int32) {F : Int32} (hok : kM_isGood x0) (hF : fM_isGood x0 = F) : Met l y_M_isGood (Cond.code y_M_isGood b_M_isGood 1 (some .boolean) :: gw) ({ frames := 1, cells := 0, slots := 0, locals := 22 } : Room) (va_Pc [.int x0] (fun _ => True)) (qP (.int F)) 0 0 (fun _ => False) := by
  refine en_P (by decide) (Nat.le_of_ble_eq_true rfl) ?_
  intro p e s m args below meth c ls hx hb hml hown hts hr hlocks hl
  have hl : lv_has ls 1 [(0, .int x0)] := hl
  unfold kM_isGood at hok
  unfold fM_isGood at hF
  refine lv_iload_n hx hb d_M_isGood_0 rfl (lv_at hl 0 rfl) ?_
  refine lv_iconst (v := 0) hx hb d_M_isGood_1 (by decide) ?_
  refine lv_iconst (v := 5) hx hb d_M_isGood_2 (by decide) ?_
  obtain ⟨hi_1, hok⟩ := hok
  refine cs_p (n := 3) (As := [.int x0, .int 0, .int 5]) (rest := []) hx hb hml hown hts (cM_in l x0 0 5 hi_1 rfl) (gd_S wd_710 wd_711 wd_3 wd_712) (by decide +kernel) ⟨rfl, rfl, Nat.le_of_ble_eq_true rfl, Nat.le_of_ble_eq_true rfl, Nat.le_of_ble_eq_true rfl, Nat.le_of_ble_eq_true rfl⟩ rfl hl.1 rfl (Nat.le_of_ble_eq_true rfl) d_M_isGood_3 ?_
  exact rt_p hx hb hr hlocks hok (by rw [hF]) d_M_isGood_6 (Nat.le_refl 0) (Nat.le_refl 0)
set_option maxHeartbeats 4000000 in
set_option maxRecDepth 100000 in
theorem cM_isPerson (l : Launch) (x0 : Int32) {F : Int32} (hok : kM_isPerson x0) (hF : fM_isPerson x0 = F) : Met l y_M_isPerson (Cond.code y_M_isPerson b_M_isPerson 1 (some .boolean) :: gw) ({ frames := 1, cells := 0, slots := 0, locals := 22 } : Room) (va_Pc [.int x0] (fun _ => True)) (qP (.int F)) 0 0 (fun _ => False) := by
  refine en_P (by decide) (Nat.le_of_ble_eq_true rfl) ?_
  intro p e s m args below meth c ls hx hb hml hown hts hr hlocks hl
  have hl : lv_has ls 1 [(0, .int x0)] := hl
  unfold kM_isPerson at hok
  unfold fM_isPerson at hF
  refine lv_iload_n hx hb d_M_isPerson_0 rfl (lv_at hl 0 rfl) ?_
  refine lv_iconst (v := 0) hx hb d_M_isPerson_1 (by decide) ?_
  refine lv_iconst (v := 5) hx hb d_M_isPerson_2 (by decide) ?_
  obtain ⟨hi_1, hok⟩ := hok
  refine cs_p (n := 3) (As := [.int x0, .int 0, .int 5]) (rest := []) hx hb hml hown hts (cM_in l x0 0 5 hi_1 rfl) (gd_S wd_710 wd_711 wd_3 wd_712) (by decide +kernel) ⟨rfl, rfl, Nat.le_of_ble_eq_true rfl, Nat.le_of_ble_eq_true rfl, Nat.le_of_ble_eq_true rfl, Nat.le_of_ble_eq_true rfl⟩ rfl hl.1 rfl (Nat.le_of_ble_eq_true rfl) d_M_isPerson_3 ?_
  exact rt_p hx hb hr hlocks hok (by rw [hF]) d_M_isPerson_6 (Nat.le_refl 0) (Nat.le_refl 0)
set_option maxHeartbeats 4000000 in
set_option maxRecDepth 100000 in
theorem cM_far (l : Launch) (x0 : Int32) (x1 : Int32) {F : Int32} (hok : kM_far x0 x1) (hF : fM_far x0 x1 = F) : Met l y_M_far (Cond.code y_M_far b_M_far 2 (some .int) :: gw) ({ frames := 0, cells := 0, slots := 0, locals := 0 } : Room) (va_Pc [.int x0, .int x1] (fun _ => True)) (qP (.int F)) 0 0 (fun _ => False) := by
  refine en_P (by decide) (Nat.le_of_ble_eq_true rfl) ?_
  intro p e s m args below meth c ls hx hb hml hown hts hr hlocks hl
  have hl : lv_has ls 2 [(0, .int x0), (1, .int x1)] := hl
  unfold kM_far at hok
  unfold fM_far at hF
  refine lv_iload_n hx hb d_M_far_0 rfl (lv_at hl 0 rfl) ?_
  refine lv_iload_n hx hb d_M_far_1 rfl (lv_at hl 1 rfl) ?_
  refine lv_icmp_le (tgt := 11) hx hb d_M_far_2 (by decide) (fun c_1 => ?_) (fun c_1 => ?_)
  · have hok := hok.1 c_1
    have hF := (if_pos c_1).symm.trans hF
    refine lv_iload_n hx hb d_M_far_11 rfl (lv_at hl 1 rfl) ?_
    refine lv_iload_n hx hb d_M_far_12 rfl (lv_at hl 0 rfl) ?_
    refine lv_isub hx hb d_M_far_13 ?_
    exact rt_p hx hb hr hlocks rfl (by rw [hF]) d_M_far_14 (Nat.le_refl 0) (Nat.le_refl 0)
  · have hok := hok.2 c_1
    have hF := (if_neg c_1).symm.trans hF
    refine lv_iload_n hx hb d_M_far_5 rfl (lv_at hl 0 rfl) ?_
    refine lv_iload_n hx hb d_M_far_6 rfl (lv_at hl 1 rfl) ?_
    refine lv_isub hx hb d_M_far_7 ?_
    refine lv_goto (tgt := 14) hx hb d_M_far_8 (by decide) ?_
    exact rt_p hx hb hr hlocks rfl (by rw [hF]) d_M_far_14 (Nat.le_refl 0) (Nat.le_refl 0)
set_option maxHeartbeats 4000000 in
set_option maxRecDepth 100000 in
theorem cM_divisor (l : Launch) (x0 : Int32) (x1 : Int32) {F : Int32} (hok : kM_divisor x0 x1) (hF : fM_divisor x0 x1 = F) : Met l y_M_divisor (Cond.code y_M_divisor b_M_divisor 5 (some .int) :: gw) ({ frames := 0, cells := 0, slots := 0, locals := 0 } : Room) (va_Pc [.int x0, .int x1] (fun _ => True)) (qP (.int F)) 0 0 (fun _ => False) := by
  refine en_P (by decide) (Nat.le_of_ble_eq_true rfl) ?_
  intro p e s m args below meth c ls hx hb hml hown hts hr hlocks hl
  have hl : lv_has ls 5 [(0, .int x0), (1, .int x1)] := hl
  unfold kM_divisor at hok
  unfold fM_divisor at hF
  refine lv_iload_n hx hb d_M_divisor_0 rfl (lv_at hl 0 rfl) ?_
  refine lv_istore_n (lv' := [(2, .int x0), (0, .int x0), (1, .int x1)]) hx hb d_M_divisor_1 rfl hl (by decide) rfl (fun ls hl => ?_)
  refine lv_iload_n hx hb d_M_divisor_2 rfl (lv_at hl 2 rfl) ?_
  refine lv_istore_n (lv' := [(3, .int x1), (2, .int x0), (0, .int x0), (1, .int x1)]) hx hb d_M_divisor_3 rfl hl (by decide) rfl (fun ls hl => ?_)
  have hx_4 : ∀ (x0 : Int32) (x1 : Int32) (x2 : Int32) (x3 : Int32) (ls : Array Slot), lv_has ls 5 [(0, .int x0), (1, .int x1), (2, .int x2), (3, .int x3)] → kM_divisor_4x x0 x1 x2 x3 → fM_divisor_4x x0 x1 x2 x3 = F → W p l e ({ frames := 0, cells := 0, slots := 0, locals := 0 } : Room) s m args below meth c s.heap [] 0 0 (MQ below (qP (.int F)) args s 0 0 (fun _ => False)) (F0 m 21 ls []) := by
    intro x0 x1 x2 x3 ls hl hok hF
    unfold kM_divisor_4x at hok
    unfold fM_divisor_4x at hF
    refine lv_iload_n hx hb d_M_divisor_21 rfl (lv_at hl 2 rfl) ?_
    exact rt_p hx hb hr hlocks rfl (by rw [hF]) d_M_divisor_22 (Nat.le_refl 0) (Nat.le_refl 0)
  have lp_4 : ∀ (n4 : Nat) (x0 : Int32) (x1 : Int32) (x2 : Int32) (x3 : Int32) (ls : Array Slot), lv_has ls 5 [(0, .int x0), (1, .int x1), (2, .int x2), (3, .int x3)] → kM_divisor_4 kM_divisor_4x n4 x0 x1 x2 x3 → fM_divisor_4 fM_divisor_4x n4 x0 x1 x2 x3 = F → W p l e ({ frames := 0, cells := 0, slots := 0, locals := 0 } : Room) s m args below meth c s.heap [] 0 0 (MQ below (qP (.int F)) args s 0 0 (fun _ => False)) (F0 m 4 ls []) := by
    intro n4
    induction n4 with
    | zero =>
      intro x0 x1 x2 x3 ls hl hok hF
      unfold kM_divisor_4 at hok
      exact hok.elim
    | succ n4 ih_4 =>
      intro x0 x1 x2 x3 ls hl hok hF
      unfold kM_divisor_4 at hok
      unfold fM_divisor_4 at hF
      refine lv_iload_n hx hb d_M_divisor_4 rfl (lv_at hl 3 rfl) ?_
      refine lv_if_le (tgt := 21) hx hb d_M_divisor_5 (by decide) (fun c_1 => ?_) (fun c_1 => ?_)
      · have hok := hok.1 c_1
        have hF := (if_pos c_1).symm.trans hF
        exact hx_4 x0 x1 x2 x3 ls (lv_sub hl [0, 1, 2, 3] rfl) hok hF
      · have hok := hok.2 c_1
        have hF := (if_neg c_1).symm.trans hF
        refine lv_iload_n hx hb d_M_divisor_8 rfl (lv_at hl 2 rfl) ?_
        refine lv_iload_n hx hb d_M_divisor_9 rfl (lv_at hl 3 rfl) ?_
        obtain ⟨hi_2, hok⟩ := hok
        refine lv_irem hx hb d_M_divisor_10 hi_2 ?_
        refine lv_istore (lv' := [(4, .int (x2 - x2 / x3 * x3)), (0, .int x0), (1, .int x1), (2, .int x2), (3, .int x3)]) hx hb d_M_divisor_11 hl (by decide) rfl (fun ls hl => ?_)
        refine lv_iload_n hx hb d_M_divisor_13 rfl (lv_at hl 4 rfl) ?_
        refine lv_istore_n (lv' := [(2, .int x3), (4, .int (x2 - x2 / x3 * x3)), (0, .int x0), (1, .int x1), (3, .int x3)]) hx hb d_M_divisor_14 rfl hl (by decide) rfl (fun ls hl => ?_)
        refine lv_iload hx hb d_M_divisor_15 (lv_at hl 1 rfl) ?_
        refine lv_istore_n (lv' := [(3, .int (x2 - x2 / x3 * x3)), (2, .int x3), (4, .int (x2 - x2 / x3 * x3)), (0, .int x0), (1, .int x1)]) hx hb d_M_divisor_17 rfl hl (by decide) rfl (fun ls hl => ?_)
        refine lv_goto (tgt := 4) hx hb d_M_divisor_18 (by decide) ?_
        exact ih_4 x0 x1 x3 (x2 - x2 / x3 * x3) ls (lv_sub hl [3, 4, 1, 0] rfl) hok hF
  exact lp_4 200 x0 x1 x0 x1 ls (lv_sub hl [2, 3, 1, 0] rfl) hok hF
set_option maxHeartbeats 4000000 in
set_option maxRecDepth 100000 in
theorem cM_thrown (l : Launch) (D : va_G) (tc : Nat → ClassId) (a : Nat → Nat) (Y : va_W) (sz : Nat) (μ : Nat → Nat → Int32) {F : Int32} (hok : kM_thrown  μ) (hF : fM_thrown  μ = F) : Met l y_M_thrown (Cond.code y_M_thrown b_M_thrown 1 (some .int) :: gw) ({ frames := 0, cells := 0, slots := 0, locals := 0 } : Room) (va_Pc [.ref (a 0)] (pW D tc (mo tc a μ ++ Y) sz)) (qP (.int F)) 0 0 (fun _ => False) := by
  refine en_W (by decide) (Nat.le_of_ble_eq_true rfl) ?_
  intro p e s m args below meth c ls h0 hr hlocks hin hsz hw hl
  obtain ⟨hx, hb, hml, hown, hts, hK⟩ := id h0
  have hl : lv_has ls 1 [(0, .ref (a 0))] := hl
  unfold kM_thrown at hok
  unfold fM_thrown at hF
  refine lv_aload_n hx hb d_M_thrown_0 rfl (lv_at hl 0 rfl) ?_
  refine mg_0 h0 hw d_M_thrown_1 ?_
  exact rt_p hx hb hr hlocks rfl (by rw [hF]) d_M_thrown_4 (Nat.le_refl 0) (Nat.le_refl 0)
set_option maxHeartbeats 4000000 in
set_option maxRecDepth 100000 in
theorem cM_isPlace (l : Launch) (D : va_G) (tc : Nat → ClassId) (a : Nat → Nat) (Y : va_W) (sz : Nat) (x1 : Int32) (μ : Nat → Nat → Int32) {F : Int32} (hok : kM_isPlace x1 μ) (hF : fM_isPlace x1 μ = F) : Met l y_M_isPlace (Cond.code y_M_isPlace b_M_isPlace 2 (some .boolean) :: gw) ({ frames := 1, cells := 0, slots := 0, locals := 22 } : Room) (va_Pc [.ref (a 0), .int x1] (pW D tc (mo tc a μ ++ Y) sz)) (qP (.int F)) 0 0 (fun _ => False) := by
  refine en_W (by decide) (Nat.le_of_ble_eq_true rfl) ?_
  intro p e s m args below meth c ls h0 hr hlocks hin hsz hw hl
  obtain ⟨hx, hb, hml, hown, hts, hK⟩ := id h0
  have hl : lv_has ls 2 [(0, .ref (a 0)), (1, .int x1)] := hl
  unfold kM_isPlace at hok
  unfold fM_isPlace at hF
  refine lv_iload_n hx hb d_M_isPlace_0 rfl (lv_at hl 1 rfl) ?_
  refine lv_iconst (v := 0) hx hb d_M_isPlace_1 (by decide) ?_
  refine lv_aload_n hx hb d_M_isPlace_2 rfl (lv_at hl 0 rfl) ?_
  refine mg_3 h0 hw d_M_isPlace_3 ?_
  refine lv_iconst (v := 1) hx hb d_M_isPlace_6 (by decide) ?_
  refine lv_isub hx hb d_M_isPlace_7 ?_
  obtain ⟨hi_1, hok⟩ := hok
  refine cs_p (n := 3) (As := [.int x1, .int 0, .int ((μ 3 0) - 1)]) (rest := []) hx hb hml hown hts (cM_in l x1 0 ((μ 3 0) - 1) hi_1 rfl) (gd_S wd_710 wd_711 wd_3 wd_712) (by decide +kernel) ⟨rfl, rfl, Nat.le_of_ble_eq_true rfl, Nat.le_of_ble_eq_true rfl, Nat.le_of_ble_eq_true rfl, Nat.le_of_ble_eq_true rfl⟩ rfl hl.1 rfl (Nat.le_of_ble_eq_true rfl) d_M_isPlace_8 ?_
  exact rt_p hx hb hr hlocks hok (by rw [hF]) d_M_isPlace_11 (Nat.le_refl 0) (Nat.le_refl 0)
set_option maxHeartbeats 4000000 in
set_option maxRecDepth 100000 in
theorem cM_isCount (l : Launch) (D : va_G) (tc : Nat → ClassId) (a : Nat → Nat) (Y : va_W) (sz : Nat) (x1 : Int32) (μ : Nat → Nat → Int32) {F : Int32} (hok : kM_isCount x1 μ) (hF : fM_isCount x1 μ = F) : Met l y_M_isCount (Cond.code y_M_isCount b_M_isCount 2 (some .boolean) :: gw) ({ frames := 1, cells := 0, slots := 0, locals := 22 } : Room) (va_Pc [.ref (a 0), .int x1] (pW D tc (mo tc a μ ++ Y) sz)) (qP (.int F)) 0 0 (fun _ => False) := by
  refine en_W (by decide) (Nat.le_of_ble_eq_true rfl) ?_
  intro p e s m args below meth c ls h0 hr hlocks hin hsz hw hl
  obtain ⟨hx, hb, hml, hown, hts, hK⟩ := id h0
  have hl : lv_has ls 2 [(0, .ref (a 0)), (1, .int x1)] := hl
  unfold kM_isCount at hok
  unfold fM_isCount at hF
  refine lv_iload_n hx hb d_M_isCount_0 rfl (lv_at hl 1 rfl) ?_
  refine lv_iconst (v := 1) hx hb d_M_isCount_1 (by decide) ?_
  refine lv_aload_n hx hb d_M_isCount_2 rfl (lv_at hl 0 rfl) ?_
  refine mg_16 h0 hw d_M_isCount_3 ?_
  obtain ⟨hi_1, hok⟩ := hok
  refine cs_p (n := 3) (As := [.int x1, .int 1, .int (μ 16 0)]) (rest := []) hx hb hml hown hts (cM_in l x1 1 (μ 16 0) hi_1 rfl) (gd_S wd_710 wd_711 wd_3 wd_712) (by decide +kernel) ⟨rfl, rfl, Nat.le_of_ble_eq_true rfl, Nat.le_of_ble_eq_true rfl, Nat.le_of_ble_eq_true rfl, Nat.le_of_ble_eq_true rfl⟩ rfl hl.1 rfl (Nat.le_of_ble_eq_true rfl) d_M_isCount_6 ?_
  exact rt_p hx hb hr hlocks hok (by rw [hF]) d_M_isCount_9 (Nat.le_refl 0) (Nat.le_refl 0)
set_option maxHeartbeats 4000000 in
set_option maxRecDepth 100000 in
theorem cM_firstBy (l : Launch) (D : va_G) (tc : Nat → ClassId) (a : Nat → Nat) (Y : va_W) (sz : Nat) (x1 : Int32) (μ : Nat → Nat → Int32) {F : Int32} (hok : kM_firstBy x1 μ) (hF : fM_firstBy x1 μ = F) : Met l y_M_firstBy (Cond.code y_M_firstBy b_M_firstBy 2 (some .int) :: gw) ({ frames := 0, cells := 0, slots := 0, locals := 0 } : Room) (va_Pc [.ref (a 0), .int x1] (pW D tc (mo tc a μ ++ Y) sz)) (qP (.int F)) 0 0 (fun _ => False) := by
  refine en_W (by decide) (Nat.le_of_ble_eq_true rfl) ?_
  intro p e s m args below meth c ls h0 hr hlocks hin hsz hw hl
  obtain ⟨hx, hb, hml, hown, hts, hK⟩ := id h0
  have hl : lv_has ls 2 [(0, .ref (a 0)), (1, .int x1)] := hl
  unfold kM_firstBy at hok
  unfold fM_firstBy at hF
  refine lv_aload_n hx hb d_M_firstBy_0 rfl (lv_at hl 0 rfl) ?_
  refine mg_24 h0 hw d_M_firstBy_1 ?_
  refine lv_iload_n hx hb d_M_firstBy_4 rfl (lv_at hl 1 rfl) ?_
  obtain ⟨hi_1, hok⟩ := hok
  refine ml_24 h0 hw hi_1 d_M_firstBy_5 ?_
  refine lv_bipush (v := 10) hx hb d_M_firstBy_6 (by decide) ?_
  refine lv_irem hx hb d_M_firstBy_8 (by decide) ?_
  refine lv_iconst (v := 1) hx hb d_M_firstBy_9 (by decide) ?_
  refine lv_isub hx hb d_M_firstBy_10 ?_
  exact rt_p hx hb hr hlocks rfl (by rw [hF]) d_M_firstBy_11 (Nat.le_refl 0) (Nat.le_refl 0)
set_option maxHeartbeats 4000000 in
set_option maxRecDepth 100000 in
theorem cM_secondBy (l : Launch) (D : va_G) (tc : Nat → ClassId) (a : Nat → Nat) (Y : va_W) (sz : Nat) (x1 : Int32) (μ : Nat → Nat → Int32) {F : Int32} (hok : kM_secondBy x1 μ) (hF : fM_secondBy x1 μ = F) : Met l y_M_secondBy (Cond.code y_M_secondBy b_M_secondBy 2 (some .int) :: gw) ({ frames := 0, cells := 0, slots := 0, locals := 0 } : Room) (va_Pc [.ref (a 0), .int x1] (pW D tc (mo tc a μ ++ Y) sz)) (qP (.int F)) 0 0 (fun _ => False) := by
  refine en_W (by decide) (Nat.le_of_ble_eq_true rfl) ?_
  intro p e s m args below meth c ls h0 hr hlocks hin hsz hw hl
  obtain ⟨hx, hb, hml, hown, hts, hK⟩ := id h0
  have hl : lv_has ls 2 [(0, .ref (a 0)), (1, .int x1)] := hl
  unfold kM_secondBy at hok
  unfold fM_secondBy at hF
  refine lv_aload_n hx hb d_M_secondBy_0 rfl (lv_at hl 0 rfl) ?_
  refine mg_24 h0 hw d_M_secondBy_1 ?_
  refine lv_iload_n hx hb d_M_secondBy_4 rfl (lv_at hl 1 rfl) ?_
  obtain ⟨hi_1, hok⟩ := hok
  refine ml_24 h0 hw hi_1 d_M_secondBy_5 ?_
  refine lv_bipush (v := 10) hx hb d_M_secondBy_6 (by decide) ?_
  refine lv_idiv hx hb d_M_secondBy_8 (by decide) ?_
  refine lv_iconst (v := 1) hx hb d_M_secondBy_9 (by decide) ?_
  refine lv_isub hx hb d_M_secondBy_10 ?_
  exact rt_p hx hb hr hlocks rfl (by rw [hF]) d_M_secondBy_11 (Nat.le_refl 0) (Nat.le_refl 0)
set_option maxHeartbeats 4000000 in
set_option maxRecDepth 100000 in
theorem cM_openAt (l : Launch) (D : va_G) (tc : Nat → ClassId) (a : Nat → Nat) (Y : va_W) (sz : Nat) (x1 : Int32) (μ : Nat → Nat → Int32) {F : Int32} (hok : kM_openAt x1 μ) (hF : fM_openAt x1 μ = F) : Met l y_M_openAt (Cond.code y_M_openAt b_M_openAt 4 (some .int) :: gw) ({ frames := 0, cells := 0, slots := 0, locals := 0 } : Room) (va_Pc [.ref (a 0), .int x1] (pW D tc (mo tc a μ ++ Y) sz)) (qP (.int F)) 0 0 (fun _ => False) := by
  refine en_W (by decide) (Nat.le_of_ble_eq_true rfl) ?_
  intro p e s m args below meth c ls h0 hr hlocks hin hsz hw hl
  obtain ⟨hx, hb, hml, hown, hts, hK⟩ := id h0
  have hl : lv_has ls 4 [(0, .ref (a 0)), (1, .int x1)] := hl
  unfold kM_openAt at hok
  unfold fM_openAt at hF
  refine lv_iconst (v := 0) hx hb d_M_openAt_0 (by decide) ?_
  refine lv_istore_n (lv' := [(2, .int 0), (0, .ref (a 0)), (1, .int x1)]) hx hb d_M_openAt_1 rfl hl (by decide) rfl (fun ls hl => ?_)
  refine lv_iconst (v := 1) hx hb d_M_openAt_2 (by decide) ?_
  refine lv_istore_n (lv' := [(3, .int 1), (2, .int 0), (0, .ref (a 0)), (1, .int x1)]) hx hb d_M_openAt_3 rfl hl (by decide) rfl (fun ls hl => ?_)
  have hx_4 : ∀ (x1 : Int32) (x2 : Int32) (x3 : Int32) (ls : Array Slot), lv_has ls 4 [(0, .ref (a 0)), (1, .int x1), (2, .int x2), (3, .int x3)] → kM_openAt_4x x1 x2 x3 μ → fM_openAt_4x x1 x2 x3 μ = F → W p l e ({ frames := 0, cells := 0, slots := 0, locals := 0 } : Room) s m args below meth c s.heap [] 0 0 (MQ below (qP (.int F)) args s 0 0 (fun _ => False)) (F0 m 55 ls []) := by
    intro x1 x2 x3 ls hl hok hF
    unfold kM_openAt_4x at hok
    unfold fM_openAt_4x at hF
    refine lv_iload_n hx hb d_M_openAt_55 rfl (lv_at hl 2 rfl) ?_
    exact rt_p hx hb hr hlocks rfl (by rw [hF]) d_M_openAt_56 (Nat.le_refl 0) (Nat.le_refl 0)
  have lp_4 : ∀ (n4 : Nat) (x1 : Int32) (x2 : Int32) (x3 : Int32) (ls : Array Slot), lv_has ls 4 [(0, .ref (a 0)), (1, .int x1), (2, .int x2), (3, .int x3)] → kM_openAt_4 kM_openAt_4x n4 x1 x2 x3 μ → fM_openAt_4 fM_openAt_4x n4 x1 x2 x3 μ = F → W p l e ({ frames := 0, cells := 0, slots := 0, locals := 0 } : Room) s m args below meth c s.heap [] 0 0 (MQ below (qP (.int F)) args s 0 0 (fun _ => False)) (F0 m 4 ls []) := by
    intro n4
    induction n4 with
    | zero =>
      intro x1 x2 x3 ls hl hok hF
      unfold kM_openAt_4 at hok
      exact hok.elim
    | succ n4 ih_4 =>
      intro x1 x2 x3 ls hl hok hF
      unfold kM_openAt_4 at hok
      unfold fM_openAt_4 at hF
      refine lv_iload_n hx hb d_M_openAt_4 rfl (lv_at hl 3 rfl) ?_
      refine lv_aload_n hx hb d_M_openAt_5 rfl (lv_at hl 0 rfl) ?_
      refine mg_10 h0 hw d_M_openAt_6 ?_
      refine lv_icmp_gt (tgt := 55) hx hb d_M_openAt_9 (by decide) (fun c_1 => ?_) (fun c_1 => ?_)
      · have hok := hok.1 c_1
        have hF := (if_pos c_1).symm.trans hF
        exact hx_4 x1 x2 x3 ls (lv_sub hl [0, 1, 2, 3] rfl) hok hF
      · have hok := hok.2 c_1
        have hF := (if_neg c_1).symm.trans hF
        refine lv_iload_n hx hb d_M_openAt_12 rfl (lv_at hl 2 rfl) ?_
        refine lv_aload_n hx hb d_M_openAt_13 rfl (lv_at hl 0 rfl) ?_
        refine mg_15 h0 hw d_M_openAt_14 ?_
        refine lv_iload_n hx hb d_M_openAt_17 rfl (lv_at hl 3 rfl) ?_
        obtain ⟨hi_2, hok⟩ := hok
        refine ml_15 h0 hw hi_2 d_M_openAt_18 ?_
        refine lv_if_ne (tgt := 46) hx hb d_M_openAt_19 (by decide) (fun c_3 => ?_) (fun c_3 => ?_)
        · have hok := hok.2 c_3
          have hF := (if_neg c_3).symm.trans hF
          refine lv_iconst (v := 0) hx hb d_M_openAt_46 (by decide) ?_
          refine lv_iadd hx hb d_M_openAt_47 ?_
          refine lv_istore_n (lv' := [(2, .int (x2 + 0)), (0, .ref (a 0)), (1, .int x1), (3, .int x3)]) hx hb d_M_openAt_48 rfl hl (by decide) rfl (fun ls hl => ?_)
          refine lv_iinc (v := x3 + 1) (lv' := [(3, .int (x3 + 1)), (2, .int (x2 + 0)), (0, .ref (a 0)), (1, .int x1)]) hx hb d_M_openAt_49 hl (k := 3) rfl rfl (by decide) rfl (fun ls hl => ?_)
          refine lv_goto (tgt := 4) hx hb d_M_openAt_52 (by decide) ?_
          exact ih_4 x1 (x2 + 0) (x3 + 1) ls (lv_sub hl [2, 3, 1, 0] rfl) hok hF
        · have hok := hok.1 c_3
          have hF := (if_pos c_3).symm.trans hF
          refine lv_aload_n hx hb d_M_openAt_22 rfl (lv_at hl 0 rfl) ?_
          refine mg_11 h0 hw d_M_openAt_23 ?_
          refine lv_iload_n hx hb d_M_openAt_26 rfl (lv_at hl 3 rfl) ?_
          obtain ⟨hi_4, hok⟩ := hok
          refine ml_11 h0 hw hi_4 d_M_openAt_27 ?_
          refine lv_iload_n hx hb d_M_openAt_28 rfl (lv_at hl 1 rfl) ?_
          refine lv_icmp_eq (tgt := 42) hx hb d_M_openAt_29 (by decide) (fun c_5 => ?_) (fun c_5 => ?_)
          · have hok := hok.1 c_5
            have hF := (if_pos c_5).symm.trans hF
            refine lv_iconst (v := 1) hx hb d_M_openAt_42 (by decide) ?_
            refine lv_goto (tgt := 47) hx hb d_M_openAt_43 (by decide) ?_
            refine lv_iadd hx hb d_M_openAt_47 ?_
            refine lv_istore_n (lv' := [(2, .int (x2 + 1)), (0, .ref (a 0)), (1, .int x1), (3, .int x3)]) hx hb d_M_openAt_48 rfl hl (by decide) rfl (fun ls hl => ?_)
            refine lv_iinc (v := x3 + 1) (lv' := [(3, .int (x3 + 1)), (2, .int (x2 + 1)), (0, .ref (a 0)), (1, .int x1)]) hx hb d_M_openAt_49 hl (k := 3) rfl rfl (by decide) rfl (fun ls hl => ?_)
            refine lv_goto (tgt := 4) hx hb d_M_openAt_52 (by decide) ?_
            exact ih_4 x1 (x2 + 1) (x3 + 1) ls (lv_sub hl [2, 3, 1, 0] rfl) hok hF
          · have hok := hok.2 c_5
            have hF := (if_neg c_5).symm.trans hF
            refine lv_aload_n hx hb d_M_openAt_32 rfl (lv_at hl 0 rfl) ?_
            refine mg_12 h0 hw d_M_openAt_33 ?_
            refine lv_iload_n hx hb d_M_openAt_36 rfl (lv_at hl 3 rfl) ?_
            obtain ⟨hi_6, hok⟩ := hok
            refine ml_12 h0 hw hi_6 d_M_openAt_37 ?_
            refine lv_iload_n hx hb d_M_openAt_38 rfl (lv_at hl 1 rfl) ?_
            refine lv_icmp_ne (tgt := 46) hx hb d_M_openAt_39 (by decide) (fun c_7 => ?_) (fun c_7 => ?_)
            · have hok := hok.2 c_7
              have hF := (if_neg c_7).symm.trans hF
              refine lv_iconst (v := 0) hx hb d_M_openAt_46 (by decide) ?_
              refine lv_iadd hx hb d_M_openAt_47 ?_
              refine lv_istore_n (lv' := [(2, .int (x2 + 0)), (0, .ref (a 0)), (1, .int x1), (3, .int x3)]) hx hb d_M_openAt_48 rfl hl (by decide) rfl (fun ls hl => ?_)
              refine lv_iinc (v := x3 + 1) (lv' := [(3, .int (x3 + 1)), (2, .int (x2 + 0)), (0, .ref (a 0)), (1, .int x1)]) hx hb d_M_openAt_49 hl (k := 3) rfl rfl (by decide) rfl (fun ls hl => ?_)
              refine lv_goto (tgt := 4) hx hb d_M_openAt_52 (by decide) ?_
              exact ih_4 x1 (x2 + 0) (x3 + 1) ls (lv_sub hl [2, 3, 1, 0] rfl) hok hF
            · have hok := hok.1 c_7
              have hF := (if_pos c_7).symm.trans hF
              refine lv_iconst (v := 1) hx hb d_M_openAt_42 (by decide) ?_
              refine lv_goto (tgt := 47) hx hb d_M_openAt_43 (by decide) ?_
              refine lv_iadd hx hb d_M_openAt_47 ?_
              refine lv_istore_n (lv' := [(2, .int (x2 + 1)), (0, .ref (a 0)), (1, .int x1), (3, .int x3)]) hx hb d_M_openAt_48 rfl hl (by decide) rfl (fun ls hl => ?_)
              refine lv_iinc (v := x3 + 1) (lv' := [(3, .int (x3 + 1)), (2, .int (x2 + 1)), (0, .ref (a 0)), (1, .int x1)]) hx hb d_M_openAt_49 hl (k := 3) rfl rfl (by decide) rfl (fun ls hl => ?_)
              refine lv_goto (tgt := 4) hx hb d_M_openAt_52 (by decide) ?_
              exact ih_4 x1 (x2 + 1) (x3 + 1) ls (lv_sub hl [2, 3, 1, 0] rfl) hok hF
  exact lp_4 200 x1 0 1 ls (lv_sub hl [2, 3, 1, 0] rfl) hok hF
set_option maxHeartbeats 4000000 in
set_option maxRecDepth 100000 in
theorem cM_isBusy (l : Launch) (D : va_G) (tc : Nat → ClassId) (a : Nat → Nat) (Y : va_W) (sz : Nat) (x1 : Int32) (μ : Nat → Nat → Int32) {F : Int32} (hok : kM_isBusy x1 μ) (hF : fM_isBusy x1 μ = F) : Met l y_M_isBusy (Cond.code y_M_isBusy b_M_isBusy 4 (some .boolean) :: gw) ({ frames := 0, cells := 0, slots := 0, locals := 0 } : Room) (va_Pc [.ref (a 0), .int x1] (pW D tc (mo tc a μ ++ Y) sz)) (qP (.int F)) 0 0 (fun _ => False) := by
  refine en_W (by decide) (Nat.le_of_ble_eq_true rfl) ?_
  intro p e s m args below meth c ls h0 hr hlocks hin hsz hw hl
  obtain ⟨hx, hb, hml, hown, hts, hK⟩ := id h0
  have hl : lv_has ls 4 [(0, .ref (a 0)), (1, .int x1)] := hl
  unfold kM_isBusy at hok
  unfold fM_isBusy at hF
  refine lv_iconst (v := 1) hx hb d_M_isBusy_0 (by decide) ?_
  refine lv_istore_n (lv' := [(2, .int 1), (0, .ref (a 0)), (1, .int x1)]) hx hb d_M_isBusy_1 rfl hl (by decide) rfl (fun ls hl => ?_)
  have hx_2 : ∀ (x1 : Int32) (x2 : Int32) (ls : Array Slot), lv_has ls 4 [(0, .ref (a 0)), (1, .int x1), (2, .int x2)] → kM_isBusy_2x x1 x2 μ → fM_isBusy_2x x1 x2 μ = F → W p l e ({ frames := 0, cells := 0, slots := 0, locals := 0 } : Room) s m args below meth c s.heap [] 0 0 (MQ below (qP (.int F)) args s 0 0 (fun _ => False)) (F0 m 61 ls []) := by
    intro x1 x2 ls hl hok hF
    unfold kM_isBusy_2x at hok
    unfold fM_isBusy_2x at hF
    refine lv_iconst (v := 0) hx hb d_M_isBusy_61 (by decide) ?_
    exact rt_p hx hb hr hlocks rfl (by rw [hF]) d_M_isBusy_62 (Nat.le_refl 0) (Nat.le_refl 0)
  have lp_2 : ∀ (n2 : Nat) (x1 : Int32) (x2 : Int32) (ls : Array Slot), lv_has ls 4 [(0, .ref (a 0)), (1, .int x1), (2, .int x2)] → kM_isBusy_2 kM_isBusy_2x n2 x1 x2 μ → fM_isBusy_2 fM_isBusy_2x n2 x1 x2 μ = F → W p l e ({ frames := 0, cells := 0, slots := 0, locals := 0 } : Room) s m args below meth c s.heap [] 0 0 (MQ below (qP (.int F)) args s 0 0 (fun _ => False)) (F0 m 2 ls []) := by
    intro n2
    induction n2 with
    | zero =>
      intro x1 x2 ls hl hok hF
      unfold kM_isBusy_2 at hok
      exact hok.elim
    | succ n2 ih_2 =>
      intro x1 x2 ls hl hok hF
      unfold kM_isBusy_2 at hok
      unfold fM_isBusy_2 at hF
      refine lv_iload_n hx hb d_M_isBusy_2 rfl (lv_at hl 2 rfl) ?_
      refine lv_aload_n hx hb d_M_isBusy_3 rfl (lv_at hl 0 rfl) ?_
      refine mg_16 h0 hw d_M_isBusy_4 ?_
      refine lv_icmp_gt (tgt := 61) hx hb d_M_isBusy_7 (by decide) (fun c_1 => ?_) (fun c_1 => ?_)
      · have hok := hok.1 c_1
        have hF := (if_pos c_1).symm.trans hF
        exact hx_2 x1 x2 ls (lv_sub hl [0, 1, 2] rfl) hok hF
      · have hok := hok.2 c_1
        have hF := (if_neg c_1).symm.trans hF
        refine lv_iconst (v := 0) hx hb d_M_isBusy_10 (by decide) ?_
        refine lv_istore_n (lv' := [(3, .int 0), (0, .ref (a 0)), (1, .int x1), (2, .int x2)]) hx hb d_M_isBusy_11 rfl hl (by decide) rfl (fun ls hl => ?_)
        have hx_12 : ∀ (x1 : Int32) (x2 : Int32) (x3 : Int32) (ls : Array Slot), lv_has ls 4 [(0, .ref (a 0)), (1, .int x1), (2, .int x2), (3, .int x3)] → (kM_isBusy_12x (kM_isBusy_2 kM_isBusy_2x n2) kM_isBusy_2x) x1 x2 x3 μ → (fM_isBusy_12x (fM_isBusy_2 fM_isBusy_2x n2) fM_isBusy_2x) x1 x2 x3 μ = F → W p l e ({ frames := 0, cells := 0, slots := 0, locals := 0 } : Room) s m args below meth c s.heap [] 0 0 (MQ below (qP (.int F)) args s 0 0 (fun _ => False)) (F0 m 55 ls []) := by
          intro x1 x2 x3 ls hl hok hF
          unfold kM_isBusy_12x at hok
          unfold fM_isBusy_12x at hF
          refine lv_iinc (v := x2 + 1) (lv' := [(2, .int (x2 + 1)), (0, .ref (a 0)), (1, .int x1), (3, .int x3)]) hx hb d_M_isBusy_55 hl (k := 2) rfl rfl (by decide) rfl (fun ls hl => ?_)
          refine lv_goto (tgt := 2) hx hb d_M_isBusy_58 (by decide) ?_
          exact ih_2 x1 (x2 + 1) ls (lv_sub hl [1, 2, 0] rfl) hok hF
        have lp_12 : ∀ (n12 : Nat) (x1 : Int32) (x2 : Int32) (x3 : Int32) (ls : Array Slot), lv_has ls 4 [(0, .ref (a 0)), (1, .int x1), (2, .int x2), (3, .int x3)] → kM_isBusy_12 (kM_isBusy_2 kM_isBusy_2x n2) kM_isBusy_2x (kM_isBusy_12x (kM_isBusy_2 kM_isBusy_2x n2) kM_isBusy_2x) n12 x1 x2 x3 μ → fM_isBusy_12 (fM_isBusy_2 fM_isBusy_2x n2) fM_isBusy_2x (fM_isBusy_12x (fM_isBusy_2 fM_isBusy_2x n2) fM_isBusy_2x) n12 x1 x2 x3 μ = F → W p l e ({ frames := 0, cells := 0, slots := 0, locals := 0 } : Room) s m args below meth c s.heap [] 0 0 (MQ below (qP (.int F)) args s 0 0 (fun _ => False)) (F0 m 12 ls []) := by
          intro n12
          induction n12 with
          | zero =>
            intro x1 x2 x3 ls hl hok hF
            unfold kM_isBusy_12 at hok
            exact hok.elim
          | succ n12 ih_12 =>
            intro x1 x2 x3 ls hl hok hF
            unfold kM_isBusy_12 at hok
            unfold fM_isBusy_12 at hF
            refine lv_iload_n hx hb d_M_isBusy_12 rfl (lv_at hl 3 rfl) ?_
            refine lv_aload_n hx hb d_M_isBusy_13 rfl (lv_at hl 0 rfl) ?_
            refine mg_18 h0 hw d_M_isBusy_14 ?_
            refine lv_iload_n hx hb d_M_isBusy_17 rfl (lv_at hl 2 rfl) ?_
            obtain ⟨hi_2, hok⟩ := hok
            refine ml_18 h0 hw hi_2 d_M_isBusy_18 ?_
            refine lv_icmp_ge (tgt := 55) hx hb d_M_isBusy_19 (by decide) (fun c_3 => ?_) (fun c_3 => ?_)
            · have hok := hok.1 c_3
              have hF := (if_pos c_3).symm.trans hF
              exact hx_12 x1 x2 x3 ls (lv_sub hl [0, 1, 2, 3] rfl) hok hF
            · have hok := hok.2 c_3
              have hF := (if_neg c_3).symm.trans hF
              refine lv_aload_n hx hb d_M_isBusy_22 rfl (lv_at hl 0 rfl) ?_
              refine mg_17 h0 hw d_M_isBusy_23 ?_
              refine lv_iload_n hx hb d_M_isBusy_26 rfl (lv_at hl 2 rfl) ?_
              obtain ⟨hi_4, hok⟩ := hok
              refine ml_17 h0 hw hi_4 d_M_isBusy_27 ?_
              refine lv_iconst (v := 2) hx hb d_M_isBusy_28 (by decide) ?_
              refine lv_icmp_eq (tgt := 55) hx hb d_M_isBusy_29 (by decide) (fun c_5 => ?_) (fun c_5 => ?_)
              · have hok := hok.1 c_5
                have hF := (if_pos c_5).symm.trans hF
                exact hx_12 x1 x2 x3 ls (lv_sub hl [0, 1, 2, 3] rfl) hok hF
              · have hok := hok.2 c_5
                have hF := (if_neg c_5).symm.trans hF
                refine lv_aload_n hx hb d_M_isBusy_32 rfl (lv_at hl 0 rfl) ?_
                refine mg_20 h0 hw d_M_isBusy_33 ?_
                refine lv_bipush (v := 20) hx hb d_M_isBusy_36 (by decide) ?_
                refine lv_iload_n hx hb d_M_isBusy_38 rfl (lv_at hl 2 rfl) ?_
                refine lv_imul hx hb d_M_isBusy_39 ?_
                refine lv_iload_n hx hb d_M_isBusy_40 rfl (lv_at hl 3 rfl) ?_
                refine lv_iadd hx hb d_M_isBusy_41 ?_
                obtain ⟨hi_6, hok⟩ := hok
                refine ml_20 h0 hw hi_6 d_M_isBusy_42 ?_
                refine lv_iload_n hx hb d_M_isBusy_43 rfl (lv_at hl 1 rfl) ?_
                refine lv_icmp_ne (tgt := 49) hx hb d_M_isBusy_44 (by decide) (fun c_7 => ?_) (fun c_7 => ?_)
                · have hok := hok.2 c_7
                  have hF := (if_neg c_7).symm.trans hF
                  refine lv_iinc (v := x3 + 1) (lv' := [(3, .int (x3 + 1)), (0, .ref (a 0)), (1, .int x1), (2, .int x2)]) hx hb d_M_isBusy_49 hl (k := 3) rfl rfl (by decide) rfl (fun ls hl => ?_)
                  refine lv_goto (tgt := 12) hx hb d_M_isBusy_52 (by decide) ?_
                  exact ih_12 x1 x2 (x3 + 1) ls (lv_sub hl [1, 2, 3, 0] rfl) hok hF
                · have hok := hok.1 c_7
                  have hF := (if_pos c_7).symm.trans hF
                  refine lv_iconst (v := 1) hx hb d_M_isBusy_47 (by decide) ?_
                  exact rt_p hx hb hr hlocks rfl (by rw [hF]) d_M_isBusy_48 (Nat.le_refl 0) (Nat.le_refl 0)
        exact lp_12 200 x1 x2 0 ls (lv_sub hl [1, 2, 3, 0] rfl) hok hF
  exact lp_2 200 x1 1 ls (lv_sub hl [1, 2, 0] rfl) hok hF
set_option maxHeartbeats 4000000 in
set_option maxRecDepth 100000 in
theorem cM_byRank (l : Launch) (D : va_G) (tc : Nat → ClassId) (a : Nat → Nat) (Y : va_W) (sz : Nat) (μ : Nat → Nat → Int32) {F : Int32} (hok : kM_byRank  μ) (hF : fM_byRank  μ = F) : Met l y_M_byRank (Cond.code y_M_byRank b_M_byRank 3 (some .int) :: gw) ({ frames := 0, cells := 0, slots := 0, locals := 0 } : Room) (va_Pc [.ref (a 0)] (pW D tc (mo tc a μ ++ Y) sz)) (qP (.int F)) 0 0 (fun _ => False) := by
  refine en_W (by decide) (Nat.le_of_ble_eq_true rfl) ?_
  intro p e s m args below meth c ls h0 hr hlocks hin hsz hw hl
  obtain ⟨hx, hb, hml, hown, hts, hK⟩ := id h0
  have hl : lv_has ls 3 [(0, .ref (a 0))] := hl
  unfold kM_byRank at hok
  unfold fM_byRank at hF
  refine lv_iconst (v := (-1)) hx hb d_M_byRank_0 (by decide) ?_
  refine lv_istore_n (lv' := [(1, .int (-1)), (0, .ref (a 0))]) hx hb d_M_byRank_1 rfl hl (by decide) rfl (fun ls hl => ?_)
  refine lv_iconst (v := 0) hx hb d_M_byRank_2 (by decide) ?_
  refine lv_istore_n (lv' := [(2, .int 0), (1, .int (-1)), (0, .ref (a 0))]) hx hb d_M_byRank_3 rfl hl (by decide) rfl (fun ls hl => ?_)
  have hx_4 : ∀ (x1 : Int32) (x2 : Int32) (ls : Array Slot), lv_has ls 3 [(0, .ref (a 0)), (1, .int x1), (2, .int x2)] → kM_byRank_4x x1 x2 μ → fM_byRank_4x x1 x2 μ = F → W p l e ({ frames := 0, cells := 0, slots := 0, locals := 0 } : Room) s m args below meth c s.heap [] 0 0 (MQ below (qP (.int F)) args s 0 0 (fun _ => False)) (F0 m 49 ls []) := by
    intro x1 x2 ls hl hok hF
    unfold kM_byRank_4x at hok
    unfold fM_byRank_4x at hF
    refine lv_iload_n hx hb d_M_byRank_49 rfl (lv_at hl 1 rfl) ?_
    exact rt_p hx hb hr hlocks rfl (by rw [hF]) d_M_byRank_50 (Nat.le_refl 0) (Nat.le_refl 0)
  have lp_4 : ∀ (n4 : Nat) (x1 : Int32) (x2 : Int32) (ls : Array Slot), lv_has ls 3 [(0, .ref (a 0)), (1, .int x1), (2, .int x2)] → kM_byRank_4 kM_byRank_4x n4 x1 x2 μ → fM_byRank_4 fM_byRank_4x n4 x1 x2 μ = F → W p l e ({ frames := 0, cells := 0, slots := 0, locals := 0 } : Room) s m args below meth c s.heap [] 0 0 (MQ below (qP (.int F)) args s 0 0 (fun _ => False)) (F0 m 4 ls []) := by
    intro n4
    induction n4 with
    | zero =>
      intro x1 x2 ls hl hok hF
      unfold kM_byRank_4 at hok
      exact hok.elim
    | succ n4 ih_4 =>
      intro x1 x2 ls hl hok hF
      unfold kM_byRank_4 at hok
      unfold fM_byRank_4 at hF
      refine lv_iload_n hx hb d_M_byRank_4 rfl (lv_at hl 2 rfl) ?_
      refine lv_aload_n hx hb d_M_byRank_5 rfl (lv_at hl 0 rfl) ?_
      refine mg_3 h0 hw d_M_byRank_6 ?_
      refine lv_icmp_ge (tgt := 49) hx hb d_M_byRank_9 (by decide) (fun c_1 => ?_) (fun c_1 => ?_)
      · have hok := hok.1 c_1
        have hF := (if_pos c_1).symm.trans hF
        exact hx_4 x1 x2 ls (lv_sub hl [0, 1, 2] rfl) hok hF
      · have hok := hok.2 c_1
        have hF := (if_neg c_1).symm.trans hF
        refine lv_aload_n hx hb d_M_byRank_12 rfl (lv_at hl 0 rfl) ?_
        refine mg_28 h0 hw d_M_byRank_13 ?_
        refine lv_iload_n hx hb d_M_byRank_16 rfl (lv_at hl 2 rfl) ?_
        obtain ⟨hi_2, hok⟩ := hok
        refine ml_28 h0 hw hi_2 d_M_byRank_17 ?_
        refine lv_if_eq (tgt := 43) hx hb d_M_byRank_18 (by decide) (fun c_3 => ?_) (fun c_3 => ?_)
        · have hok := hok.1 c_3
          have hF := (if_pos c_3).symm.trans hF
          refine lv_iinc (v := x2 + 1) (lv' := [(2, .int (x2 + 1)), (0, .ref (a 0)), (1, .int x1)]) hx hb d_M_byRank_43 hl (k := 2) rfl rfl (by decide) rfl (fun ls hl => ?_)
          refine lv_goto (tgt := 4) hx hb d_M_byRank_46 (by decide) ?_
          exact ih_4 x1 (x2 + 1) ls (lv_sub hl [1, 2, 0] rfl) hok hF
        · have hok := hok.2 c_3
          have hF := (if_neg c_3).symm.trans hF
          refine lv_iload_n hx hb d_M_byRank_21 rfl (lv_at hl 1 rfl) ?_
          refine lv_iconst (v := (-1)) hx hb d_M_byRank_22 (by decide) ?_
          refine lv_icmp_eq (tgt := 41) hx hb d_M_byRank_23 (by decide) (fun c_4 => ?_) (fun c_4 => ?_)
          · have hok := hok.1 c_4
            have hF := (if_pos c_4).symm.trans hF
            refine lv_iload_n hx hb d_M_byRank_41 rfl (lv_at hl 2 rfl) ?_
            refine lv_istore_n (lv' := [(1, .int x2), (0, .ref (a 0)), (2, .int x2)]) hx hb d_M_byRank_42 rfl hl (by decide) rfl (fun ls hl => ?_)
            refine lv_iinc (v := x2 + 1) (lv' := [(2, .int (x2 + 1)), (1, .int x2), (0, .ref (a 0))]) hx hb d_M_byRank_43 hl (k := 2) rfl rfl (by decide) rfl (fun ls hl => ?_)
            refine lv_goto (tgt := 4) hx hb d_M_byRank_46 (by decide) ?_
            exact ih_4 x2 (x2 + 1) ls (lv_sub hl [2, 1, 0] rfl) hok hF
          · have hok := hok.2 c_4
            have hF := (if_neg c_4).symm.trans hF
            refine lv_aload_n hx hb d_M_byRank_26 rfl (lv_at hl 0 rfl) ?_
            refine mg_5 h0 hw d_M_byRank_27 ?_
            refine lv_iload_n hx hb d_M_byRank_30 rfl (lv_at hl 2 rfl) ?_
            obtain ⟨hi_5, hok⟩ := hok
            refine ml_5 h0 hw hi_5 d_M_byRank_31 ?_
            refine lv_aload_n hx hb d_M_byRank_32 rfl (lv_at hl 0 rfl) ?_
            refine mg_5 h0 hw d_M_byRank_33 ?_
            refine lv_iload_n hx hb d_M_byRank_36 rfl (lv_at hl 1 rfl) ?_
            obtain ⟨hi_6, hok⟩ := hok
            refine ml_5 h0 hw hi_6 d_M_byRank_37 ?_
            refine lv_icmp_ge (tgt := 43) hx hb d_M_byRank_38 (by decide) (fun c_7 => ?_) (fun c_7 => ?_)
            · have hok := hok.1 c_7
              have hF := (if_pos c_7).symm.trans hF
              refine lv_iinc (v := x2 + 1) (lv' := [(2, .int (x2 + 1)), (0, .ref (a 0)), (1, .int x1)]) hx hb d_M_byRank_43 hl (k := 2) rfl rfl (by decide) rfl (fun ls hl => ?_)
              refine lv_goto (tgt := 4) hx hb d_M_byRank_46 (by decide) ?_
              exact ih_4 x1 (x2 + 1) ls (lv_sub hl [1, 2, 0] rfl) hok hF
            · have hok := hok.2 c_7
              have hF := (if_neg c_7).symm.trans hF
              refine lv_iload_n hx hb d_M_byRank_41 rfl (lv_at hl 2 rfl) ?_
              refine lv_istore_n (lv' := [(1, .int x2), (0, .ref (a 0)), (2, .int x2)]) hx hb d_M_byRank_42 rfl hl (by decide) rfl (fun ls hl => ?_)
              refine lv_iinc (v := x2 + 1) (lv' := [(2, .int (x2 + 1)), (1, .int x2), (0, .ref (a 0))]) hx hb d_M_byRank_43 hl (k := 2) rfl rfl (by decide) rfl (fun ls hl => ?_)
              refine lv_goto (tgt := 4) hx hb d_M_byRank_46 (by decide) ?_
              exact ih_4 x2 (x2 + 1) ls (lv_sub hl [2, 1, 0] rfl) hok hF
  exact lp_4 200 (-1) 0 ls (lv_sub hl [2, 1, 0] rfl) hok hF
set_option maxHeartbeats 4000000 in
set_option maxRecDepth 100000 in
theorem cM_byNumber (l : Launch) (D : va_G) (tc : Nat → ClassId) (a : Nat → Nat) (Y : va_W) (sz : Nat) (x1 : Int32) (μ : Nat → Nat → Int32) {F : Int32} (hok : kM_byNumber x1 μ) (hF : fM_byNumber x1 μ = F) : Met l y_M_byNumber (Cond.code y_M_byNumber b_M_byNumber 4 (some .int) :: gw) ({ frames := 0, cells := 0, slots := 0, locals := 0 } : Room) (va_Pc [.ref (a 0), .int x1] (pW D tc (mo tc a μ ++ Y) sz)) (qP (.int F)) 0 0 (fun _ => False) := by
  refine en_W (by decide) (Nat.le_of_ble_eq_true rfl) ?_
  intro p e s m args below meth c ls h0 hr hlocks hin hsz hw hl
  obtain ⟨hx, hb, hml, hown, hts, hK⟩ := id h0
  have hl : lv_has ls 4 [(0, .ref (a 0)), (1, .int x1)] := hl
  unfold kM_byNumber at hok
  unfold fM_byNumber at hF
  refine lv_iload_n hx hb d_M_byNumber_0 rfl (lv_at hl 1 rfl) ?_
  refine lv_istore_n (lv' := [(2, .int x1), (0, .ref (a 0)), (1, .int x1)]) hx hb d_M_byNumber_1 rfl hl (by decide) rfl (fun ls hl => ?_)
  refine lv_iconst (v := 0) hx hb d_M_byNumber_2 (by decide) ?_
  refine lv_istore_n (lv' := [(3, .int 0), (2, .int x1), (0, .ref (a 0)), (1, .int x1)]) hx hb d_M_byNumber_3 rfl hl (by decide) rfl (fun ls hl => ?_)
  have hx_4 : ∀ (x1 : Int32) (x2 : Int32) (x3 : Int32) (ls : Array Slot), lv_has ls 4 [(0, .ref (a 0)), (1, .int x1), (2, .int x2), (3, .int x3)] → kM_byNumber_4x x1 x2 x3 μ → fM_byNumber_4x x1 x2 x3 μ = F → W p l e ({ frames := 0, cells := 0, slots := 0, locals := 0 } : Room) s m args below meth c s.heap [] 0 0 (MQ below (qP (.int F)) args s 0 0 (fun _ => False)) (F0 m 39 ls []) := by
    intro x1 x2 x3 ls hl hok hF
    unfold kM_byNumber_4x at hok
    unfold fM_byNumber_4x at hF
    refine lv_iconst (v := (-1)) hx hb d_M_byNumber_39 (by decide) ?_
    exact rt_p hx hb hr hlocks rfl (by rw [hF]) d_M_byNumber_40 (Nat.le_refl 0) (Nat.le_refl 0)
  have lp_4 : ∀ (n4 : Nat) (x1 : Int32) (x2 : Int32) (x3 : Int32) (ls : Array Slot), lv_has ls 4 [(0, .ref (a 0)), (1, .int x1), (2, .int x2), (3, .int x3)] → kM_byNumber_4 kM_byNumber_4x n4 x1 x2 x3 μ → fM_byNumber_4 fM_byNumber_4x n4 x1 x2 x3 μ = F → W p l e ({ frames := 0, cells := 0, slots := 0, locals := 0 } : Room) s m args below meth c s.heap [] 0 0 (MQ below (qP (.int F)) args s 0 0 (fun _ => False)) (F0 m 4 ls []) := by
    intro n4
    induction n4 with
    | zero =>
      intro x1 x2 x3 ls hl hok hF
      unfold kM_byNumber_4 at hok
      exact hok.elim
    | succ n4 ih_4 =>
      intro x1 x2 x3 ls hl hok hF
      unfold kM_byNumber_4 at hok
      unfold fM_byNumber_4 at hF
      refine lv_iload_n hx hb d_M_byNumber_4 rfl (lv_at hl 3 rfl) ?_
      refine lv_aload_n hx hb d_M_byNumber_5 rfl (lv_at hl 0 rfl) ?_
      refine mg_3 h0 hw d_M_byNumber_6 ?_
      refine lv_icmp_ge (tgt := 39) hx hb d_M_byNumber_9 (by decide) (fun c_1 => ?_) (fun c_1 => ?_)
      · have hok := hok.1 c_1
        have hF := (if_pos c_1).symm.trans hF
        exact hx_4 x1 x2 x3 ls (lv_sub hl [0, 1, 2, 3] rfl) hok hF
      · have hok := hok.2 c_1
        have hF := (if_neg c_1).symm.trans hF
        refine lv_aload_n hx hb d_M_byNumber_12 rfl (lv_at hl 0 rfl) ?_
        refine mg_28 h0 hw d_M_byNumber_13 ?_
        refine lv_iload_n hx hb d_M_byNumber_16 rfl (lv_at hl 3 rfl) ?_
        obtain ⟨hi_2, hok⟩ := hok
        refine ml_28 h0 hw hi_2 d_M_byNumber_17 ?_
        refine lv_if_ne (tgt := 24) hx hb d_M_byNumber_18 (by decide) (fun c_3 => ?_) (fun c_3 => ?_)
        · have hok := hok.2 c_3
          have hF := (if_neg c_3).symm.trans hF
          refine lv_iload_n hx hb d_M_byNumber_24 rfl (lv_at hl 2 rfl) ?_
          refine lv_if_ne (tgt := 30) hx hb d_M_byNumber_25 (by decide) (fun c_4 => ?_) (fun c_4 => ?_)
          · have hok := hok.2 c_4
            have hF := (if_neg c_4).symm.trans hF
            refine lv_iinc (v := x2 + (-1)) (lv' := [(2, .int (x2 + (-1))), (0, .ref (a 0)), (1, .int x1), (3, .int x3)]) hx hb d_M_byNumber_30 hl (k := 2) rfl rfl (by decide) rfl (fun ls hl => ?_)
            refine lv_iinc (v := x3 + 1) (lv' := [(3, .int (x3 + 1)), (2, .int (x2 + (-1))), (0, .ref (a 0)), (1, .int x1)]) hx hb d_M_byNumber_33 hl (k := 3) rfl rfl (by decide) rfl (fun ls hl => ?_)
            refine lv_goto (tgt := 4) hx hb d_M_byNumber_36 (by decide) ?_
            exact ih_4 x1 (x2 + (-1)) (x3 + 1) ls (lv_sub hl [2, 3, 1, 0] rfl) hok hF
          · have hok := hok.1 c_4
            have hF := (if_pos c_4).symm.trans hF
            refine lv_iload_n hx hb d_M_byNumber_28 rfl (lv_at hl 3 rfl) ?_
            exact rt_p hx hb hr hlocks rfl (by rw [hF]) d_M_byNumber_29 (Nat.le_refl 0) (Nat.le_refl 0)
        · have hok := hok.1 c_3
          have hF := (if_pos c_3).symm.trans hF
          refine lv_goto (tgt := 33) hx hb d_M_byNumber_21 (by decide) ?_
          refine lv_iinc (v := x3 + 1) (lv' := [(3, .int (x3 + 1)), (0, .ref (a 0)), (1, .int x1), (2, .int x2)]) hx hb d_M_byNumber_33 hl (k := 3) rfl rfl (by decide) rfl (fun ls hl => ?_)
          refine lv_goto (tgt := 4) hx hb d_M_byNumber_36 (by decide) ?_
          exact ih_4 x1 x2 (x3 + 1) ls (lv_sub hl [1, 2, 3, 0] rfl) hok hF
  exact lp_4 200 x1 x1 0 ls (lv_sub hl [2, 3, 1, 0] rfl) hok hF
set_option maxHeartbeats 4000000 in
set_option maxRecDepth 100000 in
theorem cM_coming (l : Launch) (D : va_G) (tc : Nat → ClassId) (a : Nat → Nat) (Y : va_W) (sz : Nat) (x1 : Int32) (x2 : Int32) (μ : Nat → Nat → Int32) {F : Int32} (hok : kM_coming x1 x2 μ) (hF : fM_coming x1 x2 μ = F) : Met l y_M_coming (Cond.code y_M_coming b_M_coming 5 (some .int) :: gw) ({ frames := 0, cells := 0, slots := 0, locals := 0 } : Room) (va_Pc [.ref (a 0), .int x1, .int x2] (pW D tc (mo tc a μ ++ Y) sz)) (qP (.int F)) 0 0 (fun _ => False) := by
  refine en_W (by decide) (Nat.le_of_ble_eq_true rfl) ?_
  intro p e s m args below meth c ls h0 hr hlocks hin hsz hw hl
  obtain ⟨hx, hb, hml, hown, hts, hK⟩ := id h0
  have hl : lv_has ls 5 [(0, .ref (a 0)), (1, .int x1), (2, .int x2)] := hl
  unfold kM_coming at hok
  unfold fM_coming at hF
  refine lv_iconst (v := 0) hx hb d_M_coming_0 (by decide) ?_
  refine lv_istore_n (lv' := [(3, .int 0), (0, .ref (a 0)), (1, .int x1), (2, .int x2)]) hx hb d_M_coming_1 rfl hl (by decide) rfl (fun ls hl => ?_)
  refine lv_iconst (v := 1) hx hb d_M_coming_2 (by decide) ?_
  refine lv_istore (lv' := [(4, .int 1), (3, .int 0), (0, .ref (a 0)), (1, .int x1), (2, .int x2)]) hx hb d_M_coming_3 hl (by decide) rfl (fun ls hl => ?_)
  have hx_5 : ∀ (x1 : Int32) (x2 : Int32) (x3 : Int32) (x4 : Int32) (ls : Array Slot), lv_has ls 5 [(0, .ref (a 0)), (1, .int x1), (2, .int x2), (3, .int x3), (4, .int x4)] → kM_coming_5x x1 x2 x3 x4 μ → fM_coming_5x x1 x2 x3 x4 μ = F → W p l e ({ frames := 0, cells := 0, slots := 0, locals := 0 } : Room) s m args below meth c s.heap [] 0 0 (MQ below (qP (.int F)) args s 0 0 (fun _ => False)) (F0 m 66 ls []) := by
    intro x1 x2 x3 x4 ls hl hok hF
    unfold kM_coming_5x at hok
    unfold fM_coming_5x at hF
    refine lv_iload_n hx hb d_M_coming_66 rfl (lv_at hl 3 rfl) ?_
    exact rt_p hx hb hr hlocks rfl (by rw [hF]) d_M_coming_67 (Nat.le_refl 0) (Nat.le_refl 0)
  have lp_5 : ∀ (n5 : Nat) (x1 : Int32) (x2 : Int32) (x3 : Int32) (x4 : Int32) (ls : Array Slot), lv_has ls 5 [(0, .ref (a 0)), (1, .int x1), (2, .int x2), (3, .int x3), (4, .int x4)] → kM_coming_5 kM_coming_5x n5 x1 x2 x3 x4 μ → fM_coming_5 fM_coming_5x n5 x1 x2 x3 x4 μ = F → W p l e ({ frames := 0, cells := 0, slots := 0, locals := 0 } : Room) s m args below meth c s.heap [] 0 0 (MQ below (qP (.int F)) args s 0 0 (fun _ => False)) (F0 m 5 ls []) := by
    intro n5
    induction n5 with
    | zero =>
      intro x1 x2 x3 x4 ls hl hok hF
      unfold kM_coming_5 at hok
      exact hok.elim
    | succ n5 ih_5 =>
      intro x1 x2 x3 x4 ls hl hok hF
      unfold kM_coming_5 at hok
      unfold fM_coming_5 at hF
      refine lv_iload hx hb d_M_coming_5 (lv_at hl 4 rfl) ?_
      refine lv_aload_n hx hb d_M_coming_7 rfl (lv_at hl 0 rfl) ?_
      refine mg_10 h0 hw d_M_coming_8 ?_
      refine lv_icmp_gt (tgt := 66) hx hb d_M_coming_11 (by decide) (fun c_1 => ?_) (fun c_1 => ?_)
      · have hok := hok.1 c_1
        have hF := (if_pos c_1).symm.trans hF
        exact hx_5 x1 x2 x3 x4 ls (lv_sub hl [0, 1, 2, 3, 4] rfl) hok hF
      · have hok := hok.2 c_1
        have hF := (if_neg c_1).symm.trans hF
        refine lv_iload_n hx hb d_M_coming_14 rfl (lv_at hl 3 rfl) ?_
        refine lv_aload_n hx hb d_M_coming_15 rfl (lv_at hl 0 rfl) ?_
        refine mg_15 h0 hw d_M_coming_16 ?_
        refine lv_iload hx hb d_M_coming_19 (lv_at hl 4 rfl) ?_
        obtain ⟨hi_2, hok⟩ := hok
        refine ml_15 h0 hw hi_2 d_M_coming_21 ?_
        refine lv_if_ne (tgt := 57) hx hb d_M_coming_22 (by decide) (fun c_3 => ?_) (fun c_3 => ?_)
        · have hok := hok.2 c_3
          have hF := (if_neg c_3).symm.trans hF
          refine lv_iconst (v := 0) hx hb d_M_coming_57 (by decide) ?_
          refine lv_iadd hx hb d_M_coming_58 ?_
          refine lv_istore_n (lv' := [(3, .int (x3 + 0)), (0, .ref (a 0)), (1, .int x1), (2, .int x2), (4, .int x4)]) hx hb d_M_coming_59 rfl hl (by decide) rfl (fun ls hl => ?_)
          refine lv_iinc (v := x4 + 1) (lv' := [(4, .int (x4 + 1)), (3, .int (x3 + 0)), (0, .ref (a 0)), (1, .int x1), (2, .int x2)]) hx hb d_M_coming_60 hl (k := 4) rfl rfl (by decide) rfl (fun ls hl => ?_)
          refine lv_goto (tgt := 5) hx hb d_M_coming_63 (by decide) ?_
          exact ih_5 x1 x2 (x3 + 0) (x4 + 1) ls (lv_sub hl [2, 3, 4, 1, 0] rfl) hok hF
        · have hok := hok.1 c_3
          have hF := (if_pos c_3).symm.trans hF
          refine lv_aload_n hx hb d_M_coming_25 rfl (lv_at hl 0 rfl) ?_
          refine mg_12 h0 hw d_M_coming_26 ?_
          refine lv_iload hx hb d_M_coming_29 (lv_at hl 4 rfl) ?_
          obtain ⟨hi_4, hok⟩ := hok
          refine ml_12 h0 hw hi_4 d_M_coming_31 ?_
          refine lv_iload_n hx hb d_M_coming_32 rfl (lv_at hl 1 rfl) ?_
          refine lv_icmp_ne (tgt := 57) hx hb d_M_coming_33 (by decide) (fun c_5 => ?_) (fun c_5 => ?_)
          · have hok := hok.2 c_5
            have hF := (if_neg c_5).symm.trans hF
            refine lv_iconst (v := 0) hx hb d_M_coming_57 (by decide) ?_
            refine lv_iadd hx hb d_M_coming_58 ?_
            refine lv_istore_n (lv' := [(3, .int (x3 + 0)), (0, .ref (a 0)), (1, .int x1), (2, .int x2), (4, .int x4)]) hx hb d_M_coming_59 rfl hl (by decide) rfl (fun ls hl => ?_)
            refine lv_iinc (v := x4 + 1) (lv' := [(4, .int (x4 + 1)), (3, .int (x3 + 0)), (0, .ref (a 0)), (1, .int x1), (2, .int x2)]) hx hb d_M_coming_60 hl (k := 4) rfl rfl (by decide) rfl (fun ls hl => ?_)
            refine lv_goto (tgt := 5) hx hb d_M_coming_63 (by decide) ?_
            exact ih_5 x1 x2 (x3 + 0) (x4 + 1) ls (lv_sub hl [2, 3, 4, 1, 0] rfl) hok hF
          · have hok := hok.1 c_5
            have hF := (if_pos c_5).symm.trans hF
            refine lv_aload_n hx hb d_M_coming_36 rfl (lv_at hl 0 rfl) ?_
            refine mg_13 h0 hw d_M_coming_37 ?_
            refine lv_iload hx hb d_M_coming_40 (lv_at hl 4 rfl) ?_
            obtain ⟨hi_6, hok⟩ := hok
            refine ml_13 h0 hw hi_6 d_M_coming_42 ?_
            refine lv_iload_n hx hb d_M_coming_43 rfl (lv_at hl 2 rfl) ?_
            refine lv_icmp_ne (tgt := 57) hx hb d_M_coming_44 (by decide) (fun c_7 => ?_) (fun c_7 => ?_)
            · have hok := hok.2 c_7
              have hF := (if_neg c_7).symm.trans hF
              refine lv_iconst (v := 0) hx hb d_M_coming_57 (by decide) ?_
              refine lv_iadd hx hb d_M_coming_58 ?_
              refine lv_istore_n (lv' := [(3, .int (x3 + 0)), (0, .ref (a 0)), (1, .int x1), (2, .int x2), (4, .int x4)]) hx hb d_M_coming_59 rfl hl (by decide) rfl (fun ls hl => ?_)
              refine lv_iinc (v := x4 + 1) (lv' := [(4, .int (x4 + 1)), (3, .int (x3 + 0)), (0, .ref (a 0)), (1, .int x1), (2, .int x2)]) hx hb d_M_coming_60 hl (k := 4) rfl rfl (by decide) rfl (fun ls hl => ?_)
              refine lv_goto (tgt := 5) hx hb d_M_coming_63 (by decide) ?_
              exact ih_5 x1 x2 (x3 + 0) (x4 + 1) ls (lv_sub hl [2, 3, 4, 1, 0] rfl) hok hF
            · have hok := hok.1 c_7
              have hF := (if_pos c_7).symm.trans hF
              refine lv_aload_n hx hb d_M_coming_47 rfl (lv_at hl 0 rfl) ?_
              refine mg_14 h0 hw d_M_coming_48 ?_
              refine lv_iload hx hb d_M_coming_51 (lv_at hl 4 rfl) ?_
              obtain ⟨hi_8, hok⟩ := hok
              refine ml_14 h0 hw hi_8 d_M_coming_53 ?_
              refine lv_goto (tgt := 58) hx hb d_M_coming_54 (by decide) ?_
              refine lv_iadd hx hb d_M_coming_58 ?_
              refine lv_istore_n (lv' := [(3, .int (x3 + (μ 14 x4.toNatClampNeg))), (0, .ref (a 0)), (1, .int x1), (2, .int x2), (4, .int x4)]) hx hb d_M_coming_59 rfl hl (by decide) rfl (fun ls hl => ?_)
              refine lv_iinc (v := x4 + 1) (lv' := [(4, .int (x4 + 1)), (3, .int (x3 + (μ 14 x4.toNatClampNeg))), (0, .ref (a 0)), (1, .int x1), (2, .int x2)]) hx hb d_M_coming_60 hl (k := 4) rfl rfl (by decide) rfl (fun ls hl => ?_)
              refine lv_goto (tgt := 5) hx hb d_M_coming_63 (by decide) ?_
              exact ih_5 x1 x2 (x3 + (μ 14 x4.toNatClampNeg)) (x4 + 1) ls (lv_sub hl [2, 3, 4, 1, 0] rfl) hok hF
  exact lp_5 200 x1 x2 0 1 ls (lv_sub hl [2, 3, 4, 1, 0] rfl) hok hF
set_option maxHeartbeats 4000000 in
set_option maxRecDepth 100000 in
theorem cM_slot (l : Launch) (D : va_G) (tc : Nat → ClassId) (a : Nat → Nat) (Y : va_W) (sz : Nat) (x1 : Int32) (x2 : Int32) (μ : Nat → Nat → Int32) {F : Int32} (hok : kM_slot x1 x2 μ) (hF : fM_slot x1 x2 μ = F) : Met l y_M_slot (Cond.code y_M_slot b_M_slot 4 (some .int) :: gw) ({ frames := 0, cells := 0, slots := 0, locals := 0 } : Room) (va_Pc [.ref (a 0), .int x1, .int x2] (pW D tc (mo tc a μ ++ Y) sz)) (qP (.int F)) 0 0 (fun _ => False) := by
  refine en_W (by decide) (Nat.le_of_ble_eq_true rfl) ?_
  intro p e s m args below meth c ls h0 hr hlocks hin hsz hw hl
  obtain ⟨hx, hb, hml, hown, hts, hK⟩ := id h0
  have hl : lv_has ls 4 [(0, .ref (a 0)), (1, .int x1), (2, .int x2)] := hl
  unfold kM_slot at hok
  unfold fM_slot at hF
  refine lv_iconst (v := 0) hx hb d_M_slot_0 (by decide) ?_
  refine lv_istore_n (lv' := [(3, .int 0), (0, .ref (a 0)), (1, .int x1), (2, .int x2)]) hx hb d_M_slot_1 rfl hl (by decide) rfl (fun ls hl => ?_)
  have hx_2 : ∀ (x1 : Int32) (x2 : Int32) (x3 : Int32) (ls : Array Slot), lv_has ls 4 [(0, .ref (a 0)), (1, .int x1), (2, .int x2), (3, .int x3)] → kM_slot_2x x1 x2 x3 μ → fM_slot_2x x1 x2 x3 μ = F → W p l e ({ frames := 0, cells := 0, slots := 0, locals := 0 } : Room) s m args below meth c s.heap [] 0 0 (MQ below (qP (.int F)) args s 0 0 (fun _ => False)) (F0 m 35 ls []) := by
    intro x1 x2 x3 ls hl hok hF
    unfold kM_slot_2x at hok
    unfold fM_slot_2x at hF
    refine lv_iconst (v := (-1)) hx hb d_M_slot_35 (by decide) ?_
    exact rt_p hx hb hr hlocks rfl (by rw [hF]) d_M_slot_36 (Nat.le_refl 0) (Nat.le_refl 0)
  have lp_2 : ∀ (n2 : Nat) (x1 : Int32) (x2 : Int32) (x3 : Int32) (ls : Array Slot), lv_has ls 4 [(0, .ref (a 0)), (1, .int x1), (2, .int x2), (3, .int x3)] → kM_slot_2 kM_slot_2x n2 x1 x2 x3 μ → fM_slot_2 fM_slot_2x n2 x1 x2 x3 μ = F → W p l e ({ frames := 0, cells := 0, slots := 0, locals := 0 } : Room) s m args below meth c s.heap [] 0 0 (MQ below (qP (.int F)) args s 0 0 (fun _ => False)) (F0 m 2 ls []) := by
    intro n2
    induction n2 with
    | zero =>
      intro x1 x2 x3 ls hl hok hF
      unfold kM_slot_2 at hok
      exact hok.elim
    | succ n2 ih_2 =>
      intro x1 x2 x3 ls hl hok hF
      unfold kM_slot_2 at hok
      unfold fM_slot_2 at hF
      refine lv_iload_n hx hb d_M_slot_2 rfl (lv_at hl 3 rfl) ?_
      refine lv_aload_n hx hb d_M_slot_3 rfl (lv_at hl 0 rfl) ?_
      refine mg_18 h0 hw d_M_slot_4 ?_
      refine lv_iload_n hx hb d_M_slot_7 rfl (lv_at hl 1 rfl) ?_
      obtain ⟨hi_1, hok⟩ := hok
      refine ml_18 h0 hw hi_1 d_M_slot_8 ?_
      refine lv_icmp_ge (tgt := 35) hx hb d_M_slot_9 (by decide) (fun c_2 => ?_) (fun c_2 => ?_)
      · have hok := hok.1 c_2
        have hF := (if_pos c_2).symm.trans hF
        exact hx_2 x1 x2 x3 ls (lv_sub hl [0, 1, 2, 3] rfl) hok hF
      · have hok := hok.2 c_2
        have hF := (if_neg c_2).symm.trans hF
        refine lv_aload_n hx hb d_M_slot_12 rfl (lv_at hl 0 rfl) ?_
        refine mg_20 h0 hw d_M_slot_13 ?_
        refine lv_bipush (v := 20) hx hb d_M_slot_16 (by decide) ?_
        refine lv_iload_n hx hb d_M_slot_18 rfl (lv_at hl 1 rfl) ?_
        refine lv_imul hx hb d_M_slot_19 ?_
        refine lv_iload_n hx hb d_M_slot_20 rfl (lv_at hl 3 rfl) ?_
        refine lv_iadd hx hb d_M_slot_21 ?_
        obtain ⟨hi_3, hok⟩ := hok
        refine ml_20 h0 hw hi_3 d_M_slot_22 ?_
        refine lv_iload_n hx hb d_M_slot_23 rfl (lv_at hl 2 rfl) ?_
        refine lv_icmp_ne (tgt := 29) hx hb d_M_slot_24 (by decide) (fun c_4 => ?_) (fun c_4 => ?_)
        · have hok := hok.2 c_4
          have hF := (if_neg c_4).symm.trans hF
          refine lv_iinc (v := x3 + 1) (lv' := [(3, .int (x3 + 1)), (0, .ref (a 0)), (1, .int x1), (2, .int x2)]) hx hb d_M_slot_29 hl (k := 3) rfl rfl (by decide) rfl (fun ls hl => ?_)
          refine lv_goto (tgt := 2) hx hb d_M_slot_32 (by decide) ?_
          exact ih_2 x1 x2 (x3 + 1) ls (lv_sub hl [1, 2, 3, 0] rfl) hok hF
        · have hok := hok.1 c_4
          have hF := (if_pos c_4).symm.trans hF
          refine lv_iload_n hx hb d_M_slot_27 rfl (lv_at hl 3 rfl) ?_
          exact rt_p hx hb hr hlocks rfl (by rw [hF]) d_M_slot_28 (Nat.le_refl 0) (Nat.le_refl 0)
  exact lp_2 200 x1 x2 0 ls (lv_sub hl [1, 2, 3, 0] rfl) hok hF
set_option maxHeartbeats 4000000 in
set_option maxRecDepth 100000 in
theorem cM_counts (l : Launch) (D : va_G) (tc : Nat → ClassId) (a : Nat → Nat) (Y : va_W) (sz : Nat) (x1 : Int32) (μ : Nat → Nat → Int32) {F : Int32} (hok : kM_counts x1 μ) (hF : fM_counts x1 μ = F) : Met l y_M_counts (Cond.code y_M_counts b_M_counts 2 (some .int) :: gw) ({ frames := 1, cells := 0, slots := 0, locals := 21 } : Room) (va_Pc [.ref (a 0), .int x1] (pW D tc (mo tc a μ ++ Y) sz)) (qP (.int F)) 0 0 (fun _ => False) := by
  refine en_W (by decide) (Nat.le_of_ble_eq_true rfl) ?_
  intro p e s m args below meth c ls h0 hr hlocks hin hsz hw hl
  obtain ⟨hx, hb, hml, hown, hts, hK⟩ := id h0
  have hl : lv_has ls 2 [(0, .ref (a 0)), (1, .int x1)] := hl
  unfold kM_counts at hok
  unfold fM_counts at hF
  refine lv_aload_n hx hb d_M_counts_0 rfl (lv_at hl 0 rfl) ?_
  refine lv_iload_n hx hb d_M_counts_1 rfl (lv_at hl 1 rfl) ?_
  obtain ⟨hi_1, hok⟩ := hok
  refine cv_p (n := 1) (C := "CountRoundsModel") (b := a 0) (q0 := 0) (ci := 4) (As := [.int x1]) (rest := []) h0 hw (cM_secondBy l D tc a Y s.heap.size x1 μ hi_1 rfl) (gd_V wd_802 wd_804 (gw_s 31 rfl rfl) wd_3 wd_805) (by decide +kernel) ⟨rfl, rfl, Nat.le_of_ble_eq_true rfl, Nat.le_of_ble_eq_true rfl, Nat.le_of_ble_eq_true rfl, Nat.le_of_ble_eq_true rfl⟩ rfl rfl rfl hl.1 rfl (Nat.le_of_ble_eq_true rfl) d_M_counts_2 ?_
  refine lv_iconst (v := (-1)) hx hb d_M_counts_5 (by decide) ?_
  refine lv_icmp_eq (tgt := 18) hx hb d_M_counts_6 (by decide) (fun c_2 => ?_) (fun c_2 => ?_)
  · have hok := hok.1 c_2
    have hF := (if_pos c_2).symm.trans hF
    refine lv_aload_n hx hb d_M_counts_18 rfl (lv_at hl 0 rfl) ?_
    refine lv_iload_n hx hb d_M_counts_19 rfl (lv_at hl 1 rfl) ?_
    obtain ⟨hi_3, hok⟩ := hok
    refine cv_p (n := 1) (C := "CountRoundsModel") (b := a 0) (q0 := 0) (ci := 4) (As := [.int x1]) (rest := []) h0 hw (cM_firstBy l D tc a Y s.heap.size x1 μ hi_3 rfl) (gd_V wd_798 wd_800 (gw_s 30 rfl rfl) wd_3 wd_801) (by decide +kernel) ⟨rfl, rfl, Nat.le_of_ble_eq_true rfl, Nat.le_of_ble_eq_true rfl, Nat.le_of_ble_eq_true rfl, Nat.le_of_ble_eq_true rfl⟩ rfl rfl rfl hl.1 rfl (Nat.le_of_ble_eq_true rfl) d_M_counts_20 ?_
    refine lv_iconst (v := (-1)) hx hb d_M_counts_23 (by decide) ?_
    refine lv_icmp_eq (tgt := 36) hx hb d_M_counts_24 (by decide) (fun c_4 => ?_) (fun c_4 => ?_)
    · have hok := hok.1 c_4
      have hF := (if_pos c_4).symm.trans hF
      refine lv_iconst (v := 0) hx hb d_M_counts_36 (by decide) ?_
      exact rt_p hx hb hr hlocks rfl (by rw [hF]) d_M_counts_37 (Nat.le_refl 0) (Nat.le_refl 0)
    · have hok := hok.2 c_4
      have hF := (if_neg c_4).symm.trans hF
      refine lv_aload_n hx hb d_M_counts_27 rfl (lv_at hl 0 rfl) ?_
      refine mg_22 h0 hw d_M_counts_28 ?_
      refine lv_iload_n hx hb d_M_counts_31 rfl (lv_at hl 1 rfl) ?_
      obtain ⟨hi_5, hok⟩ := hok
      refine ml_22 h0 hw hi_5 d_M_counts_32 ?_
      refine lv_goto (tgt := 37) hx hb d_M_counts_33 (by decide) ?_
      exact rt_p hx hb hr hlocks rfl (by rw [hF]) d_M_counts_37 (Nat.le_refl 0) (Nat.le_refl 0)
  · have hok := hok.2 c_2
    have hF := (if_neg c_2).symm.trans hF
    refine lv_aload_n hx hb d_M_counts_9 rfl (lv_at hl 0 rfl) ?_
    refine mg_23 h0 hw d_M_counts_10 ?_
    refine lv_iload_n hx hb d_M_counts_13 rfl (lv_at hl 1 rfl) ?_
    obtain ⟨hi_6, hok⟩ := hok
    refine ml_23 h0 hw hi_6 d_M_counts_14 ?_
    refine lv_goto (tgt := 37) hx hb d_M_counts_15 (by decide) ?_
    exact rt_p hx hb hr hlocks rfl (by rw [hF]) d_M_counts_37 (Nat.le_refl 0) (Nat.le_refl 0)
set_option maxHeartbeats 4000000 in
set_option maxRecDepth 100000 in
theorem cM_isTold (l : Launch) (D : va_G) (tc : Nat → ClassId) (a : Nat → Nat) (Y : va_W) (sz : Nat) (x1 : Int32) (x2 : Int32) (μ : Nat → Nat → Int32) {F : Int32} (hok : kM_isTold x1 x2 μ) (hF : fM_isTold x1 x2 μ = F) : Met l y_M_isTold (Cond.code y_M_isTold b_M_isTold 5 (some .boolean) :: gw) ({ frames := 0, cells := 0, slots := 0, locals := 0 } : Room) (va_Pc [.ref (a 0), .int x1, .int x2] (pW D tc (mo tc a μ ++ Y) sz)) (qP (.int F)) 0 0 (fun _ => False) := by
  refine en_W (by decide) (Nat.le_of_ble_eq_true rfl) ?_
  intro p e s m args below meth c ls h0 hr hlocks hin hsz hw hl
  obtain ⟨hx, hb, hml, hown, hts, hK⟩ := id h0
  have hl : lv_has ls 5 [(0, .ref (a 0)), (1, .int x1), (2, .int x2)] := hl
  unfold kM_isTold at hok
  unfold fM_isTold at hF
  refine lv_iconst (v := 0) hx hb d_M_isTold_0 (by decide) ?_
  refine lv_istore_n (lv' := [(3, .int 0), (0, .ref (a 0)), (1, .int x1), (2, .int x2)]) hx hb d_M_isTold_1 rfl hl (by decide) rfl (fun ls hl => ?_)
  refine lv_iconst (v := 0) hx hb d_M_isTold_2 (by decide) ?_
  refine lv_istore (lv' := [(4, .int 0), (3, .int 0), (0, .ref (a 0)), (1, .int x1), (2, .int x2)]) hx hb d_M_isTold_3 hl (by decide) rfl (fun ls hl => ?_)
  have hx_5 : ∀ (x1 : Int32) (x2 : Int32) (x3 : Int32) (x4 : Int32) (ls : Array Slot), lv_has ls 5 [(0, .ref (a 0)), (1, .int x1), (2, .int x2), (3, .int x3), (4, .int x4)] → kM_isTold_5x x1 x2 x3 x4 μ → fM_isTold_5x x1 x2 x3 x4 μ = F → W p l e ({ frames := 0, cells := 0, slots := 0, locals := 0 } : Room) s m args below meth c s.heap [] 0 0 (MQ below (qP (.int F)) args s 0 0 (fun _ => False)) (F0 m 48 ls []) := by
    intro x1 x2 x3 x4 ls hl hok hF
    unfold kM_isTold_5x at hok
    unfold fM_isTold_5x at hF
    refine lv_iload_n hx hb d_M_isTold_48 rfl (lv_at hl 3 rfl) ?_
    exact rt_p hx hb hr hlocks hok (by rw [hF]) d_M_isTold_49 (Nat.le_refl 0) (Nat.le_refl 0)
  have lp_5 : ∀ (n5 : Nat) (x1 : Int32) (x2 : Int32) (x3 : Int32) (x4 : Int32) (ls : Array Slot), lv_has ls 5 [(0, .ref (a 0)), (1, .int x1), (2, .int x2), (3, .int x3), (4, .int x4)] → kM_isTold_5 kM_isTold_5x n5 x1 x2 x3 x4 μ → fM_isTold_5 fM_isTold_5x n5 x1 x2 x3 x4 μ = F → W p l e ({ frames := 0, cells := 0, slots := 0, locals := 0 } : Room) s m args below meth c s.heap [] 0 0 (MQ below (qP (.int F)) args s 0 0 (fun _ => False)) (F0 m 5 ls []) := by
    intro n5
    induction n5 with
    | zero =>
      intro x1 x2 x3 x4 ls hl hok hF
      unfold kM_isTold_5 at hok
      exact hok.elim
    | succ n5 ih_5 =>
      intro x1 x2 x3 x4 ls hl hok hF
      unfold kM_isTold_5 at hok
      unfold fM_isTold_5 at hF
      refine lv_iload hx hb d_M_isTold_5 (lv_at hl 4 rfl) ?_
      refine lv_bipush (v := 6) hx hb d_M_isTold_7 (by decide) ?_
      refine lv_icmp_ge (tgt := 48) hx hb d_M_isTold_9 (by decide) (fun c_1 => ?_) (fun c_1 => ?_)
      · have hok := hok.1 c_1
        have hF := (if_pos c_1).symm.trans hF
        exact hx_5 x1 x2 x3 x4 ls (lv_sub hl [0, 1, 2, 3, 4] rfl) hok hF
      · have hok := hok.2 c_1
        have hF := (if_neg c_1).symm.trans hF
        refine lv_iload_n hx hb d_M_isTold_12 rfl (lv_at hl 3 rfl) ?_
        refine lv_if_ne (tgt := 36) hx hb d_M_isTold_13 (by decide) (fun c_2 => ?_) (fun c_2 => ?_)
        · have hok := hok.2 c_2
          have hF := (if_neg c_2).symm.trans hF
          refine lv_iconst (v := 1) hx hb d_M_isTold_36 (by decide) ?_
          refine lv_goto (tgt := 41) hx hb d_M_isTold_37 (by decide) ?_
          refine lv_istore_n (lv' := [(3, .int 1), (0, .ref (a 0)), (1, .int x1), (2, .int x2), (4, .int x4)]) hx hb d_M_isTold_41 rfl hl (by decide) rfl (fun ls hl => ?_)
          refine lv_iinc (v := x4 + 1) (lv' := [(4, .int (x4 + 1)), (3, .int 1), (0, .ref (a 0)), (1, .int x1), (2, .int x2)]) hx hb d_M_isTold_42 hl (k := 4) rfl rfl (by decide) rfl (fun ls hl => ?_)
          refine lv_goto (tgt := 5) hx hb d_M_isTold_45 (by decide) ?_
          exact ih_5 x1 x2 1 (x4 + 1) ls (lv_sub hl [2, 3, 4, 1, 0] rfl) hok hF
        · have hok := hok.1 c_2
          have hF := (if_pos c_2).symm.trans hF
          refine lv_aload_n hx hb d_M_isTold_16 rfl (lv_at hl 0 rfl) ?_
          refine mg_24 h0 hw d_M_isTold_17 ?_
          refine lv_bipush (v := 120) hx hb d_M_isTold_20 (by decide) ?_
          refine lv_iload_n hx hb d_M_isTold_22 rfl (lv_at hl 1 rfl) ?_
          refine lv_imul hx hb d_M_isTold_23 ?_
          refine lv_bipush (v := 6) hx hb d_M_isTold_24 (by decide) ?_
          refine lv_iload_n hx hb d_M_isTold_26 rfl (lv_at hl 2 rfl) ?_
          refine lv_imul hx hb d_M_isTold_27 ?_
          refine lv_iadd hx hb d_M_isTold_28 ?_
          refine lv_iload hx hb d_M_isTold_29 (lv_at hl 4 rfl) ?_
          refine lv_iadd hx hb d_M_isTold_31 ?_
          obtain ⟨hi_3, hok⟩ := hok
          refine ml_24 h0 hw hi_3 d_M_isTold_32 ?_
          refine lv_if_le (tgt := 40) hx hb d_M_isTold_33 (by decide) (fun c_4 => ?_) (fun c_4 => ?_)
          · have hok := hok.1 c_4
            have hF := (if_pos c_4).symm.trans hF
            refine lv_iconst (v := 0) hx hb d_M_isTold_40 (by decide) ?_
            refine lv_istore_n (lv' := [(3, .int 0), (0, .ref (a 0)), (1, .int x1), (2, .int x2), (4, .int x4)]) hx hb d_M_isTold_41 rfl hl (by decide) rfl (fun ls hl => ?_)
            refine lv_iinc (v := x4 + 1) (lv' := [(4, .int (x4 + 1)), (3, .int 0), (0, .ref (a 0)), (1, .int x1), (2, .int x2)]) hx hb d_M_isTold_42 hl (k := 4) rfl rfl (by decide) rfl (fun ls hl => ?_)
            refine lv_goto (tgt := 5) hx hb d_M_isTold_45 (by decide) ?_
            exact ih_5 x1 x2 0 (x4 + 1) ls (lv_sub hl [2, 3, 4, 1, 0] rfl) hok hF
          · have hok := hok.2 c_4
            have hF := (if_neg c_4).symm.trans hF
            refine lv_iconst (v := 1) hx hb d_M_isTold_36 (by decide) ?_
            refine lv_goto (tgt := 41) hx hb d_M_isTold_37 (by decide) ?_
            refine lv_istore_n (lv' := [(3, .int 1), (0, .ref (a 0)), (1, .int x1), (2, .int x2), (4, .int x4)]) hx hb d_M_isTold_41 rfl hl (by decide) rfl (fun ls hl => ?_)
            refine lv_iinc (v := x4 + 1) (lv' := [(4, .int (x4 + 1)), (3, .int 1), (0, .ref (a 0)), (1, .int x1), (2, .int x2)]) hx hb d_M_isTold_42 hl (k := 4) rfl rfl (by decide) rfl (fun ls hl => ?_)
            refine lv_goto (tgt := 5) hx hb d_M_isTold_45 (by decide) ?_
            exact ih_5 x1 x2 1 (x4 + 1) ls (lv_sub hl [2, 3, 4, 1, 0] rfl) hok hF
  exact lp_5 200 x1 x2 0 0 ls (lv_sub hl [2, 3, 4, 1, 0] rfl) hok hF
set_option maxHeartbeats 4000000 in
set_option maxRecDepth 100000 in
theorem cM_bookedAt (l : Launch) (D : va_G) (tc : Nat → ClassId) (a : Nat → Nat) (Y : va_W) (sz : Nat) (x1 : Int32) (μ : Nat → Nat → Int32) {F : Int32} (hok : kM_bookedAt x1 μ) (hF : fM_bookedAt x1 μ = F) : Met l y_M_bookedAt (Cond.code y_M_bookedAt b_M_bookedAt 2 (some .int) :: gw) ({ frames := 0, cells := 0, slots := 0, locals := 0 } : Room) (va_Pc [.ref (a 0), .int x1] (pW D tc (mo tc a μ ++ Y) sz)) (qP (.int F)) 0 0 (fun _ => False) := by
  refine en_W (by decide) (Nat.le_of_ble_eq_true rfl) ?_
  intro p e s m args below meth c ls h0 hr hlocks hin hsz hw hl
  obtain ⟨hx, hb, hml, hown, hts, hK⟩ := id h0
  have hl : lv_has ls 2 [(0, .ref (a 0)), (1, .int x1)] := hl
  unfold kM_bookedAt at hok
  unfold fM_bookedAt at hF
  refine lv_bipush (v := 6) hx hb d_M_bookedAt_0 (by decide) ?_
  refine lv_aload_n hx hb d_M_bookedAt_2 rfl (lv_at hl 0 rfl) ?_
  refine mg_20 h0 hw d_M_bookedAt_3 ?_
  refine lv_bipush (v := 20) hx hb d_M_bookedAt_6 (by decide) ?_
  refine lv_iload_n hx hb d_M_bookedAt_8 rfl (lv_at hl 1 rfl) ?_
  refine lv_bipush (v := 120) hx hb d_M_bookedAt_9 (by decide) ?_
  refine lv_idiv hx hb d_M_bookedAt_11 (by decide) ?_
  refine lv_imul hx hb d_M_bookedAt_12 ?_
  refine lv_iload_n hx hb d_M_bookedAt_13 rfl (lv_at hl 1 rfl) ?_
  refine lv_bipush (v := 120) hx hb d_M_bookedAt_14 (by decide) ?_
  refine lv_irem hx hb d_M_bookedAt_16 (by decide) ?_
  refine lv_bipush (v := 6) hx hb d_M_bookedAt_17 (by decide) ?_
  refine lv_idiv hx hb d_M_bookedAt_19 (by decide) ?_
  refine lv_iadd hx hb d_M_bookedAt_20 ?_
  obtain ⟨hi_1, hok⟩ := hok
  refine ml_20 h0 hw hi_1 d_M_bookedAt_21 ?_
  refine lv_imul hx hb d_M_bookedAt_22 ?_
  refine lv_iload_n hx hb d_M_bookedAt_23 rfl (lv_at hl 1 rfl) ?_
  refine lv_bipush (v := 6) hx hb d_M_bookedAt_24 (by decide) ?_
  refine lv_irem hx hb d_M_bookedAt_26 (by decide) ?_
  refine lv_iadd hx hb d_M_bookedAt_27 ?_
  exact rt_p hx hb hr hlocks rfl (by rw [hF]) d_M_bookedAt_28 (Nat.le_refl 0) (Nat.le_refl 0)
set_option maxHeartbeats 4000000 in
set_option maxRecDepth 100000 in
theorem cM_difference (l : Launch) (D : va_G) (tc : Nat → ClassId) (a : Nat → Nat) (Y : va_W) (sz : Nat) (x1 : Int32) (x2 : Int32) (μ : Nat → Nat → Int32) {F : Int32} (hok : kM_difference x1 x2 μ) (hF : fM_difference x1 x2 μ = F) : Met l y_M_difference (Cond.code y_M_difference b_M_difference 7 (some .int) :: gw) ({ frames := 2, cells := 0, slots := 0, locals := 42 } : Room) (va_Pc [.ref (a 0), .int x1, .int x2] (pW D tc (mo tc a μ ++ Y) sz)) (qP (.int F)) 0 0 (fun _ => False) := by
  refine en_W (by decide) (Nat.le_of_ble_eq_true rfl) ?_
  intro p e s m args below meth c ls h0 hr hlocks hin hsz hw hl
  obtain ⟨hx, hb, hml, hown, hts, hK⟩ := id h0
  have hl : lv_has ls 7 [(0, .ref (a 0)), (1, .int x1), (2, .int x2)] := hl
  unfold kM_difference at hok
  unfold fM_difference at hF
  refine lv_iload_n hx hb d_M_difference_0 rfl (lv_at hl 2 rfl) ?_
  refine lv_istore_n (lv' := [(3, .int x2), (0, .ref (a 0)), (1, .int x1), (2, .int x2)]) hx hb d_M_difference_1 rfl hl (by decide) rfl (fun ls hl => ?_)
  refine lv_iconst (v := 0) hx hb d_M_difference_2 (by decide) ?_
  refine lv_istore (lv' := [(4, .int 0), (3, .int x2), (0, .ref (a 0)), (1, .int x1), (2, .int x2)]) hx hb d_M_difference_3 hl (by decide) rfl (fun ls hl => ?_)
  have hx_5 : ∀ (x1 : Int32) (x2 : Int32) (x3 : Int32) (x4 : Int32) (ls : Array Slot), lv_has ls 7 [(0, .ref (a 0)), (1, .int x1), (2, .int x2), (3, .int x3), (4, .int x4)] → kM_difference_5x x1 x2 x3 x4 μ → fM_difference_5x x1 x2 x3 x4 μ = F → W p l e ({ frames := 2, cells := 0, slots := 0, locals := 42 } : Room) s m args below meth c s.heap [] 0 0 (MQ below (qP (.int F)) args s 0 0 (fun _ => False)) (F0 m 106 ls []) := by
    intro x1 x2 x3 x4 ls hl hok hF
    unfold kM_difference_5x at hok
    unfold fM_difference_5x at hF
    refine lv_iconst (v := (-1)) hx hb d_M_difference_106 (by decide) ?_
    exact rt_p hx hb hr hlocks rfl (by rw [hF]) d_M_difference_107 (Nat.le_refl 0) (Nat.le_refl 0)
  have lp_5 : ∀ (n5 : Nat) (x1 : Int32) (x2 : Int32) (x3 : Int32) (x4 : Int32) (ls : Array Slot), lv_has ls 7 [(0, .ref (a 0)), (1, .int x1), (2, .int x2), (3, .int x3), (4, .int x4)] → kM_difference_5 kM_difference_5x n5 x1 x2 x3 x4 μ → fM_difference_5 fM_difference_5x n5 x1 x2 x3 x4 μ = F → W p l e ({ frames := 2, cells := 0, slots := 0, locals := 42 } : Room) s m args below meth c s.heap [] 0 0 (MQ below (qP (.int F)) args s 0 0 (fun _ => False)) (F0 m 5 ls []) := by
    intro n5
    induction n5 with
    | zero =>
      intro x1 x2 x3 x4 ls hl hok hF
      unfold kM_difference_5 at hok
      exact hok.elim
    | succ n5 ih_5 =>
      intro x1 x2 x3 x4 ls hl hok hF
      unfold kM_difference_5 at hok
      unfold fM_difference_5 at hF
      refine lv_iload hx hb d_M_difference_5 (lv_at hl 4 rfl) ?_
      refine lv_aload_n hx hb d_M_difference_7 rfl (lv_at hl 0 rfl) ?_
      refine mg_18 h0 hw d_M_difference_8 ?_
      refine lv_iload_n hx hb d_M_difference_11 rfl (lv_at hl 1 rfl) ?_
      obtain ⟨hi_1, hok⟩ := hok
      refine ml_18 h0 hw hi_1 d_M_difference_12 ?_
      refine lv_icmp_ge (tgt := 106) hx hb d_M_difference_13 (by decide) (fun c_2 => ?_) (fun c_2 => ?_)
      · have hok := hok.1 c_2
        have hF := (if_pos c_2).symm.trans hF
        exact hx_5 x1 x2 x3 x4 ls (lv_sub hl [0, 1, 2, 3, 4] rfl) hok hF
      · have hok := hok.2 c_2
        have hF := (if_neg c_2).symm.trans hF
        refine lv_iload_n hx hb d_M_difference_16 rfl (lv_at hl 2 rfl) ?_
        refine lv_if_lt (tgt := 106) hx hb d_M_difference_17 (by decide) (fun c_3 => ?_) (fun c_3 => ?_)
        · have hok := hok.1 c_3
          have hF := (if_pos c_3).symm.trans hF
          exact hx_5 x1 x2 x3 x4 ls (lv_sub hl [0, 1, 2, 3, 4] rfl) hok hF
        · have hok := hok.2 c_3
          have hF := (if_neg c_3).symm.trans hF
          refine lv_aload_n hx hb d_M_difference_20 rfl (lv_at hl 0 rfl) ?_
          refine mg_17 h0 hw d_M_difference_21 ?_
          refine lv_iload_n hx hb d_M_difference_24 rfl (lv_at hl 1 rfl) ?_
          obtain ⟨hi_4, hok⟩ := hok
          refine ml_17 h0 hw hi_4 d_M_difference_25 ?_
          refine lv_iconst (v := 2) hx hb d_M_difference_26 (by decide) ?_
          refine lv_icmp_ne (tgt := 106) hx hb d_M_difference_27 (by decide) (fun c_5 => ?_) (fun c_5 => ?_)
          · have hok := hok.2 c_5
            have hF := (if_neg c_5).symm.trans hF
            exact hx_5 x1 x2 x3 x4 ls (lv_sub hl [0, 1, 2, 3, 4] rfl) hok hF
          · have hok := hok.1 c_5
            have hF := (if_pos c_5).symm.trans hF
            refine lv_iconst (v := 0) hx hb d_M_difference_30 (by decide) ?_
            refine lv_istore (lv' := [(5, .int 0), (0, .ref (a 0)), (1, .int x1), (2, .int x2), (3, .int x3), (4, .int x4)]) hx hb d_M_difference_31 hl (by decide) rfl (fun ls hl => ?_)
            have hx_33 : ∀ (x1 : Int32) (x2 : Int32) (x3 : Int32) (x4 : Int32) (x5 : Int32) (ls : Array Slot), lv_has ls 7 [(0, .ref (a 0)), (1, .int x1), (2, .int x2), (3, .int x3), (4, .int x4), (5, .int x5)] → (kM_difference_33x (kM_difference_5 kM_difference_5x n5) kM_difference_5x) x1 x2 x3 x4 x5 μ → (fM_difference_33x (fM_difference_5 fM_difference_5x n5) fM_difference_5x) x1 x2 x3 x4 x5 μ = F → W p l e ({ frames := 2, cells := 0, slots := 0, locals := 42 } : Room) s m args below meth c s.heap [] 0 0 (MQ below (qP (.int F)) args s 0 0 (fun _ => False)) (F0 m 100 ls []) := by
              intro x1 x2 x3 x4 x5 ls hl hok hF
              unfold kM_difference_33x at hok
              unfold fM_difference_33x at hF
              refine lv_iinc (v := x4 + 1) (lv' := [(4, .int (x4 + 1)), (0, .ref (a 0)), (1, .int x1), (2, .int x2), (3, .int x3), (5, .int x5)]) hx hb d_M_difference_100 hl (k := 4) rfl rfl (by decide) rfl (fun ls hl => ?_)
              refine lv_goto (tgt := 5) hx hb d_M_difference_103 (by decide) ?_
              exact ih_5 x1 x2 x3 (x4 + 1) ls (lv_sub hl [1, 2, 3, 4, 0] rfl) hok hF
            have lp_33 : ∀ (n33 : Nat) (x1 : Int32) (x2 : Int32) (x3 : Int32) (x4 : Int32) (x5 : Int32) (ls : Array Slot), lv_has ls 7 [(0, .ref (a 0)), (1, .int x1), (2, .int x2), (3, .int x3), (4, .int x4), (5, .int x5)] → kM_difference_33 (kM_difference_5 kM_difference_5x n5) kM_difference_5x (kM_difference_33x (kM_difference_5 kM_difference_5x n5) kM_difference_5x) n33 x1 x2 x3 x4 x5 μ → fM_difference_33 (fM_difference_5 fM_difference_5x n5) fM_difference_5x (fM_difference_33x (fM_difference_5 fM_difference_5x n5) fM_difference_5x) n33 x1 x2 x3 x4 x5 μ = F → W p l e ({ frames := 2, cells := 0, slots := 0, locals := 42 } : Room) s m args below meth c s.heap [] 0 0 (MQ below (qP (.int F)) args s 0 0 (fun _ => False)) (F0 m 33 ls []) := by
              intro n33
              induction n33 with
              | zero =>
                intro x1 x2 x3 x4 x5 ls hl hok hF
                unfold kM_difference_33 at hok
                exact hok.elim
              | succ n33 ih_33 =>
                intro x1 x2 x3 x4 x5 ls hl hok hF
                unfold kM_difference_33 at hok
                unfold fM_difference_33 at hF
                refine lv_iload hx hb d_M_difference_33 (lv_at hl 5 rfl) ?_
                refine lv_bipush (v := 6) hx hb d_M_difference_35 (by decide) ?_
                refine lv_icmp_ge (tgt := 100) hx hb d_M_difference_37 (by decide) (fun c_6 => ?_) (fun c_6 => ?_)
                · have hok := hok.1 c_6
                  have hF := (if_pos c_6).symm.trans hF
                  exact hx_33 x1 x2 x3 x4 x5 ls (lv_sub hl [0, 1, 2, 3, 4, 5] rfl) hok hF
                · have hok := hok.2 c_6
                  have hF := (if_neg c_6).symm.trans hF
                  refine lv_aload_n hx hb d_M_difference_40 rfl (lv_at hl 0 rfl) ?_
                  refine lv_iload_n hx hb d_M_difference_41 rfl (lv_at hl 1 rfl) ?_
                  refine lv_iload hx hb d_M_difference_42 (lv_at hl 4 rfl) ?_
                  obtain ⟨hi_7, hok⟩ := hok
                  refine cv_p (n := 2) (C := "CountRoundsModel") (b := a 0) (q0 := 0) (ci := 4) (As := [.int x1, .int x4]) (rest := []) h0 hw (cM_isTold l D tc a Y s.heap.size x1 x4 μ hi_7 rfl) (gd_V wd_821 wd_823 (gw_s 33 rfl rfl) wd_3 wd_824) (by decide +kernel) ⟨rfl, rfl, Nat.le_of_ble_eq_true rfl, Nat.le_of_ble_eq_true rfl, Nat.le_of_ble_eq_true rfl, Nat.le_of_ble_eq_true rfl⟩ rfl rfl rfl hl.1 rfl (Nat.le_of_ble_eq_true rfl) d_M_difference_44 ?_
                  refine lv_if_eq (tgt := 100) hx hb d_M_difference_47 (by decide) (fun c_8 => ?_) (fun c_8 => ?_)
                  · have hok := hok.1 c_8
                    have hF := (if_pos c_8).symm.trans hF
                    exact hx_33 x1 x2 x3 x4 x5 ls (lv_sub hl [0, 1, 2, 3, 4, 5] rfl) hok hF
                  · have hok := hok.2 c_8
                    have hF := (if_neg c_8).symm.trans hF
                    refine lv_bipush (v := 120) hx hb d_M_difference_50 (by decide) ?_
                    refine lv_iload_n hx hb d_M_difference_52 rfl (lv_at hl 1 rfl) ?_
                    refine lv_imul hx hb d_M_difference_53 ?_
                    refine lv_bipush (v := 6) hx hb d_M_difference_54 (by decide) ?_
                    refine lv_iload hx hb d_M_difference_56 (lv_at hl 4 rfl) ?_
                    refine lv_imul hx hb d_M_difference_58 ?_
                    refine lv_iadd hx hb d_M_difference_59 ?_
                    refine lv_iload hx hb d_M_difference_60 (lv_at hl 5 rfl) ?_
                    refine lv_iadd hx hb d_M_difference_62 ?_
                    refine lv_istore (lv' := [(6, .int (((120 * x1) + (6 * x4)) + x5)), (0, .ref (a 0)), (1, .int x1), (2, .int x2), (3, .int x3), (4, .int x4), (5, .int x5)]) hx hb d_M_difference_63 hl (by decide) rfl (fun ls hl => ?_)
                    refine lv_aload_n hx hb d_M_difference_65 rfl (lv_at hl 1 rfl) ?_
                    refine lv_iload hx hb d_M_difference_66 (lv_at hl 0 rfl) ?_
                    obtain ⟨hi_9, hok⟩ := hok
                    refine cv_p (n := 1) (C := "CountRoundsModel") (b := a 0) (q0 := 0) (ci := 4) (As := [.int (((120 * x1) + (6 * x4)) + x5)]) (rest := []) h0 hw (cM_counts l D tc a Y s.heap.size (((120 * x1) + (6 * x4)) + x5) μ hi_9 rfl) (gd_V wd_825 wd_827 (gw_s 34 rfl rfl) wd_3 wd_828) (by decide +kernel) ⟨rfl, rfl, Nat.le_of_ble_eq_true rfl, Nat.le_of_ble_eq_true rfl, Nat.le_of_ble_eq_true rfl, Nat.le_of_ble_eq_true rfl⟩ rfl rfl rfl hl.1 rfl (Nat.le_of_ble_eq_true rfl) d_M_difference_68 ?_
                    refine lv_aload_n hx hb d_M_difference_71 rfl (lv_at hl 1 rfl) ?_
                    refine mg_21 h0 hw d_M_difference_72 ?_
                    refine lv_iload hx hb d_M_difference_75 (lv_at hl 0 rfl) ?_
                    obtain ⟨hi_10, hok⟩ := hok
                    refine ml_21 h0 hw hi_10 d_M_difference_77 ?_
                    refine lv_icmp_ne (tgt := 84) hx hb d_M_difference_78 (by decide) (fun c_11 => ?_) (fun c_11 => ?_)
                    · have hok := hok.2 c_11
                      have hF := (if_neg c_11).symm.trans hF
                      refine lv_iload_n hx hb d_M_difference_84 rfl (lv_at hl 4 rfl) ?_
                      refine lv_if_ne (tgt := 91) hx hb d_M_difference_85 (by decide) (fun c_12 => ?_) (fun c_12 => ?_)
                      · have hok := hok.2 c_12
                        have hF := (if_neg c_12).symm.trans hF
                        refine lv_iinc (v := x3 + (-1)) (lv' := [(3, .int (x3 + (-1))), (6, .int (((120 * x1) + (6 * x4)) + x5)), (0, .ref (a 0)), (1, .int x1), (2, .int x2), (4, .int x4), (5, .int x5)]) hx hb d_M_difference_91 hl (k := 4) rfl rfl (by decide) rfl (fun ls hl => ?_)
                        refine lv_iinc (v := x5 + 1) (lv' := [(5, .int (x5 + 1)), (3, .int (x3 + (-1))), (6, .int (((120 * x1) + (6 * x4)) + x5)), (0, .ref (a 0)), (1, .int x1), (2, .int x2), (4, .int x4)]) hx hb d_M_difference_94 hl (k := 6) rfl rfl (by decide) rfl (fun ls hl => ?_)
                        refine lv_goto (tgt := 33) hx hb d_M_difference_97 (by decide) ?_
                        exact ih_33 x1 x2 (x3 + (-1)) x4 (x5 + 1) ls (lv_sub hl [3, 4, 5, 1, 6, 0] rfl) hok hF
                      · have hok := hok.1 c_12
                        have hF := (if_pos c_12).symm.trans hF
                        refine lv_iload hx hb d_M_difference_88 (lv_at hl 0 rfl) ?_
                        exact rt_p hx hb hr hlocks rfl (by rw [hF]) d_M_difference_90 (Nat.le_refl 0) (Nat.le_refl 0)
                    · have hok := hok.1 c_11
                      have hF := (if_pos c_11).symm.trans hF
                      refine lv_goto (tgt := 94) hx hb d_M_difference_81 (by decide) ?_
                      refine lv_iinc (v := x5 + 1) (lv' := [(5, .int (x5 + 1)), (6, .int (((120 * x1) + (6 * x4)) + x5)), (0, .ref (a 0)), (1, .int x1), (2, .int x2), (3, .int x3), (4, .int x4)]) hx hb d_M_difference_94 hl (k := 6) rfl rfl (by decide) rfl (fun ls hl => ?_)
                      refine lv_goto (tgt := 33) hx hb d_M_difference_97 (by decide) ?_
                      exact ih_33 x1 x2 x3 x4 (x5 + 1) ls (lv_sub hl [2, 3, 4, 5, 6, 0] rfl) hok hF
            exact lp_33 200 x1 x2 x3 x4 0 ls (lv_sub hl [1, 2, 3, 4, 5, 0] rfl) hok hF
  exact lp_5 200 x1 x2 x2 0 ls (lv_sub hl [2, 3, 4, 1, 0] rfl) hok hF
