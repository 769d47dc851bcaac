def fM_round_177x  (x1 : Int32) (x2 : Int32) (x3 : Int64) (x5 : Int32) (x6 : Int64) (x8 : Int32) (μ : Nat → Nat → Int32) : Int32 × (Nat → Nat → Int32) := (μ 16 0, μ)
def kM_round_177x  (x1 : Int32) (x2 : Int32) (x3 : Int64) (x5 : Int32) (x6 : Int64) (x8 : Int32) (μ : Nat → Nat → Int32) : Prop := True
def fM_round_177  (E177 : Int32 → Int32 → Int64 → Int32 → Int64 → Int32 → (Nat → Nat → Int32) → (Int32 × (Nat → Nat → Int32))) : Nat → Int32 → Int32 → Int64 → Int32 → Int64 → Int32 → (Nat → Nat → Int32) → (Int32 × (Nat → Nat → Int32))
  | 0, _, _, _, _, _, _, _ => (0, fun _ _ => 0)
  | n + 1, x1, x2, x3, x5, x6, x8, μ => if x2 ≤ x8 then E177 x1 x2 x3 x5 x6 x8 μ else if x5 ≤ 0 then E177 x1 x2 x3 x5 x6 x8 μ else if (lg_cmp x3 0) = 0 then (fM_round_177 E177 n) x1 x2 x3 (x5 + (-1)) ((x6 * 6364136223846793005) + 1442695040888963407) (x8 + 1) (u2 (u2 (u2 μ 28 (fM_byRank μ).toNatClampNeg (vp_nar .boolean 0)) 20 ((20 * (μ 16 0)) + x8).toNatClampNeg (fM_byRank μ)) 18 (μ 16 0).toNatClampNeg ((μ 18 (μ 16 0).toNatClampNeg) + 1)) else (fM_round_177 E177 n) x1 x2 x3 (x5 + (-1)) ((x6 * 6364136223846793005) + 1442695040888963407) (x8 + 1) (u2 (u2 (u2 μ 28 (fM_byNumber ((((((x6 * 6364136223846793005) + 1442695040888963407).toUInt64 >>> ((33 : Int32).toInt64.toUInt64 &&& Int64.toUInt64 63)).toInt64) - ((((x6 * 6364136223846793005) + 1442695040888963407).toUInt64 >>> ((33 : Int32).toInt64.toUInt64 &&& Int64.toUInt64 63)).toInt64) / x5.toInt64 * x5.toInt64).toInt32) μ).toNatClampNeg (vp_nar .boolean 0)) 20 ((20 * (μ 16 0)) + x8).toNatClampNeg (fM_byNumber ((((((x6 * 6364136223846793005) + 1442695040888963407).toUInt64 >>> ((33 : Int32).toInt64.toUInt64 &&& Int64.toUInt64 63)).toInt64) - ((((x6 * 6364136223846793005) + 1442695040888963407).toUInt64 >>> ((33 : Int32).toInt64.toUInt64 &&& Int64.toUInt64 63)).toInt64) / x5.toInt64 * x5.toInt64).toInt32) μ)) 18 (μ 16 0).toNatClampNeg ((μ 18 (μ 16 0).toNatClampNeg) + 1))
def kM_round_177  (KE177 : Int32 → Int32 → Int64 → Int32 → Int64 → Int32 → (Nat → Nat → Int32) → Prop) : Nat → Int32 → Int32 → Int64 → Int32 → Int64 → Int32 → (Nat → Nat → Int32) → Prop
  | 0, _, _, _, _, _, _, _ => False
  | n + 1, x1, x2, x3, x5, x6, x8, μ => (x2 ≤ x8 → KE177 x1 x2 x3 x5 x6 x8 μ) ∧ (¬ (x2 ≤ x8) → (x5 ≤ 0 → KE177 x1 x2 x3 x5 x6 x8 μ) ∧ (¬ (x5 ≤ 0) → ((lg_cmp x3 0) = 0 → (kM_byRank μ) ∧ ((vp_in (fM_byRank μ) 20) ∧ ((vp_in ((20 * (μ 16 0)) + x8) 420) ∧ ((vp_in (μ 16 0) 21) ∧ ((vp_in (μ 16 0) 21) ∧ ((kM_round_177 KE177 n) x1 x2 x3 (x5 + (-1)) ((x6 * 6364136223846793005) + 1442695040888963407) (x8 + 1) (u2 (u2 (u2 μ 28 (fM_byRank μ).toNatClampNeg (vp_nar .boolean 0)) 20 ((20 * (μ 16 0)) + x8).toNatClampNeg (fM_byRank μ)) 18 (μ 16 0).toNatClampNeg ((μ 18 (μ 16 0).toNatClampNeg) + 1)))))))) ∧ (¬ ((lg_cmp x3 0) = 0) → (¬ x5.toInt64 = 0) ∧ ((kM_byNumber ((((((x6 * 6364136223846793005) + 1442695040888963407).toUInt64 >>> ((33 : Int32).toInt64.toUInt64 &&& Int64.toUInt64 63)).toInt64) - ((((x6 * 6364136223846793005) + 1442695040888963407).toUInt64 >>> ((33 : Int32).toInt64.toUInt64 &&& Int64.toUInt64 63)).toInt64) / x5.toInt64 * x5.toInt64).toInt32) μ) ∧ ((vp_in (fM_byNumber ((((((x6 * 6364136223846793005) + 1442695040888963407).toUInt64 >>> ((33 : Int32).toInt64.toUInt64 &&& Int64.toUInt64 63)).toInt64) - ((((x6 * 6364136223846793005) + 1442695040888963407).toUInt64 >>> ((33 : Int32).toInt64.toUInt64 &&& Int64.toUInt64 63)).toInt64) / x5.toInt64 * x5.toInt64).toInt32) μ) 20) ∧ ((vp_in ((20 * (μ 16 0)) + x8) 420) ∧ ((vp_in (μ 16 0) 21) ∧ ((vp_in (μ 16 0) 21) ∧ ((kM_round_177 KE177 n) x1 x2 x3 (x5 + (-1)) ((x6 * 6364136223846793005) + 1442695040888963407) (x8 + 1) (u2 (u2 (u2 μ 28 (fM_byNumber ((((((x6 * 6364136223846793005) + 1442695040888963407).toUInt64 >>> ((33 : Int32).toInt64.toUInt64 &&& Int64.toUInt64 63)).toInt64) - ((((x6 * 6364136223846793005) + 1442695040888963407).toUInt64 >>> ((33 : Int32).toInt64.toUInt64 &&& Int64.toUInt64 63)).toInt64) / x5.toInt64 * x5.toInt64).toInt32) μ).toNatClampNeg (vp_nar .boolean 0)) 20 ((20 * (μ 16 0)) + x8).toNatClampNeg (fM_byNumber ((((((x6 * 6364136223846793005) + 1442695040888963407).toUInt64 >>> ((33 : Int32).toInt64.toUInt64 &&& Int64.toUInt64 63)).toInt64) - ((((x6 * 6364136223846793005) + 1442695040888963407).toUInt64 >>> ((33 : Int32).toInt64.toUInt64 &&& Int64.toUInt64 63)).toInt64) / x5.toInt64 * x5.toInt64).toInt32) μ)) 18 (μ 16 0).toNatClampNeg ((μ 18 (μ 16 0).toNatClampNeg) + 1)))))))))))
def fM_round_43x  (x1 : Int32) (x2 : Int32) (x3 : Int64) (x5 : Int32) (x6 : Int32) (μ : Nat → Nat → Int32) : Int32 × (Nat → Nat → Int32) := if x5 = 0 then (0, (u2 μ 0 0 2)) else if (μ 16 0) = 20 then (0, (u2 μ 0 0 3)) else fM_round_177 fM_round_177x 200 x1 x2 x3 x5 x3 0 (u2 (u2 (u2 μ 0 0 0) 16 0 ((μ 16 0) + 1)) 17 ((μ 16 0) + 1).toNatClampNeg 0)
def kM_round_43x  (x1 : Int32) (x2 : Int32) (x3 : Int64) (x5 : Int32) (x6 : Int32) (μ : Nat → Nat → Int32) : Prop := (x5 = 0 → True) ∧ (¬ (x5 = 0) → ((μ 16 0) = 20 → True) ∧ (¬ ((μ 16 0) = 20) → (vp_in ((μ 16 0) + 1) 21) ∧ (kM_round_177 kM_round_177x 200 x1 x2 x3 x5 x3 0 (u2 (u2 (u2 μ 0 0 0) 16 0 ((μ 16 0) + 1)) 17 ((μ 16 0) + 1).toNatClampNeg 0))))
def fM_round_43  (E43 : Int32 → Int32 → Int64 → Int32 → Int32 → (Nat → Nat → Int32) → (Int32 × (Nat → Nat → Int32))) : Nat → Int32 → Int32 → Int64 → Int32 → Int32 → (Nat → Nat → Int32) → (Int32 × (Nat → Nat → Int32))
  | 0, _, _, _, _, _, _ => (0, fun _ _ => 0)
  | n + 1, x1, x2, x3, x5, x6, μ => if (μ 3 0) ≤ x6 then E43 x1 x2 x3 x5 x6 μ else if x1 = (-1) then if (fM_isBusy x6 μ) = 0 then if ((u2 μ 28 x6.toNatClampNeg (vp_nar .boolean 1)) 28 x6.toNatClampNeg) = 0 then (fM_round_43 E43 n) x1 x2 x3 (x5 + 0) (x6 + 1) (u2 μ 28 x6.toNatClampNeg (vp_nar .boolean 1)) else (fM_round_43 E43 n) x1 x2 x3 (x5 + 1) (x6 + 1) (u2 μ 28 x6.toNatClampNeg (vp_nar .boolean 1)) else if ((u2 μ 28 x6.toNatClampNeg (vp_nar .boolean 0)) 28 x6.toNatClampNeg) = 0 then (fM_round_43 E43 n) x1 x2 x3 (x5 + 0) (x6 + 1) (u2 μ 28 x6.toNatClampNeg (vp_nar .boolean 0)) else (fM_round_43 E43 n) x1 x2 x3 (x5 + 1) (x6 + 1) (u2 μ 28 x6.toNatClampNeg (vp_nar .boolean 0)) else if (μ 4 x6.toNatClampNeg) = x1 then if (fM_isBusy x6 μ) = 0 then if ((u2 μ 28 x6.toNatClampNeg (vp_nar .boolean 1)) 28 x6.toNatClampNeg) = 0 then (fM_round_43 E43 n) x1 x2 x3 (x5 + 0) (x6 + 1) (u2 μ 28 x6.toNatClampNeg (vp_nar .boolean 1)) else (fM_round_43 E43 n) x1 x2 x3 (x5 + 1) (x6 + 1) (u2 μ 28 x6.toNatClampNeg (vp_nar .boolean 1)) else if ((u2 μ 28 x6.toNatClampNeg (vp_nar .boolean 0)) 28 x6.toNatClampNeg) = 0 then (fM_round_43 E43 n) x1 x2 x3 (x5 + 0) (x6 + 1) (u2 μ 28 x6.toNatClampNeg (vp_nar .boolean 0)) else (fM_round_43 E43 n) x1 x2 x3 (x5 + 1) (x6 + 1) (u2 μ 28 x6.toNatClampNeg (vp_nar .boolean 0)) else if ((u2 μ 28 x6.toNatClampNeg (vp_nar .boolean 0)) 28 x6.toNatClampNeg) = 0 then (fM_round_43 E43 n) x1 x2 x3 (x5 + 0) (x6 + 1) (u2 μ 28 x6.toNatClampNeg (vp_nar .boolean 0)) else (fM_round_43 E43 n) x1 x2 x3 (x5 + 1) (x6 + 1) (u2 μ 28 x6.toNatClampNeg (vp_nar .boolean 0))
def kM_round_43  (KE43 : Int32 → Int32 → Int64 → Int32 → Int32 → (Nat → Nat → Int32) → Prop) : Nat → Int32 → Int32 → Int64 → Int32 → Int32 → (Nat → Nat → Int32) → Prop
  | 0, _, _, _, _, _, _ => False
  | n + 1, x1, x2, x3, x5, x6, μ => ((μ 3 0) ≤ x6 → KE43 x1 x2 x3 x5 x6 μ) ∧ (¬ ((μ 3 0) ≤ x6) → (x1 = (-1) → (kM_isBusy x6 μ) ∧ (((fM_isBusy x6 μ) = 0 → (vp_in x6 20) ∧ ((vp_in x6 20) ∧ ((((u2 μ 28 x6.toNatClampNeg (vp_nar .boolean 1)) 28 x6.toNatClampNeg) = 0 → (kM_round_43 KE43 n) x1 x2 x3 (x5 + 0) (x6 + 1) (u2 μ 28 x6.toNatClampNeg (vp_nar .boolean 1))) ∧ (¬ (((u2 μ 28 x6.toNatClampNeg (vp_nar .boolean 1)) 28 x6.toNatClampNeg) = 0) → (kM_round_43 KE43 n) x1 x2 x3 (x5 + 1) (x6 + 1) (u2 μ 28 x6.toNatClampNeg (vp_nar .boolean 1)))))) ∧ (¬ ((fM_isBusy x6 μ) = 0) → (vp_in x6 20) ∧ ((vp_in x6 20) ∧ ((((u2 μ 28 x6.toNatClampNeg (vp_nar .boolean 0)) 28 x6.toNatClampNeg) = 0 → (kM_round_43 KE43 n) x1 x2 x3 (x5 + 0) (x6 + 1) (u2 μ 28 x6.toNatClampNeg (vp_nar .boolean 0))) ∧ (¬ (((u2 μ 28 x6.toNatClampNeg (vp_nar .boolean 0)) 28 x6.toNatClampNeg) = 0) → (kM_round_43 KE43 n) x1 x2 x3 (x5 + 1) (x6 + 1) (u2 μ 28 x6.toNatClampNeg (vp_nar .boolean 0)))))))) ∧ (¬ (x1 = (-1)) → (vp_in x6 20) ∧ (((μ 4 x6.toNatClampNeg) = x1 → (kM_isBusy x6 μ) ∧ (((fM_isBusy x6 μ) = 0 → (vp_in x6 20) ∧ ((vp_in x6 20) ∧ ((((u2 μ 28 x6.toNatClampNeg (vp_nar .boolean 1)) 28 x6.toNatClampNeg) = 0 → (kM_round_43 KE43 n) x1 x2 x3 (x5 + 0) (x6 + 1) (u2 μ 28 x6.toNatClampNeg (vp_nar .boolean 1))) ∧ (¬ (((u2 μ 28 x6.toNatClampNeg (vp_nar .boolean 1)) 28 x6.toNatClampNeg) = 0) → (kM_round_43 KE43 n) x1 x2 x3 (x5 + 1) (x6 + 1) (u2 μ 28 x6.toNatClampNeg (vp_nar .boolean 1)))))) ∧ (¬ ((fM_isBusy x6 μ) = 0) → (vp_in x6 20) ∧ ((vp_in x6 20) ∧ ((((u2 μ 28 x6.toNatClampNeg (vp_nar .boolean 0)) 28 x6.toNatClampNeg) = 0 → (kM_round_43 KE43 n) x1 x2 x3 (x5 + 0) (x6 + 1) (u2 μ 28 x6.toNatClampNeg (vp_nar .boolean 0))) ∧ (¬ (((u2 μ 28 x6.toNatClampNeg (vp_nar .boolean 0)) 28 x6.toNatClampNeg) = 0) → (kM_round_43 KE43 n) x1 x2 x3 (x5 + 1) (x6 + 1) (u2 μ 28 x6.toNatClampNeg (vp_nar .boolean 0)))))))) ∧ (¬ ((μ 4 x6.toNatClampNeg) = x1) → (vp_in x6 20) ∧ ((vp_in x6 20) ∧ ((((u2 μ 28 x6.toNatClampNeg (vp_nar .boolean 0)) 28 x6.toNatClampNeg) = 0 → (kM_round_43 KE43 n) x1 x2 x3 (x5 + 0) (x6 + 1) (u2 μ 28 x6.toNatClampNeg (vp_nar .boolean 0))) ∧ (¬ (((u2 μ 28 x6.toNatClampNeg (vp_nar .boolean 0)) 28 x6.toNatClampNeg) = 0) → (kM_round_43 KE43 n) x1 x2 x3 (x5 + 1) (x6 + 1) (u2 μ 28 x6.toNatClampNeg (vp_nar .boolean 0)))))))))
def fM_round (x1 : Int32) (x2 : Int32) (x3 : Int64) (μ : Nat → Nat → Int32) : Int32 × (Nat → Nat → Int32) := if (fM_in x1 (-1) 2) = 0 then (0, (u2 μ 0 0 1)) else if (fM_in x2 1 20) = 0 then (0, (u2 μ 0 0 1)) else fM_round_43 fM_round_43x 200 x1 x2 x3 0 0 (u2 μ 0 0 0)
def kM_round (x1 : Int32) (x2 : Int32) (x3 : Int64) (μ : Nat → Nat → Int32) : Prop := (kM_in x1 (-1) 2) ∧ (((fM_in x1 (-1) 2) = 0 → True) ∧ (¬ ((fM_in x1 (-1) 2) = 0) → (kM_in x2 1 20) ∧ (((fM_in x2 1 20) = 0 → True) ∧ (¬ ((fM_in x2 1 20) = 0) → kM_round_43 kM_round_43x 200 x1 x2 x3 0 0 (u2 μ 0 0 0)))))
def fM_freeze_105x  (x1 : Int32) (x2 : Int32) (μ : Nat → Nat → Int32) : Int32 × (Nat → Nat → Int32) := (μ 18 x1.toNatClampNeg, μ)
def kM_freeze_105x  (x1 : Int32) (x2 : Int32) (μ : Nat → Nat → Int32) : Prop := (vp_in x1 21) ∧ (True)
def fM_freeze_117x (O105 : Int32 → Int32 → (Nat → Nat → Int32) → (Int32 × (Nat → Nat → Int32))) (E105 : Int32 → Int32 → (Nat → Nat → Int32) → (Int32 × (Nat → Nat → Int32))) (x1 : Int32) (x2 : Int32) (x3 : Int32) (μ : Nat → Nat → Int32) : Int32 × (Nat → Nat → Int32) := O105 x1 (x2 + 1) μ
def kM_freeze_117x (KO105 : Int32 → Int32 → (Nat → Nat → Int32) → Prop) (KE105 : Int32 → Int32 → (Nat → Nat → Int32) → Prop) (x1 : Int32) (x2 : Int32) (x3 : Int32) (μ : Nat → Nat → Int32) : Prop := KO105 x1 (x2 + 1) μ
def fM_freeze_117 (O105 : Int32 → Int32 → (Nat → Nat → Int32) → (Int32 × (Nat → Nat → Int32))) (E105 : Int32 → Int32 → (Nat → Nat → Int32) → (Int32 × (Nat → Nat → Int32))) (E117 : Int32 → Int32 → Int32 → (Nat → Nat → Int32) → (Int32 × (Nat → Nat → Int32))) : Nat → Int32 → Int32 → Int32 → (Nat → Nat → Int32) → (Int32 × (Nat → Nat → Int32))
  | 0, _, _, _, _ => (0, fun _ _ => 0)
  | n + 1, x1, x2, x3, μ => if 6 ≤ x3 then E117 x1 x2 x3 μ else if (μ 2 0) = 1 then (fM_freeze_117 O105 E105 E117 n) x1 x2 (x3 + 1) (u2 μ 21 (((120 * x1) + (6 * x2)) + x3).toNatClampNeg ((μ 6 ((6 * (μ 20 ((20 * x1) + x2).toNatClampNeg)) + x3).toNatClampNeg) + (fM_coming (μ 20 ((20 * x1) + x2).toNatClampNeg) x3 μ))) else (fM_freeze_117 O105 E105 E117 n) x1 x2 (x3 + 1) (u2 μ 21 (((120 * x1) + (6 * x2)) + x3).toNatClampNeg ((μ 6 ((6 * (μ 20 ((20 * x1) + x2).toNatClampNeg)) + x3).toNatClampNeg) + 0))
def kM_freeze_117 (KO105 : Int32 → Int32 → (Nat → Nat → Int32) → Prop) (KE105 : Int32 → Int32 → (Nat → Nat → Int32) → Prop) (KE117 : Int32 → Int32 → Int32 → (Nat → Nat → Int32) → Prop) : Nat → Int32 → Int32 → Int32 → (Nat → Nat → Int32) → Prop
  | 0, _, _, _, _ => False
  | n + 1, x1, x2, x3, μ => (6 ≤ x3 → KE117 x1 x2 x3 μ) ∧ (¬ (6 ≤ x3) → (vp_in ((20 * x1) + x2) 420) ∧ ((vp_in ((6 * (μ 20 ((20 * x1) + x2).toNatClampNeg)) + x3) 120) ∧ (((μ 2 0) = 1 → (kM_coming (μ 20 ((20 * x1) + x2).toNatClampNeg) x3 μ) ∧ ((vp_in (((120 * x1) + (6 * x2)) + x3) 2520) ∧ ((kM_freeze_117 KO105 KE105 KE117 n) x1 x2 (x3 + 1) (u2 μ 21 (((120 * x1) + (6 * x2)) + x3).toNatClampNeg ((μ 6 ((6 * (μ 20 ((20 * x1) + x2).toNatClampNeg)) + x3).toNatClampNeg) + (fM_coming (μ 20 ((20 * x1) + x2).toNatClampNeg) x3 μ)))))) ∧ (¬ ((μ 2 0) = 1) → (vp_in (((120 * x1) + (6 * x2)) + x3) 2520) ∧ ((kM_freeze_117 KO105 KE105 KE117 n) x1 x2 (x3 + 1) (u2 μ 21 (((120 * x1) + (6 * x2)) + x3).toNatClampNeg ((μ 6 ((6 * (μ 20 ((20 * x1) + x2).toNatClampNeg)) + x3).toNatClampNeg) + 0)))))))
def fM_freeze_105  (E105 : Int32 → Int32 → (Nat → Nat → Int32) → (Int32 × (Nat → Nat → Int32))) : Nat → Int32 → Int32 → (Nat → Nat → Int32) → (Int32 × (Nat → Nat → Int32))
  | 0, _, _, _ => (0, fun _ _ => 0)
  | n + 1, x1, x2, μ => if (μ 18 x1.toNatClampNeg) ≤ x2 then E105 x1 x2 μ else fM_freeze_117 (fM_freeze_105 E105 n) E105 (fM_freeze_117x (fM_freeze_105 E105 n) E105) 200 x1 x2 0 μ
def kM_freeze_105  (KE105 : Int32 → Int32 → (Nat → Nat → Int32) → Prop) : Nat → Int32 → Int32 → (Nat → Nat → Int32) → Prop
  | 0, _, _, _ => False
  | n + 1, x1, x2, μ => (vp_in x1 21) ∧ (((μ 18 x1.toNatClampNeg) ≤ x2 → KE105 x1 x2 μ) ∧ (¬ ((μ 18 x1.toNatClampNeg) ≤ x2) → kM_freeze_117 (kM_freeze_105 KE105 n) KE105 (kM_freeze_117x (kM_freeze_105 KE105 n) KE105) 200 x1 x2 0 μ))
def fM_freeze_53x  (x1 : Int32) (x2 : Int32) (μ : Nat → Nat → Int32) : Int32 × (Nat → Nat → Int32) := fM_freeze_105 fM_freeze_105x 200 x1 0 (u2 μ 17 x1.toNatClampNeg 1)
def kM_freeze_53x  (x1 : Int32) (x2 : Int32) (μ : Nat → Nat → Int32) : Prop := (vp_in x1 21) ∧ (kM_freeze_105 kM_freeze_105x 200 x1 0 (u2 μ 17 x1.toNatClampNeg 1))
def fM_freeze_53  (E53 : Int32 → Int32 → (Nat → Nat → Int32) → (Int32 × (Nat → Nat → Int32))) : Nat → Int32 → Int32 → (Nat → Nat → Int32) → (Int32 × (Nat → Nat → Int32))
  | 0, _, _, _ => (0, fun _ _ => 0)
  | n + 1, x1, x2, μ => if (μ 18 x1.toNatClampNeg) ≤ x2 then E53 x1 x2 μ else if (μ 2 0) = 0 then if (fM_openAt (μ 20 ((20 * x1) + x2).toNatClampNeg) μ) ≤ 0 then (fM_freeze_53 E53 n) x1 (x2 + 1) μ else (0, μ) else E53 x1 x2 μ
def kM_freeze_53  (KE53 : Int32 → Int32 → (Nat → Nat → Int32) → Prop) : Nat → Int32 → Int32 → (Nat → Nat → Int32) → Prop
  | 0, _, _, _ => False
  | n + 1, x1, x2, μ => (vp_in x1 21) ∧ (((μ 18 x1.toNatClampNeg) ≤ x2 → KE53 x1 x2 μ) ∧ (¬ ((μ 18 x1.toNatClampNeg) ≤ x2) → ((μ 2 0) = 0 → (vp_in ((20 * x1) + x2) 420) ∧ ((kM_openAt (μ 20 ((20 * x1) + x2).toNatClampNeg) μ) ∧ (((fM_openAt (μ 20 ((20 * x1) + x2).toNatClampNeg) μ) ≤ 0 → (kM_freeze_53 KE53 n) x1 (x2 + 1) μ) ∧ (¬ ((fM_openAt (μ 20 ((20 * x1) + x2).toNatClampNeg) μ) ≤ 0) → True)))) ∧ (¬ ((μ 2 0) = 0) → KE53 x1 x2 μ)))
def fM_freeze (x1 : Int32) (μ : Nat → Nat → Int32) : Int32 × (Nat → Nat → Int32) := if (fM_isCount x1 μ) = 0 then (0, (u2 μ 0 0 1)) else if (μ 17 x1.toNatClampNeg) = 0 then fM_freeze_53 fM_freeze_53x 200 x1 0 (u2 (u2 μ 0 0 0) 0 0 0) else (0, (u2 (u2 μ 0 0 0) 0 0 2))
def kM_freeze (x1 : Int32) (μ : Nat → Nat → Int32) : Prop := (kM_isCount x1 μ) ∧ (((fM_isCount x1 μ) = 0 → True) ∧ (¬ ((fM_isCount x1 μ) = 0) → (vp_in x1 21) ∧ (((μ 17 x1.toNatClampNeg) = 0 → kM_freeze_53 kM_freeze_53x 200 x1 0 (u2 (u2 μ 0 0 0) 0 0 0)) ∧ (¬ ((μ 17 x1.toNatClampNeg) = 0) → True))))
def fM_found (x1 : Int32) (x2 : Int32) (x3 : Int32) (x4 : Int32) (x5 : Int32) (μ : Nat → Nat → Int32) : Int32 × (Nat → Nat → Int32) := if (fM_isCount x1 μ) = 0 then (0, (u2 μ 0 0 1)) else if (fM_isPlace x2 μ) = 0 then (0, (u2 μ 0 0 1)) else if (fM_isGood x3) = 0 then (0, (u2 μ 0 0 2)) else if (fM_in x4 0 1000000) = 0 then (0, (u2 μ 0 0 2)) else if (fM_isPerson x5) = 0 then (0, (u2 μ 0 0 2)) else if (μ 17 x1.toNatClampNeg) = 1 then if (fM_slot x1 x2 (u2 μ 0 0 0)) = (-1) then ((-2), (u2 μ 0 0 0)) else if (fM_firstBy (((120 * x1) + (6 * (fM_slot x1 x2 (u2 μ 0 0 0)))) + x3) (u2 μ 0 0 0)) = x5 then ((-3), (u2 μ 0 0 0)) else if (fM_secondBy (((120 * x1) + (6 * (fM_slot x1 x2 (u2 μ 0 0 0)))) + x3) (u2 μ 0 0 0)) = x5 then ((-3), (u2 μ 0 0 0)) else if (fM_secondBy (((120 * x1) + (6 * (fM_slot x1 x2 (u2 μ 0 0 0)))) + x3) (u2 μ 0 0 0)) = (-1) then if (fM_firstBy (((120 * x1) + (6 * (fM_slot x1 x2 (u2 μ 0 0 0)))) + x3) (u2 (u2 μ 0 0 0) 19 x1.toNatClampNeg ((μ 19 x1.toNatClampNeg) + 1))) = (-1) then (1, (u2 (u2 (u2 (u2 μ 0 0 0) 19 x1.toNatClampNeg ((μ 19 x1.toNatClampNeg) + 1)) 22 (((120 * x1) + (6 * (fM_slot x1 x2 (u2 μ 0 0 0)))) + x3).toNatClampNeg x4) 24 (((120 * x1) + (6 * (fM_slot x1 x2 (u2 μ 0 0 0)))) + x3).toNatClampNeg (x5 + 1))) else (1, (u2 (u2 (u2 (u2 μ 0 0 0) 19 x1.toNatClampNeg ((μ 19 x1.toNatClampNeg) + 1)) 23 (((120 * x1) + (6 * (fM_slot x1 x2 (u2 μ 0 0 0)))) + x3).toNatClampNeg x4) 24 (((120 * x1) + (6 * (fM_slot x1 x2 (u2 μ 0 0 0)))) + x3).toNatClampNeg ((μ 24 (((120 * x1) + (6 * (fM_slot x1 x2 (u2 μ 0 0 0)))) + x3).toNatClampNeg) + (10 * (x5 + 1))))) else ((-4), (u2 μ 0 0 0)) else ((-1), (u2 μ 0 0 0))
def kM_found (x1 : Int32) (x2 : Int32) (x3 : Int32) (x4 : Int32) (x5 : Int32) (μ : Nat → Nat → Int32) : Prop := (kM_isCount x1 μ) ∧ (((fM_isCount x1 μ) = 0 → True) ∧ (¬ ((fM_isCount x1 μ) = 0) → (kM_isPlace x2 μ) ∧ (((fM_isPlace x2 μ) = 0 → True) ∧ (¬ ((fM_isPlace x2 μ) = 0) → (kM_isGood x3) ∧ (((fM_isGood x3) = 0 → True) ∧ (¬ ((fM_isGood x3) = 0) → (kM_in x4 0 1000000) ∧ (((fM_in x4 0 1000000) = 0 → True) ∧ (¬ ((fM_in x4 0 1000000) = 0) → (kM_isPerson x5) ∧ (((fM_isPerson x5) = 0 → True) ∧ (¬ ((fM_isPerson x5) = 0) → (vp_in x1 21) ∧ (((μ 17 x1.toNatClampNeg) = 1 → (kM_slot x1 x2 (u2 μ 0 0 0)) ∧ (((fM_slot x1 x2 (u2 μ 0 0 0)) = (-1) → True) ∧ (¬ ((fM_slot x1 x2 (u2 μ 0 0 0)) = (-1)) → (kM_firstBy (((120 * x1) + (6 * (fM_slot x1 x2 (u2 μ 0 0 0)))) + x3) (u2 μ 0 0 0)) ∧ (((fM_firstBy (((120 * x1) + (6 * (fM_slot x1 x2 (u2 μ 0 0 0)))) + x3) (u2 μ 0 0 0)) = x5 → True) ∧ (¬ ((fM_firstBy (((120 * x1) + (6 * (fM_slot x1 x2 (u2 μ 0 0 0)))) + x3) (u2 μ 0 0 0)) = x5) → (kM_secondBy (((120 * x1) + (6 * (fM_slot x1 x2 (u2 μ 0 0 0)))) + x3) (u2 μ 0 0 0)) ∧ (((fM_secondBy (((120 * x1) + (6 * (fM_slot x1 x2 (u2 μ 0 0 0)))) + x3) (u2 μ 0 0 0)) = x5 → True) ∧ (¬ ((fM_secondBy (((120 * x1) + (6 * (fM_slot x1 x2 (u2 μ 0 0 0)))) + x3) (u2 μ 0 0 0)) = x5) → (kM_secondBy (((120 * x1) + (6 * (fM_slot x1 x2 (u2 μ 0 0 0)))) + x3) (u2 μ 0 0 0)) ∧ (((fM_secondBy (((120 * x1) + (6 * (fM_slot x1 x2 (u2 μ 0 0 0)))) + x3) (u2 μ 0 0 0)) = (-1) → (vp_in x1 21) ∧ ((vp_in x1 21) ∧ ((kM_firstBy (((120 * x1) + (6 * (fM_slot x1 x2 (u2 μ 0 0 0)))) + x3) (u2 (u2 μ 0 0 0) 19 x1.toNatClampNeg ((μ 19 x1.toNatClampNeg) + 1))) ∧ (((fM_firstBy (((120 * x1) + (6 * (fM_slot x1 x2 (u2 μ 0 0 0)))) + x3) (u2 (u2 μ 0 0 0) 19 x1.toNatClampNeg ((μ 19 x1.toNatClampNeg) + 1))) = (-1) → (vp_in (((120 * x1) + (6 * (fM_slot x1 x2 (u2 μ 0 0 0)))) + x3) 2520) ∧ ((vp_in (((120 * x1) + (6 * (fM_slot x1 x2 (u2 μ 0 0 0)))) + x3) 2520) ∧ (True))) ∧ (¬ ((fM_firstBy (((120 * x1) + (6 * (fM_slot x1 x2 (u2 μ 0 0 0)))) + x3) (u2 (u2 μ 0 0 0) 19 x1.toNatClampNeg ((μ 19 x1.toNatClampNeg) + 1))) = (-1)) → (vp_in (((120 * x1) + (6 * (fM_slot x1 x2 (u2 μ 0 0 0)))) + x3) 2520) ∧ ((vp_in (((120 * x1) + (6 * (fM_slot x1 x2 (u2 μ 0 0 0)))) + x3) 2520) ∧ ((vp_in (((120 * x1) + (6 * (fM_slot x1 x2 (u2 μ 0 0 0)))) + x3) 2520) ∧ (True)))))))) ∧ (¬ ((fM_secondBy (((120 * x1) + (6 * (fM_slot x1 x2 (u2 μ 0 0 0)))) + x3) (u2 μ 0 0 0)) = (-1)) → True))))))))) ∧ (¬ ((μ 17 x1.toNatClampNeg) = 1) → True))))))))))))
def fM_second (x1 : Int32) (x2 : Int32) (x3 : Int32) (μ : Nat → Nat → Int32) : Int32 × (Nat → Nat → Int32) := if (fM_isCount x1 μ) = 0 then (0, (u2 (u2 μ 0 0 1) 0 0 1)) else if (fM_isPlace x2 μ) = 0 then (0, (u2 (u2 μ 0 0 1) 0 0 1)) else if (fM_slot x1 x2 (u2 μ 0 0 0)) = (-1) then (0, (u2 (u2 μ 0 0 0) 0 0 1)) else if (fM_isGood x3) = 0 then (0, (u2 (u2 μ 0 0 0) 0 0 2)) else if (μ 17 x1.toNatClampNeg) = 1 then if (fM_firstBy (((120 * x1) + (6 * (fM_slot x1 x2 (u2 μ 0 0 0)))) + x3) (u2 (u2 μ 0 0 0) 0 0 0)) = (-1) then (0, (u2 (u2 μ 0 0 0) 0 0 0)) else if (fM_secondBy (((120 * x1) + (6 * (fM_slot x1 x2 (u2 μ 0 0 0)))) + x3) (u2 (u2 μ 0 0 0) 0 0 0)) = (-1) then if (fM_far (μ 22 (((120 * x1) + (6 * (fM_slot x1 x2 (u2 μ 0 0 0)))) + x3).toNatClampNeg) (μ 21 (((120 * x1) + (6 * (fM_slot x1 x2 (u2 μ 0 0 0)))) + x3).toNatClampNeg)) ≤ (μ 8 (μ 4 x2.toNatClampNeg).toNatClampNeg) then (0, (u2 (u2 μ 0 0 0) 0 0 0)) else (1, (u2 (u2 μ 0 0 0) 0 0 0)) else (0, (u2 (u2 μ 0 0 0) 0 0 0)) else (0, (u2 (u2 μ 0 0 0) 0 0 3))
def kM_second (x1 : Int32) (x2 : Int32) (x3 : Int32) (μ : Nat → Nat → Int32) : Prop := (kM_isCount x1 μ) ∧ (((fM_isCount x1 μ) = 0 → True) ∧ (¬ ((fM_isCount x1 μ) = 0) → (kM_isPlace x2 μ) ∧ (((fM_isPlace x2 μ) = 0 → True) ∧ (¬ ((fM_isPlace x2 μ) = 0) → (kM_slot x1 x2 (u2 μ 0 0 0)) ∧ (((fM_slot x1 x2 (u2 μ 0 0 0)) = (-1) → True) ∧ (¬ ((fM_slot x1 x2 (u2 μ 0 0 0)) = (-1)) → (kM_isGood x3) ∧ (((fM_isGood x3) = 0 → True) ∧ (¬ ((fM_isGood x3) = 0) → (vp_in x1 21) ∧ (((μ 17 x1.toNatClampNeg) = 1 → (kM_firstBy (((120 * x1) + (6 * (fM_slot x1 x2 (u2 μ 0 0 0)))) + x3) (u2 (u2 μ 0 0 0) 0 0 0)) ∧ (((fM_firstBy (((120 * x1) + (6 * (fM_slot x1 x2 (u2 μ 0 0 0)))) + x3) (u2 (u2 μ 0 0 0) 0 0 0)) = (-1) → True) ∧ (¬ ((fM_firstBy (((120 * x1) + (6 * (fM_slot x1 x2 (u2 μ 0 0 0)))) + x3) (u2 (u2 μ 0 0 0) 0 0 0)) = (-1)) → (kM_secondBy (((120 * x1) + (6 * (fM_slot x1 x2 (u2 μ 0 0 0)))) + x3) (u2 (u2 μ 0 0 0) 0 0 0)) ∧ (((fM_secondBy (((120 * x1) + (6 * (fM_slot x1 x2 (u2 μ 0 0 0)))) + x3) (u2 (u2 μ 0 0 0) 0 0 0)) = (-1) → (vp_in (((120 * x1) + (6 * (fM_slot x1 x2 (u2 μ 0 0 0)))) + x3) 2520) ∧ ((vp_in (((120 * x1) + (6 * (fM_slot x1 x2 (u2 μ 0 0 0)))) + x3) 2520) ∧ ((kM_far (μ 22 (((120 * x1) + (6 * (fM_slot x1 x2 (u2 μ 0 0 0)))) + x3).toNatClampNeg) (μ 21 (((120 * x1) + (6 * (fM_slot x1 x2 (u2 μ 0 0 0)))) + x3).toNatClampNeg)) ∧ ((vp_in x2 20) ∧ ((vp_in (μ 4 x2.toNatClampNeg) 3) ∧ (((fM_far (μ 22 (((120 * x1) + (6 * (fM_slot x1 x2 (u2 μ 0 0 0)))) + x3).toNatClampNeg) (μ 21 (((120 * x1) + (6 * (fM_slot x1 x2 (u2 μ 0 0 0)))) + x3).toNatClampNeg)) ≤ (μ 8 (μ 4 x2.toNatClampNeg).toNatClampNeg) → True) ∧ (¬ ((fM_far (μ 22 (((120 * x1) + (6 * (fM_slot x1 x2 (u2 μ 0 0 0)))) + x3).toNatClampNeg) (μ 21 (((120 * x1) + (6 * (fM_slot x1 x2 (u2 μ 0 0 0)))) + x3).toNatClampNeg)) ≤ (μ 8 (μ 4 x2.toNatClampNeg).toNatClampNeg)) → True))))))) ∧ (¬ ((fM_secondBy (((120 * x1) + (6 * (fM_slot x1 x2 (u2 μ 0 0 0)))) + x3) (u2 (u2 μ 0 0 0) 0 0 0)) = (-1)) → True))))) ∧ (¬ ((μ 17 x1.toNatClampNeg) = 1) → True))))))))))
def fM_close_85x  (x1 : Int32) (x2 : Int32) (μ : Nat → Nat → Int32) : Int32 × (Nat → Nat → Int32) := (x2, μ)
def kM_close_85x  (x1 : Int32) (x2 : Int32) (μ : Nat → Nat → Int32) : Prop := True
def fM_close_85  (E85 : Int32 → Int32 → (Nat → Nat → Int32) → (Int32 × (Nat → Nat → Int32))) : Nat → Int32 → Int32 → (Nat → Nat → Int32) → (Int32 × (Nat → Nat → Int32))
  | 0, _, _, _ => (0, fun _ _ => 0)
  | n + 1, x1, x2, μ => if (fM_difference x1 x2 μ) = (-1) then E85 x1 x2 μ else (fM_close_85 E85 n) x1 (x2 + 1) μ
def kM_close_85  (KE85 : Int32 → Int32 → (Nat → Nat → Int32) → Prop) : Nat → Int32 → Int32 → (Nat → Nat → Int32) → Prop
  | 0, _, _, _ => False
  | n + 1, x1, x2, μ => (kM_difference x1 x2 μ) ∧ (((fM_difference x1 x2 μ) = (-1) → KE85 x1 x2 μ) ∧ (¬ ((fM_difference x1 x2 μ) = (-1)) → (kM_close_85 KE85 n) x1 (x2 + 1) μ))
def fM_close_61x  (x1 : Int32) (x2 : Int32) (μ : Nat → Nat → Int32) : Int32 × (Nat → Nat → Int32) := fM_close_85 fM_close_85x 200 x1 0 μ
def kM_close_61x  (x1 : Int32) (x2 : Int32) (μ : Nat → Nat → Int32) : Prop := kM_close_85 kM_close_85x 200 x1 0 μ
def fM_close_61  (E61 : Int32 → Int32 → (Nat → Nat → Int32) → (Int32 × (Nat → Nat → Int32))) : Nat → Int32 → Int32 → (Nat → Nat → Int32) → (Int32 × (Nat → Nat → Int32))
  | 0, _, _, _ => (0, fun _ _ => 0)
  | n + 1, x1, x2, μ => if (μ 18 x1.toNatClampNeg) ≤ x2 then E61 x1 x2 μ else (fM_close_61 E61 n) x1 (x2 + 1) (fM_closePlace x1 x2 μ)
def kM_close_61  (KE61 : Int32 → Int32 → (Nat → Nat → Int32) → Prop) : Nat → Int32 → Int32 → (Nat → Nat → Int32) → Prop
  | 0, _, _, _ => False
  | n + 1, x1, x2, μ => (vp_in x1 21) ∧ (((μ 18 x1.toNatClampNeg) ≤ x2 → KE61 x1 x2 μ) ∧ (¬ ((μ 18 x1.toNatClampNeg) ≤ x2) → (kM_closePlace x1 x2 μ) ∧ ((kM_close_61 KE61 n) x1 (x2 + 1) (fM_closePlace x1 x2 μ))))
def fM_close (x1 : Int32) (μ : Nat → Nat → Int32) : Int32 × (Nat → Nat → Int32) := if (fM_isCount x1 μ) = 0 then (0, (u2 μ 0 0 1)) else if (μ 17 x1.toNatClampNeg) = 1 then fM_close_61 fM_close_61x 200 x1 0 (u2 (u2 (u2 μ 0 0 0) 0 0 0) 17 x1.toNatClampNeg 2) else (0, (u2 (u2 μ 0 0 0) 0 0 2))
def kM_close (x1 : Int32) (μ : Nat → Nat → Int32) : Prop := (kM_isCount x1 μ) ∧ (((fM_isCount x1 μ) = 0 → True) ∧ (¬ ((fM_isCount x1 μ) = 0) → (vp_in x1 21) ∧ (((μ 17 x1.toNatClampNeg) = 1 → (vp_in x1 21) ∧ (kM_close_61 kM_close_61x 200 x1 0 (u2 (u2 (u2 μ 0 0 0) 0 0 0) 17 x1.toNatClampNeg 2))) ∧ (¬ ((μ 17 x1.toNatClampNeg) = 1) → True))))
def fM_differ (x1 : Int32) (x2 : Int32) (x3 : Int32) (μ : Nat → Nat → Int32) : Int32 × (Nat → Nat → Int32) := if (fM_isCount x1 μ) = 0 then (0, (u2 μ 0 0 1)) else if (fM_difference x1 x2 μ) = (-1) then (0, (u2 μ 0 0 1)) else if (fM_in x3 0 5) = 0 then (0, (u2 μ 0 0 2)) else if x3 = 0 then ((fM_bookedAt (fM_difference x1 x2 μ) (u2 μ 0 0 0)) / 6, (u2 μ 0 0 0)) else if x3 = 1 then ((fM_difference x1 x2 μ) - (fM_difference x1 x2 μ) / 6 * 6, (u2 μ 0 0 0)) else if x3 = 2 then ((fM_counts (fM_difference x1 x2 μ) (u2 μ 0 0 0)) - (μ 21 (fM_difference x1 x2 μ).toNatClampNeg), (u2 μ 0 0 0)) else if x3 = 3 then if (fM_secondBy (fM_difference x1 x2 μ) (u2 μ 0 0 0)) = (-1) then (fM_firstBy (fM_difference x1 x2 μ) (u2 μ 0 0 0), (u2 μ 0 0 0)) else (fM_secondBy (fM_difference x1 x2 μ) (u2 μ 0 0 0), (u2 μ 0 0 0)) else if x3 = 4 then ((μ 25 (fM_difference x1 x2 μ).toNatClampNeg) / 10, (u2 μ 0 0 0)) else (((μ 25 (fM_difference x1 x2 μ).toNatClampNeg) - (μ 25 (fM_difference x1 x2 μ).toNatClampNeg) / 10 * 10) - 1, (u2 μ 0 0 0))
def kM_differ (x1 : Int32) (x2 : Int32) (x3 : Int32) (μ : Nat → Nat → Int32) : Prop := (kM_isCount x1 μ) ∧ (((fM_isCount x1 μ) = 0 → True) ∧ (¬ ((fM_isCount x1 μ) = 0) → (kM_difference x1 x2 μ) ∧ (((fM_difference x1 x2 μ) = (-1) → True) ∧ (¬ ((fM_difference x1 x2 μ) = (-1)) → (kM_in x3 0 5) ∧ (((fM_in x3 0 5) = 0 → True) ∧ (¬ ((fM_in x3 0 5) = 0) → (x3 = 0 → (kM_bookedAt (fM_difference x1 x2 μ) (u2 μ 0 0 0)) ∧ (True)) ∧ (¬ (x3 = 0) → (x3 = 1 → True) ∧ (¬ (x3 = 1) → (x3 = 2 → (kM_counts (fM_difference x1 x2 μ) (u2 μ 0 0 0)) ∧ ((vp_in (fM_difference x1 x2 μ) 2520) ∧ (True))) ∧ (¬ (x3 = 2) → (x3 = 3 → (kM_secondBy (fM_difference x1 x2 μ) (u2 μ 0 0 0)) ∧ (((fM_secondBy (fM_difference x1 x2 μ) (u2 μ 0 0 0)) = (-1) → (kM_firstBy (fM_difference x1 x2 μ) (u2 μ 0 0 0)) ∧ (True)) ∧ (¬ ((fM_secondBy (fM_difference x1 x2 μ) (u2 μ 0 0 0)) = (-1)) → (kM_secondBy (fM_difference x1 x2 μ) (u2 μ 0 0 0)) ∧ (True)))) ∧ (¬ (x3 = 3) → (x3 = 4 → (vp_in (fM_difference x1 x2 μ) 2520) ∧ (True)) ∧ (¬ (x3 = 4) → (vp_in (fM_difference x1 x2 μ) 2520) ∧ (True))))))))))))
def fM_correct (x1 : Int32) (x2 : Int32) (x3 : Int32) (μ : Nat → Nat → Int32) : Int32 × (Nat → Nat → Int32) := if (fM_isCount x1 μ) = 0 then (0, (u2 μ 0 0 1)) else if (fM_difference x1 x2 μ) = (-1) then (0, (u2 μ 0 0 1)) else if (fM_isPerson x3) = 0 then (0, (u2 μ 0 0 2)) else if (μ 25 (fM_difference x1 x2 μ).toNatClampNeg) < 10 then if (fM_far (fM_counts (fM_difference x1 x2 μ) (u2 μ 0 0 0)) (μ 21 (fM_difference x1 x2 μ).toNatClampNeg)) ≤ (μ 9 x3.toNatClampNeg) then if (fM_in (((μ 6 (fM_bookedAt (fM_difference x1 x2 μ) (u2 μ 0 0 0)).toNatClampNeg) + (fM_counts (fM_difference x1 x2 μ) (u2 μ 0 0 0))) - (μ 21 (fM_difference x1 x2 μ).toNatClampNeg)) 0 1000000) = 0 then (0, (u2 (u2 μ 0 0 0) 0 0 3)) else (1, (u2 (u2 (u2 (u2 μ 0 0 0) 0 0 0) 6 (fM_bookedAt (fM_difference x1 x2 μ) (u2 (u2 μ 0 0 0) 0 0 0)).toNatClampNeg (((μ 6 (fM_bookedAt (fM_difference x1 x2 μ) (u2 μ 0 0 0)).toNatClampNeg) + (fM_counts (fM_difference x1 x2 μ) (u2 μ 0 0 0))) - (μ 21 (fM_difference x1 x2 μ).toNatClampNeg))) 25 (fM_difference x1 x2 μ).toNatClampNeg ((μ 25 (fM_difference x1 x2 μ).toNatClampNeg) + 10))) else if (((μ 25 (fM_difference x1 x2 μ).toNatClampNeg) - (μ 25 (fM_difference x1 x2 μ).toNatClampNeg) / 10 * 10) - 1) = (-1) then (0, (u2 (u2 μ 0 0 0) 25 (fM_difference x1 x2 μ).toNatClampNeg (x3 + 1))) else if (((μ 25 (fM_difference x1 x2 μ).toNatClampNeg) - (μ 25 (fM_difference x1 x2 μ).toNatClampNeg) / 10 * 10) - 1) = x3 then (0, (u2 (u2 μ 0 0 0) 25 (fM_difference x1 x2 μ).toNatClampNeg (x3 + 1))) else if (fM_in (((μ 6 (fM_bookedAt (fM_difference x1 x2 μ) (u2 μ 0 0 0)).toNatClampNeg) + (fM_counts (fM_difference x1 x2 μ) (u2 μ 0 0 0))) - (μ 21 (fM_difference x1 x2 μ).toNatClampNeg)) 0 1000000) = 0 then (0, (u2 (u2 μ 0 0 0) 0 0 3)) else (1, (u2 (u2 (u2 (u2 μ 0 0 0) 0 0 0) 6 (fM_bookedAt (fM_difference x1 x2 μ) (u2 (u2 μ 0 0 0) 0 0 0)).toNatClampNeg (((μ 6 (fM_bookedAt (fM_difference x1 x2 μ) (u2 μ 0 0 0)).toNatClampNeg) + (fM_counts (fM_difference x1 x2 μ) (u2 μ 0 0 0))) - (μ 21 (fM_difference x1 x2 μ).toNatClampNeg))) 25 (fM_difference x1 x2 μ).toNatClampNeg ((μ 25 (fM_difference x1 x2 μ).toNatClampNeg) + 10))) else (0, (u2 μ 0 0 3))
def kM_correct (x1 : Int32) (x2 : Int32) (x3 : Int32) (μ : Nat → Nat → Int32) : Prop := (kM_isCount x1 μ) ∧ (((fM_isCount x1 μ) = 0 → True) ∧ (¬ ((fM_isCount x1 μ) = 0) → (kM_difference x1 x2 μ) ∧ (((fM_difference x1 x2 μ) = (-1) → True) ∧ (¬ ((fM_difference x1 x2 μ) = (-1)) → (kM_isPerson x3) ∧ (((fM_isPerson x3) = 0 → True) ∧ (¬ ((fM_isPerson x3) = 0) → (vp_in (fM_difference x1 x2 μ) 2520) ∧ (((μ 25 (fM_difference x1 x2 μ).toNatClampNeg) < 10 → (vp_in (fM_difference x1 x2 μ) 2520) ∧ ((vp_in x3 6) ∧ ((kM_counts (fM_difference x1 x2 μ) (u2 μ 0 0 0)) ∧ ((vp_in (fM_difference x1 x2 μ) 2520) ∧ ((kM_far (fM_counts (fM_difference x1 x2 μ) (u2 μ 0 0 0)) (μ 21 (fM_difference x1 x2 μ).toNatClampNeg)) ∧ (((fM_far (fM_counts (fM_difference x1 x2 μ) (u2 μ 0 0 0)) (μ 21 (fM_difference x1 x2 μ).toNatClampNeg)) ≤ (μ 9 x3.toNatClampNeg) → (kM_bookedAt (fM_difference x1 x2 μ) (u2 μ 0 0 0)) ∧ ((vp_in (fM_bookedAt (fM_difference x1 x2 μ) (u2 μ 0 0 0)) 120) ∧ ((kM_counts (fM_difference x1 x2 μ) (u2 μ 0 0 0)) ∧ ((vp_in (fM_difference x1 x2 μ) 2520) ∧ ((kM_in (((μ 6 (fM_bookedAt (fM_difference x1 x2 μ) (u2 μ 0 0 0)).toNatClampNeg) + (fM_counts (fM_difference x1 x2 μ) (u2 μ 0 0 0))) - (μ 21 (fM_difference x1 x2 μ).toNatClampNeg)) 0 1000000) ∧ (((fM_in (((μ 6 (fM_bookedAt (fM_difference x1 x2 μ) (u2 μ 0 0 0)).toNatClampNeg) + (fM_counts (fM_difference x1 x2 μ) (u2 μ 0 0 0))) - (μ 21 (fM_difference x1 x2 μ).toNatClampNeg)) 0 1000000) = 0 → True) ∧ (¬ ((fM_in (((μ 6 (fM_bookedAt (fM_difference x1 x2 μ) (u2 μ 0 0 0)).toNatClampNeg) + (fM_counts (fM_difference x1 x2 μ) (u2 μ 0 0 0))) - (μ 21 (fM_difference x1 x2 μ).toNatClampNeg)) 0 1000000) = 0) → (kM_bookedAt (fM_difference x1 x2 μ) (u2 (u2 μ 0 0 0) 0 0 0)) ∧ ((vp_in (fM_bookedAt (fM_difference x1 x2 μ) (u2 (u2 μ 0 0 0) 0 0 0)) 120) ∧ ((vp_in (fM_difference x1 x2 μ) 2520) ∧ ((vp_in (fM_difference x1 x2 μ) 2520) ∧ (True))))))))))) ∧ (¬ ((fM_far (fM_counts (fM_difference x1 x2 μ) (u2 μ 0 0 0)) (μ 21 (fM_difference x1 x2 μ).toNatClampNeg)) ≤ (μ 9 x3.toNatClampNeg)) → ((((μ 25 (fM_difference x1 x2 μ).toNatClampNeg) - (μ 25 (fM_difference x1 x2 μ).toNatClampNeg) / 10 * 10) - 1) = (-1) → (vp_in (fM_difference x1 x2 μ) 2520) ∧ (True)) ∧ (¬ ((((μ 25 (fM_difference x1 x2 μ).toNatClampNeg) - (μ 25 (fM_difference x1 x2 μ).toNatClampNeg) / 10 * 10) - 1) = (-1)) → ((((μ 25 (fM_difference x1 x2 μ).toNatClampNeg) - (μ 25 (fM_difference x1 x2 μ).toNatClampNeg) / 10 * 10) - 1) = x3 → (vp_in (fM_difference x1 x2 μ) 2520) ∧ (True)) ∧ (¬ ((((μ 25 (fM_difference x1 x2 μ).toNatClampNeg) - (μ 25 (fM_difference x1 x2 μ).toNatClampNeg) / 10 * 10) - 1) = x3) → (kM_bookedAt (fM_difference x1 x2 μ) (u2 μ 0 0 0)) ∧ ((vp_in (fM_bookedAt (fM_difference x1 x2 μ) (u2 μ 0 0 0)) 120) ∧ ((kM_counts (fM_difference x1 x2 μ) (u2 μ 0 0 0)) ∧ ((vp_in (fM_difference x1 x2 μ) 2520) ∧ ((kM_in (((μ 6 (fM_bookedAt (fM_difference x1 x2 μ) (u2 μ 0 0 0)).toNatClampNeg) + (fM_counts (fM_difference x1 x2 μ) (u2 μ 0 0 0))) - (μ 21 (fM_difference x1 x2 μ).toNatClampNeg)) 0 1000000) ∧ (((fM_in (((μ 6 (fM_bookedAt (fM_difference x1 x2 μ) (u2 μ 0 0 0)).toNatClampNeg) + (fM_counts (fM_difference x1 x2 μ) (u2 μ 0 0 0))) - (μ 21 (fM_difference x1 x2 μ).toNatClampNeg)) 0 1000000) = 0 → True) ∧ (¬ ((fM_in (((μ 6 (fM_bookedAt (fM_difference x1 x2 μ) (u2 μ 0 0 0)).toNatClampNeg) + (fM_counts (fM_difference x1 x2 μ) (u2 μ 0 0 0))) - (μ 21 (fM_difference x1 x2 μ).toNatClampNeg)) 0 1000000) = 0) → (kM_bookedAt (fM_difference x1 x2 μ) (u2 (u2 μ 0 0 0) 0 0 0)) ∧ ((vp_in (fM_bookedAt (fM_difference x1 x2 μ) (u2 (u2 μ 0 0 0) 0 0 0)) 120) ∧ ((vp_in (fM_difference x1 x2 μ) 2520) ∧ ((vp_in (fM_difference x1 x2 μ) 2520) ∧ (True))))))))))))))))))) ∧ (¬ ((μ 25 (fM_difference x1 x2 μ).toNatClampNeg) < 10) → True))))))))
set_option maxHeartbeats 4000000 in
set_option maxRecDepth 100000 in
theorem cM_round (l : Launch) (D : va_G) (tc : Nat → ClassId) (a : Nat → Nat) (Y : va_W) (sz : Nat) (x1 : Int32) (x2 : Int32) (x3 : Int64) (μ : Nat → Nat → Int32) {F : Int32 × (Nat → Nat → Int32)} (hok : kM_round x1 x2 x3 μ) (hF : fM_round x1 x2 x3 μ = F) : Met l y_M_round (Cond.code y_M_round b_M_round 10 (some .int) :: gw) ({ frames := 1, cells := 0, slots := 0, locals := 23 } : Room) (va_Pc [.ref (a 0), .int x1, .int x2, .long x3] (pW D tc (mo tc a μ ++ Y) sz)) (va_Qi (fun r u => (r, u) = F) (fun u t => qW D tc (va_A (mo tc a μ ++ Y) sz) (mo tc a u ++ Y) t) (va_A (mo tc a μ ++ Y) sz)) 0 0 (va_A (mo tc a μ ++ Y) sz) := by
  refine en_W (by decide) (Nat.le_of_ble_eq_true rfl) ?_
  intro p e s m args below meth c ls h0 hr hlocks hin hsz hw hl
  obtain ⟨hx, hb, hml, hown, hts, hK⟩ := id h0
  have hA : ∀ q : Nat, s.heap.size ≤ q → (va_A (mo tc a μ ++ Y) sz) q := fun q h => Or.inr (by rw [← hsz]; exact h)
  generalize va_A (mo tc a μ ++ Y) sz = A at hw hA ⊢
  obtain ⟨H, eH⟩ : ∃ z, z = s.heap := ⟨_, rfl⟩
  obtain ⟨locs, eL⟩ : ∃ z : List Loc, z = [] := ⟨_, rfl⟩
  have hw : wH D A s.heap (mo tc a μ ++ Y) H locs := by rw [eH, eL]; exact hw
  show W p l e _ s m _ below meth c s.heap [] 0 0 _ _
  have gl : W p l e ({ frames := 1, cells := 0, slots := 0, locals := 23 } : Room) s m args below meth c H locs 0 0 (MQ below (va_Qi (fun r u => (r, u) = F) (fun u t => qW D tc A (mo tc a u ++ Y) t) A) args s 0 0 A) (F0 m 0 ls []) := ?_
  · rw [eH, eL] at gl; exact gl
  have hl : lv_has ls 10 [(0, .ref (a 0)), (1, .int x1), (2, .int x2), (3, .long x3)] := hl
  unfold kM_round at hok
  unfold fM_round at hF
  refine lv_aload_n hx hb d_M_round_0 rfl (lv_at hl 0 rfl) ?_
  refine lv_iload_n hx hb d_M_round_1 rfl (lv_at hl 1 rfl) ?_
  refine lv_iconst (v := (-1)) hx hb d_M_round_2 (by decide) ?_
  refine lv_iconst (v := 2) hx hb d_M_round_3 (by decide) ?_
  obtain ⟨hi_1, hok⟩ := hok
  refine cs_p (n := 3) (As := [.int x1, .int (-1), .int 2]) (rest := [.ref (a 0)]) hx hb hml hown hts (cM_in l x1 (-1) 2 hi_1 rfl) (gd_S wd_710 wd_711 wd_3 wd_712) (by decide +kernel) ⟨rfl, rfl, Nat.le_of_ble_eq_true rfl, Nat.le_of_ble_eq_true rfl, Nat.le_of_ble_eq_true rfl, Nat.le_of_ble_eq_true rfl⟩ rfl hl.1 rfl (Nat.le_of_ble_eq_true rfl) d_M_round_4 ?_
  refine lv_if_eq (tgt := 20) hx hb d_M_round_7 (by decide) (fun c_2 => ?_) (fun c_2 => ?_)
  · have hok := hok.1 c_2
    have hF := (if_pos c_2).symm.trans hF
    refine lv_iconst (v := 1) hx hb d_M_round_20 (by decide) ?_
    refine lv_goto (tgt := 25) hx hb d_M_round_21 (by decide) ?_
    refine mp_0 h0 hw d_M_round_25 (fun H locs hw => ?_)
    refine lv_aload_n hx hb d_M_round_28 rfl (lv_at hl 0 rfl) ?_
    refine mg_0 h0 hw d_M_round_29 ?_
    refine W.eq (g2 := F0 m 32 ls [.int 1]) rfl ?_
    refine lv_if_le (tgt := 37) hx hb d_M_round_32 (by decide) (fun c_0 => absurd c_0 (by decide)) (fun _ => ?_)
    refine lv_iconst (v := 0) hx hb d_M_round_35 (by decide) ?_
    exact rt_i h0 hw hr hlocks rfl (u2 μ 0 0 1) hF rfl d_M_round_36 (Nat.le_refl 0) (Nat.le_refl 0)
  · have hok := hok.2 c_2
    have hF := (if_neg c_2).symm.trans hF
    refine lv_iload_n hx hb d_M_round_10 rfl (lv_at hl 2 rfl) ?_
    refine lv_iconst (v := 1) hx hb d_M_round_11 (by decide) ?_
    refine lv_bipush (v := 20) hx hb d_M_round_12 (by decide) ?_
    obtain ⟨hi_3, hok⟩ := hok
    refine cs_p (n := 3) (As := [.int x2, .int 1, .int 20]) (rest := [.ref (a 0)]) hx hb hml hown hts (cM_in l x2 1 20 hi_3 rfl) (gd_S wd_710 wd_711 wd_3 wd_712) (by decide +kernel) ⟨rfl, rfl, Nat.le_of_ble_eq_true rfl, Nat.le_of_ble_eq_true rfl, Nat.le_of_ble_eq_true rfl, Nat.le_of_ble_eq_true rfl⟩ rfl hl.1 rfl (Nat.le_of_ble_eq_true rfl) d_M_round_14 ?_
    refine lv_if_ne (tgt := 24) hx hb d_M_round_17 (by decide) (fun c_4 => ?_) (fun c_4 => ?_)
    · have hok := hok.2 c_4
      have hF := (if_neg c_4).symm.trans hF
      refine lv_iconst (v := 0) hx hb d_M_round_24 (by decide) ?_
      refine mp_0 h0 hw d_M_round_25 (fun H locs hw => ?_)
      refine lv_aload_n hx hb d_M_round_28 rfl (lv_at hl 0 rfl) ?_
      refine mg_0 h0 hw d_M_round_29 ?_
      refine W.eq (g2 := F0 m 32 ls [.int 0]) rfl ?_
      refine lv_if_le (tgt := 37) hx hb d_M_round_32 (by decide) (fun _ => ?_) (fun c_0 => absurd c_0 (by decide))
      refine lv_iconst (v := 0) hx hb d_M_round_37 (by decide) ?_
      refine lv_istore (lv' := [(5, .int 0), (0, .ref (a 0)), (1, .int x1), (2, .int x2), (3, .long x3)]) hx hb d_M_round_38 hl (by decide) rfl (fun ls hl => ?_)
      refine lv_iconst (v := 0) hx hb d_M_round_40 (by decide) ?_
      refine lv_istore (lv' := [(6, .int 0), (5, .int 0), (0, .ref (a 0)), (1, .int x1), (2, .int x2), (3, .long x3)]) hx hb d_M_round_41 hl (by decide) rfl (fun ls hl => ?_)
      have hx_43 : ∀ (x1 : Int32) (x2 : Int32) (x3 : Int64) (x5 : Int32) (x6 : Int32) (μ : Nat → Nat → Int32) (H : Heap) (locs : List Loc) (ls : Array Slot), wH D A s.heap (mo tc a μ ++ Y) H locs → lv_has ls 10 [(0, .ref (a 0)), (1, .int x1), (2, .int x2), (3, .long x3), (5, .int x5), (6, .int x6)] → kM_round_43x x1 x2 x3 x5 x6 μ → fM_round_43x x1 x2 x3 x5 x6 μ = F → W p l e ({ frames := 1, cells := 0, slots := 0, locals := 23 } : Room) s m args below meth c H locs 0 0 (MQ below (va_Qi (fun r u => (r, u) = F) (fun u t => qW D tc A (mo tc a u ++ Y) t) A) args s 0 0 A) (F0 m 115 ls []) := by
        intro x1 x2 x3 x5 x6 μ H locs ls hw hl hok hF
        unfold kM_round_43x at hok
        unfold fM_round_43x at hF
        refine lv_aload_n hx hb d_M_round_115 rfl (lv_at hl 0 rfl) ?_
        refine lv_iload hx hb d_M_round_116 (lv_at hl 4 rfl) ?_
        refine lv_if_ne (tgt := 125) hx hb d_M_round_118 (by decide) (fun c_5 => ?_) (fun c_5 => ?_)
        · have hok := hok.2 c_5
          have hF := (if_neg c_5).symm.trans hF
          refine lv_aload_n hx hb d_M_round_125 rfl (lv_at hl 0 rfl) ?_
          refine mg_16 h0 hw d_M_round_126 ?_
          refine lv_bipush (v := 20) hx hb d_M_round_129 (by decide) ?_
          refine lv_icmp_ne (tgt := 138) hx hb d_M_round_131 (by decide) (fun c_6 => ?_) (fun c_6 => ?_)
          · have hok := hok.2 c_6
            have hF := (if_neg c_6).symm.trans hF
            refine lv_iconst (v := 0) hx hb d_M_round_138 (by decide) ?_
            refine mp_0 h0 hw d_M_round_139 (fun H locs hw => ?_)
            refine lv_aload_n hx hb d_M_round_142 rfl (lv_at hl 0 rfl) ?_
            refine mg_0 h0 hw d_M_round_143 ?_
            refine W.eq (g2 := F0 m 146 ls [.int 0]) rfl ?_
            refine lv_if_le (tgt := 151) hx hb d_M_round_146 (by decide) (fun _ => ?_) (fun c_0 => absurd c_0 (by decide))
            refine lv_aload_n hx hb d_M_round_151 rfl (lv_at hl 0 rfl) ?_
            refine lv_dup hx hb d_M_round_152 rfl ?_
            refine mg_16 h0 hw d_M_round_153 ?_
            refine W.eq (g2 := F0 m 156 ls [.int (μ 16 0), .ref (a 0)]) rfl ?_
            refine lv_iconst (v := 1) hx hb d_M_round_156 (by decide) ?_
            refine lv_iadd hx hb d_M_round_157 ?_
            refine mp_16 h0 hw d_M_round_158 (fun H locs hw => ?_)
            refine lv_aload_n hx hb d_M_round_161 rfl (lv_at hl 0 rfl) ?_
            refine mg_17 h0 hw d_M_round_162 ?_
            refine lv_aload_n hx hb d_M_round_165 rfl (lv_at hl 0 rfl) ?_
            refine mg_16 h0 hw d_M_round_166 ?_
            refine W.eq (g2 := F0 m 169 ls [.int ((μ 16 0) + 1), .ref (a 17)]) rfl ?_
            refine lv_iconst (v := 0) hx hb d_M_round_169 (by decide) ?_
            obtain ⟨hi_7, hok⟩ := hok
            refine ms_17 h0 hw hi_7 d_M_round_170 (fun H locs hw => ?_)
            refine lv_lload_n hx hb d_M_round_171 rfl (lv_at hl 3 rfl) ?_
            refine lv_lstore (lv' := [(6, .long x3), (0, .ref (a 0)), (1, .int x1), (2, .int x2), (3, .long x3), (5, .int x5)]) hx hb d_M_round_172 hl (by decide) rfl (fun ls hl => ?_)
            refine lv_iconst (v := 0) hx hb d_M_round_174 (by decide) ?_
            refine lv_istore (lv' := [(8, .int 0), (6, .long x3), (0, .ref (a 0)), (1, .int x1), (2, .int x2), (3, .long x3), (5, .int x5)]) hx hb d_M_round_175 hl (by decide) rfl (fun ls hl => ?_)
            have hx_177 : ∀ (x1 : Int32) (x2 : Int32) (x3 : Int64) (x5 : Int32) (x6 : Int64) (x8 : Int32) (μ : Nat → Nat → Int32) (H : Heap) (locs : List Loc) (ls : Array Slot), wH D A s.heap (mo tc a μ ++ Y) H locs → lv_has ls 10 [(0, .ref (a 0)), (1, .int x1), (2, .int x2), (3, .long x3), (5, .int x5), (6, .long x6), (8, .int x8)] → kM_round_177x x1 x2 x3 x5 x6 x8 μ → fM_round_177x x1 x2 x3 x5 x6 x8 μ = F → W p l e ({ frames := 1, cells := 0, slots := 0, locals := 23 } : Room) s m args below meth c H locs 0 0 (MQ below (va_Qi (fun r u => (r, u) = F) (fun u t => qW D tc A (mo tc a u ++ Y) t) A) args s 0 0 A) (F0 m 276 ls []) := by
              intro x1 x2 x3 x5 x6 x8 μ H locs ls hw hl hok hF
              unfold kM_round_177x at hok
              unfold fM_round_177x at hF
              refine lv_aload_n hx hb d_M_round_276 rfl (lv_at hl 0 rfl) ?_
              refine mg_16 h0 hw d_M_round_277 ?_
              exact rt_i h0 hw hr hlocks rfl μ hF rfl d_M_round_280 (Nat.le_refl 0) (Nat.le_refl 0)
            have lp_177 : ∀ (n177 : Nat) (x1 : Int32) (x2 : Int32) (x3 : Int64) (x5 : Int32) (x6 : Int64) (x8 : Int32) (μ : Nat → Nat → Int32) (H : Heap) (locs : List Loc) (ls : Array Slot), wH D A s.heap (mo tc a μ ++ Y) H locs → lv_has ls 10 [(0, .ref (a 0)), (1, .int x1), (2, .int x2), (3, .long x3), (5, .int x5), (6, .long x6), (8, .int x8)] → kM_round_177 kM_round_177x n177 x1 x2 x3 x5 x6 x8 μ → fM_round_177 fM_round_177x n177 x1 x2 x3 x5 x6 x8 μ = F → W p l e ({ frames := 1, cells := 0, slots := 0, locals := 23 } : Room) s m args below meth c H locs 0 0 (MQ below (va_Qi (fun r u => (r, u) = F) (fun u t => qW D tc A (mo tc a u ++ Y) t) A) args s 0 0 A) (F0 m 177 ls []) := by
              intro n177
              induction n177 with
              | zero =>
                intro x1 x2 x3 x5 x6 x8 μ H locs ls hw hl hok hF
                unfold kM_round_177 at hok
                exact hok.elim
              | succ n177 ih_177 =>
                intro x1 x2 x3 x5 x6 x8 μ H locs ls hw hl hok hF
                unfold kM_round_177 at hok
                unfold fM_round_177 at hF
                refine lv_iload hx hb d_M_round_177 (lv_at hl 6 rfl) ?_
                refine lv_iload_n hx hb d_M_round_179 rfl (lv_at hl 2 rfl) ?_
                refine lv_icmp_ge (tgt := 276) hx hb d_M_round_180 (by decide) (fun c_8 => ?_) (fun c_8 => ?_)
                · have hok := hok.1 c_8
                  have hF := (if_pos c_8).symm.trans hF
                  exact hx_177 x1 x2 x3 x5 x6 x8 μ H locs ls hw (lv_sub hl [0, 1, 2, 3, 4, 5, 6] rfl) hok hF
                · have hok := hok.2 c_8
                  have hF := (if_neg c_8).symm.trans hF
                  refine lv_iload hx hb d_M_round_183 (lv_at hl 4 rfl) ?_
                  refine lv_if_le (tgt := 276) hx hb d_M_round_185 (by decide) (fun c_9 => ?_) (fun c_9 => ?_)
                  · have hok := hok.1 c_9
                    have hF := (if_pos c_9).symm.trans hF
                    exact hx_177 x1 x2 x3 x5 x6 x8 μ H locs ls hw (lv_sub hl [0, 1, 2, 3, 4, 5, 6] rfl) hok hF
                  · have hok := hok.2 c_9
                    have hF := (if_neg c_9).symm.trans hF
                    refine lv_lload hx hb d_M_round_188 (lv_at hl 5 rfl) ?_
                    refine lv_ldc2 hx hb hown (hts _ wd_768) d_M_round_190 ?_
                    refine lv_lmul hx hb d_M_round_193 ?_
                    refine lv_ldc2 hx hb hown (hts _ wd_769) d_M_round_194 ?_
                    refine lv_ladd hx hb d_M_round_197 ?_
                    refine lv_lstore (lv' := [(6, .long ((x6 * 6364136223846793005) + 1442695040888963407)), (0, .ref (a 0)), (1, .int x1), (2, .int x2), (3, .long x3), (5, .int x5), (8, .int x8)]) hx hb d_M_round_198 hl (by decide) rfl (fun ls hl => ?_)
                    refine lv_lload_n hx hb d_M_round_200 rfl (lv_at hl 4 rfl) ?_
                    refine lv_lconst (v := 0) hx hb d_M_round_201 (by decide) ?_
                    refine W.lcmp hx hb d_M_round_202 ?_
                    refine lv_if_ne (tgt := 213) hx hb d_M_round_203 (by decide) (fun c_10 => ?_) (fun c_10 => ?_)
                    · have hok := hok.2 c_10
                      have hF := (if_neg c_10).symm.trans hF
                      refine lv_aload_n hx hb d_M_round_213 rfl (lv_at hl 1 rfl) ?_
                      refine lv_lload hx hb d_M_round_214 (lv_at hl 0 rfl) ?_
                      refine lv_bipush (v := 33) hx hb d_M_round_216 (by decide) ?_
                      refine lv_lushr hx hb d_M_round_218 rfl ?_
                      refine lv_iload hx hb d_M_round_219 (lv_at hl 5 rfl) ?_
                      refine lv_i2l hx hb d_M_round_221 rfl ?_
                      obtain ⟨hi_11, hok⟩ := hok
                      refine lv_lrem hx hb d_M_round_222 hi_11 ?_
                      refine lv_l2i hx hb d_M_round_223 rfl ?_
                      obtain ⟨hi_12, hok⟩ := hok
                      refine cv_p (n := 1) (C := "CountRoundsModel") (b := a 0) (q0 := 0) (ci := 4) (As := [.int ((((((x6 * 6364136223846793005) + 1442695040888963407).toUInt64 >>> ((33 : Int32).toInt64.toUInt64 &&& Int64.toUInt64 63)).toInt64) - ((((x6 * 6364136223846793005) + 1442695040888963407).toUInt64 >>> ((33 : Int32).toInt64.toUInt64 &&& Int64.toUInt64 63)).toInt64) / x5.toInt64 * x5.toInt64).toInt32)]) (rest := []) h0 hw (cM_byNumber l D tc a Y H.size ((((((x6 * 6364136223846793005) + 1442695040888963407).toUInt64 >>> ((33 : Int32).toInt64.toUInt64 &&& Int64.toUInt64 63)).toInt64) - ((((x6 * 6364136223846793005) + 1442695040888963407).toUInt64 >>> ((33 : Int32).toInt64.toUInt64 &&& Int64.toUInt64 63)).toInt64) / x5.toInt64 * x5.toInt64).toInt32) μ hi_12 rfl) (gd_V wd_774 wd_776 (gw_s 26 rfl rfl) wd_3 wd_777) (by decide +kernel) ⟨rfl, rfl, Nat.le_of_ble_eq_true rfl, Nat.le_of_ble_eq_true rfl, Nat.le_of_ble_eq_true rfl, Nat.le_of_ble_eq_true rfl⟩ rfl rfl rfl hl.1 rfl (Nat.le_of_ble_eq_true rfl) d_M_round_224 ?_
                      refine lv_istore (lv' := [(9, .int (fM_byNumber ((((((x6 * 6364136223846793005) + 1442695040888963407).toUInt64 >>> ((33 : Int32).toInt64.toUInt64 &&& Int64.toUInt64 63)).toInt64) - ((((x6 * 6364136223846793005) + 1442695040888963407).toUInt64 >>> ((33 : Int32).toInt64.toUInt64 &&& Int64.toUInt64 63)).toInt64) / x5.toInt64 * x5.toInt64).toInt32) μ)), (6, .long ((x6 * 6364136223846793005) + 1442695040888963407)), (0, .ref (a 0)), (1, .int x1), (2, .int x2), (3, .long x3), (5, .int x5), (8, .int x8)]) hx hb d_M_round_227 hl (by decide) rfl (fun ls hl => ?_)
                      refine lv_aload_n hx hb d_M_round_229 rfl (lv_at hl 2 rfl) ?_
                      refine mg_28 h0 hw d_M_round_230 ?_
                      refine lv_iload hx hb d_M_round_233 (lv_at hl 0 rfl) ?_
                      refine lv_iconst (v := 0) hx hb d_M_round_235 (by decide) ?_
                      obtain ⟨hi_13, hok⟩ := hok
                      refine ms_28 h0 hw hi_13 d_M_round_236 (fun H locs hw => ?_)
                      refine lv_aload_n hx hb d_M_round_237 rfl (lv_at hl 2 rfl) ?_
                      refine mg_20 h0 hw d_M_round_238 ?_
                      refine lv_bipush (v := 20) hx hb d_M_round_241 (by decide) ?_
                      refine lv_aload_n hx hb d_M_round_243 rfl (lv_at hl 2 rfl) ?_
                      refine mg_16 h0 hw d_M_round_244 ?_
                      refine W.eq (g2 := F0 m 247 ls [.int (μ 16 0), .int 20, .ref (a 20)]) rfl ?_
                      refine lv_imul hx hb d_M_round_247 ?_
                      refine lv_iload hx hb d_M_round_248 (lv_at hl 7 rfl) ?_
                      refine lv_iadd hx hb d_M_round_250 ?_
                      refine lv_iload hx hb d_M_round_251 (lv_at hl 0 rfl) ?_
                      obtain ⟨hi_14, hok⟩ := hok
                      refine ms_20 h0 hw hi_14 d_M_round_253 (fun H locs hw => ?_)
                      refine lv_aload_n hx hb d_M_round_254 rfl (lv_at hl 2 rfl) ?_
                      refine mg_18 h0 hw d_M_round_255 ?_
                      refine lv_aload_n hx hb d_M_round_258 rfl (lv_at hl 2 rfl) ?_
                      refine mg_16 h0 hw d_M_round_259 ?_
                      refine W.eq (g2 := F0 m 262 ls [.int (μ 16 0), .ref (a 18)]) rfl ?_
                      refine lv_dup2_11 hx hb d_M_round_262 rfl rfl ?_
                      obtain ⟨hi_15, hok⟩ := hok
                      refine ml_18 h0 hw hi_15 d_M_round_263 ?_
                      refine W.eq (g2 := F0 m 264 ls [.int (μ 18 (μ 16 0).toNatClampNeg), .int (μ 16 0), .ref (a 18)]) rfl ?_
                      refine lv_iconst (v := 1) hx hb d_M_round_264 (by decide) ?_
                      refine lv_iadd hx hb d_M_round_265 ?_
                      obtain ⟨hi_16, hok⟩ := hok
                      refine ms_18 h0 hw hi_16 d_M_round_266 (fun H locs hw => ?_)
                      refine lv_iinc (v := x5 + (-1)) (lv' := [(5, .int (x5 + (-1))), (9, .int (fM_byNumber ((((((x6 * 6364136223846793005) + 1442695040888963407).toUInt64 >>> ((33 : Int32).toInt64.toUInt64 &&& Int64.toUInt64 63)).toInt64) - ((((x6 * 6364136223846793005) + 1442695040888963407).toUInt64 >>> ((33 : Int32).toInt64.toUInt64 &&& Int64.toUInt64 63)).toInt64) / x5.toInt64 * x5.toInt64).toInt32) μ)), (6, .long ((x6 * 6364136223846793005) + 1442695040888963407)), (0, .ref (a 0)), (1, .int x1), (2, .int x2), (3, .long x3), (8, .int x8)]) hx hb d_M_round_267 hl (k := 6) rfl rfl (by decide) rfl (fun ls hl => ?_)
                      refine lv_iinc (v := x8 + 1) (lv' := [(8, .int (x8 + 1)), (5, .int (x5 + (-1))), (9, .int (fM_byNumber ((((((x6 * 6364136223846793005) + 1442695040888963407).toUInt64 >>> ((33 : Int32).toInt64.toUInt64 &&& Int64.toUInt64 63)).toInt64) - ((((x6 * 6364136223846793005) + 1442695040888963407).toUInt64 >>> ((33 : Int32).toInt64.toUInt64 &&& Int64.toUInt64 63)).toInt64) / x5.toInt64 * x5.toInt64).toInt32) μ)), (6, .long ((x6 * 6364136223846793005) + 1442695040888963407)), (0, .ref (a 0)), (1, .int x1), (2, .int x2), (3, .long x3)]) hx hb d_M_round_270 hl (k := 7) rfl rfl (by decide) rfl (fun ls hl => ?_)
                      refine lv_goto (tgt := 177) hx hb d_M_round_273 (by decide) ?_
                      exact ih_177 x1 x2 x3 (x5 + (-1)) ((x6 * 6364136223846793005) + 1442695040888963407) (x8 + 1) (u2 (u2 (u2 μ 28 (fM_byNumber ((((((x6 * 6364136223846793005) + 1442695040888963407).toUInt64 >>> ((33 : Int32).toInt64.toUInt64 &&& Int64.toUInt64 63)).toInt64) - ((((x6 * 6364136223846793005) + 1442695040888963407).toUInt64 >>> ((33 : Int32).toInt64.toUInt64 &&& Int64.toUInt64 63)).toInt64) / x5.toInt64 * x5.toInt64).toInt32) μ).toNatClampNeg (vp_nar .boolean 0)) 20 ((20 * (μ 16 0)) + x8).toNatClampNeg (fM_byNumber ((((((x6 * 6364136223846793005) + 1442695040888963407).toUInt64 >>> ((33 : Int32).toInt64.toUInt64 &&& Int64.toUInt64 63)).toInt64) - ((((x6 * 6364136223846793005) + 1442695040888963407).toUInt64 >>> ((33 : Int32).toInt64.toUInt64 &&& Int64.toUInt64 63)).toInt64) / x5.toInt64 * x5.toInt64).toInt32) μ)) 18 (μ 16 0).toNatClampNeg ((μ 18 (μ 16 0).toNatClampNeg) + 1)) H locs ls hw (lv_sub hl [4, 5, 6, 7, 1, 3, 0] rfl) hok hF
                    · have hok := hok.1 c_10
                      have hF := (if_pos c_10).symm.trans hF
                      refine lv_aload_n hx hb d_M_round_206 rfl (lv_at hl 1 rfl) ?_
                      obtain ⟨hi_17, hok⟩ := hok
                      refine cv_p (n := 0) (C := "CountRoundsModel") (b := a 0) (q0 := 0) (ci := 4) (As := []) (rest := []) h0 hw (cM_byRank l D tc a Y H.size μ hi_17 rfl) (gd_V wd_770 wd_772 (gw_s 25 rfl rfl) wd_3 wd_773) (by decide +kernel) ⟨rfl, rfl, Nat.le_of_ble_eq_true rfl, Nat.le_of_ble_eq_true rfl, Nat.le_of_ble_eq_true rfl, Nat.le_of_ble_eq_true rfl⟩ rfl rfl rfl hl.1 rfl (Nat.le_of_ble_eq_true rfl) d_M_round_207 ?_
                      refine lv_goto (tgt := 227) hx hb d_M_round_210 (by decide) ?_
                      refine lv_istore (lv' := [(9, .int (fM_byRank μ)), (6, .long ((x6 * 6364136223846793005) + 1442695040888963407)), (0, .ref (a 0)), (1, .int x1), (2, .int x2), (3, .long x3), (5, .int x5), (8, .int x8)]) hx hb d_M_round_227 hl (by decide) rfl (fun ls hl => ?_)
                      refine lv_aload_n hx hb d_M_round_229 rfl (lv_at hl 2 rfl) ?_
                      refine mg_28 h0 hw d_M_round_230 ?_
                      refine lv_iload hx hb d_M_round_233 (lv_at hl 0 rfl) ?_
                      refine lv_iconst (v := 0) hx hb d_M_round_235 (by decide) ?_
                      obtain ⟨hi_18, hok⟩ := hok
                      refine ms_28 h0 hw hi_18 d_M_round_236 (fun H locs hw => ?_)
                      refine lv_aload_n hx hb d_M_round_237 rfl (lv_at hl 2 rfl) ?_
                      refine mg_20 h0 hw d_M_round_238 ?_
                      refine lv_bipush (v := 20) hx hb d_M_round_241 (by decide) ?_
                      refine lv_aload_n hx hb d_M_round_243 rfl (lv_at hl 2 rfl) ?_
                      refine mg_16 h0 hw d_M_round_244 ?_
                      refine W.eq (g2 := F0 m 247 ls [.int (μ 16 0), .int 20, .ref (a 20)]) rfl ?_
                      refine lv_imul hx hb d_M_round_247 ?_
                      refine lv_iload hx hb d_M_round_248 (lv_at hl 7 rfl) ?_
                      refine lv_iadd hx hb d_M_round_250 ?_
                      refine lv_iload hx hb d_M_round_251 (lv_at hl 0 rfl) ?_
                      obtain ⟨hi_19, hok⟩ := hok
                      refine ms_20 h0 hw hi_19 d_M_round_253 (fun H locs hw => ?_)
                      refine lv_aload_n hx hb d_M_round_254 rfl (lv_at hl 2 rfl) ?_
                      refine mg_18 h0 hw d_M_round_255 ?_
                      refine lv_aload_n hx hb d_M_round_258 rfl (lv_at hl 2 rfl) ?_
                      refine mg_16 h0 hw d_M_round_259 ?_
                      refine W.eq (g2 := F0 m 262 ls [.int (μ 16 0), .ref (a 18)]) rfl ?_
                      refine lv_dup2_11 hx hb d_M_round_262 rfl rfl ?_
                      obtain ⟨hi_20, hok⟩ := hok
                      refine ml_18 h0 hw hi_20 d_M_round_263 ?_
                      refine W.eq (g2 := F0 m 264 ls [.int (μ 18 (μ 16 0).toNatClampNeg), .int (μ 16 0), .ref (a 18)]) rfl ?_
                      refine lv_iconst (v := 1) hx hb d_M_round_264 (by decide) ?_
                      refine lv_iadd hx hb d_M_round_265 ?_
                      obtain ⟨hi_21, hok⟩ := hok
                      refine ms_18 h0 hw hi_21 d_M_round_266 (fun H locs hw => ?_)
                      refine lv_iinc (v := x5 + (-1)) (lv' := [(5, .int (x5 + (-1))), (9, .int (fM_byRank μ)), (6, .long ((x6 * 6364136223846793005) + 1442695040888963407)), (0, .ref (a 0)), (1, .int x1), (2, .int x2), (3, .long x3), (8, .int x8)]) hx hb d_M_round_267 hl (k := 6) rfl rfl (by decide) rfl (fun ls hl => ?_)
                      refine lv_iinc (v := x8 + 1) (lv' := [(8, .int (x8 + 1)), (5, .int (x5 + (-1))), (9, .int (fM_byRank μ)), (6, .long ((x6 * 6364136223846793005) + 1442695040888963407)), (0, .ref (a 0)), (1, .int x1), (2, .int x2), (3, .long x3)]) hx hb d_M_round_270 hl (k := 7) rfl rfl (by decide) rfl (fun ls hl => ?_)
                      refine lv_goto (tgt := 177) hx hb d_M_round_273 (by decide) ?_
                      exact ih_177 x1 x2 x3 (x5 + (-1)) ((x6 * 6364136223846793005) + 1442695040888963407) (x8 + 1) (u2 (u2 (u2 μ 28 (fM_byRank μ).toNatClampNeg (vp_nar .boolean 0)) 20 ((20 * (μ 16 0)) + x8).toNatClampNeg (fM_byRank μ)) 18 (μ 16 0).toNatClampNeg ((μ 18 (μ 16 0).toNatClampNeg) + 1)) H locs ls hw (lv_sub hl [4, 5, 6, 7, 1, 3, 0] rfl) hok hF
            exact lp_177 200 x1 x2 x3 x5 x3 0 (u2 (u2 (u2 μ 0 0 0) 16 0 ((μ 16 0) + 1)) 17 ((μ 16 0) + 1).toNatClampNeg 0) H locs ls hw (lv_sub hl [2, 3, 4, 5, 6, 1, 0] rfl) hok hF
          · have hok := hok.1 c_6
            have hF := (if_pos c_6).symm.trans hF
            refine lv_iconst (v := 3) hx hb d_M_round_134 (by decide) ?_
            refine lv_goto (tgt := 139) hx hb d_M_round_135 (by decide) ?_
            refine mp_0 h0 hw d_M_round_139 (fun H locs hw => ?_)
            refine lv_aload_n hx hb d_M_round_142 rfl (lv_at hl 0 rfl) ?_
            refine mg_0 h0 hw d_M_round_143 ?_
            refine W.eq (g2 := F0 m 146 ls [.int 3]) rfl ?_
            refine lv_if_le (tgt := 151) hx hb d_M_round_146 (by decide) (fun c_0 => absurd c_0 (by decide)) (fun _ => ?_)
            refine lv_iconst (v := 0) hx hb d_M_round_149 (by decide) ?_
            exact rt_i h0 hw hr hlocks rfl (u2 μ 0 0 3) hF rfl d_M_round_150 (Nat.le_refl 0) (Nat.le_refl 0)
        · have hok := hok.1 c_5
          have hF := (if_pos c_5).symm.trans hF
          refine lv_iconst (v := 2) hx hb d_M_round_121 (by decide) ?_
          refine lv_goto (tgt := 139) hx hb d_M_round_122 (by decide) ?_
          refine mp_0 h0 hw d_M_round_139 (fun H locs hw => ?_)
          refine lv_aload_n hx hb d_M_round_142 rfl (lv_at hl 0 rfl) ?_
          refine mg_0 h0 hw d_M_round_143 ?_
          refine W.eq (g2 := F0 m 146 ls [.int 2]) rfl ?_
          refine lv_if_le (tgt := 151) hx hb d_M_round_146 (by decide) (fun c_0 => absurd c_0 (by decide)) (fun _ => ?_)
          refine lv_iconst (v := 0) hx hb d_M_round_149 (by decide) ?_
          exact rt_i h0 hw hr hlocks rfl (u2 μ 0 0 2) hF rfl d_M_round_150 (Nat.le_refl 0) (Nat.le_refl 0)
      have lp_43 : ∀ (n43 : Nat) (x1 : Int32) (x2 : Int32) (x3 : Int64) (x5 : Int32) (x6 : Int32) (μ : Nat → Nat → Int32) (H : Heap) (locs : List Loc) (ls : Array Slot), wH D A s.heap (mo tc a μ ++ Y) H locs → lv_has ls 10 [(0, .ref (a 0)), (1, .int x1), (2, .int x2), (3, .long x3), (5, .int x5), (6, .int x6)] → kM_round_43 kM_round_43x n43 x1 x2 x3 x5 x6 μ → fM_round_43 fM_round_43x n43 x1 x2 x3 x5 x6 μ = F → W p l e ({ frames := 1, cells := 0, slots := 0, locals := 23 } : Room) s m args below meth c H locs 0 0 (MQ below (va_Qi (fun r u => (r, u) = F) (fun u t => qW D tc A (mo tc a u ++ Y) t) A) args s 0 0 A) (F0 m 43 ls []) := by
        intro n43
        induction n43 with
        | zero =>
          intro x1 x2 x3 x5 x6 μ H locs ls hw hl hok hF
          unfold kM_round_43 at hok
          exact hok.elim
        | succ n43 ih_43 =>
          intro x1 x2 x3 x5 x6 μ H locs ls hw hl hok hF
          unfold kM_round_43 at hok
          unfold fM_round_43 at hF
          refine lv_iload hx hb d_M_round_43 (lv_at hl 5 rfl) ?_
          refine lv_aload_n hx hb d_M_round_45 rfl (lv_at hl 0 rfl) ?_
          refine mg_3 h0 hw d_M_round_46 ?_
          refine lv_icmp_ge (tgt := 115) hx hb d_M_round_49 (by decide) (fun c_22 => ?_) (fun c_22 => ?_)
          · have hok := hok.1 c_22
            have hF := (if_pos c_22).symm.trans hF
            exact hx_43 x1 x2 x3 x5 x6 μ H locs ls hw (lv_sub hl [0, 1, 2, 3, 4, 5] rfl) hok hF
          · have hok := hok.2 c_22
            have hF := (if_neg c_22).symm.trans hF
            refine lv_aload_n hx hb d_M_round_52 rfl (lv_at hl 0 rfl) ?_
            refine mg_28 h0 hw d_M_round_53 ?_
            refine lv_iload hx hb d_M_round_56 (lv_at hl 5 rfl) ?_
            refine lv_iload_n hx hb d_M_round_58 rfl (lv_at hl 1 rfl) ?_
            refine lv_iconst (v := (-1)) hx hb d_M_round_59 (by decide) ?_
            refine lv_icmp_eq (tgt := 74) hx hb d_M_round_60 (by decide) (fun c_23 => ?_) (fun c_23 => ?_)
            · have hok := hok.1 c_23
              have hF := (if_pos c_23).symm.trans hF
              refine lv_aload_n hx hb d_M_round_74 rfl (lv_at hl 0 rfl) ?_
              refine lv_iload hx hb d_M_round_75 (lv_at hl 5 rfl) ?_
              obtain ⟨hi_24, hok⟩ := hok
              refine cv_p (n := 1) (C := "CountRoundsModel") (b := a 0) (q0 := 0) (ci := 4) (As := [.int x6]) (rest := [.int x6, .ref (a 28)]) h0 hw (cM_isBusy l D tc a Y H.size x6 μ hi_24 rfl) (gd_V wd_764 wd_766 (gw_s 24 rfl rfl) wd_3 wd_767) (by decide +kernel) ⟨rfl, rfl, Nat.le_of_ble_eq_true rfl, Nat.le_of_ble_eq_true rfl, Nat.le_of_ble_eq_true rfl, Nat.le_of_ble_eq_true rfl⟩ rfl rfl rfl hl.1 rfl (Nat.le_of_ble_eq_true rfl) d_M_round_77 ?_
              refine lv_if_ne (tgt := 87) hx hb d_M_round_80 (by decide) (fun c_25 => ?_) (fun c_25 => ?_)
              · have hok := hok.2 c_25
                have hF := (if_neg c_25).symm.trans hF
                refine lv_iconst (v := 0) hx hb d_M_round_87 (by decide) ?_
                obtain ⟨hi_26, hok⟩ := hok
                refine ms_28 h0 hw hi_26 d_M_round_88 (fun H locs hw => ?_)
                refine lv_iload hx hb d_M_round_89 (lv_at hl 4 rfl) ?_
                refine lv_aload_n hx hb d_M_round_91 rfl (lv_at hl 0 rfl) ?_
                refine mg_28 h0 hw d_M_round_92 ?_
                refine lv_iload hx hb d_M_round_95 (lv_at hl 5 rfl) ?_
                obtain ⟨hi_27, hok⟩ := hok
                refine ml_28 h0 hw hi_27 d_M_round_97 ?_
                refine lv_if_eq (tgt := 105) hx hb d_M_round_98 (by decide) (fun c_28 => ?_) (fun c_28 => ?_)
                · have hok := hok.1 c_28
                  have hF := (if_pos c_28).symm.trans hF
                  refine lv_iconst (v := 0) hx hb d_M_round_105 (by decide) ?_
                  refine lv_iadd hx hb d_M_round_106 ?_
                  refine lv_istore (lv' := [(5, .int (x5 + 0)), (0, .ref (a 0)), (1, .int x1), (2, .int x2), (3, .long x3), (6, .int x6)]) hx hb d_M_round_107 hl (by decide) rfl (fun ls hl => ?_)
                  refine lv_iinc (v := x6 + 1) (lv' := [(6, .int (x6 + 1)), (5, .int (x5 + 0)), (0, .ref (a 0)), (1, .int x1), (2, .int x2), (3, .long x3)]) hx hb d_M_round_109 hl (k := 5) rfl rfl (by decide) rfl (fun ls hl => ?_)
                  refine lv_goto (tgt := 43) hx hb d_M_round_112 (by decide) ?_
                  exact ih_43 x1 x2 x3 (x5 + 0) (x6 + 1) (u2 μ 28 x6.toNatClampNeg (vp_nar .boolean 0)) H locs ls hw (lv_sub hl [2, 3, 4, 5, 1, 0] rfl) hok hF
                · have hok := hok.2 c_28
                  have hF := (if_neg c_28).symm.trans hF
                  refine lv_iconst (v := 1) hx hb d_M_round_101 (by decide) ?_
                  refine lv_goto (tgt := 106) hx hb d_M_round_102 (by decide) ?_
                  refine lv_iadd hx hb d_M_round_106 ?_
                  refine lv_istore (lv' := [(5, .int (x5 + 1)), (0, .ref (a 0)), (1, .int x1), (2, .int x2), (3, .long x3), (6, .int x6)]) hx hb d_M_round_107 hl (by decide) rfl (fun ls hl => ?_)
                  refine lv_iinc (v := x6 + 1) (lv' := [(6, .int (x6 + 1)), (5, .int (x5 + 1)), (0, .ref (a 0)), (1, .int x1), (2, .int x2), (3, .long x3)]) hx hb d_M_round_109 hl (k := 5) rfl rfl (by decide) rfl (fun ls hl => ?_)
                  refine lv_goto (tgt := 43) hx hb d_M_round_112 (by decide) ?_
                  exact ih_43 x1 x2 x3 (x5 + 1) (x6 + 1) (u2 μ 28 x6.toNatClampNeg (vp_nar .boolean 0)) H locs ls hw (lv_sub hl [2, 3, 4, 5, 1, 0] rfl) hok hF
              · have hok := hok.1 c_25
                have hF := (if_pos c_25).symm.trans hF
                refine lv_iconst (v := 1) hx hb d_M_round_83 (by decide) ?_
                refine lv_goto (tgt := 88) hx hb d_M_round_84 (by decide) ?_
                obtain ⟨hi_29, hok⟩ := hok
                refine ms_28 h0 hw hi_29 d_M_round_88 (fun H locs hw => ?_)
                refine lv_iload hx hb d_M_round_89 (lv_at hl 4 rfl) ?_
                refine lv_aload_n hx hb d_M_round_91 rfl (lv_at hl 0 rfl) ?_
                refine mg_28 h0 hw d_M_round_92 ?_
                refine lv_iload hx hb d_M_round_95 (lv_at hl 5 rfl) ?_
                obtain ⟨hi_30, hok⟩ := hok
                refine ml_28 h0 hw hi_30 d_M_round_97 ?_
                refine lv_if_eq (tgt := 105) hx hb d_M_round_98 (by decide) (fun c_31 => ?_) (fun c_31 => ?_)
                · have hok := hok.1 c_31
                  have hF := (if_pos c_31).symm.trans hF
                  refine lv_iconst (v := 0) hx hb d_M_round_105 (by decide) ?_
                  refine lv_iadd hx hb d_M_round_106 ?_
                  refine lv_istore (lv' := [(5, .int (x5 + 0)), (0, .ref (a 0)), (1, .int x1), (2, .int x2), (3, .long x3), (6, .int x6)]) hx hb d_M_round_107 hl (by decide) rfl (fun ls hl => ?_)
                  refine lv_iinc (v := x6 + 1) (lv' := [(6, .int (x6 + 1)), (5, .int (x5 + 0)), (0, .ref (a 0)), (1, .int x1), (2, .int x2), (3, .long x3)]) hx hb d_M_round_109 hl (k := 5) rfl rfl (by decide) rfl (fun ls hl => ?_)
                  refine lv_goto (tgt := 43) hx hb d_M_round_112 (by decide) ?_
                  exact ih_43 x1 x2 x3 (x5 + 0) (x6 + 1) (u2 μ 28 x6.toNatClampNeg (vp_nar .boolean 1)) H locs ls hw (lv_sub hl [2, 3, 4, 5, 1, 0] rfl) hok hF
                · have hok := hok.2 c_31
                  have hF := (if_neg c_31).symm.trans hF
                  refine lv_iconst (v := 1) hx hb d_M_round_101 (by decide) ?_
                  refine lv_goto (tgt := 106) hx hb d_M_round_102 (by decide) ?_
                  refine lv_iadd hx hb d_M_round_106 ?_
                  refine lv_istore (lv' := [(5, .int (x5 + 1)), (0, .ref (a 0)), (1, .int x1), (2, .int x2), (3, .long x3), (6, .int x6)]) hx hb d_M_round_107 hl (by decide) rfl (fun ls hl => ?_)
                  refine lv_iinc (v := x6 + 1) (lv' := [(6, .int (x6 + 1)), (5, .int (x5 + 1)), (0, .ref (a 0)), (1, .int x1), (2, .int x2), (3, .long x3)]) hx hb d_M_round_109 hl (k := 5) rfl rfl (by decide) rfl (fun ls hl => ?_)
                  refine lv_goto (tgt := 43) hx hb d_M_round_112 (by decide) ?_
                  exact ih_43 x1 x2 x3 (x5 + 1) (x6 + 1) (u2 μ 28 x6.toNatClampNeg (vp_nar .boolean 1)) H locs ls hw (lv_sub hl [2, 3, 4, 5, 1, 0] rfl) hok hF
            · have hok := hok.2 c_23
              have hF := (if_neg c_23).symm.trans hF
              refine lv_aload_n hx hb d_M_round_63 rfl (lv_at hl 0 rfl) ?_
              refine mg_4 h0 hw d_M_round_64 ?_
              refine lv_iload hx hb d_M_round_67 (lv_at hl 5 rfl) ?_
              obtain ⟨hi_32, hok⟩ := hok
              refine ml_4 h0 hw hi_32 d_M_round_69 ?_
              refine lv_iload_n hx hb d_M_round_70 rfl (lv_at hl 1 rfl) ?_
              refine lv_icmp_ne (tgt := 87) hx hb d_M_round_71 (by decide) (fun c_33 => ?_) (fun c_33 => ?_)
              · have hok := hok.2 c_33
                have hF := (if_neg c_33).symm.trans hF
                refine lv_iconst (v := 0) hx hb d_M_round_87 (by decide) ?_
                obtain ⟨hi_34, hok⟩ := hok
                refine ms_28 h0 hw hi_34 d_M_round_88 (fun H locs hw => ?_)
                refine lv_iload hx hb d_M_round_89 (lv_at hl 4 rfl) ?_
                refine lv_aload_n hx hb d_M_round_91 rfl (lv_at hl 0 rfl) ?_
                refine mg_28 h0 hw d_M_round_92 ?_
                refine lv_iload hx hb d_M_round_95 (lv_at hl 5 rfl) ?_
                obtain ⟨hi_35, hok⟩ := hok
                refine ml_28 h0 hw hi_35 d_M_round_97 ?_
                refine lv_if_eq (tgt := 105) hx hb d_M_round_98 (by decide) (fun c_36 => ?_) (fun c_36 => ?_)
                · have hok := hok.1 c_36
                  have hF := (if_pos c_36).symm.trans hF
                  refine lv_iconst (v := 0) hx hb d_M_round_105 (by decide) ?_
                  refine lv_iadd hx hb d_M_round_106 ?_
                  refine lv_istore (lv' := [(5, .int (x5 + 0)), (0, .ref (a 0)), (1, .int x1), (2, .int x2), (3, .long x3), (6, .int x6)]) hx hb d_M_round_107 hl (by decide) rfl (fun ls hl => ?_)
                  refine lv_iinc (v := x6 + 1) (lv' := [(6, .int (x6 + 1)), (5, .int (x5 + 0)), (0, .ref (a 0)), (1, .int x1), (2, .int x2), (3, .long x3)]) hx hb d_M_round_109 hl (k := 5) rfl rfl (by decide) rfl (fun ls hl => ?_)
                  refine lv_goto (tgt := 43) hx hb d_M_round_112 (by decide) ?_
                  exact ih_43 x1 x2 x3 (x5 + 0) (x6 + 1) (u2 μ 28 x6.toNatClampNeg (vp_nar .boolean 0)) H locs ls hw (lv_sub hl [2, 3, 4, 5, 1, 0] rfl) hok hF
                · have hok := hok.2 c_36
                  have hF := (if_neg c_36).symm.trans hF
                  refine lv_iconst (v := 1) hx hb d_M_round_101 (by decide) ?_
                  refine lv_goto (tgt := 106) hx hb d_M_round_102 (by decide) ?_
                  refine lv_iadd hx hb d_M_round_106 ?_
                  refine lv_istore (lv' := [(5, .int (x5 + 1)), (0, .ref (a 0)), (1, .int x1), (2, .int x2), (3, .long x3), (6, .int x6)]) hx hb d_M_round_107 hl (by decide) rfl (fun ls hl => ?_)
                  refine lv_iinc (v := x6 + 1) (lv' := [(6, .int (x6 + 1)), (5, .int (x5 + 1)), (0, .ref (a 0)), (1, .int x1), (2, .int x2), (3, .long x3)]) hx hb d_M_round_109 hl (k := 5) rfl rfl (by decide) rfl (fun ls hl => ?_)
                  refine lv_goto (tgt := 43) hx hb d_M_round_112 (by decide) ?_
                  exact ih_43 x1 x2 x3 (x5 + 1) (x6 + 1) (u2 μ 28 x6.toNatClampNeg (vp_nar .boolean 0)) H locs ls hw (lv_sub hl [2, 3, 4, 5, 1, 0] rfl) hok hF
              · have hok := hok.1 c_33
                have hF := (if_pos c_33).symm.trans hF
                refine lv_aload_n hx hb d_M_round_74 rfl (lv_at hl 0 rfl) ?_
                refine lv_iload hx hb d_M_round_75 (lv_at hl 5 rfl) ?_
                obtain ⟨hi_37, hok⟩ := hok
                refine cv_p (n := 1) (C := "CountRoundsModel") (b := a 0) (q0 := 0) (ci := 4) (As := [.int x6]) (rest := [.int x6, .ref (a 28)]) h0 hw (cM_isBusy l D tc a Y H.size x6 μ hi_37 rfl) (gd_V wd_764 wd_766 (gw_s 24 rfl rfl) wd_3 wd_767) (by decide +kernel) ⟨rfl, rfl, Nat.le_of_ble_eq_true rfl, Nat.le_of_ble_eq_true rfl, Nat.le_of_ble_eq_true rfl, Nat.le_of_ble_eq_true rfl⟩ rfl rfl rfl hl.1 rfl (Nat.le_of_ble_eq_true rfl) d_M_round_77 ?_
                refine lv_if_ne (tgt := 87) hx hb d_M_round_80 (by decide) (fun c_38 => ?_) (fun c_38 => ?_)
                · have hok := hok.2 c_38
                  have hF := (if_neg c_38).symm.trans hF
                  refine lv_iconst (v := 0) hx hb d_M_round_87 (by decide) ?_
                  obtain ⟨hi_39, hok⟩ := hok
                  refine ms_28 h0 hw hi_39 d_M_round_88 (fun H locs hw => ?_)
                  refine lv_iload hx hb d_M_round_89 (lv_at hl 4 rfl) ?_
                  refine lv_aload_n hx hb d_M_round_91 rfl (lv_at hl 0 rfl) ?_
                  refine mg_28 h0 hw d_M_round_92 ?_
                  refine lv_iload hx hb d_M_round_95 (lv_at hl 5 rfl) ?_
                  obtain ⟨hi_40, hok⟩ := hok
                  refine ml_28 h0 hw hi_40 d_M_round_97 ?_
                  refine lv_if_eq (tgt := 105) hx hb d_M_round_98 (by decide) (fun c_41 => ?_) (fun c_41 => ?_)
                  · have hok := hok.1 c_41
                    have hF := (if_pos c_41).symm.trans hF
                    refine lv_iconst (v := 0) hx hb d_M_round_105 (by decide) ?_
                    refine lv_iadd hx hb d_M_round_106 ?_
                    refine lv_istore (lv' := [(5, .int (x5 + 0)), (0, .ref (a 0)), (1, .int x1), (2, .int x2), (3, .long x3), (6, .int x6)]) hx hb d_M_round_107 hl (by decide) rfl (fun ls hl => ?_)
                    refine lv_iinc (v := x6 + 1) (lv' := [(6, .int (x6 + 1)), (5, .int (x5 + 0)), (0, .ref (a 0)), (1, .int x1), (2, .int x2), (3, .long x3)]) hx hb d_M_round_109 hl (k := 5) rfl rfl (by decide) rfl (fun ls hl => ?_)
                    refine lv_goto (tgt := 43) hx hb d_M_round_112 (by decide) ?_
                    exact ih_43 x1 x2 x3 (x5 + 0) (x6 + 1) (u2 μ 28 x6.toNatClampNeg (vp_nar .boolean 0)) H locs ls hw (lv_sub hl [2, 3, 4, 5, 1, 0] rfl) hok hF
                  · have hok := hok.2 c_41
                    have hF := (if_neg c_41).symm.trans hF
                    refine lv_iconst (v := 1) hx hb d_M_round_101 (by decide) ?_
                    refine lv_goto (tgt := 106) hx hb d_M_round_102 (by decide) ?_
                    refine lv_iadd hx hb d_M_round_106 ?_
                    refine lv_istore (lv' := [(5, .int (x5 + 1)), (0, .ref (a 0)), (1, .int x1), (2, .int x2), (3, .long x3), (6, .int x6)]) hx hb d_M_round_107 hl (by decide) rfl (fun ls hl => ?_)
                    refine lv_iinc (v := x6 + 1) (lv' := [(6, .int (x6 + 1)), (5, .int (x5 + 1)), (0, .ref (a 0)), (1, .int x1), (2, .int x2), (3, .long x3)]) hx hb d_M_round_109 hl (k := 5) rfl rfl (by decide) rfl (fun ls hl => ?_)
                    refine lv_goto (tgt := 43) hx hb d_M_round_112 (by decide) ?_
                    exact ih_43 x1 x2 x3 (x5 + 1) (x6 + 1) (u2 μ 28 x6.toNatClampNeg (vp_nar .boolean 0)) H locs ls hw (lv_sub hl [2, 3, 4, 5, 1, 0] rfl) hok hF
                · have hok := hok.1 c_38
                  have hF := (if_pos c_38).symm.trans hF
                  refine lv_iconst (v := 1) hx hb d_M_round_83 (by decide) ?_
                  refine lv_goto (tgt := 88) hx hb d_M_round_84 (by decide) ?_
                  obtain ⟨hi_42, hok⟩ := hok
                  refine ms_28 h0 hw hi_42 d_M_round_88 (fun H locs hw => ?_)
                  refine lv_iload hx hb d_M_round_89 (lv_at hl 4 rfl) ?_
                  refine lv_aload_n hx hb d_M_round_91 rfl (lv_at hl 0 rfl) ?_
                  refine mg_28 h0 hw d_M_round_92 ?_
                  refine lv_iload hx hb d_M_round_95 (lv_at hl 5 rfl) ?_
                  obtain ⟨hi_43, hok⟩ := hok
                  refine ml_28 h0 hw hi_43 d_M_round_97 ?_
                  refine lv_if_eq (tgt := 105) hx hb d_M_round_98 (by decide) (fun c_44 => ?_) (fun c_44 => ?_)
                  · have hok := hok.1 c_44
                    have hF := (if_pos c_44).symm.trans hF
                    refine lv_iconst (v := 0) hx hb d_M_round_105 (by decide) ?_
                    refine lv_iadd hx hb d_M_round_106 ?_
                    refine lv_istore (lv' := [(5, .int (x5 + 0)), (0, .ref (a 0)), (1, .int x1), (2, .int x2), (3, .long x3), (6, .int x6)]) hx hb d_M_round_107 hl (by decide) rfl (fun ls hl => ?_)
                    refine lv_iinc (v := x6 + 1) (lv' := [(6, .int (x6 + 1)), (5, .int (x5 + 0)), (0, .ref (a 0)), (1, .int x1), (2, .int x2), (3, .long x3)]) hx hb d_M_round_109 hl (k := 5) rfl rfl (by decide) rfl (fun ls hl => ?_)
                    refine lv_goto (tgt := 43) hx hb d_M_round_112 (by decide) ?_
                    exact ih_43 x1 x2 x3 (x5 + 0) (x6 + 1) (u2 μ 28 x6.toNatClampNeg (vp_nar .boolean 1)) H locs ls hw (lv_sub hl [2, 3, 4, 5, 1, 0] rfl) hok hF
                  · have hok := hok.2 c_44
                    have hF := (if_neg c_44).symm.trans hF
                    refine lv_iconst (v := 1) hx hb d_M_round_101 (by decide) ?_
                    refine lv_goto (tgt := 106) hx hb d_M_round_102 (by decide) ?_
                    refine lv_iadd hx hb d_M_round_106 ?_
                    refine lv_istore (lv' := [(5, .int (x5 + 1)), (0, .ref (a 0)), (1, .int x1), (2, .int x2), (3, .long x3), (6, .int x6)]) hx hb d_M_round_107 hl (by decide) rfl (fun ls hl => ?_)
                    refine lv_iinc (v := x6 + 1) (lv' := [(6, .int (x6 + 1)), (5, .int (x5 + 1)), (0, .ref (a 0)), (1, .int x1), (2, .int x2), (3, .long x3)]) hx hb d_M_round_109 hl (k := 5) rfl rfl (by decide) rfl (fun ls hl => ?_)
                    refine lv_goto (tgt := 43) hx hb d_M_round_112 (by decide) ?_
                    exact ih_43 x1 x2 x3 (x5 + 1) (x6 + 1) (u2 μ 28 x6.toNatClampNeg (vp_nar .boolean 1)) H locs ls hw (lv_sub hl [2, 3, 4, 5, 1, 0] rfl) hok hF
      exact lp_43 200 x1 x2 x3 0 0 (u2 μ 0 0 0) H locs ls hw (lv_sub hl [2, 3, 4, 5, 1, 0] rfl) hok hF
    · have hok := hok.1 c_4
      have hF := (if_pos c_4).symm.trans hF
      refine lv_iconst (v := 1) hx hb d_M_round_20 (by decide) ?_
      refine lv_goto (tgt := 25) hx hb d_M_round_21 (by decide) ?_
      refine mp_0 h0 hw d_M_round_25 (fun H locs hw => ?_)
      refine lv_aload_n hx hb d_M_round_28 rfl (lv_at hl 0 rfl) ?_
      refine mg_0 h0 hw d_M_round_29 ?_
      refine W.eq (g2 := F0 m 32 ls [.int 1]) rfl ?_
      refine lv_if_le (tgt := 37) hx hb d_M_round_32 (by decide) (fun c_0 => absurd c_0 (by decide)) (fun _ => ?_)
      refine lv_iconst (v := 0) hx hb d_M_round_35 (by decide) ?_
      exact rt_i h0 hw hr hlocks rfl (u2 μ 0 0 1) hF rfl d_M_round_36 (Nat.le_refl 0) (Nat.le_refl 0)
set_option maxHeartbeats 4000000 in
set_option maxRecDepth 100000 in
theorem cM_freeze (l : Launch) (D : va_G) (tc : Nat → ClassId) (a : Nat → Nat) (Y : va_W) (sz : Nat) (x1 : Int32) (μ : Nat → Nat → Int32) {F : Int32 × (Nat → Nat → Int32)} (hok : kM_freeze x1 μ) (hF : fM_freeze x1 μ = F) : Met l y_M_freeze (Cond.code y_M_freeze b_M_freeze 6 (some .int) :: gw) ({ frames := 2, cells := 0, slots := 0, locals := 43 } : Room) (va_Pc [.ref (a 0), .int x1] (pW D tc (mo tc a μ ++ Y) sz)) (va_Qi (fun r u => (r, u) = F) (fun u t => qW D tc (va_A (mo tc a μ ++ Y) sz) (mo tc a u ++ Y) t) (va_A (mo tc a μ ++ Y) sz)) 0 0 (va_A (mo tc a μ ++ Y) sz) := by
  refine en_W (by decide) (Nat.le_of_ble_eq_true rfl) ?_
  intro p e s m args below meth c ls h0 hr hlocks hin hsz hw hl
  obtain ⟨hx, hb, hml, hown, hts, hK⟩ := id h0
  have hA : ∀ q : Nat, s.heap.size ≤ q → (va_A (mo tc a μ ++ Y) sz) q := fun q h => Or.inr (by rw [← hsz]; exact h)
  generalize va_A (mo tc a μ ++ Y) sz = A at hw hA ⊢
  obtain ⟨H, eH⟩ : ∃ z, z = s.heap := ⟨_, rfl⟩
  obtain ⟨locs, eL⟩ : ∃ z : List Loc, z = [] := ⟨_, rfl⟩
  have hw : wH D A s.heap (mo tc a μ ++ Y) H locs := by rw [eH, eL]; exact hw
  show W p l e _ s m _ below meth c s.heap [] 0 0 _ _
  have gl : W p l e ({ frames := 2, cells := 0, slots := 0, locals := 43 } : Room) s m args below meth c H locs 0 0 (MQ below (va_Qi (fun r u => (r, u) = F) (fun u t => qW D tc A (mo tc a u ++ Y) t) A) args s 0 0 A) (F0 m 0 ls []) := ?_
  · rw [eH, eL] at gl; exact gl
  have hl : lv_has ls 6 [(0, .ref (a 0)), (1, .int x1)] := hl
  unfold kM_freeze at hok
  unfold fM_freeze at hF
  refine lv_aload_n hx hb d_M_freeze_0 rfl (lv_at hl 0 rfl) ?_
  refine lv_aload_n hx hb d_M_freeze_1 rfl (lv_at hl 0 rfl) ?_
  refine lv_iload_n hx hb d_M_freeze_2 rfl (lv_at hl 1 rfl) ?_
  obtain ⟨hi_1, hok⟩ := hok
  refine cv_p (n := 1) (C := "CountRoundsModel") (b := a 0) (q0 := 0) (ci := 4) (As := [.int x1]) (rest := [.ref (a 0)]) h0 hw (cM_isCount l D tc a Y H.size x1 μ hi_1 rfl) (gd_V wd_782 wd_784 (gw_s 27 rfl rfl) wd_3 wd_785) (by decide +kernel) ⟨rfl, rfl, Nat.le_of_ble_eq_true rfl, Nat.le_of_ble_eq_true rfl, Nat.le_of_ble_eq_true rfl, Nat.le_of_ble_eq_true rfl⟩ rfl rfl rfl hl.1 rfl (Nat.le_of_ble_eq_true rfl) d_M_freeze_3 ?_
  refine lv_if_ne (tgt := 13) hx hb d_M_freeze_6 (by decide) (fun c_2 => ?_) (fun c_2 => ?_)
  · have hok := hok.2 c_2
    have hF := (if_neg c_2).symm.trans hF
    refine lv_iconst (v := 0) hx hb d_M_freeze_13 (by decide) ?_
    refine mp_0 h0 hw d_M_freeze_14 (fun H locs hw => ?_)
    refine lv_aload_n hx hb d_M_freeze_17 rfl (lv_at hl 0 rfl) ?_
    refine mg_0 h0 hw d_M_freeze_18 ?_
    refine W.eq (g2 := F0 m 21 ls [.int 0]) rfl ?_
    refine lv_if_ne (tgt := 42) hx hb d_M_freeze_21 (by decide) (fun c_0 => absurd c_0 (by decide)) (fun _ => ?_)
    refine lv_aload_n hx hb d_M_freeze_24 rfl (lv_at hl 0 rfl) ?_
    refine lv_aload_n hx hb d_M_freeze_25 rfl (lv_at hl 0 rfl) ?_
    refine mg_17 h0 hw d_M_freeze_26 ?_
    refine lv_iload_n hx hb d_M_freeze_29 rfl (lv_at hl 1 rfl) ?_
    obtain ⟨hi_3, hok⟩ := hok
    refine ml_17 h0 hw hi_3 d_M_freeze_30 ?_
    refine W.eq (g2 := F0 m 31 ls [.int (μ 17 x1.toNatClampNeg), .ref (a 0)]) rfl ?_
    refine lv_if_eq (tgt := 38) hx hb d_M_freeze_31 (by decide) (fun c_4 => ?_) (fun c_4 => ?_)
    · have hok := hok.1 c_4
      have hF := (if_pos c_4).symm.trans hF
      refine lv_iconst (v := 0) hx hb d_M_freeze_38 (by decide) ?_
      refine mp_0 h0 hw d_M_freeze_39 (fun H locs hw => ?_)
      refine lv_aload_n hx hb d_M_freeze_42 rfl (lv_at hl 0 rfl) ?_
      refine mg_0 h0 hw d_M_freeze_43 ?_
      refine W.eq (g2 := F0 m 46 ls [.int 0]) rfl ?_
      refine lv_if_le (tgt := 51) hx hb d_M_freeze_46 (by decide) (fun _ => ?_) (fun c_0 => absurd c_0 (by decide))
      refine lv_iconst (v := 0) hx hb d_M_freeze_51 (by decide) ?_
      refine lv_istore_n (lv' := [(2, .int 0), (0, .ref (a 0)), (1, .int x1)]) hx hb d_M_freeze_52 rfl hl (by decide) rfl (fun ls hl => ?_)
      have hx_53 : ∀ (x1 : Int32) (x2 : Int32) (μ : Nat → Nat → Int32) (H : Heap) (locs : List Loc) (ls : Array Slot), wH D A s.heap (mo tc a μ ++ Y) H locs → lv_has ls 6 [(0, .ref (a 0)), (1, .int x1), (2, .int x2)] → kM_freeze_53x x1 x2 μ → fM_freeze_53x x1 x2 μ = F → W p l e ({ frames := 2, cells := 0, slots := 0, locals := 43 } : Room) s m args below meth c H locs 0 0 (MQ below (va_Qi (fun r u => (r, u) = F) (fun u t => qW D tc A (mo tc a u ++ Y) t) A) args s 0 0 A) (F0 m 96 ls []) := by
        intro x1 x2 μ H locs ls hw hl hok hF
        unfold kM_freeze_53x at hok
        unfold fM_freeze_53x at hF
        refine lv_aload_n hx hb d_M_freeze_96 rfl (lv_at hl 0 rfl) ?_
        refine mg_17 h0 hw d_M_freeze_97 ?_
        refine lv_iload_n hx hb d_M_freeze_100 rfl (lv_at hl 1 rfl) ?_
        refine lv_iconst (v := 1) hx hb d_M_freeze_101 (by decide) ?_
        obtain ⟨hi_5, hok⟩ := hok
        refine ms_17 h0 hw hi_5 d_M_freeze_102 (fun H locs hw => ?_)
        refine lv_iconst (v := 0) hx hb d_M_freeze_103 (by decide) ?_
        refine lv_istore_n (lv' := [(2, .int 0), (0, .ref (a 0)), (1, .int x1)]) hx hb d_M_freeze_104 rfl hl (by decide) rfl (fun ls hl => ?_)
        have hx_105 : ∀ (x1 : Int32) (x2 : Int32) (μ : Nat → Nat → Int32) (H : Heap) (locs : List Loc) (ls : Array Slot), wH D A s.heap (mo tc a μ ++ Y) H locs → lv_has ls 6 [(0, .ref (a 0)), (1, .int x1), (2, .int x2)] → kM_freeze_105x x1 x2 μ → fM_freeze_105x x1 x2 μ = F → W p l e ({ frames := 2, cells := 0, slots := 0, locals := 43 } : Room) s m args below meth c H locs 0 0 (MQ below (va_Qi (fun r u => (r, u) = F) (fun u t => qW D tc A (mo tc a u ++ Y) t) A) args s 0 0 A) (F0 m 200 ls []) := by
          intro x1 x2 μ H locs ls hw hl hok hF
          unfold kM_freeze_105x at hok
          unfold fM_freeze_105x at hF
          refine lv_aload_n hx hb d_M_freeze_200 rfl (lv_at hl 0 rfl) ?_
          refine mg_18 h0 hw d_M_freeze_201 ?_
          refine lv_iload_n hx hb d_M_freeze_204 rfl (lv_at hl 1 rfl) ?_
          obtain ⟨hi_6, hok⟩ := hok
          refine ml_18 h0 hw hi_6 d_M_freeze_205 ?_
          exact rt_i h0 hw hr hlocks rfl μ hF rfl d_M_freeze_206 (Nat.le_refl 0) (Nat.le_refl 0)
        have lp_105 : ∀ (n105 : Nat) (x1 : Int32) (x2 : Int32) (μ : Nat → Nat → Int32) (H : Heap) (locs : List Loc) (ls : Array Slot), wH D A s.heap (mo tc a μ ++ Y) H locs → lv_has ls 6 [(0, .ref (a 0)), (1, .int x1), (2, .int x2)] → kM_freeze_105 kM_freeze_105x n105 x1 x2 μ → fM_freeze_105 fM_freeze_105x n105 x1 x2 μ = F → W p l e ({ frames := 2, cells := 0, slots := 0, locals := 43 } : Room) s m args below meth c H locs 0 0 (MQ below (va_Qi (fun r u => (r, u) = F) (fun u t => qW D tc A (mo tc a u ++ Y) t) A) args s 0 0 A) (F0 m 105 ls []) := by
          intro n105
          induction n105 with
          | zero =>
            intro x1 x2 μ H locs ls hw hl hok hF
            unfold kM_freeze_105 at hok
            exact hok.elim
          | succ n105 ih_105 =>
            intro x1 x2 μ H locs ls hw hl hok hF
            unfold kM_freeze_105 at hok
            unfold fM_freeze_105 at hF
            refine lv_iload_n hx hb d_M_freeze_105 rfl (lv_at hl 2 rfl) ?_
            refine lv_aload_n hx hb d_M_freeze_106 rfl (lv_at hl 0 rfl) ?_
            refine mg_18 h0 hw d_M_freeze_107 ?_
            refine lv_iload_n hx hb d_M_freeze_110 rfl (lv_at hl 1 rfl) ?_
            obtain ⟨hi_7, hok⟩ := hok
            refine ml_18 h0 hw hi_7 d_M_freeze_111 ?_
            refine lv_icmp_ge (tgt := 200) hx hb d_M_freeze_112 (by decide) (fun c_8 => ?_) (fun c_8 => ?_)
            · have hok := hok.1 c_8
              have hF := (if_pos c_8).symm.trans hF
              exact hx_105 x1 x2 μ H locs ls hw (lv_sub hl [0, 1, 2] rfl) hok hF
            · have hok := hok.2 c_8
              have hF := (if_neg c_8).symm.trans hF
              refine lv_iconst (v := 0) hx hb d_M_freeze_115 (by decide) ?_
              refine lv_istore_n (lv' := [(3, .int 0), (0, .ref (a 0)), (1, .int x1), (2, .int x2)]) hx hb d_M_freeze_116 rfl hl (by decide) rfl (fun ls hl => ?_)
              have hx_117 : ∀ (x1 : Int32) (x2 : Int32) (x3 : Int32) (μ : Nat → Nat → Int32) (H : Heap) (locs : List Loc) (ls : Array Slot), wH D A s.heap (mo tc a μ ++ Y) H locs → lv_has ls 6 [(0, .ref (a 0)), (1, .int x1), (2, .int x2), (3, .int x3)] → (kM_freeze_117x (kM_freeze_105 kM_freeze_105x n105) kM_freeze_105x) x1 x2 x3 μ → (fM_freeze_117x (fM_freeze_105 fM_freeze_105x n105) fM_freeze_105x) x1 x2 x3 μ = F → W p l e ({ frames := 2, cells := 0, slots := 0, locals := 43 } : Room) s m args below meth c H locs 0 0 (MQ below (va_Qi (fun r u => (r, u) = F) (fun u t => qW D tc A (mo tc a u ++ Y) t) A) args s 0 0 A) (F0 m 194 ls []) := by
                intro x1 x2 x3 μ H locs ls hw hl hok hF
                unfold kM_freeze_117x at hok
                unfold fM_freeze_117x at hF
                refine lv_iinc (v := x2 + 1) (lv' := [(2, .int (x2 + 1)), (0, .ref (a 0)), (1, .int x1), (3, .int x3)]) hx hb d_M_freeze_194 hl (k := 2) rfl rfl (by decide) rfl (fun ls hl => ?_)
                refine lv_goto (tgt := 105) hx hb d_M_freeze_197 (by decide) ?_
                exact ih_105 x1 (x2 + 1) μ H locs ls hw (lv_sub hl [1, 2, 0] rfl) hok hF
              have lp_117 : ∀ (n117 : Nat) (x1 : Int32) (x2 : Int32) (x3 : Int32) (μ : Nat → Nat → Int32) (H : Heap) (locs : List Loc) (ls : Array Slot), wH D A s.heap (mo tc a μ ++ Y) H locs → lv_has ls 6 [(0, .ref (a 0)), (1, .int x1), (2, .int x2), (3, .int x3)] → kM_freeze_117 (kM_freeze_105 kM_freeze_105x n105) kM_freeze_105x (kM_freeze_117x (kM_freeze_105 kM_freeze_105x n105) kM_freeze_105x) n117 x1 x2 x3 μ → fM_freeze_117 (fM_freeze_105 fM_freeze_105x n105) fM_freeze_105x (fM_freeze_117x (fM_freeze_105 fM_freeze_105x n105) fM_freeze_105x) n117 x1 x2 x3 μ = F → W p l e ({ frames := 2, cells := 0, slots := 0, locals := 43 } : Room) s m args below meth c H locs 0 0 (MQ below (va_Qi (fun r u => (r, u) = F) (fun u t => qW D tc A (mo tc a u ++ Y) t) A) args s 0 0 A) (F0 m 117 ls []) := by
                intro n117
                induction n117 with
                | zero =>
                  intro x1 x2 x3 μ H locs ls hw hl hok hF
                  unfold kM_freeze_117 at hok
                  exact hok.elim
                | succ n117 ih_117 =>
                  intro x1 x2 x3 μ H locs ls hw hl hok hF
                  unfold kM_freeze_117 at hok
                  unfold fM_freeze_117 at hF
                  refine lv_iload_n hx hb d_M_freeze_117 rfl (lv_at hl 3 rfl) ?_
                  refine lv_bipush (v := 6) hx hb d_M_freeze_118 (by decide) ?_
                  refine lv_icmp_ge (tgt := 194) hx hb d_M_freeze_120 (by decide) (fun c_9 => ?_) (fun c_9 => ?_)
                  · have hok := hok.1 c_9
                    have hF := (if_pos c_9).symm.trans hF
                    exact hx_117 x1 x2 x3 μ H locs ls hw (lv_sub hl [0, 1, 2, 3] rfl) hok hF
                  · have hok := hok.2 c_9
                    have hF := (if_neg c_9).symm.trans hF
                    refine lv_bipush (v := 120) hx hb d_M_freeze_123 (by decide) ?_
                    refine lv_iload_n hx hb d_M_freeze_125 rfl (lv_at hl 1 rfl) ?_
                    refine lv_imul hx hb d_M_freeze_126 ?_
                    refine lv_bipush (v := 6) hx hb d_M_freeze_127 (by decide) ?_
                    refine lv_iload_n hx hb d_M_freeze_129 rfl (lv_at hl 2 rfl) ?_
                    refine lv_imul hx hb d_M_freeze_130 ?_
                    refine lv_iadd hx hb d_M_freeze_131 ?_
                    refine lv_iload_n hx hb d_M_freeze_132 rfl (lv_at hl 3 rfl) ?_
                    refine lv_iadd hx hb d_M_freeze_133 ?_
                    refine lv_istore (lv' := [(4, .int (((120 * x1) + (6 * x2)) + x3)), (0, .ref (a 0)), (1, .int x1), (2, .int x2), (3, .int x3)]) hx hb d_M_freeze_134 hl (by decide) rfl (fun ls hl => ?_)
                    refine lv_aload_n hx hb d_M_freeze_136 rfl (lv_at hl 1 rfl) ?_
                    refine mg_20 h0 hw d_M_freeze_137 ?_
                    refine lv_bipush (v := 20) hx hb d_M_freeze_140 (by decide) ?_
                    refine lv_iload_n hx hb d_M_freeze_142 rfl (lv_at hl 2 rfl) ?_
                    refine lv_imul hx hb d_M_freeze_143 ?_
                    refine lv_iload_n hx hb d_M_freeze_144 rfl (lv_at hl 3 rfl) ?_
                    refine lv_iadd hx hb d_M_freeze_145 ?_
                    obtain ⟨hi_10, hok⟩ := hok
                    refine ml_20 h0 hw hi_10 d_M_freeze_146 ?_
                    refine lv_istore (lv' := [(5, .int (μ 20 ((20 * x1) + x2).toNatClampNeg)), (4, .int (((120 * x1) + (6 * x2)) + x3)), (0, .ref (a 0)), (1, .int x1), (2, .int x2), (3, .int x3)]) hx hb d_M_freeze_147 hl (by decide) rfl (fun ls hl => ?_)
                    refine lv_aload_n hx hb d_M_freeze_149 rfl (lv_at hl 2 rfl) ?_
                    refine mg_21 h0 hw d_M_freeze_150 ?_
                    refine lv_iload hx hb d_M_freeze_153 (lv_at hl 1 rfl) ?_
                    refine lv_aload_n hx hb d_M_freeze_155 rfl (lv_at hl 2 rfl) ?_
                    refine mg_6 h0 hw d_M_freeze_156 ?_
                    refine lv_bipush (v := 6) hx hb d_M_freeze_159 (by decide) ?_
                    refine lv_iload hx hb d_M_freeze_161 (lv_at hl 0 rfl) ?_
                    refine lv_imul hx hb d_M_freeze_163 ?_
                    refine lv_iload_n hx hb d_M_freeze_164 rfl (lv_at hl 5 rfl) ?_
                    refine lv_iadd hx hb d_M_freeze_165 ?_
                    obtain ⟨hi_11, hok⟩ := hok
                    refine ml_6 h0 hw hi_11 d_M_freeze_166 ?_
                    refine lv_aload_n hx hb d_M_freeze_167 rfl (lv_at hl 2 rfl) ?_
                    refine mg_2 h0 hw d_M_freeze_168 ?_
                    refine lv_iconst (v := 1) hx hb d_M_freeze_171 (by decide) ?_
                    refine lv_icmp_ne (tgt := 185) hx hb d_M_freeze_172 (by decide) (fun c_12 => ?_) (fun c_12 => ?_)
                    · have hok := hok.2 c_12
                      have hF := (if_neg c_12).symm.trans hF
                      refine lv_iconst (v := 0) hx hb d_M_freeze_185 (by decide) ?_
                      refine lv_iadd hx hb d_M_freeze_186 ?_
                      obtain ⟨hi_13, hok⟩ := hok
                      refine ms_21 h0 hw hi_13 d_M_freeze_187 (fun H locs hw => ?_)
                      refine lv_iinc (v := x3 + 1) (lv' := [(3, .int (x3 + 1)), (5, .int (μ 20 ((20 * x1) + x2).toNatClampNeg)), (4, .int (((120 * x1) + (6 * x2)) + x3)), (0, .ref (a 0)), (1, .int x1), (2, .int x2)]) hx hb d_M_freeze_188 hl (k := 5) rfl rfl (by decide) rfl (fun ls hl => ?_)
                      refine lv_goto (tgt := 117) hx hb d_M_freeze_191 (by decide) ?_
                      exact ih_117 x1 x2 (x3 + 1) (u2 μ 21 (((120 * x1) + (6 * x2)) + x3).toNatClampNeg ((μ 6 ((6 * (μ 20 ((20 * x1) + x2).toNatClampNeg)) + x3).toNatClampNeg) + 0)) H locs ls hw (lv_sub hl [3, 4, 5, 0] rfl) hok hF
                    · have hok := hok.1 c_12
                      have hF := (if_pos c_12).symm.trans hF
                      refine lv_aload_n hx hb d_M_freeze_175 rfl (lv_at hl 2 rfl) ?_
                      refine lv_iload hx hb d_M_freeze_176 (lv_at hl 0 rfl) ?_
                      refine lv_iload_n hx hb d_M_freeze_178 rfl (lv_at hl 5 rfl) ?_
                      obtain ⟨hi_14, hok⟩ := hok
                      refine cv_p (n := 2) (C := "CountRoundsModel") (b := a 0) (q0 := 0) (ci := 4) (As := [.int (μ 20 ((20 * x1) + x2).toNatClampNeg), .int x3]) (rest := [.int (μ 6 ((6 * (μ 20 ((20 * x1) + x2).toNatClampNeg)) + x3).toNatClampNeg), .int (((120 * x1) + (6 * x2)) + x3), .ref (a 21)]) h0 hw (cM_coming l D tc a Y H.size (μ 20 ((20 * x1) + x2).toNatClampNeg) x3 μ hi_14 rfl) (gd_V wd_786 wd_788 (gw_s 28 rfl rfl) wd_3 wd_789) (by decide +kernel) ⟨rfl, rfl, Nat.le_of_ble_eq_true rfl, Nat.le_of_ble_eq_true rfl, Nat.le_of_ble_eq_true rfl, Nat.le_of_ble_eq_true rfl⟩ rfl rfl rfl hl.1 rfl (Nat.le_of_ble_eq_true rfl) d_M_freeze_179 ?_
                      refine lv_goto (tgt := 186) hx hb d_M_freeze_182 (by decide) ?_
                      refine lv_iadd hx hb d_M_freeze_186 ?_
                      obtain ⟨hi_15, hok⟩ := hok
                      refine ms_21 h0 hw hi_15 d_M_freeze_187 (fun H locs hw => ?_)
                      refine lv_iinc (v := x3 + 1) (lv' := [(3, .int (x3 + 1)), (5, .int (μ 20 ((20 * x1) + x2).toNatClampNeg)), (4, .int (((120 * x1) + (6 * x2)) + x3)), (0, .ref (a 0)), (1, .int x1), (2, .int x2)]) hx hb d_M_freeze_188 hl (k := 5) rfl rfl (by decide) rfl (fun ls hl => ?_)
                      refine lv_goto (tgt := 117) hx hb d_M_freeze_191 (by decide) ?_
                      exact ih_117 x1 x2 (x3 + 1) (u2 μ 21 (((120 * x1) + (6 * x2)) + x3).toNatClampNeg ((μ 6 ((6 * (μ 20 ((20 * x1) + x2).toNatClampNeg)) + x3).toNatClampNeg) + (fM_coming (μ 20 ((20 * x1) + x2).toNatClampNeg) x3 μ))) H locs ls hw (lv_sub hl [3, 4, 5, 0] rfl) hok hF
              exact lp_117 200 x1 x2 0 μ H locs ls hw (lv_sub hl [1, 2, 3, 0] rfl) hok hF
        exact lp_105 200 x1 0 (u2 μ 17 x1.toNatClampNeg 1) H locs ls hw (lv_sub hl [1, 2, 0] rfl) hok hF
      have lp_53 : ∀ (n53 : Nat) (x1 : Int32) (x2 : Int32) (μ : Nat → Nat → Int32) (H : Heap) (locs : List Loc) (ls : Array Slot), wH D A s.heap (mo tc a μ ++ Y) H locs → lv_has ls 6 [(0, .ref (a 0)), (1, .int x1), (2, .int x2)] → kM_freeze_53 kM_freeze_53x n53 x1 x2 μ → fM_freeze_53 fM_freeze_53x n53 x1 x2 μ = F → W p l e ({ frames := 2, cells := 0, slots := 0, locals := 43 } : Room) s m args below meth c H locs 0 0 (MQ below (va_Qi (fun r u => (r, u) = F) (fun u t => qW D tc A (mo tc a u ++ Y) t) A) args s 0 0 A) (F0 m 53 ls []) := by
        intro n53
        induction n53 with
        | zero =>
          intro x1 x2 μ H locs ls hw hl hok hF
          unfold kM_freeze_53 at hok
          exact hok.elim
        | succ n53 ih_53 =>
          intro x1 x2 μ H locs ls hw hl hok hF
          unfold kM_freeze_53 at hok
          unfold fM_freeze_53 at hF
          refine lv_iload_n hx hb d_M_freeze_53 rfl (lv_at hl 2 rfl) ?_
          refine lv_aload_n hx hb d_M_freeze_54 rfl (lv_at hl 0 rfl) ?_
          refine mg_18 h0 hw d_M_freeze_55 ?_
          refine lv_iload_n hx hb d_M_freeze_58 rfl (lv_at hl 1 rfl) ?_
          obtain ⟨hi_16, hok⟩ := hok
          refine ml_18 h0 hw hi_16 d_M_freeze_59 ?_
          refine lv_icmp_ge (tgt := 96) hx hb d_M_freeze_60 (by decide) (fun c_17 => ?_) (fun c_17 => ?_)
          · have hok := hok.1 c_17
            have hF := (if_pos c_17).symm.trans hF
            exact hx_53 x1 x2 μ H locs ls hw (lv_sub hl [0, 1, 2] rfl) hok hF
          · have hok := hok.2 c_17
            have hF := (if_neg c_17).symm.trans hF
            refine lv_aload_n hx hb d_M_freeze_63 rfl (lv_at hl 0 rfl) ?_
            refine mg_2 h0 hw d_M_freeze_64 ?_
            refine lv_if_ne (tgt := 96) hx hb d_M_freeze_67 (by decide) (fun c_18 => ?_) (fun c_18 => ?_)
            · have hok := hok.2 c_18
              have hF := (if_neg c_18).symm.trans hF
              exact hx_53 x1 x2 μ H locs ls hw (lv_sub hl [0, 1, 2] rfl) hok hF
            · have hok := hok.1 c_18
              have hF := (if_pos c_18).symm.trans hF
              refine lv_aload_n hx hb d_M_freeze_70 rfl (lv_at hl 0 rfl) ?_
              refine lv_aload_n hx hb d_M_freeze_71 rfl (lv_at hl 0 rfl) ?_
              refine mg_20 h0 hw d_M_freeze_72 ?_
              refine lv_bipush (v := 20) hx hb d_M_freeze_75 (by decide) ?_
              refine lv_iload_n hx hb d_M_freeze_77 rfl (lv_at hl 1 rfl) ?_
              refine lv_imul hx hb d_M_freeze_78 ?_
              refine lv_iload_n hx hb d_M_freeze_79 rfl (lv_at hl 2 rfl) ?_
              refine lv_iadd hx hb d_M_freeze_80 ?_
              obtain ⟨hi_19, hok⟩ := hok
              refine ml_20 h0 hw hi_19 d_M_freeze_81 ?_
              obtain ⟨hi_20, hok⟩ := hok
              refine cv_p (n := 1) (C := "CountRoundsModel") (b := a 0) (q0 := 0) (ci := 4) (As := [.int (μ 20 ((20 * x1) + x2).toNatClampNeg)]) (rest := []) h0 hw (cM_openAt l D tc a Y H.size (μ 20 ((20 * x1) + x2).toNatClampNeg) μ hi_20 rfl) (gd_V wd_756 wd_758 (gw_s 23 rfl rfl) wd_3 wd_759) (by decide +kernel) ⟨rfl, rfl, Nat.le_of_ble_eq_true rfl, Nat.le_of_ble_eq_true rfl, Nat.le_of_ble_eq_true rfl, Nat.le_of_ble_eq_true rfl⟩ rfl rfl rfl hl.1 rfl (Nat.le_of_ble_eq_true rfl) d_M_freeze_82 ?_
              refine lv_if_le (tgt := 90) hx hb d_M_freeze_85 (by decide) (fun c_21 => ?_) (fun c_21 => ?_)
              · have hok := hok.1 c_21
                have hF := (if_pos c_21).symm.trans hF
                refine lv_iinc (v := x2 + 1) (lv' := [(2, .int (x2 + 1)), (0, .ref (a 0)), (1, .int x1)]) hx hb d_M_freeze_90 hl (k := 2) rfl rfl (by decide) rfl (fun ls hl => ?_)
                refine lv_goto (tgt := 53) hx hb d_M_freeze_93 (by decide) ?_
                exact ih_53 x1 (x2 + 1) μ H locs ls hw (lv_sub hl [1, 2, 0] rfl) hok hF
              · have hok := hok.2 c_21
                have hF := (if_neg c_21).symm.trans hF
                refine lv_iconst (v := 0) hx hb d_M_freeze_88 (by decide) ?_
                exact rt_i h0 hw hr hlocks rfl μ hF rfl d_M_freeze_89 (Nat.le_refl 0) (Nat.le_refl 0)
      exact lp_53 200 x1 0 (u2 (u2 μ 0 0 0) 0 0 0) H locs ls hw (lv_sub hl [1, 2, 0] rfl) hok hF
    · have hok := hok.2 c_4
      have hF := (if_neg c_4).symm.trans hF
      refine lv_iconst (v := 2) hx hb d_M_freeze_34 (by decide) ?_
      refine lv_goto (tgt := 39) hx hb d_M_freeze_35 (by decide) ?_
      refine mp_0 h0 hw d_M_freeze_39 (fun H locs hw => ?_)
      refine lv_aload_n hx hb d_M_freeze_42 rfl (lv_at hl 0 rfl) ?_
      refine mg_0 h0 hw d_M_freeze_43 ?_
      refine W.eq (g2 := F0 m 46 ls [.int 2]) rfl ?_
      refine lv_if_le (tgt := 51) hx hb d_M_freeze_46 (by decide) (fun c_0 => absurd c_0 (by decide)) (fun _ => ?_)
      refine lv_iconst (v := 0) hx hb d_M_freeze_49 (by decide) ?_
      exact rt_i h0 hw hr hlocks rfl (u2 (u2 μ 0 0 0) 0 0 2) hF rfl d_M_freeze_50 (Nat.le_refl 0) (Nat.le_refl 0)
  · have hok := hok.1 c_2
    have hF := (if_pos c_2).symm.trans hF
    refine lv_iconst (v := 1) hx hb d_M_freeze_9 (by decide) ?_
    refine lv_goto (tgt := 14) hx hb d_M_freeze_10 (by decide) ?_
    refine mp_0 h0 hw d_M_freeze_14 (fun H locs hw => ?_)
    refine lv_aload_n hx hb d_M_freeze_17 rfl (lv_at hl 0 rfl) ?_
    refine mg_0 h0 hw d_M_freeze_18 ?_
    refine W.eq (g2 := F0 m 21 ls [.int 1]) rfl ?_
    refine lv_if_ne (tgt := 42) hx hb d_M_freeze_21 (by decide) (fun _ => ?_) (fun c_0 => absurd c_0 (by decide))
    refine lv_aload_n hx hb d_M_freeze_42 rfl (lv_at hl 0 rfl) ?_
    refine mg_0 h0 hw d_M_freeze_43 ?_
    refine W.eq (g2 := F0 m 46 ls [.int 1]) rfl ?_
    refine lv_if_le (tgt := 51) hx hb d_M_freeze_46 (by decide) (fun c_0 => absurd c_0 (by decide)) (fun _ => ?_)
    refine lv_iconst (v := 0) hx hb d_M_freeze_49 (by decide) ?_
    exact rt_i h0 hw hr hlocks rfl (u2 μ 0 0 1) hF rfl d_M_freeze_50 (Nat.le_refl 0) (Nat.le_refl 0)
set_option maxHeartbeats 4000000 in
set_option maxRecDepth 100000 in
theorem cM_found (l : Launch) (D : va_G) (tc : Nat → ClassId) (a : Nat → Nat) (Y : va_W) (sz : Nat) (x1 : Int32) (x2 : Int32) (x3 : Int32) (x4 : Int32) (x5 : Int32) (μ : Nat → Nat → Int32) {F : Int32 × (Nat → Nat → Int32)} (hok : kM_found x1 x2 x3 x4 x5 μ) (hF : fM_found x1 x2 x3 x4 x5 μ = F) : Met l y_M_found (Cond.code y_M_found b_M_found 8 (some .int) :: gw) ({ frames := 2, cells := 0, slots := 0, locals := 43 } : Room) (va_Pc [.ref (a 0), .int x1, .int x2, .int x3, .int x4, .int x5] (pW D tc (mo tc a μ ++ Y) sz)) (va_Qi (fun r u => (r, u) = F) (fun u t => qW D tc (va_A (mo tc a μ ++ Y) sz) (mo tc a u ++ Y) t) (va_A (mo tc a μ ++ Y) sz)) 0 0 (va_A (mo tc a μ ++ Y) sz) := by
  refine en_W (by decide) (Nat.le_of_ble_eq_true rfl) ?_
  intro p e s m args below meth c ls h0 hr hlocks hin hsz hw hl
  obtain ⟨hx, hb, hml, hown, hts, hK⟩ := id h0
  have hA : ∀ q : Nat, s.heap.size ≤ q → (va_A (mo tc a μ ++ Y) sz) q := fun q h => Or.inr (by rw [← hsz]; exact h)
  generalize va_A (mo tc a μ ++ Y) sz = A at hw hA ⊢
  obtain ⟨H, eH⟩ : ∃ z, z = s.heap := ⟨_, rfl⟩
  obtain ⟨locs, eL⟩ : ∃ z : List Loc, z = [] := ⟨_, rfl⟩
  have hw : wH D A s.heap (mo tc a μ ++ Y) H locs := by rw [eH, eL]; exact hw
  show W p l e _ s m _ below meth c s.heap [] 0 0 _ _
  have gl : W p l e ({ frames := 2, cells := 0, slots := 0, locals := 43 } : Room) s m args below meth c H locs 0 0 (MQ below (va_Qi (fun r u => (r, u) = F) (fun u t => qW D tc A (mo tc a u ++ Y) t) A) args s 0 0 A) (F0 m 0 ls []) := ?_
  · rw [eH, eL] at gl; exact gl
  have hl : lv_has ls 8 [(0, .ref (a 0)), (1, .int x1), (2, .int x2), (3, .int x3), (4, .int x4), (5, .int x5)] := hl
  unfold kM_found at hok
  unfold fM_found at hF
  refine lv_aload_n hx hb d_M_found_0 rfl (lv_at hl 0 rfl) ?_
  refine lv_aload_n hx hb d_M_found_1 rfl (lv_at hl 0 rfl) ?_
  refine lv_iload_n hx hb d_M_found_2 rfl (lv_at hl 1 rfl) ?_
  obtain ⟨hi_1, hok⟩ := hok
  refine cv_p (n := 1) (C := "CountRoundsModel") (b := a 0) (q0 := 0) (ci := 4) (As := [.int x1]) (rest := [.ref (a 0)]) h0 hw (cM_isCount l D tc a Y H.size x1 μ hi_1 rfl) (gd_V wd_782 wd_784 (gw_s 27 rfl rfl) wd_3 wd_785) (by decide +kernel) ⟨rfl, rfl, Nat.le_of_ble_eq_true rfl, Nat.le_of_ble_eq_true rfl, Nat.le_of_ble_eq_true rfl, Nat.le_of_ble_eq_true rfl⟩ rfl rfl rfl hl.1 rfl (Nat.le_of_ble_eq_true rfl) d_M_found_3 ?_
  refine lv_if_eq (tgt := 17) hx hb d_M_found_6 (by decide) (fun c_2 => ?_) (fun c_2 => ?_)
  · have hok := hok.1 c_2
    have hF := (if_pos c_2).symm.trans hF
    refine lv_iconst (v := 1) hx hb d_M_found_17 (by decide) ?_
    refine lv_goto (tgt := 52) hx hb d_M_found_18 (by decide) ?_
    refine mp_0 h0 hw d_M_found_52 (fun H locs hw => ?_)
    refine lv_aload_n hx hb d_M_found_55 rfl (lv_at hl 0 rfl) ?_
    refine mg_0 h0 hw d_M_found_56 ?_
    refine W.eq (g2 := F0 m 59 ls [.int 1]) rfl ?_
    refine lv_if_le (tgt := 64) hx hb d_M_found_59 (by decide) (fun c_0 => absurd c_0 (by decide)) (fun _ => ?_)
    refine lv_iconst (v := 0) hx hb d_M_found_62 (by decide) ?_
    exact rt_i h0 hw hr hlocks rfl (u2 μ 0 0 1) hF rfl d_M_found_63 (Nat.le_refl 0) (Nat.le_refl 0)
  · have hok := hok.2 c_2
    have hF := (if_neg c_2).symm.trans hF
    refine lv_aload_n hx hb d_M_found_9 rfl (lv_at hl 0 rfl) ?_
    refine lv_iload_n hx hb d_M_found_10 rfl (lv_at hl 2 rfl) ?_
    obtain ⟨hi_3, hok⟩ := hok
    refine cv_p (n := 1) (C := "CountRoundsModel") (b := a 0) (q0 := 0) (ci := 4) (As := [.int x2]) (rest := [.ref (a 0)]) h0 hw (cM_isPlace l D tc a Y H.size x2 μ hi_3 rfl) (gd_V wd_717 wd_719 (gw_s 22 rfl rfl) wd_3 wd_720) (by decide +kernel) ⟨rfl, rfl, Nat.le_of_ble_eq_true rfl, Nat.le_of_ble_eq_true rfl, Nat.le_of_ble_eq_true rfl, Nat.le_of_ble_eq_true rfl⟩ rfl rfl rfl hl.1 rfl (Nat.le_of_ble_eq_true rfl) d_M_found_11 ?_
    refine lv_if_ne (tgt := 21) hx hb d_M_found_14 (by decide) (fun c_4 => ?_) (fun c_4 => ?_)
    · have hok := hok.2 c_4
      have hF := (if_neg c_4).symm.trans hF
      refine lv_iload_n hx hb d_M_found_21 rfl (lv_at hl 3 rfl) ?_
      obtain ⟨hi_5, hok⟩ := hok
      refine cs_p (n := 1) (As := [.int x3]) (rest := [.ref (a 0)]) hx hb hml hown hts (cM_isGood l x3 hi_5 rfl) (gd_S wd_721 wd_722 wd_3 wd_723) (by decide +kernel) ⟨rfl, rfl, Nat.le_of_ble_eq_true rfl, Nat.le_of_ble_eq_true rfl, Nat.le_of_ble_eq_true rfl, Nat.le_of_ble_eq_true rfl⟩ rfl hl.1 rfl (Nat.le_of_ble_eq_true rfl) d_M_found_22 ?_
      refine lv_if_eq (tgt := 47) hx hb d_M_found_25 (by decide) (fun c_6 => ?_) (fun c_6 => ?_)
      · have hok := hok.1 c_6
        have hF := (if_pos c_6).symm.trans hF
        refine lv_iconst (v := 2) hx hb d_M_found_47 (by decide) ?_
        refine lv_goto (tgt := 52) hx hb d_M_found_48 (by decide) ?_
        refine mp_0 h0 hw d_M_found_52 (fun H locs hw => ?_)
        refine lv_aload_n hx hb d_M_found_55 rfl (lv_at hl 0 rfl) ?_
        refine mg_0 h0 hw d_M_found_56 ?_
        refine W.eq (g2 := F0 m 59 ls [.int 2]) rfl ?_
        refine lv_if_le (tgt := 64) hx hb d_M_found_59 (by decide) (fun c_0 => absurd c_0 (by decide)) (fun _ => ?_)
        refine lv_iconst (v := 0) hx hb d_M_found_62 (by decide) ?_
        exact rt_i h0 hw hr hlocks rfl (u2 μ 0 0 2) hF rfl d_M_found_63 (Nat.le_refl 0) (Nat.le_refl 0)
      · have hok := hok.2 c_6
        have hF := (if_neg c_6).symm.trans hF
        refine lv_iload hx hb d_M_found_28 (lv_at hl 4 rfl) ?_
        refine lv_iconst (v := 0) hx hb d_M_found_30 (by decide) ?_
        refine lv_ldc hx hb hown (hts _ wd_724) d_M_found_31 ?_
        obtain ⟨hi_7, hok⟩ := hok
        refine cs_p (n := 3) (As := [.int x4, .int 0, .int 1000000]) (rest := [.ref (a 0)]) hx hb hml hown hts (cM_in l x4 0 1000000 hi_7 rfl) (gd_S wd_710 wd_711 wd_3 wd_712) (by decide +kernel) ⟨rfl, rfl, Nat.le_of_ble_eq_true rfl, Nat.le_of_ble_eq_true rfl, Nat.le_of_ble_eq_true rfl, Nat.le_of_ble_eq_true rfl⟩ rfl hl.1 rfl (Nat.le_of_ble_eq_true rfl) d_M_found_33 ?_
        refine lv_if_eq (tgt := 47) hx hb d_M_found_36 (by decide) (fun c_8 => ?_) (fun c_8 => ?_)
        · have hok := hok.1 c_8
          have hF := (if_pos c_8).symm.trans hF
          refine lv_iconst (v := 2) hx hb d_M_found_47 (by decide) ?_
          refine lv_goto (tgt := 52) hx hb d_M_found_48 (by decide) ?_
          refine mp_0 h0 hw d_M_found_52 (fun H locs hw => ?_)
          refine lv_aload_n hx hb d_M_found_55 rfl (lv_at hl 0 rfl) ?_
          refine mg_0 h0 hw d_M_found_56 ?_
          refine W.eq (g2 := F0 m 59 ls [.int 2]) rfl ?_
          refine lv_if_le (tgt := 64) hx hb d_M_found_59 (by decide) (fun c_0 => absurd c_0 (by decide)) (fun _ => ?_)
          refine lv_iconst (v := 0) hx hb d_M_found_62 (by decide) ?_
          exact rt_i h0 hw hr hlocks rfl (u2 μ 0 0 2) hF rfl d_M_found_63 (Nat.le_refl 0) (Nat.le_refl 0)
        · have hok := hok.2 c_8
          have hF := (if_neg c_8).symm.trans hF
          refine lv_iload hx hb d_M_found_39 (lv_at hl 5 rfl) ?_
          obtain ⟨hi_9, hok⟩ := hok
          refine cs_p (n := 1) (As := [.int x5]) (rest := [.ref (a 0)]) hx hb hml hown hts (cM_isPerson l x5 hi_9 rfl) (gd_S wd_733 wd_734 wd_3 wd_735) (by decide +kernel) ⟨rfl, rfl, Nat.le_of_ble_eq_true rfl, Nat.le_of_ble_eq_true rfl, Nat.le_of_ble_eq_true rfl, Nat.le_of_ble_eq_true rfl⟩ rfl hl.1 rfl (Nat.le_of_ble_eq_true rfl) d_M_found_41 ?_
          refine lv_if_ne (tgt := 51) hx hb d_M_found_44 (by decide) (fun c_10 => ?_) (fun c_10 => ?_)
          · have hok := hok.2 c_10
            have hF := (if_neg c_10).symm.trans hF
            refine lv_iconst (v := 0) hx hb d_M_found_51 (by decide) ?_
            refine mp_0 h0 hw d_M_found_52 (fun H locs hw => ?_)
            refine lv_aload_n hx hb d_M_found_55 rfl (lv_at hl 0 rfl) ?_
            refine mg_0 h0 hw d_M_found_56 ?_
            refine W.eq (g2 := F0 m 59 ls [.int 0]) rfl ?_
            refine lv_if_le (tgt := 64) hx hb d_M_found_59 (by decide) (fun _ => ?_) (fun c_0 => absurd c_0 (by decide))
            refine lv_aload_n hx hb d_M_found_64 rfl (lv_at hl 0 rfl) ?_
            refine mg_17 h0 hw d_M_found_65 ?_
            refine lv_iload_n hx hb d_M_found_68 rfl (lv_at hl 1 rfl) ?_
            obtain ⟨hi_11, hok⟩ := hok
            refine ml_17 h0 hw hi_11 d_M_found_69 ?_
            refine W.eq (g2 := F0 m 70 ls [.int (μ 17 x1.toNatClampNeg)]) rfl ?_
            refine lv_iconst (v := 1) hx hb d_M_found_70 (by decide) ?_
            refine lv_icmp_eq (tgt := 76) hx hb d_M_found_71 (by decide) (fun c_12 => ?_) (fun c_12 => ?_)
            · have hok := hok.1 c_12
              have hF := (if_pos c_12).symm.trans hF
              refine lv_aload_n hx hb d_M_found_76 rfl (lv_at hl 0 rfl) ?_
              refine lv_iload_n hx hb d_M_found_77 rfl (lv_at hl 1 rfl) ?_
              refine lv_iload_n hx hb d_M_found_78 rfl (lv_at hl 2 rfl) ?_
              obtain ⟨hi_13, hok⟩ := hok
              refine cv_p (n := 2) (C := "CountRoundsModel") (b := a 0) (q0 := 0) (ci := 4) (As := [.int x1, .int x2]) (rest := []) h0 hw (cM_slot l D tc a Y H.size x1 x2 (u2 μ 0 0 0) hi_13 rfl) (gd_V wd_794 wd_796 (gw_s 29 rfl rfl) wd_3 wd_797) (by decide +kernel) ⟨rfl, rfl, Nat.le_of_ble_eq_true rfl, Nat.le_of_ble_eq_true rfl, Nat.le_of_ble_eq_true rfl, Nat.le_of_ble_eq_true rfl⟩ rfl rfl rfl hl.1 rfl (Nat.le_of_ble_eq_true rfl) d_M_found_79 ?_
              refine lv_istore (lv' := [(6, .int (fM_slot x1 x2 (u2 μ 0 0 0))), (0, .ref (a 0)), (1, .int x1), (2, .int x2), (3, .int x3), (4, .int x4), (5, .int x5)]) hx hb d_M_found_82 hl (by decide) rfl (fun ls hl => ?_)
              refine lv_iload hx hb d_M_found_84 (lv_at hl 0 rfl) ?_
              refine lv_iconst (v := (-1)) hx hb d_M_found_86 (by decide) ?_
              refine lv_icmp_ne (tgt := 93) hx hb d_M_found_87 (by decide) (fun c_14 => ?_) (fun c_14 => ?_)
              · have hok := hok.2 c_14
                have hF := (if_neg c_14).symm.trans hF
                refine lv_bipush (v := 120) hx hb d_M_found_93 (by decide) ?_
                refine lv_iload_n hx hb d_M_found_95 rfl (lv_at hl 2 rfl) ?_
                refine lv_imul hx hb d_M_found_96 ?_
                refine lv_bipush (v := 6) hx hb d_M_found_97 (by decide) ?_
                refine lv_iload hx hb d_M_found_99 (lv_at hl 0 rfl) ?_
                refine lv_imul hx hb d_M_found_101 ?_
                refine lv_iadd hx hb d_M_found_102 ?_
                refine lv_iload_n hx hb d_M_found_103 rfl (lv_at hl 4 rfl) ?_
                refine lv_iadd hx hb d_M_found_104 ?_
                refine lv_istore (lv' := [(7, .int (((120 * x1) + (6 * (fM_slot x1 x2 (u2 μ 0 0 0)))) + x3)), (6, .int (fM_slot x1 x2 (u2 μ 0 0 0))), (0, .ref (a 0)), (1, .int x1), (2, .int x2), (3, .int x3), (4, .int x4), (5, .int x5)]) hx hb d_M_found_105 hl (by decide) rfl (fun ls hl => ?_)
                refine lv_aload_n hx hb d_M_found_107 rfl (lv_at hl 2 rfl) ?_
                refine lv_iload hx hb d_M_found_108 (lv_at hl 0 rfl) ?_
                obtain ⟨hi_15, hok⟩ := hok
                refine cv_p (n := 1) (C := "CountRoundsModel") (b := a 0) (q0 := 0) (ci := 4) (As := [.int (((120 * x1) + (6 * (fM_slot x1 x2 (u2 μ 0 0 0)))) + x3)]) (rest := []) h0 hw (cM_firstBy l D tc a Y H.size (((120 * x1) + (6 * (fM_slot x1 x2 (u2 μ 0 0 0)))) + x3) (u2 μ 0 0 0) hi_15 rfl) (gd_V wd_798 wd_800 (gw_s 30 rfl rfl) wd_3 wd_801) (by decide +kernel) ⟨rfl, rfl, Nat.le_of_ble_eq_true rfl, Nat.le_of_ble_eq_true rfl, Nat.le_of_ble_eq_true rfl, Nat.le_of_ble_eq_true rfl⟩ rfl rfl rfl hl.1 rfl (Nat.le_of_ble_eq_true rfl) d_M_found_110 ?_
                refine lv_iload hx hb d_M_found_113 (lv_at hl 7 rfl) ?_
                refine lv_icmp_eq (tgt := 129) hx hb d_M_found_115 (by decide) (fun c_16 => ?_) (fun c_16 => ?_)
                · have hok := hok.1 c_16
                  have hF := (if_pos c_16).symm.trans hF
                  refine lv_bipush (v := (-3)) hx hb d_M_found_129 (by decide) ?_
                  exact rt_i h0 hw hr hlocks rfl (u2 μ 0 0 0) hF rfl d_M_found_131 (Nat.le_refl 0) (Nat.le_refl 0)
                · have hok := hok.2 c_16
                  have hF := (if_neg c_16).symm.trans hF
                  refine lv_aload_n hx hb d_M_found_118 rfl (lv_at hl 2 rfl) ?_
                  refine lv_iload hx hb d_M_found_119 (lv_at hl 0 rfl) ?_
                  obtain ⟨hi_17, hok⟩ := hok
                  refine cv_p (n := 1) (C := "CountRoundsModel") (b := a 0) (q0 := 0) (ci := 4) (As := [.int (((120 * x1) + (6 * (fM_slot x1 x2 (u2 μ 0 0 0)))) + x3)]) (rest := []) h0 hw (cM_secondBy l D tc a Y H.size (((120 * x1) + (6 * (fM_slot x1 x2 (u2 μ 0 0 0)))) + x3) (u2 μ 0 0 0) hi_17 rfl) (gd_V wd_802 wd_804 (gw_s 31 rfl rfl) wd_3 wd_805) (by decide +kernel) ⟨rfl, rfl, Nat.le_of_ble_eq_true rfl, Nat.le_of_ble_eq_true rfl, Nat.le_of_ble_eq_true rfl, Nat.le_of_ble_eq_true rfl⟩ rfl rfl rfl hl.1 rfl (Nat.le_of_ble_eq_true rfl) d_M_found_121 ?_
                  refine lv_iload hx hb d_M_found_124 (lv_at hl 7 rfl) ?_
                  refine lv_icmp_ne (tgt := 132) hx hb d_M_found_126 (by decide) (fun c_18 => ?_) (fun c_18 => ?_)
                  · have hok := hok.2 c_18
                    have hF := (if_neg c_18).symm.trans hF
                    refine lv_aload_n hx hb d_M_found_132 rfl (lv_at hl 2 rfl) ?_
                    refine lv_iload hx hb d_M_found_133 (lv_at hl 0 rfl) ?_
                    obtain ⟨hi_19, hok⟩ := hok
                    refine cv_p (n := 1) (C := "CountRoundsModel") (b := a 0) (q0 := 0) (ci := 4) (As := [.int (((120 * x1) + (6 * (fM_slot x1 x2 (u2 μ 0 0 0)))) + x3)]) (rest := []) h0 hw (cM_secondBy l D tc a Y H.size (((120 * x1) + (6 * (fM_slot x1 x2 (u2 μ 0 0 0)))) + x3) (u2 μ 0 0 0) hi_19 rfl) (gd_V wd_802 wd_804 (gw_s 31 rfl rfl) wd_3 wd_805) (by decide +kernel) ⟨rfl, rfl, Nat.le_of_ble_eq_true rfl, Nat.le_of_ble_eq_true rfl, Nat.le_of_ble_eq_true rfl, Nat.le_of_ble_eq_true rfl⟩ rfl rfl rfl hl.1 rfl (Nat.le_of_ble_eq_true rfl) d_M_found_135 ?_
                    refine lv_iconst (v := (-1)) hx hb d_M_found_138 (by decide) ?_
                    refine lv_icmp_eq (tgt := 145) hx hb d_M_found_139 (by decide) (fun c_20 => ?_) (fun c_20 => ?_)
                    · have hok := hok.1 c_20
                      have hF := (if_pos c_20).symm.trans hF
                      refine lv_aload_n hx hb d_M_found_145 rfl (lv_at hl 2 rfl) ?_
                      refine mg_19 h0 hw d_M_found_146 ?_
                      refine lv_iload_n hx hb d_M_found_149 rfl (lv_at hl 3 rfl) ?_
                      refine lv_dup2_11 hx hb d_M_found_150 rfl rfl ?_
                      obtain ⟨hi_21, hok⟩ := hok
                      refine ml_19 h0 hw hi_21 d_M_found_151 ?_
                      refine W.eq (g2 := F0 m 152 ls [.int (μ 19 x1.toNatClampNeg), .int x1, .ref (a 19)]) rfl ?_
                      refine lv_iconst (v := 1) hx hb d_M_found_152 (by decide) ?_
                      refine lv_iadd hx hb d_M_found_153 ?_
                      obtain ⟨hi_22, hok⟩ := hok
                      refine ms_19 h0 hw hi_22 d_M_found_154 (fun H locs hw => ?_)
                      refine lv_aload_n hx hb d_M_found_155 rfl (lv_at hl 2 rfl) ?_
                      refine lv_iload hx hb d_M_found_156 (lv_at hl 0 rfl) ?_
                      obtain ⟨hi_23, hok⟩ := hok
                      refine cv_p (n := 1) (C := "CountRoundsModel") (b := a 0) (q0 := 0) (ci := 4) (As := [.int (((120 * x1) + (6 * (fM_slot x1 x2 (u2 μ 0 0 0)))) + x3)]) (rest := []) h0 hw (cM_firstBy l D tc a Y H.size (((120 * x1) + (6 * (fM_slot x1 x2 (u2 μ 0 0 0)))) + x3) (u2 (u2 μ 0 0 0) 19 x1.toNatClampNeg ((μ 19 x1.toNatClampNeg) + 1)) hi_23 rfl) (gd_V wd_798 wd_800 (gw_s 30 rfl rfl) wd_3 wd_801) (by decide +kernel) ⟨rfl, rfl, Nat.le_of_ble_eq_true rfl, Nat.le_of_ble_eq_true rfl, Nat.le_of_ble_eq_true rfl, Nat.le_of_ble_eq_true rfl⟩ rfl rfl rfl hl.1 rfl (Nat.le_of_ble_eq_true rfl) d_M_found_158 ?_
                      refine lv_iconst (v := (-1)) hx hb d_M_found_161 (by decide) ?_
                      refine lv_icmp_ne (tgt := 188) hx hb d_M_found_162 (by decide) (fun c_24 => ?_) (fun c_24 => ?_)
                      · have hok := hok.2 c_24
                        have hF := (if_neg c_24).symm.trans hF
                        refine lv_aload_n hx hb d_M_found_188 rfl (lv_at hl 2 rfl) ?_
                        refine mg_23 h0 hw d_M_found_189 ?_
                        refine lv_iload hx hb d_M_found_192 (lv_at hl 0 rfl) ?_
                        refine lv_iload hx hb d_M_found_194 (lv_at hl 6 rfl) ?_
                        obtain ⟨hi_25, hok⟩ := hok
                        refine ms_23 h0 hw hi_25 d_M_found_196 (fun H locs hw => ?_)
                        refine lv_aload_n hx hb d_M_found_197 rfl (lv_at hl 2 rfl) ?_
                        refine mg_24 h0 hw d_M_found_198 ?_
                        refine lv_iload hx hb d_M_found_201 (lv_at hl 0 rfl) ?_
                        refine lv_dup2_11 hx hb d_M_found_203 rfl rfl ?_
                        obtain ⟨hi_26, hok⟩ := hok
                        refine ml_24 h0 hw hi_26 d_M_found_204 ?_
                        refine W.eq (g2 := F0 m 205 ls [.int (μ 24 (((120 * x1) + (6 * (fM_slot x1 x2 (u2 μ 0 0 0)))) + x3).toNatClampNeg), .int (((120 * x1) + (6 * (fM_slot x1 x2 (u2 μ 0 0 0)))) + x3), .ref (a 24)]) rfl ?_
                        refine lv_bipush (v := 10) hx hb d_M_found_205 (by decide) ?_
                        refine lv_iload hx hb d_M_found_207 (lv_at hl 7 rfl) ?_
                        refine lv_iconst (v := 1) hx hb d_M_found_209 (by decide) ?_
                        refine lv_iadd hx hb d_M_found_210 ?_
                        refine lv_imul hx hb d_M_found_211 ?_
                        refine lv_iadd hx hb d_M_found_212 ?_
                        obtain ⟨hi_27, hok⟩ := hok
                        refine ms_24 h0 hw hi_27 d_M_found_213 (fun H locs hw => ?_)
                        refine lv_iconst (v := 1) hx hb d_M_found_214 (by decide) ?_
                        exact rt_i h0 hw hr hlocks rfl (u2 (u2 (u2 (u2 μ 0 0 0) 19 x1.toNatClampNeg ((μ 19 x1.toNatClampNeg) + 1)) 23 (((120 * x1) + (6 * (fM_slot x1 x2 (u2 μ 0 0 0)))) + x3).toNatClampNeg x4) 24 (((120 * x1) + (6 * (fM_slot x1 x2 (u2 μ 0 0 0)))) + x3).toNatClampNeg ((μ 24 (((120 * x1) + (6 * (fM_slot x1 x2 (u2 μ 0 0 0)))) + x3).toNatClampNeg) + (10 * (x5 + 1)))) hF rfl d_M_found_215 (Nat.le_refl 0) (Nat.le_refl 0)
                      · have hok := hok.1 c_24
                        have hF := (if_pos c_24).symm.trans hF
                        refine lv_aload_n hx hb d_M_found_165 rfl (lv_at hl 2 rfl) ?_
                        refine mg_22 h0 hw d_M_found_166 ?_
                        refine lv_iload hx hb d_M_found_169 (lv_at hl 0 rfl) ?_
                        refine lv_iload hx hb d_M_found_171 (lv_at hl 6 rfl) ?_
                        obtain ⟨hi_28, hok⟩ := hok
                        refine ms_22 h0 hw hi_28 d_M_found_173 (fun H locs hw => ?_)
                        refine lv_aload_n hx hb d_M_found_174 rfl (lv_at hl 2 rfl) ?_
                        refine mg_24 h0 hw d_M_found_175 ?_
                        refine lv_iload hx hb d_M_found_178 (lv_at hl 0 rfl) ?_
                        refine lv_iload hx hb d_M_found_180 (lv_at hl 7 rfl) ?_
                        refine lv_iconst (v := 1) hx hb d_M_found_182 (by decide) ?_
                        refine lv_iadd hx hb d_M_found_183 ?_
                        obtain ⟨hi_29, hok⟩ := hok
                        refine ms_24 h0 hw hi_29 d_M_found_184 (fun H locs hw => ?_)
                        refine lv_goto (tgt := 214) hx hb d_M_found_185 (by decide) ?_
                        refine lv_iconst (v := 1) hx hb d_M_found_214 (by decide) ?_
                        exact rt_i h0 hw hr hlocks rfl (u2 (u2 (u2 (u2 μ 0 0 0) 19 x1.toNatClampNeg ((μ 19 x1.toNatClampNeg) + 1)) 22 (((120 * x1) + (6 * (fM_slot x1 x2 (u2 μ 0 0 0)))) + x3).toNatClampNeg x4) 24 (((120 * x1) + (6 * (fM_slot x1 x2 (u2 μ 0 0 0)))) + x3).toNatClampNeg (x5 + 1)) hF rfl d_M_found_215 (Nat.le_refl 0) (Nat.le_refl 0)
                    · have hok := hok.2 c_20
                      have hF := (if_neg c_20).symm.trans hF
                      refine lv_bipush (v := (-4)) hx hb d_M_found_142 (by decide) ?_
                      exact rt_i h0 hw hr hlocks rfl (u2 μ 0 0 0) hF rfl d_M_found_144 (Nat.le_refl 0) (Nat.le_refl 0)
                  · have hok := hok.1 c_18
                    have hF := (if_pos c_18).symm.trans hF
                    refine lv_bipush (v := (-3)) hx hb d_M_found_129 (by decide) ?_
                    exact rt_i h0 hw hr hlocks rfl (u2 μ 0 0 0) hF rfl d_M_found_131 (Nat.le_refl 0) (Nat.le_refl 0)
              · have hok := hok.1 c_14
                have hF := (if_pos c_14).symm.trans hF
                refine lv_bipush (v := (-2)) hx hb d_M_found_90 (by decide) ?_
                exact rt_i h0 hw hr hlocks rfl (u2 μ 0 0 0) hF rfl d_M_found_92 (Nat.le_refl 0) (Nat.le_refl 0)
            · have hok := hok.2 c_12
              have hF := (if_neg c_12).symm.trans hF
              refine lv_iconst (v := (-1)) hx hb d_M_found_74 (by decide) ?_
              exact rt_i h0 hw hr hlocks rfl (u2 μ 0 0 0) hF rfl d_M_found_75 (Nat.le_refl 0) (Nat.le_refl 0)
          · have hok := hok.1 c_10
            have hF := (if_pos c_10).symm.trans hF
            refine lv_iconst (v := 2) hx hb d_M_found_47 (by decide) ?_
            refine lv_goto (tgt := 52) hx hb d_M_found_48 (by decide) ?_
            refine mp_0 h0 hw d_M_found_52 (fun H locs hw => ?_)
            refine lv_aload_n hx hb d_M_found_55 rfl (lv_at hl 0 rfl) ?_
            refine mg_0 h0 hw d_M_found_56 ?_
            refine W.eq (g2 := F0 m 59 ls [.int 2]) rfl ?_
            refine lv_if_le (tgt := 64) hx hb d_M_found_59 (by decide) (fun c_0 => absurd c_0 (by decide)) (fun _ => ?_)
            refine lv_iconst (v := 0) hx hb d_M_found_62 (by decide) ?_
            exact rt_i h0 hw hr hlocks rfl (u2 μ 0 0 2) hF rfl d_M_found_63 (Nat.le_refl 0) (Nat.le_refl 0)
    · have hok := hok.1 c_4
      have hF := (if_pos c_4).symm.trans hF
      refine lv_iconst (v := 1) hx hb d_M_found_17 (by decide) ?_
      refine lv_goto (tgt := 52) hx hb d_M_found_18 (by decide) ?_
      refine mp_0 h0 hw d_M_found_52 (fun H locs hw => ?_)
      refine lv_aload_n hx hb d_M_found_55 rfl (lv_at hl 0 rfl) ?_
      refine mg_0 h0 hw d_M_found_56 ?_
      refine W.eq (g2 := F0 m 59 ls [.int 1]) rfl ?_
      refine lv_if_le (tgt := 64) hx hb d_M_found_59 (by decide) (fun c_0 => absurd c_0 (by decide)) (fun _ => ?_)
      refine lv_iconst (v := 0) hx hb d_M_found_62 (by decide) ?_
      exact rt_i h0 hw hr hlocks rfl (u2 μ 0 0 1) hF rfl d_M_found_63 (Nat.le_refl 0) (Nat.le_refl 0)
set_option maxHeartbeats 4000000 in
set_option maxRecDepth 100000 in
theorem cM_second (l : Launch) (D : va_G) (tc : Nat → ClassId) (a : Nat → Nat) (Y : va_W) (sz : Nat) (x1 : Int32) (x2 : Int32) (x3 : Int32) (μ : Nat → Nat → Int32) {F : Int32 × (Nat → Nat → Int32)} (hok : kM_second x1 x2 x3 μ) (hF : fM_second x1 x2 x3 μ = F) : Met l y_M_second (Cond.code y_M_second b_M_second 6 (some .boolean) :: gw) ({ frames := 2, cells := 0, slots := 0, locals := 43 } : Room) (va_Pc [.ref (a 0), .int x1, .int x2, .int x3] (pW D tc (mo tc a μ ++ Y) sz)) (va_Qi (fun r u => (r, u) = F) (fun u t => qW D tc (va_A (mo tc a μ ++ Y) sz) (mo tc a u ++ Y) t) (va_A (mo tc a μ ++ Y) sz)) 0 0 (va_A (mo tc a μ ++ Y) sz) := by
  refine en_W (by decide) (Nat.le_of_ble_eq_true rfl) ?_
  intro p e s m args below meth c ls h0 hr hlocks hin hsz hw hl
  obtain ⟨hx, hb, hml, hown, hts, hK⟩ := id h0
  have hA : ∀ q : Nat, s.heap.size ≤ q → (va_A (mo tc a μ ++ Y) sz) q := fun q h => Or.inr (by rw [← hsz]; exact h)
  generalize va_A (mo tc a μ ++ Y) sz = A at hw hA ⊢
  obtain ⟨H, eH⟩ : ∃ z, z = s.heap := ⟨_, rfl⟩
  obtain ⟨locs, eL⟩ : ∃ z : List Loc, z = [] := ⟨_, rfl⟩
  have hw : wH D A s.heap (mo tc a μ ++ Y) H locs := by rw [eH, eL]; exact hw
  show W p l e _ s m _ below meth c s.heap [] 0 0 _ _
  have gl : W p l e ({ frames := 2, cells := 0, slots := 0, locals := 43 } : Room) s m args below meth c H locs 0 0 (MQ below (va_Qi (fun r u => (r, u) = F) (fun u t => qW D tc A (mo tc a u ++ Y) t) A) args s 0 0 A) (F0 m 0 ls []) := ?_
  · rw [eH, eL] at gl; exact gl
  have hl : lv_has ls 6 [(0, .ref (a 0)), (1, .int x1), (2, .int x2), (3, .int x3)] := hl
  unfold kM_second at hok
  unfold fM_second at hF
  refine lv_aload_n hx hb d_M_second_0 rfl (lv_at hl 0 rfl) ?_
  refine lv_aload_n hx hb d_M_second_1 rfl (lv_at hl 0 rfl) ?_
  refine lv_iload_n hx hb d_M_second_2 rfl (lv_at hl 1 rfl) ?_
  obtain ⟨hi_1, hok⟩ := hok
  refine cv_p (n := 1) (C := "CountRoundsModel") (b := a 0) (q0 := 0) (ci := 4) (As := [.int x1]) (rest := [.ref (a 0)]) h0 hw (cM_isCount l D tc a Y H.size x1 μ hi_1 rfl) (gd_V wd_782 wd_784 (gw_s 27 rfl rfl) wd_3 wd_785) (by decide +kernel) ⟨rfl, rfl, Nat.le_of_ble_eq_true rfl, Nat.le_of_ble_eq_true rfl, Nat.le_of_ble_eq_true rfl, Nat.le_of_ble_eq_true rfl⟩ rfl rfl rfl hl.1 rfl (Nat.le_of_ble_eq_true rfl) d_M_second_3 ?_
  refine lv_if_eq (tgt := 17) hx hb d_M_second_6 (by decide) (fun c_2 => ?_) (fun c_2 => ?_)
  · have hok := hok.1 c_2
    have hF := (if_pos c_2).symm.trans hF
    refine lv_iconst (v := 1) hx hb d_M_second_17 (by decide) ?_
    refine lv_goto (tgt := 22) hx hb d_M_second_18 (by decide) ?_
    refine mp_0 h0 hw d_M_second_22 (fun H locs hw => ?_)
    refine lv_aload_n hx hb d_M_second_25 rfl (lv_at hl 0 rfl) ?_
    refine mg_0 h0 hw d_M_second_26 ?_
    refine W.eq (g2 := F0 m 29 ls [.int 1]) rfl ?_
    refine lv_if_le (tgt := 36) hx hb d_M_second_29 (by decide) (fun c_0 => absurd c_0 (by decide)) (fun _ => ?_)
    refine lv_iconst (v := (-1)) hx hb d_M_second_32 (by decide) ?_
    refine lv_goto (tgt := 42) hx hb d_M_second_33 (by decide) ?_
    refine lv_istore (lv' := [(4, .int (-1)), (0, .ref (a 0)), (1, .int x1), (2, .int x2), (3, .int x3)]) hx hb d_M_second_42 hl (by decide) rfl (fun ls hl => ?_)
    refine lv_aload_n hx hb d_M_second_44 rfl (lv_at hl 1 rfl) ?_
    refine lv_iload hx hb d_M_second_45 (lv_at hl 0 rfl) ?_
    refine lv_iconst (v := (-1)) hx hb d_M_second_47 (by decide) ?_
    refine lv_icmp_ne (tgt := 55) hx hb d_M_second_48 (by decide) (fun c_0 => absurd c_0 (by decide)) (fun _ => ?_)
    refine lv_iconst (v := 1) hx hb d_M_second_51 (by decide) ?_
    refine lv_goto (tgt := 81) hx hb d_M_second_52 (by decide) ?_
    refine mp_0 h0 hw d_M_second_81 (fun H locs hw => ?_)
    refine lv_aload_n hx hb d_M_second_84 rfl (lv_at hl 1 rfl) ?_
    refine mg_0 h0 hw d_M_second_85 ?_
    refine W.eq (g2 := F0 m 88 ls [.int 1]) rfl ?_
    refine lv_if_le (tgt := 93) hx hb d_M_second_88 (by decide) (fun c_0 => absurd c_0 (by decide)) (fun _ => ?_)
    refine lv_iconst (v := 0) hx hb d_M_second_91 (by decide) ?_
    exact rt_i h0 hw hr hlocks rfl (u2 (u2 μ 0 0 1) 0 0 1) hF rfl d_M_second_92 (Nat.le_refl 0) (Nat.le_refl 0)
  · have hok := hok.2 c_2
    have hF := (if_neg c_2).symm.trans hF
    refine lv_aload_n hx hb d_M_second_9 rfl (lv_at hl 0 rfl) ?_
    refine lv_iload_n hx hb d_M_second_10 rfl (lv_at hl 2 rfl) ?_
    obtain ⟨hi_3, hok⟩ := hok
    refine cv_p (n := 1) (C := "CountRoundsModel") (b := a 0) (q0 := 0) (ci := 4) (As := [.int x2]) (rest := [.ref (a 0)]) h0 hw (cM_isPlace l D tc a Y H.size x2 μ hi_3 rfl) (gd_V wd_717 wd_719 (gw_s 22 rfl rfl) wd_3 wd_720) (by decide +kernel) ⟨rfl, rfl, Nat.le_of_ble_eq_true rfl, Nat.le_of_ble_eq_true rfl, Nat.le_of_ble_eq_true rfl, Nat.le_of_ble_eq_true rfl⟩ rfl rfl rfl hl.1 rfl (Nat.le_of_ble_eq_true rfl) d_M_second_11 ?_
    refine lv_if_ne (tgt := 21) hx hb d_M_second_14 (by decide) (fun c_4 => ?_) (fun c_4 => ?_)
    · have hok := hok.2 c_4
      have hF := (if_neg c_4).symm.trans hF
      refine lv_iconst (v := 0) hx hb d_M_second_21 (by decide) ?_
      refine mp_0 h0 hw d_M_second_22 (fun H locs hw => ?_)
      refine lv_aload_n hx hb d_M_second_25 rfl (lv_at hl 0 rfl) ?_
      refine mg_0 h0 hw d_M_second_26 ?_
      refine W.eq (g2 := F0 m 29 ls [.int 0]) rfl ?_
      refine lv_if_le (tgt := 36) hx hb d_M_second_29 (by decide) (fun _ => ?_) (fun c_0 => absurd c_0 (by decide))
      refine lv_aload_n hx hb d_M_second_36 rfl (lv_at hl 0 rfl) ?_
      refine lv_iload_n hx hb d_M_second_37 rfl (lv_at hl 1 rfl) ?_
      refine lv_iload_n hx hb d_M_second_38 rfl (lv_at hl 2 rfl) ?_
      obtain ⟨hi_5, hok⟩ := hok
      refine cv_p (n := 2) (C := "CountRoundsModel") (b := a 0) (q0 := 0) (ci := 4) (As := [.int x1, .int x2]) (rest := []) h0 hw (cM_slot l D tc a Y H.size x1 x2 (u2 μ 0 0 0) hi_5 rfl) (gd_V wd_794 wd_796 (gw_s 29 rfl rfl) wd_3 wd_797) (by decide +kernel) ⟨rfl, rfl, Nat.le_of_ble_eq_true rfl, Nat.le_of_ble_eq_true rfl, Nat.le_of_ble_eq_true rfl, Nat.le_of_ble_eq_true rfl⟩ rfl rfl rfl hl.1 rfl (Nat.le_of_ble_eq_true rfl) d_M_second_39 ?_
      refine lv_istore (lv' := [(4, .int (fM_slot x1 x2 (u2 μ 0 0 0))), (0, .ref (a 0)), (1, .int x1), (2, .int x2), (3, .int x3)]) hx hb d_M_second_42 hl (by decide) rfl (fun ls hl => ?_)
      refine lv_aload_n hx hb d_M_second_44 rfl (lv_at hl 1 rfl) ?_
      refine lv_iload hx hb d_M_second_45 (lv_at hl 0 rfl) ?_
      refine lv_iconst (v := (-1)) hx hb d_M_second_47 (by decide) ?_
      refine lv_icmp_ne (tgt := 55) hx hb d_M_second_48 (by decide) (fun c_6 => ?_) (fun c_6 => ?_)
      · have hok := hok.2 c_6
        have hF := (if_neg c_6).symm.trans hF
        refine lv_iload_n hx hb d_M_second_55 rfl (lv_at hl 4 rfl) ?_
        obtain ⟨hi_7, hok⟩ := hok
        refine cs_p (n := 1) (As := [.int x3]) (rest := [.ref (a 0)]) hx hb hml hown hts (cM_isGood l x3 hi_7 rfl) (gd_S wd_721 wd_722 wd_3 wd_723) (by decide +kernel) ⟨rfl, rfl, Nat.le_of_ble_eq_true rfl, Nat.le_of_ble_eq_true rfl, Nat.le_of_ble_eq_true rfl, Nat.le_of_ble_eq_true rfl⟩ rfl hl.1 rfl (Nat.le_of_ble_eq_true rfl) d_M_second_56 ?_
        refine lv_if_ne (tgt := 66) hx hb d_M_second_59 (by decide) (fun c_8 => ?_) (fun c_8 => ?_)
        · have hok := hok.2 c_8
          have hF := (if_neg c_8).symm.trans hF
          refine lv_aload_n hx hb d_M_second_66 rfl (lv_at hl 1 rfl) ?_
          refine mg_17 h0 hw d_M_second_67 ?_
          refine lv_iload_n hx hb d_M_second_70 rfl (lv_at hl 2 rfl) ?_
          obtain ⟨hi_9, hok⟩ := hok
          refine ml_17 h0 hw hi_9 d_M_second_71 ?_
          refine W.eq (g2 := F0 m 72 ls [.int (μ 17 x1.toNatClampNeg), .ref (a 0)]) rfl ?_
          refine lv_iconst (v := 1) hx hb d_M_second_72 (by decide) ?_
          refine lv_icmp_eq (tgt := 80) hx hb d_M_second_73 (by decide) (fun c_10 => ?_) (fun c_10 => ?_)
          · have hok := hok.1 c_10
            have hF := (if_pos c_10).symm.trans hF
            refine lv_iconst (v := 0) hx hb d_M_second_80 (by decide) ?_
            refine mp_0 h0 hw d_M_second_81 (fun H locs hw => ?_)
            refine lv_aload_n hx hb d_M_second_84 rfl (lv_at hl 1 rfl) ?_
            refine mg_0 h0 hw d_M_second_85 ?_
            refine W.eq (g2 := F0 m 88 ls [.int 0]) rfl ?_
            refine lv_if_le (tgt := 93) hx hb d_M_second_88 (by decide) (fun _ => ?_) (fun c_0 => absurd c_0 (by decide))
            refine lv_bipush (v := 120) hx hb d_M_second_93 (by decide) ?_
            refine lv_iload_n hx hb d_M_second_95 rfl (lv_at hl 2 rfl) ?_
            refine lv_imul hx hb d_M_second_96 ?_
            refine lv_bipush (v := 6) hx hb d_M_second_97 (by decide) ?_
            refine lv_iload hx hb d_M_second_99 (lv_at hl 0 rfl) ?_
            refine lv_imul hx hb d_M_second_101 ?_
            refine lv_iadd hx hb d_M_second_102 ?_
            refine lv_iload_n hx hb d_M_second_103 rfl (lv_at hl 4 rfl) ?_
            refine lv_iadd hx hb d_M_second_104 ?_
            refine lv_istore (lv' := [(5, .int (((120 * x1) + (6 * (fM_slot x1 x2 (u2 μ 0 0 0)))) + x3)), (4, .int (fM_slot x1 x2 (u2 μ 0 0 0))), (0, .ref (a 0)), (1, .int x1), (2, .int x2), (3, .int x3)]) hx hb d_M_second_105 hl (by decide) rfl (fun ls hl => ?_)
            refine lv_aload_n hx hb d_M_second_107 rfl (lv_at hl 2 rfl) ?_
            refine lv_iload hx hb d_M_second_108 (lv_at hl 0 rfl) ?_
            obtain ⟨hi_11, hok⟩ := hok
            refine cv_p (n := 1) (C := "CountRoundsModel") (b := a 0) (q0 := 0) (ci := 4) (As := [.int (((120 * x1) + (6 * (fM_slot x1 x2 (u2 μ 0 0 0)))) + x3)]) (rest := []) h0 hw (cM_firstBy l D tc a Y H.size (((120 * x1) + (6 * (fM_slot x1 x2 (u2 μ 0 0 0)))) + x3) (u2 (u2 μ 0 0 0) 0 0 0) hi_11 rfl) (gd_V wd_798 wd_800 (gw_s 30 rfl rfl) wd_3 wd_801) (by decide +kernel) ⟨rfl, rfl, Nat.le_of_ble_eq_true rfl, Nat.le_of_ble_eq_true rfl, Nat.le_of_ble_eq_true rfl, Nat.le_of_ble_eq_true rfl⟩ rfl rfl rfl hl.1 rfl (Nat.le_of_ble_eq_true rfl) d_M_second_110 ?_
            refine lv_iconst (v := (-1)) hx hb d_M_second_113 (by decide) ?_
            refine lv_icmp_eq (tgt := 162) hx hb d_M_second_114 (by decide) (fun c_12 => ?_) (fun c_12 => ?_)
            · have hok := hok.1 c_12
              have hF := (if_pos c_12).symm.trans hF
              refine lv_iconst (v := 0) hx hb d_M_second_162 (by decide) ?_
              exact rt_i h0 hw hr hlocks rfl (u2 (u2 μ 0 0 0) 0 0 0) hF rfl d_M_second_163 (Nat.le_refl 0) (Nat.le_refl 0)
            · have hok := hok.2 c_12
              have hF := (if_neg c_12).symm.trans hF
              refine lv_aload_n hx hb d_M_second_117 rfl (lv_at hl 2 rfl) ?_
              refine lv_iload hx hb d_M_second_118 (lv_at hl 0 rfl) ?_
              obtain ⟨hi_13, hok⟩ := hok
              refine cv_p (n := 1) (C := "CountRoundsModel") (b := a 0) (q0 := 0) (ci := 4) (As := [.int (((120 * x1) + (6 * (fM_slot x1 x2 (u2 μ 0 0 0)))) + x3)]) (rest := []) h0 hw (cM_secondBy l D tc a Y H.size (((120 * x1) + (6 * (fM_slot x1 x2 (u2 μ 0 0 0)))) + x3) (u2 (u2 μ 0 0 0) 0 0 0) hi_13 rfl) (gd_V wd_802 wd_804 (gw_s 31 rfl rfl) wd_3 wd_805) (by decide +kernel) ⟨rfl, rfl, Nat.le_of_ble_eq_true rfl, Nat.le_of_ble_eq_true rfl, Nat.le_of_ble_eq_true rfl, Nat.le_of_ble_eq_true rfl⟩ rfl rfl rfl hl.1 rfl (Nat.le_of_ble_eq_true rfl) d_M_second_120 ?_
              refine lv_iconst (v := (-1)) hx hb d_M_second_123 (by decide) ?_
              refine lv_icmp_ne (tgt := 162) hx hb d_M_second_124 (by decide) (fun c_14 => ?_) (fun c_14 => ?_)
              · have hok := hok.2 c_14
                have hF := (if_neg c_14).symm.trans hF
                refine lv_iconst (v := 0) hx hb d_M_second_162 (by decide) ?_
                exact rt_i h0 hw hr hlocks rfl (u2 (u2 μ 0 0 0) 0 0 0) hF rfl d_M_second_163 (Nat.le_refl 0) (Nat.le_refl 0)
              · have hok := hok.1 c_14
                have hF := (if_pos c_14).symm.trans hF
                refine lv_aload_n hx hb d_M_second_127 rfl (lv_at hl 2 rfl) ?_
                refine mg_22 h0 hw d_M_second_128 ?_
                refine lv_iload hx hb d_M_second_131 (lv_at hl 0 rfl) ?_
                obtain ⟨hi_15, hok⟩ := hok
                refine ml_22 h0 hw hi_15 d_M_second_133 ?_
                refine W.eq (g2 := F0 m 134 ls [.int (μ 22 (((120 * x1) + (6 * (fM_slot x1 x2 (u2 μ 0 0 0)))) + x3).toNatClampNeg)]) rfl ?_
                refine lv_aload_n hx hb d_M_second_134 rfl (lv_at hl 2 rfl) ?_
                refine mg_21 h0 hw d_M_second_135 ?_
                refine lv_iload hx hb d_M_second_138 (lv_at hl 0 rfl) ?_
                obtain ⟨hi_16, hok⟩ := hok
                refine ml_21 h0 hw hi_16 d_M_second_140 ?_
                refine W.eq (g2 := F0 m 141 ls [.int (μ 21 (((120 * x1) + (6 * (fM_slot x1 x2 (u2 μ 0 0 0)))) + x3).toNatClampNeg), .int (μ 22 (((120 * x1) + (6 * (fM_slot x1 x2 (u2 μ 0 0 0)))) + x3).toNatClampNeg)]) rfl ?_
                obtain ⟨hi_17, hok⟩ := hok
                refine cs_p (n := 2) (As := [.int (μ 22 (((120 * x1) + (6 * (fM_slot x1 x2 (u2 μ 0 0 0)))) + x3).toNatClampNeg), .int (μ 21 (((120 * x1) + (6 * (fM_slot x1 x2 (u2 μ 0 0 0)))) + x3).toNatClampNeg)]) (rest := []) hx hb hml hown hts (cM_far l (μ 22 (((120 * x1) + (6 * (fM_slot x1 x2 (u2 μ 0 0 0)))) + x3).toNatClampNeg) (μ 21 (((120 * x1) + (6 * (fM_slot x1 x2 (u2 μ 0 0 0)))) + x3).toNatClampNeg) hi_17 rfl) (gd_S wd_810 wd_811 wd_3 wd_812) (by decide +kernel) ⟨rfl, rfl, Nat.le_of_ble_eq_true rfl, Nat.le_of_ble_eq_true rfl, Nat.le_of_ble_eq_true rfl, Nat.le_of_ble_eq_true rfl⟩ rfl hl.1 rfl (Nat.le_of_ble_eq_true rfl) d_M_second_141 ?_
                refine lv_aload_n hx hb d_M_second_144 rfl (lv_at hl 2 rfl) ?_
                refine mg_8 h0 hw d_M_second_145 ?_
                refine lv_aload_n hx hb d_M_second_148 rfl (lv_at hl 2 rfl) ?_
                refine mg_4 h0 hw d_M_second_149 ?_
                refine lv_iload_n hx hb d_M_second_152 rfl (lv_at hl 4 rfl) ?_
                obtain ⟨hi_18, hok⟩ := hok
                refine ml_4 h0 hw hi_18 d_M_second_153 ?_
                refine W.eq (g2 := F0 m 154 ls [.int (μ 4 x2.toNatClampNeg), .ref (a 8), .int (fM_far (μ 22 (((120 * x1) + (6 * (fM_slot x1 x2 (u2 μ 0 0 0)))) + x3).toNatClampNeg) (μ 21 (((120 * x1) + (6 * (fM_slot x1 x2 (u2 μ 0 0 0)))) + x3).toNatClampNeg))]) rfl ?_
                obtain ⟨hi_19, hok⟩ := hok
                refine ml_8 h0 hw hi_19 d_M_second_154 ?_
                refine W.eq (g2 := F0 m 155 ls [.int (μ 8 (μ 4 x2.toNatClampNeg).toNatClampNeg), .int (fM_far (μ 22 (((120 * x1) + (6 * (fM_slot x1 x2 (u2 μ 0 0 0)))) + x3).toNatClampNeg) (μ 21 (((120 * x1) + (6 * (fM_slot x1 x2 (u2 μ 0 0 0)))) + x3).toNatClampNeg))]) rfl ?_
                refine lv_icmp_le (tgt := 162) hx hb d_M_second_155 (by decide) (fun c_20 => ?_) (fun c_20 => ?_)
                · have hok := hok.1 c_20
                  have hF := (if_pos c_20).symm.trans hF
                  refine lv_iconst (v := 0) hx hb d_M_second_162 (by decide) ?_
                  exact rt_i h0 hw hr hlocks rfl (u2 (u2 μ 0 0 0) 0 0 0) hF rfl d_M_second_163 (Nat.le_refl 0) (Nat.le_refl 0)
                · have hok := hok.2 c_20
                  have hF := (if_neg c_20).symm.trans hF
                  refine lv_iconst (v := 1) hx hb d_M_second_158 (by decide) ?_
                  refine lv_goto (tgt := 163) hx hb d_M_second_159 (by decide) ?_
                  exact rt_i h0 hw hr hlocks rfl (u2 (u2 μ 0 0 0) 0 0 0) hF rfl d_M_second_163 (Nat.le_refl 0) (Nat.le_refl 0)
          · have hok := hok.2 c_10
            have hF := (if_neg c_10).symm.trans hF
            refine lv_iconst (v := 3) hx hb d_M_second_76 (by decide) ?_
            refine lv_goto (tgt := 81) hx hb d_M_second_77 (by decide) ?_
            refine mp_0 h0 hw d_M_second_81 (fun H locs hw => ?_)
            refine lv_aload_n hx hb d_M_second_84 rfl (lv_at hl 1 rfl) ?_
            refine mg_0 h0 hw d_M_second_85 ?_
            refine W.eq (g2 := F0 m 88 ls [.int 3]) rfl ?_
            refine lv_if_le (tgt := 93) hx hb d_M_second_88 (by decide) (fun c_0 => absurd c_0 (by decide)) (fun _ => ?_)
            refine lv_iconst (v := 0) hx hb d_M_second_91 (by decide) ?_
            exact rt_i h0 hw hr hlocks rfl (u2 (u2 μ 0 0 0) 0 0 3) hF rfl d_M_second_92 (Nat.le_refl 0) (Nat.le_refl 0)
        · have hok := hok.1 c_8
          have hF := (if_pos c_8).symm.trans hF
          refine lv_iconst (v := 2) hx hb d_M_second_62 (by decide) ?_
          refine lv_goto (tgt := 81) hx hb d_M_second_63 (by decide) ?_
          refine mp_0 h0 hw d_M_second_81 (fun H locs hw => ?_)
          refine lv_aload_n hx hb d_M_second_84 rfl (lv_at hl 1 rfl) ?_
          refine mg_0 h0 hw d_M_second_85 ?_
          refine W.eq (g2 := F0 m 88 ls [.int 2]) rfl ?_
          refine lv_if_le (tgt := 93) hx hb d_M_second_88 (by decide) (fun c_0 => absurd c_0 (by decide)) (fun _ => ?_)
          refine lv_iconst (v := 0) hx hb d_M_second_91 (by decide) ?_
          exact rt_i h0 hw hr hlocks rfl (u2 (u2 μ 0 0 0) 0 0 2) hF rfl d_M_second_92 (Nat.le_refl 0) (Nat.le_refl 0)
      · have hok := hok.1 c_6
        have hF := (if_pos c_6).symm.trans hF
        refine lv_iconst (v := 1) hx hb d_M_second_51 (by decide) ?_
        refine lv_goto (tgt := 81) hx hb d_M_second_52 (by decide) ?_
        refine mp_0 h0 hw d_M_second_81 (fun H locs hw => ?_)
        refine lv_aload_n hx hb d_M_second_84 rfl (lv_at hl 1 rfl) ?_
        refine mg_0 h0 hw d_M_second_85 ?_
        refine W.eq (g2 := F0 m 88 ls [.int 1]) rfl ?_
        refine lv_if_le (tgt := 93) hx hb d_M_second_88 (by decide) (fun c_0 => absurd c_0 (by decide)) (fun _ => ?_)
        refine lv_iconst (v := 0) hx hb d_M_second_91 (by decide) ?_
        exact rt_i h0 hw hr hlocks rfl (u2 (u2 μ 0 0 0) 0 0 1) hF rfl d_M_second_92 (Nat.le_refl 0) (Nat.le_refl 0)
    · have hok := hok.1 c_4
      have hF := (if_pos c_4).symm.trans hF
      refine lv_iconst (v := 1) hx hb d_M_second_17 (by decide) ?_
      refine lv_goto (tgt := 22) hx hb d_M_second_18 (by decide) ?_
      refine mp_0 h0 hw d_M_second_22 (fun H locs hw => ?_)
      refine lv_aload_n hx hb d_M_second_25 rfl (lv_at hl 0 rfl) ?_
      refine mg_0 h0 hw d_M_second_26 ?_
      refine W.eq (g2 := F0 m 29 ls [.int 1]) rfl ?_
      refine lv_if_le (tgt := 36) hx hb d_M_second_29 (by decide) (fun c_0 => absurd c_0 (by decide)) (fun _ => ?_)
      refine lv_iconst (v := (-1)) hx hb d_M_second_32 (by decide) ?_
      refine lv_goto (tgt := 42) hx hb d_M_second_33 (by decide) ?_
      refine lv_istore (lv' := [(4, .int (-1)), (0, .ref (a 0)), (1, .int x1), (2, .int x2), (3, .int x3)]) hx hb d_M_second_42 hl (by decide) rfl (fun ls hl => ?_)
      refine lv_aload_n hx hb d_M_second_44 rfl (lv_at hl 1 rfl) ?_
      refine lv_iload hx hb d_M_second_45 (lv_at hl 0 rfl) ?_
      refine lv_iconst (v := (-1)) hx hb d_M_second_47 (by decide) ?_
      refine lv_icmp_ne (tgt := 55) hx hb d_M_second_48 (by decide) (fun c_0 => absurd c_0 (by decide)) (fun _ => ?_)
      refine lv_iconst (v := 1) hx hb d_M_second_51 (by decide) ?_
      refine lv_goto (tgt := 81) hx hb d_M_second_52 (by decide) ?_
      refine mp_0 h0 hw d_M_second_81 (fun H locs hw => ?_)
      refine lv_aload_n hx hb d_M_second_84 rfl (lv_at hl 1 rfl) ?_
      refine mg_0 h0 hw d_M_second_85 ?_
      refine W.eq (g2 := F0 m 88 ls [.int 1]) rfl ?_
      refine lv_if_le (tgt := 93) hx hb d_M_second_88 (by decide) (fun c_0 => absurd c_0 (by decide)) (fun _ => ?_)
      refine lv_iconst (v := 0) hx hb d_M_second_91 (by decide) ?_
      exact rt_i h0 hw hr hlocks rfl (u2 (u2 μ 0 0 1) 0 0 1) hF rfl d_M_second_92 (Nat.le_refl 0) (Nat.le_refl 0)
set_option maxHeartbeats 4000000 in
set_option maxRecDepth 100000 in
theorem cM_close (l : Launch) (D : va_G) (tc : Nat → ClassId) (a : Nat → Nat) (Y : va_W) (sz : Nat) (x1 : Int32) (μ : Nat → Nat → Int32) {F : Int32 × (Nat → Nat → Int32)} (hok : kM_close x1 μ) (hF : fM_close x1 μ = F) : Met l y_M_close (Cond.code y_M_close b_M_close 3 (some .int) :: gw) ({ frames := 3, cells := 0, slots := 0, locals := 68 } : Room) (va_Pc [.ref (a 0), .int x1] (pW D tc (mo tc a μ ++ Y) sz)) (va_Qi (fun r u => (r, u) = F) (fun u t => qW D tc (va_A (mo tc a μ ++ Y) sz) (mo tc a u ++ Y) t) (va_A (mo tc a μ ++ Y) sz)) 0 0 (va_A (mo tc a μ ++ Y) sz) := by
  refine en_W (by decide) (Nat.le_of_ble_eq_true rfl) ?_
  intro p e s m args below meth c ls h0 hr hlocks hin hsz hw hl
  obtain ⟨hx, hb, hml, hown, hts, hK⟩ := id h0
  have hA : ∀ q : Nat, s.heap.size ≤ q → (va_A (mo tc a μ ++ Y) sz) q := fun q h => Or.inr (by rw [← hsz]; exact h)
  generalize va_A (mo tc a μ ++ Y) sz = A at hw hA ⊢
  obtain ⟨H, eH⟩ : ∃ z, z = s.heap := ⟨_, rfl⟩
  obtain ⟨locs, eL⟩ : ∃ z : List Loc, z = [] := ⟨_, rfl⟩
  have hw : wH D A s.heap (mo tc a μ ++ Y) H locs := by rw [eH, eL]; exact hw
  show W p l e _ s m _ below meth c s.heap [] 0 0 _ _
  have gl : W p l e ({ frames := 3, cells := 0, slots := 0, locals := 68 } : Room) s m args below meth c H locs 0 0 (MQ below (va_Qi (fun r u => (r, u) = F) (fun u t => qW D tc A (mo tc a u ++ Y) t) A) args s 0 0 A) (F0 m 0 ls []) := ?_
  · rw [eH, eL] at gl; exact gl
  have hl : lv_has ls 3 [(0, .ref (a 0)), (1, .int x1)] := hl
  unfold kM_close at hok
  unfold fM_close at hF
  refine lv_aload_n hx hb d_M_close_0 rfl (lv_at hl 0 rfl) ?_
  refine lv_aload_n hx hb d_M_close_1 rfl (lv_at hl 0 rfl) ?_
  refine lv_iload_n hx hb d_M_close_2 rfl (lv_at hl 1 rfl) ?_
  obtain ⟨hi_1, hok⟩ := hok
  refine cv_p (n := 1) (C := "CountRoundsModel") (b := a 0) (q0 := 0) (ci := 4) (As := [.int x1]) (rest := [.ref (a 0)]) h0 hw (cM_isCount l D tc a Y H.size x1 μ hi_1 rfl) (gd_V wd_782 wd_784 (gw_s 27 rfl rfl) wd_3 wd_785) (by decide +kernel) ⟨rfl, rfl, Nat.le_of_ble_eq_true rfl, Nat.le_of_ble_eq_true rfl, Nat.le_of_ble_eq_true rfl, Nat.le_of_ble_eq_true rfl⟩ rfl rfl rfl hl.1 rfl (Nat.le_of_ble_eq_true rfl) d_M_close_3 ?_
  refine lv_if_ne (tgt := 13) hx hb d_M_close_6 (by decide) (fun c_2 => ?_) (fun c_2 => ?_)
  · have hok := hok.2 c_2
    have hF := (if_neg c_2).symm.trans hF
    refine lv_iconst (v := 0) hx hb d_M_close_13 (by decide) ?_
    refine mp_0 h0 hw d_M_close_14 (fun H locs hw => ?_)
    refine lv_aload_n hx hb d_M_close_17 rfl (lv_at hl 0 rfl) ?_
    refine mg_0 h0 hw d_M_close_18 ?_
    refine W.eq (g2 := F0 m 21 ls [.int 0]) rfl ?_
    refine lv_if_ne (tgt := 43) hx hb d_M_close_21 (by decide) (fun c_0 => absurd c_0 (by decide)) (fun _ => ?_)
    refine lv_aload_n hx hb d_M_close_24 rfl (lv_at hl 0 rfl) ?_
    refine lv_aload_n hx hb d_M_close_25 rfl (lv_at hl 0 rfl) ?_
    refine mg_17 h0 hw d_M_close_26 ?_
    refine lv_iload_n hx hb d_M_close_29 rfl (lv_at hl 1 rfl) ?_
    obtain ⟨hi_3, hok⟩ := hok
    refine ml_17 h0 hw hi_3 d_M_close_30 ?_
    refine W.eq (g2 := F0 m 31 ls [.int (μ 17 x1.toNatClampNeg), .ref (a 0)]) rfl ?_
    refine lv_iconst (v := 1) hx hb d_M_close_31 (by decide) ?_
    refine lv_icmp_eq (tgt := 39) hx hb d_M_close_32 (by decide) (fun c_4 => ?_) (fun c_4 => ?_)
    · have hok := hok.1 c_4
      have hF := (if_pos c_4).symm.trans hF
      refine lv_iconst (v := 0) hx hb d_M_close_39 (by decide) ?_
      refine mp_0 h0 hw d_M_close_40 (fun H locs hw => ?_)
      refine lv_aload_n hx hb d_M_close_43 rfl (lv_at hl 0 rfl) ?_
      refine mg_0 h0 hw d_M_close_44 ?_
      refine W.eq (g2 := F0 m 47 ls [.int 0]) rfl ?_
      refine lv_if_le (tgt := 52) hx hb d_M_close_47 (by decide) (fun _ => ?_) (fun c_0 => absurd c_0 (by decide))
      refine lv_aload_n hx hb d_M_close_52 rfl (lv_at hl 0 rfl) ?_
      refine mg_17 h0 hw d_M_close_53 ?_
      refine lv_iload_n hx hb d_M_close_56 rfl (lv_at hl 1 rfl) ?_
      refine lv_iconst (v := 2) hx hb d_M_close_57 (by decide) ?_
      obtain ⟨hi_5, hok⟩ := hok
      refine ms_17 h0 hw hi_5 d_M_close_58 (fun H locs hw => ?_)
      refine lv_iconst (v := 0) hx hb d_M_close_59 (by decide) ?_
      refine lv_istore_n (lv' := [(2, .int 0), (0, .ref (a 0)), (1, .int x1)]) hx hb d_M_close_60 rfl hl (by decide) rfl (fun ls hl => ?_)
      have hx_61 : ∀ (x1 : Int32) (x2 : Int32) (μ : Nat → Nat → Int32) (H : Heap) (locs : List Loc) (ls : Array Slot), wH D A s.heap (mo tc a μ ++ Y) H locs → lv_has ls 3 [(0, .ref (a 0)), (1, .int x1), (2, .int x2)] → kM_close_61x x1 x2 μ → fM_close_61x x1 x2 μ = F → W p l e ({ frames := 3, cells := 0, slots := 0, locals := 68 } : Room) s m args below meth c H locs 0 0 (MQ below (va_Qi (fun r u => (r, u) = F) (fun u t => qW D tc A (mo tc a u ++ Y) t) A) args s 0 0 A) (F0 m 83 ls []) := by
        intro x1 x2 μ H locs ls hw hl hok hF
        unfold kM_close_61x at hok
        unfold fM_close_61x at hF
        refine lv_iconst (v := 0) hx hb d_M_close_83 (by decide) ?_
        refine lv_istore_n (lv' := [(2, .int 0), (0, .ref (a 0)), (1, .int x1)]) hx hb d_M_close_84 rfl hl (by decide) rfl (fun ls hl => ?_)
        have hx_85 : ∀ (x1 : Int32) (x2 : Int32) (μ : Nat → Nat → Int32) (H : Heap) (locs : List Loc) (ls : Array Slot), wH D A s.heap (mo tc a μ ++ Y) H locs → lv_has ls 3 [(0, .ref (a 0)), (1, .int x1), (2, .int x2)] → kM_close_85x x1 x2 μ → fM_close_85x x1 x2 μ = F → W p l e ({ frames := 3, cells := 0, slots := 0, locals := 68 } : Room) s m args below meth c H locs 0 0 (MQ below (va_Qi (fun r u => (r, u) = F) (fun u t => qW D tc A (mo tc a u ++ Y) t) A) args s 0 0 A) (F0 m 101 ls []) := by
          intro x1 x2 μ H locs ls hw hl hok hF
          unfold kM_close_85x at hok
          unfold fM_close_85x at hF
          refine lv_iload_n hx hb d_M_close_101 rfl (lv_at hl 2 rfl) ?_
          exact rt_i h0 hw hr hlocks rfl μ hF rfl d_M_close_102 (Nat.le_refl 0) (Nat.le_refl 0)
        have lp_85 : ∀ (n85 : Nat) (x1 : Int32) (x2 : Int32) (μ : Nat → Nat → Int32) (H : Heap) (locs : List Loc) (ls : Array Slot), wH D A s.heap (mo tc a μ ++ Y) H locs → lv_has ls 3 [(0, .ref (a 0)), (1, .int x1), (2, .int x2)] → kM_close_85 kM_close_85x n85 x1 x2 μ → fM_close_85 fM_close_85x n85 x1 x2 μ = F → W p l e ({ frames := 3, cells := 0, slots := 0, locals := 68 } : Room) s m args below meth c H locs 0 0 (MQ below (va_Qi (fun r u => (r, u) = F) (fun u t => qW D tc A (mo tc a u ++ Y) t) A) args s 0 0 A) (F0 m 85 ls []) := by
          intro n85
          induction n85 with
          | zero =>
            intro x1 x2 μ H locs ls hw hl hok hF
            unfold kM_close_85 at hok
            exact hok.elim
          | succ n85 ih_85 =>
            intro x1 x2 μ H locs ls hw hl hok hF
            unfold kM_close_85 at hok
            unfold fM_close_85 at hF
            refine lv_aload_n hx hb d_M_close_85 rfl (lv_at hl 0 rfl) ?_
            refine lv_iload_n hx hb d_M_close_86 rfl (lv_at hl 1 rfl) ?_
            refine lv_iload_n hx hb d_M_close_87 rfl (lv_at hl 2 rfl) ?_
            obtain ⟨hi_6, hok⟩ := hok
            refine cv_p (n := 2) (C := "CountRoundsModel") (b := a 0) (q0 := 0) (ci := 4) (As := [.int x1, .int x2]) (rest := []) h0 hw (cM_difference l D tc a Y H.size x1 x2 μ hi_6 rfl) (gd_V wd_829 wd_831 (gw_s 35 rfl rfl) wd_3 wd_832) (by decide +kernel) ⟨rfl, rfl, Nat.le_of_ble_eq_true rfl, Nat.le_of_ble_eq_true rfl, Nat.le_of_ble_eq_true rfl, Nat.le_of_ble_eq_true rfl⟩ rfl rfl rfl hl.1 rfl (Nat.le_of_ble_eq_true rfl) d_M_close_88 ?_
            refine lv_iconst (v := (-1)) hx hb d_M_close_91 (by decide) ?_
            refine lv_icmp_eq (tgt := 101) hx hb d_M_close_92 (by decide) (fun c_7 => ?_) (fun c_7 => ?_)
            · have hok := hok.1 c_7
              have hF := (if_pos c_7).symm.trans hF
              exact hx_85 x1 x2 μ H locs ls hw (lv_sub hl [0, 1, 2] rfl) hok hF
            · have hok := hok.2 c_7
              have hF := (if_neg c_7).symm.trans hF
              refine lv_iinc (v := x2 + 1) (lv' := [(2, .int (x2 + 1)), (0, .ref (a 0)), (1, .int x1)]) hx hb d_M_close_95 hl (k := 2) rfl rfl (by decide) rfl (fun ls hl => ?_)
              refine lv_goto (tgt := 85) hx hb d_M_close_98 (by decide) ?_
              exact ih_85 x1 (x2 + 1) μ H locs ls hw (lv_sub hl [1, 2, 0] rfl) hok hF
        exact lp_85 200 x1 0 μ H locs ls hw (lv_sub hl [1, 2, 0] rfl) hok hF
      have lp_61 : ∀ (n61 : Nat) (x1 : Int32) (x2 : Int32) (μ : Nat → Nat → Int32) (H : Heap) (locs : List Loc) (ls : Array Slot), wH D A s.heap (mo tc a μ ++ Y) H locs → lv_has ls 3 [(0, .ref (a 0)), (1, .int x1), (2, .int x2)] → kM_close_61 kM_close_61x n61 x1 x2 μ → fM_close_61 fM_close_61x n61 x1 x2 μ = F → W p l e ({ frames := 3, cells := 0, slots := 0, locals := 68 } : Room) s m args below meth c H locs 0 0 (MQ below (va_Qi (fun r u => (r, u) = F) (fun u t => qW D tc A (mo tc a u ++ Y) t) A) args s 0 0 A) (F0 m 61 ls []) := by
        intro n61
        induction n61 with
        | zero =>
          intro x1 x2 μ H locs ls hw hl hok hF
          unfold kM_close_61 at hok
          exact hok.elim
        | succ n61 ih_61 =>
          intro x1 x2 μ H locs ls hw hl hok hF
          unfold kM_close_61 at hok
          unfold fM_close_61 at hF
          refine lv_iload_n hx hb d_M_close_61 rfl (lv_at hl 2 rfl) ?_
          refine lv_aload_n hx hb d_M_close_62 rfl (lv_at hl 0 rfl) ?_
          refine mg_18 h0 hw d_M_close_63 ?_
          refine lv_iload_n hx hb d_M_close_66 rfl (lv_at hl 1 rfl) ?_
          obtain ⟨hi_8, hok⟩ := hok
          refine ml_18 h0 hw hi_8 d_M_close_67 ?_
          refine lv_icmp_ge (tgt := 83) hx hb d_M_close_68 (by decide) (fun c_9 => ?_) (fun c_9 => ?_)
          · have hok := hok.1 c_9
            have hF := (if_pos c_9).symm.trans hF
            exact hx_61 x1 x2 μ H locs ls hw (lv_sub hl [0, 1, 2] rfl) hok hF
          · have hok := hok.2 c_9
            have hF := (if_neg c_9).symm.trans hF
            refine lv_aload_n hx hb d_M_close_71 rfl (lv_at hl 0 rfl) ?_
            refine lv_iload_n hx hb d_M_close_72 rfl (lv_at hl 1 rfl) ?_
            refine lv_iload_n hx hb d_M_close_73 rfl (lv_at hl 2 rfl) ?_
            obtain ⟨hi_10, hok⟩ := hok
            refine cv_v (n := 2) (C := "CountRoundsModel") (b := a 0) (q0 := 0) (ci := 4) (As := [.int x1, .int x2]) (rest := []) h0 hw hA (cM_closePlace l D tc a Y _ x1 x2 μ hi_10 rfl) (gd_V wd_817 wd_819 (gw_s 32 rfl rfl) wd_3 wd_820) (by decide +kernel) ⟨rfl, rfl, Nat.le_of_ble_eq_true rfl, Nat.le_of_ble_eq_true rfl, Nat.le_of_ble_eq_true rfl, Nat.le_of_ble_eq_true rfl⟩ rfl rfl rfl hl.1 rfl (Nat.le_of_ble_eq_true rfl) d_M_close_74 (fun u H locs hu hw => ?_)
            subst hu
            refine lv_iinc (v := x2 + 1) (lv' := [(2, .int (x2 + 1)), (0, .ref (a 0)), (1, .int x1)]) hx hb d_M_close_77 hl (k := 2) rfl rfl (by decide) rfl (fun ls hl => ?_)
            refine lv_goto (tgt := 61) hx hb d_M_close_80 (by decide) ?_
            exact ih_61 x1 (x2 + 1) (fM_closePlace x1 x2 μ) H locs ls hw (lv_sub hl [1, 2, 0] rfl) hok hF
      exact lp_61 200 x1 0 (u2 (u2 (u2 μ 0 0 0) 0 0 0) 17 x1.toNatClampNeg 2) H locs ls hw (lv_sub hl [1, 2, 0] rfl) hok hF
    · have hok := hok.2 c_4
      have hF := (if_neg c_4).symm.trans hF
      refine lv_iconst (v := 2) hx hb d_M_close_35 (by decide) ?_
      refine lv_goto (tgt := 40) hx hb d_M_close_36 (by decide) ?_
      refine mp_0 h0 hw d_M_close_40 (fun H locs hw => ?_)
      refine lv_aload_n hx hb d_M_close_43 rfl (lv_at hl 0 rfl) ?_
      refine mg_0 h0 hw d_M_close_44 ?_
      refine W.eq (g2 := F0 m 47 ls [.int 2]) rfl ?_
      refine lv_if_le (tgt := 52) hx hb d_M_close_47 (by decide) (fun c_0 => absurd c_0 (by decide)) (fun _ => ?_)
      refine lv_iconst (v := 0) hx hb d_M_close_50 (by decide) ?_
      exact rt_i h0 hw hr hlocks rfl (u2 (u2 μ 0 0 0) 0 0 2) hF rfl d_M_close_51 (Nat.le_refl 0) (Nat.le_refl 0)
  · have hok := hok.1 c_2
    have hF := (if_pos c_2).symm.trans hF
    refine lv_iconst (v := 1) hx hb d_M_close_9 (by decide) ?_
    refine lv_goto (tgt := 14) hx hb d_M_close_10 (by decide) ?_
    refine mp_0 h0 hw d_M_close_14 (fun H locs hw => ?_)
    refine lv_aload_n hx hb d_M_close_17 rfl (lv_at hl 0 rfl) ?_
    refine mg_0 h0 hw d_M_close_18 ?_
    refine W.eq (g2 := F0 m 21 ls [.int 1]) rfl ?_
    refine lv_if_ne (tgt := 43) hx hb d_M_close_21 (by decide) (fun _ => ?_) (fun c_0 => absurd c_0 (by decide))
    refine lv_aload_n hx hb d_M_close_43 rfl (lv_at hl 0 rfl) ?_
    refine mg_0 h0 hw d_M_close_44 ?_
    refine W.eq (g2 := F0 m 47 ls [.int 1]) rfl ?_
    refine lv_if_le (tgt := 52) hx hb d_M_close_47 (by decide) (fun c_0 => absurd c_0 (by decide)) (fun _ => ?_)
    refine lv_iconst (v := 0) hx hb d_M_close_50 (by decide) ?_
    exact rt_i h0 hw hr hlocks rfl (u2 μ 0 0 1) hF rfl d_M_close_51 (Nat.le_refl 0) (Nat.le_refl 0)
set_option maxHeartbeats 4000000 in
set_option maxRecDepth 100000 in
theorem cM_differ (l : Launch) (D : va_G) (tc : Nat → ClassId) (a : Nat → Nat) (Y : va_W) (sz : Nat) (x1 : Int32) (x2 : Int32) (x3 : Int32) (μ : Nat → Nat → Int32) {F : Int32 × (Nat → Nat → Int32)} (hok : kM_differ x1 x2 x3 μ) (hF : fM_differ x1 x2 x3 μ = F) : Met l y_M_differ (Cond.code y_M_differ b_M_differ 5 (some .int) :: gw) ({ frames := 3, cells := 0, slots := 0, locals := 68 } : Room) (va_Pc [.ref (a 0), .int x1, .int x2, .int x3] (pW D tc (mo tc a μ ++ Y) sz)) (va_Qi (fun r u => (r, u) = F) (fun u t => qW D tc (va_A (mo tc a μ ++ Y) sz) (mo tc a u ++ Y) t) (va_A (mo tc a μ ++ Y) sz)) 0 0 (va_A (mo tc a μ ++ Y) sz) := by
  refine en_W (by decide) (Nat.le_of_ble_eq_true rfl) ?_
  intro p e s m args below meth c ls h0 hr hlocks hin hsz hw hl
  obtain ⟨hx, hb, hml, hown, hts, hK⟩ := id h0
  have hA : ∀ q : Nat, s.heap.size ≤ q → (va_A (mo tc a μ ++ Y) sz) q := fun q h => Or.inr (by rw [← hsz]; exact h)
  generalize va_A (mo tc a μ ++ Y) sz = A at hw hA ⊢
  obtain ⟨H, eH⟩ : ∃ z, z = s.heap := ⟨_, rfl⟩
  obtain ⟨locs, eL⟩ : ∃ z : List Loc, z = [] := ⟨_, rfl⟩
  have hw : wH D A s.heap (mo tc a μ ++ Y) H locs := by rw [eH, eL]; exact hw
  show W p l e _ s m _ below meth c s.heap [] 0 0 _ _
  have gl : W p l e ({ frames := 3, cells := 0, slots := 0, locals := 68 } : Room) s m args below meth c H locs 0 0 (MQ below (va_Qi (fun r u => (r, u) = F) (fun u t => qW D tc A (mo tc a u ++ Y) t) A) args s 0 0 A) (F0 m 0 ls []) := ?_
  · rw [eH, eL] at gl; exact gl
  have hl : lv_has ls 5 [(0, .ref (a 0)), (1, .int x1), (2, .int x2), (3, .int x3)] := hl
  unfold kM_differ at hok
  unfold fM_differ at hF
  refine lv_aload_n hx hb d_M_differ_0 rfl (lv_at hl 0 rfl) ?_
  refine lv_iload_n hx hb d_M_differ_1 rfl (lv_at hl 1 rfl) ?_
  obtain ⟨hi_1, hok⟩ := hok
  refine cv_p (n := 1) (C := "CountRoundsModel") (b := a 0) (q0 := 0) (ci := 4) (As := [.int x1]) (rest := []) h0 hw (cM_isCount l D tc a Y H.size x1 μ hi_1 rfl) (gd_V wd_782 wd_784 (gw_s 27 rfl rfl) wd_3 wd_785) (by decide +kernel) ⟨rfl, rfl, Nat.le_of_ble_eq_true rfl, Nat.le_of_ble_eq_true rfl, Nat.le_of_ble_eq_true rfl, Nat.le_of_ble_eq_true rfl⟩ rfl rfl rfl hl.1 rfl (Nat.le_of_ble_eq_true rfl) d_M_differ_2 ?_
  refine lv_if_eq (tgt := 17) hx hb d_M_differ_5 (by decide) (fun c_2 => ?_) (fun c_2 => ?_)
  · have hok := hok.1 c_2
    have hF := (if_pos c_2).symm.trans hF
    refine lv_iconst (v := (-1)) hx hb d_M_differ_17 (by decide) ?_
    refine lv_istore (lv' := [(4, .int (-1)), (0, .ref (a 0)), (1, .int x1), (2, .int x2), (3, .int x3)]) hx hb d_M_differ_18 hl (by decide) rfl (fun ls hl => ?_)
    refine lv_aload_n hx hb d_M_differ_20 rfl (lv_at hl 1 rfl) ?_
    refine lv_iload hx hb d_M_differ_21 (lv_at hl 0 rfl) ?_
    refine lv_iconst (v := (-1)) hx hb d_M_differ_23 (by decide) ?_
    refine lv_icmp_ne (tgt := 31) hx hb d_M_differ_24 (by decide) (fun c_0 => absurd c_0 (by decide)) (fun _ => ?_)
    refine lv_iconst (v := 1) hx hb d_M_differ_27 (by decide) ?_
    refine lv_goto (tgt := 45) hx hb d_M_differ_28 (by decide) ?_
    refine mp_0 h0 hw d_M_differ_45 (fun H locs hw => ?_)
    refine lv_aload_n hx hb d_M_differ_48 rfl (lv_at hl 1 rfl) ?_
    refine mg_0 h0 hw d_M_differ_49 ?_
    refine W.eq (g2 := F0 m 52 ls [.int 1]) rfl ?_
    refine lv_if_le (tgt := 57) hx hb d_M_differ_52 (by decide) (fun c_0 => absurd c_0 (by decide)) (fun _ => ?_)
    refine lv_iconst (v := 0) hx hb d_M_differ_55 (by decide) ?_
    exact rt_i h0 hw hr hlocks rfl (u2 μ 0 0 1) hF rfl d_M_differ_56 (Nat.le_refl 0) (Nat.le_refl 0)
  · have hok := hok.2 c_2
    have hF := (if_neg c_2).symm.trans hF
    refine lv_aload_n hx hb d_M_differ_8 rfl (lv_at hl 0 rfl) ?_
    refine lv_iload_n hx hb d_M_differ_9 rfl (lv_at hl 1 rfl) ?_
    refine lv_iload_n hx hb d_M_differ_10 rfl (lv_at hl 2 rfl) ?_
    obtain ⟨hi_3, hok⟩ := hok
    refine cv_p (n := 2) (C := "CountRoundsModel") (b := a 0) (q0 := 0) (ci := 4) (As := [.int x1, .int x2]) (rest := []) h0 hw (cM_difference l D tc a Y H.size x1 x2 μ hi_3 rfl) (gd_V wd_829 wd_831 (gw_s 35 rfl rfl) wd_3 wd_832) (by decide +kernel) ⟨rfl, rfl, Nat.le_of_ble_eq_true rfl, Nat.le_of_ble_eq_true rfl, Nat.le_of_ble_eq_true rfl, Nat.le_of_ble_eq_true rfl⟩ rfl rfl rfl hl.1 rfl (Nat.le_of_ble_eq_true rfl) d_M_differ_11 ?_
    refine lv_goto (tgt := 18) hx hb d_M_differ_14 (by decide) ?_
    refine lv_istore (lv' := [(4, .int (fM_difference x1 x2 μ)), (0, .ref (a 0)), (1, .int x1), (2, .int x2), (3, .int x3)]) hx hb d_M_differ_18 hl (by decide) rfl (fun ls hl => ?_)
    refine lv_aload_n hx hb d_M_differ_20 rfl (lv_at hl 1 rfl) ?_
    refine lv_iload hx hb d_M_differ_21 (lv_at hl 0 rfl) ?_
    refine lv_iconst (v := (-1)) hx hb d_M_differ_23 (by decide) ?_
    refine lv_icmp_ne (tgt := 31) hx hb d_M_differ_24 (by decide) (fun c_4 => ?_) (fun c_4 => ?_)
    · have hok := hok.2 c_4
      have hF := (if_neg c_4).symm.trans hF
      refine lv_iload_n hx hb d_M_differ_31 rfl (lv_at hl 4 rfl) ?_
      refine lv_iconst (v := 0) hx hb d_M_differ_32 (by decide) ?_
      refine lv_iconst (v := 5) hx hb d_M_differ_33 (by decide) ?_
      obtain ⟨hi_5, hok⟩ := hok
      refine cs_p (n := 3) (As := [.int x3, .int 0, .int 5]) (rest := [.ref (a 0)]) hx hb hml hown hts (cM_in l x3 0 5 hi_5 rfl) (gd_S wd_710 wd_711 wd_3 wd_712) (by decide +kernel) ⟨rfl, rfl, Nat.le_of_ble_eq_true rfl, Nat.le_of_ble_eq_true rfl, Nat.le_of_ble_eq_true rfl, Nat.le_of_ble_eq_true rfl⟩ rfl hl.1 rfl (Nat.le_of_ble_eq_true rfl) d_M_differ_34 ?_
      refine lv_if_ne (tgt := 44) hx hb d_M_differ_37 (by decide) (fun c_6 => ?_) (fun c_6 => ?_)
      · have hok := hok.2 c_6
        have hF := (if_neg c_6).symm.trans hF
        refine lv_iconst (v := 0) hx hb d_M_differ_44 (by decide) ?_
        refine mp_0 h0 hw d_M_differ_45 (fun H locs hw => ?_)
        refine lv_aload_n hx hb d_M_differ_48 rfl (lv_at hl 1 rfl) ?_
        refine mg_0 h0 hw d_M_differ_49 ?_
        refine W.eq (g2 := F0 m 52 ls [.int 0]) rfl ?_
        refine lv_if_le (tgt := 57) hx hb d_M_differ_52 (by decide) (fun _ => ?_) (fun c_0 => absurd c_0 (by decide))
        refine lv_iload_n hx hb d_M_differ_57 rfl (lv_at hl 4 rfl) ?_
        refine lv_if_ne (tgt := 71) hx hb d_M_differ_58 (by decide) (fun c_7 => ?_) (fun c_7 => ?_)
        · have hok := hok.2 c_7
          have hF := (if_neg c_7).symm.trans hF
          refine lv_iload_n hx hb d_M_differ_71 rfl (lv_at hl 4 rfl) ?_
          refine lv_iconst (v := 1) hx hb d_M_differ_72 (by decide) ?_
          refine lv_icmp_ne (tgt := 82) hx hb d_M_differ_73 (by decide) (fun c_8 => ?_) (fun c_8 => ?_)
          · have hok := hok.2 c_8
            have hF := (if_neg c_8).symm.trans hF
            refine lv_iload_n hx hb d_M_differ_82 rfl (lv_at hl 4 rfl) ?_
            refine lv_iconst (v := 2) hx hb d_M_differ_83 (by decide) ?_
            refine lv_icmp_ne (tgt := 102) hx hb d_M_differ_84 (by decide) (fun c_9 => ?_) (fun c_9 => ?_)
            · have hok := hok.2 c_9
              have hF := (if_neg c_9).symm.trans hF
              refine lv_iload_n hx hb d_M_differ_102 rfl (lv_at hl 4 rfl) ?_
              refine lv_iconst (v := 3) hx hb d_M_differ_103 (by decide) ?_
              refine lv_icmp_ne (tgt := 133) hx hb d_M_differ_104 (by decide) (fun c_10 => ?_) (fun c_10 => ?_)
              · have hok := hok.2 c_10
                have hF := (if_neg c_10).symm.trans hF
                refine lv_iload_n hx hb d_M_differ_133 rfl (lv_at hl 4 rfl) ?_
                refine lv_iconst (v := 4) hx hb d_M_differ_134 (by decide) ?_
                refine lv_icmp_ne (tgt := 151) hx hb d_M_differ_135 (by decide) (fun c_11 => ?_) (fun c_11 => ?_)
                · have hok := hok.2 c_11
                  have hF := (if_neg c_11).symm.trans hF
                  refine lv_aload_n hx hb d_M_differ_151 rfl (lv_at hl 1 rfl) ?_
                  refine mg_25 h0 hw d_M_differ_152 ?_
                  refine lv_iload hx hb d_M_differ_155 (lv_at hl 0 rfl) ?_
                  obtain ⟨hi_12, hok⟩ := hok
                  refine ml_25 h0 hw hi_12 d_M_differ_157 ?_
                  refine W.eq (g2 := F0 m 158 ls [.int (μ 25 (fM_difference x1 x2 μ).toNatClampNeg)]) rfl ?_
                  refine lv_bipush (v := 10) hx hb d_M_differ_158 (by decide) ?_
                  refine lv_irem hx hb d_M_differ_160 (by decide) ?_
                  refine lv_iconst (v := 1) hx hb d_M_differ_161 (by decide) ?_
                  refine lv_isub hx hb d_M_differ_162 ?_
                  exact rt_i h0 hw hr hlocks rfl (u2 μ 0 0 0) hF rfl d_M_differ_163 (Nat.le_refl 0) (Nat.le_refl 0)
                · have hok := hok.1 c_11
                  have hF := (if_pos c_11).symm.trans hF
                  refine lv_aload_n hx hb d_M_differ_138 rfl (lv_at hl 1 rfl) ?_
                  refine mg_25 h0 hw d_M_differ_139 ?_
                  refine lv_iload hx hb d_M_differ_142 (lv_at hl 0 rfl) ?_
                  obtain ⟨hi_13, hok⟩ := hok
                  refine ml_25 h0 hw hi_13 d_M_differ_144 ?_
                  refine W.eq (g2 := F0 m 145 ls [.int (μ 25 (fM_difference x1 x2 μ).toNatClampNeg)]) rfl ?_
                  refine lv_bipush (v := 10) hx hb d_M_differ_145 (by decide) ?_
                  refine lv_idiv hx hb d_M_differ_147 (by decide) ?_
                  refine lv_goto (tgt := 163) hx hb d_M_differ_148 (by decide) ?_
                  exact rt_i h0 hw hr hlocks rfl (u2 μ 0 0 0) hF rfl d_M_differ_163 (Nat.le_refl 0) (Nat.le_refl 0)
              · have hok := hok.1 c_10
                have hF := (if_pos c_10).symm.trans hF
                refine lv_aload_n hx hb d_M_differ_107 rfl (lv_at hl 1 rfl) ?_
                refine lv_iload hx hb d_M_differ_108 (lv_at hl 0 rfl) ?_
                obtain ⟨hi_14, hok⟩ := hok
                refine cv_p (n := 1) (C := "CountRoundsModel") (b := a 0) (q0 := 0) (ci := 4) (As := [.int (fM_difference x1 x2 μ)]) (rest := []) h0 hw (cM_secondBy l D tc a Y H.size (fM_difference x1 x2 μ) (u2 μ 0 0 0) hi_14 rfl) (gd_V wd_802 wd_804 (gw_s 31 rfl rfl) wd_3 wd_805) (by decide +kernel) ⟨rfl, rfl, Nat.le_of_ble_eq_true rfl, Nat.le_of_ble_eq_true rfl, Nat.le_of_ble_eq_true rfl, Nat.le_of_ble_eq_true rfl⟩ rfl rfl rfl hl.1 rfl (Nat.le_of_ble_eq_true rfl) d_M_differ_110 ?_
                refine lv_iconst (v := (-1)) hx hb d_M_differ_113 (by decide) ?_
                refine lv_icmp_eq (tgt := 126) hx hb d_M_differ_114 (by decide) (fun c_15 => ?_) (fun c_15 => ?_)
                · have hok := hok.1 c_15
                  have hF := (if_pos c_15).symm.trans hF
                  refine lv_aload_n hx hb d_M_differ_126 rfl (lv_at hl 1 rfl) ?_
                  refine lv_iload hx hb d_M_differ_127 (lv_at hl 0 rfl) ?_
                  obtain ⟨hi_16, hok⟩ := hok
                  refine cv_p (n := 1) (C := "CountRoundsModel") (b := a 0) (q0 := 0) (ci := 4) (As := [.int (fM_difference x1 x2 μ)]) (rest := []) h0 hw (cM_firstBy l D tc a Y H.size (fM_difference x1 x2 μ) (u2 μ 0 0 0) hi_16 rfl) (gd_V wd_798 wd_800 (gw_s 30 rfl rfl) wd_3 wd_801) (by decide +kernel) ⟨rfl, rfl, Nat.le_of_ble_eq_true rfl, Nat.le_of_ble_eq_true rfl, Nat.le_of_ble_eq_true rfl, Nat.le_of_ble_eq_true rfl⟩ rfl rfl rfl hl.1 rfl (Nat.le_of_ble_eq_true rfl) d_M_differ_129 ?_
                  exact rt_i h0 hw hr hlocks rfl (u2 μ 0 0 0) hF rfl d_M_differ_132 (Nat.le_refl 0) (Nat.le_refl 0)
                · have hok := hok.2 c_15
                  have hF := (if_neg c_15).symm.trans hF
                  refine lv_aload_n hx hb d_M_differ_117 rfl (lv_at hl 1 rfl) ?_
                  refine lv_iload hx hb d_M_differ_118 (lv_at hl 0 rfl) ?_
                  obtain ⟨hi_17, hok⟩ := hok
                  refine cv_p (n := 1) (C := "CountRoundsModel") (b := a 0) (q0 := 0) (ci := 4) (As := [.int (fM_difference x1 x2 μ)]) (rest := []) h0 hw (cM_secondBy l D tc a Y H.size (fM_difference x1 x2 μ) (u2 μ 0 0 0) hi_17 rfl) (gd_V wd_802 wd_804 (gw_s 31 rfl rfl) wd_3 wd_805) (by decide +kernel) ⟨rfl, rfl, Nat.le_of_ble_eq_true rfl, Nat.le_of_ble_eq_true rfl, Nat.le_of_ble_eq_true rfl, Nat.le_of_ble_eq_true rfl⟩ rfl rfl rfl hl.1 rfl (Nat.le_of_ble_eq_true rfl) d_M_differ_120 ?_
                  refine lv_goto (tgt := 132) hx hb d_M_differ_123 (by decide) ?_
                  exact rt_i h0 hw hr hlocks rfl (u2 μ 0 0 0) hF rfl d_M_differ_132 (Nat.le_refl 0) (Nat.le_refl 0)
            · have hok := hok.1 c_9
              have hF := (if_pos c_9).symm.trans hF
              refine lv_aload_n hx hb d_M_differ_87 rfl (lv_at hl 1 rfl) ?_
              refine lv_iload hx hb d_M_differ_88 (lv_at hl 0 rfl) ?_
              obtain ⟨hi_18, hok⟩ := hok
              refine cv_p (n := 1) (C := "CountRoundsModel") (b := a 0) (q0 := 0) (ci := 4) (As := [.int (fM_difference x1 x2 μ)]) (rest := []) h0 hw (cM_counts l D tc a Y H.size (fM_difference x1 x2 μ) (u2 μ 0 0 0) hi_18 rfl) (gd_V wd_825 wd_827 (gw_s 34 rfl rfl) wd_3 wd_828) (by decide +kernel) ⟨rfl, rfl, Nat.le_of_ble_eq_true rfl, Nat.le_of_ble_eq_true rfl, Nat.le_of_ble_eq_true rfl, Nat.le_of_ble_eq_true rfl⟩ rfl rfl rfl hl.1 rfl (Nat.le_of_ble_eq_true rfl) d_M_differ_90 ?_
              refine lv_aload_n hx hb d_M_differ_93 rfl (lv_at hl 1 rfl) ?_
              refine mg_21 h0 hw d_M_differ_94 ?_
              refine lv_iload hx hb d_M_differ_97 (lv_at hl 0 rfl) ?_
              obtain ⟨hi_19, hok⟩ := hok
              refine ml_21 h0 hw hi_19 d_M_differ_99 ?_
              refine W.eq (g2 := F0 m 100 ls [.int (μ 21 (fM_difference x1 x2 μ).toNatClampNeg), .int (fM_counts (fM_difference x1 x2 μ) (u2 μ 0 0 0))]) rfl ?_
              refine lv_isub hx hb d_M_differ_100 ?_
              exact rt_i h0 hw hr hlocks rfl (u2 μ 0 0 0) hF rfl d_M_differ_101 (Nat.le_refl 0) (Nat.le_refl 0)
          · have hok := hok.1 c_8
            have hF := (if_pos c_8).symm.trans hF
            refine lv_iload hx hb d_M_differ_76 (lv_at hl 0 rfl) ?_
            refine lv_bipush (v := 6) hx hb d_M_differ_78 (by decide) ?_
            refine lv_irem hx hb d_M_differ_80 (by decide) ?_
            exact rt_i h0 hw hr hlocks rfl (u2 μ 0 0 0) hF rfl d_M_differ_81 (Nat.le_refl 0) (Nat.le_refl 0)
        · have hok := hok.1 c_7
          have hF := (if_pos c_7).symm.trans hF
          refine lv_aload_n hx hb d_M_differ_61 rfl (lv_at hl 1 rfl) ?_
          refine lv_iload hx hb d_M_differ_62 (lv_at hl 0 rfl) ?_
          obtain ⟨hi_20, hok⟩ := hok
          refine cv_p (n := 1) (C := "CountRoundsModel") (b := a 0) (q0 := 0) (ci := 4) (As := [.int (fM_difference x1 x2 μ)]) (rest := []) h0 hw (cM_bookedAt l D tc a Y H.size (fM_difference x1 x2 μ) (u2 μ 0 0 0) hi_20 rfl) (gd_V wd_837 wd_839 (gw_s 36 rfl rfl) wd_3 wd_840) (by decide +kernel) ⟨rfl, rfl, Nat.le_of_ble_eq_true rfl, Nat.le_of_ble_eq_true rfl, Nat.le_of_ble_eq_true rfl, Nat.le_of_ble_eq_true rfl⟩ rfl rfl rfl hl.1 rfl (Nat.le_of_ble_eq_true rfl) d_M_differ_64 ?_
          refine lv_bipush (v := 6) hx hb d_M_differ_67 (by decide) ?_
          refine lv_idiv hx hb d_M_differ_69 (by decide) ?_
          exact rt_i h0 hw hr hlocks rfl (u2 μ 0 0 0) hF rfl d_M_differ_70 (Nat.le_refl 0) (Nat.le_refl 0)
      · have hok := hok.1 c_6
        have hF := (if_pos c_6).symm.trans hF
        refine lv_iconst (v := 2) hx hb d_M_differ_40 (by decide) ?_
        refine lv_goto (tgt := 45) hx hb d_M_differ_41 (by decide) ?_
        refine mp_0 h0 hw d_M_differ_45 (fun H locs hw => ?_)
        refine lv_aload_n hx hb d_M_differ_48 rfl (lv_at hl 1 rfl) ?_
        refine mg_0 h0 hw d_M_differ_49 ?_
        refine W.eq (g2 := F0 m 52 ls [.int 2]) rfl ?_
        refine lv_if_le (tgt := 57) hx hb d_M_differ_52 (by decide) (fun c_0 => absurd c_0 (by decide)) (fun _ => ?_)
        refine lv_iconst (v := 0) hx hb d_M_differ_55 (by decide) ?_
        exact rt_i h0 hw hr hlocks rfl (u2 μ 0 0 2) hF rfl d_M_differ_56 (Nat.le_refl 0) (Nat.le_refl 0)
    · have hok := hok.1 c_4
      have hF := (if_pos c_4).symm.trans hF
      refine lv_iconst (v := 1) hx hb d_M_differ_27 (by decide) ?_
      refine lv_goto (tgt := 45) hx hb d_M_differ_28 (by decide) ?_
      refine mp_0 h0 hw d_M_differ_45 (fun H locs hw => ?_)
      refine lv_aload_n hx hb d_M_differ_48 rfl (lv_at hl 1 rfl) ?_
      refine mg_0 h0 hw d_M_differ_49 ?_
      refine W.eq (g2 := F0 m 52 ls [.int 1]) rfl ?_
      refine lv_if_le (tgt := 57) hx hb d_M_differ_52 (by decide) (fun c_0 => absurd c_0 (by decide)) (fun _ => ?_)
      refine lv_iconst (v := 0) hx hb d_M_differ_55 (by decide) ?_
      exact rt_i h0 hw hr hlocks rfl (u2 μ 0 0 1) hF rfl d_M_differ_56 (Nat.le_refl 0) (Nat.le_refl 0)
set_option maxHeartbeats 4000000 in
set_option maxRecDepth 100000 in
theorem cM_correct (l : Launch) (D : va_G) (tc : Nat → ClassId) (a : Nat → Nat) (Y : va_W) (sz : Nat) (x1 : Int32) (x2 : Int32) (x3 : Int32) (μ : Nat → Nat → Int32) {F : Int32 × (Nat → Nat → Int32)} (hok : kM_correct x1 x2 x3 μ) (hF : fM_correct x1 x2 x3 μ = F) : Met l y_M_correct (Cond.code y_M_correct b_M_correct 8 (some .boolean) :: gw) ({ frames := 3, cells := 0, slots := 0, locals := 68 } : Room) (va_Pc [.ref (a 0), .int x1, .int x2, .int x3] (pW D tc (mo tc a μ ++ Y) sz)) (va_Qi (fun r u => (r, u) = F) (fun u t => qW D tc (va_A (mo tc a μ ++ Y) sz) (mo tc a u ++ Y) t) (va_A (mo tc a μ ++ Y) sz)) 0 0 (va_A (mo tc a μ ++ Y) sz) := by
  refine en_W (by decide) (Nat.le_of_ble_eq_true rfl) ?_
  intro p e s m args below meth c ls h0 hr hlocks hin hsz hw hl
  obtain ⟨hx, hb, hml, hown, hts, hK⟩ := id h0
  have hA : ∀ q : Nat, s.heap.size ≤ q → (va_A (mo tc a μ ++ Y) sz) q := fun q h => Or.inr (by rw [← hsz]; exact h)
  generalize va_A (mo tc a μ ++ Y) sz = A at hw hA ⊢
  obtain ⟨H, eH⟩ : ∃ z, z = s.heap := ⟨_, rfl⟩
  obtain ⟨locs, eL⟩ : ∃ z : List Loc, z = [] := ⟨_, rfl⟩
  have hw : wH D A s.heap (mo tc a μ ++ Y) H locs := by rw [eH, eL]; exact hw
  show W p l e _ s m _ below meth c s.heap [] 0 0 _ _
  have gl : W p l e ({ frames := 3, cells := 0, slots := 0, locals := 68 } : Room) s m args below meth c H locs 0 0 (MQ below (va_Qi (fun r u => (r, u) = F) (fun u t => qW D tc A (mo tc a u ++ Y) t) A) args s 0 0 A) (F0 m 0 ls []) := ?_
  · rw [eH, eL] at gl; exact gl
  have hl : lv_has ls 8 [(0, .ref (a 0)), (1, .int x1), (2, .int x2), (3, .int x3)] := hl
  unfold kM_correct at hok
  unfold fM_correct at hF
  refine lv_aload_n hx hb d_M_correct_0 rfl (lv_at hl 0 rfl) ?_
  refine lv_iload_n hx hb d_M_correct_1 rfl (lv_at hl 1 rfl) ?_
  obtain ⟨hi_1, hok⟩ := hok
  refine cv_p (n := 1) (C := "CountRoundsModel") (b := a 0) (q0 := 0) (ci := 4) (As := [.int x1]) (rest := []) h0 hw (cM_isCount l D tc a Y H.size x1 μ hi_1 rfl) (gd_V wd_782 wd_784 (gw_s 27 rfl rfl) wd_3 wd_785) (by decide +kernel) ⟨rfl, rfl, Nat.le_of_ble_eq_true rfl, Nat.le_of_ble_eq_true rfl, Nat.le_of_ble_eq_true rfl, Nat.le_of_ble_eq_true rfl⟩ rfl rfl rfl hl.1 rfl (Nat.le_of_ble_eq_true rfl) d_M_correct_2 ?_
  refine lv_if_eq (tgt := 17) hx hb d_M_correct_5 (by decide) (fun c_2 => ?_) (fun c_2 => ?_)
  · have hok := hok.1 c_2
    have hF := (if_pos c_2).symm.trans hF
    refine lv_iconst (v := (-1)) hx hb d_M_correct_17 (by decide) ?_
    refine lv_istore (lv' := [(4, .int (-1)), (0, .ref (a 0)), (1, .int x1), (2, .int x2), (3, .int x3)]) hx hb d_M_correct_18 hl (by decide) rfl (fun ls hl => ?_)
    refine lv_aload_n hx hb d_M_correct_20 rfl (lv_at hl 1 rfl) ?_
    refine lv_iload hx hb d_M_correct_21 (lv_at hl 0 rfl) ?_
    refine lv_iconst (v := (-1)) hx hb d_M_correct_23 (by decide) ?_
    refine lv_icmp_ne (tgt := 31) hx hb d_M_correct_24 (by decide) (fun c_0 => absurd c_0 (by decide)) (fun _ => ?_)
    refine lv_iconst (v := 1) hx hb d_M_correct_27 (by decide) ?_
    refine lv_goto (tgt := 59) hx hb d_M_correct_28 (by decide) ?_
    refine mp_0 h0 hw d_M_correct_59 (fun H locs hw => ?_)
    refine lv_aload_n hx hb d_M_correct_62 rfl (lv_at hl 1 rfl) ?_
    refine mg_0 h0 hw d_M_correct_63 ?_
    refine W.eq (g2 := F0 m 66 ls [.int 1]) rfl ?_
    refine lv_if_le (tgt := 71) hx hb d_M_correct_66 (by decide) (fun c_0 => absurd c_0 (by decide)) (fun _ => ?_)
    refine lv_iconst (v := 0) hx hb d_M_correct_69 (by decide) ?_
    exact rt_i h0 hw hr hlocks rfl (u2 μ 0 0 1) hF rfl d_M_correct_70 (Nat.le_refl 0) (Nat.le_refl 0)
  · have hok := hok.2 c_2
    have hF := (if_neg c_2).symm.trans hF
    refine lv_aload_n hx hb d_M_correct_8 rfl (lv_at hl 0 rfl) ?_
    refine lv_iload_n hx hb d_M_correct_9 rfl (lv_at hl 1 rfl) ?_
    refine lv_iload_n hx hb d_M_correct_10 rfl (lv_at hl 2 rfl) ?_
    obtain ⟨hi_3, hok⟩ := hok
    refine cv_p (n := 2) (C := "CountRoundsModel") (b := a 0) (q0 := 0) (ci := 4) (As := [.int x1, .int x2]) (rest := []) h0 hw (cM_difference l D tc a Y H.size x1 x2 μ hi_3 rfl) (gd_V wd_829 wd_831 (gw_s 35 rfl rfl) wd_3 wd_832) (by decide +kernel) ⟨rfl, rfl, Nat.le_of_ble_eq_true rfl, Nat.le_of_ble_eq_true rfl, Nat.le_of_ble_eq_true rfl, Nat.le_of_ble_eq_true rfl⟩ rfl rfl rfl hl.1 rfl (Nat.le_of_ble_eq_true rfl) d_M_correct_11 ?_
    refine lv_goto (tgt := 18) hx hb d_M_correct_14 (by decide) ?_
    refine lv_istore (lv' := [(4, .int (fM_difference x1 x2 μ)), (0, .ref (a 0)), (1, .int x1), (2, .int x2), (3, .int x3)]) hx hb d_M_correct_18 hl (by decide) rfl (fun ls hl => ?_)
    refine lv_aload_n hx hb d_M_correct_20 rfl (lv_at hl 1 rfl) ?_
    refine lv_iload hx hb d_M_correct_21 (lv_at hl 0 rfl) ?_
    refine lv_iconst (v := (-1)) hx hb d_M_correct_23 (by decide) ?_
    refine lv_icmp_ne (tgt := 31) hx hb d_M_correct_24 (by decide) (fun c_4 => ?_) (fun c_4 => ?_)
    · have hok := hok.2 c_4
      have hF := (if_neg c_4).symm.trans hF
      refine lv_iload_n hx hb d_M_correct_31 rfl (lv_at hl 4 rfl) ?_
      obtain ⟨hi_5, hok⟩ := hok
      refine cs_p (n := 1) (As := [.int x3]) (rest := [.ref (a 0)]) hx hb hml hown hts (cM_isPerson l x3 hi_5 rfl) (gd_S wd_733 wd_734 wd_3 wd_735) (by decide +kernel) ⟨rfl, rfl, Nat.le_of_ble_eq_true rfl, Nat.le_of_ble_eq_true rfl, Nat.le_of_ble_eq_true rfl, Nat.le_of_ble_eq_true rfl⟩ rfl hl.1 rfl (Nat.le_of_ble_eq_true rfl) d_M_correct_32 ?_
      refine lv_if_ne (tgt := 42) hx hb d_M_correct_35 (by decide) (fun c_6 => ?_) (fun c_6 => ?_)
      · have hok := hok.2 c_6
        have hF := (if_neg c_6).symm.trans hF
        refine lv_aload_n hx hb d_M_correct_42 rfl (lv_at hl 1 rfl) ?_
        refine mg_25 h0 hw d_M_correct_43 ?_
        refine lv_iload hx hb d_M_correct_46 (lv_at hl 0 rfl) ?_
        obtain ⟨hi_7, hok⟩ := hok
        refine ml_25 h0 hw hi_7 d_M_correct_48 ?_
        refine lv_bipush (v := 10) hx hb d_M_correct_49 (by decide) ?_
        refine lv_icmp_lt (tgt := 58) hx hb d_M_correct_51 (by decide) (fun c_8 => ?_) (fun c_8 => ?_)
        · have hok := hok.1 c_8
          have hF := (if_pos c_8).symm.trans hF
          refine lv_iconst (v := 0) hx hb d_M_correct_58 (by decide) ?_
          refine mp_0 h0 hw d_M_correct_59 (fun H locs hw => ?_)
          refine lv_aload_n hx hb d_M_correct_62 rfl (lv_at hl 1 rfl) ?_
          refine mg_0 h0 hw d_M_correct_63 ?_
          refine W.eq (g2 := F0 m 66 ls [.int 0]) rfl ?_
          refine lv_if_le (tgt := 71) hx hb d_M_correct_66 (by decide) (fun _ => ?_) (fun c_0 => absurd c_0 (by decide))
          refine lv_aload_n hx hb d_M_correct_71 rfl (lv_at hl 1 rfl) ?_
          refine mg_25 h0 hw d_M_correct_72 ?_
          refine lv_iload hx hb d_M_correct_75 (lv_at hl 0 rfl) ?_
          obtain ⟨hi_9, hok⟩ := hok
          refine ml_25 h0 hw hi_9 d_M_correct_77 ?_
          refine W.eq (g2 := F0 m 78 ls [.int (μ 25 (fM_difference x1 x2 μ).toNatClampNeg)]) rfl ?_
          refine lv_bipush (v := 10) hx hb d_M_correct_78 (by decide) ?_
          refine lv_irem hx hb d_M_correct_80 (by decide) ?_
          refine lv_iconst (v := 1) hx hb d_M_correct_81 (by decide) ?_
          refine lv_isub hx hb d_M_correct_82 ?_
          refine lv_istore (lv' := [(5, .int (((μ 25 (fM_difference x1 x2 μ).toNatClampNeg) - (μ 25 (fM_difference x1 x2 μ).toNatClampNeg) / 10 * 10) - 1)), (4, .int (fM_difference x1 x2 μ)), (0, .ref (a 0)), (1, .int x1), (2, .int x2), (3, .int x3)]) hx hb d_M_correct_83 hl (by decide) rfl (fun ls hl => ?_)
          refine lv_aload_n hx hb d_M_correct_85 rfl (lv_at hl 2 rfl) ?_
          refine mg_9 h0 hw d_M_correct_86 ?_
          refine lv_iload_n hx hb d_M_correct_89 rfl (lv_at hl 5 rfl) ?_
          obtain ⟨hi_10, hok⟩ := hok
          refine ml_9 h0 hw hi_10 d_M_correct_90 ?_
          refine W.eq (g2 := F0 m 91 ls [.int (μ 9 x3.toNatClampNeg)]) rfl ?_
          refine lv_aload_n hx hb d_M_correct_91 rfl (lv_at hl 2 rfl) ?_
          refine lv_iload hx hb d_M_correct_92 (lv_at hl 1 rfl) ?_
          obtain ⟨hi_11, hok⟩ := hok
          refine cv_p (n := 1) (C := "CountRoundsModel") (b := a 0) (q0 := 0) (ci := 4) (As := [.int (fM_difference x1 x2 μ)]) (rest := [.int (μ 9 x3.toNatClampNeg)]) h0 hw (cM_counts l D tc a Y H.size (fM_difference x1 x2 μ) (u2 μ 0 0 0) hi_11 rfl) (gd_V wd_825 wd_827 (gw_s 34 rfl rfl) wd_3 wd_828) (by decide +kernel) ⟨rfl, rfl, Nat.le_of_ble_eq_true rfl, Nat.le_of_ble_eq_true rfl, Nat.le_of_ble_eq_true rfl, Nat.le_of_ble_eq_true rfl⟩ rfl rfl rfl hl.1 rfl (Nat.le_of_ble_eq_true rfl) d_M_correct_94 ?_
          refine lv_aload_n hx hb d_M_correct_97 rfl (lv_at hl 2 rfl) ?_
          refine mg_21 h0 hw d_M_correct_98 ?_
          refine lv_iload hx hb d_M_correct_101 (lv_at hl 1 rfl) ?_
          obtain ⟨hi_12, hok⟩ := hok
          refine ml_21 h0 hw hi_12 d_M_correct_103 ?_
          refine W.eq (g2 := F0 m 104 ls [.int (μ 21 (fM_difference x1 x2 μ).toNatClampNeg), .int (fM_counts (fM_difference x1 x2 μ) (u2 μ 0 0 0)), .int (μ 9 x3.toNatClampNeg)]) rfl ?_
          obtain ⟨hi_13, hok⟩ := hok
          refine cs_p (n := 2) (As := [.int (fM_counts (fM_difference x1 x2 μ) (u2 μ 0 0 0)), .int (μ 21 (fM_difference x1 x2 μ).toNatClampNeg)]) (rest := [.int (μ 9 x3.toNatClampNeg)]) hx hb hml hown hts (cM_far l (fM_counts (fM_difference x1 x2 μ) (u2 μ 0 0 0)) (μ 21 (fM_difference x1 x2 μ).toNatClampNeg) hi_13 rfl) (gd_S wd_810 wd_811 wd_3 wd_812) (by decide +kernel) ⟨rfl, rfl, Nat.le_of_ble_eq_true rfl, Nat.le_of_ble_eq_true rfl, Nat.le_of_ble_eq_true rfl, Nat.le_of_ble_eq_true rfl⟩ rfl hl.1 rfl (Nat.le_of_ble_eq_true rfl) d_M_correct_104 ?_
          refine lv_icmp_ge (tgt := 122) hx hb d_M_correct_107 (by decide) (fun c_14 => ?_) (fun c_14 => ?_)
          · have hok := hok.1 c_14
            have hF := (if_pos c_14).symm.trans hF
            refine lv_iconst (v := 1) hx hb d_M_correct_122 (by decide) ?_
            refine lv_goto (tgt := 127) hx hb d_M_correct_123 (by decide) ?_
            refine lv_istore (lv' := [(6, .int 1), (5, .int (((μ 25 (fM_difference x1 x2 μ).toNatClampNeg) - (μ 25 (fM_difference x1 x2 μ).toNatClampNeg) / 10 * 10) - 1)), (4, .int (fM_difference x1 x2 μ)), (0, .ref (a 0)), (1, .int x1), (2, .int x2), (3, .int x3)]) hx hb d_M_correct_127 hl (by decide) rfl (fun ls hl => ?_)
            refine lv_iload hx hb d_M_correct_129 (lv_at hl 0 rfl) ?_
            refine lv_if_ne (tgt := 146) hx hb d_M_correct_131 (by decide) (fun _ => ?_) (fun c_0 => absurd c_0 (by decide))
            refine lv_aload_n hx hb d_M_correct_146 rfl (lv_at hl 3 rfl) ?_
            refine mg_6 h0 hw d_M_correct_147 ?_
            refine lv_aload_n hx hb d_M_correct_150 rfl (lv_at hl 3 rfl) ?_
            refine lv_iload hx hb d_M_correct_151 (lv_at hl 2 rfl) ?_
            obtain ⟨hi_15, hok⟩ := hok
            refine cv_p (n := 1) (C := "CountRoundsModel") (b := a 0) (q0 := 0) (ci := 4) (As := [.int (fM_difference x1 x2 μ)]) (rest := [.ref (a 6)]) h0 hw (cM_bookedAt l D tc a Y H.size (fM_difference x1 x2 μ) (u2 μ 0 0 0) hi_15 rfl) (gd_V wd_837 wd_839 (gw_s 36 rfl rfl) wd_3 wd_840) (by decide +kernel) ⟨rfl, rfl, Nat.le_of_ble_eq_true rfl, Nat.le_of_ble_eq_true rfl, Nat.le_of_ble_eq_true rfl, Nat.le_of_ble_eq_true rfl⟩ rfl rfl rfl hl.1 rfl (Nat.le_of_ble_eq_true rfl) d_M_correct_153 ?_
            obtain ⟨hi_16, hok⟩ := hok
            refine ml_6 h0 hw hi_16 d_M_correct_156 ?_
            refine W.eq (g2 := F0 m 157 ls [.int (μ 6 (fM_bookedAt (fM_difference x1 x2 μ) (u2 μ 0 0 0)).toNatClampNeg)]) rfl ?_
            refine lv_aload_n hx hb d_M_correct_157 rfl (lv_at hl 3 rfl) ?_
            refine lv_iload hx hb d_M_correct_158 (lv_at hl 2 rfl) ?_
            obtain ⟨hi_17, hok⟩ := hok
            refine cv_p (n := 1) (C := "CountRoundsModel") (b := a 0) (q0 := 0) (ci := 4) (As := [.int (fM_difference x1 x2 μ)]) (rest := [.int (μ 6 (fM_bookedAt (fM_difference x1 x2 μ) (u2 μ 0 0 0)).toNatClampNeg)]) h0 hw (cM_counts l D tc a Y H.size (fM_difference x1 x2 μ) (u2 μ 0 0 0) hi_17 rfl) (gd_V wd_825 wd_827 (gw_s 34 rfl rfl) wd_3 wd_828) (by decide +kernel) ⟨rfl, rfl, Nat.le_of_ble_eq_true rfl, Nat.le_of_ble_eq_true rfl, Nat.le_of_ble_eq_true rfl, Nat.le_of_ble_eq_true rfl⟩ rfl rfl rfl hl.1 rfl (Nat.le_of_ble_eq_true rfl) d_M_correct_160 ?_
            refine lv_iadd hx hb d_M_correct_163 ?_
            refine lv_aload_n hx hb d_M_correct_164 rfl (lv_at hl 3 rfl) ?_
            refine mg_21 h0 hw d_M_correct_165 ?_
            refine lv_iload hx hb d_M_correct_168 (lv_at hl 2 rfl) ?_
            obtain ⟨hi_18, hok⟩ := hok
            refine ml_21 h0 hw hi_18 d_M_correct_170 ?_
            refine W.eq (g2 := F0 m 171 ls [.int (μ 21 (fM_difference x1 x2 μ).toNatClampNeg), .int ((μ 6 (fM_bookedAt (fM_difference x1 x2 μ) (u2 μ 0 0 0)).toNatClampNeg) + (fM_counts (fM_difference x1 x2 μ) (u2 μ 0 0 0)))]) rfl ?_
            refine lv_isub hx hb d_M_correct_171 ?_
            refine lv_istore (lv' := [(7, .int (((μ 6 (fM_bookedAt (fM_difference x1 x2 μ) (u2 μ 0 0 0)).toNatClampNeg) + (fM_counts (fM_difference x1 x2 μ) (u2 μ 0 0 0))) - (μ 21 (fM_difference x1 x2 μ).toNatClampNeg))), (6, .int 1), (5, .int (((μ 25 (fM_difference x1 x2 μ).toNatClampNeg) - (μ 25 (fM_difference x1 x2 μ).toNatClampNeg) / 10 * 10) - 1)), (4, .int (fM_difference x1 x2 μ)), (0, .ref (a 0)), (1, .int x1), (2, .int x2), (3, .int x3)]) hx hb d_M_correct_172 hl (by decide) rfl (fun ls hl => ?_)
            refine lv_aload_n hx hb d_M_correct_174 rfl (lv_at hl 4 rfl) ?_
            refine lv_iload hx hb d_M_correct_175 (lv_at hl 0 rfl) ?_
            refine lv_iconst (v := 0) hx hb d_M_correct_177 (by decide) ?_
            refine lv_ldc hx hb hown (hts _ wd_724) d_M_correct_178 ?_
            obtain ⟨hi_19, hok⟩ := hok
            refine cs_p (n := 3) (As := [.int (((μ 6 (fM_bookedAt (fM_difference x1 x2 μ) (u2 μ 0 0 0)).toNatClampNeg) + (fM_counts (fM_difference x1 x2 μ) (u2 μ 0 0 0))) - (μ 21 (fM_difference x1 x2 μ).toNatClampNeg)), .int 0, .int 1000000]) (rest := [.ref (a 0)]) hx hb hml hown hts (cM_in l (((μ 6 (fM_bookedAt (fM_difference x1 x2 μ) (u2 μ 0 0 0)).toNatClampNeg) + (fM_counts (fM_difference x1 x2 μ) (u2 μ 0 0 0))) - (μ 21 (fM_difference x1 x2 μ).toNatClampNeg)) 0 1000000 hi_19 rfl) (gd_S wd_710 wd_711 wd_3 wd_712) (by decide +kernel) ⟨rfl, rfl, Nat.le_of_ble_eq_true rfl, Nat.le_of_ble_eq_true rfl, Nat.le_of_ble_eq_true rfl, Nat.le_of_ble_eq_true rfl⟩ rfl hl.1 rfl (Nat.le_of_ble_eq_true rfl) d_M_correct_180 ?_
            refine lv_if_eq (tgt := 190) hx hb d_M_correct_183 (by decide) (fun c_20 => ?_) (fun c_20 => ?_)
            · have hok := hok.1 c_20
              have hF := (if_pos c_20).symm.trans hF
              refine lv_iconst (v := 3) hx hb d_M_correct_190 (by decide) ?_
              refine mp_0 h0 hw d_M_correct_191 (fun H locs hw => ?_)
              refine lv_aload_n hx hb d_M_correct_194 rfl (lv_at hl 4 rfl) ?_
              refine mg_0 h0 hw d_M_correct_195 ?_
              refine W.eq (g2 := F0 m 198 ls [.int 3]) rfl ?_
              refine lv_if_le (tgt := 203) hx hb d_M_correct_198 (by decide) (fun c_0 => absurd c_0 (by decide)) (fun _ => ?_)
              refine lv_iconst (v := 0) hx hb d_M_correct_201 (by decide) ?_
              exact rt_i h0 hw hr hlocks rfl (u2 (u2 μ 0 0 0) 0 0 3) hF rfl d_M_correct_202 (Nat.le_refl 0) (Nat.le_refl 0)
            · have hok := hok.2 c_20
              have hF := (if_neg c_20).symm.trans hF
              refine lv_iconst (v := 0) hx hb d_M_correct_186 (by decide) ?_
              refine lv_goto (tgt := 191) hx hb d_M_correct_187 (by decide) ?_
              refine mp_0 h0 hw d_M_correct_191 (fun H locs hw => ?_)
              refine lv_aload_n hx hb d_M_correct_194 rfl (lv_at hl 4 rfl) ?_
              refine mg_0 h0 hw d_M_correct_195 ?_
              refine W.eq (g2 := F0 m 198 ls [.int 0]) rfl ?_
              refine lv_if_le (tgt := 203) hx hb d_M_correct_198 (by decide) (fun _ => ?_) (fun c_0 => absurd c_0 (by decide))
              refine lv_aload_n hx hb d_M_correct_203 rfl (lv_at hl 4 rfl) ?_
              refine mg_6 h0 hw d_M_correct_204 ?_
              refine lv_aload_n hx hb d_M_correct_207 rfl (lv_at hl 4 rfl) ?_
              refine lv_iload hx hb d_M_correct_208 (lv_at hl 3 rfl) ?_
              obtain ⟨hi_21, hok⟩ := hok
              refine cv_p (n := 1) (C := "CountRoundsModel") (b := a 0) (q0 := 0) (ci := 4) (As := [.int (fM_difference x1 x2 μ)]) (rest := [.ref (a 6)]) h0 hw (cM_bookedAt l D tc a Y H.size (fM_difference x1 x2 μ) (u2 (u2 μ 0 0 0) 0 0 0) hi_21 rfl) (gd_V wd_837 wd_839 (gw_s 36 rfl rfl) wd_3 wd_840) (by decide +kernel) ⟨rfl, rfl, Nat.le_of_ble_eq_true rfl, Nat.le_of_ble_eq_true rfl, Nat.le_of_ble_eq_true rfl, Nat.le_of_ble_eq_true rfl⟩ rfl rfl rfl hl.1 rfl (Nat.le_of_ble_eq_true rfl) d_M_correct_210 ?_
              refine lv_iload hx hb d_M_correct_213 (lv_at hl 0 rfl) ?_
              obtain ⟨hi_22, hok⟩ := hok
              refine ms_6 h0 hw hi_22 d_M_correct_215 (fun H locs hw => ?_)
              refine lv_aload_n hx hb d_M_correct_216 rfl (lv_at hl 4 rfl) ?_
              refine mg_25 h0 hw d_M_correct_217 ?_
              refine lv_iload hx hb d_M_correct_220 (lv_at hl 3 rfl) ?_
              refine lv_dup2_11 hx hb d_M_correct_222 rfl rfl ?_
              obtain ⟨hi_23, hok⟩ := hok
              refine ml_25 h0 hw hi_23 d_M_correct_223 ?_
              refine W.eq (g2 := F0 m 224 ls [.int (μ 25 (fM_difference x1 x2 μ).toNatClampNeg), .int (fM_difference x1 x2 μ), .ref (a 25)]) rfl ?_
              refine lv_bipush (v := 10) hx hb d_M_correct_224 (by decide) ?_
              refine lv_iadd hx hb d_M_correct_226 ?_
              obtain ⟨hi_24, hok⟩ := hok
              refine ms_25 h0 hw hi_24 d_M_correct_227 (fun H locs hw => ?_)
              refine lv_iconst (v := 1) hx hb d_M_correct_228 (by decide) ?_
              exact rt_i h0 hw hr hlocks rfl (u2 (u2 (u2 (u2 μ 0 0 0) 0 0 0) 6 (fM_bookedAt (fM_difference x1 x2 μ) (u2 (u2 μ 0 0 0) 0 0 0)).toNatClampNeg (((μ 6 (fM_bookedAt (fM_difference x1 x2 μ) (u2 μ 0 0 0)).toNatClampNeg) + (fM_counts (fM_difference x1 x2 μ) (u2 μ 0 0 0))) - (μ 21 (fM_difference x1 x2 μ).toNatClampNeg))) 25 (fM_difference x1 x2 μ).toNatClampNeg ((μ 25 (fM_difference x1 x2 μ).toNatClampNeg) + 10)) hF rfl d_M_correct_229 (Nat.le_refl 0) (Nat.le_refl 0)
          · have hok := hok.2 c_14
            have hF := (if_neg c_14).symm.trans hF
            refine lv_iload hx hb d_M_correct_110 (lv_at hl 0 rfl) ?_
            refine lv_iconst (v := (-1)) hx hb d_M_correct_112 (by decide) ?_
            refine lv_icmp_eq (tgt := 126) hx hb d_M_correct_113 (by decide) (fun c_25 => ?_) (fun c_25 => ?_)
            · have hok := hok.1 c_25
              have hF := (if_pos c_25).symm.trans hF
              refine lv_iconst (v := 0) hx hb d_M_correct_126 (by decide) ?_
              refine lv_istore (lv' := [(6, .int 0), (5, .int (((μ 25 (fM_difference x1 x2 μ).toNatClampNeg) - (μ 25 (fM_difference x1 x2 μ).toNatClampNeg) / 10 * 10) - 1)), (4, .int (fM_difference x1 x2 μ)), (0, .ref (a 0)), (1, .int x1), (2, .int x2), (3, .int x3)]) hx hb d_M_correct_127 hl (by decide) rfl (fun ls hl => ?_)
              refine lv_iload hx hb d_M_correct_129 (lv_at hl 0 rfl) ?_
              refine lv_if_ne (tgt := 146) hx hb d_M_correct_131 (by decide) (fun c_0 => absurd c_0 (by decide)) (fun _ => ?_)
              refine lv_aload_n hx hb d_M_correct_134 rfl (lv_at hl 3 rfl) ?_
              refine mg_25 h0 hw d_M_correct_135 ?_
              refine lv_iload hx hb d_M_correct_138 (lv_at hl 2 rfl) ?_
              refine lv_iload_n hx hb d_M_correct_140 rfl (lv_at hl 6 rfl) ?_
              refine lv_iconst (v := 1) hx hb d_M_correct_141 (by decide) ?_
              refine lv_iadd hx hb d_M_correct_142 ?_
              obtain ⟨hi_26, hok⟩ := hok
              refine ms_25 h0 hw hi_26 d_M_correct_143 (fun H locs hw => ?_)
              refine lv_iconst (v := 0) hx hb d_M_correct_144 (by decide) ?_
              exact rt_i h0 hw hr hlocks rfl (u2 (u2 μ 0 0 0) 25 (fM_difference x1 x2 μ).toNatClampNeg (x3 + 1)) hF rfl d_M_correct_145 (Nat.le_refl 0) (Nat.le_refl 0)
            · have hok := hok.2 c_25
              have hF := (if_neg c_25).symm.trans hF
              refine lv_iload hx hb d_M_correct_116 (lv_at hl 0 rfl) ?_
              refine lv_iload_n hx hb d_M_correct_118 rfl (lv_at hl 5 rfl) ?_
              refine lv_icmp_eq (tgt := 126) hx hb d_M_correct_119 (by decide) (fun c_27 => ?_) (fun c_27 => ?_)
              · have hok := hok.1 c_27
                have hF := (if_pos c_27).symm.trans hF
                refine lv_iconst (v := 0) hx hb d_M_correct_126 (by decide) ?_
                refine lv_istore (lv' := [(6, .int 0), (5, .int (((μ 25 (fM_difference x1 x2 μ).toNatClampNeg) - (μ 25 (fM_difference x1 x2 μ).toNatClampNeg) / 10 * 10) - 1)), (4, .int (fM_difference x1 x2 μ)), (0, .ref (a 0)), (1, .int x1), (2, .int x2), (3, .int x3)]) hx hb d_M_correct_127 hl (by decide) rfl (fun ls hl => ?_)
                refine lv_iload hx hb d_M_correct_129 (lv_at hl 0 rfl) ?_
                refine lv_if_ne (tgt := 146) hx hb d_M_correct_131 (by decide) (fun c_0 => absurd c_0 (by decide)) (fun _ => ?_)
                refine lv_aload_n hx hb d_M_correct_134 rfl (lv_at hl 3 rfl) ?_
                refine mg_25 h0 hw d_M_correct_135 ?_
                refine lv_iload hx hb d_M_correct_138 (lv_at hl 2 rfl) ?_
                refine lv_iload_n hx hb d_M_correct_140 rfl (lv_at hl 6 rfl) ?_
                refine lv_iconst (v := 1) hx hb d_M_correct_141 (by decide) ?_
                refine lv_iadd hx hb d_M_correct_142 ?_
                obtain ⟨hi_28, hok⟩ := hok
                refine ms_25 h0 hw hi_28 d_M_correct_143 (fun H locs hw => ?_)
                refine lv_iconst (v := 0) hx hb d_M_correct_144 (by decide) ?_
                exact rt_i h0 hw hr hlocks rfl (u2 (u2 μ 0 0 0) 25 (fM_difference x1 x2 μ).toNatClampNeg (x3 + 1)) hF rfl d_M_correct_145 (Nat.le_refl 0) (Nat.le_refl 0)
              · have hok := hok.2 c_27
                have hF := (if_neg c_27).symm.trans hF
                refine lv_iconst (v := 1) hx hb d_M_correct_122 (by decide) ?_
                refine lv_goto (tgt := 127) hx hb d_M_correct_123 (by decide) ?_
                refine lv_istore (lv' := [(6, .int 1), (5, .int (((μ 25 (fM_difference x1 x2 μ).toNatClampNeg) - (μ 25 (fM_difference x1 x2 μ).toNatClampNeg) / 10 * 10) - 1)), (4, .int (fM_difference x1 x2 μ)), (0, .ref (a 0)), (1, .int x1), (2, .int x2), (3, .int x3)]) hx hb d_M_correct_127 hl (by decide) rfl (fun ls hl => ?_)
                refine lv_iload hx hb d_M_correct_129 (lv_at hl 0 rfl) ?_
                refine lv_if_ne (tgt := 146) hx hb d_M_correct_131 (by decide) (fun _ => ?_) (fun c_0 => absurd c_0 (by decide))
                refine lv_aload_n hx hb d_M_correct_146 rfl (lv_at hl 3 rfl) ?_
                refine mg_6 h0 hw d_M_correct_147 ?_
                refine lv_aload_n hx hb d_M_correct_150 rfl (lv_at hl 3 rfl) ?_
                refine lv_iload hx hb d_M_correct_151 (lv_at hl 2 rfl) ?_
                obtain ⟨hi_29, hok⟩ := hok
                refine cv_p (n := 1) (C := "CountRoundsModel") (b := a 0) (q0 := 0) (ci := 4) (As := [.int (fM_difference x1 x2 μ)]) (rest := [.ref (a 6)]) h0 hw (cM_bookedAt l D tc a Y H.size (fM_difference x1 x2 μ) (u2 μ 0 0 0) hi_29 rfl) (gd_V wd_837 wd_839 (gw_s 36 rfl rfl) wd_3 wd_840) (by decide +kernel) ⟨rfl, rfl, Nat.le_of_ble_eq_true rfl, Nat.le_of_ble_eq_true rfl, Nat.le_of_ble_eq_true rfl, Nat.le_of_ble_eq_true rfl⟩ rfl rfl rfl hl.1 rfl (Nat.le_of_ble_eq_true rfl) d_M_correct_153 ?_
                obtain ⟨hi_30, hok⟩ := hok
                refine ml_6 h0 hw hi_30 d_M_correct_156 ?_
                refine W.eq (g2 := F0 m 157 ls [.int (μ 6 (fM_bookedAt (fM_difference x1 x2 μ) (u2 μ 0 0 0)).toNatClampNeg)]) rfl ?_
                refine lv_aload_n hx hb d_M_correct_157 rfl (lv_at hl 3 rfl) ?_
                refine lv_iload hx hb d_M_correct_158 (lv_at hl 2 rfl) ?_
                obtain ⟨hi_31, hok⟩ := hok
                refine cv_p (n := 1) (C := "CountRoundsModel") (b := a 0) (q0 := 0) (ci := 4) (As := [.int (fM_difference x1 x2 μ)]) (rest := [.int (μ 6 (fM_bookedAt (fM_difference x1 x2 μ) (u2 μ 0 0 0)).toNatClampNeg)]) h0 hw (cM_counts l D tc a Y H.size (fM_difference x1 x2 μ) (u2 μ 0 0 0) hi_31 rfl) (gd_V wd_825 wd_827 (gw_s 34 rfl rfl) wd_3 wd_828) (by decide +kernel) ⟨rfl, rfl, Nat.le_of_ble_eq_true rfl, Nat.le_of_ble_eq_true rfl, Nat.le_of_ble_eq_true rfl, Nat.le_of_ble_eq_true rfl⟩ rfl rfl rfl hl.1 rfl (Nat.le_of_ble_eq_true rfl) d_M_correct_160 ?_
                refine lv_iadd hx hb d_M_correct_163 ?_
                refine lv_aload_n hx hb d_M_correct_164 rfl (lv_at hl 3 rfl) ?_
                refine mg_21 h0 hw d_M_correct_165 ?_
                refine lv_iload hx hb d_M_correct_168 (lv_at hl 2 rfl) ?_
                obtain ⟨hi_32, hok⟩ := hok
                refine ml_21 h0 hw hi_32 d_M_correct_170 ?_
                refine W.eq (g2 := F0 m 171 ls [.int (μ 21 (fM_difference x1 x2 μ).toNatClampNeg), .int ((μ 6 (fM_bookedAt (fM_difference x1 x2 μ) (u2 μ 0 0 0)).toNatClampNeg) + (fM_counts (fM_difference x1 x2 μ) (u2 μ 0 0 0)))]) rfl ?_
                refine lv_isub hx hb d_M_correct_171 ?_
                refine lv_istore (lv' := [(7, .int (((μ 6 (fM_bookedAt (fM_difference x1 x2 μ) (u2 μ 0 0 0)).toNatClampNeg) + (fM_counts (fM_difference x1 x2 μ) (u2 μ 0 0 0))) - (μ 21 (fM_difference x1 x2 μ).toNatClampNeg))), (6, .int 1), (5, .int (((μ 25 (fM_difference x1 x2 μ).toNatClampNeg) - (μ 25 (fM_difference x1 x2 μ).toNatClampNeg) / 10 * 10) - 1)), (4, .int (fM_difference x1 x2 μ)), (0, .ref (a 0)), (1, .int x1), (2, .int x2), (3, .int x3)]) hx hb d_M_correct_172 hl (by decide) rfl (fun ls hl => ?_)
                refine lv_aload_n hx hb d_M_correct_174 rfl (lv_at hl 4 rfl) ?_
                refine lv_iload hx hb d_M_correct_175 (lv_at hl 0 rfl) ?_
                refine lv_iconst (v := 0) hx hb d_M_correct_177 (by decide) ?_
                refine lv_ldc hx hb hown (hts _ wd_724) d_M_correct_178 ?_
                obtain ⟨hi_33, hok⟩ := hok
                refine cs_p (n := 3) (As := [.int (((μ 6 (fM_bookedAt (fM_difference x1 x2 μ) (u2 μ 0 0 0)).toNatClampNeg) + (fM_counts (fM_difference x1 x2 μ) (u2 μ 0 0 0))) - (μ 21 (fM_difference x1 x2 μ).toNatClampNeg)), .int 0, .int 1000000]) (rest := [.ref (a 0)]) hx hb hml hown hts (cM_in l (((μ 6 (fM_bookedAt (fM_difference x1 x2 μ) (u2 μ 0 0 0)).toNatClampNeg) + (fM_counts (fM_difference x1 x2 μ) (u2 μ 0 0 0))) - (μ 21 (fM_difference x1 x2 μ).toNatClampNeg)) 0 1000000 hi_33 rfl) (gd_S wd_710 wd_711 wd_3 wd_712) (by decide +kernel) ⟨rfl, rfl, Nat.le_of_ble_eq_true rfl, Nat.le_of_ble_eq_true rfl, Nat.le_of_ble_eq_true rfl, Nat.le_of_ble_eq_true rfl⟩ rfl hl.1 rfl (Nat.le_of_ble_eq_true rfl) d_M_correct_180 ?_
                refine lv_if_eq (tgt := 190) hx hb d_M_correct_183 (by decide) (fun c_34 => ?_) (fun c_34 => ?_)
                · have hok := hok.1 c_34
                  have hF := (if_pos c_34).symm.trans hF
                  refine lv_iconst (v := 3) hx hb d_M_correct_190 (by decide) ?_
                  refine mp_0 h0 hw d_M_correct_191 (fun H locs hw => ?_)
                  refine lv_aload_n hx hb d_M_correct_194 rfl (lv_at hl 4 rfl) ?_
                  refine mg_0 h0 hw d_M_correct_195 ?_
                  refine W.eq (g2 := F0 m 198 ls [.int 3]) rfl ?_
                  refine lv_if_le (tgt := 203) hx hb d_M_correct_198 (by decide) (fun c_0 => absurd c_0 (by decide)) (fun _ => ?_)
                  refine lv_iconst (v := 0) hx hb d_M_correct_201 (by decide) ?_
                  exact rt_i h0 hw hr hlocks rfl (u2 (u2 μ 0 0 0) 0 0 3) hF rfl d_M_correct_202 (Nat.le_refl 0) (Nat.le_refl 0)
                · have hok := hok.2 c_34
                  have hF := (if_neg c_34).symm.trans hF
                  refine lv_iconst (v := 0) hx hb d_M_correct_186 (by decide) ?_
                  refine lv_goto (tgt := 191) hx hb d_M_correct_187 (by decide) ?_
                  refine mp_0 h0 hw d_M_correct_191 (fun H locs hw => ?_)
                  refine lv_aload_n hx hb d_M_correct_194 rfl (lv_at hl 4 rfl) ?_
                  refine mg_0 h0 hw d_M_correct_195 ?_
                  refine W.eq (g2 := F0 m 198 ls [.int 0]) rfl ?_
                  refine lv_if_le (tgt := 203) hx hb d_M_correct_198 (by decide) (fun _ => ?_) (fun c_0 => absurd c_0 (by decide))
                  refine lv_aload_n hx hb d_M_correct_203 rfl (lv_at hl 4 rfl) ?_
                  refine mg_6 h0 hw d_M_correct_204 ?_
                  refine lv_aload_n hx hb d_M_correct_207 rfl (lv_at hl 4 rfl) ?_
                  refine lv_iload hx hb d_M_correct_208 (lv_at hl 3 rfl) ?_
                  obtain ⟨hi_35, hok⟩ := hok
                  refine cv_p (n := 1) (C := "CountRoundsModel") (b := a 0) (q0 := 0) (ci := 4) (As := [.int (fM_difference x1 x2 μ)]) (rest := [.ref (a 6)]) h0 hw (cM_bookedAt l D tc a Y H.size (fM_difference x1 x2 μ) (u2 (u2 μ 0 0 0) 0 0 0) hi_35 rfl) (gd_V wd_837 wd_839 (gw_s 36 rfl rfl) wd_3 wd_840) (by decide +kernel) ⟨rfl, rfl, Nat.le_of_ble_eq_true rfl, Nat.le_of_ble_eq_true rfl, Nat.le_of_ble_eq_true rfl, Nat.le_of_ble_eq_true rfl⟩ rfl rfl rfl hl.1 rfl (Nat.le_of_ble_eq_true rfl) d_M_correct_210 ?_
                  refine lv_iload hx hb d_M_correct_213 (lv_at hl 0 rfl) ?_
                  obtain ⟨hi_36, hok⟩ := hok
                  refine ms_6 h0 hw hi_36 d_M_correct_215 (fun H locs hw => ?_)
                  refine lv_aload_n hx hb d_M_correct_216 rfl (lv_at hl 4 rfl) ?_
                  refine mg_25 h0 hw d_M_correct_217 ?_
                  refine lv_iload hx hb d_M_correct_220 (lv_at hl 3 rfl) ?_
                  refine lv_dup2_11 hx hb d_M_correct_222 rfl rfl ?_
                  obtain ⟨hi_37, hok⟩ := hok
                  refine ml_25 h0 hw hi_37 d_M_correct_223 ?_
                  refine W.eq (g2 := F0 m 224 ls [.int (μ 25 (fM_difference x1 x2 μ).toNatClampNeg), .int (fM_difference x1 x2 μ), .ref (a 25)]) rfl ?_
                  refine lv_bipush (v := 10) hx hb d_M_correct_224 (by decide) ?_
                  refine lv_iadd hx hb d_M_correct_226 ?_
                  obtain ⟨hi_38, hok⟩ := hok
                  refine ms_25 h0 hw hi_38 d_M_correct_227 (fun H locs hw => ?_)
                  refine lv_iconst (v := 1) hx hb d_M_correct_228 (by decide) ?_
                  exact rt_i h0 hw hr hlocks rfl (u2 (u2 (u2 (u2 μ 0 0 0) 0 0 0) 6 (fM_bookedAt (fM_difference x1 x2 μ) (u2 (u2 μ 0 0 0) 0 0 0)).toNatClampNeg (((μ 6 (fM_bookedAt (fM_difference x1 x2 μ) (u2 μ 0 0 0)).toNatClampNeg) + (fM_counts (fM_difference x1 x2 μ) (u2 μ 0 0 0))) - (μ 21 (fM_difference x1 x2 μ).toNatClampNeg))) 25 (fM_difference x1 x2 μ).toNatClampNeg ((μ 25 (fM_difference x1 x2 μ).toNatClampNeg) + 10)) hF rfl d_M_correct_229 (Nat.le_refl 0) (Nat.le_refl 0)
        · have hok := hok.2 c_8
          have hF := (if_neg c_8).symm.trans hF
          refine lv_iconst (v := 3) hx hb d_M_correct_54 (by decide) ?_
          refine lv_goto (tgt := 59) hx hb d_M_correct_55 (by decide) ?_
          refine mp_0 h0 hw d_M_correct_59 (fun H locs hw => ?_)
          refine lv_aload_n hx hb d_M_correct_62 rfl (lv_at hl 1 rfl) ?_
          refine mg_0 h0 hw d_M_correct_63 ?_
          refine W.eq (g2 := F0 m 66 ls [.int 3]) rfl ?_
          refine lv_if_le (tgt := 71) hx hb d_M_correct_66 (by decide) (fun c_0 => absurd c_0 (by decide)) (fun _ => ?_)
          refine lv_iconst (v := 0) hx hb d_M_correct_69 (by decide) ?_
          exact rt_i h0 hw hr hlocks rfl (u2 μ 0 0 3) hF rfl d_M_correct_70 (Nat.le_refl 0) (Nat.le_refl 0)
      · have hok := hok.1 c_6
        have hF := (if_pos c_6).symm.trans hF
        refine lv_iconst (v := 2) hx hb d_M_correct_38 (by decide) ?_
        refine lv_goto (tgt := 59) hx hb d_M_correct_39 (by decide) ?_
        refine mp_0 h0 hw d_M_correct_59 (fun H locs hw => ?_)
        refine lv_aload_n hx hb d_M_correct_62 rfl (lv_at hl 1 rfl) ?_
        refine mg_0 h0 hw d_M_correct_63 ?_
        refine W.eq (g2 := F0 m 66 ls [.int 2]) rfl ?_
        refine lv_if_le (tgt := 71) hx hb d_M_correct_66 (by decide) (fun c_0 => absurd c_0 (by decide)) (fun _ => ?_)
        refine lv_iconst (v := 0) hx hb d_M_correct_69 (by decide) ?_
        exact rt_i h0 hw hr hlocks rfl (u2 μ 0 0 2) hF rfl d_M_correct_70 (Nat.le_refl 0) (Nat.le_refl 0)
    · have hok := hok.1 c_4
      have hF := (if_pos c_4).symm.trans hF
      refine lv_iconst (v := 1) hx hb d_M_correct_27 (by decide) ?_
      refine lv_goto (tgt := 59) hx hb d_M_correct_28 (by decide) ?_
      refine mp_0 h0 hw d_M_correct_59 (fun H locs hw => ?_)
      refine lv_aload_n hx hb d_M_correct_62 rfl (lv_at hl 1 rfl) ?_
      refine mg_0 h0 hw d_M_correct_63 ?_
      refine W.eq (g2 := F0 m 66 ls [.int 1]) rfl ?_
      refine lv_if_le (tgt := 71) hx hb d_M_correct_66 (by decide) (fun c_0 => absurd c_0 (by decide)) (fun _ => ?_)
      refine lv_iconst (v := 0) hx hb d_M_correct_69 (by decide) ?_
      exact rt_i h0 hw hr hlocks rfl (u2 μ 0 0 1) hF rfl d_M_correct_70 (Nat.le_refl 0) (Nat.le_refl 0)
