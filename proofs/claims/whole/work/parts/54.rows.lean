/-! PURE: the small calls that look into rows -/
theorem told_split (x : Int32) : x = 0 ∨ x = 1 ∨ x = 2 ∨ (x < 0 ∧ x < 10 ∧ x ≠ 0 ∧ x ≠ 1 ∧ x ≠ 2) ∨ (¬ x < 0 ∧ x < 10 ∧ x ≠ 0 ∧ x ≠ 1 ∧ x ≠ 2 ∧ ¬ fM_in x 3 9 = 0) ∨ ∃ w : Nat, w + 10 < 2 ^ 31 ∧ x = nI (w + 10) := by
  by_cases h : x < 0
  · right; right; right; left
    have h0 := h
    rw [Int32.lt_iff_toInt_lt] at h
    refine ⟨h0, ?_, ?_, ?_, ?_⟩
    · rw [Int32.lt_iff_toInt_lt]; have : (10 : Int32).toInt = 10 := by decide
      have : (0 : Int32).toInt = 0 := by decide
      omega
    · rintro rfl; exact absurd h0 (by decide)
    · rintro rfl; exact absurd h0 (by decide)
    · rintro rfl; exact absurd h0 (by decide)
  · obtain ⟨j, hj, rfl⟩ := nI_of h
    by_cases h0 : j = 0
    · subst h0; exact Or.inl rfl
    by_cases h1 : j = 1
    · subst h1; exact Or.inr (Or.inl rfl)
    by_cases h2 : j = 2
    · subst h2; exact Or.inr (Or.inr (Or.inl rfl))
    right; right; right; right
    by_cases h10 : j < 10
    · left
      refine ⟨h, (nI_ltI (b := 10) hj (by decide)).mpr h10, ?_, ?_, ?_, ?_⟩
      · exact fun e => h0 ((nI_eq (b := 0) hj (by decide)).mp e)
      · exact fun e => h1 ((nI_eq (b := 1) hj (by decide)).mp e)
      · exact fun e => h2 ((nI_eq (b := 2) hj (by decide)).mp e)
      · intro e
        exact pu_in0.mp e ⟨(nI_leI (a := 3) (by decide) hj).mpr (by omega), (nI_leI (b := 9) hj (by decide)).mpr (by omega)⟩
    · right
      exact ⟨j - 10, by omega, by rw [Nat.sub_add_cancel (by omega)]⟩

theorem pr_told {k : Nat} {g : Nat → Nat → Nat → Int32} {N : Nat → Nat} {μ : Nat → Nat → Int32} (h : Inv k g N μ) (x1 x2 : Int32) : pv_told (Inv (k + 1)) x1 x2 g N μ := by
  have h' := inv_up h
  obtain ⟨⟨⟨n0, n1, n2⟩, ⟨s0, s1, s2⟩, ⟨r0, r1, r2⟩, hd, hw, hc, ht, hr⟩, hK, hP, hM, hC, hB, hT⟩ := h
  unfold pv_told fC_told fM_told kC_told kM_told
  simp only [fC_isKind, fC_isGood, fC_isPerson, fC_isPieces, fC_isDay, fM_isGood, fM_isPerson, fM_isPlace, fM_isCount, ite_at, pu_in, s0, s1, s2, r0, r1, r2, hd]
  by_cases a0 : fM_in x1 1 (nI (N 2)) = 0
  · simp [pu_in, pu_kin, pu_kw, pu_kG, pu_kPn, pu_kPl, pu_kCt, pu_cG, pu_cK, pu_cPn, pu_cPc, pu_cD, u2_00, c_n, c_0_0, c_1_0, c_2_0, c_2_1, c_3_0, c_3_1, c_4_0, c_4_1, c_5_0, c_5_1, c_5_2, c_5_3, c_6_0, c_6_1, c_7_0, c_7_1, c_7_2, c_8_0, c_8_1, c_8_2, c_9_0, c_9_1, e_1, e_2, e_3, e_4, a0]
    exact inv_cd _ h'
  obtain ⟨c, hc', rfl⟩ := in_1 (by omega) a0
  have ec := nI_clamp (n := c) (by omega)
  have ec1 := nI_clamp (n := c + 1) (by omega)
  have vc := vin (j := c) (n := 20) (by omega) (by decide)
  have vc1 := vin (j := c + 1) (n := 21) (by omega) (by decide)
  obtain ⟨⟨z1, z2⟩, hz, ⟨s, hs, hs1, hs2⟩, hfi, hmb⟩ : iH (N 0) (N (3 + c)) (g 8 c) (g 9 c) (μ 17 (c + 1)) (μ 18 (c + 1)) (μ 19 (c + 1)) (fun j => μ 20 (20 * (c + 1) + j)) := (hC c hc').1
  rcases told_split x2 with rfl | rfl | rfl | ⟨b0, b1, b2, b3, b4⟩ | ⟨b0, b1, b2, b3, b4, b5⟩ | ⟨w, hw1, rfl⟩
  · have f1 : fM_in 0 3 9 = 0 := by decide
    simp [pu_in, pu_kin, pu_kw, pu_kG, pu_kPn, pu_kPl, pu_kCt, pu_cG, pu_cK, pu_cPn, pu_cPc, pu_cD, u2_00, c_n, c_0_0, c_1_0, c_2_0, c_2_1, c_3_0, c_3_1, c_4_0, c_4_1, c_5_0, c_5_1, c_5_2, c_5_3, c_6_0, c_6_1, c_7_0, c_7_1, c_7_2, c_8_0, c_8_1, c_8_2, c_9_0, c_9_1, e_1, e_2, e_3, e_4, a0, ec, ec1, vc, vc1, e_s, hz, hs1, hs2, hfi, hc', f1]
    exact inv_cd _ h'
  · have f1 : fM_in 1 3 9 = 0 := by decide
    simp [pu_in, pu_kin, pu_kw, pu_kG, pu_kPn, pu_kPl, pu_kCt, pu_cG, pu_cK, pu_cPn, pu_cPc, pu_cD, u2_00, c_n, c_0_0, c_1_0, c_2_0, c_2_1, c_3_0, c_3_1, c_4_0, c_4_1, c_5_0, c_5_1, c_5_2, c_5_3, c_6_0, c_6_1, c_7_0, c_7_1, c_7_2, c_8_0, c_8_1, c_8_2, c_9_0, c_9_1, e_1, e_2, e_3, e_4, a0, ec, ec1, vc, vc1, e_s, hz, hs1, hs2, hfi, hc', f1]
    exact inv_cd _ h'
  · have f1 : fM_in 2 3 9 = 0 := by decide
    simp [pu_in, pu_kin, pu_kw, pu_kG, pu_kPn, pu_kPl, pu_kCt, pu_cG, pu_cK, pu_cPn, pu_cPc, pu_cD, u2_00, c_n, c_0_0, c_1_0, c_2_0, c_2_1, c_3_0, c_3_1, c_4_0, c_4_1, c_5_0, c_5_1, c_5_2, c_5_3, c_6_0, c_6_1, c_7_0, c_7_1, c_7_2, c_8_0, c_8_1, c_8_2, c_9_0, c_9_1, e_1, e_2, e_3, e_4, a0, ec, ec1, vc, vc1, e_s, hz, hs1, hs2, hfi, hc', f1]
    exact inv_cd _ h'
  · simp [pu_in, pu_kin, pu_kw, pu_kG, pu_kPn, pu_kPl, pu_kCt, pu_cG, pu_cK, pu_cPn, pu_cPc, pu_cD, u2_00, c_n, c_0_0, c_1_0, c_2_0, c_2_1, c_3_0, c_3_1, c_4_0, c_4_1, c_5_0, c_5_1, c_5_2, c_5_3, c_6_0, c_6_1, c_7_0, c_7_1, c_7_2, c_8_0, c_8_1, c_8_2, c_9_0, c_9_1, e_1, e_2, e_3, e_4, a0, ec, ec1, vc, vc1, e_s, hz, hs1, hs2, hfi, hc', b0, b1, b2, b3, b4]
    exact inv_cd _ h'
  · simp [pu_in, pu_kin, pu_kw, pu_kG, pu_kPn, pu_kPl, pu_kCt, pu_cG, pu_cK, pu_cPn, pu_cPc, pu_cD, u2_00, c_n, c_0_0, c_1_0, c_2_0, c_2_1, c_3_0, c_3_1, c_4_0, c_4_1, c_5_0, c_5_1, c_5_2, c_5_3, c_6_0, c_6_1, c_7_0, c_7_1, c_7_2, c_8_0, c_8_1, c_8_2, c_9_0, c_9_1, e_1, e_2, e_3, e_4, a0, ec, ec1, vc, vc1, e_s, hz, hs1, hs2, hfi, hc', b0, b1, b2, b3, b4, b5]
    exact inv_cd _ h'
  · have b0 : ¬ nI (w + 10) < 0 := nI_pos (by omega)
    have b1 : ¬ nI (w + 10) < 10 := nI_nlt (b := 10) (by omega) (by omega)
    have b2 : ¬ nI (w + 10) = 0 := nI_ne0 (by omega) (by omega)
    have b3 : ¬ nI (w + 10) = 1 := fun e => absurd ((nI_eq (b := 1) (by omega) (by decide)).mp e) (by omega)
    have b4 : ¬ nI (w + 10) = 2 := fun e => absurd ((nI_eq (b := 2) (by omega) (by decide)).mp e) (by omega)
    have b5 : fM_in (nI (w + 10)) 3 9 = 0 := pu_in0.mpr (fun e => absurd ((nI_leI (b := 9) (by omega) (by decide)).mp e.2) (by omega))
    have b6 : nI (w + 10) - 10 = nI w := by
      have := pk_sub (a := w + 10) (b := 10) (by omega)
      rw [Nat.add_sub_cancel] at this
      exact this
    have b7 : 20 * nI (c + 1) + nI (w + 10) - 10 = nI (20 * (c + 1) + w) := by
      rw [e_20]
      have := pk_sub (a := 20 * (c + 1) + (w + 10)) (b := 10) (by omega)
      rw [show 20 * (c + 1) + (w + 10) - 10 = 20 * (c + 1) + w by omega] at this
      exact this
    have b8 : nI (N (3 + c)) ≤ nI w ↔ N (3 + c) ≤ w := nI_leI (by omega) (by omega)
    by_cases b9 : N (3 + c) ≤ w
    · simp [pu_in, pu_kin, pu_kw, pu_kG, pu_kPn, pu_kPl, pu_kCt, pu_cG, pu_cK, pu_cPn, pu_cPc, pu_cD, u2_00, c_n, c_0_0, c_1_0, c_2_0, c_2_1, c_3_0, c_3_1, c_4_0, c_4_1, c_5_0, c_5_1, c_5_2, c_5_3, c_6_0, c_6_1, c_7_0, c_7_1, c_7_2, c_8_0, c_8_1, c_8_2, c_9_0, c_9_1, e_1, e_2, e_3, e_4, a0, ec, ec1, vc, vc1, e_s, hz, hs1, hs2, hfi, hc', b0, b1, b2, b3, b4, b5, b6, b7, b8, b9]
      exact inv_cd _ h'
    · obtain ⟨v, hv, e1, e2⟩ := hmb w (by omega)
      have e3 := nI_clamp (n := w) (by omega)
      have e4 := nI_clamp (n := 20 * (c + 1) + w) (by omega)
      have v1 := vin (j := w) (n := N (3 + c)) (by omega) (by omega)
      have v2 := vin (j := 20 * (c + 1) + w) (n := 420) (by omega) (by decide)
      simp [pu_in, pu_kin, pu_kw, pu_kG, pu_kPn, pu_kPl, pu_kCt, pu_cG, pu_cK, pu_cPn, pu_cPc, pu_cD, u2_00, c_n, c_0_0, c_1_0, c_2_0, c_2_1, c_3_0, c_3_1, c_4_0, c_4_1, c_5_0, c_5_1, c_5_2, c_5_3, c_6_0, c_6_1, c_7_0, c_7_1, c_7_2, c_8_0, c_8_1, c_8_2, c_9_0, c_9_1, e_1, e_2, e_3, e_4, a0, ec, ec1, vc, vc1, e_s, hz, hs1, hs2, hfi, hc', b0, b1, b2, b3, b4, b5, b6, b7, b8, b9, e1, e2, e3, e4, v1, v2]
      exact inv_cd _ h'

theorem pn_k {i : Nat} {g : Nat → Nat → Nat → Int32} {N : Nat → Nat} (hN : N 0 ≤ 20) (s0 : g 0 0 0 = nI (N 0)) (hi : i < N 0) : kC_placeNumbered (nI i) g N ∧ (¬ fC_isWithin (nI i) 0 ((g 0 0 0) - 1) = 0) ∧ (nI i).toNatClampNeg < N 0 := by
  have h1 := nI_clamp (n := i) (by omega)
  have h2 : ¬ fC_isWithin (nI i) 0 ((g 0 0 0) - 1) = 0 := by
    rw [pu_in, s0]
    intro q
    refine pu_in0.mp q ⟨nI_pos' (by omega), ?_⟩
    have := nI_pred (N 0 - 1)
    rw [Nat.sub_add_cancel (by omega)] at this
    rw [this]
    exact (nI_leI (by omega) (by omega)).mpr (by omega)
  refine ⟨⟨pu_kw _ _ _, fun q => absurd q h2, fun _ => ⟨vin (by omega) (by decide), by omega, trivial⟩⟩, h2, by omega⟩
theorem tn_k {i : Nat} {g : Nat → Nat → Nat → Int32} {N : Nat → Nat} (hN : N 1 ≤ 60) (s1 : g 0 0 1 = nI (N 1)) (hi : i < N 1) : kC_transferNumbered (nI (i + 1)) g N ∧ (¬ fC_isWithin (nI (i + 1)) 1 (g 0 0 1) = 0) ∧ (nI (i + 1) - 1).toNatClampNeg < N 1 := by
  have h1 := nI_clamp (n := i) (by omega)
  have h2 : ¬ fC_isWithin (nI (i + 1)) 1 (g 0 0 1) = 0 := by
    rw [pu_in, s1]
    intro q
    exact pu_in0.mp q ⟨(nI_leI (a := 1) (by decide) (by omega)).mpr (by omega), (nI_leI (by omega) (by omega)).mpr (by omega)⟩
  unfold kC_transferNumbered
  rw [e_s, h1]
  refine ⟨⟨pu_kw _ _ _, fun q => absurd q h2, fun _ => ⟨vin (by omega) (by decide), by omega, trivial⟩⟩, h2, by omega⟩
theorem due_err {μ : Nat → Nat → Int32} {x a b : Int32} (n : Nat) (c0 : μ 0 0 = 1) : kM_due_24 kM_due_24x (n + 1) x a b μ ∧ fM_due_24 fM_due_24x (n + 1) x a b μ = (a, μ) := by
  by_cases h : μ 3 0 ≤ b
  · simp [kM_due_24, fM_due_24, kM_due_24x, fM_due_24x, h, c0]
  · simp [kM_due_24, fM_due_24, kM_due_24x, fM_due_24x, h, c0]
theorem lp_due {g : Nat → Nat → Nat → Int32} {N : Nat → Nat} {μ : Nat → Nat → Int32} {x : Int32} (hN : N 0 ≤ 20) (s0 : g 0 0 0 = nI (N 0)) (r0 : μ 3 0 = nI (N 0)) (c0 : μ 0 0 = 0) (hc : ∀ j, j < 3 → g 1 0 j = μ 7 j) (hP : ∀ i, i < N 0 → iP1 (g 5 i 0) (g 5 i 1) (μ 4 i) (μ 5 i)) : ∀ (d i n : Nat) (a : Int32), i + d = N 0 → kC_due_21 kC_due_21x (n + d + 1) x a (nI i) g N ∧ kM_due_24 kM_due_24x (n + d + 1) x a (nI i) μ ∧ ∃ v, fC_due_21 fC_due_21x (n + d + 1) x a (nI i) g N = (none, v, g) ∧ fM_due_24 fM_due_24x (n + d + 1) x a (nI i) μ = (v, μ) := by
  intro d
  induction d with
  | zero =>
    intro i n a hi
    have h1 : nI (N 0) ≤ nI i := (nI_leI (by omega) (by omega)).mpr (by omega)
    simp [kC_due_21, kM_due_24, fC_due_21, fM_due_24, s0, r0, h1, kC_due_21x, kM_due_24x, fC_due_21x, fM_due_24x]
  | succ d ih =>
    intro i n a hi
    have h1 : ¬ nI (N 0) ≤ nI i := fun q => absurd ((nI_leI (by omega) (by omega)).mp q) (by omega)
    have h2 := pn_k hN s0 (i := i) (by omega)
    rw [s0] at h2
    have h3 := nI_clamp (n := i) (by omega)
    obtain ⟨⟨t, ht, e1, e2⟩, e3⟩ := hP i (by omega)
    have h4 := nI_clamp (n := t) (by omega)
    have h5 := hc t (by omega)
    have v1 := vin (j := i) (n := 20) (by omega) (by decide)
    have v2 := vin (j := t) (n := 3) (by omega) (by decide)
    have I0 := ih (i + 1) n a (by omega)
    have I1 := ih (i + 1) n (a + 1) (by omega)
    have en : n + (d + 1) + 1 = (n + d + 1) + 1 := by omega
    rw [en]
    generalize n + d + 1 = f at I0 I1 ⊢
    have hi' : i < N 0 := by omega
    by_cases b1 : μ 5 i = -1
    · simp [kC_due_21, kM_due_24, fC_due_21, fM_due_24, s0, r0, c0, h1, h2, h3, hi', e1, e2, e3, b1, v1, nI_1]
      exact I1
    by_cases b2 : x - μ 5 i < μ 7 t
    · simp [kC_due_21, kM_due_24, fC_due_21, fM_due_24, s0, r0, c0, h1, h2, h3, hi', h4, h5, e1, e2, e3, b1, b2, v1, v2, nI_1]
      exact I0
    · simp [kC_due_21, kM_due_24, fC_due_21, fM_due_24, s0, r0, c0, h1, h2, h3, hi', h4, h5, e1, e2, e3, b1, b2, v1, v2, nI_1]
      exact I1

theorem pr_due {k : Nat} {g : Nat → Nat → Nat → Int32} {N : Nat → Nat} {μ : Nat → Nat → Int32} (h : Inv k g N μ) (x1 : Int32) : pv_due (Inv (k + 1)) x1 g N μ := by
  have h' := inv_up h
  obtain ⟨⟨⟨n0, n1, n2⟩, ⟨s0, s1, s2⟩, ⟨r0, r1, r2⟩, hd, hw, hc, ht, hr⟩, hK, hP, hM, hC, hB, hT⟩ := h
  unfold pv_due fC_due fM_due kC_due kM_due
  simp only [fC_isKind, fC_isGood, fC_isPerson, fC_isPieces, fC_isDay, fM_isGood, fM_isPerson, fM_isPlace, fM_isCount, ite_at, pu_in, s0, s1, s2, r0, r1, r2, hd]
  by_cases a0 : fM_in x1 0 10000 = 0
  · have e9 := due_err (x := x1) (a := 0) (b := 0) (μ := u2 μ 0 0 1) 199 rfl
    simp [pu_in, pu_kin, pu_kw, pu_kG, pu_kPn, pu_kPl, pu_kCt, pu_cG, pu_cK, pu_cPn, pu_cPc, pu_cD, u2_00, c_n, c_0_0, c_1_0, c_2_0, c_2_1, c_3_0, c_3_1, c_4_0, c_4_1, c_5_0, c_5_1, c_5_2, c_5_3, c_6_0, c_6_1, c_7_0, c_7_1, c_7_2, c_8_0, c_8_1, c_8_2, c_9_0, c_9_1, e_1, e_2, e_3, e_4, a0, e9.1, e9.2]
    exact inv_cd _ h'
  · obtain ⟨k1, k2, v, f1, f2⟩ := lp_due (x := x1) (μ := u2 μ 0 0 0) n0 s0 r0 rfl hc hP.1 (N 0) 0 (199 - N 0) 0 (by omega)
    rw [show 199 - N 0 + N 0 + 1 = 200 by omega] at k1 k2 f1 f2
    rw [show nI 0 = 0 from rfl] at k1 k2 f1 f2
    simp [pu_in, pu_kin, pu_kw, pu_kG, pu_kPn, pu_kPl, pu_kCt, pu_cG, pu_cK, pu_cPn, pu_cPc, pu_cD, u2_00, c_n, c_0_0, c_1_0, c_2_0, c_2_1, c_3_0, c_3_1, c_4_0, c_4_1, c_5_0, c_5_1, c_5_2, c_5_3, c_6_0, c_6_1, c_7_0, c_7_1, c_7_2, c_8_0, c_8_1, c_8_2, c_9_0, c_9_1, e_1, e_2, e_3, e_4, a0, k1, k2, f1, f2]
    exact inv_cd _ h'

theorem lp_at {g : Nat → Nat → Nat → Int32} {N : Nat → Nat} {μ : Nat → Nat → Int32} {x : Int32} (hN : N 1 ≤ 60) (s1 : g 0 0 1 = nI (N 1)) (r1 : μ 10 0 = nI (N 1)) (hM : iM (N 0) (N 1) (g 7) (μ 11) (μ 12) (μ 13) (μ 14) (μ 15)) : ∀ (d i n : Nat) (a : Int32), i + d = N 1 → kC_openMovesAt_4 kC_openMovesAt_4x (n + d + 1) x a (nI (i + 1)) g N ∧ kM_openAt_4 kM_openAt_4x (n + d + 1) x a (nI (i + 1)) μ ∧ fC_openMovesAt_4 fC_openMovesAt_4x (n + d + 1) x a (nI (i + 1)) g N = fM_openAt_4 fM_openAt_4x (n + d + 1) x a (nI (i + 1)) μ := by
  intro d
  induction d with
  | zero =>
    intro i n a hi
    have h1 : nI (N 1) < nI (i + 1) := (nI_ltI (by omega) (by omega)).mpr (by omega)
    simp [kC_openMovesAt_4, kM_openAt_4, fC_openMovesAt_4, fM_openAt_4, s1, r1, h1, kC_openMovesAt_4x, kM_openAt_4x, fC_openMovesAt_4x, fM_openAt_4x]
  | succ d ih =>
    intro i n a hi
    have h1 : ¬ nI (N 1) < nI (i + 1) := fun q => absurd ((nI_ltI (by omega) (by omega)).mp q) (by omega)
    have h2 := tn_k hN s1 (i := i) (by omega)
    rw [s1, e_s] at h2
    have h3 := nI_clamp (n := i) (by omega)
    have h4 := nI_clamp (n := i + 1) (by omega)
    obtain ⟨⟨f9, hf, e1, e2⟩, ⟨t, ht, e3, e4⟩, _, _, e5⟩ := hM.1 i (by omega)
    have v1 := vin (j := i + 1) (n := 61) (by omega) (by decide)
    have I0 := ih (i + 1) n a (by omega)
    have I1 := ih (i + 1) n (a + 1) (by omega)
    have en : n + (d + 1) + 1 = (n + d + 1) + 1 := by omega
    rw [en]
    generalize n + d + 1 = f at I0 I1 ⊢
    have hi' : i < N 1 := by omega
    rcases e5 with ⟨e5, e6⟩ | ⟨e5, e6⟩
    · by_cases b1 : nI f9 = x
      · simp [kC_openMovesAt_4, kM_openAt_4, fC_openMovesAt_4, fM_openAt_4, s1, r1, h1, h2, hi', e_s, h3, h4, e1, e2, e3, e4, e5, e6, b1, v1, nI_1]
        exact I1
      · by_cases b2 : nI t = x
        · simp [kC_openMovesAt_4, kM_openAt_4, fC_openMovesAt_4, fM_openAt_4, s1, r1, h1, h2, hi', e_s, h3, h4, e1, e2, e3, e4, e5, e6, b1, b2, v1, nI_1]
          exact I1
        · simp [kC_openMovesAt_4, kM_openAt_4, fC_openMovesAt_4, fM_openAt_4, s1, r1, h1, h2, hi', e_s, h3, h4, e1, e2, e3, e4, e5, e6, b1, b2, v1, nI_1]
          exact I0
    · simp [kC_openMovesAt_4, kM_openAt_4, fC_openMovesAt_4, fM_openAt_4, s1, r1, h1, h2, hi', e_s, h3, h4, e5, e6, v1, nI_1]
      exact I0
theorem op_at {g : Nat → Nat → Nat → Int32} {N : Nat → Nat} {μ : Nat → Nat → Int32} (x : Int32) (hN : N 1 ≤ 60) (s1 : g 0 0 1 = nI (N 1)) (r1 : μ 10 0 = nI (N 1)) (hM : iM (N 0) (N 1) (g 7) (μ 11) (μ 12) (μ 13) (μ 14) (μ 15)) : kC_openMovesAt x g N ∧ kM_openAt x μ ∧ fC_openMovesAt x g N = fM_openAt x μ := by
  have h := lp_at (x := x) hN s1 r1 hM (N 1) 0 (199 - N 1) 0 (by omega)
  rw [show 199 - N 1 + N 1 + 1 = 200 by omega] at h
  exact h
theorem lp_ct {g : Nat → Nat → Nat → Int32} {N : Nat → Nat} {μ : Nat → Nat → Int32} {x : Int32} (hN : N 1 ≤ 60) (s1 : g 0 0 1 = nI (N 1)) (r1 : μ 10 0 = nI (N 1)) (hM : iM (N 0) (N 1) (g 7) (μ 11) (μ 12) (μ 13) (μ 14) (μ 15)) : ∀ (d i n : Nat) (a : Int32), i + d = N 1 → kC_openMoves_4 kC_openMoves_4x (n + d + 1) a (nI (i + 1)) g N ∧ kM_count_48 kM_count_48x (n + d + 1) x a (nI (i + 1)) μ ∧ ∃ v, fC_openMoves_4 fC_openMoves_4x (n + d + 1) a (nI (i + 1)) g N = v ∧ fM_count_48 fM_count_48x (n + d + 1) x a (nI (i + 1)) μ = (if x = 4 then v else -1, μ) := by
  intro d
  induction d with
  | zero =>
    intro i n a hi
    have h1 : nI (N 1) < nI (i + 1) := (nI_ltI (by omega) (by omega)).mpr (by omega)
    by_cases b : x = 4
    · simp [kC_openMoves_4, kM_count_48, fC_openMoves_4, fM_count_48, s1, r1, h1, kC_openMoves_4x, kM_count_48x, fC_openMoves_4x, fM_count_48x, b]
    · simp [kC_openMoves_4, kM_count_48, fC_openMoves_4, fM_count_48, s1, r1, h1, kC_openMoves_4x, kM_count_48x, fC_openMoves_4x, fM_count_48x, b]
  | succ d ih =>
    intro i n a hi
    have h1 : ¬ nI (N 1) < nI (i + 1) := fun q => absurd ((nI_ltI (by omega) (by omega)).mp q) (by omega)
    have h2 := tn_k hN s1 (i := i) (by omega)
    rw [s1, e_s] at h2
    have h3 := nI_clamp (n := i) (by omega)
    have h4 := nI_clamp (n := i + 1) (by omega)
    obtain ⟨_, _, _, _, e5⟩ := hM.1 i (by omega)
    have v1 := vin (j := i + 1) (n := 61) (by omega) (by decide)
    have I0 := ih (i + 1) n a (by omega)
    have I1 := ih (i + 1) n (a + 1) (by omega)
    have en : n + (d + 1) + 1 = (n + d + 1) + 1 := by omega
    rw [en]
    generalize n + d + 1 = f at I0 I1 ⊢
    have hi' : i < N 1 := by omega
    rcases e5 with ⟨e5, e6⟩ | ⟨e5, e6⟩
    · simp only [kC_openMoves_4, kM_count_48, fC_openMoves_4, fM_count_48, s1, r1, e_s, h3, h4, e5, e6, nI_1]
      simpa [h1, h2, v1, hi'] using I1
    · simp only [kC_openMoves_4, kM_count_48, fC_openMoves_4, fM_count_48, s1, r1, e_s, h3, h4, e5, e6, nI_1]
      simpa [h1, h2, v1, hi'] using I0

theorem pr_moves {k : Nat} {g : Nat → Nat → Nat → Int32} {N : Nat → Nat} {μ : Nat → Nat → Int32} (h : Inv k g N μ) (x1 : Int32) : pv_moves (Inv (k + 1)) x1 g N μ := by
  have h' := inv_up h
  obtain ⟨⟨⟨n0, n1, n2⟩, ⟨s0, s1, s2⟩, ⟨r0, r1, r2⟩, hd, hw, hc, ht, hr⟩, hK, hP, hM, hC, hB, hT⟩ := h
  unfold pv_moves fC_moves fM_moves kC_moves kM_moves
  simp only [fC_isKind, fC_isGood, fC_isPerson, fC_isPieces, fC_isDay, fM_isGood, fM_isPerson, fM_isPlace, fM_isCount, ite_at, pu_in, s0, s1, s2, r0, r1, r2, hd]
  by_cases a0 : fM_in x1 0 (nI (N 0) - 1) = 0
  · simp [pu_in, pu_kin, pu_kw, pu_kG, pu_kPn, pu_kPl, pu_kCt, pu_cG, pu_cK, pu_cPn, pu_cPc, pu_cD, u2_00, c_n, c_0_0, c_1_0, c_2_0, c_2_1, c_3_0, c_3_1, c_4_0, c_4_1, c_5_0, c_5_1, c_5_2, c_5_3, c_6_0, c_6_1, c_7_0, c_7_1, c_7_2, c_8_0, c_8_1, c_8_2, c_9_0, c_9_1, e_1, e_2, e_3, e_4, a0]
    exact inv_cd _ h'
  obtain ⟨p, hp, rfl⟩ := in_0 (by omega) a0
  have ep := nI_clamp (n := p) (by omega)
  have vp := vin (j := p) (n := 20) (by omega) (by decide)
  obtain ⟨k1, k2, f1⟩ := op_at (μ := u2 μ 0 0 0) (nI p) n1 s1 r1 hM
  simp [pu_in, pu_kin, pu_kw, pu_kG, pu_kPn, pu_kPl, pu_kCt, pu_cG, pu_cK, pu_cPn, pu_cPc, pu_cD, u2_00, c_n, c_0_0, c_1_0, c_2_0, c_2_1, c_3_0, c_3_1, c_4_0, c_4_1, c_5_0, c_5_1, c_5_2, c_5_3, c_6_0, c_6_1, c_7_0, c_7_1, c_7_2, c_8_0, c_8_1, c_8_2, c_9_0, c_9_1, e_1, e_2, e_3, e_4, a0, ep, vp, hp, k1, k2, f1]
  exact inv_cd _ h'

theorem pr_count {k : Nat} {g : Nat → Nat → Nat → Int32} {N : Nat → Nat} {μ : Nat → Nat → Int32} (h : Inv k g N μ) (x1 : Int32) : pv_count (Inv (k + 1)) x1 g N μ := by
  have h' := inv_up h
  obtain ⟨⟨⟨n0, n1, n2⟩, ⟨s0, s1, s2⟩, ⟨r0, r1, r2⟩, hd, hw, hc, ht, hr⟩, hK, hP, hM, hC, hB, hT⟩ := h
  unfold pv_count fC_count fM_count kC_count kM_count
  simp only [fC_isKind, fC_isGood, fC_isPerson, fC_isPieces, fC_isDay, fM_isGood, fM_isPerson, fM_isPlace, fM_isCount, ite_at, pu_in, s0, s1, s2, r0, r1, r2, hd]
  obtain ⟨k1, k2, v, f1, f2⟩ := lp_ct (x := x1) (μ := u2 μ 0 0 0) n1 s1 r1 hM (N 1) 0 (199 - N 1) 0 (by omega)
  rw [show 199 - N 1 + N 1 + 1 = 200 by omega] at k1 k2 f1 f2
  rw [show nI (0 + 1) = 1 from rfl] at k1 k2 f1 f2
  by_cases b0 : x1 = 0
  · simp [b0]; exact inv_cd _ h'
  by_cases b1 : x1 = 1
  · simp [b1]; exact inv_cd _ h'
  by_cases b2 : x1 = 2
  · simp [b2]; exact inv_cd _ h'
  by_cases b3 : x1 = 3
  · simp [b3]; exact inv_cd _ h'
  by_cases b4 : x1 = 4
  · subst b4
    unfold kC_openMoves fC_openMoves
    simp [k1, k2, f1, f2]
    exact inv_cd _ h'
  · simp [b0, b1, b2, b3, b4, k1, k2, f1, f2]
    exact inv_cd _ h'

theorem pr_share {k : Nat} {g : Nat → Nat → Nat → Int32} {N : Nat → Nat} {μ : Nat → Nat → Int32} (hk : k < 512) (h : Inv k g N μ) (x1 : Int32) : pv_share (Inv (k + 1)) x1 g N μ := by
  have h' := inv_up h
  obtain ⟨⟨⟨n0, n1, n2⟩, ⟨s0, s1, s2⟩, ⟨r0, r1, r2⟩, hd, hw, hc, ht, hr⟩, hK, hP, hM, hC, hB, hT⟩ := h
  unfold pv_share fC_share fM_share kC_share kM_share
  simp only [fC_isKind, fC_isGood, fC_isPerson, fC_isPieces, fC_isDay, fM_isGood, fM_isPerson, fM_isPlace, fM_isCount, ite_at, pu_in, s0, s1, s2, r0, r1, r2, hd]
  by_cases a0 : fM_in x1 0 1 = 0
  · simp [pu_in, pu_kin, pu_kw, pu_kG, pu_kPn, pu_kPl, pu_kCt, pu_cG, pu_cK, pu_cPn, pu_cPc, pu_cD, u2_00, c_n, c_0_0, c_1_0, c_2_0, c_2_1, c_3_0, c_3_1, c_4_0, c_4_1, c_5_0, c_5_1, c_5_2, c_5_3, c_6_0, c_6_1, c_7_0, c_7_1, c_7_2, c_8_0, c_8_1, c_8_2, c_9_0, c_9_1, e_1, e_2, e_3, e_4, a0]
    exact inv_cd _ h'
  obtain ⟨c, r, hrc, hck, t1, t2, t3, t4⟩ := hK
  obtain ⟨⟨k1, f1⟩, k2, f2⟩ := eu_both (a := c) (b := r) (by omega) (by omega)
  rcases Nat.eq_zero_or_pos c with rfl | hp
  · have : r = 0 := by omega
    subst this
    simp [pu_in, pu_kin, pu_kw, pu_kG, pu_kPn, pu_kPl, pu_kCt, pu_cG, pu_cK, pu_cPn, pu_cPc, pu_cD, u2_00, c_n, c_0_0, c_1_0, c_2_0, c_2_1, c_3_0, c_3_1, c_4_0, c_4_1, c_5_0, c_5_1, c_5_2, c_5_3, c_6_0, c_6_1, c_7_0, c_7_1, c_7_2, c_8_0, c_8_1, c_8_2, c_9_0, c_9_1, e_1, e_2, e_3, e_4, a0, t1, t2, t3, t4, k1, f1, nI_0]
    rw [nI_0] at k1 f1
    simp [pu_in, pu_kin, pu_kw, pu_kG, pu_kPn, pu_kPl, pu_kCt, pu_cG, pu_cK, pu_cPn, pu_cPc, pu_cD, u2_00, c_n, c_0_0, c_1_0, c_2_0, c_2_1, c_3_0, c_3_1, c_4_0, c_4_1, c_5_0, c_5_1, c_5_2, c_5_3, c_6_0, c_6_1, c_7_0, c_7_1, c_7_2, c_8_0, c_8_1, c_8_2, c_9_0, c_9_1, e_1, e_2, e_3, e_4, f1, k1, nI_0]
    exact inv_cd _ h'
  · have g1 : Nat.gcd c r ≤ c := Nat.gcd_le_left _ hp
    have g2 : 0 < Nat.gcd c r := Nat.gcd_pos_of_pos_left _ hp
    have z1 : ¬ nI (Nat.gcd c r) = 0 := nI_ne0 g2 (by omega)
    have z2 : ¬ nI c = 0 := nI_ne0 hp (by omega)
    by_cases b : x1 = 0
    · simp [pu_in, pu_kin, pu_kw, pu_kG, pu_kPn, pu_kPl, pu_kCt, pu_cG, pu_cK, pu_cPn, pu_cPc, pu_cD, u2_00, c_n, c_0_0, c_1_0, c_2_0, c_2_1, c_3_0, c_3_1, c_4_0, c_4_1, c_5_0, c_5_1, c_5_2, c_5_3, c_6_0, c_6_1, c_7_0, c_7_1, c_7_2, c_8_0, c_8_1, c_8_2, c_9_0, c_9_1, e_1, e_2, e_3, e_4, a0, t1, t2, t3, t4, k1, f1, k2, f2, z1, z2, b]
      rw [b] at a0
      simp [a0, pu_in, pu_kin, pu_kw, pu_kG, pu_kPn, pu_kPl, pu_kCt, pu_cG, pu_cK, pu_cPn, pu_cPc, pu_cD, u2_00, c_n, c_0_0, c_1_0, c_2_0, c_2_1, c_3_0, c_3_1, c_4_0, c_4_1, c_5_0, c_5_1, c_5_2, c_5_3, c_6_0, c_6_1, c_7_0, c_7_1, c_7_2, c_8_0, c_8_1, c_8_2, c_9_0, c_9_1, e_1, e_2, e_3, e_4]
      exact inv_cd _ h'
    · simp [pu_in, pu_kin, pu_kw, pu_kG, pu_kPn, pu_kPl, pu_kCt, pu_cG, pu_cK, pu_cPn, pu_cPc, pu_cD, u2_00, c_n, c_0_0, c_1_0, c_2_0, c_2_1, c_3_0, c_3_1, c_4_0, c_4_1, c_5_0, c_5_1, c_5_2, c_5_3, c_6_0, c_6_1, c_7_0, c_7_1, c_7_2, c_8_0, c_8_1, c_8_2, c_9_0, c_9_1, e_1, e_2, e_3, e_4, a0, t1, t2, t3, t4, k1, f1, k2, f2, z1, z2, b]
      exact inv_cd _ h'
