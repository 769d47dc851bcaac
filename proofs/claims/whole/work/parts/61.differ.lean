/-! PURE: differ, correct -/
theorem dif_both {N0 : Nat} {g : Nat → Nat → Nat → Int32} {N : Nat → Nat} {μ : Nat → Nat → Int32} {c : Nat} (x : Int32) (hc : c < 20) (hH : iH N0 (N (3 + c)) (g 8 c) (g 9 c) (μ 17 (c + 1)) (μ 18 (c + 1)) (μ 19 (c + 1)) (fun j => μ 20 (20 * (c + 1) + j))) (hL : iL (N (3 + c)) (g 10 c) (g 11 c) (g 12 c) (g 13 c) (g 14 c) (g 15 c) (fun l => μ 21 (120 * (c + 1) + l)) (fun l => μ 22 (120 * (c + 1) + l)) (fun l => μ 23 (120 * (c + 1) + l)) (fun l => μ 24 (120 * (c + 1) + l)) (fun l => μ 25 (120 * (c + 1) + l))) (hD : iD (N (3 + c)) (g 8 c) (g 10 c) (g 11 c) (g 12 c) (g 16 c)) : kS_differingLine c x g N ∧ kM_difference (nI (c + 1)) x μ ∧ ((fS_differingLine c x g N = -1 ∧ fM_difference (nI (c + 1)) x μ = -1) ∨ ∃ l, l < 6 * N (3 + c) ∧ fS_differingLine c x g N = nI l ∧ fM_difference (nI (c + 1)) x μ = nI (120 * (c + 1) + l)) := by
  obtain ⟨⟨z1, z2⟩, hz, ⟨s, hs, hs1, hs2⟩, _, _⟩ := hH
  by_cases b0 : x < 0
  · obtain ⟨k1, f1⟩ := df_N (x := x) hc hz (Or.inr b0)
    refine ⟨?_, k1, Or.inl ⟨?_, f1⟩⟩
    · simp [kS_differingLine, b0]
    · simp [fS_differingLine, b0]
  obtain ⟨n, hn, rfl⟩ := nI_of b0
  by_cases b1 : s = 2
  · have e2 : g 8 c 2 = 2 := by rw [hs1, b1]; rfl
    obtain ⟨d1, d2⟩ := hD.1 e2
    obtain ⟨k1, f1⟩ := df_M hc z2 hL hz (by rw [hs2, b1]; rfl) hn
    have hlen := dl_len (nt := g 10 c) (pc := g 11 c) (ff := g 12 c) (s := 0) (m := 6 * N (3 + c))
    by_cases b2 : (dfL (g 10 c) (g 11 c) (g 12 c) 0 (6 * N (3 + c))).length ≤ n
    · have b3 : nI (dfL (g 10 c) (g 11 c) (g 12 c) 0 (6 * N (3 + c))).length ≤ nI n := (nI_leI (by omega) hn).mpr b2
      rw [List.getElem?_eq_none b2] at f1
      refine ⟨?_, k1, Or.inl ⟨?_, f1⟩⟩
      · simp [kS_differingLine, b0, d1, b3]
      · simp [fS_differingLine, b0, d1, b3]
    · have b3 : ¬ nI (dfL (g 10 c) (g 11 c) (g 12 c) 0 (6 * N (3 + c))).length ≤ nI n := fun h => b2 ((nI_leI (by omega) hn).mp h)
      have e3 := List.getElem?_eq_getElem (Nat.not_le.mp b2)
      generalize (dfL (g 10 c) (g 11 c) (g 12 c) 0 (6 * N (3 + c)))[n] = l at e3
      have e4 := d2 n l e3
      obtain ⟨_, l2, _⟩ := dl_mem e3
      rw [e3] at f1
      have v1 := vin (j := n) (n := 6 * N (3 + c)) (by omega) (by omega)
      have e5 := nI_clamp hn
      refine ⟨?_, k1, Or.inr ⟨l, by omega, ?_, f1⟩⟩
      · simp [kS_differingLine, b0, d1, b3, v1]
      · simp [fS_differingLine, b0, d1, b3, e5, e4]
  · have e2 : ¬ nI s = 2 := fun h => b1 ((nI_eq (b := 2) (by omega) (by decide)).mp h)
    have e3 := hD.2 (by rw [hs1]; exact e2)
    obtain ⟨k1, f1⟩ := df_N (x := nI n) hc hz (Or.inl (by rw [hs2]; exact e2))
    have e4 : (0 : Int32) ≤ nI n := nI_pos' hn
    refine ⟨?_, k1, Or.inl ⟨?_, f1⟩⟩
    · simp [kS_differingLine, b0, e3, e4]
    · simp [fS_differingLine, b0, e3, e4]
theorem e_d6 {l : Nat} (h : l < 2 ^ 31) : nI l / 6 = nI (l / 6) := pk_div (d := 6) h (by omega) (by decide)
theorem e_r6 {l : Nat} (h : l < 2 ^ 31) : nI l - nI l / 6 * 6 = nI (l % 6) := pk_rem (d := 6) h (by omega) (by decide)
theorem bk_M {μ : Nat → Nat → Int32} {c l p : Nat} (hc : c < 20) (hl : l < 120) (e : μ 20 (20 * (c + 1) + l / 6) = nI p) : kM_bookedAt (nI (120 * (c + 1) + l)) μ ∧ fM_bookedAt (nI (120 * (c + 1) + l)) μ = nI (6 * p + l % 6) := by
  have h1 : nI (120 * (c + 1) + l) / 120 = nI (c + 1) := by
    have := pk_div (a := 120 * (c + 1) + l) (d := 120) (by omega) (by omega) (by decide)
    rw [show (120 * (c + 1) + l) / 120 = c + 1 by omega] at this
    exact this
  have h2 : nI (120 * (c + 1) + l) - nI (c + 1) * 120 = nI l := by
    have := pk_rem (a := 120 * (c + 1) + l) (d := 120) (by omega) (by omega) (by decide)
    rw [show (120 * (c + 1) + l) % 120 = l by omega] at this
    rw [← h1]
    exact this
  have h3 := e_d6 (l := l) (by omega)
  have h4 := e_r6 (l := 120 * (c + 1) + l) (by omega)
  rw [show (120 * (c + 1) + l) % 6 = l % 6 by omega] at h4
  have h5 := nI_clamp (n := 20 * (c + 1) + l / 6) (by omega)
  have v1 := vin (j := 20 * (c + 1) + l / 6) (n := 420) (by omega) (by decide)
  unfold kM_bookedAt fM_bookedAt
  rw [h1, h2, h3, e_20, h4, h5, e, e_6]
  exact ⟨⟨v1, trivial⟩, rfl⟩
theorem ak_M {a b : Nat} (ha : a ≤ 6) (hb : b ≤ 1) : nI (a + 10 * b) / 10 = nI b ∧ nI (a + 10 * b) - nI b * 10 = nI a ∧ (nI (a + 10 * b) < 10 ↔ b = 0) := by
  have h1 : nI (a + 10 * b) / 10 = nI b := by
    have := pk_div (a := a + 10 * b) (d := 10) (by omega) (by omega) (by decide)
    rw [show (a + 10 * b) / 10 = b by omega] at this
    exact this
  refine ⟨h1, ?_, ?_⟩
  · have := pk_rem (a := a + 10 * b) (d := 10) (by omega) (by omega) (by decide)
    rw [show (a + 10 * b) % 10 = a by omega] at this
    rw [← h1]
    exact this
  · rw [show (10 : Int32) = nI 10 from rfl, nI_ltI (by omega) (by decide)]
    omega

theorem pr_differ {k : Nat} {g : Nat → Nat → Nat → Int32} {N : Nat → Nat} {μ : Nat → Nat → Int32} (h : Inv k g N μ) (x1 x2 x3 : Int32) : pv_differ (Inv (k + 1)) x1 x2 x3 g N μ := by
  have h' := inv_up h
  obtain ⟨⟨⟨n0, n1, n2⟩, ⟨s0, s1, s2⟩, ⟨r0, r1, r2⟩, hd, hw, hc, ht, hr⟩, hK, hP, hM, hC, hB, hT⟩ := h
  unfold pv_differ fC_differ fM_differ kC_differ kM_differ
  simp only [fC_isKind, fC_isGood, fC_isPerson, fC_isPieces, fC_isDay, fM_isGood, fM_isPerson, fM_isPlace, fM_isCount, ite_at, pu_in, s0, s1, s2, r0, r1, r2, hd]
  by_cases a0 : fM_in x1 1 (nI (N 2)) = 0
  · simp [pu_in, pu_kin, pu_kw, pu_kG, pu_kPn, pu_kPl, pu_kCt, pu_cG, pu_cK, pu_cPn, pu_cPc, pu_cD, u2_00, c_n, c_0_0, c_1_0, c_2_0, c_2_1, c_3_0, c_3_1, c_4_0, c_4_1, c_5_0, c_5_1, c_5_2, c_5_3, c_6_0, c_6_1, c_7_0, c_7_1, c_7_2, c_8_0, c_8_1, c_8_2, c_9_0, c_9_1, e_1, e_2, e_3, e_4, a0]
    exact inv_cd _ h'
  obtain ⟨c, hc', rfl⟩ := in_1 (by omega) a0
  have ec := nI_clamp (n := c) (by omega)
  have ec1 := nI_clamp (n := c + 1) (by omega)
  have vc := vin (j := c) (n := 20) (by omega) (by decide)
  have vc1 := vin (j := c + 1) (n := 21) (by omega) (by decide)
  obtain ⟨⟨z1, z2⟩, hz, ⟨s, hs, hs1, hs2⟩, hfi, hmb⟩ : iH (N 0) (N (3 + c)) (g 8 c) (g 9 c) (μ 17 (c + 1)) (μ 18 (c + 1)) (μ 19 (c + 1)) (fun j => μ 20 (20 * (c + 1) + j)) := (hC c hc').1
  obtain ⟨k1, k2, hdf⟩ := dif_both x2 (by omega) ((hC c hc').1) ((hC c hc').2.1) ((hC c hc').2.2)
  rcases hdf with ⟨q1, q2⟩ | ⟨l, hl, q1, q2⟩
  · simp [pu_in, pu_kin, pu_kw, pu_kG, pu_kPn, pu_kPl, pu_kCt, pu_cG, pu_cK, pu_cPn, pu_cPc, pu_cD, u2_00, c_n, c_0_0, c_1_0, c_2_0, c_2_1, c_3_0, c_3_1, c_4_0, c_4_1, c_5_0, c_5_1, c_5_2, c_5_3, c_6_0, c_6_1, c_7_0, c_7_1, c_7_2, c_8_0, c_8_1, c_8_2, c_9_0, c_9_1, e_1, e_2, e_3, e_4, a0, ec, ec1, vc, vc1, e_s, hz, hs1, hs2, hfi, hc', k1, k2, q1, q2]
    exact inv_cd _ h'
  have nl : ¬ nI l = -1 := fun q => by
    have := nI_pos (n := l) (by omega)
    rw [q] at this
    exact absurd (by decide) this
  have nL : ¬ nI (120 * (c + 1) + l) = -1 := fun q => by
    have := nI_pos (n := 120 * (c + 1) + l) (by omega)
    rw [q] at this
    exact absurd (by decide) this
  have eL := nI_clamp (n := 120 * (c + 1) + l) (by omega)
  have el := nI_clamp (n := l) (by omega)
  have vL := vin (j := 120 * (c + 1) + l) (n := 2520) (by omega) (by decide)
  have vl := vin (j := l) (n := 6 * N (3 + c)) (by omega) (by omega)
  obtain ⟨⟨w, hw1, w1, w2⟩, ⟨f, s', v', hf, hs', hv', hfs, t1, t2, t3, t4, t5, t6⟩, ⟨a, b, ha, hb, m1, m2, m3⟩⟩ : iV 61000000 (g 10 c l) (μ 21 (120 * (c + 1) + l)) ∧ iF (g 11 c l) (g 12 c l) (g 13 c l) (μ 22 (120 * (c + 1) + l)) (μ 23 (120 * (c + 1) + l)) (μ 24 (120 * (c + 1) + l)) ∧ iA (g 14 c l) (g 15 c l) (μ 25 (120 * (c + 1) + l)) := (hC c hc').2.1 l hl
  obtain ⟨p, hp, p1, p2⟩ := hmb (l / 6) (by omega)
  have ep := nI_clamp (n := p) (by omega)
  have e6 := nI_clamp (n := l / 6) (by omega)
  have v6 := vin (j := l / 6) (n := N (3 + c)) (by omega) (by omega)
  obtain ⟨kb, fb⟩ := bk_M (μ := u2 μ 0 0 0) (by omega) (by omega) p2
  obtain ⟨kt, ft⟩ := ct_M (μ := u2 μ 0 0 0) (by omega) z2 ((hC c hc').2.1) hl
  obtain ⟨y1, y2⟩ := fb_12 (μ := u2 μ 0 0 0) (by omega) hf hs' t1
  have y3 : ∀ m, kM_firstBy (nI (120 * (c + 1) + l)) m := fun _ => ⟨vL, trivial⟩
  have y4 : ∀ m, kM_secondBy (nI (120 * (c + 1) + l)) m := fun _ => ⟨vL, trivial⟩
  obtain ⟨z3, z4, z5⟩ := ak_M ha hb
  have d6 := e_d6 (l := l) (by omega)
  have r6 := e_r6 (l := l) (by omega)
  have R6 := e_r6 (l := 120 * (c + 1) + l) (by omega)
  rw [show (120 * (c + 1) + l) % 6 = l % 6 by omega] at R6
  have dp := e_d6 (l := 6 * p + l % 6) (by omega)
  rw [show (6 * p + l % 6) / 6 = p by omega] at dp
  by_cases a1 : fM_in x3 0 5 = 0
  · have j0 : ¬ x3 = 0 := fun e => absurd a1 (by rw [e]; decide)
    have j1 : ¬ x3 = 1 := fun e => absurd a1 (by rw [e]; decide)
    have j2 : ¬ x3 = 2 := fun e => absurd a1 (by rw [e]; decide)
    have j3 : ¬ x3 = 3 := fun e => absurd a1 (by rw [e]; decide)
    have j4 : ¬ x3 = 4 := fun e => absurd a1 (by rw [e]; decide)
    have j5 : ¬ x3 = 5 := fun e => absurd a1 (by rw [e]; decide)
    simp [pu_in, pu_kin, pu_kw, pu_kG, pu_kPn, pu_kPl, pu_kCt, pu_cG, pu_cK, pu_cPn, pu_cPc, pu_cD, u2_00, c_n, c_0_0, c_1_0, c_2_0, c_2_1, c_3_0, c_3_1, c_4_0, c_4_1, c_5_0, c_5_1, c_5_2, c_5_3, c_6_0, c_6_1, c_7_0, c_7_1, c_7_2, c_8_0, c_8_1, c_8_2, c_9_0, c_9_1, e_1, e_2, e_3, e_4, a0, ec, ec1, vc, vc1, e_s, hz, hs1, hs2, hfi, hc', k1, k2, q1, q2, nl, nL, eL, el, vL, vl, a1, j0, j1, j2, j3, j4, j5]
    exact inv_cd _ h'
  obtain ⟨i, hi, rfl⟩ := in_c 5 (by decide) a1
  clear a1
  rcases (show i = 0 ∨ i = 1 ∨ i = 2 ∨ i = 3 ∨ i = 4 ∨ i = 5 by omega) with rfl | rfl | rfl | rfl | rfl | rfl
  · rw [show nI 0 = 0 from rfl]
    have a1 : ¬ fM_in 0 0 5 = 0 := by decide
    simp [pu_in, pu_kin, pu_kw, pu_kG, pu_kPn, pu_kPl, pu_kCt, pu_cG, pu_cK, pu_cPn, pu_cPc, pu_cD, u2_00, c_n, c_0_0, c_1_0, c_2_0, c_2_1, c_3_0, c_3_1, c_4_0, c_4_1, c_5_0, c_5_1, c_5_2, c_5_3, c_6_0, c_6_1, c_7_0, c_7_1, c_7_2, c_8_0, c_8_1, c_8_2, c_9_0, c_9_1, e_1, e_2, e_3, e_4, a0, ec, ec1, vc, vc1, e_s, hz, hs1, hs2, hfi, hc', k1, k2, q1, q2, nl, nL, eL, el, vL, vl, a1, d6, e6, v6, kb, fb, dp, p1]
    exact inv_cd _ h'
  · rw [show nI 1 = 1 from rfl]
    have a1 : ¬ fM_in 1 0 5 = 0 := by decide
    simp only [q1, q2, ec, e_s, r6, R6]
    simp [pu_in, pu_kin, pu_kw, pu_kG, pu_kPn, pu_kPl, pu_kCt, pu_cG, pu_cK, pu_cPn, pu_cPc, pu_cD, u2_00, c_n, c_0_0, c_1_0, c_2_0, c_2_1, c_3_0, c_3_1, c_4_0, c_4_1, c_5_0, c_5_1, c_5_2, c_5_3, c_6_0, c_6_1, c_7_0, c_7_1, c_7_2, c_8_0, c_8_1, c_8_2, c_9_0, c_9_1, e_1, e_2, e_3, e_4, a0, ec, ec1, vc, vc1, e_s, hz, hs1, hs2, hfi, hc', k1, k2, q1, q2, nl, nL, eL, el, vL, vl, a1]
    exact inv_cd _ h'
  · rw [show nI 2 = 2 from rfl]
    have a1 : ¬ fM_in 2 0 5 = 0 := by decide
    simp [pu_in, pu_kin, pu_kw, pu_kG, pu_kPn, pu_kPl, pu_kCt, pu_cG, pu_cK, pu_cPn, pu_cPc, pu_cD, u2_00, c_n, c_0_0, c_1_0, c_2_0, c_2_1, c_3_0, c_3_1, c_4_0, c_4_1, c_5_0, c_5_1, c_5_2, c_5_3, c_6_0, c_6_1, c_7_0, c_7_1, c_7_2, c_8_0, c_8_1, c_8_2, c_9_0, c_9_1, e_1, e_2, e_3, e_4, a0, ec, ec1, vc, vc1, e_s, hz, hs1, hs2, hfi, hc', k1, k2, q1, q2, nl, nL, eL, el, vL, vl, a1, kt, ft, kS_differenceOf, fS_differenceOf, w1, w2]
    exact inv_cd _ h'
  · rw [show nI 3 = 3 from rfl]
    have a1 : ¬ fM_in 3 0 5 = 0 := by decide
    by_cases b1 : nI s' - 1 = -1
    · simp [pu_in, pu_kin, pu_kw, pu_kG, pu_kPn, pu_kPl, pu_kCt, pu_cG, pu_cK, pu_cPn, pu_cPc, pu_cD, u2_00, c_n, c_0_0, c_1_0, c_2_0, c_2_1, c_3_0, c_3_1, c_4_0, c_4_1, c_5_0, c_5_1, c_5_2, c_5_3, c_6_0, c_6_1, c_7_0, c_7_1, c_7_2, c_8_0, c_8_1, c_8_2, c_9_0, c_9_1, e_1, e_2, e_3, e_4, a0, ec, ec1, vc, vc1, e_s, hz, hs1, hs2, hfi, hc', k1, k2, q1, q2, nl, nL, eL, el, vL, vl, a1, y1, y2, y3, y4, kS_finderOf, fS_finderOf, t2, t3, b1]
      exact inv_cd _ h'
    · simp [pu_in, pu_kin, pu_kw, pu_kG, pu_kPn, pu_kPl, pu_kCt, pu_cG, pu_cK, pu_cPn, pu_cPc, pu_cD, u2_00, c_n, c_0_0, c_1_0, c_2_0, c_2_1, c_3_0, c_3_1, c_4_0, c_4_1, c_5_0, c_5_1, c_5_2, c_5_3, c_6_0, c_6_1, c_7_0, c_7_1, c_7_2, c_8_0, c_8_1, c_8_2, c_9_0, c_9_1, e_1, e_2, e_3, e_4, a0, ec, ec1, vc, vc1, e_s, hz, hs1, hs2, hfi, hc', k1, k2, q1, q2, nl, nL, eL, el, vL, vl, a1, y1, y2, y3, y4, kS_finderOf, fS_finderOf, t2, t3, b1]
      exact inv_cd _ h'
  · rw [show nI 4 = 4 from rfl]
    have a1 : ¬ fM_in 4 0 5 = 0 := by decide
    rcases (show b = 0 ∨ b = 1 by omega) with rfl | rfl
    · simp only [m1, z3, q2, eL]
      simp [pu_in, pu_kin, pu_kw, pu_kG, pu_kPn, pu_kPl, pu_kCt, pu_cG, pu_cK, pu_cPn, pu_cPc, pu_cD, u2_00, c_n, c_0_0, c_1_0, c_2_0, c_2_1, c_3_0, c_3_1, c_4_0, c_4_1, c_5_0, c_5_1, c_5_2, c_5_3, c_6_0, c_6_1, c_7_0, c_7_1, c_7_2, c_8_0, c_8_1, c_8_2, c_9_0, c_9_1, e_1, e_2, e_3, e_4, a0, ec, ec1, vc, vc1, e_s, hz, hs1, hs2, hfi, hc', k1, k2, q1, q2, nl, nL, eL, el, vL, vl, a1, m3, nI_0]
      exact inv_cd _ h'
    · simp only [m1, z3, q2, eL]
      simp [pu_in, pu_kin, pu_kw, pu_kG, pu_kPn, pu_kPl, pu_kCt, pu_cG, pu_cK, pu_cPn, pu_cPc, pu_cD, u2_00, c_n, c_0_0, c_1_0, c_2_0, c_2_1, c_3_0, c_3_1, c_4_0, c_4_1, c_5_0, c_5_1, c_5_2, c_5_3, c_6_0, c_6_1, c_7_0, c_7_1, c_7_2, c_8_0, c_8_1, c_8_2, c_9_0, c_9_1, e_1, e_2, e_3, e_4, a0, ec, ec1, vc, vc1, e_s, hz, hs1, hs2, hfi, hc', k1, k2, q1, q2, nl, nL, eL, el, vL, vl, a1, m3]
      exact inv_cd _ h'
  · rw [show nI 5 = 5 from rfl]
    have a1 : ¬ fM_in 5 0 5 = 0 := by decide
    simp only [m1, z3, q2, eL, z4]
    simp [pu_in, pu_kin, pu_kw, pu_kG, pu_kPn, pu_kPl, pu_kCt, pu_cG, pu_cK, pu_cPn, pu_cPc, pu_cD, u2_00, c_n, c_0_0, c_1_0, c_2_0, c_2_1, c_3_0, c_3_1, c_4_0, c_4_1, c_5_0, c_5_1, c_5_2, c_5_3, c_6_0, c_6_1, c_7_0, c_7_1, c_7_2, c_8_0, c_8_1, c_8_2, c_9_0, c_9_1, e_1, e_2, e_3, e_4, a0, ec, ec1, vc, vc1, e_s, hz, hs1, hs2, hfi, hc', k1, k2, q1, q2, nl, nL, eL, el, vL, vl, a1, m2]
    exact inv_cd _ h'
