/-! PURE: correct -/
theorem iC_mark {N0 N2 : Nat} {z : Nat → Nat} {st mb nt pc ff sf ak co di : Nat → Nat → Int32} {m17 m18 m19 m20 m21 m22 m23 m24 m25 : Nat → Int32} {ak' co' : Nat → Nat → Int32} {m25' : Nat → Int32} {c l : Nat} (h : iC N0 N2 z st mb nt pc ff sf ak co di m17 m18 m19 m20 m21 m22 m23 m24 m25) (hc : c < N2) (hl : l < 6 * z c) (ha : ∀ b, b ≠ c → ak' b = ak b ∧ co' b = co b) (hj : ∀ j, j ≠ l → ak' c j = ak c j ∧ co' c j = co c j) (hx : ∀ x, x ≠ 120 * (c + 1) + l → m25' x = m25 x) (hn : iA (ak' c l) (co' c l) (m25' (120 * (c + 1) + l))) : iC N0 N2 z st mb nt pc ff sf ak' co' di m17 m18 m19 m20 m21 m22 m23 m24 m25' := by
  have hz := (h c hc).1.1.2
  refine iC_cg c h (fun _ _ => rfl) (fun b hb => ?_) (fun b hb => ⟨rfl, rfl, rfl, fun _ _ => rfl⟩) (fun b l' hb hl' => ⟨rfl, rfl, rfl, rfl, hx _ (by omega)⟩) N2 (fun b hb _ => hb) ⟨(h c hc).1, fun j hj' => ?_, (h c hc).2.2⟩
  · obtain ⟨h1, h2⟩ := ha b hb
    exact ⟨rfl, rfl, rfl, rfl, rfl, rfl, h1, h2, rfl⟩
  · obtain ⟨a1, a2, a3⟩ := (h c hc).2.1 j hj'
    refine ⟨a1, a2, ?_⟩
    by_cases e : j = l
    · subst e; exact hn
    · obtain ⟨h1, h2⟩ := hj j e
      show iA (ak' c j) (co' c j) (m25' (120 * (c + 1) + j))
      rw [h1, h2, hx _ (by omega)]
      exact a3
theorem iB_25 {N2 : Nat} {m18 m19 m21 m24 m25 m25' : Nat → Int32} (h : iB N2 m18 m19 m21 m24 m25) (h2 : ∀ c l, N2 < c → l < 120 → m25' (120 * c + l) = m25 (120 * c + l)) : iB N2 m18 m19 m21 m24 m25' := iB_up h (fun _ _ => rfl) (fun c l hc hl => ⟨rfl, rfl, h2 c l hc hl⟩)

theorem pr_correct {k : Nat} {g : Nat → Nat → Nat → Int32} {N : Nat → Nat} {μ : Nat → Nat → Int32} (h : Inv k g N μ) (x1 x2 x3 : Int32) : pv_correct (Inv (k + 1)) x1 x2 x3 g N μ := by
  have h' := inv_up h
  obtain ⟨⟨⟨n0, n1, n2⟩, ⟨s0, s1, s2⟩, ⟨r0, r1, r2⟩, hd, hw, hc, ht, hr⟩, hK, hP, hM, hC, hB, hT⟩ := h
  unfold pv_correct fC_correct fM_correct kC_correct kM_correct
  simp only [fC_isKind, fC_isGood, fC_isPerson, fC_isPieces, fC_isDay, fM_isGood, fM_isPerson, fM_isPlace, fM_isCount, ite_at, pu_in, s0, s1, s2, r0, r1, r2, hd]
  by_cases a0 : fM_in x1 1 (nI (N 2)) = 0
  · simp [pu_in, pu_kin, pu_kw, pu_kG, pu_kPn, pu_kPl, pu_kCt, pu_cG, pu_cK, pu_cPn, pu_cPc, pu_cD, u2_00, c_n, c_0_0, c_1_0, c_2_0, c_2_1, c_3_0, c_3_1, c_4_0, c_4_1, c_5_0, c_5_1, c_5_2, c_5_3, c_6_0, c_6_1, c_7_0, c_7_1, c_7_2, c_8_0, c_8_1, c_8_2, c_9_0, c_9_1, e_1, e_2, e_3, e_4, a0]
    exact inv_cd _ h'
  obtain ⟨c, hc', rfl⟩ := in_1 (by omega) a0
  have ec := nI_clamp (n := c) (by omega)
  have ec1 := nI_clamp (n := c + 1) (by omega)
  have vc := vin (j := c) (n := 20) (by omega) (by decide)
  have vc1 := vin (j := c + 1) (n := 21) (by omega) (by decide)
  obtain ⟨⟨z1, z2⟩, hz, ⟨s, hs, hs1, hs2⟩, hfi, hmb⟩ : iH (N 0) (N (3 + c)) (g 8 c) (g 9 c) (μ 17 (c + 1)) (μ 18 (c + 1)) (μ 19 (c + 1)) (fun j => μ 20 (20 * (c + 1) + j)) := (hC c hc').1
  obtain ⟨k1, k2, hdf⟩ := dif_both x2 (by omega) ((hC c hc').1) ((hC c hc').2.1) ((hC c hc').2.2)
  rcases hdf with ⟨q1, q2⟩ | ⟨l, hl, q1, q2⟩
  · simp [pu_in, pu_kin, pu_kw, pu_kG, pu_kPn, pu_kPl, pu_kCt, pu_cG, pu_cK, pu_cPn, pu_cPc, pu_cD, u2_00, c_n, c_0_0, c_1_0, c_2_0, c_2_1, c_3_0, c_3_1, c_4_0, c_4_1, c_5_0, c_5_1, c_5_2, c_5_3, c_6_0, c_6_1, c_7_0, c_7_1, c_7_2, c_8_0, c_8_1, c_8_2, c_9_0, c_9_1, e_1, e_2, e_3, e_4, a0, ec, ec1, vc, vc1, e_s, hz, hs1, hs2, hfi, hc', k1, k2, q1, q2]
    exact inv_cd _ h'
  have nl : ¬ nI l = -1 := fun q => by
    have := nI_pos (n := l) (by omega)
    rw [q] at this
    exact absurd (by decide) this
  have nL : ¬ nI (120 * (c + 1) + l) = -1 := fun q => by
    have := nI_pos (n := 120 * (c + 1) + l) (by omega)
    rw [q] at this
    exact absurd (by decide) this
  have eL := nI_clamp (n := 120 * (c + 1) + l) (by omega)
  have el := nI_clamp (n := l) (by omega)
  have vL := vin (j := 120 * (c + 1) + l) (n := 2520) (by omega) (by decide)
  have vl := vin (j := l) (n := 6 * N (3 + c)) (by omega) (by omega)
  obtain ⟨⟨w, hw1, w1, w2⟩, ⟨f, s', v', hf, hs', hv', hfs, t1, t2, t3, t4, t5, t6⟩, ⟨a, b, ha, hb, m1, m2, m3⟩⟩ : iV 61000000 (g 10 c l) (μ 21 (120 * (c + 1) + l)) ∧ iF (g 11 c l) (g 12 c l) (g 13 c l) (μ 22 (120 * (c + 1) + l)) (μ 23 (120 * (c + 1) + l)) (μ 24 (120 * (c + 1) + l)) ∧ iA (g 14 c l) (g 15 c l) (μ 25 (120 * (c + 1) + l)) := (hC c hc').2.1 l hl
  obtain ⟨p, hp, p1, p2⟩ := hmb (l / 6) (by omega)
  have ep := nI_clamp (n := p) (by omega)
  have e6 := nI_clamp (n := l / 6) (by omega)
  have v6 := vin (j := l / 6) (n := N (3 + c)) (by omega) (by omega)
  obtain ⟨kb, fb⟩ := bk_M (μ := u2 μ 0 0 0) (by omega) (by omega) p2
  obtain ⟨kt, ft⟩ := ct_M (μ := u2 μ 0 0 0) (by omega) z2 ((hC c hc').2.1) hl
  obtain ⟨y1, y2⟩ := fb_12 (μ := u2 μ 0 0 0) (by omega) hf hs' t1
  have y3 : ∀ m, kM_firstBy (nI (120 * (c + 1) + l)) m := fun _ => ⟨vL, trivial⟩
  have y4 : ∀ m, kM_secondBy (nI (120 * (c + 1) + l)) m := fun _ => ⟨vL, trivial⟩
  obtain ⟨z3, z4, z5⟩ := ak_M ha hb
  have d6 := e_d6 (l := l) (by omega)
  have r6 := e_r6 (l := l) (by omega)
  have R6 := e_r6 (l := 120 * (c + 1) + l) (by omega)
  rw [show (120 * (c + 1) + l) % 6 = l % 6 by omega] at R6
  have dp := e_d6 (l := 6 * p + l % 6) (by omega)
  rw [show (6 * p + l % 6) / 6 = p by omega] at dp
  by_cases a1 : fM_in x3 0 5 = 0
  · simp [pu_in, pu_kin, pu_kw, pu_kG, pu_kPn, pu_kPl, pu_kCt, pu_cG, pu_cK, pu_cPn, pu_cPc, pu_cD, u2_00, c_n, c_0_0, c_1_0, c_2_0, c_2_1, c_3_0, c_3_1, c_4_0, c_4_1, c_5_0, c_5_1, c_5_2, c_5_3, c_6_0, c_6_1, c_7_0, c_7_1, c_7_2, c_8_0, c_8_1, c_8_2, c_9_0, c_9_1, e_1, e_2, e_3, e_4, a0, ec, ec1, vc, vc1, e_s, hz, hs1, hs2, hfi, hc', k1, k2, q1, q2, nl, nL, eL, el, vL, vl, a1]
    exact inv_cd _ h'
  obtain ⟨e, he, rfl⟩ := in_c 5 (by decide) a1
  have er := nI_clamp (n := e) (by omega)
  have vr := vin (j := e) (n := 6) (by omega) (by decide)
  have hre := hr e (by omega)
  rcases (show b = 1 ∨ b = 0 by omega) with rfl | rfl
  · have b0 : ¬ nI (a + 10 * 1) < 10 := fun h => absurd (z5.mp h) (by decide)
    simp [pu_in, pu_kin, pu_kw, pu_kG, pu_kPn, pu_kPl, pu_kCt, pu_cG, pu_cK, pu_cPn, pu_cPc, pu_cD, u2_00, c_n, c_0_0, c_1_0, c_2_0, c_2_1, c_3_0, c_3_1, c_4_0, c_4_1, c_5_0, c_5_1, c_5_2, c_5_3, c_6_0, c_6_1, c_7_0, c_7_1, c_7_2, c_8_0, c_8_1, c_8_2, c_9_0, c_9_1, e_1, e_2, e_3, e_4, a0, ec, ec1, vc, vc1, e_s, hz, hs1, hs2, hfi, hc', k1, k2, q1, q2, nl, nL, eL, el, vL, vl, a1, m1, m3, b0]
    exact inv_cd _ h'
  have b0' : nI (a + 10 * 0) < 10 := z5.mpr rfl
  rw [Nat.mul_zero, Nat.add_zero] at z3 z4 m1 b0'
  have z5' := b0'
  have kf : ∀ a b, kM_far a b := fun a b => ⟨fun _ => trivial, fun _ => trivial⟩
  have fa := far_abs (v := v') (w := w) (by omega) (by omega)
  have m5 : nI a - 0 * 10 - 1 = nI a - 1 := by
    rw [Int32.zero_mul, Int32.sub_zero]
  have far1 : fM_far (fM_counts (nI (120 * (c + 1) + l)) (u2 μ 0 0 0)) (μ 21 (120 * (c + 1) + l)) = fM_far (nI v') (nI w) := by rw [ft, t4, w2]
  have kMC : kC_mayCorrect c (nI l) (nI e) g N := by
    unfold kC_mayCorrect
    refine ⟨vl, vr, ⟨vl, vl, trivial⟩, ?_, ?_⟩
    · exact fun _ => ⟨fun _ => trivial, fun _ => ⟨fun _ => trivial, fun _ => trivial⟩⟩
    · exact fun _ => ⟨fun _ => trivial, fun _ => ⟨fun _ => trivial, fun _ => trivial⟩⟩
  have fMC : fC_mayCorrect c (nI l) (nI e) g N = if μ 9 e < fM_far (nI v') (nI w) then (if nI a - 1 = -1 then 0 else if nI a - 1 = nI e then 0 else 1) else 1 := by
    unfold fC_mayCorrect fS_differenceOf
    rw [er, el, hre, t4, w1, fa, m2]
    by_cases c1 : μ 9 e < fM_far (nI v') (nI w)
    · rw [if_pos c1, if_pos c1]
    · rw [if_neg c1, if_neg c1]
      by_cases c2 : nI a - 1 = -1
      · rw [if_pos c2]
      · rw [if_neg c2]
        by_cases c3 : nI a - 1 = nI e
        · rw [if_pos c3]
        · rw [if_neg c3]
  obtain ⟨y, hy, y1', y2'⟩ := hP.2.1 p hp (l % 6) (by omega)
  have q6 := nI_clamp (n := l % 6) (by omega)
  have vr6 := vin (j := l % 6) (n := 6) (by omega) (by decide)
  have ec6 := nI_clamp (n := 6 * p + l % 6) (by omega)
  have vc6 := vin (j := 6 * p + l % 6) (n := 120) (by omega) (by decide)
  have pk := pn_k n0 s0 hp
  rw [s0, pu_in] at pk
  have pk2 := pk.2.1
  have r6' : nI l - nI (l / 6) * 6 = nI (l % 6) := by rw [← d6]; exact r6
  have kB : kS_differenceOf c (nI l) g N := ⟨vl, vl, trivial⟩
  obtain ⟨kb', fb'⟩ := bk_M (μ := u2 (u2 μ 0 0 0) 0 0 0) (by omega) (by omega) p2
  have as1 : nI y + (nI v' - nI w) = nI y + nI v' - nI w := by rw [Int32.sub_eq_add_neg, Int32.sub_eq_add_neg, Int32.add_assoc]
  simp only [q1, q2, ec, e_s, el, eL, m1, z3, nI_0, m5, fMC, fS_differenceOf]
  by_cases b1 : fM_far (nI v') (nI w) ≤ μ 9 e
  · have b2 : ¬ μ 9 e < fM_far (nI v') (nI w) := Int32.not_lt.mpr b1
    by_cases b4 : fM_in (nI y + (nI v' - nI w)) 0 1000000 = 0
    · simp only [as1] at b4
      simp [pu_in, pu_kin, pu_kw, pu_kG, pu_kPn, pu_kPl, pu_kCt, pu_cG, pu_cK, pu_cPn, pu_cPc, pu_cD, u2_00, c_n, c_0_0, c_1_0, c_2_0, c_2_1, c_3_0, c_3_1, c_4_0, c_4_1, c_5_0, c_5_1, c_5_2, c_5_3, c_6_0, c_6_1, c_7_0, c_7_1, c_7_2, c_8_0, c_8_1, c_8_2, c_9_0, c_9_1, e_1, e_2, e_3, e_4, a0, ec, ec1, vc, vc1, e_s, hz, hs1, hs2, hfi, hc', k1, k2, q1, q2, nl, nL, eL, el, vL, vl, er, vr, far1, kf, kMC, b0', z5', z3, z4, m1, a1, m3, nI_0, m5, b1, b2, kb, fb, d6, e6, v6, r6', q6, p1, ep, pk, pk2, y1', y2', w1, w2, t4, ft, kt, kB, ec6, vc6, as1, b4, hp, vr6]
      exact inv_cd _ h'
    · simp only [as1] at b4
      obtain ⟨n, hn, en⟩ := in_c 1000000 (by decide) b4
      rw [en] at b4
      have nb : vp_nar .boolean 1 = 1 := by decide
      simp [pu_in, pu_kin, pu_kw, pu_kG, pu_kPn, pu_kPl, pu_kCt, pu_cG, pu_cK, pu_cPn, pu_cPc, pu_cD, u2_00, c_n, c_0_0, c_1_0, c_2_0, c_2_1, c_3_0, c_3_1, c_4_0, c_4_1, c_5_0, c_5_1, c_5_2, c_5_3, c_6_0, c_6_1, c_7_0, c_7_1, c_7_2, c_8_0, c_8_1, c_8_2, c_9_0, c_9_1, e_1, e_2, e_3, e_4, a0, ec, ec1, vc, vc1, e_s, hz, hs1, hs2, hfi, hc', k1, k2, q1, q2, nl, nL, eL, el, vL, vl, er, vr, far1, kf, kMC, b0', z5', z3, z4, m1, a1, m3, nI_0, m5, b1, b2, kb, fb, kb', fb', d6, e6, v6, r6', q6, p1, ep, pk, pk2, y1', y2', w1, w2, t4, ft, kt, kB, ec6, vc6, as1, en, b4, hp, vr6, nb]
      refine ⟨rfl, h'.1, h'.2.1, iP_set (q := l % 6) hP hp (by omega) hn, hM, ?_, ?_, hT⟩
      · refine iC_mark hC hc' hl (fun b hb => ⟨rfl, u3_r hb⟩) (fun j hj => ⟨rfl, ?_⟩) (fun x hx => ?_) ?_
        · rw [u3_s, pk_un hj]; rfl
        · rw [u2_s, pk_un hx]; rfl
        · rw [u3_s, u2_s, pk_us, pk_us]
          refine ⟨a, 1, ha, by omega, ?_, m2, rfl⟩
          rw [show (10 : Int32) = nI 10 from rfl, nI_add]
      · refine iB_25 hB (fun b l' hb hl' => ?_)
        rw [u2_s, pk_un (by omega)]
        rfl
  have b2 : μ 9 e < fM_far (nI v') (nI w) := Int32.not_le.mp b1
  by_cases c2 : nI a - 1 = -1
  · have c9 := c2
    simp [pu_in, pu_kin, pu_kw, pu_kG, pu_kPn, pu_kPl, pu_kCt, pu_cG, pu_cK, pu_cPn, pu_cPc, pu_cD, u2_00, c_n, c_0_0, c_1_0, c_2_0, c_2_1, c_3_0, c_3_1, c_4_0, c_4_1, c_5_0, c_5_1, c_5_2, c_5_3, c_6_0, c_6_1, c_7_0, c_7_1, c_7_2, c_8_0, c_8_1, c_8_2, c_9_0, c_9_1, e_1, e_2, e_3, e_4, a0, ec, ec1, vc, vc1, e_s, hz, hs1, hs2, hfi, hc', k1, k2, q1, q2, nl, nL, eL, el, vL, vl, er, vr, far1, kf, kMC, b0', z5', z3, z4, m1, a1, m3, nI_0, m5, b1, b2, c2, nI_1, w1, w2, t4, ft, kt]
    refine ⟨rfl, h'.1, h'.2.1, hP, hM, ?_, ?_, hT⟩
    · refine iC_mark hC hc' hl (fun b hb => ⟨u3_r hb, rfl⟩) (fun j hj => ⟨?_, rfl⟩) (fun x hx => ?_) ?_
      · rw [u3_s, pk_un hj]
      · rw [u2_s, pk_un hx]; rfl
      · rw [u3_s, u2_s, pk_us, pk_us]
        exact ⟨e + 1, 0, by omega, by omega, rfl, (nI_pred e).symm, m3⟩
    · refine iB_25 hB (fun b l' hb hl' => ?_)
      rw [u2_s, pk_un (by omega)]
      rfl
  by_cases c3 : nI a - 1 = nI e
  · have c9 := c3
    have ne : ¬ nI e = -1 := fun q => by
      have := nI_pos (n := e) (by omega)
      rw [q] at this
      exact absurd (by decide) this
    simp [pu_in, pu_kin, pu_kw, pu_kG, pu_kPn, pu_kPl, pu_kCt, pu_cG, pu_cK, pu_cPn, pu_cPc, pu_cD, u2_00, c_n, c_0_0, c_1_0, c_2_0, c_2_1, c_3_0, c_3_1, c_4_0, c_4_1, c_5_0, c_5_1, c_5_2, c_5_3, c_6_0, c_6_1, c_7_0, c_7_1, c_7_2, c_8_0, c_8_1, c_8_2, c_9_0, c_9_1, e_1, e_2, e_3, e_4, a0, ec, ec1, vc, vc1, e_s, hz, hs1, hs2, hfi, hc', k1, k2, q1, q2, nl, nL, eL, el, vL, vl, er, vr, far1, kf, kMC, b0', z5', z3, z4, m1, a1, m3, nI_0, m5, b1, b2, c2, c3, ne, nI_1, w1, w2, t4, ft, kt]
    refine ⟨rfl, h'.1, h'.2.1, hP, hM, ?_, ?_, hT⟩
    · refine iC_mark hC hc' hl (fun b hb => ⟨u3_r hb, rfl⟩) (fun j hj => ⟨?_, rfl⟩) (fun x hx => ?_) ?_
      · rw [u3_s, pk_un hj]
      · rw [u2_s, pk_un hx]; rfl
      · rw [u3_s, u2_s, pk_us, pk_us]
        exact ⟨e + 1, 0, by omega, by omega, rfl, (nI_pred e).symm, m3⟩
    · refine iB_25 hB (fun b l' hb hl' => ?_)
      rw [u2_s, pk_un (by omega)]
      rfl
  · have c9 := c3
    by_cases b4 : fM_in (nI y + (nI v' - nI w)) 0 1000000 = 0
    · simp only [as1] at b4
      simp [pu_in, pu_kin, pu_kw, pu_kG, pu_kPn, pu_kPl, pu_kCt, pu_cG, pu_cK, pu_cPn, pu_cPc, pu_cD, u2_00, c_n, c_0_0, c_1_0, c_2_0, c_2_1, c_3_0, c_3_1, c_4_0, c_4_1, c_5_0, c_5_1, c_5_2, c_5_3, c_6_0, c_6_1, c_7_0, c_7_1, c_7_2, c_8_0, c_8_1, c_8_2, c_9_0, c_9_1, e_1, e_2, e_3, e_4, a0, ec, ec1, vc, vc1, e_s, hz, hs1, hs2, hfi, hc', k1, k2, q1, q2, nl, nL, eL, el, vL, vl, er, vr, far1, kf, kMC, b0', z5', z3, z4, m1, a1, m3, nI_0, m5, b1, b2, c2, c3, kb, fb, d6, e6, v6, r6', q6, p1, ep, pk, pk2, y1', y2', w1, w2, t4, ft, kt, kB, ec6, vc6, as1, b4, hp, vr6]
      exact inv_cd _ h'
    · simp only [as1] at b4
      obtain ⟨n, hn, en⟩ := in_c 1000000 (by decide) b4
      rw [en] at b4
      have nb : vp_nar .boolean 1 = 1 := by decide
      simp [pu_in, pu_kin, pu_kw, pu_kG, pu_kPn, pu_kPl, pu_kCt, pu_cG, pu_cK, pu_cPn, pu_cPc, pu_cD, u2_00, c_n, c_0_0, c_1_0, c_2_0, c_2_1, c_3_0, c_3_1, c_4_0, c_4_1, c_5_0, c_5_1, c_5_2, c_5_3, c_6_0, c_6_1, c_7_0, c_7_1, c_7_2, c_8_0, c_8_1, c_8_2, c_9_0, c_9_1, e_1, e_2, e_3, e_4, a0, ec, ec1, vc, vc1, e_s, hz, hs1, hs2, hfi, hc', k1, k2, q1, q2, nl, nL, eL, el, vL, vl, er, vr, far1, kf, kMC, b0', z5', z3, z4, m1, a1, m3, nI_0, m5, b1, b2, c2, c3, kb, fb, kb', fb', d6, e6, v6, r6', q6, p1, ep, pk, pk2, y1', y2', w1, w2, t4, ft, kt, kB, ec6, vc6, as1, en, b4, hp, vr6, nb]
      refine ⟨rfl, h'.1, h'.2.1, iP_set (q := l % 6) hP hp (by omega) hn, hM, ?_, ?_, hT⟩
      · refine iC_mark hC hc' hl (fun b hb => ⟨rfl, u3_r hb⟩) (fun j hj => ⟨rfl, ?_⟩) (fun x hx => ?_) ?_
        · rw [u3_s, pk_un hj]; rfl
        · rw [u2_s, pk_un hx]; rfl
        · rw [u3_s, u2_s, pk_us, pk_us]
          refine ⟨a, 1, ha, by omega, ?_, m2, rfl⟩
          rw [show (10 : Int32) = nI 10 from rfl, nI_add]
      · refine iB_25 hB (fun b l' hb hl' => ?_)
        rw [u2_s, pk_un (by omega)]
        rfl
