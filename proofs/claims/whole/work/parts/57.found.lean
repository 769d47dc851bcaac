/-! PURE: found -/
theorem u3_ne {g : Nat → Nat → Nat → Int32} {c i j d : Nat} {v : Int32} (h : d ≠ c) : u3 g c i j v d = g d := if_neg h
theorem u2_ne {μ : Nat → Nat → Int32} {k j d : Nat} {v : Int32} (h : d ≠ k) : u2 μ k j v d = μ d := if_neg h
theorem u2_s {μ : Nat → Nat → Int32} {k j : Nat} {v : Int32} : u2 μ k j v k = upd (μ k) j v := if_pos rfl
theorem ur_ne {g : Nat → Nat → Nat → Int32} {c i d : Nat} {f : Nat → Int32} (h : d ≠ c) : ur g c i f d = g d := if_neg h
theorem iL_set {z l : Nat} {nt pc ff sf ak co m21 m22 m23 m24 m25 pc' ff' sf' m22' m23' m24' : Nat → Int32} (h : iL z nt pc ff sf ak co m21 m22 m23 m24 m25) (hn : iF (pc' l) (ff' l) (sf' l) (m22' l) (m23' l) (m24' l)) (hd : ∀ j, j ≠ l → pc' j = pc j ∧ ff' j = ff j ∧ sf' j = sf j ∧ m22' j = m22 j ∧ m23' j = m23 j ∧ m24' j = m24 j) : iL z nt pc' ff' sf' ak co m21 m22' m23' m24' m25 := by
  intro j hj
  obtain ⟨h1, h2, h3⟩ := h j hj
  by_cases e : j = l
  · subst e; exact ⟨h1, hn, h3⟩
  · obtain ⟨d1, d2, d3, d4, d5, d6⟩ := hd j e
    rw [d1, d2, d3, d4, d5, d6]
    exact ⟨h1, h2, h3⟩

theorem pr_found {k : Nat} {g : Nat → Nat → Nat → Int32} {N : Nat → Nat} {μ : Nat → Nat → Int32} (h : Inv k g N μ) (x1 x2 x3 x4 x5 : Int32) : pv_found (Inv (k + 1)) x1 x2 x3 x4 x5 g N μ := by
  have h' := inv_up h
  obtain ⟨⟨⟨n0, n1, n2⟩, ⟨s0, s1, s2⟩, ⟨r0, r1, r2⟩, hd, hw, hc, ht, hr⟩, hK, hP, hM, hC, hB, hT⟩ := h
  unfold pv_found fC_found fM_found kC_found kM_found
  simp only [fC_isKind, fC_isGood, fC_isPerson, fC_isPieces, fC_isDay, fM_isGood, fM_isPerson, fM_isPlace, fM_isCount, ite_at, pu_in, s0, s1, s2, r0, r1, r2, hd]
  by_cases a0 : fM_in x1 1 (nI (N 2)) = 0
  · simp [pu_in, pu_kin, pu_kw, pu_kG, pu_kPn, pu_kPl, pu_kCt, pu_cG, pu_cK, pu_cPn, pu_cPc, pu_cD, u2_00, c_n, c_0_0, c_1_0, c_2_0, c_2_1, c_3_0, c_3_1, c_4_0, c_4_1, c_5_0, c_5_1, c_5_2, c_5_3, c_6_0, c_6_1, c_7_0, c_7_1, c_7_2, c_8_0, c_8_1, c_8_2, c_9_0, c_9_1, e_1, e_2, e_3, e_4, a0]
    exact inv_cd _ h'
  obtain ⟨c, hc', rfl⟩ := in_1 (by omega) a0
  have ec := nI_clamp (n := c) (by omega)
  have ec1 := nI_clamp (n := c + 1) (by omega)
  have vc := vin (j := c) (n := 20) (by omega) (by decide)
  have vc1 := vin (j := c + 1) (n := 21) (by omega) (by decide)
  obtain ⟨⟨z1, z2⟩, hz, ⟨s, hs, hs1, hs2⟩, hfi, hmb⟩ : iH (N 0) (N (3 + c)) (g 8 c) (g 9 c) (μ 17 (c + 1)) (μ 18 (c + 1)) (μ 19 (c + 1)) (fun j => μ 20 (20 * (c + 1) + j)) := (hC c hc').1
  by_cases a1 : fM_in x2 0 (nI (N 0) - 1) = 0
  · simp [pu_in, pu_kin, pu_kw, pu_kG, pu_kPn, pu_kPl, pu_kCt, pu_cG, pu_cK, pu_cPn, pu_cPc, pu_cD, u2_00, c_n, c_0_0, c_1_0, c_2_0, c_2_1, c_3_0, c_3_1, c_4_0, c_4_1, c_5_0, c_5_1, c_5_2, c_5_3, c_6_0, c_6_1, c_7_0, c_7_1, c_7_2, c_8_0, c_8_1, c_8_2, c_9_0, c_9_1, e_1, e_2, e_3, e_4, a1, a0, ec, ec1, vc, vc1, e_s, hz, hs1, hs2, hfi, hc']
    exact inv_cd _ h'
  obtain ⟨p, hp, rfl⟩ := in_0 (by omega) a1
  have ep := nI_clamp (n := p) (by omega)
  have vp := vin (j := p) (n := 20) (by omega) (by decide)
  obtain ⟨k1, k2, hpos⟩ := po_c (g := g) (μ := u2 μ 0 0 0) (nI p) (by omega) z2 hz (fun j hj => by
    obtain ⟨v, _, e1, e2⟩ := hmb j hj
    rw [e1]; exact e2.symm)
  by_cases a2 : fM_in x3 0 5 = 0
  · simp [pu_in, pu_kin, pu_kw, pu_kG, pu_kPn, pu_kPl, pu_kCt, pu_cG, pu_cK, pu_cPn, pu_cPc, pu_cD, u2_00, c_n, c_0_0, c_1_0, c_2_0, c_2_1, c_3_0, c_3_1, c_4_0, c_4_1, c_5_0, c_5_1, c_5_2, c_5_3, c_6_0, c_6_1, c_7_0, c_7_1, c_7_2, c_8_0, c_8_1, c_8_2, c_9_0, c_9_1, e_1, e_2, e_3, e_4, a2, a0, ec, ec1, vc, vc1, e_s, hz, hs1, hs2, hfi, hc', a1, ep, vp, hp, k1, k2]
    exact inv_cd _ h'
  by_cases a3 : fM_in x4 0 1000000 = 0
  · simp [pu_in, pu_kin, pu_kw, pu_kG, pu_kPn, pu_kPl, pu_kCt, pu_cG, pu_cK, pu_cPn, pu_cPc, pu_cD, u2_00, c_n, c_0_0, c_1_0, c_2_0, c_2_1, c_3_0, c_3_1, c_4_0, c_4_1, c_5_0, c_5_1, c_5_2, c_5_3, c_6_0, c_6_1, c_7_0, c_7_1, c_7_2, c_8_0, c_8_1, c_8_2, c_9_0, c_9_1, e_1, e_2, e_3, e_4, a3, a0, ec, ec1, vc, vc1, e_s, hz, hs1, hs2, hfi, hc', a1, ep, vp, hp, k1, k2, a2]
    exact inv_cd _ h'
  by_cases a4 : fM_in x5 0 5 = 0
  · simp [pu_in, pu_kin, pu_kw, pu_kG, pu_kPn, pu_kPl, pu_kCt, pu_cG, pu_cK, pu_cPn, pu_cPc, pu_cD, u2_00, c_n, c_0_0, c_1_0, c_2_0, c_2_1, c_3_0, c_3_1, c_4_0, c_4_1, c_5_0, c_5_1, c_5_2, c_5_3, c_6_0, c_6_1, c_7_0, c_7_1, c_7_2, c_8_0, c_8_1, c_8_2, c_9_0, c_9_1, e_1, e_2, e_3, e_4, a4, a0, ec, ec1, vc, vc1, e_s, hz, hs1, hs2, hfi, hc', a1, ep, vp, hp, k1, k2, a2, a3]
    exact inv_cd _ h'
  by_cases b1 : nI s = 1
  case neg =>
    simp [pu_in, pu_kin, pu_kw, pu_kG, pu_kPn, pu_kPl, pu_kCt, pu_cG, pu_cK, pu_cPn, pu_cPc, pu_cD, u2_00, c_n, c_0_0, c_1_0, c_2_0, c_2_1, c_3_0, c_3_1, c_4_0, c_4_1, c_5_0, c_5_1, c_5_2, c_5_3, c_6_0, c_6_1, c_7_0, c_7_1, c_7_2, c_8_0, c_8_1, c_8_2, c_9_0, c_9_1, e_1, e_2, e_3, e_4, a0, ec, ec1, vc, vc1, e_s, hz, hs1, hs2, hfi, hc', a1, ep, vp, hp, k1, k2, a2, a3, a4, b1]
    exact inv_cd _ h'
  rcases hpos with ⟨q1, q2, q3⟩ | ⟨i, hi, q1, q2, q3⟩
  · simp [pu_in, pu_kin, pu_kw, pu_kG, pu_kPn, pu_kPl, pu_kCt, pu_cG, pu_cK, pu_cPn, pu_cPc, pu_cD, u2_00, c_n, c_0_0, c_1_0, c_2_0, c_2_1, c_3_0, c_3_1, c_4_0, c_4_1, c_5_0, c_5_1, c_5_2, c_5_3, c_6_0, c_6_1, c_7_0, c_7_1, c_7_2, c_8_0, c_8_1, c_8_2, c_9_0, c_9_1, e_1, e_2, e_3, e_4, a0, ec, ec1, vc, vc1, e_s, hz, hs1, hs2, hfi, hc', a1, ep, vp, hp, k1, k2, a2, a3, a4, q1, q2, b1]
    exact inv_cd _ h'
  have ni : ¬ nI i = -1 := fun q => by
    have := nI_pos (n := i) (by omega)
    rw [q] at this
    exact absurd (by decide) this
  obtain ⟨q, hq, rfl⟩ := in_c 5 (by decide) a2
  obtain ⟨v, hv, rfl⟩ := in_c 1000000 (by decide) a3
  obtain ⟨a, ha, rfl⟩ := in_c 5 (by decide) a4
  have hl : 6 * i + q < 6 * N (3 + c) := by omega
  have eL := nI_clamp (n := 120 * (c + 1) + (6 * i + q)) (by omega)
  have el := nI_clamp (n := 6 * i + q) (by omega)
  have vL := vin (j := 120 * (c + 1) + (6 * i + q)) (n := 2520) (by omega) (by decide)
  have vl := vin (j := 6 * i + q) (n := 6 * N (3 + c)) (by omega) (by omega)
  obtain ⟨⟨w, hw1, w1, w2⟩, ⟨f, s', v', hf, hs', hv', hfs, t1, t2, t3, t4, t5, t6⟩, hA⟩ : iV 61000000 (g 10 c (6 * i + q)) (μ 21 (120 * (c + 1) + (6 * i + q))) ∧ iF (g 11 c (6 * i + q)) (g 12 c (6 * i + q)) (g 13 c (6 * i + q)) (μ 22 (120 * (c + 1) + (6 * i + q))) (μ 23 (120 * (c + 1) + (6 * i + q))) (μ 24 (120 * (c + 1) + (6 * i + q))) ∧ iA (g 14 c (6 * i + q)) (g 15 c (6 * i + q)) (μ 25 (120 * (c + 1) + (6 * i + q))) := (hC c hc').2.1 (6 * i + q) hl
  obtain ⟨y1, y2⟩ := fb_12 (μ := u2 μ 0 0 0) (by omega) hf hs' t1
  obtain ⟨y1', y2'⟩ := fb_12 (μ := u2 (u2 μ 0 0 0) 19 (c + 1) (μ 19 (c + 1) + 1)) (by omega) hf hs' t1
  have y3 : ∀ m, kM_firstBy (nI (120 * (c + 1) + (6 * i + q))) m := fun _ => ⟨vL, trivial⟩
  have y4 : ∀ m, kM_secondBy (nI (120 * (c + 1) + (6 * i + q))) m := fun _ => ⟨vL, trivial⟩
  have m1_ := m1_0 (f := f) (by omega)
  have m2_ := m1_0 (f := s') (by omega)
  have m3_ := m1_v (f := f) (a := a) (by omega) (by omega)
  have m4_ := m1_v (f := s') (a := a) (by omega) (by omega)
  have na : ¬ (-1 : Int32) = nI a := fun q => by
    have := nI_pos (n := a) (by omega)
    rw [← q] at this
    exact absurd (by decide) this
  simp only [kS_tell, fS_tell]
  by_cases b2 : f = a + 1
  · have m3 : nI f - 1 = nI a := m3_.mpr b2
    simp [pu_in, pu_kin, pu_kw, pu_kG, pu_kPn, pu_kPl, pu_kCt, pu_cG, pu_cK, pu_cPn, pu_cPc, pu_cD, u2_00, c_n, c_0_0, c_1_0, c_2_0, c_2_1, c_3_0, c_3_1, c_4_0, c_4_1, c_5_0, c_5_1, c_5_2, c_5_3, c_6_0, c_6_1, c_7_0, c_7_1, c_7_2, c_8_0, c_8_1, c_8_2, c_9_0, c_9_1, e_1, e_2, e_3, e_4, a0, ec, ec1, vc, vc1, e_s, hz, hs1, hs2, hfi, hc', a1, ep, vp, hp, k1, k2, a2, a3, a4, q1, q2, ni, b1, e_120, e_x6, eL, el, vL, vl, y1, y2, y3, y4, t2, t3, m3]
    exact inv_cd _ h'
  have m3 : ¬ nI f - 1 = nI a := fun q => b2 (m3_.mp q)
  by_cases b3 : s' = a + 1
  · have m4 : nI s' - 1 = nI a := m4_.mpr b3
    simp [pu_in, pu_kin, pu_kw, pu_kG, pu_kPn, pu_kPl, pu_kCt, pu_cG, pu_cK, pu_cPn, pu_cPc, pu_cD, u2_00, c_n, c_0_0, c_1_0, c_2_0, c_2_1, c_3_0, c_3_1, c_4_0, c_4_1, c_5_0, c_5_1, c_5_2, c_5_3, c_6_0, c_6_1, c_7_0, c_7_1, c_7_2, c_8_0, c_8_1, c_8_2, c_9_0, c_9_1, e_1, e_2, e_3, e_4, a0, ec, ec1, vc, vc1, e_s, hz, hs1, hs2, hfi, hc', a1, ep, vp, hp, k1, k2, a2, a3, a4, q1, q2, ni, b1, e_120, e_x6, eL, el, vL, vl, y1, y2, y3, y4, t2, t3, m3, m4]
    exact inv_cd _ h'
  have m4 : ¬ nI s' - 1 = nI a := fun q => b3 (m4_.mp q)
  by_cases b4 : s' = 0
  case neg =>
    have m2 : ¬ nI s' - 1 = -1 := fun q => b4 (m2_.mp q)
    simp [pu_in, pu_kin, pu_kw, pu_kG, pu_kPn, pu_kPl, pu_kCt, pu_cG, pu_cK, pu_cPn, pu_cPc, pu_cD, u2_00, c_n, c_0_0, c_1_0, c_2_0, c_2_1, c_3_0, c_3_1, c_4_0, c_4_1, c_5_0, c_5_1, c_5_2, c_5_3, c_6_0, c_6_1, c_7_0, c_7_1, c_7_2, c_8_0, c_8_1, c_8_2, c_9_0, c_9_1, e_1, e_2, e_3, e_4, a0, ec, ec1, vc, vc1, e_s, hz, hs1, hs2, hfi, hc', a1, ep, vp, hp, k1, k2, a2, a3, a4, q1, q2, ni, b1, e_120, e_x6, eL, el, vL, vl, y1, y2, y3, y4, t2, t3, m2, m3, m4, na]
    exact inv_cd _ h'
  have m2 : nI s' - 1 = -1 := m2_.mpr b4
  by_cases b5 : f = 0
  · have m1 : nI f - 1 = -1 := m1_.mpr b5
    simp [pu_in, pu_kin, pu_kw, pu_kG, pu_kPn, pu_kPl, pu_kCt, pu_cG, pu_cK, pu_cPn, pu_cPc, pu_cD, u2_00, c_n, c_0_0, c_1_0, c_2_0, c_2_1, c_3_0, c_3_1, c_4_0, c_4_1, c_5_0, c_5_1, c_5_2, c_5_3, c_6_0, c_6_1, c_7_0, c_7_1, c_7_2, c_8_0, c_8_1, c_8_2, c_9_0, c_9_1, e_1, e_2, e_3, e_4, a0, ec, ec1, vc, vc1, e_s, hz, hs1, hs2, hfi, hc', a1, ep, vp, hp, k1, k2, a2, a3, a4, q1, q2, ni, b1, e_120, e_x6, eL, el, vL, vl, y1, y2, y1', y2', y3, y4, t2, t3, m1, m2, m3, m4, na]
    refine ⟨rfl, h'.1, h'.2.1, hP, hM, ?_, ?_, ?_⟩
    · refine iC_cg c hC (fun _ _ => rfl) (fun b hb => ?_) (fun b hb => ?_) (fun b l' hb hl' => ?_) (N 2) (fun b hb _ => hb) ⟨?_, ?_, ?_⟩
      · simp [u3_ne, u3_r hb]
      · simp [u2_ne, u2_s, pk_un (show b + 1 ≠ c + 1 by omega)]
      · simp [u2_ne, u2_s, pk_un (show 120 * (b + 1) + l' ≠ 120 * (c + 1) + (6 * i + q) by omega)]
      · simp only [u3_s, u2_s, u2_ne, u3_ne, ne_eq, Nat.reduceEqDiff, not_false_eq_true, pk_us]
        exact ⟨⟨z1, z2⟩, hz, ⟨s, hs, hs1, hs2⟩, by rw [pk_us], hmb⟩
      · simp only [u3_s, u2_s, u2_ne, u3_ne, ne_eq, Nat.reduceEqDiff, not_false_eq_true]
        refine iL_set (l := 6 * i + q) (hC c hc').2.1 ?_ (fun j hj => ?_)
        · simp only [pk_us]
          exact ⟨a + 1, 0, v, by omega, by omega, hv, fun h => by omega, by rw [nI_1], (nI_pred a).symm, by rw [t3, m2]; decide, rfl, fun _ _ => rfl, fun h => absurd rfl h⟩
        · have : 120 * (c + 1) + j ≠ 120 * (c + 1) + (6 * i + q) := by omega
          simp [pk_un hj, pk_un this]
      · simp only [u3_s, u3_ne, ne_eq, Nat.reduceEqDiff, not_false_eq_true]
        refine ⟨fun e => ?_, fun _ => (hC c hc').2.2.2 ?_⟩
        · rw [pk_un (by decide), hs1, b1] at e
          exact absurd e (by decide)
        · rw [hs1, b1]; decide
    · refine iB_up hB (fun b hb => ?_) (fun b l' hb hl' => ?_)
      · simp [u2_ne, u2_s, pk_un (show b ≠ c + 1 by omega)]
      · simp [u2_ne, u2_s, pk_un (show 120 * b + l' ≠ 120 * (c + 1) + (6 * i + q) by omega)]
    · exact iT_cg hT (fun _ => rfl) (fun b => u3_j (by decide))
  · have m1 : ¬ nI f - 1 = -1 := fun q => b5 (m1_.mp q)
    simp [pu_in, pu_kin, pu_kw, pu_kG, pu_kPn, pu_kPl, pu_kCt, pu_cG, pu_cK, pu_cPn, pu_cPc, pu_cD, u2_00, c_n, c_0_0, c_1_0, c_2_0, c_2_1, c_3_0, c_3_1, c_4_0, c_4_1, c_5_0, c_5_1, c_5_2, c_5_3, c_6_0, c_6_1, c_7_0, c_7_1, c_7_2, c_8_0, c_8_1, c_8_2, c_9_0, c_9_1, e_1, e_2, e_3, e_4, a0, ec, ec1, vc, vc1, e_s, hz, hs1, hs2, hfi, hc', a1, ep, vp, hp, k1, k2, a2, a3, a4, q1, q2, ni, b1, e_120, e_x6, eL, el, vL, vl, y1, y2, y1', y2', y3, y4, t1, t2, t3, m1, m2, m3, m4, na]
    refine ⟨rfl, h'.1, h'.2.1, hP, hM, ?_, ?_, ?_⟩
    · refine iC_cg c hC (fun _ _ => rfl) (fun b hb => ?_) (fun b hb => ?_) (fun b l' hb hl' => ?_) (N 2) (fun b hb _ => hb) ⟨?_, ?_, ?_⟩
      · simp [u3_ne, u3_r hb]
      · simp [u2_ne, u2_s, pk_un (show b + 1 ≠ c + 1 by omega)]
      · simp [u2_ne, u2_s, pk_un (show 120 * (b + 1) + l' ≠ 120 * (c + 1) + (6 * i + q) by omega)]
      · simp only [u3_s, u2_s, u2_ne, u3_ne, ne_eq, Nat.reduceEqDiff, not_false_eq_true, pk_us]
        exact ⟨⟨z1, z2⟩, hz, ⟨s, hs, hs1, hs2⟩, by rw [pk_us], hmb⟩
      · simp only [u3_s, u2_s, u2_ne, u3_ne, ne_eq, Nat.reduceEqDiff, not_false_eq_true]
        refine iL_set (l := 6 * i + q) (hC c hc').2.1 ?_ (fun j hj => ?_)
        · simp only [pk_us]
          exact ⟨f, a + 1, v, hf, by omega, hv, fun h => absurd h b5, by rw [nI_1, show (10 : Int32) = nI 10 from rfl, pk_mul, nI_add, b4]; exact congrArg nI (by omega), t2, (nI_pred a).symm, rfl, fun _ h => by omega, fun _ => rfl⟩
        · have : 120 * (c + 1) + j ≠ 120 * (c + 1) + (6 * i + q) := by omega
          simp [pk_un hj, pk_un this]
      · simp only [u3_s, u3_ne, ne_eq, Nat.reduceEqDiff, not_false_eq_true]
        refine ⟨fun e => ?_, fun _ => (hC c hc').2.2.2 ?_⟩
        · rw [pk_un (by decide), hs1, b1] at e
          exact absurd e (by decide)
        · rw [hs1, b1]; decide
    · refine iB_up hB (fun b hb => ?_) (fun b l' hb hl' => ?_)
      · simp [u2_ne, u2_s, pk_un (show b ≠ c + 1 by omega)]
      · simp [u2_ne, u2_s, pk_un (show 120 * b + l' ≠ 120 * (c + 1) + (6 * i + q) by omega)]
    · exact iT_cg hT (fun _ => rfl) (fun b => u3_j (by decide))
