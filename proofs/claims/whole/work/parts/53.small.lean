/-! PURE: the small calls -/
theorem c_n {hs : List String} : cd hs none = 0 := rfl
theorem c_0_0 : cd ["java/lang/IllegalArgumentException"] (some "java/lang/IllegalArgumentException") = 1 := by decide
theorem c_1_0 : cd ["java/util/NoSuchElementException"] (some "java/util/NoSuchElementException") = 1 := by decide
theorem c_2_0 : cd ["java/lang/IllegalArgumentException", "java/lang/UnsupportedOperationException"] (some "java/lang/IllegalArgumentException") = 1 := by decide
theorem c_2_1 : cd ["java/lang/IllegalArgumentException", "java/lang/UnsupportedOperationException"] (some "java/lang/UnsupportedOperationException") = 2 := by decide
theorem c_3_0 : cd ["java/util/NoSuchElementException", "java/lang/IllegalArgumentException"] (some "java/util/NoSuchElementException") = 1 := by decide
theorem c_3_1 : cd ["java/util/NoSuchElementException", "java/lang/IllegalArgumentException"] (some "java/lang/IllegalArgumentException") = 2 := by decide
theorem c_4_0 : cd ["java/lang/IllegalArgumentException", "java/lang/IllegalStateException"] (some "java/lang/IllegalArgumentException") = 1 := by decide
theorem c_4_1 : cd ["java/lang/IllegalArgumentException", "java/lang/IllegalStateException"] (some "java/lang/IllegalStateException") = 2 := by decide
theorem c_5_0 : cd ["java/util/NoSuchElementException", "java/lang/IllegalArgumentException", "java/lang/IllegalStateException", "java/lang/UnsupportedOperationException"] (some "java/util/NoSuchElementException") = 1 := by decide
theorem c_5_1 : cd ["java/util/NoSuchElementException", "java/lang/IllegalArgumentException", "java/lang/IllegalStateException", "java/lang/UnsupportedOperationException"] (some "java/lang/IllegalArgumentException") = 2 := by decide
theorem c_5_2 : cd ["java/util/NoSuchElementException", "java/lang/IllegalArgumentException", "java/lang/IllegalStateException", "java/lang/UnsupportedOperationException"] (some "java/lang/IllegalStateException") = 3 := by decide
theorem c_5_3 : cd ["java/util/NoSuchElementException", "java/lang/IllegalArgumentException", "java/lang/IllegalStateException", "java/lang/UnsupportedOperationException"] (some "java/lang/UnsupportedOperationException") = 4 := by decide
theorem c_6_0 : cd ["java/util/NoSuchElementException", "java/lang/IllegalStateException"] (some "java/util/NoSuchElementException") = 1 := by decide
theorem c_6_1 : cd ["java/util/NoSuchElementException", "java/lang/IllegalStateException"] (some "java/lang/IllegalStateException") = 2 := by decide
theorem c_7_0 : cd ["java/lang/IllegalArgumentException", "java/lang/IllegalStateException", "java/lang/UnsupportedOperationException"] (some "java/lang/IllegalArgumentException") = 1 := by decide
theorem c_7_1 : cd ["java/lang/IllegalArgumentException", "java/lang/IllegalStateException", "java/lang/UnsupportedOperationException"] (some "java/lang/IllegalStateException") = 2 := by decide
theorem c_7_2 : cd ["java/lang/IllegalArgumentException", "java/lang/IllegalStateException", "java/lang/UnsupportedOperationException"] (some "java/lang/UnsupportedOperationException") = 3 := by decide
theorem c_8_0 : cd ["java/util/NoSuchElementException", "java/lang/IllegalArgumentException", "java/lang/IllegalStateException"] (some "java/util/NoSuchElementException") = 1 := by decide
theorem c_8_1 : cd ["java/util/NoSuchElementException", "java/lang/IllegalArgumentException", "java/lang/IllegalStateException"] (some "java/lang/IllegalArgumentException") = 2 := by decide
theorem c_8_2 : cd ["java/util/NoSuchElementException", "java/lang/IllegalArgumentException", "java/lang/IllegalStateException"] (some "java/lang/IllegalStateException") = 3 := by decide
theorem c_9_0 : cd ["java/lang/IllegalArgumentException", "java/lang/ArithmeticException"] (some "java/lang/IllegalArgumentException") = 1 := by decide
theorem c_9_1 : cd ["java/lang/IllegalArgumentException", "java/lang/ArithmeticException"] (some "java/lang/ArithmeticException") = 2 := by decide
theorem u2_00 {μ : Nat → Nat → Int32} {v : Int32} : u2 μ 0 0 v 0 0 = v := rfl
theorem ite_at {c : Prop} {d : Decidable c} {f g : Nat → Nat → Int32} : (@ite _ c d f g) 0 0 = @ite _ c d (f 0 0) (g 0 0) := by cases d <;> rfl
theorem e_1 : nI 1 = 1 := rfl
theorem e_2 : nI 2 = 2 := rfl
theorem e_3 : nI 3 = 3 := rfl
theorem e_4 : nI 4 = 4 := rfl
theorem vin {j n : Nat} (h : j < n) (hn : n < 2 ^ 31) : vp_in (nI j) n := nI_in h hn
theorem up_eq {n i : Nat} {c m : Nat → Int32} {v : Int32} (h : ∀ j, j < n → c j = m j) : ∀ j, j < n → upd c i v j = upd m i v j := by
  intro j hj
  by_cases e : j = i
  · subst e; rw [pk_us, pk_us]
  · rw [pk_un e, pk_un e]; exact h j hj
theorem e_6 (p q : Nat) : 6 * nI p + nI q = nI (6 * p + q) := by rw [show (6 : Int32) = nI 6 from rfl, pk_mul, nI_add]
theorem e_20 (p q : Nat) : 20 * nI p + nI q = nI (20 * p + q) := by rw [show (20 : Int32) = nI 20 from rfl, pk_mul, nI_add]
theorem e_120 (c p q : Nat) : 120 * nI c + 6 * nI p + nI q = nI (120 * c + (6 * p + q)) := by rw [show (120 : Int32) = nI 120 from rfl, show (6 : Int32) = nI 6 from rfl, pk_mul, pk_mul, nI_add, nI_add, Nat.add_assoc]
theorem e_x6 (p q : Nat) : nI p * 6 + nI q = nI (6 * p + q) := by rw [show (6 : Int32) = nI 6 from rfl, pk_mul, nI_add, Nat.mul_comm]
theorem e_s (p : Nat) : nI (p + 1) - 1 = nI p := nI_pred p
theorem iP_set {N0 p q v : Nat} {P b : Nat → Nat → Int32} {m4 m5 m6 : Nat → Int32} (h : iP N0 P b m4 m5 m6) (hp : p < N0) (hq : q < 6) (hv : v ≤ 1000000) : iP N0 P (fun i => if i = p then upd (b p) q (nI v) else b i) m4 m5 (upd m6 (6 * p + q) (nI v)) := by
  refine ⟨h.1, fun i hi j hj => ?_, fun j hj => ?_⟩
  · by_cases e : i = p
    · subst e
      show iV _ ((if i = i then upd (b i) q (nI v) else b i) j) _
      rw [if_pos rfl]
      by_cases e2 : j = q
      · subst e2; rw [pk_us, pk_us]; exact ⟨v, hv, rfl, rfl⟩
      · rw [pk_un e2, pk_un (by omega)]; exact h.2.1 i hi j hj
    · show iV _ ((if i = p then upd (b p) q (nI v) else b i) j) _
      rw [if_neg e, pk_un (by omega)]
      exact h.2.1 i hi j hj
  · rw [pk_un (by omega)]; exact h.2.2 j hj

theorem pr_cycle {k : Nat} {g : Nat → Nat → Nat → Int32} {N : Nat → Nat} {μ : Nat → Nat → Int32} (h : Inv k g N μ) (x1 x2 x3 : Int32) : pv_cycle (Inv (k + 1)) x1 x2 x3 g N μ := by
  have h' := inv_up h
  obtain ⟨⟨⟨n0, n1, n2⟩, ⟨s0, s1, s2⟩, ⟨r0, r1, r2⟩, hd, hw, hc, ht, hr⟩, hK, hP, hM, hC, hB, hT⟩ := h
  unfold pv_cycle fC_cycle fM_cycle kC_cycle kM_cycle
  simp only [fC_isKind, fC_isGood, fC_isPerson, fC_isPieces, fC_isDay, fM_isGood, fM_isPerson, fM_isPlace, fM_isCount, ite_at, pu_in, s0, s1, s2, r0, r1, r2, hd]
  by_cases a0 : fM_in x1 0 2 = 0
  · simp [pu_in, pu_kin, pu_kw, pu_kG, pu_kPn, pu_kPl, pu_kCt, pu_cG, pu_cK, pu_cPn, pu_cPc, pu_cD, u2_00, c_n, c_0_0, c_1_0, c_2_0, c_2_1, c_3_0, c_3_1, c_4_0, c_4_1, c_5_0, c_5_1, c_5_2, c_5_3, c_6_0, c_6_1, c_7_0, c_7_1, c_7_2, c_8_0, c_8_1, c_8_2, c_9_0, c_9_1, e_1, e_2, e_3, e_4, a0]
    exact inv_cd _ h'
  by_cases a1 : fM_in x2 1 1000 = 0
  · simp [pu_in, pu_kin, pu_kw, pu_kG, pu_kPn, pu_kPl, pu_kCt, pu_cG, pu_cK, pu_cPn, pu_cPc, pu_cD, u2_00, c_n, c_0_0, c_1_0, c_2_0, c_2_1, c_3_0, c_3_1, c_4_0, c_4_1, c_5_0, c_5_1, c_5_2, c_5_3, c_6_0, c_6_1, c_7_0, c_7_1, c_7_2, c_8_0, c_8_1, c_8_2, c_9_0, c_9_1, e_1, e_2, e_3, e_4, a1, a0]
    exact inv_cd _ h'
  by_cases a2 : fM_in x3 0 1000 = 0
  · simp [pu_in, pu_kin, pu_kw, pu_kG, pu_kPn, pu_kPl, pu_kCt, pu_cG, pu_cK, pu_cPn, pu_cPc, pu_cD, u2_00, c_n, c_0_0, c_1_0, c_2_0, c_2_1, c_3_0, c_3_1, c_4_0, c_4_1, c_5_0, c_5_1, c_5_2, c_5_3, c_6_0, c_6_1, c_7_0, c_7_1, c_7_2, c_8_0, c_8_1, c_8_2, c_9_0, c_9_1, e_1, e_2, e_3, e_4, a2, a0, a1]
    exact inv_cd _ h'
  obtain ⟨j, hj, rfl⟩ := in_c 2 (by decide) a0
  have e := nI_clamp (n := j) (by omega)
  have v3 := vin (j := j) (n := 3) (by omega) (by decide)
  simp [pu_in, pu_kin, pu_kw, pu_kG, pu_kPn, pu_kPl, pu_kCt, pu_cG, pu_cK, pu_cPn, pu_cPc, pu_cD, u2_00, c_n, c_0_0, c_1_0, c_2_0, c_2_1, c_3_0, c_3_1, c_4_0, c_4_1, c_5_0, c_5_1, c_5_2, c_5_3, c_6_0, c_6_1, c_7_0, c_7_1, c_7_2, c_8_0, c_8_1, c_8_2, c_9_0, c_9_1, e_1, e_2, e_3, e_4, a0, a1, a2, e, v3]
  exact ⟨rfl, ⟨⟨n0, n1, n2⟩, ⟨s0, s1, s2⟩, ⟨r0, r1, r2⟩, hd, hw, up_eq hc, up_eq ht, hr⟩, h'.2⟩

theorem pr_right {k : Nat} {g : Nat → Nat → Nat → Int32} {N : Nat → Nat} {μ : Nat → Nat → Int32} (h : Inv k g N μ) (x1 x2 : Int32) : pv_right (Inv (k + 1)) x1 x2 g N μ := by
  have h' := inv_up h
  obtain ⟨⟨⟨n0, n1, n2⟩, ⟨s0, s1, s2⟩, ⟨r0, r1, r2⟩, hd, hw, hc, ht, hr⟩, hK, hP, hM, hC, hB, hT⟩ := h
  unfold pv_right fC_right fM_right kC_right kM_right
  simp only [fC_isKind, fC_isGood, fC_isPerson, fC_isPieces, fC_isDay, fM_isGood, fM_isPerson, fM_isPlace, fM_isCount, ite_at, pu_in, s0, s1, s2, r0, r1, r2, hd]
  by_cases a0 : fM_in x1 0 5 = 0
  · simp [pu_in, pu_kin, pu_kw, pu_kG, pu_kPn, pu_kPl, pu_kCt, pu_cG, pu_cK, pu_cPn, pu_cPc, pu_cD, u2_00, c_n, c_0_0, c_1_0, c_2_0, c_2_1, c_3_0, c_3_1, c_4_0, c_4_1, c_5_0, c_5_1, c_5_2, c_5_3, c_6_0, c_6_1, c_7_0, c_7_1, c_7_2, c_8_0, c_8_1, c_8_2, c_9_0, c_9_1, e_1, e_2, e_3, e_4, a0]
    exact inv_cd _ h'
  by_cases a1 : fM_in x2 0 1000000 = 0
  · simp [pu_in, pu_kin, pu_kw, pu_kG, pu_kPn, pu_kPl, pu_kCt, pu_cG, pu_cK, pu_cPn, pu_cPc, pu_cD, u2_00, c_n, c_0_0, c_1_0, c_2_0, c_2_1, c_3_0, c_3_1, c_4_0, c_4_1, c_5_0, c_5_1, c_5_2, c_5_3, c_6_0, c_6_1, c_7_0, c_7_1, c_7_2, c_8_0, c_8_1, c_8_2, c_9_0, c_9_1, e_1, e_2, e_3, e_4, a1, a0]
    exact inv_cd _ h'
  obtain ⟨j, hj, rfl⟩ := in_c 5 (by decide) a0
  have e := nI_clamp (n := j) (by omega)
  have v3 := vin (j := j) (n := 6) (by omega) (by decide)
  simp [pu_in, pu_kin, pu_kw, pu_kG, pu_kPn, pu_kPl, pu_kCt, pu_cG, pu_cK, pu_cPn, pu_cPc, pu_cD, u2_00, c_n, c_0_0, c_1_0, c_2_0, c_2_1, c_3_0, c_3_1, c_4_0, c_4_1, c_5_0, c_5_1, c_5_2, c_5_3, c_6_0, c_6_1, c_7_0, c_7_1, c_7_2, c_8_0, c_8_1, c_8_2, c_9_0, c_9_1, e_1, e_2, e_3, e_4, a0, a1, e, v3]
  exact ⟨rfl, ⟨⟨n0, n1, n2⟩, ⟨s0, s1, s2⟩, ⟨r0, r1, r2⟩, hd, hw, hc, ht, up_eq hr⟩, h'.2⟩

theorem pr_setting {k : Nat} {g : Nat → Nat → Nat → Int32} {N : Nat → Nat} {μ : Nat → Nat → Int32} (h : Inv k g N μ) (x1 : Int32) : pv_setting (Inv (k + 1)) x1 g N μ := by
  have h' := inv_up h
  obtain ⟨⟨⟨n0, n1, n2⟩, ⟨s0, s1, s2⟩, ⟨r0, r1, r2⟩, hd, hw, hc, ht, hr⟩, hK, hP, hM, hC, hB, hT⟩ := h
  unfold pv_setting fC_setting fM_setting kC_setting kM_setting
  simp only [fC_isKind, fC_isGood, fC_isPerson, fC_isPieces, fC_isDay, fM_isGood, fM_isPerson, fM_isPlace, fM_isCount, ite_at, pu_in, s0, s1, s2, r0, r1, r2, hd]
  by_cases a0 : fM_in x1 0 1 = 0
  · simp [pu_in, pu_kin, pu_kw, pu_kG, pu_kPn, pu_kPl, pu_kCt, pu_cG, pu_cK, pu_cPn, pu_cPc, pu_cD, u2_00, c_n, c_0_0, c_1_0, c_2_0, c_2_1, c_3_0, c_3_1, c_4_0, c_4_1, c_5_0, c_5_1, c_5_2, c_5_3, c_6_0, c_6_1, c_7_0, c_7_1, c_7_2, c_8_0, c_8_1, c_8_2, c_9_0, c_9_1, e_1, e_2, e_3, e_4, a0]
    exact inv_cd _ h'
  obtain ⟨j, hj, rfl⟩ := in_c 1 (by decide) a0
  clear a0
  have a0 : ¬ fM_in 0 0 1 = 0 := by decide
  have a1 : ¬ fM_in 1 0 1 = 0 := by decide
  rcases (show j = 0 ∨ j = 1 by omega) with rfl | rfl
  · simp [pu_in, pu_kin, pu_kw, pu_kG, pu_kPn, pu_kPl, pu_kCt, pu_cG, pu_cK, pu_cPn, pu_cPc, pu_cD, u2_00, c_n, c_0_0, c_1_0, c_2_0, c_2_1, c_3_0, c_3_1, c_4_0, c_4_1, c_5_0, c_5_1, c_5_2, c_5_3, c_6_0, c_6_1, c_7_0, c_7_1, c_7_2, c_8_0, c_8_1, c_8_2, c_9_0, c_9_1, e_1, e_2, e_3, e_4, a0, nI_0]
    exact ⟨rfl, ⟨⟨n0, n1, n2⟩, ⟨s0, s1, s2⟩, ⟨r0, r1, r2⟩, hd, Or.inl ⟨rfl, rfl⟩, hc, ht, hr⟩, h'.2⟩
  · simp [pu_in, pu_kin, pu_kw, pu_kG, pu_kPn, pu_kPl, pu_kCt, pu_cG, pu_cK, pu_cPn, pu_cPc, pu_cD, u2_00, c_n, c_0_0, c_1_0, c_2_0, c_2_1, c_3_0, c_3_1, c_4_0, c_4_1, c_5_0, c_5_1, c_5_2, c_5_3, c_6_0, c_6_1, c_7_0, c_7_1, c_7_2, c_8_0, c_8_1, c_8_2, c_9_0, c_9_1, e_1, e_2, e_3, e_4, a1]
    exact ⟨rfl, ⟨⟨n0, n1, n2⟩, ⟨s0, s1, s2⟩, ⟨r0, r1, r2⟩, hd, Or.inr ⟨rfl, rfl⟩, hc, ht, hr⟩, h'.2⟩

theorem pr_day {k : Nat} {g : Nat → Nat → Nat → Int32} {N : Nat → Nat} {μ : Nat → Nat → Int32} (h : Inv k g N μ) (x1 : Int32) : pv_day (Inv (k + 1)) x1 g N μ := by
  have h' := inv_up h
  obtain ⟨⟨⟨n0, n1, n2⟩, ⟨s0, s1, s2⟩, ⟨r0, r1, r2⟩, hd, hw, hc, ht, hr⟩, hK, hP, hM, hC, hB, hT⟩ := h
  unfold pv_day fC_day fM_day kC_day kM_day
  simp only [fC_isKind, fC_isGood, fC_isPerson, fC_isPieces, fC_isDay, fM_isGood, fM_isPerson, fM_isPlace, fM_isCount, ite_at, pu_in, s0, s1, s2, r0, r1, r2, hd]
  by_cases a0 : fM_in x1 0 10000 = 0
  · simp [pu_in, pu_kin, pu_kw, pu_kG, pu_kPn, pu_kPl, pu_kCt, pu_cG, pu_cK, pu_cPn, pu_cPc, pu_cD, u2_00, c_n, c_0_0, c_1_0, c_2_0, c_2_1, c_3_0, c_3_1, c_4_0, c_4_1, c_5_0, c_5_1, c_5_2, c_5_3, c_6_0, c_6_1, c_7_0, c_7_1, c_7_2, c_8_0, c_8_1, c_8_2, c_9_0, c_9_1, e_1, e_2, e_3, e_4, a0]
    exact inv_cd _ h'
  by_cases a1 : ¬ μ 1 0 ≤ x1
  · simp [pu_in, pu_kin, pu_kw, pu_kG, pu_kPn, pu_kPl, pu_kCt, pu_cG, pu_cK, pu_cPn, pu_cPc, pu_cD, u2_00, c_n, c_0_0, c_1_0, c_2_0, c_2_1, c_3_0, c_3_1, c_4_0, c_4_1, c_5_0, c_5_1, c_5_2, c_5_3, c_6_0, c_6_1, c_7_0, c_7_1, c_7_2, c_8_0, c_8_1, c_8_2, c_9_0, c_9_1, e_1, e_2, e_3, e_4, a1, a0]
    exact inv_cd _ h'
  simp [pu_in, pu_kin, pu_kw, pu_kG, pu_kPn, pu_kPl, pu_kCt, pu_cG, pu_cK, pu_cPn, pu_cPc, pu_cD, u2_00, c_n, c_0_0, c_1_0, c_2_0, c_2_1, c_3_0, c_3_1, c_4_0, c_4_1, c_5_0, c_5_1, c_5_2, c_5_3, c_6_0, c_6_1, c_7_0, c_7_1, c_7_2, c_8_0, c_8_1, c_8_2, c_9_0, c_9_1, e_1, e_2, e_3, e_4, a0, Classical.not_not.mp a1]
  exact ⟨rfl, ⟨⟨n0, n1, n2⟩, ⟨s0, s1, s2⟩, ⟨r0, r1, r2⟩, rfl, hw, hc, ht, hr⟩, h'.2⟩

theorem pr_stock {k : Nat} {g : Nat → Nat → Nat → Int32} {N : Nat → Nat} {μ : Nat → Nat → Int32} (h : Inv k g N μ) (x1 x2 x3 : Int32) : pv_stock (Inv (k + 1)) x1 x2 x3 g N μ := by
  have h' := inv_up h
  obtain ⟨⟨⟨n0, n1, n2⟩, ⟨s0, s1, s2⟩, ⟨r0, r1, r2⟩, hd, hw, hc, ht, hr⟩, hK, hP, hM, hC, hB, hT⟩ := h
  unfold pv_stock fC_stock fM_stock kC_stock kM_stock
  unfold fM_isPlace
  rw [r0]
  simp only [fC_isKind, fC_isGood, fC_isPerson, fC_isPieces, fC_isDay, fM_isGood, fM_isPerson, fM_isPlace, fM_isCount, ite_at, pu_in, s0, s1, s2, r0, r1, r2, hd]
  by_cases a0 : fM_in x1 0 (nI (N 0) - 1) = 0
  · simp [pu_in, pu_kin, pu_kw, pu_kG, pu_kPn, pu_kPl, pu_kCt, pu_cG, pu_cK, pu_cPn, pu_cPc, pu_cD, u2_00, c_n, c_0_0, c_1_0, c_2_0, c_2_1, c_3_0, c_3_1, c_4_0, c_4_1, c_5_0, c_5_1, c_5_2, c_5_3, c_6_0, c_6_1, c_7_0, c_7_1, c_7_2, c_8_0, c_8_1, c_8_2, c_9_0, c_9_1, e_1, e_2, e_3, e_4, a0]
    exact inv_cd _ h'
  obtain ⟨p, hp, rfl⟩ := in_0 (by omega) a0
  have ep := nI_clamp (n := p) (by omega)
  have vp := vin (j := p) (n := 20) (by omega) (by decide)
  by_cases a1 : fM_in x2 0 5 = 0
  · simp [pu_in, pu_kin, pu_kw, pu_kG, pu_kPn, pu_kPl, pu_kCt, pu_cG, pu_cK, pu_cPn, pu_cPc, pu_cD, u2_00, c_n, c_0_0, c_1_0, c_2_0, c_2_1, c_3_0, c_3_1, c_4_0, c_4_1, c_5_0, c_5_1, c_5_2, c_5_3, c_6_0, c_6_1, c_7_0, c_7_1, c_7_2, c_8_0, c_8_1, c_8_2, c_9_0, c_9_1, e_1, e_2, e_3, e_4, a1, a0, ep, vp, hp]
    exact inv_cd _ h'
  obtain ⟨q, hq, rfl⟩ := in_c 5 (by decide) a1
  have eq := nI_clamp (n := q) (by omega)
  have vq := vin (j := q) (n := 6) (by omega) (by decide)
  have ec := nI_clamp (n := 6 * p + q) (by omega)
  have vc := vin (j := 6 * p + q) (n := 120) (by omega) (by decide)
  by_cases a2 : fM_in x3 0 1000000 = 0
  · simp [pu_in, pu_kin, pu_kw, pu_kG, pu_kPn, pu_kPl, pu_kCt, pu_cG, pu_cK, pu_cPn, pu_cPc, pu_cD, u2_00, c_n, c_0_0, c_1_0, c_2_0, c_2_1, c_3_0, c_3_1, c_4_0, c_4_1, c_5_0, c_5_1, c_5_2, c_5_3, c_6_0, c_6_1, c_7_0, c_7_1, c_7_2, c_8_0, c_8_1, c_8_2, c_9_0, c_9_1, e_1, e_2, e_3, e_4, a2, a0, ep, vp, hp, a1, eq, vq, ec, vc, e_6]
    exact inv_cd _ h'
  obtain ⟨v, hv, rfl⟩ := in_c 1000000 (by decide) a2
  simp [pu_in, pu_kin, pu_kw, pu_kG, pu_kPn, pu_kPl, pu_kCt, pu_cG, pu_cK, pu_cPn, pu_cPc, pu_cD, u2_00, c_n, c_0_0, c_1_0, c_2_0, c_2_1, c_3_0, c_3_1, c_4_0, c_4_1, c_5_0, c_5_1, c_5_2, c_5_3, c_6_0, c_6_1, c_7_0, c_7_1, c_7_2, c_8_0, c_8_1, c_8_2, c_9_0, c_9_1, e_1, e_2, e_3, e_4, a0, ep, vp, hp, a1, eq, vq, ec, vc, e_6, a2]
  exact ⟨rfl, h'.1, h'.2.1, iP_set hP hp (by omega) hv, h'.2.2.2⟩

theorem pr_booked {k : Nat} {g : Nat → Nat → Nat → Int32} {N : Nat → Nat} {μ : Nat → Nat → Int32} (h : Inv k g N μ) (x1 x2 : Int32) : pv_booked (Inv (k + 1)) x1 x2 g N μ := by
  have h' := inv_up h
  obtain ⟨⟨⟨n0, n1, n2⟩, ⟨s0, s1, s2⟩, ⟨r0, r1, r2⟩, hd, hw, hc, ht, hr⟩, hK, hP, hM, hC, hB, hT⟩ := h
  unfold pv_booked fC_booked fM_booked kC_booked kM_booked
  simp only [fC_isKind, fC_isGood, fC_isPerson, fC_isPieces, fC_isDay, fM_isGood, fM_isPerson, fM_isPlace, fM_isCount, ite_at, pu_in, s0, s1, s2, r0, r1, r2, hd]
  by_cases a0 : fM_in x1 0 (nI (N 0) - 1) = 0
  · simp [pu_in, pu_kin, pu_kw, pu_kG, pu_kPn, pu_kPl, pu_kCt, pu_cG, pu_cK, pu_cPn, pu_cPc, pu_cD, u2_00, c_n, c_0_0, c_1_0, c_2_0, c_2_1, c_3_0, c_3_1, c_4_0, c_4_1, c_5_0, c_5_1, c_5_2, c_5_3, c_6_0, c_6_1, c_7_0, c_7_1, c_7_2, c_8_0, c_8_1, c_8_2, c_9_0, c_9_1, e_1, e_2, e_3, e_4, a0]
    exact inv_cd _ h'
  obtain ⟨p, hp, rfl⟩ := in_0 (by omega) a0
  have ep := nI_clamp (n := p) (by omega)
  have vp := vin (j := p) (n := 20) (by omega) (by decide)
  by_cases a1 : fM_in x2 0 5 = 0
  · simp [pu_in, pu_kin, pu_kw, pu_kG, pu_kPn, pu_kPl, pu_kCt, pu_cG, pu_cK, pu_cPn, pu_cPc, pu_cD, u2_00, c_n, c_0_0, c_1_0, c_2_0, c_2_1, c_3_0, c_3_1, c_4_0, c_4_1, c_5_0, c_5_1, c_5_2, c_5_3, c_6_0, c_6_1, c_7_0, c_7_1, c_7_2, c_8_0, c_8_1, c_8_2, c_9_0, c_9_1, e_1, e_2, e_3, e_4, a1, a0, ep, vp, hp]
    exact inv_cd _ h'
  obtain ⟨q, hq, rfl⟩ := in_c 5 (by decide) a1
  have eq := nI_clamp (n := q) (by omega)
  have vq := vin (j := q) (n := 6) (by omega) (by decide)
  have ec := nI_clamp (n := 6 * p + q) (by omega)
  have vc := vin (j := 6 * p + q) (n := 120) (by omega) (by decide)
  obtain ⟨v, hv, e1, e2⟩ := hP.2.1 p hp q (by omega)
  simp [pu_in, pu_kin, pu_kw, pu_kG, pu_kPn, pu_kPl, pu_kCt, pu_cG, pu_cK, pu_cPn, pu_cPc, pu_cD, u2_00, c_n, c_0_0, c_1_0, c_2_0, c_2_1, c_3_0, c_3_1, c_4_0, c_4_1, c_5_0, c_5_1, c_5_2, c_5_3, c_6_0, c_6_1, c_7_0, c_7_1, c_7_2, c_8_0, c_8_1, c_8_2, c_9_0, c_9_1, e_1, e_2, e_3, e_4, a0, ep, vp, hp, a1, eq, vq, ec, vc, e_6, e1, e2]
  exact inv_cd _ h'

theorem pr_last {k : Nat} {g : Nat → Nat → Nat → Int32} {N : Nat → Nat} {μ : Nat → Nat → Int32} (h : Inv k g N μ) (x1 : Int32) : pv_last (Inv (k + 1)) x1 g N μ := by
  have h' := inv_up h
  obtain ⟨⟨⟨n0, n1, n2⟩, ⟨s0, s1, s2⟩, ⟨r0, r1, r2⟩, hd, hw, hc, ht, hr⟩, hK, hP, hM, hC, hB, hT⟩ := h
  unfold pv_last fC_last fM_last kC_last kM_last
  simp only [fC_isKind, fC_isGood, fC_isPerson, fC_isPieces, fC_isDay, fM_isGood, fM_isPerson, fM_isPlace, fM_isCount, ite_at, pu_in, s0, s1, s2, r0, r1, r2, hd]
  by_cases a0 : fM_in x1 0 (nI (N 0) - 1) = 0
  · simp [pu_in, pu_kin, pu_kw, pu_kG, pu_kPn, pu_kPl, pu_kCt, pu_cG, pu_cK, pu_cPn, pu_cPc, pu_cD, u2_00, c_n, c_0_0, c_1_0, c_2_0, c_2_1, c_3_0, c_3_1, c_4_0, c_4_1, c_5_0, c_5_1, c_5_2, c_5_3, c_6_0, c_6_1, c_7_0, c_7_1, c_7_2, c_8_0, c_8_1, c_8_2, c_9_0, c_9_1, e_1, e_2, e_3, e_4, a0]
    exact inv_cd _ h'
  obtain ⟨p, hp, rfl⟩ := in_0 (by omega) a0
  have ep := nI_clamp (n := p) (by omega)
  have vp := vin (j := p) (n := 20) (by omega) (by decide)
  have e1 := (hP.1 p hp).2
  simp [pu_in, pu_kin, pu_kw, pu_kG, pu_kPn, pu_kPl, pu_kCt, pu_cG, pu_cK, pu_cPn, pu_cPc, pu_cD, u2_00, c_n, c_0_0, c_1_0, c_2_0, c_2_1, c_3_0, c_3_1, c_4_0, c_4_1, c_5_0, c_5_1, c_5_2, c_5_3, c_6_0, c_6_1, c_7_0, c_7_1, c_7_2, c_8_0, c_8_1, c_8_2, c_9_0, c_9_1, e_1, e_2, e_3, e_4, a0, ep, vp, hp, e1]
  exact inv_cd _ h'
