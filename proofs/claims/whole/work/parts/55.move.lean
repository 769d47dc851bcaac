/-! PURE: place, move, end -/
theorem va_us {α : Type} {f : Nat → α} {k : Nat} {v : α} : va_up f k v k = v := if_pos rfl
theorem va_un {α : Type} {f : Nat → α} {k j : Nat} {v : α} (h : j ≠ k) : va_up f k v j = f j := if_neg h
theorem np_3 {N : Nat → Nat} : (fun c => np_N N (3 + c)) = fun c => N (3 + c) := by
  funext c
  exact va_un (by omega)
theorem nt_3 {N : Nat → Nat} : (fun c => nt_N N (3 + c)) = fun c => N (3 + c) := by
  funext c
  exact va_un (by omega)
theorem iP_new {N0 d : Nat} {P b : Nat → Nat → Int32} {m4 m5 m6 : Nat → Int32} {f : Nat → Int32} (h : iP N0 P b m4 m5 m6) (hd : d ≤ 2) (f0 : f 0 = nI d) (f1 : f 1 = -1) : iP (N0 + 1) (va_up P N0 f) (va_up b N0 (fun _ => 0)) (upd m4 N0 (nI d)) (upd m5 N0 (-1)) m6 := by
  refine ⟨fun i hi => ?_, fun i hi j hj => ?_, fun j hj => h.2.2 j (by omega)⟩
  · by_cases e : i = N0
    · subst e; rw [va_us, pk_us, pk_us]; exact ⟨⟨d, hd, f0, rfl⟩, f1⟩
    · rw [va_un e, pk_un e, pk_un e]; exact h.1 i (by omega)
  · by_cases e : i = N0
    · subst e; rw [va_us]; exact ⟨0, by omega, rfl, h.2.2 _ (by omega)⟩
    · rw [va_un e]; exact h.2.1 i (by omega) j hj
theorem iM_up {N0 N1 : Nat} {t : Nat → Nat → Int32} {m11 m12 m13 m14 m15 : Nat → Int32} (h : iM N0 N1 t m11 m12 m13 m14 m15) : iM (N0 + 1) N1 t m11 m12 m13 m14 m15 := by
  refine ⟨fun i hi => ?_, h.2⟩
  obtain ⟨⟨v, h1, h2⟩, ⟨w, h3, h4⟩, h5⟩ := h.1 i hi
  exact ⟨⟨v, by omega, h2⟩, ⟨w, by omega, h4⟩, h5⟩
theorem iC_up {N0 N2 : Nat} {z : Nat → Nat} {st mb nt pc ff sf ak co di : Nat → Nat → Int32} {m17 m18 m19 m20 m21 m22 m23 m24 m25 : Nat → Int32} (h : iC N0 N2 z st mb nt pc ff sf ak co di m17 m18 m19 m20 m21 m22 m23 m24 m25) : iC (N0 + 1) N2 z st mb nt pc ff sf ak co di m17 m18 m19 m20 m21 m22 m23 m24 m25 := by
  intro c hc
  obtain ⟨⟨h1, h2, h3, h4, h5⟩, h6⟩ := h c hc
  refine ⟨⟨h1, h2, h3, h4, fun j hj => ?_⟩, h6⟩
  obtain ⟨v, hv, h7⟩ := h5 j hj
  exact ⟨v, by omega, h7⟩
theorem iT_new {N0 N2 : Nat} {z : Nat → Nat} {p st mb : Nat → Nat → Int32} {f : Nat → Int32} (h : iT N0 N2 z p st mb) (hN : N0 ≤ 20) (f2 : f 2 = 0) (hm : ∀ c j, c < N2 → j < z c → ∃ v : Nat, v < N0 ∧ mb c j = nI v) : iT (N0 + 1) N2 z (va_up p N0 f) st mb := by
  refine ⟨fun i hi => ?_, h.2⟩
  by_cases e : i = N0
  · subst e
    rw [va_us]
    refine Or.inl ⟨f2, fun c j hc hj _ q => ?_⟩
    obtain ⟨v, hv, e⟩ := hm c j hc hj
    rw [e] at q
    exact absurd ((nI_eq (by omega) (by omega)).mp q) (by omega)
  · rw [va_un e]; exact h.1 i (by omega)
theorem iM_new {N0 N1 p q t v : Nat} {T : Nat → Nat → Int32} {m11 m12 m13 m14 m15 : Nat → Int32} {f : Nat → Int32} (h : iM N0 N1 T m11 m12 m13 m14 m15) (hp : p < N0) (hq : q < N0) (ht : t < 6) (hv : v ≤ 1000000) (f0 : f 0 = nI p) (f1 : f 1 = nI q) (f2 : f 2 = nI t) (f3 : f 3 = nI v) (f4 : f 4 = 1) : iM N0 (N1 + 1) (va_up T N1 f) (upd m11 (N1 + 1) (nI p)) (upd m12 (N1 + 1) (nI q)) (upd m13 (N1 + 1) (nI t)) (upd m14 (N1 + 1) (nI v)) m15 := by
  refine ⟨fun i hi => ?_, fun j hj => h.2 j (by omega)⟩
  by_cases e : i = N1
  · subst e
    rw [va_us, pk_us, pk_us, pk_us, pk_us]
    exact ⟨⟨p, hp, f0, rfl⟩, ⟨q, hq, f1, rfl⟩, ⟨t, ht, f2, rfl⟩, ⟨v, hv, f3, rfl⟩, Or.inl ⟨f4, h.2 _ (by omega)⟩⟩
  · have e2 : i + 1 ≠ N1 + 1 := by omega
    rw [va_un e, pk_un e2, pk_un e2, pk_un e2, pk_un e2]
    exact h.1 i (by omega)
theorem iM_end {N0 N1 i : Nat} {T : Nat → Nat → Int32} {m11 m12 m13 m14 m15 : Nat → Int32} (h : iM N0 N1 T m11 m12 m13 m14 m15) (hi : i < N1) : iM N0 N1 (fun i9 => if i9 = i then upd (T i) 4 0 else T i9) m11 m12 m13 m14 (upd m15 (i + 1) 1) := by
  refine ⟨fun j hj => ?_, fun j hj => ?_⟩
  · show iM1 N0 (if j = i then upd (T i) 4 0 else T j) _ _ _ _ _
    by_cases e : j = i
    · subst e
      rw [if_pos rfl, pk_us]
      obtain ⟨h1, h2, h3, h4, h5⟩ := h.1 j hj
      exact ⟨h1, h2, h3, h4, Or.inr ⟨rfl, rfl⟩⟩
    · rw [if_neg e, pk_un (by omega)]; exact h.1 j hj
  · rw [pk_un (by omega)]; exact h.2 j hj

theorem pr_place {k : Nat} {g : Nat → Nat → Nat → Int32} {N : Nat → Nat} {μ : Nat → Nat → Int32} (h : Inv k g N μ) (x1 : Int32) : pv_place (Inv (k + 1)) x1 g N μ := by
  have h' := inv_up h
  obtain ⟨⟨⟨n0, n1, n2⟩, ⟨s0, s1, s2⟩, ⟨r0, r1, r2⟩, hd, hw, hc, ht, hr⟩, hK, hP, hM, hC, hB, hT⟩ := h
  unfold pv_place fC_place fM_place kC_place kM_place
  simp only [fC_isKind, fC_isGood, fC_isPerson, fC_isPieces, fC_isDay, fM_isGood, fM_isPerson, fM_isPlace, fM_isCount, ite_at, pu_in, s0, s1, s2, r0, r1, r2, hd]
  by_cases a0 : fM_in x1 0 2 = 0
  · simp [pu_in, pu_kin, pu_kw, pu_kG, pu_kPn, pu_kPl, pu_kCt, pu_cG, pu_cK, pu_cPn, pu_cPc, pu_cD, u2_00, c_n, c_0_0, c_1_0, c_2_0, c_2_1, c_3_0, c_3_1, c_4_0, c_4_1, c_5_0, c_5_1, c_5_2, c_5_3, c_6_0, c_6_1, c_7_0, c_7_1, c_7_2, c_8_0, c_8_1, c_8_2, c_9_0, c_9_1, e_1, e_2, e_3, e_4, a0]
    exact inv_cd _ h'
  by_cases b : N 0 = 20
  · have b1 : nI (N 0) = 20 := by rw [b]; rfl
    have b2 : ¬ (20 : Int32) < 20 := by decide
    simp [pu_in, pu_kin, pu_kw, pu_kG, pu_kPn, pu_kPl, pu_kCt, pu_cG, pu_cK, pu_cPn, pu_cPc, pu_cD, u2_00, c_n, c_0_0, c_1_0, c_2_0, c_2_1, c_3_0, c_3_1, c_4_0, c_4_1, c_5_0, c_5_1, c_5_2, c_5_3, c_6_0, c_6_1, c_7_0, c_7_1, c_7_2, c_8_0, c_8_1, c_8_2, c_9_0, c_9_1, e_1, e_2, e_3, e_4, a0, b1, b2]
    exact inv_cd _ h'
  · have b1 : ¬ nI (N 0) = 20 := fun q => b ((nI_eq (b := 20) (by omega) (by decide)).mp q)
    have b2 : nI (N 0) < 20 := nI_lt (b := 20) (by omega) (by decide)
    have e := nI_clamp (n := N 0) (by omega)
    have v1 := vin (j := N 0) (n := 20) (by omega) (by decide)
    obtain ⟨d, hd', rfl⟩ := in_c 2 (by decide) a0
    simp [pu_in, pu_kin, pu_kw, pu_kG, pu_kPn, pu_kPl, pu_kCt, pu_cG, pu_cK, pu_cPn, pu_cPc, pu_cD, u2_00, c_n, c_0_0, c_1_0, c_2_0, c_2_1, c_3_0, c_3_1, c_4_0, c_4_1, c_5_0, c_5_1, c_5_2, c_5_3, c_6_0, c_6_1, c_7_0, c_7_1, c_7_2, c_8_0, c_8_1, c_8_2, c_9_0, c_9_1, e_1, e_2, e_3, e_4, a0, b1, b2, e, v1, nI_1, nI_pred]
    refine ⟨rfl, ?_⟩
    unfold Inv
    rw [np_3]
    exact ⟨⟨⟨show N 0 + 1 ≤ 20 by omega, n1, n2⟩, ⟨rfl, s1, s2⟩, ⟨rfl, r1, r2⟩, hd, hw, hc, ht, hr⟩, iK_up hK, iP_new hP hd' rfl rfl, iM_up hM, iC_up hC, hB, iT_new hT n0 rfl (fun c j hc' hj => by
      obtain ⟨v, hv, e, _⟩ := (hC c hc').1.2.2.2.2 j hj
      exact ⟨v, hv, e⟩)⟩

theorem pr_move {k : Nat} {g : Nat → Nat → Nat → Int32} {N : Nat → Nat} {μ : Nat → Nat → Int32} (h : Inv k g N μ) (x1 x2 x3 x4 : Int32) : pv_move (Inv (k + 1)) x1 x2 x3 x4 g N μ := by
  have h' := inv_up h
  obtain ⟨⟨⟨n0, n1, n2⟩, ⟨s0, s1, s2⟩, ⟨r0, r1, r2⟩, hd, hw, hc, ht, hr⟩, hK, hP, hM, hC, hB, hT⟩ := h
  unfold pv_move fC_move fM_move kC_move kM_move
  simp only [fC_isKind, fC_isGood, fC_isPerson, fC_isPieces, fC_isDay, fM_isGood, fM_isPerson, fM_isPlace, fM_isCount, ite_at, pu_in, s0, s1, s2, r0, r1, r2, hd]
  by_cases a0 : fM_in x1 0 (nI (N 0) - 1) = 0
  · simp [pu_in, pu_kin, pu_kw, pu_kG, pu_kPn, pu_kPl, pu_kCt, pu_cG, pu_cK, pu_cPn, pu_cPc, pu_cD, u2_00, c_n, c_0_0, c_1_0, c_2_0, c_2_1, c_3_0, c_3_1, c_4_0, c_4_1, c_5_0, c_5_1, c_5_2, c_5_3, c_6_0, c_6_1, c_7_0, c_7_1, c_7_2, c_8_0, c_8_1, c_8_2, c_9_0, c_9_1, e_1, e_2, e_3, e_4, a0]
    exact inv_cd _ h'
  obtain ⟨p, hp, rfl⟩ := in_0 (by omega) a0
  have ep := nI_clamp (n := p) (by omega)
  have vp := vin (j := p) (n := 20) (by omega) (by decide)
  by_cases a1 : fM_in x2 0 (nI (N 0) - 1) = 0
  · simp [pu_in, pu_kin, pu_kw, pu_kG, pu_kPn, pu_kPl, pu_kCt, pu_cG, pu_cK, pu_cPn, pu_cPc, pu_cD, u2_00, c_n, c_0_0, c_1_0, c_2_0, c_2_1, c_3_0, c_3_1, c_4_0, c_4_1, c_5_0, c_5_1, c_5_2, c_5_3, c_6_0, c_6_1, c_7_0, c_7_1, c_7_2, c_8_0, c_8_1, c_8_2, c_9_0, c_9_1, e_1, e_2, e_3, e_4, a1, a0, ep, vp, hp]
    exact inv_cd _ h'
  obtain ⟨q, hq, rfl⟩ := in_0 (by omega) a1
  have eq := nI_clamp (n := q) (by omega)
  have vq := vin (j := q) (n := 20) (by omega) (by decide)
  by_cases a2 : fM_in x3 0 5 = 0
  · by_cases a4 : nI p = nI q
    · rw [← a4]
      simp [pu_in, pu_kin, pu_kw, pu_kG, pu_kPn, pu_kPl, pu_kCt, pu_cG, pu_cK, pu_cPn, pu_cPc, pu_cD, u2_00, c_n, c_0_0, c_1_0, c_2_0, c_2_1, c_3_0, c_3_1, c_4_0, c_4_1, c_5_0, c_5_1, c_5_2, c_5_3, c_6_0, c_6_1, c_7_0, c_7_1, c_7_2, c_8_0, c_8_1, c_8_2, c_9_0, c_9_1, e_1, e_2, e_3, e_4, a0, ep, vp, hp, a1, eq, vq, hq, a2]
      exact inv_cd _ h'
    · simp [pu_in, pu_kin, pu_kw, pu_kG, pu_kPn, pu_kPl, pu_kCt, pu_cG, pu_cK, pu_cPn, pu_cPc, pu_cD, u2_00, c_n, c_0_0, c_1_0, c_2_0, c_2_1, c_3_0, c_3_1, c_4_0, c_4_1, c_5_0, c_5_1, c_5_2, c_5_3, c_6_0, c_6_1, c_7_0, c_7_1, c_7_2, c_8_0, c_8_1, c_8_2, c_9_0, c_9_1, e_1, e_2, e_3, e_4, a0, ep, vp, hp, a1, eq, vq, hq, a2, a4]
      exact inv_cd _ h'
  obtain ⟨t, ht', rfl⟩ := in_c 5 (by decide) a2
  have et := nI_clamp (n := t) (by omega)
  have vt := vin (j := t) (n := 6) (by omega) (by decide)
  have ec := nI_clamp (n := 6 * p + t) (by omega)
  have vc := vin (j := 6 * p + t) (n := 120) (by omega) (by decide)
  by_cases a3 : fM_in x4 1 1000000 = 0
  · by_cases a4 : nI p = nI q
    · rw [← a4]
      simp [pu_in, pu_kin, pu_kw, pu_kG, pu_kPn, pu_kPl, pu_kCt, pu_cG, pu_cK, pu_cPn, pu_cPc, pu_cD, u2_00, c_n, c_0_0, c_1_0, c_2_0, c_2_1, c_3_0, c_3_1, c_4_0, c_4_1, c_5_0, c_5_1, c_5_2, c_5_3, c_6_0, c_6_1, c_7_0, c_7_1, c_7_2, c_8_0, c_8_1, c_8_2, c_9_0, c_9_1, e_1, e_2, e_3, e_4, a0, ep, vp, hp, a1, eq, vq, hq, a2, a3]
      exact inv_cd _ h'
    · simp [pu_in, pu_kin, pu_kw, pu_kG, pu_kPn, pu_kPl, pu_kCt, pu_cG, pu_cK, pu_cPn, pu_cPc, pu_cD, u2_00, c_n, c_0_0, c_1_0, c_2_0, c_2_1, c_3_0, c_3_1, c_4_0, c_4_1, c_5_0, c_5_1, c_5_2, c_5_3, c_6_0, c_6_1, c_7_0, c_7_1, c_7_2, c_8_0, c_8_1, c_8_2, c_9_0, c_9_1, e_1, e_2, e_3, e_4, a0, ep, vp, hp, a1, eq, vq, hq, a2, a3, a4]
      exact inv_cd _ h'
  by_cases a4 : nI p = nI q
  · rw [← a4]
    simp [pu_in, pu_kin, pu_kw, pu_kG, pu_kPn, pu_kPl, pu_kCt, pu_cG, pu_cK, pu_cPn, pu_cPc, pu_cD, u2_00, c_n, c_0_0, c_1_0, c_2_0, c_2_1, c_3_0, c_3_1, c_4_0, c_4_1, c_5_0, c_5_1, c_5_2, c_5_3, c_6_0, c_6_1, c_7_0, c_7_1, c_7_2, c_8_0, c_8_1, c_8_2, c_9_0, c_9_1, e_1, e_2, e_3, e_4, a0, ep, vp, hp, a1, eq, vq, hq, a2, a3]
    exact inv_cd _ h'
  obtain ⟨v, hv, rfl⟩ := in_1 (n := 1000000) (by decide) a3
  obtain ⟨w, hw', e1, e2⟩ := hP.2.1 p hp t (by omega)
  have b0 : nI (v + 1) ≤ nI w ↔ v + 1 ≤ w := nI_leI (by omega) (by omega)
  by_cases b1 : v + 1 ≤ w
  · by_cases b2 : N 1 = 60
    · have b3 : nI (N 1) = 60 := by rw [b2]; rfl
      have b4 : ¬ (60 : Int32) < 60 := by decide
      simp [pu_in, pu_kin, pu_kw, pu_kG, pu_kPn, pu_kPl, pu_kCt, pu_cG, pu_cK, pu_cPn, pu_cPc, pu_cD, u2_00, c_n, c_0_0, c_1_0, c_2_0, c_2_1, c_3_0, c_3_1, c_4_0, c_4_1, c_5_0, c_5_1, c_5_2, c_5_3, c_6_0, c_6_1, c_7_0, c_7_1, c_7_2, c_8_0, c_8_1, c_8_2, c_9_0, c_9_1, e_1, e_2, e_3, e_4, a0, ep, vp, hp, a1, eq, vq, hq, a2, a3, a4, et, vt, ec, vc, e_6, e1, e2, b0, b1, b3, b4]
      exact inv_cd _ h'
    · have b3 : ¬ nI (N 1) = 60 := fun q => b2 ((nI_eq (b := 60) (by omega) (by decide)).mp q)
      have b4 : nI (N 1) < 60 := nI_lt (b := 60) (by omega) (by decide)
      have b5 := nI_clamp (n := N 1) (by omega)
      have b6 := nI_clamp (n := N 1 + 1) (by omega)
      have v1 := vin (j := N 1) (n := 60) (by omega) (by decide)
      have v2 := vin (j := N 1 + 1) (n := 61) (by omega) (by decide)
      have b7 : nI w - nI (v + 1) = nI (w - (v + 1)) := pk_sub b1
      simp [pu_in, pu_kin, pu_kw, pu_kG, pu_kPn, pu_kPl, pu_kCt, pu_cG, pu_cK, pu_cPn, pu_cPc, pu_cD, u2_00, c_n, c_0_0, c_1_0, c_2_0, c_2_1, c_3_0, c_3_1, c_4_0, c_4_1, c_5_0, c_5_1, c_5_2, c_5_3, c_6_0, c_6_1, c_7_0, c_7_1, c_7_2, c_8_0, c_8_1, c_8_2, c_9_0, c_9_1, e_1, e_2, e_3, e_4, a0, ep, vp, hp, a1, eq, vq, hq, a2, a3, a4, et, vt, ec, vc, e_6, e1, e2, b0, b1, b3, b4, b5, b6, b7, v1, v2, nI_1]
      refine ⟨rfl, ?_⟩
      unfold Inv
      rw [nt_3]
      exact ⟨⟨⟨n0, show N 1 + 1 ≤ 60 by omega, n2⟩, ⟨s0, rfl, s2⟩, ⟨r0, rfl, r2⟩, hd, hw, hc, ht, hr⟩, iK_up hK, iP_set hP hp (by omega) (by omega), iM_new hM hp hq (by omega) (by omega) rfl rfl rfl rfl rfl, hC, hB, hT⟩
  · simp [pu_in, pu_kin, pu_kw, pu_kG, pu_kPn, pu_kPl, pu_kCt, pu_cG, pu_cK, pu_cPn, pu_cPc, pu_cD, u2_00, c_n, c_0_0, c_1_0, c_2_0, c_2_1, c_3_0, c_3_1, c_4_0, c_4_1, c_5_0, c_5_1, c_5_2, c_5_3, c_6_0, c_6_1, c_7_0, c_7_1, c_7_2, c_8_0, c_8_1, c_8_2, c_9_0, c_9_1, e_1, e_2, e_3, e_4, a0, ep, vp, hp, a1, eq, vq, hq, a2, a3, a4, et, vt, ec, vc, e_6, e1, e2, b0, b1]
    exact inv_cd _ h'

theorem pr_end {k : Nat} {g : Nat → Nat → Nat → Int32} {N : Nat → Nat} {μ : Nat → Nat → Int32} (h : Inv k g N μ) (x1 : Int32) : pv_end (Inv (k + 1)) x1 g N μ := by
  have h' := inv_up h
  obtain ⟨⟨⟨n0, n1, n2⟩, ⟨s0, s1, s2⟩, ⟨r0, r1, r2⟩, hd, hw, hc, ht, hr⟩, hK, hP, hM, hC, hB, hT⟩ := h
  unfold pv_end fC_end fM_end kC_end kM_end
  rw [r1]
  simp only [fC_isKind, fC_isGood, fC_isPerson, fC_isPieces, fC_isDay, fM_isGood, fM_isPerson, fM_isPlace, fM_isCount, ite_at, pu_in, s0, s1, s2, r0, r1, r2, hd]
  by_cases a0 : fM_in x1 1 (nI (N 1)) = 0
  · simp [pu_in, pu_kin, pu_kw, pu_kG, pu_kPn, pu_kPl, pu_kCt, pu_cG, pu_cK, pu_cPn, pu_cPc, pu_cD, u2_00, c_n, c_0_0, c_1_0, c_2_0, c_2_1, c_3_0, c_3_1, c_4_0, c_4_1, c_5_0, c_5_1, c_5_2, c_5_3, c_6_0, c_6_1, c_7_0, c_7_1, c_7_2, c_8_0, c_8_1, c_8_2, c_9_0, c_9_1, e_1, e_2, e_3, e_4, a0]
    exact inv_cd _ h'
  obtain ⟨i, hi, rfl⟩ := in_1 (by omega) a0
  have ei := nI_clamp (n := i) (by omega)
  have ei1 := nI_clamp (n := i + 1) (by omega)
  have v1 := vin (j := i) (n := 60) (by omega) (by decide)
  have v2 := vin (j := i + 1) (n := 61) (by omega) (by decide)
  obtain ⟨_, ⟨t, ht', e1, e2⟩, ⟨q, hq, e3, e4⟩, ⟨v, hv, e5, e6⟩, e7⟩ := hM.1 i hi
  have p1 := pn_k n0 s0 ht'
  rw [s0, pu_in] at p1
  have et := nI_clamp (n := t) (by omega)
  have eq := nI_clamp (n := q) (by omega)
  have vq := vin (j := q) (n := 6) (by omega) (by decide)
  have ec := nI_clamp (n := 6 * t + q) (by omega)
  have vc := vin (j := 6 * t + q) (n := 120) (by omega) (by decide)
  obtain ⟨w, hw', e8, e9⟩ := hP.2.1 t ht' q hq
  rcases e7 with ⟨o1, o2⟩ | ⟨o1, o2⟩
  · have b0 : nI (w + v) ≤ 1000000 ↔ w + v ≤ 1000000 := nI_leI (b := 1000000) (by omega) (by decide)
    by_cases b1 : w + v ≤ 1000000
    · have b2 : ¬ fM_in (nI (w + v)) 0 1000000 = 0 := fun q => pu_in0.mp q ⟨nI_pos' (by omega), b0.mpr b1⟩
      have b3 : vp_nar .boolean 1 = 1 := by decide
      simp [pu_in, pu_kin, pu_kw, pu_kG, pu_kPn, pu_kPl, pu_kCt, pu_cG, pu_cK, pu_cPn, pu_cPc, pu_cD, u2_00, c_n, c_0_0, c_1_0, c_2_0, c_2_1, c_3_0, c_3_1, c_4_0, c_4_1, c_5_0, c_5_1, c_5_2, c_5_3, c_6_0, c_6_1, c_7_0, c_7_1, c_7_2, c_8_0, c_8_1, c_8_2, c_9_0, c_9_1, e_1, e_2, e_3, e_4, a0, e_s, ei, ei1, v1, v2, e1, e2, e3, e4, e5, e6, e8, e9, o1, o2, p1, et, eq, vq, ec, vc, e_6, nI_add, b0, b1, b2, b3, hi, ht']
      exact ⟨rfl, h'.1, h'.2.1, iP_set hP ht' hq b1, iM_end hM hi, h'.2.2.2.2⟩
    · have b2 : fM_in (nI (w + v)) 0 1000000 = 0 := pu_in0.mpr (fun q => b1 (b0.mp q.2))
      simp [pu_in, pu_kin, pu_kw, pu_kG, pu_kPn, pu_kPl, pu_kCt, pu_cG, pu_cK, pu_cPn, pu_cPc, pu_cD, u2_00, c_n, c_0_0, c_1_0, c_2_0, c_2_1, c_3_0, c_3_1, c_4_0, c_4_1, c_5_0, c_5_1, c_5_2, c_5_3, c_6_0, c_6_1, c_7_0, c_7_1, c_7_2, c_8_0, c_8_1, c_8_2, c_9_0, c_9_1, e_1, e_2, e_3, e_4, a0, e_s, ei, ei1, v1, v2, e1, e2, e3, e4, e5, e6, e8, e9, o1, o2, p1, et, eq, vq, ec, vc, e_6, nI_add, b0, b1, b2, hi, ht']
      exact inv_cd _ h'
  · simp [pu_in, pu_kin, pu_kw, pu_kG, pu_kPn, pu_kPl, pu_kCt, pu_cG, pu_cK, pu_cPn, pu_cPc, pu_cD, u2_00, c_n, c_0_0, c_1_0, c_2_0, c_2_1, c_3_0, c_3_1, c_4_0, c_4_1, c_5_0, c_5_1, c_5_2, c_5_3, c_6_0, c_6_1, c_7_0, c_7_1, c_7_2, c_8_0, c_8_1, c_8_2, c_9_0, c_9_1, e_1, e_2, e_3, e_4, a0, e_s, ei, ei1, v1, v2, e1, e2, e3, e4, e5, e6, e8, e9, o1, o2, p1, et, eq, vq, ec, vc, e_6, nI_add, hi, ht']
    exact inv_cd _ h'
