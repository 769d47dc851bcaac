/-! PURE: findings -/
theorem m1_0 {f : Nat} (h : f < 2 ^ 31) : nI f - 1 = -1 ↔ f = 0 := by
  cases f with
  | zero => exact ⟨fun _ => rfl, fun _ => by decide⟩
  | succ f =>
    rw [nI_pred]
    refine ⟨fun q => ?_, fun q => by omega⟩
    have := nI_pos (n := f) (by omega)
    rw [q] at this
    exact absurd (by decide) this
theorem m1_v {f a : Nat} (h : f < 2 ^ 31) (ha : a < 2 ^ 31) : nI f - 1 = nI a ↔ f = a + 1 := by
  cases f with
  | zero =>
    refine ⟨fun q => ?_, fun q => by omega⟩
    have := nI_pos ha
    rw [← q] at this
    exact absurd (by decide) this
  | succ f =>
    rw [nI_pred, nI_eq (by omega) ha]
    omega
theorem fb_12 {μ : Nat → Nat → Int32} {L f s : Nat} (hL : L < 2 ^ 31) (hf : f ≤ 6) (hs : s ≤ 6) (e : μ 24 L = nI (f + 10 * s)) : fM_firstBy (nI L) μ = nI f - 1 ∧ fM_secondBy (nI L) μ = nI s - 1 := by
  unfold fM_firstBy fM_secondBy
  rw [nI_clamp hL, e]
  have h1 := pk_rem (a := f + 10 * s) (d := 10) (by omega) (by omega) (by decide)
  have h2 := pk_div (a := f + 10 * s) (d := 10) (by omega) (by omega) (by decide)
  rw [show (f + 10 * s) % 10 = f by omega] at h1
  rw [show (f + 10 * s) / 10 = s by omega] at h2
  exact ⟨congrArg (· - 1) h1, congrArg (· - 1) h2⟩
theorem far_abs {v w : Nat} (hv : v < 2 ^ 30) (hw : w < 2 ^ 30) : (if 0 ≤ nI v - nI w then nI v - nI w else 0 - (nI v - nI w)) = fM_far (nI v) (nI w) := by
  unfold fM_far
  have h0 := pk_sub_toInt hv hw
  have h1 : nI v ≤ nI w ↔ v ≤ w := nI_leI (by omega) (by omega)
  have h2 : 0 ≤ nI v - nI w ↔ w ≤ v := by
    rw [Int32.le_iff_toInt_le, h0, show (0 : Int32).toInt = 0 by decide]
    omega
  have h3 : (0 : Int32) - (nI v - nI w) = nI w - nI v := by rw [Int32.zero_sub, Int32.neg_sub]
  by_cases c1 : w ≤ v
  · rw [if_pos (h2.mpr c1)]
    by_cases c2 : v ≤ w
    · have : v = w := by omega
      subst this
      rw [if_pos (h1.mpr c2)]
    · rw [if_neg (fun q => c2 (h1.mp q))]
  · rw [if_neg (fun q => c1 (h2.mp q)), if_pos (h1.mpr (by omega)), h3]
theorem lp_pos {g : Nat → Nat → Nat → Int32} {N : Nat → Nat} {μ : Nat → Nat → Int32} {x : Int32} {c : Nat} (hc : c < 20) (hz : N (3 + c) ≤ 20) (r : μ 18 (c + 1) = nI (N (3 + c))) (hm : ∀ j, j < N (3 + c) → g 9 c j = μ 20 (20 * (c + 1) + j)) : ∀ (d j n : Nat), j + d = N (3 + c) → kS_positionOf_2 kS_positionOf_2x (n + d + 1) c x (nI j) g N ∧ kM_slot_2 kM_slot_2x (n + d + 1) (nI (c + 1)) x (nI j) μ ∧ ((fS_positionOf_2 fS_positionOf_2x (n + d + 1) c x (nI j) g N = -1 ∧ fM_slot_2 fM_slot_2x (n + d + 1) (nI (c + 1)) x (nI j) μ = -1 ∧ ∀ i, j ≤ i → i < N (3 + c) → g 9 c i ≠ x) ∨ ∃ i, i < N (3 + c) ∧ fS_positionOf_2 fS_positionOf_2x (n + d + 1) c x (nI j) g N = nI i ∧ fM_slot_2 fM_slot_2x (n + d + 1) (nI (c + 1)) x (nI j) μ = nI i ∧ g 9 c i = x) := by
  intro d
  have c1 := nI_clamp (n := c + 1) (by omega)
  have v1 := vin (j := c + 1) (n := 21) (by omega) (by decide)
  induction d with
  | zero =>
    intro j n hj
    have h1 : nI (N (3 + c)) ≤ nI j := (nI_leI (by omega) (by omega)).mpr (by omega)
    simp [kS_positionOf_2, kM_slot_2, fS_positionOf_2, fM_slot_2, r, h1, kS_positionOf_2x, kM_slot_2x, fS_positionOf_2x, fM_slot_2x, c1, v1]
    exact Or.inl (fun i h2 h3 => by omega)
  | succ d ih =>
    intro j n hj
    have h1 : ¬ nI (N (3 + c)) ≤ nI j := fun q => absurd ((nI_leI (by omega) (by omega)).mp q) (by omega)
    have h2 := nI_clamp (n := j) (by omega)
    have h3 := nI_clamp (n := 20 * (c + 1) + j) (by omega)
    have v2 := vin (j := j) (n := N (3 + c)) (by omega) (by omega)
    have v3 := vin (j := 20 * (c + 1) + j) (n := 420) (by omega) (by decide)
    have h4 := hm j (by omega)
    have I0 := ih (j + 1) n (by omega)
    rw [show n + (d + 1) + 1 = (n + d + 1) + 1 by omega]
    generalize n + d + 1 = f at I0 ⊢
    by_cases b : μ 20 (20 * (c + 1) + j) = x
    · simp [kS_positionOf_2, kM_slot_2, fS_positionOf_2, fM_slot_2, r, h1, h2, h3, h4, c1, v1, v2, v3, e_20, b]
      exact Or.inr ⟨j, by omega, rfl, by rw [h4, b]⟩
    · simp [kS_positionOf_2, kM_slot_2, fS_positionOf_2, fM_slot_2, r, h1, h2, h3, h4, c1, v1, v2, v3, e_20, b, nI_1]
      obtain ⟨k1, k2, I⟩ := I0
      refine ⟨k1, k2, ?_⟩
      rcases I with ⟨i1, i2, i3⟩ | I
      · refine Or.inl ⟨i1, i2, fun i h5 h6 => ?_⟩
        by_cases e : i = j
        · subst e; rw [h4]; exact b
        · exact i3 i (by omega) h6
      · exact Or.inr I
theorem po_c {g : Nat → Nat → Nat → Int32} {N : Nat → Nat} {μ : Nat → Nat → Int32} (x : Int32) {c : Nat} (hc : c < 20) (hz : N (3 + c) ≤ 20) (r : μ 18 (c + 1) = nI (N (3 + c))) (hm : ∀ j, j < N (3 + c) → g 9 c j = μ 20 (20 * (c + 1) + j)) : kS_positionOf c x g N ∧ kM_slot (nI (c + 1)) x μ ∧ ((fS_positionOf c x g N = -1 ∧ fM_slot (nI (c + 1)) x μ = -1 ∧ ∀ i, i < N (3 + c) → g 9 c i ≠ x) ∨ ∃ i, i < N (3 + c) ∧ fS_positionOf c x g N = nI i ∧ fM_slot (nI (c + 1)) x μ = nI i ∧ g 9 c i = x) := by
  have h := lp_pos (x := x) hc hz r hm (N (3 + c)) 0 (199 - N (3 + c)) (by omega)
  rw [show 199 - N (3 + c) + N (3 + c) + 1 = 200 by omega] at h
  obtain ⟨h1, h2, h3⟩ := h
  refine ⟨h1, h2, ?_⟩
  rcases h3 with ⟨a, b, d⟩ | h3
  · exact Or.inl ⟨a, b, fun i hi => d i (by omega) hi⟩
  · exact Or.inr h3
/-- one count changes -/
theorem iC_cg {N0 N2 : Nat} {z : Nat → Nat} {st mb nt pc ff sf ak co di : Nat → Nat → Int32} {m17 m18 m19 m20 m21 m22 m23 m24 m25 : Nat → Int32} {z' : Nat → Nat} {st' mb' nt' pc' ff' sf' ak' co' di' : Nat → Nat → Int32} {m17' m18' m19' m20' m21' m22' m23' m24' m25' : Nat → Int32} (c : Nat) (h : iC N0 N2 z st mb nt pc ff sf ak co di m17 m18 m19 m20 m21 m22 m23 m24 m25) (hz : ∀ a, a ≠ c → z' a = z a) (hg : ∀ a, a ≠ c → st' a = st a ∧ mb' a = mb a ∧ nt' a = nt a ∧ pc' a = pc a ∧ ff' a = ff a ∧ sf' a = sf a ∧ ak' a = ak a ∧ co' a = co a ∧ di' a = di a) (hm : ∀ a, a ≠ c → m17' (a + 1) = m17 (a + 1) ∧ m18' (a + 1) = m18 (a + 1) ∧ m19' (a + 1) = m19 (a + 1) ∧ (∀ j, j < 20 → m20' (20 * (a + 1) + j) = m20 (20 * (a + 1) + j))) (hl : ∀ a l, a ≠ c → l < 120 → m21' (120 * (a + 1) + l) = m21 (120 * (a + 1) + l) ∧ m22' (120 * (a + 1) + l) = m22 (120 * (a + 1) + l) ∧ m23' (120 * (a + 1) + l) = m23 (120 * (a + 1) + l) ∧ m24' (120 * (a + 1) + l) = m24 (120 * (a + 1) + l) ∧ m25' (120 * (a + 1) + l) = m25 (120 * (a + 1) + l)) (N2' : Nat) (hN : ∀ a, a < N2' → a ≠ c → a < N2) (hn : iH N0 (z' c) (st' c) (mb' c) (m17' (c + 1)) (m18' (c + 1)) (m19' (c + 1)) (fun j => m20' (20 * (c + 1) + j)) ∧ iL (z' c) (nt' c) (pc' c) (ff' c) (sf' c) (ak' c) (co' c) (fun l => m21' (120 * (c + 1) + l)) (fun l => m22' (120 * (c + 1) + l)) (fun l => m23' (120 * (c + 1) + l)) (fun l => m24' (120 * (c + 1) + l)) (fun l => m25' (120 * (c + 1) + l)) ∧ iD (z' c) (st' c) (nt' c) (pc' c) (ff' c) (di' c)) : iC N0 N2' z' st' mb' nt' pc' ff' sf' ak' co' di' m17' m18' m19' m20' m21' m22' m23' m24' m25' := by
  intro a ha
  by_cases e : a = c
  · subst e; exact hn
  · obtain ⟨h1, h2, h3⟩ := h a (hN a ha e)
    obtain ⟨g1, g2, g3, g4, g5, g6, g7, g8, g9⟩ := hg a e
    obtain ⟨k1, k2, k3, k4⟩ := hm a e
    rw [hz a e, g1, g2, g3, g4, g5, g6, g7, g8, g9, k1, k2, k3]
    refine ⟨⟨h1.1, h1.2.1, h1.2.2.1, h1.2.2.2.1, fun j hj => ?_⟩, fun l hl' => ?_, h3⟩
    · show ∃ v : Nat, v < N0 ∧ mb a j = nI v ∧ m20' (20 * (a + 1) + j) = nI v
      rw [k4 j (by have := h1.1.2; omega)]
      exact h1.2.2.2.2 j hj
    · obtain ⟨l1, l2, l3, l4, l5⟩ := hl a l e (by have := h1.1.2; omega)
      show iV _ _ (m21' (120 * (a + 1) + l)) ∧ iF _ _ _ (m22' (120 * (a + 1) + l)) (m23' (120 * (a + 1) + l)) (m24' (120 * (a + 1) + l)) ∧ iA _ _ (m25' (120 * (a + 1) + l))
      rw [l1, l2, l3, l4, l5]
      exact h2 l hl'
theorem iT_cg {N0 N2 : Nat} {z : Nat → Nat} {p p' st st' mb : Nat → Nat → Int32} (h : iT N0 N2 z p st mb) (h1 : ∀ i, p' i 2 = p i 2) (h2 : ∀ c, st' c 2 = st c 2) : iT N0 N2 z p' st' mb := by
  refine ⟨fun i hi => ?_, fun c d i j => ?_⟩
  · simp only [h1, h2]; exact h.1 i hi
  · simp only [h2]; exact h.2 c d i j
theorem iB_up {N2 : Nat} {m18 m19 m21 m24 m25 m19' m21' m24' m25' : Nat → Int32} (h : iB N2 m18 m19 m21 m24 m25) (h1 : ∀ c, N2 < c → m19' c = m19 c) (h2 : ∀ c l, N2 < c → l < 120 → m21' (120 * c + l) = m21 (120 * c + l) ∧ m24' (120 * c + l) = m24 (120 * c + l) ∧ m25' (120 * c + l) = m25 (120 * c + l)) : iB N2 m18 m19' m21' m24' m25' := by
  intro c hc
  obtain ⟨a1, a2, a3⟩ := h c hc
  refine ⟨a1, by rw [h1 c hc]; exact a2, fun l hl => ?_⟩
  obtain ⟨b1, b2, b3⟩ := h2 c l hc hl
  rw [b1, b2, b3]
  exact a3 l hl
theorem u3_j {g : Nat → Nat → Nat → Int32} {c i j a b : Nat} {v : Int32} (h : b ≠ j) : u3 g c i j v c a b = g c a b := by
  show (if c = c then (fun i9 => if i9 = i then upd (g c i) j v else g c i9) else g c) a b = _
  rw [if_pos rfl]
  show (if a = i then upd (g c i) j v else g c a) b = _
  by_cases e : a = i
  · subst e; rw [if_pos rfl, pk_un h]
  · rw [if_neg e]
theorem u3_r {g : Nat → Nat → Nat → Int32} {c i j a : Nat} {v : Int32} (h : a ≠ i) : u3 g c i j v c a = g c a := by
  show (if c = c then (fun i9 => if i9 = i then upd (g c i) j v else g c i9) else g c) a = _
  rw [if_pos rfl]
  exact if_neg h
theorem u3_s {g : Nat → Nat → Nat → Int32} {c i j : Nat} {v : Int32} : u3 g c i j v c i = upd (g c i) j v := by
  show (if c = c then (fun i9 => if i9 = i then upd (g c i) j v else g c i9) else g c) i = _
  rw [if_pos rfl]
  exact if_pos rfl

theorem pr_second {k : Nat} {g : Nat → Nat → Nat → Int32} {N : Nat → Nat} {μ : Nat → Nat → Int32} (h : Inv k g N μ) (x1 x2 x3 : Int32) : pv_second (Inv (k + 1)) x1 x2 x3 g N μ := by
  have h' := inv_up h
  obtain ⟨⟨⟨n0, n1, n2⟩, ⟨s0, s1, s2⟩, ⟨r0, r1, r2⟩, hd, hw, hc, ht, hr⟩, hK, hP, hM, hC, hB, hT⟩ := h
  unfold pv_second fC_second fM_second kC_second kM_second
  simp only [fC_isKind, fC_isGood, fC_isPerson, fC_isPieces, fC_isDay, fM_isGood, fM_isPerson, fM_isPlace, fM_isCount, ite_at, pu_in, s0, s1, s2, r0, r1, r2, hd]
  by_cases a0 : fM_in x1 1 (nI (N 2)) = 0
  · simp [pu_in, pu_kin, pu_kw, pu_kG, pu_kPn, pu_kPl, pu_kCt, pu_cG, pu_cK, pu_cPn, pu_cPc, pu_cD, u2_00, c_n, c_0_0, c_1_0, c_2_0, c_2_1, c_3_0, c_3_1, c_4_0, c_4_1, c_5_0, c_5_1, c_5_2, c_5_3, c_6_0, c_6_1, c_7_0, c_7_1, c_7_2, c_8_0, c_8_1, c_8_2, c_9_0, c_9_1, e_1, e_2, e_3, e_4, a0]
    exact inv_cd _ h'
  obtain ⟨c, hc', rfl⟩ := in_1 (by omega) a0
  have ec := nI_clamp (n := c) (by omega)
  have ec1 := nI_clamp (n := c + 1) (by omega)
  have vc := vin (j := c) (n := 20) (by omega) (by decide)
  have vc1 := vin (j := c + 1) (n := 21) (by omega) (by decide)
  obtain ⟨⟨z1, z2⟩, hz, ⟨s, hs, hs1, hs2⟩, hfi, hmb⟩ : iH (N 0) (N (3 + c)) (g 8 c) (g 9 c) (μ 17 (c + 1)) (μ 18 (c + 1)) (μ 19 (c + 1)) (fun j => μ 20 (20 * (c + 1) + j)) := (hC c hc').1
  by_cases a1 : fM_in x2 0 (nI (N 0) - 1) = 0
  · simp [pu_in, pu_kin, pu_kw, pu_kG, pu_kPn, pu_kPl, pu_kCt, pu_cG, pu_cK, pu_cPn, pu_cPc, pu_cD, u2_00, c_n, c_0_0, c_1_0, c_2_0, c_2_1, c_3_0, c_3_1, c_4_0, c_4_1, c_5_0, c_5_1, c_5_2, c_5_3, c_6_0, c_6_1, c_7_0, c_7_1, c_7_2, c_8_0, c_8_1, c_8_2, c_9_0, c_9_1, e_1, e_2, e_3, e_4, a1, a0, ec, ec1, vc, vc1, e_s, hz, hs1, hs2, hfi, hc']
    exact inv_cd _ h'
  obtain ⟨p, hp, rfl⟩ := in_0 (by omega) a1
  have ep := nI_clamp (n := p) (by omega)
  have vp := vin (j := p) (n := 20) (by omega) (by decide)
  obtain ⟨k1, k2, hpos⟩ := po_c (g := g) (μ := u2 μ 0 0 0) (nI p) (by omega) z2 hz (fun j hj => by
    obtain ⟨v, _, e1, e2⟩ := hmb j hj
    rw [e1]; exact e2.symm)
  rcases hpos with ⟨q1, q2, q3⟩ | ⟨i, hi, q1, q2, q3⟩
  · simp [pu_in, pu_kin, pu_kw, pu_kG, pu_kPn, pu_kPl, pu_kCt, pu_cG, pu_cK, pu_cPn, pu_cPc, pu_cD, u2_00, c_n, c_0_0, c_1_0, c_2_0, c_2_1, c_3_0, c_3_1, c_4_0, c_4_1, c_5_0, c_5_1, c_5_2, c_5_3, c_6_0, c_6_1, c_7_0, c_7_1, c_7_2, c_8_0, c_8_1, c_8_2, c_9_0, c_9_1, e_1, e_2, e_3, e_4, a0, ec, ec1, vc, vc1, e_s, hz, hs1, hs2, hfi, hc', a1, ep, vp, hp, k1, k2, q1, q2]
    exact inv_cd _ h'
  have ni : ¬ nI i = -1 := fun q => by
    have := nI_pos (n := i) (by omega)
    rw [q] at this
    exact absurd (by decide) this
  by_cases a2 : fM_in x3 0 5 = 0
  · simp [pu_in, pu_kin, pu_kw, pu_kG, pu_kPn, pu_kPl, pu_kCt, pu_cG, pu_cK, pu_cPn, pu_cPc, pu_cD, u2_00, c_n, c_0_0, c_1_0, c_2_0, c_2_1, c_3_0, c_3_1, c_4_0, c_4_1, c_5_0, c_5_1, c_5_2, c_5_3, c_6_0, c_6_1, c_7_0, c_7_1, c_7_2, c_8_0, c_8_1, c_8_2, c_9_0, c_9_1, e_1, e_2, e_3, e_4, a0, ec, ec1, vc, vc1, e_s, hz, hs1, hs2, hfi, hc', a1, ep, vp, hp, k1, k2, q1, q2, a2, ni]
    exact inv_cd _ h'
  obtain ⟨q, hq, rfl⟩ := in_c 5 (by decide) a2
  have hl : 6 * i + q < 6 * N (3 + c) := by omega
  have eL := nI_clamp (n := 120 * (c + 1) + (6 * i + q)) (by omega)
  have el := nI_clamp (n := 6 * i + q) (by omega)
  have vL := vin (j := 120 * (c + 1) + (6 * i + q)) (n := 2520) (by omega) (by decide)
  have vl := vin (j := 6 * i + q) (n := 6 * N (3 + c)) (by omega) (by omega)
  obtain ⟨⟨w, hw1, w1, w2⟩, ⟨f, s', v', hf, hs', hv', hfs, t1, t2, t3, t4, t5, t6⟩, hA⟩ : iV 61000000 (g 10 c (6 * i + q)) (μ 21 (120 * (c + 1) + (6 * i + q))) ∧ iF (g 11 c (6 * i + q)) (g 12 c (6 * i + q)) (g 13 c (6 * i + q)) (μ 22 (120 * (c + 1) + (6 * i + q))) (μ 23 (120 * (c + 1) + (6 * i + q))) (μ 24 (120 * (c + 1) + (6 * i + q))) ∧ iA (g 14 c (6 * i + q)) (g 15 c (6 * i + q)) (μ 25 (120 * (c + 1) + (6 * i + q))) := (hC c hc').2.1 (6 * i + q) hl
  by_cases b1 : nI s = 1
  · obtain ⟨y1, y2⟩ := fb_12 (μ := u2 (u2 μ 0 0 0) 0 0 0) (by omega) hf hs' t1
    have y3 : ∀ m, kM_firstBy (nI (120 * (c + 1) + (6 * i + q))) m := fun _ => ⟨vL, trivial⟩
    have y4 : ∀ m, kM_secondBy (nI (120 * (c + 1) + (6 * i + q))) m := fun _ => ⟨vL, trivial⟩
    have m1_ := m1_0 (f := f) (by omega)
    have m2_ := m1_0 (f := s') (by omega)
    by_cases b2 : f = 0
    · have m1 : nI f - 1 = -1 := m1_.mpr b2
      simp only [fS_isToldOnce, kS_isToldOnce, fC_isTolerated, kC_isTolerated, fS_differenceOf, kS_differenceOf]
      simp [pu_in, pu_kin, pu_kw, pu_kG, pu_kPn, pu_kPl, pu_kCt, pu_cG, pu_cK, pu_cPn, pu_cPc, pu_cD, u2_00, c_n, c_0_0, c_1_0, c_2_0, c_2_1, c_3_0, c_3_1, c_4_0, c_4_1, c_5_0, c_5_1, c_5_2, c_5_3, c_6_0, c_6_1, c_7_0, c_7_1, c_7_2, c_8_0, c_8_1, c_8_2, c_9_0, c_9_1, e_1, e_2, e_3, e_4, a0, ec, ec1, vc, vc1, e_s, hz, hs1, hs2, hfi, hc', a1, ep, vp, hp, k1, k2, q1, q2, a2, ni, b1, e_120, e_x6, eL, el, vL, vl, y1, y2, y3, y4, t2, t3, m1]
      exact inv_cd _ h'
    have m1 : ¬ nI f - 1 = -1 := fun q => b2 (m1_.mp q)
    by_cases b3 : s' = 0
    · have t5' := t5 b2 b3
      have m2 : nI s' - 1 = -1 := m2_.mpr b3
      obtain ⟨⟨d, hd', d1, d2⟩, _⟩ := hP.1 p hp
      have ed := nI_clamp (n := d) (by omega)
      have vd := vin (j := d) (n := 3) (by omega) (by decide)
      have htd := ht d (by omega)
      have fa := far_abs (v := v') (w := w) (by omega) (by omega)
      have kf : ∀ a b, kM_far a b := fun a b => ⟨fun _ => trivial, fun _ => trivial⟩
      simp only [fS_isToldOnce, kS_isToldOnce, fC_isTolerated, kC_isTolerated, fS_differenceOf, kS_differenceOf, q1, q2, e_s, ec, ep, ec1, e_120, e_x6, el, eL, t4, w1, w2, t5', d1, d2, ed, htd, fa]
      by_cases b4 : fM_far (nI v') (nI w) ≤ μ 8 d
      · have b5 : ¬ μ 8 d < fM_far (nI v') (nI w) := Int32.not_lt.mpr b4
        simp [pu_in, pu_kin, pu_kw, pu_kG, pu_kPn, pu_kPl, pu_kCt, pu_cG, pu_cK, pu_cPn, pu_cPc, pu_cD, u2_00, c_n, c_0_0, c_1_0, c_2_0, c_2_1, c_3_0, c_3_1, c_4_0, c_4_1, c_5_0, c_5_1, c_5_2, c_5_3, c_6_0, c_6_1, c_7_0, c_7_1, c_7_2, c_8_0, c_8_1, c_8_2, c_9_0, c_9_1, e_1, e_2, e_3, e_4, a0, ec, ec1, vc, vc1, e_s, hz, hs1, hs2, hfi, hc', a1, ep, vp, hp, k1, k2, q1, q2, a2, ni, b1, e_120, e_x6, eL, el, vL, vl, y1, y2, y3, y4, t2, t3, m1, m2, vd, kf, b4, b5]
        exact inv_cd _ h'
      · have b5 : μ 8 d < fM_far (nI v') (nI w) := Int32.not_le.mp b4
        simp [pu_in, pu_kin, pu_kw, pu_kG, pu_kPn, pu_kPl, pu_kCt, pu_cG, pu_cK, pu_cPn, pu_cPc, pu_cD, u2_00, c_n, c_0_0, c_1_0, c_2_0, c_2_1, c_3_0, c_3_1, c_4_0, c_4_1, c_5_0, c_5_1, c_5_2, c_5_3, c_6_0, c_6_1, c_7_0, c_7_1, c_7_2, c_8_0, c_8_1, c_8_2, c_9_0, c_9_1, e_1, e_2, e_3, e_4, a0, ec, ec1, vc, vc1, e_s, hz, hs1, hs2, hfi, hc', a1, ep, vp, hp, k1, k2, q1, q2, a2, ni, b1, e_120, e_x6, eL, el, vL, vl, y1, y2, y3, y4, t2, t3, m1, m2, vd, kf, b4, b5]
        exact inv_cd _ h'
    · have m2 : ¬ nI s' - 1 = -1 := fun q => b3 (m2_.mp q)
      simp only [fS_isToldOnce, kS_isToldOnce, fC_isTolerated, kC_isTolerated, fS_differenceOf, kS_differenceOf]
      simp [pu_in, pu_kin, pu_kw, pu_kG, pu_kPn, pu_kPl, pu_kCt, pu_cG, pu_cK, pu_cPn, pu_cPc, pu_cD, u2_00, c_n, c_0_0, c_1_0, c_2_0, c_2_1, c_3_0, c_3_1, c_4_0, c_4_1, c_5_0, c_5_1, c_5_2, c_5_3, c_6_0, c_6_1, c_7_0, c_7_1, c_7_2, c_8_0, c_8_1, c_8_2, c_9_0, c_9_1, e_1, e_2, e_3, e_4, a0, ec, ec1, vc, vc1, e_s, hz, hs1, hs2, hfi, hc', a1, ep, vp, hp, k1, k2, q1, q2, a2, ni, b1, e_120, e_x6, eL, el, vL, vl, y1, y2, y3, y4, t2, t3, m1, m2]
      exact inv_cd _ h'
  · simp [pu_in, pu_kin, pu_kw, pu_kG, pu_kPn, pu_kPl, pu_kCt, pu_cG, pu_cK, pu_cPn, pu_cPc, pu_cD, u2_00, c_n, c_0_0, c_1_0, c_2_0, c_2_1, c_3_0, c_3_1, c_4_0, c_4_1, c_5_0, c_5_1, c_5_2, c_5_3, c_6_0, c_6_1, c_7_0, c_7_1, c_7_2, c_8_0, c_8_1, c_8_2, c_9_0, c_9_1, e_1, e_2, e_3, e_4, a0, ec, ec1, vc, vc1, e_s, hz, hs1, hs2, hfi, hc', a1, ep, vp, hp, k1, k2, q1, q2, a2, ni, b1, e_120, e_x6]
    exact inv_cd _ h'
