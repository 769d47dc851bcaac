/-! PURE: close, one place -/
theorem lp_toC {g : Nat → Nat → Nat → Int32} {N : Nat → Nat} {c j : Nat} (hz : N (3 + c) ≤ 20) (hj : j < N (3 + c)) : ∀ (d q n : Nat), q + d = 6 → kS_isPlaceTold_2 kS_isPlaceTold_2x (n + d + 1) c (nI j) (nI q) g N ∧ ((fS_isPlaceTold_2 fS_isPlaceTold_2x (n + d + 1) c (nI j) (nI q) g N = 1 ∧ ∃ r, r < 6 ∧ g 12 c (6 * j + r) ≠ -1) ∨ (fS_isPlaceTold_2 fS_isPlaceTold_2x (n + d + 1) c (nI j) (nI q) g N = 0 ∧ ∀ r, q ≤ r → r < 6 → g 12 c (6 * j + r) = -1)) := by
  intro d
  induction d with
  | zero =>
    intro q n hq
    have h1 : 6 ≤ nI q := (nI_leI (a := 6) (by decide) (by omega)).mpr (by omega)
    refine ⟨?_, Or.inr ⟨?_, fun r _ _ => by omega⟩⟩
    · simp [kS_isPlaceTold_2, kS_isPlaceTold_2x, h1]
    · simp [fS_isPlaceTold_2, fS_isPlaceTold_2x, h1]
  | succ d ih =>
    intro q n hq
    have h1 : ¬ 6 ≤ nI q := fun h => absurd ((nI_leI (a := 6) (by decide) (by omega)).mp h) (by omega)
    have vl := vin (j := 6 * j + q) (n := 6 * N (3 + c)) (by omega) (by omega)
    have el := nI_clamp (n := 6 * j + q) (by omega)
    have I0 := ih (q + 1) n (by omega)
    rw [show n + (d + 1) + 1 = (n + d + 1) + 1 by omega]
    generalize n + d + 1 = f9 at I0 ⊢
    obtain ⟨k0, a0⟩ := I0
    by_cases b : g 12 c (6 * j + q) = -1
    · have e2 : fS_isPlaceTold_2 fS_isPlaceTold_2x (f9 + 1) c (nI j) (nI q) g N = fS_isPlaceTold_2 fS_isPlaceTold_2x f9 c (nI j) (nI (q + 1)) g N := by
        simp [fS_isPlaceTold_2, h1, e_x6, el, b, nI_1]
      rw [e2]
      refine ⟨?_, ?_⟩
      · simpa [kS_isPlaceTold_2, h1, e_x6, el, vl, b, nI_1] using k0
      · rcases a0 with a | ⟨a, c1⟩
        · exact Or.inl a
        · refine Or.inr ⟨a, fun r r1 r2 => ?_⟩
          by_cases e : r = q
          · subst e; exact b
          · exact c1 r (by omega) r2
    · refine ⟨?_, Or.inl ⟨?_, q, by omega, b⟩⟩
      · simp [kS_isPlaceTold_2, h1, e_x6, el, vl, b]
      · simp [fS_isPlaceTold_2, h1, e_x6, el, b]
theorem to_C {g : Nat → Nat → Nat → Int32} {N : Nat → Nat} {c j : Nat} (hz : N (3 + c) ≤ 20) (hj : j < N (3 + c)) : kS_isPlaceTold c (nI j) g N ∧ ((fS_isPlaceTold c (nI j) g N = 1 ∧ toP (g 12 c) j) ∨ (fS_isPlaceTold c (nI j) g N = 0 ∧ ¬ toP (g 12 c) j)) := by
  obtain ⟨h1, h2⟩ := lp_toC (g := g) hz hj 6 0 193 (by omega)
  refine ⟨h1, ?_⟩
  rcases h2 with h2 | ⟨a, b⟩
  · exact Or.inl h2
  · exact Or.inr ⟨a, fun ⟨r, r1, r2⟩ => r2 (b r (by omega) r1)⟩
def ad2 (g : Nat → Nat → Nat → Int32) (c : Nat) (v : Int32) (D : Nat → Int32) : Nat → Nat → Nat → Int32 := fun k => if k = 8 then (fun i => if i = c then upd (g 8 c) 0 v else g 8 i) else if k = 16 then (fun i => if i = c then D else g 16 i) else g k
theorem ad2_ne {g : Nat → Nat → Nat → Int32} {c k : Nat} {v : Int32} {D : Nat → Int32} (h : k ≠ 8) (h2 : k ≠ 16) : ad2 g c v D k = g k := by
  unfold ad2
  rw [if_neg h, if_neg h2]
theorem ad2_8 {g : Nat → Nat → Nat → Int32} {c : Nat} {v : Int32} {D : Nat → Int32} : ad2 g c v D 8 c = upd (g 8 c) 0 v := by simp [ad2]
theorem ad2_8n {g : Nat → Nat → Nat → Int32} {c a : Nat} {v : Int32} {D : Nat → Int32} (h : a ≠ c) : ad2 g c v D 8 a = g 8 a := by simp [ad2, h]
theorem ad2_16 {g : Nat → Nat → Nat → Int32} {c : Nat} {v : Int32} {D : Nat → Int32} : ad2 g c v D 16 c = D := by simp [ad2]
theorem ad2_16n {g : Nat → Nat → Nat → Int32} {c a : Nat} {v : Int32} {D : Nat → Int32} (h : a ≠ c) : ad2 g c v D 16 a = g 16 a := by simp [ad2, h]
theorem ad2_0 {g : Nat → Nat → Nat → Int32} {c : Nat} : ad2 g c (g 8 c 0) (g 16 c) = g := by
  funext k
  by_cases h : k = 8
  · subst h
    funext i
    by_cases e : i = c
    · subst e
      rw [ad2_8]
      funext x
      by_cases e2 : x = 0
      · subst e2; rw [pk_us]
      · rw [pk_un e2]
    · rw [ad2_8n e]
  · by_cases h2 : k = 16
    · subst h2
      funext i
      by_cases e : i = c
      · subst e; rw [ad2_16]
      · rw [ad2_16n e]
    · rw [ad2_ne h h2]
theorem ad2_u {g : Nat → Nat → Nat → Int32} {c m : Nat} {v w x : Int32} {D : Nat → Int32} : u3 (u3 (ad2 g c w D) 16 c m x) 8 c 0 v = ad2 g c v (upd D m x) := by
  funext k
  by_cases h : k = 8
  · subst h
    funext i
    by_cases e : i = c
    · subst e
      rw [u3_s, u3_ne (by decide), ad2_8, ad2_8]
      funext y
      by_cases e2 : y = 0
      · subst e2; rw [pk_us, pk_us]
      · rw [pk_un e2, pk_un e2, pk_un e2]
    · rw [u3_r e, u3_ne (by decide), ad2_8n e, ad2_8n e]
  · rw [u3_ne h]
    by_cases h2 : k = 16
    · subst h2
      funext i
      by_cases e : i = c
      · subst e; rw [u3_s, ad2_16, ad2_16]
      · rw [u3_r e, ad2_16n e, ad2_16n e]
    · rw [u3_ne h2, ad2_ne h h2, ad2_ne h h2]
theorem lp_cp {g : Nat → Nat → Nat → Int32} {N : Nat → Nat} {μ : Nat → Nat → Int32} {c j p t : Nat} {sf ak co : Nat → Int32} (hc : c < 20) (hz : N (3 + c) ≤ 20) (hL : iL (N (3 + c)) (g 10 c) (g 11 c) (g 12 c) sf ak co (fun l => μ 21 (120 * (c + 1) + l)) (fun l => μ 22 (120 * (c + 1) + l)) (fun l => μ 23 (120 * (c + 1) + l)) (fun l => μ 24 (120 * (c + 1) + l)) (fun l => μ 25 (120 * (c + 1) + l))) (hj : j < N (3 + c)) (hp : p < 20) (ht : t ≤ 2) (e1 : g 5 p 0 = nI t) (e2 : μ 4 p = nI t) (e3 : g 2 0 t = μ 8 t) (htd : toP (g 12 c) j) : ∀ (d q n : Nat) (b : Int32) (D : Nat → Int32), q + d = 6 → (b = 0 ∨ b = 1) → (∀ i l, (dfL (g 10 c) (g 11 c) (g 12 c) 0 (6 * j + q))[i]? = some l → D i = nI l) → ∃ (b' : Int32) (D' : Nat → Int32), (b' = 0 ∨ b' = 1) ∧ (∀ i l, (dfL (g 10 c) (g 11 c) (g 12 c) 0 (6 * j + 6))[i]? = some l → D' i = nI l) ∧ kC_countPlace_6 kC_countPlace_6x (n + d + 1) c (nI j) p b (nI q) (ad2 g c (nI (dfL (g 10 c) (g 11 c) (g 12 c) 0 (6 * j + q)).length) D) N ∧ fC_countPlace_6 fC_countPlace_6x (n + d + 1) c (nI j) p b (nI q) (ad2 g c (nI (dfL (g 10 c) (g 11 c) (g 12 c) 0 (6 * j + q)).length) D) N = fC_countPlace_6x c (nI j) p b' 6 (ad2 g c (nI (dfL (g 10 c) (g 11 c) (g 12 c) 0 (6 * j + 6)).length) D') N ∧ kM_closePlace_28 kM_closePlace_28x (n + d + 1) (nI (c + 1)) (nI j) (nI p) b (nI q) μ ∧ fM_closePlace_28 fM_closePlace_28x (n + d + 1) (nI (c + 1)) (nI j) (nI p) b (nI q) μ = fM_closePlace_28x (nI (c + 1)) (nI j) (nI p) b' 6 μ := by
  have ep := nI_clamp (n := p) (by omega)
  have vp := vin (j := p) (n := 20) (by omega) (by decide)
  have et := nI_clamp (n := t) (by omega)
  have vt := vin (j := t) (n := 3) (by omega) (by decide)
  intro d
  induction d with
  | zero =>
    intro q n b D hq hb hD
    have e : q = 6 := by omega
    subst e
    have h1 : (6 : Int32) ≤ nI 6 := by decide
    refine ⟨b, D, hb, hD, ?_, ?_, ?_, ?_⟩
    · rcases hb with rfl | rfl
      · simp [kC_countPlace_6, kC_countPlace_6x, h1]
      · simp [kC_countPlace_6, kC_countPlace_6x, h1]
    · simp only [fC_countPlace_6, if_pos h1]; rfl
    · rcases hb with rfl | rfl
      · simp [kM_closePlace_28, kM_closePlace_28x, h1, vp]
      · simp [kM_closePlace_28, kM_closePlace_28x, h1, vp]
    · simp only [fM_closePlace_28, if_pos h1]; rfl
  | succ d ih =>
    intro q n b D hq hb hD
    have h1 : ¬ 6 ≤ nI q := fun h => absurd ((nI_leI (a := 6) (by decide) (by omega)).mp h) (by omega)
    obtain ⟨kc, fc⟩ := ct_M hc hz hL (l := 6 * j + q) (by omega)
    obtain ⟨⟨w, hw, w1, w2⟩, ⟨f, s, v, _, _, hv, _, _, _, _, t4, _, _⟩, _⟩ := hL (6 * j + q) (by omega)
    have w2' : μ 21 (120 * (c + 1) + (6 * j + q)) = nI w := w2
    have vL := vin (j := 120 * (c + 1) + (6 * j + q)) (n := 2520) (by omega) (by decide)
    have eL := nI_clamp (n := 120 * (c + 1) + (6 * j + q)) (by omega)
    have vl := vin (j := 6 * j + q) (n := 6 * N (3 + c)) (by omega) (by omega)
    have el := nI_clamp (n := 6 * j + q) (by omega)
    have fa := far_abs (v := v) (w := w) (by omega) (by omega)
    have kf : ∀ a b, kM_far a b := fun a b => ⟨fun _ => trivial, fun _ => trivial⟩
    have hlen := dl_len (nt := g 10 c) (pc := g 11 c) (ff := g 12 c) (s := 0) (m := 6 * j + q)
    -- what the loops see
    have G11 : ∀ v D, ad2 g c v D 11 = g 11 := fun _ _ => ad2_ne (by decide) (by decide)
    have G10 : ∀ v D, ad2 g c v D 10 = g 10 := fun _ _ => ad2_ne (by decide) (by decide)
    have G2 : ∀ v D, ad2 g c v D 2 = g 2 := fun _ _ => ad2_ne (by decide) (by decide)
    have G5 : ∀ v D, ad2 g c v D 5 = g 5 := fun _ _ => ad2_ne (by decide) (by decide)
    have G8 : ∀ v D, ad2 g c v D 8 c 0 = v := fun _ _ => by rw [ad2_8, pk_us]
    have kd : ∀ v D, kS_differenceOf c (nI (6 * j + q)) (ad2 g c v D) N := fun _ _ => ⟨vl, vl, trivial⟩
    have fd : ∀ u D, fS_differenceOf c (nI (6 * j + q)) (ad2 g c u D) N = nI v - nI w := fun u D => by
      unfold fS_differenceOf
      rw [G11, G10, el, t4, w1]
    have ft : ∀ u D, fC_isTolerated (nI v - nI w) p (ad2 g c u D) N = if μ 8 t < fM_far (nI v) (nI w) then 0 else 1 := fun u D => by
      unfold fC_isTolerated
      rw [G2, G5, e1, et, e3, fa]
    have kt : ∀ u D, kC_isTolerated (nI v - nI w) p (ad2 g c u D) N := fun u D => by
      unfold kC_isTolerated
      rw [G5, e1]
      exact ⟨vt, fun _ => trivial, fun _ => trivial⟩
    have h6 : ¬ nI (6 * N (3 + c)) ≤ nI (dfL (g 10 c) (g 11 c) (g 12 c) 0 (6 * j + q)).length := fun h => absurd ((nI_leI (by omega) (by omega)).mp h) (by omega)
    have vm := vin (j := (dfL (g 10 c) (g 11 c) (g 12 c) 0 (6 * j + q)).length) (n := 6 * N (3 + c)) (by omega) (by omega)
    have em := nI_clamp (n := (dfL (g 10 c) (g 11 c) (g 12 c) 0 (6 * j + q)).length) (by omega)
    have ka : kS_addDifference c (nI (6 * j + q)) (ad2 g c (nI (dfL (g 10 c) (g 11 c) (g 12 c) 0 (6 * j + q)).length) D) N := by
      unfold kS_addDifference
      rw [G8]
      exact ⟨fun _ => trivial, fun _ => ⟨vm, trivial⟩⟩
    have fad : fS_addDifference c (nI (6 * j + q)) (ad2 g c (nI (dfL (g 10 c) (g 11 c) (g 12 c) 0 (6 * j + q)).length) D) N = ad2 g c (nI ((dfL (g 10 c) (g 11 c) (g 12 c) 0 (6 * j + q)).length + 1)) (upd D (dfL (g 10 c) (g 11 c) (g 12 c) 0 (6 * j + q)).length (nI (6 * j + q))) := by
      unfold fS_addDifference
      rw [G8, if_neg h6, em, nI_1, ad2_u]
    have hd9 : toP (g 12 c) ((6 * j + q) / 6) := by rw [show (6 * j + q) / 6 = j by omega]; exact htd
    rw [show n + (d + 1) + 1 = (n + d + 1) + 1 by omega]
    by_cases z0 : v = w
    · have y0 : nI v - nI w = 0 := by rw [z0, Int32.sub_self]
      have dn : ¬ dfP (g 10 c) (g 11 c) (g 12 c) (6 * j + q) := fun h => h.2 (by rw [t4, w1, z0])
      have edl := dl_cn dn
      have I := fun b hb => ih (q + 1) n b D (by omega) hb (by rw [show 6 * j + (q + 1) = 6 * j + q + 1 by omega, edl]; exact hD)
      rw [show 6 * j + (q + 1) = 6 * j + q + 1 by omega, edl] at I
      generalize n + d + 1 = f9 at I ⊢
      have step : ∀ b1 : Int32, (b1 = 0 ∨ b1 = 1) → (b = 0 ∧ b1 = 0 ∨ b = 1 ∧ μ 8 t < fM_far (nI v) (nI w) ∧ b1 = 0 ∨ b = 1 ∧ ¬ μ 8 t < fM_far (nI v) (nI w) ∧ b1 = 1) → ∃ (b' : Int32) (D' : Nat → Int32), (b' = 0 ∨ b' = 1) ∧ (∀ i l, (dfL (g 10 c) (g 11 c) (g 12 c) 0 (6 * j + 6))[i]? = some l → D' i = nI l) ∧ kC_countPlace_6 kC_countPlace_6x (f9 + 1) c (nI j) p b (nI q) (ad2 g c (nI (dfL (g 10 c) (g 11 c) (g 12 c) 0 (6 * j + q)).length) D) N ∧ fC_countPlace_6 fC_countPlace_6x (f9 + 1) c (nI j) p b (nI q) (ad2 g c (nI (dfL (g 10 c) (g 11 c) (g 12 c) 0 (6 * j + q)).length) D) N = fC_countPlace_6x c (nI j) p b' 6 (ad2 g c (nI (dfL (g 10 c) (g 11 c) (g 12 c) 0 (6 * j + 6)).length) D') N ∧ kM_closePlace_28 kM_closePlace_28x (f9 + 1) (nI (c + 1)) (nI j) (nI p) b (nI q) μ ∧ fM_closePlace_28 fM_closePlace_28x (f9 + 1) (nI (c + 1)) (nI j) (nI p) b (nI q) μ = fM_closePlace_28x (nI (c + 1)) (nI j) (nI p) b' 6 μ := by
        intro b1 hb1 hcase
        obtain ⟨b', D', i1, i2, i3, i4, i5, i6⟩ := I b1 hb1
        have ft' := ft (nI (dfL (g 10 c) (g 11 c) (g 12 c) 0 (6 * j + q)).length) D
        have kt' := kt (nI (dfL (g 10 c) (g 11 c) (g 12 c) 0 (6 * j + q)).length) D
        rw [y0] at ft' kt'
        refine ⟨b', D', i1, i2, ?_⟩
        rcases hcase with ⟨rfl, rfl⟩ | ⟨rfl, c1, rfl⟩ | ⟨rfl, c1, rfl⟩
        · refine ⟨?_, ?_, ?_, ?_⟩
          · simpa [kC_countPlace_6, h1, e_x6, kd, fd, y0, nI_1] using i3
          · rw [← i4]; simp [fC_countPlace_6, h1, e_x6, fd, y0, nI_1]
          · simpa [kM_closePlace_28, h1, nI_1] using i5
          · rw [← i6]; simp [fM_closePlace_28, h1, nI_1]
        · rw [if_pos c1] at ft'
          refine ⟨?_, ?_, ?_, ?_⟩
          · simpa [kC_countPlace_6, h1, e_x6, kd, fd, y0, ft', kt', nI_1] using i3
          · rw [← i4]; simp [fC_countPlace_6, h1, e_x6, fd, y0, ft', nI_1]
          · simpa [kM_closePlace_28, h1, e_120, kc, fc, eL, vL, kf, vp, ep, e2, et, vt, t4, w2', c1, nI_1] using i5
          · rw [← i6]; simp [fM_closePlace_28, h1, e_120, fc, eL, ep, e2, et, t4, w2', c1, nI_1]
        · rw [if_neg c1] at ft'
          refine ⟨?_, ?_, ?_, ?_⟩
          · simpa [kC_countPlace_6, h1, e_x6, kd, fd, y0, ft', kt', nI_1] using i3
          · rw [← i4]; simp [fC_countPlace_6, h1, e_x6, fd, y0, ft', nI_1]
          · simpa [kM_closePlace_28, h1, e_120, kc, fc, eL, vL, kf, vp, ep, e2, et, vt, t4, w2', c1, nI_1] using i5
          · rw [← i6]; simp [fM_closePlace_28, h1, e_120, fc, eL, ep, e2, et, t4, w2', c1, nI_1]
      rcases hb with rfl | rfl
      · exact step 0 (Or.inl rfl) (Or.inl ⟨rfl, rfl⟩)
      · by_cases c1 : μ 8 t < fM_far (nI v) (nI w)
        · exact step 0 (Or.inl rfl) (Or.inr (Or.inl ⟨rfl, c1, rfl⟩))
        · exact step 1 (Or.inr rfl) (Or.inr (Or.inr ⟨rfl, c1, rfl⟩))
    · have y0 : ¬ nI v - nI w = 0 := fun h => by
        have := pk_sub_toInt (a := v) (b := w) (by omega) (by omega)
        rw [h, show (0 : Int32).toInt = 0 by decide] at this
        omega
      have dy : dfP (g 10 c) (g 11 c) (g 12 c) (6 * j + q) := ⟨hd9, by
        rw [t4, w1]
        exact fun h => z0 ((nI_eq (by omega) (by omega)).mp h)⟩
      have edl := dl_cy dy
      have I := fun b hb => ih (q + 1) n b (upd D (dfL (g 10 c) (g 11 c) (g 12 c) 0 (6 * j + q)).length (nI (6 * j + q))) (by omega) hb (by
        rw [show 6 * j + (q + 1) = 6 * j + q + 1 by omega, edl]
        intro i l hi
        by_cases e : i < (dfL (g 10 c) (g 11 c) (g 12 c) 0 (6 * j + q)).length
        · rw [List.getElem?_append_left e] at hi
          rw [pk_un (by omega)]
          exact hD i l hi
        · rw [List.getElem?_append_right (by omega)] at hi
          by_cases e2 : i = (dfL (g 10 c) (g 11 c) (g 12 c) 0 (6 * j + q)).length
          · subst e2
            rw [Nat.sub_self] at hi
            have : 6 * j + q = l := by simpa using hi
            rw [pk_us, this]
          · rw [List.getElem?_eq_none (by simp only [List.length_singleton]; omega)] at hi
            exact absurd hi (by simp))
      rw [show 6 * j + (q + 1) = 6 * j + q + 1 by omega, edl, List.length_append, List.length_singleton, ← fad] at I
      generalize n + d + 1 = f9 at I ⊢
      have step : ∀ b1 : Int32, (b1 = 0 ∨ b1 = 1) → (b = 0 ∧ b1 = 0 ∨ b = 1 ∧ μ 8 t < fM_far (nI v) (nI w) ∧ b1 = 0 ∨ b = 1 ∧ ¬ μ 8 t < fM_far (nI v) (nI w) ∧ b1 = 1) → ∃ (b' : Int32) (D' : Nat → Int32), (b' = 0 ∨ b' = 1) ∧ (∀ i l, (dfL (g 10 c) (g 11 c) (g 12 c) 0 (6 * j + 6))[i]? = some l → D' i = nI l) ∧ kC_countPlace_6 kC_countPlace_6x (f9 + 1) c (nI j) p b (nI q) (ad2 g c (nI (dfL (g 10 c) (g 11 c) (g 12 c) 0 (6 * j + q)).length) D) N ∧ fC_countPlace_6 fC_countPlace_6x (f9 + 1) c (nI j) p b (nI q) (ad2 g c (nI (dfL (g 10 c) (g 11 c) (g 12 c) 0 (6 * j + q)).length) D) N = fC_countPlace_6x c (nI j) p b' 6 (ad2 g c (nI (dfL (g 10 c) (g 11 c) (g 12 c) 0 (6 * j + 6)).length) D') N ∧ kM_closePlace_28 kM_closePlace_28x (f9 + 1) (nI (c + 1)) (nI j) (nI p) b (nI q) μ ∧ fM_closePlace_28 fM_closePlace_28x (f9 + 1) (nI (c + 1)) (nI j) (nI p) b (nI q) μ = fM_closePlace_28x (nI (c + 1)) (nI j) (nI p) b' 6 μ := by
        intro b1 hb1 hcase
        obtain ⟨b', D', i1, i2, i3, i4, i5, i6⟩ := I b1 hb1
        have ft' : fC_isTolerated (nI v - nI w) p (fS_addDifference c (nI (6 * j + q)) (ad2 g c (nI (dfL (g 10 c) (g 11 c) (g 12 c) 0 (6 * j + q)).length) D) N) N = if μ 8 t < fM_far (nI v) (nI w) then 0 else 1 := by rw [fad]; exact ft _ _
        have kt' : kC_isTolerated (nI v - nI w) p (fS_addDifference c (nI (6 * j + q)) (ad2 g c (nI (dfL (g 10 c) (g 11 c) (g 12 c) 0 (6 * j + q)).length) D) N) N := by rw [fad]; exact kt _ _
        refine ⟨b', D', i1, i2, ?_⟩
        rcases hcase with ⟨rfl, rfl⟩ | ⟨rfl, c1, rfl⟩ | ⟨rfl, c1, rfl⟩
        · refine ⟨?_, ?_, ?_, ?_⟩
          · simpa [kC_countPlace_6, h1, e_x6, kd, fd, y0, ka, nI_1] using i3
          · rw [← i4]; simp [fC_countPlace_6, h1, e_x6, fd, y0, nI_1]
          · simpa [kM_closePlace_28, h1, nI_1] using i5
          · rw [← i6]; simp [fM_closePlace_28, h1, nI_1]
        · rw [if_pos c1] at ft'
          refine ⟨?_, ?_, ?_, ?_⟩
          · simpa [kC_countPlace_6, h1, e_x6, kd, fd, y0, ka, ft', kt', nI_1] using i3
          · rw [← i4]; simp [fC_countPlace_6, h1, e_x6, fd, y0, ft', nI_1]
          · simpa [kM_closePlace_28, h1, e_120, kc, fc, eL, vL, kf, vp, ep, e2, et, vt, t4, w2', c1, nI_1] using i5
          · rw [← i6]; simp [fM_closePlace_28, h1, e_120, fc, eL, ep, e2, et, t4, w2', c1, nI_1]
        · rw [if_neg c1] at ft'
          refine ⟨?_, ?_, ?_, ?_⟩
          · simpa [kC_countPlace_6, h1, e_x6, kd, fd, y0, ka, ft', kt', nI_1] using i3
          · rw [← i4]; simp [fC_countPlace_6, h1, e_x6, fd, y0, ft', nI_1]
          · simpa [kM_closePlace_28, h1, e_120, kc, fc, eL, vL, kf, vp, ep, e2, et, vt, t4, w2', c1, nI_1] using i5
          · rw [← i6]; simp [fM_closePlace_28, h1, e_120, fc, eL, ep, e2, et, t4, w2', c1, nI_1]
      rcases hb with rfl | rfl
      · exact step 0 (Or.inl rfl) (Or.inl ⟨rfl, rfl⟩)
      · by_cases c1 : μ 8 t < fM_far (nI v) (nI w)
        · exact step 0 (Or.inl rfl) (Or.inr (Or.inl ⟨rfl, c1, rfl⟩))
        · exact step 1 (Or.inr rfl) (Or.inr (Or.inr ⟨rfl, c1, rfl⟩))
