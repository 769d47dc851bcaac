/-! PURE: freeze, the loops -/
def hvF (c z N0 N1 : Nat) (t : Nat → Nat → Int32) (μ : Nat → Nat → Int32) (vl : Nat → Nat) : Prop := ∀ j, j < z → ∃ p : Nat, p < N0 ∧ μ 20 (20 * (c + 1) + j) = nI p ∧ ∀ r, r < 6 → ∃ b : Nat, μ 6 (6 * p + r) = nI b ∧ ((μ 2 0 = 1 ∧ vl (6 * j + r) = b + cm t (nI p) r N1) ∨ (μ 2 0 = 0 ∧ vl (6 * j + r) = b))
theorem lp_117 {O E : Int32 → Int32 → (Nat → Nat → Int32) → Int32 × (Nat → Nat → Int32)} {KO KE : Int32 → Int32 → (Nat → Nat → Int32) → Prop} {c z N0 N1 j : Nat} {t : Nat → Nat → Int32} {μ : Nat → Nat → Int32} {vl : Nat → Nat} (hc : c < 20) (hz : z ≤ 20) (hN0 : N0 ≤ 20) (hN : N1 ≤ 60) (r1 : μ 10 0 = nI N1) (hM : iM N0 N1 t (μ 11) (μ 12) (μ 13) (μ 14) (μ 15)) (hv : hvF c z N0 N1 t μ vl) (hj : j < z) : ∀ (d q n : Nat) (F : Nat → Int32), q + d = 6 → ∃ F' : Nat → Int32, (∀ x, (x < 120 * (c + 1) + (6 * j + q) ∨ 120 * (c + 1) + (6 * j + 6) ≤ x) → F' x = F x) ∧ (∀ r, q ≤ r → r < 6 → F' (120 * (c + 1) + (6 * j + r)) = nI (vl (6 * j + r))) ∧ (KO (nI (c + 1)) (nI (j + 1)) (um μ F') → kM_freeze_117 KO KE (kM_freeze_117x KO KE) (n + d + 1) (nI (c + 1)) (nI j) (nI q) (um μ F)) ∧ fM_freeze_117 O E (fM_freeze_117x O E) (n + d + 1) (nI (c + 1)) (nI j) (nI q) (um μ F) = O (nI (c + 1)) (nI (j + 1)) (um μ F') := by
  obtain ⟨p, hp, ep, hb⟩ := hv j hj
  have c1 := nI_clamp (n := 20 * (c + 1) + j) (by omega)
  have v1 := vin (j := 20 * (c + 1) + j) (n := 420) (by omega) (by decide)
  intro d
  induction d with
  | zero =>
    intro q n F hq
    have h1 : 6 ≤ nI q := (nI_leI (a := 6) (by decide) (by omega)).mpr (by omega)
    refine ⟨F, fun _ _ => rfl, fun r _ _ => by omega, ?_, ?_⟩
    · intro h
      simpa [kM_freeze_117, kM_freeze_117x, h1, nI_1] using h
    · simp [fM_freeze_117, fM_freeze_117x, h1, nI_1]
  | succ d ih =>
    intro q n F hq
    have h1 : ¬ 6 ≤ nI q := fun h => absurd ((nI_leI (a := 6) (by decide) (by omega)).mp h) (by omega)
    obtain ⟨b, eb, hb2⟩ := hb q (by omega)
    have c2 := nI_clamp (n := 6 * p + q) (by omega)
    have v2 := vin (j := 6 * p + q) (n := 120) (by omega) (by decide)
    have c3 := nI_clamp (n := 120 * (c + 1) + (6 * j + q)) (by omega)
    have v3 := vin (j := 120 * (c + 1) + (6 * j + q)) (n := 2520) (by omega) (by decide)
    obtain ⟨k1, f1⟩ := co_M (μ := um μ F) (nI p) q hN r1 hM
    obtain ⟨F', w1, w2, w3, w4⟩ := ih (q + 1) n (upd F (120 * (c + 1) + (6 * j + q)) (nI (vl (6 * j + q)))) (by omega)
    rw [show n + (d + 1) + 1 = (n + d + 1) + 1 by omega]
    generalize n + d + 1 = f at w3 w4 ⊢
    refine ⟨F', fun x hx => ?_, fun r hr hr2 => ?_, ?_⟩
    · rw [w1 x (by omega), pk_un (by omega)]
    · by_cases e : r = q
      · subst e
        rw [w1 _ (by omega), pk_us]
      · exact w2 r (by omega) hr2
    · rcases hb2 with ⟨o1, o2⟩ | ⟨o1, o2⟩
      · rw [← um_u, o2] at w3 w4
        refine ⟨fun h => ?_, ?_⟩
        · have := w3 h
          simpa [kM_freeze_117, h1, e_20, e_6, e_120, um_ne, ep, eb, o1, c1, c2, c3, v1, v2, v3, k1, f1, nI_add, nI_1] using this
        · simpa [fM_freeze_117, h1, e_20, e_6, e_120, um_ne, ep, eb, o1, c1, c2, c3, f1, nI_add, nI_1] using w4
      · rw [← um_u, o2] at w3 w4
        refine ⟨fun h => ?_, ?_⟩
        · have := w3 h
          simpa [kM_freeze_117, h1, e_20, e_6, e_120, um_ne, ep, eb, o1, c1, c2, c3, v1, v2, v3, nI_1] using this
        · simpa [fM_freeze_117, h1, e_20, e_6, e_120, um_ne, ep, eb, o1, c1, c2, c3, nI_1] using w4
theorem lp_105 {c z N0 N1 : Nat} {t : Nat → Nat → Int32} {μ : Nat → Nat → Int32} {vl : Nat → Nat} (hc : c < 20) (hz : z ≤ 20) (r18 : μ 18 (c + 1) = nI z) (hN0 : N0 ≤ 20) (hN : N1 ≤ 60) (r1 : μ 10 0 = nI N1) (hM : iM N0 N1 t (μ 11) (μ 12) (μ 13) (μ 14) (μ 15)) (hv : hvF c z N0 N1 t μ vl) : ∀ (d j n : Nat) (F : Nat → Int32), j + d = z → ∃ F' : Nat → Int32, (∀ x, (x < 120 * (c + 1) + 6 * j ∨ 120 * (c + 1) + 6 * z ≤ x) → F' x = F x) ∧ (∀ l, 6 * j ≤ l → l < 6 * z → F' (120 * (c + 1) + l) = nI (vl l)) ∧ kM_freeze_105 kM_freeze_105x (n + d + 1) (nI (c + 1)) (nI j) (um μ F) ∧ fM_freeze_105 fM_freeze_105x (n + d + 1) (nI (c + 1)) (nI j) (um μ F) = (nI z, um μ F') := by
  have c1 := nI_clamp (n := c + 1) (by omega)
  have v1 := vin (j := c + 1) (n := 21) (by omega) (by decide)
  intro d
  induction d with
  | zero =>
    intro j n F hj
    have h1 : nI z ≤ nI j := (nI_leI (by omega) (by omega)).mpr (by omega)
    refine ⟨F, fun _ _ => rfl, fun l _ _ => by omega, ?_, ?_⟩
    · simp [kM_freeze_105, kM_freeze_105x, um_ne, c1, v1, r18, h1]
    · simp [fM_freeze_105, fM_freeze_105x, um_ne, c1, r18, h1]
  | succ d ih =>
    intro j n F hj
    have h1 : ¬ nI z ≤ nI j := fun h => absurd ((nI_leI (by omega) (by omega)).mp h) (by omega)
    obtain ⟨F1, a1, a2, a3, a4⟩ := lp_117 (O := fM_freeze_105 fM_freeze_105x (n + d + 1)) (E := fM_freeze_105x) (KO := kM_freeze_105 kM_freeze_105x (n + d + 1)) (KE := kM_freeze_105x) hc hz hN0 hN r1 hM hv (j := j) (by omega) 6 0 193 F (by omega)
    obtain ⟨F', w1, w2, w3, w4⟩ := ih (j + 1) n F1 (by omega)
    rw [show n + (d + 1) + 1 = (n + d + 1) + 1 by omega]
    generalize n + d + 1 = f at a3 a4 w3 w4 ⊢
    have a3' := a3 w3
    rw [w4] at a4
    refine ⟨F', fun x hx => ?_, fun l hl hl2 => ?_, ?_, ?_⟩
    · rw [w1 x (by omega), a1 x (by omega)]
    · by_cases e : l < 6 * (j + 1)
      · rw [w1 _ (by omega)]
        have := a2 (l - 6 * j) (by omega) (by omega)
        rw [show 6 * j + (l - 6 * j) = l by omega] at this
        exact this
      · exact w2 l (by omega) hl2
    · have e0 : um μ F 18 (c + 1) = nI z := r18
      refine ⟨v1, ?_, ?_⟩
      · intro h; rw [c1, e0] at h; exact absurd h h1
      · intro _; exact a3'
    · have e0 : um μ F 18 (c + 1) = nI z := r18
      show (if um μ F 18 (nI (c + 1)).toNatClampNeg ≤ nI j then _ else _) = _
      rw [c1, e0, if_neg h1]
      exact a4
/-- the class waits, the reference looks -/
theorem lp_has {E : Int32 → Int32 → (Nat → Nat → Int32) → Int32 × (Nat → Nat → Int32)} {KE : Int32 → Int32 → (Nat → Nat → Int32) → Prop} {g : Nat → Nat → Nat → Int32} {N : Nat → Nat} {μ : Nat → Nat → Int32} {c : Nat} (hc : c < 20) (hz : N (3 + c) ≤ 20) (r18 : μ 18 (c + 1) = nI (N (3 + c))) (hN : N 1 ≤ 60) (s1 : g 0 0 1 = nI (N 1)) (r1 : μ 10 0 = nI (N 1)) (hM : iM (N 0) (N 1) (g 7) (μ 11) (μ 12) (μ 13) (μ 14) (μ 15)) (r2 : μ 2 0 = 0) (hm : ∀ j, j < N (3 + c) → g 9 c j = μ 20 (20 * (c + 1) + j)) (hE : ∀ x, KE (nI (c + 1)) x μ) : ∀ (d j n : Nat), j + d = N (3 + c) → kC_hasOpenMoves_2 kC_hasOpenMoves_2x (n + d + 1) c (nI j) g N ∧ kM_freeze_53 KE (n + d + 1) (nI (c + 1)) (nI j) μ ∧ ((fC_hasOpenMoves_2 fC_hasOpenMoves_2x (n + d + 1) c (nI j) g N = 1 ∧ fM_freeze_53 E (n + d + 1) (nI (c + 1)) (nI j) μ = (0, μ)) ∨ (fC_hasOpenMoves_2 fC_hasOpenMoves_2x (n + d + 1) c (nI j) g N = 0 ∧ fM_freeze_53 E (n + d + 1) (nI (c + 1)) (nI j) μ = E (nI (c + 1)) (nI (N (3 + c))) μ ∧ ∀ i, j ≤ i → i < N (3 + c) → ∀ m, m < N 1 → g 7 m 4 ≠ 0 → g 7 m 1 ≠ g 9 c i)) := by
  have c1 := nI_clamp (n := c + 1) (by omega)
  have v1 := vin (j := c + 1) (n := 21) (by omega) (by decide)
  intro d
  induction d with
  | zero =>
    intro j n hj
    have h1 : nI (N (3 + c)) ≤ nI j := (nI_leI (by omega) (by omega)).mpr (by omega)
    have e : j = N (3 + c) := by omega
    subst e
    refine ⟨?_, ?_, Or.inr ⟨?_, ?_, fun i _ _ => by omega⟩⟩
    · simp [kC_hasOpenMoves_2, kC_hasOpenMoves_2x, h1]
    · simp [kM_freeze_53, c1, v1, r18, h1, hE]
    · simp [fC_hasOpenMoves_2, fC_hasOpenMoves_2x, h1]
    · simp [fM_freeze_53, c1, r18, h1]
  | succ d ih =>
    intro j n hj
    have h1 : ¬ nI (N (3 + c)) ≤ nI j := fun h => absurd ((nI_leI (by omega) (by omega)).mp h) (by omega)
    have c2 := nI_clamp (n := 20 * (c + 1) + j) (by omega)
    have v2 := vin (j := 20 * (c + 1) + j) (n := 420) (by omega) (by decide)
    have c3 := nI_clamp (n := j) (by omega)
    have v3 := vin (j := j) (n := N (3 + c)) (by omega) (by omega)
    have em := hm j (by omega)
    obtain ⟨k1, k2, f1⟩ := op_at (g := g) (N := N) (μ := μ) (g 9 c j) hN s1 r1 hM
    have I0 := ih (j + 1) n (by omega)
    rw [show n + (d + 1) + 1 = (n + d + 1) + 1 by omega]
    generalize n + d + 1 = f at I0 ⊢
    obtain ⟨i1, i2, i3⟩ := I0
    rw [em] at k1 k2 f1
    by_cases b : fM_openAt (μ 20 (20 * (c + 1) + j)) μ ≤ 0
    · refine ⟨?_, ?_, ?_⟩
      · simpa [kC_hasOpenMoves_2, h1, c3, v3, em, k1, f1, b, nI_1] using i1
      · simpa [kM_freeze_53, h1, c1, v1, c2, v2, r18, r2, e_20, k2, b, nI_1] using i2
      · rcases i3 with ⟨a1, a2⟩ | ⟨a1, a2, a3⟩
        · left
          refine ⟨?_, ?_⟩
          · simpa [fC_hasOpenMoves_2, h1, c3, em, f1, b, nI_1] using a1
          · simpa [fM_freeze_53, h1, c1, c2, r18, r2, e_20, b, nI_1] using a2
        · right
          refine ⟨?_, ?_, fun i hi hi2 => ?_⟩
          · simpa [fC_hasOpenMoves_2, h1, c3, em, f1, b, nI_1] using a1
          · simpa [fM_freeze_53, h1, c1, c2, r18, r2, e_20, b, nI_1] using a2
          · by_cases e : i = j
            · subst e
              rw [em]
              exact at_0 hN r1 hM b
            · exact a3 i (by omega) hi2
    · refine ⟨?_, ?_, Or.inl ⟨?_, ?_⟩⟩
      · simp [kC_hasOpenMoves_2, h1, c3, v3, em, k1, f1, b]
      · simp [kM_freeze_53, h1, c1, v1, c2, v2, r18, r2, e_20, k2, b]
      · simp [fC_hasOpenMoves_2, h1, c3, em, f1, b]
      · simp [fM_freeze_53, h1, c1, c2, r18, r2, e_20, b]
theorem lp_nb2 {E : Nat → Int32 → (Nat → Nat → Nat → Int32) → (Nat → Nat) → (Nat → Nat → Nat → Int32)} {KE : Nat → Int32 → (Nat → Nat → Nat → Int32) → (Nat → Nat) → Prop} {g : Nat → Nat → Nat → Int32} {N : Nat → Nat} {c : Nat} {vb : Nat → Nat} (hz : N (3 + c) ≤ 20) (hN0 : N 0 ≤ 20) (s0 : g 0 0 0 = nI (N 0)) (hb : ∀ j, j < N (3 + c) → ∃ p : Nat, p < N 0 ∧ g 9 c j = nI p ∧ ∀ r, r < 6 → g 6 p r = nI (vb (6 * j + r))) : ∀ (d j n : Nat) (F : Nat → Int32), j + d = N (3 + c) → (∀ l, l < 6 * j → F l = nI (vb l)) → ∃ F' : Nat → Int32, (∀ l, l < 6 * N (3 + c) → F' l = nI (vb l)) ∧ (KE c (nI (N (3 + c))) (ur g 10 c F') N → kC_noteBooked_2 KE (n + d + 1) c (nI j) (ur g 10 c F) N) ∧ fC_noteBooked_2 E (n + d + 1) c (nI j) (ur g 10 c F) N = E c (nI (N (3 + c))) (ur g 10 c F') N := by
  intro d
  induction d with
  | zero =>
    intro j n F hj hF
    have h1 : nI (N (3 + c)) ≤ nI j := (nI_leI (by omega) (by omega)).mpr (by omega)
    have e : j = N (3 + c) := by omega
    subst e
    refine ⟨F, hF, fun h => ?_, ?_⟩
    · simpa [kC_noteBooked_2, h1] using h
    · simp [fC_noteBooked_2, h1]
  | succ d ih =>
    intro j n F hj hF
    have h1 : ¬ nI (N (3 + c)) ≤ nI j := fun h => absurd ((nI_leI (by omega) (by omega)).mp h) (by omega)
    have c3 := nI_clamp (n := j) (by omega)
    have v3 := vin (j := j) (n := N (3 + c)) (by omega) (by omega)
    obtain ⟨p, hp, ep, hr⟩ := hb j (by omega)
    have c4 := nI_clamp (n := p) (by omega)
    have c5 : (nI j * 6).toNatClampNeg = 6 * j := by
      rw [show (6 : Int32) = nI 6 from rfl, pk_mul, nI_clamp (by omega), Nat.mul_comm]
    have c6 : ¬ nI j * 6 < 0 := by
      rw [show (6 : Int32) = nI 6 from rfl, pk_mul]
      exact nI_pos (by omega)
    have c7 : (0 : Int32).toNatClampNeg = 0 := by decide
    have c8 : (6 : Int32).toNatClampNeg = 6 := by decide
    have p1 := pn_k (g := ur g 10 c F) hN0 s0 hp
    obtain ⟨F', w1, w2, w3⟩ := ih (j + 1) n (va_cpy (g 6 p) F 0 (6 * j) 6) (by omega) (fun l hl => by
      by_cases e : l < 6 * j
      · rw [pk_cpy_out (by omega)]; exact hF l e
      · rw [pk_cpy_in (by omega) (by omega)]
        have := hr (l - 6 * j) (by omega)
        rw [show 6 * j + (l - 6 * j) = l by omega] at this
        rw [Nat.zero_add]
        exact this)
    rw [show n + (d + 1) + 1 = (n + d + 1) + 1 by omega]
    generalize n + d + 1 = f at w2 w3 ⊢
    have e9 : ur g 10 c F 9 c j = nI p := ep
    have e6 : ur g 10 c F 6 p = g 6 p := rfl
    refine ⟨F', w1, fun h => ?_, ?_⟩
    · have := w2 h
      refine ⟨fun q => absurd q h1, fun _ => ⟨v3, ?_⟩⟩
      rw [c3, e9, c4, ur_s, ur_r, c5, c7, c8, e6, nI_1]
      rw [c4] at p1
      exact ⟨p1.1, p1.2.1, p1.2.2, by decide, c6, by decide, by omega, by omega, this⟩
    · show (if nI (N (3 + c)) ≤ nI j then _ else fC_noteBooked_2 E f c (nI j + 1) (ur (ur g 10 c F) 10 c (va_cpy (ur g 10 c F 6 (ur g 10 c F 9 c (nI j).toNatClampNeg).toNatClampNeg) (ur g 10 c F 10 c) (0 : Int32).toNatClampNeg (nI j * 6).toNatClampNeg (6 : Int32).toNatClampNeg)) N) = _
      rw [if_neg h1, c3, e9, c4, ur_s, ur_r, c5, c7, c8, e6, nI_1]
      exact w3
theorem lp_nb48 {g : Nat → Nat → Nat → Int32} {N : Nat → Nat} {μ : Nat → Nat → Int32} {c : Nat} {vb : Nat → Nat} (hc : c < 20) (hz : N (3 + c) ≤ 20) (r18 : μ 18 (c + 1) = nI (N (3 + c))) (hm : ∀ j, j < N (3 + c) → g 9 c j = μ 20 (20 * (c + 1) + j)) (hN : N 1 ≤ 60) (s1 : g 0 0 1 = nI (N 1)) (hM : iM (N 0) (N 1) (g 7) (μ 11) (μ 12) (μ 13) (μ 14) (μ 15)) (hD : ∀ i j, i < N (3 + c) → j < N (3 + c) → g 9 c i = g 9 c j → i = j) : ∀ (d i n : Nat) (F : Nat → Int32), i + d = N 1 → (∀ l, l < 6 * N (3 + c) → F l = nI (vb l + cm (g 7) (g 9 c (l / 6)) (l % 6) i)) → ∃ F' : Nat → Int32, (∀ l, l < 6 * N (3 + c) → F' l = nI (vb l + cm (g 7) (g 9 c (l / 6)) (l % 6) (N 1))) ∧ kC_noteBooked_48 kC_noteBooked_48x (n + d + 1) c (nI (i + 1)) (ur g 10 c F) N ∧ fC_noteBooked_48 fC_noteBooked_48x (n + d + 1) c (nI (i + 1)) (ur g 10 c F) N = ur g 10 c F' := by
  intro d
  induction d with
  | zero =>
    intro i n F hi hF
    have h1 : nI (N 1) < nI (i + 1) := (nI_ltI (by omega) (by omega)).mpr (by omega)
    have e : i = N 1 := by omega
    subst e
    have e0 : ur g 10 c F 0 0 1 = nI (N 1) := s1
    refine ⟨F, hF, ?_, ?_⟩
    · simp [kC_noteBooked_48, kC_noteBooked_48x, e0, h1]
    · simp [fC_noteBooked_48, fC_noteBooked_48x, e0, h1]
  | succ d ih =>
    intro i n F hi hF
    have h1 : ¬ nI (N 1) < nI (i + 1) := fun q => absurd ((nI_ltI (by omega) (by omega)).mp q) (by omega)
    have e0 : ur g 10 c F 0 0 1 = nI (N 1) := s1
    have h2 := tn_k (g := ur g 10 c F) (i := i) hN s1 (by omega)
    rw [e_s, e0] at h2
    have h3 := nI_clamp (n := i) (by omega)
    have e7 : ∀ j, ur g 10 c F 7 i j = g 7 i j := fun _ => rfl
    obtain ⟨_, ⟨w, hw, e3, _⟩, ⟨y, hy, e5, _⟩, ⟨v, hv, e8, _⟩, e9⟩ := hM.1 i (by omega)
    have h5 := nI_clamp (n := v) (by omega)
    obtain ⟨k1, _, hpos⟩ := po_c (g := ur g 10 c F) (μ := μ) (nI w) hc hz r18 hm
    have hs : ∀ x q, cm (g 7) x q (i + 1) = cm (g 7) x q i + (if g 7 i 4 = 0 then 0 else if nI w = x then if nI y = nI q then v else 0 else 0) := by
      intro x q
      show cm (g 7) x q i + (if g 7 i 4 = 0 then 0 else if g 7 i 1 = x then if g 7 i 2 = nI q then (g 7 i 3).toNatClampNeg else 0 else 0) = _
      rw [e3, e5, e8, h5]
    rw [show n + (d + 1) + 1 = (n + d + 1) + 1 by omega]
    have hi' : i < N 1 := by omega
    rcases e9 with ⟨o1, _⟩ | ⟨o1, _⟩
    · have o1' : ¬ g 7 i 4 = 0 := by rw [o1]; decide
      rcases hpos with ⟨q1, _, q3⟩ | ⟨i', hi2, q1, _, q3⟩
      · obtain ⟨F', w1, w2, w3⟩ := ih (i + 1) n F (by omega) (fun l hl => by
          rw [hs, if_neg o1', if_neg (fun e => q3 (l / 6) (by omega) e.symm)]
          exact hF l hl)
        generalize n + d + 1 = f at w2 w3 ⊢
        refine ⟨F', w1, ?_, ?_⟩
        · simpa [kC_noteBooked_48, e0, h1, h2, e_s, h3, e7, e3, o1', k1, q1, hi', nI_1] using w2
        · simpa [fC_noteBooked_48, e0, h1, e_s, h3, e7, e3, o1', q1, nI_1] using w3
      · have q3' : g 9 c i' = nI w := q3
        have ni : ¬ nI i' = -1 := fun q => by
          have := nI_pos (n := i') (by omega)
          rw [q] at this
          exact absurd (by decide) this
        have h6 := nI_clamp (n := 6 * i' + y) (by omega)
        have v6 := vin (j := 6 * i' + y) (n := 6 * N (3 + c)) (by omega) (by omega)
        have e10 : ∀ l, ur g 10 c F 10 c l = F l := fun l => by rw [ur_s]
        obtain ⟨F', w1, w2, w3⟩ := ih (i + 1) n (upd F (6 * i' + y) (F (6 * i' + y) + nI v)) (by omega) (fun l hl => by
          rw [hs, if_neg o1']
          by_cases e : l = 6 * i' + y
          · subst e
            rw [pk_us, hF _ hl, show (6 * i' + y) / 6 = i' by omega, show (6 * i' + y) % 6 = y by omega, if_pos q3'.symm, if_pos rfl, nI_add, Nat.add_assoc]
          · rw [pk_un e, hF l hl]
            by_cases e2 : nI w = g 9 c (l / 6)
            · rw [if_pos e2]
              have e3' := hD i' (l / 6) hi2 (by omega) (by rw [q3', e2])
              rw [if_neg (fun q => by
                have := (nI_eq (by omega) (by omega)).mp q
                omega)]
              rfl
            · rw [if_neg e2]
              rfl)
        generalize n + d + 1 = f at w2 w3 ⊢
        rw [← ur_u] at w2 w3
        refine ⟨F', w1, ?_, ?_⟩
        · simpa [kC_noteBooked_48, e0, h1, h2, e_s, h3, e7, e3, e5, e8, o1', k1, q1, ni, e_x6, h6, v6, e10, hi', nI_1] using w2
        · simpa [fC_noteBooked_48, e0, h1, e_s, h3, e7, e3, e5, e8, o1', q1, ni, e_x6, h6, e10, nI_1] using w3
    · obtain ⟨F', w1, w2, w3⟩ := ih (i + 1) n F (by omega) (fun l hl => by
        rw [hs, if_pos o1]
        exact hF l hl)
      generalize n + d + 1 = f at w2 w3 ⊢
      refine ⟨F', w1, ?_, ?_⟩
      · simpa [kC_noteBooked_48, e0, h1, h2, e_s, h3, e7, e3, o1, k1, hi', nI_1] using w2
      · simpa [fC_noteBooked_48, e0, h1, e_s, h3, e7, e3, o1, nI_1] using w3

theorem iT_cg2 {N0 N2 : Nat} {z : Nat → Nat} {p st st' mb : Nat → Nat → Int32} (h : iT N0 N2 z p st mb) (h2 : ∀ c, st' c 2 ≠ 2 ↔ st c 2 ≠ 2) : iT N0 N2 z p st' mb := by
  refine ⟨fun i hi => ?_, fun c d i j => ?_⟩
  · simp only [h2]; exact h.1 i hi
  · simp only [h2]; exact h.2 c d i j
theorem fz_end {k : Nat} {g : Nat → Nat → Nat → Int32} {N : Nat → Nat} {μ : Nat → Nat → Int32} (h : Inv k g N μ) {c : Nat} (hc : c < N 2) (hs1 : g 8 c 2 = 0) {F' F'' : Nat → Int32} {vl : Nat → Nat} (hl : ∀ l, l < 6 * N (3 + c) → F' l = nI (vl l) ∧ F'' (120 * (c + 1) + l) = nI (vl l) ∧ vl l ≤ 61000000) (hx : ∀ x, (x < 120 * (c + 1) ∨ 120 * (c + 1) + 6 * N (3 + c) ≤ x) → F'' x = μ 21 x) : Inv k (u3 (ur g 10 c F') 8 c 2 1) N (um (u2 (u2 (u2 μ 0 0 0) 0 0 0) 17 (c + 1) 1) F'') := by
  obtain ⟨hS, hK, hP, hM, hC, hB, hT⟩ := h
  obtain ⟨⟨⟨z1, z2⟩, hz, _, hfi, hmb⟩, hL, hD⟩ := hC c hc
  refine ⟨hS, hK, hP, hM, ?_, ?_, ?_⟩
  · refine iC_cg c hC (fun _ _ => rfl) (fun b hb => ?_) (fun b hb => ?_) (fun b l' hb hl' => ?_) (N 2) (fun b hb _ => hb) ⟨?_, ?_, ?_⟩
    · simp [u3_ne, u3_r hb, ur_ne]
      simp [ur, hb]
    · simp [u2_ne, u2_s, um_ne, pk_un (show b + 1 ≠ c + 1 by omega)]
    · have := hx (120 * (b + 1) + l') (by have := z2; simp only at this; omega)
      simp [u2_ne, um_ne]
      exact this
    · simp only [u3_s, u2_s, u2_ne, u3_ne, um_ne, ur_ne, ne_eq, Nat.reduceEqDiff, not_false_eq_true]
      exact ⟨⟨z1, z2⟩, hz, ⟨1, by omega, pk_us, pk_us⟩, hfi, hmb⟩
    · intro l hl'
      obtain ⟨a1, a2, a3⟩ := hL l hl'
      obtain ⟨b1, b2, b3⟩ := hl l hl'
      refine ⟨⟨vl l, b3, ?_, b2⟩, a2, a3⟩
      show ur g 10 c F' 10 c l = _
      rw [ur_s]; exact b1
    · refine ⟨fun e => ?_, fun _ => ?_⟩
      · rw [u3_s, pk_us] at e
        exact absurd e (by decide)
      · rw [u3_s]
        exact hD.2 (by rw [hs1]; decide)
  · exact iB_up hB (fun _ _ => rfl) (fun b l' hb hl' => ⟨hx _ (by have := z2; simp only at this; omega), rfl, rfl⟩)
  · refine iT_cg2 hT (fun b => ?_)
    by_cases e : b = c
    · subst e
      rw [u3_s, pk_us, hs1]
      exact ⟨fun _ => by decide, fun _ => by decide⟩
    · rw [u3_r e]
      exact Iff.rfl
theorem f53_1 {E : Int32 → Int32 → (Nat → Nat → Int32) → Int32 × (Nat → Nat → Int32)} {KE : Int32 → Int32 → (Nat → Nat → Int32) → Prop} {μ : Nat → Nat → Int32} {x y : Int32} (n : Nat) (hx : vp_in x 21) (r2 : μ 2 0 = 1) (hE : KE x y μ) : kM_freeze_53 KE (n + 1) x y μ ∧ fM_freeze_53 E (n + 1) x y μ = E x y μ := by
  by_cases b : μ 18 x.toNatClampNeg ≤ y
  · simp [kM_freeze_53, fM_freeze_53, b, hx, hE]
  · simp [kM_freeze_53, fM_freeze_53, b, hx, hE, r2]

theorem pr_freeze {k : Nat} {g : Nat → Nat → Nat → Int32} {N : Nat → Nat} {μ : Nat → Nat → Int32} (h : Inv k g N μ) (x1 : Int32) : pv_freeze (Inv (k + 1)) x1 g N μ := by
  have h' := inv_up h
  obtain ⟨⟨⟨n0, n1, n2⟩, ⟨s0, s1, s2⟩, ⟨r0, r1, r2⟩, hd, hw, hc, ht, hr⟩, hK, hP, hM, hC, hB, hT⟩ := h
  unfold pv_freeze fC_freeze fM_freeze kC_freeze kM_freeze
  simp only [fC_isKind, fC_isGood, fC_isPerson, fC_isPieces, fC_isDay, fM_isGood, fM_isPerson, fM_isPlace, fM_isCount, ite_at, pu_in, s0, s1, s2, r0, r1, r2, hd]
  by_cases a0 : fM_in x1 1 (nI (N 2)) = 0
  · simp [pu_in, pu_kin, pu_kw, pu_kG, pu_kPn, pu_kPl, pu_kCt, pu_cG, pu_cK, pu_cPn, pu_cPc, pu_cD, u2_00, c_n, c_0_0, c_1_0, c_2_0, c_2_1, c_3_0, c_3_1, c_4_0, c_4_1, c_5_0, c_5_1, c_5_2, c_5_3, c_6_0, c_6_1, c_7_0, c_7_1, c_7_2, c_8_0, c_8_1, c_8_2, c_9_0, c_9_1, e_1, e_2, e_3, e_4, a0]
    exact inv_cd _ h'
  obtain ⟨c, hc', rfl⟩ := in_1 (by omega) a0
  have ec := nI_clamp (n := c) (by omega)
  have ec1 := nI_clamp (n := c + 1) (by omega)
  have vc := vin (j := c) (n := 20) (by omega) (by decide)
  have vc1 := vin (j := c + 1) (n := 21) (by omega) (by decide)
  obtain ⟨⟨z1, z2⟩, hz, ⟨s, hs, hs1, hs2⟩, hfi, hmb⟩ : iH (N 0) (N (3 + c)) (g 8 c) (g 9 c) (μ 17 (c + 1)) (μ 18 (c + 1)) (μ 19 (c + 1)) (fun j => μ 20 (20 * (c + 1) + j)) := (hC c hc').1
  by_cases b0 : nI s = 0
  case neg =>
    simp [pu_in, pu_kin, pu_kw, pu_kG, pu_kPn, pu_kPl, pu_kCt, pu_cG, pu_cK, pu_cPn, pu_cPc, pu_cD, u2_00, c_n, c_0_0, c_1_0, c_2_0, c_2_1, c_3_0, c_3_1, c_4_0, c_4_1, c_5_0, c_5_1, c_5_2, c_5_3, c_6_0, c_6_1, c_7_0, c_7_1, c_7_2, c_8_0, c_8_1, c_8_2, c_9_0, c_9_1, e_1, e_2, e_3, e_4, a0, ec, ec1, vc, vc1, e_s, hz, hs1, hs2, hfi, hc', b0]
    exact inv_cd _ h'
  have hs0 : g 8 c 2 = 0 := by rw [hs1, b0]
  have hmb' : ∀ j, j < N (3 + c) → g 9 c j = μ 20 (20 * (c + 1) + j) := fun j hj => by
    obtain ⟨v, _, e1, e2⟩ := hmb j hj
    rw [e1]; exact e2.symm
  have hvb : ∀ j, j < N (3 + c) → ∃ p : Nat, p < N 0 ∧ g 9 c j = nI p ∧ ∀ r, r < 6 → ∃ b : Nat, b ≤ 1000000 ∧ g 6 p r = nI b ∧ μ 6 (6 * p + r) = nI b ∧ (g 6 (g 9 c ((6 * j + r) / 6)).toNatClampNeg ((6 * j + r) % 6)).toNatClampNeg = b := fun j hj => by
    obtain ⟨p, hp, e1, _⟩ := hmb j hj
    refine ⟨p, hp, e1, fun r hr => ?_⟩
    obtain ⟨b, hb, e3, e4⟩ := hP.2.1 p hp r hr
    refine ⟨b, hb, e3, e4, ?_⟩
    rw [show (6 * j + r) / 6 = j by omega, show (6 * j + r) % 6 = r by omega, e1, nI_clamp (by omega), e3, nI_clamp (by omega)]
  have hDc : ∀ i j, i < N (3 + c) → j < N (3 + c) → g 9 c i = g 9 c j → i = j := fun i j hi hj e => (hT.2 c c i j hc' hc' hi hj (by rw [hs0]; decide) (by rw [hs0]; decide) e).2
  obtain ⟨F1, u1, u2', u3'⟩ := lp_nb2 (E := fC_noteBooked_2x) (KE := kC_noteBooked_2x) (c := c) (vb := fun l => (g 6 (g 9 c (l / 6)).toNatClampNeg (l % 6)).toNatClampNeg) z2 n0 s0 (fun j hj => by
    obtain ⟨p, hp, e1, h2⟩ := hvb j hj
    refine ⟨p, hp, e1, fun r hr => ?_⟩
    obtain ⟨b, _, e3, _, e5⟩ := h2 r hr
    show g 6 p r = nI ((g 6 (g 9 c ((6 * j + r) / 6)).toNatClampNeg ((6 * j + r) % 6)).toNatClampNeg)
    rw [e3, e5]) (N (3 + c)) 0 (199 - N (3 + c)) (g 10 c) (by omega) (fun l hl => by omega)
  obtain ⟨F2, u4, u5, u6⟩ := lp_nb48 (g := g) (N := N) (μ := μ) (c := c) (vb := fun l => (g 6 (g 9 c (l / 6)).toNatClampNeg (l % 6)).toNatClampNeg) (by omega) z2 hz hmb' n1 s1 hM hDc (N 1) 0 (199 - N 1) F1 (by omega) (fun l hl => u1 l hl)
  rw [ur_0, show 199 - N (3 + c) + N (3 + c) + 1 = 200 by omega] at u2' u3'
  rw [show 199 - N 1 + N 1 + 1 = 200 by omega] at u5 u6
  have nb1 : kC_noteBooked c g N := u2' u5
  have nb2 : fC_noteBooked c g N = ur g 10 c F2 := u3'.trans u6
  rcases hw with ⟨w1, w2⟩ | ⟨w1, w2⟩
  · obtain ⟨F3, x1, x2, x3, x4⟩ := lp_105 (μ := u2 (u2 (u2 μ 0 0 0) 0 0 0) 17 (c + 1) 1) (vl := fun l => (g 6 (g 9 c (l / 6)).toNatClampNeg (l % 6)).toNatClampNeg) (c := c) (by omega) z2 hz n0 n1 r1 hM (fun j hj => by
      obtain ⟨p, hp, e1, h2⟩ := hvb j hj
      refine ⟨p, hp, (hmb' j hj).symm.trans e1, fun r hr => ?_⟩
      obtain ⟨b, _, e3, e4, e5⟩ := h2 r hr
      exact ⟨b, e4, Or.inr ⟨w2, e5⟩⟩) (N (3 + c)) 0 (199 - N (3 + c)) (μ 21) (by omega)
    have eu : um (u2 (u2 (u2 μ 0 0 0) 0 0 0) 17 (c + 1) 1) (μ 21) = u2 (u2 (u2 μ 0 0 0) 0 0 0) 17 (c + 1) 1 := um_0
    rw [eu, show 199 - N (3 + c) + N (3 + c) + 1 = 200 by omega] at x3 x4
    have hE : ∀ x, kM_freeze_53x (nI (c + 1)) x (u2 (u2 μ 0 0 0) 0 0 0) := fun x => by
      refine ⟨vc1, ?_⟩
      rw [ec1]
      exact x3
    obtain ⟨y1, y2, y3⟩ := lp_has (E := fM_freeze_53x) (μ := u2 (u2 μ 0 0 0) 0 0 0) (c := c) (by omega) z2 hz n1 s1 r1 hM w2 hmb' hE (N (3 + c)) 0 (199 - N (3 + c)) (by omega)
    rw [show 199 - N (3 + c) + N (3 + c) + 1 = 200 by omega, show nI 0 = 0 from rfl] at y1 y2 y3
    have w3 : ¬ g 0 0 4 = 0 := by rw [w1]; decide
    have y1' : kC_hasOpenMoves c g N := y1
    rcases y3 with ⟨q1, q2⟩ | ⟨q1, q2, q3⟩
    · have q1' : fC_hasOpenMoves c g N = 1 := q1
      simp [pu_in, pu_kin, pu_kw, pu_kG, pu_kPn, pu_kPl, pu_kCt, pu_cG, pu_cK, pu_cPn, pu_cPc, pu_cD, u2_00, c_n, c_0_0, c_1_0, c_2_0, c_2_1, c_3_0, c_3_1, c_4_0, c_4_1, c_5_0, c_5_1, c_5_2, c_5_3, c_6_0, c_6_1, c_7_0, c_7_1, c_7_2, c_8_0, c_8_1, c_8_2, c_9_0, c_9_1, e_1, e_2, e_3, e_4, a0, ec, ec1, vc, vc1, e_s, hz, hs1, hs2, hfi, hc', b0, w3, y1', y2, q1', q2]
      exact inv_cd _ h'
    · have q1' : fC_hasOpenMoves c g N = 0 := q1
      have q4 : fM_freeze_53 fM_freeze_53x 200 (nI (c + 1)) 0 (u2 (u2 μ 0 0 0) 0 0 0) = (nI (N (3 + c)), um (u2 (u2 (u2 μ 0 0 0) 0 0 0) 17 (c + 1) 1) F3) := by
        rw [q2]
        show fM_freeze_105 fM_freeze_105x 200 (nI (c + 1)) 0 (u2 (u2 (u2 μ 0 0 0) 0 0 0) 17 (nI (c + 1)).toNatClampNeg 1) = _
        rw [ec1]
        exact x4
      simp [pu_in, pu_kin, pu_kw, pu_kG, pu_kPn, pu_kPl, pu_kCt, pu_cG, pu_cK, pu_cPn, pu_cPc, pu_cD, u2_00, c_n, c_0_0, c_1_0, c_2_0, c_2_1, c_3_0, c_3_1, c_4_0, c_4_1, c_5_0, c_5_1, c_5_2, c_5_3, c_6_0, c_6_1, c_7_0, c_7_1, c_7_2, c_8_0, c_8_1, c_8_2, c_9_0, c_9_1, e_1, e_2, e_3, e_4, a0, ec, ec1, vc, vc1, e_s, hz, hs1, hs2, hfi, hc', b0, w3, y1', y2, q1', q4, nb1, nb2]
      refine ⟨rfl, fz_end h' hc' hs0 (vl := fun l => (g 6 (g 9 c (l / 6)).toNatClampNeg (l % 6)).toNatClampNeg) (fun l hl => ?_) (fun x hx => x1 x hx)⟩
      have e0 := u4 l hl
      rw [cm_0 (N 1) (q3 (l / 6) (by omega) (by omega))] at e0
      refine ⟨e0, x2 l (by omega) hl, ?_⟩
      obtain ⟨p, hp, e1, h2⟩ := hvb (l / 6) (by omega)
      obtain ⟨b, hb, _, _, e5⟩ := h2 (l % 6) (by omega)
      rw [show 6 * (l / 6) + l % 6 = l by omega] at e5
      show (g 6 (g 9 c (l / 6)).toNatClampNeg (l % 6)).toNatClampNeg ≤ 61000000
      omega
  · obtain ⟨F3, x1, x2, x3, x4⟩ := lp_105 (μ := u2 (u2 (u2 μ 0 0 0) 0 0 0) 17 (c + 1) 1) (vl := fun l => (g 6 (g 9 c (l / 6)).toNatClampNeg (l % 6)).toNatClampNeg + cm (g 7) (g 9 c (l / 6)) (l % 6) (N 1)) (c := c) (by omega) z2 hz n0 n1 r1 hM (fun j hj => by
      obtain ⟨p, hp, e1, h2⟩ := hvb j hj
      refine ⟨p, hp, (hmb' j hj).symm.trans e1, fun r hr => ?_⟩
      obtain ⟨b, _, e3, e4, e5⟩ := h2 r hr
      refine ⟨b, e4, Or.inl ⟨w2, ?_⟩⟩
      show (g 6 (g 9 c ((6 * j + r) / 6)).toNatClampNeg ((6 * j + r) % 6)).toNatClampNeg + cm (g 7) (g 9 c ((6 * j + r) / 6)) ((6 * j + r) % 6) (N 1) = _
      rw [e5, show (6 * j + r) / 6 = j by omega, show (6 * j + r) % 6 = r by omega, e1]) (N (3 + c)) 0 (199 - N (3 + c)) (μ 21) (by omega)
    have eu : um (u2 (u2 (u2 μ 0 0 0) 0 0 0) 17 (c + 1) 1) (μ 21) = u2 (u2 (u2 μ 0 0 0) 0 0 0) 17 (c + 1) 1 := um_0
    rw [eu, show 199 - N (3 + c) + N (3 + c) + 1 = 200 by omega] at x3 x4
    obtain ⟨y2, q2⟩ := f53_1 (E := fM_freeze_53x) (KE := kM_freeze_53x) (μ := u2 (u2 μ 0 0 0) 0 0 0) (x := nI (c + 1)) (y := 0) 199 vc1 w2 (by
      refine ⟨vc1, ?_⟩
      rw [ec1]
      exact x3)
    have q4 : fM_freeze_53 fM_freeze_53x 200 (nI (c + 1)) 0 (u2 (u2 μ 0 0 0) 0 0 0) = (nI (N (3 + c)), um (u2 (u2 (u2 μ 0 0 0) 0 0 0) 17 (c + 1) 1) F3) := by
      rw [q2]
      show fM_freeze_105 fM_freeze_105x 200 (nI (c + 1)) 0 (u2 (u2 (u2 μ 0 0 0) 0 0 0) 17 (nI (c + 1)).toNatClampNeg 1) = _
      rw [ec1]
      exact x4
    simp [pu_in, pu_kin, pu_kw, pu_kG, pu_kPn, pu_kPl, pu_kCt, pu_cG, pu_cK, pu_cPn, pu_cPc, pu_cD, u2_00, c_n, c_0_0, c_1_0, c_2_0, c_2_1, c_3_0, c_3_1, c_4_0, c_4_1, c_5_0, c_5_1, c_5_2, c_5_3, c_6_0, c_6_1, c_7_0, c_7_1, c_7_2, c_8_0, c_8_1, c_8_2, c_9_0, c_9_1, e_1, e_2, e_3, e_4, a0, ec, ec1, vc, vc1, e_s, hz, hs1, hs2, hfi, hc', b0, w1, y2, q4, nb1, nb2]
    refine ⟨rfl, fz_end h' hc' hs0 (vl := fun l => (g 6 (g 9 c (l / 6)).toNatClampNeg (l % 6)).toNatClampNeg + cm (g 7) (g 9 c (l / 6)) (l % 6) (N 1)) (fun l hl => ?_) (fun x hx => x1 x hx)⟩
    refine ⟨u4 l hl, x2 l (by omega) hl, ?_⟩
    obtain ⟨p, hp, e1, h2⟩ := hvb (l / 6) (by omega)
    obtain ⟨b, hb, _, _, e5⟩ := h2 (l % 6) (by omega)
    rw [show 6 * (l / 6) + l % 6 = l by omega] at e5
    have := cm_le hM (g 9 c (l / 6)) (l % 6) (N 1) (Nat.le_refl _)
    show (g 6 (g 9 c (l / 6)).toNatClampNeg (l % 6)).toNatClampNeg + cm (g 7) (g 9 c (l / 6)) (l % 6) (N 1) ≤ 61000000
    omega
