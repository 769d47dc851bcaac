/-! PURE: freeze -/
def um (μ : Nat → Nat → Int32) (F : Nat → Int32) : Nat → Nat → Int32 := fun k => if k = 21 then F else μ k
theorem um_ne {μ : Nat → Nat → Int32} {F : Nat → Int32} {k : Nat} (h : k ≠ 21) : um μ F k = μ k := if_neg h
theorem um_u {μ : Nat → Nat → Int32} {F : Nat → Int32} {j : Nat} {v : Int32} : u2 (um μ F) 21 j v = um μ (upd F j v) := by
  funext k
  by_cases h : k = 21
  · subst h; rw [u2_s]; rfl
  · rw [u2_ne h, um_ne h, um_ne h]
theorem um_0 {μ : Nat → Nat → Int32} : um μ (μ 21) = μ := by
  funext k
  by_cases h : k = 21
  · subst h; rfl
  · rw [um_ne h]
theorem ur_u {g : Nat → Nat → Nat → Int32} {c l : Nat} {F : Nat → Int32} {v : Int32} : u3 (ur g 10 c F) 10 c l v = ur g 10 c (upd F l v) := by
  funext k
  by_cases h : k = 10
  · subst h
    funext i
    by_cases e : i = c
    · subst e; rw [u3_s]; simp [ur]
    · rw [u3_r e]; simp [ur, e]
  · rw [u3_ne h, ur_ne h, ur_ne h]
theorem ur_r {g : Nat → Nat → Nat → Int32} {c : Nat} {F F' : Nat → Int32} : ur (ur g 10 c F) 10 c F' = ur g 10 c F' := by
  funext k
  by_cases h : k = 10
  · subst h
    funext i
    by_cases e : i = c
    · subst e; simp [ur]
    · simp [ur, e]
  · rw [ur_ne h, ur_ne h, ur_ne h]
theorem ur_0 {g : Nat → Nat → Nat → Int32} {c : Nat} : ur g 10 c (g 10 c) = g := by
  funext k
  by_cases h : k = 10
  · subst h
    funext i
    by_cases e : i = c
    · subst e; simp [ur]
    · simp [ur, e]
  · rw [ur_ne h]
theorem ur_s {g : Nat → Nat → Nat → Int32} {c : Nat} {F : Nat → Int32} : ur g 10 c F 10 c = F := by simp [ur]
def cm (t : Nat → Nat → Int32) (x : Int32) (q : Nat) : Nat → Nat
  | 0 => 0
  | n + 1 => cm t x q n + (if t n 4 = 0 then 0 else if t n 1 = x then if t n 2 = nI q then (t n 3).toNatClampNeg else 0 else 0)
theorem cm_le {N0 N1 : Nat} {t : Nat → Nat → Int32} {m11 m12 m13 m14 m15 : Nat → Int32} (hM : iM N0 N1 t m11 m12 m13 m14 m15) (x : Int32) (q : Nat) : ∀ n, n ≤ N1 → cm t x q n ≤ 1000000 * n := by
  intro n
  induction n with
  | zero => intro _; exact Nat.le_refl _
  | succ n ih =>
    intro hn
    have h1 := ih (by omega)
    obtain ⟨_, _, _, ⟨v, hv, e, _⟩, _⟩ := hM.1 n (by omega)
    have h2 := nI_clamp (n := v) (by omega)
    show cm t x q n + (if t n 4 = 0 then 0 else if t n 1 = x then if t n 2 = nI q then (t n 3).toNatClampNeg else 0 else 0) ≤ _
    rw [e, h2]
    have h3 : (if t n 4 = 0 then 0 else if t n 1 = x then if t n 2 = nI q then v else 0 else 0) ≤ 1000000 := by
      by_cases c1 : t n 4 = 0
      · rw [if_pos c1]; omega
      · rw [if_neg c1]
        by_cases c2 : t n 1 = x
        · rw [if_pos c2]
          by_cases c3 : t n 2 = nI q
          · rw [if_pos c3]; omega
          · rw [if_neg c3]; omega
        · rw [if_neg c2]; omega
    omega
theorem cm_0 {t : Nat → Nat → Int32} {x : Int32} {q : Nat} : ∀ n, (∀ i, i < n → t i 4 ≠ 0 → t i 1 ≠ x) → cm t x q n = 0 := by
  intro n
  induction n with
  | zero => intro _; rfl
  | succ n ih =>
    intro h
    show cm t x q n + (if t n 4 = 0 then 0 else if t n 1 = x then if t n 2 = nI q then (t n 3).toNatClampNeg else 0 else 0) = 0
    rw [ih (fun i hi => h i (by omega))]
    by_cases c1 : t n 4 = 0
    · rw [if_pos c1]
    · rw [if_neg c1, if_neg (h n (by omega) c1)]
theorem lp_co {N0 N1 : Nat} {t : Nat → Nat → Int32} {μ : Nat → Nat → Int32} {x : Int32} {q : Nat} (hN : N1 ≤ 60) (r1 : μ 10 0 = nI N1) (hM : iM N0 N1 t (μ 11) (μ 12) (μ 13) (μ 14) (μ 15)) : ∀ (d i n : Nat), i + d = N1 → kM_coming_5 kM_coming_5x (n + d + 1) x (nI q) (nI (cm t x q i)) (nI (i + 1)) μ ∧ fM_coming_5 fM_coming_5x (n + d + 1) x (nI q) (nI (cm t x q i)) (nI (i + 1)) μ = nI (cm t x q N1) := by
  intro d
  induction d with
  | zero =>
    intro i n hi
    have h1 : nI N1 < nI (i + 1) := (nI_ltI (by omega) (by omega)).mpr (by omega)
    have e : i = N1 := by omega
    subst e
    simp [kM_coming_5, fM_coming_5, r1, h1, kM_coming_5x, fM_coming_5x]
  | succ d ih =>
    intro i n hi
    have h1 : ¬ nI N1 < nI (i + 1) := fun q => absurd ((nI_ltI (by omega) (by omega)).mp q) (by omega)
    have h4 := nI_clamp (n := i + 1) (by omega)
    obtain ⟨_, ⟨w, hw, e3, e4⟩, ⟨y, hy, e5, e6⟩, ⟨v, hv, e7, e8⟩, e9⟩ := hM.1 i (by omega)
    have h5 := nI_clamp (n := v) (by omega)
    have v1 := vin (j := i + 1) (n := 61) (by omega) (by decide)
    have I0 := ih (i + 1) n (by omega)
    rw [show n + (d + 1) + 1 = (n + d + 1) + 1 by omega]
    generalize n + d + 1 = f at I0 ⊢
    have hs : cm t x q (i + 1) = cm t x q i + (if t i 4 = 0 then 0 else if t i 1 = x then if t i 2 = nI q then (t i 3).toNatClampNeg else 0 else 0) := rfl
    rw [e3, e5, e7, h5] at hs
    rcases e9 with ⟨o1, o2⟩ | ⟨o1, o2⟩
    · rw [if_neg (by rw [o1]; decide)] at hs
      by_cases b1 : nI w = x
      · rw [if_pos b1] at hs
        by_cases b2 : nI y = nI q
        · rw [if_pos b2] at hs
          rw [hs, ← nI_add] at I0
          simpa [kM_coming_5, fM_coming_5, r1, h1, h4, o2, e4, e6, e8, b1, b2, v1, nI_1] using I0
        · rw [if_neg b2] at hs
          rw [hs] at I0
          simpa [kM_coming_5, fM_coming_5, r1, h1, h4, o2, e4, e6, e8, b1, b2, v1, nI_1] using I0
      · rw [if_neg b1] at hs
        rw [hs] at I0
        simpa [kM_coming_5, fM_coming_5, r1, h1, h4, o2, e4, e6, e8, b1, v1, nI_1] using I0
    · rw [if_pos o1] at hs
      rw [hs] at I0
      simpa [kM_coming_5, fM_coming_5, r1, h1, h4, o2, e4, e6, e8, v1, nI_1] using I0
theorem co_M {N0 N1 : Nat} {t : Nat → Nat → Int32} {μ : Nat → Nat → Int32} (x : Int32) (q : Nat) (hN : N1 ≤ 60) (r1 : μ 10 0 = nI N1) (hM : iM N0 N1 t (μ 11) (μ 12) (μ 13) (μ 14) (μ 15)) : kM_coming x (nI q) μ ∧ fM_coming x (nI q) μ = nI (cm t x q N1) := by
  have h := lp_co (x := x) (q := q) hN r1 hM N1 0 (199 - N1) (by omega)
  rw [show 199 - N1 + N1 + 1 = 200 by omega] at h
  exact h
/-- no open move at x: none leads there -/
theorem lp_a0 {N0 N1 : Nat} {t : Nat → Nat → Int32} {μ : Nat → Nat → Int32} {x : Int32} (hN : N1 ≤ 60) (r1 : μ 10 0 = nI N1) (hM : iM N0 N1 t (μ 11) (μ 12) (μ 13) (μ 14) (μ 15)) : ∀ (d i n a : Nat), i + d = N1 → a ≤ i → ∃ b : Nat, a ≤ b ∧ b ≤ N1 ∧ fM_openAt_4 fM_openAt_4x (n + d + 1) x (nI a) (nI (i + 1)) μ = nI b ∧ (b = a → ∀ j, i ≤ j → j < N1 → t j 4 ≠ 0 → t j 1 ≠ x) := by
  intro d
  induction d with
  | zero =>
    intro i n a hi ha
    have h1 : nI N1 < nI (i + 1) := (nI_ltI (by omega) (by omega)).mpr (by omega)
    refine ⟨a, Nat.le_refl _, by omega, ?_, fun _ j hj hj2 => by omega⟩
    simp [fM_openAt_4, r1, h1, fM_openAt_4x]
  | succ d ih =>
    intro i n a hi ha
    have h1 : ¬ nI N1 < nI (i + 1) := fun q => absurd ((nI_ltI (by omega) (by omega)).mp q) (by omega)
    have h4 := nI_clamp (n := i + 1) (by omega)
    obtain ⟨⟨f9, hf, e1, e2⟩, ⟨w, hw, e3, e4⟩, _, _, e9⟩ := hM.1 i (by omega)
    have I0 := ih (i + 1) n a (by omega) (by omega)
    have I1 := ih (i + 1) n (a + 1) (by omega) (by omega)
    rw [show n + (d + 1) + 1 = (n + d + 1) + 1 by omega]
    generalize n + d + 1 = f at I0 I1 ⊢
    obtain ⟨b0, c1, c2, c3, c4⟩ := I0
    obtain ⟨b1, d1, d2, d3, d4⟩ := I1
    rcases e9 with ⟨o1, o2⟩ | ⟨o1, o2⟩
    · by_cases q1 : nI f9 = x
      · refine ⟨b1, by omega, d2, ?_, fun q => by omega⟩
        simpa [fM_openAt_4, r1, h1, h4, o2, e2, e4, q1, nI_1] using d3
      · by_cases q2 : nI w = x
        · refine ⟨b1, by omega, d2, ?_, fun q => by omega⟩
          simpa [fM_openAt_4, r1, h1, h4, o2, e2, e4, q1, q2, nI_1] using d3
        · refine ⟨b0, c1, c2, ?_, fun q j hj hj2 => ?_⟩
          · simpa [fM_openAt_4, r1, h1, h4, o2, e2, e4, q1, q2, nI_1] using c3
          · by_cases e : j = i
            · subst e; rw [e3]; exact fun _ => q2
            · exact c4 q j (by omega) hj2
    · refine ⟨b0, c1, c2, ?_, fun q j hj hj2 => ?_⟩
      · simpa [fM_openAt_4, r1, h1, h4, o2, e2, e4, nI_1] using c3
      · by_cases e : j = i
        · subst e; exact fun h => absurd o1 h
        · exact c4 q j (by omega) hj2
theorem at_0 {N0 N1 : Nat} {t : Nat → Nat → Int32} {μ : Nat → Nat → Int32} {x : Int32} (hN : N1 ≤ 60) (r1 : μ 10 0 = nI N1) (hM : iM N0 N1 t (μ 11) (μ 12) (μ 13) (μ 14) (μ 15)) (h : fM_openAt x μ ≤ 0) : ∀ j, j < N1 → t j 4 ≠ 0 → t j 1 ≠ x := by
  obtain ⟨b, h1, h2, h3, h4⟩ := lp_a0 (x := x) hN r1 hM N1 0 (199 - N1) 0 (by omega) (by omega)
  rw [show 199 - N1 + N1 + 1 = 200 by omega] at h3
  have h5 : nI b ≤ 0 := by rw [← h3]; exact h
  have h6 : b = 0 := by
    rcases Nat.eq_zero_or_pos b with e | e
    · exact e
    · exact absurd h5 (nI_nle e (by omega))
  exact fun j hj => h4 h6 j (by omega) hj
