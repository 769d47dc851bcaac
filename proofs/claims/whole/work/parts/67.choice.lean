/-! PURE: round, the choice -/
def rn (x : Int64) (n : Int32) : Int32 := ((((((x * 6364136223846793005) + 1442695040888963407).toUInt64 >>> ((33 : Int32).toInt64.toUInt64 &&& Int64.toUInt64 63)).toInt64) - ((((x * 6364136223846793005) + 1442695040888963407).toUInt64 >>> ((33 : Int32).toInt64.toUInt64 &&& Int64.toUInt64 63)).toInt64) / n.toInt64 * n.toInt64).toInt32)
def cS (g : Nat → Nat → Nat → Int32) (x9 x6 A : Int32) : Nat → Nat → Nat → Int32 := ur (u3 (u3 g 17 0 x9.toNatClampNeg (g 4 0 (A.toNatClampNeg))) 5 (((u3 g 17 0 x9.toNatClampNeg (g 4 0 (A.toNatClampNeg))) 17 0 x9.toNatClampNeg).toNatClampNeg) 2 1) 4 0 (va_cpy ((u3 (u3 g 17 0 x9.toNatClampNeg (g 4 0 (A.toNatClampNeg))) 5 (((u3 g 17 0 x9.toNatClampNeg (g 4 0 (A.toNatClampNeg))) 17 0 x9.toNatClampNeg).toNatClampNeg) 2 1) 4 0) ((u3 (u3 g 17 0 x9.toNatClampNeg (g 4 0 (A.toNatClampNeg))) 5 (((u3 g 17 0 x9.toNatClampNeg (g 4 0 (A.toNatClampNeg))) 17 0 x9.toNatClampNeg).toNatClampNeg) 2 1) 4 0) (A + 1).toNatClampNeg A.toNatClampNeg ((x6 + (-1)) - A).toNatClampNeg)
def cK (g : Nat → Nat → Nat → Int32) (N : Nat → Nat) (K : Nat) (x9 x6 A : Int32) (R : Prop) : Prop := (vp_in A 20) ∧ ((vp_in x9 K) ∧ ((vp_in x9 K) ∧ ((kC_placeNumbered ((u3 g 17 0 x9.toNatClampNeg (g 4 0 (A.toNatClampNeg))) 17 0 x9.toNatClampNeg) (u3 g 17 0 x9.toNatClampNeg (g 4 0 (A.toNatClampNeg))) N) ∧ (¬ (fC_isWithin ((u3 g 17 0 x9.toNatClampNeg (g 4 0 (A.toNatClampNeg))) 17 0 x9.toNatClampNeg) 0 ((g 0 0 0) - 1)) = 0) ∧ (((u3 g 17 0 x9.toNatClampNeg (g 4 0 (A.toNatClampNeg))) 17 0 x9.toNatClampNeg).toNatClampNeg < N 0) ∧ ((¬ (A + 1) < 0) ∧ (¬ A < 0) ∧ (¬ ((x6 + (-1)) - A) < 0) ∧ ((A + 1).toNatClampNeg + ((x6 + (-1)) - A).toNatClampNeg ≤ 20) ∧ (A.toNatClampNeg + ((x6 + (-1)) - A).toNatClampNeg ≤ 20) ∧ R))))
def mS (μ : Nat → Nat → Int32) (x8 A : Int32) : Nat → Nat → Int32 := u2 (u2 (u2 μ 28 A.toNatClampNeg (vp_nar .boolean 0)) 20 ((20 * (μ 16 0)) + x8).toNatClampNeg A) 18 (μ 16 0).toNatClampNeg ((μ 18 (μ 16 0).toNatClampNeg) + 1)
def mK (μ : Nat → Nat → Int32) (x8 A : Int32) (R : Prop) : Prop := (vp_in A 20) ∧ ((vp_in ((20 * (μ 16 0)) + x8) 420) ∧ ((vp_in (μ 16 0) 21) ∧ ((vp_in (μ 16 0) 21) ∧ R)))
theorem fC_ch {E : Int32 → Int32 → Int64 → Int32 → Int64 → Int32 → (Nat → Nat → Nat → Int32) → (Nat → Nat) → Nat → (Nat → Nat → Nat → Int32)} {n : Nat} {x1 x2 : Int32} {x3 : Int64} {x6 : Int32} {x7 : Int64} {x9 : Int32} {g : Nat → Nat → Nat → Int32} {N : Nat → Nat} {K : Nat} : fC_chooseCandidates_14 E (n + 1) x1 x2 x3 x6 x7 x9 g N K = if x2 ≤ x9 then E x1 x2 x3 x6 x7 x9 g N K else if x6 ≤ 0 then E x1 x2 x3 x6 x7 x9 g N K else if (lg_cmp x3 0) = 0 then fC_chooseCandidates_14 E n x1 x2 x3 (x6 + (-1)) x7 (x9 + 1) (cS g x9 x6 (fC_longestUncounted x6 g N)) N K else fC_chooseCandidates_14 E n x1 x2 x3 (x6 + (-1)) ((x7 * 6364136223846793005) + 1442695040888963407) (x9 + 1) (cS g x9 x6 (rn x7 x6)) N K := rfl
theorem kC_ch {E : Int32 → Int32 → Int64 → Int32 → Int64 → Int32 → (Nat → Nat → Nat → Int32) → (Nat → Nat) → Nat → Prop} {n : Nat} {x1 x2 : Int32} {x3 : Int64} {x6 : Int32} {x7 : Int64} {x9 : Int32} {g : Nat → Nat → Nat → Int32} {N : Nat → Nat} {K : Nat} : kC_chooseCandidates_14 E (n + 1) x1 x2 x3 x6 x7 x9 g N K = ((x2 ≤ x9 → E x1 x2 x3 x6 x7 x9 g N K) ∧ (¬ (x2 ≤ x9) → (x6 ≤ 0 → E x1 x2 x3 x6 x7 x9 g N K) ∧ (¬ (x6 ≤ 0) → ((lg_cmp x3 0) = 0 → (kC_longestUncounted x6 g N) ∧ cK g N K x9 x6 (fC_longestUncounted x6 g N) (kC_chooseCandidates_14 E n x1 x2 x3 (x6 + (-1)) x7 (x9 + 1) (cS g x9 x6 (fC_longestUncounted x6 g N)) N K)) ∧ (¬ ((lg_cmp x3 0) = 0) → (¬ x6.toInt64 = 0) ∧ cK g N K x9 x6 (rn x7 x6) (kC_chooseCandidates_14 E n x1 x2 x3 (x6 + (-1)) ((x7 * 6364136223846793005) + 1442695040888963407) (x9 + 1) (cS g x9 x6 (rn x7 x6)) N K))))) := rfl
theorem fM_ch {E : Int32 → Int32 → Int64 → Int32 → Int64 → Int32 → (Nat → Nat → Int32) → (Int32 × (Nat → Nat → Int32))} {n : Nat} {x1 x2 : Int32} {x3 : Int64} {x5 : Int32} {x6 : Int64} {x8 : Int32} {μ : Nat → Nat → Int32} : fM_round_177 E (n + 1) x1 x2 x3 x5 x6 x8 μ = if x2 ≤ x8 then E x1 x2 x3 x5 x6 x8 μ else if x5 ≤ 0 then E x1 x2 x3 x5 x6 x8 μ else if (lg_cmp x3 0) = 0 then fM_round_177 E n x1 x2 x3 (x5 + (-1)) ((x6 * 6364136223846793005) + 1442695040888963407) (x8 + 1) (mS μ x8 (fM_byRank μ)) else fM_round_177 E n x1 x2 x3 (x5 + (-1)) ((x6 * 6364136223846793005) + 1442695040888963407) (x8 + 1) (mS μ x8 (fM_byNumber (rn x6 x5) μ)) := rfl
theorem kM_ch {E : Int32 → Int32 → Int64 → Int32 → Int64 → Int32 → (Nat → Nat → Int32) → Prop} {n : Nat} {x1 x2 : Int32} {x3 : Int64} {x5 : Int32} {x6 : Int64} {x8 : Int32} {μ : Nat → Nat → Int32} : kM_round_177 E (n + 1) x1 x2 x3 x5 x6 x8 μ = ((x2 ≤ x8 → E x1 x2 x3 x5 x6 x8 μ) ∧ (¬ (x2 ≤ x8) → (x5 ≤ 0 → E x1 x2 x3 x5 x6 x8 μ) ∧ (¬ (x5 ≤ 0) → ((lg_cmp x3 0) = 0 → (kM_byRank μ) ∧ mK μ x8 (fM_byRank μ) (kM_round_177 E n x1 x2 x3 (x5 + (-1)) ((x6 * 6364136223846793005) + 1442695040888963407) (x8 + 1) (mS μ x8 (fM_byRank μ)))) ∧ (¬ ((lg_cmp x3 0) = 0) → (¬ x5.toInt64 = 0) ∧ ((kM_byNumber (rn x6 x5) μ) ∧ mK μ x8 (fM_byNumber (rn x6 x5) μ) (kM_round_177 E n x1 x2 x3 (x5 + (-1)) ((x6 * 6364136223846793005) + 1442695040888963407) (x8 + 1) (mS μ x8 (fM_byNumber (rn x6 x5) μ)))))))) := rfl
def chR (g : Nat → Nat → Nat → Int32) (N : Nat → Nat) (μ : Nat → Nat → Int32) (F0 : Nat → Bool) (free i : Nat) (F : Nat → Bool) (G : Nat → Nat → Nat → Int32) (ν : Nat → Nat → Int32) : Prop := (∀ a, a ≠ 4 → a ≠ 5 → a ≠ 17 → G a = g a) ∧ (∀ a, a ≠ 18 → a ≠ 20 → a ≠ 28 → ν a = μ a) ∧ (∀ p x, x ≠ 2 → G 5 p x = g 5 p x) ∧ (∀ x, x < 20 * (N 2 + 1) → ν 20 x = μ 20 x) ∧ (∀ x, x ≠ N 2 + 1 → ν 18 x = μ 18 x) ∧ ν 18 (N 2 + 1) = nI i ∧ (∀ j l, (fl F 0 (N 0))[j]? = some l → G 4 0 j = nI l) ∧ (∀ p, p < N 0 → ν 28 p = if F p then 1 else 0) ∧ (fl F 0 (N 0)).length + i = free ∧ (∀ p, F p = true → F0 p = true) ∧ (∀ j, j < i → ∃ v : Nat, v < N 0 ∧ G 17 0 j = nI v ∧ ν 20 (20 * (N 2 + 1) + j) = nI v ∧ F v = false ∧ F0 v = true) ∧ (∀ a b, a < i → b < i → G 17 0 a = G 17 0 b → a = b) ∧ (∀ p, p < N 0 → (G 5 p 2 = 1 ∧ ∃ j, j < i ∧ G 17 0 j = nI p) ∨ (G 5 p 2 = g 5 p 2 ∧ ∀ j, j < i → G 17 0 j ≠ nI p))
theorem ch_step {g : Nat → Nat → Nat → Int32} {N : Nat → Nat} {μ : Nat → Nat → Int32} {F0 : Nat → Bool} {free i r p K : Nat} {F : Nat → Bool} {G : Nat → Nat → Nat → Int32} {ν : Nat → Nat → Int32} (hN0 : N 0 ≤ 20) (hN2 : N 2 < 20) (s0 : g 0 0 0 = nI (N 0)) (r16 : μ 16 0 = nI (N 2 + 1)) (hi : i < K) (hK : K ≤ 20) (hR : chR g N μ F0 free i F G ν) (hr : r < (fl F 0 (N 0)).length) (hp : (fl F 0 (N 0))[r]? = some p) : chR g N μ F0 free (i + 1) (fun x => F x && decide (x ≠ p)) (cS G (nI i) (nI (fl F 0 (N 0)).length) (nI r)) (mS ν (nI i) (nI p)) ∧ (∀ R : Prop, R → cK G N K (nI i) (nI (fl F 0 (N 0)).length) (nI r) R) ∧ ∀ R : Prop, R → mK ν (nI i) (nI p) R := by
  obtain ⟨R1, R2, R3, R4, R5, R6, R7, R8, R9, R10, R11, R12, R13⟩ := hR
  have hlen := fl_len (F := F) (s := 0) (n := N 0)
  have hmem := fl_mem.mp (List.mem_of_getElem? hp)
  have hp0 : p < N 0 := by omega
  have ei := nI_clamp (n := i) (by omega)
  have vi := vin (j := i) (n := K) (by omega) (by omega)
  have er := nI_clamp (n := r) (by omega)
  have vr := vin (j := r) (n := 20) (by omega) (by decide)
  have er1 : (nI r + 1).toNatClampNeg = r + 1 := by rw [nI_1, nI_clamp (by omega)]
  have ep := nI_clamp (n := p) (by omega)
  have vp := vin (j := p) (n := 20) (by omega) (by decide)
  have em : (nI (fl F 0 (N 0)).length + -1) - nI r = nI ((fl F 0 (N 0)).length - 1 - r) := by
    have := pk_m1 ((fl F 0 (N 0)).length - 1)
    rw [Nat.sub_add_cancel (by omega)] at this
    rw [this, pk_sub (by omega)]
  have em2 := nI_clamp (n := (fl F 0 (N 0)).length - 1 - r) (by omega)
  have eg := R7 r p hp
  have e17 : u3 G 17 0 i (nI p) 17 0 i = nI p := by rw [u3_s, pk_us]
  have hcS : cS G (nI i) (nI (fl F 0 (N 0)).length) (nI r) = ur (u3 (u3 G 17 0 i (nI p)) 5 p 2 1) 4 0 (va_cpy (G 4 0) (G 4 0) (r + 1) r ((fl F 0 (N 0)).length - 1 - r)) := by
    unfold cS
    rw [ei, er, eg, e17, ep, er1, em, em2]
    rfl
  have v16 : ν 16 0 = nI (N 2 + 1) := by rw [R2 16 (by decide) (by decide) (by decide)]; exact r16
  have e16 := nI_clamp (n := N 2 + 1) (by omega)
  have w16 := vin (j := N 2 + 1) (n := 21) (by omega) (by decide)
  have e20 := nI_clamp (n := 20 * (N 2 + 1) + i) (by omega)
  have w20 := vin (j := 20 * (N 2 + 1) + i) (n := 420) (by omega) (by decide)
  have hmS : mS ν (nI i) (nI p) = u2 (u2 (u2 ν 28 p 0) 20 (20 * (N 2 + 1) + i) (nI p)) 18 (N 2 + 1) (nI (i + 1)) := by
    unfold mS
    rw [v16, ep, e16, e_20, e20, R6, nI_1, show vp_nar .boolean 0 = 0 by decide]
  refine ⟨?_, ?_, ?_⟩
  · rw [hcS, hmS]
    have q4 : ∀ a, a ≠ 4 → a ≠ 5 → a ≠ 17 → ur (u3 (u3 G 17 0 i (nI p)) 5 p 2 1) 4 0 (va_cpy (G 4 0) (G 4 0) (r + 1) r ((fl F 0 (N 0)).length - 1 - r)) a = G a := fun a a4 a5 a17 => by
      rw [ur_ne a4, u3_ne a5, u3_ne a17]
    have q17 : ur (u3 (u3 G 17 0 i (nI p)) 5 p 2 1) 4 0 (va_cpy (G 4 0) (G 4 0) (r + 1) r ((fl F 0 (N 0)).length - 1 - r)) 17 0 = upd (G 17 0) i (nI p) := by
      rw [ur_ne (by decide), u3_ne (by decide), u3_s]
    have q5 : ur (u3 (u3 G 17 0 i (nI p)) 5 p 2 1) 4 0 (va_cpy (G 4 0) (G 4 0) (r + 1) r ((fl F 0 (N 0)).length - 1 - r)) 5 = u3 (u3 G 17 0 i (nI p)) 5 p 2 1 5 := ur_ne (by decide)
    have q40 : ur (u3 (u3 G 17 0 i (nI p)) 5 p 2 1) 4 0 (va_cpy (G 4 0) (G 4 0) (r + 1) r ((fl F 0 (N 0)).length - 1 - r)) 4 0 = va_cpy (G 4 0) (G 4 0) (r + 1) r ((fl F 0 (N 0)).length - 1 - r) := by simp [ur]
    have hold : ∀ j, j < i → G 17 0 j ≠ nI p := fun j hj e => by
      obtain ⟨v, hv, e1, _, e3, _⟩ := R11 j hj
      rw [e1] at e
      have : v = p := (nI_eq (by omega) (by omega)).mp e
      rw [this, hmem.2] at e3
      exact absurd e3 (by decide)
    refine ⟨?_, ?_, ?_, ?_, ?_, ?_, ?_, ?_, ?_, ?_, ?_, ?_, ?_⟩
    · intro a a4 a5 a17
      rw [q4 a a4 a5 a17]; exact R1 a a4 a5 a17
    · intro a a18 a20 a28
      rw [u2_ne a18, u2_ne a20, u2_ne a28]; exact R2 a a18 a20 a28
    · intro a x hx
      rw [q5, u3_j hx, u3_ne (by decide)]; exact R3 a x hx
    · intro x hx
      rw [u2_ne (by decide), u2_s, pk_un (by omega), u2_ne (by decide)]; exact R4 x hx
    · intro x hx
      rw [u2_s, pk_un hx, u2_ne (by decide), u2_ne (by decide)]; exact R5 x hx
    · rw [u2_s, pk_us]
    · intro j l hj
      rw [fl_er hp, List.getElem?_eraseIdx] at hj
      rw [q40]
      by_cases c1 : j < r
      · rw [if_pos c1] at hj
        rw [pk_cpy_out (by omega)]; exact R7 j l hj
      · rw [if_neg c1] at hj
        have hjl : j + 1 < (fl F 0 (N 0)).length := by
          rcases Nat.lt_or_ge (j + 1) (fl F 0 (N 0)).length with h | h
          · exact h
          · rw [List.getElem?_eq_none h] at hj; exact absurd hj (by simp)
        rw [pk_cpy_in (by omega) (by omega), show r + 1 + (j - r) = j + 1 by omega]
        exact R7 (j + 1) l hj
    · intro a ha
      rw [u2_ne (by decide), u2_ne (by decide), u2_s]
      by_cases e : a = p
      · subst e; rw [pk_us]; simp
      · rw [pk_un e, R8 a ha]
        simp [e]
    · rw [fl_er hp, List.length_eraseIdx, if_pos hr]; omega
    · intro a ha
      have : F a = true := by
        simp only [Bool.and_eq_true] at ha
        exact ha.1
      exact R10 a this
    · intro j hj
      by_cases e : j = i
      · subst e
        refine ⟨p, hp0, ?_, ?_, ?_, R10 p hmem.2⟩
        · rw [q17, pk_us]
        · rw [u2_ne (by decide), u2_s, pk_us]
        · simp
      · obtain ⟨v, hv, e1, e2, e3, e4⟩ := R11 j (by omega)
        refine ⟨v, hv, ?_, ?_, ?_, e4⟩
        · rw [q17, pk_un e]; exact e1
        · rw [u2_ne (by decide), u2_s, pk_un (by omega), u2_ne (by decide)]; exact e2
        · simp [e3]
    · intro a b ha hb h
      rw [q17] at h
      by_cases e1 : a = i
      · by_cases e2 : b = i
        · rw [e1, e2]
        · rw [e1, pk_us, pk_un e2] at h
          exact absurd h.symm (hold b (by omega))
      · by_cases e2 : b = i
        · rw [e2, pk_us, pk_un e1] at h
          exact absurd h (hold a (by omega))
        · rw [pk_un e1, pk_un e2] at h
          exact R12 a b (by omega) (by omega) h
    · intro a ha
      rw [q5, q17]
      by_cases e : a = p
      · subst e
        rw [u3_s, pk_us]
        exact Or.inl ⟨rfl, i, by omega, pk_us⟩
      · rw [u3_r e, u3_ne (by decide)]
        rcases R13 a ha with ⟨h1, j, h2, h3⟩ | ⟨h1, h2⟩
        · exact Or.inl ⟨h1, j, by omega, by rw [pk_un (by omega)]; exact h3⟩
        · refine Or.inr ⟨h1, fun j hj => ?_⟩
          by_cases e2 : j = i
          · subst e2
            rw [pk_us]
            exact fun q => e ((nI_eq (by omega) (by omega)).mp q).symm
          · rw [pk_un e2]; exact h2 j (by omega)
  · intro R hR'
    unfold cK
    rw [ei, er, eg, e17, ep, er1, em, em2]
    have g0 : G 0 0 0 = nI (N 0) := by rw [R1 0 (by decide) (by decide) (by decide)]; exact s0
    have pk := pn_k (g := u3 G 17 0 i (nI p)) hN0 g0 hp0
    rw [ep] at pk
    refine ⟨vr, vi, vi, pk.1, pk.2.1, pk.2.2, ?_, nI_pos (by omega), nI_pos (by omega), by omega, by omega, hR'⟩
    rw [nI_1]; exact nI_pos (by omega)
  · intro R hR'
    unfold mK
    rw [v16, e_20]
    exact ⟨vp, w20, w16, w16, hR'⟩
theorem lp_ch {g : Nat → Nat → Nat → Int32} {N : Nat → Nat} {μ : Nat → Nat → Int32} {F0 : Nat → Bool} {free many K : Nat} {x1 y1 : Int32} {sd : Int64} (hN0 : N 0 ≤ 20) (hN2 : N 2 < 20) (s0 : g 0 0 0 = nI (N 0)) (r0 : μ 3 0 = nI (N 0)) (r16 : μ 16 0 = nI (N 2 + 1)) (h5 : ∀ p, p < N 0 → g 5 p 1 = μ 5 p) (hK : K ≤ 20) (hK1 : K ≤ many) (hm : many ≤ 20) (hK2 : K ≤ free) (hK3 : K = many ∨ K = free) : ∀ (d i f : Nat) (x7 x6 : Int64) (F : Nat → Bool) (G : Nat → Nat → Nat → Int32) (ν : Nat → Nat → Int32), i + d = K → chR g N μ F0 free i F G ν → (lg_cmp sd 0 = 0 ∨ x7 = x6) → ∃ F' G' ν', chR g N μ F0 free K F' G' ν' ∧ kC_chooseCandidates_14 kC_chooseCandidates_14x (f + d + 1) x1 (nI K) sd (nI (fl F 0 (N 0)).length) x7 (nI i) G N K ∧ fC_chooseCandidates_14 fC_chooseCandidates_14x (f + d + 1) x1 (nI K) sd (nI (fl F 0 (N 0)).length) x7 (nI i) G N K = G' ∧ kM_round_177 kM_round_177x (f + d + 1) y1 (nI many) sd (nI (fl F 0 (N 0)).length) x6 (nI i) ν ∧ fM_round_177 fM_round_177x (f + d + 1) y1 (nI many) sd (nI (fl F 0 (N 0)).length) x6 (nI i) ν = (nI (N 2 + 1), ν') := by
  intro d
  induction d with
  | zero =>
    intro i f x7 x6 F G ν hi hR hx
    have e : i = K := by omega
    subst e
    have hlen := fl_len (F := F) (s := 0) (n := N 0)
    have h1 : nI i ≤ nI i := Int32.le_refl _
    have v16 : ν 16 0 = nI (N 2 + 1) := by rw [hR.2.1 16 (by decide) (by decide) (by decide)]; exact r16
    have h9 := hR.2.2.2.2.2.2.2.2.1
    refine ⟨F, G, ν, hR, ?_, ?_, ?_, ?_⟩
    · rw [kC_ch]
      exact ⟨fun _ => trivial, fun h => absurd h1 h⟩
    · rw [fC_ch, if_pos h1]; rfl
    · rw [kM_ch]
      refine ⟨fun _ => trivial, fun h => ⟨fun _ => trivial, fun h2 => ?_⟩⟩
      rcases hK3 with e | e
      · exact absurd ((nI_leI (by omega) (by omega)).mpr (by omega)) h
      · have : (fl F 0 (N 0)).length = 0 := by omega
        rw [this] at h2
        exact absurd (show nI 0 ≤ 0 by decide) h2
    · rw [fM_ch]
      by_cases c1 : nI many ≤ nI i
      · rw [if_pos c1]
        show (ν 16 0, ν) = _
        rw [v16]
      · rw [if_neg c1]
        have c2 : nI (fl F 0 (N 0)).length ≤ 0 := by
          rcases hK3 with e | e
          · exact absurd ((nI_leI (by omega) (by omega)).mpr (by omega)) c1
          · have : (fl F 0 (N 0)).length = 0 := by omega
            rw [this]; decide
        rw [if_pos c2]
        show (ν 16 0, ν) = _
        rw [v16]
  | succ d ih =>
    intro i f x7 x6 F G ν hi hR hx
    have hlen := fl_len (F := F) (s := 0) (n := N 0)
    have h9 := hR.2.2.2.2.2.2.2.2.1
    have hpos : 0 < (fl F 0 (N 0)).length := by omega
    have h1 : ¬ nI K ≤ nI i := fun h => absurd ((nI_leI (by omega) (by omega)).mp h) (by omega)
    have h2 : ¬ nI (fl F 0 (N 0)).length ≤ 0 := nI_nle hpos (by omega)
    have h3 : ¬ nI many ≤ nI i := fun h => absurd ((nI_leI (by omega) (by omega)).mp h) (by omega)
    have g0 : G 0 0 0 = nI (N 0) := by rw [hR.1 0 (by decide) (by decide) (by decide)]; exact s0
    have v3 : ν 3 0 = nI (N 0) := by rw [hR.2.1 3 (by decide) (by decide) (by decide)]; exact r0
    have g5 : ∀ p, p < N 0 → G 5 p 1 = ν 5 p := fun p hp => by
      rw [hR.2.2.1 p 1 (by decide), hR.2.1 5 (by decide) (by decide) (by decide)]; exact h5 p hp
    have em : nI (fl F 0 (N 0)).length + -1 = nI ((fl F 0 (N 0)).length - 1) := by
      have := pk_m1 ((fl F 0 (N 0)).length - 1)
      rw [Nat.sub_add_cancel (by omega)] at this
      exact this
    rw [show f + (d + 1) + 1 = (f + d + 1) + 1 by omega]
    by_cases c0 : lg_cmp sd 0 = 0
    · obtain ⟨r, p, hr, hp, k1, f1, k2, f2⟩ := rank_both (G := G) (N := N) (F := F) (ν := ν) hN0 g0 v3 hR.2.2.2.2.2.2.2.1 hR.2.2.2.2.2.2.1 g5 hpos
      obtain ⟨hR', cKo, mKo⟩ := ch_step hN0 hN2 s0 r16 (show i < K by omega) hK hR hr hp
      obtain ⟨F', G', ν', w1, w2, w3, w4, w5⟩ := ih (i + 1) f x7 ((x6 * 6364136223846793005) + 1442695040888963407) _ _ _ (by omega) hR' (Or.inl c0)
      rw [fl_er hp, List.length_eraseIdx, if_pos hr, ← em] at w2 w3 w4 w5
      generalize f + d + 1 = f9 at w2 w3 w4 w5 ⊢
      refine ⟨F', G', ν', w1, ?_, ?_, ?_, ?_⟩
      · rw [kC_ch, f1, nI_1]
        exact ⟨fun h => absurd h h1, fun _ => ⟨fun h => absurd h h2, fun _ => ⟨fun _ => ⟨k1, cKo _ w2⟩, fun h => absurd c0 h⟩⟩⟩
      · rw [fC_ch, if_neg h1, if_neg h2, if_pos c0, f1, nI_1]
        exact w3
      · rw [kM_ch, f2, nI_1]
        exact ⟨fun h => absurd h h3, fun _ => ⟨fun h => absurd h h2, fun _ => ⟨fun _ => ⟨k2, mKo _ w4⟩, fun h => absurd c0 h⟩⟩⟩
      · rw [fM_ch, if_neg h3, if_neg h2, if_pos c0, f2, nI_1]
        exact w5
    · have ex : x7 = x6 := hx.resolve_left c0
      subst ex
      obtain ⟨r, hr, er⟩ := rnd_i x7 hpos (by omega)
      have er' : rn x7 (nI (fl F 0 (N 0)).length) = nI r := er
      have hp := List.getElem?_eq_getElem (l := fl F 0 (N 0)) (i := r) hr
      generalize (fl F 0 (N 0))[r] = p at hp
      obtain ⟨k2, f2⟩ := lp_bn (x := nI r) hN0 v3 hR.2.2.2.2.2.2.2.1 (N 0) 0 (199 - N 0) r (by omega) (by omega)
      rw [show 199 - N 0 + N 0 + 1 = 200 by omega, hp] at f2
      rw [show 199 - N 0 + N 0 + 1 = 200 by omega] at k2
      have f2' : fM_byNumber (nI r) ν = nI p := f2
      have k2' : kM_byNumber (nI r) ν := k2
      have z64 : ¬ (nI (fl F 0 (N 0)).length).toInt64 = 0 := by
        rw [nI_l (by omega)]
        intro h
        have h' : lN (fl F 0 (N 0)).length = lN 0 := h
        have := (lN_eq (by omega) (by decide)).mp h'
        omega
      obtain ⟨hR', cKo, mKo⟩ := ch_step hN0 hN2 s0 r16 (show i < K by omega) hK hR hr hp
      obtain ⟨F', G', ν', w1, w2, w3, w4, w5⟩ := ih (i + 1) f ((x7 * 6364136223846793005) + 1442695040888963407) ((x7 * 6364136223846793005) + 1442695040888963407) _ _ _ (by omega) hR' (Or.inr rfl)
      rw [fl_er hp, List.length_eraseIdx, if_pos hr, ← em] at w2 w3 w4 w5
      generalize f + d + 1 = f9 at w2 w3 w4 w5 ⊢
      refine ⟨F', G', ν', w1, ?_, ?_, ?_, ?_⟩
      · rw [kC_ch, er', nI_1]
        exact ⟨fun h => absurd h h1, fun _ => ⟨fun h => absurd h h2, fun _ => ⟨fun h => absurd h c0, fun _ => ⟨z64, cKo _ w2⟩⟩⟩⟩
      · rw [fC_ch, if_neg h1, if_neg h2, if_neg c0, er', nI_1]
        exact w3
      · rw [kM_ch, er', f2', nI_1]
        exact ⟨fun h => absurd h h3, fun _ => ⟨fun h => absurd h h2, fun _ => ⟨fun h => absurd h c0, fun _ => ⟨z64, k2', mKo _ w4⟩⟩⟩⟩
      · rw [fM_ch, if_neg h3, if_neg h2, if_neg c0, er', f2', nI_1]
        exact w5
