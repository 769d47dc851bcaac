/-! PURE: round, who is free -/
theorem rnd_i (x : Int64) {n : Nat} (h0 : 0 < n) (hn : n ≤ 20) : ∃ r : Nat, r < n ∧ ((((((x * 6364136223846793005) + 1442695040888963407).toUInt64 >>> ((33 : Int32).toInt64.toUInt64 &&& Int64.toUInt64 63)).toInt64) - ((((x * 6364136223846793005) + 1442695040888963407).toUInt64 >>> ((33 : Int32).toInt64.toUInt64 &&& Int64.toUInt64 63)).toInt64) / (nI n).toInt64 * (nI n).toInt64).toInt32) = nI r := by
  generalize ((x * 6364136223846793005) + 1442695040888963407).toUInt64 = u
  have es : ((33 : Int32).toInt64.toUInt64 &&& Int64.toUInt64 63) = 33 := by decide
  rw [es]
  have hv : (u >>> 33).toNat < 2 ^ 63 := by
    rw [UInt64.toNat_shiftRight]
    have h1 : (33 : UInt64).toNat % 64 = 33 := by decide
    rw [h1, Nat.shiftRight_eq_div_pow]
    have := u.toNat_lt
    omega
  have hu : (u >>> 33).toInt64 = lN (u >>> 33).toNat := by
    show (u >>> 33).toInt64 = Int64.ofNat (u >>> 33).toNat
    have : Int64.ofNat (u >>> 33).toNat = (UInt64.ofNat (u >>> 33).toNat).toInt64 := rfl
    rw [this, UInt64.ofNat_toNat]
  rw [hu, nI_l (by omega), pk_lRem hv h0 (by omega)]
  have hlt := Nat.mod_lt (u >>> 33).toNat h0
  refine ⟨(u >>> 33).toNat % n, hlt, ?_⟩
  generalize (u >>> 33).toNat % n = m at hlt
  show (Int64.ofNat m).toInt32 = Int32.ofNat m
  rw [Int64.toInt32_ofNat']

def bz (N2 : Nat) (z : Nat → Nat) (st mb : Nat → Nat → Int32) (c0 : Nat) (x : Int32) : Prop := ∃ c j, c0 ≤ c ∧ c < N2 ∧ j < z c ∧ st c 2 ≠ 2 ∧ mb c j = x
theorem lp_12 {O E : Int32 → Int32 → (Nat → Nat → Int32) → Int32} {KO KE : Int32 → Int32 → (Nat → Nat → Int32) → Prop} {c z : Nat} {mb : Nat → Int32} {ν : Nat → Nat → Int32} {x : Int32} (hc : c < 20) (hz : z ≤ 20) (r18 : ν 18 (c + 1) = nI z) (r17 : ν 17 (c + 1) ≠ 2) (hm : ∀ j, j < z → mb j = ν 20 (20 * (c + 1) + j)) : ∀ (d j f : Nat), j + d = z → (KO x (nI (c + 2)) ν → kM_isBusy_12 KO KE (kM_isBusy_12x KO KE) (f + d + 1) x (nI (c + 1)) (nI j) ν) ∧ ((∃ i, i < z ∧ mb i = x ∧ fM_isBusy_12 O E (fM_isBusy_12x O E) (f + d + 1) x (nI (c + 1)) (nI j) ν = 1) ∨ ((∀ i, j ≤ i → i < z → mb i ≠ x) ∧ fM_isBusy_12 O E (fM_isBusy_12x O E) (f + d + 1) x (nI (c + 1)) (nI j) ν = O x (nI (c + 2)) ν)) := by
  have c1 := nI_clamp (n := c + 1) (by omega)
  have v1 := vin (j := c + 1) (n := 21) (by omega) (by decide)
  intro d
  induction d with
  | zero =>
    intro j f hj
    have h1 : nI z ≤ nI j := (nI_leI (by omega) (by omega)).mpr (by omega)
    refine ⟨fun h => ?_, Or.inr ⟨fun i _ _ => by omega, ?_⟩⟩
    · simpa [kM_isBusy_12, kM_isBusy_12x, c1, v1, r18, h1, nI_1] using h
    · simp [fM_isBusy_12, fM_isBusy_12x, c1, r18, h1, nI_1]
  | succ d ih =>
    intro j f hj
    have h1 : ¬ nI z ≤ nI j := fun h => absurd ((nI_leI (by omega) (by omega)).mp h) (by omega)
    have h20 := nI_clamp (n := 20 * (c + 1) + j) (by omega)
    have v20 := vin (j := 20 * (c + 1) + j) (n := 420) (by omega) (by decide)
    have hmj := hm j (by omega)
    obtain ⟨i1, i2⟩ := ih (j + 1) f (by omega)
    rw [show f + (d + 1) + 1 = (f + d + 1) + 1 by omega]
    generalize f + d + 1 = f9 at i1 i2 ⊢
    by_cases b : ν 20 (20 * (c + 1) + j) = x
    · refine ⟨fun _ => ?_, Or.inl ⟨j, by omega, by rw [hmj, b], ?_⟩⟩
      · simp [kM_isBusy_12, c1, v1, r18, r17, h1, e_20, h20, v20, b]
      · simp [fM_isBusy_12, c1, r18, r17, h1, e_20, h20, b]
    · have e2 : fM_isBusy_12 O E (fM_isBusy_12x O E) (f9 + 1) x (nI (c + 1)) (nI j) ν = fM_isBusy_12 O E (fM_isBusy_12x O E) f9 x (nI (c + 1)) (nI (j + 1)) ν := by
        simp [fM_isBusy_12, c1, r18, r17, h1, e_20, h20, b, nI_1]
      rw [e2]
      refine ⟨fun h => ?_, ?_⟩
      · simpa [kM_isBusy_12, c1, v1, r18, r17, h1, e_20, h20, v20, b, nI_1] using i1 h
      · rcases i2 with i2 | ⟨i2, i3⟩
        · exact Or.inl i2
        · refine Or.inr ⟨fun i hi hi2 => ?_, i3⟩
          by_cases e : i = j
          · subst e; rw [hmj]; exact b
          · exact i2 i (by omega) hi2
theorem bz_x {O E : Int32 → Int32 → (Nat → Nat → Int32) → Int32} {KO KE : Int32 → Int32 → (Nat → Nat → Int32) → Prop} {c z : Nat} {ν : Nat → Nat → Int32} {x : Int32} (hc : c < 20) (hz : z ≤ 20) (hz1 : 1 ≤ z) (r18 : ν 18 (c + 1) = nI z) (r17 : ν 17 (c + 1) = 2) (f : Nat) : (KO x (nI (c + 2)) ν → kM_isBusy_12 KO KE (kM_isBusy_12x KO KE) (f + 1) x (nI (c + 1)) 0 ν) ∧ fM_isBusy_12 O E (fM_isBusy_12x O E) (f + 1) x (nI (c + 1)) 0 ν = O x (nI (c + 2)) ν := by
  have c1 := nI_clamp (n := c + 1) (by omega)
  have v1 := vin (j := c + 1) (n := 21) (by omega) (by decide)
  have h1 : ¬ nI z ≤ 0 := nI_nle (by omega) (by omega)
  refine ⟨fun h => ?_, ?_⟩
  · simpa [kM_isBusy_12, kM_isBusy_12x, c1, v1, r18, r17, h1, nI_1] using h
  · simp [fM_isBusy_12, fM_isBusy_12x, c1, r18, r17, h1, nI_1]
theorem lp_bz {N0 N2 : Nat} {z : Nat → Nat} {st mb : Nat → Nat → Int32} {ν : Nat → Nat → Int32} {x : Int32} (hN : N2 ≤ 20) (r2 : ν 16 0 = nI N2) (hH : ∀ c, c < N2 → iH N0 (z c) (st c) (mb c) (ν 17 (c + 1)) (ν 18 (c + 1)) (ν 19 (c + 1)) (fun j => ν 20 (20 * (c + 1) + j))) : ∀ (d c f : Nat), c + d = N2 → kM_isBusy_2 kM_isBusy_2x (f + d + 1) x (nI (c + 1)) ν ∧ ((bz N2 z st mb c x ∧ fM_isBusy_2 fM_isBusy_2x (f + d + 1) x (nI (c + 1)) ν = 1) ∨ (¬ bz N2 z st mb c x ∧ fM_isBusy_2 fM_isBusy_2x (f + d + 1) x (nI (c + 1)) ν = 0)) := by
  intro d
  induction d with
  | zero =>
    intro c f hc
    have h1 : nI N2 < nI (c + 1) := (nI_ltI (by omega) (by omega)).mpr (by omega)
    refine ⟨?_, Or.inr ⟨fun ⟨a, j, h1, h2, _⟩ => by omega, ?_⟩⟩
    · simp [kM_isBusy_2, kM_isBusy_2x, r2, h1]
    · simp [fM_isBusy_2, fM_isBusy_2x, r2, h1]
  | succ d ih =>
    intro c f hc
    have h1 : ¬ nI N2 < nI (c + 1) := fun h => absurd ((nI_ltI (by omega) (by omega)).mp h) (by omega)
    obtain ⟨⟨z1, z2⟩, hz, ⟨s, hs, hs1, hs2⟩, _, hmb⟩ := hH c (by omega)
    have hm : ∀ j, j < z c → mb c j = ν 20 (20 * (c + 1) + j) := fun j hj => by
      obtain ⟨v, _, e1, e2⟩ := hmb j hj
      rw [e1]; exact e2.symm
    obtain ⟨i1, i2⟩ := ih (c + 1) f (by omega)
    rw [show f + (d + 1) + 1 = (f + d + 1) + 1 by omega]
    generalize f + d + 1 = f9 at i1 i2 ⊢
    have ek : ∀ K, kM_isBusy_12 (kM_isBusy_2 kM_isBusy_2x f9) kM_isBusy_2x (kM_isBusy_12x (kM_isBusy_2 kM_isBusy_2x f9) kM_isBusy_2x) 200 x (nI (c + 1)) 0 ν → (K = kM_isBusy_2 kM_isBusy_2x (f9 + 1) x (nI (c + 1)) ν) → K := by
      intro K h e
      rw [e]
      refine ⟨fun q => ?_, fun _ => h⟩
      rw [r2] at q
      exact absurd q h1
    have ef : fM_isBusy_2 fM_isBusy_2x (f9 + 1) x (nI (c + 1)) ν = fM_isBusy_12 (fM_isBusy_2 fM_isBusy_2x f9) fM_isBusy_2x (fM_isBusy_12x (fM_isBusy_2 fM_isBusy_2x f9) fM_isBusy_2x) 200 x (nI (c + 1)) 0 ν := by
      show (if ν 16 0 < nI (c + 1) then _ else _) = _
      rw [r2, if_neg h1]
    rw [ef]
    by_cases b : ν 17 (c + 1) = 2
    · obtain ⟨a1, a2⟩ := bz_x (O := fM_isBusy_2 fM_isBusy_2x f9) (E := fM_isBusy_2x) (KO := kM_isBusy_2 kM_isBusy_2x f9) (KE := kM_isBusy_2x) (x := x) (by omega) z2 z1 hz b 199
      refine ⟨ek _ (a1 i1) rfl, ?_⟩
      rw [a2]
      have hst : st c 2 = 2 := by rw [hs1, ← hs2]; exact b
      rcases i2 with ⟨⟨a, j, q1, q2, q3, q4, q5⟩, i3⟩ | ⟨i2, i3⟩
      · exact Or.inl ⟨⟨a, j, by omega, q2, q3, q4, q5⟩, i3⟩
      · refine Or.inr ⟨fun ⟨a, j, q1, q2, q3, q4, q5⟩ => i2 ⟨a, j, ?_, q2, q3, q4, q5⟩, i3⟩
        have : a ≠ c := fun e => q4 (by rw [e]; exact hst)
        omega
    · obtain ⟨a1, a2⟩ := lp_12 (O := fM_isBusy_2 fM_isBusy_2x f9) (E := fM_isBusy_2x) (KO := kM_isBusy_2 kM_isBusy_2x f9) (KE := kM_isBusy_2x) (x := x) (c := c) (z := z c) (mb := mb c) (by omega) z2 hz b hm (z c) 0 (199 - z c) (by omega)
      rw [show 199 - z c + z c + 1 = 200 by omega, show nI 0 = 0 from rfl] at a1 a2
      have hst : st c 2 ≠ 2 := by rw [hs1, ← hs2]; exact b
      refine ⟨ek _ (a1 i1) rfl, ?_⟩
      rcases a2 with ⟨i, q1, q2, q3⟩ | ⟨q1, q2⟩
      · exact Or.inl ⟨⟨c, i, Nat.le_refl _, by omega, q1, hst, q2⟩, q3⟩
      · rw [q2]
        rcases i2 with ⟨⟨a, j, p1, p2, p3, p4, p5⟩, i3⟩ | ⟨i2, i3⟩
        · exact Or.inl ⟨⟨a, j, by omega, p2, p3, p4, p5⟩, i3⟩
        · refine Or.inr ⟨fun ⟨a, j, p1, p2, p3, p4, p5⟩ => ?_, i3⟩
          by_cases e : a = c
          · subst e; exact q1 j (by omega) p3 p5
          · exact i2 ⟨a, j, by omega, p2, p3, p4, p5⟩
theorem bz_M {N0 N2 : Nat} {z : Nat → Nat} {st mb : Nat → Nat → Int32} {ν : Nat → Nat → Int32} (x : Int32) (hN : N2 ≤ 20) (r2 : ν 16 0 = nI N2) (hH : ∀ c, c < N2 → iH N0 (z c) (st c) (mb c) (ν 17 (c + 1)) (ν 18 (c + 1)) (ν 19 (c + 1)) (fun j => ν 20 (20 * (c + 1) + j))) : kM_isBusy x ν ∧ ((bz N2 z st mb 0 x ∧ fM_isBusy x ν = 1) ∨ (¬ bz N2 z st mb 0 x ∧ fM_isBusy x ν = 0)) := by
  have h := lp_bz (x := x) hN r2 hH N2 0 (199 - N2) (by omega)
  rw [show 199 - N2 + N2 + 1 = 200 by omega] at h
  exact h
def um8 (μ : Nat → Nat → Int32) (F : Nat → Int32) : Nat → Nat → Int32 := fun k => if k = 28 then F else μ k
theorem um8_ne {μ : Nat → Nat → Int32} {F : Nat → Int32} {k : Nat} (h : k ≠ 28) : um8 μ F k = μ k := if_neg h
theorem um8_u {μ : Nat → Nat → Int32} {F : Nat → Int32} {j : Nat} {v : Int32} : u2 (um8 μ F) 28 j v = um8 μ (upd F j v) := by
  funext k
  by_cases h : k = 28
  · subst h; rw [u2_s]; rfl
  · rw [u2_ne h, um8_ne h, um8_ne h]
theorem um8_0 {μ : Nat → Nat → Int32} : um8 μ (μ 28) = μ := by
  funext k
  by_cases h : k = 28
  · subst h; rfl
  · rw [um8_ne h]
theorem ur_u4 {g : Nat → Nat → Nat → Int32} {l : Nat} {F : Nat → Int32} {v : Int32} : u3 (ur g 4 0 F) 4 0 l v = ur g 4 0 (upd F l v) := by
  funext k
  by_cases h : k = 4
  · subst h
    funext i
    by_cases e : i = 0
    · subst e; rw [u3_s]; simp [ur]
    · rw [u3_r e]; simp [ur, e]
  · rw [u3_ne h, ur_ne h, ur_ne h]
theorem ur_04 {g : Nat → Nat → Nat → Int32} : ur g 4 0 (g 4 0) = g := by
  funext k
  by_cases h : k = 4
  · subst h
    funext i
    by_cases e : i = 0
    · subst e; simp [ur]
    · simp [ur, e]
  · rw [ur_ne h]
/-- the free places of a kind -/
def frF (p : Nat → Nat → Int32) (x : Int32) : Nat → Bool := fun i => decide (p i 2 = 0 ∧ (x = -1 ∨ p i 0 = x))
theorem lp_ga {g : Nat → Nat → Nat → Int32} {N : Nat → Nat} {x : Int32} (hN : N 0 ≤ 20) (s0 : g 0 0 0 = nI (N 0)) : ∀ (d p f : Nat) (C : Nat → Int32), p + d = N 0 → (∀ i l, (fl (frF (g 5) x) 0 p)[i]? = some l → C i = nI l) → ∃ C' : Nat → Int32, (∀ i l, (fl (frF (g 5) x) 0 (N 0))[i]? = some l → C' i = nI l) ∧ kC_gatherCandidates_4 kC_gatherCandidates_4x (f + d + 1) x (nI (fl (frF (g 5) x) 0 p).length) (nI p) (ur g 4 0 C) N ∧ fC_gatherCandidates_4 fC_gatherCandidates_4x (f + d + 1) x (nI (fl (frF (g 5) x) 0 p).length) (nI p) (ur g 4 0 C) N = (nI (fl (frF (g 5) x) 0 (N 0)).length, ur g 4 0 C') := by
  intro d
  induction d with
  | zero =>
    intro p f C hp hC
    have h1 : nI (N 0) ≤ nI p := (nI_leI (by omega) (by omega)).mpr (by omega)
    have e : p = N 0 := by omega
    subst e
    have e0 : ur g 4 0 C 0 0 0 = nI (N 0) := s0
    refine ⟨C, hC, ?_, ?_⟩
    · simp [kC_gatherCandidates_4, kC_gatherCandidates_4x, e0, h1]
    · simp [fC_gatherCandidates_4, fC_gatherCandidates_4x, e0, h1]
  | succ d ih =>
    intro p f C hp hC
    have h1 : ¬ nI (N 0) ≤ nI p := fun h => absurd ((nI_leI (by omega) (by omega)).mp h) (by omega)
    have e0 : ur g 4 0 C 0 0 0 = nI (N 0) := s0
    have ep := nI_clamp (n := p) (by omega)
    have k1 := pn_k (g := ur g 4 0 C) hN s0 (i := p) (by omega)
    rw [ep, e0] at k1
    have hlen := fl_len (F := frF (g 5) x) (s := 0) (n := p)
    have el := nI_clamp (n := (fl (frF (g 5) x) 0 p).length) (by omega)
    have vl := vin (j := (fl (frF (g 5) x) 0 p).length) (n := 20) (by omega) (by decide)
    have e5 : ∀ y, ur g 4 0 C 5 p y = g 5 p y := fun _ => rfl
    have hp' : p < N 0 := by omega
    rw [show f + (d + 1) + 1 = (f + d + 1) + 1 by omega]
    by_cases b : g 5 p 2 = 0 ∧ (x = -1 ∨ g 5 p 0 = x)
    · have hF : frF (g 5) x p = true := decide_eq_true b
      have I := ih (p + 1) f (upd C (fl (frF (g 5) x) 0 p).length (nI p)) (by omega) (by
        rw [fl_cy hF]
        intro i l hi
        by_cases e : i < (fl (frF (g 5) x) 0 p).length
        · rw [List.getElem?_append_left e] at hi
          rw [pk_un (by omega)]
          exact hC i l hi
        · rw [List.getElem?_append_right (by omega)] at hi
          by_cases e2 : i = (fl (frF (g 5) x) 0 p).length
          · subst e2
            rw [Nat.sub_self] at hi
            have : p = l := by simpa using hi
            rw [pk_us, this]
          · rw [List.getElem?_eq_none (by simp only [List.length_singleton]; omega)] at hi
            exact absurd hi (by simp))
      rw [fl_cy hF, List.length_append, List.length_singleton, ← ur_u4] at I
      generalize f + d + 1 = f9 at I ⊢
      obtain ⟨C', a1, a2, a3⟩ := I
      refine ⟨C', a1, ?_, ?_⟩
      · by_cases b2 : x = -1
        · subst b2
          simpa [kC_gatherCandidates_4, e0, h1, ep, k1, e5, b.1, el, vl, hp', nI_1] using a2
        · have b3 : g 5 p 0 = x := b.2.resolve_left b2
          simpa [kC_gatherCandidates_4, e0, h1, ep, k1, e5, b.1, b2, b3, el, vl, hp', nI_1] using a2
      · rw [← a3]
        by_cases b2 : x = -1
        · subst b2
          simp [fC_gatherCandidates_4, e0, h1, ep, e5, b.1, el, nI_1]
        · have b3 : g 5 p 0 = x := b.2.resolve_left b2
          simp [fC_gatherCandidates_4, e0, h1, ep, e5, b.1, b2, b3, el, nI_1]
    · have hF : frF (g 5) x p = false := decide_eq_false b
      have I := ih (p + 1) f C (by omega) (by rw [fl_cn hF]; exact hC)
      rw [fl_cn hF] at I
      generalize f + d + 1 = f9 at I ⊢
      obtain ⟨C', a1, a2, a3⟩ := I
      refine ⟨C', a1, ?_, ?_⟩
      · by_cases b1 : g 5 p 2 = 0
        · have b2 : ¬ x = -1 := fun e => b ⟨b1, Or.inl e⟩
          have b3 : ¬ g 5 p 0 = x := fun e => b ⟨b1, Or.inr e⟩
          simpa [kC_gatherCandidates_4, e0, h1, ep, k1, e5, b1, b2, b3, hp', nI_1] using a2
        · simpa [kC_gatherCandidates_4, e0, h1, ep, k1, e5, b1, hp', nI_1] using a2
      · rw [← a3]
        by_cases b1 : g 5 p 2 = 0
        · have b2 : ¬ x = -1 := fun e => b ⟨b1, Or.inl e⟩
          have b3 : ¬ g 5 p 0 = x := fun e => b ⟨b1, Or.inr e⟩
          simp [fC_gatherCandidates_4, e0, h1, ep, e5, b1, b2, b3, nI_1]
        · simp [fC_gatherCandidates_4, e0, h1, ep, e5, b1, nI_1]
theorem lp_43 {E : Int32 → Int32 → Int64 → Int32 → Int32 → (Nat → Nat → Int32) → Int32 × (Nat → Nat → Int32)} {KE : Int32 → Int32 → Int64 → Int32 → Int32 → (Nat → Nat → Int32) → Prop} {N0 N2 : Nat} {z : Nat → Nat} {P st mb : Nat → Nat → Int32} {μ : Nat → Nat → Int32} {x y : Int32} {sd : Int64} (hN : N0 ≤ 20) (hN2 : N2 ≤ 20) (r0 : μ 3 0 = nI N0) (r2 : μ 16 0 = nI N2) (hH : ∀ c, c < N2 → iH N0 (z c) (st c) (mb c) (μ 17 (c + 1)) (μ 18 (c + 1)) (μ 19 (c + 1)) (fun j => μ 20 (20 * (c + 1) + j))) (hT : iT N0 N2 z P st mb) (h4 : ∀ i, i < N0 → P i 0 = μ 4 i) : ∀ (d p f : Nat) (φ : Nat → Int32), p + d = N0 → (∀ q, q < p → φ q = if frF P x q then 1 else 0) → ∃ φ' : Nat → Int32, (∀ q, q < N0 → φ' q = if frF P x q then 1 else 0) ∧ (KE x y sd (nI (fl (frF P x) 0 N0).length) (nI N0) (um8 μ φ') → kM_round_43 KE (f + d + 1) x y sd (nI (fl (frF P x) 0 p).length) (nI p) (um8 μ φ)) ∧ fM_round_43 E (f + d + 1) x y sd (nI (fl (frF P x) 0 p).length) (nI p) (um8 μ φ) = E x y sd (nI (fl (frF P x) 0 N0).length) (nI N0) (um8 μ φ') := by
  have nb1 : vp_nar .boolean 1 = 1 := by decide
  have nb0 : vp_nar .boolean 0 = 0 := by decide
  intro d
  induction d with
  | zero =>
    intro p f φ hp hφ
    have h1 : nI N0 ≤ nI p := (nI_leI (by omega) (by omega)).mpr (by omega)
    have e : p = N0 := by omega
    subst e
    have e0 : um8 μ φ 3 0 = nI p := r0
    refine ⟨φ, hφ, fun h => ?_, ?_⟩
    · simpa [kM_round_43, e0, h1] using h
    · simp [fM_round_43, e0, h1]
  | succ d ih =>
    intro p f φ hp hφ
    have h1 : ¬ nI N0 ≤ nI p := fun h => absurd ((nI_leI (by omega) (by omega)).mp h) (by omega)
    have e0 : um8 μ φ 3 0 = nI N0 := r0
    have ep := nI_clamp (n := p) (by omega)
    have vp := vin (j := p) (n := 20) (by omega) (by decide)
    have e4 : um8 μ φ 4 p = P p 0 := (h4 p (by omega)).symm
    obtain ⟨kb, fb⟩ := bz_M (N0 := N0) (N2 := N2) (z := z) (st := st) (mb := mb) (ν := um8 μ φ) (nI p) hN2 r2 hH
    rw [show f + (d + 1) + 1 = (f + d + 1) + 1 by omega]
    have hbz : P p 2 = 0 ↔ fM_isBusy (nI p) (um8 μ φ) = 0 := by
      rcases hT.1 p (by omega) with ⟨q1, q2⟩ | ⟨q1, c, j, q2, q3, q4, q5⟩
      · rcases fb with ⟨⟨c, j, _, b2, b3, b4, b5⟩, _⟩ | ⟨_, fb⟩
        · exact absurd b5 (q2 c j b2 b3 b4)
        · exact ⟨fun _ => fb, fun _ => q1⟩
      · rcases fb with ⟨_, fb⟩ | ⟨b, _⟩
        · rw [q1, fb]
        · exact absurd ⟨c, j, Nat.zero_le _, q2, q3, q4, q5⟩ b
    have u1 : ∀ v, u2 (um8 μ φ) 28 p v 28 p = v := fun v => by rw [u2_s, pk_us]
    have n10 : ¬ (1 : Int32) = 0 := by decide
    by_cases b : P p 2 = 0 ∧ (x = -1 ∨ P p 0 = x)
    · have hF : frF P x p = true := decide_eq_true b
      have b0 := hbz.mp b.1
      have I := ih (p + 1) f (upd φ p 1) (by omega) (fun q hq => by
        by_cases e : q = p
        · subst e; rw [pk_us, hF]; rfl
        · rw [pk_un e]; exact hφ q (by omega))
      rw [fl_cy hF, List.length_append, List.length_singleton, ← um8_u] at I
      generalize f + d + 1 = f9 at I ⊢
      obtain ⟨φ', a1, a2, a3⟩ := I
      refine ⟨φ', a1, fun h => ?_, ?_⟩
      · have a2' := a2 h
        by_cases b2 : x = -1
        · simpa [kM_round_43, e0, h1, ep, vp, kb, b0, b2, nb1, u1, n10, nI_1] using b2 ▸ a2'
        · have b3 : P p 0 = x := b.2.resolve_left b2
          simpa [kM_round_43, e0, h1, ep, vp, kb, b0, b2, e4, b3, nb1, u1, n10, nI_1] using a2'
      · rw [← a3]
        by_cases b2 : x = -1
        · subst b2
          simp [fM_round_43, e0, h1, ep, b0, nb1, u1, n10, nI_1]
        · have b3 : P p 0 = x := b.2.resolve_left b2
          simp [fM_round_43, e0, h1, ep, b0, b2, e4, b3, nb1, u1, n10, nI_1]
    · have hF : frF P x p = false := decide_eq_false b
      have I := ih (p + 1) f (upd φ p 0) (by omega) (fun q hq => by
        by_cases e : q = p
        · subst e; rw [pk_us, hF]; rfl
        · rw [pk_un e]; exact hφ q (by omega))
      rw [fl_cn hF, ← um8_u] at I
      generalize f + d + 1 = f9 at I ⊢
      obtain ⟨φ', a1, a2, a3⟩ := I
      refine ⟨φ', a1, fun h => ?_, ?_⟩
      · have a2' := a2 h
        by_cases b2 : x = -1
        · have b0 : ¬ fM_isBusy (nI p) (um8 μ φ) = 0 := fun e => b ⟨hbz.mpr e, Or.inl b2⟩
          subst b2
          simpa [kM_round_43, e0, h1, ep, vp, kb, b0, nb0, u1, nI_1] using a2'
        · by_cases b3 : P p 0 = x
          · have b0 : ¬ fM_isBusy (nI p) (um8 μ φ) = 0 := fun e => b ⟨hbz.mpr e, Or.inr b3⟩
            simpa [kM_round_43, e0, h1, ep, vp, kb, b0, b2, e4, b3, nb0, u1, nI_1] using a2'
          · simpa [kM_round_43, e0, h1, ep, vp, kb, b2, e4, b3, nb0, u1, nI_1] using a2'
      · rw [← a3]
        by_cases b2 : x = -1
        · have b0 : ¬ fM_isBusy (nI p) (um8 μ φ) = 0 := fun e => b ⟨hbz.mpr e, Or.inl b2⟩
          subst b2
          simp [fM_round_43, e0, h1, ep, b0, nb0, u1, nI_1]
        · by_cases b3 : P p 0 = x
          · have b0 : ¬ fM_isBusy (nI p) (um8 μ φ) = 0 := fun e => b ⟨hbz.mpr e, Or.inr b3⟩
            simp [fM_round_43, e0, h1, ep, b0, b2, e4, b3, nb0, u1, nI_1]
          · simp [fM_round_43, e0, h1, ep, b2, e4, b3, nb0, u1, nI_1]
