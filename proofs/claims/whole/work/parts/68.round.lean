/-! PURE: round -/
theorem iC_add {N0 N2 : Nat} {z : Nat → Nat} {st mb nt pc ff sf ak co di : Nat → Nat → Int32} {m17 m18 m19 m20 m21 m22 m23 m24 m25 : Nat → Int32} {z' : Nat → Nat} {st' mb' nt' pc' ff' sf' ak' co' di' : Nat → Nat → Int32} {m17' m18' m19' m20' m21' m22' m23' m24' m25' : Nat → Int32} (h : iC N0 N2 z st mb nt pc ff sf ak co di m17 m18 m19 m20 m21 m22 m23 m24 m25) (hz : ∀ a, a < N2 → z' a = z a) (hg : ∀ a, a < N2 → st' a = st a ∧ mb' a = mb a ∧ nt' a = nt a ∧ pc' a = pc a ∧ ff' a = ff a ∧ sf' a = sf a ∧ ak' a = ak a ∧ co' a = co a ∧ di' a = di a) (hm : ∀ a, a < N2 → m17' (a + 1) = m17 (a + 1) ∧ m18' (a + 1) = m18 (a + 1) ∧ m19' (a + 1) = m19 (a + 1) ∧ (∀ j, j < 20 → m20' (20 * (a + 1) + j) = m20 (20 * (a + 1) + j))) (hl : m21' = m21 ∧ m22' = m22 ∧ m23' = m23 ∧ m24' = m24 ∧ m25' = m25) (hn : iH N0 (z' N2) (st' N2) (mb' N2) (m17' (N2 + 1)) (m18' (N2 + 1)) (m19' (N2 + 1)) (fun j => m20' (20 * (N2 + 1) + j)) ∧ iL (z' N2) (nt' N2) (pc' N2) (ff' N2) (sf' N2) (ak' N2) (co' N2) (fun l => m21' (120 * (N2 + 1) + l)) (fun l => m22' (120 * (N2 + 1) + l)) (fun l => m23' (120 * (N2 + 1) + l)) (fun l => m24' (120 * (N2 + 1) + l)) (fun l => m25' (120 * (N2 + 1) + l)) ∧ iD (z' N2) (st' N2) (nt' N2) (pc' N2) (ff' N2) (di' N2)) : iC N0 (N2 + 1) z' st' mb' nt' pc' ff' sf' ak' co' di' m17' m18' m19' m20' m21' m22' m23' m24' m25' := by
  intro a ha
  by_cases e : a = N2
  · subst e; exact hn
  · have ha' : a < N2 := by omega
    obtain ⟨h1, h2, h3⟩ := h a ha'
    obtain ⟨g1, g2, g3, g4, g5, g6, g7, g8, g9⟩ := hg a ha'
    obtain ⟨k1, k2, k3, k4⟩ := hm a ha'
    obtain ⟨l1, l2, l3, l4, l5⟩ := hl
    rw [hz a ha', g1, g2, g3, g4, g5, g6, g7, g8, g9, k1, k2, k3, l1, l2, l3, l4, l5]
    refine ⟨⟨h1.1, h1.2.1, h1.2.2.1, h1.2.2.2.1, fun j hj => ?_⟩, h2, h3⟩
    show ∃ v : Nat, v < N0 ∧ mb a j = nI v ∧ m20' (20 * (a + 1) + j) = nI v
    rw [k4 j (by have := h1.1.2; omega)]
    exact h1.2.2.2.2 j hj
theorem iT_add {N0 N2 : Nat} {z z' : Nat → Nat} {p p' st st' mb mb' : Nat → Nat → Int32} {F0 : Nat → Bool} (h : iT N0 N2 z p st mb) (hz : ∀ a, a < N2 → z' a = z a) (hs : ∀ a, a < N2 → st' a = st a) (hb : ∀ a, a < N2 → mb' a = mb a) (hs2 : st' N2 2 = 0) (hv : ∀ j, j < z' N2 → ∃ v : Nat, v < N0 ∧ mb' N2 j = nI v ∧ p v 2 = 0) (hd : ∀ a b, a < z' N2 → b < z' N2 → mb' N2 a = mb' N2 b → a = b) (ht : ∀ i, i < N0 → (p' i 2 = 1 ∧ ∃ j, j < z' N2 ∧ mb' N2 j = nI i) ∨ (p' i 2 = p i 2 ∧ ∀ j, j < z' N2 → mb' N2 j ≠ nI i)) : iT N0 (N2 + 1) z' p' st' mb' := by
  have cross : ∀ d i j, d < N2 → i < z' N2 → j < z d → st d 2 ≠ 2 → mb' N2 i ≠ mb d j := by
    intro d i j hd' hi hj hsd e
    obtain ⟨v, h1, h2, h3⟩ := hv i hi
    rcases h.1 v h1 with ⟨q1, q2⟩ | ⟨q1, _⟩
    · exact q2 d j hd' hj hsd (by rw [← e, h2])
    · rw [q1] at h3; exact absurd h3 (by decide)
  refine ⟨fun i hi => ?_, fun c d i j hc hd' hi hj hsc hsd e => ?_⟩
  · rcases ht i hi with ⟨h1, j, h2, h3⟩ | ⟨h1, h2⟩
    · exact Or.inr ⟨h1, N2, j, by omega, h2, by rw [hs2]; decide, h3⟩
    · rw [h1]
      rcases h.1 i hi with ⟨q1, q2⟩ | ⟨q1, c, j, q2, q3, q4, q5⟩
      · refine Or.inl ⟨q1, fun c j hc hj hsc => ?_⟩
        by_cases ec : c = N2
        · subst ec; exact h2 j hj
        · have hc' : c < N2 := by omega
          rw [hb c hc']
          rw [hz c hc'] at hj
          rw [hs c hc'] at hsc
          exact q2 c j hc' hj hsc
      · exact Or.inr ⟨q1, c, j, by omega, by rw [hz c q2]; exact q3, by rw [hs c q2]; exact q4, by rw [hb c q2]; exact q5⟩
  · by_cases ec : c = N2
    · by_cases ed : d = N2
      · subst ec; subst ed; exact ⟨rfl, hd i j hi hj e⟩
      · have hd2 : d < N2 := by omega
        subst ec
        rw [hz d hd2] at hj
        rw [hs d hd2] at hsd
        rw [hb d hd2] at e
        exact absurd e (cross d i j hd2 hi hj hsd)
    · have hc2 : c < N2 := by omega
      rw [hz c hc2] at hi
      rw [hs c hc2] at hsc
      rw [hb c hc2] at e
      by_cases ed : d = N2
      · subst ed
        exact absurd e.symm (cross c j i hc2 hj hi hsc)
      · have hd2 : d < N2 := by omega
        rw [hz d hd2] at hj
        rw [hs d hd2] at hsd
        rw [hb d hd2] at e
        exact h.2 c d i j hc2 hd2 hi hj hsc hsd e
theorem rd_end {k : Nat} {g : Nat → Nat → Nat → Int32} {N : Nat → Nat} {μ : Nat → Nat → Int32} (h : Inv k g N μ) (hN2 : N 2 < 20) {μ1 : Nat → Nat → Int32} (hμ : ∀ a, a ≠ 0 → a ≠ 16 → a ≠ 17 → a ≠ 28 → μ1 a = μ a) (h16 : μ1 16 0 = nI (N 2 + 1)) (h17 : μ1 17 = upd (μ 17) (N 2 + 1) 0) {F0 F : Nat → Bool} (hF0 : ∀ p, F0 p = true → g 5 p 2 = 0) {free K : Nat} (hK : 1 ≤ K) (hK2 : K ≤ 20) {G : Nat → Nat → Nat → Int32} {ν : Nat → Nat → Int32} (hR : chR g N μ1 F0 free K F G ν) : Inv k (u3 (ns_g N G (G 17 0)) 0 0 2 (nI (N 2 + 1))) (ns_N N K) ν := by
  obtain ⟨⟨⟨n0, n1, n2⟩, ⟨s0, s1, s2⟩, ⟨r0, r1, r2⟩, hd, hw, hcy, ht, hr⟩, hKk, hP, hM, hC, hB, hT⟩ := h
  obtain ⟨R1, R2, R3, R4, R5, R6, R7, R8, R9, R10, R11, R12, R13⟩ := hR
  have m : ∀ a, a ≠ 0 → a ≠ 16 → a ≠ 17 → a ≠ 18 → a ≠ 20 → a ≠ 28 → ν a = μ a := fun a a0 a16 a17 a18 a20 a28 => by
    rw [R2 a a18 a20 a28, hμ a a0 a16 a17 a28]
  have q : ∀ a, a ≠ 0 → a ≠ 4 → a ≠ 5 → a < 8 → u3 (ns_g N G (G 17 0)) 0 0 2 (nI (N 2 + 1)) a = g a := fun a a0 a4 a5 a8 => by
    rw [u3_ne a0]
    unfold ns_g
    rw [if_neg (by omega), if_neg (by omega), if_neg (by omega), if_neg (by omega), if_neg (by omega), if_neg (by omega), if_neg (by omega), if_neg (by omega), if_neg (by omega)]
    exact R1 a a4 a5 (by omega)
  have e0 : u3 (ns_g N G (G 17 0)) 0 0 2 (nI (N 2 + 1)) 0 0 = upd (g 0 0) 2 (nI (N 2 + 1)) := by
    rw [u3_s]
    have : ns_g N G (G 17 0) 0 = g 0 := R1 0 (by decide) (by decide) (by decide)
    rw [this]
  have e5 : u3 (ns_g N G (G 17 0)) 0 0 2 (nI (N 2 + 1)) 5 = G 5 := rfl
  have e8 : u3 (ns_g N G (G 17 0)) 0 0 2 (nI (N 2 + 1)) 8 = va_up (g 8) (N 2) (fun _ => 0) := by
    rw [← R1 8 (by decide) (by decide) (by decide)]; rfl
  have e9 : u3 (ns_g N G (G 17 0)) 0 0 2 (nI (N 2 + 1)) 9 = va_up (g 9) (N 2) (G 17 0) := by
    rw [← R1 9 (by decide) (by decide) (by decide)]; rfl
  have e10 : u3 (ns_g N G (G 17 0)) 0 0 2 (nI (N 2 + 1)) 10 = va_up (g 10) (N 2) (fun _ => 0) := by
    rw [← R1 10 (by decide) (by decide) (by decide)]; rfl
  have e11 : u3 (ns_g N G (G 17 0)) 0 0 2 (nI (N 2 + 1)) 11 = va_up (g 11) (N 2) (fun _ => 0) := by
    rw [← R1 11 (by decide) (by decide) (by decide)]; rfl
  have e12 : u3 (ns_g N G (G 17 0)) 0 0 2 (nI (N 2 + 1)) 12 = va_up (g 12) (N 2) (fun _ => (-1)) := by
    rw [← R1 12 (by decide) (by decide) (by decide)]; rfl
  have e13 : u3 (ns_g N G (G 17 0)) 0 0 2 (nI (N 2 + 1)) 13 = va_up (g 13) (N 2) (fun _ => (-1)) := by
    rw [← R1 13 (by decide) (by decide) (by decide)]; rfl
  have e14 : u3 (ns_g N G (G 17 0)) 0 0 2 (nI (N 2 + 1)) 14 = va_up (g 14) (N 2) (fun _ => (-1)) := by
    rw [← R1 14 (by decide) (by decide) (by decide)]; rfl
  have e15 : u3 (ns_g N G (G 17 0)) 0 0 2 (nI (N 2 + 1)) 15 = va_up (g 15) (N 2) (fun _ => 0) := by
    rw [← R1 15 (by decide) (by decide) (by decide)]; rfl
  have e16 : u3 (ns_g N G (G 17 0)) 0 0 2 (nI (N 2 + 1)) 16 = va_up (g 16) (N 2) (fun _ => 0) := by
    rw [← R1 16 (by decide) (by decide) (by decide)]; rfl
  have w0 : ns_N N K 0 = N 0 := by
    unfold ns_N
    rw [if_neg (by decide), if_neg (by omega)]
  have w1 : ns_N N K 1 = N 1 := by
    unfold ns_N
    rw [if_neg (by decide), if_neg (by omega)]
  have w2 : ns_N N K 2 = N 2 + 1 := rfl
  have v17 : ν 17 = upd (μ 17) (N 2 + 1) 0 := by rw [R2 17 (by decide) (by decide) (by decide)]; exact h17
  have v16 : ν 16 0 = nI (N 2 + 1) := by rw [R2 16 (by decide) (by decide) (by decide)]; exact h16
  obtain ⟨b18, b19, bl⟩ := hB (N 2 + 1) (by omega)
  unfold Inv
  rw [e0, q 1 (by decide) (by decide) (by decide) (by decide), q 2 (by decide) (by decide) (by decide) (by decide), q 3 (by decide) (by decide) (by decide) (by decide), e5, q 6 (by decide) (by decide) (by decide) (by decide), q 7 (by decide) (by decide) (by decide) (by decide), e8, e9, e10, e11, e12, e13, e14, e15, e16, w0, w1, w2]
  rw [m 1 (by decide) (by decide) (by decide) (by decide) (by decide) (by decide), m 2 (by decide) (by decide) (by decide) (by decide) (by decide) (by decide), m 3 (by decide) (by decide) (by decide) (by decide) (by decide) (by decide), m 4 (by decide) (by decide) (by decide) (by decide) (by decide) (by decide), m 5 (by decide) (by decide) (by decide) (by decide) (by decide) (by decide), m 6 (by decide) (by decide) (by decide) (by decide) (by decide) (by decide), m 7 (by decide) (by decide) (by decide) (by decide) (by decide) (by decide), m 8 (by decide) (by decide) (by decide) (by decide) (by decide) (by decide), m 9 (by decide) (by decide) (by decide) (by decide) (by decide) (by decide), m 10 (by decide) (by decide) (by decide) (by decide) (by decide) (by decide), m 11 (by decide) (by decide) (by decide) (by decide) (by decide) (by decide), m 12 (by decide) (by decide) (by decide) (by decide) (by decide) (by decide), m 13 (by decide) (by decide) (by decide) (by decide) (by decide) (by decide), m 14 (by decide) (by decide) (by decide) (by decide) (by decide) (by decide), m 15 (by decide) (by decide) (by decide) (by decide) (by decide) (by decide), m 19 (by decide) (by decide) (by decide) (by decide) (by decide) (by decide), m 21 (by decide) (by decide) (by decide) (by decide) (by decide) (by decide), m 22 (by decide) (by decide) (by decide) (by decide) (by decide) (by decide), m 23 (by decide) (by decide) (by decide) (by decide) (by decide) (by decide), m 24 (by decide) (by decide) (by decide) (by decide) (by decide) (by decide), m 25 (by decide) (by decide) (by decide) (by decide) (by decide) (by decide), m 26 (by decide) (by decide) (by decide) (by decide) (by decide) (by decide), m 27 (by decide) (by decide) (by decide) (by decide) (by decide) (by decide), v17]
  refine ⟨⟨⟨n0, n1, by omega⟩, ⟨s0, s1, rfl⟩, ⟨r0, r1, v16⟩, hd, hw, hcy, ht, hr⟩, hKk, ⟨fun i hi => ?_, hP.2⟩, hM, ?_, ?_, ?_⟩
  · rw [R3 i 0 (by decide), R3 i 1 (by decide)]; exact hP.1 i hi
  · refine iC_add hC (fun a ha => ?_) (fun a ha => ?_) (fun a ha => ?_) ⟨rfl, rfl, rfl, rfl, rfl⟩ ⟨?_, ?_, ?_⟩
    · show ns_N N K (3 + a) = N (3 + a)
      rw [ns_3, if_neg (by omega)]
    · have hn : a ≠ N 2 := by omega
      exact ⟨va_un hn, va_un hn, va_un hn, va_un hn, va_un hn, va_un hn, va_un hn, va_un hn, va_un hn⟩
    · refine ⟨pk_un (by omega), ?_, rfl, fun j hj => ?_⟩
      · rw [R5 (a + 1) (by omega), hμ 18 (by decide) (by decide) (by decide) (by decide)]
      · rw [R4 _ (by omega), hμ 20 (by decide) (by decide) (by decide) (by decide)]
    · show iH (N 0) (ns_N N K (3 + N 2)) _ _ _ _ _ _
      rw [ns_3, if_pos rfl, va_us, va_us, pk_us]
      refine ⟨⟨hK, hK2⟩, R6, ⟨0, by omega, rfl, rfl⟩, b19.symm, fun j hj => ?_⟩
      obtain ⟨v, a1, a2, a3, _⟩ := R11 j hj
      exact ⟨v, a1, a2, a3⟩
    · show iL (ns_N N K (3 + N 2)) _ _ _ _ _ _ _ _ _ _ _
      rw [ns_3, if_pos rfl, va_us, va_us, va_us, va_us, va_us, va_us]
      intro l hl
      obtain ⟨c1, c2, c3⟩ := bl l (by omega)
      exact ⟨⟨0, by omega, rfl, c1⟩, ⟨0, 0, 0, by omega, by omega, by omega, fun _ => ⟨rfl, rfl⟩, c2, (show (-1 : Int32) = nI 0 - 1 by decide), (show (-1 : Int32) = nI 0 - 1 by decide), rfl, fun h => absurd rfl h, fun h => absurd rfl h⟩, ⟨0, 0, by omega, by omega, c3, (show (-1 : Int32) = nI 0 - 1 by decide), rfl⟩⟩
    · rw [va_us]
      exact ⟨fun h => absurd h (by decide), fun _ => rfl⟩
  · intro c hc
    obtain ⟨d18, d19, dl⟩ := hB c (by omega)
    refine ⟨?_, d19, dl⟩
    rw [R5 c (by omega), hμ 18 (by decide) (by decide) (by decide) (by decide)]; exact d18
  · have z9 : ns_N N K (3 + N 2) = K := by
      rw [ns_3, if_pos rfl]
    refine iT_add (F0 := F0) hT (fun a ha => ?_) (fun a ha => va_un (by omega)) (fun a ha => va_un (by omega)) ?_ ?_ ?_ ?_
    · show ns_N N K (3 + a) = N (3 + a)
      rw [ns_3, if_neg (by omega)]
    · rw [va_us]
    · rw [z9, va_us]
      intro j hj
      obtain ⟨v, a1, a2, _, _, a5⟩ := R11 j hj
      exact ⟨v, a1, a2, hF0 v a5⟩
    · rw [z9, va_us]; exact R12
    · rw [z9, va_us]; exact R13
theorem kd_in {x : Int32} (h : ¬ x = -1) : fM_in x (-1) 2 = 0 ↔ fM_in x 0 2 = 0 := by
  rw [pu_in0, pu_in0]
  refine not_congr ⟨fun q => ⟨?_, q.2⟩, fun q => ⟨Int32.le_trans (by decide) q.1, q.2⟩⟩
  have q1 := Int32.le_iff_toInt_le.mp q.1
  rw [Int32.le_iff_toInt_le]
  have e1 : (-1 : Int32).toInt = -1 := by decide
  have e0 : (0 : Int32).toInt = 0 := by decide
  have ne : x.toInt ≠ -1 := fun e => h (Int32.toInt_inj.mp (by rw [e, e1]))
  omega
theorem min_i {a b : Nat} (ha : a < 2 ^ 31) (hb : b < 2 ^ 31) : (if nI a < nI b then nI a else nI b) = nI (if a < b then a else b) := by
  by_cases h : a < b
  · rw [if_pos ((nI_ltI ha hb).mpr h), if_pos h]
  · rw [if_neg (fun q => h ((nI_ltI ha hb).mp q)), if_neg h]

theorem rd_ok {k : Nat} {g : Nat → Nat → Nat → Int32} {N : Nat → Nat} {μ : Nat → Nat → Int32} (h : Inv k g N μ) (x1 x2 : Int32) (x3 : Int64) (a0 : ¬ fM_in x1 (-1) 2 = 0) (a8 : x1 = -1 ∨ ¬ fM_in x1 0 2 = 0) (a1 : ¬ fM_in x2 1 20 = 0) : pv_round (Inv (k + 1)) x1 x2 x3 g N μ := by
  have h' := inv_up h
  obtain ⟨⟨⟨n0, n1, n2⟩, ⟨s0, s1, s2⟩, ⟨r0, r1, r2⟩, hd, hw, hc, ht, hr⟩, hK, hP, hM, hC, hB, hT⟩ := h
  unfold pv_round fC_round fM_round kC_round kM_round
  simp only [fC_isKind, pu_in]
  obtain ⟨m, hm, rfl⟩ := in_1 (n := 20) (by decide) a1
  obtain ⟨C', c1, c2, c3⟩ := lp_ga (g := g) (N := N) (x := x1) n0 s0 (N 0) 0 (199 - N 0) (g 4 0) (by omega) (fun i l hi => by simp [fl] at hi)
  rw [show 199 - N 0 + N 0 + 1 = 200 by omega, ur_04] at c2 c3
  have kg : kC_gatherCandidates x1 g N := c2
  have fg : fC_gatherCandidates x1 g N = (nI (fl (frF (g 5) x1) 0 (N 0)).length, ur g 4 0 C') := c3
  obtain ⟨φ, f1, f2, f3⟩ := lp_43 (E := fM_round_43x) (KE := kM_round_43x) (N0 := N 0) (N2 := N 2) (z := fun c => N (3 + c)) (P := g 5) (st := g 8) (mb := g 9) (μ := u2 μ 0 0 0) (x := x1) (y := nI (m + 1)) (sd := x3) n0 n2 r0 r2 (fun c hc' => (hC c hc').1) hT (fun i hi => by
    obtain ⟨⟨d, _, e1, e2⟩, _⟩ := hP.1 i hi
    rw [e1]; exact e2.symm) (N 0) 0 (199 - N 0) (μ 28) (by omega) (fun q hq => by omega)
  have eu : um8 (u2 μ 0 0 0) (μ 28) = u2 μ 0 0 0 := um8_0
  rw [show 199 - N 0 + N 0 + 1 = 200 by omega, eu] at f2 f3
  rw [show nI (fl (frF (g 5) x1) 0 0).length = 0 from rfl, show nI 0 = 0 from rfl] at f2 f3
  have hlen := fl_len (F := frF (g 5) x1) (s := 0) (n := N 0)
  have E16 : um8 (u2 μ 0 0 0) φ 16 0 = nI (N 2) := r2
  by_cases b0 : (fl (frF (g 5) x1) 0 (N 0)).length = 0
  · have b1 : nI (fl (frF (g 5) x1) 0 (N 0)).length = 0 := by rw [b0]; rfl
    have f2' := f2 ⟨fun _ => trivial, fun h => absurd b1 h⟩
    have f3' : fM_round_43 fM_round_43x 200 x1 (nI (m + 1)) x3 0 0 (u2 μ 0 0 0) = (0, u2 (um8 (u2 μ 0 0 0) φ) 0 0 2) := by
      rw [f3]
      show (if nI (fl (frF (g 5) x1) 0 (N 0)).length = 0 then _ else _) = _
      rw [if_pos b1]
    rcases a8 with a9 | a9
    · subst a9
      simp [pu_in, pu_kin, pu_kw, pu_kG, pu_kPn, pu_kPl, pu_kCt, pu_cG, pu_cK, pu_cPn, pu_cPc, pu_cD, u2_00, c_n, c_0_0, c_1_0, c_2_0, c_2_1, c_3_0, c_3_1, c_4_0, c_4_1, c_5_0, c_5_1, c_5_2, c_5_3, c_6_0, c_6_1, c_7_0, c_7_1, c_7_2, c_8_0, c_8_1, c_8_2, c_9_0, c_9_1, e_1, e_2, e_3, e_4, a1, a0, kg, fg, b1, f2', f3']
      exact h'
    · have a10 : ¬ x1 = -1 := fun e => absurd a9 (by rw [e]; decide)
      simp [pu_in, pu_kin, pu_kw, pu_kG, pu_kPn, pu_kPl, pu_kCt, pu_cG, pu_cK, pu_cPn, pu_cPc, pu_cD, u2_00, c_n, c_0_0, c_1_0, c_2_0, c_2_1, c_3_0, c_3_1, c_4_0, c_4_1, c_5_0, c_5_1, c_5_2, c_5_3, c_6_0, c_6_1, c_7_0, c_7_1, c_7_2, c_8_0, c_8_1, c_8_2, c_9_0, c_9_1, e_1, e_2, e_3, e_4, a1, a0, a9, a10, kg, fg, b1, f2', f3']
      exact h'
  have b1 : ¬ nI (fl (frF (g 5) x1) 0 (N 0)).length = 0 := nI_ne0 (by omega) (by omega)
  by_cases b2 : N 2 = 20
  · have b3 : nI (N 2) = 20 := by rw [b2]; rfl
    have b4 : ¬ nI (N 2) < 20 := by rw [b3]; decide
    have f2' := f2 ⟨fun h => absurd h b1, fun _ => ⟨fun _ => trivial, fun h => absurd (by rw [E16]; exact b3) h⟩⟩
    have f3' : fM_round_43 fM_round_43x 200 x1 (nI (m + 1)) x3 0 0 (u2 μ 0 0 0) = (0, u2 (um8 (u2 μ 0 0 0) φ) 0 0 3) := by
      rw [f3]
      show (if nI (fl (frF (g 5) x1) 0 (N 0)).length = 0 then _ else if um8 (u2 μ 0 0 0) φ 16 0 = 20 then _ else _) = _
      rw [if_neg b1, E16, if_pos b3]
    have E2 : ur g 4 0 C' 0 0 2 = nI (N 2) := s2
    rcases a8 with a9 | a9
    · subst a9
      simp [pu_in, pu_kin, pu_kw, pu_kG, pu_kPn, pu_kPl, pu_kCt, pu_cG, pu_cK, pu_cPn, pu_cPc, pu_cD, u2_00, c_n, c_0_0, c_1_0, c_2_0, c_2_1, c_3_0, c_3_1, c_4_0, c_4_1, c_5_0, c_5_1, c_5_2, c_5_3, c_6_0, c_6_1, c_7_0, c_7_1, c_7_2, c_8_0, c_8_1, c_8_2, c_9_0, c_9_1, e_1, e_2, e_3, e_4, a1, a0, kg, fg, b1, E2, b4, f2', f3']
      exact h'
    · have a10 : ¬ x1 = -1 := fun e => absurd a9 (by rw [e]; decide)
      simp [pu_in, pu_kin, pu_kw, pu_kG, pu_kPn, pu_kPl, pu_kCt, pu_cG, pu_cK, pu_cPn, pu_cPc, pu_cD, u2_00, c_n, c_0_0, c_1_0, c_2_0, c_2_1, c_3_0, c_3_1, c_4_0, c_4_1, c_5_0, c_5_1, c_5_2, c_5_3, c_6_0, c_6_1, c_7_0, c_7_1, c_7_2, c_8_0, c_8_1, c_8_2, c_9_0, c_9_1, e_1, e_2, e_3, e_4, a1, a0, a9, a10, kg, fg, b1, E2, b4, f2', f3']
      exact h'
  have b3 : ¬ nI (N 2) = 20 := fun q => b2 ((nI_eq (b := 20) (by omega) (by decide)).mp q)
  have b4 : nI (N 2) < 20 := nI_lt (b := 20) (by omega) (by decide)
  have E2 : ur g 4 0 C' 0 0 2 = nI (N 2) := s2
  have e21 := nI_clamp (n := N 2 + 1) (by omega)
  have v21 := vin (j := N 2 + 1) (n := 21) (by omega) (by decide)
  have mi := min_i (a := (fl (frF (g 5) x1) 0 (N 0)).length) (b := m + 1) (by omega) (by omega)
  have hKK : 1 ≤ (if (fl (frF (g 5) x1) 0 (N 0)).length < m + 1 then (fl (frF (g 5) x1) 0 (N 0)).length else m + 1) ∧ (if (fl (frF (g 5) x1) 0 (N 0)).length < m + 1 then (fl (frF (g 5) x1) 0 (N 0)).length else m + 1) ≤ m + 1 ∧ (if (fl (frF (g 5) x1) 0 (N 0)).length < m + 1 then (fl (frF (g 5) x1) 0 (N 0)).length else m + 1) ≤ (fl (frF (g 5) x1) 0 (N 0)).length ∧ ((if (fl (frF (g 5) x1) 0 (N 0)).length < m + 1 then (fl (frF (g 5) x1) 0 (N 0)).length else m + 1) = m + 1 ∨ (if (fl (frF (g 5) x1) 0 (N 0)).length < m + 1 then (fl (frF (g 5) x1) 0 (N 0)).length else m + 1) = (fl (frF (g 5) x1) 0 (N 0)).length) := by
    by_cases c : (fl (frF (g 5) x1) 0 (N 0)).length < m + 1
    · rw [if_pos c]; omega
    · rw [if_neg c]; omega
  generalize (if (fl (frF (g 5) x1) 0 (N 0)).length < m + 1 then (fl (frF (g 5) x1) 0 (N 0)).length else m + 1) = K at mi hKK
  obtain ⟨K1, K2, K3, K4⟩ := hKK
  have eK := nI_clamp (n := K) (by omega)
  have nK := nI_pos (n := K) (by omega)
  obtain ⟨b18, b19, bl⟩ := hB (N 2 + 1) (by omega)
  have hR0 : chR g N (u2 (u2 (u2 (um8 (u2 μ 0 0 0) φ) 0 0 0) 16 0 (nI (N 2 + 1))) 17 (N 2 + 1) 0) (frF (g 5) x1) (fl (frF (g 5) x1) 0 (N 0)).length 0 (frF (g 5) x1) (ur (ur g 4 0 C') 17 0 (fun _ => 0)) (u2 (u2 (u2 (um8 (u2 μ 0 0 0) φ) 0 0 0) 16 0 (nI (N 2 + 1))) 17 (N 2 + 1) 0) := by
    refine ⟨fun a a4 a5 a17 => ?_, fun _ _ _ _ => rfl, fun _ _ _ => rfl, fun _ _ => rfl, fun _ _ => rfl, b18, fun j l hj => ?_, f1, rfl, fun _ h => h, fun j hj => absurd hj (Nat.not_lt_zero j), fun a b ha => absurd ha (Nat.not_lt_zero a), fun p hp => Or.inr ⟨rfl, fun j hj => absurd hj (Nat.not_lt_zero j)⟩⟩
    · rw [ur_ne a17, ur_ne a4]
    · rw [ur_ne (by decide)]
      have : ur g 4 0 C' 4 0 = C' := by simp [ur]
      rw [this]; exact c1 j l hj
  obtain ⟨F', G', ν', w1, w2, w3, w4, w5⟩ := lp_ch (g := g) (N := N) (μ := u2 (u2 (u2 (um8 (u2 μ 0 0 0) φ) 0 0 0) 16 0 (nI (N 2 + 1))) 17 (N 2 + 1) 0) (F0 := frF (g 5) x1) (free := (fl (frF (g 5) x1) 0 (N 0)).length) (many := m + 1) (x1 := nI (fl (frF (g 5) x1) 0 (N 0)).length) (y1 := x1) (sd := x3) n0 (by omega) s0 r0 rfl (fun p hp => (hP.1 p hp).2) (by omega) K2 (by omega) K3 K4 K 0 (199 - K) x3 x3 _ _ _ (by omega) hR0 (Or.inr rfl)
  rw [show 199 - K + K + 1 = 200 by omega, show nI 0 = 0 from rfl] at w2 w3 w4 w5
  have kc : kC_chooseCandidates (nI (fl (frF (g 5) x1) 0 (N 0)).length) (nI K) x3 (ur g 4 0 C') N K := w2
  have fc : fC_chooseCandidates (nI (fl (frF (g 5) x1) 0 (N 0)).length) (nI K) x3 (ur g 4 0 C') N K = G' := w3
  have f2' := f2 ⟨fun h => absurd h b1, fun _ => ⟨fun h => absurd (by rw [← E16]; exact h) b3, fun _ => by
    rw [E16, nI_1, e21]
    exact ⟨v21, w4⟩⟩⟩
  have f3' : fM_round_43 fM_round_43x 200 x1 (nI (m + 1)) x3 0 0 (u2 μ 0 0 0) = (nI (N 2 + 1), ν') := by
    rw [f3]
    show (if nI (fl (frF (g 5) x1) 0 (N 0)).length = 0 then _ else if um8 (u2 μ 0 0 0) φ 16 0 = 20 then _ else fM_round_177 fM_round_177x 200 x1 (nI (m + 1)) x3 (nI (fl (frF (g 5) x1) 0 (N 0)).length) x3 0 (u2 (u2 (u2 (um8 (u2 μ 0 0 0) φ) 0 0 0) 16 0 (um8 (u2 μ 0 0 0) φ 16 0 + 1)) 17 (um8 (u2 μ 0 0 0) φ 16 0 + 1).toNatClampNeg 0)) = _
    rw [if_neg b1, E16, if_neg b3, nI_1, e21]
    exact w5
  have G2 : G' 0 0 2 = nI (N 2) := by rw [w1.1 0 (by decide) (by decide) (by decide)]; exact s2
  have v2 := vin (j := N 2) (n := 20) (by omega) (by decide)
  have e2' := nI_clamp (n := N 2) (by omega)
  have c00 : ν' 0 0 = 0 := by rw [w1.2.1 0 (by decide) (by decide) (by decide)]; rfl
  have K20 : K ≤ 20 := by omega
  rcases a8 with a9 | a9
  · subst a9
    simp [pu_in, pu_kin, pu_kw, pu_kG, pu_kPn, pu_kPl, pu_kCt, pu_cG, pu_cK, pu_cPn, pu_cPc, pu_cD, u2_00, c_n, c_0_0, c_1_0, c_2_0, c_2_1, c_3_0, c_3_1, c_4_0, c_4_1, c_5_0, c_5_1, c_5_2, c_5_3, c_6_0, c_6_1, c_7_0, c_7_1, c_7_2, c_8_0, c_8_1, c_8_2, c_9_0, c_9_1, e_1, e_2, e_3, e_4, a1, a0, kg, fg, b1, E2, b4, f2', f3', mi, eK, nK, kc, fc, G2, v2, e2', c00, K20, nI_1]
    exact rd_end h' (by omega) (fun a a0 a16 a17 a28 => by
      rw [u2_ne a17, u2_ne a16, u2_ne a0, um8_ne a28, u2_ne a0]) rfl rfl (fun p hp => (of_decide_eq_true hp).1) K1 K20 w1
  · have a10 : ¬ x1 = -1 := fun e => absurd a9 (by rw [e]; decide)
    simp [pu_in, pu_kin, pu_kw, pu_kG, pu_kPn, pu_kPl, pu_kCt, pu_cG, pu_cK, pu_cPn, pu_cPc, pu_cD, u2_00, c_n, c_0_0, c_1_0, c_2_0, c_2_1, c_3_0, c_3_1, c_4_0, c_4_1, c_5_0, c_5_1, c_5_2, c_5_3, c_6_0, c_6_1, c_7_0, c_7_1, c_7_2, c_8_0, c_8_1, c_8_2, c_9_0, c_9_1, e_1, e_2, e_3, e_4, a1, a0, a9, a10, kg, fg, b1, E2, b4, f2', f3', mi, eK, nK, kc, fc, G2, v2, e2', c00, K20, nI_1]
    exact rd_end h' (by omega) (fun a a0 a16 a17 a28 => by
      rw [u2_ne a17, u2_ne a16, u2_ne a0, um8_ne a28, u2_ne a0]) rfl rfl (fun p hp => (of_decide_eq_true hp).1) K1 K20 w1

theorem pr_round {k : Nat} {g : Nat → Nat → Nat → Int32} {N : Nat → Nat} {μ : Nat → Nat → Int32} (h : Inv k g N μ) (x1 x2 : Int32) (x3 : Int64) : pv_round (Inv (k + 1)) x1 x2 x3 g N μ := by
  have h' := inv_up h
  by_cases a1 : fM_in x2 1 20 = 0
  · unfold pv_round fC_round fM_round kC_round kM_round
    simp only [fC_isKind, pu_in]
    by_cases a9 : x1 = -1
    · subst a9
      have a0 : ¬ fM_in (-1) (-1) 2 = 0 := by decide
      simp [pu_in, pu_kin, pu_kw, pu_kG, pu_kPn, pu_kPl, pu_kCt, pu_cG, pu_cK, pu_cPn, pu_cPc, pu_cD, u2_00, c_n, c_0_0, c_1_0, c_2_0, c_2_1, c_3_0, c_3_1, c_4_0, c_4_1, c_5_0, c_5_1, c_5_2, c_5_3, c_6_0, c_6_1, c_7_0, c_7_1, c_7_2, c_8_0, c_8_1, c_8_2, c_9_0, c_9_1, e_1, e_2, e_3, e_4, a0, a1]
      exact inv_cd _ h'
    · by_cases a8 : fM_in x1 0 2 = 0
      · have a0 := (kd_in a9).mpr a8
        simp [pu_in, pu_kin, pu_kw, pu_kG, pu_kPn, pu_kPl, pu_kCt, pu_cG, pu_cK, pu_cPn, pu_cPc, pu_cD, u2_00, c_n, c_0_0, c_1_0, c_2_0, c_2_1, c_3_0, c_3_1, c_4_0, c_4_1, c_5_0, c_5_1, c_5_2, c_5_3, c_6_0, c_6_1, c_7_0, c_7_1, c_7_2, c_8_0, c_8_1, c_8_2, c_9_0, c_9_1, e_1, e_2, e_3, e_4, a0, a1, a8, a9]
        exact inv_cd _ h'
      · have a0 : ¬ fM_in x1 (-1) 2 = 0 := fun e => a8 ((kd_in a9).mp e)
        simp [pu_in, pu_kin, pu_kw, pu_kG, pu_kPn, pu_kPl, pu_kCt, pu_cG, pu_cK, pu_cPn, pu_cPc, pu_cD, u2_00, c_n, c_0_0, c_1_0, c_2_0, c_2_1, c_3_0, c_3_1, c_4_0, c_4_1, c_5_0, c_5_1, c_5_2, c_5_3, c_6_0, c_6_1, c_7_0, c_7_1, c_7_2, c_8_0, c_8_1, c_8_2, c_9_0, c_9_1, e_1, e_2, e_3, e_4, a0, a1, a8, a9]
        exact inv_cd _ h'
  · by_cases a9 : x1 = -1
    · exact rd_ok h x1 x2 x3 (by rw [a9]; decide) (Or.inl a9) a1
    · by_cases a8 : fM_in x1 0 2 = 0
      · have a0 := (kd_in a9).mpr a8
        unfold pv_round fC_round fM_round kC_round kM_round
        simp only [fC_isKind, pu_in]
        simp [pu_in, pu_kin, pu_kw, pu_kG, pu_kPn, pu_kPl, pu_kCt, pu_cG, pu_cK, pu_cPn, pu_cPc, pu_cD, u2_00, c_n, c_0_0, c_1_0, c_2_0, c_2_1, c_3_0, c_3_1, c_4_0, c_4_1, c_5_0, c_5_1, c_5_2, c_5_3, c_6_0, c_6_1, c_7_0, c_7_1, c_7_2, c_8_0, c_8_1, c_8_2, c_9_0, c_9_1, e_1, e_2, e_3, e_4, a0, a1, a8, a9]
        exact inv_cd _ h'
      · exact rd_ok h x1 x2 x3 (fun e => a8 ((kd_in a9).mp e)) (Or.inr a8) a1
