/-! PURE: close -/
def clR (k : Nat) (g : Nat → Nat → Nat → Int32) (N : Nat → Nat) (μ : Nat → Nat → Int32) (c j : Nat) (G : Nat → Nat → Nat → Int32) (ν : Nat → Nat → Int32) : Prop := (∀ a, a ≠ 0 → a ≠ 5 → a ≠ 8 → a ≠ 16 → G a = g a) ∧ (∀ a, a ≠ 5 → a ≠ 26 → a ≠ 27 → ν a = μ a) ∧ (∀ x, x ≠ 5 → x ≠ 6 → G 0 0 x = g 0 0 x) ∧ (∃ n r : Nat, r ≤ n ∧ n ≤ 20 * k + j ∧ G 0 0 5 = nI n ∧ ν 26 0 = nI n ∧ G 0 0 6 = nI r ∧ ν 27 0 = nI r) ∧ (∀ i, i < N 0 → G 5 i 0 = g 5 i 0 ∧ G 5 i 1 = ν 5 i) ∧ (∀ i, i < N 0 → (∀ a, a < j → g 9 c a ≠ nI i) → G 5 i 2 = g 5 i 2) ∧ (∀ a i, a < j → i < N 0 → g 9 c a = nI i → G 5 i 2 = 0) ∧ (∀ a, a ≠ c → G 8 a = g 8 a ∧ G 16 a = g 16 a) ∧ (∀ x, x ≠ 0 → G 8 c x = g 8 c x) ∧ G 8 c 0 = nI (dfL (g 10 c) (g 11 c) (g 12 c) 0 (6 * j)).length ∧ ∀ i l, (dfL (g 10 c) (g 11 c) (g 12 c) 0 (6 * j))[i]? = some l → G 16 c i = nI l
theorem dl_c6 {nt pc ff : Nat → Int32} {j : Nat} (h : ¬ toP ff j) : dfL nt pc ff 0 (6 * (j + 1)) = dfL nt pc ff 0 (6 * j) := by
  have key : ∀ d, d ≤ 6 → dfL nt pc ff 0 (6 * j + d) = dfL nt pc ff 0 (6 * j) := by
    intro d
    induction d with
    | zero => intro _; rfl
    | succ d ih =>
      intro hd
      rw [show 6 * j + (d + 1) = 6 * j + d + 1 by omega, dl_cn (fun q => h (by
        have := q.1
        rw [show (6 * j + d) / 6 = j by omega] at this
        exact this)), ih (by omega)]
  exact key 6 (Nat.le_refl _)
theorem lp_85 {c z : Nat} {nt pc ff sf ak co : Nat → Int32} {μ : Nat → Nat → Int32} (hc : c < 20) (hz : z ≤ 20) (hL : iL z nt pc ff sf ak co (fun l => μ 21 (120 * (c + 1) + l)) (fun l => μ 22 (120 * (c + 1) + l)) (fun l => μ 23 (120 * (c + 1) + l)) (fun l => μ 24 (120 * (c + 1) + l)) (fun l => μ 25 (120 * (c + 1) + l))) (r18 : μ 18 (c + 1) = nI z) (r17 : μ 17 (c + 1) = 2) : ∀ (d n f : Nat), n + d = (dfL nt pc ff 0 (6 * z)).length → kM_close_85 kM_close_85x (f + d + 1) (nI (c + 1)) (nI n) μ ∧ fM_close_85 fM_close_85x (f + d + 1) (nI (c + 1)) (nI n) μ = (nI (dfL nt pc ff 0 (6 * z)).length, μ) := by
  have hlen := dl_len (nt := nt) (pc := pc) (ff := ff) (s := 0) (m := 6 * z)
  intro d
  induction d with
  | zero =>
    intro n f hn
    obtain ⟨k1, f1⟩ := df_M hc hz hL r18 r17 (x := n) (by omega)
    rw [List.getElem?_eq_none (by omega)] at f1
    have f1' : fM_difference (nI (c + 1)) (nI n) μ = -1 := f1
    have e : n = (dfL nt pc ff 0 (6 * z)).length := by omega
    rw [← e]
    simp [kM_close_85, fM_close_85, kM_close_85x, fM_close_85x, k1, f1']
  | succ d ih =>
    intro n f hn
    obtain ⟨k1, f1⟩ := df_M hc hz hL r18 r17 (x := n) (by omega)
    have e3 := List.getElem?_eq_getElem (l := dfL nt pc ff 0 (6 * z)) (i := n) (by omega)
    rw [e3] at f1
    generalize (dfL nt pc ff 0 (6 * z))[n] = l at e3 f1
    obtain ⟨_, l2, _⟩ := dl_mem e3
    have f1' : fM_difference (nI (c + 1)) (nI n) μ = nI (120 * (c + 1) + l) := f1
    have nL : ¬ nI (120 * (c + 1) + l) = -1 := fun q => by
      have := nI_pos (n := 120 * (c + 1) + l) (by omega)
      rw [q] at this
      exact absurd (by decide) this
    obtain ⟨i1, i2⟩ := ih (n + 1) f (by omega)
    rw [show f + (d + 1) + 1 = (f + d + 1) + 1 by omega]
    generalize f + d + 1 = f9 at i1 i2 ⊢
    refine ⟨?_, ?_⟩
    · simpa [kM_close_85, k1, f1', nL, nI_1] using i1
    · rw [← i2]
      simp [fM_close_85, f1', nL, nI_1]
theorem lp_cl {E : Int32 → Nat → Int32 → (Nat → Nat → Nat → Int32) → (Nat → Nat) → Option String × Int32 × (Nat → Nat → Nat → Int32)} {KE : Int32 → Nat → Int32 → (Nat → Nat → Nat → Int32) → (Nat → Nat) → Prop} {E2 : Int32 → Int32 → (Nat → Nat → Int32) → Int32 × (Nat → Nat → Int32)} {KE2 : Int32 → Int32 → (Nat → Nat → Int32) → Prop} {k : Nat} {g : Nat → Nat → Nat → Int32} {N : Nat → Nat} {μ : Nat → Nat → Int32} {c : Nat} {x : Int32} (hc : c < 20) (n0 : N 0 ≤ 20) (s0 : g 0 0 0 = nI (N 0)) (hd : g 0 0 3 = μ 1 0) (ht : ∀ j, j < 3 → g 2 0 j = μ 8 j) (hz : N (3 + c) ≤ 20) (r18 : μ 18 (c + 1) = nI (N (3 + c))) (hP : ∀ i, i < N 0 → ∃ d : Nat, d ≤ 2 ∧ g 5 i 0 = nI d ∧ μ 4 i = nI d) (hmb : ∀ j, j < N (3 + c) → ∃ v : Nat, v < N 0 ∧ g 9 c j = nI v ∧ μ 20 (20 * (c + 1) + j) = nI v) (hL : iL (N (3 + c)) (g 10 c) (g 11 c) (g 12 c) (g 13 c) (g 14 c) (g 15 c) (fun l => μ 21 (120 * (c + 1) + l)) (fun l => μ 22 (120 * (c + 1) + l)) (fun l => μ 23 (120 * (c + 1) + l)) (fun l => μ 24 (120 * (c + 1) + l)) (fun l => μ 25 (120 * (c + 1) + l))) (hKE : ∀ y G, KE x c y G N) : ∀ (d j n : Nat) (G : Nat → Nat → Nat → Int32) (ν : Nat → Nat → Int32), j + d = N (3 + c) → clR k g N μ c j G ν → ∃ G' ν', clR k g N μ c (N (3 + c)) G' ν' ∧ kC_close_26 KE (n + d + 1) x c (nI j) G N ∧ fC_close_26 E (n + d + 1) x c (nI j) G N = E x c (nI (N (3 + c))) G' N ∧ (KE2 (nI (c + 1)) (nI (N (3 + c))) ν' → kM_close_61 KE2 (n + d + 1) (nI (c + 1)) (nI j) ν) ∧ fM_close_61 E2 (n + d + 1) (nI (c + 1)) (nI j) ν = E2 (nI (c + 1)) (nI (N (3 + c))) ν' := by
  have c1 := nI_clamp (n := c + 1) (by omega)
  have v1 := vin (j := c + 1) (n := 21) (by omega) (by decide)
  intro d
  induction d with
  | zero =>
    intro j n G ν hj hR
    have h1 : nI (N (3 + c)) ≤ nI j := (nI_leI (by omega) (by omega)).mpr (by omega)
    have e : j = N (3 + c) := by omega
    subst e
    have e18 : ν 18 (c + 1) = nI (N (3 + c)) := by rw [hR.2.1 18 (by decide) (by decide) (by decide)]; exact r18
    refine ⟨G, ν, hR, ?_, ?_, ?_, ?_⟩
    · simp [kC_close_26, h1, hKE]
    · simp [fC_close_26, h1]
    · intro h; simpa [kM_close_61, c1, v1, e18, h1] using h
    · simp [fM_close_61, c1, e18, h1]
  | succ d ih =>
    intro j n G ν hj hR
    have h1 : ¬ nI (N (3 + c)) ≤ nI j := fun h => absurd ((nI_leI (by omega) (by omega)).mp h) (by omega)
    have ej := nI_clamp (n := j) (by omega)
    have vj := vin (j := j) (n := N (3 + c)) (by omega) (by omega)
    have h20 := nI_clamp (n := 20 * (c + 1) + j) (by omega)
    have v20 := vin (j := 20 * (c + 1) + j) (n := 420) (by omega) (by decide)
    obtain ⟨p, hp, p1, p2⟩ := hmb j (by omega)
    have ep := nI_clamp (n := p) (by omega)
    obtain ⟨t, ht', t1, t2⟩ := hP p hp
    obtain ⟨R1, R2, R3, ⟨cn, rt, R4, R5, R6, R7, R8, R9⟩, R10, R11, R12, R13, R14, R15, R16⟩ := hR
    have e18 : ν 18 (c + 1) = nI (N (3 + c)) := by rw [R2 18 (by decide) (by decide) (by decide)]; exact r18
    have e20 : ν 20 (20 * (c + 1) + j) = nI p := by rw [R2 20 (by decide) (by decide) (by decide)]; exact p2
    have e9 : G 9 c j = nI p := by rw [R1 9 (by decide) (by decide) (by decide) (by decide)]; exact p1
    have g0 : G 0 0 0 = nI (N 0) := by rw [R3 0 (by decide) (by decide)]; exact s0
    have pk := pn_k (g := G) n0 g0 hp
    rw [ep] at pk
    have hLν : iL (N (3 + c)) (g 10 c) (g 11 c) (g 12 c) (g 13 c) (g 14 c) (g 15 c) (fun l => ν 21 (120 * (c + 1) + l)) (fun l => ν 22 (120 * (c + 1) + l)) (fun l => ν 23 (120 * (c + 1) + l)) (fun l => ν 24 (120 * (c + 1) + l)) (fun l => ν 25 (120 * (c + 1) + l)) := by
      rw [R2 21 (by decide) (by decide) (by decide), R2 22 (by decide) (by decide) (by decide), R2 23 (by decide) (by decide) (by decide), R2 24 (by decide) (by decide) (by decide), R2 25 (by decide) (by decide) (by decide)]
      exact hL
    have G12 : u3 G 5 p 2 0 12 c = g 12 c := by rw [u3_ne (by decide), R1 12 (by decide) (by decide) (by decide) (by decide)]
    have G11 : u3 G 5 p 2 0 11 c = g 11 c := by rw [u3_ne (by decide), R1 11 (by decide) (by decide) (by decide) (by decide)]
    have G10 : u3 G 5 p 2 0 10 c = g 10 c := by rw [u3_ne (by decide), R1 10 (by decide) (by decide) (by decide) (by decide)]
    obtain ⟨kc, fc⟩ := to_C (g := u3 G 5 p 2 0) hz (show j < N (3 + c) by omega)
    rw [G12] at fc
    obtain ⟨km, fm⟩ := to_M hc hz hLν (j := j) (by omega)
    rw [show n + (d + 1) + 1 = (n + d + 1) + 1 by omega]
    by_cases td : toP (g 12 c) j
    · have fc' : ¬ fS_isPlaceTold c (nI j) (u3 G 5 p 2 0) N = 0 := by
        rcases fc with ⟨h, _⟩ | ⟨_, h⟩
        · rw [h]; decide
        · exact absurd td h
      have fm' : ¬ fM_isTold (nI (c + 1)) (nI j) ν = 0 := by
        rcases fm with ⟨h, _⟩ | ⟨_, h⟩
        · rw [h]; decide
        · exact absurd td h
      have E80 : u3 G 5 p 2 0 8 c 0 = nI (dfL (u3 G 5 p 2 0 10 c) (u3 G 5 p 2 0 11 c) (u3 G 5 p 2 0 12 c) 0 (6 * j + 0)).length := by
        rw [G10, G11, G12, u3_ne (by decide)]; exact R15
      obtain ⟨b', D', hb', hD', k1, f1, k2, f2⟩ := lp_cp (g := u3 G 5 p 2 0) (N := N) (μ := ν) (c := c) (j := j) (p := p) (t := t) (sf := g 13 c) (ak := g 14 c) (co := g 15 c) hc hz (by rw [G10, G11, G12]; exact hLν) (by omega) (by omega) ht' (by rw [u3_j (by decide), (R10 p hp).1]; exact t1) (by rw [R2 4 (by decide) (by decide) (by decide)]; exact t2) (by rw [u3_ne (by decide), R1 2 (by decide) (by decide) (by decide) (by decide), R2 8 (by decide) (by decide) (by decide)]; exact ht t (by omega)) (by rw [G12]; exact td) 6 0 193 1 (u3 G 5 p 2 0 16 c) (by omega) (Or.inr rfl) (by
        intro i l hi
        rw [G10, G11, G12] at hi
        rw [u3_ne (by decide)]
        exact R16 i l hi)
      rw [← E80, ad2_0] at k1 f1
      rw [G10, G11, G12] at hD' f1
      have f1' : fC_countPlace c (nI j) p (u3 G 5 p 2 0) N = fC_countPlace_6x c (nI j) p b' 6 (ad2 (u3 G 5 p 2 0) c (nI (dfL (g 10 c) (g 11 c) (g 12 c) 0 (6 * j + 6)).length) D') N := f1
      have k1' : kC_countPlace c (nI j) p (u3 G 5 p 2 0) N := k1
      have f2' : fM_closePlace (nI (c + 1)) (nI j) ν = fM_closePlace_28x (nI (c + 1)) (nI j) (nI p) b' 6 ν := by
        unfold fM_closePlace
        rw [if_neg fm', e_20, h20, e20]
        exact f2
      have k2' : kM_closePlace (nI (c + 1)) (nI j) ν := by
        refine ⟨km, fun h => absurd h fm', fun _ => ?_⟩
        rw [e_20, h20, e20]
        exact ⟨v20, k2⟩
      have hRn : clR k g N μ c (j + 1) (fC_countPlace c (nI j) p (u3 G 5 p 2 0) N) (fM_closePlace (nI (c + 1)) (nI j) ν) := by
        rw [f1', f2', show 6 * j + 6 = 6 * (j + 1) by omega]
        rw [show 6 * j + 6 = 6 * (j + 1) by omega] at hD'
        unfold fC_countPlace_6x fM_closePlace_28x
        rw [ep]
        have today : ad2 (u3 G 5 p 2 0) c (nI (dfL (g 10 c) (g 11 c) (g 12 c) 0 (6 * (j + 1))).length) D' 0 0 3 = ν 1 0 := by
          rw [ad2_ne (by decide) (by decide), u3_ne (by decide), R3 3 (by decide) (by decide), R2 1 (by decide) (by decide) (by decide)]; exact hd
        have c05 : ad2 (u3 G 5 p 2 0) c (nI (dfL (g 10 c) (g 11 c) (g 12 c) 0 (6 * (j + 1))).length) D' 0 0 5 = nI cn := by
          rw [ad2_ne (by decide) (by decide), u3_ne (by decide)]; exact R6
        have c06 : ad2 (u3 G 5 p 2 0) c (nI (dfL (g 10 c) (g 11 c) (g 12 c) 0 (6 * (j + 1))).length) D' 0 0 6 = nI rt := by
          rw [ad2_ne (by decide) (by decide), u3_ne (by decide)]; exact R8
        rw [today, c05, c06, R7, R9]
        have mem : ∀ a, a < j + 1 → (∀ i, i < N 0 → g 9 c a = nI i → (a = j ∧ i = p) ∨ a < j) := by
          intro a ha i hi h
          by_cases e : a = j
          · subst e
            rw [p1] at h
            exact Or.inl ⟨rfl, ((nI_eq (by omega) (by omega)).mp h).symm⟩
          · exact Or.inr (by omega)
        rcases hb' with rfl | rfl
        · rw [if_pos rfl, if_pos rfl]
          refine ⟨?_, ?_, ?_, ⟨cn + 1, rt, by omega, by omega, ?_, ?_, ?_, ?_⟩, ?_, ?_, ?_, ?_, ?_, ?_, ?_⟩
          · intro a a0 a5 a8 a16
            rw [u3_ne a0, u3_ne a5, ad2_ne a8 a16, u3_ne a5]; exact R1 a a0 a5 a8 a16
          · intro a a5 a26 a27
            rw [u2_ne a27, u2_ne a26, u2_ne a5]; exact R2 a a5 a26 a27
          · intro x x5 x6
            rw [u3_s, pk_un x5, u3_ne (by decide), ad2_ne (by decide) (by decide), u3_ne (by decide)]; exact R3 x x5 x6
          · rw [u3_s, pk_us, nI_1]
          · rw [u2_ne (by decide), u2_s, pk_us, nI_1]
          · rw [u3_s, pk_un (by decide), u3_ne (by decide)]; exact c06
          · rw [u2_s, pk_us, Int32.add_zero]
          · intro i hi
            rw [u3_ne (by decide), u3_j (by decide), ad2_ne (by decide) (by decide), u3_j (by decide), u2_ne (by decide), u2_ne (by decide), u2_s]
            refine ⟨(R10 i hi).1, ?_⟩
            by_cases e : i = p
            · subst e; rw [u3_s, pk_us, pk_us]
            · rw [u3_r e, pk_un e, ad2_ne (by decide) (by decide), u3_r e]; exact (R10 i hi).2
          · intro i hi h
            rw [u3_ne (by decide), u3_j (by decide), ad2_ne (by decide) (by decide), u3_r (fun e => h j (by omega) (by rw [e]; exact p1))]
            exact R11 i hi (fun a ha => h a (by omega))
          · intro a i ha hi h
            rw [u3_ne (by decide), u3_j (by decide), ad2_ne (by decide) (by decide)]
            by_cases e : i = p
            · subst e; rw [u3_s, pk_us]
            · rw [u3_r e]
              rcases mem a ha i hi h with ⟨_, h2⟩ | h2
              · exact absurd h2 e
              · exact R12 a i h2 hi h
          · intro a ha
            rw [u3_ne (by decide), u3_ne (by decide), ad2_8n ha, u3_ne (by decide), u3_ne (by decide), u3_ne (by decide), ad2_16n ha, u3_ne (by decide)]
            exact R13 a ha
          · intro x hx
            rw [u3_ne (by decide), u3_ne (by decide), ad2_8, pk_un hx, u3_ne (by decide)]
            exact R14 x hx
          · rw [u3_ne (by decide), u3_ne (by decide), ad2_8, pk_us]
          · intro i l hi
            rw [u3_ne (by decide), u3_ne (by decide), ad2_16]
            exact hD' i l hi
        · rw [if_neg (by decide), if_neg (by decide)]
          refine ⟨?_, ?_, ?_, ⟨cn + 1, rt + 1, by omega, by omega, ?_, ?_, ?_, ?_⟩, ?_, ?_, ?_, ?_, ?_, ?_, ?_⟩
          · intro a a0 a5 a8 a16
            rw [u3_ne a0, u3_ne a0, u3_ne a5, ad2_ne a8 a16, u3_ne a5]; exact R1 a a0 a5 a8 a16
          · intro a a5 a26 a27
            rw [u2_ne a27, u2_ne a26, u2_ne a5]; exact R2 a a5 a26 a27
          · intro x x5 x6
            rw [u3_s, pk_un x6, u3_s, pk_un x5, u3_ne (by decide), ad2_ne (by decide) (by decide), u3_ne (by decide)]; exact R3 x x5 x6
          · rw [u3_s, pk_un (by decide), u3_s, pk_us, nI_1]
          · rw [u2_ne (by decide), u2_s, pk_us, nI_1]
          · rw [u3_s, pk_us, nI_1]
          · rw [u2_s, pk_us, nI_1]
          · intro i hi
            rw [u3_ne (by decide), u3_ne (by decide), u3_j (by decide), ad2_ne (by decide) (by decide), u3_j (by decide), u2_ne (by decide), u2_ne (by decide), u2_s]
            refine ⟨(R10 i hi).1, ?_⟩
            by_cases e : i = p
            · subst e; rw [u3_s, pk_us, pk_us]
            · rw [u3_r e, pk_un e, ad2_ne (by decide) (by decide), u3_r e]; exact (R10 i hi).2
          · intro i hi h
            rw [u3_ne (by decide), u3_ne (by decide), u3_j (by decide), ad2_ne (by decide) (by decide), u3_r (fun e => h j (by omega) (by rw [e]; exact p1))]
            exact R11 i hi (fun a ha => h a (by omega))
          · intro a i ha hi h
            rw [u3_ne (by decide), u3_ne (by decide), u3_j (by decide), ad2_ne (by decide) (by decide)]
            by_cases e : i = p
            · subst e; rw [u3_s, pk_us]
            · rw [u3_r e]
              rcases mem a ha i hi h with ⟨_, h2⟩ | h2
              · exact absurd h2 e
              · exact R12 a i h2 hi h
          · intro a ha
            rw [u3_ne (by decide), u3_ne (by decide), u3_ne (by decide), ad2_8n ha, u3_ne (by decide), u3_ne (by decide), u3_ne (by decide), u3_ne (by decide), ad2_16n ha, u3_ne (by decide)]
            exact R13 a ha
          · intro x hx
            rw [u3_ne (by decide), u3_ne (by decide), u3_ne (by decide), ad2_8, pk_un hx, u3_ne (by decide)]
            exact R14 x hx
          · rw [u3_ne (by decide), u3_ne (by decide), u3_ne (by decide), ad2_8, pk_us]
          · intro i l hi
            rw [u3_ne (by decide), u3_ne (by decide), u3_ne (by decide), ad2_16]
            exact hD' i l hi
      obtain ⟨G', ν', w1, w2, w3, w4, w5⟩ := ih (j + 1) n _ _ (by omega) hRn
      generalize n + d + 1 = f9 at w2 w3 w4 w5 ⊢
      refine ⟨G', ν', w1, ?_, ?_, ?_, ?_⟩
      · refine ⟨fun h => absurd h h1, fun _ => ⟨vj, ?_⟩⟩
        rw [ej, e9, ep, nI_1]
        exact ⟨pk.1, pk.2.1, pk.2.2, kc, fun h => absurd h fc', fun _ => ⟨k1', w2⟩⟩
      · show (if nI (N (3 + c)) ≤ nI j then _ else if fS_isPlaceTold c (nI j) (u3 G 5 ((G 9 c (nI j).toNatClampNeg).toNatClampNeg) 2 0) N = 0 then _ else fC_close_26 E f9 x c (nI j + 1) (fC_countPlace c (nI j) ((G 9 c (nI j).toNatClampNeg).toNatClampNeg) (u3 G 5 ((G 9 c (nI j).toNatClampNeg).toNatClampNeg) 2 0) N) N) = _
        rw [ej, e9, ep, if_neg h1, if_neg fc', nI_1]
        exact w3
      · intro h
        refine ⟨v1, ?_, ?_⟩
        · rw [c1, e18]; exact fun h => absurd h h1
        · intro _
          rw [nI_1]
          exact ⟨k2', w4 h⟩
      · show (if ν 18 (nI (c + 1)).toNatClampNeg ≤ nI j then _ else fM_close_61 E2 f9 (nI (c + 1)) (nI j + 1) (fM_closePlace (nI (c + 1)) (nI j) ν)) = _
        rw [c1, e18, if_neg h1, nI_1]
        exact w5
    · have fc' : fS_isPlaceTold c (nI j) (u3 G 5 p 2 0) N = 0 := by
        rcases fc with ⟨_, h⟩ | ⟨h, _⟩
        · exact absurd h td
        · exact h
      have fm' : fM_isTold (nI (c + 1)) (nI j) ν = 0 := by
        rcases fm with ⟨_, h⟩ | ⟨h, _⟩
        · exact absurd h td
        · exact h
      have f2' : fM_closePlace (nI (c + 1)) (nI j) ν = ν := by
        unfold fM_closePlace
        rw [if_pos fm']
      have k2' : kM_closePlace (nI (c + 1)) (nI j) ν := ⟨km, fun _ => trivial, fun h => absurd fm' h⟩
      have hRn : clR k g N μ c (j + 1) (u3 G 5 p 2 0) ν := by
        refine ⟨?_, R2, ?_, ⟨cn, rt, R4, by omega, ?_, R7, ?_, R9⟩, ?_, ?_, ?_, ?_, ?_, ?_, ?_⟩
        · intro a a0 a5 a8 a16
          rw [u3_ne a5]; exact R1 a a0 a5 a8 a16
        · intro x x5 x6
          rw [u3_ne (by decide)]; exact R3 x x5 x6
        · rw [u3_ne (by decide)]; exact R6
        · rw [u3_ne (by decide)]; exact R8
        · intro i hi
          rw [u3_j (by decide), u3_j (by decide)]; exact R10 i hi
        · intro i hi h
          rw [u3_r (fun e => h j (by omega) (by rw [e]; exact p1))]
          exact R11 i hi (fun a ha => h a (by omega))
        · intro a i ha hi h
          by_cases e : i = p
          · subst e; rw [u3_s, pk_us]
          · rw [u3_r e]
            refine R12 a i ?_ hi h
            by_cases e2 : a = j
            · subst e2
              rw [p1] at h
              exact absurd ((nI_eq (by omega) (by omega)).mp h).symm e
            · omega
        · intro a ha
          rw [u3_ne (by decide), u3_ne (by decide)]; exact R13 a ha
        · intro x hx
          rw [u3_ne (by decide)]; exact R14 x hx
        · rw [u3_ne (by decide), dl_c6 td]; exact R15
        · intro i l hi
          rw [dl_c6 td] at hi
          rw [u3_ne (by decide)]; exact R16 i l hi
      obtain ⟨G', ν', w1, w2, w3, w4, w5⟩ := ih (j + 1) n _ _ (by omega) hRn
      generalize n + d + 1 = f9 at w2 w3 w4 w5 ⊢
      refine ⟨G', ν', w1, ?_, ?_, ?_, ?_⟩
      · refine ⟨fun h => absurd h h1, fun _ => ⟨vj, ?_⟩⟩
        rw [ej, e9, ep, nI_1]
        exact ⟨pk.1, pk.2.1, pk.2.2, kc, fun _ => w2, fun h => absurd fc' h⟩
      · show (if nI (N (3 + c)) ≤ nI j then _ else if fS_isPlaceTold c (nI j) (u3 G 5 ((G 9 c (nI j).toNatClampNeg).toNatClampNeg) 2 0) N = 0 then fC_close_26 E f9 x c (nI j + 1) (u3 G 5 ((G 9 c (nI j).toNatClampNeg).toNatClampNeg) 2 0) N else _) = _
        rw [ej, e9, ep, if_neg h1, if_pos fc', nI_1]
        exact w3
      · intro h
        refine ⟨v1, ?_, ?_⟩
        · rw [c1, e18]; exact fun h => absurd h h1
        · intro _
          rw [nI_1, f2']
          exact ⟨k2', w4 h⟩
      · show (if ν 18 (nI (c + 1)).toNatClampNeg ≤ nI j then _ else fM_close_61 E2 f9 (nI (c + 1)) (nI j + 1) (fM_closePlace (nI (c + 1)) (nI j) ν)) = _
        rw [c1, e18, if_neg h1, nI_1, f2']
        exact w5

theorem iT_cl {N0 N2 c : Nat} {z : Nat → Nat} {p p' st st' mb : Nat → Nat → Int32} (h : iT N0 N2 z p st mb) (hc : c < N2) (h2 : st c 2 ≠ 2) (h3 : st' c 2 = 2) (h4 : ∀ d, d ≠ c → st' d 2 = st d 2) (h5 : ∀ i, i < N0 → (∀ a, a < z c → mb c a ≠ nI i) → p' i 2 = p i 2) (h6 : ∀ a i, a < z c → i < N0 → mb c a = nI i → p' i 2 = 0) : iT N0 N2 z p' st' mb := by
  have ne : ∀ d, st' d 2 ≠ 2 → d ≠ c ∧ st d 2 ≠ 2 := fun d hd => by
    have e : d ≠ c := fun e => hd (by rw [e]; exact h3)
    exact ⟨e, by rw [← h4 d e]; exact hd⟩
  refine ⟨fun i hi => ?_, fun a d x y ha hd hx hy sa sd e => ?_⟩
  · by_cases hm : ∃ a, a < z c ∧ mb c a = nI i
    · obtain ⟨a, ha, e⟩ := hm
      refine Or.inl ⟨h6 a i ha hi e, fun d j hd hj sd e2 => ?_⟩
      obtain ⟨n1, n2⟩ := ne d sd
      exact n1 (h.2 d c j a hd hc hj ha n2 h2 (by rw [e2, e])).1
    · have hm' : ∀ a, a < z c → mb c a ≠ nI i := fun a ha e => hm ⟨a, ha, e⟩
      rw [h5 i hi hm']
      rcases h.1 i hi with ⟨q1, q2⟩ | ⟨q1, d, j, q2, q3, q4, q5⟩
      · exact Or.inl ⟨q1, fun d j hd hj sd => q2 d j hd hj (ne d sd).2⟩
      · have e : d ≠ c := fun e => hm' j (by rw [← e]; exact q3) (by rw [← e]; exact q5)
        exact Or.inr ⟨q1, d, j, q2, q3, by rw [h4 d e]; exact q4, q5⟩
  · exact h.2 a d x y ha hd hx hy (ne a sa).2 (ne d sd).2 e
theorem cl_end {k : Nat} {g : Nat → Nat → Nat → Int32} {N : Nat → Nat} {μ : Nat → Nat → Int32} (h : Inv k g N μ) {c : Nat} (hc : c < N 2) (hs1 : g 8 c 2 = 1) {G : Nat → Nat → Nat → Int32} {ν : Nat → Nat → Int32} (hR : clR k g N (u2 (u2 (u2 μ 0 0 0) 0 0 0) 17 (c + 1) 2) c (N (3 + c)) G ν) : Inv (k + 1) (u3 G 8 c 2 2) N ν := by
  obtain ⟨⟨⟨n0, n1, n2⟩, ⟨s0, s1, s2⟩, ⟨r0, r1, r2⟩, hd, hw, hcy, ht, hr⟩, hK, hP, hM, hC, hB, hT⟩ := h
  obtain ⟨⟨⟨z1, z2⟩, hz, _, hfi, hmb⟩, hL, hD⟩ := hC c hc
  obtain ⟨R1, R2, R3, ⟨cn, rt, R4, R5, R6, R7, R8, R9⟩, R10, R11, R12, R13, R14, R15, R16⟩ := hR
  have m : ∀ a, a ≠ 0 → a ≠ 5 → a ≠ 17 → a ≠ 26 → a ≠ 27 → ν a = μ a := fun a a0 a5 a17 a26 a27 => by
    rw [R2 a a5 a26 a27, u2_ne a17, u2_ne a0, u2_ne a0]
  have m17 : ν 17 = upd (μ 17) (c + 1) 2 := by
    rw [R2 17 (by decide) (by decide) (by decide), u2_s]; rfl
  have q : ∀ a, a ≠ 0 → a ≠ 5 → a ≠ 8 → a ≠ 16 → u3 G 8 c 2 2 a = g a := fun a a0 a5 a8 a16 => by
    rw [u3_ne a8, R1 a a0 a5 a8 a16]
  unfold Inv
  rw [q 1 (by decide) (by decide) (by decide) (by decide), q 2 (by decide) (by decide) (by decide) (by decide), q 3 (by decide) (by decide) (by decide) (by decide), q 6 (by decide) (by decide) (by decide) (by decide), q 7 (by decide) (by decide) (by decide) (by decide), q 9 (by decide) (by decide) (by decide) (by decide), q 10 (by decide) (by decide) (by decide) (by decide), q 11 (by decide) (by decide) (by decide) (by decide), q 12 (by decide) (by decide) (by decide) (by decide), q 13 (by decide) (by decide) (by decide) (by decide), q 14 (by decide) (by decide) (by decide) (by decide), q 15 (by decide) (by decide) (by decide) (by decide)]
  rw [m 1 (by decide) (by decide) (by decide) (by decide) (by decide), m 2 (by decide) (by decide) (by decide) (by decide) (by decide), m 3 (by decide) (by decide) (by decide) (by decide) (by decide), m 4 (by decide) (by decide) (by decide) (by decide) (by decide), m 6 (by decide) (by decide) (by decide) (by decide) (by decide), m 7 (by decide) (by decide) (by decide) (by decide) (by decide), m 8 (by decide) (by decide) (by decide) (by decide) (by decide), m 9 (by decide) (by decide) (by decide) (by decide) (by decide), m 10 (by decide) (by decide) (by decide) (by decide) (by decide), m 11 (by decide) (by decide) (by decide) (by decide) (by decide), m 12 (by decide) (by decide) (by decide) (by decide) (by decide), m 13 (by decide) (by decide) (by decide) (by decide) (by decide), m 14 (by decide) (by decide) (by decide) (by decide) (by decide), m 15 (by decide) (by decide) (by decide) (by decide) (by decide), m 16 (by decide) (by decide) (by decide) (by decide) (by decide), m 18 (by decide) (by decide) (by decide) (by decide) (by decide), m 19 (by decide) (by decide) (by decide) (by decide) (by decide), m 20 (by decide) (by decide) (by decide) (by decide) (by decide), m 21 (by decide) (by decide) (by decide) (by decide) (by decide), m 22 (by decide) (by decide) (by decide) (by decide) (by decide), m 23 (by decide) (by decide) (by decide) (by decide) (by decide), m 24 (by decide) (by decide) (by decide) (by decide) (by decide), m 25 (by decide) (by decide) (by decide) (by decide) (by decide), m17]
  rw [show u3 G 8 c 2 2 0 = G 0 from rfl, show u3 G 8 c 2 2 5 = G 5 from rfl, show u3 G 8 c 2 2 16 = G 16 from rfl]
  refine ⟨⟨⟨n0, n1, n2⟩, ⟨?_, ?_, ?_⟩, ⟨r0, r1, r2⟩, ?_, ?_, hcy, ht, hr⟩, ⟨cn, rt, R4, ?_, R6, R7, R8, R9⟩, ⟨fun i hi => ?_, hP.2⟩, hM, ?_, hB, ?_⟩
  · rw [R3 0 (by decide) (by decide)]; exact s0
  · rw [R3 1 (by decide) (by decide)]; exact s1
  · rw [R3 2 (by decide) (by decide)]; exact s2
  · rw [R3 3 (by decide) (by decide)]; exact hd
  · rw [R3 4 (by decide) (by decide)]; exact hw
  · have := z2; simp only at this; omega
  · obtain ⟨a1, a2⟩ := R10 i hi
    obtain ⟨b1, _⟩ := hP.1 i hi
    exact ⟨by rw [a1]; exact b1, a2⟩
  · refine iC_cg c hC (fun _ _ => rfl) (fun b hb => ?_) (fun b hb => ⟨?_, rfl, rfl, fun _ _ => rfl⟩) (fun b l' hb hl' => ⟨rfl, rfl, rfl, rfl, rfl⟩) (N 2) (fun b hb _ => hb) ⟨⟨⟨z1, z2⟩, hz, ⟨2, by omega, ?_, pk_us⟩, ?_, hmb⟩, hL, ?_, ?_⟩
    · refine ⟨?_, rfl, rfl, rfl, rfl, rfl, rfl, rfl, (R13 b hb).2⟩
      rw [u3_r hb]; exact (R13 b hb).1
    · rw [pk_un (by omega)]
    · rw [u3_s, pk_us]; rfl
    · rw [u3_s, pk_un (by decide), R14 1 (by decide)]; exact hfi
    · intro _
      rw [u3_s, pk_un (by decide)]
      exact ⟨R15, R16⟩
    · intro e
      rw [u3_s, pk_us] at e
      exact absurd rfl e
  · refine iT_cl hT hc (by rw [hs1]; decide) (by rw [u3_s, pk_us]) (fun d hd' => ?_) R11 R12
    rw [u3_r hd', (R13 d hd').1]

theorem pr_close {k : Nat} {g : Nat → Nat → Nat → Int32} {N : Nat → Nat} {μ : Nat → Nat → Int32} (h : Inv k g N μ) (x1 : Int32) : pv_close (Inv (k + 1)) x1 g N μ := by
  have h' := inv_up h
  obtain ⟨⟨⟨n0, n1, n2⟩, ⟨s0, s1, s2⟩, ⟨r0, r1, r2⟩, hd, hw, hc, ht, hr⟩, hK, hP, hM, hC, hB, hT⟩ := h
  unfold pv_close fC_close fM_close kC_close kM_close
  simp only [fC_isKind, fC_isGood, fC_isPerson, fC_isPieces, fC_isDay, fM_isGood, fM_isPerson, fM_isPlace, fM_isCount, ite_at, pu_in, s0, s1, s2, r0, r1, r2, hd]
  by_cases a0 : fM_in x1 1 (nI (N 2)) = 0
  · simp [pu_in, pu_kin, pu_kw, pu_kG, pu_kPn, pu_kPl, pu_kCt, pu_cG, pu_cK, pu_cPn, pu_cPc, pu_cD, u2_00, c_n, c_0_0, c_1_0, c_2_0, c_2_1, c_3_0, c_3_1, c_4_0, c_4_1, c_5_0, c_5_1, c_5_2, c_5_3, c_6_0, c_6_1, c_7_0, c_7_1, c_7_2, c_8_0, c_8_1, c_8_2, c_9_0, c_9_1, e_1, e_2, e_3, e_4, a0]
    exact inv_cd _ h'
  obtain ⟨c, hc', rfl⟩ := in_1 (by omega) a0
  have ec := nI_clamp (n := c) (by omega)
  have ec1 := nI_clamp (n := c + 1) (by omega)
  have vc := vin (j := c) (n := 20) (by omega) (by decide)
  have vc1 := vin (j := c + 1) (n := 21) (by omega) (by decide)
  obtain ⟨⟨z1, z2⟩, hz, ⟨s, hs, hs1, hs2⟩, hfi, hmb⟩ : iH (N 0) (N (3 + c)) (g 8 c) (g 9 c) (μ 17 (c + 1)) (μ 18 (c + 1)) (μ 19 (c + 1)) (fun j => μ 20 (20 * (c + 1) + j)) := (hC c hc').1
  by_cases b1 : nI s = 1
  case neg =>
    simp [pu_in, pu_kin, pu_kw, pu_kG, pu_kPn, pu_kPl, pu_kCt, pu_cG, pu_cK, pu_cPn, pu_cPc, pu_cD, u2_00, c_n, c_0_0, c_1_0, c_2_0, c_2_1, c_3_0, c_3_1, c_4_0, c_4_1, c_5_0, c_5_1, c_5_2, c_5_3, c_6_0, c_6_1, c_7_0, c_7_1, c_7_2, c_8_0, c_8_1, c_8_2, c_9_0, c_9_1, e_1, e_2, e_3, e_4, a0, ec, ec1, vc, vc1, e_s, hz, hs1, hs2, hfi, hc', b1]
    exact inv_cd _ h'
  have hs0 : g 8 c 2 = 1 := by rw [hs1, b1]
  have hR0 : clR k g N (u2 (u2 (u2 μ 0 0 0) 0 0 0) 17 (c + 1) 2) c 0 g (u2 (u2 (u2 μ 0 0 0) 0 0 0) 17 (c + 1) 2) := by
    refine ⟨fun _ _ _ _ _ => rfl, fun _ _ _ _ => rfl, fun _ _ _ => rfl, hK, fun i hi => ⟨rfl, (hP.1 i hi).2⟩, fun _ _ _ => rfl, fun a i ha => absurd ha (Nat.not_lt_zero a), fun _ _ => ⟨rfl, rfl⟩, fun _ _ => rfl, ?_, ?_⟩
    · exact (hC c hc').2.2.2 (by rw [hs0]; decide)
    · intro i l hi
      simp [dfL] at hi
  obtain ⟨G, ν, w1, w2, w3, w4, w5⟩ := lp_cl (E := fC_close_26x) (KE := kC_close_26x) (E2 := fM_close_61x) (KE2 := kM_close_61x) (k := k) (g := g) (N := N) (μ := u2 (u2 (u2 μ 0 0 0) 0 0 0) 17 (c + 1) 2) (c := c) (x := nI (c + 1)) (by omega) n0 s0 hd ht z2 hz (fun i hi => (hP.1 i hi).1) hmb ((hC c hc').2.1) (fun _ _ => trivial) (N (3 + c)) 0 (199 - N (3 + c)) g _ (by omega) hR0
  rw [show 199 - N (3 + c) + N (3 + c) + 1 = 200 by omega, show nI 0 = 0 from rfl] at w2 w3 w4 w5
  have R2 := w1.2.1
  have m17 : ν 17 (c + 1) = 2 := by
    rw [R2 17 (by decide) (by decide) (by decide), u2_s, pk_us]
  have m18 : ν 18 (c + 1) = nI (N (3 + c)) := by
    rw [R2 18 (by decide) (by decide) (by decide)]; exact hz
  have hLν : iL (N (3 + c)) (g 10 c) (g 11 c) (g 12 c) (g 13 c) (g 14 c) (g 15 c) (fun l => ν 21 (120 * (c + 1) + l)) (fun l => ν 22 (120 * (c + 1) + l)) (fun l => ν 23 (120 * (c + 1) + l)) (fun l => ν 24 (120 * (c + 1) + l)) (fun l => ν 25 (120 * (c + 1) + l)) := by
    rw [R2 21 (by decide) (by decide) (by decide), R2 22 (by decide) (by decide) (by decide), R2 23 (by decide) (by decide) (by decide), R2 24 (by decide) (by decide) (by decide), R2 25 (by decide) (by decide) (by decide)]
    exact (hC c hc').2.1
  have hlen := dl_len (nt := g 10 c) (pc := g 11 c) (ff := g 12 c) (s := 0) (m := 6 * N (3 + c))
  obtain ⟨y1, y2⟩ := lp_85 (by omega) z2 hLν m18 m17 (dfL (g 10 c) (g 11 c) (g 12 c) 0 (6 * N (3 + c))).length 0 (199 - (dfL (g 10 c) (g 11 c) (g 12 c) 0 (6 * N (3 + c))).length) (by omega)
  rw [show 199 - (dfL (g 10 c) (g 11 c) (g 12 c) 0 (6 * N (3 + c))).length + (dfL (g 10 c) (g 11 c) (g 12 c) 0 (6 * N (3 + c))).length + 1 = 200 by omega, show nI 0 = 0 from rfl] at y1 y2
  have w4' := w4 y1
  have w5' : fM_close_61 fM_close_61x 200 (nI (c + 1)) 0 (u2 (u2 (u2 μ 0 0 0) 0 0 0) 17 (c + 1) 2) = (nI (dfL (g 10 c) (g 11 c) (g 12 c) 0 (6 * N (3 + c))).length, ν) := w5.trans y2
  have w3' : fC_close_26 fC_close_26x 200 (nI (c + 1)) c 0 g N = (none, nI (dfL (g 10 c) (g 11 c) (g 12 c) 0 (6 * N (3 + c))).length, u3 G 8 c 2 2) := by
    rw [w3]
    show (none, u3 G 8 c 2 2 8 c 0, u3 G 8 c 2 2) = _
    rw [u3_s, pk_un (by decide), w1.2.2.2.2.2.2.2.2.2.1]
  have c00 : ν 0 0 = 0 := by
    rw [R2 0 (by decide) (by decide) (by decide)]; rfl
  simp [pu_in, pu_kin, pu_kw, pu_kG, pu_kPn, pu_kPl, pu_kCt, pu_cG, pu_cK, pu_cPn, pu_cPc, pu_cD, u2_00, c_n, c_0_0, c_1_0, c_2_0, c_2_1, c_3_0, c_3_1, c_4_0, c_4_1, c_5_0, c_5_1, c_5_2, c_5_3, c_6_0, c_6_1, c_7_0, c_7_1, c_7_2, c_8_0, c_8_1, c_8_2, c_9_0, c_9_1, e_1, e_2, e_3, e_4, a0, ec, ec1, vc, vc1, e_s, hz, hs1, hs2, hfi, hc', b1, w2, w3', w4', w5', c00]
  exact cl_end ⟨⟨⟨n0, n1, n2⟩, ⟨s0, s1, s2⟩, ⟨r0, r1, r2⟩, hd, hw, hc, ht, hr⟩, hK, hP, hM, hC, hB, hT⟩ hc' hs0 w1
