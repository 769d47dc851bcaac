/-! PURE: differences -/
theorem dl_0 {nt pc ff : Nat → Int32} {s : Nat} : dfL nt pc ff s 0 = [] := rfl
theorem dl_y {nt pc ff : Nat → Int32} {s m : Nat} (h : dfP nt pc ff s) : dfL nt pc ff s (m + 1) = s :: dfL nt pc ff (s + 1) m := by
  unfold dfL
  rw [List.range'_succ, List.filter_cons_of_pos (by simpa using h)]
theorem dl_n {nt pc ff : Nat → Int32} {s m : Nat} (h : ¬ dfP nt pc ff s) : dfL nt pc ff s (m + 1) = dfL nt pc ff (s + 1) m := by
  unfold dfL
  rw [List.range'_succ, List.filter_cons_of_neg (by simpa using h)]
theorem dl_cy {nt pc ff : Nat → Int32} {m : Nat} (h : dfP nt pc ff m) : dfL nt pc ff 0 (m + 1) = dfL nt pc ff 0 m ++ [m] := by
  unfold dfL
  rw [List.range'_concat, List.filter_append]
  congr 1
  rw [show 0 + 1 * m = m by omega, List.filter_cons_of_pos (by simpa using h)]
  rfl
theorem dl_cn {nt pc ff : Nat → Int32} {m : Nat} (h : ¬ dfP nt pc ff m) : dfL nt pc ff 0 (m + 1) = dfL nt pc ff 0 m := by
  unfold dfL
  rw [List.range'_concat, List.filter_append, show 0 + 1 * m = m by omega, List.filter_cons_of_neg (by simpa using h)]
  simp
theorem dl_sk {nt pc ff : Nat → Int32} {m : Nat} : ∀ (d s : Nat), (∀ l, s ≤ l → l < s + d → ¬ dfP nt pc ff l) → dfL nt pc ff s (d + m) = dfL nt pc ff (s + d) m := by
  intro d
  induction d with
  | zero => intro s _; rw [Nat.zero_add, Nat.add_zero]
  | succ d ih =>
    intro s h
    rw [show d + 1 + m = (d + m) + 1 by omega, dl_n (h s (by omega) (by omega)), ih (s + 1) (fun l h1 h2 => h l (by omega) (by omega)), show s + 1 + d = s + (d + 1) by omega]
theorem dl_mem {nt pc ff : Nat → Int32} {s m i l : Nat} (h : (dfL nt pc ff s m)[i]? = some l) : s ≤ l ∧ l < s + m ∧ dfP nt pc ff l := by
  have h1 := List.mem_of_getElem? h
  unfold dfL at h1
  rw [List.mem_filter] at h1
  have h2 := List.mem_range'_1.mp h1.1
  exact ⟨h2.1, h2.2, by simpa using h1.2⟩
theorem dl_len {nt pc ff : Nat → Int32} {s m : Nat} : (dfL nt pc ff s m).length ≤ m := by
  unfold dfL
  exact Nat.le_trans (List.length_filter_le _ _) (by simp)
def toI (c : Nat) : Option Nat → Int32
  | some l => nI (120 * (c + 1) + l)
  | none => -1
theorem ct_M {c z : Nat} {nt pc ff sf ak co : Nat → Int32} {μ : Nat → Nat → Int32} (hc : c < 20) (hz : z ≤ 20) (hL : iL z nt pc ff sf ak co (fun l => μ 21 (120 * (c + 1) + l)) (fun l => μ 22 (120 * (c + 1) + l)) (fun l => μ 23 (120 * (c + 1) + l)) (fun l => μ 24 (120 * (c + 1) + l)) (fun l => μ 25 (120 * (c + 1) + l))) {l : Nat} (hl : l < 6 * z) : kM_counts (nI (120 * (c + 1) + l)) μ ∧ fM_counts (nI (120 * (c + 1) + l)) μ = pc l := by
  obtain ⟨_, ⟨f, s, v, hf, hs, hv, h0, t1, t2, t3, t4, t5, t6⟩, _⟩ := hL l hl
  have vL := vin (j := 120 * (c + 1) + l) (n := 2520) (by omega) (by decide)
  have eL := nI_clamp (n := 120 * (c + 1) + l) (by omega)
  obtain ⟨y1, y2⟩ := fb_12 (μ := μ) (by omega) hf hs t1
  have m1 := m1_0 (f := f) (by omega)
  have m2 := m1_0 (f := s) (by omega)
  refine ⟨⟨⟨vL, trivial⟩, fun _ => ⟨⟨vL, trivial⟩, fun _ => trivial, fun _ => ⟨vL, trivial⟩⟩, fun _ => ⟨vL, trivial⟩⟩, ?_⟩
  unfold fM_counts
  rw [y1, y2, eL, t4]
  by_cases b1 : s = 0
  · rw [if_pos (m2.mpr b1)]
    by_cases b2 : f = 0
    · rw [if_pos (m1.mpr b2), (h0 b2).2]; rfl
    · rw [if_neg (fun q => b2 (m1.mp q))]; exact t5 b2 b1
  · rw [if_neg (fun q => b1 (m2.mp q))]; exact t6 b1
theorem lp_to {c z : Nat} {nt pc ff sf ak co : Nat → Int32} {μ : Nat → Nat → Int32} (hc : c < 20) (hz : z ≤ 20) (hL : iL z nt pc ff sf ak co (fun l => μ 21 (120 * (c + 1) + l)) (fun l => μ 22 (120 * (c + 1) + l)) (fun l => μ 23 (120 * (c + 1) + l)) (fun l => μ 24 (120 * (c + 1) + l)) (fun l => μ 25 (120 * (c + 1) + l))) {j : Nat} (hj : j < z) : ∀ (d q n : Nat) (b : Int32), q + d = 6 → (b = 0 ∨ b = 1) → kM_isTold_5 kM_isTold_5x (n + d + 1) (nI (c + 1)) (nI j) b (nI q) μ ∧ ((fM_isTold_5 fM_isTold_5x (n + d + 1) (nI (c + 1)) (nI j) b (nI q) μ = 1 ∧ (b = 1 ∨ ∃ r, q ≤ r ∧ r < 6 ∧ ff (6 * j + r) ≠ -1)) ∨ (fM_isTold_5 fM_isTold_5x (n + d + 1) (nI (c + 1)) (nI j) b (nI q) μ = 0 ∧ b = 0 ∧ ∀ r, q ≤ r → r < 6 → ff (6 * j + r) = -1)) := by
  intro d
  induction d with
  | zero =>
    intro q n b hq hb
    have h1 : 6 ≤ nI q := (nI_leI (a := 6) (by decide) (by omega)).mpr (by omega)
    refine ⟨?_, ?_⟩
    · simp [kM_isTold_5, kM_isTold_5x, h1]
      exact pu_nb hb
    · simp [fM_isTold_5, fM_isTold_5x, h1]
      rcases hb with rfl | rfl
      · exact Or.inr ⟨rfl, fun r _ _ => by omega⟩
      · exact Or.inl ⟨rfl, Or.inl rfl⟩
  | succ d ih =>
    intro q n b hq hb
    have h1 : ¬ 6 ≤ nI q := fun h => absurd ((nI_leI (a := 6) (by decide) (by omega)).mp h) (by omega)
    obtain ⟨_, ⟨f, s, v, hf, hs, hv, h0, t1, t2, t3, t4, t5, t6⟩, _⟩ := hL (6 * j + q) (by omega)
    have t1' : μ 24 (120 * (c + 1) + (6 * j + q)) = nI (f + 10 * s) := t1
    have vL := vin (j := 120 * (c + 1) + (6 * j + q)) (n := 2520) (by omega) (by decide)
    have eL := nI_clamp (n := 120 * (c + 1) + (6 * j + q)) (by omega)
    have m1 := m1_0 (f := f) (by omega)
    have I0 := ih (q + 1) n 0 (by omega) (Or.inl rfl)
    have I1 := ih (q + 1) n 1 (by omega) (Or.inr rfl)
    rw [show n + (d + 1) + 1 = (n + d + 1) + 1 by omega]
    generalize n + d + 1 = f9 at I0 I1 ⊢
    obtain ⟨k0, a0⟩ := I0
    obtain ⟨k1, a1⟩ := I1
    have w1 : fM_isTold_5 fM_isTold_5x f9 (nI (c + 1)) (nI j) 1 (nI (q + 1)) μ = 1 := by
      rcases a1 with ⟨a, _⟩ | ⟨_, a, _⟩
      · exact a
      · exact absurd a (by decide)
    rcases hb with rfl | rfl
    · by_cases b2 : f = 0
      · have b3 : nI (f + 10 * s) ≤ 0 := by rw [b2, (h0 b2).1]; decide
        have e1 : ff (6 * j + q) = -1 := by rw [t2]; exact m1.mpr b2
        refine ⟨?_, ?_⟩
        · simpa [kM_isTold_5, h1, e_120, eL, vL, t1', b3, nI_1] using k0
        · have e2 : fM_isTold_5 fM_isTold_5x (f9 + 1) (nI (c + 1)) (nI j) 0 (nI q) μ = fM_isTold_5 fM_isTold_5x f9 (nI (c + 1)) (nI j) 0 (nI (q + 1)) μ := by
            simp [fM_isTold_5, h1, e_120, eL, t1', b3, nI_1]
          rw [e2]
          rcases a0 with ⟨a, c1⟩ | ⟨a, _, c1⟩
          · rcases c1 with c1 | ⟨r, r1, r2⟩
            · exact absurd c1 (by decide)
            · exact Or.inl ⟨a, Or.inr ⟨r, by omega, r2⟩⟩
          · refine Or.inr ⟨a, rfl, fun r r1 r2 => ?_⟩
            by_cases e : r = q
            · subst e; exact e1
            · exact c1 r (by omega) r2
      · have b3 : ¬ nI (f + 10 * s) ≤ 0 := nI_nle (by omega) (by omega)
        have e1 : ff (6 * j + q) ≠ -1 := by rw [t2]; exact fun q => b2 (m1.mp q)
        refine ⟨?_, Or.inl ⟨?_, Or.inr ⟨q, Nat.le_refl _, by omega, e1⟩⟩⟩
        · simpa [kM_isTold_5, h1, e_120, eL, vL, t1', b3, nI_1] using k1
        · simpa [fM_isTold_5, h1, e_120, eL, t1', b3, nI_1] using w1
    · refine ⟨?_, Or.inl ⟨?_, Or.inl rfl⟩⟩
      · simpa [kM_isTold_5, h1, nI_1] using k1
      · simpa [fM_isTold_5, h1, nI_1] using w1
theorem to_M {c z : Nat} {nt pc ff sf ak co : Nat → Int32} {μ : Nat → Nat → Int32} (hc : c < 20) (hz : z ≤ 20) (hL : iL z nt pc ff sf ak co (fun l => μ 21 (120 * (c + 1) + l)) (fun l => μ 22 (120 * (c + 1) + l)) (fun l => μ 23 (120 * (c + 1) + l)) (fun l => μ 24 (120 * (c + 1) + l)) (fun l => μ 25 (120 * (c + 1) + l))) {j : Nat} (hj : j < z) : kM_isTold (nI (c + 1)) (nI j) μ ∧ ((fM_isTold (nI (c + 1)) (nI j) μ = 1 ∧ toP ff j) ∨ (fM_isTold (nI (c + 1)) (nI j) μ = 0 ∧ ¬ toP ff j)) := by
  obtain ⟨h1, h2⟩ := lp_to hc hz hL hj 6 0 193 0 (by omega) (Or.inl rfl)
  refine ⟨h1, ?_⟩
  rcases h2 with ⟨a, b⟩ | ⟨a, _, b⟩
  · refine Or.inl ⟨a, ?_⟩
    rcases b with b | ⟨r, _, b1, b2⟩
    · exact absurd b (by decide)
    · exact ⟨r, b1, b2⟩
  · exact Or.inr ⟨a, fun ⟨r, r1, r2⟩ => r2 (b r (by omega) r1)⟩
theorem lp_33 {c z : Nat} {nt pc ff sf ak co : Nat → Int32} {μ : Nat → Nat → Int32} (hc : c < 20) (hz : z ≤ 20) (hL : iL z nt pc ff sf ak co (fun l => μ 21 (120 * (c + 1) + l)) (fun l => μ 22 (120 * (c + 1) + l)) (fun l => μ 23 (120 * (c + 1) + l)) (fun l => μ 24 (120 * (c + 1) + l)) (fun l => μ 25 (120 * (c + 1) + l))) {j m : Nat} {x2 : Int32} {O E : Int32 → Int32 → Int32 → Int32 → (Nat → Nat → Int32) → Int32} {KO KE : Int32 → Int32 → Int32 → Int32 → (Nat → Nat → Int32) → Prop} (hj : j < z) (hO : ∀ n, n < 2 ^ 31 → KO (nI (c + 1)) x2 (nI n) (nI (j + 1)) μ ∧ O (nI (c + 1)) x2 (nI n) (nI (j + 1)) μ = toI c (dfL nt pc ff (6 * (j + 1)) m)[n]?) : ∀ (d q f n : Nat), q + d = 6 → n < 2 ^ 31 → kM_difference_33 KO KE (kM_difference_33x KO KE) (f + d + 1) (nI (c + 1)) x2 (nI n) (nI j) (nI q) μ ∧ fM_difference_33 O E (fM_difference_33x O E) (f + d + 1) (nI (c + 1)) x2 (nI n) (nI j) (nI q) μ = toI c (dfL nt pc ff (6 * j + q) (d + m))[n]? := by
  obtain ⟨kt, tl⟩ := to_M hc hz hL hj
  intro d
  induction d with
  | zero =>
    intro q f n hq hn
    have h1 : 6 ≤ nI q := (nI_leI (a := 6) (by decide) (by omega)).mpr (by omega)
    obtain ⟨o1, o2⟩ := hO n hn
    refine ⟨?_, ?_⟩
    · simpa [kM_difference_33, kM_difference_33x, h1, nI_1] using o1
    · rw [show 6 * j + q = 6 * (j + 1) by omega, Nat.zero_add, ← o2]
      simp [fM_difference_33, fM_difference_33x, h1, nI_1]
  | succ d ih =>
    intro q f n hq hn
    have h1 : ¬ 6 ≤ nI q := fun h => absurd ((nI_leI (a := 6) (by decide) (by omega)).mp h) (by omega)
    rw [show f + (d + 1) + 1 = (f + d + 1) + 1 by omega]
    rcases tl with ⟨t1, t2⟩ | ⟨t1, t2⟩
    · obtain ⟨kc, fc⟩ := ct_M hc hz hL (l := 6 * j + q) (by omega)
      obtain ⟨⟨w, hw, w1, w2⟩, _⟩ := hL (6 * j + q) (by omega)
      have w2' : μ 21 (120 * (c + 1) + (6 * j + q)) = nI w := w2
      have vL := vin (j := 120 * (c + 1) + (6 * j + q)) (n := 2520) (by omega) (by decide)
      have eL := nI_clamp (n := 120 * (c + 1) + (6 * j + q)) (by omega)
      have t1' : ¬ fM_isTold (nI (c + 1)) (nI j) μ = 0 := by rw [t1]; decide
      have hd : toP ff ((6 * j + q) / 6) := by rw [show (6 * j + q) / 6 = j by omega]; exact t2
      have en : d + 1 + m = (d + m) + 1 := by omega
      by_cases b : pc (6 * j + q) = nI w
      · obtain ⟨i1, i2⟩ := ih (q + 1) f n (by omega) hn
        generalize f + d + 1 = f9 at i1 i2 ⊢
        rw [en, dl_n (fun h => h.2 (by rw [b, w1])), show 6 * j + q + 1 = 6 * j + (q + 1) by omega, ← i2]
        refine ⟨?_, ?_⟩
        · simpa [kM_difference_33, h1, kt, t1', e_120, kc, fc, eL, vL, w2', b, nI_1] using i1
        · simp [fM_difference_33, h1, t1', e_120, fc, eL, w2', b, nI_1]
      · rw [en, dl_y ⟨hd, by rw [w1]; exact b⟩]
        cases n with
        | zero =>
          generalize f + d + 1 = f9
          refine ⟨?_, ?_⟩
          · simp [kM_difference_33, h1, kt, t1', e_120, kc, fc, eL, vL, w2', b, nI_0]
          · simp [fM_difference_33, h1, t1', e_120, fc, eL, w2', b, nI_0, toI]
        | succ n =>
          obtain ⟨i1, i2⟩ := ih (q + 1) f n (by omega) (by omega)
          generalize f + d + 1 = f9 at i1 i2 ⊢
          have n0 : ¬ nI (n + 1) = 0 := nI_ne0 (by omega) hn
          have n1 : nI (n + 1) + -1 = nI n := pk_m1 n
          rw [List.getElem?_cons_succ, show 6 * j + q + 1 = 6 * j + (q + 1) by omega, ← i2]
          refine ⟨?_, ?_⟩
          · simpa [kM_difference_33, h1, kt, t1', e_120, kc, fc, eL, vL, w2', b, n0, n1, nI_1] using i1
          · simp [fM_difference_33, h1, t1', e_120, fc, eL, w2', b, n0, n1, nI_1]
    · obtain ⟨o1, o2⟩ := hO n hn
      generalize f + d + 1 = f9
      rw [dl_sk (d + 1) (6 * j + q) (fun l l1 l2 h => t2 (by
        have := h.1
        rw [show l / 6 = j by omega] at this
        exact this)), show 6 * j + q + (d + 1) = 6 * (j + 1) by omega, ← o2]
      refine ⟨?_, ?_⟩
      · simpa [kM_difference_33, kM_difference_33x, h1, kt, t1, nI_1] using o1
      · simp [fM_difference_33, fM_difference_33x, h1, t1, nI_1]
theorem lp_5 {c z : Nat} {nt pc ff sf ak co : Nat → Int32} {μ : Nat → Nat → Int32} (hc : c < 20) (hz : z ≤ 20) (hL : iL z nt pc ff sf ak co (fun l => μ 21 (120 * (c + 1) + l)) (fun l => μ 22 (120 * (c + 1) + l)) (fun l => μ 23 (120 * (c + 1) + l)) (fun l => μ 24 (120 * (c + 1) + l)) (fun l => μ 25 (120 * (c + 1) + l))) {x : Nat} (r18 : μ 18 (c + 1) = nI z) (r17 : μ 17 (c + 1) = 2) (hx : x < 2 ^ 31) : ∀ (d j f n : Nat), j + d = z → n < 2 ^ 31 → kM_difference_5 kM_difference_5x (f + d + 1) (nI (c + 1)) (nI x) (nI n) (nI j) μ ∧ fM_difference_5 fM_difference_5x (f + d + 1) (nI (c + 1)) (nI x) (nI n) (nI j) μ = toI c (dfL nt pc ff (6 * j) (6 * d))[n]? := by
  have c1 := nI_clamp (n := c + 1) (by omega)
  have v1 := vin (j := c + 1) (n := 21) (by omega) (by decide)
  have x0 := nI_pos hx
  intro d
  induction d with
  | zero =>
    intro j f n hj hn
    have h1 : nI z ≤ nI j := (nI_leI (by omega) (by omega)).mpr (by omega)
    simp [kM_difference_5, fM_difference_5, kM_difference_5x, fM_difference_5x, c1, v1, r18, h1, dl_0, toI]
  | succ d ih =>
    intro j f n hj hn
    have h1 : ¬ nI z ≤ nI j := fun h => absurd ((nI_leI (by omega) (by omega)).mp h) (by omega)
    rw [show f + (d + 1) + 1 = (f + d + 1) + 1 by omega]
    have I := fun n hn => ih (j + 1) f n (by omega) hn
    generalize f + d + 1 = f9 at I ⊢
    obtain ⟨a1, a2⟩ := lp_33 (O := fM_difference_5 fM_difference_5x f9) (E := fM_difference_5x) (KO := kM_difference_5 kM_difference_5x f9) (KE := kM_difference_5x) hc hz hL (x2 := nI x) (j := j) (by omega) I 6 0 193 n (by omega) hn
    rw [show 6 * (d + 1) = 6 + 6 * d by omega]
    refine ⟨?_, ?_⟩
    · refine ⟨v1, ?_, ?_⟩
      · rw [c1, r18]; exact fun h => absurd h h1
      · intro _
        refine ⟨fun h => absurd h x0, fun _ => ⟨v1, fun _ => a1, ?_⟩⟩
        rw [c1, r17]; exact fun h => absurd rfl h
    · show (if μ 18 (nI (c + 1)).toNatClampNeg ≤ nI j then _ else if nI x < 0 then _ else if μ 17 (nI (c + 1)).toNatClampNeg = 2 then _ else _) = _
      rw [c1, r18, if_neg h1, if_neg x0, r17, if_pos rfl]
      exact a2
theorem df_M {c z : Nat} {nt pc ff sf ak co : Nat → Int32} {μ : Nat → Nat → Int32} (hc : c < 20) (hz : z ≤ 20) (hL : iL z nt pc ff sf ak co (fun l => μ 21 (120 * (c + 1) + l)) (fun l => μ 22 (120 * (c + 1) + l)) (fun l => μ 23 (120 * (c + 1) + l)) (fun l => μ 24 (120 * (c + 1) + l)) (fun l => μ 25 (120 * (c + 1) + l))) {x : Nat} (r18 : μ 18 (c + 1) = nI z) (r17 : μ 17 (c + 1) = 2) (hx : x < 2 ^ 31) : kM_difference (nI (c + 1)) (nI x) μ ∧ fM_difference (nI (c + 1)) (nI x) μ = toI c (dfL nt pc ff 0 (6 * z))[x]? := by
  have h := lp_5 hc hz hL r18 r17 hx z 0 (199 - z) x (by omega) hx
  rw [show 199 - z + z + 1 = 200 by omega] at h
  exact h
theorem df_N {c z : Nat} {μ : Nat → Nat → Int32} {x : Int32} (hc : c < 20) (r18 : μ 18 (c + 1) = nI z) (r17 : μ 17 (c + 1) ≠ 2 ∨ x < 0) : kM_difference (nI (c + 1)) x μ ∧ fM_difference (nI (c + 1)) x μ = -1 := by
  have c1 := nI_clamp (n := c + 1) (by omega)
  have v1 := vin (j := c + 1) (n := 21) (by omega) (by decide)
  have key : ∀ n, kM_difference_5 kM_difference_5x (n + 1) (nI (c + 1)) x x 0 μ ∧ fM_difference_5 fM_difference_5x (n + 1) (nI (c + 1)) x x 0 μ = -1 := by
    intro n
    by_cases b1 : nI z ≤ 0
    · simp [kM_difference_5, fM_difference_5, kM_difference_5x, fM_difference_5x, c1, v1, r18, b1]
    · by_cases b2 : x < 0
      · simp [kM_difference_5, fM_difference_5, kM_difference_5x, fM_difference_5x, c1, v1, r18, b1, b2]
      · have b3 : ¬ μ 17 (c + 1) = 2 := by
          rcases r17 with h | h
          · exact h
          · exact absurd h b2
        simp [kM_difference_5, fM_difference_5, kM_difference_5x, fM_difference_5x, c1, v1, r18, b1, b2, b3]
  exact key 199
