/-! PURE: round, who is left -/
def fl (F : Nat → Bool) (s n : Nat) : List Nat := (List.range' s n).filter F
theorem fl_0 {F : Nat → Bool} {s : Nat} : fl F s 0 = [] := rfl
theorem fl_y {F : Nat → Bool} {s m : Nat} (h : F s = true) : fl F s (m + 1) = s :: fl F (s + 1) m := by
  unfold fl
  rw [List.range'_succ, List.filter_cons_of_pos h]
theorem fl_n {F : Nat → Bool} {s m : Nat} (h : F s = false) : fl F s (m + 1) = fl F (s + 1) m := by
  unfold fl
  rw [List.range'_succ, List.filter_cons_of_neg (by rw [h]; decide)]
theorem fl_cy {F : Nat → Bool} {m : Nat} (h : F m = true) : fl F 0 (m + 1) = fl F 0 m ++ [m] := by
  unfold fl
  rw [List.range'_concat, List.filter_append]
  congr 1
  rw [show 0 + 1 * m = m by omega, List.filter_cons_of_pos h]
  rfl
theorem fl_cn {F : Nat → Bool} {m : Nat} (h : F m = false) : fl F 0 (m + 1) = fl F 0 m := by
  unfold fl
  rw [List.range'_concat, List.filter_append, show 0 + 1 * m = m by omega, List.filter_cons_of_neg (by rw [h]; decide)]
  simp
theorem fl_mem {F : Nat → Bool} {s n l : Nat} : l ∈ fl F s n ↔ (s ≤ l ∧ l < s + n) ∧ F l = true := by
  unfold fl
  rw [List.mem_filter, List.mem_range'_1]
theorem fl_len {F : Nat → Bool} {s n : Nat} : (fl F s n).length ≤ n := by
  unfold fl
  exact Nat.le_trans (List.length_filter_le _ _) (by simp)
theorem fl_nd {F : Nat → Bool} {s n : Nat} : (fl F s n).Nodup := by
  unfold fl
  exact List.Pairwise.filter _ (List.nodup_range' (h := by decide))
theorem nd_er : ∀ (A : List Nat) (r p : Nat), A.Nodup → A[r]? = some p → A.filter (fun x => decide (x ≠ p)) = A.eraseIdx r := by
  intro A
  induction A with
  | nil => intro r p _ h; simp at h
  | cons a as ih =>
    intro r p hn h
    rw [List.nodup_cons] at hn
    cases r with
    | zero =>
      have e : a = p := by simpa using h
      subst e
      rw [List.eraseIdx_cons_zero, List.filter_cons_of_neg (by simp)]
      rw [List.filter_eq_self]
      intro x hx
      have : x ≠ a := fun e => hn.1 (by rw [← e]; exact hx)
      simpa using this
    | succ r =>
      rw [List.getElem?_cons_succ] at h
      have hm := List.mem_of_getElem? h
      have : a ≠ p := fun e => hn.1 (by rw [e]; exact hm)
      rw [List.eraseIdx_cons_succ, List.filter_cons_of_pos (by simpa using this), ih r p hn.2 h]
theorem fl_er {F : Nat → Bool} {s n r p : Nat} (h : (fl F s n)[r]? = some p) : fl (fun x => F x && decide (x ≠ p)) s n = (fl F s n).eraseIdx r := by
  rw [← nd_er _ r p fl_nd h]
  unfold fl
  rw [List.filter_filter]
  congr 1
  funext x
  rw [Bool.and_comm]
def toJ : Option Nat → Int32
  | some l => nI l
  | none => -1
theorem lp_bn {N0 : Nat} {F : Nat → Bool} {ν : Nat → Nat → Int32} {x : Int32} (hN : N0 ≤ 20) (r0 : ν 3 0 = nI N0) (hF : ∀ p, p < N0 → ν 28 p = if F p then 1 else 0) : ∀ (d p f n : Nat), p + d = N0 → n < 2 ^ 31 → kM_byNumber_4 kM_byNumber_4x (f + d + 1) x (nI n) (nI p) ν ∧ fM_byNumber_4 fM_byNumber_4x (f + d + 1) x (nI n) (nI p) ν = toJ (fl F p d)[n]? := by
  intro d
  induction d with
  | zero =>
    intro p f n hp hn
    have h1 : nI N0 ≤ nI p := (nI_leI (by omega) (by omega)).mpr (by omega)
    simp [kM_byNumber_4, fM_byNumber_4, kM_byNumber_4x, fM_byNumber_4x, r0, h1, fl_0, toJ]
  | succ d ih =>
    intro p f n hp hn
    have h1 : ¬ nI N0 ≤ nI p := fun h => absurd ((nI_leI (by omega) (by omega)).mp h) (by omega)
    have ep := nI_clamp (n := p) (by omega)
    have vp := vin (j := p) (n := 20) (by omega) (by decide)
    have hFp := hF p (by omega)
    rw [show f + (d + 1) + 1 = (f + d + 1) + 1 by omega]
    cases hb : F p with
    | false =>
      rw [hb] at hFp
      have hFp' : ν 28 p = 0 := hFp
      obtain ⟨i1, i2⟩ := ih (p + 1) f n (by omega) hn
      generalize f + d + 1 = f9 at i1 i2 ⊢
      rw [fl_n hb, ← i2]
      refine ⟨?_, ?_⟩
      · simpa [kM_byNumber_4, r0, h1, ep, vp, hFp', nI_1] using i1
      · simp [fM_byNumber_4, r0, h1, ep, hFp', nI_1]
    | true =>
      rw [hb] at hFp
      have hFp' : ν 28 p = 1 := hFp
      rw [fl_y hb]
      cases n with
      | zero =>
        generalize f + d + 1 = f9
        refine ⟨?_, ?_⟩
        · simp [kM_byNumber_4, r0, h1, ep, vp, hFp', nI_0]
        · simp [fM_byNumber_4, r0, h1, ep, hFp', nI_0, toJ]
      | succ n =>
        obtain ⟨i1, i2⟩ := ih (p + 1) f n (by omega) (by omega)
        generalize f + d + 1 = f9 at i1 i2 ⊢
        have n0 : ¬ nI (n + 1) = 0 := nI_ne0 (by omega) hn
        have n1 : nI (n + 1) + -1 = nI n := pk_m1 n
        rw [List.getElem?_cons_succ, ← i2]
        refine ⟨?_, ?_⟩
        · simpa [kM_byNumber_4, r0, h1, ep, vp, hFp', n0, n1, nI_1] using i1
        · simp [fM_byNumber_4, r0, h1, ep, hFp', n0, n1, nI_1]
def amin (w : Nat → Int32) : Nat → List Nat → Nat
  | b, [] => b
  | b, p :: ps => if w b ≤ w p then amin w b ps else amin w p ps
theorem lp_br {N0 : Nat} {F : Nat → Bool} {ν : Nat → Nat → Int32} (hN : N0 ≤ 20) (r0 : ν 3 0 = nI N0) (hF : ∀ p, p < N0 → ν 28 p = if F p then 1 else 0) : ∀ (d p f b : Nat), p + d = N0 → b < N0 → kM_byRank_4 kM_byRank_4x (f + d + 1) (nI b) (nI p) ν ∧ fM_byRank_4 fM_byRank_4x (f + d + 1) (nI b) (nI p) ν = nI (amin (ν 5) b (fl F p d)) := by
  intro d
  induction d with
  | zero =>
    intro p f b hp hb
    have h1 : nI N0 ≤ nI p := (nI_leI (by omega) (by omega)).mpr (by omega)
    simp [kM_byRank_4, fM_byRank_4, kM_byRank_4x, fM_byRank_4x, r0, h1, fl_0, amin]
  | succ d ih =>
    intro p f b hp hb
    have h1 : ¬ nI N0 ≤ nI p := fun h => absurd ((nI_leI (by omega) (by omega)).mp h) (by omega)
    have ep := nI_clamp (n := p) (by omega)
    have vp := vin (j := p) (n := 20) (by omega) (by decide)
    have eb := nI_clamp (n := b) (by omega)
    have vb := vin (j := b) (n := 20) (by omega) (by decide)
    have nb : ¬ nI b = -1 := fun q => by
      have := nI_pos (n := b) (by omega)
      rw [q] at this
      exact absurd (by decide) this
    have hFp := hF p (by omega)
    rw [show f + (d + 1) + 1 = (f + d + 1) + 1 by omega]
    cases hb' : F p with
    | false =>
      rw [hb'] at hFp
      have hFp' : ν 28 p = 0 := hFp
      obtain ⟨i1, i2⟩ := ih (p + 1) f b (by omega) hb
      generalize f + d + 1 = f9 at i1 i2 ⊢
      rw [fl_n hb', ← i2]
      refine ⟨?_, ?_⟩
      · simpa [kM_byRank_4, r0, h1, ep, vp, hFp', nI_1] using i1
      · simp [fM_byRank_4, r0, h1, ep, hFp', nI_1]
    | true =>
      rw [hb'] at hFp
      have hFp' : ν 28 p = 1 := hFp
      rw [fl_y hb']
      by_cases c1 : ν 5 b ≤ ν 5 p
      · obtain ⟨i1, i2⟩ := ih (p + 1) f b (by omega) hb
        generalize f + d + 1 = f9 at i1 i2 ⊢
        rw [show amin (ν 5) b (p :: fl F (p + 1) d) = amin (ν 5) b (fl F (p + 1) d) from if_pos c1, ← i2]
        refine ⟨?_, ?_⟩
        · simpa [kM_byRank_4, r0, h1, ep, vp, eb, vb, nb, hFp', c1, nI_1] using i1
        · simp [fM_byRank_4, r0, h1, ep, eb, nb, hFp', c1, nI_1]
      · obtain ⟨i1, i2⟩ := ih (p + 1) f p (by omega) (by omega)
        generalize f + d + 1 = f9 at i1 i2 ⊢
        rw [show amin (ν 5) b (p :: fl F (p + 1) d) = amin (ν 5) p (fl F (p + 1) d) from if_neg c1, ← i2]
        refine ⟨?_, ?_⟩
        · simpa [kM_byRank_4, r0, h1, ep, vp, eb, vb, nb, hFp', c1, nI_1] using i1
        · simp [fM_byRank_4, r0, h1, ep, eb, nb, hFp', c1, nI_1]
theorem lp_br0 {N0 : Nat} {F : Nat → Bool} {ν : Nat → Nat → Int32} (hN : N0 ≤ 20) (r0 : ν 3 0 = nI N0) (hF : ∀ p, p < N0 → ν 28 p = if F p then 1 else 0) : ∀ (d p f q : Nat) (qs : List Nat), p + d = N0 → fl F p d = q :: qs → kM_byRank_4 kM_byRank_4x (f + d + 1) (-1) (nI p) ν ∧ fM_byRank_4 fM_byRank_4x (f + d + 1) (-1) (nI p) ν = nI (amin (ν 5) q qs) := by
  intro d
  induction d with
  | zero => intro p f q qs hp h; rw [fl_0] at h; exact absurd h (by simp)
  | succ d ih =>
    intro p f q qs hp h
    have h1 : ¬ nI N0 ≤ nI p := fun h => absurd ((nI_leI (by omega) (by omega)).mp h) (by omega)
    have ep := nI_clamp (n := p) (by omega)
    have vp := vin (j := p) (n := 20) (by omega) (by decide)
    have hFp := hF p (by omega)
    rw [show f + (d + 1) + 1 = (f + d + 1) + 1 by omega]
    cases hb' : F p with
    | false =>
      rw [hb'] at hFp
      have hFp' : ν 28 p = 0 := hFp
      rw [fl_n hb'] at h
      obtain ⟨i1, i2⟩ := ih (p + 1) f q qs (by omega) h
      generalize f + d + 1 = f9 at i1 i2 ⊢
      rw [← i2]
      refine ⟨?_, ?_⟩
      · simpa [kM_byRank_4, r0, h1, ep, vp, hFp', nI_1] using i1
      · simp [fM_byRank_4, r0, h1, ep, hFp', nI_1]
    | true =>
      rw [hb'] at hFp
      have hFp' : ν 28 p = 1 := hFp
      rw [fl_y hb'] at h
      obtain ⟨e1, e2⟩ := List.cons.inj h
      subst e1
      subst e2
      obtain ⟨i1, i2⟩ := lp_br hN r0 hF d (p + 1) f p (by omega) (by omega)
      generalize f + d + 1 = f9 at i1 i2 ⊢
      rw [← i2]
      refine ⟨?_, ?_⟩
      · simpa [kM_byRank_4, r0, h1, ep, vp, hFp', nI_1] using i1
      · simp [fM_byRank_4, r0, h1, ep, hFp', nI_1]
theorem lp_lu {G : Nat → Nat → Nat → Int32} {N : Nat → Nat} {L : List Nat} (hN : N 0 ≤ 20) (s0 : G 0 0 0 = nI (N 0)) (hl : L.length ≤ 20) (hL : ∀ i l, L[i]? = some l → G 4 0 i = nI l ∧ l < N 0) : ∀ (d i b q f : Nat), i + d = L.length → b < L.length → L[b]? = some q → ∃ r, r < L.length ∧ kC_longestUncounted_4 kC_longestUncounted_4x (f + d + 1) (nI L.length) (nI b) (nI i) G N ∧ fC_longestUncounted_4 fC_longestUncounted_4x (f + d + 1) (nI L.length) (nI b) (nI i) G N = nI r ∧ L[r]? = some (amin (fun l => G 5 l 1) q (L.drop i)) := by
  intro d
  induction d with
  | zero =>
    intro i b q f hi hb hq
    have h1 : nI L.length ≤ nI i := (nI_leI (by omega) (by omega)).mpr (by omega)
    refine ⟨b, hb, ?_, ?_, ?_⟩
    · simp [kC_longestUncounted_4, kC_longestUncounted_4x, h1]
    · simp [fC_longestUncounted_4, fC_longestUncounted_4x, h1]
    · rw [List.drop_eq_nil_of_le (by omega)]; exact hq
  | succ d ih =>
    intro i b q f hi hb hq
    have h1 : ¬ nI L.length ≤ nI i := fun h => absurd ((nI_leI (by omega) (by omega)).mp h) (by omega)
    have ei := nI_clamp (n := i) (by omega)
    have vi := vin (j := i) (n := 20) (by omega) (by decide)
    have eb := nI_clamp (n := b) (by omega)
    have vb := vin (j := b) (n := 20) (by omega) (by decide)
    have hp := List.getElem?_eq_getElem (l := L) (i := i) (by omega)
    have hdr : L.drop i = L[i] :: L.drop (i + 1) := List.drop_eq_getElem_cons (by omega)
    generalize L[i] = p at hp hdr
    obtain ⟨g1, g2⟩ := hL i p hp
    obtain ⟨g3, g4⟩ := hL b q hq
    have ep := nI_clamp (n := p) (by omega)
    have eq := nI_clamp (n := q) (by omega)
    have k1 := pn_k (g := G) hN s0 g2
    have k2 := pn_k (g := G) hN s0 g4
    rw [ep] at k1
    rw [eq] at k2
    rw [show f + (d + 1) + 1 = (f + d + 1) + 1 by omega, hdr]
    by_cases c1 : G 5 q 1 ≤ G 5 p 1
    · obtain ⟨r, i0, i1, i2, i3⟩ := ih (i + 1) b q f (by omega) hb hq
      generalize f + d + 1 = f9 at i1 i2 ⊢
      refine ⟨r, i0, ?_, ?_, ?_⟩
      · simpa [kC_longestUncounted_4, h1, ei, vi, eb, vb, g1, g3, ep, eq, k1, k2, g2, g4, c1, nI_1] using i1
      · rw [← i2]; simp [fC_longestUncounted_4, h1, ei, eb, g1, g3, ep, eq, c1, nI_1]
      · rw [i3]; exact congrArg some (if_pos c1).symm
    · obtain ⟨r, i0, i1, i2, i3⟩ := ih (i + 1) i p f (by omega) (by omega) hp
      generalize f + d + 1 = f9 at i1 i2 ⊢
      refine ⟨r, i0, ?_, ?_, ?_⟩
      · simpa [kC_longestUncounted_4, h1, ei, vi, eb, vb, g1, g3, ep, eq, k1, k2, g2, g4, c1, nI_1] using i1
      · rw [← i2]; simp [fC_longestUncounted_4, h1, ei, eb, g1, g3, ep, eq, c1, nI_1]
      · rw [i3]; exact congrArg some (if_neg c1).symm
/-- the longest uncounted, both ways -/
theorem rank_both {G : Nat → Nat → Nat → Int32} {N : Nat → Nat} {F : Nat → Bool} {ν : Nat → Nat → Int32} (hN : N 0 ≤ 20) (s0 : G 0 0 0 = nI (N 0)) (r0 : ν 3 0 = nI (N 0)) (hF : ∀ p, p < N 0 → ν 28 p = if F p then 1 else 0) (hL : ∀ i l, (fl F 0 (N 0))[i]? = some l → G 4 0 i = nI l) (h5 : ∀ p, p < N 0 → G 5 p 1 = ν 5 p) (h0 : 0 < (fl F 0 (N 0)).length) : ∃ r p, r < (fl F 0 (N 0)).length ∧ (fl F 0 (N 0))[r]? = some p ∧ kC_longestUncounted (nI (fl F 0 (N 0)).length) G N ∧ fC_longestUncounted (nI (fl F 0 (N 0)).length) G N = nI r ∧ kM_byRank ν ∧ fM_byRank ν = nI p := by
  have hlen := fl_len (F := F) (s := 0) (n := N 0)
  have hm : ∀ i l, (fl F 0 (N 0))[i]? = some l → l < N 0 := fun i l h => by
    have := (fl_mem.mp (List.mem_of_getElem? h)).1.2
    omega
  obtain ⟨q, qs, hq⟩ := List.exists_cons_of_length_pos h0
  obtain ⟨r, a1, a2, a3, a4⟩ := lp_lu (G := G) (N := N) (L := fl F 0 (N 0)) hN s0 (by omega) (fun i l h => ⟨hL i l h, hm i l h⟩) ((fl F 0 (N 0)).length - 1) 1 0 q (200 - (fl F 0 (N 0)).length) (by omega) h0 (by rw [hq]; rfl)
  obtain ⟨b1, b2⟩ := lp_br0 hN r0 hF (N 0) 0 (199 - N 0) q qs (by omega) hq
  rw [show 200 - (fl F 0 (N 0)).length + ((fl F 0 (N 0)).length - 1) + 1 = 200 by omega] at a2 a3
  rw [show 199 - N 0 + N 0 + 1 = 200 by omega] at b1 b2
  have hw : ∀ (ps : List Nat) (b : Nat), b < N 0 → (∀ x ∈ ps, x < N 0) → amin (fun l => G 5 l 1) b ps = amin (ν 5) b ps := by
    intro ps
    induction ps with
    | nil => intro _ _ _; rfl
    | cons x xs ih =>
      intro b hb hx
      have hx0 := hx x (by simp)
      show (if G 5 b 1 ≤ G 5 x 1 then _ else _) = (if ν 5 b ≤ ν 5 x then _ else _)
      rw [h5 b hb, h5 x hx0]
      by_cases c : ν 5 b ≤ ν 5 x
      · rw [if_pos c, if_pos c]; exact ih b hb (fun y hy => hx y (List.mem_cons_of_mem _ hy))
      · rw [if_neg c, if_neg c]; exact ih x hx0 (fun y hy => hx y (List.mem_cons_of_mem _ hy))
  have hin : ∀ x ∈ fl F 0 (N 0), x < N 0 := fun x hx => by
    have := (fl_mem.mp hx).1.2
    omega
  rw [hq, List.drop_succ_cons, List.drop_zero, hw qs q (hin q (by rw [hq]; simp)) (fun x hx => hin x (by rw [hq]; exact List.mem_cons_of_mem _ hx)), ← hq] at a4
  exact ⟨r, amin (ν 5) q qs, a1, a4, a2, a3, b1, b2⟩
