/-! PURE: what holds between the calls, row by row -/
def iS (s c t r : Nat → Int32) (N0 N1 N2 : Nat) (m1 m2 m3 m7 m8 m9 m10 m16 : Nat → Int32) : Prop := (N0 ≤ 20 ∧ N1 ≤ 60 ∧ N2 ≤ 20) ∧ (s 0 = nI N0 ∧ s 1 = nI N1 ∧ s 2 = nI N2) ∧ (m3 0 = nI N0 ∧ m10 0 = nI N1 ∧ m16 0 = nI N2) ∧ s 3 = m1 0 ∧ ((s 4 = 1 ∧ m2 0 = 0) ∨ (s 4 = 0 ∧ m2 0 = 1)) ∧ (∀ j, j < 3 → c j = m7 j) ∧ (∀ j, j < 3 → t j = m8 j) ∧ (∀ j, j < 6 → r j = m9 j)
def iK (k : Nat) (s m26 m27 : Nat → Int32) : Prop := ∃ c r : Nat, r ≤ c ∧ c ≤ 20 * k ∧ s 5 = nI c ∧ m26 0 = nI c ∧ s 6 = nI r ∧ m27 0 = nI r
def iP1 (a0 a1 b0 b1 : Int32) : Prop := (∃ d : Nat, d ≤ 2 ∧ a0 = nI d ∧ b0 = nI d) ∧ a1 = b1
def iV (n : Nat) (a b : Int32) : Prop := ∃ v : Nat, v ≤ n ∧ a = nI v ∧ b = nI v
def iP (N0 : Nat) (p b : Nat → Nat → Int32) (m4 m5 m6 : Nat → Int32) : Prop := (∀ i, i < N0 → iP1 (p i 0) (p i 1) (m4 i) (m5 i)) ∧ (∀ i, i < N0 → ∀ j, j < 6 → iV 1000000 (b i j) (m6 (6 * i + j))) ∧ ∀ j, 6 * N0 ≤ j → m6 j = 0
def iM1 (N0 : Nat) (t : Nat → Int32) (a b c d e : Int32) : Prop := (∃ v : Nat, v < N0 ∧ t 0 = nI v ∧ a = nI v) ∧ (∃ v : Nat, v < N0 ∧ t 1 = nI v ∧ b = nI v) ∧ (∃ v : Nat, v < 6 ∧ t 2 = nI v ∧ c = nI v) ∧ iV 1000000 (t 3) d ∧ ((t 4 = 1 ∧ e = 0) ∨ (t 4 = 0 ∧ e = 1))
def iM (N0 N1 : Nat) (t : Nat → Nat → Int32) (m11 m12 m13 m14 m15 : Nat → Int32) : Prop := (∀ i, i < N1 → iM1 N0 (t i) (m11 (i + 1)) (m12 (i + 1)) (m13 (i + 1)) (m14 (i + 1)) (m15 (i + 1))) ∧ ∀ j, N1 < j → m15 j = 0
def iF (pc ff sf m22 m23 m24 : Int32) : Prop := ∃ f s v : Nat, f ≤ 6 ∧ s ≤ 6 ∧ v ≤ 1000000 ∧ (f = 0 → s = 0 ∧ v = 0) ∧ m24 = nI (f + 10 * s) ∧ ff = nI f - 1 ∧ sf = nI s - 1 ∧ pc = nI v ∧ (f ≠ 0 → s = 0 → m22 = nI v) ∧ (s ≠ 0 → m23 = nI v)
def iA (ak co m25 : Int32) : Prop := ∃ a b : Nat, a ≤ 6 ∧ b ≤ 1 ∧ m25 = nI (a + 10 * b) ∧ ak = nI a - 1 ∧ co = nI b
def toP (ff : Nat → Int32) (k : Nat) : Prop := ∃ q, q < 6 ∧ ff (6 * k + q) ≠ -1
def dfP (nt pc ff : Nat → Int32) (l : Nat) : Prop := toP ff (l / 6) ∧ pc l ≠ nt l

noncomputable def dfL (nt pc ff : Nat → Int32) (s n : Nat) : List Nat := (List.range' s n).filter (fun l => @decide (dfP nt pc ff l) (Classical.propDecidable _))
def iD (z : Nat) (st nt pc ff di : Nat → Int32) : Prop := (st 2 = 2 → st 0 = nI (dfL nt pc ff 0 (6 * z)).length ∧ ∀ i l, (dfL nt pc ff 0 (6 * z))[i]? = some l → di i = nI l) ∧ (st 2 ≠ 2 → st 0 = 0)
def iH (N0 z : Nat) (st mb : Nat → Int32) (a b d : Int32) (m20 : Nat → Int32) : Prop := (1 ≤ z ∧ z ≤ 20) ∧ b = nI z ∧ iV 2 (st 2) a ∧ st 1 = d ∧ ∀ j, j < z → ∃ v : Nat, v < N0 ∧ mb j = nI v ∧ m20 j = nI v
def iL (z : Nat) (nt pc ff sf ak co m21 m22 m23 m24 m25 : Nat → Int32) : Prop := ∀ l, l < 6 * z → iV 61000000 (nt l) (m21 l) ∧ iF (pc l) (ff l) (sf l) (m22 l) (m23 l) (m24 l) ∧ iA (ak l) (co l) (m25 l)
def iC (N0 N2 : Nat) (z : Nat → Nat) (st mb nt pc ff sf ak co di : Nat → Nat → Int32) (m17 m18 m19 m20 m21 m22 m23 m24 m25 : Nat → Int32) : Prop := ∀ c, c < N2 → iH N0 (z c) (st c) (mb c) (m17 (c + 1)) (m18 (c + 1)) (m19 (c + 1)) (fun j => m20 (20 * (c + 1) + j)) ∧ iL (z c) (nt c) (pc c) (ff c) (sf c) (ak c) (co c) (fun l => m21 (120 * (c + 1) + l)) (fun l => m22 (120 * (c + 1) + l)) (fun l => m23 (120 * (c + 1) + l)) (fun l => m24 (120 * (c + 1) + l)) (fun l => m25 (120 * (c + 1) + l)) ∧ iD (z c) (st c) (nt c) (pc c) (ff c) (di c)
def iB (N2 : Nat) (m18 m19 m21 m24 m25 : Nat → Int32) : Prop := ∀ c, N2 < c → m18 c = 0 ∧ m19 c = 0 ∧ ∀ l, l < 120 → m21 (120 * c + l) = 0 ∧ m24 (120 * c + l) = 0 ∧ m25 (120 * c + l) = 0
def iT (N0 N2 : Nat) (z : Nat → Nat) (p st mb : Nat → Nat → Int32) : Prop := (∀ i, i < N0 → (p i 2 = 0 ∧ ∀ c j, c < N2 → j < z c → st c 2 ≠ 2 → mb c j ≠ nI i) ∨ (p i 2 = 1 ∧ ∃ c j, c < N2 ∧ j < z c ∧ st c 2 ≠ 2 ∧ mb c j = nI i)) ∧ ∀ c d i j, c < N2 → d < N2 → i < z c → j < z d → st c 2 ≠ 2 → st d 2 ≠ 2 → mb c i = mb d j → c = d ∧ i = j
def Inv (k : Nat) (g : Nat → Nat → Nat → Int32) (N : Nat → Nat) (μ : Nat → Nat → Int32) : Prop := iS (g 0 0) (g 1 0) (g 2 0) (g 3 0) (N 0) (N 1) (N 2) (μ 1) (μ 2) (μ 3) (μ 7) (μ 8) (μ 9) (μ 10) (μ 16) ∧ iK k (g 0 0) (μ 26) (μ 27) ∧ iP (N 0) (g 5) (g 6) (μ 4) (μ 5) (μ 6) ∧ iM (N 0) (N 1) (g 7) (μ 11) (μ 12) (μ 13) (μ 14) (μ 15) ∧ iC (N 0) (N 2) (fun c => N (3 + c)) (g 8) (g 9) (g 10) (g 11) (g 12) (g 13) (g 14) (g 15) (g 16) (μ 17) (μ 18) (μ 19) (μ 20) (μ 21) (μ 22) (μ 23) (μ 24) (μ 25) ∧ iB (N 2) (μ 18) (μ 19) (μ 21) (μ 24) (μ 25) ∧ iT (N 0) (N 2) (fun c => N (3 + c)) (g 5) (g 8) (g 9)
theorem iK_up {k : Nat} {s m26 m27 : Nat → Int32} (h : iK k s m26 m27) : iK (k + 1) s m26 m27 := by
  obtain ⟨c, r, h1, h2, h3⟩ := h
  exact ⟨c, r, h1, by omega, h3⟩
theorem inv_up {k : Nat} {g : Nat → Nat → Nat → Int32} {N : Nat → Nat} {μ : Nat → Nat → Int32} (h : Inv k g N μ) : Inv (k + 1) g N μ := ⟨h.1, iK_up h.2.1, h.2.2⟩
theorem inv_cd {k : Nat} {g : Nat → Nat → Nat → Int32} {N : Nat → Nat} {μ : Nat → Nat → Int32} (v : Int32) (h : Inv k g N μ) : Inv k g N (u2 μ 0 0 v) := h
/-- a checked number -/
theorem in_0 {x : Int32} {n : Nat} (hn : n < 2 ^ 31) (h : ¬ fM_in x 0 (nI n - 1) = 0) : ∃ j : Nat, j < n ∧ x = nI j := by
  have h1 : 0 ≤ x ∧ x ≤ nI n - 1 := Classical.byContradiction (fun q => h (pu_in0.mpr q))
  rcases Nat.eq_zero_or_pos n with rfl | hp
  · exact absurd (Int32.le_trans h1.1 h1.2) (by decide)
  · have e : nI n - 1 = nI (n - 1) := by
      have := nI_pred (n - 1)
      rwa [Nat.sub_add_cancel hp] at this
    rw [e] at h1
    obtain ⟨j, h2, h3⟩ := pu_ix h1.1 h1.2 (by omega)
    exact ⟨j, by omega, h3⟩
theorem in_1 {x : Int32} {n : Nat} (hn : n < 2 ^ 31) (h : ¬ fM_in x 1 (nI n) = 0) : ∃ j : Nat, j < n ∧ x = nI (j + 1) := by
  have h1 : 1 ≤ x ∧ x ≤ nI n := Classical.byContradiction (fun q => h (pu_in0.mpr q))
  obtain ⟨j, h2, h3⟩ := pu_ix (Int32.le_trans (by decide) h1.1) h1.2 hn
  subst h3
  have h4 : 1 ≤ j := (nI_leI (a := 1) (by decide) (by omega)).mp h1.1
  exact ⟨j - 1, by omega, by rw [Nat.sub_add_cancel h4]⟩
theorem in_c {x : Int32} (n : Nat) (hn : n < 2 ^ 31) (h : ¬ fM_in x 0 (nI n) = 0) : ∃ j : Nat, j ≤ n ∧ x = nI j := by
  have h1 : 0 ≤ x ∧ x ≤ nI n := Classical.byContradiction (fun q => h (pu_in0.mpr q))
  exact pu_ix h1.1 h1.2 hn
