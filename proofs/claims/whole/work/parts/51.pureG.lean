/-! PURE: Euclid, both ways -/
theorem eu_half {b m : Nat} (h0 : 0 < m) (h : m ≤ b) : 2 * (b % m) < b := by
  have h1 := Nat.mod_lt b h0
  have h2 := Nat.div_add_mod b m
  have h3 : 1 ≤ b / m := Nat.div_pos h h0
  have h4 : m * 1 ≤ m * (b / m) := Nat.mul_le_mul_left m h3
  omega
theorem eu_g {a b : Nat} : Nat.gcd b (a % b) = Nat.gcd a b := by
  rw [Nat.gcd_comm a b, Nat.gcd_rec b a, Nat.gcd_comm]
theorem eu_C0 {x0 x1 : Int32} {a t n : Nat} (ht : t < 64) : kC_commonDivisor_7 kC_commonDivisor_7x (n + 1) x0 x1 (nI a) (nI 0) (nI t) ∧ fC_commonDivisor_7 fC_commonDivisor_7x (n + 1) x0 x1 (nI a) (nI 0) (nI t) = nI a := by
  have h1 : ¬ (64 : Int32) ≤ nI t := nI_ge ht (by decide)
  refine ⟨⟨fun _ => trivial, fun _ => ⟨fun _ => trivial, fun h => absurd rfl h⟩⟩, ?_⟩
  show (if (64 : Int32) ≤ nI t then _ else if nI 0 = 0 then _ else _) = _
  rw [if_neg h1, if_pos nI_0]
  rfl
theorem eu_Cs {x0 x1 : Int32} {a b t n : Nat} (ha : a < 2 ^ 31) (hb : b < 2 ^ 31) (h0 : 0 < b) (ht : t < 64) {v : Int32} (h : kC_commonDivisor_7 kC_commonDivisor_7x n x0 x1 (nI b) (nI (a % b)) (nI (t + 1)) ∧ fC_commonDivisor_7 fC_commonDivisor_7x n x0 x1 (nI b) (nI (a % b)) (nI (t + 1)) = v) : kC_commonDivisor_7 kC_commonDivisor_7x (n + 1) x0 x1 (nI a) (nI b) (nI t) ∧ fC_commonDivisor_7 fC_commonDivisor_7x (n + 1) x0 x1 (nI a) (nI b) (nI t) = v := by
  have h1 : ¬ (64 : Int32) ≤ nI t := nI_ge ht (by decide)
  have h2 : ¬ nI b = 0 := nI_ne0 h0 hb
  have h3 : nI a - nI a / nI b * nI b = nI (a % b) := pk_rem ha h0 hb
  have h4 : nI t + 1 = nI (t + 1) := nI_1 t
  refine ⟨⟨fun h => absurd h h1, fun _ => ⟨fun h => absurd h h2, fun _ => ⟨h2, ?_⟩⟩⟩, ?_⟩
  · rw [h3, h4]; exact h.1
  · show (if (64 : Int32) ≤ nI t then _ else if nI b = 0 then _ else _) = _
    rw [if_neg h1, if_neg h2, h3, h4]
    exact h.2
theorem eu_C {x0 x1 : Int32} : ∀ (j a b t n : Nat), a < 2 ^ 31 → b < 2 ^ 31 → b < 2 ^ j → t + 2 * j < 64 → kC_commonDivisor_7 kC_commonDivisor_7x (n + 2 * j + 1) x0 x1 (nI a) (nI b) (nI t) ∧ fC_commonDivisor_7 fC_commonDivisor_7x (n + 2 * j + 1) x0 x1 (nI a) (nI b) (nI t) = nI (Nat.gcd a b) := by
  intro j
  induction j with
  | zero =>
    intro a b t n ha hb hj ht
    have : b = 0 := by simp at hj; exact hj
    subst this
    rw [Nat.gcd_zero_right]
    exact eu_C0 (by omega)
  | succ j ih =>
    intro a b t n ha hb hj ht
    rcases Nat.eq_zero_or_pos b with h0 | h0
    · subst h0
      rw [Nat.gcd_zero_right]
      exact eu_C0 (by omega)
    · have hm := Nat.mod_lt a h0
      have e1 : n + 2 * (j + 1) + 1 = (n + 2 * j + 2) + 1 := by omega
      rw [e1, ← eu_g (a := a) (b := b)]
      refine eu_Cs ha hb h0 (by omega) ?_
      rcases Nat.eq_zero_or_pos (a % b) with h1 | h1
      · rw [h1, Nat.gcd_zero_right]
        exact eu_C0 (by omega)
      · have h2 := eu_half h1 (Nat.le_of_lt hm)
        have e2 : n + 2 * j + 2 = (n + 2 * j + 1) + 1 := by omega
        rw [e2, ← eu_g (a := b) (b := a % b)]
        refine eu_Cs hb (by omega) h1 (by omega) ?_
        exact ih (a % b) (b % (a % b)) (t + 1 + 1) n (by omega) (by have := Nat.mod_lt b h1; omega) (by rw [Nat.pow_succ] at hj; omega) (by omega)
theorem eu_M0 {x0 x1 : Int32} {a n : Nat} : kM_divisor_4 kM_divisor_4x (n + 1) x0 x1 (nI a) (nI 0) ∧ fM_divisor_4 fM_divisor_4x (n + 1) x0 x1 (nI a) (nI 0) = nI a := by
  refine ⟨⟨fun _ => trivial, fun h => absurd (by decide) h⟩, ?_⟩
  show (if nI 0 ≤ 0 then _ else _) = _
  rw [if_pos (by decide)]
  rfl
theorem eu_Ms {x0 x1 : Int32} {a b n : Nat} (ha : a < 2 ^ 31) (hb : b < 2 ^ 31) (h0 : 0 < b) {v : Int32} (h : kM_divisor_4 kM_divisor_4x n x0 x1 (nI b) (nI (a % b)) ∧ fM_divisor_4 fM_divisor_4x n x0 x1 (nI b) (nI (a % b)) = v) : kM_divisor_4 kM_divisor_4x (n + 1) x0 x1 (nI a) (nI b) ∧ fM_divisor_4 fM_divisor_4x (n + 1) x0 x1 (nI a) (nI b) = v := by
  have h2 : ¬ nI b ≤ 0 := nI_nle h0 hb
  have h5 : ¬ nI b = 0 := nI_ne0 h0 hb
  have h3 : nI a - nI a / nI b * nI b = nI (a % b) := pk_rem ha h0 hb
  refine ⟨⟨fun h => absurd h h2, fun _ => ⟨h5, ?_⟩⟩, ?_⟩
  · rw [h3]; exact h.1
  · show (if nI b ≤ 0 then _ else _) = _
    rw [if_neg h2, h3]
    exact h.2
theorem eu_M {x0 x1 : Int32} : ∀ (j a b n : Nat), a < 2 ^ 31 → b < 2 ^ 31 → b < 2 ^ j → kM_divisor_4 kM_divisor_4x (n + 2 * j + 1) x0 x1 (nI a) (nI b) ∧ fM_divisor_4 fM_divisor_4x (n + 2 * j + 1) x0 x1 (nI a) (nI b) = nI (Nat.gcd a b) := by
  intro j
  induction j with
  | zero =>
    intro a b n ha hb hj
    have : b = 0 := by simp at hj; exact hj
    subst this
    rw [Nat.gcd_zero_right]
    exact eu_M0
  | succ j ih =>
    intro a b n ha hb hj
    rcases Nat.eq_zero_or_pos b with h0 | h0
    · subst h0
      rw [Nat.gcd_zero_right]
      exact eu_M0
    · have hm := Nat.mod_lt a h0
      have e1 : n + 2 * (j + 1) + 1 = (n + 2 * j + 2) + 1 := by omega
      rw [e1, ← eu_g (a := a) (b := b)]
      refine eu_Ms ha hb h0 ?_
      rcases Nat.eq_zero_or_pos (a % b) with h1 | h1
      · rw [h1, Nat.gcd_zero_right]
        exact eu_M0
      · have h2 := eu_half h1 (Nat.le_of_lt hm)
        have e2 : n + 2 * j + 2 = (n + 2 * j + 1) + 1 := by omega
        rw [e2, ← eu_g (a := b) (b := a % b)]
        refine eu_Ms hb (by omega) h1 ?_
        exact ih (a % b) (b % (a % b)) n (by omega) (by have := Nat.mod_lt b h1; omega) (by rw [Nat.pow_succ] at hj; omega)
/-- the class's divisor and the reference's: the greatest common one -/
theorem eu_both {a b : Nat} (ha : a < 16384) (hb : b < 16384) : (kC_commonDivisor (nI a) (nI b) ∧ fC_commonDivisor (nI a) (nI b) = nI (Nat.gcd a b)) ∧ kM_divisor (nI b) (nI a) ∧ fM_divisor (nI b) (nI a) = nI (Nat.gcd a b) := by
  have h1 := eu_C (x0 := nI a) (x1 := nI b) 14 a b 0 171 (by omega) (by omega) hb (by omega)
  have h2 := eu_M (x0 := nI b) (x1 := nI a) 14 b a 171 (by omega) (by omega) ha
  rw [Nat.gcd_comm b a] at h2
  exact ⟨h1, h2⟩
