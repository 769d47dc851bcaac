/-! A NEW MOVE in the class's world -/
def nt_N (N : Nat → Nat) : Nat → Nat := va_up N 1 (N 1 + 1)
def nt_a (N : Nat → Nat) (ad : Nat → Nat → Nat) (q : Nat) : Nat → Nat → Nat := fun k => if k = 3 then va_up (ad 3) (N 1) q else ad k
def nt_g (N : Nat → Nat) (g : Nat → Nat → Nat → Int32) (k0 k1 k2 k3 : Int32) : Nat → Nat → Nat → Int32 := fun c => if c = 7 then va_up (g 7) (N 1) (fun j => if j = 0 then k0 else if j = 1 then k1 else if j = 2 then k2 else if j = 3 then k3 else 1) else g c
theorem nt_b10 {g : Nat → Nat → Nat → Int32} {N : Nat → Nat} {ad : Nat → Nat → Nat} {q : Nat} {k0 k1 k2 k3 : Int32} : va_up (bT g ad) (N 1) (q, .inr (2, [.int k0, .int k1, .int k2, .int k3, .int 1])) = bT (nt_g N g k0 k1 k2 k3) (nt_a N ad q) := by
  funext i
  by_cases h : i = N 1
  · subst h; simp [va_up, bT, nt_g, nt_a]
  · simp [va_up, bT, nt_g, nt_a, h]
theorem nt_b2 {tc : Nat → ClassId} {N : Nat → Nat} {ad : Nat → Nat → Nat} {q : Nat} : (ad 0 2, (.inl (tc 4, 60, .inr (.inr (.inr (.inr (va_up (fun i => if i < N 1 then some (ad 3 i) else none) (N 1) (some q)))))) : va_E)) = bR (tc 4) 60 2 (N 1 + 1) (nt_a N ad q) 3 0 := by
  have e : va_up (fun i => if i < N 1 then some (ad 3 i) else none) (N 1) (some q) = fun i => if i < N 1 + 1 then some (nt_a N ad q 3 i) else none := by
    funext i
    by_cases h : i = N 1
    · subst h; simp [va_up, nt_a]
    · by_cases h2 : i < N 1
      · simp [va_up, nt_a, h, h2, show i < N 1 + 1 by omega]
      · simp [va_up, nt_a, h, h2, show ¬ i < N 1 + 1 by omega]
  rw [e]
  rfl
theorem nt_w {tc : Nat → ClassId} {g : Nat → Nat → Nat → Int32} {N : Nat → Nat} {ad : Nat → Nat → Nat} {q : Nat} {k0 k1 k2 k3 : Int32} {Y : va_W} : ((q, .inr (2, [.int k0, .int k1, .int k2, .int k3, .int 1])) :: ((bw_l (cb tc g N ad) ++ Y).set (bw_o (cb tc g N ad) 2 + 0) (ad 0 2, .inl (tc 4, 60, .inr (.inr (.inr (.inr (va_up (fun i => if i < N 1 then some (ad 3 i) else none) (N 1) (some q)))))))) : va_W).Perm (cl tc (nt_g N g k0 k1 k2 k3) (nt_N N) (nt_a N ad q) ++ Y) := by
  rw [bw_set (bs := cb tc g N ad) (j := 2) (f := bR (tc 4) 60 2 (N 1) ad 3) rfl Nat.one_pos Y, bw_one (bs := cb tc g N ad) (j := 2) (h := bR (tc 4) 60 2 (N 1 + 1) (nt_a N ad q) 3) (by rw [← nt_b2]; rfl)]
  have p2 := pu_x (bs := (cb tc g N ad).set 2 (1, bR (tc 4) 60 2 (N 1 + 1) (nt_a N ad q) 3)) (j := 10) (n := N 1) (f := bT g ad) rfl Y (q, .inr (2, [.int k0, .int k1, .int k2, .int k3, .int 1]))
  refine p2.trans ?_
  rw [nt_b10]
  have hz : (fun i => nt_N N (3 + i)) = fun i => N (3 + i) := by
    funext i
    simp [nt_N, va_up, show ¬ 3 + i = 1 by omega]
  have hz6 : (fun i => 6 * nt_N N (3 + i)) = fun i => 6 * N (3 + i) := by
    funext i
    simp [nt_N, va_up, show ¬ 3 + i = 1 by omega]
  have e : ((cb tc g N ad).set 2 (1, bR (tc 4) 60 2 (N 1 + 1) (nt_a N ad q) 3)).set 10 (N 1 + 1, bT (nt_g N g k0 k1 k2 k3) (nt_a N ad q)) = cb tc (nt_g N g k0 k1 k2 k3) (nt_N N) (nt_a N ad q) := by
    unfold cb
    rw [hz, hz6]
    rfl
  rw [e]
