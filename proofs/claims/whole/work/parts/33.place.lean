/-! A NEW PLACE in the class's world -/
theorem pu_x {bs : List bw_B} {j n : Nat} {f : Nat → Nat × va_E} (hj : bs[j]? = some (n, f)) (Y : va_W) (x : Nat × va_E) : (x :: (bw_l bs ++ Y)).Perm (bw_l (bs.set j (n + 1, va_up f n x)) ++ Y) :=
  (List.perm_append_comm (l₁ := [x]) (l₂ := bw_l bs ++ Y)).trans (bw_pushY hj Y x)
def np_N (N : Nat → Nat) : Nat → Nat := va_up N 0 (N 0 + 1)
def np_a (N : Nat → Nat) (ad : Nat → Nat → Nat) (q q1 : Nat) : Nat → Nat → Nat := fun k => if k = 1 then va_up (ad 1) (N 0) q else if k = 2 then va_up (ad 2) (N 0) q1 else ad k
def np_g (N : Nat → Nat) (g : Nat → Nat → Nat → Int32) (k : Int32) : Nat → Nat → Nat → Int32 := fun c => if c = 5 then va_up (g 5) (N 0) (fun j => if j = 0 then k else if j = 1 then -1 else 0) else if c = 6 then va_up (g 6) (N 0) (fun _ => 0) else g c
theorem np_b8 {g : Nat → Nat → Nat → Int32} {N : Nat → Nat} {ad : Nat → Nat → Nat} {q q1 : Nat} {k : Int32} : va_up (bP g ad) (N 0) (q, .inr (0, [.int k, .ref q1, .int (-1), .int 0])) = bP (np_g N g k) (np_a N ad q q1) := by
  funext i
  by_cases h : i = N 0
  · subst h; simp [va_up, bP, np_g, np_a]
  · simp [va_up, bP, np_g, np_a, h]
theorem np_b9 {tc : Nat → ClassId} {g : Nat → Nat → Nat → Int32} {N : Nat → Nat} {ad : Nat → Nat → Nat} {q q1 : Nat} {k : Int32} : va_up (bA (tc 0) 2 (fun _ => 6) (g 6) ad) (N 0) (q1, .inl (tc 0, 6, .inl (fun _ => 0))) = bA (tc 0) 2 (fun _ => 6) (np_g N g k 6) (np_a N ad q q1) := by
  funext i
  by_cases h : i = N 0
  · subst h; simp [va_up, bA, np_g, np_a]
  · simp [va_up, bA, np_g, np_a, h]
theorem np_b1 {tc : Nat → ClassId} {N : Nat → Nat} {ad : Nat → Nat → Nat} {q q1 : Nat} : (ad 0 1, (.inl (tc 3, 20, .inr (.inr (.inr (.inr (va_up (fun i => if i < N 0 then some (ad 1 i) else none) (N 0) (some q)))))) : va_E)) = bR (tc 3) 20 1 (N 0 + 1) (np_a N ad q q1) 1 0 := by
  have e : va_up (fun i => if i < N 0 then some (ad 1 i) else none) (N 0) (some q) = fun i => if i < N 0 + 1 then some (np_a N ad q q1 1 i) else none := by
    funext i
    by_cases h : i = N 0
    · subst h; simp [va_up, np_a]
    · by_cases h2 : i < N 0
      · simp [va_up, np_a, h, h2, show i < N 0 + 1 by omega]
      · simp [va_up, np_a, h, h2, show ¬ i < N 0 + 1 by omega]
  rw [e]
  rfl
/-- the world with the new place's two cells ahead, the array of places set: it is the world of one place more -/
theorem np_w {tc : Nat → ClassId} {g : Nat → Nat → Nat → Int32} {N : Nat → Nat} {ad : Nat → Nat → Nat} {q q1 : Nat} {k : Int32} {Y : va_W} : ((q, .inr (0, [.int k, .ref q1, .int (-1), .int 0])) :: (q1, .inl (tc 0, 6, .inl (fun _ => 0))) :: ((bw_l (cb tc g N ad) ++ Y).set (bw_o (cb tc g N ad) 1 + 0) (ad 0 1, .inl (tc 3, 20, .inr (.inr (.inr (.inr (va_up (fun i => if i < N 0 then some (ad 1 i) else none) (N 0) (some q)))))))) : va_W).Perm (cl tc (np_g N g k) (np_N N) (np_a N ad q q1) ++ Y) := by
  rw [bw_set (bs := cb tc g N ad) (j := 1) (f := bR (tc 3) 20 1 (N 0) ad 1) rfl Nat.one_pos Y, bw_one (bs := cb tc g N ad) (j := 1) (h := bR (tc 3) 20 1 (N 0 + 1) (np_a N ad q q1) 1) (by rw [← np_b1]; rfl)]
  have p1 := pu_x (bs := (cb tc g N ad).set 1 (1, bR (tc 3) 20 1 (N 0 + 1) (np_a N ad q q1) 1)) (j := 9) (n := N 0) (f := bA (tc 0) 2 (fun _ => 6) (g 6) ad) rfl Y (q1, .inl (tc 0, 6, .inl (fun _ => 0)))
  have p2 := pu_x (bs := ((cb tc g N ad).set 1 (1, bR (tc 3) 20 1 (N 0 + 1) (np_a N ad q q1) 1)).set 9 (N 0 + 1, va_up (bA (tc 0) 2 (fun _ => 6) (g 6) ad) (N 0) (q1, .inl (tc 0, 6, .inl (fun _ => 0))))) (j := 8) (n := N 0) (f := bP g ad) rfl Y (q, .inr (0, [.int k, .ref q1, .int (-1), .int 0]))
  refine ((p1.cons _).trans p2).trans ?_
  rw [np_b8 (k := k) (q := q) (q1 := q1), np_b9 (k := k) (q := q) (q1 := q1)]
  have hz : (fun i => np_N N (3 + i)) = fun i => N (3 + i) := by
    funext i
    simp [np_N, va_up, show ¬ 3 + i = 0 by omega]
  have hz6 : (fun i => 6 * np_N N (3 + i)) = fun i => 6 * N (3 + i) := by
    funext i
    simp [np_N, va_up, show ¬ 3 + i = 0 by omega]
  have e : (((cb tc g N ad).set 1 (1, bR (tc 3) 20 1 (N 0 + 1) (np_a N ad q q1) 1)).set 9 (N 0 + 1, bA (tc 0) 2 (fun _ => 6) (np_g N g k 6) (np_a N ad q q1))).set 8 (N 0 + 1, bP (np_g N g k) (np_a N ad q q1)) = cb tc (np_g N g k) (np_N N) (np_a N ad q q1) := by
    unfold cb
    rw [hz, hz6]
    rfl
  rw [e]
