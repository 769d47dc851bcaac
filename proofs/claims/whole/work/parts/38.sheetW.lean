/-! A NEW COUNT in the class's world -/
def ns_N (N : Nat → Nat) (K : Nat) : Nat → Nat := fun k => if k = 2 then N 2 + 1 else if k = 3 + N 2 then K else N k
def ns_a (N : Nat → Nat) (ad : Nat → Nat → Nat) (q qc : Nat) (u : Nat → Nat) : Nat → Nat → Nat := fun k => if k = 4 then va_up (ad 4) (N 2) q else if k = 5 then va_up (ad 5) (N 2) qc else if k = 6 then va_up (ad 6) (N 2) (u 0) else if k = 7 then va_up (ad 7) (N 2) (u 1) else if k = 8 then va_up (ad 8) (N 2) (u 2) else if k = 9 then va_up (ad 9) (N 2) (u 3) else if k = 10 then va_up (ad 10) (N 2) (u 4) else if k = 11 then va_up (ad 11) (N 2) (u 5) else if k = 12 then va_up (ad 12) (N 2) (u 6) else ad k
def ns_g (N : Nat → Nat) (g : Nat → Nat → Nat → Int32) (f : Nat → Int32) : Nat → Nat → Nat → Int32 := fun c => if c = 8 then va_up (g 8) (N 2) (fun _ => 0) else if c = 9 then va_up (g 9) (N 2) f else if c = 10 then va_up (g 10) (N 2) (fun _ => 0) else if c = 11 then va_up (g 11) (N 2) (fun _ => 0) else if c = 12 then va_up (g 12) (N 2) (fun _ => (-1)) else if c = 13 then va_up (g 13) (N 2) (fun _ => (-1)) else if c = 14 then va_up (g 14) (N 2) (fun _ => (-1)) else if c = 15 then va_up (g 15) (N 2) (fun _ => 0) else if c = 16 then va_up (g 16) (N 2) (fun _ => 0) else g c
theorem ns_3 {N : Nat → Nat} {K i : Nat} : ns_N N K (3 + i) = if i = N 2 then K else N (3 + i) := by
  unfold ns_N
  rw [if_neg (by omega)]
  by_cases h : i = N 2
  · rw [if_pos (by omega), if_pos h]
  · rw [if_neg (by omega), if_neg h]
theorem ns_b11 {g : Nat → Nat → Nat → Int32} {N : Nat → Nat} {ad : Nat → Nat → Nat} {q qc : Nat} {u : Nat → Nat} {f : Nat → Int32} : va_up (bS g ad) (N 2) (q, .inr (1, [.ref qc, .ref (u 0), .ref (u 1), .ref (u 2), .ref (u 3), .ref (u 4), .ref (u 5), .ref (u 6), .int 0, .int 0, .int 0])) = bS (ns_g N g f) (ns_a N ad q qc u) := by
  funext i
  by_cases h : i = N 2
  · subst h; simp [va_up, bS, ns_g, ns_a]
  · simp [va_up, bS, ns_g, ns_a, h]
theorem ns_b12 {tc : Nat → ClassId} {g : Nat → Nat → Nat → Int32} {N : Nat → Nat} {ad : Nat → Nat → Nat} {q qc K : Nat} {u : Nat → Nat} {f : Nat → Int32} : va_up (bA (tc 0) 5 (fun i => N (3 + i)) (g 9) ad) (N 2) (qc, .inl (tc 0, K, .inl f)) = bA (tc 0) 5 (fun i => (ns_N N K) (3 + i)) ((ns_g N g f) 9) (ns_a N ad q qc u) := by
  funext i
  by_cases h : i = N 2
  · subst h; simp [va_up, bA, ns_g, ns_a, ns_3]
  · simp [va_up, bA, ns_g, ns_a, ns_3, h]
theorem ns_b13 {tc : Nat → ClassId} {g : Nat → Nat → Nat → Int32} {N : Nat → Nat} {ad : Nat → Nat → Nat} {q qc K : Nat} {u : Nat → Nat} {f : Nat → Int32} : va_up (bA (tc 0) 6 (fun i => 6 * N (3 + i)) (g 10) ad) (N 2) (u 0, .inl (tc 0, 6 * K, .inl (fun _ => 0))) = bA (tc 0) 6 (fun i => 6 * (ns_N N K) (3 + i)) ((ns_g N g f) 10) (ns_a N ad q qc u) := by
  funext i
  by_cases h : i = N 2
  · subst h; simp [va_up, bA, ns_g, ns_a, ns_3]
  · simp [va_up, bA, ns_g, ns_a, ns_3, h]
theorem ns_b14 {tc : Nat → ClassId} {g : Nat → Nat → Nat → Int32} {N : Nat → Nat} {ad : Nat → Nat → Nat} {q qc K : Nat} {u : Nat → Nat} {f : Nat → Int32} : va_up (bA (tc 0) 7 (fun i => 6 * N (3 + i)) (g 11) ad) (N 2) (u 1, .inl (tc 0, 6 * K, .inl (fun _ => 0))) = bA (tc 0) 7 (fun i => 6 * (ns_N N K) (3 + i)) ((ns_g N g f) 11) (ns_a N ad q qc u) := by
  funext i
  by_cases h : i = N 2
  · subst h; simp [va_up, bA, ns_g, ns_a, ns_3]
  · simp [va_up, bA, ns_g, ns_a, ns_3, h]
theorem ns_b15 {tc : Nat → ClassId} {g : Nat → Nat → Nat → Int32} {N : Nat → Nat} {ad : Nat → Nat → Nat} {q qc K : Nat} {u : Nat → Nat} {f : Nat → Int32} : va_up (bA (tc 0) 8 (fun i => 6 * N (3 + i)) (g 12) ad) (N 2) (u 2, .inl (tc 0, 6 * K, .inl (fun _ => (-1)))) = bA (tc 0) 8 (fun i => 6 * (ns_N N K) (3 + i)) ((ns_g N g f) 12) (ns_a N ad q qc u) := by
  funext i
  by_cases h : i = N 2
  · subst h; simp [va_up, bA, ns_g, ns_a, ns_3]
  · simp [va_up, bA, ns_g, ns_a, ns_3, h]
theorem ns_b16 {tc : Nat → ClassId} {g : Nat → Nat → Nat → Int32} {N : Nat → Nat} {ad : Nat → Nat → Nat} {q qc K : Nat} {u : Nat → Nat} {f : Nat → Int32} : va_up (bA (tc 0) 9 (fun i => 6 * N (3 + i)) (g 13) ad) (N 2) (u 3, .inl (tc 0, 6 * K, .inl (fun _ => (-1)))) = bA (tc 0) 9 (fun i => 6 * (ns_N N K) (3 + i)) ((ns_g N g f) 13) (ns_a N ad q qc u) := by
  funext i
  by_cases h : i = N 2
  · subst h; simp [va_up, bA, ns_g, ns_a, ns_3]
  · simp [va_up, bA, ns_g, ns_a, ns_3, h]
theorem ns_b17 {tc : Nat → ClassId} {g : Nat → Nat → Nat → Int32} {N : Nat → Nat} {ad : Nat → Nat → Nat} {q qc K : Nat} {u : Nat → Nat} {f : Nat → Int32} : va_up (bA (tc 0) 10 (fun i => 6 * N (3 + i)) (g 14) ad) (N 2) (u 4, .inl (tc 0, 6 * K, .inl (fun _ => (-1)))) = bA (tc 0) 10 (fun i => 6 * (ns_N N K) (3 + i)) ((ns_g N g f) 14) (ns_a N ad q qc u) := by
  funext i
  by_cases h : i = N 2
  · subst h; simp [va_up, bA, ns_g, ns_a, ns_3]
  · simp [va_up, bA, ns_g, ns_a, ns_3, h]
theorem ns_b18 {tc : Nat → ClassId} {g : Nat → Nat → Nat → Int32} {N : Nat → Nat} {ad : Nat → Nat → Nat} {q qc K : Nat} {u : Nat → Nat} {f : Nat → Int32} : va_up (bA (tc 1) 11 (fun i => 6 * N (3 + i)) (g 15) ad) (N 2) (u 5, .inl (tc 1, 6 * K, .inl (fun _ => 0))) = bA (tc 1) 11 (fun i => 6 * (ns_N N K) (3 + i)) ((ns_g N g f) 15) (ns_a N ad q qc u) := by
  funext i
  by_cases h : i = N 2
  · subst h; simp [va_up, bA, ns_g, ns_a, ns_3]
  · simp [va_up, bA, ns_g, ns_a, ns_3, h]
theorem ns_b19 {tc : Nat → ClassId} {g : Nat → Nat → Nat → Int32} {N : Nat → Nat} {ad : Nat → Nat → Nat} {q qc K : Nat} {u : Nat → Nat} {f : Nat → Int32} : va_up (bA (tc 0) 12 (fun i => 6 * N (3 + i)) (g 16) ad) (N 2) (u 6, .inl (tc 0, 6 * K, .inl (fun _ => 0))) = bA (tc 0) 12 (fun i => 6 * (ns_N N K) (3 + i)) ((ns_g N g f) 16) (ns_a N ad q qc u) := by
  funext i
  by_cases h : i = N 2
  · subst h; simp [va_up, bA, ns_g, ns_a, ns_3]
  · simp [va_up, bA, ns_g, ns_a, ns_3, h]
theorem ns_b3 {tc : Nat → ClassId} {N : Nat → Nat} {ad : Nat → Nat → Nat} {q qc : Nat} {u : Nat → Nat} : (ad 0 3, (.inl (tc 5, 20, .inr (.inr (.inr (.inr (va_up (fun i => if i < N 2 then some (ad 4 i) else none) (N 2) (some q)))))) : va_E)) = bR (tc 5) 20 3 (N 2 + 1) (ns_a N ad q qc u) 4 0 := by
  have e : va_up (fun i => if i < N 2 then some (ad 4 i) else none) (N 2) (some q) = fun i => if i < N 2 + 1 then some (ns_a N ad q qc u 4 i) else none := by
    funext i
    by_cases h : i = N 2
    · subst h; simp [va_up, ns_a]
    · by_cases h2 : i < N 2
      · simp [va_up, ns_a, h, h2, show i < N 2 + 1 by omega]
      · simp [va_up, ns_a, h, h2, show ¬ i < N 2 + 1 by omega]
  rw [e]
  rfl
theorem ns_w {tc : Nat → ClassId} {g : Nat → Nat → Nat → Int32} {N : Nat → Nat} {ad : Nat → Nat → Nat} {q qc K : Nat} {u : Nat → Nat} {f : Nat → Int32} {Y : va_W} : ((q, .inr (1, [.ref qc, .ref (u 0), .ref (u 1), .ref (u 2), .ref (u 3), .ref (u 4), .ref (u 5), .ref (u 6), .int 0, .int 0, .int 0])) :: (qc, .inl (tc 0, K, .inl f)) :: (u 0, .inl (tc 0, 6 * K, .inl (fun _ => 0))) :: (u 1, .inl (tc 0, 6 * K, .inl (fun _ => 0))) :: (u 2, .inl (tc 0, 6 * K, .inl (fun _ => (-1)))) :: (u 3, .inl (tc 0, 6 * K, .inl (fun _ => (-1)))) :: (u 4, .inl (tc 0, 6 * K, .inl (fun _ => (-1)))) :: (u 5, .inl (tc 1, 6 * K, .inl (fun _ => 0))) :: (u 6, .inl (tc 0, 6 * K, .inl (fun _ => 0))) :: ((bw_l (cb tc g N ad) ++ Y).set (bw_o (cb tc g N ad) 3 + 0) (ad 0 3, .inl (tc 5, 20, .inr (.inr (.inr (.inr (va_up (fun i => if i < N 2 then some (ad 4 i) else none) (N 2) (some q)))))))) : va_W).Perm (cl tc (ns_g N g f) (ns_N N K) (ns_a N ad q qc u) ++ Y) := by
  rw [bw_set (bs := cb tc g N ad) (j := 3) (f := bR (tc 5) 20 3 (N 2) ad 4) rfl Nat.one_pos Y, bw_one (bs := cb tc g N ad) (j := 3) (h := bR (tc 5) 20 3 (N 2 + 1) (ns_a N ad q qc u) 4) (by rw [← ns_b3]; rfl)]
  have p0 := pu_x (bs := ((cb tc g N ad).set 3 (1, bR (tc 5) 20 3 (N 2 + 1) (ns_a N ad q qc u) 4))) (j := 19) (n := N 2) (f := bA (tc 0) 12 (fun i => 6 * N (3 + i)) (g 16) ad) rfl Y (u 6, .inl (tc 0, 6 * K, .inl (fun _ => 0)))
  rw [ns_b19 (K := K) (f := f) (q := q) (qc := qc) (u := u)] at p0
  have p1 := pu_x (bs := (((cb tc g N ad).set 3 (1, bR (tc 5) 20 3 (N 2 + 1) (ns_a N ad q qc u) 4)).set 19 (N 2 + 1, bA (tc 0) 12 (fun i => 6 * (ns_N N K) (3 + i)) ((ns_g N g f) 16) (ns_a N ad q qc u)))) (j := 18) (n := N 2) (f := bA (tc 1) 11 (fun i => 6 * N (3 + i)) (g 15) ad) rfl Y (u 5, .inl (tc 1, 6 * K, .inl (fun _ => 0)))
  rw [ns_b18 (K := K) (f := f) (q := q) (qc := qc) (u := u)] at p1
  have p2 := pu_x (bs := ((((cb tc g N ad).set 3 (1, bR (tc 5) 20 3 (N 2 + 1) (ns_a N ad q qc u) 4)).set 19 (N 2 + 1, bA (tc 0) 12 (fun i => 6 * (ns_N N K) (3 + i)) ((ns_g N g f) 16) (ns_a N ad q qc u))).set 18 (N 2 + 1, bA (tc 1) 11 (fun i => 6 * (ns_N N K) (3 + i)) ((ns_g N g f) 15) (ns_a N ad q qc u)))) (j := 17) (n := N 2) (f := bA (tc 0) 10 (fun i => 6 * N (3 + i)) (g 14) ad) rfl Y (u 4, .inl (tc 0, 6 * K, .inl (fun _ => (-1))))
  rw [ns_b17 (K := K) (f := f) (q := q) (qc := qc) (u := u)] at p2
  have p3 := pu_x (bs := (((((cb tc g N ad).set 3 (1, bR (tc 5) 20 3 (N 2 + 1) (ns_a N ad q qc u) 4)).set 19 (N 2 + 1, bA (tc 0) 12 (fun i => 6 * (ns_N N K) (3 + i)) ((ns_g N g f) 16) (ns_a N ad q qc u))).set 18 (N 2 + 1, bA (tc 1) 11 (fun i => 6 * (ns_N N K) (3 + i)) ((ns_g N g f) 15) (ns_a N ad q qc u))).set 17 (N 2 + 1, bA (tc 0) 10 (fun i => 6 * (ns_N N K) (3 + i)) ((ns_g N g f) 14) (ns_a N ad q qc u)))) (j := 16) (n := N 2) (f := bA (tc 0) 9 (fun i => 6 * N (3 + i)) (g 13) ad) rfl Y (u 3, .inl (tc 0, 6 * K, .inl (fun _ => (-1))))
  rw [ns_b16 (K := K) (f := f) (q := q) (qc := qc) (u := u)] at p3
  have p4 := pu_x (bs := ((((((cb tc g N ad).set 3 (1, bR (tc 5) 20 3 (N 2 + 1) (ns_a N ad q qc u) 4)).set 19 (N 2 + 1, bA (tc 0) 12 (fun i => 6 * (ns_N N K) (3 + i)) ((ns_g N g f) 16) (ns_a N ad q qc u))).set 18 (N 2 + 1, bA (tc 1) 11 (fun i => 6 * (ns_N N K) (3 + i)) ((ns_g N g f) 15) (ns_a N ad q qc u))).set 17 (N 2 + 1, bA (tc 0) 10 (fun i => 6 * (ns_N N K) (3 + i)) ((ns_g N g f) 14) (ns_a N ad q qc u))).set 16 (N 2 + 1, bA (tc 0) 9 (fun i => 6 * (ns_N N K) (3 + i)) ((ns_g N g f) 13) (ns_a N ad q qc u)))) (j := 15) (n := N 2) (f := bA (tc 0) 8 (fun i => 6 * N (3 + i)) (g 12) ad) rfl Y (u 2, .inl (tc 0, 6 * K, .inl (fun _ => (-1))))
  rw [ns_b15 (K := K) (f := f) (q := q) (qc := qc) (u := u)] at p4
  have p5 := pu_x (bs := (((((((cb tc g N ad).set 3 (1, bR (tc 5) 20 3 (N 2 + 1) (ns_a N ad q qc u) 4)).set 19 (N 2 + 1, bA (tc 0) 12 (fun i => 6 * (ns_N N K) (3 + i)) ((ns_g N g f) 16) (ns_a N ad q qc u))).set 18 (N 2 + 1, bA (tc 1) 11 (fun i => 6 * (ns_N N K) (3 + i)) ((ns_g N g f) 15) (ns_a N ad q qc u))).set 17 (N 2 + 1, bA (tc 0) 10 (fun i => 6 * (ns_N N K) (3 + i)) ((ns_g N g f) 14) (ns_a N ad q qc u))).set 16 (N 2 + 1, bA (tc 0) 9 (fun i => 6 * (ns_N N K) (3 + i)) ((ns_g N g f) 13) (ns_a N ad q qc u))).set 15 (N 2 + 1, bA (tc 0) 8 (fun i => 6 * (ns_N N K) (3 + i)) ((ns_g N g f) 12) (ns_a N ad q qc u)))) (j := 14) (n := N 2) (f := bA (tc 0) 7 (fun i => 6 * N (3 + i)) (g 11) ad) rfl Y (u 1, .inl (tc 0, 6 * K, .inl (fun _ => 0)))
  rw [ns_b14 (K := K) (f := f) (q := q) (qc := qc) (u := u)] at p5
  have p6 := pu_x (bs := ((((((((cb tc g N ad).set 3 (1, bR (tc 5) 20 3 (N 2 + 1) (ns_a N ad q qc u) 4)).set 19 (N 2 + 1, bA (tc 0) 12 (fun i => 6 * (ns_N N K) (3 + i)) ((ns_g N g f) 16) (ns_a N ad q qc u))).set 18 (N 2 + 1, bA (tc 1) 11 (fun i => 6 * (ns_N N K) (3 + i)) ((ns_g N g f) 15) (ns_a N ad q qc u))).set 17 (N 2 + 1, bA (tc 0) 10 (fun i => 6 * (ns_N N K) (3 + i)) ((ns_g N g f) 14) (ns_a N ad q qc u))).set 16 (N 2 + 1, bA (tc 0) 9 (fun i => 6 * (ns_N N K) (3 + i)) ((ns_g N g f) 13) (ns_a N ad q qc u))).set 15 (N 2 + 1, bA (tc 0) 8 (fun i => 6 * (ns_N N K) (3 + i)) ((ns_g N g f) 12) (ns_a N ad q qc u))).set 14 (N 2 + 1, bA (tc 0) 7 (fun i => 6 * (ns_N N K) (3 + i)) ((ns_g N g f) 11) (ns_a N ad q qc u)))) (j := 13) (n := N 2) (f := bA (tc 0) 6 (fun i => 6 * N (3 + i)) (g 10) ad) rfl Y (u 0, .inl (tc 0, 6 * K, .inl (fun _ => 0)))
  rw [ns_b13 (K := K) (f := f) (q := q) (qc := qc) (u := u)] at p6
  have p7 := pu_x (bs := (((((((((cb tc g N ad).set 3 (1, bR (tc 5) 20 3 (N 2 + 1) (ns_a N ad q qc u) 4)).set 19 (N 2 + 1, bA (tc 0) 12 (fun i => 6 * (ns_N N K) (3 + i)) ((ns_g N g f) 16) (ns_a N ad q qc u))).set 18 (N 2 + 1, bA (tc 1) 11 (fun i => 6 * (ns_N N K) (3 + i)) ((ns_g N g f) 15) (ns_a N ad q qc u))).set 17 (N 2 + 1, bA (tc 0) 10 (fun i => 6 * (ns_N N K) (3 + i)) ((ns_g N g f) 14) (ns_a N ad q qc u))).set 16 (N 2 + 1, bA (tc 0) 9 (fun i => 6 * (ns_N N K) (3 + i)) ((ns_g N g f) 13) (ns_a N ad q qc u))).set 15 (N 2 + 1, bA (tc 0) 8 (fun i => 6 * (ns_N N K) (3 + i)) ((ns_g N g f) 12) (ns_a N ad q qc u))).set 14 (N 2 + 1, bA (tc 0) 7 (fun i => 6 * (ns_N N K) (3 + i)) ((ns_g N g f) 11) (ns_a N ad q qc u))).set 13 (N 2 + 1, bA (tc 0) 6 (fun i => 6 * (ns_N N K) (3 + i)) ((ns_g N g f) 10) (ns_a N ad q qc u)))) (j := 12) (n := N 2) (f := bA (tc 0) 5 (fun i => N (3 + i)) (g 9) ad) rfl Y (qc, .inl (tc 0, K, .inl f))
  rw [ns_b12 (K := K) (f := f) (q := q) (qc := qc) (u := u)] at p7
  have p8 := pu_x (bs := ((((((((((cb tc g N ad).set 3 (1, bR (tc 5) 20 3 (N 2 + 1) (ns_a N ad q qc u) 4)).set 19 (N 2 + 1, bA (tc 0) 12 (fun i => 6 * (ns_N N K) (3 + i)) ((ns_g N g f) 16) (ns_a N ad q qc u))).set 18 (N 2 + 1, bA (tc 1) 11 (fun i => 6 * (ns_N N K) (3 + i)) ((ns_g N g f) 15) (ns_a N ad q qc u))).set 17 (N 2 + 1, bA (tc 0) 10 (fun i => 6 * (ns_N N K) (3 + i)) ((ns_g N g f) 14) (ns_a N ad q qc u))).set 16 (N 2 + 1, bA (tc 0) 9 (fun i => 6 * (ns_N N K) (3 + i)) ((ns_g N g f) 13) (ns_a N ad q qc u))).set 15 (N 2 + 1, bA (tc 0) 8 (fun i => 6 * (ns_N N K) (3 + i)) ((ns_g N g f) 12) (ns_a N ad q qc u))).set 14 (N 2 + 1, bA (tc 0) 7 (fun i => 6 * (ns_N N K) (3 + i)) ((ns_g N g f) 11) (ns_a N ad q qc u))).set 13 (N 2 + 1, bA (tc 0) 6 (fun i => 6 * (ns_N N K) (3 + i)) ((ns_g N g f) 10) (ns_a N ad q qc u))).set 12 (N 2 + 1, bA (tc 0) 5 (fun i => (ns_N N K) (3 + i)) ((ns_g N g f) 9) (ns_a N ad q qc u)))) (j := 11) (n := N 2) (f := bS g ad) rfl Y (q, .inr (1, [.ref qc, .ref (u 0), .ref (u 1), .ref (u 2), .ref (u 3), .ref (u 4), .ref (u 5), .ref (u 6), .int 0, .int 0, .int 0]))
  rw [ns_b11 (f := f) (qc := qc) (q := q) (u := u)] at p8
  refine (((((((((((((((((p0).cons _).trans p1).cons _).trans p2).cons _).trans p3).cons _).trans p4).cons _).trans p5).cons _).trans p6).cons _).trans p7).cons _).trans p8).trans ?_
  have z0 : (ns_N N K) 0 = N 0 := by unfold ns_N; rw [if_neg (by omega), if_neg (by omega)]
  have z1 : (ns_N N K) 1 = N 1 := by unfold ns_N; rw [if_neg (by omega), if_neg (by omega)]
  have z2 : (ns_N N K) 2 = N 2 + 1 := by unfold ns_N; rw [if_pos rfl]
  have e : (((((((((((cb tc g N ad).set 3 (1, bR (tc 5) 20 3 (N 2 + 1) (ns_a N ad q qc u) 4)).set 19 (N 2 + 1, bA (tc 0) 12 (fun i => 6 * (ns_N N K) (3 + i)) ((ns_g N g f) 16) (ns_a N ad q qc u))).set 18 (N 2 + 1, bA (tc 1) 11 (fun i => 6 * (ns_N N K) (3 + i)) ((ns_g N g f) 15) (ns_a N ad q qc u))).set 17 (N 2 + 1, bA (tc 0) 10 (fun i => 6 * (ns_N N K) (3 + i)) ((ns_g N g f) 14) (ns_a N ad q qc u))).set 16 (N 2 + 1, bA (tc 0) 9 (fun i => 6 * (ns_N N K) (3 + i)) ((ns_g N g f) 13) (ns_a N ad q qc u))).set 15 (N 2 + 1, bA (tc 0) 8 (fun i => 6 * (ns_N N K) (3 + i)) ((ns_g N g f) 12) (ns_a N ad q qc u))).set 14 (N 2 + 1, bA (tc 0) 7 (fun i => 6 * (ns_N N K) (3 + i)) ((ns_g N g f) 11) (ns_a N ad q qc u))).set 13 (N 2 + 1, bA (tc 0) 6 (fun i => 6 * (ns_N N K) (3 + i)) ((ns_g N g f) 10) (ns_a N ad q qc u))).set 12 (N 2 + 1, bA (tc 0) 5 (fun i => (ns_N N K) (3 + i)) ((ns_g N g f) 9) (ns_a N ad q qc u))).set 11 (N 2 + 1, bS (ns_g N g f) (ns_a N ad q qc u))) = cb tc (ns_g N g f) (ns_N N K) (ns_a N ad q qc u) := by
    unfold cb
    rw [z0, z1, z2]
    rfl
  rw [e]
