/-! COPIES of rows -/
def ur (g : Nat → Nat → Nat → Int32) (c i : Nat) (f : Nat → Int32) : Nat → Nat → Nat → Int32 := fun c9 => if c9 = c then (fun i9 => if i9 = i then f else g c i9) else g c9
theorem ur_noted {tc : Nat → ClassId} {g : Nat → Nat → Nat → Int32} {N : Nat → Nat} {ad : Nat → Nat → Nat} {i : Nat} {f : Nat → Int32} : (cb tc g N ad).set 13 (N 2, va_up (bA (tc 0) 6 (fun i => 6 * N (3 + i)) (g 10) ad) i (ad 6 i, .inl (tc 0, 6 * N (3 + i), .inl f))) = cb tc (ur g 10 i f) N ad := by
  have e : va_up (bA (tc 0) 6 (fun i => 6 * N (3 + i)) (g 10) ad) i (ad 6 i, .inl (tc 0, 6 * N (3 + i), .inl f)) = bA (tc 0) 6 (fun i => 6 * N (3 + i)) (ur g 10 i f 10) ad := by
    funext i9
    by_cases h : i9 = i
    · subst h; simp [va_up, bA, ur]
    · simp [va_up, bA, ur, h]
  rw [e]
  rfl
theorem ur_candidates {tc : Nat → ClassId} {g : Nat → Nat → Nat → Int32} {N : Nat → Nat} {ad : Nat → Nat → Nat} {f : Nat → Int32} : bw_l ((cb tc g N ad).set 7 (1, va_up (bF (tc 0) 20 7 (g 4 0) ad) 0 (ad 0 7, .inl (tc 0, 20, .inl f)))) = cl tc (ur g 4 0 f) N ad := bw_one (bs := cb tc g N ad) (j := 7) (h := bF (tc 0) 20 7 (ur g 4 0 f 4 0) ad) rfl
section CP
variable {p : Program} {l : Launch} {e : Env} {R : Room} {s : State} {m : MethodId} {args : Array Value} {below : List Frame} {meth : Method} {c : Code} {H : Heap} {locs : List Loc} {cells slots : Nat} {Q : State → Prop} {cc : ByteArray} {nL pc : Nat} {ls : Array Slot} {rest : List Value} {D : va_G} {tc : Nat → ClassId} {A : Nat → Prop} {H0 : Heap} {g : Nat → Nat → Nat → Int32} {N : Nat → Nat} {ad : Nat → Nat → Nat} {Y : va_W} {own : String} {index : Nat}
theorem cp_pieces_noted {sp dp n : Int32} {i j : Nat} (h0 : cX p s m args c own cc nL D tc) (hw : wH D A H0 (cl tc g N ad ++ Y) H locs) (hml : c.maxLocals = ls.size) (hlk : (Cond.methodLink own index arraycopyName).before args s = true) (hnat : (Cond.native arraycopyName).before args s = true) (hstat : (Cond.static arraycopyName).before args s = true) (hini : (Cond.initialized "java/lang/System").before args s = true)
    (hi : i < N 0) (hj : j < N 2) (h1 : ¬ sp < 0) (h2 : ¬ dp < 0) (h3 : ¬ n < 0) (h4 : sp.toNatClampNeg + n.toNatClampNeg ≤ 6) (h5 : dp.toNatClampNeg + n.toNatClampNeg ≤ 6 * N (3 + j)) (hfr : 1 ≤ R.frames) (hlo : (rest.map fun v => v.category).sum + (nativeFrameWords "java/lang/System" "arraycopy" 5 + 11) ≤ R.locals) (hd : decode cc pc = .ok (.invokestatic index, 3))
    (kk : ∀ (H1 : Heap) (locs1 : List Loc), wH D A H0 (cl tc (ur g 10 j (va_cpy (g 6 i) (g 10 j) sp.toNatClampNeg dp.toNatClampNeg n.toNatClampNeg)) N ad ++ Y) H1 locs1 → W p l e R s m args below meth c H1 locs1 cells slots Q (F0 m (pc + 3) ls rest)) : W p l e R s m args below meth c H locs cells slots Q (F0 m pc ls (.int n :: .int dp :: .ref (ad 6 j) :: .int sp :: .ref (ad 2 i) :: rest)) :=
  va_copyi h0.1 h0.2.1 hml h0.2.2.2.1 hlk hnat hstat hini h0.2.2.2.2.2 hw.1 hw.2.1 hw.2.2 (bw_o (cb tc g N ad) 9 + i) (bw_o (cb tc g N ad) 13 + j) 0 0 (ty := .int) (c0 := tc 0) (c1 := tc 0) (n0 := 6) (n1 := 6 * N (3 + j)) (f := g 6 i) (g := g 10 j) (bw_get (bs := cb tc g N ad) (j := 9) rfl hi Y) (bw_get (bs := cb tc g N ad) (j := 13) rfl hj Y) rfl rfl rfl h1 h2 h3 h4 h5 (fun _ _ => rfl) hfr hlo hd (fun H1 locs1 hP hD hS => kk H1 locs1 ⟨by
    rw [bw_set (bs := cb tc g N ad) (j := 13) (f := bA (tc 0) 6 (fun i => 6 * N (3 + i)) (g 10) ad) rfl hj Y] at hP
    have h9 := ur_noted (tc := tc) (g := g) (N := N) (ad := ad) (i := j) (f := va_cpy (g 6 i) (g 10 j) sp.toNatClampNeg dp.toNatClampNeg n.toNatClampNeg)
    show va_P D classes (bw_l (cb tc (ur g 10 j (va_cpy (g 6 i) (g 10 j) sp.toNatClampNeg dp.toNatClampNeg n.toNatClampNeg)) N ad) ++ Y) H1
    rw [← h9]; exact hP, by
    rw [bw_set (bs := cb tc g N ad) (j := 13) (f := bA (tc 0) 6 (fun i => 6 * N (3 + i)) (g 10) ad) rfl hj Y] at hD
    have h9 := ur_noted (tc := tc) (g := g) (N := N) (ad := ad) (i := j) (f := va_cpy (g 6 i) (g 10 j) sp.toNatClampNeg dp.toNatClampNeg n.toNatClampNeg)
    show va_D A (bw_l (cb tc (ur g 10 j (va_cpy (g 6 i) (g 10 j) sp.toNatClampNeg dp.toNatClampNeg n.toNatClampNeg)) N ad) ++ Y)
    rw [← h9]; exact hD, hS⟩)
theorem cp_candidates_candidates {sp dp n : Int32} (h0 : cX p s m args c own cc nL D tc) (hw : wH D A H0 (cl tc g N ad ++ Y) H locs) (hml : c.maxLocals = ls.size) (hlk : (Cond.methodLink own index arraycopyName).before args s = true) (hnat : (Cond.native arraycopyName).before args s = true) (hstat : (Cond.static arraycopyName).before args s = true) (hini : (Cond.initialized "java/lang/System").before args s = true)
    (h1 : ¬ sp < 0) (h2 : ¬ dp < 0) (h3 : ¬ n < 0) (h4 : sp.toNatClampNeg + n.toNatClampNeg ≤ 20) (h5 : dp.toNatClampNeg + n.toNatClampNeg ≤ 20) (hfr : 1 ≤ R.frames) (hlo : (rest.map fun v => v.category).sum + (nativeFrameWords "java/lang/System" "arraycopy" 5 + 11) ≤ R.locals) (hd : decode cc pc = .ok (.invokestatic index, 3))
    (kk : ∀ (H1 : Heap) (locs1 : List Loc), wH D A H0 (cl tc (ur g 4 0 (va_cpy (g 4 0) (g 4 0) sp.toNatClampNeg dp.toNatClampNeg n.toNatClampNeg)) N ad ++ Y) H1 locs1 → W p l e R s m args below meth c H1 locs1 cells slots Q (F0 m (pc + 3) ls rest)) : W p l e R s m args below meth c H locs cells slots Q (F0 m pc ls (.int n :: .int dp :: .ref (ad 0 7) :: .int sp :: .ref (ad 0 7) :: rest)) :=
  va_copyi h0.1 h0.2.1 hml h0.2.2.2.1 hlk hnat hstat hini h0.2.2.2.2.2 hw.1 hw.2.1 hw.2.2 (bw_o (cb tc g N ad) 7 + 0) (bw_o (cb tc g N ad) 7 + 0) 0 0 (ty := .int) (c0 := tc 0) (c1 := tc 0) (n0 := 20) (n1 := 20) (f := g 4 0) (g := g 4 0) (bw_get (bs := cb tc g N ad) (j := 7) rfl Nat.one_pos Y) (bw_get (bs := cb tc g N ad) (j := 7) rfl Nat.one_pos Y) rfl rfl rfl h1 h2 h3 h4 h5 (fun _ _ => rfl) hfr hlo hd (fun H1 locs1 hP hD hS => kk H1 locs1 ⟨by
    rw [bw_set (bs := cb tc g N ad) (j := 7) (f := bF (tc 0) 20 7 (g 4 0) ad) rfl Nat.one_pos Y] at hP
    rw [← ur_candidates (tc := tc) (g := g) (N := N) (ad := ad) (f := va_cpy (g 4 0) (g 4 0) sp.toNatClampNeg dp.toNatClampNeg n.toNatClampNeg)]; exact hP, by
    rw [bw_set (bs := cb tc g N ad) (j := 7) (f := bF (tc 0) 20 7 (g 4 0) ad) rfl Nat.one_pos Y] at hD
    rw [← ur_candidates (tc := tc) (g := g) (N := N) (ad := ad) (f := va_cpy (g 4 0) (g 4 0) sp.toNatClampNeg dp.toNatClampNeg n.toNatClampNeg)]; exact hD, hS⟩)
end CP
