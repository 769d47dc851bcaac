/-! THE LAW: its start -/
def g00 : Nat → Nat → Nat → Int32 := fun c _ j => if c = 0 then (if j = 4 then 1 else 0) else if c = 1 then 30 else 0
def m00 : Nat → Nat → Int32 := fun k => if k = 7 then upd (upd (upd (fun _ => 0) (0 : Int32).toNatClampNeg 30) (1 : Int32).toNatClampNeg 30) (2 : Int32).toNatClampNeg 30 else fun _ => 0
def a00 (q0 : Nat) (u : Nat → Nat) : Nat → Nat → Nat := fun _ j => match j with
  | 0 => q0
  | j + 1 => u j
def am00 (q0 : Nat) (u : Nat → Nat) : Nat → Nat := fun k => match k with
  | 0 => q0
  | 4 => u 0 | 5 => u 1 | 6 => u 2 | 7 => u 3 | 8 => u 4 | 9 => u 5
  | 11 => u 6 | 12 => u 7 | 13 => u 8 | 14 => u 9 | 15 => u 10
  | 17 => u 11 | 18 => u 12 | 19 => u 13 | 20 => u 14 | 21 => u 15 | 22 => u 16 | 23 => u 17 | 24 => u 18 | 25 => u 19
  | _ => u 20
theorem cl_00 (tc : Nat → ClassId) (q0 : Nat) (u : Nat → Nat) : cl tc g00 (fun _ => 0) (a00 q0 u) = [(q0, .inr (3, [.ref (u 0), .ref (u 1), .ref (u 2), .ref (u 3), .ref (u 4), .ref (u 5), .ref (u 6), .int 0, .int 0, .int 0, .int 0, .int 1, .int 0, .int 0])), ((u 0), .inl (tc 3, 20, .inr (.inr (.inr (.inr (fun _ => none)))))), ((u 1), .inl (tc 4, 60, .inr (.inr (.inr (.inr (fun _ => none)))))), ((u 2), .inl (tc 5, 20, .inr (.inr (.inr (.inr (fun _ => none)))))), ((u 3), .inl (tc 0, 3, .inl (fun _ => 30))), ((u 4), .inl (tc 0, 3, .inl (fun _ => 0))), ((u 5), .inl (tc 0, 6, .inl (fun _ => 0))), ((u 6), .inl (tc 0, 20, .inl (fun _ => 0)))] := by
  have hn : ∀ (k : Nat), (fun i => if i < 0 then some (a00 q0 u k i) else none) = (fun _ => none : Nat → Option Nat) := by
    intro k
    funext i
    exact if_neg (Nat.not_lt_zero i)
  unfold cl bw_l cb bR
  rw [hn, hn, hn]
  rfl
theorem mo_00 (tc : Nat → ClassId) (q0 : Nat) (u : Nat → Nat) : mo tc (am00 q0 u) m00 = [(q0, .inr (4, [.int 0, .int 0, .int 0, .int 0, .ref (u 0), .ref (u 1), .ref (u 2), .ref (u 3), .ref (u 4), .ref (u 5), .int 0, .ref (u 6), .ref (u 7), .ref (u 8), .ref (u 9), .ref (u 10), .int 0, .ref (u 11), .ref (u 12), .ref (u 13), .ref (u 14), .ref (u 15), .ref (u 16), .ref (u 17), .ref (u 18), .ref (u 19), .int 0, .int 0, .ref (u 20)])), ((u 0), .inl (tc 0, 20, .inl (fun _ => 0))), ((u 1), .inl (tc 0, 20, .inl (fun _ => 0))), ((u 2), .inl (tc 0, 120, .inl (fun _ => 0))), ((u 3), .inl (tc 0, 3, .inl (upd (upd (upd (fun _ => 0) (0 : Int32).toNatClampNeg 30) (1 : Int32).toNatClampNeg 30) (2 : Int32).toNatClampNeg 30))), ((u 4), .inl (tc 0, 3, .inl (fun _ => 0))), ((u 5), .inl (tc 0, 6, .inl (fun _ => 0))), ((u 6), .inl (tc 0, 61, .inl (fun _ => 0))), ((u 7), .inl (tc 0, 61, .inl (fun _ => 0))), ((u 8), .inl (tc 0, 61, .inl (fun _ => 0))), ((u 9), .inl (tc 0, 61, .inl (fun _ => 0))), ((u 10), .inl (tc 1, 61, .inl (fun _ => 0))), ((u 11), .inl (tc 0, 21, .inl (fun _ => 0))), ((u 12), .inl (tc 0, 21, .inl (fun _ => 0))), ((u 13), .inl (tc 0, 21, .inl (fun _ => 0))), ((u 14), .inl (tc 0, 420, .inl (fun _ => 0))), ((u 15), .inl (tc 0, 2520, .inl (fun _ => 0))), ((u 16), .inl (tc 0, 2520, .inl (fun _ => 0))), ((u 17), .inl (tc 0, 2520, .inl (fun _ => 0))), ((u 18), .inl (tc 0, 2520, .inl (fun _ => 0))), ((u 19), .inl (tc 0, 2520, .inl (fun _ => 0))), ((u 20), .inl (tc 1, 20, .inl (fun _ => 0)))] := rfl
theorem st_A {s : State} {args : Array Value} {ty : FieldType} (h : (Cond.arrayClass ty).before args s = true) (hty : ∀ C, ty ≠ .object C) : ∃ cA : ClassId, ArrOfT s cA ty ∧ va_RA s cA ty := by
  obtain ⟨cA, k, comp, h1, h2, h3⟩ := Cond.arrayClass_spec h
  refine ⟨cA, fun n z => ⟨fun k h => (by cases h), k, h2, comp, h3⟩, ?_⟩
  cases ty with
  | object C => exact absurd rfl (hty C)
  | _ => exact h1
theorem st_O {s : State} {args : Array Value} {C : String} (h : (Cond.arrayOver (.object C)).before args s = true) : ∃ cA : ClassId, ArrOfT s cA (.object C) ∧ va_RA s cA (.object C) := by
  obtain ⟨comp, cA, k, h1, h2, h3, h4, h5⟩ := Cond.arrayOver_spec h
  exact ⟨cA, fun n z => ⟨fun k h => (by cases h), k, h3, comp, h4⟩, k, comp, h3, h4, h1, h5⟩
theorem st_K {s : State} {args : Array Value} (hts : ∀ w ∈ gw, w.before args s = true) (o1 : (Cond.arrayOver (.object "CountRounds$Place")).before args s = true) (o2 : (Cond.arrayOver (.object "CountRounds$Transfer")).before args s = true) (o3 : (Cond.arrayOver (.object "CountRounds$Sheet")).before args s = true) : ∃ (D : va_G) (tc : Nat → ClassId), va_K D classes (tys tc) s := by
  obtain ⟨c0, k0⟩ := u_known (C := R_P) (T := F_P) (N := 4) hts i_P (hts _ wd_207)
  obtain ⟨j0, k0⟩ := k0
  obtain ⟨c1, j1, k1⟩ := u_known (C := R_S) (T := F_S) (N := 11) hts i_S (hts _ wd_389)
  obtain ⟨c2, j2, k2⟩ := u_known (C := R_T) (T := F_T) (N := 5) hts i_T (hts _ wd_314)
  obtain ⟨c3, j3, k3⟩ := u_known (C := R_C) (T := F_C) (N := 14) hts i_C (hts _ wd_18)
  obtain ⟨c4, j4, k4⟩ := u_known (C := R_M) (T := F_M) (N := 29) hts i_M (hts _ wd_609)
  obtain ⟨t0, f0⟩ := st_A (hts _ wd_77) (fun C h => nomatch h)
  obtain ⟨t1, f1⟩ := st_A (hts _ wd_436) (fun C h => nomatch h)
  obtain ⟨t2, f2⟩ := st_A (hts _ wd_873) (fun C h => nomatch h)
  obtain ⟨t3, f3⟩ := st_O o1
  obtain ⟨t4, f4⟩ := st_O o2
  obtain ⟨t5, f5⟩ := st_O o3
  refine ⟨(fun c => match c with | 0 => c0 | 1 => c1 | 2 => c2 | 3 => c3 | _ => c4, fun c => match c with | 0 => j0 | 1 => j1 | 2 => j2 | 3 => j3 | _ => j4), (fun k => match k with | 0 => t0 | 1 => t1 | 2 => t2 | 3 => t3 | 4 => t4 | _ => t5), ?_, ?_⟩
  · intro c q hq
    match c, hq with
    | 0, hq => cases hq; exact k0
    | 1, hq => cases hq; exact k1
    | 2, hq => cases hq; exact k2
    | 3, hq => cases hq; exact k3
    | 4, hq => cases hq; exact k4
    | n + 5, hq => cases hq
  · intro k q hq
    match k, hq with
    | 0, hq => cases hq; exact f0
    | 1, hq => cases hq; exact f1
    | 2, hq => cases hq; exact f2
    | 3, hq => cases hq; exact f3
    | 4, hq => cases hq; exact f4
    | 5, hq => cases hq; exact f5
    | n + 6, hq => cases hq
def sa0 (s : State) (k : Nat) : Nat := match (Term.string "CountRounds" k).eval #[] s none [] s with
  | some (.ref a) => a
  | _ => 0
theorem st_S {s : State} {args : Array Value} {k cur : Nat} {tx : String} (hcur : s.vm.findClass "CountRounds" = some cur) (h : (Cond.stringRef "CountRounds" k tx).before args s = true) : vk_R "CountRounds" k tx (sa0 s k) s := by
  obtain ⟨_, _, _, a, _, _, _, _, _, h1⟩ := Cond.stringRef_spec hcur h
  have h2 : (Term.string "CountRounds" k).eval #[] s none [] s = some (.ref a) := h1
  have h3 : sa0 s k = a := by unfold sa0; rw [h2]
  rw [h3]
  exact vk_R.of h h1
theorem st_stl : ∀ q ∈ stl, Cond.stringRef "CountRounds" q.1 q.2 ∈ tables_1 := by decide +kernel
theorem st_ov1 : Cond.arrayOver (.object "CountRounds$Place") ∈ tables_1 := by decide +kernel
theorem st_ov2 : Cond.arrayOver (.object "CountRounds$Transfer") ∈ tables_1 := by decide +kernel
theorem st_ov3 : Cond.arrayOver (.object "CountRounds$Sheet") ∈ tables_1 := by decide +kernel
theorem st_l1 : Cond.laysStatic Bundle.tN "UNASSIGNED_STACK" Bundle.steD ∈ tables_1 := by decide +kernel
theorem st_l2 : Cond.laysStatic Bundle.tN "SUPPRESSED_SENTINEL" Bundle.listD ∈ tables_1 := by decide +kernel
theorem st_i9 : Cond.initialized Bundle.tN ∈ tables_1 := by decide +kernel
theorem st_r1 : Cond.isRef (.static Bundle.tN "UNASSIGNED_STACK" Bundle.steD) ∈ flatC (Jvm.Cond.and given_1 narrow_1) := by decide +kernel
theorem st_r2 : Cond.isRef (.static Bundle.tN "SUPPRESSED_SENTINEL" Bundle.listD) ∈ flatC (Jvm.Cond.and given_1 narrow_1) := by decide +kernel
theorem st_nc : ∀ a ∈ exl, ∀ b ∈ exl, a ≠ b → Cond.not (.castable a b) ∈ flatC (Jvm.Cond.and given_1 narrow_1) := by decide +kernel
