/-! NEW CELLS: arrays of the known classes, objects; the newest stands behind the front F of the world F ++ Z -/
theorem al_perm (F Z : va_W) (x : Nat × va_E) : ((F ++ Z) ++ [x]).Perm ((F ++ [x]) ++ Z) := by
  rw [List.append_assoc, List.append_assoc]
  exact List.Perm.append_left _ List.perm_append_comm
theorem al_int {D : va_G} {tc : Nat → ClassId} {U : State} {cA : ClassId} (h : va_K D classes (tys tc ++ [(cA, .int)]) U) : cA = tc 0 := by
  have h1 := (h.2 6 (cA, .int) rfl).2
  have h2 := (h.2 0 (tc 0, .int) rfl).2
  exact Option.some.inj (h1.symm.trans h2)
theorem al_bool {D : va_G} {tc : Nat → ClassId} {U : State} {cA : ClassId} (h : va_K D classes (tys tc ++ [(cA, .boolean)]) U) : cA = tc 1 := by
  have h1 := (h.2 6 (cA, .boolean) rfl).2
  have h2 := (h.2 1 (tc 1, .boolean) rfl).2
  exact Option.some.inj (h1.symm.trans h2)
theorem al_long {D : va_G} {tc : Nat → ClassId} {U : State} {cA : ClassId} (h : va_K D classes (tys tc ++ [(cA, .long)]) U) : cA = tc 2 := by
  have h1 := (h.2 6 (cA, .long) rfl).2
  have h2 := (h.2 2 (tc 2, .long) rfl).2
  exact Option.some.inj (h1.symm.trans h2)
theorem al_obj {D : va_G} {tc : Nat → ClassId} {U : State} {cA : ClassId} {C : String} (k : Nat) (hk : (tys tc)[k]? = some (tc k, .object C)) (h : va_K D classes (tys tc ++ [(cA, .object C)]) U) : cA = tc k := by
  obtain ⟨_, _, _, _, _, h1⟩ := (h.2 6 (cA, .object C) rfl).2
  have hlt : k < (tys tc).length := (List.getElem?_eq_some_iff.mp hk).1
  obtain ⟨_, _, _, _, _, h2⟩ := (h.2 k (tc k, .object C) (by rw [List.getElem?_append_left hlt]; exact hk)).2
  exact Option.some.inj (h1.symm.trans h2)
section AL
variable {p : Program} {l : Launch} {e : Env} {R : Room} {s : State} {m : MethodId} {args : Array Value} {below : List Frame} {meth : Method} {c : Code} {H H0 : Heap} {locs : List Loc} {cells slots : Nat} {Q : State → Prop} {cc : ByteArray} {nL pc : Nat} {ls : Array Slot} {rest st0 : List Value} {D : va_G} {tc : Nat → ClassId} {A : Nat → Prop} {F Z : va_W} {own : String}
theorem nwI {n : Int32} {K : Nat} (h0 : cX p s m args c own cc nL D tc) (hw : wH D A H0 (F ++ Z) H locs) (hA : ∀ q : Nat, H0.size ≤ q → A q) (harr : Cond.arrayClass .int ∈ gw) (hn : ¬ n < 0) (hK : n.toNatClampNeg = K) (hz : K * 4 ≤ 536870912) (hc : cells + 1 ≤ R.cells) (hs : slots + K ≤ R.slots) (hd : decode cc pc = .ok (.newarray .int, 2))
    (kk : ∀ (q : Nat) (H1 : Heap), wH D A H0 ((F ++ [(q, .inl (tc 0, K, .inl (fun _ => 0)))]) ++ Z) H1 locs → W p l e R s m args below meth c H1 locs (cells + 1) (slots + K) Q (F0 m (pc + 2) ls (.ref q :: rest))) : W p l e R s m args below meth c H locs cells slots Q (F0 m pc ls (.int n :: rest)) := by
  refine va_newa (atype := .int) (ty := .int) (a0 := (K, .inl (fun _ => 0))) h0.1 h0.2.1 (h0.2.2.2.2.1 _ harr) rfl h0.2.2.2.2.2 hw.1 hw.2.1 hw.2.2 hA (fun cA => rfl) hn hK hz hc hs hd (fun q cA H1 hk hP hD hS => ?_)
  have e1 := al_int hk
  subst e1
  exact kk q H1 ⟨bw_P (al_perm F Z _) hP, bw_D (al_perm F Z _) hD, hS⟩
theorem nwZ {n : Int32} {K : Nat} (h0 : cX p s m args c own cc nL D tc) (hw : wH D A H0 (F ++ Z) H locs) (hA : ∀ q : Nat, H0.size ≤ q → A q) (harr : Cond.arrayClass .boolean ∈ gw) (hn : ¬ n < 0) (hK : n.toNatClampNeg = K) (hz : K * 1 ≤ 536870912) (hc : cells + 1 ≤ R.cells) (hs : slots + K ≤ R.slots) (hd : decode cc pc = .ok (.newarray .boolean, 2))
    (kk : ∀ (q : Nat) (H1 : Heap), wH D A H0 ((F ++ [(q, .inl (tc 1, K, .inl (fun _ => 0)))]) ++ Z) H1 locs → W p l e R s m args below meth c H1 locs (cells + 1) (slots + K) Q (F0 m (pc + 2) ls (.ref q :: rest))) : W p l e R s m args below meth c H locs cells slots Q (F0 m pc ls (.int n :: rest)) := by
  refine va_newa (atype := .boolean) (ty := .boolean) (a0 := (K, .inl (fun _ => 0))) h0.1 h0.2.1 (h0.2.2.2.2.1 _ harr) rfl h0.2.2.2.2.2 hw.1 hw.2.1 hw.2.2 hA (fun cA => rfl) hn hK hz hc hs hd (fun q cA H1 hk hP hD hS => ?_)
  have e1 := al_bool hk
  subst e1
  exact kk q H1 ⟨bw_P (al_perm F Z _) hP, bw_D (al_perm F Z _) hD, hS⟩
theorem nwJ {n : Int32} {K : Nat} (h0 : cX p s m args c own cc nL D tc) (hw : wH D A H0 (F ++ Z) H locs) (hA : ∀ q : Nat, H0.size ≤ q → A q) (harr : Cond.arrayClass .long ∈ gw) (hn : ¬ n < 0) (hK : n.toNatClampNeg = K) (hz : K * 8 ≤ 536870912) (hc : cells + 1 ≤ R.cells) (hs : slots + K ≤ R.slots) (hd : decode cc pc = .ok (.newarray .long, 2))
    (kk : ∀ (q : Nat) (H1 : Heap), wH D A H0 ((F ++ [(q, .inl (tc 2, K, .inr (.inl (fun _ => 0))))]) ++ Z) H1 locs → W p l e R s m args below meth c H1 locs (cells + 1) (slots + K) Q (F0 m (pc + 2) ls (.ref q :: rest))) : W p l e R s m args below meth c H locs cells slots Q (F0 m pc ls (.int n :: rest)) := by
  refine va_newa (atype := .long) (ty := .long) (a0 := (K, .inr (.inl (fun _ => 0)))) h0.1 h0.2.1 (h0.2.2.2.2.1 _ harr) rfl h0.2.2.2.2.2 hw.1 hw.2.1 hw.2.2 hA (fun cA => rfl) hn hK hz hc hs hd (fun q cA H1 hk hP hD hS => ?_)
  have e1 := al_long hk
  subst e1
  exact kk q H1 ⟨bw_P (al_perm F Z _) hP, bw_D (al_perm F Z _) hD, hS⟩
theorem nwR {C : String} {n : Int32} {K index : Nat} (k : Nat) (hk9 : (tys tc)[k]? = some (tc k, .object C)) (h0 : cX p s m args c own cc nL D tc) (hw : wH D A H0 (F ++ Z) H locs) (hA : ∀ q : Nat, H0.size ≤ q → A q) (hcl : Cond.classLink own index C ∈ gw) (ho : va_AO C s) (hn : ¬ n < 0) (hK : n.toNatClampNeg = K) (hz : K * 4 ≤ 536870912) (hc : cells + 1 ≤ R.cells) (hs : slots + K ≤ R.slots) (hd : decode cc pc = .ok (.anewarray index, 3))
    (kk : ∀ (q : Nat) (H1 : Heap), wH D A H0 ((F ++ [(q, .inl (tc k, K, .inr (.inr (.inr (.inr (fun _ => none))))))]) ++ Z) H1 locs → W p l e R s m args below meth c H1 locs (cells + 1) (slots + K) Q (F0 m (pc + 3) ls (.ref q :: rest))) : W p l e R s m args below meth c H locs cells slots Q (F0 m pc ls (.int n :: rest)) := by
  refine va_newq h0.1 h0.2.1 h0.2.2.2.1 (h0.2.2.2.2.1 _ hcl) ho h0.2.2.2.2.2 hw.1 hw.2.1 hw.2.2 hA hn hK hz hc hs hd (fun q cA H1 hk hP hD hS => ?_)
  have e1 := al_obj k hk9 hk
  subst e1
  exact kk q H1 ⟨bw_P (al_perm F Z _) hP, bw_D (al_perm F Z _) hD, hS⟩
end AL
