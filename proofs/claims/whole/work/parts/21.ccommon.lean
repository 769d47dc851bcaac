/-! THE CLASS: what its methods take along beside their world: words on nest mates, texts, two statics -/
def stl : List (Nat × String) := [(291, "no such move"), (56, "no such class"), (67, "no room for a place"), (289, "no such place"), (83, "no such good or number of pieces"), (92, "no such class, cycle or tolerance"), (97, "no such person or right"), (99, "no such setting"), (104, "no such day"), (111, "it was a later day"), (115, "the same place, or no such good or number of pieces"), (117, "not so many are booked"), (122, "no room for a move"), (142, "it is ended, or too many would be booked"), (148, "no such class or number of places"), (153, "there is no such place"), (158, "no room for a count"), (293, "no such count"), (180, "it is not chosen"), (193, "no such good, number of pieces or person"), (204, "the place is not in the count"), (207, "no such good"), (209, "it is not frozen"), (298, "no such difference"), (248, "no such what"), (250, "no such person"), (252, "it is corrected"), (258, "what is booked would leave its range"), (260, "no such side"), (273, "no place was counted")]
def xS (A : Nat → Prop) (sa : Nat → Nat) (U : State) (H : Heap) : Prop := (∀ w ∈ nw, w.before #[] U = true) ∧ (∀ q ∈ stl, vk_R "CountRounds" q.1 q.2 (sa q.1) U) ∧ vx_Zq Bundle.tN "UNASSIGNED_STACK" Bundle.steD A U H ∧ vx_Zq Bundle.tN "SUPPRESSED_SENTINEL" Bundle.listD A U H
def pC (D : va_G) (tc : Nat → ClassId) (sa : Nat → Nat) (ws : va_W) (sz : Nat) (U : State) : Prop := pW D tc ws sz U ∧ xS (va_A ws sz) sa U U.heap
theorem nw_on {w : Cond} (h : w ∈ nw) : w.onTables = true := by
  have h1 := (List.mem_filter.mp h).2
  cases w <;> first | rfl | (simp [isN] at h1)
theorem nw_warm {w : Cond} (h : w ∈ nw) {s U : State} (hW : s.WarmedH U.vm) (hz : w.before #[] s = true) : w.before #[] U = true := by
  have h1 := (List.mem_filter.mp h).2
  cases w <;> first | (simp [isN] at h1; done) | exact va_Nw.warmF hW hz | exact va_Nw.warmM hW hz | exact va_Nw.warmC hW hz | exact va_Nw.warmD hW hz
theorem xS.go {A A1 : Nat → Prop} {sa : Nat → Nat} {s U : State} {H : Heap} {locs : List Loc} (h : xS A sa s s.heap) (hS : va_S A s.heap H locs) (hA : ∀ q, A1 q → A q) (hU : U.heap = H) (hW : s.WarmedH U.vm) : xS A1 sa U U.heap := by
  rw [hU]
  exact ⟨fun w hw => nw_warm hw hW (h.1 w hw), fun q hq => vk_R.warm hW (h.2.1 q hq), vx_Zq.moved hW.alike ((h.2.2.1.kept hS.2.1).narrow hA), vx_Zq.moved hW.alike ((h.2.2.2.kept hS.2.1).narrow hA)⟩
theorem xS.call {A : Nat → Prop} {sa : Nat → Nat} {U : State} {g : JFrame} {mk : MethodId} {a : Array Value} (h : xS A sa U U.heap) : xS A sa (U.calling g mk a) (U.calling g mk a).heap :=
  ⟨fun w hw => va_Nw.same (nw_on hw) (u := U) rfl (h.1 w hw), fun q hq => vk_R.same (u := U) rfl (h.2.1 q hq), vx_Zq.moved (u := U) (U := U.calling g mk a) (Vm.Alike.refl U.vm) h.2.2.1, vx_Zq.moved (u := U) (U := U.calling g mk a) (Vm.Alike.refl U.vm) h.2.2.2⟩
theorem bl_pC {D : va_G} {tc : Nat → ClassId} {sa : Nat → Nat} {ws : va_W} {sz : Nat} {av : List Value} : FrameBlind (va_Pc av (pC D tc sa ws sz)) := fun a U g mk q => ⟨q.1, ⟨q.2.1.1, q.2.1.2.1, va_K.moved (u := U) (U := U.calling g mk a) (Vm.Alike.refl U.vm) q.2.1.2.2.1, q.2.1.2.2.2⟩, q.2.2.call⟩
/-- a method's body from its entry: returns -/
theorem en_C {l : Launch} {y : MethodName} {cc : ByteArray} {nL : Nat} {ret : Option FieldType} {rm : Room} {Qc : Array Value → State → Outcome → State → Prop} {mc ms : Nat} {free : Addr → Prop} {av : List Value} {D : va_G} {tc : Nat → ClassId} {sa : Nat → Nat} {w0 : va_W} {sz : Nat}
    (hy : plainName y.cls = true) (hlen : (lg_sl av).length ≤ nL)
    (body : ∀ (p : Program) (e : Env) (s : State) (m : MethodId) (args : Array Value) (below : List Frame) (meth : Method) (c : Code) (ls : Array Slot), cX p s m args c y.cls cc nL D tc → (∀ w ∈ nw, w.before args s = true) → xS (va_A w0 sz) sa s s.heap → meth.sig.returnType = ret → meth.locks = false → meth.name = y.name → s.heap.size = sz → wH D (va_A w0 sz) s.heap w0 s.heap [] → lv_has ls nL (lv_args 0 av) →
      W p l e rm s m args below meth c s.heap [] 0 0 (MQ below Qc args s mc ms free) (F0 m 0 ls [])) : Met l y (Cond.code y cc nL ret :: gw) rm (va_Pc av (pC D tc sa w0 sz)) Qc mc ms free := by
  refine Met.ofW (cc := cc) (maxL := nL) (ret := ret) hy rfl ?_
  intro p e s m args below meth c s₁ B hml hv
  obtain ⟨rfl, ⟨hsz, hP, hK, hD0⟩, hX⟩ := hv
  have hts := atoms_spec (ws := Cond.code y cc nL ret :: gw) B.pre
  have hin : meth.name = y.name := (name_of_methodNamed B.named B.method).1
  have hD := hD0.self (sz := sz)
  have hl := lv_entry av (n := nL) hlen
  rw [lg_entry_eq]
  exact body p e s m _ below meth c _ ⟨B.exec, B.bytes, hml, findClass_of_methodNamed B.named, fun w h => hts w (List.mem_cons_of_mem _ h), hK⟩ (fun w hw => va_Nw.use (nw_on hw) (hX.1 w hw)) hX B.returns B.notSynchronized hin hsz ⟨hP, hD, va_S.rf⟩ hl
/-- .. returns or throws -/
theorem en_X {l : Launch} {y : MethodName} {cc : ByteArray} {nL : Nat} {ret : Option FieldType} {rm : Room} {Qc : Array Value → State → Outcome → State → Prop} {XC : String → State → State → Prop} {mc ms : Nat} {free : Addr → Prop} {av : List Value} {D : va_G} {tc : Nat → ClassId} {sa : Nat → Nat} {w0 : va_W} {sz : Nat}
    (hy : plainName y.cls = true) (hlen : (lg_sl av).length ≤ nL)
    (body : ∀ (p : Program) (e : Env) (s : State) (m : MethodId) (args : Array Value) (below : List Frame) (meth : Method) (c : Code) (ls : Array Slot), cX p s m args c y.cls cc nL D tc → (∀ w ∈ nw, w.before args s = true) → xS (va_A w0 sz) sa s s.heap → meth.sig.returnType = ret → meth.locks = false → (∀ x ∈ c.exceptionTable.toList, False) → s.heap.size = sz → wH D (va_A w0 sz) s.heap w0 s.heap [] → lv_has ls nL (lv_args 0 av) →
      W p l e rm s m args below meth c s.heap [] 0 0 (vx_MQ below Qc XC args s mc ms free) (F0 m 0 ls [])) : vx_Met l y (Cond.code y cc nL ret :: gw) rm (va_Pc av (pC D tc sa w0 sz)) Qc XC mc ms free := by
  refine vx_ofW (cc := cc) (maxL := nL) (ret := ret) hy rfl ?_
  intro p e s m args below meth c s₁ B hml htab hv
  obtain ⟨rfl, ⟨hsz, hP, hK, hD0⟩, hX⟩ := hv
  have hts := atoms_spec (ws := Cond.code y cc nL ret :: gw) B.pre
  have hD := hD0.self (sz := sz)
  have hl := lv_entry av (n := nL) hlen
  rw [lg_entry_eq]
  exact body p e s m _ below meth c _ ⟨B.exec, B.bytes, hml, findClass_of_methodNamed B.named, fun w h => hts w (List.mem_cons_of_mem _ h), hK⟩ (fun w hw => va_Nw.use (nw_on hw) (hX.1 w hw)) hX B.returns B.notSynchronized htab hsz ⟨hP, hD, va_S.rf⟩ hl
section CC
variable {p : Program} {l : Launch} {e : Env} {R : Room} {s : State} {m : MethodId} {args : Array Value} {below : List Frame} {meth : Method} {c : Code} {H : Heap} {locs : List Loc} {cells slots : Nat} {Q : State → Prop} {cc : ByteArray} {nL pc : Nat} {ls : Array Slot} {rest st0 : List Value} {D : va_G} {tc : Nat → ClassId} {A : Nat → Prop} {ws : va_W} {own : String} {mc ms : Nat} {sa : Nat → Nat}
theorem pc_S {As : List Value} (h0 : cX p s m args c own cc nL D tc) (hX : xS A sa s s.heap) (hw : wH D A s.heap ws H locs) (hA : ∀ q : Nat, s.heap.size ≤ q → A q) : ∀ U : State, U.heap = H → s.WarmedH U.vm → va_Pc As (pC D tc sa ws H.size) As.toArray U :=
  fun U hU hW => ⟨rfl, ⟨by rw [hU], by rw [hU]; exact hw.1, va_K.moved hW.alike h0.2.2.2.2.2, hw.2.1.weaken (fun _ _ _ _ => trivial)⟩, hX.go hw.2.2 (fr_A hw hA) hU hW⟩
theorem pc_V {As : List Value} {C : String} {b q0 ci : Nat} {fs : List Value} {T : u_T} {N : Nat} (h0 : cX p s m args c own cc nL D tc) (hX : xS A sa s s.heap) (hw : wH D A s.heap ws H locs) (hA : ∀ q : Nat, s.heap.size ≤ q → A q) (he : ws[q0]? = some (b, .inr (ci, fs))) (hc : classes[ci]? = some (C, T, N)) : PreV s H C b (va_Pc (.ref b :: As) (pC D tc sa ws H.size)) As :=
  ⟨bl_pC, va_recv h0.2.2.2.2.2 hw.1 hc he, pc_S h0 hX hw hA⟩
/-- a call of a method of this class that leaves the heap as it is -/
theorem dv_p {y : MethodName} {bytes : ByteArray} {maxL index n : Nat} {ret : Option FieldType} {rm : Room} {r : Value} {As : List Value} {C : String} {b q0 ci : Nat} {fs : List Value} {T : u_T} {N : Nat} (h0 : cX p s m args c own cc nL D tc) (hX : xS A sa s s.heap) (hw : wH D A s.heap ws H locs) (hA : ∀ q : Nat, s.heap.size ≤ q → A q)
    (hM : Met l y (Cond.code y bytes maxL ret :: gw) rm (va_Pc (.ref b :: As) (pC D tc sa ws H.size)) (qP r) 0 0 (fun _ => False)) (hG : GoodIn gw (wsV own index C y (Cond.code y bytes maxL ret :: gw)))
    (hd : y.cls = C ∧ y.cls ≠ "java/lang/invoke/MethodHandle" ∧ y.cls ≠ "java/lang/invoke/VarHandle" ∧ (parseMethodDescriptor y.desc).map (fun d => d.parameters.length) = some n) (hR : rm.cells = 0 ∧ rm.slots = 0 ∧ rm.frames + 1 ≤ R.frames ∧ 8 + (maxL + 11) + rm.locals ≤ R.locals ∧ cells ≤ R.cells ∧ slots ≤ R.slots)
    (he : ws[q0]? = some (b, .inr (ci, fs))) (hc : classes[ci]? = some (C, T, N)) (hn : As.length = n) (hsize : ls.size = nL) (hst : st0 = As.reverse ++ .ref b :: rest) (hW : (rest.map fun v => v.category).sum ≤ 8) (hdg : decode cc pc = .ok (.invokevirtual index, 3))
    (kk : W p l e R s m args below meth c H locs cells slots Q (F0 m (pc + 3) ls (r :: rest))) : W p l e R s m args below meth c H locs cells slots Q (F0 m pc ls st0) :=
  ca_p (va_runV (As := As) (rest := rest) ⟨h0.1, h0.2.1, h0.2.2.1, h0.2.2.2.1, h0.2.2.2.2.1⟩ hM (cwV n h0.2.2.2.2.1 hG rfl hR.1 hR.2.1 hd ⟨hR.2.2.1, hR.2.2.2.1⟩) (pc_V h0 hX hw hA he hc) rfl hn hsize hst (lv_room hW) hdg ⟨hR.2.2.2.2.1, hR.2.2.2.2.2⟩) kk
/-- .. of a nest mate's private method -/
theorem dn_p {y : MethodName} {bytes : ByteArray} {maxL index n : Nat} {ret : Option FieldType} {rm : Room} {r : Value} {As : List Value} {C : String} {b q0 ci : Nat} {fs : List Value} {T : u_T} {N : Nat} (h0 : cX p s m args c own cc nL D tc) (hX : xS A sa s s.heap) (hw : wH D A s.heap ws H locs) (hA : ∀ q : Nat, s.heap.size ≤ q → A q)
    (hM : Met l y (Cond.code y bytes maxL ret :: gw) rm (va_Pc (.ref b :: As) (pC D tc sa ws H.size)) (qP r) 0 0 (fun _ => False)) (hcd : Cond.code y bytes maxL ret ∈ gw) (hlk : Cond.methodLinkNest own index y "CountRounds" ∈ nw) (hini : Cond.initialized y.cls ∈ gw) (hins : Cond.instanceMethod y ∈ gw) (hsel : Cond.selects C y y ∈ gw)
    (hd : y.cls ≠ "java/lang/invoke/MethodHandle" ∧ y.cls ≠ "java/lang/invoke/VarHandle" ∧ (parseMethodDescriptor y.desc).map (fun d => d.parameters.length) = some n) (hR : rm.cells = 0 ∧ rm.slots = 0 ∧ rm.frames + 1 ≤ R.frames ∧ 8 + (maxL + 11) + rm.locals ≤ R.locals ∧ cells ≤ R.cells ∧ slots ≤ R.slots)
    (he : ws[q0]? = some (b, .inr (ci, fs))) (hc : classes[ci]? = some (C, T, N)) (hn : As.length = n) (hsize : ls.size = nL) (hst : st0 = As.reverse ++ .ref b :: rest) (hW : (rest.map fun v => v.category).sum ≤ 8) (hdg : decode cc pc = .ok (.invokevirtual index, 3))
    (kk : W p l e R s m args below meth c H locs cells slots Q (F0 m (pc + 3) ls (r :: rest))) : W p l e R s m args below meth c H locs cells slots Q (F0 m pc ls st0) :=
  ca_p (va_runVN (As := As) (rest := rest) ⟨h0.1, h0.2.1, h0.2.2.1, h0.2.2.2.1, h0.2.2.2.2.1⟩ hM ⟨va_cnB n h0.2.2.2.2.1 (gd_c hcd) rfl hR.1 hR.2.1 (hX.1 _ hlk) (h0.2.2.2.2.1 _ hini) hd ⟨hR.2.2.1, hR.2.2.2.1⟩, h0.2.2.2.2.1 _ hins, h0.2.2.2.2.1 _ hsel⟩ (pc_V h0 hX hw hA he hc) rfl hn hsize hst (lv_room hW) hdg ⟨hR.2.2.2.2.1, hR.2.2.2.2.2⟩) kk
/-- calls that change the world: void, int; of this class, of a nest mate -/
theorem dv_v {S : Type} {post : S → Prop} {wd : S → va_W} {y : MethodName} {bytes : ByteArray} {maxL index n : Nat} {ret : Option FieldType} {rm : Room} {As : List Value} {C : String} {b q0 ci : Nat} {fs : List Value} {T : u_T} {N : Nat} (h0 : cX p s m args c own cc nL D tc) (hX : xS A sa s s.heap) (hw : wH D A s.heap ws H locs) (hA : ∀ q : Nat, s.heap.size ≤ q → A q)
    (hM : Met l y (Cond.code y bytes maxL ret :: gw) rm (va_Pc (.ref b :: As) (pC D tc sa ws H.size)) (va_Qv post (fun u t => qW D tc (va_A ws H.size) (wd u) t) (va_A ws H.size)) mc ms (va_A ws H.size)) (hG : GoodIn gw (wsV own index C y (Cond.code y bytes maxL ret :: gw)))
    (hd : y.cls = C ∧ y.cls ≠ "java/lang/invoke/MethodHandle" ∧ y.cls ≠ "java/lang/invoke/VarHandle" ∧ (parseMethodDescriptor y.desc).map (fun d => d.parameters.length) = some n) (hR : rm.cells = mc ∧ rm.slots = ms ∧ rm.frames + 1 ≤ R.frames ∧ 8 + (maxL + 11) + rm.locals ≤ R.locals ∧ cells + mc ≤ R.cells ∧ slots + ms ≤ R.slots)
    (he : ws[q0]? = some (b, .inr (ci, fs))) (hc : classes[ci]? = some (C, T, N)) (hn : As.length = n) (hsize : ls.size = nL) (hst : st0 = As.reverse ++ .ref b :: rest) (hW : (rest.map fun v => v.category).sum ≤ 8) (hdg : decode cc pc = .ok (.invokevirtual index, 3))
    (kk : ∀ (u : S) (H1 : Heap) (locs1 : List Loc), post u → wH D A s.heap (wd u) H1 locs1 → W p l e R s m args below meth c H1 locs1 (cells + mc) (slots + ms) Q (F0 m (pc + 3) ls rest)) : W p l e R s m args below meth c H locs cells slots Q (F0 m pc ls st0) := by
  have hF := fr_A hw hA
  refine va_callv (va_runV (As := As) (rest := rest) ⟨h0.1, h0.2.1, h0.2.2.1, h0.2.2.2.1, h0.2.2.2.2.1⟩ hM (cwV n h0.2.2.2.2.1 hG rfl hR.1 hR.2.1 hd ⟨hR.2.2.1, hR.2.2.2.1⟩) (pc_V h0 hX hw hA he hc) rfl hn hsize hst (lv_room hW) hdg ⟨hR.2.2.2.2.1, hR.2.2.2.2.2⟩) hw.2.2 (fun q _ h => hF q h) hF (fun u t H1 locs ht hvm hp hB hz1 hk1 hS => ?_)
  exact kk u H1 locs hp ⟨by rw [← ht]; exact hB.1, hB.2.2.weaken (fun k q _ h => hF q.1 h), hS⟩
theorem dv_i {S : Type} {post : Int32 → S → Prop} {wd : S → va_W} {y : MethodName} {bytes : ByteArray} {maxL index n : Nat} {ret : Option FieldType} {rm : Room} {As : List Value} {C : String} {b q0 ci : Nat} {fs : List Value} {T : u_T} {N : Nat} (h0 : cX p s m args c own cc nL D tc) (hX : xS A sa s s.heap) (hw : wH D A s.heap ws H locs) (hA : ∀ q : Nat, s.heap.size ≤ q → A q)
    (hM : Met l y (Cond.code y bytes maxL ret :: gw) rm (va_Pc (.ref b :: As) (pC D tc sa ws H.size)) (va_Qi post (fun u t => qW D tc (va_A ws H.size) (wd u) t) (va_A ws H.size)) mc ms (va_A ws H.size)) (hG : GoodIn gw (wsV own index C y (Cond.code y bytes maxL ret :: gw)))
    (hd : y.cls = C ∧ y.cls ≠ "java/lang/invoke/MethodHandle" ∧ y.cls ≠ "java/lang/invoke/VarHandle" ∧ (parseMethodDescriptor y.desc).map (fun d => d.parameters.length) = some n) (hR : rm.cells = mc ∧ rm.slots = ms ∧ rm.frames + 1 ≤ R.frames ∧ 8 + (maxL + 11) + rm.locals ≤ R.locals ∧ cells + mc ≤ R.cells ∧ slots + ms ≤ R.slots)
    (he : ws[q0]? = some (b, .inr (ci, fs))) (hc : classes[ci]? = some (C, T, N)) (hn : As.length = n) (hsize : ls.size = nL) (hst : st0 = As.reverse ++ .ref b :: rest) (hW : (rest.map fun v => v.category).sum ≤ 8) (hdg : decode cc pc = .ok (.invokevirtual index, 3))
    (kk : ∀ (r : Int32) (u : S) (H1 : Heap) (locs1 : List Loc), post r u → wH D A s.heap (wd u) H1 locs1 → W p l e R s m args below meth c H1 locs1 (cells + mc) (slots + ms) Q (F0 m (pc + 3) ls (.int r :: rest))) : W p l e R s m args below meth c H locs cells slots Q (F0 m pc ls st0) := by
  have hF := fr_A hw hA
  refine va_calli (va_runV (As := As) (rest := rest) ⟨h0.1, h0.2.1, h0.2.2.1, h0.2.2.2.1, h0.2.2.2.2.1⟩ hM (cwV n h0.2.2.2.2.1 hG rfl hR.1 hR.2.1 hd ⟨hR.2.2.1, hR.2.2.2.1⟩) (pc_V h0 hX hw hA he hc) rfl hn hsize hst (lv_room hW) hdg ⟨hR.2.2.2.2.1, hR.2.2.2.2.2⟩) hw.2.2 (fun q _ h => hF q h) hF (fun r u t H1 locs ht hvm hp hB hz1 hk1 hS => ?_)
  exact kk r u H1 locs hp ⟨by rw [← ht]; exact hB.1, hB.2.2.weaken (fun k q _ h => hF q.1 h), hS⟩
theorem dn_v {S : Type} {post : S → Prop} {wd : S → va_W} {y : MethodName} {bytes : ByteArray} {maxL index n : Nat} {ret : Option FieldType} {rm : Room} {As : List Value} {C : String} {b q0 ci : Nat} {fs : List Value} {T : u_T} {N : Nat} (h0 : cX p s m args c own cc nL D tc) (hX : xS A sa s s.heap) (hw : wH D A s.heap ws H locs) (hA : ∀ q : Nat, s.heap.size ≤ q → A q)
    (hM : Met l y (Cond.code y bytes maxL ret :: gw) rm (va_Pc (.ref b :: As) (pC D tc sa ws H.size)) (va_Qv post (fun u t => qW D tc (va_A ws H.size) (wd u) t) (va_A ws H.size)) mc ms (va_A ws H.size)) (hcd : Cond.code y bytes maxL ret ∈ gw) (hlk : Cond.methodLinkNest own index y "CountRounds" ∈ nw) (hini : Cond.initialized y.cls ∈ gw) (hins : Cond.instanceMethod y ∈ gw) (hsel : Cond.selects C y y ∈ gw)
    (hd : y.cls ≠ "java/lang/invoke/MethodHandle" ∧ y.cls ≠ "java/lang/invoke/VarHandle" ∧ (parseMethodDescriptor y.desc).map (fun d => d.parameters.length) = some n) (hR : rm.cells = mc ∧ rm.slots = ms ∧ rm.frames + 1 ≤ R.frames ∧ 8 + (maxL + 11) + rm.locals ≤ R.locals ∧ cells + mc ≤ R.cells ∧ slots + ms ≤ R.slots)
    (he : ws[q0]? = some (b, .inr (ci, fs))) (hc : classes[ci]? = some (C, T, N)) (hn : As.length = n) (hsize : ls.size = nL) (hst : st0 = As.reverse ++ .ref b :: rest) (hW : (rest.map fun v => v.category).sum ≤ 8) (hdg : decode cc pc = .ok (.invokevirtual index, 3))
    (kk : ∀ (u : S) (H1 : Heap) (locs1 : List Loc), post u → wH D A s.heap (wd u) H1 locs1 → W p l e R s m args below meth c H1 locs1 (cells + mc) (slots + ms) Q (F0 m (pc + 3) ls rest)) : W p l e R s m args below meth c H locs cells slots Q (F0 m pc ls st0) := by
  have hF := fr_A hw hA
  refine va_callv (va_runVN (As := As) (rest := rest) ⟨h0.1, h0.2.1, h0.2.2.1, h0.2.2.2.1, h0.2.2.2.2.1⟩ hM ⟨va_cnB n h0.2.2.2.2.1 (gd_c hcd) rfl hR.1 hR.2.1 (hX.1 _ hlk) (h0.2.2.2.2.1 _ hini) hd ⟨hR.2.2.1, hR.2.2.2.1⟩, h0.2.2.2.2.1 _ hins, h0.2.2.2.2.1 _ hsel⟩ (pc_V h0 hX hw hA he hc) rfl hn hsize hst (lv_room hW) hdg ⟨hR.2.2.2.2.1, hR.2.2.2.2.2⟩) hw.2.2 (fun q _ h => hF q h) hF (fun u t H1 locs ht hvm hp hB hz1 hk1 hS => ?_)
  exact kk u H1 locs hp ⟨by rw [← ht]; exact hB.1, hB.2.2.weaken (fun k q _ h => hF q.1 h), hS⟩
theorem dn_i {S : Type} {post : Int32 → S → Prop} {wd : S → va_W} {y : MethodName} {bytes : ByteArray} {maxL index n : Nat} {ret : Option FieldType} {rm : Room} {As : List Value} {C : String} {b q0 ci : Nat} {fs : List Value} {T : u_T} {N : Nat} (h0 : cX p s m args c own cc nL D tc) (hX : xS A sa s s.heap) (hw : wH D A s.heap ws H locs) (hA : ∀ q : Nat, s.heap.size ≤ q → A q)
    (hM : Met l y (Cond.code y bytes maxL ret :: gw) rm (va_Pc (.ref b :: As) (pC D tc sa ws H.size)) (va_Qi post (fun u t => qW D tc (va_A ws H.size) (wd u) t) (va_A ws H.size)) mc ms (va_A ws H.size)) (hcd : Cond.code y bytes maxL ret ∈ gw) (hlk : Cond.methodLinkNest own index y "CountRounds" ∈ nw) (hini : Cond.initialized y.cls ∈ gw) (hins : Cond.instanceMethod y ∈ gw) (hsel : Cond.selects C y y ∈ gw)
    (hd : y.cls ≠ "java/lang/invoke/MethodHandle" ∧ y.cls ≠ "java/lang/invoke/VarHandle" ∧ (parseMethodDescriptor y.desc).map (fun d => d.parameters.length) = some n) (hR : rm.cells = mc ∧ rm.slots = ms ∧ rm.frames + 1 ≤ R.frames ∧ 8 + (maxL + 11) + rm.locals ≤ R.locals ∧ cells + mc ≤ R.cells ∧ slots + ms ≤ R.slots)
    (he : ws[q0]? = some (b, .inr (ci, fs))) (hc : classes[ci]? = some (C, T, N)) (hn : As.length = n) (hsize : ls.size = nL) (hst : st0 = As.reverse ++ .ref b :: rest) (hW : (rest.map fun v => v.category).sum ≤ 8) (hdg : decode cc pc = .ok (.invokevirtual index, 3))
    (kk : ∀ (r : Int32) (u : S) (H1 : Heap) (locs1 : List Loc), post r u → wH D A s.heap (wd u) H1 locs1 → W p l e R s m args below meth c H1 locs1 (cells + mc) (slots + ms) Q (F0 m (pc + 3) ls (.int r :: rest))) : W p l e R s m args below meth c H locs cells slots Q (F0 m pc ls st0) := by
  have hF := fr_A hw hA
  refine va_calli (va_runVN (As := As) (rest := rest) ⟨h0.1, h0.2.1, h0.2.2.1, h0.2.2.2.1, h0.2.2.2.2.1⟩ hM ⟨va_cnB n h0.2.2.2.2.1 (gd_c hcd) rfl hR.1 hR.2.1 (hX.1 _ hlk) (h0.2.2.2.2.1 _ hini) hd ⟨hR.2.2.1, hR.2.2.2.1⟩, h0.2.2.2.2.1 _ hins, h0.2.2.2.2.1 _ hsel⟩ (pc_V h0 hX hw hA he hc) rfl hn hsize hst (lv_room hW) hdg ⟨hR.2.2.2.2.1, hR.2.2.2.2.2⟩) hw.2.2 (fun q _ h => hF q h) hF (fun r u t H1 locs ht hvm hp hB hz1 hk1 hS => ?_)
  exact kk r u H1 locs hp ⟨by rw [← ht]; exact hB.1, hB.2.2.weaken (fun k q _ h => hF q.1 h), hS⟩
/-- a world lies in a heap that has grown -/
theorem wo_P {H1 : Heap} (hP : va_P D classes ws H) (h : ∀ q : Nat, q < H.size → H1[q]? = H[q]?) : va_P D classes ws H1 := hP.kept (fun k q hk => h q.1 (hP k q hk).lt)
/-- what is said where a method has thrown -/
abbrev xC {S : Type} (D : va_G) (tc : Nat → ClassId) (A : Nat → Prop) (PX : String → S → Prop) (wd : S → va_W) : String → State → State → Prop := vx_X (fun _ : S => True) (fun E u t => PX E u ∧ qW D tc A (wd u) t) A
/-- 'throw new E("text")' -/
theorem th_S {S : Type} {PX : String → S → Prop} {wd : S → va_W} {Qc : Array Value → State → Outcome → State → Prop} {cls text : String} {ik is ic q9 : Nat} (hl : l.stackTraces = false) (h0 : cX p s m args c own cc nL D tc) (hown : own = "CountRounds") (hX : xS A sa s s.heap) (hw : wH D A s.heap ws H locs)
    (hcls : Bundle.fit cls = true) (hk : Cond.classLink own ik cls ∈ gw) (hini : Cond.initialized cls ∈ gw) (hst : stl[q9]? = some (is, text)) (hat : ∀ w ∈ vx_atS own ic cls ["java/lang/RuntimeException", "java/lang/Exception"], w ∈ gw ∨ w ∈ nw) (hgood : ∀ w ∈ vx_atS own ic cls ["java/lang/RuntimeException", "java/lang/Exception"], vx_ot w = true)
    (hsize : ls.size = nL) (d0 : decode cc pc = .ok (.new ik, 3)) (d3 : decode cc (pc + 3) = .ok (.dup, 1)) (d4 : decode cc (pc + 4) = .ok (.ldc is, 2)) (d6 : decode cc (pc + 6) = .ok (.invokespecial ic, 3)) (d9 : decode cc (pc + 9) = .ok (.athrow, 1))
    (htab : ∀ x ∈ c.exceptionTable.toList, False) (hlocks : meth.locks = false) (hRm : 5 < R.frames ∧ (rest.map fun v => v.category).sum + 82 ≤ R.locals ∧ cells + 1 ≤ R.cells ∧ slots + 6 ≤ R.slots) (u : S) (hp : PX cls u) (hu : wd u = ws) (hc : cells + 1 ≤ mc) (hs : slots + 6 ≤ ms) :
    W p l e R s m args below meth c H locs cells slots (vx_MQ below Qc (xC D tc A PX wd) args s mc ms A) (F0 m pc ls rest) := by
  subst hown
  refine vx_throwS (names := ["java/lang/RuntimeException", "java/lang/Exception"]) h0.1 h0.2.1 hl h0.2.2.2.1 hcls (by decide) (h0.2.2.2.2.1 _ hk) (h0.2.2.2.2.1 _ hini) (hX.2.1 _ (List.mem_of_getElem? hst)) (fun w h => (hat w h).elim (fun h => h0.2.2.2.2.1 w h) (fun h => va_Nw.use (nw_on h) (hX.1 w h))) (fun w h => ?_) hX.2.2.1 hX.2.2.2 hw.2.2 (by rw [h0.2.2.1]; exact hsize) d0 d3 d4 d6 d9 (fun x hx => (htab x hx).elim) hRm.1 (by have := hRm.2.1; simpa using this) hRm.2.2.1 hRm.2.2.2 hlocks (fun t hvm hz hk2 => ?_) hw.2.2.2.2 hc hs
  · rcases List.mem_cons.mp h with rfl | h
    · rfl
    rcases List.mem_cons.mp h with rfl | h
    · rfl
    · exact hgood w h
  · refine ⟨u, trivial, ⟨hp, by rw [hu]; exact wo_P hw.1 hk2, va_K.moved hvm h0.2.2.2.2.2, by rw [hu]; exact hw.2.1⟩, Nat.le_trans hw.2.2.1 hz, fun q h1 h2 => ?_⟩
    rw [hk2 q (Nat.lt_of_lt_of_le h1 hw.2.2.1)]
    exact hw.2.2.2.1 q h1 h2
theorem th_W {S : Type} {PX : String → S → Prop} {wd : S → va_W} {Qc : Array Value → State → Outcome → State → Prop} {cls text : String} {ik is ic q9 : Nat} (hl : l.stackTraces = false) (h0 : cX p s m args c own cc nL D tc) (hown : own = "CountRounds") (hX : xS A sa s s.heap) (hw : wH D A s.heap ws H locs)
    (hcls : Bundle.fit cls = true) (hk : Cond.classLink own ik cls ∈ gw) (hini : Cond.initialized cls ∈ gw) (hst : stl[q9]? = some (is, text)) (hat : ∀ w ∈ vx_atS own ic cls ["java/lang/RuntimeException", "java/lang/Exception"], w ∈ gw ∨ w ∈ nw) (hgood : ∀ w ∈ vx_atS own ic cls ["java/lang/RuntimeException", "java/lang/Exception"], vx_ot w = true)
    (hsize : ls.size = nL) (d0 : decode cc pc = .ok (.new ik, 3)) (d3 : decode cc (pc + 3) = .ok (.dup, 1)) (d4 : decode cc (pc + 4) = .ok (.ldc_w is, 3)) (d7 : decode cc (pc + 7) = .ok (.invokespecial ic, 3)) (d10 : decode cc (pc + 10) = .ok (.athrow, 1))
    (htab : ∀ x ∈ c.exceptionTable.toList, False) (hlocks : meth.locks = false) (hRm : 5 < R.frames ∧ (rest.map fun v => v.category).sum + 82 ≤ R.locals ∧ cells + 1 ≤ R.cells ∧ slots + 6 ≤ R.slots) (u : S) (hp : PX cls u) (hu : wd u = ws) (hc : cells + 1 ≤ mc) (hs : slots + 6 ≤ ms) :
    W p l e R s m args below meth c H locs cells slots (vx_MQ below Qc (xC D tc A PX wd) args s mc ms A) (F0 m pc ls rest) := by
  subst hown
  refine vx_throwSW (names := ["java/lang/RuntimeException", "java/lang/Exception"]) h0.1 h0.2.1 hl h0.2.2.2.1 hcls (by decide) (h0.2.2.2.2.1 _ hk) (h0.2.2.2.2.1 _ hini) (hX.2.1 _ (List.mem_of_getElem? hst)) (fun w h => (hat w h).elim (fun h => h0.2.2.2.2.1 w h) (fun h => va_Nw.use (nw_on h) (hX.1 w h))) (fun w h => ?_) hX.2.2.1 hX.2.2.2 hw.2.2 (by rw [h0.2.2.1]; exact hsize) d0 d3 d4 d7 d10 (fun x hx => (htab x hx).elim) hRm.1 (by have := hRm.2.1; simpa using this) hRm.2.2.1 hRm.2.2.2 hlocks (fun t hvm hz hk2 => ?_) hw.2.2.2.2 hc hs
  · rcases List.mem_cons.mp h with rfl | h
    · rfl
    rcases List.mem_cons.mp h with rfl | h
    · rfl
    · exact hgood w h
  · refine ⟨u, trivial, ⟨hp, by rw [hu]; exact wo_P hw.1 hk2, va_K.moved hvm h0.2.2.2.2.2, by rw [hu]; exact hw.2.1⟩, Nat.le_trans hw.2.2.1 hz, fun q h1 h2 => ?_⟩
    rw [hk2 q (Nat.lt_of_lt_of_le h1 hw.2.2.1)]
    exact hw.2.2.2.1 q h1 h2
/-- an answer that is a cell, the heap as it was -/
theorem rt_r {v : Nat} {r : Value} {ty : FieldType} {mc ms : Nat} (hx : p.tables.exec = Jvm.exec) (hb : c.code = cc) (hr : meth.sig.returnType = some ty) (hlocks : meth.locks = false) (hn : (∃ n, ty = .object n) ∨ ∃ t, ty = .array t) (hv : r = .ref v) (hd : decode cc pc = .ok (.areturn, 1)) (hc : cells ≤ mc) (hs : slots ≤ ms) : W p l e R s m args below meth c s.heap [] cells slots (MQ below (qP r) args s mc ms (fun _ => False)) (F0 m pc ls [.ref v]) := by
  refine W.widen hc hs ?_
  exact W.aret (v := .ref v) hx hb hr hn (Or.inr ⟨v, rfl⟩) (fun t ht _ => ⟨by rw [hv], ht⟩) (fun q hq => nomatch hq) hd
/-- a call that hands back a cell, or throws; the heap as it was but for what is thrown -/
theorem dx_r {P P9 : Prop} {NS : String} {y : MethodName} {bytes : ByteArray} {maxL index n : Nat} {ret : Option FieldType} {rm : Room} {r : Value} {As : List Value} {C : String} {b q0 ci : Nat} {fs : List Value} {T : u_T} {N : Nat} (h0 : cX p s m args c own cc nL D tc) (hX : xS A sa s s.heap) (hw : wH D A s.heap ws H locs) (hA : ∀ q : Nat, s.heap.size ≤ q → A q)
    (hM : vx_Met l y (Cond.code y bytes maxL ret :: gw) rm (va_Pc (.ref b :: As) (pC D tc sa ws H.size)) (fun a st oc t => P ∧ qP r a st oc t) (xC D tc (va_A ws H.size) (fun E (_ : Unit) => P9 ∧ E = NS) (fun _ => ws)) mc ms (va_A ws H.size)) (hG : GoodIn gw (wsV own index C y (Cond.code y bytes maxL ret :: gw)))
    (hd : y.cls = C ∧ y.cls ≠ "java/lang/invoke/MethodHandle" ∧ y.cls ≠ "java/lang/invoke/VarHandle" ∧ (parseMethodDescriptor y.desc).map (fun d => d.parameters.length) = some n) (hR : rm.cells = mc ∧ rm.slots = ms ∧ rm.frames + 1 ≤ R.frames ∧ 8 + (maxL + 11) + rm.locals ≤ R.locals ∧ cells + mc ≤ R.cells ∧ slots + ms ≤ R.slots)
    (he : ws[q0]? = some (b, .inr (ci, fs))) (hc : classes[ci]? = some (C, T, N)) (hn : As.length = n) (hsize : ls.size = nL) (hst : st0 = As.reverse ++ .ref b :: rest) (hW : (rest.map fun v => v.category).sum ≤ 8) (hdg : decode cc pc = .ok (.invokevirtual index, 3))
    (kx : P9 → ∀ (H1 : Heap) (locs1 : List Loc) (q : Addr) (ce : Cell), wH D A s.heap ws H1 locs1 → H1[q]? = some ce → ce.vm = .none → s.vm.findClass NS = some ce.cls → vx_W p l e R s m args below meth c H1 locs1 (cells + mc) (slots + ms) Q (F0 m pc ls rest) q)
    (kk : P → ∀ (locs1 : List Loc), wH D A s.heap ws H locs1 → W p l e R s m args below meth c H locs1 (cells + mc) (slots + ms) Q (F0 m (pc + 3) ls (r :: rest))) : W p l e R s m args below meth c H locs cells slots Q (F0 m pc ls st0) := by
  have hF := fr_A hw hA
  have hr := vx_runV (e := e) (p := p) (below := below) (meth := meth) (locs := locs) (g := F0 m pc ls st0) (As := As) (rest := rest) ⟨h0.1, h0.2.1, h0.2.2.1, h0.2.2.2.1, h0.2.2.2.2.1⟩ hM (cwV n h0.2.2.2.2.1 hG rfl hR.1 hR.2.1 hd ⟨hR.2.2.1, hR.2.2.2.1⟩) (pc_V h0 hX hw hA he hc) rfl hn hsize hst (lv_room hW) hdg ⟨hR.2.2.2.2.1, hR.2.2.2.2.2⟩
  intro T0 hT X
  rcases hr T0 hT X with ⟨v, st₀, t, T', L, h9, X', hL, e1, e2, ⟨hp, hv, ht⟩, st⟩ | ⟨q, st₀, t, T', L, E, ce, h9, X', hL, e1, e2, ⟨u, -, ⟨⟨hp, hE⟩, hB⟩, hFr⟩, hce, hcv, hcl, st⟩
  · cases hv
    have hH : T'.heap = H := by rw [e1, ht, h9]
    have hw1 : wH D A s.heap ws H (locs ++ L) := ⟨hw.1, hw.2.1, hw.2.2.1, hw.2.2.2.1, fun z hz => by
      rcases List.mem_append.mp hz with h | h
      · exact hw.2.2.2.2 z h
      · exact hF _ (hL z h)⟩
    obtain ⟨t2, a1, b1⟩ := kk hp (locs ++ L) hw1 T' hH X'
    exact ⟨t2, st t2 a1, b1⟩
  · subst hE
    obtain ⟨k1, k2, k3⟩ := vx_keep h9 e1 hw.2.2 (fun q _ h => hF q h) hF hL hFr
    have hw1 : wH D A s.heap ws T'.heap (locs ++ L) := ⟨by rw [e1]; exact hB.1, hw.2.1, k3⟩
    obtain ⟨t2, a1, b1⟩ := kx hp T'.heap (locs ++ L) q ce hw1 (by rw [e1]; exact hce) hcv hcl T' rfl X'
    exact ⟨t2, st.trans a1, b1⟩
/-- what is thrown in a call goes on to the caller -/
theorem ox_t {S : Type} {PX : String → S → Prop} {wd : S → va_W} {Qc : Array Value → State → Outcome → State → Prop} {E : String} {ce : Cell} {q : Addr} (h0 : cX p s m args c own cc nL D tc) (hw : wH D A s.heap ws H locs) (htab : ∀ x ∈ c.exceptionTable.toList, False) (hlocks : meth.locks = false) (hcell : H[q]? = some ce) (hv : ce.vm = .none) (hcl : s.vm.findClass E = some ce.cls) (u : S) (hp : PX E u) (hu : wd u = ws) (hc : cells ≤ mc) (hs : slots ≤ ms) :
    vx_W p l e R s m args below meth c H locs cells slots (vx_MQ below Qc (xC D tc A PX wd) args s mc ms A) (F0 m pc ls rest) q :=
  vx_out (fun x hx => (htab x hx).elim) hlocks hcell hv hcl (fun t ht hvm => ⟨u, trivial, ⟨hp, by rw [hu, ht]; exact hw.1, va_K.moved hvm h0.2.2.2.2.2, by rw [hu]; exact hw.2.1⟩, hw.2.2.F ht⟩) hw.2.2.2.2 hc hs
end CC
theorem at_iae : ∀ w ∈ vx_atS "CountRounds" 58 "java/lang/IllegalArgumentException" ["java/lang/RuntimeException", "java/lang/Exception"], w ∈ gw ∨ w ∈ nw := by decide +kernel
theorem ag_iae : ∀ w ∈ vx_atS "CountRounds" 58 "java/lang/IllegalArgumentException" ["java/lang/RuntimeException", "java/lang/Exception"], vx_ot w = true := by decide +kernel
theorem at_uoe : ∀ w ∈ vx_atS "CountRounds" 69 "java/lang/UnsupportedOperationException" ["java/lang/RuntimeException", "java/lang/Exception"], w ∈ gw ∨ w ∈ nw := by decide +kernel
theorem ag_uoe : ∀ w ∈ vx_atS "CountRounds" 69 "java/lang/UnsupportedOperationException" ["java/lang/RuntimeException", "java/lang/Exception"], vx_ot w = true := by decide +kernel
theorem at_ise : ∀ w ∈ vx_atS "CountRounds" 113 "java/lang/IllegalStateException" ["java/lang/RuntimeException", "java/lang/Exception"], w ∈ gw ∨ w ∈ nw := by decide +kernel
theorem ag_ise : ∀ w ∈ vx_atS "CountRounds" 113 "java/lang/IllegalStateException" ["java/lang/RuntimeException", "java/lang/Exception"], vx_ot w = true := by decide +kernel
theorem at_are : ∀ w ∈ vx_atS "CountRounds" 275 "java/lang/ArithmeticException" ["java/lang/RuntimeException", "java/lang/Exception"], w ∈ gw ∨ w ∈ nw := by decide +kernel
theorem ag_are : ∀ w ∈ vx_atS "CountRounds" 275 "java/lang/ArithmeticException" ["java/lang/RuntimeException", "java/lang/Exception"], vx_ot w = true := by decide +kernel
