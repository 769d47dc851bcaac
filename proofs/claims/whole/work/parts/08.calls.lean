/-! CALLS that change the world -/
section WC
variable {p : Program} {l : Launch} {e : Env} {R : Room} {s : State} {m : MethodId} {args : Array Value} {below : List Frame} {meth : Method} {c : Code} {H H0 : Heap} {locs : List Loc} {cells slots : Nat} {Q : State → Prop} {cc : ByteArray} {nL pc : Nat} {ls : Array Slot} {rest st0 : List Value} {D : va_G} {tc : Nat → ClassId} {A : Nat → Prop} {ws : va_W} {own : String} {mc ms : Nat}
theorem fr_A (hw : wH D A H0 ws H locs) (hA : ∀ q : Nat, H0.size ≤ q → A q) : ∀ q, va_A ws H.size q → A q := by
  intro q h
  rcases h with ⟨k, e, h⟩ | h
  · exact hw.2.1.2 k (q, e) h
  · exact hA q (Nat.le_trans hw.2.2.1 h)
theorem cv_v {S : Type} {post : S → Prop} {wd : S → va_W} {y : MethodName} {bytes : ByteArray} {maxL index n : Nat} {ret : Option FieldType} {rm : Room} {As : List Value} {C : String} {b q0 ci : Nat} {fs : List Value} {T : u_T} {N : Nat} (h0 : cX p s m args c own cc nL D tc) (hw : wH D A H0 ws H locs) (hA : ∀ q : Nat, H0.size ≤ q → A q)
    (hM : Met l y (Cond.code y bytes maxL ret :: gw) rm (va_Pc (.ref b :: As) (pW D tc ws H.size)) (va_Qv post (fun u t => qW D tc (va_A ws H.size) (wd u) t) (va_A ws H.size)) mc ms (va_A ws H.size)) (hG : GoodIn gw (wsV own index C y (Cond.code y bytes maxL ret :: gw)))
    (hd : y.cls = C ∧ y.cls ≠ "java/lang/invoke/MethodHandle" ∧ y.cls ≠ "java/lang/invoke/VarHandle" ∧ (parseMethodDescriptor y.desc).map (fun d => d.parameters.length) = some n) (hR : rm.cells = mc ∧ rm.slots = ms ∧ rm.frames + 1 ≤ R.frames ∧ 8 + (maxL + 11) + rm.locals ≤ R.locals ∧ cells + mc ≤ R.cells ∧ slots + ms ≤ R.slots)
    (he : ws[q0]? = some (b, .inr (ci, fs))) (hc : classes[ci]? = some (C, T, N)) (hn : As.length = n) (hsize : ls.size = nL) (hst : st0 = As.reverse ++ .ref b :: rest) (hW : (rest.map fun v => v.category).sum ≤ 8) (hdg : decode cc pc = .ok (.invokevirtual index, 3))
    (kk : ∀ (u : S) (H1 : Heap) (locs1 : List Loc), post u → wH D A H0 (wd u) H1 locs1 → W p l e R s m args below meth c H1 locs1 (cells + mc) (slots + ms) Q (F0 m (pc + 3) ls rest)) : W p l e R s m args below meth c H locs cells slots Q (F0 m pc ls st0) := by
  have hF := fr_A hw hA
  refine va_callv (va_runV (As := As) (rest := rest) ⟨h0.1, h0.2.1, h0.2.2.1, h0.2.2.2.1, h0.2.2.2.2.1⟩ hM (cwV n h0.2.2.2.2.1 hG rfl hR.1 hR.2.1 hd ⟨hR.2.2.1, hR.2.2.2.1⟩) (pr_V h0 hw.1 hw.2.1 he hc) rfl hn hsize hst (lv_room hW) hdg ⟨hR.2.2.2.2.1, hR.2.2.2.2.2⟩) hw.2.2 (fun q _ h => hF q h) hF (fun u t H1 locs ht hvm hp hB hz1 hk1 hS => ?_)
  exact kk u H1 locs hp ⟨by rw [← ht]; exact hB.1, hB.2.2.weaken (fun k q _ h => hF q.1 h), hS⟩
theorem cv_i {S : Type} {post : Int32 → S → Prop} {wd : S → va_W} {y : MethodName} {bytes : ByteArray} {maxL index n : Nat} {ret : Option FieldType} {rm : Room} {As : List Value} {C : String} {b q0 ci : Nat} {fs : List Value} {T : u_T} {N : Nat} (h0 : cX p s m args c own cc nL D tc) (hw : wH D A H0 ws H locs) (hA : ∀ q : Nat, H0.size ≤ q → A q)
    (hM : Met l y (Cond.code y bytes maxL ret :: gw) rm (va_Pc (.ref b :: As) (pW D tc ws H.size)) (va_Qi post (fun u t => qW D tc (va_A ws H.size) (wd u) t) (va_A ws H.size)) mc ms (va_A ws H.size)) (hG : GoodIn gw (wsV own index C y (Cond.code y bytes maxL ret :: gw)))
    (hd : y.cls = C ∧ y.cls ≠ "java/lang/invoke/MethodHandle" ∧ y.cls ≠ "java/lang/invoke/VarHandle" ∧ (parseMethodDescriptor y.desc).map (fun d => d.parameters.length) = some n) (hR : rm.cells = mc ∧ rm.slots = ms ∧ rm.frames + 1 ≤ R.frames ∧ 8 + (maxL + 11) + rm.locals ≤ R.locals ∧ cells + mc ≤ R.cells ∧ slots + ms ≤ R.slots)
    (he : ws[q0]? = some (b, .inr (ci, fs))) (hc : classes[ci]? = some (C, T, N)) (hn : As.length = n) (hsize : ls.size = nL) (hst : st0 = As.reverse ++ .ref b :: rest) (hW : (rest.map fun v => v.category).sum ≤ 8) (hdg : decode cc pc = .ok (.invokevirtual index, 3))
    (kk : ∀ (r : Int32) (u : S) (H1 : Heap) (locs1 : List Loc), post r u → wH D A H0 (wd u) H1 locs1 → W p l e R s m args below meth c H1 locs1 (cells + mc) (slots + ms) Q (F0 m (pc + 3) ls (.int r :: rest))) : W p l e R s m args below meth c H locs cells slots Q (F0 m pc ls st0) := by
  have hF := fr_A hw hA
  refine va_calli (va_runV (As := As) (rest := rest) ⟨h0.1, h0.2.1, h0.2.2.1, h0.2.2.2.1, h0.2.2.2.2.1⟩ hM (cwV n h0.2.2.2.2.1 hG rfl hR.1 hR.2.1 hd ⟨hR.2.2.1, hR.2.2.2.1⟩) (pr_V h0 hw.1 hw.2.1 he hc) rfl hn hsize hst (lv_room hW) hdg ⟨hR.2.2.2.2.1, hR.2.2.2.2.2⟩) hw.2.2 (fun q _ h => hF q h) hF (fun r u t H1 locs ht hvm hp hB hz1 hk1 hS => ?_)
  exact kk r u H1 locs hp ⟨by rw [← ht]; exact hB.1, hB.2.2.weaken (fun k q _ h => hF q.1 h), hS⟩
end WC
