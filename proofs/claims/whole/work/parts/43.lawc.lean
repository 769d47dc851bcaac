/-! THE LAW: its own calls -/
theorem xNc.moved {u U : State} (hvm : u.vm.Alike U.vm) (h : xNc u) : xNc U := fun a ha b hb hab => (h a ha b hb hab).moved hvm
theorem bl_pL {D : va_G} {tc : Nat → ClassId} {sa : Nat → Nat} {ws : va_W} {sz : Nat} {av : List Value} : FrameBlind (va_Pc av (pL D tc sa ws sz)) := fun a U g mk q => ⟨q.1, (bl_pC a U g mk ⟨q.1, q.2.1⟩).2, xNc.moved (u := U) (U := U.calling g mk a) (Vm.Alike.refl U.vm) q.2.2⟩
theorem gd_W {own : String} {idx : Nat} {y : MethodName} {w : Cond} (h1 : Cond.methodLink own idx y ∈ gw) (h2 : Cond.static y ∈ gw) (h4 : Cond.initialized y.cls ∈ gw) (h5 : w ∈ gw) : GoodIn gw (va_wsS own idx y (w :: gw)) := by
  intro v hv
  rcases List.mem_append.mp hv with hv | hv
  · rcases List.mem_cons.mp hv with rfl | hv
    · exact gd_gw _ h1
    rcases List.mem_cons.mp hv with rfl | hv
    · exact gd_gw _ h2
    rcases List.mem_cons.mp hv with rfl | hv
    · exact gd_gw _ h4
    · cases hv
  · exact gd_c h5 v hv
section LS
variable {p : Program} {l : Launch} {e : Env} {R : Room} {s : State} {m : MethodId} {args : Array Value} {below : List Frame} {meth : Method} {c : Code} {H : Heap} {locs : List Loc} {cells slots : Nat} {Q : State → Prop} {cc : ByteArray} {nL pc : Nat} {ls : Array Slot} {rest st0 : List Value} {D : va_G} {tc : Nat → ClassId} {A : Nat → Prop} {ws : va_W} {own : String} {mc ms : Nat} {sa : Nat → Nat}
theorem ls_i {S : Type} {post : Int32 → S → Prop} {wd : S → va_W} {y : MethodName} {bytes : ByteArray} {maxL index n : Nat} {ret : Option FieldType} {hh : List (Nat × Nat × Nat × Nat)} {rm : Room} {As : List Value} (h0 : cX p s m args c own cc nL D tc) (hX : xS A sa s s.heap) (hNc : xNc s) (hw : wH D A s.heap ws H locs) (hA : ∀ q : Nat, s.heap.size ≤ q → A q)
    (hM : Met l y (Cond.codeWith y bytes maxL ret hh :: gw) rm (va_Pc As (pL D tc sa ws H.size)) (va_Qi post (fun u t => qW D tc (va_A ws H.size) (wd u) t) (va_A ws H.size)) mc ms (va_A ws H.size)) (hG : GoodIn gw (va_wsS own index y (Cond.codeWith y bytes maxL ret hh :: gw)))
    (hd : y.cls ≠ "java/lang/invoke/MethodHandle" ∧ y.cls ≠ "java/lang/invoke/VarHandle" ∧ (parseMethodDescriptor y.desc).map (fun d => d.parameters.length) = some n) (hR : rm.cells = mc ∧ rm.slots = ms ∧ rm.frames + 1 ≤ R.frames ∧ 8 + (maxL + 11) + rm.locals ≤ R.locals ∧ cells + mc ≤ R.cells ∧ slots + ms ≤ R.slots)
    (hn : As.length = n) (hsize : ls.size = nL) (hst : st0 = As.reverse ++ rest) (hW : (rest.map fun v => v.category).sum ≤ 8) (hdg : decode cc pc = .ok (.invokestatic index, 3))
    (kk : ∀ (r : Int32) (u : S) (H1 : Heap) (locs1 : List Loc), post r u → wH D A s.heap (wd u) H1 locs1 → W p l e R s m args below meth c H1 locs1 (cells + mc) (slots + ms) Q (F0 m (pc + 3) ls (.int r :: rest))) : W p l e R s m args below meth c H locs cells slots Q (F0 m pc ls st0) := by
  have hF := fr_A hw hA
  refine va_calli (vx_runSW (As := As) (rest := rest) ⟨h0.1, h0.2.1, h0.2.2.1, h0.2.2.2.1, h0.2.2.2.2.1⟩ hM (vx_cwSW n h0.2.2.2.2.1 hG rfl hR.1 hR.2.1 hd ⟨hR.2.2.1, hR.2.2.2.1⟩) ⟨bl_pL, fun U hU hW => ⟨rfl, (pc_S (As := As) h0 hX hw hA U hU hW).2, hNc.moved hW.alike⟩⟩ rfl hn hsize hst (lv_room hW) hdg ⟨hR.2.2.2.2.1, hR.2.2.2.2.2⟩) hw.2.2 (fun q _ h => hF q h) hF (fun r u t H1 locs ht hvm hp hB hz1 hk1 hS => ?_)
  exact kk r u H1 locs hp ⟨by rw [← ht]; exact hB.1, hB.2.2.weaken (fun k q _ h => hF q.1 h), hS⟩
end LS
