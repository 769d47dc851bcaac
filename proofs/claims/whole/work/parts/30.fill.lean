/-! Arrays.fill of ints -/
abbrev b_fill : ByteArray := prog_17_method_103_code
def y_fill : MethodName := ⟨"java/util/Arrays", "fill", "([II)V"⟩
theorem d_fill_0 : decode b_fill 0 = .ok (.iconst 0, 1) := by decide +kernel
theorem d_fill_1 : decode b_fill 1 = .ok (.istore_n 2, 1) := by decide +kernel
theorem d_fill_2 : decode b_fill 2 = .ok (.aload_n 0, 1) := by decide +kernel
theorem d_fill_3 : decode b_fill 3 = .ok (.arraylength, 1) := by decide +kernel
theorem d_fill_4 : decode b_fill 4 = .ok (.istore_n 3, 1) := by decide +kernel
theorem d_fill_5 : decode b_fill 5 = .ok (.iload_n 2, 1) := by decide +kernel
theorem d_fill_6 : decode b_fill 6 = .ok (.iload_n 3, 1) := by decide +kernel
theorem d_fill_7 : decode b_fill 7 = .ok (.if_icmp .ge 13, 3) := by decide +kernel
theorem d_fill_10 : decode b_fill 10 = .ok (.aload_n 0, 1) := by decide +kernel
theorem d_fill_11 : decode b_fill 11 = .ok (.iload_n 2, 1) := by decide +kernel
theorem d_fill_12 : decode b_fill 12 = .ok (.iload_n 1, 1) := by decide +kernel
theorem d_fill_13 : decode b_fill 13 = .ok (.iastore, 1) := by decide +kernel
theorem d_fill_14 : decode b_fill 14 = .ok (.iinc 2 1, 3) := by decide +kernel
theorem d_fill_17 : decode b_fill 17 = .ok (.goto (-12), 3) := by decide +kernel
theorem d_fill_20 : decode b_fill 20 = .ok (.return_, 1) := by decide +kernel
theorem ar_eq {c : ClassId} {n : Nat} {f h : Nat → Int32} (e : ∀ j, j < n → f j = h j) : vp_cell c (n, .inl f) = vp_cell c (n, .inl h) := by
  rw [vp_cell_i, vp_cell_i]
  unfold arrV
  congr 1
  congr 1
  funext j
  show Value.int (f j.val) = Value.int (h j.val)
  rw [e j.val j.isLt]
theorem ar_P {D : va_G} {ws : va_W} {H : Heap} {pos a n : Nat} {c : ClassId} {f h : Nat → Int32} (e : ∀ j, j < n → f j = h j) (hP : va_P D classes (ws.set pos (a, .inl (c, n, .inl f))) H) : va_P D classes (ws.set pos (a, .inl (c, n, .inl h))) H := by
  intro k q hk
  by_cases hkp : pos = k
  · subst hkp
    by_cases hl : pos < ws.length
    · rw [List.getElem?_set_self hl] at hk
      cases hk
      have := hP pos (a, .inl (c, n, .inl f)) (List.getElem?_set_self hl)
      show H[a]? = some (vp_cell c (n, .inl h))
      rw [← ar_eq e]
      exact this
    · rw [List.getElem?_eq_none (by rw [List.length_set]; omega)] at hk
      cases hk
  · rw [List.getElem?_set_ne hkp] at hk
    exact hP k q (by rw [List.getElem?_set_ne hkp]; exact hk)
theorem ar_D {A : Nat → Prop} {ws : va_W} {pos a : Nat} {e e1 : va_E} (hD : va_D A (ws.set pos (a, e))) : va_D A (ws.set pos (a, e1)) := by
  by_cases hl : pos < ws.length
  · have := hD.set (p := pos) (a := a) (e0 := e) (e := e1) (List.getElem?_set_self hl)
    rw [List.set_set] at this
    exact this
  · rw [List.set_eq_of_length_le (by omega)] at hD ⊢
    exact hD
def fi_f (v : Int32) (f : Nat → Int32) (i : Nat) : Nat → Int32 := fun j => if j < i then v else f j
theorem fi_s (v : Int32) (f : Nat → Int32) (i : Nat) : upd (fi_f v f i) i v = fi_f v f (i + 1) := by
  funext j
  simp only [upd, fi_f]
  by_cases h : j = i
  · subst h; simp
  · by_cases h2 : j < i
    · simp [h, h2, show j < i + 1 by omega]
    · simp [h, h2, show ¬ j < i + 1 by omega]
set_option maxHeartbeats 4000000 in
theorem c_fill (l : Launch) (D : va_G) (tc : Nat → ClassId) (ws : va_W) (sz pos a n : Nat) (f : Nat → Int32) (v : Int32) (he : ws[pos]? = some (a, .inl (tc 0, n, .inl f))) (hn : n < 2 ^ 31) : Met l y_fill (Cond.code y_fill b_fill 4 none :: gw) ({ frames := 0, cells := 0, slots := 0, locals := 0 } : Room) (va_Pc [.ref a, .int v] (pW D tc ws sz)) (va_Qv (fun _ : Unit => True) (fun _ t => qW D tc (va_A ws sz) (ws.set pos (a, .inl (tc 0, n, .inl (fun _ => v)))) t) (va_A ws sz)) 0 0 (va_A ws sz) := by
  refine en_W (by decide) (Nat.le_of_ble_eq_true rfl) ?_
  intro p e s m args below meth c ls h0 hr hlocks hin hsz hw hl
  obtain ⟨hx, hb, hml, hown, hts, hK⟩ := id h0
  generalize va_A ws sz = A at hw ⊢
  have hl : lv_has ls 4 [(0, .ref a), (1, .int v)] := hl
  have hpl : pos < ws.length := (List.getElem?_eq_some_iff.mp he).1
  have e0 : ws.set pos (a, .inl (tc 0, n, .inl (fi_f v f 0))) = ws := by
    apply List.ext_getElem?
    intro k
    by_cases hk : pos = k
    · subst hk
      rw [List.getElem?_set_self hpl, he]
      have : fi_f v f 0 = f := by funext j; simp [fi_f]
      rw [this]
    · rw [List.getElem?_set_ne hk]
  have lp : ∀ (k i : Nat) (H : Heap) (locs : List Loc) (ls : Array Slot), i + k = n → wH D A s.heap (ws.set pos (a, .inl (tc 0, n, .inl (fi_f v f i)))) H locs → lv_has ls 4 [(0, .ref a), (1, .int v), (2, .int (nI i)), (3, .int (nI n))] → W p l e ({ frames := 0, cells := 0, slots := 0, locals := 0 } : Room) s m args below meth c H locs 0 0 (MQ below (va_Qv (fun _ : Unit => True) (fun _ t => qW D tc A (ws.set pos (a, .inl (tc 0, n, .inl (fun _ => v)))) t) A) args s 0 0 A) (F0 m 5 ls []) := by
    intro k
    induction k with
    | zero =>
      intro i H locs ls hi hw hl
      have hin : i = n := by omega
      subst hin
      refine lv_iload_n hx hb d_fill_5 rfl (lv_at hl 2 rfl) ?_
      refine lv_iload_n hx hb d_fill_6 rfl (lv_at hl 3 rfl) ?_
      refine lv_icmp_ge (tgt := 20) hx hb d_fill_7 (by decide) (fun _ => ?_) (fun c1 => absurd (nI_le (Nat.le_refl _) hn) c1)
      exact rt_v (wd := fun _ : Unit => ws.set pos (a, .inl (tc 0, i, .inl (fun _ => v)))) (ws := ws.set pos (a, .inl (tc 0, i, .inl (fun _ => v)))) h0 ⟨ar_P (fun j hj => by simp [fi_f, hj]) hw.1, ar_D hw.2.1, hw.2.2⟩ hr hlocks () trivial rfl d_fill_20 (Nat.le_refl 0) (Nat.le_refl 0)
    | succ k ih =>
      intro i H locs ls hi hw hl
      have hlt : i < n := by omega
      refine lv_iload_n hx hb d_fill_5 rfl (lv_at hl 2 rfl) ?_
      refine lv_iload_n hx hb d_fill_6 rfl (lv_at hl 3 rfl) ?_
      refine lv_icmp_ge (tgt := 20) hx hb d_fill_7 (by decide) (fun c1 => absurd c1 (nI_ge hlt hn)) (fun _ => ?_)
      refine lv_aload_n hx hb d_fill_10 rfl (lv_at hl 0 rfl) ?_
      refine lv_iload_n hx hb d_fill_11 rfl (lv_at hl 2 rfl) ?_
      refine lv_iload_n hx hb d_fill_12 rfl (lv_at hl 1 rfl) ?_
      refine va_iast hx hb hK hw.1 hw.2.1 hw.2.2 pos 0 (n := n) (f := fi_f v f i) (cA := tc 0) (List.getElem?_set_self hpl) rfl (vp_in_nI hlt hn) d_fill_13 (fun H locs hP hD hS => ?_)
      rw [List.set_set, nI_clamp (by omega), fi_s] at hP hD
      refine lv_iinc (v := nI (i + 1)) (lv' := [(2, .int (nI (i + 1))), (0, .ref a), (1, .int v), (3, .int (nI n))]) hx hb d_fill_14 hl (k := 2) rfl (nI_1 i) (by decide) rfl (fun ls hl => ?_)
      refine lv_goto (tgt := 5) hx hb d_fill_17 (by decide) ?_
      exact ih (i + 1) H locs ls (by omega) ⟨hP, hD, hS⟩ (lv_sub hl [1, 2, 0, 3] rfl)
  refine lv_iconst (v := 0) hx hb d_fill_0 (by decide) ?_
  refine lv_istore_n (lv' := [(2, .int 0), (0, .ref a), (1, .int v)]) hx hb d_fill_1 rfl hl (by decide) rfl (fun ls hl => ?_)
  refine lv_aload_n hx hb d_fill_2 rfl (lv_at hl 1 rfl) ?_
  refine va_alen hx hb hK hw.1 pos 0 (cA := tc 0) he rfl (v := nI n) rfl d_fill_3 ?_
  refine lv_istore_n (lv' := [(3, .int (nI n)), (2, .int 0), (0, .ref a), (1, .int v)]) hx hb d_fill_4 rfl hl (by decide) rfl (fun ls hl => ?_)
  exact lp n 0 s.heap [] ls (by omega) (by rw [e0]; exact hw) (lv_sub hl [2, 3, 1, 0] rfl)
section CF
variable {p : Program} {l : Launch} {e : Env} {R : Room} {s : State} {m : MethodId} {args : Array Value} {below : List Frame} {meth : Method} {c : Code} {H H0 : Heap} {locs : List Loc} {cells slots : Nat} {Q : State → Prop} {cc : ByteArray} {nL pc : Nat} {ls : Array Slot} {rest : List Value} {D : va_G} {tc : Nat → ClassId} {A : Nat → Prop} {ws : va_W} {own : String}
theorem ca_fill {pos n a index : Nat} {f : Nat → Int32} {v : Int32} (h0 : cX p s m args c own cc nL D tc) (hw : wH D A H0 ws H locs) (hA : ∀ q : Nat, H0.size ≤ q → A q) (he : ws[pos]? = some (a, .inl (tc 0, n, .inl f))) (w1 : Cond.methodLink own index y_fill ∈ gw) (w2 : Cond.static y_fill ∈ gw) (w3 : Cond.initialized "java/util/Arrays" ∈ gw) (w4 : Cond.code y_fill b_fill 4 none ∈ gw) (hsize : ls.size = nL)
    (hR : 1 ≤ R.frames ∧ 23 ≤ R.locals ∧ cells ≤ R.cells ∧ slots ≤ R.slots) (hn : n < 2 ^ 31) (hW : (rest.map fun v => v.category).sum ≤ 8) (hdg : decode cc pc = .ok (.invokestatic index, 3))
    (kk : ∀ (H1 : Heap) (locs1 : List Loc), wH D A H0 (ws.set pos (a, .inl (tc 0, n, .inl (fun _ => v)))) H1 locs1 → W p l e R s m args below meth c H1 locs1 cells slots Q (F0 m (pc + 3) ls rest)) : W p l e R s m args below meth c H locs cells slots Q (F0 m pc ls (.int v :: .ref a :: rest)) := by
  have hF := fr_A hw hA
  have hG : GoodIn gw (va_wsS own index y_fill (Cond.code y_fill b_fill 4 none :: gw)) := by
    intro w h
    rcases List.mem_append.mp h with h | h
    · rcases List.mem_cons.mp h with rfl | h
      · exact gd_gw _ w1
      rcases List.mem_cons.mp h with rfl | h
      · exact gd_gw _ w2
      rcases List.mem_cons.mp h with rfl | h
      · exact gd_gw _ w3
      · cases h
    · exact gd_c w4 w h
  refine va_callv (va_runS (As := [.ref a, .int v]) (rest := rest) ⟨h0.1, h0.2.1, h0.2.2.1, h0.2.2.2.1, h0.2.2.2.2.1⟩ (c_fill l D tc ws H.size pos a n f v he hn) (va_cwS 2 h0.2.2.2.2.1 hG rfl rfl rfl (by decide +kernel) ⟨hR.1, hR.2.1⟩) (pr_S h0 hw.1 hw.2.1) rfl rfl hsize rfl (lv_room hW) hdg ⟨hR.2.2.1, hR.2.2.2⟩) hw.2.2 (fun q _ h => hF q h) hF (fun u t H1 locs ht hvm hp hB hz1 hk1 hS => ?_)
  exact kk H1 locs ⟨by rw [← ht]; exact hB.1, hB.2.2.weaken (fun k q _ h => hF q.1 h), hS⟩
end CF
/-- a body from its entry, where arrays of objects are made -/
theorem en_O {l : Launch} {y : MethodName} {cc : ByteArray} {nL : Nat} {ret : Option FieldType} {rm : Room} {Qc : Array Value → State → Outcome → State → Prop} {mc ms : Nat} {free : Addr → Prop} {av : List Value} {D : va_G} {tc : Nat → ClassId} {w0 : va_W} {sz : Nat} {C1 C2 C3 : String}
    (hy : plainName y.cls = true) (hlen : (lg_sl av).length ≤ nL)
    (body : ∀ (p : Program) (e : Env) (s : State) (m : MethodId) (args : Array Value) (below : List Frame) (meth : Method) (c : Code) (ls : Array Slot), cX p s m args c y.cls cc nL D tc → meth.sig.returnType = ret → meth.locks = false → meth.name = y.name → s.heap.size = sz → wH D (va_A w0 sz) s.heap w0 s.heap [] → va_AO C1 s → va_AO C2 s → va_AO C3 s → lv_has ls nL (lv_args 0 av) →
      W p l e rm s m args below meth c s.heap [] 0 0 (MQ below Qc args s mc ms free) (F0 m 0 ls [])) : Met l y (Cond.code y cc nL ret :: gw) rm (va_Pc av (fun U => pW D tc w0 sz U ∧ va_AO C1 U ∧ va_AO C2 U ∧ va_AO C3 U)) Qc mc ms free := by
  refine Met.ofW (cc := cc) (maxL := nL) (ret := ret) hy rfl ?_
  intro p e s m args below meth c s₁ B hml hv
  obtain ⟨rfl, ⟨hsz, hP, hK, hD0⟩, o1, o2, o3⟩ := hv
  have hts := atoms_spec (ws := Cond.code y cc nL ret :: gw) B.pre
  have hin : meth.name = y.name := (name_of_methodNamed B.named B.method).1
  have hD := hD0.self (sz := sz)
  have hl := lv_entry av (n := nL) hlen
  rw [lg_entry_eq]
  exact body p e s m _ below meth c _ ⟨B.exec, B.bytes, hml, findClass_of_methodNamed B.named, fun w h => hts w (List.mem_cons_of_mem _ h), hK⟩ B.returns B.notSynchronized hin hsz ⟨hP, hD, va_S.rf⟩ o1 o2 o3 hl
