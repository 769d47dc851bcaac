/-! THE LAW'S BODY: what is known in it, its script, the reference's calls -/
def An (s : State) : Nat → Prop := fun q => s.heap.size ≤ q
def lC (p : Program) (l : Launch) (s : State) (m : MethodId) (args : Array Value) (c : Code) (D : va_G) (tc : Nat → ClassId) (sa : Nat → Nat) (b L : Nat) (xs : Nat → Int32) : Prop := cX p s m args c "CountRoundsLaw" code 7 D tc ∧ xS (An s) sa s s.heap ∧ xNc s ∧ va_X b L xs s s.heap ∧ b < s.heap.size ∧ L ≤ 3072 ∧ l.stackTraces = false
def lo7 (b x y o k : Nat) : List (Nat × Value) := [(4, .int (nI (6 * k))), (0, .ref b), (1, .ref x), (2, .ref y), (3, .ref o)]
def sd (x y : Int32) : Int64 := (x.toInt64 <<< ((32 : Int32).toInt64 &&& 63)) ||| (y.toInt64 &&& 4294967295)
theorem wl_pm (X Z : va_W) (y : Nat × va_E) : (X ++ (y :: Z)).Perm (Z ++ (X ++ [y])) := by
  have h : X ++ (y :: Z) = (X ++ [y]) ++ Z := by simp
  rw [h]
  exact List.perm_append_comm
theorem wH_pm {D : va_G} {A : Nat → Prop} {H0 H : Heap} {ws ws' : va_W} {locs : List Loc} (hp : ws.Perm ws') (h : wH D A H0 ws H locs) : wH D A H0 ws' H locs := ⟨bw_P hp h.1, bw_D hp h.2.1, h.2.2⟩
theorem cd_0 {hs : List String} {e : Option String} (hl : hs.length < 1000) (h : cd hs e = 0) : e = none := by
  cases e with
  | none => rfl
  | some E =>
    have h1 : hs.idxOf E ≤ hs.length := List.idxOf_le_length
    exact absurd h (nI_ne0 (by omega) (by omega))
section LW
variable {p : Program} {l : Launch} {e : Env} {R : Room} {s : State} {m : MethodId} {args : Array Value} {below : List Frame} {meth : Method} {c : Code} {H H0 : Heap} {locs : List Loc} {cells slots : Nat} {Q : State → Prop} {cc : ByteArray} {nL pc : Nat} {ls : Array Slot} {rest st0 : List Value} {D : va_G} {tc : Nat → ClassId} {A : Nat → Prop} {ws : va_W} {own : String} {sa : Nat → Nat} {b L : Nat} {xs : Nat → Int32}
theorem lr_x {k : Nat} (j : Nat) {n : Int} (hC : lC p l s m args c D tc sa b L xs) (hw : wH D (An s) s.heap ws H locs) (hk : 6 * k + 6 ≤ L) (hj : j < 6) (hl0 : ls[0]? = some (.val (.ref b))) (hl4 : ls[4]? = some (.val (.int (nI (6 * k))))) (hn : Int32.ofInt n = nI j) (d0 : decode code pc = .ok (.aload_n 0, 1)) (d1 : decode code (pc + 1) = .ok (.iload 4, 2)) (d3 : decode code (pc + 3) = .ok (.iconst n, 1)) (d4 : decode code (pc + 4) = .ok (.iadd, 1)) (d5 : decode code (pc + 5) = .ok (.iaload, 1))
    (kk : W p l e R s m args below meth c H locs cells slots Q (F0 m (pc + 6) ls (.int (xs (6 * k + j)) :: rest))) : W p l e R s m args below meth c H locs cells slots Q (F0 m pc ls rest) := by
  obtain ⟨h0, hX, hNc, hXs, hbl, hL, hlt⟩ := hC
  obtain ⟨hx, hb, hml, hown, hts, hK⟩ := id h0
  refine lv_aload_n hx hb d0 rfl hl0 ?_
  refine lv_iload hx hb d1 hl4 ?_
  refine lv_iconst (v := nI j) hx hb d3 hn ?_
  refine lv_iadd hx hb d4 ?_
  have e1 : nI (6 * k) + nI j = nI (6 * k + j) := nI_add _ _
  have e2 : (nI (6 * k) + nI j).toNatClampNeg = 6 * k + j := by rw [e1]; exact nI_clamp (by omega)
  refine va_sld hx hb hXs hbl (fun h => Nat.lt_irrefl _ (Nat.lt_of_lt_of_le hbl h)) hw.2.2 (i := nI (6 * k) + nI j) (by rw [e1]; exact nI_in (by omega) (by omega)) d5 ?_
  rw [e2]
  exact kk
theorem lm_i {y : MethodName} {bytes : ByteArray} {maxL index n : Nat} {ret : Option FieldType} {rm : Room} {As : List Value} {F : Int32 × (Nat → Nat → Int32)} {X : va_W} {x0 : Nat × va_E} {a : Nat → Nat} {μ : Nat → Nat → Int32} (h0 : cX p s m args c own cc nL D tc) (hw : wH D A H0 (X ++ (x0 :: mo tc a μ)) H locs) (hA : ∀ q : Nat, H0.size ≤ q → A q)
    (hM : ∀ (Y : va_W) (sz : Nat), Met l y (Cond.code y bytes maxL ret :: gw) rm (va_Pc (.ref (a 0) :: As) (pW D tc (mo tc a μ ++ Y) sz)) (va_Qi (fun r u => (r, u) = F) (fun u t => qW D tc (va_A (mo tc a μ ++ Y) sz) (mo tc a u ++ Y) t) (va_A (mo tc a μ ++ Y) sz)) 0 0 (va_A (mo tc a μ ++ Y) sz)) (hG : GoodIn gw (wsV own index "CountRoundsModel" y (Cond.code y bytes maxL ret :: gw)))
    (hd : y.cls = "CountRoundsModel" ∧ y.cls ≠ "java/lang/invoke/MethodHandle" ∧ y.cls ≠ "java/lang/invoke/VarHandle" ∧ (parseMethodDescriptor y.desc).map (fun d => d.parameters.length) = some n) (hR : rm.cells = 0 ∧ rm.slots = 0 ∧ rm.frames + 1 ≤ R.frames ∧ 8 + (maxL + 11) + rm.locals ≤ R.locals ∧ cells ≤ R.cells ∧ slots ≤ R.slots)
    (hn : As.length = n) (hsize : ls.size = nL) (hst : st0 = As.reverse ++ .ref (a 0) :: rest) (hW : (rest.map fun v => v.category).sum ≤ 8) (hdg : decode cc pc = .ok (.invokevirtual index, 3))
    (kk : ∀ (H1 : Heap) (locs1 : List Loc), wH D A H0 (X ++ (x0 :: mo tc a F.2)) H1 locs1 → W p l e R s m args below meth c H1 locs1 cells slots Q (F0 m (pc + 3) ls (.int F.1 :: rest))) : W p l e R s m args below meth c H locs cells slots Q (F0 m pc ls st0) := by
  have hw' := wH_pm (wl_pm X (mo tc a μ) x0) hw
  refine cv_i (wd := fun u => mo tc a u ++ (X ++ [x0])) (C := "CountRoundsModel") (b := a 0) (q0 := 0) (ci := 4) h0 hw' hA (hM _ _) hG hd hR rfl rfl hn hsize hst hW hdg (fun r u H1 locs1 hp hw => ?_)
  have e1 : r = F.1 := by rw [← hp]
  have e2 : u = F.2 := by rw [← hp]
  subst e1
  subst e2
  exact kk H1 locs1 (wH_pm (wl_pm X (mo tc a _) x0).symm hw)
theorem lm_v {y : MethodName} {bytes : ByteArray} {maxL index n : Nat} {ret : Option FieldType} {rm : Room} {As : List Value} {F : Nat → Nat → Int32} {X : va_W} {x0 : Nat × va_E} {a : Nat → Nat} {μ : Nat → Nat → Int32} (h0 : cX p s m args c own cc nL D tc) (hw : wH D A H0 (X ++ (x0 :: mo tc a μ)) H locs) (hA : ∀ q : Nat, H0.size ≤ q → A q)
    (hM : ∀ (Y : va_W) (sz : Nat), Met l y (Cond.code y bytes maxL ret :: gw) rm (va_Pc (.ref (a 0) :: As) (pW D tc (mo tc a μ ++ Y) sz)) (va_Qv (fun u => u = F) (fun u t => qW D tc (va_A (mo tc a μ ++ Y) sz) (mo tc a u ++ Y) t) (va_A (mo tc a μ ++ Y) sz)) 0 0 (va_A (mo tc a μ ++ Y) sz)) (hG : GoodIn gw (wsV own index "CountRoundsModel" y (Cond.code y bytes maxL ret :: gw)))
    (hd : y.cls = "CountRoundsModel" ∧ y.cls ≠ "java/lang/invoke/MethodHandle" ∧ y.cls ≠ "java/lang/invoke/VarHandle" ∧ (parseMethodDescriptor y.desc).map (fun d => d.parameters.length) = some n) (hR : rm.cells = 0 ∧ rm.slots = 0 ∧ rm.frames + 1 ≤ R.frames ∧ 8 + (maxL + 11) + rm.locals ≤ R.locals ∧ cells ≤ R.cells ∧ slots ≤ R.slots)
    (hn : As.length = n) (hsize : ls.size = nL) (hst : st0 = As.reverse ++ .ref (a 0) :: rest) (hW : (rest.map fun v => v.category).sum ≤ 8) (hdg : decode cc pc = .ok (.invokevirtual index, 3))
    (kk : ∀ (H1 : Heap) (locs1 : List Loc), wH D A H0 (X ++ (x0 :: mo tc a F)) H1 locs1 → W p l e R s m args below meth c H1 locs1 cells slots Q (F0 m (pc + 3) ls rest)) : W p l e R s m args below meth c H locs cells slots Q (F0 m pc ls st0) := by
  have hw' := wH_pm (wl_pm X (mo tc a μ) x0) hw
  refine cv_v (wd := fun u => mo tc a u ++ (X ++ [x0])) (C := "CountRoundsModel") (b := a 0) (q0 := 0) (ci := 4) h0 hw' hA (hM _ _) hG hd hR rfl rfl hn hsize hst hW hdg (fun u H1 locs1 hp hw => ?_)
  subst hp
  exact kk H1 locs1 (wH_pm (wl_pm X (mo tc a _) x0).symm hw)
theorem lm_t {index : Nat} {X : va_W} {x0 : Nat × va_E} {a : Nat → Nat} {μ : Nat → Nat → Int32} (h0 : cX p s m args c own cc nL D tc) (hw : wH D A H0 (X ++ (x0 :: mo tc a μ)) H locs) (hG : GoodIn gw (wsV own index "CountRoundsModel" y_M_thrown (Cond.code y_M_thrown b_M_thrown 1 (some .int) :: gw)))
    (hR : 1 ≤ R.frames ∧ 20 ≤ R.locals ∧ cells ≤ R.cells ∧ slots ≤ R.slots) (hsize : ls.size = nL) (hW : (rest.map fun v => v.category).sum ≤ 8) (hdg : decode cc pc = .ok (.invokevirtual index, 3))
    (kk : W p l e R s m args below meth c H locs cells slots Q (F0 m (pc + 3) ls (.int (μ 0 0) :: rest))) : W p l e R s m args below meth c H locs cells slots Q (F0 m pc ls (.ref (a 0) :: rest)) := by
  have hw' := wH_pm (wl_pm X (mo tc a μ) x0) hw
  exact cv_p (n := 0) (As := []) (C := "CountRoundsModel") (b := a 0) (q0 := 0) (ci := 4) h0 hw' (cM_thrown l D tc a (X ++ [x0]) H.size μ trivial rfl) hG (by decide +kernel) ⟨rfl, rfl, hR.1, hR.2.1, hR.2.2⟩ rfl rfl rfl hsize rfl hW hdg kk
/-- what is wanted behind a call of the script -/
def kL (p : Program) (l : Launch) (e : Env) (s : State) (m : MethodId) (args : Array Value) (below : List Frame) (meth : Method) (c : Code) (Q : State → Prop) (D : va_G) (tc : Nat → ClassId) (b o k cells slots : Nat) (a : Nat → Nat) (a0 : Nat → Nat) (J : (Nat → Nat → Nat → Int32) → (Nat → Nat) → (Nat → Nat → Int32) → Prop) : Prop := ∀ (g : Nat → Nat → Nat → Int32) (N : Nat → Nat) (ad : Nat → Nat → Nat) (μ : Nat → Nat → Int32) (fo : Nat → Int64) (H : Heap) (locs : List Loc) (ls : Array Slot), J g N μ → ad 0 = a0 → wH D (An s) s.heap (cl tc g N ad ++ ((o, .inl (tc 2, 1, .inr (.inl fo))) :: mo tc a μ)) H locs → lv_has ls 7 (lo7 b (a0 0) (a 0) o k) → W p l e room_1 s m args below meth c H locs (cells + 9) (slots + 871) Q (F0 m 1535 ls [])
end LW
