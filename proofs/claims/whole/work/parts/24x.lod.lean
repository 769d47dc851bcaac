section RXI
variable {p : Program} {l : Launch} {e : Env} {R : Room} {s : State} {m : MethodId} {args : Array Value} {below : List Frame} {meth : Method} {c : Code} {H : Heap} {locs : List Loc} {cells slots : Nat} {Q : State → Prop} {cc : ByteArray} {nL pc : Nat} {ls : Array Slot} {rest st0 : List Value} {D : va_G} {tc : Nat → ClassId} {A : Nat → Prop} {ws : va_W} {own : String} {mc ms : Nat} {sa : Nat → Nat}
/-- an int as answer, where a condition holds; the heap as it was -/
theorem rx_i {P : Prop} {v : Int32} {r : Value} {ty : FieldType} (hx : p.tables.exec = Jvm.exec) (hb : c.code = cc) (hr : meth.sig.returnType = some ty) (hlocks : meth.locks = false) (hn : narrow ty (.int v) = .int v) (hp : P) (hv : r = .int v) (hd : decode cc pc = .ok (.ireturn, 1)) (hc : cells ≤ mc) (hs : slots ≤ ms) : W p l e R s m args below meth c s.heap [] cells slots (MQ below (fun a st oc t => P ∧ qP r a st oc t) args s mc ms A) (F0 m pc ls [.int v]) := by
  refine W.widen hc hs ?_
  exact W.zret hx hb hr hn (fun t ht _ => ⟨hp, by rw [hv], ht⟩) (fun q hq => nomatch hq) hd
/-- a static call of this class that answers, or throws; the heap as it was but for what is thrown -/
theorem dx_s {P P9 : Prop} {NS : String} {y : MethodName} {bytes : ByteArray} {maxL index n : Nat} {ret : Option FieldType} {rm : Room} {r : Value} {As : List Value} (h0 : cX p s m args c own cc nL D tc) (hX : xS A sa s s.heap) (hw : wH D A s.heap ws H locs) (hA : ∀ q : Nat, s.heap.size ≤ q → A q)
    (hM : vx_Met l y (Cond.code y bytes maxL ret :: gw) rm (va_Pc As (pC D tc sa ws H.size)) (fun a st oc t => P ∧ qP r a st oc t) (xC D tc (va_A ws H.size) (fun E (_ : Unit) => P9 ∧ E = NS) (fun _ => ws)) mc ms (va_A ws H.size)) (hG : GoodIn gw (wsS own index y (Cond.code y bytes maxL ret :: gw)))
    (hd : y.cls = own ∧ y.cls ≠ "java/lang/invoke/MethodHandle" ∧ y.cls ≠ "java/lang/invoke/VarHandle" ∧ (parseMethodDescriptor y.desc).map (fun d => d.parameters.length) = some n) (hR : rm.cells = mc ∧ rm.slots = ms ∧ rm.frames + 1 ≤ R.frames ∧ 8 + (maxL + 11) + rm.locals ≤ R.locals ∧ cells + mc ≤ R.cells ∧ slots + ms ≤ R.slots)
    (hn : As.length = n) (hsize : ls.size = nL) (hst : st0 = As.reverse ++ rest) (hW : (rest.map fun v => v.category).sum ≤ 8) (hdg : decode cc pc = .ok (.invokestatic index, 3))
    (kx : P9 → ∀ (H1 : Heap) (locs1 : List Loc) (q : Addr) (ce : Cell), wH D A s.heap ws H1 locs1 → H1[q]? = some ce → ce.vm = .none → s.vm.findClass NS = some ce.cls → vx_W p l e R s m args below meth c H1 locs1 (cells + mc) (slots + ms) Q (F0 m pc ls rest) q)
    (kk : P → ∀ (locs1 : List Loc), wH D A s.heap ws H locs1 → W p l e R s m args below meth c H locs1 (cells + mc) (slots + ms) Q (F0 m (pc + 3) ls (r :: rest))) : W p l e R s m args below meth c H locs cells slots Q (F0 m pc ls st0) := by
  have hF := fr_A hw hA
  have hr := vx_runS (e := e) (p := p) (below := below) (meth := meth) (locs := locs) (g := F0 m pc ls st0) (As := As) (rest := rest) ⟨h0.1, h0.2.1, h0.2.2.1, h0.2.2.2.1, h0.2.2.2.2.1⟩ hM (cwS n h0.2.2.2.2.1 hG rfl hR.1 hR.2.1 hd ⟨hR.2.2.1, hR.2.2.2.1⟩) ⟨bl_pC, pc_S h0 hX hw hA⟩ rfl hn hsize hst (lv_room hW) hdg ⟨hR.2.2.2.2.1, hR.2.2.2.2.2⟩
  intro T0 hT X
  rcases hr T0 hT X with ⟨v, st₀, t, T', L, h9, X', hL, e1, e2, ⟨hp, hv, ht⟩, st⟩ | ⟨q, st₀, t, T', L, E, ce, h9, X', hL, e1, e2, ⟨u, -, ⟨⟨hp, hE⟩, hB⟩, hFr⟩, hce, hcv, hcl, st⟩
  · cases hv
    have hH : T'.heap = H := by rw [e1, ht, h9]
    have hw1 : wH D A s.heap ws H (locs ++ L) := ⟨hw.1, hw.2.1, hw.2.2.1, hw.2.2.2.1, fun z hz => by
      rcases List.mem_append.mp hz with h | h
      · exact hw.2.2.2.2 z h
      · exact hF _ (hL z h)⟩
    obtain ⟨t2, a1, b1⟩ := kk hp (locs ++ L) hw1 T' hH X'
    exact ⟨t2, st t2 a1, b1⟩
  · subst hE
    obtain ⟨k1, k2, k3⟩ := vx_keep h9 e1 hw.2.2 (fun q _ h => hF q h) hF hL hFr
    have hw1 : wH D A s.heap ws T'.heap (locs ++ L) := ⟨by rw [e1]; exact hB.1, hw.2.1, k3⟩
    obtain ⟨t2, a1, b1⟩ := kx hp T'.heap (locs ++ L) q ce hw1 (by rw [e1]; exact hce) hcv hcl T' rfl X'
    exact ⟨t2, st.trans a1, b1⟩
end RXI
def kC_lineOfDifference_x (i0 : Nat) (x1 : Int32) (g : Nat → Nat → Nat → Int32) (N : Nat → Nat) : Prop := (kS_differingLine i0 x1 g N) ∧ (((fS_differingLine i0 x1 g N) = (-1) → True) ∧ (¬ ((fS_differingLine i0 x1 g N) = (-1)) → True))
set_option maxHeartbeats 4000000 in
set_option maxRecDepth 100000 in
theorem xC_lineOfDifference (l : Launch) (hlt : l.stackTraces = false) (D : va_G) (tc : Nat → ClassId) (sa : Nat → Nat) (ad : Nat → Nat → Nat) (Y : va_W) (sz : Nat) (i0 : Nat) (x1 : Int32) (g : Nat → Nat → Nat → Int32) (N : Nat → Nat) (hj0 : i0 < N 2) (hok : kC_lineOfDifference_x i0 x1 g N) : vx_Met l y_C_lineOfDifference (Cond.code y_C_lineOfDifference b_C_lineOfDifference 3 (some .int) :: gw) ({ frames := 6, cells := 1, slots := 6, locals := 82 } : Room) (va_Pc [.ref (ad 4 i0), .int x1] (pC D tc sa (cl tc g N ad ++ Y) sz)) (fun a st oc t => (¬ (fS_differingLine i0 x1 g N) = (-1)) ∧ qP (.int (fS_differingLine i0 x1 g N)) a st oc t) (xC D tc (va_A (cl tc g N ad ++ Y) sz) (fun E (_ : Unit) => (fS_differingLine i0 x1 g N) = (-1) ∧ E = "java/util/NoSuchElementException") (fun _ => cl tc g N ad ++ Y)) 1 6 (va_A (cl tc g N ad ++ Y) sz) := by
  refine en_X (by decide) (Nat.le_of_ble_eq_true rfl) ?_
  intro p e s m args below meth c ls h0 hN hX hr hlocks htab hsz hw hl
  obtain ⟨hx, hb, hml, hown, hts, hK⟩ := id h0
  have hA : ∀ q : Nat, s.heap.size ≤ q → (va_A (cl tc g N ad ++ Y) sz) q := fun q h => Or.inr (by rw [← hsz]; exact h)
  generalize va_A (cl tc g N ad ++ Y) sz = A at hw hA hX ⊢
  have hl : lv_has ls 3 [(0, .ref (ad 4 i0)), (1, .int x1)] := hl
  unfold kC_lineOfDifference_x at hok
  refine lv_aload_n hx hb d_C_lineOfDifference_0 rfl (lv_at hl 0 rfl) ?_
  refine lv_iload_n hx hb d_C_lineOfDifference_1 rfl (lv_at hl 1 rfl) ?_
  obtain ⟨hi_1, hok⟩ := hok
  refine dn_p (n := 1) (C := "CountRounds$Sheet") (b := ad 4 i0) (q0 := bw_o (cb tc g N ad) 11 + i0) (ci := 1) (As := [.int x1]) (rest := []) h0 hX hw hA (cS_differingLine l D tc sa ad Y s.heap.size i0 x1 g N hj0 hi_1 rfl) wd_531 wn_528 wd_15 wd_530 (gw_s 19 rfl rfl) (by decide +kernel) ⟨rfl, rfl, (Nat.le_of_ble_eq_true rfl), (Nat.le_of_ble_eq_true rfl), (Nat.le_of_ble_eq_true rfl), (Nat.le_of_ble_eq_true rfl)⟩ (bw_get (bs := cb tc g N ad) (j := 11) rfl hj0 Y) rfl rfl hl.1 rfl (Nat.le_of_ble_eq_true rfl) d_C_lineOfDifference_2 ?_
  refine lv_istore_n (lv' := [(2, .int (fS_differingLine i0 x1 g N)), (0, .ref (ad 4 i0)), (1, .int x1)]) hx hb d_C_lineOfDifference_5 rfl hl (by decide) rfl (fun ls hl => ?_)
  refine lv_iload_n hx hb d_C_lineOfDifference_6 rfl (lv_at hl 0 rfl) ?_
  refine lv_iconst (v := (-1)) hx hb d_C_lineOfDifference_7 (by decide) ?_
  refine lv_icmp_ne (tgt := 22) hx hb d_C_lineOfDifference_8 (by decide) (fun c_2 => ?_) (fun c_2 => ?_)
  · have hok := hok.2 c_2
    refine lv_iload_n hx hb d_C_lineOfDifference_22 rfl (lv_at hl 0 rfl) ?_
    exact vx_ret (rx_i hx hb hr hlocks rfl c_2 rfl d_C_lineOfDifference_23 (Nat.le_of_ble_eq_true rfl) (Nat.le_of_ble_eq_true rfl))
  · have hok := hok.1 c_2
    exact tn_W hlt h0 rfl hX hw wd_93 wd_10 (q9 := 23) rfl rfl rfl hl.1 d_C_lineOfDifference_11 d_C_lineOfDifference_14 d_C_lineOfDifference_15 d_C_lineOfDifference_18 d_C_lineOfDifference_21 htab hlocks ⟨(Nat.le_of_ble_eq_true rfl), (Nat.le_of_ble_eq_true rfl), (Nat.le_of_ble_eq_true rfl), (Nat.le_of_ble_eq_true rfl)⟩ () ⟨c_2, rfl⟩ rfl (Nat.le_of_ble_eq_true rfl) (Nat.le_of_ble_eq_true rfl)
