/-! CountRounds.place -/
section DC
variable {p : Program} {l : Launch} {e : Env} {R : Room} {s : State} {m : MethodId} {args : Array Value} {below : List Frame} {meth : Method} {c : Code} {H H0 : Heap} {locs : List Loc} {cells slots : Nat} {Q : State → Prop} {cc : ByteArray} {nL pc : Nat} {ls : Array Slot} {rest st0 : List Value} {D : va_G} {tc : Nat → ClassId} {A : Nat → Prop} {ws : va_W} {own : String} {mc ms : Nat}
/-- a nest mate's private constructor -/
theorem dn_c {S : Type} {post : S → Prop} {wd : S → va_W} {y : MethodName} {bytes : ByteArray} {maxL index n b : Nat} {rm : Room} {As : List Value} (h0 : cX p s m args c own cc nL D tc) (hN : ∀ w ∈ nw, w.before args s = true) (hw : wH D A H0 ws H locs) (hA : ∀ q : Nat, H0.size ≤ q → A q)
    (hM : Met l y (Cond.code y bytes maxL none :: gw) rm (va_Pc (.ref b :: As) (pW D tc ws H.size)) (va_Qv post (fun u t => qW D tc (va_A ws H.size) (wd u) t) (va_A ws H.size)) mc ms (va_A ws H.size)) (hcd : Cond.code y bytes maxL none ∈ gw) (hlk : Cond.methodLinkNest own index y "CountRounds" ∈ nw) (hini : Cond.initialized y.cls ∈ gw) (hins : Cond.instanceMethod y ∈ gw) (hy1 : y.name = "<init>")
    (hd : y.cls ≠ "java/lang/invoke/MethodHandle" ∧ y.cls ≠ "java/lang/invoke/VarHandle" ∧ (parseMethodDescriptor y.desc).map (fun d => d.parameters.length) = some n) (hR : rm.cells = mc ∧ rm.slots = ms ∧ rm.frames + 1 ≤ R.frames ∧ 8 + (maxL + 11) + rm.locals ≤ R.locals ∧ cells + mc ≤ R.cells ∧ slots + ms ≤ R.slots)
    (hn : As.length = n) (hsize : ls.size = nL) (hst : st0 = As.reverse ++ .ref b :: rest) (hW : (rest.map fun v => v.category).sum ≤ 8) (hdg : decode cc pc = .ok (.invokespecial index, 3))
    (kk : ∀ (u : S) (H1 : Heap) (locs1 : List Loc), post u → wH D A H0 (wd u) H1 locs1 → W p l e R s m args below meth c H1 locs1 (cells + mc) (slots + ms) Q (F0 m (pc + 3) ls rest)) : W p l e R s m args below meth c H locs cells slots Q (F0 m pc ls st0) := by
  have hF := fr_A hw hA
  refine va_callv (va_runIN (As := As) (rest := rest) ⟨h0.1, h0.2.1, h0.2.2.1, h0.2.2.2.1, h0.2.2.2.2.1⟩ hM ⟨va_cnB n h0.2.2.2.2.1 (gd_c hcd) rfl hR.1 hR.2.1 (va_Nw.of (nw_on hlk) (hN _ hlk)) (h0.2.2.2.2.1 _ hini) hd ⟨hR.2.2.1, hR.2.2.2.1⟩, hy1, h0.2.2.2.2.1 _ hins⟩ (pr_S h0 hw.1 hw.2.1) rfl hn hsize hst (lv_room hW) hdg ⟨hR.2.2.2.2.1, hR.2.2.2.2.2⟩) hw.2.2 (fun q _ h => hF q h) hF (fun u t H1 locs ht hvm hp hB hz1 hk1 hS => ?_)
  exact kk u H1 locs hp ⟨by rw [← ht]; exact hB.1, hB.2.2.weaken (fun k q _ h => hF q.1 h), hS⟩
end DC
def fC_place (x1 : Int32) (g : Nat → Nat → Nat → Int32) (N : Nat → Nat) : Option String × Int32 × (Nat → Nat → Nat → Int32) × (Nat → Nat) := if (fC_isKind x1) = 0 then (some "java/lang/IllegalArgumentException", 0, g, N) else if (g 0 0 0) < 20 then (none, g 0 0 0, u3 (np_g N g x1) 0 0 0 ((g 0 0 0) + 1), np_N N) else (some "java/lang/UnsupportedOperationException", 0, g, N)
def kC_place (x1 : Int32) (g : Nat → Nat → Nat → Int32) (N : Nat → Nat) : Prop := (kC_isKind x1) ∧ (¬ (fC_isKind x1) = 0 → (g 0 0 0) < 20 → vp_in (g 0 0 0) 20 ∧ (g 0 0 0).toNatClampNeg = N 0)
set_option maxHeartbeats 4000000 in
set_option maxRecDepth 100000 in
theorem cC_place (l : Launch) (hlt : l.stackTraces = false) (D : va_G) (tc : Nat → ClassId) (sa : Nat → Nat) (ad : Nat → Nat → Nat) (Y : va_W) (sz : Nat) (x1 : Int32) (g : Nat → Nat → Nat → Int32) (N : Nat → Nat) {F : Option String × Int32 × (Nat → Nat → Nat → Int32) × (Nat → Nat)} (hok : kC_place x1 g N) (hF : fC_place x1 g N = F) : vx_Met l y_C_place (Cond.code y_C_place b_C_place 3 (some .int) :: gw) ({ frames := 6, cells := 2, slots := 10, locals := 90 } : Room) (va_Pc [.ref (ad 0 0), .int x1] (pC D tc sa (cl tc g N ad ++ Y) sz)) (va_Qi (fun r (u : (Nat → Nat → Nat → Int32) × (Nat → Nat) × (Nat → Nat → Nat)) => (none, r, u.1, u.2.1) = F ∧ u.2.2 0 = ad 0) (fun u t => qW D tc (va_A (cl tc g N ad ++ Y) sz) (cl tc u.1 u.2.1 u.2.2 ++ Y) t) (va_A (cl tc g N ad ++ Y) sz)) (xC D tc (va_A (cl tc g N ad ++ Y) sz) (fun E (u : (Nat → Nat → Nat → Int32) × (Nat → Nat) × (Nat → Nat → Nat)) => (some E, (0 : Int32), u.1, u.2.1) = F ∧ u.2.2 0 = ad 0) (fun u => cl tc u.1 u.2.1 u.2.2 ++ Y)) 2 10 (va_A (cl tc g N ad ++ Y) sz) := by
  refine en_X (by decide) (Nat.le_of_ble_eq_true rfl) ?_
  intro p e s m args below meth c ls h0 hN hX hr hlocks htab hsz hw hl
  obtain ⟨hx, hb, hml, hown, hts, hK⟩ := id h0
  have hA : ∀ q : Nat, s.heap.size ≤ q → (va_A (cl tc g N ad ++ Y) sz) q := fun q h => Or.inr (by rw [← hsz]; exact h)
  generalize va_A (cl tc g N ad ++ Y) sz = A at hw hA hX ⊢
  have hl : lv_has ls 3 [(0, .ref (ad 0 0)), (1, .int x1)] := hl
  unfold kC_place at hok
  unfold fC_place at hF
  obtain ⟨hi_1, hok⟩ := hok
  refine lv_iload_n hx hb d_C_place_0 rfl (lv_at hl 1 rfl) ?_
  refine cs_p (n := 1) (As := [.int x1]) (rest := []) hx hb hml hown hts (cC_isKind l x1 hi_1 rfl) (gd_S wd_172 wd_173 wd_1 wd_174) (by decide +kernel) ⟨rfl, rfl, Nat.le_of_ble_eq_true rfl, Nat.le_of_ble_eq_true rfl, Nat.le_of_ble_eq_true rfl, Nat.le_of_ble_eq_true rfl⟩ rfl hl.1 rfl (Nat.le_of_ble_eq_true rfl) d_C_place_1 ?_
  refine lv_if_ne (tgt := 17) hx hb d_C_place_4 (by decide) (fun c_1 => ?_) (fun c_1 => ?_)
  · have hF := (if_neg c_1).symm.trans hF
    have hok := hok c_1
    refine lv_aload_n hx hb d_C_place_17 rfl (lv_at hl 0 rfl) ?_
    refine gCC_7 h0 hw d_C_place_18 ?_
    refine lv_bipush (v := 20) hx hb d_C_place_21 (by decide) ?_
    refine lv_icmp_lt (tgt := 36) hx hb d_C_place_23 (by decide) (fun c_2 => ?_) (fun c_2 => ?_)
    · have hF := (if_pos c_2).symm.trans hF
      obtain ⟨hv20, hvN⟩ := hok c_2
      refine lv_aload_n hx hb d_C_place_36 rfl (lv_at hl 0 rfl) ?_
      refine gCC_7 h0 hw d_C_place_37 ?_
      refine lv_istore_n (lv' := [(2, .int (g 0 0 0)), (0, .ref (ad 0 0)), (1, .int x1)]) hx hb d_C_place_40 rfl hl (by decide) rfl (fun ls hl => ?_)
      refine lv_aload_n hx hb d_C_place_41 rfl (lv_at hl 1 rfl) ?_
      refine gCC_0 h0 hw d_C_place_42 ?_
      refine lv_iload_n hx hb d_C_place_45 rfl (lv_at hl 0 rfl) ?_
      refine va_new (ci := 0) (fs := [.int 0, .null, .int 0, .int 0]) (C := R_P) (T := F_P) (N := 4) hx hb hts i_P ty_P ty_P_ok hown (hts _ wd_25) (hts _ wd_207) (hts _ wd_9) hK hw.1 hw.2.1 hw.2.2 hA rfl (fun j hj => by rcases (show j = 0 ∨ j = 1 ∨ j = 2 ∨ j = 3 by omega) with rfl | rfl | rfl | rfl <;> rfl) (Nat.le_of_ble_eq_true rfl) (Nat.le_of_ble_eq_true rfl) d_C_place_46 (fun q H hP hD hS => ?_)
      have hw : wH D A s.heap ([(q, .inr (0, [.int 0, .null, .int 0, .int 0]))] ++ (cl tc g N ad ++ Y)) H _ := ⟨bw_P List.perm_append_comm hP, bw_D List.perm_append_comm hD, hS⟩
      refine lv_dup hx hb d_C_place_49 rfl ?_
      refine lv_iload_n hx hb d_C_place_50 rfl (lv_at hl 2 rfl) ?_
      refine dn_c (n := 1) (b := q) (As := [.int x1]) (rest := [.ref q, .int (g 0 0 0), .ref (ad 0 1)]) h0 hN hw hA (cP_init l D tc (cl tc g N ad ++ Y) H.size q x1) wd_210 wn_208 wd_9 wd_209 rfl (by decide +kernel) ⟨rfl, rfl, Nat.le_of_ble_eq_true rfl, Nat.le_of_ble_eq_true rfl, Nat.le_of_ble_eq_true rfl, Nat.le_of_ble_eq_true rfl⟩ rfl hl.1 rfl (Nat.le_of_ble_eq_true rfl) d_C_place_51 (fun q1 H locs _ hw => ?_)
      refine va_astq hx hb hK hw.1 hw.2.1 hw.2.2 (bw_o (cb tc g N ad) 1 + 0 + 2) 3 0 0 (cA := tc 3) (r := (R_P, F_P, 4)) (n := 20) (f := fun i => if i < N 0 then some (ad 1 i) else none) (bw_get (bs := cb tc g N ad) (j := 1) (i := 0) rfl Nat.one_pos Y) rfl rfl rfl hv20 d_C_place_54 (fun H locs hP hD hS => ?_)
      rw [hvN] at hP hD
      have hw : wH D A s.heap (cl tc (np_g N g x1) (np_N N) (np_a N ad q q1) ++ Y) H locs := ⟨bw_P np_w hP, bw_D np_w hD, hS⟩
      refine lv_aload_n hx hb d_C_place_55 rfl (lv_at hl 1 rfl) ?_
      refine lv_dup hx hb d_C_place_56 rfl ?_
      refine gCC_7 (ad := np_a N ad q q1) h0 hw d_C_place_57 ?_
      refine W.eq (g2 := F0 m 60 ls [.int (g 0 0 0), .ref (ad 0 0)]) rfl ?_
      refine lv_iconst (v := 1) hx hb d_C_place_60 (by decide) ?_
      refine lv_iadd hx hb d_C_place_61 ?_
      refine pCC_7 (ad := np_a N ad q q1) h0 hw d_C_place_62 (fun H locs hw => ?_)
      refine lv_iload_n hx hb d_C_place_65 rfl (lv_at hl 0 rfl) ?_
      exact vx_ret (rt_i h0 hw hr hlocks rfl (u3 (np_g N g x1) 0 0 0 ((g 0 0 0) + 1), np_N N, np_a N ad q q1) ⟨hF, rfl⟩ rfl d_C_place_66 (Nat.le_of_ble_eq_true rfl) (Nat.le_of_ble_eq_true rfl))
    · have hF := (if_neg c_2).symm.trans hF
      exact th_S hlt h0 rfl hX hw (by decide +kernel) wd_191 wd_8 (q9 := 2) rfl at_uoe ag_uoe hl.1 d_C_place_26 d_C_place_29 d_C_place_30 d_C_place_32 d_C_place_35 htab hlocks ⟨Nat.le_of_ble_eq_true rfl, Nat.le_of_ble_eq_true rfl, Nat.le_of_ble_eq_true rfl, Nat.le_of_ble_eq_true rfl⟩ (g, N, ad) ⟨hF, rfl⟩ rfl (Nat.le_of_ble_eq_true rfl) (Nat.le_of_ble_eq_true rfl)
  · have hF := (if_pos c_1).symm.trans hF
    exact th_S hlt h0 rfl hX hw (by decide +kernel) wd_175 wd_7 (q9 := 1) rfl at_iae ag_iae hl.1 d_C_place_7 d_C_place_10 d_C_place_11 d_C_place_13 d_C_place_16 htab hlocks ⟨Nat.le_of_ble_eq_true rfl, Nat.le_of_ble_eq_true rfl, Nat.le_of_ble_eq_true rfl, Nat.le_of_ble_eq_true rfl⟩ (g, N, ad) ⟨hF, rfl⟩ rfl (Nat.le_of_ble_eq_true rfl) (Nat.le_of_ble_eq_true rfl)
