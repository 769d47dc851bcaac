section DR
variable {p : Program} {l : Launch} {e : Env} {R : Room} {s : State} {m : MethodId} {args : Array Value} {below : List Frame} {meth : Method} {c : Code} {H : Heap} {locs : List Loc} {cells slots : Nat} {Q : State → Prop} {cc : ByteArray} {nL pc : Nat} {ls : Array Slot} {rest st0 : List Value} {D : va_G} {tc : Nat → ClassId} {A : Nat → Prop} {ws : va_W} {own : String} {mc ms : Nat} {sa : Nat → Nat}
theorem dv_r {S : Type} {post : S → Prop} {wd : S → Nat → va_W} {y : MethodName} {bytes : ByteArray} {maxL index n : Nat} {ret : Option FieldType} {rm : Room} {As : List Value} {C : String} {b q0 ci : Nat} {fs : List Value} {T : u_T} {N : Nat} (h0 : cX p s m args c own cc nL D tc) (hX : xS A sa s s.heap) (hw : wH D A s.heap ws H locs) (hA : ∀ q : Nat, s.heap.size ≤ q → A q)
    (hM : Met l y (Cond.code y bytes maxL ret :: gw) rm (va_Pc (.ref b :: As) (pC D tc sa ws H.size)) (va_Qr post (fun u q t => qW D tc (va_A ws H.size) (wd u q) t) (va_A ws H.size)) mc ms (va_A ws H.size)) (hG : GoodIn gw (wsV own index C y (Cond.code y bytes maxL ret :: gw)))
    (hd : y.cls = C ∧ y.cls ≠ "java/lang/invoke/MethodHandle" ∧ y.cls ≠ "java/lang/invoke/VarHandle" ∧ (parseMethodDescriptor y.desc).map (fun d => d.parameters.length) = some n) (hR : rm.cells = mc ∧ rm.slots = ms ∧ rm.frames + 1 ≤ R.frames ∧ 8 + (maxL + 11) + rm.locals ≤ R.locals ∧ cells + mc ≤ R.cells ∧ slots + ms ≤ R.slots)
    (he : ws[q0]? = some (b, .inr (ci, fs))) (hc : classes[ci]? = some (C, T, N)) (hn : As.length = n) (hsize : ls.size = nL) (hst : st0 = As.reverse ++ .ref b :: rest) (hW : (rest.map fun v => v.category).sum ≤ 8) (hdg : decode cc pc = .ok (.invokevirtual index, 3))
    (kk : ∀ (u : S) (qc : Nat) (H1 : Heap) (locs1 : List Loc), post u → wH D A s.heap (wd u qc) H1 locs1 → W p l e R s m args below meth c H1 locs1 (cells + mc) (slots + ms) Q (F0 m (pc + 3) ls (.ref qc :: rest))) : W p l e R s m args below meth c H locs cells slots Q (F0 m pc ls st0) := by
  have hF := fr_A hw hA
  refine va_callr (va_runV (As := As) (rest := rest) ⟨h0.1, h0.2.1, h0.2.2.1, h0.2.2.2.1, h0.2.2.2.2.1⟩ hM (cwV n h0.2.2.2.2.1 hG rfl hR.1 hR.2.1 hd ⟨hR.2.2.1, hR.2.2.2.1⟩) (pc_V h0 hX hw hA he hc) rfl hn hsize hst (lv_room hW) hdg ⟨hR.2.2.2.2.1, hR.2.2.2.2.2⟩) hw.2.2 (fun q _ h => hF q h) hF (fun u qc t H1 locs ht hvm hp hB hz1 hk1 hS => ?_)
  exact kk u qc H1 locs hp ⟨by rw [← ht]; exact hB.1, hB.2.2.weaken (fun k q _ h => hF q.1 h), hS⟩
end DR
theorem rd_perm (L Y : va_W) (x z : Nat × va_E) : ((L ++ (x :: Y)) ++ [z]).Perm ([z, x] ++ (L ++ Y)) :=
  (List.perm_append_comm (l₁ := L ++ (x :: Y)) (l₂ := [z])).trans ((List.perm_middle (l₁ := L) (l₂ := Y) (a := x)).cons z)
def fC_round (x1 : Int32) (x2 : Int32) (x3 : Int64) (g : Nat → Nat → Nat → Int32) (N : Nat → Nat) : Option String × Int32 × (Nat → Nat → Nat → Int32) × (Nat → Nat) := if x1 = (-1) then if (fC_isWithin x2 1 20) = 0 then (some "java/lang/IllegalArgumentException", 0, g, N) else if ((fC_gatherCandidates x1 g N).1) = 0 then (some "java/lang/IllegalStateException", 0, (fC_gatherCandidates x1 g N).2, N) else if ((fC_gatherCandidates x1 g N).2 0 0 2) < 20 then (none, ((fC_chooseCandidates ((fC_gatherCandidates x1 g N).1) (if ((fC_gatherCandidates x1 g N).1) < x2 then ((fC_gatherCandidates x1 g N).1) else x2) x3 (fC_gatherCandidates x1 g N).2 N (if ((fC_gatherCandidates x1 g N).1) < x2 then ((fC_gatherCandidates x1 g N).1) else x2).toNatClampNeg) 0 0 2) + 1, (u3 (ns_g N (fC_chooseCandidates ((fC_gatherCandidates x1 g N).1) (if ((fC_gatherCandidates x1 g N).1) < x2 then ((fC_gatherCandidates x1 g N).1) else x2) x3 (fC_gatherCandidates x1 g N).2 N (if ((fC_gatherCandidates x1 g N).1) < x2 then ((fC_gatherCandidates x1 g N).1) else x2).toNatClampNeg) ((fC_chooseCandidates ((fC_gatherCandidates x1 g N).1) (if ((fC_gatherCandidates x1 g N).1) < x2 then ((fC_gatherCandidates x1 g N).1) else x2) x3 (fC_gatherCandidates x1 g N).2 N (if ((fC_gatherCandidates x1 g N).1) < x2 then ((fC_gatherCandidates x1 g N).1) else x2).toNatClampNeg) 17 0)) 0 0 2 (((fC_chooseCandidates ((fC_gatherCandidates x1 g N).1) (if ((fC_gatherCandidates x1 g N).1) < x2 then ((fC_gatherCandidates x1 g N).1) else x2) x3 (fC_gatherCandidates x1 g N).2 N (if ((fC_gatherCandidates x1 g N).1) < x2 then ((fC_gatherCandidates x1 g N).1) else x2).toNatClampNeg) 0 0 2) + 1)), ns_N N (if ((fC_gatherCandidates x1 g N).1) < x2 then ((fC_gatherCandidates x1 g N).1) else x2).toNatClampNeg) else (some "java/lang/UnsupportedOperationException", 0, (fC_gatherCandidates x1 g N).2, N) else if (fC_isKind x1) = 0 then (some "java/lang/IllegalArgumentException", 0, g, N) else if (fC_isWithin x2 1 20) = 0 then (some "java/lang/IllegalArgumentException", 0, g, N) else if ((fC_gatherCandidates x1 g N).1) = 0 then (some "java/lang/IllegalStateException", 0, (fC_gatherCandidates x1 g N).2, N) else if ((fC_gatherCandidates x1 g N).2 0 0 2) < 20 then (none, ((fC_chooseCandidates ((fC_gatherCandidates x1 g N).1) (if ((fC_gatherCandidates x1 g N).1) < x2 then ((fC_gatherCandidates x1 g N).1) else x2) x3 (fC_gatherCandidates x1 g N).2 N (if ((fC_gatherCandidates x1 g N).1) < x2 then ((fC_gatherCandidates x1 g N).1) else x2).toNatClampNeg) 0 0 2) + 1, (u3 (ns_g N (fC_chooseCandidates ((fC_gatherCandidates x1 g N).1) (if ((fC_gatherCandidates x1 g N).1) < x2 then ((fC_gatherCandidates x1 g N).1) else x2) x3 (fC_gatherCandidates x1 g N).2 N (if ((fC_gatherCandidates x1 g N).1) < x2 then ((fC_gatherCandidates x1 g N).1) else x2).toNatClampNeg) ((fC_chooseCandidates ((fC_gatherCandidates x1 g N).1) (if ((fC_gatherCandidates x1 g N).1) < x2 then ((fC_gatherCandidates x1 g N).1) else x2) x3 (fC_gatherCandidates x1 g N).2 N (if ((fC_gatherCandidates x1 g N).1) < x2 then ((fC_gatherCandidates x1 g N).1) else x2).toNatClampNeg) 17 0)) 0 0 2 (((fC_chooseCandidates ((fC_gatherCandidates x1 g N).1) (if ((fC_gatherCandidates x1 g N).1) < x2 then ((fC_gatherCandidates x1 g N).1) else x2) x3 (fC_gatherCandidates x1 g N).2 N (if ((fC_gatherCandidates x1 g N).1) < x2 then ((fC_gatherCandidates x1 g N).1) else x2).toNatClampNeg) 0 0 2) + 1)), ns_N N (if ((fC_gatherCandidates x1 g N).1) < x2 then ((fC_gatherCandidates x1 g N).1) else x2).toNatClampNeg) else (some "java/lang/UnsupportedOperationException", 0, (fC_gatherCandidates x1 g N).2, N)
def kC_round (x1 : Int32) (x2 : Int32) (x3 : Int64) (g : Nat → Nat → Nat → Int32) (N : Nat → Nat) : Prop := (x1 = (-1) → (kC_isWithin x2 1 20) ∧ (((fC_isWithin x2 1 20) = 0 → True) ∧ (¬ ((fC_isWithin x2 1 20) = 0) → (kC_gatherCandidates x1 g N) ∧ ((((fC_gatherCandidates x1 g N).1) = 0 → True) ∧ (¬ (((fC_gatherCandidates x1 g N).1) = 0) → (((fC_gatherCandidates x1 g N).2 0 0 2) < 20 → (¬ (if ((fC_gatherCandidates x1 g N).1) < x2 then ((fC_gatherCandidates x1 g N).1) else x2) < 0) ∧ ((if ((fC_gatherCandidates x1 g N).1) < x2 then ((fC_gatherCandidates x1 g N).1) else x2).toNatClampNeg ≤ 20) ∧ (kC_chooseCandidates ((fC_gatherCandidates x1 g N).1) (if ((fC_gatherCandidates x1 g N).1) < x2 then ((fC_gatherCandidates x1 g N).1) else x2) x3 (fC_gatherCandidates x1 g N).2 N (if ((fC_gatherCandidates x1 g N).1) < x2 then ((fC_gatherCandidates x1 g N).1) else x2).toNatClampNeg) ∧ (vp_in ((fC_chooseCandidates ((fC_gatherCandidates x1 g N).1) (if ((fC_gatherCandidates x1 g N).1) < x2 then ((fC_gatherCandidates x1 g N).1) else x2) x3 (fC_gatherCandidates x1 g N).2 N (if ((fC_gatherCandidates x1 g N).1) < x2 then ((fC_gatherCandidates x1 g N).1) else x2).toNatClampNeg) 0 0 2) 20) ∧ (((fC_chooseCandidates ((fC_gatherCandidates x1 g N).1) (if ((fC_gatherCandidates x1 g N).1) < x2 then ((fC_gatherCandidates x1 g N).1) else x2) x3 (fC_gatherCandidates x1 g N).2 N (if ((fC_gatherCandidates x1 g N).1) < x2 then ((fC_gatherCandidates x1 g N).1) else x2).toNatClampNeg) 0 0 2).toNatClampNeg = N 2)) ∧ (¬ (((fC_gatherCandidates x1 g N).2 0 0 2) < 20) → True)))))) ∧ (¬ (x1 = (-1)) → (kC_isKind x1) ∧ (((fC_isKind x1) = 0 → True) ∧ (¬ ((fC_isKind x1) = 0) → (kC_isWithin x2 1 20) ∧ (((fC_isWithin x2 1 20) = 0 → True) ∧ (¬ ((fC_isWithin x2 1 20) = 0) → (kC_gatherCandidates x1 g N) ∧ ((((fC_gatherCandidates x1 g N).1) = 0 → True) ∧ (¬ (((fC_gatherCandidates x1 g N).1) = 0) → (((fC_gatherCandidates x1 g N).2 0 0 2) < 20 → (¬ (if ((fC_gatherCandidates x1 g N).1) < x2 then ((fC_gatherCandidates x1 g N).1) else x2) < 0) ∧ ((if ((fC_gatherCandidates x1 g N).1) < x2 then ((fC_gatherCandidates x1 g N).1) else x2).toNatClampNeg ≤ 20) ∧ (kC_chooseCandidates ((fC_gatherCandidates x1 g N).1) (if ((fC_gatherCandidates x1 g N).1) < x2 then ((fC_gatherCandidates x1 g N).1) else x2) x3 (fC_gatherCandidates x1 g N).2 N (if ((fC_gatherCandidates x1 g N).1) < x2 then ((fC_gatherCandidates x1 g N).1) else x2).toNatClampNeg) ∧ (vp_in ((fC_chooseCandidates ((fC_gatherCandidates x1 g N).1) (if ((fC_gatherCandidates x1 g N).1) < x2 then ((fC_gatherCandidates x1 g N).1) else x2) x3 (fC_gatherCandidates x1 g N).2 N (if ((fC_gatherCandidates x1 g N).1) < x2 then ((fC_gatherCandidates x1 g N).1) else x2).toNatClampNeg) 0 0 2) 20) ∧ (((fC_chooseCandidates ((fC_gatherCandidates x1 g N).1) (if ((fC_gatherCandidates x1 g N).1) < x2 then ((fC_gatherCandidates x1 g N).1) else x2) x3 (fC_gatherCandidates x1 g N).2 N (if ((fC_gatherCandidates x1 g N).1) < x2 then ((fC_gatherCandidates x1 g N).1) else x2).toNatClampNeg) 0 0 2).toNatClampNeg = N 2)) ∧ (¬ (((fC_gatherCandidates x1 g N).2 0 0 2) < 20) → True))))))))
set_option maxHeartbeats 4000000 in
set_option maxRecDepth 100000 in
theorem cC_round (l : Launch) (hlt : l.stackTraces = false) (D : va_G) (tc : Nat → ClassId) (sa : Nat → Nat) (ad : Nat → Nat → Nat) (Y : va_W) (sz : Nat) (x1 : Int32) (x2 : Int32) (x3 : Int64) (g : Nat → Nat → Nat → Int32) (N : Nat → Nat) {F : Option String × Int32 × (Nat → Nat → Nat → Int32) × (Nat → Nat)} (hok : kC_round x1 x2 x3 g N) (hF : fC_round x1 x2 x3 g N = F) : vx_Met l y_C_round (Cond.code y_C_round b_C_round 8 (some .int) :: gw) ({ frames := 6, cells := 9, slots := 871, locals := 97 } : Room) (va_Pc [.ref (ad 0 0), .int x1, .int x2, .long x3] (pC D tc sa (cl tc g N ad ++ Y) sz)) (va_Qi (fun r (u : (Nat → Nat → Nat → Int32) × (Nat → Nat) × (Nat → Nat → Nat)) => (none, r, u.1, u.2.1) = F ∧ u.2.2 0 = ad 0) (fun u t => qW D tc (va_A (cl tc g N ad ++ Y) sz) (cl tc u.1 u.2.1 u.2.2 ++ Y) t) (va_A (cl tc g N ad ++ Y) sz)) (xC D tc (va_A (cl tc g N ad ++ Y) sz) (fun E (u : (Nat → Nat → Nat → Int32) × (Nat → Nat) × (Nat → Nat → Nat)) => (some E, (0 : Int32), u.1, u.2.1) = F ∧ u.2.2 0 = ad 0) (fun u => cl tc u.1 u.2.1 u.2.2 ++ Y)) 9 871 (va_A (cl tc g N ad ++ Y) sz) := by
  refine en_X (by decide) (Nat.le_of_ble_eq_true rfl) ?_
  intro p e s m args below meth c ls h0 hN hX hr hlocks htab hsz hw hl
  obtain ⟨hx, hb, hml, hown, hts, hK⟩ := id h0
  have hA : ∀ q : Nat, s.heap.size ≤ q → (va_A (cl tc g N ad ++ Y) sz) q := fun q h => Or.inr (by rw [← hsz]; exact h)
  generalize va_A (cl tc g N ad ++ Y) sz = A at hw hA hX ⊢
  obtain ⟨H, eH⟩ : ∃ z, z = s.heap := ⟨_, rfl⟩
  obtain ⟨locs, eL⟩ : ∃ z : List Loc, z = [] := ⟨_, rfl⟩
  have hw : wH D A s.heap (cl tc g N ad ++ Y) H locs := by rw [eH, eL]; exact hw
  have gl : W p l e ({ frames := 6, cells := 9, slots := 871, locals := 97 } : Room) s m args below meth c H locs 0 0 (vx_MQ below (va_Qi (fun r (u : (Nat → Nat → Nat → Int32) × (Nat → Nat) × (Nat → Nat → Nat)) => (none, r, u.1, u.2.1) = F ∧ u.2.2 0 = ad 0) (fun u t => qW D tc A (cl tc u.1 u.2.1 u.2.2 ++ Y) t) A) (xC D tc A (fun E (u : (Nat → Nat → Nat → Int32) × (Nat → Nat) × (Nat → Nat → Nat)) => (some E, (0 : Int32), u.1, u.2.1) = F ∧ u.2.2 0 = ad 0) (fun u => cl tc u.1 u.2.1 u.2.2 ++ Y)) args s 9 871 A) (F0 m 0 ls []) := ?_
  · rw [eH, eL] at gl; exact gl
  have hl : lv_has ls 8 [(0, .ref (ad 0 0)), (1, .int x1), (2, .int x2), (3, .long x3)] := hl
  unfold kC_round at hok
  unfold fC_round at hF
  refine lv_iload_n hx hb d_C_round_0 rfl (lv_at hl 1 rfl) ?_
  refine lv_iconst (v := (-1)) hx hb d_C_round_1 (by decide) ?_
  refine lv_icmp_eq (tgt := 12) hx hb d_C_round_2 (by decide) (fun c_1 => ?_) (fun c_1 => ?_)
  · have hok := hok.1 c_1
    have hF := (if_pos c_1).symm.trans hF
    refine lv_iconst (v := 1) hx hb d_C_round_12 (by decide) ?_
    refine lv_goto (tgt := 17) hx hb d_C_round_13 (by decide) ?_
    refine lv_istore (lv' := [(5, .int 1), (0, .ref (ad 0 0)), (1, .int x1), (2, .int x2), (3, .long x3)]) hx hb d_C_round_17 hl (by decide) rfl (fun ls hl => ?_)
    refine lv_iload hx hb d_C_round_19 (lv_at hl 0 rfl) ?_
    refine lv_if_eq (tgt := 34) hx hb d_C_round_21 (by decide) (fun c_0 => absurd c_0 (by decide)) (fun _ => ?_)
    refine lv_iload_n hx hb d_C_round_24 rfl (lv_at hl 3 rfl) ?_
    refine lv_iconst (v := 1) hx hb d_C_round_25 (by decide) ?_
    refine lv_bipush (v := 20) hx hb d_C_round_26 (by decide) ?_
    obtain ⟨hi_2, hok⟩ := hok
    refine cs_p (n := 3) (As := [.int x2, .int 1, .int 20]) (rest := []) hx hb hml hown hts (cC_isWithin l x2 1 20 hi_2 rfl) (gd_S wd_90 wd_91 wd_1 wd_92) (by decide +kernel) ⟨rfl, rfl, (Nat.le_of_ble_eq_true rfl), (Nat.le_of_ble_eq_true rfl), (Nat.le_of_ble_eq_true rfl), (Nat.le_of_ble_eq_true rfl)⟩ rfl hl.1 rfl (Nat.le_of_ble_eq_true rfl) d_C_round_28 ?_
    refine lv_if_ne (tgt := 44) hx hb d_C_round_31 (by decide) (fun c_3 => ?_) (fun c_3 => ?_)
    · have hok := hok.2 c_3
      have hF := (if_neg c_3).symm.trans hF
      refine lv_aload_n hx hb d_C_round_44 rfl (lv_at hl 1 rfl) ?_
      refine lv_iload_n hx hb d_C_round_45 rfl (lv_at hl 2 rfl) ?_
      obtain ⟨hi_4, hok⟩ := hok
      refine dv_i (wd := fun u => cl tc u N ad ++ Y) (n := 1) (C := "CountRounds") (b := ad 0 0) (q0 := bw_o (cb tc g N ad) 0 + 0) (ci := 3) (As := [.int x1]) (rest := []) h0 hX hw hA (cC_gatherCandidates l D tc sa ad Y H.size x1 g N hi_4 rfl) (gd_V wd_367 wd_369 (gw_s 5 rfl rfl) wd_1 wd_370) (by decide +kernel) ⟨rfl, rfl, (Nat.le_of_ble_eq_true rfl), (Nat.le_of_ble_eq_true rfl), (Nat.le_of_ble_eq_true rfl), (Nat.le_of_ble_eq_true rfl)⟩ (bw_get (bs := cb tc g N ad) (j := 0) rfl Nat.one_pos Y) rfl rfl hl.1 rfl (Nat.le_of_ble_eq_true rfl) d_C_round_46 (fun r u H locs hu hw => ?_)
      have hu5 := congrArg Prod.fst hu
      have hv5 := congrArg Prod.snd hu
      dsimp only at hu5 hv5
      subst hu5
      subst hv5
      refine lv_istore (lv' := [(6, .int ((fC_gatherCandidates x1 g N).1)), (5, .int 1), (0, .ref (ad 0 0)), (1, .int x1), (2, .int x2), (3, .long x3)]) hx hb d_C_round_49 hl (by decide) rfl (fun ls hl => ?_)
      refine lv_iload hx hb d_C_round_51 (lv_at hl 0 rfl) ?_
      refine lv_if_ne (tgt := 66) hx hb d_C_round_53 (by decide) (fun c_6 => ?_) (fun c_6 => ?_)
      · have hok := hok.2 c_6
        have hF := (if_neg c_6).symm.trans hF
        refine lv_aload_n hx hb d_C_round_66 rfl (lv_at hl 2 rfl) ?_
        refine gCC_9 h0 hw d_C_round_67 ?_
        refine lv_bipush (v := 20) hx hb d_C_round_70 (by decide) ?_
        refine lv_icmp_lt (tgt := 85) hx hb d_C_round_72 (by decide) (fun c_7 => ?_) (fun c_7 => ?_)
        · have hok := hok.1 c_7
          have hF := (if_pos c_7).symm.trans hF
          refine lv_aload_n hx hb d_C_round_85 rfl (lv_at hl 2 rfl) ?_
          refine lv_iload hx hb d_C_round_86 (lv_at hl 0 rfl) ?_
          refine lv_iload_n hx hb d_C_round_88 rfl (lv_at hl 4 rfl) ?_
          refine lv_iload hx hb d_C_round_89 (lv_at hl 0 rfl) ?_
          refine va_mmin hx hb (hml.trans hl.1.symm) hown (hts _ wd_373) (hts _ wd_374) (hts _ wd_13) (hts _ wd_375) (Nat.le_of_ble_eq_true rfl) (Nat.le_of_ble_eq_true rfl) (Nat.le_of_ble_eq_true rfl) (Nat.le_of_ble_eq_true rfl) d_C_round_91 ?_
          refine lv_lload_n hx hb d_C_round_94 rfl (lv_at hl 5 rfl) ?_
          obtain ⟨hm0, hm20, hkc, hv20, hvN⟩ := hok
          refine dv_r (wd := fun u q => cl tc u N ad ++ ((q, .inl (tc 0, (if ((fC_gatherCandidates x1 g N).1) < x2 then ((fC_gatherCandidates x1 g N).1) else x2).toNatClampNeg, .inl (u 17 0))) :: Y)) (n := 3) (C := "CountRounds") (b := ad 0 0) (q0 := bw_o (cb tc (fC_gatherCandidates x1 g N).2 N ad) 0 + 0) (ci := 3) (As := [.int ((fC_gatherCandidates x1 g N).1), .int (if ((fC_gatherCandidates x1 g N).1) < x2 then ((fC_gatherCandidates x1 g N).1) else x2), .long x3]) (rest := []) h0 hX hw hA (cC_chooseCandidates l D tc sa ad Y H.size ((fC_gatherCandidates x1 g N).1) (if ((fC_gatherCandidates x1 g N).1) < x2 then ((fC_gatherCandidates x1 g N).1) else x2) x3 (fC_gatherCandidates x1 g N).2 N (if ((fC_gatherCandidates x1 g N).1) < x2 then ((fC_gatherCandidates x1 g N).1) else x2).toNatClampNeg hm0 rfl hm20 hkc rfl) (gd_V wd_376 wd_378 (gw_s 6 rfl rfl) wd_1 wd_379) (by decide +kernel) ⟨rfl, rfl, (Nat.le_of_ble_eq_true rfl), (Nat.le_of_ble_eq_true rfl), (Nat.le_of_ble_eq_true rfl), (Nat.le_of_ble_eq_true rfl)⟩ (bw_get (bs := cb tc (fC_gatherCandidates x1 g N).2 N ad) (j := 0) rfl Nat.one_pos Y) rfl rfl hl.1 rfl (Nat.le_of_ble_eq_true rfl) d_C_round_95 (fun u qc H locs hu hw => ?_)
          subst hu
          generalize eG : (fC_chooseCandidates ((fC_gatherCandidates x1 g N).1) (if ((fC_gatherCandidates x1 g N).1) < x2 then ((fC_gatherCandidates x1 g N).1) else x2) x3 (fC_gatherCandidates x1 g N).2 N (if ((fC_gatherCandidates x1 g N).1) < x2 then ((fC_gatherCandidates x1 g N).1) else x2).toNatClampNeg) = g2 at hw hF hv20 hvN
          generalize eK : (if ((fC_gatherCandidates x1 g N).1) < x2 then ((fC_gatherCandidates x1 g N).1) else x2).toNatClampNeg = K at hw hF hm20
          refine lv_astore (lv' := [(7, .ref (qc)), (6, .int ((fC_gatherCandidates x1 g N).1)), (5, .int 1), (0, .ref (ad 0 0)), (1, .int x1), (2, .int x2), (3, .long x3)]) hx hb d_C_round_98 hl (by decide) rfl (fun ls hl => ?_)
          refine lv_aload_n hx hb d_C_round_100 rfl (lv_at hl 3 rfl) ?_
          refine gCC_2 (Y := ((qc, .inl (tc 0, K, .inl (g2 17 0))) :: Y)) h0 hw d_C_round_101 ?_
          refine lv_aload_n hx hb d_C_round_104 rfl (lv_at hl 3 rfl) ?_
          refine gCC_9 (Y := ((qc, .inl (tc 0, K, .inl (g2 17 0))) :: Y)) h0 hw d_C_round_105 ?_
          refine va_new (ci := 1) (fs := [.null, .null, .null, .null, .null, .null, .null, .null, .int 0, .int 0, .int 0]) (C := R_S) (T := F_S) (N := 11) hx hb hts i_S ty_S ty_S_ok hown (hts _ wd_29) (hts _ wd_389) (hts _ wd_15) hK hw.1 hw.2.1 hw.2.2 hA rfl (fun j hj => by rcases (show j = 0 ∨ j = 1 ∨ j = 2 ∨ j = 3 ∨ j = 4 ∨ j = 5 ∨ j = 6 ∨ j = 7 ∨ j = 8 ∨ j = 9 ∨ j = 10 by omega) with rfl | rfl | rfl | rfl | rfl | rfl | rfl | rfl | rfl | rfl | rfl <;> rfl) (Nat.le_of_ble_eq_true rfl) (Nat.le_of_ble_eq_true rfl) d_C_round_108 (fun q H hP hD hS => ?_)
          have hw : wH D A s.heap ([(q, .inr (1, [.null, .null, .null, .null, .null, .null, .null, .null, .int 0, .int 0, .int 0])), (qc, .inl (tc 0, K, .inl (g2 17 0)))] ++ (cl tc g2 N ad ++ Y)) H _ := ⟨bw_P (rd_perm _ _ _ _) hP, bw_D (rd_perm _ _ _ _) hD, hS⟩
          refine lv_dup hx hb d_C_round_111 rfl ?_
          refine lv_aload hx hb d_C_round_112 (lv_at hl 0 rfl) ?_
          refine dn_c (n := 1) (b := q) (As := [.ref qc]) (rest := [.ref q, .int (g2 0 0 2), .ref (ad 0 3)]) h0 hN hw hA (cS_init l D tc (cl tc g2 N ad ++ Y) H.size q qc K (g2 17 0) hm20) wd_392 wn_390 wd_15 wd_391 rfl (by decide +kernel) ⟨rfl, rfl, (Nat.le_of_ble_eq_true rfl), (Nat.le_of_ble_eq_true rfl), (Nat.le_of_ble_eq_true rfl), (Nat.le_of_ble_eq_true rfl)⟩ rfl hl.1 rfl (Nat.le_of_ble_eq_true rfl) d_C_round_114 (fun u H locs _ hw => ?_)
          refine va_astq hx hb hK hw.1 hw.2.1 hw.2.2 (bw_o (cb tc g2 N ad) 3 + 0 + 9) 5 0 1 (cA := tc 5) (r := (R_S, F_S, 11)) (n := 20) (f := fun i => if i < N 2 then some (ad 4 i) else none) (bw_get (bs := cb tc g2 N ad) (j := 3) (i := 0) rfl Nat.one_pos Y) rfl rfl rfl hv20 d_C_round_117 (fun H locs hP hD hS => ?_)
          rw [hvN] at hP hD
          have hw : wH D A s.heap (cl tc (ns_g N g2 (g2 17 0)) (ns_N N K) (ns_a N ad q qc u) ++ Y) H locs := ⟨bw_P ns_w hP, bw_D ns_w hD, hS⟩
          refine lv_aload_n hx hb d_C_round_118 rfl (lv_at hl 3 rfl) ?_
          refine lv_dup hx hb d_C_round_119 rfl ?_
          refine gCC_9 (ad := (ns_a N ad q qc u)) h0 hw d_C_round_120 ?_
          refine W.eq (g2 := F0 m 123 ls [.int (g2 0 0 2), .ref (ad 0 0)]) rfl ?_
          refine lv_iconst (v := 1) hx hb d_C_round_123 (by decide) ?_
          refine lv_iadd hx hb d_C_round_124 ?_
          refine pCC_9 (ad := (ns_a N ad q qc u)) h0 hw d_C_round_125 (fun H locs hw => ?_)
          refine lv_aload_n hx hb d_C_round_128 rfl (lv_at hl 3 rfl) ?_
          refine gCC_9 (ad := (ns_a N ad q qc u)) h0 hw d_C_round_129 ?_
          refine W.eq (g2 := F0 m 132 ls [.int ((g2 0 0 2) + 1)]) rfl ?_
          exact vx_ret (rt_i h0 hw hr hlocks rfl (u3 (ns_g N g2 (g2 17 0)) 0 0 2 ((g2 0 0 2) + 1), ns_N N K, (ns_a N ad q qc u)) ⟨hF, rfl⟩ rfl d_C_round_132 (Nat.le_of_ble_eq_true rfl) (Nat.le_of_ble_eq_true rfl))
        · have hok := hok.2 c_7
          have hF := (if_neg c_7).symm.trans hF
          exact th_S hlt h0 rfl hX hw (by decide +kernel) wd_191 wd_8 (q9 := 16) rfl at_uoe ag_uoe hl.1 d_C_round_75 d_C_round_78 d_C_round_79 d_C_round_81 d_C_round_84 htab hlocks ⟨(Nat.le_of_ble_eq_true rfl), (Nat.le_of_ble_eq_true rfl), (Nat.le_of_ble_eq_true rfl), (Nat.le_of_ble_eq_true rfl)⟩ ((fC_gatherCandidates x1 g N).2, N, ad) ⟨hF, rfl⟩ rfl (Nat.le_of_ble_eq_true rfl) (Nat.le_of_ble_eq_true rfl)
      · have hok := hok.1 c_6
        have hF := (if_pos c_6).symm.trans hF
        exact th_S hlt h0 rfl hX hw (by decide +kernel) wd_288 wd_11 (q9 := 15) rfl at_ise ag_ise hl.1 d_C_round_56 d_C_round_59 d_C_round_60 d_C_round_62 d_C_round_65 htab hlocks ⟨(Nat.le_of_ble_eq_true rfl), (Nat.le_of_ble_eq_true rfl), (Nat.le_of_ble_eq_true rfl), (Nat.le_of_ble_eq_true rfl)⟩ ((fC_gatherCandidates x1 g N).2, N, ad) ⟨hF, rfl⟩ rfl (Nat.le_of_ble_eq_true rfl) (Nat.le_of_ble_eq_true rfl)
    · have hok := hok.1 c_3
      have hF := (if_pos c_3).symm.trans hF
      exact th_S hlt h0 rfl hX hw (by decide +kernel) wd_175 wd_7 (q9 := 14) rfl at_iae ag_iae hl.1 d_C_round_34 d_C_round_37 d_C_round_38 d_C_round_40 d_C_round_43 htab hlocks ⟨(Nat.le_of_ble_eq_true rfl), (Nat.le_of_ble_eq_true rfl), (Nat.le_of_ble_eq_true rfl), (Nat.le_of_ble_eq_true rfl)⟩ (g, N, ad) ⟨hF, rfl⟩ rfl (Nat.le_of_ble_eq_true rfl) (Nat.le_of_ble_eq_true rfl)
  · have hok := hok.2 c_1
    have hF := (if_neg c_1).symm.trans hF
    refine lv_iload_n hx hb d_C_round_5 rfl (lv_at hl 1 rfl) ?_
    obtain ⟨hi_8, hok⟩ := hok
    refine cs_p (n := 1) (As := [.int x1]) (rest := []) hx hb hml hown hts (cC_isKind l x1 hi_8 rfl) (gd_S wd_172 wd_173 wd_1 wd_174) (by decide +kernel) ⟨rfl, rfl, (Nat.le_of_ble_eq_true rfl), (Nat.le_of_ble_eq_true rfl), (Nat.le_of_ble_eq_true rfl), (Nat.le_of_ble_eq_true rfl)⟩ rfl hl.1 rfl (Nat.le_of_ble_eq_true rfl) d_C_round_6 ?_
    refine lv_if_eq (tgt := 16) hx hb d_C_round_9 (by decide) (fun c_9 => ?_) (fun c_9 => ?_)
    · have hok := hok.1 c_9
      have hF := (if_pos c_9).symm.trans hF
      refine lv_iconst (v := 0) hx hb d_C_round_16 (by decide) ?_
      refine lv_istore (lv' := [(5, .int 0), (0, .ref (ad 0 0)), (1, .int x1), (2, .int x2), (3, .long x3)]) hx hb d_C_round_17 hl (by decide) rfl (fun ls hl => ?_)
      refine lv_iload hx hb d_C_round_19 (lv_at hl 0 rfl) ?_
      refine lv_if_eq (tgt := 34) hx hb d_C_round_21 (by decide) (fun _ => ?_) (fun c_0 => absurd c_0 (by decide))
      exact th_S hlt h0 rfl hX hw (by decide +kernel) wd_175 wd_7 (q9 := 14) rfl at_iae ag_iae hl.1 d_C_round_34 d_C_round_37 d_C_round_38 d_C_round_40 d_C_round_43 htab hlocks ⟨(Nat.le_of_ble_eq_true rfl), (Nat.le_of_ble_eq_true rfl), (Nat.le_of_ble_eq_true rfl), (Nat.le_of_ble_eq_true rfl)⟩ (g, N, ad) ⟨hF, rfl⟩ rfl (Nat.le_of_ble_eq_true rfl) (Nat.le_of_ble_eq_true rfl)
    · have hok := hok.2 c_9
      have hF := (if_neg c_9).symm.trans hF
      refine lv_iconst (v := 1) hx hb d_C_round_12 (by decide) ?_
      refine lv_goto (tgt := 17) hx hb d_C_round_13 (by decide) ?_
      refine lv_istore (lv' := [(5, .int 1), (0, .ref (ad 0 0)), (1, .int x1), (2, .int x2), (3, .long x3)]) hx hb d_C_round_17 hl (by decide) rfl (fun ls hl => ?_)
      refine lv_iload hx hb d_C_round_19 (lv_at hl 0 rfl) ?_
      refine lv_if_eq (tgt := 34) hx hb d_C_round_21 (by decide) (fun c_0 => absurd c_0 (by decide)) (fun _ => ?_)
      refine lv_iload_n hx hb d_C_round_24 rfl (lv_at hl 3 rfl) ?_
      refine lv_iconst (v := 1) hx hb d_C_round_25 (by decide) ?_
      refine lv_bipush (v := 20) hx hb d_C_round_26 (by decide) ?_
      obtain ⟨hi_10, hok⟩ := hok
      refine cs_p (n := 3) (As := [.int x2, .int 1, .int 20]) (rest := []) hx hb hml hown hts (cC_isWithin l x2 1 20 hi_10 rfl) (gd_S wd_90 wd_91 wd_1 wd_92) (by decide +kernel) ⟨rfl, rfl, (Nat.le_of_ble_eq_true rfl), (Nat.le_of_ble_eq_true rfl), (Nat.le_of_ble_eq_true rfl), (Nat.le_of_ble_eq_true rfl)⟩ rfl hl.1 rfl (Nat.le_of_ble_eq_true rfl) d_C_round_28 ?_
      refine lv_if_ne (tgt := 44) hx hb d_C_round_31 (by decide) (fun c_11 => ?_) (fun c_11 => ?_)
      · have hok := hok.2 c_11
        have hF := (if_neg c_11).symm.trans hF
        refine lv_aload_n hx hb d_C_round_44 rfl (lv_at hl 1 rfl) ?_
        refine lv_iload_n hx hb d_C_round_45 rfl (lv_at hl 2 rfl) ?_
        obtain ⟨hi_12, hok⟩ := hok
        refine dv_i (wd := fun u => cl tc u N ad ++ Y) (n := 1) (C := "CountRounds") (b := ad 0 0) (q0 := bw_o (cb tc g N ad) 0 + 0) (ci := 3) (As := [.int x1]) (rest := []) h0 hX hw hA (cC_gatherCandidates l D tc sa ad Y H.size x1 g N hi_12 rfl) (gd_V wd_367 wd_369 (gw_s 5 rfl rfl) wd_1 wd_370) (by decide +kernel) ⟨rfl, rfl, (Nat.le_of_ble_eq_true rfl), (Nat.le_of_ble_eq_true rfl), (Nat.le_of_ble_eq_true rfl), (Nat.le_of_ble_eq_true rfl)⟩ (bw_get (bs := cb tc g N ad) (j := 0) rfl Nat.one_pos Y) rfl rfl hl.1 rfl (Nat.le_of_ble_eq_true rfl) d_C_round_46 (fun r u H locs hu hw => ?_)
        have hu13 := congrArg Prod.fst hu
        have hv13 := congrArg Prod.snd hu
        dsimp only at hu13 hv13
        subst hu13
        subst hv13
        refine lv_istore (lv' := [(6, .int ((fC_gatherCandidates x1 g N).1)), (5, .int 1), (0, .ref (ad 0 0)), (1, .int x1), (2, .int x2), (3, .long x3)]) hx hb d_C_round_49 hl (by decide) rfl (fun ls hl => ?_)
        refine lv_iload hx hb d_C_round_51 (lv_at hl 0 rfl) ?_
        refine lv_if_ne (tgt := 66) hx hb d_C_round_53 (by decide) (fun c_14 => ?_) (fun c_14 => ?_)
        · have hok := hok.2 c_14
          have hF := (if_neg c_14).symm.trans hF
          refine lv_aload_n hx hb d_C_round_66 rfl (lv_at hl 2 rfl) ?_
          refine gCC_9 h0 hw d_C_round_67 ?_
          refine lv_bipush (v := 20) hx hb d_C_round_70 (by decide) ?_
          refine lv_icmp_lt (tgt := 85) hx hb d_C_round_72 (by decide) (fun c_15 => ?_) (fun c_15 => ?_)
          · have hok := hok.1 c_15
            have hF := (if_pos c_15).symm.trans hF
            refine lv_aload_n hx hb d_C_round_85 rfl (lv_at hl 2 rfl) ?_
            refine lv_iload hx hb d_C_round_86 (lv_at hl 0 rfl) ?_
            refine lv_iload_n hx hb d_C_round_88 rfl (lv_at hl 4 rfl) ?_
            refine lv_iload hx hb d_C_round_89 (lv_at hl 0 rfl) ?_
            refine va_mmin hx hb (hml.trans hl.1.symm) hown (hts _ wd_373) (hts _ wd_374) (hts _ wd_13) (hts _ wd_375) (Nat.le_of_ble_eq_true rfl) (Nat.le_of_ble_eq_true rfl) (Nat.le_of_ble_eq_true rfl) (Nat.le_of_ble_eq_true rfl) d_C_round_91 ?_
            refine lv_lload_n hx hb d_C_round_94 rfl (lv_at hl 5 rfl) ?_
            obtain ⟨hm0, hm20, hkc, hv20, hvN⟩ := hok
            refine dv_r (wd := fun u q => cl tc u N ad ++ ((q, .inl (tc 0, (if ((fC_gatherCandidates x1 g N).1) < x2 then ((fC_gatherCandidates x1 g N).1) else x2).toNatClampNeg, .inl (u 17 0))) :: Y)) (n := 3) (C := "CountRounds") (b := ad 0 0) (q0 := bw_o (cb tc (fC_gatherCandidates x1 g N).2 N ad) 0 + 0) (ci := 3) (As := [.int ((fC_gatherCandidates x1 g N).1), .int (if ((fC_gatherCandidates x1 g N).1) < x2 then ((fC_gatherCandidates x1 g N).1) else x2), .long x3]) (rest := []) h0 hX hw hA (cC_chooseCandidates l D tc sa ad Y H.size ((fC_gatherCandidates x1 g N).1) (if ((fC_gatherCandidates x1 g N).1) < x2 then ((fC_gatherCandidates x1 g N).1) else x2) x3 (fC_gatherCandidates x1 g N).2 N (if ((fC_gatherCandidates x1 g N).1) < x2 then ((fC_gatherCandidates x1 g N).1) else x2).toNatClampNeg hm0 rfl hm20 hkc rfl) (gd_V wd_376 wd_378 (gw_s 6 rfl rfl) wd_1 wd_379) (by decide +kernel) ⟨rfl, rfl, (Nat.le_of_ble_eq_true rfl), (Nat.le_of_ble_eq_true rfl), (Nat.le_of_ble_eq_true rfl), (Nat.le_of_ble_eq_true rfl)⟩ (bw_get (bs := cb tc (fC_gatherCandidates x1 g N).2 N ad) (j := 0) rfl Nat.one_pos Y) rfl rfl hl.1 rfl (Nat.le_of_ble_eq_true rfl) d_C_round_95 (fun u qc H locs hu hw => ?_)
            subst hu
            generalize eG : (fC_chooseCandidates ((fC_gatherCandidates x1 g N).1) (if ((fC_gatherCandidates x1 g N).1) < x2 then ((fC_gatherCandidates x1 g N).1) else x2) x3 (fC_gatherCandidates x1 g N).2 N (if ((fC_gatherCandidates x1 g N).1) < x2 then ((fC_gatherCandidates x1 g N).1) else x2).toNatClampNeg) = g2 at hw hF hv20 hvN
            generalize eK : (if ((fC_gatherCandidates x1 g N).1) < x2 then ((fC_gatherCandidates x1 g N).1) else x2).toNatClampNeg = K at hw hF hm20
            refine lv_astore (lv' := [(7, .ref (qc)), (6, .int ((fC_gatherCandidates x1 g N).1)), (5, .int 1), (0, .ref (ad 0 0)), (1, .int x1), (2, .int x2), (3, .long x3)]) hx hb d_C_round_98 hl (by decide) rfl (fun ls hl => ?_)
            refine lv_aload_n hx hb d_C_round_100 rfl (lv_at hl 3 rfl) ?_
            refine gCC_2 (Y := ((qc, .inl (tc 0, K, .inl (g2 17 0))) :: Y)) h0 hw d_C_round_101 ?_
            refine lv_aload_n hx hb d_C_round_104 rfl (lv_at hl 3 rfl) ?_
            refine gCC_9 (Y := ((qc, .inl (tc 0, K, .inl (g2 17 0))) :: Y)) h0 hw d_C_round_105 ?_
            refine va_new (ci := 1) (fs := [.null, .null, .null, .null, .null, .null, .null, .null, .int 0, .int 0, .int 0]) (C := R_S) (T := F_S) (N := 11) hx hb hts i_S ty_S ty_S_ok hown (hts _ wd_29) (hts _ wd_389) (hts _ wd_15) hK hw.1 hw.2.1 hw.2.2 hA rfl (fun j hj => by rcases (show j = 0 ∨ j = 1 ∨ j = 2 ∨ j = 3 ∨ j = 4 ∨ j = 5 ∨ j = 6 ∨ j = 7 ∨ j = 8 ∨ j = 9 ∨ j = 10 by omega) with rfl | rfl | rfl | rfl | rfl | rfl | rfl | rfl | rfl | rfl | rfl <;> rfl) (Nat.le_of_ble_eq_true rfl) (Nat.le_of_ble_eq_true rfl) d_C_round_108 (fun q H hP hD hS => ?_)
            have hw : wH D A s.heap ([(q, .inr (1, [.null, .null, .null, .null, .null, .null, .null, .null, .int 0, .int 0, .int 0])), (qc, .inl (tc 0, K, .inl (g2 17 0)))] ++ (cl tc g2 N ad ++ Y)) H _ := ⟨bw_P (rd_perm _ _ _ _) hP, bw_D (rd_perm _ _ _ _) hD, hS⟩
            refine lv_dup hx hb d_C_round_111 rfl ?_
            refine lv_aload hx hb d_C_round_112 (lv_at hl 0 rfl) ?_
            refine dn_c (n := 1) (b := q) (As := [.ref qc]) (rest := [.ref q, .int (g2 0 0 2), .ref (ad 0 3)]) h0 hN hw hA (cS_init l D tc (cl tc g2 N ad ++ Y) H.size q qc K (g2 17 0) hm20) wd_392 wn_390 wd_15 wd_391 rfl (by decide +kernel) ⟨rfl, rfl, (Nat.le_of_ble_eq_true rfl), (Nat.le_of_ble_eq_true rfl), (Nat.le_of_ble_eq_true rfl), (Nat.le_of_ble_eq_true rfl)⟩ rfl hl.1 rfl (Nat.le_of_ble_eq_true rfl) d_C_round_114 (fun u H locs _ hw => ?_)
            refine va_astq hx hb hK hw.1 hw.2.1 hw.2.2 (bw_o (cb tc g2 N ad) 3 + 0 + 9) 5 0 1 (cA := tc 5) (r := (R_S, F_S, 11)) (n := 20) (f := fun i => if i < N 2 then some (ad 4 i) else none) (bw_get (bs := cb tc g2 N ad) (j := 3) (i := 0) rfl Nat.one_pos Y) rfl rfl rfl hv20 d_C_round_117 (fun H locs hP hD hS => ?_)
            rw [hvN] at hP hD
            have hw : wH D A s.heap (cl tc (ns_g N g2 (g2 17 0)) (ns_N N K) (ns_a N ad q qc u) ++ Y) H locs := ⟨bw_P ns_w hP, bw_D ns_w hD, hS⟩
            refine lv_aload_n hx hb d_C_round_118 rfl (lv_at hl 3 rfl) ?_
            refine lv_dup hx hb d_C_round_119 rfl ?_
            refine gCC_9 (ad := (ns_a N ad q qc u)) h0 hw d_C_round_120 ?_
            refine W.eq (g2 := F0 m 123 ls [.int (g2 0 0 2), .ref (ad 0 0)]) rfl ?_
            refine lv_iconst (v := 1) hx hb d_C_round_123 (by decide) ?_
            refine lv_iadd hx hb d_C_round_124 ?_
            refine pCC_9 (ad := (ns_a N ad q qc u)) h0 hw d_C_round_125 (fun H locs hw => ?_)
            refine lv_aload_n hx hb d_C_round_128 rfl (lv_at hl 3 rfl) ?_
            refine gCC_9 (ad := (ns_a N ad q qc u)) h0 hw d_C_round_129 ?_
            refine W.eq (g2 := F0 m 132 ls [.int ((g2 0 0 2) + 1)]) rfl ?_
            exact vx_ret (rt_i h0 hw hr hlocks rfl (u3 (ns_g N g2 (g2 17 0)) 0 0 2 ((g2 0 0 2) + 1), ns_N N K, (ns_a N ad q qc u)) ⟨hF, rfl⟩ rfl d_C_round_132 (Nat.le_of_ble_eq_true rfl) (Nat.le_of_ble_eq_true rfl))
          · have hok := hok.2 c_15
            have hF := (if_neg c_15).symm.trans hF
            exact th_S hlt h0 rfl hX hw (by decide +kernel) wd_191 wd_8 (q9 := 16) rfl at_uoe ag_uoe hl.1 d_C_round_75 d_C_round_78 d_C_round_79 d_C_round_81 d_C_round_84 htab hlocks ⟨(Nat.le_of_ble_eq_true rfl), (Nat.le_of_ble_eq_true rfl), (Nat.le_of_ble_eq_true rfl), (Nat.le_of_ble_eq_true rfl)⟩ ((fC_gatherCandidates x1 g N).2, N, ad) ⟨hF, rfl⟩ rfl (Nat.le_of_ble_eq_true rfl) (Nat.le_of_ble_eq_true rfl)
        · have hok := hok.1 c_14
          have hF := (if_pos c_14).symm.trans hF
          exact th_S hlt h0 rfl hX hw (by decide +kernel) wd_288 wd_11 (q9 := 15) rfl at_ise ag_ise hl.1 d_C_round_56 d_C_round_59 d_C_round_60 d_C_round_62 d_C_round_65 htab hlocks ⟨(Nat.le_of_ble_eq_true rfl), (Nat.le_of_ble_eq_true rfl), (Nat.le_of_ble_eq_true rfl), (Nat.le_of_ble_eq_true rfl)⟩ ((fC_gatherCandidates x1 g N).2, N, ad) ⟨hF, rfl⟩ rfl (Nat.le_of_ble_eq_true rfl) (Nat.le_of_ble_eq_true rfl)
      · have hok := hok.1 c_11
        have hF := (if_pos c_11).symm.trans hF
        exact th_S hlt h0 rfl hX hw (by decide +kernel) wd_175 wd_7 (q9 := 14) rfl at_iae ag_iae hl.1 d_C_round_34 d_C_round_37 d_C_round_38 d_C_round_40 d_C_round_43 htab hlocks ⟨(Nat.le_of_ble_eq_true rfl), (Nat.le_of_ble_eq_true rfl), (Nat.le_of_ble_eq_true rfl), (Nat.le_of_ble_eq_true rfl)⟩ (g, N, ad) ⟨hF, rfl⟩ rfl (Nat.le_of_ble_eq_true rfl) (Nat.le_of_ble_eq_true rfl)
