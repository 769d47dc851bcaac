section RX
variable {p : Program} {l : Launch} {e : Env} {R : Room} {s : State} {m : MethodId} {args : Array Value} {below : List Frame} {meth : Method} {c : Code} {cells slots : Nat} {cc : ByteArray} {pc : Nat} {ls : Array Slot} {A : Nat → Prop}
theorem rx_r {P : Prop} {v : Nat} {r : Value} {ty : FieldType} {mc ms : Nat} (hx : p.tables.exec = Jvm.exec) (hb : c.code = cc) (hr : meth.sig.returnType = some ty) (hlocks : meth.locks = false) (hn : (∃ n, ty = .object n) ∨ ∃ t, ty = .array t) (hp : P) (hv : r = .ref v) (hd : decode cc pc = .ok (.areturn, 1)) (hc : cells ≤ mc) (hs : slots ≤ ms) : W p l e R s m args below meth c s.heap [] cells slots (MQ below (fun a st oc t => P ∧ qP r a st oc t) args s mc ms A) (F0 m pc ls [.ref v]) := by
  refine W.widen hc hs ?_
  exact W.aret (v := .ref v) hx hb hr hn (Or.inr ⟨v, rfl⟩) (fun t ht _ => ⟨hp, by rw [hv], ht⟩) (fun q hq => nomatch hq) hd
end RX
def kC_placeNumbered_x (x1 : Int32) (g : Nat → Nat → Nat → Int32) (N : Nat → Nat) : Prop := (kC_isWithin x1 0 ((g 0 0 0) - 1)) ∧ (((fC_isWithin x1 0 ((g 0 0 0) - 1)) = 0 → True) ∧ (¬ ((fC_isWithin x1 0 ((g 0 0 0) - 1)) = 0) → (vp_in x1 20) ∧ (x1.toNatClampNeg < N 0) ∧ (True)))
def kC_transferNumbered_x (x1 : Int32) (g : Nat → Nat → Nat → Int32) (N : Nat → Nat) : Prop := (kC_isWithin x1 1 (g 0 0 1)) ∧ (((fC_isWithin x1 1 (g 0 0 1)) = 0 → True) ∧ (¬ ((fC_isWithin x1 1 (g 0 0 1)) = 0) → (vp_in (x1 - 1) 60) ∧ ((x1 - 1).toNatClampNeg < N 1) ∧ (True)))
def kC_sheetNumbered_x (x1 : Int32) (g : Nat → Nat → Nat → Int32) (N : Nat → Nat) : Prop := (kC_isWithin x1 1 (g 0 0 2)) ∧ (((fC_isWithin x1 1 (g 0 0 2)) = 0 → True) ∧ (¬ ((fC_isWithin x1 1 (g 0 0 2)) = 0) → (vp_in (x1 - 1) 20) ∧ ((x1 - 1).toNatClampNeg < N 2) ∧ (True)))
set_option maxHeartbeats 4000000 in
set_option maxRecDepth 100000 in
theorem xC_placeNumbered (l : Launch) (hlt : l.stackTraces = false) (D : va_G) (tc : Nat → ClassId) (sa : Nat → Nat) (ad : Nat → Nat → Nat) (Y : va_W) (sz : Nat) (x1 : Int32) (g : Nat → Nat → Nat → Int32) (N : Nat → Nat) (hok : kC_placeNumbered_x x1 g N) : vx_Met l y_C_placeNumbered (Cond.code y_C_placeNumbered b_C_placeNumbered 3 (some (.object "CountRounds$Place")) :: gw) ({ frames := 6, cells := 1, slots := 6, locals := 82 } : Room) (va_Pc [.ref (ad 0 0), .int x1] (pC D tc sa (cl tc g N ad ++ Y) sz)) (fun a st oc t => (¬ (fC_isWithin x1 0 ((g 0 0 0) - 1)) = 0) ∧ qP (.ref (ad 1 x1.toNatClampNeg)) a st oc t) (xC D tc (va_A (cl tc g N ad ++ Y) sz) (fun E (_ : Unit) => (fC_isWithin x1 0 ((g 0 0 0) - 1)) = 0 ∧ E = "java/util/NoSuchElementException") (fun _ => cl tc g N ad ++ Y)) 1 6 (va_A (cl tc g N ad ++ Y) sz) := by
  refine en_X (by decide) (Nat.le_of_ble_eq_true rfl) ?_
  intro p e s m args below meth c ls h0 hN hX hr hlocks htab hsz hw hl
  obtain ⟨hx, hb, hml, hown, hts, hK⟩ := id h0
  generalize va_A (cl tc g N ad ++ Y) sz = A at hw hX ⊢
  have hl : lv_has ls 3 [(0, .ref (ad 0 0)), (1, .int x1)] := hl
  unfold kC_placeNumbered_x at hok
  refine lv_iload_n hx hb d_C_placeNumbered_0 rfl (lv_at hl 1 rfl) ?_
  refine lv_iconst (v := 0) hx hb d_C_placeNumbered_1 (by decide) ?_
  refine lv_aload_n hx hb d_C_placeNumbered_2 rfl (lv_at hl 0 rfl) ?_
  refine gCC_7 h0 hw d_C_placeNumbered_3 ?_
  refine lv_iconst (v := 1) hx hb d_C_placeNumbered_6 (by decide) ?_
  refine lv_isub hx hb d_C_placeNumbered_7 ?_
  obtain ⟨hi_1, hok⟩ := hok
  refine cs_p (n := 3) (As := [.int x1, .int 0, .int ((g 0 0 0) - 1)]) (rest := []) hx hb hml hown hts (cC_isWithin l x1 0 ((g 0 0 0) - 1) hi_1 rfl) (gd_S wd_90 wd_91 wd_1 wd_92) (by decide +kernel) ⟨rfl, rfl, (Nat.le_of_ble_eq_true rfl), (Nat.le_of_ble_eq_true rfl), (Nat.le_of_ble_eq_true rfl), (Nat.le_of_ble_eq_true rfl)⟩ rfl hl.1 rfl (Nat.le_of_ble_eq_true rfl) d_C_placeNumbered_8 ?_
  refine lv_if_eq (tgt := 23) hx hb d_C_placeNumbered_11 (by decide) (fun c_2 => ?_) (fun c_2 => ?_)
  · have hok := hok.1 c_2
    refine lv_null hx hb d_C_placeNumbered_23 ?_
    refine lv_astore_nN (lv' := [(2, .null), (0, .ref (ad 0 0)), (1, .int x1)]) hx hb d_C_placeNumbered_24 rfl hl (by decide) rfl (fun ls hl => ?_)
    refine lv_aload_nN hx hb d_C_placeNumbered_25 rfl (lv_at hl 0 rfl) ?_
    refine lv_ifnonnullN hx hb d_C_placeNumbered_26 ?_
    exact tn_W hlt h0 rfl hX hw wd_93 wd_10 (q9 := 3) rfl rfl rfl hl.1 d_C_placeNumbered_29 d_C_placeNumbered_32 d_C_placeNumbered_33 d_C_placeNumbered_36 d_C_placeNumbered_39 htab hlocks ⟨(Nat.le_of_ble_eq_true rfl), (Nat.le_of_ble_eq_true rfl), (Nat.le_of_ble_eq_true rfl), (Nat.le_of_ble_eq_true rfl)⟩ () ⟨c_2, rfl⟩ rfl (Nat.le_of_ble_eq_true rfl) (Nat.le_of_ble_eq_true rfl)
  · have hok := hok.2 c_2
    refine lv_aload_n hx hb d_C_placeNumbered_14 rfl (lv_at hl 0 rfl) ?_
    refine gCC_0 h0 hw d_C_placeNumbered_15 ?_
    refine lv_iload_n hx hb d_C_placeNumbered_18 rfl (lv_at hl 1 rfl) ?_
    obtain ⟨hi_3, hi_4, hok⟩ := hok
    refine l_places h0 hw hi_3 hi_4 d_C_placeNumbered_19 ?_
    refine lv_goto (tgt := 24) hx hb d_C_placeNumbered_20 (by decide) ?_
    refine lv_astore_n (lv' := [(2, .ref (ad 1 x1.toNatClampNeg)), (0, .ref (ad 0 0)), (1, .int x1)]) hx hb d_C_placeNumbered_24 rfl hl (by decide) rfl (fun ls hl => ?_)
    refine lv_aload_n hx hb d_C_placeNumbered_25 rfl (lv_at hl 0 rfl) ?_
    refine lv_ifnonnull (tgt := 40) hx hb d_C_placeNumbered_26 (by decide) ?_
    refine lv_aload_n hx hb d_C_placeNumbered_40 rfl (lv_at hl 0 rfl) ?_
    exact vx_ret (rx_r hx hb hr hlocks (Or.inl ⟨_, rfl⟩) c_2 rfl d_C_placeNumbered_41 (Nat.le_of_ble_eq_true rfl) (Nat.le_of_ble_eq_true rfl))
set_option maxHeartbeats 4000000 in
set_option maxRecDepth 100000 in
theorem xC_transferNumbered (l : Launch) (hlt : l.stackTraces = false) (D : va_G) (tc : Nat → ClassId) (sa : Nat → Nat) (ad : Nat → Nat → Nat) (Y : va_W) (sz : Nat) (x1 : Int32) (g : Nat → Nat → Nat → Int32) (N : Nat → Nat) (hok : kC_transferNumbered_x x1 g N) : vx_Met l y_C_transferNumbered (Cond.code y_C_transferNumbered b_C_transferNumbered 3 (some (.object "CountRounds$Transfer")) :: gw) ({ frames := 6, cells := 1, slots := 6, locals := 82 } : Room) (va_Pc [.ref (ad 0 0), .int x1] (pC D tc sa (cl tc g N ad ++ Y) sz)) (fun a st oc t => (¬ (fC_isWithin x1 1 (g 0 0 1)) = 0) ∧ qP (.ref (ad 3 (x1 - 1).toNatClampNeg)) a st oc t) (xC D tc (va_A (cl tc g N ad ++ Y) sz) (fun E (_ : Unit) => (fC_isWithin x1 1 (g 0 0 1)) = 0 ∧ E = "java/util/NoSuchElementException") (fun _ => cl tc g N ad ++ Y)) 1 6 (va_A (cl tc g N ad ++ Y) sz) := by
  refine en_X (by decide) (Nat.le_of_ble_eq_true rfl) ?_
  intro p e s m args below meth c ls h0 hN hX hr hlocks htab hsz hw hl
  obtain ⟨hx, hb, hml, hown, hts, hK⟩ := id h0
  generalize va_A (cl tc g N ad ++ Y) sz = A at hw hX ⊢
  have hl : lv_has ls 3 [(0, .ref (ad 0 0)), (1, .int x1)] := hl
  unfold kC_transferNumbered_x at hok
  refine lv_iload_n hx hb d_C_transferNumbered_0 rfl (lv_at hl 1 rfl) ?_
  refine lv_iconst (v := 1) hx hb d_C_transferNumbered_1 (by decide) ?_
  refine lv_aload_n hx hb d_C_transferNumbered_2 rfl (lv_at hl 0 rfl) ?_
  refine gCC_8 h0 hw d_C_transferNumbered_3 ?_
  obtain ⟨hi_1, hok⟩ := hok
  refine cs_p (n := 3) (As := [.int x1, .int 1, .int (g 0 0 1)]) (rest := []) hx hb hml hown hts (cC_isWithin l x1 1 (g 0 0 1) hi_1 rfl) (gd_S wd_90 wd_91 wd_1 wd_92) (by decide +kernel) ⟨rfl, rfl, (Nat.le_of_ble_eq_true rfl), (Nat.le_of_ble_eq_true rfl), (Nat.le_of_ble_eq_true rfl), (Nat.le_of_ble_eq_true rfl)⟩ rfl hl.1 rfl (Nat.le_of_ble_eq_true rfl) d_C_transferNumbered_6 ?_
  refine lv_if_eq (tgt := 23) hx hb d_C_transferNumbered_9 (by decide) (fun c_2 => ?_) (fun c_2 => ?_)
  · have hok := hok.1 c_2
    refine lv_null hx hb d_C_transferNumbered_23 ?_
    refine lv_astore_nN (lv' := [(2, .null), (0, .ref (ad 0 0)), (1, .int x1)]) hx hb d_C_transferNumbered_24 rfl hl (by decide) rfl (fun ls hl => ?_)
    refine lv_aload_nN hx hb d_C_transferNumbered_25 rfl (lv_at hl 0 rfl) ?_
    refine lv_ifnonnullN hx hb d_C_transferNumbered_26 ?_
    exact tn_W hlt h0 rfl hX hw wd_93 wd_10 (q9 := 0) rfl rfl rfl hl.1 d_C_transferNumbered_29 d_C_transferNumbered_32 d_C_transferNumbered_33 d_C_transferNumbered_36 d_C_transferNumbered_39 htab hlocks ⟨(Nat.le_of_ble_eq_true rfl), (Nat.le_of_ble_eq_true rfl), (Nat.le_of_ble_eq_true rfl), (Nat.le_of_ble_eq_true rfl)⟩ () ⟨c_2, rfl⟩ rfl (Nat.le_of_ble_eq_true rfl) (Nat.le_of_ble_eq_true rfl)
  · have hok := hok.2 c_2
    refine lv_aload_n hx hb d_C_transferNumbered_12 rfl (lv_at hl 0 rfl) ?_
    refine gCC_1 h0 hw d_C_transferNumbered_13 ?_
    refine lv_iload_n hx hb d_C_transferNumbered_16 rfl (lv_at hl 1 rfl) ?_
    refine lv_iconst (v := 1) hx hb d_C_transferNumbered_17 (by decide) ?_
    refine lv_isub hx hb d_C_transferNumbered_18 ?_
    obtain ⟨hi_3, hi_4, hok⟩ := hok
    refine l_transfers h0 hw hi_3 hi_4 d_C_transferNumbered_19 ?_
    refine lv_goto (tgt := 24) hx hb d_C_transferNumbered_20 (by decide) ?_
    refine lv_astore_n (lv' := [(2, .ref (ad 3 ((x1 - 1).toNatClampNeg))), (0, .ref (ad 0 0)), (1, .int x1)]) hx hb d_C_transferNumbered_24 rfl hl (by decide) rfl (fun ls hl => ?_)
    refine lv_aload_n hx hb d_C_transferNumbered_25 rfl (lv_at hl 0 rfl) ?_
    refine lv_ifnonnull (tgt := 40) hx hb d_C_transferNumbered_26 (by decide) ?_
    refine lv_aload_n hx hb d_C_transferNumbered_40 rfl (lv_at hl 0 rfl) ?_
    exact vx_ret (rx_r hx hb hr hlocks (Or.inl ⟨_, rfl⟩) c_2 rfl d_C_transferNumbered_41 (Nat.le_of_ble_eq_true rfl) (Nat.le_of_ble_eq_true rfl))
set_option maxHeartbeats 4000000 in
set_option maxRecDepth 100000 in
theorem xC_sheetNumbered (l : Launch) (hlt : l.stackTraces = false) (D : va_G) (tc : Nat → ClassId) (sa : Nat → Nat) (ad : Nat → Nat → Nat) (Y : va_W) (sz : Nat) (x1 : Int32) (g : Nat → Nat → Nat → Int32) (N : Nat → Nat) (hok : kC_sheetNumbered_x x1 g N) : vx_Met l y_C_sheetNumbered (Cond.code y_C_sheetNumbered b_C_sheetNumbered 3 (some (.object "CountRounds$Sheet")) :: gw) ({ frames := 6, cells := 1, slots := 6, locals := 82 } : Room) (va_Pc [.ref (ad 0 0), .int x1] (pC D tc sa (cl tc g N ad ++ Y) sz)) (fun a st oc t => (¬ (fC_isWithin x1 1 (g 0 0 2)) = 0) ∧ qP (.ref (ad 4 (x1 - 1).toNatClampNeg)) a st oc t) (xC D tc (va_A (cl tc g N ad ++ Y) sz) (fun E (_ : Unit) => (fC_isWithin x1 1 (g 0 0 2)) = 0 ∧ E = "java/util/NoSuchElementException") (fun _ => cl tc g N ad ++ Y)) 1 6 (va_A (cl tc g N ad ++ Y) sz) := by
  refine en_X (by decide) (Nat.le_of_ble_eq_true rfl) ?_
  intro p e s m args below meth c ls h0 hN hX hr hlocks htab hsz hw hl
  obtain ⟨hx, hb, hml, hown, hts, hK⟩ := id h0
  generalize va_A (cl tc g N ad ++ Y) sz = A at hw hX ⊢
  have hl : lv_has ls 3 [(0, .ref (ad 0 0)), (1, .int x1)] := hl
  unfold kC_sheetNumbered_x at hok
  refine lv_iload_n hx hb d_C_sheetNumbered_0 rfl (lv_at hl 1 rfl) ?_
  refine lv_iconst (v := 1) hx hb d_C_sheetNumbered_1 (by decide) ?_
  refine lv_aload_n hx hb d_C_sheetNumbered_2 rfl (lv_at hl 0 rfl) ?_
  refine gCC_9 h0 hw d_C_sheetNumbered_3 ?_
  obtain ⟨hi_1, hok⟩ := hok
  refine cs_p (n := 3) (As := [.int x1, .int 1, .int (g 0 0 2)]) (rest := []) hx hb hml hown hts (cC_isWithin l x1 1 (g 0 0 2) hi_1 rfl) (gd_S wd_90 wd_91 wd_1 wd_92) (by decide +kernel) ⟨rfl, rfl, (Nat.le_of_ble_eq_true rfl), (Nat.le_of_ble_eq_true rfl), (Nat.le_of_ble_eq_true rfl), (Nat.le_of_ble_eq_true rfl)⟩ rfl hl.1 rfl (Nat.le_of_ble_eq_true rfl) d_C_sheetNumbered_6 ?_
  refine lv_if_eq (tgt := 23) hx hb d_C_sheetNumbered_9 (by decide) (fun c_2 => ?_) (fun c_2 => ?_)
  · have hok := hok.1 c_2
    refine lv_null hx hb d_C_sheetNumbered_23 ?_
    refine lv_astore_nN (lv' := [(2, .null), (0, .ref (ad 0 0)), (1, .int x1)]) hx hb d_C_sheetNumbered_24 rfl hl (by decide) rfl (fun ls hl => ?_)
    refine lv_aload_nN hx hb d_C_sheetNumbered_25 rfl (lv_at hl 0 rfl) ?_
    refine lv_ifnonnullN hx hb d_C_sheetNumbered_26 ?_
    exact tn_W hlt h0 rfl hX hw wd_93 wd_10 (q9 := 17) rfl rfl rfl hl.1 d_C_sheetNumbered_29 d_C_sheetNumbered_32 d_C_sheetNumbered_33 d_C_sheetNumbered_36 d_C_sheetNumbered_39 htab hlocks ⟨(Nat.le_of_ble_eq_true rfl), (Nat.le_of_ble_eq_true rfl), (Nat.le_of_ble_eq_true rfl), (Nat.le_of_ble_eq_true rfl)⟩ () ⟨c_2, rfl⟩ rfl (Nat.le_of_ble_eq_true rfl) (Nat.le_of_ble_eq_true rfl)
  · have hok := hok.2 c_2
    refine lv_aload_n hx hb d_C_sheetNumbered_12 rfl (lv_at hl 0 rfl) ?_
    refine gCC_2 h0 hw d_C_sheetNumbered_13 ?_
    refine lv_iload_n hx hb d_C_sheetNumbered_16 rfl (lv_at hl 1 rfl) ?_
    refine lv_iconst (v := 1) hx hb d_C_sheetNumbered_17 (by decide) ?_
    refine lv_isub hx hb d_C_sheetNumbered_18 ?_
    obtain ⟨hi_3, hi_4, hok⟩ := hok
    refine l_sheets h0 hw hi_3 hi_4 d_C_sheetNumbered_19 ?_
    refine lv_goto (tgt := 24) hx hb d_C_sheetNumbered_20 (by decide) ?_
    refine lv_astore_n (lv' := [(2, .ref (ad 4 ((x1 - 1).toNatClampNeg))), (0, .ref (ad 0 0)), (1, .int x1)]) hx hb d_C_sheetNumbered_24 rfl hl (by decide) rfl (fun ls hl => ?_)
    refine lv_aload_n hx hb d_C_sheetNumbered_25 rfl (lv_at hl 0 rfl) ?_
    refine lv_ifnonnull (tgt := 40) hx hb d_C_sheetNumbered_26 (by decide) ?_
    refine lv_aload_n hx hb d_C_sheetNumbered_40 rfl (lv_at hl 0 rfl) ?_
    exact vx_ret (rx_r hx hb hr hlocks (Or.inl ⟨_, rfl⟩) c_2 rfl d_C_sheetNumbered_41 (Nat.le_of_ble_eq_true rfl) (Nat.le_of_ble_eq_true rfl))
