def fC_stock (x1 : Int32) (x2 : Int32) (x3 : Int32) (g : Nat → Nat → Nat → Int32) (N : Nat → Nat) : Option String × Int32 × (Nat → Nat → Nat → Int32) := if (fC_isWithin x1 0 ((g 0 0 0) - 1)) = 0 then (some "java/util/NoSuchElementException", 0, g) else if (fC_isGood x2) = 0 then (some "java/lang/IllegalArgumentException", 0, g) else if (fC_isPieces x3) = 0 then (some "java/lang/IllegalArgumentException", 0, g) else (none, 0, (u3 g 6 x1.toNatClampNeg x2.toNatClampNeg x3))
def kC_stock (x1 : Int32) (x2 : Int32) (x3 : Int32) (g : Nat → Nat → Nat → Int32) (N : Nat → Nat) : Prop := kC_isWithin x1 0 ((g 0 0 0) - 1) ∧ (((fC_isWithin x1 0 ((g 0 0 0) - 1)) = 0 → True) ∧ (¬ ((fC_isWithin x1 0 ((g 0 0 0) - 1)) = 0) → (vp_in x1 20) ∧ (x1.toNatClampNeg < N 0) ∧ ((kC_isGood x2) ∧ (((fC_isGood x2) = 0 → True) ∧ (¬ ((fC_isGood x2) = 0) → (kC_isPieces x3) ∧ (((fC_isPieces x3) = 0 → True) ∧ (¬ ((fC_isPieces x3) = 0) → (vp_in x2 6) ∧ (True))))))))
def fC_end (x1 : Int32) (g : Nat → Nat → Nat → Int32) (N : Nat → Nat) : Option String × Int32 × (Nat → Nat → Nat → Int32) := if (fC_isWithin x1 1 (g 0 0 1)) = 0 then (some "java/util/NoSuchElementException", 0, g) else if (g 7 ((x1 - 1).toNatClampNeg) 4) = 0 then (some "java/lang/IllegalStateException", 0, g) else if (fC_isPieces ((g 6 ((g 7 ((x1 - 1).toNatClampNeg) 1).toNatClampNeg) ((g 7 ((x1 - 1).toNatClampNeg) 2).toNatClampNeg)) + (g 7 ((x1 - 1).toNatClampNeg) 3))) = 0 then (some "java/lang/IllegalStateException", 0, g) else (none, 0, (u3 (u3 g 6 ((g 7 ((x1 - 1).toNatClampNeg) 1).toNatClampNeg) ((g 7 ((x1 - 1).toNatClampNeg) 2).toNatClampNeg) ((g 6 ((g 7 ((x1 - 1).toNatClampNeg) 1).toNatClampNeg) ((g 7 ((x1 - 1).toNatClampNeg) 2).toNatClampNeg)) + (g 7 ((x1 - 1).toNatClampNeg) 3))) 7 ((x1 - 1).toNatClampNeg) 4 0))
def kC_end (x1 : Int32) (g : Nat → Nat → Nat → Int32) (N : Nat → Nat) : Prop := kC_isWithin x1 1 (g 0 0 1) ∧ (((fC_isWithin x1 1 (g 0 0 1)) = 0 → True) ∧ (¬ ((fC_isWithin x1 1 (g 0 0 1)) = 0) → (vp_in (x1 - 1) 60) ∧ ((x1 - 1).toNatClampNeg < N 1) ∧ ((kC_placeNumbered (g 7 ((x1 - 1).toNatClampNeg) 1) g N) ∧ (¬ (fC_isWithin (g 7 ((x1 - 1).toNatClampNeg) 1) 0 ((g 0 0 0) - 1)) = 0) ∧ ((g 7 ((x1 - 1).toNatClampNeg) 1).toNatClampNeg < N 0) ∧ ((vp_in (g 7 ((x1 - 1).toNatClampNeg) 2) 6) ∧ (((g 7 ((x1 - 1).toNatClampNeg) 4) = 0 → True) ∧ (¬ ((g 7 ((x1 - 1).toNatClampNeg) 4) = 0) → (kC_isPieces ((g 6 ((g 7 ((x1 - 1).toNatClampNeg) 1).toNatClampNeg) ((g 7 ((x1 - 1).toNatClampNeg) 2).toNatClampNeg)) + (g 7 ((x1 - 1).toNatClampNeg) 3))) ∧ (((fC_isPieces ((g 6 ((g 7 ((x1 - 1).toNatClampNeg) 1).toNatClampNeg) ((g 7 ((x1 - 1).toNatClampNeg) 2).toNatClampNeg)) + (g 7 ((x1 - 1).toNatClampNeg) 3))) = 0 → True) ∧ (¬ ((fC_isPieces ((g 6 ((g 7 ((x1 - 1).toNatClampNeg) 1).toNatClampNeg) ((g 7 ((x1 - 1).toNatClampNeg) 2).toNatClampNeg)) + (g 7 ((x1 - 1).toNatClampNeg) 3))) = 0) → (vp_in (g 7 ((x1 - 1).toNatClampNeg) 2) 6) ∧ (True)))))))))
def fC_moves (x1 : Int32) (g : Nat → Nat → Nat → Int32) (N : Nat → Nat) : Option String × Int32 × (Nat → Nat → Nat → Int32) := if (fC_isWithin x1 0 ((g 0 0 0) - 1)) = 0 then (some "java/util/NoSuchElementException", 0, g) else (none, fC_openMovesAt x1 g N, g)
def kC_moves (x1 : Int32) (g : Nat → Nat → Nat → Int32) (N : Nat → Nat) : Prop := kC_isWithin x1 0 ((g 0 0 0) - 1) ∧ (((fC_isWithin x1 0 ((g 0 0 0) - 1)) = 0 → True) ∧ (¬ ((fC_isWithin x1 0 ((g 0 0 0) - 1)) = 0) → (vp_in x1 20) ∧ (x1.toNatClampNeg < N 0) ∧ ((kC_openMovesAt x1 g N) ∧ (True))))
def fC_last (x1 : Int32) (g : Nat → Nat → Nat → Int32) (N : Nat → Nat) : Option String × Int32 × (Nat → Nat → Nat → Int32) := if (fC_isWithin x1 0 ((g 0 0 0) - 1)) = 0 then (some "java/util/NoSuchElementException", 0, g) else (none, g 5 x1.toNatClampNeg 1, g)
def kC_last (x1 : Int32) (g : Nat → Nat → Nat → Int32) (N : Nat → Nat) : Prop := kC_isWithin x1 0 ((g 0 0 0) - 1) ∧ (((fC_isWithin x1 0 ((g 0 0 0) - 1)) = 0 → True) ∧ (¬ ((fC_isWithin x1 0 ((g 0 0 0) - 1)) = 0) → (vp_in x1 20) ∧ (x1.toNatClampNeg < N 0) ∧ (True)))
def fC_booked (x1 : Int32) (x2 : Int32) (g : Nat → Nat → Nat → Int32) (N : Nat → Nat) : Option String × Int32 × (Nat → Nat → Nat → Int32) := if (fC_isWithin x1 0 ((g 0 0 0) - 1)) = 0 then (some "java/util/NoSuchElementException", 0, g) else if (fC_isGood x2) = 0 then (some "java/lang/IllegalArgumentException", 0, g) else (none, g 6 x1.toNatClampNeg x2.toNatClampNeg, g)
def kC_booked (x1 : Int32) (x2 : Int32) (g : Nat → Nat → Nat → Int32) (N : Nat → Nat) : Prop := kC_isWithin x1 0 ((g 0 0 0) - 1) ∧ (((fC_isWithin x1 0 ((g 0 0 0) - 1)) = 0 → True) ∧ (¬ ((fC_isWithin x1 0 ((g 0 0 0) - 1)) = 0) → (vp_in x1 20) ∧ (x1.toNatClampNeg < N 0) ∧ ((kC_isGood x2) ∧ (((fC_isGood x2) = 0 → True) ∧ (¬ ((fC_isGood x2) = 0) → (vp_in x2 6) ∧ (True))))))
def fC_told (x1 : Int32) (x2 : Int32) (g : Nat → Nat → Nat → Int32) (N : Nat → Nat) : Option String × Int32 × (Nat → Nat → Nat → Int32) := if (fC_isWithin x1 1 (g 0 0 2)) = 0 then (some "java/util/NoSuchElementException", 0, g) else if x2 < 10 then if x2 = 0 then (none, g 8 ((x1 - 1).toNatClampNeg) 2, g) else if x2 = 1 then (none, nI (N (3 + ((x1 - 1).toNatClampNeg))), g) else if x2 = 2 then (none, g 8 ((x1 - 1).toNatClampNeg) 1, g) else (some "java/lang/IllegalArgumentException", 0, g) else if (nI (N (3 + ((x1 - 1).toNatClampNeg)))) ≤ (x2 - 10) then (none, (-1), g) else (none, g 9 ((x1 - 1).toNatClampNeg) ((x2 - 10).toNatClampNeg), g)
def kC_told (x1 : Int32) (x2 : Int32) (g : Nat → Nat → Nat → Int32) (N : Nat → Nat) : Prop := kC_isWithin x1 1 (g 0 0 2) ∧ (((fC_isWithin x1 1 (g 0 0 2)) = 0 → True) ∧ (¬ ((fC_isWithin x1 1 (g 0 0 2)) = 0) → (vp_in (x1 - 1) 20) ∧ ((x1 - 1).toNatClampNeg < N 2) ∧ ((x2 < 10 → (x2 = 0 → True) ∧ (¬ (x2 = 0) → (x2 = 1 → True) ∧ (¬ (x2 = 1) → (x2 = 2 → True) ∧ (¬ (x2 = 2) → True)))) ∧ (¬ (x2 < 10) → ((nI (N (3 + ((x1 - 1).toNatClampNeg)))) ≤ (x2 - 10) → True) ∧ (¬ ((nI (N (3 + ((x1 - 1).toNatClampNeg)))) ≤ (x2 - 10)) → (vp_in (x2 - 10) (N (3 + ((x1 - 1).toNatClampNeg)))) ∧ (True))))))
set_option maxHeartbeats 4000000 in
set_option maxRecDepth 100000 in
theorem cC_stock (l : Launch) (hlt : l.stackTraces = false) (D : va_G) (tc : Nat → ClassId) (sa : Nat → Nat) (ad : Nat → Nat → Nat) (Y : va_W) (sz : Nat) (x1 : Int32) (x2 : Int32) (x3 : Int32) (g : Nat → Nat → Nat → Int32) (N : Nat → Nat) {F : Option String × Int32 × (Nat → Nat → Nat → Int32)} (hok : kC_stock x1 x2 x3 g N) (hF : fC_stock x1 x2 x3 g N = F) : vx_Met l y_C_stock (Cond.code y_C_stock b_C_stock 5 none :: gw) ({ frames := 7, cells := 2, slots := 12, locals := 104 } : Room) (va_Pc [.ref (ad 0 0), .int x1, .int x2, .int x3] (pC D tc sa (cl tc g N ad ++ Y) sz)) (va_Qv (fun u => (none, (0 : Int32), u) = F) (fun u t => qW D tc (va_A (cl tc g N ad ++ Y) sz) (cl tc u N ad ++ Y) t) (va_A (cl tc g N ad ++ Y) sz)) (xC D tc (va_A (cl tc g N ad ++ Y) sz) (fun E u => (some E, (0 : Int32), u) = F) (fun u => cl tc u N ad ++ Y)) 2 12 (va_A (cl tc g N ad ++ Y) sz) := by
  refine en_X (by decide) (Nat.le_of_ble_eq_true rfl) ?_
  intro p e s m args below meth c ls h0 hN hX hr hlocks htab hsz hw hl
  obtain ⟨hx, hb, hml, hown, hts, hK⟩ := id h0
  have hA : ∀ q : Nat, s.heap.size ≤ q → (va_A (cl tc g N ad ++ Y) sz) q := fun q h => Or.inr (by rw [← hsz]; exact h)
  generalize va_A (cl tc g N ad ++ Y) sz = A at hw hA hX ⊢
  obtain ⟨H, eH⟩ : ∃ z, z = s.heap := ⟨_, rfl⟩
  obtain ⟨locs, eL⟩ : ∃ z : List Loc, z = [] := ⟨_, rfl⟩
  have hw : wH D A s.heap (cl tc g N ad ++ Y) H locs := by rw [eH, eL]; exact hw
  have gl : W p l e ({ frames := 7, cells := 2, slots := 12, locals := 104 } : Room) s m args below meth c H locs 0 0 (vx_MQ below (va_Qv (fun u => (none, (0 : Int32), u) = F) (fun u t => qW D tc A (cl tc u N ad ++ Y) t) A) (xC D tc A (fun E u => (some E, (0 : Int32), u) = F) (fun u => cl tc u N ad ++ Y)) args s 2 12 A) (F0 m 0 ls []) := ?_
  · rw [eH, eL] at gl; exact gl
  have hl : lv_has ls 5 [(0, .ref (ad 0 0)), (1, .int x1), (2, .int x2), (3, .int x3)] := hl
  unfold kC_stock at hok
  unfold fC_stock at hF
  refine lv_aload_n hx hb d_C_stock_0 rfl (lv_at hl 0 rfl) ?_
  refine lv_iload_n hx hb d_C_stock_1 rfl (lv_at hl 1 rfl) ?_
  obtain ⟨hi_1, hok⟩ := hok
  refine dx_r (n := 1) (C := "CountRounds") (b := ad 0 0) (q0 := bw_o (cb tc g N ad) 0 + 0) (ci := 3) (As := [.int x1]) (rest := []) h0 hX hw hA (xC_placeNumbered l hlt D tc sa ad Y H.size x1 g N ⟨hi_1, fun _ => trivial, fun c9 => ⟨(hok.2 c9).1, (hok.2 c9).2.1, trivial⟩⟩) (gd_V wd_236 wd_238 (gw_s 3 rfl rfl) wd_1 wd_239) (by decide +kernel) ⟨rfl, rfl, (Nat.le_of_ble_eq_true rfl), (Nat.le_of_ble_eq_true rfl), (Nat.le_of_ble_eq_true rfl), (Nat.le_of_ble_eq_true rfl)⟩ (bw_get (bs := cb tc g N ad) (j := 0) rfl Nat.one_pos Y) rfl rfl hl.1 rfl (Nat.le_of_ble_eq_true rfl) d_C_stock_2 (fun c_2 H locs q ce hw hq hv hcl => ?_) (fun c_2 locs hw => ?_)
  · have hF := (if_pos c_2).symm.trans hF
    exact ox_t h0 hw htab hlocks hq hv hcl g hF rfl (Nat.le_of_ble_eq_true rfl) (Nat.le_of_ble_eq_true rfl)
  · have hok := hok.2 c_2
    have hF := (if_neg c_2).symm.trans hF
    obtain ⟨hi_3, hi_4, hok⟩ := hok
    refine lv_astore (lv' := [(4, .ref (ad 1 x1.toNatClampNeg)), (0, .ref (ad 0 0)), (1, .int x1), (2, .int x2), (3, .int x3)]) hx hb d_C_stock_5 hl (by decide) rfl (fun ls hl => ?_)
    refine lv_iload_n hx hb d_C_stock_7 rfl (lv_at hl 3 rfl) ?_
    obtain ⟨hi_5, hok⟩ := hok
    refine cs_p (n := 1) (As := [.int x2]) (rest := []) hx hb hml hown hts (cC_isGood l x2 hi_5 rfl) (gd_S wd_241 wd_242 wd_1 wd_243) (by decide +kernel) ⟨rfl, rfl, (Nat.le_of_ble_eq_true rfl), (Nat.le_of_ble_eq_true rfl), (Nat.le_of_ble_eq_true rfl), (Nat.le_of_ble_eq_true rfl)⟩ rfl hl.1 rfl (Nat.le_of_ble_eq_true rfl) d_C_stock_8 ?_
    refine lv_if_eq (tgt := 21) hx hb d_C_stock_11 (by decide) (fun c_6 => ?_) (fun c_6 => ?_)
    · have hok := hok.1 c_6
      have hF := (if_pos c_6).symm.trans hF
      exact th_S hlt h0 rfl hX hw (by decide +kernel) wd_175 wd_7 (q9 := 4) rfl at_iae ag_iae hl.1 d_C_stock_21 d_C_stock_24 d_C_stock_25 d_C_stock_27 d_C_stock_30 htab hlocks ⟨(Nat.le_of_ble_eq_true rfl), (Nat.le_of_ble_eq_true rfl), (Nat.le_of_ble_eq_true rfl), (Nat.le_of_ble_eq_true rfl)⟩ g hF rfl (Nat.le_of_ble_eq_true rfl) (Nat.le_of_ble_eq_true rfl)
    · have hok := hok.2 c_6
      have hF := (if_neg c_6).symm.trans hF
      refine lv_iload_n hx hb d_C_stock_14 rfl (lv_at hl 4 rfl) ?_
      obtain ⟨hi_7, hok⟩ := hok
      refine cs_p (n := 1) (As := [.int x3]) (rest := []) hx hb hml hown hts (cC_isPieces l x3 hi_7 rfl) (gd_S wd_244 wd_245 wd_1 wd_246) (by decide +kernel) ⟨rfl, rfl, (Nat.le_of_ble_eq_true rfl), (Nat.le_of_ble_eq_true rfl), (Nat.le_of_ble_eq_true rfl), (Nat.le_of_ble_eq_true rfl)⟩ rfl hl.1 rfl (Nat.le_of_ble_eq_true rfl) d_C_stock_15 ?_
      refine lv_if_ne (tgt := 31) hx hb d_C_stock_18 (by decide) (fun c_8 => ?_) (fun c_8 => ?_)
      · have hok := hok.2 c_8
        have hF := (if_neg c_8).symm.trans hF
        refine lv_aload hx hb d_C_stock_31 (lv_at hl 0 rfl) ?_
        refine gCP_1 h0 hN hw hi_4 d_C_stock_33 ?_
        refine lv_iload_n hx hb d_C_stock_36 rfl (lv_at hl 3 rfl) ?_
        refine lv_iload_n hx hb d_C_stock_37 rfl (lv_at hl 4 rfl) ?_
        obtain ⟨hi_9, hok⟩ := hok
        refine s_pieces h0 hw hi_4 hi_9 d_C_stock_38 (fun H locs hw => ?_)
        exact vx_ret (rt_v h0 hw hr hlocks (u3 g 6 x1.toNatClampNeg x2.toNatClampNeg x3) hF rfl d_C_stock_39 (Nat.le_of_ble_eq_true rfl) (Nat.le_of_ble_eq_true rfl))
      · have hok := hok.1 c_8
        have hF := (if_pos c_8).symm.trans hF
        exact th_S hlt h0 rfl hX hw (by decide +kernel) wd_175 wd_7 (q9 := 4) rfl at_iae ag_iae hl.1 d_C_stock_21 d_C_stock_24 d_C_stock_25 d_C_stock_27 d_C_stock_30 htab hlocks ⟨(Nat.le_of_ble_eq_true rfl), (Nat.le_of_ble_eq_true rfl), (Nat.le_of_ble_eq_true rfl), (Nat.le_of_ble_eq_true rfl)⟩ g hF rfl (Nat.le_of_ble_eq_true rfl) (Nat.le_of_ble_eq_true rfl)
set_option maxHeartbeats 4000000 in
set_option maxRecDepth 100000 in
theorem cC_end (l : Launch) (hlt : l.stackTraces = false) (D : va_G) (tc : Nat → ClassId) (sa : Nat → Nat) (ad : Nat → Nat → Nat) (Y : va_W) (sz : Nat) (x1 : Int32) (g : Nat → Nat → Nat → Int32) (N : Nat → Nat) {F : Option String × Int32 × (Nat → Nat → Nat → Int32)} (hok : kC_end x1 g N) (hF : fC_end x1 g N = F) : vx_Met l y_C_end (Cond.code y_C_end b_C_end 5 none :: gw) ({ frames := 7, cells := 2, slots := 12, locals := 104 } : Room) (va_Pc [.ref (ad 0 0), .int x1] (pC D tc sa (cl tc g N ad ++ Y) sz)) (va_Qv (fun u => (none, (0 : Int32), u) = F) (fun u t => qW D tc (va_A (cl tc g N ad ++ Y) sz) (cl tc u N ad ++ Y) t) (va_A (cl tc g N ad ++ Y) sz)) (xC D tc (va_A (cl tc g N ad ++ Y) sz) (fun E u => (some E, (0 : Int32), u) = F) (fun u => cl tc u N ad ++ Y)) 2 12 (va_A (cl tc g N ad ++ Y) sz) := by
  refine en_X (by decide) (Nat.le_of_ble_eq_true rfl) ?_
  intro p e s m args below meth c ls h0 hN hX hr hlocks htab hsz hw hl
  obtain ⟨hx, hb, hml, hown, hts, hK⟩ := id h0
  have hA : ∀ q : Nat, s.heap.size ≤ q → (va_A (cl tc g N ad ++ Y) sz) q := fun q h => Or.inr (by rw [← hsz]; exact h)
  generalize va_A (cl tc g N ad ++ Y) sz = A at hw hA hX ⊢
  obtain ⟨H, eH⟩ : ∃ z, z = s.heap := ⟨_, rfl⟩
  obtain ⟨locs, eL⟩ : ∃ z : List Loc, z = [] := ⟨_, rfl⟩
  have hw : wH D A s.heap (cl tc g N ad ++ Y) H locs := by rw [eH, eL]; exact hw
  have gl : W p l e ({ frames := 7, cells := 2, slots := 12, locals := 104 } : Room) s m args below meth c H locs 0 0 (vx_MQ below (va_Qv (fun u => (none, (0 : Int32), u) = F) (fun u t => qW D tc A (cl tc u N ad ++ Y) t) A) (xC D tc A (fun E u => (some E, (0 : Int32), u) = F) (fun u => cl tc u N ad ++ Y)) args s 2 12 A) (F0 m 0 ls []) := ?_
  · rw [eH, eL] at gl; exact gl
  have hl : lv_has ls 5 [(0, .ref (ad 0 0)), (1, .int x1)] := hl
  unfold kC_end at hok
  unfold fC_end at hF
  refine lv_aload_n hx hb d_C_end_0 rfl (lv_at hl 0 rfl) ?_
  refine lv_iload_n hx hb d_C_end_1 rfl (lv_at hl 1 rfl) ?_
  obtain ⟨hi_1, hok⟩ := hok
  refine dx_r (n := 1) (C := "CountRounds") (b := ad 0 0) (q0 := bw_o (cb tc g N ad) 0 + 0) (ci := 3) (As := [.int x1]) (rest := []) h0 hX hw hA (xC_transferNumbered l hlt D tc sa ad Y H.size x1 g N ⟨hi_1, fun _ => trivial, fun c9 => ⟨(hok.2 c9).1, (hok.2 c9).2.1, trivial⟩⟩) (gd_V wd_86 wd_88 (gw_s 1 rfl rfl) wd_1 wd_89) (by decide +kernel) ⟨rfl, rfl, (Nat.le_of_ble_eq_true rfl), (Nat.le_of_ble_eq_true rfl), (Nat.le_of_ble_eq_true rfl), (Nat.le_of_ble_eq_true rfl)⟩ (bw_get (bs := cb tc g N ad) (j := 0) rfl Nat.one_pos Y) rfl rfl hl.1 rfl (Nat.le_of_ble_eq_true rfl) d_C_end_2 (fun c_2 H locs q ce hw hq hv hcl => ?_) (fun c_2 locs hw => ?_)
  · have hF := (if_pos c_2).symm.trans hF
    exact ox_t h0 hw htab hlocks hq hv hcl g hF rfl (Nat.le_of_ble_eq_true rfl) (Nat.le_of_ble_eq_true rfl)
  · have hok := hok.2 c_2
    have hF := (if_neg c_2).symm.trans hF
    obtain ⟨hi_3, hi_4, hok⟩ := hok
    refine lv_astore_n (lv' := [(2, .ref (ad 3 ((x1 - 1).toNatClampNeg))), (0, .ref (ad 0 0)), (1, .int x1)]) hx hb d_C_end_5 rfl hl (by decide) rfl (fun ls hl => ?_)
    refine lv_aload_n hx hb d_C_end_6 rfl (lv_at hl 1 rfl) ?_
    refine lv_aload_n hx hb d_C_end_7 rfl (lv_at hl 0 rfl) ?_
    refine gCT_1 h0 hN hw hi_4 d_C_end_8 ?_
    obtain ⟨hi_5, hi_6, hi_7, hok⟩ := hok
    refine dv_p (n := 1) (C := "CountRounds") (b := ad 0 0) (q0 := bw_o (cb tc g N ad) 0 + 0) (ci := 3) (As := [.int (g 7 ((x1 - 1).toNatClampNeg) 1)]) (rest := []) h0 hX hw hA (cC_placeNumbered l D tc sa ad Y H.size (g 7 ((x1 - 1).toNatClampNeg) 1) g N hi_5 (if_neg hi_6)) (gd_V wd_236 wd_238 (gw_s 3 rfl rfl) wd_1 wd_239) (by decide +kernel) ⟨rfl, rfl, (Nat.le_of_ble_eq_true rfl), (Nat.le_of_ble_eq_true rfl), (Nat.le_of_ble_eq_true rfl), (Nat.le_of_ble_eq_true rfl)⟩ (bw_get (bs := cb tc g N ad) (j := 0) rfl Nat.one_pos Y) rfl rfl hl.1 rfl (Nat.le_of_ble_eq_true rfl) d_C_end_11 ?_
    refine lv_astore_n (lv' := [(3, .ref (ad 1 ((g 7 ((x1 - 1).toNatClampNeg) 1).toNatClampNeg))), (2, .ref (ad 3 ((x1 - 1).toNatClampNeg))), (0, .ref (ad 0 0)), (1, .int x1)]) hx hb d_C_end_14 rfl hl (by decide) rfl (fun ls hl => ?_)
    refine lv_aload_n hx hb d_C_end_15 rfl (lv_at hl 0 rfl) ?_
    refine gCP_1 h0 hN hw hi_7 d_C_end_16 ?_
    refine lv_aload_n hx hb d_C_end_19 rfl (lv_at hl 1 rfl) ?_
    refine gCT_2 h0 hN hw hi_4 d_C_end_20 ?_
    obtain ⟨hi_8, hok⟩ := hok
    refine l_pieces h0 hw hi_7 hi_8 d_C_end_23 ?_
    refine lv_aload_n hx hb d_C_end_24 rfl (lv_at hl 1 rfl) ?_
    refine gCT_3 h0 hN hw hi_4 d_C_end_25 ?_
    refine lv_iadd hx hb d_C_end_28 ?_
    refine lv_istore (lv' := [(4, .int ((g 6 ((g 7 ((x1 - 1).toNatClampNeg) 1).toNatClampNeg) ((g 7 ((x1 - 1).toNatClampNeg) 2).toNatClampNeg)) + (g 7 ((x1 - 1).toNatClampNeg) 3))), (3, .ref (ad 1 ((g 7 ((x1 - 1).toNatClampNeg) 1).toNatClampNeg))), (2, .ref (ad 3 ((x1 - 1).toNatClampNeg))), (0, .ref (ad 0 0)), (1, .int x1)]) hx hb d_C_end_29 hl (by decide) rfl (fun ls hl => ?_)
    refine lv_aload_n hx hb d_C_end_31 rfl (lv_at hl 2 rfl) ?_
    refine gCT_4 h0 hN hw hi_4 d_C_end_32 ?_
    refine lv_if_eq (tgt := 46) hx hb d_C_end_35 (by decide) (fun c_9 => ?_) (fun c_9 => ?_)
    · have hok := hok.1 c_9
      have hF := (if_pos c_9).symm.trans hF
      exact th_S hlt h0 rfl hX hw (by decide +kernel) wd_288 wd_11 (q9 := 13) rfl at_ise ag_ise hl.1 d_C_end_46 d_C_end_49 d_C_end_50 d_C_end_52 d_C_end_55 htab hlocks ⟨(Nat.le_of_ble_eq_true rfl), (Nat.le_of_ble_eq_true rfl), (Nat.le_of_ble_eq_true rfl), (Nat.le_of_ble_eq_true rfl)⟩ g hF rfl (Nat.le_of_ble_eq_true rfl) (Nat.le_of_ble_eq_true rfl)
    · have hok := hok.2 c_9
      have hF := (if_neg c_9).symm.trans hF
      refine lv_iload hx hb d_C_end_38 (lv_at hl 0 rfl) ?_
      obtain ⟨hi_10, hok⟩ := hok
      refine cs_p (n := 1) (As := [.int ((g 6 ((g 7 ((x1 - 1).toNatClampNeg) 1).toNatClampNeg) ((g 7 ((x1 - 1).toNatClampNeg) 2).toNatClampNeg)) + (g 7 ((x1 - 1).toNatClampNeg) 3))]) (rest := []) hx hb hml hown hts (cC_isPieces l ((g 6 ((g 7 ((x1 - 1).toNatClampNeg) 1).toNatClampNeg) ((g 7 ((x1 - 1).toNatClampNeg) 2).toNatClampNeg)) + (g 7 ((x1 - 1).toNatClampNeg) 3)) hi_10 rfl) (gd_S wd_244 wd_245 wd_1 wd_246) (by decide +kernel) ⟨rfl, rfl, (Nat.le_of_ble_eq_true rfl), (Nat.le_of_ble_eq_true rfl), (Nat.le_of_ble_eq_true rfl), (Nat.le_of_ble_eq_true rfl)⟩ rfl hl.1 rfl (Nat.le_of_ble_eq_true rfl) d_C_end_40 ?_
      refine lv_if_ne (tgt := 56) hx hb d_C_end_43 (by decide) (fun c_11 => ?_) (fun c_11 => ?_)
      · have hok := hok.2 c_11
        have hF := (if_neg c_11).symm.trans hF
        refine lv_aload_n hx hb d_C_end_56 rfl (lv_at hl 1 rfl) ?_
        refine gCP_1 h0 hN hw hi_7 d_C_end_57 ?_
        refine lv_aload_n hx hb d_C_end_60 rfl (lv_at hl 2 rfl) ?_
        refine gCT_2 h0 hN hw hi_4 d_C_end_61 ?_
        refine lv_iload hx hb d_C_end_64 (lv_at hl 0 rfl) ?_
        obtain ⟨hi_12, hok⟩ := hok
        refine s_pieces h0 hw hi_7 hi_12 d_C_end_66 (fun H locs hw => ?_)
        refine lv_aload_n hx hb d_C_end_67 rfl (lv_at hl 2 rfl) ?_
        refine lv_iconst (v := 0) hx hb d_C_end_68 (by decide) ?_
        refine pCT_4 h0 hN hw hi_4 rfl rfl d_C_end_69 (fun H locs hw => ?_)
        exact vx_ret (rt_v h0 hw hr hlocks (u3 (u3 g 6 ((g 7 ((x1 - 1).toNatClampNeg) 1).toNatClampNeg) ((g 7 ((x1 - 1).toNatClampNeg) 2).toNatClampNeg) ((g 6 ((g 7 ((x1 - 1).toNatClampNeg) 1).toNatClampNeg) ((g 7 ((x1 - 1).toNatClampNeg) 2).toNatClampNeg)) + (g 7 ((x1 - 1).toNatClampNeg) 3))) 7 ((x1 - 1).toNatClampNeg) 4 0) hF rfl d_C_end_72 (Nat.le_of_ble_eq_true rfl) (Nat.le_of_ble_eq_true rfl))
      · have hok := hok.1 c_11
        have hF := (if_pos c_11).symm.trans hF
        exact th_S hlt h0 rfl hX hw (by decide +kernel) wd_288 wd_11 (q9 := 13) rfl at_ise ag_ise hl.1 d_C_end_46 d_C_end_49 d_C_end_50 d_C_end_52 d_C_end_55 htab hlocks ⟨(Nat.le_of_ble_eq_true rfl), (Nat.le_of_ble_eq_true rfl), (Nat.le_of_ble_eq_true rfl), (Nat.le_of_ble_eq_true rfl)⟩ g hF rfl (Nat.le_of_ble_eq_true rfl) (Nat.le_of_ble_eq_true rfl)
set_option maxHeartbeats 4000000 in
set_option maxRecDepth 100000 in
theorem cC_moves (l : Launch) (hlt : l.stackTraces = false) (D : va_G) (tc : Nat → ClassId) (sa : Nat → Nat) (ad : Nat → Nat → Nat) (Y : va_W) (sz : Nat) (x1 : Int32) (g : Nat → Nat → Nat → Int32) (N : Nat → Nat) {F : Option String × Int32 × (Nat → Nat → Nat → Int32)} (hok : kC_moves x1 g N) (hF : fC_moves x1 g N = F) : vx_Met l y_C_moves (Cond.code y_C_moves b_C_moves 2 (some .int) :: gw) ({ frames := 7, cells := 1, slots := 6, locals := 104 } : Room) (va_Pc [.ref (ad 0 0), .int x1] (pC D tc sa (cl tc g N ad ++ Y) sz)) (va_Qi (fun r u => (none, r, u) = F) (fun u t => qW D tc (va_A (cl tc g N ad ++ Y) sz) (cl tc u N ad ++ Y) t) (va_A (cl tc g N ad ++ Y) sz)) (xC D tc (va_A (cl tc g N ad ++ Y) sz) (fun E u => (some E, (0 : Int32), u) = F) (fun u => cl tc u N ad ++ Y)) 1 6 (va_A (cl tc g N ad ++ Y) sz) := by
  refine en_X (by decide) (Nat.le_of_ble_eq_true rfl) ?_
  intro p e s m args below meth c ls h0 hN hX hr hlocks htab hsz hw hl
  obtain ⟨hx, hb, hml, hown, hts, hK⟩ := id h0
  have hA : ∀ q : Nat, s.heap.size ≤ q → (va_A (cl tc g N ad ++ Y) sz) q := fun q h => Or.inr (by rw [← hsz]; exact h)
  generalize va_A (cl tc g N ad ++ Y) sz = A at hw hA hX ⊢
  obtain ⟨H, eH⟩ : ∃ z, z = s.heap := ⟨_, rfl⟩
  obtain ⟨locs, eL⟩ : ∃ z : List Loc, z = [] := ⟨_, rfl⟩
  have hw : wH D A s.heap (cl tc g N ad ++ Y) H locs := by rw [eH, eL]; exact hw
  have gl : W p l e ({ frames := 7, cells := 1, slots := 6, locals := 104 } : Room) s m args below meth c H locs 0 0 (vx_MQ below (va_Qi (fun r u => (none, r, u) = F) (fun u t => qW D tc A (cl tc u N ad ++ Y) t) A) (xC D tc A (fun E u => (some E, (0 : Int32), u) = F) (fun u => cl tc u N ad ++ Y)) args s 1 6 A) (F0 m 0 ls []) := ?_
  · rw [eH, eL] at gl; exact gl
  have hl : lv_has ls 2 [(0, .ref (ad 0 0)), (1, .int x1)] := hl
  unfold kC_moves at hok
  unfold fC_moves at hF
  refine lv_aload_n hx hb d_C_moves_0 rfl (lv_at hl 0 rfl) ?_
  refine lv_iload_n hx hb d_C_moves_1 rfl (lv_at hl 1 rfl) ?_
  obtain ⟨hi_1, hok⟩ := hok
  refine dx_r (n := 1) (C := "CountRounds") (b := ad 0 0) (q0 := bw_o (cb tc g N ad) 0 + 0) (ci := 3) (As := [.int x1]) (rest := []) h0 hX hw hA (xC_placeNumbered l hlt D tc sa ad Y H.size x1 g N ⟨hi_1, fun _ => trivial, fun c9 => ⟨(hok.2 c9).1, (hok.2 c9).2.1, trivial⟩⟩) (gd_V wd_236 wd_238 (gw_s 3 rfl rfl) wd_1 wd_239) (by decide +kernel) ⟨rfl, rfl, (Nat.le_of_ble_eq_true rfl), (Nat.le_of_ble_eq_true rfl), (Nat.le_of_ble_eq_true rfl), (Nat.le_of_ble_eq_true rfl)⟩ (bw_get (bs := cb tc g N ad) (j := 0) rfl Nat.one_pos Y) rfl rfl hl.1 rfl (Nat.le_of_ble_eq_true rfl) d_C_moves_2 (fun c_2 H locs q ce hw hq hv hcl => ?_) (fun c_2 locs hw => ?_)
  · have hF := (if_pos c_2).symm.trans hF
    exact ox_t h0 hw htab hlocks hq hv hcl g hF rfl (Nat.le_of_ble_eq_true rfl) (Nat.le_of_ble_eq_true rfl)
  · have hok := hok.2 c_2
    have hF := (if_neg c_2).symm.trans hF
    obtain ⟨hi_3, hi_4, hok⟩ := hok
    refine lv_pop hx hb d_C_moves_5 rfl ?_
    refine lv_aload_n hx hb d_C_moves_6 rfl (lv_at hl 0 rfl) ?_
    refine lv_iload_n hx hb d_C_moves_7 rfl (lv_at hl 1 rfl) ?_
    obtain ⟨hi_5, hok⟩ := hok
    refine dv_p (n := 1) (C := "CountRounds") (b := ad 0 0) (q0 := bw_o (cb tc g N ad) 0 + 0) (ci := 3) (As := [.int x1]) (rest := []) h0 hX hw hA (cC_openMovesAt l D tc sa ad Y H.size x1 g N hi_5 rfl) (gd_V wd_355 wd_357 (gw_s 4 rfl rfl) wd_1 wd_358) (by decide +kernel) ⟨rfl, rfl, (Nat.le_of_ble_eq_true rfl), (Nat.le_of_ble_eq_true rfl), (Nat.le_of_ble_eq_true rfl), (Nat.le_of_ble_eq_true rfl)⟩ (bw_get (bs := cb tc g N ad) (j := 0) rfl Nat.one_pos Y) rfl rfl hl.1 rfl (Nat.le_of_ble_eq_true rfl) d_C_moves_8 ?_
    exact vx_ret (rt_i h0 hw hr hlocks rfl g hF rfl d_C_moves_11 (Nat.le_of_ble_eq_true rfl) (Nat.le_of_ble_eq_true rfl))
set_option maxHeartbeats 4000000 in
set_option maxRecDepth 100000 in
theorem cC_last (l : Launch) (hlt : l.stackTraces = false) (D : va_G) (tc : Nat → ClassId) (sa : Nat → Nat) (ad : Nat → Nat → Nat) (Y : va_W) (sz : Nat) (x1 : Int32) (g : Nat → Nat → Nat → Int32) (N : Nat → Nat) {F : Option String × Int32 × (Nat → Nat → Nat → Int32)} (hok : kC_last x1 g N) (hF : fC_last x1 g N = F) : vx_Met l y_C_last (Cond.code y_C_last b_C_last 2 (some .int) :: gw) ({ frames := 7, cells := 1, slots := 6, locals := 104 } : Room) (va_Pc [.ref (ad 0 0), .int x1] (pC D tc sa (cl tc g N ad ++ Y) sz)) (va_Qi (fun r u => (none, r, u) = F) (fun u t => qW D tc (va_A (cl tc g N ad ++ Y) sz) (cl tc u N ad ++ Y) t) (va_A (cl tc g N ad ++ Y) sz)) (xC D tc (va_A (cl tc g N ad ++ Y) sz) (fun E u => (some E, (0 : Int32), u) = F) (fun u => cl tc u N ad ++ Y)) 1 6 (va_A (cl tc g N ad ++ Y) sz) := by
  refine en_X (by decide) (Nat.le_of_ble_eq_true rfl) ?_
  intro p e s m args below meth c ls h0 hN hX hr hlocks htab hsz hw hl
  obtain ⟨hx, hb, hml, hown, hts, hK⟩ := id h0
  have hA : ∀ q : Nat, s.heap.size ≤ q → (va_A (cl tc g N ad ++ Y) sz) q := fun q h => Or.inr (by rw [← hsz]; exact h)
  generalize va_A (cl tc g N ad ++ Y) sz = A at hw hA hX ⊢
  obtain ⟨H, eH⟩ : ∃ z, z = s.heap := ⟨_, rfl⟩
  obtain ⟨locs, eL⟩ : ∃ z : List Loc, z = [] := ⟨_, rfl⟩
  have hw : wH D A s.heap (cl tc g N ad ++ Y) H locs := by rw [eH, eL]; exact hw
  have gl : W p l e ({ frames := 7, cells := 1, slots := 6, locals := 104 } : Room) s m args below meth c H locs 0 0 (vx_MQ below (va_Qi (fun r u => (none, r, u) = F) (fun u t => qW D tc A (cl tc u N ad ++ Y) t) A) (xC D tc A (fun E u => (some E, (0 : Int32), u) = F) (fun u => cl tc u N ad ++ Y)) args s 1 6 A) (F0 m 0 ls []) := ?_
  · rw [eH, eL] at gl; exact gl
  have hl : lv_has ls 2 [(0, .ref (ad 0 0)), (1, .int x1)] := hl
  unfold kC_last at hok
  unfold fC_last at hF
  refine lv_aload_n hx hb d_C_last_0 rfl (lv_at hl 0 rfl) ?_
  refine lv_iload_n hx hb d_C_last_1 rfl (lv_at hl 1 rfl) ?_
  obtain ⟨hi_1, hok⟩ := hok
  refine dx_r (n := 1) (C := "CountRounds") (b := ad 0 0) (q0 := bw_o (cb tc g N ad) 0 + 0) (ci := 3) (As := [.int x1]) (rest := []) h0 hX hw hA (xC_placeNumbered l hlt D tc sa ad Y H.size x1 g N ⟨hi_1, fun _ => trivial, fun c9 => ⟨(hok.2 c9).1, (hok.2 c9).2.1, trivial⟩⟩) (gd_V wd_236 wd_238 (gw_s 3 rfl rfl) wd_1 wd_239) (by decide +kernel) ⟨rfl, rfl, (Nat.le_of_ble_eq_true rfl), (Nat.le_of_ble_eq_true rfl), (Nat.le_of_ble_eq_true rfl), (Nat.le_of_ble_eq_true rfl)⟩ (bw_get (bs := cb tc g N ad) (j := 0) rfl Nat.one_pos Y) rfl rfl hl.1 rfl (Nat.le_of_ble_eq_true rfl) d_C_last_2 (fun c_2 H locs q ce hw hq hv hcl => ?_) (fun c_2 locs hw => ?_)
  · have hF := (if_pos c_2).symm.trans hF
    exact ox_t h0 hw htab hlocks hq hv hcl g hF rfl (Nat.le_of_ble_eq_true rfl) (Nat.le_of_ble_eq_true rfl)
  · have hok := hok.2 c_2
    have hF := (if_neg c_2).symm.trans hF
    obtain ⟨hi_3, hi_4, hok⟩ := hok
    refine gCP_2 h0 hN hw hi_4 d_C_last_5 ?_
    exact vx_ret (rt_i h0 hw hr hlocks rfl g hF rfl d_C_last_8 (Nat.le_of_ble_eq_true rfl) (Nat.le_of_ble_eq_true rfl))
set_option maxHeartbeats 4000000 in
set_option maxRecDepth 100000 in
theorem cC_booked (l : Launch) (hlt : l.stackTraces = false) (D : va_G) (tc : Nat → ClassId) (sa : Nat → Nat) (ad : Nat → Nat → Nat) (Y : va_W) (sz : Nat) (x1 : Int32) (x2 : Int32) (g : Nat → Nat → Nat → Int32) (N : Nat → Nat) {F : Option String × Int32 × (Nat → Nat → Nat → Int32)} (hok : kC_booked x1 x2 g N) (hF : fC_booked x1 x2 g N = F) : vx_Met l y_C_booked (Cond.code y_C_booked b_C_booked 4 (some .int) :: gw) ({ frames := 7, cells := 2, slots := 12, locals := 104 } : Room) (va_Pc [.ref (ad 0 0), .int x1, .int x2] (pC D tc sa (cl tc g N ad ++ Y) sz)) (va_Qi (fun r u => (none, r, u) = F) (fun u t => qW D tc (va_A (cl tc g N ad ++ Y) sz) (cl tc u N ad ++ Y) t) (va_A (cl tc g N ad ++ Y) sz)) (xC D tc (va_A (cl tc g N ad ++ Y) sz) (fun E u => (some E, (0 : Int32), u) = F) (fun u => cl tc u N ad ++ Y)) 2 12 (va_A (cl tc g N ad ++ Y) sz) := by
  refine en_X (by decide) (Nat.le_of_ble_eq_true rfl) ?_
  intro p e s m args below meth c ls h0 hN hX hr hlocks htab hsz hw hl
  obtain ⟨hx, hb, hml, hown, hts, hK⟩ := id h0
  have hA : ∀ q : Nat, s.heap.size ≤ q → (va_A (cl tc g N ad ++ Y) sz) q := fun q h => Or.inr (by rw [← hsz]; exact h)
  generalize va_A (cl tc g N ad ++ Y) sz = A at hw hA hX ⊢
  obtain ⟨H, eH⟩ : ∃ z, z = s.heap := ⟨_, rfl⟩
  obtain ⟨locs, eL⟩ : ∃ z : List Loc, z = [] := ⟨_, rfl⟩
  have hw : wH D A s.heap (cl tc g N ad ++ Y) H locs := by rw [eH, eL]; exact hw
  have gl : W p l e ({ frames := 7, cells := 2, slots := 12, locals := 104 } : Room) s m args below meth c H locs 0 0 (vx_MQ below (va_Qi (fun r u => (none, r, u) = F) (fun u t => qW D tc A (cl tc u N ad ++ Y) t) A) (xC D tc A (fun E u => (some E, (0 : Int32), u) = F) (fun u => cl tc u N ad ++ Y)) args s 2 12 A) (F0 m 0 ls []) := ?_
  · rw [eH, eL] at gl; exact gl
  have hl : lv_has ls 4 [(0, .ref (ad 0 0)), (1, .int x1), (2, .int x2)] := hl
  unfold kC_booked at hok
  unfold fC_booked at hF
  refine lv_aload_n hx hb d_C_booked_0 rfl (lv_at hl 0 rfl) ?_
  refine lv_iload_n hx hb d_C_booked_1 rfl (lv_at hl 1 rfl) ?_
  obtain ⟨hi_1, hok⟩ := hok
  refine dx_r (n := 1) (C := "CountRounds") (b := ad 0 0) (q0 := bw_o (cb tc g N ad) 0 + 0) (ci := 3) (As := [.int x1]) (rest := []) h0 hX hw hA (xC_placeNumbered l hlt D tc sa ad Y H.size x1 g N ⟨hi_1, fun _ => trivial, fun c9 => ⟨(hok.2 c9).1, (hok.2 c9).2.1, trivial⟩⟩) (gd_V wd_236 wd_238 (gw_s 3 rfl rfl) wd_1 wd_239) (by decide +kernel) ⟨rfl, rfl, (Nat.le_of_ble_eq_true rfl), (Nat.le_of_ble_eq_true rfl), (Nat.le_of_ble_eq_true rfl), (Nat.le_of_ble_eq_true rfl)⟩ (bw_get (bs := cb tc g N ad) (j := 0) rfl Nat.one_pos Y) rfl rfl hl.1 rfl (Nat.le_of_ble_eq_true rfl) d_C_booked_2 (fun c_2 H locs q ce hw hq hv hcl => ?_) (fun c_2 locs hw => ?_)
  · have hF := (if_pos c_2).symm.trans hF
    exact ox_t h0 hw htab hlocks hq hv hcl g hF rfl (Nat.le_of_ble_eq_true rfl) (Nat.le_of_ble_eq_true rfl)
  · have hok := hok.2 c_2
    have hF := (if_neg c_2).symm.trans hF
    obtain ⟨hi_3, hi_4, hok⟩ := hok
    refine lv_astore_n (lv' := [(3, .ref (ad 1 x1.toNatClampNeg)), (0, .ref (ad 0 0)), (1, .int x1), (2, .int x2)]) hx hb d_C_booked_5 rfl hl (by decide) rfl (fun ls hl => ?_)
    refine lv_iload_n hx hb d_C_booked_6 rfl (lv_at hl 3 rfl) ?_
    obtain ⟨hi_5, hok⟩ := hok
    refine cs_p (n := 1) (As := [.int x2]) (rest := []) hx hb hml hown hts (cC_isGood l x2 hi_5 rfl) (gd_S wd_241 wd_242 wd_1 wd_243) (by decide +kernel) ⟨rfl, rfl, (Nat.le_of_ble_eq_true rfl), (Nat.le_of_ble_eq_true rfl), (Nat.le_of_ble_eq_true rfl), (Nat.le_of_ble_eq_true rfl)⟩ rfl hl.1 rfl (Nat.le_of_ble_eq_true rfl) d_C_booked_7 ?_
    refine lv_if_ne (tgt := 23) hx hb d_C_booked_10 (by decide) (fun c_6 => ?_) (fun c_6 => ?_)
    · have hok := hok.2 c_6
      have hF := (if_neg c_6).symm.trans hF
      refine lv_aload_n hx hb d_C_booked_23 rfl (lv_at hl 0 rfl) ?_
      refine gCP_1 h0 hN hw hi_4 d_C_booked_24 ?_
      refine lv_iload_n hx hb d_C_booked_27 rfl (lv_at hl 3 rfl) ?_
      obtain ⟨hi_7, hok⟩ := hok
      refine l_pieces h0 hw hi_4 hi_7 d_C_booked_28 ?_
      exact vx_ret (rt_i h0 hw hr hlocks rfl g hF rfl d_C_booked_29 (Nat.le_of_ble_eq_true rfl) (Nat.le_of_ble_eq_true rfl))
    · have hok := hok.1 c_6
      have hF := (if_pos c_6).symm.trans hF
      exact th_S hlt h0 rfl hX hw (by decide +kernel) wd_175 wd_7 (q9 := 21) rfl at_iae ag_iae hl.1 d_C_booked_13 d_C_booked_16 d_C_booked_17 d_C_booked_19 d_C_booked_22 htab hlocks ⟨(Nat.le_of_ble_eq_true rfl), (Nat.le_of_ble_eq_true rfl), (Nat.le_of_ble_eq_true rfl), (Nat.le_of_ble_eq_true rfl)⟩ g hF rfl (Nat.le_of_ble_eq_true rfl) (Nat.le_of_ble_eq_true rfl)
set_option maxHeartbeats 4000000 in
set_option maxRecDepth 100000 in
theorem cC_told (l : Launch) (hlt : l.stackTraces = false) (D : va_G) (tc : Nat → ClassId) (sa : Nat → Nat) (ad : Nat → Nat → Nat) (Y : va_W) (sz : Nat) (x1 : Int32) (x2 : Int32) (g : Nat → Nat → Nat → Int32) (N : Nat → Nat) {F : Option String × Int32 × (Nat → Nat → Nat → Int32)} (hok : kC_told x1 x2 g N) (hF : fC_told x1 x2 g N = F) : vx_Met l y_C_told (Cond.code y_C_told b_C_told 5 (some .int) :: gw) ({ frames := 7, cells := 2, slots := 12, locals := 104 } : Room) (va_Pc [.ref (ad 0 0), .int x1, .int x2] (pC D tc sa (cl tc g N ad ++ Y) sz)) (va_Qi (fun r u => (none, r, u) = F) (fun u t => qW D tc (va_A (cl tc g N ad ++ Y) sz) (cl tc u N ad ++ Y) t) (va_A (cl tc g N ad ++ Y) sz)) (xC D tc (va_A (cl tc g N ad ++ Y) sz) (fun E u => (some E, (0 : Int32), u) = F) (fun u => cl tc u N ad ++ Y)) 2 12 (va_A (cl tc g N ad ++ Y) sz) := by
  refine en_X (by decide) (Nat.le_of_ble_eq_true rfl) ?_
  intro p e s m args below meth c ls h0 hN hX hr hlocks htab hsz hw hl
  obtain ⟨hx, hb, hml, hown, hts, hK⟩ := id h0
  have hA : ∀ q : Nat, s.heap.size ≤ q → (va_A (cl tc g N ad ++ Y) sz) q := fun q h => Or.inr (by rw [← hsz]; exact h)
  generalize va_A (cl tc g N ad ++ Y) sz = A at hw hA hX ⊢
  obtain ⟨H, eH⟩ : ∃ z, z = s.heap := ⟨_, rfl⟩
  obtain ⟨locs, eL⟩ : ∃ z : List Loc, z = [] := ⟨_, rfl⟩
  have hw : wH D A s.heap (cl tc g N ad ++ Y) H locs := by rw [eH, eL]; exact hw
  have gl : W p l e ({ frames := 7, cells := 2, slots := 12, locals := 104 } : Room) s m args below meth c H locs 0 0 (vx_MQ below (va_Qi (fun r u => (none, r, u) = F) (fun u t => qW D tc A (cl tc u N ad ++ Y) t) A) (xC D tc A (fun E u => (some E, (0 : Int32), u) = F) (fun u => cl tc u N ad ++ Y)) args s 2 12 A) (F0 m 0 ls []) := ?_
  · rw [eH, eL] at gl; exact gl
  have hl : lv_has ls 5 [(0, .ref (ad 0 0)), (1, .int x1), (2, .int x2)] := hl
  unfold kC_told at hok
  unfold fC_told at hF
  refine lv_aload_n hx hb d_C_told_0 rfl (lv_at hl 0 rfl) ?_
  refine lv_iload_n hx hb d_C_told_1 rfl (lv_at hl 1 rfl) ?_
  obtain ⟨hi_1, hok⟩ := hok
  refine dx_r (n := 1) (C := "CountRounds") (b := ad 0 0) (q0 := bw_o (cb tc g N ad) 0 + 0) (ci := 3) (As := [.int x1]) (rest := []) h0 hX hw hA (xC_sheetNumbered l hlt D tc sa ad Y H.size x1 g N ⟨hi_1, fun _ => trivial, fun c9 => ⟨(hok.2 c9).1, (hok.2 c9).2.1, trivial⟩⟩) (gd_V wd_444 wd_446 (gw_s 8 rfl rfl) wd_1 wd_447) (by decide +kernel) ⟨rfl, rfl, (Nat.le_of_ble_eq_true rfl), (Nat.le_of_ble_eq_true rfl), (Nat.le_of_ble_eq_true rfl), (Nat.le_of_ble_eq_true rfl)⟩ (bw_get (bs := cb tc g N ad) (j := 0) rfl Nat.one_pos Y) rfl rfl hl.1 rfl (Nat.le_of_ble_eq_true rfl) d_C_told_2 (fun c_2 H locs q ce hw hq hv hcl => ?_) (fun c_2 locs hw => ?_)
  · have hF := (if_pos c_2).symm.trans hF
    exact ox_t h0 hw htab hlocks hq hv hcl g hF rfl (Nat.le_of_ble_eq_true rfl) (Nat.le_of_ble_eq_true rfl)
  · have hok := hok.2 c_2
    have hF := (if_neg c_2).symm.trans hF
    obtain ⟨hi_3, hi_4, hok⟩ := hok
    refine lv_astore_n (lv' := [(3, .ref (ad 4 ((x1 - 1).toNatClampNeg))), (0, .ref (ad 0 0)), (1, .int x1), (2, .int x2)]) hx hb d_C_told_5 rfl hl (by decide) rfl (fun ls hl => ?_)
    refine lv_iload_n hx hb d_C_told_6 rfl (lv_at hl 3 rfl) ?_
    refine lv_bipush (v := 10) hx hb d_C_told_7 (by decide) ?_
    refine lv_icmp_lt (tgt := 40) hx hb d_C_told_9 (by decide) (fun c_5 => ?_) (fun c_5 => ?_)
    · have hok := hok.1 c_5
      have hF := (if_pos c_5).symm.trans hF
      refine lv_iload_n hx hb d_C_told_40 rfl (lv_at hl 3 rfl) ?_
      by_cases c_6 : x2 = 0
      · have hok := hok.1 c_6
        have hF := (if_pos c_6).symm.trans hF
        refine lv_tableIn (tgt := 68) hx hb d_C_told_41 (by rw [c_6]; decide) (by rw [c_6]; decide) (by rw [c_6]; rfl) (by decide) ?_
        refine lv_aload_n hx hb d_C_told_68 rfl (lv_at hl 0 rfl) ?_
        refine gCS_10 h0 hN hw hi_4 d_C_told_69 ?_
        exact vx_ret (rt_i h0 hw hr hlocks rfl g hF rfl d_C_told_72 (Nat.le_of_ble_eq_true rfl) (Nat.le_of_ble_eq_true rfl))
      have hok := hok.2 c_6
      have hF := (if_neg c_6).symm.trans hF
      by_cases c_7 : x2 = 1
      · have hok := hok.1 c_7
        have hF := (if_pos c_7).symm.trans hF
        refine lv_tableIn (tgt := 73) hx hb d_C_told_41 (by rw [c_7]; decide) (by rw [c_7]; decide) (by rw [c_7]; rfl) (by decide) ?_
        refine lv_aload_n hx hb d_C_told_73 rfl (lv_at hl 0 rfl) ?_
        refine gCS_0 h0 hN hw hi_4 d_C_told_74 ?_
        refine n_members h0 hw hi_4 d_C_told_77 ?_
        exact vx_ret (rt_i h0 hw hr hlocks rfl g hF rfl d_C_told_78 (Nat.le_of_ble_eq_true rfl) (Nat.le_of_ble_eq_true rfl))
      have hok := hok.2 c_7
      have hF := (if_neg c_7).symm.trans hF
      by_cases c_8 : x2 = 2
      · have hok := hok.1 c_8
        have hF := (if_pos c_8).symm.trans hF
        refine lv_tableIn (tgt := 79) hx hb d_C_told_41 (by rw [c_8]; decide) (by rw [c_8]; decide) (by rw [c_8]; rfl) (by decide) ?_
        refine lv_aload_n hx hb d_C_told_79 rfl (lv_at hl 0 rfl) ?_
        refine gCS_9 h0 hN hw hi_4 d_C_told_80 ?_
        exact vx_ret (rt_i h0 hw hr hlocks rfl g hF rfl d_C_told_83 (Nat.le_of_ble_eq_true rfl) (Nat.le_of_ble_eq_true rfl))
      have hok := hok.2 c_8
      have hF := (if_neg c_8).symm.trans hF
      have ec_6 := lv_neT (a := 0) c_6 rfl
      have ec_7 := lv_neT (a := 1) c_7 rfl
      have ec_8 := lv_neT (a := 2) c_8 rfl
      refine lv_tableOut (tgt := 84) hx hb d_C_told_41 (by omega) (by decide) ?_
      exact th_S hlt h0 rfl hX hw (by decide +kernel) wd_175 wd_7 (q9 := 24) rfl at_iae ag_iae hl.1 d_C_told_84 d_C_told_87 d_C_told_88 d_C_told_90 d_C_told_93 htab hlocks ⟨(Nat.le_of_ble_eq_true rfl), (Nat.le_of_ble_eq_true rfl), (Nat.le_of_ble_eq_true rfl), (Nat.le_of_ble_eq_true rfl)⟩ g hF rfl (Nat.le_of_ble_eq_true rfl) (Nat.le_of_ble_eq_true rfl)
    · have hok := hok.2 c_5
      have hF := (if_neg c_5).symm.trans hF
      refine lv_iload_n hx hb d_C_told_12 rfl (lv_at hl 3 rfl) ?_
      refine lv_bipush (v := 10) hx hb d_C_told_13 (by decide) ?_
      refine lv_isub hx hb d_C_told_15 ?_
      refine lv_istore (lv' := [(4, .int (x2 - 10)), (3, .ref (ad 4 ((x1 - 1).toNatClampNeg))), (0, .ref (ad 0 0)), (1, .int x1), (2, .int x2)]) hx hb d_C_told_16 hl (by decide) rfl (fun ls hl => ?_)
      refine lv_iload hx hb d_C_told_18 (lv_at hl 0 rfl) ?_
      refine lv_aload_n hx hb d_C_told_20 rfl (lv_at hl 1 rfl) ?_
      refine gCS_0 h0 hN hw hi_4 d_C_told_21 ?_
      refine n_members h0 hw hi_4 d_C_told_24 ?_
      refine lv_icmp_ge (tgt := 38) hx hb d_C_told_25 (by decide) (fun c_9 => ?_) (fun c_9 => ?_)
      · have hok := hok.1 c_9
        have hF := (if_pos c_9).symm.trans hF
        refine lv_iconst (v := (-1)) hx hb d_C_told_38 (by decide) ?_
        exact vx_ret (rt_i h0 hw hr hlocks rfl g hF rfl d_C_told_39 (Nat.le_of_ble_eq_true rfl) (Nat.le_of_ble_eq_true rfl))
      · have hok := hok.2 c_9
        have hF := (if_neg c_9).symm.trans hF
        refine lv_aload_n hx hb d_C_told_28 rfl (lv_at hl 1 rfl) ?_
        refine gCS_0 h0 hN hw hi_4 d_C_told_29 ?_
        refine lv_iload hx hb d_C_told_32 (lv_at hl 0 rfl) ?_
        obtain ⟨hi_10, hok⟩ := hok
        refine l_members h0 hw hi_4 hi_10 d_C_told_34 ?_
        refine lv_goto (tgt := 39) hx hb d_C_told_35 (by decide) ?_
        exact vx_ret (rt_i h0 hw hr hlocks rfl g hF rfl d_C_told_39 (Nat.le_of_ble_eq_true rfl) (Nat.le_of_ble_eq_true rfl))
