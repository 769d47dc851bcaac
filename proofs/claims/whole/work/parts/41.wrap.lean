set_option maxHeartbeats 4000000 in
set_option maxRecDepth 100000 in
theorem cL_place (l : Launch) (hlt : l.stackTraces = false) (D : va_G) (tc : Nat → ClassId) (sa : Nat → Nat) (ad : Nat → Nat → Nat) (Y : va_W) (sz : Nat) (o : Nat) (fo : Nat → Int64) (x1 : Int32) (g : Nat → Nat → Nat → Int32) (N : Nat → Nat) {F : Option String × Int32 × (Nat → Nat → Nat → Int32) × (Nat → Nat)} (hok : kC_place x1 g N) (hF : fC_place x1 g N = F) (hEx : ∀ E, F.1 = some E → E = "java/lang/IllegalArgumentException" ∨ E = "java/lang/UnsupportedOperationException") : Met l y_L_place (Cond.codeWith y_L_place b_L_place 4 (some .int) [(0, 9, 12, 13), (0, 9, 15, 15)] :: gw) ({ frames := 7, cells := 2, slots := 10, locals := 112 } : Room) (va_Pc [.ref (ad 0 0), .int x1, .ref o] (pL D tc sa (cl tc g N ad ++ ((o, .inl (tc 2, 1, .inr (.inl fo))) :: Y)) sz)) (va_Qi (fun r (u : (Nat → Nat → Nat → Int32) × (Nat → Nat) × (Nat → Nat → Nat) × (Nat → Int64)) => r = cd ["java/lang/IllegalArgumentException", "java/lang/UnsupportedOperationException"] F.1 ∧ (u.1, u.2.1) = F.2.2 ∧ u.2.2.1 0 = ad 0 ∧ (F.1 = none → u.2.2.2 0 = F.2.1.toInt64)) (fun u t => qW D tc (va_A (cl tc g N ad ++ ((o, .inl (tc 2, 1, .inr (.inl fo))) :: Y)) sz) (cl tc u.1 u.2.1 u.2.2.1 ++ ((o, .inl (tc 2, 1, .inr (.inl u.2.2.2))) :: Y)) t) (va_A (cl tc g N ad ++ ((o, .inl (tc 2, 1, .inr (.inl fo))) :: Y)) sz)) 2 10 (va_A (cl tc g N ad ++ ((o, .inl (tc 2, 1, .inr (.inl fo))) :: Y)) sz) := by
  refine en_L (by decide) (Nat.le_of_ble_eq_true rfl) ?_
  intro p e s m args below meth c ls h0 hX hNc hr hlocks htb hsz hw hl
  obtain ⟨hx, hb, hml, hown, hts, hK⟩ := id h0
  have hA : ∀ q : Nat, s.heap.size ≤ q → (va_A (cl tc g N ad ++ ((o, .inl (tc 2, 1, .inr (.inl fo))) :: Y)) sz) q := fun q h => Or.inr (by rw [← hsz]; exact h)
  generalize (va_A (cl tc g N ad ++ ((o, .inl (tc 2, 1, .inr (.inl fo))) :: Y)) sz) = A at hw hA hX ⊢
  have hl : lv_has ls 4 [(0, .ref (ad 0 0)), (1, .int x1), (2, .ref o)] := hl
  refine lv_aload_n hx hb d_L_place_0 rfl (lv_at hl 2 rfl) ?_
  refine lv_iconst (v := 0) hx hb d_L_place_1 (by decide) ?_
  refine lv_aload_n hx hb d_L_place_2 rfl (lv_at hl 0 rfl) ?_
  refine lv_iload_n hx hb d_L_place_3 rfl (lv_at hl 1 rfl) ?_
  refine lx_i (wd := (fun (u : (Nat → Nat → Nat → Int32) × (Nat → Nat) × (Nat → Nat → Nat)) => cl tc u.1 u.2.1 u.2.2 ++ ((o, .inl (tc 2, 1, .inr (.inl fo))) :: Y))) (n := 1) (C := "CountRounds") (b := ad 0 0) (q0 := bw_o (cb tc g N ad) 0 + 0) (ci := 3) (As := [.int x1]) (rest := [.int 0, .ref o]) h0 hX hw hA (cC_place l hlt D tc sa ad ((o, .inl (tc 2, 1, .inr (.inl fo))) :: Y) s.heap.size x1 g N hok hF) (gd_V wd_168 wd_169 wd_170 wd_1 wd_171) (by decide +kernel) ⟨rfl, rfl, (Nat.le_of_ble_eq_true rfl), (Nat.le_of_ble_eq_true rfl), (Nat.le_of_ble_eq_true rfl), (Nat.le_of_ble_eq_true rfl)⟩ (bw_get (bs := cb tc g N ad) (j := 0) rfl Nat.one_pos ((o, .inl (tc 2, 1, .inr (.inl fo))) :: Y)) rfl rfl hl.1 rfl (Nat.le_of_ble_eq_true rfl) d_L_place_4 (fun E u H locs q ce hp hw hq hv hcl => ?_) (fun r u H locs hp hw => ?_)
  · have hE : F.1 = some E := by rw [← hp.1]
    rcases hEx E hE with rfl | rfl
    · refine vx_catch hown ((tableOf [(0, 9, 12, 13), (0, 9, 15, 15)]).take 0) (tableOf [(0, 9, 12, 13), (0, 9, 15, 15)])[0] ((tableOf [(0, 9, 12, 13), (0, 9, 15, 15)]).drop 1) htb (fun z hz => nomatch hz) (by decide) (by decide) (hts _ wd_166) (va_Nw.use (w := .castable "java/lang/IllegalArgumentException" "java/lang/IllegalArgumentException") rfl (hX.1 _ wn_177)) hq hv hcl ?_
      refine lv_astore_n (lv' := [(3, .ref q), (0, .ref (ad 0 0)), (1, .int x1), (2, .ref o)]) hx hb d_L_place_12 rfl hl (by decide) rfl (fun ls hl => ?_)
      refine lv_iconst (v := 1) hx hb d_L_place_13 (by decide) ?_
      exact rt_i h0 hw hr hlocks rfl (u.1, u.2.1, u.2.2, fo) ⟨by rw [hE]; decide, by rw [← hp.1], hp.2, fun h => by rw [hE] at h; cases h⟩ rfl d_L_place_14 (Nat.le_of_ble_eq_true rfl) (Nat.le_of_ble_eq_true rfl)
    · refine vx_catch hown ((tableOf [(0, 9, 12, 13), (0, 9, 15, 15)]).take 1) (tableOf [(0, 9, 12, 13), (0, 9, 15, 15)])[1] ((tableOf [(0, 9, 12, 13), (0, 9, 15, 15)]).drop 2) htb (fun z hz => by
        rcases List.mem_cons.mp hz with rfl | hz
        · exact Or.inr ⟨by decide, "java/lang/IllegalArgumentException", hts _ wd_166, hNc _ (by decide) _ (by decide) (by decide)⟩
        · cases hz) (by decide) (by decide) (hts _ wd_167) (va_Nw.use (w := .castable "java/lang/UnsupportedOperationException" "java/lang/UnsupportedOperationException") rfl (hX.1 _ wn_193)) hq hv hcl ?_
      refine lv_astore_n (lv' := [(3, .ref q), (0, .ref (ad 0 0)), (1, .int x1), (2, .ref o)]) hx hb d_L_place_15 rfl hl (by decide) rfl (fun ls hl => ?_)
      refine lv_iconst (v := 2) hx hb d_L_place_16 (by decide) ?_
      exact rt_i h0 hw hr hlocks rfl (u.1, u.2.1, u.2.2, fo) ⟨by rw [hE]; decide, by rw [← hp.1], hp.2, fun h => by rw [hE] at h; cases h⟩ rfl d_L_place_17 (Nat.le_of_ble_eq_true rfl) (Nat.le_of_ble_eq_true rfl)
  · have hE : F.1 = none := by rw [← hp.1]
    refine lv_i2l hx hb d_L_place_7 rfl ?_
    refine va_last hx hb hK hw.1 hw.2.1 hw.2.2 (cl tc u.1 u.2.1 u.2.2).length 2 (n := 1) (f := fo) (cA := tc 2) (lc_get _ _) rfl (by unfold vp_in; decide) d_L_place_8 (fun H locs hP hD hS => ?_)
    rw [lc_set] at hP hD
    have hw : wH D A s.heap (cl tc u.1 u.2.1 u.2.2 ++ ((o, .inl (tc 2, 1, .inr (.inl (vp_updL fo 0 r.toInt64)))) :: Y)) H locs := ⟨hP, hD, hS⟩
    refine lv_goto (tgt := 18) hx hb d_L_place_9 (by decide) ?_
    refine lv_iconst (v := 0) hx hb d_L_place_18 (by decide) ?_
    exact rt_i h0 hw hr hlocks rfl (u.1, u.2.1, u.2.2, (vp_updL fo 0 r.toInt64)) ⟨by rw [hE]; rfl, by rw [← hp.1], hp.2, fun _ => by rw [← hp.1]; rfl⟩ rfl d_L_place_19 (Nat.le_of_ble_eq_true rfl) (Nat.le_of_ble_eq_true rfl)
set_option maxHeartbeats 4000000 in
set_option maxRecDepth 100000 in
theorem cL_stock (l : Launch) (hlt : l.stackTraces = false) (D : va_G) (tc : Nat → ClassId) (sa : Nat → Nat) (ad : Nat → Nat → Nat) (Y : va_W) (sz : Nat) (x1 : Int32) (x2 : Int32) (x3 : Int32) (g : Nat → Nat → Nat → Int32) (N : Nat → Nat) {F : Option String × Int32 × (Nat → Nat → Nat → Int32)} (hok : kC_stock x1 x2 x3 g N) (hF : fC_stock x1 x2 x3 g N = F) (hEx : ∀ E, F.1 = some E → E = "java/util/NoSuchElementException" ∨ E = "java/lang/IllegalArgumentException") : Met l y_L_stock (Cond.codeWith y_L_stock b_L_stock 5 (some .int) [(0, 7, 10, 21), (0, 7, 14, 13)] :: gw) ({ frames := 8, cells := 2, slots := 12, locals := 128 } : Room) (va_Pc [.ref (ad 0 0), .int x1, .int x2, .int x3] (pL D tc sa (cl tc g N ad ++ Y) sz)) (va_Qi (fun r (u : (Nat → Nat → Nat → Int32)) => r = cd ["java/util/NoSuchElementException", "java/lang/IllegalArgumentException"] F.1 ∧ u = F.2.2) (fun u t => qW D tc (va_A (cl tc g N ad ++ Y) sz) (cl tc u N ad ++ Y) t) (va_A (cl tc g N ad ++ Y) sz)) 2 12 (va_A (cl tc g N ad ++ Y) sz) := by
  refine en_L (by decide) (Nat.le_of_ble_eq_true rfl) ?_
  intro p e s m args below meth c ls h0 hX hNc hr hlocks htb hsz hw hl
  obtain ⟨hx, hb, hml, hown, hts, hK⟩ := id h0
  have hA : ∀ q : Nat, s.heap.size ≤ q → (va_A (cl tc g N ad ++ Y) sz) q := fun q h => Or.inr (by rw [← hsz]; exact h)
  generalize (va_A (cl tc g N ad ++ Y) sz) = A at hw hA hX ⊢
  have hl : lv_has ls 5 [(0, .ref (ad 0 0)), (1, .int x1), (2, .int x2), (3, .int x3)] := hl
  refine lv_aload_n hx hb d_L_stock_0 rfl (lv_at hl 0 rfl) ?_
  refine lv_iload_n hx hb d_L_stock_1 rfl (lv_at hl 1 rfl) ?_
  refine lv_iload_n hx hb d_L_stock_2 rfl (lv_at hl 2 rfl) ?_
  refine lv_iload_n hx hb d_L_stock_3 rfl (lv_at hl 3 rfl) ?_
  refine lx_v (wd := (fun u => cl tc u N ad ++ Y)) (n := 3) (C := "CountRounds") (b := ad 0 0) (q0 := bw_o (cb tc g N ad) 0 + 0) (ci := 3) (As := [.int x1, .int x2, .int x3]) (rest := []) h0 hX hw hA (cC_stock l hlt D tc sa ad Y s.heap.size x1 x2 x3 g N hok hF) (gd_V wd_232 wd_233 wd_234 wd_1 wd_235) (by decide +kernel) ⟨rfl, rfl, (Nat.le_of_ble_eq_true rfl), (Nat.le_of_ble_eq_true rfl), (Nat.le_of_ble_eq_true rfl), (Nat.le_of_ble_eq_true rfl)⟩ (bw_get (bs := cb tc g N ad) (j := 0) rfl Nat.one_pos Y) rfl rfl hl.1 rfl (Nat.le_of_ble_eq_true rfl) d_L_stock_4 (fun E u H locs q ce hp hw hq hv hcl => ?_) (fun u H locs hp hw => ?_)
  · have hE : F.1 = some E := by rw [← hp]
    rcases hEx E hE with rfl | rfl
    · refine vx_catch hown ((tableOf [(0, 7, 10, 21), (0, 7, 14, 13)]).take 0) (tableOf [(0, 7, 10, 21), (0, 7, 14, 13)])[0] ((tableOf [(0, 7, 10, 21), (0, 7, 14, 13)]).drop 1) htb (fun z hz => nomatch hz) (by decide) (by decide) (hts _ wd_231) (va_Nw.use (w := .castable "java/util/NoSuchElementException" "java/util/NoSuchElementException") rfl (hX.1 _ wn_95)) hq hv hcl ?_
      refine lv_astore (lv' := [(4, .ref q), (0, .ref (ad 0 0)), (1, .int x1), (2, .int x2), (3, .int x3)]) hx hb d_L_stock_10 hl (by decide) rfl (fun ls hl => ?_)
      refine lv_iconst (v := 1) hx hb d_L_stock_12 (by decide) ?_
      exact rt_i h0 hw hr hlocks rfl u ⟨by rw [hE]; decide, by rw [← hp]⟩ rfl d_L_stock_13 (Nat.le_of_ble_eq_true rfl) (Nat.le_of_ble_eq_true rfl)
    · refine vx_catch hown ((tableOf [(0, 7, 10, 21), (0, 7, 14, 13)]).take 1) (tableOf [(0, 7, 10, 21), (0, 7, 14, 13)])[1] ((tableOf [(0, 7, 10, 21), (0, 7, 14, 13)]).drop 2) htb (fun z hz => by
        rcases List.mem_cons.mp hz with rfl | hz
        · exact Or.inr ⟨by decide, "java/util/NoSuchElementException", hts _ wd_231, hNc _ (by decide) _ (by decide) (by decide)⟩
        · cases hz) (by decide) (by decide) (hts _ wd_166) (va_Nw.use (w := .castable "java/lang/IllegalArgumentException" "java/lang/IllegalArgumentException") rfl (hX.1 _ wn_177)) hq hv hcl ?_
      refine lv_astore (lv' := [(4, .ref q), (0, .ref (ad 0 0)), (1, .int x1), (2, .int x2), (3, .int x3)]) hx hb d_L_stock_14 hl (by decide) rfl (fun ls hl => ?_)
      refine lv_iconst (v := 2) hx hb d_L_stock_16 (by decide) ?_
      exact rt_i h0 hw hr hlocks rfl u ⟨by rw [hE]; decide, by rw [← hp]⟩ rfl d_L_stock_17 (Nat.le_of_ble_eq_true rfl) (Nat.le_of_ble_eq_true rfl)
  · have hE : F.1 = none := by rw [← hp]
    refine lv_goto (tgt := 18) hx hb d_L_stock_7 (by decide) ?_
    refine lv_iconst (v := 0) hx hb d_L_stock_18 (by decide) ?_
    exact rt_i h0 hw hr hlocks rfl u ⟨by rw [hE]; rfl, by rw [← hp]⟩ rfl d_L_stock_19 (Nat.le_of_ble_eq_true rfl) (Nat.le_of_ble_eq_true rfl)
set_option maxHeartbeats 4000000 in
set_option maxRecDepth 100000 in
theorem cL_cycle (l : Launch) (hlt : l.stackTraces = false) (D : va_G) (tc : Nat → ClassId) (sa : Nat → Nat) (ad : Nat → Nat → Nat) (Y : va_W) (sz : Nat) (x1 : Int32) (x2 : Int32) (x3 : Int32) (g : Nat → Nat → Nat → Int32) (N : Nat → Nat) {F : Option String × Int32 × (Nat → Nat → Nat → Int32)} (hok : kC_cycle x1 x2 x3 g N) (hF : fC_cycle x1 x2 x3 g N = F) (hEx : ∀ E, F.1 = some E → E = "java/lang/IllegalArgumentException") : Met l y_L_cycle (Cond.codeWith y_L_cycle b_L_cycle 5 (some .int) [(0, 7, 10, 13)] :: gw) ({ frames := 7, cells := 1, slots := 6, locals := 105 } : Room) (va_Pc [.ref (ad 0 0), .int x1, .int x2, .int x3] (pL D tc sa (cl tc g N ad ++ Y) sz)) (va_Qi (fun r (u : (Nat → Nat → Nat → Int32)) => r = cd ["java/lang/IllegalArgumentException"] F.1 ∧ u = F.2.2) (fun u t => qW D tc (va_A (cl tc g N ad ++ Y) sz) (cl tc u N ad ++ Y) t) (va_A (cl tc g N ad ++ Y) sz)) 1 6 (va_A (cl tc g N ad ++ Y) sz) := by
  refine en_L (by decide) (Nat.le_of_ble_eq_true rfl) ?_
  intro p e s m args below meth c ls h0 hX hNc hr hlocks htb hsz hw hl
  obtain ⟨hx, hb, hml, hown, hts, hK⟩ := id h0
  have hA : ∀ q : Nat, s.heap.size ≤ q → (va_A (cl tc g N ad ++ Y) sz) q := fun q h => Or.inr (by rw [← hsz]; exact h)
  generalize (va_A (cl tc g N ad ++ Y) sz) = A at hw hA hX ⊢
  have hl : lv_has ls 5 [(0, .ref (ad 0 0)), (1, .int x1), (2, .int x2), (3, .int x3)] := hl
  refine lv_aload_n hx hb d_L_cycle_0 rfl (lv_at hl 0 rfl) ?_
  refine lv_iload_n hx hb d_L_cycle_1 rfl (lv_at hl 1 rfl) ?_
  refine lv_iload_n hx hb d_L_cycle_2 rfl (lv_at hl 2 rfl) ?_
  refine lv_iload_n hx hb d_L_cycle_3 rfl (lv_at hl 3 rfl) ?_
  refine lx_v (wd := (fun u => cl tc u N ad ++ Y)) (n := 3) (C := "CountRounds") (b := ad 0 0) (q0 := bw_o (cb tc g N ad) 0 + 0) (ci := 3) (As := [.int x1, .int x2, .int x3]) (rest := []) h0 hX hw hA (cC_cycle l hlt D tc sa ad Y s.heap.size x1 x2 x3 g N hok hF) (gd_V wd_252 wd_253 wd_254 wd_1 wd_255) (by decide +kernel) ⟨rfl, rfl, (Nat.le_of_ble_eq_true rfl), (Nat.le_of_ble_eq_true rfl), (Nat.le_of_ble_eq_true rfl), (Nat.le_of_ble_eq_true rfl)⟩ (bw_get (bs := cb tc g N ad) (j := 0) rfl Nat.one_pos Y) rfl rfl hl.1 rfl (Nat.le_of_ble_eq_true rfl) d_L_cycle_4 (fun E u H locs q ce hp hw hq hv hcl => ?_) (fun u H locs hp hw => ?_)
  · have hE : F.1 = some E := by rw [← hp]
    rcases hEx E hE with rfl
    · refine vx_catch hown ((tableOf [(0, 7, 10, 13)]).take 0) (tableOf [(0, 7, 10, 13)])[0] ((tableOf [(0, 7, 10, 13)]).drop 1) htb (fun z hz => nomatch hz) (by decide) (by decide) (hts _ wd_166) (va_Nw.use (w := .castable "java/lang/IllegalArgumentException" "java/lang/IllegalArgumentException") rfl (hX.1 _ wn_177)) hq hv hcl ?_
      refine lv_astore (lv' := [(4, .ref q), (0, .ref (ad 0 0)), (1, .int x1), (2, .int x2), (3, .int x3)]) hx hb d_L_cycle_10 hl (by decide) rfl (fun ls hl => ?_)
      refine lv_iconst (v := 1) hx hb d_L_cycle_12 (by decide) ?_
      exact rt_i h0 hw hr hlocks rfl u ⟨by rw [hE]; decide, by rw [← hp]⟩ rfl d_L_cycle_13 (Nat.le_of_ble_eq_true rfl) (Nat.le_of_ble_eq_true rfl)
  · have hE : F.1 = none := by rw [← hp]
    refine lv_goto (tgt := 14) hx hb d_L_cycle_7 (by decide) ?_
    refine lv_iconst (v := 0) hx hb d_L_cycle_14 (by decide) ?_
    exact rt_i h0 hw hr hlocks rfl u ⟨by rw [hE]; rfl, by rw [← hp]⟩ rfl d_L_cycle_15 (Nat.le_of_ble_eq_true rfl) (Nat.le_of_ble_eq_true rfl)
set_option maxHeartbeats 4000000 in
set_option maxRecDepth 100000 in
theorem cL_right (l : Launch) (hlt : l.stackTraces = false) (D : va_G) (tc : Nat → ClassId) (sa : Nat → Nat) (ad : Nat → Nat → Nat) (Y : va_W) (sz : Nat) (x1 : Int32) (x2 : Int32) (g : Nat → Nat → Nat → Int32) (N : Nat → Nat) {F : Option String × Int32 × (Nat → Nat → Nat → Int32)} (hok : kC_right x1 x2 g N) (hF : fC_right x1 x2 g N = F) (hEx : ∀ E, F.1 = some E → E = "java/lang/IllegalArgumentException") : Met l y_L_right (Cond.codeWith y_L_right b_L_right 4 (some .int) [(0, 6, 9, 13)] :: gw) ({ frames := 7, cells := 1, slots := 6, locals := 104 } : Room) (va_Pc [.ref (ad 0 0), .int x1, .int x2] (pL D tc sa (cl tc g N ad ++ Y) sz)) (va_Qi (fun r (u : (Nat → Nat → Nat → Int32)) => r = cd ["java/lang/IllegalArgumentException"] F.1 ∧ u = F.2.2) (fun u t => qW D tc (va_A (cl tc g N ad ++ Y) sz) (cl tc u N ad ++ Y) t) (va_A (cl tc g N ad ++ Y) sz)) 1 6 (va_A (cl tc g N ad ++ Y) sz) := by
  refine en_L (by decide) (Nat.le_of_ble_eq_true rfl) ?_
  intro p e s m args below meth c ls h0 hX hNc hr hlocks htb hsz hw hl
  obtain ⟨hx, hb, hml, hown, hts, hK⟩ := id h0
  have hA : ∀ q : Nat, s.heap.size ≤ q → (va_A (cl tc g N ad ++ Y) sz) q := fun q h => Or.inr (by rw [← hsz]; exact h)
  generalize (va_A (cl tc g N ad ++ Y) sz) = A at hw hA hX ⊢
  have hl : lv_has ls 4 [(0, .ref (ad 0 0)), (1, .int x1), (2, .int x2)] := hl
  refine lv_aload_n hx hb d_L_right_0 rfl (lv_at hl 0 rfl) ?_
  refine lv_iload_n hx hb d_L_right_1 rfl (lv_at hl 1 rfl) ?_
  refine lv_iload_n hx hb d_L_right_2 rfl (lv_at hl 2 rfl) ?_
  refine lx_v (wd := (fun u => cl tc u N ad ++ Y)) (n := 2) (C := "CountRounds") (b := ad 0 0) (q0 := bw_o (cb tc g N ad) 0 + 0) (ci := 3) (As := [.int x1, .int x2]) (rest := []) h0 hX hw hA (cC_right l hlt D tc sa ad Y s.heap.size x1 x2 g N hok hF) (gd_V wd_260 wd_261 wd_262 wd_1 wd_263) (by decide +kernel) ⟨rfl, rfl, (Nat.le_of_ble_eq_true rfl), (Nat.le_of_ble_eq_true rfl), (Nat.le_of_ble_eq_true rfl), (Nat.le_of_ble_eq_true rfl)⟩ (bw_get (bs := cb tc g N ad) (j := 0) rfl Nat.one_pos Y) rfl rfl hl.1 rfl (Nat.le_of_ble_eq_true rfl) d_L_right_3 (fun E u H locs q ce hp hw hq hv hcl => ?_) (fun u H locs hp hw => ?_)
  · have hE : F.1 = some E := by rw [← hp]
    rcases hEx E hE with rfl
    · refine vx_catch hown ((tableOf [(0, 6, 9, 13)]).take 0) (tableOf [(0, 6, 9, 13)])[0] ((tableOf [(0, 6, 9, 13)]).drop 1) htb (fun z hz => nomatch hz) (by decide) (by decide) (hts _ wd_166) (va_Nw.use (w := .castable "java/lang/IllegalArgumentException" "java/lang/IllegalArgumentException") rfl (hX.1 _ wn_177)) hq hv hcl ?_
      refine lv_astore_n (lv' := [(3, .ref q), (0, .ref (ad 0 0)), (1, .int x1), (2, .int x2)]) hx hb d_L_right_9 rfl hl (by decide) rfl (fun ls hl => ?_)
      refine lv_iconst (v := 1) hx hb d_L_right_10 (by decide) ?_
      exact rt_i h0 hw hr hlocks rfl u ⟨by rw [hE]; decide, by rw [← hp]⟩ rfl d_L_right_11 (Nat.le_of_ble_eq_true rfl) (Nat.le_of_ble_eq_true rfl)
  · have hE : F.1 = none := by rw [← hp]
    refine lv_goto (tgt := 12) hx hb d_L_right_6 (by decide) ?_
    refine lv_iconst (v := 0) hx hb d_L_right_12 (by decide) ?_
    exact rt_i h0 hw hr hlocks rfl u ⟨by rw [hE]; rfl, by rw [← hp]⟩ rfl d_L_right_13 (Nat.le_of_ble_eq_true rfl) (Nat.le_of_ble_eq_true rfl)
set_option maxHeartbeats 4000000 in
set_option maxRecDepth 100000 in
theorem cL_setting (l : Launch) (hlt : l.stackTraces = false) (D : va_G) (tc : Nat → ClassId) (sa : Nat → Nat) (ad : Nat → Nat → Nat) (Y : va_W) (sz : Nat) (x1 : Int32) (g : Nat → Nat → Nat → Int32) (N : Nat → Nat) {F : Option String × Int32 × (Nat → Nat → Nat → Int32)} (hok : kC_setting x1 g N) (hF : fC_setting x1 g N = F) (hEx : ∀ E, F.1 = some E → E = "java/lang/IllegalArgumentException") : Met l y_L_setting (Cond.codeWith y_L_setting b_L_setting 3 (some .int) [(0, 5, 8, 13)] :: gw) ({ frames := 7, cells := 1, slots := 6, locals := 103 } : Room) (va_Pc [.ref (ad 0 0), .int x1] (pL D tc sa (cl tc g N ad ++ Y) sz)) (va_Qi (fun r (u : (Nat → Nat → Nat → Int32)) => r = cd ["java/lang/IllegalArgumentException"] F.1 ∧ u = F.2.2) (fun u t => qW D tc (va_A (cl tc g N ad ++ Y) sz) (cl tc u N ad ++ Y) t) (va_A (cl tc g N ad ++ Y) sz)) 1 6 (va_A (cl tc g N ad ++ Y) sz) := by
  refine en_L (by decide) (Nat.le_of_ble_eq_true rfl) ?_
  intro p e s m args below meth c ls h0 hX hNc hr hlocks htb hsz hw hl
  obtain ⟨hx, hb, hml, hown, hts, hK⟩ := id h0
  have hA : ∀ q : Nat, s.heap.size ≤ q → (va_A (cl tc g N ad ++ Y) sz) q := fun q h => Or.inr (by rw [← hsz]; exact h)
  generalize (va_A (cl tc g N ad ++ Y) sz) = A at hw hA hX ⊢
  have hl : lv_has ls 3 [(0, .ref (ad 0 0)), (1, .int x1)] := hl
  refine lv_aload_n hx hb d_L_setting_0 rfl (lv_at hl 0 rfl) ?_
  refine lv_iload_n hx hb d_L_setting_1 rfl (lv_at hl 1 rfl) ?_
  refine lx_v (wd := (fun u => cl tc u N ad ++ Y)) (n := 1) (C := "CountRounds") (b := ad 0 0) (q0 := bw_o (cb tc g N ad) 0 + 0) (ci := 3) (As := [.int x1]) (rest := []) h0 hX hw hA (cC_setting l hlt D tc sa ad Y s.heap.size x1 g N hok hF) (gd_V wd_271 wd_272 wd_273 wd_1 wd_274) (by decide +kernel) ⟨rfl, rfl, (Nat.le_of_ble_eq_true rfl), (Nat.le_of_ble_eq_true rfl), (Nat.le_of_ble_eq_true rfl), (Nat.le_of_ble_eq_true rfl)⟩ (bw_get (bs := cb tc g N ad) (j := 0) rfl Nat.one_pos Y) rfl rfl hl.1 rfl (Nat.le_of_ble_eq_true rfl) d_L_setting_2 (fun E u H locs q ce hp hw hq hv hcl => ?_) (fun u H locs hp hw => ?_)
  · have hE : F.1 = some E := by rw [← hp]
    rcases hEx E hE with rfl
    · refine vx_catch hown ((tableOf [(0, 5, 8, 13)]).take 0) (tableOf [(0, 5, 8, 13)])[0] ((tableOf [(0, 5, 8, 13)]).drop 1) htb (fun z hz => nomatch hz) (by decide) (by decide) (hts _ wd_166) (va_Nw.use (w := .castable "java/lang/IllegalArgumentException" "java/lang/IllegalArgumentException") rfl (hX.1 _ wn_177)) hq hv hcl ?_
      refine lv_astore_n (lv' := [(2, .ref q), (0, .ref (ad 0 0)), (1, .int x1)]) hx hb d_L_setting_8 rfl hl (by decide) rfl (fun ls hl => ?_)
      refine lv_iconst (v := 1) hx hb d_L_setting_9 (by decide) ?_
      exact rt_i h0 hw hr hlocks rfl u ⟨by rw [hE]; decide, by rw [← hp]⟩ rfl d_L_setting_10 (Nat.le_of_ble_eq_true rfl) (Nat.le_of_ble_eq_true rfl)
  · have hE : F.1 = none := by rw [← hp]
    refine lv_goto (tgt := 11) hx hb d_L_setting_5 (by decide) ?_
    refine lv_iconst (v := 0) hx hb d_L_setting_11 (by decide) ?_
    exact rt_i h0 hw hr hlocks rfl u ⟨by rw [hE]; rfl, by rw [← hp]⟩ rfl d_L_setting_12 (Nat.le_of_ble_eq_true rfl) (Nat.le_of_ble_eq_true rfl)
set_option maxHeartbeats 4000000 in
set_option maxRecDepth 100000 in
theorem cL_day (l : Launch) (hlt : l.stackTraces = false) (D : va_G) (tc : Nat → ClassId) (sa : Nat → Nat) (ad : Nat → Nat → Nat) (Y : va_W) (sz : Nat) (x1 : Int32) (g : Nat → Nat → Nat → Int32) (N : Nat → Nat) {F : Option String × Int32 × (Nat → Nat → Nat → Int32)} (hok : kC_day x1 g N) (hF : fC_day x1 g N = F) (hEx : ∀ E, F.1 = some E → E = "java/lang/IllegalArgumentException" ∨ E = "java/lang/IllegalStateException") : Met l y_L_day (Cond.codeWith y_L_day b_L_day 3 (some .int) [(0, 5, 8, 13), (0, 5, 11, 37)] :: gw) ({ frames := 7, cells := 1, slots := 6, locals := 103 } : Room) (va_Pc [.ref (ad 0 0), .int x1] (pL D tc sa (cl tc g N ad ++ Y) sz)) (va_Qi (fun r (u : (Nat → Nat → Nat → Int32)) => r = cd ["java/lang/IllegalArgumentException", "java/lang/IllegalStateException"] F.1 ∧ u = F.2.2) (fun u t => qW D tc (va_A (cl tc g N ad ++ Y) sz) (cl tc u N ad ++ Y) t) (va_A (cl tc g N ad ++ Y) sz)) 1 6 (va_A (cl tc g N ad ++ Y) sz) := by
  refine en_L (by decide) (Nat.le_of_ble_eq_true rfl) ?_
  intro p e s m args below meth c ls h0 hX hNc hr hlocks htb hsz hw hl
  obtain ⟨hx, hb, hml, hown, hts, hK⟩ := id h0
  have hA : ∀ q : Nat, s.heap.size ≤ q → (va_A (cl tc g N ad ++ Y) sz) q := fun q h => Or.inr (by rw [← hsz]; exact h)
  generalize (va_A (cl tc g N ad ++ Y) sz) = A at hw hA hX ⊢
  have hl : lv_has ls 3 [(0, .ref (ad 0 0)), (1, .int x1)] := hl
  refine lv_aload_n hx hb d_L_day_0 rfl (lv_at hl 0 rfl) ?_
  refine lv_iload_n hx hb d_L_day_1 rfl (lv_at hl 1 rfl) ?_
  refine lx_v (wd := (fun u => cl tc u N ad ++ Y)) (n := 1) (C := "CountRounds") (b := ad 0 0) (q0 := bw_o (cb tc g N ad) 0 + 0) (ci := 3) (As := [.int x1]) (rest := []) h0 hX hw hA (cC_day l hlt D tc sa ad Y s.heap.size x1 g N hok hF) (gd_V wd_280 wd_281 wd_282 wd_1 wd_283) (by decide +kernel) ⟨rfl, rfl, (Nat.le_of_ble_eq_true rfl), (Nat.le_of_ble_eq_true rfl), (Nat.le_of_ble_eq_true rfl), (Nat.le_of_ble_eq_true rfl)⟩ (bw_get (bs := cb tc g N ad) (j := 0) rfl Nat.one_pos Y) rfl rfl hl.1 rfl (Nat.le_of_ble_eq_true rfl) d_L_day_2 (fun E u H locs q ce hp hw hq hv hcl => ?_) (fun u H locs hp hw => ?_)
  · have hE : F.1 = some E := by rw [← hp]
    rcases hEx E hE with rfl | rfl
    · refine vx_catch hown ((tableOf [(0, 5, 8, 13), (0, 5, 11, 37)]).take 0) (tableOf [(0, 5, 8, 13), (0, 5, 11, 37)])[0] ((tableOf [(0, 5, 8, 13), (0, 5, 11, 37)]).drop 1) htb (fun z hz => nomatch hz) (by decide) (by decide) (hts _ wd_166) (va_Nw.use (w := .castable "java/lang/IllegalArgumentException" "java/lang/IllegalArgumentException") rfl (hX.1 _ wn_177)) hq hv hcl ?_
      refine lv_astore_n (lv' := [(2, .ref q), (0, .ref (ad 0 0)), (1, .int x1)]) hx hb d_L_day_8 rfl hl (by decide) rfl (fun ls hl => ?_)
      refine lv_iconst (v := 1) hx hb d_L_day_9 (by decide) ?_
      exact rt_i h0 hw hr hlocks rfl u ⟨by rw [hE]; decide, by rw [← hp]⟩ rfl d_L_day_10 (Nat.le_of_ble_eq_true rfl) (Nat.le_of_ble_eq_true rfl)
    · refine vx_catch hown ((tableOf [(0, 5, 8, 13), (0, 5, 11, 37)]).take 1) (tableOf [(0, 5, 8, 13), (0, 5, 11, 37)])[1] ((tableOf [(0, 5, 8, 13), (0, 5, 11, 37)]).drop 2) htb (fun z hz => by
        rcases List.mem_cons.mp hz with rfl | hz
        · exact Or.inr ⟨by decide, "java/lang/IllegalArgumentException", hts _ wd_166, hNc _ (by decide) _ (by decide) (by decide)⟩
        · cases hz) (by decide) (by decide) (hts _ wd_279) (va_Nw.use (w := .castable "java/lang/IllegalStateException" "java/lang/IllegalStateException") rfl (hX.1 _ wn_290)) hq hv hcl ?_
      refine lv_astore_n (lv' := [(2, .ref q), (0, .ref (ad 0 0)), (1, .int x1)]) hx hb d_L_day_11 rfl hl (by decide) rfl (fun ls hl => ?_)
      refine lv_iconst (v := 2) hx hb d_L_day_12 (by decide) ?_
      exact rt_i h0 hw hr hlocks rfl u ⟨by rw [hE]; decide, by rw [← hp]⟩ rfl d_L_day_13 (Nat.le_of_ble_eq_true rfl) (Nat.le_of_ble_eq_true rfl)
  · have hE : F.1 = none := by rw [← hp]
    refine lv_goto (tgt := 14) hx hb d_L_day_5 (by decide) ?_
    refine lv_iconst (v := 0) hx hb d_L_day_14 (by decide) ?_
    exact rt_i h0 hw hr hlocks rfl u ⟨by rw [hE]; rfl, by rw [← hp]⟩ rfl d_L_day_15 (Nat.le_of_ble_eq_true rfl) (Nat.le_of_ble_eq_true rfl)
set_option maxHeartbeats 4000000 in
set_option maxRecDepth 100000 in
theorem cL_move (l : Launch) (hlt : l.stackTraces = false) (D : va_G) (tc : Nat → ClassId) (sa : Nat → Nat) (ad : Nat → Nat → Nat) (Y : va_W) (sz : Nat) (o : Nat) (fo : Nat → Int64) (x1 : Int32) (x2 : Int32) (x3 : Int32) (x4 : Int32) (g : Nat → Nat → Nat → Int32) (N : Nat → Nat) {F : Option String × Int32 × (Nat → Nat → Nat → Int32) × (Nat → Nat)} (hok : kC_move x1 x2 x3 x4 g N) (hF : fC_move x1 x2 x3 x4 g N = F) (hEx : ∀ E, F.1 = some E → E = "java/util/NoSuchElementException" ∨ E = "java/lang/IllegalArgumentException" ∨ E = "java/lang/IllegalStateException" ∨ E = "java/lang/UnsupportedOperationException") : Met l y_L_move (Cond.codeWith y_L_move b_L_move 7 (some .int) [(0, 14, 17, 21), (0, 14, 21, 13), (0, 14, 25, 37), (0, 14, 29, 15)] :: gw) ({ frames := 8, cells := 3, slots := 18, locals := 129 } : Room) (va_Pc [.ref (ad 0 0), .int x1, .int x2, .int x3, .int x4, .ref o] (pL D tc sa (cl tc g N ad ++ ((o, .inl (tc 2, 1, .inr (.inl fo))) :: Y)) sz)) (va_Qi (fun r (u : (Nat → Nat → Nat → Int32) × (Nat → Nat) × (Nat → Nat → Nat) × (Nat → Int64)) => r = cd ["java/util/NoSuchElementException", "java/lang/IllegalArgumentException", "java/lang/IllegalStateException", "java/lang/UnsupportedOperationException"] F.1 ∧ (u.1, u.2.1) = F.2.2 ∧ u.2.2.1 0 = ad 0 ∧ (F.1 = none → u.2.2.2 0 = F.2.1.toInt64)) (fun u t => qW D tc (va_A (cl tc g N ad ++ ((o, .inl (tc 2, 1, .inr (.inl fo))) :: Y)) sz) (cl tc u.1 u.2.1 u.2.2.1 ++ ((o, .inl (tc 2, 1, .inr (.inl u.2.2.2))) :: Y)) t) (va_A (cl tc g N ad ++ ((o, .inl (tc 2, 1, .inr (.inl fo))) :: Y)) sz)) 3 18 (va_A (cl tc g N ad ++ ((o, .inl (tc 2, 1, .inr (.inl fo))) :: Y)) sz) := by
  refine en_L (by decide) (Nat.le_of_ble_eq_true rfl) ?_
  intro p e s m args below meth c ls h0 hX hNc hr hlocks htb hsz hw hl
  obtain ⟨hx, hb, hml, hown, hts, hK⟩ := id h0
  have hA : ∀ q : Nat, s.heap.size ≤ q → (va_A (cl tc g N ad ++ ((o, .inl (tc 2, 1, .inr (.inl fo))) :: Y)) sz) q := fun q h => Or.inr (by rw [← hsz]; exact h)
  generalize (va_A (cl tc g N ad ++ ((o, .inl (tc 2, 1, .inr (.inl fo))) :: Y)) sz) = A at hw hA hX ⊢
  have hl : lv_has ls 7 [(0, .ref (ad 0 0)), (1, .int x1), (2, .int x2), (3, .int x3), (4, .int x4), (5, .ref o)] := hl
  refine lv_aload hx hb d_L_move_0 (lv_at hl 5 rfl) ?_
  refine lv_iconst (v := 0) hx hb d_L_move_2 (by decide) ?_
  refine lv_aload_n hx hb d_L_move_3 rfl (lv_at hl 0 rfl) ?_
  refine lv_iload_n hx hb d_L_move_4 rfl (lv_at hl 1 rfl) ?_
  refine lv_iload_n hx hb d_L_move_5 rfl (lv_at hl 2 rfl) ?_
  refine lv_iload_n hx hb d_L_move_6 rfl (lv_at hl 3 rfl) ?_
  refine lv_iload hx hb d_L_move_7 (lv_at hl 4 rfl) ?_
  refine lx_i (wd := (fun (u : (Nat → Nat → Nat → Int32) × (Nat → Nat) × (Nat → Nat → Nat)) => cl tc u.1 u.2.1 u.2.2 ++ ((o, .inl (tc 2, 1, .inr (.inl fo))) :: Y))) (n := 4) (C := "CountRounds") (b := ad 0 0) (q0 := bw_o (cb tc g N ad) 0 + 0) (ci := 3) (As := [.int x1, .int x2, .int x3, .int x4]) (rest := [.int 0, .ref o]) h0 hX hw hA (cC_move l hlt D tc sa ad ((o, .inl (tc 2, 1, .inr (.inl fo))) :: Y) s.heap.size x1 x2 x3 x4 g N hok hF) (gd_V wd_307 wd_308 wd_309 wd_1 wd_310) (by decide +kernel) ⟨rfl, rfl, (Nat.le_of_ble_eq_true rfl), (Nat.le_of_ble_eq_true rfl), (Nat.le_of_ble_eq_true rfl), (Nat.le_of_ble_eq_true rfl)⟩ (bw_get (bs := cb tc g N ad) (j := 0) rfl Nat.one_pos ((o, .inl (tc 2, 1, .inr (.inl fo))) :: Y)) rfl rfl hl.1 rfl (Nat.le_of_ble_eq_true rfl) d_L_move_9 (fun E u H locs q ce hp hw hq hv hcl => ?_) (fun r u H locs hp hw => ?_)
  · have hE : F.1 = some E := by rw [← hp.1]
    rcases hEx E hE with rfl | rfl | rfl | rfl
    · refine vx_catch hown ((tableOf [(0, 14, 17, 21), (0, 14, 21, 13), (0, 14, 25, 37), (0, 14, 29, 15)]).take 0) (tableOf [(0, 14, 17, 21), (0, 14, 21, 13), (0, 14, 25, 37), (0, 14, 29, 15)])[0] ((tableOf [(0, 14, 17, 21), (0, 14, 21, 13), (0, 14, 25, 37), (0, 14, 29, 15)]).drop 1) htb (fun z hz => nomatch hz) (by decide) (by decide) (hts _ wd_231) (va_Nw.use (w := .castable "java/util/NoSuchElementException" "java/util/NoSuchElementException") rfl (hX.1 _ wn_95)) hq hv hcl ?_
      refine lv_astore (lv' := [(6, .ref q), (0, .ref (ad 0 0)), (1, .int x1), (2, .int x2), (3, .int x3), (4, .int x4), (5, .ref o)]) hx hb d_L_move_17 hl (by decide) rfl (fun ls hl => ?_)
      refine lv_iconst (v := 1) hx hb d_L_move_19 (by decide) ?_
      exact rt_i h0 hw hr hlocks rfl (u.1, u.2.1, u.2.2, fo) ⟨by rw [hE]; decide, by rw [← hp.1], hp.2, fun h => by rw [hE] at h; cases h⟩ rfl d_L_move_20 (Nat.le_of_ble_eq_true rfl) (Nat.le_of_ble_eq_true rfl)
    · refine vx_catch hown ((tableOf [(0, 14, 17, 21), (0, 14, 21, 13), (0, 14, 25, 37), (0, 14, 29, 15)]).take 1) (tableOf [(0, 14, 17, 21), (0, 14, 21, 13), (0, 14, 25, 37), (0, 14, 29, 15)])[1] ((tableOf [(0, 14, 17, 21), (0, 14, 21, 13), (0, 14, 25, 37), (0, 14, 29, 15)]).drop 2) htb (fun z hz => by
        rcases List.mem_cons.mp hz with rfl | hz
        · exact Or.inr ⟨by decide, "java/util/NoSuchElementException", hts _ wd_231, hNc _ (by decide) _ (by decide) (by decide)⟩
        · cases hz) (by decide) (by decide) (hts _ wd_166) (va_Nw.use (w := .castable "java/lang/IllegalArgumentException" "java/lang/IllegalArgumentException") rfl (hX.1 _ wn_177)) hq hv hcl ?_
      refine lv_astore (lv' := [(6, .ref q), (0, .ref (ad 0 0)), (1, .int x1), (2, .int x2), (3, .int x3), (4, .int x4), (5, .ref o)]) hx hb d_L_move_21 hl (by decide) rfl (fun ls hl => ?_)
      refine lv_iconst (v := 2) hx hb d_L_move_23 (by decide) ?_
      exact rt_i h0 hw hr hlocks rfl (u.1, u.2.1, u.2.2, fo) ⟨by rw [hE]; decide, by rw [← hp.1], hp.2, fun h => by rw [hE] at h; cases h⟩ rfl d_L_move_24 (Nat.le_of_ble_eq_true rfl) (Nat.le_of_ble_eq_true rfl)
    · refine vx_catch hown ((tableOf [(0, 14, 17, 21), (0, 14, 21, 13), (0, 14, 25, 37), (0, 14, 29, 15)]).take 2) (tableOf [(0, 14, 17, 21), (0, 14, 21, 13), (0, 14, 25, 37), (0, 14, 29, 15)])[2] ((tableOf [(0, 14, 17, 21), (0, 14, 21, 13), (0, 14, 25, 37), (0, 14, 29, 15)]).drop 3) htb (fun z hz => by
        rcases List.mem_cons.mp hz with rfl | hz
        · exact Or.inr ⟨by decide, "java/util/NoSuchElementException", hts _ wd_231, hNc _ (by decide) _ (by decide) (by decide)⟩
        rcases List.mem_cons.mp hz with rfl | hz
        · exact Or.inr ⟨by decide, "java/lang/IllegalArgumentException", hts _ wd_166, hNc _ (by decide) _ (by decide) (by decide)⟩
        · cases hz) (by decide) (by decide) (hts _ wd_279) (va_Nw.use (w := .castable "java/lang/IllegalStateException" "java/lang/IllegalStateException") rfl (hX.1 _ wn_290)) hq hv hcl ?_
      refine lv_astore (lv' := [(6, .ref q), (0, .ref (ad 0 0)), (1, .int x1), (2, .int x2), (3, .int x3), (4, .int x4), (5, .ref o)]) hx hb d_L_move_25 hl (by decide) rfl (fun ls hl => ?_)
      refine lv_iconst (v := 3) hx hb d_L_move_27 (by decide) ?_
      exact rt_i h0 hw hr hlocks rfl (u.1, u.2.1, u.2.2, fo) ⟨by rw [hE]; decide, by rw [← hp.1], hp.2, fun h => by rw [hE] at h; cases h⟩ rfl d_L_move_28 (Nat.le_of_ble_eq_true rfl) (Nat.le_of_ble_eq_true rfl)
    · refine vx_catch hown ((tableOf [(0, 14, 17, 21), (0, 14, 21, 13), (0, 14, 25, 37), (0, 14, 29, 15)]).take 3) (tableOf [(0, 14, 17, 21), (0, 14, 21, 13), (0, 14, 25, 37), (0, 14, 29, 15)])[3] ((tableOf [(0, 14, 17, 21), (0, 14, 21, 13), (0, 14, 25, 37), (0, 14, 29, 15)]).drop 4) htb (fun z hz => by
        rcases List.mem_cons.mp hz with rfl | hz
        · exact Or.inr ⟨by decide, "java/util/NoSuchElementException", hts _ wd_231, hNc _ (by decide) _ (by decide) (by decide)⟩
        rcases List.mem_cons.mp hz with rfl | hz
        · exact Or.inr ⟨by decide, "java/lang/IllegalArgumentException", hts _ wd_166, hNc _ (by decide) _ (by decide) (by decide)⟩
        rcases List.mem_cons.mp hz with rfl | hz
        · exact Or.inr ⟨by decide, "java/lang/IllegalStateException", hts _ wd_279, hNc _ (by decide) _ (by decide) (by decide)⟩
        · cases hz) (by decide) (by decide) (hts _ wd_167) (va_Nw.use (w := .castable "java/lang/UnsupportedOperationException" "java/lang/UnsupportedOperationException") rfl (hX.1 _ wn_193)) hq hv hcl ?_
      refine lv_astore (lv' := [(6, .ref q), (0, .ref (ad 0 0)), (1, .int x1), (2, .int x2), (3, .int x3), (4, .int x4), (5, .ref o)]) hx hb d_L_move_29 hl (by decide) rfl (fun ls hl => ?_)
      refine lv_iconst (v := 4) hx hb d_L_move_31 (by decide) ?_
      exact rt_i h0 hw hr hlocks rfl (u.1, u.2.1, u.2.2, fo) ⟨by rw [hE]; decide, by rw [← hp.1], hp.2, fun h => by rw [hE] at h; cases h⟩ rfl d_L_move_32 (Nat.le_of_ble_eq_true rfl) (Nat.le_of_ble_eq_true rfl)
  · have hE : F.1 = none := by rw [← hp.1]
    refine lv_i2l hx hb d_L_move_12 rfl ?_
    refine va_last hx hb hK hw.1 hw.2.1 hw.2.2 (cl tc u.1 u.2.1 u.2.2).length 2 (n := 1) (f := fo) (cA := tc 2) (lc_get _ _) rfl (by unfold vp_in; decide) d_L_move_13 (fun H locs hP hD hS => ?_)
    rw [lc_set] at hP hD
    have hw : wH D A s.heap (cl tc u.1 u.2.1 u.2.2 ++ ((o, .inl (tc 2, 1, .inr (.inl (vp_updL fo 0 r.toInt64)))) :: Y)) H locs := ⟨hP, hD, hS⟩
    refine lv_goto (tgt := 33) hx hb d_L_move_14 (by decide) ?_
    refine lv_iconst (v := 0) hx hb d_L_move_33 (by decide) ?_
    exact rt_i h0 hw hr hlocks rfl (u.1, u.2.1, u.2.2, (vp_updL fo 0 r.toInt64)) ⟨by rw [hE]; rfl, by rw [← hp.1], hp.2, fun _ => by rw [← hp.1]; rfl⟩ rfl d_L_move_34 (Nat.le_of_ble_eq_true rfl) (Nat.le_of_ble_eq_true rfl)
set_option maxHeartbeats 4000000 in
set_option maxRecDepth 100000 in
theorem cL_end (l : Launch) (hlt : l.stackTraces = false) (D : va_G) (tc : Nat → ClassId) (sa : Nat → Nat) (ad : Nat → Nat → Nat) (Y : va_W) (sz : Nat) (x1 : Int32) (g : Nat → Nat → Nat → Int32) (N : Nat → Nat) {F : Option String × Int32 × (Nat → Nat → Nat → Int32)} (hok : kC_end x1 g N) (hF : fC_end x1 g N = F) (hEx : ∀ E, F.1 = some E → E = "java/util/NoSuchElementException" ∨ E = "java/lang/IllegalStateException") : Met l y_L_end (Cond.codeWith y_L_end b_L_end 3 (some .int) [(0, 5, 8, 21), (0, 5, 11, 37)] :: gw) ({ frames := 8, cells := 2, slots := 12, locals := 128 } : Room) (va_Pc [.ref (ad 0 0), .int x1] (pL D tc sa (cl tc g N ad ++ Y) sz)) (va_Qi (fun r (u : (Nat → Nat → Nat → Int32)) => r = cd ["java/util/NoSuchElementException", "java/lang/IllegalStateException"] F.1 ∧ u = F.2.2) (fun u t => qW D tc (va_A (cl tc g N ad ++ Y) sz) (cl tc u N ad ++ Y) t) (va_A (cl tc g N ad ++ Y) sz)) 2 12 (va_A (cl tc g N ad ++ Y) sz) := by
  refine en_L (by decide) (Nat.le_of_ble_eq_true rfl) ?_
  intro p e s m args below meth c ls h0 hX hNc hr hlocks htb hsz hw hl
  obtain ⟨hx, hb, hml, hown, hts, hK⟩ := id h0
  have hA : ∀ q : Nat, s.heap.size ≤ q → (va_A (cl tc g N ad ++ Y) sz) q := fun q h => Or.inr (by rw [← hsz]; exact h)
  generalize (va_A (cl tc g N ad ++ Y) sz) = A at hw hA hX ⊢
  have hl : lv_has ls 3 [(0, .ref (ad 0 0)), (1, .int x1)] := hl
  refine lv_aload_n hx hb d_L_end_0 rfl (lv_at hl 0 rfl) ?_
  refine lv_iload_n hx hb d_L_end_1 rfl (lv_at hl 1 rfl) ?_
  refine lx_v (wd := (fun u => cl tc u N ad ++ Y)) (n := 1) (C := "CountRounds") (b := ad 0 0) (q0 := bw_o (cb tc g N ad) 0 + 0) (ci := 3) (As := [.int x1]) (rest := []) h0 hX hw hA (cC_end l hlt D tc sa ad Y s.heap.size x1 g N hok hF) (gd_V wd_343 wd_344 wd_345 wd_1 wd_346) (by decide +kernel) ⟨rfl, rfl, (Nat.le_of_ble_eq_true rfl), (Nat.le_of_ble_eq_true rfl), (Nat.le_of_ble_eq_true rfl), (Nat.le_of_ble_eq_true rfl)⟩ (bw_get (bs := cb tc g N ad) (j := 0) rfl Nat.one_pos Y) rfl rfl hl.1 rfl (Nat.le_of_ble_eq_true rfl) d_L_end_2 (fun E u H locs q ce hp hw hq hv hcl => ?_) (fun u H locs hp hw => ?_)
  · have hE : F.1 = some E := by rw [← hp]
    rcases hEx E hE with rfl | rfl
    · refine vx_catch hown ((tableOf [(0, 5, 8, 21), (0, 5, 11, 37)]).take 0) (tableOf [(0, 5, 8, 21), (0, 5, 11, 37)])[0] ((tableOf [(0, 5, 8, 21), (0, 5, 11, 37)]).drop 1) htb (fun z hz => nomatch hz) (by decide) (by decide) (hts _ wd_231) (va_Nw.use (w := .castable "java/util/NoSuchElementException" "java/util/NoSuchElementException") rfl (hX.1 _ wn_95)) hq hv hcl ?_
      refine lv_astore_n (lv' := [(2, .ref q), (0, .ref (ad 0 0)), (1, .int x1)]) hx hb d_L_end_8 rfl hl (by decide) rfl (fun ls hl => ?_)
      refine lv_iconst (v := 1) hx hb d_L_end_9 (by decide) ?_
      exact rt_i h0 hw hr hlocks rfl u ⟨by rw [hE]; decide, by rw [← hp]⟩ rfl d_L_end_10 (Nat.le_of_ble_eq_true rfl) (Nat.le_of_ble_eq_true rfl)
    · refine vx_catch hown ((tableOf [(0, 5, 8, 21), (0, 5, 11, 37)]).take 1) (tableOf [(0, 5, 8, 21), (0, 5, 11, 37)])[1] ((tableOf [(0, 5, 8, 21), (0, 5, 11, 37)]).drop 2) htb (fun z hz => by
        rcases List.mem_cons.mp hz with rfl | hz
        · exact Or.inr ⟨by decide, "java/util/NoSuchElementException", hts _ wd_231, hNc _ (by decide) _ (by decide) (by decide)⟩
        · cases hz) (by decide) (by decide) (hts _ wd_279) (va_Nw.use (w := .castable "java/lang/IllegalStateException" "java/lang/IllegalStateException") rfl (hX.1 _ wn_290)) hq hv hcl ?_
      refine lv_astore_n (lv' := [(2, .ref q), (0, .ref (ad 0 0)), (1, .int x1)]) hx hb d_L_end_11 rfl hl (by decide) rfl (fun ls hl => ?_)
      refine lv_iconst (v := 2) hx hb d_L_end_12 (by decide) ?_
      exact rt_i h0 hw hr hlocks rfl u ⟨by rw [hE]; decide, by rw [← hp]⟩ rfl d_L_end_13 (Nat.le_of_ble_eq_true rfl) (Nat.le_of_ble_eq_true rfl)
  · have hE : F.1 = none := by rw [← hp]
    refine lv_goto (tgt := 14) hx hb d_L_end_5 (by decide) ?_
    refine lv_iconst (v := 0) hx hb d_L_end_14 (by decide) ?_
    exact rt_i h0 hw hr hlocks rfl u ⟨by rw [hE]; rfl, by rw [← hp]⟩ rfl d_L_end_15 (Nat.le_of_ble_eq_true rfl) (Nat.le_of_ble_eq_true rfl)
set_option maxHeartbeats 4000000 in
set_option maxRecDepth 100000 in
theorem cL_moves (l : Launch) (hlt : l.stackTraces = false) (D : va_G) (tc : Nat → ClassId) (sa : Nat → Nat) (ad : Nat → Nat → Nat) (Y : va_W) (sz : Nat) (o : Nat) (fo : Nat → Int64) (x1 : Int32) (g : Nat → Nat → Nat → Int32) (N : Nat → Nat) {F : Option String × Int32 × (Nat → Nat → Nat → Int32)} (hok : kC_moves x1 g N) (hF : fC_moves x1 g N = F) (hEx : ∀ E, F.1 = some E → E = "java/util/NoSuchElementException") : Met l y_L_moves (Cond.codeWith y_L_moves b_L_moves 4 (some .int) [(0, 9, 12, 21)] :: gw) ({ frames := 8, cells := 1, slots := 6, locals := 125 } : Room) (va_Pc [.ref (ad 0 0), .int x1, .ref o] (pL D tc sa (cl tc g N ad ++ ((o, .inl (tc 2, 1, .inr (.inl fo))) :: Y)) sz)) (va_Qi (fun r (u : (Nat → Nat → Nat → Int32) × (Nat → Int64)) => r = cd ["java/util/NoSuchElementException"] F.1 ∧ u.1 = F.2.2 ∧ (F.1 = none → u.2 0 = F.2.1.toInt64)) (fun u t => qW D tc (va_A (cl tc g N ad ++ ((o, .inl (tc 2, 1, .inr (.inl fo))) :: Y)) sz) (cl tc u.1 N ad ++ ((o, .inl (tc 2, 1, .inr (.inl u.2))) :: Y)) t) (va_A (cl tc g N ad ++ ((o, .inl (tc 2, 1, .inr (.inl fo))) :: Y)) sz)) 1 6 (va_A (cl tc g N ad ++ ((o, .inl (tc 2, 1, .inr (.inl fo))) :: Y)) sz) := by
  refine en_L (by decide) (Nat.le_of_ble_eq_true rfl) ?_
  intro p e s m args below meth c ls h0 hX hNc hr hlocks htb hsz hw hl
  obtain ⟨hx, hb, hml, hown, hts, hK⟩ := id h0
  have hA : ∀ q : Nat, s.heap.size ≤ q → (va_A (cl tc g N ad ++ ((o, .inl (tc 2, 1, .inr (.inl fo))) :: Y)) sz) q := fun q h => Or.inr (by rw [← hsz]; exact h)
  generalize (va_A (cl tc g N ad ++ ((o, .inl (tc 2, 1, .inr (.inl fo))) :: Y)) sz) = A at hw hA hX ⊢
  have hl : lv_has ls 4 [(0, .ref (ad 0 0)), (1, .int x1), (2, .ref o)] := hl
  refine lv_aload_n hx hb d_L_moves_0 rfl (lv_at hl 2 rfl) ?_
  refine lv_iconst (v := 0) hx hb d_L_moves_1 (by decide) ?_
  refine lv_aload_n hx hb d_L_moves_2 rfl (lv_at hl 0 rfl) ?_
  refine lv_iload_n hx hb d_L_moves_3 rfl (lv_at hl 1 rfl) ?_
  refine lx_i (wd := (fun u => cl tc u N ad ++ ((o, .inl (tc 2, 1, .inr (.inl fo))) :: Y))) (n := 1) (C := "CountRounds") (b := ad 0 0) (q0 := bw_o (cb tc g N ad) 0 + 0) (ci := 3) (As := [.int x1]) (rest := [.int 0, .ref o]) h0 hX hw hA (cC_moves l hlt D tc sa ad ((o, .inl (tc 2, 1, .inr (.inl fo))) :: Y) s.heap.size x1 g N hok hF) (gd_V wd_351 wd_352 wd_353 wd_1 wd_354) (by decide +kernel) ⟨rfl, rfl, (Nat.le_of_ble_eq_true rfl), (Nat.le_of_ble_eq_true rfl), (Nat.le_of_ble_eq_true rfl), (Nat.le_of_ble_eq_true rfl)⟩ (bw_get (bs := cb tc g N ad) (j := 0) rfl Nat.one_pos ((o, .inl (tc 2, 1, .inr (.inl fo))) :: Y)) rfl rfl hl.1 rfl (Nat.le_of_ble_eq_true rfl) d_L_moves_4 (fun E u H locs q ce hp hw hq hv hcl => ?_) (fun r u H locs hp hw => ?_)
  · have hE : F.1 = some E := by rw [← hp]
    rcases hEx E hE with rfl
    · refine vx_catch hown ((tableOf [(0, 9, 12, 21)]).take 0) (tableOf [(0, 9, 12, 21)])[0] ((tableOf [(0, 9, 12, 21)]).drop 1) htb (fun z hz => nomatch hz) (by decide) (by decide) (hts _ wd_231) (va_Nw.use (w := .castable "java/util/NoSuchElementException" "java/util/NoSuchElementException") rfl (hX.1 _ wn_95)) hq hv hcl ?_
      refine lv_astore_n (lv' := [(3, .ref q), (0, .ref (ad 0 0)), (1, .int x1), (2, .ref o)]) hx hb d_L_moves_12 rfl hl (by decide) rfl (fun ls hl => ?_)
      refine lv_iconst (v := 1) hx hb d_L_moves_13 (by decide) ?_
      exact rt_i h0 hw hr hlocks rfl (u, fo) ⟨by rw [hE]; decide, by rw [← hp], fun h => by rw [hE] at h; cases h⟩ rfl d_L_moves_14 (Nat.le_of_ble_eq_true rfl) (Nat.le_of_ble_eq_true rfl)
  · have hE : F.1 = none := by rw [← hp]
    refine lv_i2l hx hb d_L_moves_7 rfl ?_
    refine va_last hx hb hK hw.1 hw.2.1 hw.2.2 (cl tc u N ad).length 2 (n := 1) (f := fo) (cA := tc 2) (lc_get _ _) rfl (by unfold vp_in; decide) d_L_moves_8 (fun H locs hP hD hS => ?_)
    rw [lc_set] at hP hD
    have hw : wH D A s.heap (cl tc u N ad ++ ((o, .inl (tc 2, 1, .inr (.inl (vp_updL fo 0 r.toInt64)))) :: Y)) H locs := ⟨hP, hD, hS⟩
    refine lv_goto (tgt := 15) hx hb d_L_moves_9 (by decide) ?_
    refine lv_iconst (v := 0) hx hb d_L_moves_15 (by decide) ?_
    exact rt_i h0 hw hr hlocks rfl (u, (vp_updL fo 0 r.toInt64)) ⟨by rw [hE]; rfl, by rw [← hp], fun _ => by rw [← hp]; rfl⟩ rfl d_L_moves_16 (Nat.le_of_ble_eq_true rfl) (Nat.le_of_ble_eq_true rfl)
set_option maxHeartbeats 4000000 in
set_option maxRecDepth 100000 in
theorem cL_round (l : Launch) (hlt : l.stackTraces = false) (D : va_G) (tc : Nat → ClassId) (sa : Nat → Nat) (ad : Nat → Nat → Nat) (Y : va_W) (sz : Nat) (o : Nat) (fo : Nat → Int64) (x1 : Int32) (x2 : Int32) (x3 : Int64) (g : Nat → Nat → Nat → Int32) (N : Nat → Nat) {F : Option String × Int32 × (Nat → Nat → Nat → Int32) × (Nat → Nat)} (hok : kC_round x1 x2 x3 g N) (hF : fC_round x1 x2 x3 g N = F) (hEx : ∀ E, F.1 = some E → E = "java/lang/IllegalArgumentException" ∨ E = "java/lang/IllegalStateException" ∨ E = "java/lang/UnsupportedOperationException") : Met l y_L_round (Cond.codeWith y_L_round b_L_round 7 (some .int) [(0, 12, 15, 13), (0, 12, 19, 37), (0, 12, 23, 15)] :: gw) ({ frames := 7, cells := 9, slots := 871, locals := 124 } : Room) (va_Pc [.ref (ad 0 0), .int x1, .int x2, .long x3, .ref o] (pL D tc sa (cl tc g N ad ++ ((o, .inl (tc 2, 1, .inr (.inl fo))) :: Y)) sz)) (va_Qi (fun r (u : (Nat → Nat → Nat → Int32) × (Nat → Nat) × (Nat → Nat → Nat) × (Nat → Int64)) => r = cd ["java/lang/IllegalArgumentException", "java/lang/IllegalStateException", "java/lang/UnsupportedOperationException"] F.1 ∧ (u.1, u.2.1) = F.2.2 ∧ u.2.2.1 0 = ad 0 ∧ (F.1 = none → u.2.2.2 0 = F.2.1.toInt64)) (fun u t => qW D tc (va_A (cl tc g N ad ++ ((o, .inl (tc 2, 1, .inr (.inl fo))) :: Y)) sz) (cl tc u.1 u.2.1 u.2.2.1 ++ ((o, .inl (tc 2, 1, .inr (.inl u.2.2.2))) :: Y)) t) (va_A (cl tc g N ad ++ ((o, .inl (tc 2, 1, .inr (.inl fo))) :: Y)) sz)) 9 871 (va_A (cl tc g N ad ++ ((o, .inl (tc 2, 1, .inr (.inl fo))) :: Y)) sz) := by
  refine en_L (by decide) (Nat.le_of_ble_eq_true rfl) ?_
  intro p e s m args below meth c ls h0 hX hNc hr hlocks htb hsz hw hl
  obtain ⟨hx, hb, hml, hown, hts, hK⟩ := id h0
  have hA : ∀ q : Nat, s.heap.size ≤ q → (va_A (cl tc g N ad ++ ((o, .inl (tc 2, 1, .inr (.inl fo))) :: Y)) sz) q := fun q h => Or.inr (by rw [← hsz]; exact h)
  generalize (va_A (cl tc g N ad ++ ((o, .inl (tc 2, 1, .inr (.inl fo))) :: Y)) sz) = A at hw hA hX ⊢
  have hl : lv_has ls 7 [(0, .ref (ad 0 0)), (1, .int x1), (2, .int x2), (3, .long x3), (5, .ref o)] := hl
  refine lv_aload hx hb d_L_round_0 (lv_at hl 4 rfl) ?_
  refine lv_iconst (v := 0) hx hb d_L_round_2 (by decide) ?_
  refine lv_aload_n hx hb d_L_round_3 rfl (lv_at hl 0 rfl) ?_
  refine lv_iload_n hx hb d_L_round_4 rfl (lv_at hl 1 rfl) ?_
  refine lv_iload_n hx hb d_L_round_5 rfl (lv_at hl 2 rfl) ?_
  refine lv_lload_n hx hb d_L_round_6 rfl (lv_at hl 3 rfl) ?_
  refine lx_i (wd := (fun (u : (Nat → Nat → Nat → Int32) × (Nat → Nat) × (Nat → Nat → Nat)) => cl tc u.1 u.2.1 u.2.2 ++ ((o, .inl (tc 2, 1, .inr (.inl fo))) :: Y))) (n := 3) (C := "CountRounds") (b := ad 0 0) (q0 := bw_o (cb tc g N ad) 0 + 0) (ci := 3) (As := [.int x1, .int x2, .long x3]) (rest := [.int 0, .ref o]) h0 hX hw hA (cC_round l hlt D tc sa ad ((o, .inl (tc 2, 1, .inr (.inl fo))) :: Y) s.heap.size x1 x2 x3 g N hok hF) (gd_V wd_362 wd_363 wd_364 wd_1 wd_365) (by decide +kernel) ⟨rfl, rfl, (Nat.le_of_ble_eq_true rfl), (Nat.le_of_ble_eq_true rfl), (Nat.le_of_ble_eq_true rfl), (Nat.le_of_ble_eq_true rfl)⟩ (bw_get (bs := cb tc g N ad) (j := 0) rfl Nat.one_pos ((o, .inl (tc 2, 1, .inr (.inl fo))) :: Y)) rfl rfl hl.1 rfl (Nat.le_of_ble_eq_true rfl) d_L_round_7 (fun E u H locs q ce hp hw hq hv hcl => ?_) (fun r u H locs hp hw => ?_)
  · have hE : F.1 = some E := by rw [← hp.1]
    rcases hEx E hE with rfl | rfl | rfl
    · refine vx_catch hown ((tableOf [(0, 12, 15, 13), (0, 12, 19, 37), (0, 12, 23, 15)]).take 0) (tableOf [(0, 12, 15, 13), (0, 12, 19, 37), (0, 12, 23, 15)])[0] ((tableOf [(0, 12, 15, 13), (0, 12, 19, 37), (0, 12, 23, 15)]).drop 1) htb (fun z hz => nomatch hz) (by decide) (by decide) (hts _ wd_166) (va_Nw.use (w := .castable "java/lang/IllegalArgumentException" "java/lang/IllegalArgumentException") rfl (hX.1 _ wn_177)) hq hv hcl ?_
      refine lv_astore (lv' := [(6, .ref q), (0, .ref (ad 0 0)), (1, .int x1), (2, .int x2), (3, .long x3), (5, .ref o)]) hx hb d_L_round_15 hl (by decide) rfl (fun ls hl => ?_)
      refine lv_iconst (v := 1) hx hb d_L_round_17 (by decide) ?_
      exact rt_i h0 hw hr hlocks rfl (u.1, u.2.1, u.2.2, fo) ⟨by rw [hE]; decide, by rw [← hp.1], hp.2, fun h => by rw [hE] at h; cases h⟩ rfl d_L_round_18 (Nat.le_of_ble_eq_true rfl) (Nat.le_of_ble_eq_true rfl)
    · refine vx_catch hown ((tableOf [(0, 12, 15, 13), (0, 12, 19, 37), (0, 12, 23, 15)]).take 1) (tableOf [(0, 12, 15, 13), (0, 12, 19, 37), (0, 12, 23, 15)])[1] ((tableOf [(0, 12, 15, 13), (0, 12, 19, 37), (0, 12, 23, 15)]).drop 2) htb (fun z hz => by
        rcases List.mem_cons.mp hz with rfl | hz
        · exact Or.inr ⟨by decide, "java/lang/IllegalArgumentException", hts _ wd_166, hNc _ (by decide) _ (by decide) (by decide)⟩
        · cases hz) (by decide) (by decide) (hts _ wd_279) (va_Nw.use (w := .castable "java/lang/IllegalStateException" "java/lang/IllegalStateException") rfl (hX.1 _ wn_290)) hq hv hcl ?_
      refine lv_astore (lv' := [(6, .ref q), (0, .ref (ad 0 0)), (1, .int x1), (2, .int x2), (3, .long x3), (5, .ref o)]) hx hb d_L_round_19 hl (by decide) rfl (fun ls hl => ?_)
      refine lv_iconst (v := 2) hx hb d_L_round_21 (by decide) ?_
      exact rt_i h0 hw hr hlocks rfl (u.1, u.2.1, u.2.2, fo) ⟨by rw [hE]; decide, by rw [← hp.1], hp.2, fun h => by rw [hE] at h; cases h⟩ rfl d_L_round_22 (Nat.le_of_ble_eq_true rfl) (Nat.le_of_ble_eq_true rfl)
    · refine vx_catch hown ((tableOf [(0, 12, 15, 13), (0, 12, 19, 37), (0, 12, 23, 15)]).take 2) (tableOf [(0, 12, 15, 13), (0, 12, 19, 37), (0, 12, 23, 15)])[2] ((tableOf [(0, 12, 15, 13), (0, 12, 19, 37), (0, 12, 23, 15)]).drop 3) htb (fun z hz => by
        rcases List.mem_cons.mp hz with rfl | hz
        · exact Or.inr ⟨by decide, "java/lang/IllegalArgumentException", hts _ wd_166, hNc _ (by decide) _ (by decide) (by decide)⟩
        rcases List.mem_cons.mp hz with rfl | hz
        · exact Or.inr ⟨by decide, "java/lang/IllegalStateException", hts _ wd_279, hNc _ (by decide) _ (by decide) (by decide)⟩
        · cases hz) (by decide) (by decide) (hts _ wd_167) (va_Nw.use (w := .castable "java/lang/UnsupportedOperationException" "java/lang/UnsupportedOperationException") rfl (hX.1 _ wn_193)) hq hv hcl ?_
      refine lv_astore (lv' := [(6, .ref q), (0, .ref (ad 0 0)), (1, .int x1), (2, .int x2), (3, .long x3), (5, .ref o)]) hx hb d_L_round_23 hl (by decide) rfl (fun ls hl => ?_)
      refine lv_iconst (v := 3) hx hb d_L_round_25 (by decide) ?_
      exact rt_i h0 hw hr hlocks rfl (u.1, u.2.1, u.2.2, fo) ⟨by rw [hE]; decide, by rw [← hp.1], hp.2, fun h => by rw [hE] at h; cases h⟩ rfl d_L_round_26 (Nat.le_of_ble_eq_true rfl) (Nat.le_of_ble_eq_true rfl)
  · have hE : F.1 = none := by rw [← hp.1]
    refine lv_i2l hx hb d_L_round_10 rfl ?_
    refine va_last hx hb hK hw.1 hw.2.1 hw.2.2 (cl tc u.1 u.2.1 u.2.2).length 2 (n := 1) (f := fo) (cA := tc 2) (lc_get _ _) rfl (by unfold vp_in; decide) d_L_round_11 (fun H locs hP hD hS => ?_)
    rw [lc_set] at hP hD
    have hw : wH D A s.heap (cl tc u.1 u.2.1 u.2.2 ++ ((o, .inl (tc 2, 1, .inr (.inl (vp_updL fo 0 r.toInt64)))) :: Y)) H locs := ⟨hP, hD, hS⟩
    refine lv_goto (tgt := 27) hx hb d_L_round_12 (by decide) ?_
    refine lv_iconst (v := 0) hx hb d_L_round_27 (by decide) ?_
    exact rt_i h0 hw hr hlocks rfl (u.1, u.2.1, u.2.2, (vp_updL fo 0 r.toInt64)) ⟨by rw [hE]; rfl, by rw [← hp.1], hp.2, fun _ => by rw [← hp.1]; rfl⟩ rfl d_L_round_28 (Nat.le_of_ble_eq_true rfl) (Nat.le_of_ble_eq_true rfl)
set_option maxHeartbeats 4000000 in
set_option maxRecDepth 100000 in
theorem cL_freeze (l : Launch) (hlt : l.stackTraces = false) (D : va_G) (tc : Nat → ClassId) (sa : Nat → Nat) (ad : Nat → Nat → Nat) (Y : va_W) (sz : Nat) (o : Nat) (fo : Nat → Int64) (x1 : Int32) (g : Nat → Nat → Nat → Int32) (N : Nat → Nat) {F : Option String × Int32 × (Nat → Nat → Nat → Int32)} (hok : kC_freeze x1 g N) (hF : fC_freeze x1 g N = F) (hEx : ∀ E, F.1 = some E → E = "java/util/NoSuchElementException" ∨ E = "java/lang/IllegalStateException") : Met l y_L_freeze (Cond.codeWith y_L_freeze b_L_freeze 4 (some .int) [(0, 9, 12, 21), (0, 9, 15, 37)] :: gw) ({ frames := 8, cells := 2, slots := 12, locals := 126 } : Room) (va_Pc [.ref (ad 0 0), .int x1, .ref o] (pL D tc sa (cl tc g N ad ++ ((o, .inl (tc 2, 1, .inr (.inl fo))) :: Y)) sz)) (va_Qi (fun r (u : (Nat → Nat → Nat → Int32) × (Nat → Int64)) => r = cd ["java/util/NoSuchElementException", "java/lang/IllegalStateException"] F.1 ∧ u.1 = F.2.2 ∧ (F.1 = none → u.2 0 = F.2.1.toInt64)) (fun u t => qW D tc (va_A (cl tc g N ad ++ ((o, .inl (tc 2, 1, .inr (.inl fo))) :: Y)) sz) (cl tc u.1 N ad ++ ((o, .inl (tc 2, 1, .inr (.inl u.2))) :: Y)) t) (va_A (cl tc g N ad ++ ((o, .inl (tc 2, 1, .inr (.inl fo))) :: Y)) sz)) 2 12 (va_A (cl tc g N ad ++ ((o, .inl (tc 2, 1, .inr (.inl fo))) :: Y)) sz) := by
  refine en_L (by decide) (Nat.le_of_ble_eq_true rfl) ?_
  intro p e s m args below meth c ls h0 hX hNc hr hlocks htb hsz hw hl
  obtain ⟨hx, hb, hml, hown, hts, hK⟩ := id h0
  have hA : ∀ q : Nat, s.heap.size ≤ q → (va_A (cl tc g N ad ++ ((o, .inl (tc 2, 1, .inr (.inl fo))) :: Y)) sz) q := fun q h => Or.inr (by rw [← hsz]; exact h)
  generalize (va_A (cl tc g N ad ++ ((o, .inl (tc 2, 1, .inr (.inl fo))) :: Y)) sz) = A at hw hA hX ⊢
  have hl : lv_has ls 4 [(0, .ref (ad 0 0)), (1, .int x1), (2, .ref o)] := hl
  refine lv_aload_n hx hb d_L_freeze_0 rfl (lv_at hl 2 rfl) ?_
  refine lv_iconst (v := 0) hx hb d_L_freeze_1 (by decide) ?_
  refine lv_aload_n hx hb d_L_freeze_2 rfl (lv_at hl 0 rfl) ?_
  refine lv_iload_n hx hb d_L_freeze_3 rfl (lv_at hl 1 rfl) ?_
  refine lx_i (wd := (fun u => cl tc u N ad ++ ((o, .inl (tc 2, 1, .inr (.inl fo))) :: Y))) (n := 1) (C := "CountRounds") (b := ad 0 0) (q0 := bw_o (cb tc g N ad) 0 + 0) (ci := 3) (As := [.int x1]) (rest := [.int 0, .ref o]) h0 hX hw hA (cC_freeze l hlt D tc sa ad ((o, .inl (tc 2, 1, .inr (.inl fo))) :: Y) s.heap.size x1 g N hok hF) (gd_V wd_440 wd_441 wd_442 wd_1 wd_443) (by decide +kernel) ⟨rfl, rfl, (Nat.le_of_ble_eq_true rfl), (Nat.le_of_ble_eq_true rfl), (Nat.le_of_ble_eq_true rfl), (Nat.le_of_ble_eq_true rfl)⟩ (bw_get (bs := cb tc g N ad) (j := 0) rfl Nat.one_pos ((o, .inl (tc 2, 1, .inr (.inl fo))) :: Y)) rfl rfl hl.1 rfl (Nat.le_of_ble_eq_true rfl) d_L_freeze_4 (fun E u H locs q ce hp hw hq hv hcl => ?_) (fun r u H locs hp hw => ?_)
  · have hE : F.1 = some E := by rw [← hp]
    rcases hEx E hE with rfl | rfl
    · refine vx_catch hown ((tableOf [(0, 9, 12, 21), (0, 9, 15, 37)]).take 0) (tableOf [(0, 9, 12, 21), (0, 9, 15, 37)])[0] ((tableOf [(0, 9, 12, 21), (0, 9, 15, 37)]).drop 1) htb (fun z hz => nomatch hz) (by decide) (by decide) (hts _ wd_231) (va_Nw.use (w := .castable "java/util/NoSuchElementException" "java/util/NoSuchElementException") rfl (hX.1 _ wn_95)) hq hv hcl ?_
      refine lv_astore_n (lv' := [(3, .ref q), (0, .ref (ad 0 0)), (1, .int x1), (2, .ref o)]) hx hb d_L_freeze_12 rfl hl (by decide) rfl (fun ls hl => ?_)
      refine lv_iconst (v := 1) hx hb d_L_freeze_13 (by decide) ?_
      exact rt_i h0 hw hr hlocks rfl (u, fo) ⟨by rw [hE]; decide, by rw [← hp], fun h => by rw [hE] at h; cases h⟩ rfl d_L_freeze_14 (Nat.le_of_ble_eq_true rfl) (Nat.le_of_ble_eq_true rfl)
    · refine vx_catch hown ((tableOf [(0, 9, 12, 21), (0, 9, 15, 37)]).take 1) (tableOf [(0, 9, 12, 21), (0, 9, 15, 37)])[1] ((tableOf [(0, 9, 12, 21), (0, 9, 15, 37)]).drop 2) htb (fun z hz => by
        rcases List.mem_cons.mp hz with rfl | hz
        · exact Or.inr ⟨by decide, "java/util/NoSuchElementException", hts _ wd_231, hNc _ (by decide) _ (by decide) (by decide)⟩
        · cases hz) (by decide) (by decide) (hts _ wd_279) (va_Nw.use (w := .castable "java/lang/IllegalStateException" "java/lang/IllegalStateException") rfl (hX.1 _ wn_290)) hq hv hcl ?_
      refine lv_astore_n (lv' := [(3, .ref q), (0, .ref (ad 0 0)), (1, .int x1), (2, .ref o)]) hx hb d_L_freeze_15 rfl hl (by decide) rfl (fun ls hl => ?_)
      refine lv_iconst (v := 2) hx hb d_L_freeze_16 (by decide) ?_
      exact rt_i h0 hw hr hlocks rfl (u, fo) ⟨by rw [hE]; decide, by rw [← hp], fun h => by rw [hE] at h; cases h⟩ rfl d_L_freeze_17 (Nat.le_of_ble_eq_true rfl) (Nat.le_of_ble_eq_true rfl)
  · have hE : F.1 = none := by rw [← hp]
    refine lv_i2l hx hb d_L_freeze_7 rfl ?_
    refine va_last hx hb hK hw.1 hw.2.1 hw.2.2 (cl tc u N ad).length 2 (n := 1) (f := fo) (cA := tc 2) (lc_get _ _) rfl (by unfold vp_in; decide) d_L_freeze_8 (fun H locs hP hD hS => ?_)
    rw [lc_set] at hP hD
    have hw : wH D A s.heap (cl tc u N ad ++ ((o, .inl (tc 2, 1, .inr (.inl (vp_updL fo 0 r.toInt64)))) :: Y)) H locs := ⟨hP, hD, hS⟩
    refine lv_goto (tgt := 18) hx hb d_L_freeze_9 (by decide) ?_
    refine lv_iconst (v := 0) hx hb d_L_freeze_18 (by decide) ?_
    exact rt_i h0 hw hr hlocks rfl (u, (vp_updL fo 0 r.toInt64)) ⟨by rw [hE]; rfl, by rw [← hp], fun _ => by rw [← hp]; rfl⟩ rfl d_L_freeze_19 (Nat.le_of_ble_eq_true rfl) (Nat.le_of_ble_eq_true rfl)
set_option maxHeartbeats 4000000 in
set_option maxRecDepth 100000 in
theorem cL_found (l : Launch) (hlt : l.stackTraces = false) (D : va_G) (tc : Nat → ClassId) (sa : Nat → Nat) (ad : Nat → Nat → Nat) (Y : va_W) (sz : Nat) (o : Nat) (fo : Nat → Int64) (x1 : Int32) (x2 : Int32) (x3 : Int32) (x4 : Int32) (x5 : Int32) (g : Nat → Nat → Nat → Int32) (N : Nat → Nat) {F : Option String × Int32 × (Nat → Nat → Nat → Int32)} (hok : kC_found x1 x2 x3 x4 x5 g N) (hF : fC_found x1 x2 x3 x4 x5 g N = F) (hEx : ∀ E, F.1 = some E → E = "java/util/NoSuchElementException" ∨ E = "java/lang/IllegalArgumentException") : Met l y_L_found (Cond.codeWith y_L_found b_L_found 8 (some .int) [(0, 16, 19, 21), (0, 16, 23, 13)] :: gw) ({ frames := 8, cells := 3, slots := 18, locals := 131 } : Room) (va_Pc [.ref (ad 0 0), .int x1, .int x2, .int x3, .int x4, .int x5, .ref o] (pL D tc sa (cl tc g N ad ++ ((o, .inl (tc 2, 1, .inr (.inl fo))) :: Y)) sz)) (va_Qi (fun r (u : (Nat → Nat → Nat → Int32) × (Nat → Int64)) => r = cd ["java/util/NoSuchElementException", "java/lang/IllegalArgumentException"] F.1 ∧ u.1 = F.2.2 ∧ (F.1 = none → u.2 0 = F.2.1.toInt64)) (fun u t => qW D tc (va_A (cl tc g N ad ++ ((o, .inl (tc 2, 1, .inr (.inl fo))) :: Y)) sz) (cl tc u.1 N ad ++ ((o, .inl (tc 2, 1, .inr (.inl u.2))) :: Y)) t) (va_A (cl tc g N ad ++ ((o, .inl (tc 2, 1, .inr (.inl fo))) :: Y)) sz)) 3 18 (va_A (cl tc g N ad ++ ((o, .inl (tc 2, 1, .inr (.inl fo))) :: Y)) sz) := by
  refine en_L (by decide) (Nat.le_of_ble_eq_true rfl) ?_
  intro p e s m args below meth c ls h0 hX hNc hr hlocks htb hsz hw hl
  obtain ⟨hx, hb, hml, hown, hts, hK⟩ := id h0
  have hA : ∀ q : Nat, s.heap.size ≤ q → (va_A (cl tc g N ad ++ ((o, .inl (tc 2, 1, .inr (.inl fo))) :: Y)) sz) q := fun q h => Or.inr (by rw [← hsz]; exact h)
  generalize (va_A (cl tc g N ad ++ ((o, .inl (tc 2, 1, .inr (.inl fo))) :: Y)) sz) = A at hw hA hX ⊢
  have hl : lv_has ls 8 [(0, .ref (ad 0 0)), (1, .int x1), (2, .int x2), (3, .int x3), (4, .int x4), (5, .int x5), (6, .ref o)] := hl
  refine lv_aload hx hb d_L_found_0 (lv_at hl 6 rfl) ?_
  refine lv_iconst (v := 0) hx hb d_L_found_2 (by decide) ?_
  refine lv_aload_n hx hb d_L_found_3 rfl (lv_at hl 0 rfl) ?_
  refine lv_iload_n hx hb d_L_found_4 rfl (lv_at hl 1 rfl) ?_
  refine lv_iload_n hx hb d_L_found_5 rfl (lv_at hl 2 rfl) ?_
  refine lv_iload_n hx hb d_L_found_6 rfl (lv_at hl 3 rfl) ?_
  refine lv_iload hx hb d_L_found_7 (lv_at hl 4 rfl) ?_
  refine lv_iload hx hb d_L_found_9 (lv_at hl 5 rfl) ?_
  refine lx_i (wd := (fun u => cl tc u N ad ++ ((o, .inl (tc 2, 1, .inr (.inl fo))) :: Y))) (n := 5) (C := "CountRounds") (b := ad 0 0) (q0 := bw_o (cb tc g N ad) 0 + 0) (ci := 3) (As := [.int x1, .int x2, .int x3, .int x4, .int x5]) (rest := [.int 0, .ref o]) h0 hX hw hA (cC_found l hlt D tc sa ad ((o, .inl (tc 2, 1, .inr (.inl fo))) :: Y) s.heap.size x1 x2 x3 x4 x5 g N hok hF) (gd_V wd_465 wd_466 wd_467 wd_1 wd_468) (by decide +kernel) ⟨rfl, rfl, (Nat.le_of_ble_eq_true rfl), (Nat.le_of_ble_eq_true rfl), (Nat.le_of_ble_eq_true rfl), (Nat.le_of_ble_eq_true rfl)⟩ (bw_get (bs := cb tc g N ad) (j := 0) rfl Nat.one_pos ((o, .inl (tc 2, 1, .inr (.inl fo))) :: Y)) rfl rfl hl.1 rfl (Nat.le_of_ble_eq_true rfl) d_L_found_11 (fun E u H locs q ce hp hw hq hv hcl => ?_) (fun r u H locs hp hw => ?_)
  · have hE : F.1 = some E := by rw [← hp]
    rcases hEx E hE with rfl | rfl
    · refine vx_catch hown ((tableOf [(0, 16, 19, 21), (0, 16, 23, 13)]).take 0) (tableOf [(0, 16, 19, 21), (0, 16, 23, 13)])[0] ((tableOf [(0, 16, 19, 21), (0, 16, 23, 13)]).drop 1) htb (fun z hz => nomatch hz) (by decide) (by decide) (hts _ wd_231) (va_Nw.use (w := .castable "java/util/NoSuchElementException" "java/util/NoSuchElementException") rfl (hX.1 _ wn_95)) hq hv hcl ?_
      refine lv_astore (lv' := [(7, .ref q), (0, .ref (ad 0 0)), (1, .int x1), (2, .int x2), (3, .int x3), (4, .int x4), (5, .int x5), (6, .ref o)]) hx hb d_L_found_19 hl (by decide) rfl (fun ls hl => ?_)
      refine lv_iconst (v := 1) hx hb d_L_found_21 (by decide) ?_
      exact rt_i h0 hw hr hlocks rfl (u, fo) ⟨by rw [hE]; decide, by rw [← hp], fun h => by rw [hE] at h; cases h⟩ rfl d_L_found_22 (Nat.le_of_ble_eq_true rfl) (Nat.le_of_ble_eq_true rfl)
    · refine vx_catch hown ((tableOf [(0, 16, 19, 21), (0, 16, 23, 13)]).take 1) (tableOf [(0, 16, 19, 21), (0, 16, 23, 13)])[1] ((tableOf [(0, 16, 19, 21), (0, 16, 23, 13)]).drop 2) htb (fun z hz => by
        rcases List.mem_cons.mp hz with rfl | hz
        · exact Or.inr ⟨by decide, "java/util/NoSuchElementException", hts _ wd_231, hNc _ (by decide) _ (by decide) (by decide)⟩
        · cases hz) (by decide) (by decide) (hts _ wd_166) (va_Nw.use (w := .castable "java/lang/IllegalArgumentException" "java/lang/IllegalArgumentException") rfl (hX.1 _ wn_177)) hq hv hcl ?_
      refine lv_astore (lv' := [(7, .ref q), (0, .ref (ad 0 0)), (1, .int x1), (2, .int x2), (3, .int x3), (4, .int x4), (5, .int x5), (6, .ref o)]) hx hb d_L_found_23 hl (by decide) rfl (fun ls hl => ?_)
      refine lv_iconst (v := 2) hx hb d_L_found_25 (by decide) ?_
      exact rt_i h0 hw hr hlocks rfl (u, fo) ⟨by rw [hE]; decide, by rw [← hp], fun h => by rw [hE] at h; cases h⟩ rfl d_L_found_26 (Nat.le_of_ble_eq_true rfl) (Nat.le_of_ble_eq_true rfl)
  · have hE : F.1 = none := by rw [← hp]
    refine lv_i2l hx hb d_L_found_14 rfl ?_
    refine va_last hx hb hK hw.1 hw.2.1 hw.2.2 (cl tc u N ad).length 2 (n := 1) (f := fo) (cA := tc 2) (lc_get _ _) rfl (by unfold vp_in; decide) d_L_found_15 (fun H locs hP hD hS => ?_)
    rw [lc_set] at hP hD
    have hw : wH D A s.heap (cl tc u N ad ++ ((o, .inl (tc 2, 1, .inr (.inl (vp_updL fo 0 r.toInt64)))) :: Y)) H locs := ⟨hP, hD, hS⟩
    refine lv_goto (tgt := 27) hx hb d_L_found_16 (by decide) ?_
    refine lv_iconst (v := 0) hx hb d_L_found_27 (by decide) ?_
    exact rt_i h0 hw hr hlocks rfl (u, (vp_updL fo 0 r.toInt64)) ⟨by rw [hE]; rfl, by rw [← hp], fun _ => by rw [← hp]; rfl⟩ rfl d_L_found_28 (Nat.le_of_ble_eq_true rfl) (Nat.le_of_ble_eq_true rfl)
set_option maxHeartbeats 4000000 in
set_option maxRecDepth 100000 in
theorem cL_second (l : Launch) (hlt : l.stackTraces = false) (D : va_G) (tc : Nat → ClassId) (sa : Nat → Nat) (ad : Nat → Nat → Nat) (Y : va_W) (sz : Nat) (o : Nat) (fo : Nat → Int64) (x1 : Int32) (x2 : Int32) (x3 : Int32) (g : Nat → Nat → Nat → Int32) (N : Nat → Nat) {F : Option String × Int32 × (Nat → Nat → Nat → Int32)} (hok : kC_second x1 x2 x3 g N) (hF : fC_second x1 x2 x3 g N = F) (hEx : ∀ E, F.1 = some E → E = "java/util/NoSuchElementException" ∨ E = "java/lang/IllegalArgumentException" ∨ E = "java/lang/IllegalStateException") : Met l y_L_second (Cond.codeWith y_L_second b_L_second 6 (some .int) [(0, 19, 22, 21), (0, 19, 26, 13), (0, 19, 30, 37)] :: gw) ({ frames := 8, cells := 3, slots := 18, locals := 131 } : Room) (va_Pc [.ref (ad 0 0), .int x1, .int x2, .int x3, .ref o] (pL D tc sa (cl tc g N ad ++ ((o, .inl (tc 2, 1, .inr (.inl fo))) :: Y)) sz)) (va_Qi (fun r (u : (Nat → Nat → Nat → Int32) × (Nat → Int64)) => r = cd ["java/util/NoSuchElementException", "java/lang/IllegalArgumentException", "java/lang/IllegalStateException"] F.1 ∧ u.1 = F.2.2 ∧ (F.1 = none → u.2 0 = (if F.2.1 = 0 then 0 else 1))) (fun u t => qW D tc (va_A (cl tc g N ad ++ ((o, .inl (tc 2, 1, .inr (.inl fo))) :: Y)) sz) (cl tc u.1 N ad ++ ((o, .inl (tc 2, 1, .inr (.inl u.2))) :: Y)) t) (va_A (cl tc g N ad ++ ((o, .inl (tc 2, 1, .inr (.inl fo))) :: Y)) sz)) 3 18 (va_A (cl tc g N ad ++ ((o, .inl (tc 2, 1, .inr (.inl fo))) :: Y)) sz) := by
  refine en_L (by decide) (Nat.le_of_ble_eq_true rfl) ?_
  intro p e s m args below meth c ls h0 hX hNc hr hlocks htb hsz hw hl
  obtain ⟨hx, hb, hml, hown, hts, hK⟩ := id h0
  have hA : ∀ q : Nat, s.heap.size ≤ q → (va_A (cl tc g N ad ++ ((o, .inl (tc 2, 1, .inr (.inl fo))) :: Y)) sz) q := fun q h => Or.inr (by rw [← hsz]; exact h)
  generalize (va_A (cl tc g N ad ++ ((o, .inl (tc 2, 1, .inr (.inl fo))) :: Y)) sz) = A at hw hA hX ⊢
  have hl : lv_has ls 6 [(0, .ref (ad 0 0)), (1, .int x1), (2, .int x2), (3, .int x3), (4, .ref o)] := hl
  refine lv_aload hx hb d_L_second_0 (lv_at hl 4 rfl) ?_
  refine lv_iconst (v := 0) hx hb d_L_second_2 (by decide) ?_
  refine lv_aload_n hx hb d_L_second_3 rfl (lv_at hl 0 rfl) ?_
  refine lv_iload_n hx hb d_L_second_4 rfl (lv_at hl 1 rfl) ?_
  refine lv_iload_n hx hb d_L_second_5 rfl (lv_at hl 2 rfl) ?_
  refine lv_iload_n hx hb d_L_second_6 rfl (lv_at hl 3 rfl) ?_
  refine lx_i (wd := (fun u => cl tc u N ad ++ ((o, .inl (tc 2, 1, .inr (.inl fo))) :: Y))) (n := 3) (C := "CountRounds") (b := ad 0 0) (q0 := bw_o (cb tc g N ad) 0 + 0) (ci := 3) (As := [.int x1, .int x2, .int x3]) (rest := [.int 0, .ref o]) h0 hX hw hA (cC_second l hlt D tc sa ad ((o, .inl (tc 2, 1, .inr (.inl fo))) :: Y) s.heap.size x1 x2 x3 g N hok hF) (gd_V wd_477 wd_478 wd_479 wd_1 wd_480) (by decide +kernel) ⟨rfl, rfl, (Nat.le_of_ble_eq_true rfl), (Nat.le_of_ble_eq_true rfl), (Nat.le_of_ble_eq_true rfl), (Nat.le_of_ble_eq_true rfl)⟩ (bw_get (bs := cb tc g N ad) (j := 0) rfl Nat.one_pos ((o, .inl (tc 2, 1, .inr (.inl fo))) :: Y)) rfl rfl hl.1 rfl (Nat.le_of_ble_eq_true rfl) d_L_second_7 (fun E u H locs q ce hp hw hq hv hcl => ?_) (fun r u H locs hp hw => ?_)
  · have hE : F.1 = some E := by rw [← hp]
    rcases hEx E hE with rfl | rfl | rfl
    · refine vx_catch hown ((tableOf [(0, 19, 22, 21), (0, 19, 26, 13), (0, 19, 30, 37)]).take 0) (tableOf [(0, 19, 22, 21), (0, 19, 26, 13), (0, 19, 30, 37)])[0] ((tableOf [(0, 19, 22, 21), (0, 19, 26, 13), (0, 19, 30, 37)]).drop 1) htb (fun z hz => nomatch hz) (by decide) (by decide) (hts _ wd_231) (va_Nw.use (w := .castable "java/util/NoSuchElementException" "java/util/NoSuchElementException") rfl (hX.1 _ wn_95)) hq hv hcl ?_
      refine lv_astore (lv' := [(5, .ref q), (0, .ref (ad 0 0)), (1, .int x1), (2, .int x2), (3, .int x3), (4, .ref o)]) hx hb d_L_second_22 hl (by decide) rfl (fun ls hl => ?_)
      refine lv_iconst (v := 1) hx hb d_L_second_24 (by decide) ?_
      exact rt_i h0 hw hr hlocks rfl (u, fo) ⟨by rw [hE]; decide, by rw [← hp], fun h => by rw [hE] at h; cases h⟩ rfl d_L_second_25 (Nat.le_of_ble_eq_true rfl) (Nat.le_of_ble_eq_true rfl)
    · refine vx_catch hown ((tableOf [(0, 19, 22, 21), (0, 19, 26, 13), (0, 19, 30, 37)]).take 1) (tableOf [(0, 19, 22, 21), (0, 19, 26, 13), (0, 19, 30, 37)])[1] ((tableOf [(0, 19, 22, 21), (0, 19, 26, 13), (0, 19, 30, 37)]).drop 2) htb (fun z hz => by
        rcases List.mem_cons.mp hz with rfl | hz
        · exact Or.inr ⟨by decide, "java/util/NoSuchElementException", hts _ wd_231, hNc _ (by decide) _ (by decide) (by decide)⟩
        · cases hz) (by decide) (by decide) (hts _ wd_166) (va_Nw.use (w := .castable "java/lang/IllegalArgumentException" "java/lang/IllegalArgumentException") rfl (hX.1 _ wn_177)) hq hv hcl ?_
      refine lv_astore (lv' := [(5, .ref q), (0, .ref (ad 0 0)), (1, .int x1), (2, .int x2), (3, .int x3), (4, .ref o)]) hx hb d_L_second_26 hl (by decide) rfl (fun ls hl => ?_)
      refine lv_iconst (v := 2) hx hb d_L_second_28 (by decide) ?_
      exact rt_i h0 hw hr hlocks rfl (u, fo) ⟨by rw [hE]; decide, by rw [← hp], fun h => by rw [hE] at h; cases h⟩ rfl d_L_second_29 (Nat.le_of_ble_eq_true rfl) (Nat.le_of_ble_eq_true rfl)
    · refine vx_catch hown ((tableOf [(0, 19, 22, 21), (0, 19, 26, 13), (0, 19, 30, 37)]).take 2) (tableOf [(0, 19, 22, 21), (0, 19, 26, 13), (0, 19, 30, 37)])[2] ((tableOf [(0, 19, 22, 21), (0, 19, 26, 13), (0, 19, 30, 37)]).drop 3) htb (fun z hz => by
        rcases List.mem_cons.mp hz with rfl | hz
        · exact Or.inr ⟨by decide, "java/util/NoSuchElementException", hts _ wd_231, hNc _ (by decide) _ (by decide) (by decide)⟩
        rcases List.mem_cons.mp hz with rfl | hz
        · exact Or.inr ⟨by decide, "java/lang/IllegalArgumentException", hts _ wd_166, hNc _ (by decide) _ (by decide) (by decide)⟩
        · cases hz) (by decide) (by decide) (hts _ wd_279) (va_Nw.use (w := .castable "java/lang/IllegalStateException" "java/lang/IllegalStateException") rfl (hX.1 _ wn_290)) hq hv hcl ?_
      refine lv_astore (lv' := [(5, .ref q), (0, .ref (ad 0 0)), (1, .int x1), (2, .int x2), (3, .int x3), (4, .ref o)]) hx hb d_L_second_30 hl (by decide) rfl (fun ls hl => ?_)
      refine lv_iconst (v := 3) hx hb d_L_second_32 (by decide) ?_
      exact rt_i h0 hw hr hlocks rfl (u, fo) ⟨by rw [hE]; decide, by rw [← hp], fun h => by rw [hE] at h; cases h⟩ rfl d_L_second_33 (Nat.le_of_ble_eq_true rfl) (Nat.le_of_ble_eq_true rfl)
  · have hE : F.1 = none := by rw [← hp]
    refine lv_if_eq (tgt := 17) hx hb d_L_second_10 (by decide) (fun c1 => ?_) (fun c1 => ?_)
    · refine lv_lconst (v := 0) hx hb d_L_second_17 (by decide) ?_
      refine va_last hx hb hK hw.1 hw.2.1 hw.2.2 (cl tc u N ad).length 2 (n := 1) (f := fo) (cA := tc 2) (lc_get _ _) rfl (by unfold vp_in; decide) d_L_second_18 (fun H locs hP hD hS => ?_)
      rw [lc_set] at hP hD
      have hw : wH D A s.heap (cl tc u N ad ++ ((o, .inl (tc 2, 1, .inr (.inl (vp_updL fo 0 0)))) :: Y)) H locs := ⟨hP, hD, hS⟩
      refine lv_goto (tgt := 34) hx hb d_L_second_19 (by decide) ?_
      refine lv_iconst (v := 0) hx hb d_L_second_34 (by decide) ?_
      exact rt_i h0 hw hr hlocks rfl (u, (vp_updL fo 0 0)) ⟨by rw [hE]; rfl, by rw [← hp], fun _ => by rw [← hp, if_pos c1]; rfl⟩ rfl d_L_second_35 (Nat.le_of_ble_eq_true rfl) (Nat.le_of_ble_eq_true rfl)
    · refine lv_lconst (v := 1) hx hb d_L_second_13 (by decide) ?_
      refine lv_goto (tgt := 18) hx hb d_L_second_14 (by decide) ?_
      refine va_last hx hb hK hw.1 hw.2.1 hw.2.2 (cl tc u N ad).length 2 (n := 1) (f := fo) (cA := tc 2) (lc_get _ _) rfl (by unfold vp_in; decide) d_L_second_18 (fun H locs hP hD hS => ?_)
      rw [lc_set] at hP hD
      have hw : wH D A s.heap (cl tc u N ad ++ ((o, .inl (tc 2, 1, .inr (.inl (vp_updL fo 0 1)))) :: Y)) H locs := ⟨hP, hD, hS⟩
      refine lv_goto (tgt := 34) hx hb d_L_second_19 (by decide) ?_
      refine lv_iconst (v := 0) hx hb d_L_second_34 (by decide) ?_
      exact rt_i h0 hw hr hlocks rfl (u, (vp_updL fo 0 1)) ⟨by rw [hE]; rfl, by rw [← hp], fun _ => by rw [← hp, if_neg c1]; rfl⟩ rfl d_L_second_35 (Nat.le_of_ble_eq_true rfl) (Nat.le_of_ble_eq_true rfl)
set_option maxHeartbeats 4000000 in
set_option maxRecDepth 100000 in
theorem cL_close (l : Launch) (hlt : l.stackTraces = false) (D : va_G) (tc : Nat → ClassId) (sa : Nat → Nat) (ad : Nat → Nat → Nat) (Y : va_W) (sz : Nat) (o : Nat) (fo : Nat → Int64) (x1 : Int32) (g : Nat → Nat → Nat → Int32) (N : Nat → Nat) {F : Option String × Int32 × (Nat → Nat → Nat → Int32)} (hok : kC_close x1 g N) (hF : fC_close x1 g N = F) (hEx : ∀ E, F.1 = some E → E = "java/util/NoSuchElementException" ∨ E = "java/lang/IllegalStateException") : Met l y_L_close (Cond.codeWith y_L_close b_L_close 4 (some .int) [(0, 9, 12, 21), (0, 9, 15, 37)] :: gw) ({ frames := 8, cells := 2, slots := 12, locals := 128 } : Room) (va_Pc [.ref (ad 0 0), .int x1, .ref o] (pL D tc sa (cl tc g N ad ++ ((o, .inl (tc 2, 1, .inr (.inl fo))) :: Y)) sz)) (va_Qi (fun r (u : (Nat → Nat → Nat → Int32) × (Nat → Int64)) => r = cd ["java/util/NoSuchElementException", "java/lang/IllegalStateException"] F.1 ∧ u.1 = F.2.2 ∧ (F.1 = none → u.2 0 = F.2.1.toInt64)) (fun u t => qW D tc (va_A (cl tc g N ad ++ ((o, .inl (tc 2, 1, .inr (.inl fo))) :: Y)) sz) (cl tc u.1 N ad ++ ((o, .inl (tc 2, 1, .inr (.inl u.2))) :: Y)) t) (va_A (cl tc g N ad ++ ((o, .inl (tc 2, 1, .inr (.inl fo))) :: Y)) sz)) 2 12 (va_A (cl tc g N ad ++ ((o, .inl (tc 2, 1, .inr (.inl fo))) :: Y)) sz) := by
  refine en_L (by decide) (Nat.le_of_ble_eq_true rfl) ?_
  intro p e s m args below meth c ls h0 hX hNc hr hlocks htb hsz hw hl
  obtain ⟨hx, hb, hml, hown, hts, hK⟩ := id h0
  have hA : ∀ q : Nat, s.heap.size ≤ q → (va_A (cl tc g N ad ++ ((o, .inl (tc 2, 1, .inr (.inl fo))) :: Y)) sz) q := fun q h => Or.inr (by rw [← hsz]; exact h)
  generalize (va_A (cl tc g N ad ++ ((o, .inl (tc 2, 1, .inr (.inl fo))) :: Y)) sz) = A at hw hA hX ⊢
  have hl : lv_has ls 4 [(0, .ref (ad 0 0)), (1, .int x1), (2, .ref o)] := hl
  refine lv_aload_n hx hb d_L_close_0 rfl (lv_at hl 2 rfl) ?_
  refine lv_iconst (v := 0) hx hb d_L_close_1 (by decide) ?_
  refine lv_aload_n hx hb d_L_close_2 rfl (lv_at hl 0 rfl) ?_
  refine lv_iload_n hx hb d_L_close_3 rfl (lv_at hl 1 rfl) ?_
  refine lx_i (wd := (fun u => cl tc u N ad ++ ((o, .inl (tc 2, 1, .inr (.inl fo))) :: Y))) (n := 1) (C := "CountRounds") (b := ad 0 0) (q0 := bw_o (cb tc g N ad) 0 + 0) (ci := 3) (As := [.int x1]) (rest := [.int 0, .ref o]) h0 hX hw hA (cC_close l hlt D tc sa ad ((o, .inl (tc 2, 1, .inr (.inl fo))) :: Y) s.heap.size x1 g N hok hF) (gd_V wd_502 wd_503 wd_504 wd_1 wd_505) (by decide +kernel) ⟨rfl, rfl, (Nat.le_of_ble_eq_true rfl), (Nat.le_of_ble_eq_true rfl), (Nat.le_of_ble_eq_true rfl), (Nat.le_of_ble_eq_true rfl)⟩ (bw_get (bs := cb tc g N ad) (j := 0) rfl Nat.one_pos ((o, .inl (tc 2, 1, .inr (.inl fo))) :: Y)) rfl rfl hl.1 rfl (Nat.le_of_ble_eq_true rfl) d_L_close_4 (fun E u H locs q ce hp hw hq hv hcl => ?_) (fun r u H locs hp hw => ?_)
  · have hE : F.1 = some E := by rw [← hp]
    rcases hEx E hE with rfl | rfl
    · refine vx_catch hown ((tableOf [(0, 9, 12, 21), (0, 9, 15, 37)]).take 0) (tableOf [(0, 9, 12, 21), (0, 9, 15, 37)])[0] ((tableOf [(0, 9, 12, 21), (0, 9, 15, 37)]).drop 1) htb (fun z hz => nomatch hz) (by decide) (by decide) (hts _ wd_231) (va_Nw.use (w := .castable "java/util/NoSuchElementException" "java/util/NoSuchElementException") rfl (hX.1 _ wn_95)) hq hv hcl ?_
      refine lv_astore_n (lv' := [(3, .ref q), (0, .ref (ad 0 0)), (1, .int x1), (2, .ref o)]) hx hb d_L_close_12 rfl hl (by decide) rfl (fun ls hl => ?_)
      refine lv_iconst (v := 1) hx hb d_L_close_13 (by decide) ?_
      exact rt_i h0 hw hr hlocks rfl (u, fo) ⟨by rw [hE]; decide, by rw [← hp], fun h => by rw [hE] at h; cases h⟩ rfl d_L_close_14 (Nat.le_of_ble_eq_true rfl) (Nat.le_of_ble_eq_true rfl)
    · refine vx_catch hown ((tableOf [(0, 9, 12, 21), (0, 9, 15, 37)]).take 1) (tableOf [(0, 9, 12, 21), (0, 9, 15, 37)])[1] ((tableOf [(0, 9, 12, 21), (0, 9, 15, 37)]).drop 2) htb (fun z hz => by
        rcases List.mem_cons.mp hz with rfl | hz
        · exact Or.inr ⟨by decide, "java/util/NoSuchElementException", hts _ wd_231, hNc _ (by decide) _ (by decide) (by decide)⟩
        · cases hz) (by decide) (by decide) (hts _ wd_279) (va_Nw.use (w := .castable "java/lang/IllegalStateException" "java/lang/IllegalStateException") rfl (hX.1 _ wn_290)) hq hv hcl ?_
      refine lv_astore_n (lv' := [(3, .ref q), (0, .ref (ad 0 0)), (1, .int x1), (2, .ref o)]) hx hb d_L_close_15 rfl hl (by decide) rfl (fun ls hl => ?_)
      refine lv_iconst (v := 2) hx hb d_L_close_16 (by decide) ?_
      exact rt_i h0 hw hr hlocks rfl (u, fo) ⟨by rw [hE]; decide, by rw [← hp], fun h => by rw [hE] at h; cases h⟩ rfl d_L_close_17 (Nat.le_of_ble_eq_true rfl) (Nat.le_of_ble_eq_true rfl)
  · have hE : F.1 = none := by rw [← hp]
    refine lv_i2l hx hb d_L_close_7 rfl ?_
    refine va_last hx hb hK hw.1 hw.2.1 hw.2.2 (cl tc u N ad).length 2 (n := 1) (f := fo) (cA := tc 2) (lc_get _ _) rfl (by unfold vp_in; decide) d_L_close_8 (fun H locs hP hD hS => ?_)
    rw [lc_set] at hP hD
    have hw : wH D A s.heap (cl tc u N ad ++ ((o, .inl (tc 2, 1, .inr (.inl (vp_updL fo 0 r.toInt64)))) :: Y)) H locs := ⟨hP, hD, hS⟩
    refine lv_goto (tgt := 18) hx hb d_L_close_9 (by decide) ?_
    refine lv_iconst (v := 0) hx hb d_L_close_18 (by decide) ?_
    exact rt_i h0 hw hr hlocks rfl (u, (vp_updL fo 0 r.toInt64)) ⟨by rw [hE]; rfl, by rw [← hp], fun _ => by rw [← hp]; rfl⟩ rfl d_L_close_19 (Nat.le_of_ble_eq_true rfl) (Nat.le_of_ble_eq_true rfl)
set_option maxHeartbeats 4000000 in
set_option maxRecDepth 100000 in
theorem cL_differ (l : Launch) (hlt : l.stackTraces = false) (D : va_G) (tc : Nat → ClassId) (sa : Nat → Nat) (ad : Nat → Nat → Nat) (Y : va_W) (sz : Nat) (o : Nat) (fo : Nat → Int64) (x1 : Int32) (x2 : Int32) (x3 : Int32) (g : Nat → Nat → Nat → Int32) (N : Nat → Nat) {F : Option String × Int32 × (Nat → Nat → Nat → Int32)} (hok : kC_differ x1 x2 x3 g N) (hF : fC_differ x1 x2 x3 g N = F) (hEx : ∀ E, F.1 = some E → E = "java/util/NoSuchElementException" ∨ E = "java/lang/IllegalArgumentException") : Met l y_L_differ (Cond.codeWith y_L_differ b_L_differ 6 (some .int) [(0, 12, 15, 21), (0, 12, 19, 13)] :: gw) ({ frames := 8, cells := 3, slots := 18, locals := 129 } : Room) (va_Pc [.ref (ad 0 0), .int x1, .int x2, .int x3, .ref o] (pL D tc sa (cl tc g N ad ++ ((o, .inl (tc 2, 1, .inr (.inl fo))) :: Y)) sz)) (va_Qi (fun r (u : (Nat → Nat → Nat → Int32) × (Nat → Int64)) => r = cd ["java/util/NoSuchElementException", "java/lang/IllegalArgumentException"] F.1 ∧ u.1 = F.2.2 ∧ (F.1 = none → u.2 0 = F.2.1.toInt64)) (fun u t => qW D tc (va_A (cl tc g N ad ++ ((o, .inl (tc 2, 1, .inr (.inl fo))) :: Y)) sz) (cl tc u.1 N ad ++ ((o, .inl (tc 2, 1, .inr (.inl u.2))) :: Y)) t) (va_A (cl tc g N ad ++ ((o, .inl (tc 2, 1, .inr (.inl fo))) :: Y)) sz)) 3 18 (va_A (cl tc g N ad ++ ((o, .inl (tc 2, 1, .inr (.inl fo))) :: Y)) sz) := by
  refine en_L (by decide) (Nat.le_of_ble_eq_true rfl) ?_
  intro p e s m args below meth c ls h0 hX hNc hr hlocks htb hsz hw hl
  obtain ⟨hx, hb, hml, hown, hts, hK⟩ := id h0
  have hA : ∀ q : Nat, s.heap.size ≤ q → (va_A (cl tc g N ad ++ ((o, .inl (tc 2, 1, .inr (.inl fo))) :: Y)) sz) q := fun q h => Or.inr (by rw [← hsz]; exact h)
  generalize (va_A (cl tc g N ad ++ ((o, .inl (tc 2, 1, .inr (.inl fo))) :: Y)) sz) = A at hw hA hX ⊢
  have hl : lv_has ls 6 [(0, .ref (ad 0 0)), (1, .int x1), (2, .int x2), (3, .int x3), (4, .ref o)] := hl
  refine lv_aload hx hb d_L_differ_0 (lv_at hl 4 rfl) ?_
  refine lv_iconst (v := 0) hx hb d_L_differ_2 (by decide) ?_
  refine lv_aload_n hx hb d_L_differ_3 rfl (lv_at hl 0 rfl) ?_
  refine lv_iload_n hx hb d_L_differ_4 rfl (lv_at hl 1 rfl) ?_
  refine lv_iload_n hx hb d_L_differ_5 rfl (lv_at hl 2 rfl) ?_
  refine lv_iload_n hx hb d_L_differ_6 rfl (lv_at hl 3 rfl) ?_
  refine lx_i (wd := (fun u => cl tc u N ad ++ ((o, .inl (tc 2, 1, .inr (.inl fo))) :: Y))) (n := 3) (C := "CountRounds") (b := ad 0 0) (q0 := bw_o (cb tc g N ad) 0 + 0) (ci := 3) (As := [.int x1, .int x2, .int x3]) (rest := [.int 0, .ref o]) h0 hX hw hA (cC_differ l hlt D tc sa ad ((o, .inl (tc 2, 1, .inr (.inl fo))) :: Y) s.heap.size x1 x2 x3 g N hok hF) (gd_V wd_521 wd_522 wd_523 wd_1 wd_524) (by decide +kernel) ⟨rfl, rfl, (Nat.le_of_ble_eq_true rfl), (Nat.le_of_ble_eq_true rfl), (Nat.le_of_ble_eq_true rfl), (Nat.le_of_ble_eq_true rfl)⟩ (bw_get (bs := cb tc g N ad) (j := 0) rfl Nat.one_pos ((o, .inl (tc 2, 1, .inr (.inl fo))) :: Y)) rfl rfl hl.1 rfl (Nat.le_of_ble_eq_true rfl) d_L_differ_7 (fun E u H locs q ce hp hw hq hv hcl => ?_) (fun r u H locs hp hw => ?_)
  · have hE : F.1 = some E := by rw [← hp]
    rcases hEx E hE with rfl | rfl
    · refine vx_catch hown ((tableOf [(0, 12, 15, 21), (0, 12, 19, 13)]).take 0) (tableOf [(0, 12, 15, 21), (0, 12, 19, 13)])[0] ((tableOf [(0, 12, 15, 21), (0, 12, 19, 13)]).drop 1) htb (fun z hz => nomatch hz) (by decide) (by decide) (hts _ wd_231) (va_Nw.use (w := .castable "java/util/NoSuchElementException" "java/util/NoSuchElementException") rfl (hX.1 _ wn_95)) hq hv hcl ?_
      refine lv_astore (lv' := [(5, .ref q), (0, .ref (ad 0 0)), (1, .int x1), (2, .int x2), (3, .int x3), (4, .ref o)]) hx hb d_L_differ_15 hl (by decide) rfl (fun ls hl => ?_)
      refine lv_iconst (v := 1) hx hb d_L_differ_17 (by decide) ?_
      exact rt_i h0 hw hr hlocks rfl (u, fo) ⟨by rw [hE]; decide, by rw [← hp], fun h => by rw [hE] at h; cases h⟩ rfl d_L_differ_18 (Nat.le_of_ble_eq_true rfl) (Nat.le_of_ble_eq_true rfl)
    · refine vx_catch hown ((tableOf [(0, 12, 15, 21), (0, 12, 19, 13)]).take 1) (tableOf [(0, 12, 15, 21), (0, 12, 19, 13)])[1] ((tableOf [(0, 12, 15, 21), (0, 12, 19, 13)]).drop 2) htb (fun z hz => by
        rcases List.mem_cons.mp hz with rfl | hz
        · exact Or.inr ⟨by decide, "java/util/NoSuchElementException", hts _ wd_231, hNc _ (by decide) _ (by decide) (by decide)⟩
        · cases hz) (by decide) (by decide) (hts _ wd_166) (va_Nw.use (w := .castable "java/lang/IllegalArgumentException" "java/lang/IllegalArgumentException") rfl (hX.1 _ wn_177)) hq hv hcl ?_
      refine lv_astore (lv' := [(5, .ref q), (0, .ref (ad 0 0)), (1, .int x1), (2, .int x2), (3, .int x3), (4, .ref o)]) hx hb d_L_differ_19 hl (by decide) rfl (fun ls hl => ?_)
      refine lv_iconst (v := 2) hx hb d_L_differ_21 (by decide) ?_
      exact rt_i h0 hw hr hlocks rfl (u, fo) ⟨by rw [hE]; decide, by rw [← hp], fun h => by rw [hE] at h; cases h⟩ rfl d_L_differ_22 (Nat.le_of_ble_eq_true rfl) (Nat.le_of_ble_eq_true rfl)
  · have hE : F.1 = none := by rw [← hp]
    refine lv_i2l hx hb d_L_differ_10 rfl ?_
    refine va_last hx hb hK hw.1 hw.2.1 hw.2.2 (cl tc u N ad).length 2 (n := 1) (f := fo) (cA := tc 2) (lc_get _ _) rfl (by unfold vp_in; decide) d_L_differ_11 (fun H locs hP hD hS => ?_)
    rw [lc_set] at hP hD
    have hw : wH D A s.heap (cl tc u N ad ++ ((o, .inl (tc 2, 1, .inr (.inl (vp_updL fo 0 r.toInt64)))) :: Y)) H locs := ⟨hP, hD, hS⟩
    refine lv_goto (tgt := 23) hx hb d_L_differ_12 (by decide) ?_
    refine lv_iconst (v := 0) hx hb d_L_differ_23 (by decide) ?_
    exact rt_i h0 hw hr hlocks rfl (u, (vp_updL fo 0 r.toInt64)) ⟨by rw [hE]; rfl, by rw [← hp], fun _ => by rw [← hp]; rfl⟩ rfl d_L_differ_24 (Nat.le_of_ble_eq_true rfl) (Nat.le_of_ble_eq_true rfl)
set_option maxHeartbeats 4000000 in
set_option maxRecDepth 100000 in
theorem cL_correct (l : Launch) (hlt : l.stackTraces = false) (D : va_G) (tc : Nat → ClassId) (sa : Nat → Nat) (ad : Nat → Nat → Nat) (Y : va_W) (sz : Nat) (o : Nat) (fo : Nat → Int64) (x1 : Int32) (x2 : Int32) (x3 : Int32) (g : Nat → Nat → Nat → Int32) (N : Nat → Nat) {F : Option String × Int32 × (Nat → Nat → Nat → Int32)} (hok : kC_correct x1 x2 x3 g N) (hF : fC_correct x1 x2 x3 g N = F) (hEx : ∀ E, F.1 = some E → E = "java/util/NoSuchElementException" ∨ E = "java/lang/IllegalArgumentException" ∨ E = "java/lang/IllegalStateException") : Met l y_L_correct (Cond.codeWith y_L_correct b_L_correct 6 (some .int) [(0, 19, 22, 21), (0, 19, 26, 13), (0, 19, 30, 37)] :: gw) ({ frames := 8, cells := 3, slots := 18, locals := 131 } : Room) (va_Pc [.ref (ad 0 0), .int x1, .int x2, .int x3, .ref o] (pL D tc sa (cl tc g N ad ++ ((o, .inl (tc 2, 1, .inr (.inl fo))) :: Y)) sz)) (va_Qi (fun r (u : (Nat → Nat → Nat → Int32) × (Nat → Int64)) => r = cd ["java/util/NoSuchElementException", "java/lang/IllegalArgumentException", "java/lang/IllegalStateException"] F.1 ∧ u.1 = F.2.2 ∧ (F.1 = none → u.2 0 = (if F.2.1 = 0 then 0 else 1))) (fun u t => qW D tc (va_A (cl tc g N ad ++ ((o, .inl (tc 2, 1, .inr (.inl fo))) :: Y)) sz) (cl tc u.1 N ad ++ ((o, .inl (tc 2, 1, .inr (.inl u.2))) :: Y)) t) (va_A (cl tc g N ad ++ ((o, .inl (tc 2, 1, .inr (.inl fo))) :: Y)) sz)) 3 18 (va_A (cl tc g N ad ++ ((o, .inl (tc 2, 1, .inr (.inl fo))) :: Y)) sz) := by
  refine en_L (by decide) (Nat.le_of_ble_eq_true rfl) ?_
  intro p e s m args below meth c ls h0 hX hNc hr hlocks htb hsz hw hl
  obtain ⟨hx, hb, hml, hown, hts, hK⟩ := id h0
  have hA : ∀ q : Nat, s.heap.size ≤ q → (va_A (cl tc g N ad ++ ((o, .inl (tc 2, 1, .inr (.inl fo))) :: Y)) sz) q := fun q h => Or.inr (by rw [← hsz]; exact h)
  generalize (va_A (cl tc g N ad ++ ((o, .inl (tc 2, 1, .inr (.inl fo))) :: Y)) sz) = A at hw hA hX ⊢
  have hl : lv_has ls 6 [(0, .ref (ad 0 0)), (1, .int x1), (2, .int x2), (3, .int x3), (4, .ref o)] := hl
  refine lv_aload hx hb d_L_correct_0 (lv_at hl 4 rfl) ?_
  refine lv_iconst (v := 0) hx hb d_L_correct_2 (by decide) ?_
  refine lv_aload_n hx hb d_L_correct_3 rfl (lv_at hl 0 rfl) ?_
  refine lv_iload_n hx hb d_L_correct_4 rfl (lv_at hl 1 rfl) ?_
  refine lv_iload_n hx hb d_L_correct_5 rfl (lv_at hl 2 rfl) ?_
  refine lv_iload_n hx hb d_L_correct_6 rfl (lv_at hl 3 rfl) ?_
  refine lx_i (wd := (fun u => cl tc u N ad ++ ((o, .inl (tc 2, 1, .inr (.inl fo))) :: Y))) (n := 3) (C := "CountRounds") (b := ad 0 0) (q0 := bw_o (cb tc g N ad) 0 + 0) (ci := 3) (As := [.int x1, .int x2, .int x3]) (rest := [.int 0, .ref o]) h0 hX hw hA (cC_correct l hlt D tc sa ad ((o, .inl (tc 2, 1, .inr (.inl fo))) :: Y) s.heap.size x1 x2 x3 g N hok hF) (gd_V wd_541 wd_542 wd_543 wd_1 wd_544) (by decide +kernel) ⟨rfl, rfl, (Nat.le_of_ble_eq_true rfl), (Nat.le_of_ble_eq_true rfl), (Nat.le_of_ble_eq_true rfl), (Nat.le_of_ble_eq_true rfl)⟩ (bw_get (bs := cb tc g N ad) (j := 0) rfl Nat.one_pos ((o, .inl (tc 2, 1, .inr (.inl fo))) :: Y)) rfl rfl hl.1 rfl (Nat.le_of_ble_eq_true rfl) d_L_correct_7 (fun E u H locs q ce hp hw hq hv hcl => ?_) (fun r u H locs hp hw => ?_)
  · have hE : F.1 = some E := by rw [← hp]
    rcases hEx E hE with rfl | rfl | rfl
    · refine vx_catch hown ((tableOf [(0, 19, 22, 21), (0, 19, 26, 13), (0, 19, 30, 37)]).take 0) (tableOf [(0, 19, 22, 21), (0, 19, 26, 13), (0, 19, 30, 37)])[0] ((tableOf [(0, 19, 22, 21), (0, 19, 26, 13), (0, 19, 30, 37)]).drop 1) htb (fun z hz => nomatch hz) (by decide) (by decide) (hts _ wd_231) (va_Nw.use (w := .castable "java/util/NoSuchElementException" "java/util/NoSuchElementException") rfl (hX.1 _ wn_95)) hq hv hcl ?_
      refine lv_astore (lv' := [(5, .ref q), (0, .ref (ad 0 0)), (1, .int x1), (2, .int x2), (3, .int x3), (4, .ref o)]) hx hb d_L_correct_22 hl (by decide) rfl (fun ls hl => ?_)
      refine lv_iconst (v := 1) hx hb d_L_correct_24 (by decide) ?_
      exact rt_i h0 hw hr hlocks rfl (u, fo) ⟨by rw [hE]; decide, by rw [← hp], fun h => by rw [hE] at h; cases h⟩ rfl d_L_correct_25 (Nat.le_of_ble_eq_true rfl) (Nat.le_of_ble_eq_true rfl)
    · refine vx_catch hown ((tableOf [(0, 19, 22, 21), (0, 19, 26, 13), (0, 19, 30, 37)]).take 1) (tableOf [(0, 19, 22, 21), (0, 19, 26, 13), (0, 19, 30, 37)])[1] ((tableOf [(0, 19, 22, 21), (0, 19, 26, 13), (0, 19, 30, 37)]).drop 2) htb (fun z hz => by
        rcases List.mem_cons.mp hz with rfl | hz
        · exact Or.inr ⟨by decide, "java/util/NoSuchElementException", hts _ wd_231, hNc _ (by decide) _ (by decide) (by decide)⟩
        · cases hz) (by decide) (by decide) (hts _ wd_166) (va_Nw.use (w := .castable "java/lang/IllegalArgumentException" "java/lang/IllegalArgumentException") rfl (hX.1 _ wn_177)) hq hv hcl ?_
      refine lv_astore (lv' := [(5, .ref q), (0, .ref (ad 0 0)), (1, .int x1), (2, .int x2), (3, .int x3), (4, .ref o)]) hx hb d_L_correct_26 hl (by decide) rfl (fun ls hl => ?_)
      refine lv_iconst (v := 2) hx hb d_L_correct_28 (by decide) ?_
      exact rt_i h0 hw hr hlocks rfl (u, fo) ⟨by rw [hE]; decide, by rw [← hp], fun h => by rw [hE] at h; cases h⟩ rfl d_L_correct_29 (Nat.le_of_ble_eq_true rfl) (Nat.le_of_ble_eq_true rfl)
    · refine vx_catch hown ((tableOf [(0, 19, 22, 21), (0, 19, 26, 13), (0, 19, 30, 37)]).take 2) (tableOf [(0, 19, 22, 21), (0, 19, 26, 13), (0, 19, 30, 37)])[2] ((tableOf [(0, 19, 22, 21), (0, 19, 26, 13), (0, 19, 30, 37)]).drop 3) htb (fun z hz => by
        rcases List.mem_cons.mp hz with rfl | hz
        · exact Or.inr ⟨by decide, "java/util/NoSuchElementException", hts _ wd_231, hNc _ (by decide) _ (by decide) (by decide)⟩
        rcases List.mem_cons.mp hz with rfl | hz
        · exact Or.inr ⟨by decide, "java/lang/IllegalArgumentException", hts _ wd_166, hNc _ (by decide) _ (by decide) (by decide)⟩
        · cases hz) (by decide) (by decide) (hts _ wd_279) (va_Nw.use (w := .castable "java/lang/IllegalStateException" "java/lang/IllegalStateException") rfl (hX.1 _ wn_290)) hq hv hcl ?_
      refine lv_astore (lv' := [(5, .ref q), (0, .ref (ad 0 0)), (1, .int x1), (2, .int x2), (3, .int x3), (4, .ref o)]) hx hb d_L_correct_30 hl (by decide) rfl (fun ls hl => ?_)
      refine lv_iconst (v := 3) hx hb d_L_correct_32 (by decide) ?_
      exact rt_i h0 hw hr hlocks rfl (u, fo) ⟨by rw [hE]; decide, by rw [← hp], fun h => by rw [hE] at h; cases h⟩ rfl d_L_correct_33 (Nat.le_of_ble_eq_true rfl) (Nat.le_of_ble_eq_true rfl)
  · have hE : F.1 = none := by rw [← hp]
    refine lv_if_eq (tgt := 17) hx hb d_L_correct_10 (by decide) (fun c1 => ?_) (fun c1 => ?_)
    · refine lv_lconst (v := 0) hx hb d_L_correct_17 (by decide) ?_
      refine va_last hx hb hK hw.1 hw.2.1 hw.2.2 (cl tc u N ad).length 2 (n := 1) (f := fo) (cA := tc 2) (lc_get _ _) rfl (by unfold vp_in; decide) d_L_correct_18 (fun H locs hP hD hS => ?_)
      rw [lc_set] at hP hD
      have hw : wH D A s.heap (cl tc u N ad ++ ((o, .inl (tc 2, 1, .inr (.inl (vp_updL fo 0 0)))) :: Y)) H locs := ⟨hP, hD, hS⟩
      refine lv_goto (tgt := 34) hx hb d_L_correct_19 (by decide) ?_
      refine lv_iconst (v := 0) hx hb d_L_correct_34 (by decide) ?_
      exact rt_i h0 hw hr hlocks rfl (u, (vp_updL fo 0 0)) ⟨by rw [hE]; rfl, by rw [← hp], fun _ => by rw [← hp, if_pos c1]; rfl⟩ rfl d_L_correct_35 (Nat.le_of_ble_eq_true rfl) (Nat.le_of_ble_eq_true rfl)
    · refine lv_lconst (v := 1) hx hb d_L_correct_13 (by decide) ?_
      refine lv_goto (tgt := 18) hx hb d_L_correct_14 (by decide) ?_
      refine va_last hx hb hK hw.1 hw.2.1 hw.2.2 (cl tc u N ad).length 2 (n := 1) (f := fo) (cA := tc 2) (lc_get _ _) rfl (by unfold vp_in; decide) d_L_correct_18 (fun H locs hP hD hS => ?_)
      rw [lc_set] at hP hD
      have hw : wH D A s.heap (cl tc u N ad ++ ((o, .inl (tc 2, 1, .inr (.inl (vp_updL fo 0 1)))) :: Y)) H locs := ⟨hP, hD, hS⟩
      refine lv_goto (tgt := 34) hx hb d_L_correct_19 (by decide) ?_
      refine lv_iconst (v := 0) hx hb d_L_correct_34 (by decide) ?_
      exact rt_i h0 hw hr hlocks rfl (u, (vp_updL fo 0 1)) ⟨by rw [hE]; rfl, by rw [← hp], fun _ => by rw [← hp, if_neg c1]; rfl⟩ rfl d_L_correct_35 (Nat.le_of_ble_eq_true rfl) (Nat.le_of_ble_eq_true rfl)
set_option maxHeartbeats 4000000 in
set_option maxRecDepth 100000 in
theorem cL_share (l : Launch) (hlt : l.stackTraces = false) (D : va_G) (tc : Nat → ClassId) (sa : Nat → Nat) (ad : Nat → Nat → Nat) (Y : va_W) (sz : Nat) (o : Nat) (fo : Nat → Int64) (x1 : Int32) (g : Nat → Nat → Nat → Int32) (N : Nat → Nat) {F : Option String × Int32 × (Nat → Nat → Nat → Int32)} (hok : kC_share x1 g N) (hF : fC_share x1 g N = F) (hEx : ∀ E, F.1 = some E → E = "java/lang/IllegalArgumentException" ∨ E = "java/lang/ArithmeticException") : Met l y_L_share (Cond.codeWith y_L_share b_L_share 4 (some .int) [(0, 9, 12, 13), (0, 9, 15, 77)] :: gw) ({ frames := 7, cells := 1, slots := 6, locals := 104 } : Room) (va_Pc [.ref (ad 0 0), .int x1, .ref o] (pL D tc sa (cl tc g N ad ++ ((o, .inl (tc 2, 1, .inr (.inl fo))) :: Y)) sz)) (va_Qi (fun r (u : (Nat → Nat → Nat → Int32) × (Nat → Int64)) => r = cd ["java/lang/IllegalArgumentException", "java/lang/ArithmeticException"] F.1 ∧ u.1 = F.2.2 ∧ (F.1 = none → u.2 0 = F.2.1.toInt64)) (fun u t => qW D tc (va_A (cl tc g N ad ++ ((o, .inl (tc 2, 1, .inr (.inl fo))) :: Y)) sz) (cl tc u.1 N ad ++ ((o, .inl (tc 2, 1, .inr (.inl u.2))) :: Y)) t) (va_A (cl tc g N ad ++ ((o, .inl (tc 2, 1, .inr (.inl fo))) :: Y)) sz)) 1 6 (va_A (cl tc g N ad ++ ((o, .inl (tc 2, 1, .inr (.inl fo))) :: Y)) sz) := by
  refine en_L (by decide) (Nat.le_of_ble_eq_true rfl) ?_
  intro p e s m args below meth c ls h0 hX hNc hr hlocks htb hsz hw hl
  obtain ⟨hx, hb, hml, hown, hts, hK⟩ := id h0
  have hA : ∀ q : Nat, s.heap.size ≤ q → (va_A (cl tc g N ad ++ ((o, .inl (tc 2, 1, .inr (.inl fo))) :: Y)) sz) q := fun q h => Or.inr (by rw [← hsz]; exact h)
  generalize (va_A (cl tc g N ad ++ ((o, .inl (tc 2, 1, .inr (.inl fo))) :: Y)) sz) = A at hw hA hX ⊢
  have hl : lv_has ls 4 [(0, .ref (ad 0 0)), (1, .int x1), (2, .ref o)] := hl
  refine lv_aload_n hx hb d_L_share_0 rfl (lv_at hl 2 rfl) ?_
  refine lv_iconst (v := 0) hx hb d_L_share_1 (by decide) ?_
  refine lv_aload_n hx hb d_L_share_2 rfl (lv_at hl 0 rfl) ?_
  refine lv_iload_n hx hb d_L_share_3 rfl (lv_at hl 1 rfl) ?_
  refine lx_i (wd := (fun u => cl tc u N ad ++ ((o, .inl (tc 2, 1, .inr (.inl fo))) :: Y))) (n := 1) (C := "CountRounds") (b := ad 0 0) (q0 := bw_o (cb tc g N ad) 0 + 0) (ci := 3) (As := [.int x1]) (rest := [.int 0, .ref o]) h0 hX hw hA (cC_share l hlt D tc sa ad ((o, .inl (tc 2, 1, .inr (.inl fo))) :: Y) s.heap.size x1 g N hok hF) (gd_V wd_556 wd_557 wd_558 wd_1 wd_559) (by decide +kernel) ⟨rfl, rfl, (Nat.le_of_ble_eq_true rfl), (Nat.le_of_ble_eq_true rfl), (Nat.le_of_ble_eq_true rfl), (Nat.le_of_ble_eq_true rfl)⟩ (bw_get (bs := cb tc g N ad) (j := 0) rfl Nat.one_pos ((o, .inl (tc 2, 1, .inr (.inl fo))) :: Y)) rfl rfl hl.1 rfl (Nat.le_of_ble_eq_true rfl) d_L_share_4 (fun E u H locs q ce hp hw hq hv hcl => ?_) (fun r u H locs hp hw => ?_)
  · have hE : F.1 = some E := by rw [← hp]
    rcases hEx E hE with rfl | rfl
    · refine vx_catch hown ((tableOf [(0, 9, 12, 13), (0, 9, 15, 77)]).take 0) (tableOf [(0, 9, 12, 13), (0, 9, 15, 77)])[0] ((tableOf [(0, 9, 12, 13), (0, 9, 15, 77)]).drop 1) htb (fun z hz => nomatch hz) (by decide) (by decide) (hts _ wd_166) (va_Nw.use (w := .castable "java/lang/IllegalArgumentException" "java/lang/IllegalArgumentException") rfl (hX.1 _ wn_177)) hq hv hcl ?_
      refine lv_astore_n (lv' := [(3, .ref q), (0, .ref (ad 0 0)), (1, .int x1), (2, .ref o)]) hx hb d_L_share_12 rfl hl (by decide) rfl (fun ls hl => ?_)
      refine lv_iconst (v := 1) hx hb d_L_share_13 (by decide) ?_
      exact rt_i h0 hw hr hlocks rfl (u, fo) ⟨by rw [hE]; decide, by rw [← hp], fun h => by rw [hE] at h; cases h⟩ rfl d_L_share_14 (Nat.le_of_ble_eq_true rfl) (Nat.le_of_ble_eq_true rfl)
    · refine vx_catch hown ((tableOf [(0, 9, 12, 13), (0, 9, 15, 77)]).take 1) (tableOf [(0, 9, 12, 13), (0, 9, 15, 77)])[1] ((tableOf [(0, 9, 12, 13), (0, 9, 15, 77)]).drop 2) htb (fun z hz => by
        rcases List.mem_cons.mp hz with rfl | hz
        · exact Or.inr ⟨by decide, "java/lang/IllegalArgumentException", hts _ wd_166, hNc _ (by decide) _ (by decide) (by decide)⟩
        · cases hz) (by decide) (by decide) (hts _ wd_555) (va_Nw.use (w := .castable "java/lang/ArithmeticException" "java/lang/ArithmeticException") rfl (hX.1 _ wn_566)) hq hv hcl ?_
      refine lv_astore_n (lv' := [(3, .ref q), (0, .ref (ad 0 0)), (1, .int x1), (2, .ref o)]) hx hb d_L_share_15 rfl hl (by decide) rfl (fun ls hl => ?_)
      refine lv_iconst (v := 2) hx hb d_L_share_16 (by decide) ?_
      exact rt_i h0 hw hr hlocks rfl (u, fo) ⟨by rw [hE]; decide, by rw [← hp], fun h => by rw [hE] at h; cases h⟩ rfl d_L_share_17 (Nat.le_of_ble_eq_true rfl) (Nat.le_of_ble_eq_true rfl)
  · have hE : F.1 = none := by rw [← hp]
    refine lv_i2l hx hb d_L_share_7 rfl ?_
    refine va_last hx hb hK hw.1 hw.2.1 hw.2.2 (cl tc u N ad).length 2 (n := 1) (f := fo) (cA := tc 2) (lc_get _ _) rfl (by unfold vp_in; decide) d_L_share_8 (fun H locs hP hD hS => ?_)
    rw [lc_set] at hP hD
    have hw : wH D A s.heap (cl tc u N ad ++ ((o, .inl (tc 2, 1, .inr (.inl (vp_updL fo 0 r.toInt64)))) :: Y)) H locs := ⟨hP, hD, hS⟩
    refine lv_goto (tgt := 18) hx hb d_L_share_9 (by decide) ?_
    refine lv_iconst (v := 0) hx hb d_L_share_18 (by decide) ?_
    exact rt_i h0 hw hr hlocks rfl (u, (vp_updL fo 0 r.toInt64)) ⟨by rw [hE]; rfl, by rw [← hp], fun _ => by rw [← hp]; rfl⟩ rfl d_L_share_19 (Nat.le_of_ble_eq_true rfl) (Nat.le_of_ble_eq_true rfl)
set_option maxHeartbeats 4000000 in
set_option maxRecDepth 100000 in
theorem cL_last (l : Launch) (hlt : l.stackTraces = false) (D : va_G) (tc : Nat → ClassId) (sa : Nat → Nat) (ad : Nat → Nat → Nat) (Y : va_W) (sz : Nat) (o : Nat) (fo : Nat → Int64) (x1 : Int32) (g : Nat → Nat → Nat → Int32) (N : Nat → Nat) {F : Option String × Int32 × (Nat → Nat → Nat → Int32)} (hok : kC_last x1 g N) (hF : fC_last x1 g N = F) (hEx : ∀ E, F.1 = some E → E = "java/util/NoSuchElementException") : Met l y_L_last (Cond.codeWith y_L_last b_L_last 4 (some .int) [(0, 9, 12, 21)] :: gw) ({ frames := 8, cells := 1, slots := 6, locals := 125 } : Room) (va_Pc [.ref (ad 0 0), .int x1, .ref o] (pL D tc sa (cl tc g N ad ++ ((o, .inl (tc 2, 1, .inr (.inl fo))) :: Y)) sz)) (va_Qi (fun r (u : (Nat → Nat → Nat → Int32) × (Nat → Int64)) => r = cd ["java/util/NoSuchElementException"] F.1 ∧ u.1 = F.2.2 ∧ (F.1 = none → u.2 0 = F.2.1.toInt64)) (fun u t => qW D tc (va_A (cl tc g N ad ++ ((o, .inl (tc 2, 1, .inr (.inl fo))) :: Y)) sz) (cl tc u.1 N ad ++ ((o, .inl (tc 2, 1, .inr (.inl u.2))) :: Y)) t) (va_A (cl tc g N ad ++ ((o, .inl (tc 2, 1, .inr (.inl fo))) :: Y)) sz)) 1 6 (va_A (cl tc g N ad ++ ((o, .inl (tc 2, 1, .inr (.inl fo))) :: Y)) sz) := by
  refine en_L (by decide) (Nat.le_of_ble_eq_true rfl) ?_
  intro p e s m args below meth c ls h0 hX hNc hr hlocks htb hsz hw hl
  obtain ⟨hx, hb, hml, hown, hts, hK⟩ := id h0
  have hA : ∀ q : Nat, s.heap.size ≤ q → (va_A (cl tc g N ad ++ ((o, .inl (tc 2, 1, .inr (.inl fo))) :: Y)) sz) q := fun q h => Or.inr (by rw [← hsz]; exact h)
  generalize (va_A (cl tc g N ad ++ ((o, .inl (tc 2, 1, .inr (.inl fo))) :: Y)) sz) = A at hw hA hX ⊢
  have hl : lv_has ls 4 [(0, .ref (ad 0 0)), (1, .int x1), (2, .ref o)] := hl
  refine lv_aload_n hx hb d_L_last_0 rfl (lv_at hl 2 rfl) ?_
  refine lv_iconst (v := 0) hx hb d_L_last_1 (by decide) ?_
  refine lv_aload_n hx hb d_L_last_2 rfl (lv_at hl 0 rfl) ?_
  refine lv_iload_n hx hb d_L_last_3 rfl (lv_at hl 1 rfl) ?_
  refine lx_i (wd := (fun u => cl tc u N ad ++ ((o, .inl (tc 2, 1, .inr (.inl fo))) :: Y))) (n := 1) (C := "CountRounds") (b := ad 0 0) (q0 := bw_o (cb tc g N ad) 0 + 0) (ci := 3) (As := [.int x1]) (rest := [.int 0, .ref o]) h0 hX hw hA (cC_last l hlt D tc sa ad ((o, .inl (tc 2, 1, .inr (.inl fo))) :: Y) s.heap.size x1 g N hok hF) (gd_V wd_583 wd_584 wd_585 wd_1 wd_586) (by decide +kernel) ⟨rfl, rfl, (Nat.le_of_ble_eq_true rfl), (Nat.le_of_ble_eq_true rfl), (Nat.le_of_ble_eq_true rfl), (Nat.le_of_ble_eq_true rfl)⟩ (bw_get (bs := cb tc g N ad) (j := 0) rfl Nat.one_pos ((o, .inl (tc 2, 1, .inr (.inl fo))) :: Y)) rfl rfl hl.1 rfl (Nat.le_of_ble_eq_true rfl) d_L_last_4 (fun E u H locs q ce hp hw hq hv hcl => ?_) (fun r u H locs hp hw => ?_)
  · have hE : F.1 = some E := by rw [← hp]
    rcases hEx E hE with rfl
    · refine vx_catch hown ((tableOf [(0, 9, 12, 21)]).take 0) (tableOf [(0, 9, 12, 21)])[0] ((tableOf [(0, 9, 12, 21)]).drop 1) htb (fun z hz => nomatch hz) (by decide) (by decide) (hts _ wd_231) (va_Nw.use (w := .castable "java/util/NoSuchElementException" "java/util/NoSuchElementException") rfl (hX.1 _ wn_95)) hq hv hcl ?_
      refine lv_astore_n (lv' := [(3, .ref q), (0, .ref (ad 0 0)), (1, .int x1), (2, .ref o)]) hx hb d_L_last_12 rfl hl (by decide) rfl (fun ls hl => ?_)
      refine lv_iconst (v := 1) hx hb d_L_last_13 (by decide) ?_
      exact rt_i h0 hw hr hlocks rfl (u, fo) ⟨by rw [hE]; decide, by rw [← hp], fun h => by rw [hE] at h; cases h⟩ rfl d_L_last_14 (Nat.le_of_ble_eq_true rfl) (Nat.le_of_ble_eq_true rfl)
  · have hE : F.1 = none := by rw [← hp]
    refine lv_i2l hx hb d_L_last_7 rfl ?_
    refine va_last hx hb hK hw.1 hw.2.1 hw.2.2 (cl tc u N ad).length 2 (n := 1) (f := fo) (cA := tc 2) (lc_get _ _) rfl (by unfold vp_in; decide) d_L_last_8 (fun H locs hP hD hS => ?_)
    rw [lc_set] at hP hD
    have hw : wH D A s.heap (cl tc u N ad ++ ((o, .inl (tc 2, 1, .inr (.inl (vp_updL fo 0 r.toInt64)))) :: Y)) H locs := ⟨hP, hD, hS⟩
    refine lv_goto (tgt := 15) hx hb d_L_last_9 (by decide) ?_
    refine lv_iconst (v := 0) hx hb d_L_last_15 (by decide) ?_
    exact rt_i h0 hw hr hlocks rfl (u, (vp_updL fo 0 r.toInt64)) ⟨by rw [hE]; rfl, by rw [← hp], fun _ => by rw [← hp]; rfl⟩ rfl d_L_last_16 (Nat.le_of_ble_eq_true rfl) (Nat.le_of_ble_eq_true rfl)
set_option maxHeartbeats 4000000 in
set_option maxRecDepth 100000 in
theorem cL_due (l : Launch) (hlt : l.stackTraces = false) (D : va_G) (tc : Nat → ClassId) (sa : Nat → Nat) (ad : Nat → Nat → Nat) (Y : va_W) (sz : Nat) (o : Nat) (fo : Nat → Int64) (x1 : Int32) (g : Nat → Nat → Nat → Int32) (N : Nat → Nat) {F : Option String × Int32 × (Nat → Nat → Nat → Int32)} (hok : kC_due x1 g N) (hF : fC_due x1 g N = F) (hEx : ∀ E, F.1 = some E → E = "java/lang/IllegalArgumentException") : Met l y_L_due (Cond.codeWith y_L_due b_L_due 4 (some .int) [(0, 9, 12, 13)] :: gw) ({ frames := 7, cells := 1, slots := 6, locals := 106 } : Room) (va_Pc [.ref (ad 0 0), .int x1, .ref o] (pL D tc sa (cl tc g N ad ++ ((o, .inl (tc 2, 1, .inr (.inl fo))) :: Y)) sz)) (va_Qi (fun r (u : (Nat → Nat → Nat → Int32) × (Nat → Int64)) => r = cd ["java/lang/IllegalArgumentException"] F.1 ∧ u.1 = F.2.2 ∧ (F.1 = none → u.2 0 = F.2.1.toInt64)) (fun u t => qW D tc (va_A (cl tc g N ad ++ ((o, .inl (tc 2, 1, .inr (.inl fo))) :: Y)) sz) (cl tc u.1 N ad ++ ((o, .inl (tc 2, 1, .inr (.inl u.2))) :: Y)) t) (va_A (cl tc g N ad ++ ((o, .inl (tc 2, 1, .inr (.inl fo))) :: Y)) sz)) 1 6 (va_A (cl tc g N ad ++ ((o, .inl (tc 2, 1, .inr (.inl fo))) :: Y)) sz) := by
  refine en_L (by decide) (Nat.le_of_ble_eq_true rfl) ?_
  intro p e s m args below meth c ls h0 hX hNc hr hlocks htb hsz hw hl
  obtain ⟨hx, hb, hml, hown, hts, hK⟩ := id h0
  have hA : ∀ q : Nat, s.heap.size ≤ q → (va_A (cl tc g N ad ++ ((o, .inl (tc 2, 1, .inr (.inl fo))) :: Y)) sz) q := fun q h => Or.inr (by rw [← hsz]; exact h)
  generalize (va_A (cl tc g N ad ++ ((o, .inl (tc 2, 1, .inr (.inl fo))) :: Y)) sz) = A at hw hA hX ⊢
  have hl : lv_has ls 4 [(0, .ref (ad 0 0)), (1, .int x1), (2, .ref o)] := hl
  refine lv_aload_n hx hb d_L_due_0 rfl (lv_at hl 2 rfl) ?_
  refine lv_iconst (v := 0) hx hb d_L_due_1 (by decide) ?_
  refine lv_aload_n hx hb d_L_due_2 rfl (lv_at hl 0 rfl) ?_
  refine lv_iload_n hx hb d_L_due_3 rfl (lv_at hl 1 rfl) ?_
  refine lx_i (wd := (fun u => cl tc u N ad ++ ((o, .inl (tc 2, 1, .inr (.inl fo))) :: Y))) (n := 1) (C := "CountRounds") (b := ad 0 0) (q0 := bw_o (cb tc g N ad) 0 + 0) (ci := 3) (As := [.int x1]) (rest := [.int 0, .ref o]) h0 hX hw hA (cC_due l hlt D tc sa ad ((o, .inl (tc 2, 1, .inr (.inl fo))) :: Y) s.heap.size x1 g N hok hF) (gd_V wd_590 wd_591 wd_592 wd_1 wd_593) (by decide +kernel) ⟨rfl, rfl, (Nat.le_of_ble_eq_true rfl), (Nat.le_of_ble_eq_true rfl), (Nat.le_of_ble_eq_true rfl), (Nat.le_of_ble_eq_true rfl)⟩ (bw_get (bs := cb tc g N ad) (j := 0) rfl Nat.one_pos ((o, .inl (tc 2, 1, .inr (.inl fo))) :: Y)) rfl rfl hl.1 rfl (Nat.le_of_ble_eq_true rfl) d_L_due_4 (fun E u H locs q ce hp hw hq hv hcl => ?_) (fun r u H locs hp hw => ?_)
  · have hE : F.1 = some E := by rw [← hp]
    rcases hEx E hE with rfl
    · refine vx_catch hown ((tableOf [(0, 9, 12, 13)]).take 0) (tableOf [(0, 9, 12, 13)])[0] ((tableOf [(0, 9, 12, 13)]).drop 1) htb (fun z hz => nomatch hz) (by decide) (by decide) (hts _ wd_166) (va_Nw.use (w := .castable "java/lang/IllegalArgumentException" "java/lang/IllegalArgumentException") rfl (hX.1 _ wn_177)) hq hv hcl ?_
      refine lv_astore_n (lv' := [(3, .ref q), (0, .ref (ad 0 0)), (1, .int x1), (2, .ref o)]) hx hb d_L_due_12 rfl hl (by decide) rfl (fun ls hl => ?_)
      refine lv_iconst (v := 1) hx hb d_L_due_13 (by decide) ?_
      exact rt_i h0 hw hr hlocks rfl (u, fo) ⟨by rw [hE]; decide, by rw [← hp], fun h => by rw [hE] at h; cases h⟩ rfl d_L_due_14 (Nat.le_of_ble_eq_true rfl) (Nat.le_of_ble_eq_true rfl)
  · have hE : F.1 = none := by rw [← hp]
    refine lv_i2l hx hb d_L_due_7 rfl ?_
    refine va_last hx hb hK hw.1 hw.2.1 hw.2.2 (cl tc u N ad).length 2 (n := 1) (f := fo) (cA := tc 2) (lc_get _ _) rfl (by unfold vp_in; decide) d_L_due_8 (fun H locs hP hD hS => ?_)
    rw [lc_set] at hP hD
    have hw : wH D A s.heap (cl tc u N ad ++ ((o, .inl (tc 2, 1, .inr (.inl (vp_updL fo 0 r.toInt64)))) :: Y)) H locs := ⟨hP, hD, hS⟩
    refine lv_goto (tgt := 15) hx hb d_L_due_9 (by decide) ?_
    refine lv_iconst (v := 0) hx hb d_L_due_15 (by decide) ?_
    exact rt_i h0 hw hr hlocks rfl (u, (vp_updL fo 0 r.toInt64)) ⟨by rw [hE]; rfl, by rw [← hp], fun _ => by rw [← hp]; rfl⟩ rfl d_L_due_16 (Nat.le_of_ble_eq_true rfl) (Nat.le_of_ble_eq_true rfl)
set_option maxHeartbeats 4000000 in
set_option maxRecDepth 100000 in
theorem cL_booked (l : Launch) (hlt : l.stackTraces = false) (D : va_G) (tc : Nat → ClassId) (sa : Nat → Nat) (ad : Nat → Nat → Nat) (Y : va_W) (sz : Nat) (o : Nat) (fo : Nat → Int64) (x1 : Int32) (x2 : Int32) (g : Nat → Nat → Nat → Int32) (N : Nat → Nat) {F : Option String × Int32 × (Nat → Nat → Nat → Int32)} (hok : kC_booked x1 x2 g N) (hF : fC_booked x1 x2 g N = F) (hEx : ∀ E, F.1 = some E → E = "java/util/NoSuchElementException" ∨ E = "java/lang/IllegalArgumentException") : Met l y_L_booked (Cond.codeWith y_L_booked b_L_booked 5 (some .int) [(0, 10, 13, 21), (0, 10, 17, 13)] :: gw) ({ frames := 8, cells := 2, slots := 12, locals := 127 } : Room) (va_Pc [.ref (ad 0 0), .int x1, .int x2, .ref o] (pL D tc sa (cl tc g N ad ++ ((o, .inl (tc 2, 1, .inr (.inl fo))) :: Y)) sz)) (va_Qi (fun r (u : (Nat → Nat → Nat → Int32) × (Nat → Int64)) => r = cd ["java/util/NoSuchElementException", "java/lang/IllegalArgumentException"] F.1 ∧ u.1 = F.2.2 ∧ (F.1 = none → u.2 0 = F.2.1.toInt64)) (fun u t => qW D tc (va_A (cl tc g N ad ++ ((o, .inl (tc 2, 1, .inr (.inl fo))) :: Y)) sz) (cl tc u.1 N ad ++ ((o, .inl (tc 2, 1, .inr (.inl u.2))) :: Y)) t) (va_A (cl tc g N ad ++ ((o, .inl (tc 2, 1, .inr (.inl fo))) :: Y)) sz)) 2 12 (va_A (cl tc g N ad ++ ((o, .inl (tc 2, 1, .inr (.inl fo))) :: Y)) sz) := by
  refine en_L (by decide) (Nat.le_of_ble_eq_true rfl) ?_
  intro p e s m args below meth c ls h0 hX hNc hr hlocks htb hsz hw hl
  obtain ⟨hx, hb, hml, hown, hts, hK⟩ := id h0
  have hA : ∀ q : Nat, s.heap.size ≤ q → (va_A (cl tc g N ad ++ ((o, .inl (tc 2, 1, .inr (.inl fo))) :: Y)) sz) q := fun q h => Or.inr (by rw [← hsz]; exact h)
  generalize (va_A (cl tc g N ad ++ ((o, .inl (tc 2, 1, .inr (.inl fo))) :: Y)) sz) = A at hw hA hX ⊢
  have hl : lv_has ls 5 [(0, .ref (ad 0 0)), (1, .int x1), (2, .int x2), (3, .ref o)] := hl
  refine lv_aload_n hx hb d_L_booked_0 rfl (lv_at hl 3 rfl) ?_
  refine lv_iconst (v := 0) hx hb d_L_booked_1 (by decide) ?_
  refine lv_aload_n hx hb d_L_booked_2 rfl (lv_at hl 0 rfl) ?_
  refine lv_iload_n hx hb d_L_booked_3 rfl (lv_at hl 1 rfl) ?_
  refine lv_iload_n hx hb d_L_booked_4 rfl (lv_at hl 2 rfl) ?_
  refine lx_i (wd := (fun u => cl tc u N ad ++ ((o, .inl (tc 2, 1, .inr (.inl fo))) :: Y))) (n := 2) (C := "CountRounds") (b := ad 0 0) (q0 := bw_o (cb tc g N ad) 0 + 0) (ci := 3) (As := [.int x1, .int x2]) (rest := [.int 0, .ref o]) h0 hX hw hA (cC_booked l hlt D tc sa ad ((o, .inl (tc 2, 1, .inr (.inl fo))) :: Y) s.heap.size x1 x2 g N hok hF) (gd_V wd_597 wd_598 wd_599 wd_1 wd_600) (by decide +kernel) ⟨rfl, rfl, (Nat.le_of_ble_eq_true rfl), (Nat.le_of_ble_eq_true rfl), (Nat.le_of_ble_eq_true rfl), (Nat.le_of_ble_eq_true rfl)⟩ (bw_get (bs := cb tc g N ad) (j := 0) rfl Nat.one_pos ((o, .inl (tc 2, 1, .inr (.inl fo))) :: Y)) rfl rfl hl.1 rfl (Nat.le_of_ble_eq_true rfl) d_L_booked_5 (fun E u H locs q ce hp hw hq hv hcl => ?_) (fun r u H locs hp hw => ?_)
  · have hE : F.1 = some E := by rw [← hp]
    rcases hEx E hE with rfl | rfl
    · refine vx_catch hown ((tableOf [(0, 10, 13, 21), (0, 10, 17, 13)]).take 0) (tableOf [(0, 10, 13, 21), (0, 10, 17, 13)])[0] ((tableOf [(0, 10, 13, 21), (0, 10, 17, 13)]).drop 1) htb (fun z hz => nomatch hz) (by decide) (by decide) (hts _ wd_231) (va_Nw.use (w := .castable "java/util/NoSuchElementException" "java/util/NoSuchElementException") rfl (hX.1 _ wn_95)) hq hv hcl ?_
      refine lv_astore (lv' := [(4, .ref q), (0, .ref (ad 0 0)), (1, .int x1), (2, .int x2), (3, .ref o)]) hx hb d_L_booked_13 hl (by decide) rfl (fun ls hl => ?_)
      refine lv_iconst (v := 1) hx hb d_L_booked_15 (by decide) ?_
      exact rt_i h0 hw hr hlocks rfl (u, fo) ⟨by rw [hE]; decide, by rw [← hp], fun h => by rw [hE] at h; cases h⟩ rfl d_L_booked_16 (Nat.le_of_ble_eq_true rfl) (Nat.le_of_ble_eq_true rfl)
    · refine vx_catch hown ((tableOf [(0, 10, 13, 21), (0, 10, 17, 13)]).take 1) (tableOf [(0, 10, 13, 21), (0, 10, 17, 13)])[1] ((tableOf [(0, 10, 13, 21), (0, 10, 17, 13)]).drop 2) htb (fun z hz => by
        rcases List.mem_cons.mp hz with rfl | hz
        · exact Or.inr ⟨by decide, "java/util/NoSuchElementException", hts _ wd_231, hNc _ (by decide) _ (by decide) (by decide)⟩
        · cases hz) (by decide) (by decide) (hts _ wd_166) (va_Nw.use (w := .castable "java/lang/IllegalArgumentException" "java/lang/IllegalArgumentException") rfl (hX.1 _ wn_177)) hq hv hcl ?_
      refine lv_astore (lv' := [(4, .ref q), (0, .ref (ad 0 0)), (1, .int x1), (2, .int x2), (3, .ref o)]) hx hb d_L_booked_17 hl (by decide) rfl (fun ls hl => ?_)
      refine lv_iconst (v := 2) hx hb d_L_booked_19 (by decide) ?_
      exact rt_i h0 hw hr hlocks rfl (u, fo) ⟨by rw [hE]; decide, by rw [← hp], fun h => by rw [hE] at h; cases h⟩ rfl d_L_booked_20 (Nat.le_of_ble_eq_true rfl) (Nat.le_of_ble_eq_true rfl)
  · have hE : F.1 = none := by rw [← hp]
    refine lv_i2l hx hb d_L_booked_8 rfl ?_
    refine va_last hx hb hK hw.1 hw.2.1 hw.2.2 (cl tc u N ad).length 2 (n := 1) (f := fo) (cA := tc 2) (lc_get _ _) rfl (by unfold vp_in; decide) d_L_booked_9 (fun H locs hP hD hS => ?_)
    rw [lc_set] at hP hD
    have hw : wH D A s.heap (cl tc u N ad ++ ((o, .inl (tc 2, 1, .inr (.inl (vp_updL fo 0 r.toInt64)))) :: Y)) H locs := ⟨hP, hD, hS⟩
    refine lv_goto (tgt := 21) hx hb d_L_booked_10 (by decide) ?_
    refine lv_iconst (v := 0) hx hb d_L_booked_21 (by decide) ?_
    exact rt_i h0 hw hr hlocks rfl (u, (vp_updL fo 0 r.toInt64)) ⟨by rw [hE]; rfl, by rw [← hp], fun _ => by rw [← hp]; rfl⟩ rfl d_L_booked_22 (Nat.le_of_ble_eq_true rfl) (Nat.le_of_ble_eq_true rfl)
set_option maxHeartbeats 4000000 in
set_option maxRecDepth 100000 in
theorem cL_told (l : Launch) (hlt : l.stackTraces = false) (D : va_G) (tc : Nat → ClassId) (sa : Nat → Nat) (ad : Nat → Nat → Nat) (Y : va_W) (sz : Nat) (o : Nat) (fo : Nat → Int64) (x1 : Int32) (x2 : Int32) (g : Nat → Nat → Nat → Int32) (N : Nat → Nat) {F : Option String × Int32 × (Nat → Nat → Nat → Int32)} (hok : kC_told x1 x2 g N) (hF : fC_told x1 x2 g N = F) (hEx : ∀ E, F.1 = some E → E = "java/util/NoSuchElementException" ∨ E = "java/lang/IllegalArgumentException") : Met l y_L_told (Cond.codeWith y_L_told b_L_told 5 (some .int) [(0, 10, 13, 21), (0, 10, 17, 13)] :: gw) ({ frames := 8, cells := 2, slots := 12, locals := 128 } : Room) (va_Pc [.ref (ad 0 0), .int x1, .int x2, .ref o] (pL D tc sa (cl tc g N ad ++ ((o, .inl (tc 2, 1, .inr (.inl fo))) :: Y)) sz)) (va_Qi (fun r (u : (Nat → Nat → Nat → Int32) × (Nat → Int64)) => r = cd ["java/util/NoSuchElementException", "java/lang/IllegalArgumentException"] F.1 ∧ u.1 = F.2.2 ∧ (F.1 = none → u.2 0 = F.2.1.toInt64)) (fun u t => qW D tc (va_A (cl tc g N ad ++ ((o, .inl (tc 2, 1, .inr (.inl fo))) :: Y)) sz) (cl tc u.1 N ad ++ ((o, .inl (tc 2, 1, .inr (.inl u.2))) :: Y)) t) (va_A (cl tc g N ad ++ ((o, .inl (tc 2, 1, .inr (.inl fo))) :: Y)) sz)) 2 12 (va_A (cl tc g N ad ++ ((o, .inl (tc 2, 1, .inr (.inl fo))) :: Y)) sz) := by
  refine en_L (by decide) (Nat.le_of_ble_eq_true rfl) ?_
  intro p e s m args below meth c ls h0 hX hNc hr hlocks htb hsz hw hl
  obtain ⟨hx, hb, hml, hown, hts, hK⟩ := id h0
  have hA : ∀ q : Nat, s.heap.size ≤ q → (va_A (cl tc g N ad ++ ((o, .inl (tc 2, 1, .inr (.inl fo))) :: Y)) sz) q := fun q h => Or.inr (by rw [← hsz]; exact h)
  generalize (va_A (cl tc g N ad ++ ((o, .inl (tc 2, 1, .inr (.inl fo))) :: Y)) sz) = A at hw hA hX ⊢
  have hl : lv_has ls 5 [(0, .ref (ad 0 0)), (1, .int x1), (2, .int x2), (3, .ref o)] := hl
  refine lv_aload_n hx hb d_L_told_0 rfl (lv_at hl 3 rfl) ?_
  refine lv_iconst (v := 0) hx hb d_L_told_1 (by decide) ?_
  refine lv_aload_n hx hb d_L_told_2 rfl (lv_at hl 0 rfl) ?_
  refine lv_iload_n hx hb d_L_told_3 rfl (lv_at hl 1 rfl) ?_
  refine lv_iload_n hx hb d_L_told_4 rfl (lv_at hl 2 rfl) ?_
  refine lx_i (wd := (fun u => cl tc u N ad ++ ((o, .inl (tc 2, 1, .inr (.inl fo))) :: Y))) (n := 2) (C := "CountRounds") (b := ad 0 0) (q0 := bw_o (cb tc g N ad) 0 + 0) (ci := 3) (As := [.int x1, .int x2]) (rest := [.int 0, .ref o]) h0 hX hw hA (cC_told l hlt D tc sa ad ((o, .inl (tc 2, 1, .inr (.inl fo))) :: Y) s.heap.size x1 x2 g N hok hF) (gd_V wd_604 wd_605 wd_606 wd_1 wd_607) (by decide +kernel) ⟨rfl, rfl, (Nat.le_of_ble_eq_true rfl), (Nat.le_of_ble_eq_true rfl), (Nat.le_of_ble_eq_true rfl), (Nat.le_of_ble_eq_true rfl)⟩ (bw_get (bs := cb tc g N ad) (j := 0) rfl Nat.one_pos ((o, .inl (tc 2, 1, .inr (.inl fo))) :: Y)) rfl rfl hl.1 rfl (Nat.le_of_ble_eq_true rfl) d_L_told_5 (fun E u H locs q ce hp hw hq hv hcl => ?_) (fun r u H locs hp hw => ?_)
  · have hE : F.1 = some E := by rw [← hp]
    rcases hEx E hE with rfl | rfl
    · refine vx_catch hown ((tableOf [(0, 10, 13, 21), (0, 10, 17, 13)]).take 0) (tableOf [(0, 10, 13, 21), (0, 10, 17, 13)])[0] ((tableOf [(0, 10, 13, 21), (0, 10, 17, 13)]).drop 1) htb (fun z hz => nomatch hz) (by decide) (by decide) (hts _ wd_231) (va_Nw.use (w := .castable "java/util/NoSuchElementException" "java/util/NoSuchElementException") rfl (hX.1 _ wn_95)) hq hv hcl ?_
      refine lv_astore (lv' := [(4, .ref q), (0, .ref (ad 0 0)), (1, .int x1), (2, .int x2), (3, .ref o)]) hx hb d_L_told_13 hl (by decide) rfl (fun ls hl => ?_)
      refine lv_iconst (v := 1) hx hb d_L_told_15 (by decide) ?_
      exact rt_i h0 hw hr hlocks rfl (u, fo) ⟨by rw [hE]; decide, by rw [← hp], fun h => by rw [hE] at h; cases h⟩ rfl d_L_told_16 (Nat.le_of_ble_eq_true rfl) (Nat.le_of_ble_eq_true rfl)
    · refine vx_catch hown ((tableOf [(0, 10, 13, 21), (0, 10, 17, 13)]).take 1) (tableOf [(0, 10, 13, 21), (0, 10, 17, 13)])[1] ((tableOf [(0, 10, 13, 21), (0, 10, 17, 13)]).drop 2) htb (fun z hz => by
        rcases List.mem_cons.mp hz with rfl | hz
        · exact Or.inr ⟨by decide, "java/util/NoSuchElementException", hts _ wd_231, hNc _ (by decide) _ (by decide) (by decide)⟩
        · cases hz) (by decide) (by decide) (hts _ wd_166) (va_Nw.use (w := .castable "java/lang/IllegalArgumentException" "java/lang/IllegalArgumentException") rfl (hX.1 _ wn_177)) hq hv hcl ?_
      refine lv_astore (lv' := [(4, .ref q), (0, .ref (ad 0 0)), (1, .int x1), (2, .int x2), (3, .ref o)]) hx hb d_L_told_17 hl (by decide) rfl (fun ls hl => ?_)
      refine lv_iconst (v := 2) hx hb d_L_told_19 (by decide) ?_
      exact rt_i h0 hw hr hlocks rfl (u, fo) ⟨by rw [hE]; decide, by rw [← hp], fun h => by rw [hE] at h; cases h⟩ rfl d_L_told_20 (Nat.le_of_ble_eq_true rfl) (Nat.le_of_ble_eq_true rfl)
  · have hE : F.1 = none := by rw [← hp]
    refine lv_i2l hx hb d_L_told_8 rfl ?_
    refine va_last hx hb hK hw.1 hw.2.1 hw.2.2 (cl tc u N ad).length 2 (n := 1) (f := fo) (cA := tc 2) (lc_get _ _) rfl (by unfold vp_in; decide) d_L_told_9 (fun H locs hP hD hS => ?_)
    rw [lc_set] at hP hD
    have hw : wH D A s.heap (cl tc u N ad ++ ((o, .inl (tc 2, 1, .inr (.inl (vp_updL fo 0 r.toInt64)))) :: Y)) H locs := ⟨hP, hD, hS⟩
    refine lv_goto (tgt := 21) hx hb d_L_told_10 (by decide) ?_
    refine lv_iconst (v := 0) hx hb d_L_told_21 (by decide) ?_
    exact rt_i h0 hw hr hlocks rfl (u, (vp_updL fo 0 r.toInt64)) ⟨by rw [hE]; rfl, by rw [← hp], fun _ => by rw [← hp]; rfl⟩ rfl d_L_told_22 (Nat.le_of_ble_eq_true rfl) (Nat.le_of_ble_eq_true rfl)
