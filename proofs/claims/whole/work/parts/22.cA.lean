def fC_isWithin (x0 : Int32) (x1 : Int32) (x2 : Int32) : Int32 := if x0 < x1 then 0 else if x2 < x0 then 0 else 1
def kC_isWithin (x0 : Int32) (x1 : Int32) (x2 : Int32) : Prop := (x0 < x1 → True) ∧ (¬ (x0 < x1) → (x2 < x0 → True) ∧ (¬ (x2 < x0) → True))
def fC_isKind (x0 : Int32) : Int32 := fC_isWithin x0 0 2
def kC_isKind (x0 : Int32) : Prop := (kC_isWithin x0 0 2) ∧ (narrow .boolean (.int (fC_isWithin x0 0 2)) = .int (fC_isWithin x0 0 2))
def fC_isGood (x0 : Int32) : Int32 := fC_isWithin x0 0 5
def kC_isGood (x0 : Int32) : Prop := (kC_isWithin x0 0 5) ∧ (narrow .boolean (.int (fC_isWithin x0 0 5)) = .int (fC_isWithin x0 0 5))
def fC_isPerson (x0 : Int32) : Int32 := fC_isWithin x0 0 5
def kC_isPerson (x0 : Int32) : Prop := (kC_isWithin x0 0 5) ∧ (narrow .boolean (.int (fC_isWithin x0 0 5)) = .int (fC_isWithin x0 0 5))
def fC_isPieces (x0 : Int32) : Int32 := fC_isWithin x0 0 1000000
def kC_isPieces (x0 : Int32) : Prop := (kC_isWithin x0 0 1000000) ∧ (narrow .boolean (.int (fC_isWithin x0 0 1000000)) = .int (fC_isWithin x0 0 1000000))
def fC_isDay (x0 : Int32) : Int32 := fC_isWithin x0 0 10000
def kC_isDay (x0 : Int32) : Prop := (kC_isWithin x0 0 10000) ∧ (narrow .boolean (.int (fC_isWithin x0 0 10000)) = .int (fC_isWithin x0 0 10000))
def fC_commonDivisor_7x  (x0 : Int32) (x1 : Int32) (x2 : Int32) (x3 : Int32) (x4 : Int32) : Int32 := x2
def kC_commonDivisor_7x  (x0 : Int32) (x1 : Int32) (x2 : Int32) (x3 : Int32) (x4 : Int32) : Prop := True
def fC_commonDivisor_7  (E7 : Int32 → Int32 → Int32 → Int32 → Int32 → Int32) : Nat → Int32 → Int32 → Int32 → Int32 → Int32 → Int32
  | 0, _, _, _, _, _ => 0
  | n + 1, x0, x1, x2, x3, x4 => if 64 ≤ x4 then E7 x0 x1 x2 x3 x4 else if x3 = 0 then E7 x0 x1 x2 x3 x4 else (fC_commonDivisor_7 E7 n) x0 x1 x3 (x2 - x2 / x3 * x3) (x4 + 1)
def kC_commonDivisor_7  (KE7 : Int32 → Int32 → Int32 → Int32 → Int32 → Prop) : Nat → Int32 → Int32 → Int32 → Int32 → Int32 → Prop
  | 0, _, _, _, _, _ => False
  | n + 1, x0, x1, x2, x3, x4 => (64 ≤ x4 → KE7 x0 x1 x2 x3 x4) ∧ (¬ (64 ≤ x4) → (x3 = 0 → KE7 x0 x1 x2 x3 x4) ∧ (¬ (x3 = 0) → (¬ x3 = 0) ∧ ((kC_commonDivisor_7 KE7 n) x0 x1 x3 (x2 - x2 / x3 * x3) (x4 + 1))))
def fC_commonDivisor (x0 : Int32) (x1 : Int32) : Int32 := fC_commonDivisor_7 fC_commonDivisor_7x 200 x0 x1 x0 x1 0
def kC_commonDivisor (x0 : Int32) (x1 : Int32) : Prop := kC_commonDivisor_7 kC_commonDivisor_7x 200 x0 x1 x0 x1 0
def fS_positionOf_2x  (i0 : Nat) (x1 : Int32) (x2 : Int32) (g : Nat → Nat → Nat → Int32) (N : Nat → Nat) : Int32 := (-1)
def kS_positionOf_2x  (i0 : Nat) (x1 : Int32) (x2 : Int32) (g : Nat → Nat → Nat → Int32) (N : Nat → Nat) : Prop := True
def fS_positionOf_2  (E2 : Nat → Int32 → Int32 → (Nat → Nat → Nat → Int32) → (Nat → Nat) → Int32) : Nat → Nat → Int32 → Int32 → (Nat → Nat → Nat → Int32) → (Nat → Nat) → Int32
  | 0, _, _, _, _, _ => 0
  | n + 1, i0, x1, x2, g, N => if (nI (N (3 + i0))) ≤ x2 then E2 i0 x1 x2 g N else if (g 9 i0 x2.toNatClampNeg) = x1 then x2 else (fS_positionOf_2 E2 n) i0 x1 (x2 + 1) g N
def kS_positionOf_2  (KE2 : Nat → Int32 → Int32 → (Nat → Nat → Nat → Int32) → (Nat → Nat) → Prop) : Nat → Nat → Int32 → Int32 → (Nat → Nat → Nat → Int32) → (Nat → Nat) → Prop
  | 0, _, _, _, _, _ => False
  | n + 1, i0, x1, x2, g, N => ((nI (N (3 + i0))) ≤ x2 → KE2 i0 x1 x2 g N) ∧ (¬ ((nI (N (3 + i0))) ≤ x2) → (vp_in x2 (N (3 + i0))) ∧ (((g 9 i0 x2.toNatClampNeg) = x1 → True) ∧ (¬ ((g 9 i0 x2.toNatClampNeg) = x1) → (kS_positionOf_2 KE2 n) i0 x1 (x2 + 1) g N)))
def fS_positionOf (i0 : Nat) (x1 : Int32) (g : Nat → Nat → Nat → Int32) (N : Nat → Nat) : Int32 := fS_positionOf_2 fS_positionOf_2x 200 i0 x1 0 g N
def kS_positionOf (i0 : Nat) (x1 : Int32) (g : Nat → Nat → Nat → Int32) (N : Nat → Nat) : Prop := kS_positionOf_2 kS_positionOf_2x 200 i0 x1 0 g N
def fS_isToldOnce (i0 : Nat) (x1 : Int32) (g : Nat → Nat → Nat → Int32) (N : Nat → Nat) : Int32 := if (g 12 i0 x1.toNatClampNeg) = (-1) then 0 else if (g 13 i0 x1.toNatClampNeg) = (-1) then 1 else 0
def kS_isToldOnce (i0 : Nat) (x1 : Int32) (g : Nat → Nat → Nat → Int32) (N : Nat → Nat) : Prop := (vp_in x1 (6 * N (3 + i0))) ∧ (((g 12 i0 x1.toNatClampNeg) = (-1) → True) ∧ (¬ ((g 12 i0 x1.toNatClampNeg) = (-1)) → (vp_in x1 (6 * N (3 + i0))) ∧ (((g 13 i0 x1.toNatClampNeg) = (-1) → True) ∧ (¬ ((g 13 i0 x1.toNatClampNeg) = (-1)) → True))))
def fS_isPlaceTold_2x  (i0 : Nat) (x1 : Int32) (x2 : Int32) (g : Nat → Nat → Nat → Int32) (N : Nat → Nat) : Int32 := 0
def kS_isPlaceTold_2x  (i0 : Nat) (x1 : Int32) (x2 : Int32) (g : Nat → Nat → Nat → Int32) (N : Nat → Nat) : Prop := True
def fS_isPlaceTold_2  (E2 : Nat → Int32 → Int32 → (Nat → Nat → Nat → Int32) → (Nat → Nat) → Int32) : Nat → Nat → Int32 → Int32 → (Nat → Nat → Nat → Int32) → (Nat → Nat) → Int32
  | 0, _, _, _, _, _ => 0
  | n + 1, i0, x1, x2, g, N => if 6 ≤ x2 then E2 i0 x1 x2 g N else if (g 12 i0 (((x1 * 6) + x2).toNatClampNeg)) = (-1) then (fS_isPlaceTold_2 E2 n) i0 x1 (x2 + 1) g N else 1
def kS_isPlaceTold_2  (KE2 : Nat → Int32 → Int32 → (Nat → Nat → Nat → Int32) → (Nat → Nat) → Prop) : Nat → Nat → Int32 → Int32 → (Nat → Nat → Nat → Int32) → (Nat → Nat) → Prop
  | 0, _, _, _, _, _ => False
  | n + 1, i0, x1, x2, g, N => (6 ≤ x2 → KE2 i0 x1 x2 g N) ∧ (¬ (6 ≤ x2) → (vp_in ((x1 * 6) + x2) (6 * N (3 + i0))) ∧ (((g 12 i0 (((x1 * 6) + x2).toNatClampNeg)) = (-1) → (kS_isPlaceTold_2 KE2 n) i0 x1 (x2 + 1) g N) ∧ (¬ ((g 12 i0 (((x1 * 6) + x2).toNatClampNeg)) = (-1)) → True)))
def fS_isPlaceTold (i0 : Nat) (x1 : Int32) (g : Nat → Nat → Nat → Int32) (N : Nat → Nat) : Int32 := fS_isPlaceTold_2 fS_isPlaceTold_2x 200 i0 x1 0 g N
def kS_isPlaceTold (i0 : Nat) (x1 : Int32) (g : Nat → Nat → Nat → Int32) (N : Nat → Nat) : Prop := kS_isPlaceTold_2 kS_isPlaceTold_2x 200 i0 x1 0 g N
def fS_finderOf (i0 : Nat) (x1 : Int32) (g : Nat → Nat → Nat → Int32) (N : Nat → Nat) : Int32 := if (g 13 i0 x1.toNatClampNeg) = (-1) then g 12 i0 x1.toNatClampNeg else g 13 i0 x1.toNatClampNeg
def kS_finderOf (i0 : Nat) (x1 : Int32) (g : Nat → Nat → Nat → Int32) (N : Nat → Nat) : Prop := (vp_in x1 (6 * N (3 + i0))) ∧ (((g 13 i0 x1.toNatClampNeg) = (-1) → (vp_in x1 (6 * N (3 + i0))) ∧ (True)) ∧ (¬ ((g 13 i0 x1.toNatClampNeg) = (-1)) → (vp_in x1 (6 * N (3 + i0))) ∧ (True)))
def fS_differenceOf (i0 : Nat) (x1 : Int32) (g : Nat → Nat → Nat → Int32) (N : Nat → Nat) : Int32 := (g 11 i0 x1.toNatClampNeg) - (g 10 i0 x1.toNatClampNeg)
def kS_differenceOf (i0 : Nat) (x1 : Int32) (g : Nat → Nat → Nat → Int32) (N : Nat → Nat) : Prop := (vp_in x1 (6 * N (3 + i0))) ∧ ((vp_in x1 (6 * N (3 + i0))) ∧ (True))
def fS_differingLine (i0 : Nat) (x1 : Int32) (g : Nat → Nat → Nat → Int32) (N : Nat → Nat) : Int32 := if x1 < 0 then (-1) else if (g 8 i0 0) ≤ x1 then (-1) else g 16 i0 x1.toNatClampNeg
def kS_differingLine (i0 : Nat) (x1 : Int32) (g : Nat → Nat → Nat → Int32) (N : Nat → Nat) : Prop := (x1 < 0 → True) ∧ (¬ (x1 < 0) → ((g 8 i0 0) ≤ x1 → True) ∧ (¬ ((g 8 i0 0) ≤ x1) → (vp_in x1 (6 * N (3 + i0))) ∧ (True)))
set_option maxHeartbeats 4000000 in
set_option maxRecDepth 100000 in
theorem cC_isWithin (l : Launch) (x0 : Int32) (x1 : Int32) (x2 : Int32) {F : Int32} (hok : kC_isWithin x0 x1 x2) (hF : fC_isWithin x0 x1 x2 = F) : Met l y_C_isWithin (Cond.code y_C_isWithin b_C_isWithin 3 (some .boolean) :: gw) ({ frames := 0, cells := 0, slots := 0, locals := 0 } : Room) (va_Pc [.int x0, .int x1, .int x2] (fun _ => True)) (qP (.int F)) 0 0 (fun _ => False) := by
  refine en_P (by decide) (Nat.le_of_ble_eq_true rfl) ?_
  intro p e s m args below meth c ls hx hb hml hown hts hr hlocks hl
  have hl : lv_has ls 3 [(0, .int x0), (1, .int x1), (2, .int x2)] := hl
  unfold kC_isWithin at hok
  unfold fC_isWithin at hF
  refine lv_iload_n hx hb d_C_isWithin_0 rfl (lv_at hl 0 rfl) ?_
  refine lv_iload_n hx hb d_C_isWithin_1 rfl (lv_at hl 1 rfl) ?_
  refine lv_icmp_lt (tgt := 14) hx hb d_C_isWithin_2 (by decide) (fun c_1 => ?_) (fun c_1 => ?_)
  · have hok := hok.1 c_1
    have hF := (if_pos c_1).symm.trans hF
    refine lv_iconst (v := 0) hx hb d_C_isWithin_14 (by decide) ?_
    exact rt_p hx hb hr hlocks rfl (by rw [← hF]) d_C_isWithin_15 (Nat.le_refl 0) (Nat.le_refl 0)
  · have hok := hok.2 c_1
    have hF := (if_neg c_1).symm.trans hF
    refine lv_iload_n hx hb d_C_isWithin_5 rfl (lv_at hl 0 rfl) ?_
    refine lv_iload_n hx hb d_C_isWithin_6 rfl (lv_at hl 2 rfl) ?_
    refine lv_icmp_gt (tgt := 14) hx hb d_C_isWithin_7 (by decide) (fun c_2 => ?_) (fun c_2 => ?_)
    · have hok := hok.1 c_2
      have hF := (if_pos c_2).symm.trans hF
      refine lv_iconst (v := 0) hx hb d_C_isWithin_14 (by decide) ?_
      exact rt_p hx hb hr hlocks rfl (by rw [← hF]) d_C_isWithin_15 (Nat.le_refl 0) (Nat.le_refl 0)
    · have hok := hok.2 c_2
      have hF := (if_neg c_2).symm.trans hF
      refine lv_iconst (v := 1) hx hb d_C_isWithin_10 (by decide) ?_
      refine lv_goto (tgt := 15) hx hb d_C_isWithin_11 (by decide) ?_
      exact rt_p hx hb hr hlocks rfl (by rw [← hF]) d_C_isWithin_15 (Nat.le_refl 0) (Nat.le_refl 0)
set_option maxHeartbeats 4000000 in
set_option maxRecDepth 100000 in
theorem cC_isKind (l : Launch) (x0 : Int32) {F : Int32} (hok : kC_isKind x0) (hF : fC_isKind x0 = F) : Met l y_C_isKind (Cond.code y_C_isKind b_C_isKind 1 (some .boolean) :: gw) ({ frames := 1, cells := 0, slots := 0, locals := 22 } : Room) (va_Pc [.int x0] (fun _ => True)) (qP (.int F)) 0 0 (fun _ => False) := by
  refine en_P (by decide) (Nat.le_of_ble_eq_true rfl) ?_
  intro p e s m args below meth c ls hx hb hml hown hts hr hlocks hl
  have hl : lv_has ls 1 [(0, .int x0)] := hl
  unfold kC_isKind at hok
  unfold fC_isKind at hF
  refine lv_iload_n hx hb d_C_isKind_0 rfl (lv_at hl 0 rfl) ?_
  refine lv_iconst (v := 0) hx hb d_C_isKind_1 (by decide) ?_
  refine lv_iconst (v := 2) hx hb d_C_isKind_2 (by decide) ?_
  obtain ⟨hi_1, hok⟩ := hok
  refine cs_p (n := 3) (As := [.int x0, .int 0, .int 2]) (rest := []) hx hb hml hown hts (cC_isWithin l x0 0 2 hi_1 rfl) (gd_S wd_90 wd_91 wd_1 wd_92) (by decide +kernel) ⟨rfl, rfl, (Nat.le_of_ble_eq_true rfl), (Nat.le_of_ble_eq_true rfl), (Nat.le_of_ble_eq_true rfl), (Nat.le_of_ble_eq_true rfl)⟩ rfl hl.1 rfl (Nat.le_of_ble_eq_true rfl) d_C_isKind_3 ?_
  exact rt_p hx hb hr hlocks hok (by rw [← hF]) d_C_isKind_6 (Nat.le_refl 0) (Nat.le_refl 0)
set_option maxHeartbeats 4000000 in
set_option maxRecDepth 100000 in
theorem cC_isGood (l : Launch) (x0 : Int32) {F : Int32} (hok : kC_isGood x0) (hF : fC_isGood x0 = F) : Met l y_C_isGood (Cond.code y_C_isGood b_C_isGood 1 (some .boolean) :: gw) ({ frames := 1, cells := 0, slots := 0, locals := 22 } : Room) (va_Pc [.int x0] (fun _ => True)) (qP (.int F)) 0 0 (fun _ => False) := by
  refine en_P (by decide) (Nat.le_of_ble_eq_true rfl) ?_
  intro p e s m args below meth c ls hx hb hml hown hts hr hlocks hl
  have hl : lv_has ls 1 [(0, .int x0)] := hl
  unfold kC_isGood at hok
  unfold fC_isGood at hF
  refine lv_iload_n hx hb d_C_isGood_0 rfl (lv_at hl 0 rfl) ?_
  refine lv_iconst (v := 0) hx hb d_C_isGood_1 (by decide) ?_
  refine lv_iconst (v := 5) hx hb d_C_isGood_2 (by decide) ?_
  obtain ⟨hi_1, hok⟩ := hok
  refine cs_p (n := 3) (As := [.int x0, .int 0, .int 5]) (rest := []) hx hb hml hown hts (cC_isWithin l x0 0 5 hi_1 rfl) (gd_S wd_90 wd_91 wd_1 wd_92) (by decide +kernel) ⟨rfl, rfl, (Nat.le_of_ble_eq_true rfl), (Nat.le_of_ble_eq_true rfl), (Nat.le_of_ble_eq_true rfl), (Nat.le_of_ble_eq_true rfl)⟩ rfl hl.1 rfl (Nat.le_of_ble_eq_true rfl) d_C_isGood_3 ?_
  exact rt_p hx hb hr hlocks hok (by rw [← hF]) d_C_isGood_6 (Nat.le_refl 0) (Nat.le_refl 0)
set_option maxHeartbeats 4000000 in
set_option maxRecDepth 100000 in
theorem cC_isPerson (l : Launch) (x0 : Int32) {F : Int32} (hok : kC_isPerson x0) (hF : fC_isPerson x0 = F) : Met l y_C_isPerson (Cond.code y_C_isPerson b_C_isPerson 1 (some .boolean) :: gw) ({ frames := 1, cells := 0, slots := 0, locals := 22 } : Room) (va_Pc [.int x0] (fun _ => True)) (qP (.int F)) 0 0 (fun _ => False) := by
  refine en_P (by decide) (Nat.le_of_ble_eq_true rfl) ?_
  intro p e s m args below meth c ls hx hb hml hown hts hr hlocks hl
  have hl : lv_has ls 1 [(0, .int x0)] := hl
  unfold kC_isPerson at hok
  unfold fC_isPerson at hF
  refine lv_iload_n hx hb d_C_isPerson_0 rfl (lv_at hl 0 rfl) ?_
  refine lv_iconst (v := 0) hx hb d_C_isPerson_1 (by decide) ?_
  refine lv_iconst (v := 5) hx hb d_C_isPerson_2 (by decide) ?_
  obtain ⟨hi_1, hok⟩ := hok
  refine cs_p (n := 3) (As := [.int x0, .int 0, .int 5]) (rest := []) hx hb hml hown hts (cC_isWithin l x0 0 5 hi_1 rfl) (gd_S wd_90 wd_91 wd_1 wd_92) (by decide +kernel) ⟨rfl, rfl, (Nat.le_of_ble_eq_true rfl), (Nat.le_of_ble_eq_true rfl), (Nat.le_of_ble_eq_true rfl), (Nat.le_of_ble_eq_true rfl)⟩ rfl hl.1 rfl (Nat.le_of_ble_eq_true rfl) d_C_isPerson_3 ?_
  exact rt_p hx hb hr hlocks hok (by rw [← hF]) d_C_isPerson_6 (Nat.le_refl 0) (Nat.le_refl 0)
set_option maxHeartbeats 4000000 in
set_option maxRecDepth 100000 in
theorem cC_isPieces (l : Launch) (x0 : Int32) {F : Int32} (hok : kC_isPieces x0) (hF : fC_isPieces x0 = F) : Met l y_C_isPieces (Cond.code y_C_isPieces b_C_isPieces 1 (some .boolean) :: gw) ({ frames := 1, cells := 0, slots := 0, locals := 22 } : Room) (va_Pc [.int x0] (fun _ => True)) (qP (.int F)) 0 0 (fun _ => False) := by
  refine en_P (by decide) (Nat.le_of_ble_eq_true rfl) ?_
  intro p e s m args below meth c ls hx hb hml hown hts hr hlocks hl
  have hl : lv_has ls 1 [(0, .int x0)] := hl
  unfold kC_isPieces at hok
  unfold fC_isPieces at hF
  refine lv_iload_n hx hb d_C_isPieces_0 rfl (lv_at hl 0 rfl) ?_
  refine lv_iconst (v := 0) hx hb d_C_isPieces_1 (by decide) ?_
  refine lv_ldc hx hb hown (hts _ wd_247) d_C_isPieces_2 ?_
  obtain ⟨hi_1, hok⟩ := hok
  refine cs_p (n := 3) (As := [.int x0, .int 0, .int 1000000]) (rest := []) hx hb hml hown hts (cC_isWithin l x0 0 1000000 hi_1 rfl) (gd_S wd_90 wd_91 wd_1 wd_92) (by decide +kernel) ⟨rfl, rfl, (Nat.le_of_ble_eq_true rfl), (Nat.le_of_ble_eq_true rfl), (Nat.le_of_ble_eq_true rfl), (Nat.le_of_ble_eq_true rfl)⟩ rfl hl.1 rfl (Nat.le_of_ble_eq_true rfl) d_C_isPieces_4 ?_
  exact rt_p hx hb hr hlocks hok (by rw [← hF]) d_C_isPieces_7 (Nat.le_refl 0) (Nat.le_refl 0)
set_option maxHeartbeats 4000000 in
set_option maxRecDepth 100000 in
theorem cC_isDay (l : Launch) (x0 : Int32) {F : Int32} (hok : kC_isDay x0) (hF : fC_isDay x0 = F) : Met l y_C_isDay (Cond.code y_C_isDay b_C_isDay 1 (some .boolean) :: gw) ({ frames := 1, cells := 0, slots := 0, locals := 22 } : Room) (va_Pc [.int x0] (fun _ => True)) (qP (.int F)) 0 0 (fun _ => False) := by
  refine en_P (by decide) (Nat.le_of_ble_eq_true rfl) ?_
  intro p e s m args below meth c ls hx hb hml hown hts hr hlocks hl
  have hl : lv_has ls 1 [(0, .int x0)] := hl
  unfold kC_isDay at hok
  unfold fC_isDay at hF
  refine lv_iload_n hx hb d_C_isDay_0 rfl (lv_at hl 0 rfl) ?_
  refine lv_iconst (v := 0) hx hb d_C_isDay_1 (by decide) ?_
  refine lv_sipush (v := 10000) hx hb d_C_isDay_2 (by decide) ?_
  obtain ⟨hi_1, hok⟩ := hok
  refine cs_p (n := 3) (As := [.int x0, .int 0, .int 10000]) (rest := []) hx hb hml hown hts (cC_isWithin l x0 0 10000 hi_1 rfl) (gd_S wd_90 wd_91 wd_1 wd_92) (by decide +kernel) ⟨rfl, rfl, (Nat.le_of_ble_eq_true rfl), (Nat.le_of_ble_eq_true rfl), (Nat.le_of_ble_eq_true rfl), (Nat.le_of_ble_eq_true rfl)⟩ rfl hl.1 rfl (Nat.le_of_ble_eq_true rfl) d_C_isDay_5 ?_
  exact rt_p hx hb hr hlocks hok (by rw [← hF]) d_C_isDay_8 (Nat.le_refl 0) (Nat.le_refl 0)
set_option maxHeartbeats 4000000 in
set_option maxRecDepth 100000 in
theorem cC_commonDivisor (l : Launch) (x0 : Int32) (x1 : Int32) {F : Int32} (hok : kC_commonDivisor x0 x1) (hF : fC_commonDivisor x0 x1 = F) : Met l y_C_commonDivisor (Cond.code y_C_commonDivisor b_C_commonDivisor 6 (some .int) :: gw) ({ frames := 0, cells := 0, slots := 0, locals := 0 } : Room) (va_Pc [.int x0, .int x1] (fun _ => True)) (qP (.int F)) 0 0 (fun _ => False) := by
  refine en_P (by decide) (Nat.le_of_ble_eq_true rfl) ?_
  intro p e s m args below meth c ls hx hb hml hown hts hr hlocks hl
  have hl : lv_has ls 6 [(0, .int x0), (1, .int x1)] := hl
  unfold kC_commonDivisor at hok
  unfold fC_commonDivisor at hF
  refine lv_iload_n hx hb d_C_commonDivisor_0 rfl (lv_at hl 0 rfl) ?_
  refine lv_istore_n (lv' := [(2, .int x0), (0, .int x0), (1, .int x1)]) hx hb d_C_commonDivisor_1 rfl hl (by decide) rfl (fun ls hl => ?_)
  refine lv_iload_n hx hb d_C_commonDivisor_2 rfl (lv_at hl 2 rfl) ?_
  refine lv_istore_n (lv' := [(3, .int x1), (2, .int x0), (0, .int x0), (1, .int x1)]) hx hb d_C_commonDivisor_3 rfl hl (by decide) rfl (fun ls hl => ?_)
  refine lv_iconst (v := 0) hx hb d_C_commonDivisor_4 (by decide) ?_
  refine lv_istore (lv' := [(4, .int 0), (3, .int x1), (2, .int x0), (0, .int x0), (1, .int x1)]) hx hb d_C_commonDivisor_5 hl (by decide) rfl (fun ls hl => ?_)
  have hx_7 : ∀ (x0 : Int32) (x1 : Int32) (x2 : Int32) (x3 : Int32) (x4 : Int32) (ls : Array Slot), lv_has ls 6 [(0, .int x0), (1, .int x1), (2, .int x2), (3, .int x3), (4, .int x4)] → kC_commonDivisor_7x x0 x1 x2 x3 x4 → fC_commonDivisor_7x x0 x1 x2 x3 x4 = F → W p l e ({ frames := 0, cells := 0, slots := 0, locals := 0 } : Room) s m args below meth c s.heap [] 0 0 (MQ below (qP (.int F)) args s 0 0 (fun _ => False)) (F0 m 34 ls []) := by
    intro x0 x1 x2 x3 x4 ls hl hok hF
    unfold kC_commonDivisor_7x at hok
    unfold fC_commonDivisor_7x at hF
    refine lv_iload_n hx hb d_C_commonDivisor_34 rfl (lv_at hl 2 rfl) ?_
    exact rt_p hx hb hr hlocks rfl (by rw [← hF]) d_C_commonDivisor_35 (Nat.le_refl 0) (Nat.le_refl 0)
  have lp_7 : ∀ (n7 : Nat) (x0 : Int32) (x1 : Int32) (x2 : Int32) (x3 : Int32) (x4 : Int32) (ls : Array Slot), lv_has ls 6 [(0, .int x0), (1, .int x1), (2, .int x2), (3, .int x3), (4, .int x4)] → kC_commonDivisor_7 kC_commonDivisor_7x n7 x0 x1 x2 x3 x4 → fC_commonDivisor_7 fC_commonDivisor_7x n7 x0 x1 x2 x3 x4 = F → W p l e ({ frames := 0, cells := 0, slots := 0, locals := 0 } : Room) s m args below meth c s.heap [] 0 0 (MQ below (qP (.int F)) args s 0 0 (fun _ => False)) (F0 m 7 ls []) := by
    intro n7
    induction n7 with
    | zero =>
      intro x0 x1 x2 x3 x4 ls hl hok hF
      unfold kC_commonDivisor_7 at hok
      exact hok.elim
    | succ n7 ih_7 =>
      intro x0 x1 x2 x3 x4 ls hl hok hF
      unfold kC_commonDivisor_7 at hok
      unfold fC_commonDivisor_7 at hF
      refine lv_iload hx hb d_C_commonDivisor_7 (lv_at hl 4 rfl) ?_
      refine lv_bipush (v := 64) hx hb d_C_commonDivisor_9 (by decide) ?_
      refine lv_icmp_ge (tgt := 34) hx hb d_C_commonDivisor_11 (by decide) (fun c_1 => ?_) (fun c_1 => ?_)
      · have hok := hok.1 c_1
        have hF := (if_pos c_1).symm.trans hF
        exact hx_7 x0 x1 x2 x3 x4 ls (lv_sub hl [0, 1, 2, 3, 4] rfl) hok hF
      · have hok := hok.2 c_1
        have hF := (if_neg c_1).symm.trans hF
        refine lv_iload_n hx hb d_C_commonDivisor_14 rfl (lv_at hl 3 rfl) ?_
        refine lv_if_eq (tgt := 34) hx hb d_C_commonDivisor_15 (by decide) (fun c_2 => ?_) (fun c_2 => ?_)
        · have hok := hok.1 c_2
          have hF := (if_pos c_2).symm.trans hF
          exact hx_7 x0 x1 x2 x3 x4 ls (lv_sub hl [0, 1, 2, 3, 4] rfl) hok hF
        · have hok := hok.2 c_2
          have hF := (if_neg c_2).symm.trans hF
          refine lv_iload_n hx hb d_C_commonDivisor_18 rfl (lv_at hl 2 rfl) ?_
          refine lv_iload_n hx hb d_C_commonDivisor_19 rfl (lv_at hl 3 rfl) ?_
          obtain ⟨hi_3, hok⟩ := hok
          refine lv_irem hx hb d_C_commonDivisor_20 hi_3 ?_
          refine lv_istore (lv' := [(5, .int (x2 - x2 / x3 * x3)), (0, .int x0), (1, .int x1), (2, .int x2), (3, .int x3), (4, .int x4)]) hx hb d_C_commonDivisor_21 hl (by decide) rfl (fun ls hl => ?_)
          refine lv_iload_n hx hb d_C_commonDivisor_23 rfl (lv_at hl 4 rfl) ?_
          refine lv_istore_n (lv' := [(2, .int x3), (5, .int (x2 - x2 / x3 * x3)), (0, .int x0), (1, .int x1), (3, .int x3), (4, .int x4)]) hx hb d_C_commonDivisor_24 rfl hl (by decide) rfl (fun ls hl => ?_)
          refine lv_iload hx hb d_C_commonDivisor_25 (lv_at hl 1 rfl) ?_
          refine lv_istore_n (lv' := [(3, .int (x2 - x2 / x3 * x3)), (2, .int x3), (5, .int (x2 - x2 / x3 * x3)), (0, .int x0), (1, .int x1), (4, .int x4)]) hx hb d_C_commonDivisor_27 rfl hl (by decide) rfl (fun ls hl => ?_)
          refine lv_iinc (v := x4 + 1) (lv' := [(4, .int (x4 + 1)), (3, .int (x2 - x2 / x3 * x3)), (2, .int x3), (5, .int (x2 - x2 / x3 * x3)), (0, .int x0), (1, .int x1)]) hx hb d_C_commonDivisor_28 hl (k := 5) rfl rfl (by decide) rfl (fun ls hl => ?_)
          refine lv_goto (tgt := 7) hx hb d_C_commonDivisor_31 (by decide) ?_
          exact ih_7 x0 x1 x3 (x2 - x2 / x3 * x3) (x4 + 1) ls (lv_sub hl [4, 5, 2, 1, 0] rfl) hok hF
  exact lp_7 200 x0 x1 x0 x1 0 ls (lv_sub hl [3, 4, 2, 1, 0] rfl) hok hF
set_option maxHeartbeats 4000000 in
set_option maxRecDepth 100000 in
theorem cS_positionOf (l : Launch) (D : va_G) (tc : Nat → ClassId) (sa : Nat → Nat) (ad : Nat → Nat → Nat) (Y : va_W) (sz : Nat) (i0 : Nat) (x1 : Int32) (g : Nat → Nat → Nat → Int32) (N : Nat → Nat) (hj0 : i0 < N 2) {F : Int32} (hok : kS_positionOf i0 x1 g N) (hF : fS_positionOf i0 x1 g N = F) : Met l y_S_positionOf (Cond.code y_S_positionOf b_S_positionOf 3 (some .int) :: gw) ({ frames := 0, cells := 0, slots := 0, locals := 0 } : Room) (va_Pc [.ref (ad 4 i0), .int x1] (pC D tc sa (cl tc g N ad ++ Y) sz)) (qP (.int F)) 0 0 (fun _ => False) := by
  refine en_C (by decide) (Nat.le_of_ble_eq_true rfl) ?_
  intro p e s m args below meth c ls h0 hN hX hr hlocks hin hsz hw hl
  obtain ⟨hx, hb, hml, hown, hts, hK⟩ := id h0
  have hA : ∀ q : Nat, s.heap.size ≤ q → (va_A (cl tc g N ad ++ Y) sz) q := fun q h => Or.inr (by rw [← hsz]; exact h)
  generalize va_A (cl tc g N ad ++ Y) sz = A at hw hA hX
  have hl : lv_has ls 3 [(0, .ref (ad 4 i0)), (1, .int x1)] := hl
  unfold kS_positionOf at hok
  unfold fS_positionOf at hF
  refine lv_iconst (v := 0) hx hb d_S_positionOf_0 (by decide) ?_
  refine lv_istore_n (lv' := [(2, .int 0), (0, .ref (ad 4 i0)), (1, .int x1)]) hx hb d_S_positionOf_1 rfl hl (by decide) rfl (fun ls hl => ?_)
  have hx_2 : ∀ (i0 : Nat) (x1 : Int32) (x2 : Int32) (ls : Array Slot), i0 < N 2 → lv_has ls 3 [(0, .ref (ad 4 i0)), (1, .int x1), (2, .int x2)] → kS_positionOf_2x i0 x1 x2 g N → fS_positionOf_2x i0 x1 x2 g N = F → W p l e ({ frames := 0, cells := 0, slots := 0, locals := 0 } : Room) s m args below meth c s.heap [] 0 0 (MQ below (qP (.int F)) args s 0 0 (fun _ => False)) (F0 m 29 ls []) := by
    intro i0 x1 x2 ls hj0 hl hok hF
    unfold kS_positionOf_2x at hok
    unfold fS_positionOf_2x at hF
    refine lv_iconst (v := (-1)) hx hb d_S_positionOf_29 (by decide) ?_
    exact rt_p hx hb hr hlocks rfl (by rw [← hF]) d_S_positionOf_30 (Nat.le_refl 0) (Nat.le_refl 0)
  have lp_2 : ∀ (n2 : Nat) (i0 : Nat) (x1 : Int32) (x2 : Int32) (ls : Array Slot), i0 < N 2 → lv_has ls 3 [(0, .ref (ad 4 i0)), (1, .int x1), (2, .int x2)] → kS_positionOf_2 kS_positionOf_2x n2 i0 x1 x2 g N → fS_positionOf_2 fS_positionOf_2x n2 i0 x1 x2 g N = F → W p l e ({ frames := 0, cells := 0, slots := 0, locals := 0 } : Room) s m args below meth c s.heap [] 0 0 (MQ below (qP (.int F)) args s 0 0 (fun _ => False)) (F0 m 2 ls []) := by
    intro n2
    induction n2 with
    | zero =>
      intro i0 x1 x2 ls hj0 hl hok hF
      unfold kS_positionOf_2 at hok
      exact hok.elim
    | succ n2 ih_2 =>
      intro i0 x1 x2 ls hj0 hl hok hF
      unfold kS_positionOf_2 at hok
      unfold fS_positionOf_2 at hF
      refine lv_iload_n hx hb d_S_positionOf_2 rfl (lv_at hl 2 rfl) ?_
      refine lv_aload_n hx hb d_S_positionOf_3 rfl (lv_at hl 0 rfl) ?_
      refine gSS_0 h0 hw hj0 d_S_positionOf_4 ?_
      refine n_members h0 hw hj0 d_S_positionOf_7 ?_
      refine lv_icmp_ge (tgt := 29) hx hb d_S_positionOf_8 (by decide) (fun c_1 => ?_) (fun c_1 => ?_)
      · have hok := hok.1 c_1
        have hF := (if_pos c_1).symm.trans hF
        exact hx_2 i0 x1 x2 ls hj0 (lv_sub hl [0, 1, 2] rfl) hok hF
      · have hok := hok.2 c_1
        have hF := (if_neg c_1).symm.trans hF
        refine lv_aload_n hx hb d_S_positionOf_11 rfl (lv_at hl 0 rfl) ?_
        refine gSS_0 h0 hw hj0 d_S_positionOf_12 ?_
        refine lv_iload_n hx hb d_S_positionOf_15 rfl (lv_at hl 2 rfl) ?_
        obtain ⟨hi_2, hok⟩ := hok
        refine l_members h0 hw hj0 hi_2 d_S_positionOf_16 ?_
        refine lv_iload_n hx hb d_S_positionOf_17 rfl (lv_at hl 1 rfl) ?_
        refine lv_icmp_ne (tgt := 23) hx hb d_S_positionOf_18 (by decide) (fun c_3 => ?_) (fun c_3 => ?_)
        · have hok := hok.2 c_3
          have hF := (if_neg c_3).symm.trans hF
          refine lv_iinc (v := x2 + 1) (lv' := [(2, .int (x2 + 1)), (0, .ref (ad 4 i0)), (1, .int x1)]) hx hb d_S_positionOf_23 hl (k := 2) rfl rfl (by decide) rfl (fun ls hl => ?_)
          refine lv_goto (tgt := 2) hx hb d_S_positionOf_26 (by decide) ?_
          exact ih_2 i0 x1 (x2 + 1) ls hj0 (lv_sub hl [1, 2, 0] rfl) hok hF
        · have hok := hok.1 c_3
          have hF := (if_pos c_3).symm.trans hF
          refine lv_iload_n hx hb d_S_positionOf_21 rfl (lv_at hl 2 rfl) ?_
          exact rt_p hx hb hr hlocks rfl (by rw [← hF]) d_S_positionOf_22 (Nat.le_refl 0) (Nat.le_refl 0)
  exact lp_2 200 i0 x1 0 ls hj0 (lv_sub hl [1, 2, 0] rfl) hok hF
set_option maxHeartbeats 4000000 in
set_option maxRecDepth 100000 in
theorem cS_isToldOnce (l : Launch) (D : va_G) (tc : Nat → ClassId) (sa : Nat → Nat) (ad : Nat → Nat → Nat) (Y : va_W) (sz : Nat) (i0 : Nat) (x1 : Int32) (g : Nat → Nat → Nat → Int32) (N : Nat → Nat) (hj0 : i0 < N 2) {F : Int32} (hok : kS_isToldOnce i0 x1 g N) (hF : fS_isToldOnce i0 x1 g N = F) : Met l y_S_isToldOnce (Cond.code y_S_isToldOnce b_S_isToldOnce 2 (some .boolean) :: gw) ({ frames := 0, cells := 0, slots := 0, locals := 0 } : Room) (va_Pc [.ref (ad 4 i0), .int x1] (pC D tc sa (cl tc g N ad ++ Y) sz)) (qP (.int F)) 0 0 (fun _ => False) := by
  refine en_C (by decide) (Nat.le_of_ble_eq_true rfl) ?_
  intro p e s m args below meth c ls h0 hN hX hr hlocks hin hsz hw hl
  obtain ⟨hx, hb, hml, hown, hts, hK⟩ := id h0
  have hA : ∀ q : Nat, s.heap.size ≤ q → (va_A (cl tc g N ad ++ Y) sz) q := fun q h => Or.inr (by rw [← hsz]; exact h)
  generalize va_A (cl tc g N ad ++ Y) sz = A at hw hA hX
  have hl : lv_has ls 2 [(0, .ref (ad 4 i0)), (1, .int x1)] := hl
  unfold kS_isToldOnce at hok
  unfold fS_isToldOnce at hF
  refine lv_aload_n hx hb d_S_isToldOnce_0 rfl (lv_at hl 0 rfl) ?_
  refine gSS_3 h0 hw hj0 d_S_isToldOnce_1 ?_
  refine lv_iload_n hx hb d_S_isToldOnce_4 rfl (lv_at hl 1 rfl) ?_
  obtain ⟨hi_1, hok⟩ := hok
  refine l_first h0 hw hj0 hi_1 d_S_isToldOnce_5 ?_
  refine lv_iconst (v := (-1)) hx hb d_S_isToldOnce_6 (by decide) ?_
  refine lv_icmp_eq (tgt := 24) hx hb d_S_isToldOnce_7 (by decide) (fun c_2 => ?_) (fun c_2 => ?_)
  · have hok := hok.1 c_2
    have hF := (if_pos c_2).symm.trans hF
    refine lv_iconst (v := 0) hx hb d_S_isToldOnce_24 (by decide) ?_
    exact rt_p hx hb hr hlocks rfl (by rw [← hF]) d_S_isToldOnce_25 (Nat.le_refl 0) (Nat.le_refl 0)
  · have hok := hok.2 c_2
    have hF := (if_neg c_2).symm.trans hF
    refine lv_aload_n hx hb d_S_isToldOnce_10 rfl (lv_at hl 0 rfl) ?_
    refine gSS_4 h0 hw hj0 d_S_isToldOnce_11 ?_
    refine lv_iload_n hx hb d_S_isToldOnce_14 rfl (lv_at hl 1 rfl) ?_
    obtain ⟨hi_3, hok⟩ := hok
    refine l_second h0 hw hj0 hi_3 d_S_isToldOnce_15 ?_
    refine lv_iconst (v := (-1)) hx hb d_S_isToldOnce_16 (by decide) ?_
    refine lv_icmp_ne (tgt := 24) hx hb d_S_isToldOnce_17 (by decide) (fun c_4 => ?_) (fun c_4 => ?_)
    · have hok := hok.2 c_4
      have hF := (if_neg c_4).symm.trans hF
      refine lv_iconst (v := 0) hx hb d_S_isToldOnce_24 (by decide) ?_
      exact rt_p hx hb hr hlocks rfl (by rw [← hF]) d_S_isToldOnce_25 (Nat.le_refl 0) (Nat.le_refl 0)
    · have hok := hok.1 c_4
      have hF := (if_pos c_4).symm.trans hF
      refine lv_iconst (v := 1) hx hb d_S_isToldOnce_20 (by decide) ?_
      refine lv_goto (tgt := 25) hx hb d_S_isToldOnce_21 (by decide) ?_
      exact rt_p hx hb hr hlocks rfl (by rw [← hF]) d_S_isToldOnce_25 (Nat.le_refl 0) (Nat.le_refl 0)
set_option maxHeartbeats 4000000 in
set_option maxRecDepth 100000 in
theorem cS_isPlaceTold (l : Launch) (D : va_G) (tc : Nat → ClassId) (sa : Nat → Nat) (ad : Nat → Nat → Nat) (Y : va_W) (sz : Nat) (i0 : Nat) (x1 : Int32) (g : Nat → Nat → Nat → Int32) (N : Nat → Nat) (hj0 : i0 < N 2) {F : Int32} (hok : kS_isPlaceTold i0 x1 g N) (hF : fS_isPlaceTold i0 x1 g N = F) : Met l y_S_isPlaceTold (Cond.code y_S_isPlaceTold b_S_isPlaceTold 3 (some .boolean) :: gw) ({ frames := 0, cells := 0, slots := 0, locals := 0 } : Room) (va_Pc [.ref (ad 4 i0), .int x1] (pC D tc sa (cl tc g N ad ++ Y) sz)) (qP (.int F)) 0 0 (fun _ => False) := by
  refine en_C (by decide) (Nat.le_of_ble_eq_true rfl) ?_
  intro p e s m args below meth c ls h0 hN hX hr hlocks hin hsz hw hl
  obtain ⟨hx, hb, hml, hown, hts, hK⟩ := id h0
  have hA : ∀ q : Nat, s.heap.size ≤ q → (va_A (cl tc g N ad ++ Y) sz) q := fun q h => Or.inr (by rw [← hsz]; exact h)
  generalize va_A (cl tc g N ad ++ Y) sz = A at hw hA hX
  have hl : lv_has ls 3 [(0, .ref (ad 4 i0)), (1, .int x1)] := hl
  unfold kS_isPlaceTold at hok
  unfold fS_isPlaceTold at hF
  refine lv_iconst (v := 0) hx hb d_S_isPlaceTold_0 (by decide) ?_
  refine lv_istore_n (lv' := [(2, .int 0), (0, .ref (ad 4 i0)), (1, .int x1)]) hx hb d_S_isPlaceTold_1 rfl hl (by decide) rfl (fun ls hl => ?_)
  have hx_2 : ∀ (i0 : Nat) (x1 : Int32) (x2 : Int32) (ls : Array Slot), i0 < N 2 → lv_has ls 3 [(0, .ref (ad 4 i0)), (1, .int x1), (2, .int x2)] → kS_isPlaceTold_2x i0 x1 x2 g N → fS_isPlaceTold_2x i0 x1 x2 g N = F → W p l e ({ frames := 0, cells := 0, slots := 0, locals := 0 } : Room) s m args below meth c s.heap [] 0 0 (MQ below (qP (.int F)) args s 0 0 (fun _ => False)) (F0 m 31 ls []) := by
    intro i0 x1 x2 ls hj0 hl hok hF
    unfold kS_isPlaceTold_2x at hok
    unfold fS_isPlaceTold_2x at hF
    refine lv_iconst (v := 0) hx hb d_S_isPlaceTold_31 (by decide) ?_
    exact rt_p hx hb hr hlocks rfl (by rw [← hF]) d_S_isPlaceTold_32 (Nat.le_refl 0) (Nat.le_refl 0)
  have lp_2 : ∀ (n2 : Nat) (i0 : Nat) (x1 : Int32) (x2 : Int32) (ls : Array Slot), i0 < N 2 → lv_has ls 3 [(0, .ref (ad 4 i0)), (1, .int x1), (2, .int x2)] → kS_isPlaceTold_2 kS_isPlaceTold_2x n2 i0 x1 x2 g N → fS_isPlaceTold_2 fS_isPlaceTold_2x n2 i0 x1 x2 g N = F → W p l e ({ frames := 0, cells := 0, slots := 0, locals := 0 } : Room) s m args below meth c s.heap [] 0 0 (MQ below (qP (.int F)) args s 0 0 (fun _ => False)) (F0 m 2 ls []) := by
    intro n2
    induction n2 with
    | zero =>
      intro i0 x1 x2 ls hj0 hl hok hF
      unfold kS_isPlaceTold_2 at hok
      exact hok.elim
    | succ n2 ih_2 =>
      intro i0 x1 x2 ls hj0 hl hok hF
      unfold kS_isPlaceTold_2 at hok
      unfold fS_isPlaceTold_2 at hF
      refine lv_iload_n hx hb d_S_isPlaceTold_2 rfl (lv_at hl 2 rfl) ?_
      refine lv_bipush (v := 6) hx hb d_S_isPlaceTold_3 (by decide) ?_
      refine lv_icmp_ge (tgt := 31) hx hb d_S_isPlaceTold_5 (by decide) (fun c_1 => ?_) (fun c_1 => ?_)
      · have hok := hok.1 c_1
        have hF := (if_pos c_1).symm.trans hF
        exact hx_2 i0 x1 x2 ls hj0 (lv_sub hl [0, 1, 2] rfl) hok hF
      · have hok := hok.2 c_1
        have hF := (if_neg c_1).symm.trans hF
        refine lv_aload_n hx hb d_S_isPlaceTold_8 rfl (lv_at hl 0 rfl) ?_
        refine gSS_3 h0 hw hj0 d_S_isPlaceTold_9 ?_
        refine lv_iload_n hx hb d_S_isPlaceTold_12 rfl (lv_at hl 1 rfl) ?_
        refine lv_bipush (v := 6) hx hb d_S_isPlaceTold_13 (by decide) ?_
        refine lv_imul hx hb d_S_isPlaceTold_15 ?_
        refine lv_iload_n hx hb d_S_isPlaceTold_16 rfl (lv_at hl 2 rfl) ?_
        refine lv_iadd hx hb d_S_isPlaceTold_17 ?_
        obtain ⟨hi_2, hok⟩ := hok
        refine l_first h0 hw hj0 hi_2 d_S_isPlaceTold_18 ?_
        refine lv_iconst (v := (-1)) hx hb d_S_isPlaceTold_19 (by decide) ?_
        refine lv_icmp_eq (tgt := 25) hx hb d_S_isPlaceTold_20 (by decide) (fun c_3 => ?_) (fun c_3 => ?_)
        · have hok := hok.1 c_3
          have hF := (if_pos c_3).symm.trans hF
          refine lv_iinc (v := x2 + 1) (lv' := [(2, .int (x2 + 1)), (0, .ref (ad 4 i0)), (1, .int x1)]) hx hb d_S_isPlaceTold_25 hl (k := 2) rfl rfl (by decide) rfl (fun ls hl => ?_)
          refine lv_goto (tgt := 2) hx hb d_S_isPlaceTold_28 (by decide) ?_
          exact ih_2 i0 x1 (x2 + 1) ls hj0 (lv_sub hl [1, 2, 0] rfl) hok hF
        · have hok := hok.2 c_3
          have hF := (if_neg c_3).symm.trans hF
          refine lv_iconst (v := 1) hx hb d_S_isPlaceTold_23 (by decide) ?_
          exact rt_p hx hb hr hlocks rfl (by rw [← hF]) d_S_isPlaceTold_24 (Nat.le_refl 0) (Nat.le_refl 0)
  exact lp_2 200 i0 x1 0 ls hj0 (lv_sub hl [1, 2, 0] rfl) hok hF
set_option maxHeartbeats 4000000 in
set_option maxRecDepth 100000 in
theorem cS_finderOf (l : Launch) (D : va_G) (tc : Nat → ClassId) (sa : Nat → Nat) (ad : Nat → Nat → Nat) (Y : va_W) (sz : Nat) (i0 : Nat) (x1 : Int32) (g : Nat → Nat → Nat → Int32) (N : Nat → Nat) (hj0 : i0 < N 2) {F : Int32} (hok : kS_finderOf i0 x1 g N) (hF : fS_finderOf i0 x1 g N = F) : Met l y_S_finderOf (Cond.code y_S_finderOf b_S_finderOf 2 (some .int) :: gw) ({ frames := 0, cells := 0, slots := 0, locals := 0 } : Room) (va_Pc [.ref (ad 4 i0), .int x1] (pC D tc sa (cl tc g N ad ++ Y) sz)) (qP (.int F)) 0 0 (fun _ => False) := by
  refine en_C (by decide) (Nat.le_of_ble_eq_true rfl) ?_
  intro p e s m args below meth c ls h0 hN hX hr hlocks hin hsz hw hl
  obtain ⟨hx, hb, hml, hown, hts, hK⟩ := id h0
  have hA : ∀ q : Nat, s.heap.size ≤ q → (va_A (cl tc g N ad ++ Y) sz) q := fun q h => Or.inr (by rw [← hsz]; exact h)
  generalize va_A (cl tc g N ad ++ Y) sz = A at hw hA hX
  have hl : lv_has ls 2 [(0, .ref (ad 4 i0)), (1, .int x1)] := hl
  unfold kS_finderOf at hok
  unfold fS_finderOf at hF
  refine lv_aload_n hx hb d_S_finderOf_0 rfl (lv_at hl 0 rfl) ?_
  refine gSS_4 h0 hw hj0 d_S_finderOf_1 ?_
  refine lv_iload_n hx hb d_S_finderOf_4 rfl (lv_at hl 1 rfl) ?_
  obtain ⟨hi_1, hok⟩ := hok
  refine l_second h0 hw hj0 hi_1 d_S_finderOf_5 ?_
  refine lv_iconst (v := (-1)) hx hb d_S_finderOf_6 (by decide) ?_
  refine lv_icmp_eq (tgt := 19) hx hb d_S_finderOf_7 (by decide) (fun c_2 => ?_) (fun c_2 => ?_)
  · have hok := hok.1 c_2
    have hF := (if_pos c_2).symm.trans hF
    refine lv_aload_n hx hb d_S_finderOf_19 rfl (lv_at hl 0 rfl) ?_
    refine gSS_3 h0 hw hj0 d_S_finderOf_20 ?_
    refine lv_iload_n hx hb d_S_finderOf_23 rfl (lv_at hl 1 rfl) ?_
    obtain ⟨hi_3, hok⟩ := hok
    refine l_first h0 hw hj0 hi_3 d_S_finderOf_24 ?_
    exact rt_p hx hb hr hlocks rfl (by rw [← hF]) d_S_finderOf_25 (Nat.le_refl 0) (Nat.le_refl 0)
  · have hok := hok.2 c_2
    have hF := (if_neg c_2).symm.trans hF
    refine lv_aload_n hx hb d_S_finderOf_10 rfl (lv_at hl 0 rfl) ?_
    refine gSS_4 h0 hw hj0 d_S_finderOf_11 ?_
    refine lv_iload_n hx hb d_S_finderOf_14 rfl (lv_at hl 1 rfl) ?_
    obtain ⟨hi_4, hok⟩ := hok
    refine l_second h0 hw hj0 hi_4 d_S_finderOf_15 ?_
    refine lv_goto (tgt := 25) hx hb d_S_finderOf_16 (by decide) ?_
    exact rt_p hx hb hr hlocks rfl (by rw [← hF]) d_S_finderOf_25 (Nat.le_refl 0) (Nat.le_refl 0)
set_option maxHeartbeats 4000000 in
set_option maxRecDepth 100000 in
theorem cS_differenceOf (l : Launch) (D : va_G) (tc : Nat → ClassId) (sa : Nat → Nat) (ad : Nat → Nat → Nat) (Y : va_W) (sz : Nat) (i0 : Nat) (x1 : Int32) (g : Nat → Nat → Nat → Int32) (N : Nat → Nat) (hj0 : i0 < N 2) {F : Int32} (hok : kS_differenceOf i0 x1 g N) (hF : fS_differenceOf i0 x1 g N = F) : Met l y_S_differenceOf (Cond.code y_S_differenceOf b_S_differenceOf 2 (some .int) :: gw) ({ frames := 0, cells := 0, slots := 0, locals := 0 } : Room) (va_Pc [.ref (ad 4 i0), .int x1] (pC D tc sa (cl tc g N ad ++ Y) sz)) (qP (.int F)) 0 0 (fun _ => False) := by
  refine en_C (by decide) (Nat.le_of_ble_eq_true rfl) ?_
  intro p e s m args below meth c ls h0 hN hX hr hlocks hin hsz hw hl
  obtain ⟨hx, hb, hml, hown, hts, hK⟩ := id h0
  have hA : ∀ q : Nat, s.heap.size ≤ q → (va_A (cl tc g N ad ++ Y) sz) q := fun q h => Or.inr (by rw [← hsz]; exact h)
  generalize va_A (cl tc g N ad ++ Y) sz = A at hw hA hX
  have hl : lv_has ls 2 [(0, .ref (ad 4 i0)), (1, .int x1)] := hl
  unfold kS_differenceOf at hok
  unfold fS_differenceOf at hF
  refine lv_aload_n hx hb d_S_differenceOf_0 rfl (lv_at hl 0 rfl) ?_
  refine gSS_2 h0 hw hj0 d_S_differenceOf_1 ?_
  refine lv_iload_n hx hb d_S_differenceOf_4 rfl (lv_at hl 1 rfl) ?_
  obtain ⟨hi_1, hok⟩ := hok
  refine l_spieces h0 hw hj0 hi_1 d_S_differenceOf_5 ?_
  refine lv_aload_n hx hb d_S_differenceOf_6 rfl (lv_at hl 0 rfl) ?_
  refine gSS_1 h0 hw hj0 d_S_differenceOf_7 ?_
  refine lv_iload_n hx hb d_S_differenceOf_10 rfl (lv_at hl 1 rfl) ?_
  obtain ⟨hi_2, hok⟩ := hok
  refine l_noted h0 hw hj0 hi_2 d_S_differenceOf_11 ?_
  refine lv_isub hx hb d_S_differenceOf_12 ?_
  exact rt_p hx hb hr hlocks rfl (by rw [← hF]) d_S_differenceOf_13 (Nat.le_refl 0) (Nat.le_refl 0)
set_option maxHeartbeats 4000000 in
set_option maxRecDepth 100000 in
theorem cS_differingLine (l : Launch) (D : va_G) (tc : Nat → ClassId) (sa : Nat → Nat) (ad : Nat → Nat → Nat) (Y : va_W) (sz : Nat) (i0 : Nat) (x1 : Int32) (g : Nat → Nat → Nat → Int32) (N : Nat → Nat) (hj0 : i0 < N 2) {F : Int32} (hok : kS_differingLine i0 x1 g N) (hF : fS_differingLine i0 x1 g N = F) : Met l y_S_differingLine (Cond.code y_S_differingLine b_S_differingLine 2 (some .int) :: gw) ({ frames := 0, cells := 0, slots := 0, locals := 0 } : Room) (va_Pc [.ref (ad 4 i0), .int x1] (pC D tc sa (cl tc g N ad ++ Y) sz)) (qP (.int F)) 0 0 (fun _ => False) := by
  refine en_C (by decide) (Nat.le_of_ble_eq_true rfl) ?_
  intro p e s m args below meth c ls h0 hN hX hr hlocks hin hsz hw hl
  obtain ⟨hx, hb, hml, hown, hts, hK⟩ := id h0
  have hA : ∀ q : Nat, s.heap.size ≤ q → (va_A (cl tc g N ad ++ Y) sz) q := fun q h => Or.inr (by rw [← hsz]; exact h)
  generalize va_A (cl tc g N ad ++ Y) sz = A at hw hA hX
  have hl : lv_has ls 2 [(0, .ref (ad 4 i0)), (1, .int x1)] := hl
  unfold kS_differingLine at hok
  unfold fS_differingLine at hF
  refine lv_iload_n hx hb d_S_differingLine_0 rfl (lv_at hl 1 rfl) ?_
  refine lv_if_lt (tgt := 21) hx hb d_S_differingLine_1 (by decide) (fun c_1 => ?_) (fun c_1 => ?_)
  · have hok := hok.1 c_1
    have hF := (if_pos c_1).symm.trans hF
    refine lv_iconst (v := (-1)) hx hb d_S_differingLine_21 (by decide) ?_
    exact rt_p hx hb hr hlocks rfl (by rw [← hF]) d_S_differingLine_22 (Nat.le_refl 0) (Nat.le_refl 0)
  · have hok := hok.2 c_1
    have hF := (if_neg c_1).symm.trans hF
    refine lv_iload_n hx hb d_S_differingLine_4 rfl (lv_at hl 1 rfl) ?_
    refine lv_aload_n hx hb d_S_differingLine_5 rfl (lv_at hl 0 rfl) ?_
    refine gSS_8 h0 hw hj0 d_S_differingLine_6 ?_
    refine lv_icmp_ge (tgt := 21) hx hb d_S_differingLine_9 (by decide) (fun c_2 => ?_) (fun c_2 => ?_)
    · have hok := hok.1 c_2
      have hF := (if_pos c_2).symm.trans hF
      refine lv_iconst (v := (-1)) hx hb d_S_differingLine_21 (by decide) ?_
      exact rt_p hx hb hr hlocks rfl (by rw [← hF]) d_S_differingLine_22 (Nat.le_refl 0) (Nat.le_refl 0)
    · have hok := hok.2 c_2
      have hF := (if_neg c_2).symm.trans hF
      refine lv_aload_n hx hb d_S_differingLine_12 rfl (lv_at hl 0 rfl) ?_
      refine gSS_7 h0 hw hj0 d_S_differingLine_13 ?_
      refine lv_iload_n hx hb d_S_differingLine_16 rfl (lv_at hl 1 rfl) ?_
      obtain ⟨hi_3, hok⟩ := hok
      refine l_differing h0 hw hj0 hi_3 d_S_differingLine_17 ?_
      refine lv_goto (tgt := 22) hx hb d_S_differingLine_18 (by decide) ?_
      exact rt_p hx hb hr hlocks rfl (by rw [← hF]) d_S_differingLine_22 (Nat.le_refl 0) (Nat.le_refl 0)
