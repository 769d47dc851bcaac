def fM_in (x0 : Int32) (x1 : Int32) (x2 : Int32) : Int32 := if x0 < x1 then 0 else if x2 < x0 then 0 else 1
def kM_in (x0 : Int32) (x1 : Int32) (x2 : Int32) : Prop := (x0 < x1 → True) ∧ (¬ (x0 < x1) → (x2 < x0 → True) ∧ (¬ (x2 < x0) → True))
def fM_isGood (x0 : Int32) : Int32 := fM_in x0 0 5
def kM_isGood (x0 : Int32) : Prop := (kM_in x0 0 5) ∧ (narrow .boolean (.int (fM_in x0 0 5)) = .int (fM_in x0 0 5))
def fM_isPerson (x0 : Int32) : Int32 := fM_in x0 0 5
def kM_isPerson (x0 : Int32) : Prop := (kM_in x0 0 5) ∧ (narrow .boolean (.int (fM_in x0 0 5)) = .int (fM_in x0 0 5))
def fM_far (x0 : Int32) (x1 : Int32) : Int32 := if x0 ≤ x1 then x1 - x0 else x0 - x1
def kM_far (x0 : Int32) (x1 : Int32) : Prop := (x0 ≤ x1 → True) ∧ (¬ (x0 ≤ x1) → True)
def fM_isPlace (x1 : Int32) (μ : Nat → Nat → Int32) : Int32 := fM_in x1 0 ((μ 3 0) - 1)
def kM_isPlace (x1 : Int32) (μ : Nat → Nat → Int32) : Prop := (kM_in x1 0 ((μ 3 0) - 1)) ∧ (narrow .boolean (.int (fM_in x1 0 ((μ 3 0) - 1))) = .int (fM_in x1 0 ((μ 3 0) - 1)))
def fM_place (x1 : Int32) (μ : Nat → Nat → Int32) : Int32 × (Nat → Nat → Int32) := if (fM_in x1 0 2) = 0 then (0, (u2 μ 0 0 1)) else if (μ 3 0) = 20 then (0, (u2 μ 0 0 2)) else (((μ 3 0) + 1) - 1, (u2 (u2 (u2 (u2 μ 0 0 0) 4 (μ 3 0).toNatClampNeg x1) 5 (μ 3 0).toNatClampNeg (-1)) 3 0 ((μ 3 0) + 1)))
def kM_place (x1 : Int32) (μ : Nat → Nat → Int32) : Prop := (kM_in x1 0 2) ∧ (((fM_in x1 0 2) = 0 → True) ∧ (¬ ((fM_in x1 0 2) = 0) → ((μ 3 0) = 20 → True) ∧ (¬ ((μ 3 0) = 20) → (vp_in (μ 3 0) 20) ∧ ((vp_in (μ 3 0) 20) ∧ (True)))))
def fM_stock (x1 : Int32) (x2 : Int32) (x3 : Int32) (μ : Nat → Nat → Int32) : Nat → Nat → Int32 := if (fM_isPlace x1 μ) = 0 then (u2 μ 0 0 1) else if (fM_isGood x2) = 0 then (u2 μ 0 0 2) else if (fM_in x3 0 1000000) = 0 then (u2 μ 0 0 2) else (u2 (u2 μ 0 0 0) 6 ((6 * x1) + x2).toNatClampNeg x3)
def kM_stock (x1 : Int32) (x2 : Int32) (x3 : Int32) (μ : Nat → Nat → Int32) : Prop := (kM_isPlace x1 μ) ∧ (((fM_isPlace x1 μ) = 0 → True) ∧ (¬ ((fM_isPlace x1 μ) = 0) → (kM_isGood x2) ∧ (((fM_isGood x2) = 0 → True) ∧ (¬ ((fM_isGood x2) = 0) → (kM_in x3 0 1000000) ∧ (((fM_in x3 0 1000000) = 0 → True) ∧ (¬ ((fM_in x3 0 1000000) = 0) → (vp_in ((6 * x1) + x2) 120) ∧ (True)))))))
set_option maxHeartbeats 4000000 in
set_option maxRecDepth 100000 in
theorem cM_in (l : Launch) (x0 : Int32) (x1 : Int32) (x2 : Int32) {F : Int32} (hok : kM_in x0 x1 x2) (hF : fM_in x0 x1 x2 = F) : Met l y_M_in (Cond.code y_M_in b_M_in 3 (some .boolean) :: gw) ({ frames := 0, cells := 0, slots := 0, locals := 0 } : Room) (va_Pc [.int x0, .int x1, .int x2] (fun _ => True)) (qP (.int F)) 0 0 (fun _ => False) := by
  refine en_P (by decide) (Nat.le_of_ble_eq_true rfl) ?_
  intro p e s m below meth c ls hx hb hml hown hts hr hlocks hl
  have hl : lv_has ls 3 [(0, .int x0), (1, .int x1), (2, .int x2)] := hl
  unfold kM_in at hok
  unfold fM_in at hF
  refine lv_iload_n hx hb d_M_in_0 rfl (lv_at hl 0 rfl) ?_
  refine lv_iload_n hx hb d_M_in_1 rfl (lv_at hl 1 rfl) ?_
  refine lv_icmp_lt (tgt := 14) hx hb d_M_in_2 (by decide) (fun c_1 => ?_) (fun c_1 => ?_)
  · have hok := hok.1 c_1
    have hF := (if_pos c_1).symm.trans hF
    refine lv_iconst (v := 0) hx hb d_M_in_14 (by decide) ?_
    exact rt_p hx hb hr hlocks rfl (by rw [hF]) d_M_in_15 (Nat.le_refl 0) (Nat.le_refl 0)
  · have hok := hok.2 c_1
    have hF := (if_neg c_1).symm.trans hF
    refine lv_iload_n hx hb d_M_in_5 rfl (lv_at hl 0 rfl) ?_
    refine lv_iload_n hx hb d_M_in_6 rfl (lv_at hl 2 rfl) ?_
    refine lv_icmp_gt (tgt := 14) hx hb d_M_in_7 (by decide) (fun c_2 => ?_) (fun c_2 => ?_)
    · have hok := hok.1 c_2
      have hF := (if_pos c_2).symm.trans hF
      refine lv_iconst (v := 0) hx hb d_M_in_14 (by decide) ?_
      exact rt_p hx hb hr hlocks rfl (by rw [hF]) d_M_in_15 (Nat.le_refl 0) (Nat.le_refl 0)
    · have hok := hok.2 c_2
      have hF := (if_neg c_2).symm.trans hF
      refine lv_iconst (v := 1) hx hb d_M_in_10 (by decide) ?_
      refine lv_goto (tgt := 15) hx hb d_M_in_11 (by decide) ?_
      exact rt_p hx hb hr hlocks rfl (by rw [hF]) d_M_in_15 (Nat.le_refl 0) (Nat.le_refl 0)
set_option maxHeartbeats 4000000 in
set_option maxRecDepth 100000 in
theorem cM_isGood (l : Launch) (x0 : Int32) {F : Int32} (hok : kM_isGood x0) (hF : fM_isGood x0 = F) : Met l y_M_isGood (Cond.code y_M_isGood b_M_isGood 1 (some .boolean) :: gw) ({ frames := 1, cells := 0, slots := 0, locals := 22 } : Room) (va_Pc [.int x0] (fun _ => True)) (qP (.int F)) 0 0 (fun _ => False) := by
  refine en_P (by decide) (Nat.le_of_ble_eq_true rfl) ?_
  intro p e s m below meth c ls hx hb hml hown hts hr hlocks hl
  have hl : lv_has ls 1 [(0, .int x0)] := hl
  unfold kM_isGood at hok
  unfold fM_isGood at hF
  refine lv_iload_n hx hb d_M_isGood_0 rfl (lv_at hl 0 rfl) ?_
  refine lv_iconst (v := 0) hx hb d_M_isGood_1 (by decide) ?_
  refine lv_iconst (v := 5) hx hb d_M_isGood_2 (by decide) ?_
  obtain ⟨hi_1, hok⟩ := hok
  refine cs_p (n := 3) (As := [.int x0, .int 0, .int 5]) (rest := []) hx hb hml hown hts (cM_in l x0 0 5 hi_1 rfl) (gd_S wd_707 wd_708 wd_3 wd_709) (by decide +kernel) ⟨rfl, rfl, Nat.le_of_ble_eq_true rfl, Nat.le_of_ble_eq_true rfl, Nat.le_of_ble_eq_true rfl, Nat.le_of_ble_eq_true rfl⟩ rfl hl.1 rfl (Nat.le_of_ble_eq_true rfl) d_M_isGood_3 ?_
  exact rt_p hx hb hr hlocks hok (by rw [hF]) d_M_isGood_6 (Nat.le_refl 0) (Nat.le_refl 0)
set_option maxHeartbeats 4000000 in
set_option maxRecDepth 100000 in
theorem cM_isPerson (l : Launch) (x0 : Int32) {F : Int32} (hok : kM_isPerson x0) (hF : fM_isPerson x0 = F) : Met l y_M_isPerson (Cond.code y_M_isPerson b_M_isPerson 1 (some .boolean) :: gw) ({ frames := 1, cells := 0, slots := 0, locals := 22 } : Room) (va_Pc [.int x0] (fun _ => True)) (qP (.int F)) 0 0 (fun _ => False) := by
  refine en_P (by decide) (Nat.le_of_ble_eq_true rfl) ?_
  intro p e s m below meth c ls hx hb hml hown hts hr hlocks hl
  have hl : lv_has ls 1 [(0, .int x0)] := hl
  unfold kM_isPerson at hok
  unfold fM_isPerson at hF
  refine lv_iload_n hx hb d_M_isPerson_0 rfl (lv_at hl 0 rfl) ?_
  refine lv_iconst (v := 0) hx hb d_M_isPerson_1 (by decide) ?_
  refine lv_iconst (v := 5) hx hb d_M_isPerson_2 (by decide) ?_
  obtain ⟨hi_1, hok⟩ := hok
  refine cs_p (n := 3) (As := [.int x0, .int 0, .int 5]) (rest := []) hx hb hml hown hts (cM_in l x0 0 5 hi_1 rfl) (gd_S wd_707 wd_708 wd_3 wd_709) (by decide +kernel) ⟨rfl, rfl, Nat.le_of_ble_eq_true rfl, Nat.le_of_ble_eq_true rfl, Nat.le_of_ble_eq_true rfl, Nat.le_of_ble_eq_true rfl⟩ rfl hl.1 rfl (Nat.le_of_ble_eq_true rfl) d_M_isPerson_3 ?_
  exact rt_p hx hb hr hlocks hok (by rw [hF]) d_M_isPerson_6 (Nat.le_refl 0) (Nat.le_refl 0)
set_option maxHeartbeats 4000000 in
set_option maxRecDepth 100000 in
theorem cM_far (l : Launch) (x0 : Int32) (x1 : Int32) {F : Int32} (hok : kM_far x0 x1) (hF : fM_far x0 x1 = F) : Met l y_M_far (Cond.code y_M_far b_M_far 2 (some .int) :: gw) ({ frames := 0, cells := 0, slots := 0, locals := 0 } : Room) (va_Pc [.int x0, .int x1] (fun _ => True)) (qP (.int F)) 0 0 (fun _ => False) := by
  refine en_P (by decide) (Nat.le_of_ble_eq_true rfl) ?_
  intro p e s m below meth c ls hx hb hml hown hts hr hlocks hl
  have hl : lv_has ls 2 [(0, .int x0), (1, .int x1)] := hl
  unfold kM_far at hok
  unfold fM_far at hF
  refine lv_iload_n hx hb d_M_far_0 rfl (lv_at hl 0 rfl) ?_
  refine lv_iload_n hx hb d_M_far_1 rfl (lv_at hl 1 rfl) ?_
  refine lv_icmp_le (tgt := 11) hx hb d_M_far_2 (by decide) (fun c_1 => ?_) (fun c_1 => ?_)
  · have hok := hok.1 c_1
    have hF := (if_pos c_1).symm.trans hF
    refine lv_iload_n hx hb d_M_far_11 rfl (lv_at hl 1 rfl) ?_
    refine lv_iload_n hx hb d_M_far_12 rfl (lv_at hl 0 rfl) ?_
    refine lv_isub hx hb d_M_far_13 ?_
    exact rt_p hx hb hr hlocks rfl (by rw [hF]) d_M_far_14 (Nat.le_refl 0) (Nat.le_refl 0)
  · have hok := hok.2 c_1
    have hF := (if_neg c_1).symm.trans hF
    refine lv_iload_n hx hb d_M_far_5 rfl (lv_at hl 0 rfl) ?_
    refine lv_iload_n hx hb d_M_far_6 rfl (lv_at hl 1 rfl) ?_
    refine lv_isub hx hb d_M_far_7 ?_
    refine lv_goto (tgt := 14) hx hb d_M_far_8 (by decide) ?_
    exact rt_p hx hb hr hlocks rfl (by rw [hF]) d_M_far_14 (Nat.le_refl 0) (Nat.le_refl 0)
set_option maxHeartbeats 4000000 in
set_option maxRecDepth 100000 in
theorem cM_isPlace (l : Launch) (D : va_G) (tc : Nat → ClassId) (a : Nat → Nat) (Y : va_W) (sz : Nat) (x1 : Int32) (μ : Nat → Nat → Int32) {F : Int32} (hok : kM_isPlace x1 μ) (hF : fM_isPlace x1 μ = F) : Met l y_M_isPlace (Cond.code y_M_isPlace b_M_isPlace 2 (some .boolean) :: gw) ({ frames := 1, cells := 0, slots := 0, locals := 22 } : Room) (va_Pc [.ref (a 0), .int x1] (pW D tc (mo tc a μ ++ Y) sz)) (qP (.int F)) 0 0 (fun _ => False) := by
  refine en_W (by decide) (Nat.le_of_ble_eq_true rfl) ?_
  intro p e s m below meth c ls h0 hr hlocks hin hsz hw hl
  obtain ⟨hx, hb, hml, hown, hts, hK⟩ := id h0
  have hl : lv_has ls 2 [(0, .ref (a 0)), (1, .int x1)] := hl
  unfold kM_isPlace at hok
  unfold fM_isPlace at hF
  refine lv_iload_n hx hb d_M_isPlace_0 rfl (lv_at hl 1 rfl) ?_
  refine lv_iconst (v := 0) hx hb d_M_isPlace_1 (by decide) ?_
  refine lv_aload_n hx hb d_M_isPlace_2 rfl (lv_at hl 0 rfl) ?_
  refine mg_3 h0 hw d_M_isPlace_3 ?_
  refine lv_iconst (v := 1) hx hb d_M_isPlace_6 (by decide) ?_
  refine lv_isub hx hb d_M_isPlace_7 ?_
  obtain ⟨hi_1, hok⟩ := hok
  refine cs_p (n := 3) (As := [.int x1, .int 0, .int ((μ 3 0) - 1)]) (rest := []) hx hb hml hown hts (cM_in l x1 0 ((μ 3 0) - 1) hi_1 rfl) (gd_S wd_707 wd_708 wd_3 wd_709) (by decide +kernel) ⟨rfl, rfl, Nat.le_of_ble_eq_true rfl, Nat.le_of_ble_eq_true rfl, Nat.le_of_ble_eq_true rfl, Nat.le_of_ble_eq_true rfl⟩ rfl hl.1 rfl (Nat.le_of_ble_eq_true rfl) d_M_isPlace_8 ?_
  exact rt_p hx hb hr hlocks hok (by rw [hF]) d_M_isPlace_11 (Nat.le_refl 0) (Nat.le_refl 0)
set_option maxHeartbeats 4000000 in
set_option maxRecDepth 100000 in
theorem cM_place (l : Launch) (D : va_G) (tc : Nat → ClassId) (a : Nat → Nat) (Y : va_W) (sz : Nat) (x1 : Int32) (μ : Nat → Nat → Int32) {F : Int32 × (Nat → Nat → Int32)} (hok : kM_place x1 μ) (hF : fM_place x1 μ = F) : Met l y_M_place (Cond.code y_M_place b_M_place 2 (some .int) :: gw) ({ frames := 1, cells := 0, slots := 0, locals := 22 } : Room) (va_Pc [.ref (a 0), .int x1] (pW D tc (mo tc a μ ++ Y) sz)) (va_Qi (fun r u => (r, u) = F) (fun u t => qW D tc (va_A (mo tc a μ ++ Y) sz) (mo tc a u ++ Y) t) (va_A (mo tc a μ ++ Y) sz)) 0 0 (va_A (mo tc a μ ++ Y) sz) := by
  refine en_W (by decide) (Nat.le_of_ble_eq_true rfl) ?_
  intro p e s m below meth c ls h0 hr hlocks hin hsz hw hl
  obtain ⟨hx, hb, hml, hown, hts, hK⟩ := id h0
  have hA : ∀ q : Nat, s.heap.size ≤ q → (va_A (mo tc a μ ++ Y) sz) q := fun q h => Or.inr (by rw [← hsz]; exact h)
  generalize va_A (mo tc a μ ++ Y) sz = A at hw hA ⊢
  obtain ⟨H, eH⟩ : ∃ z, z = s.heap := ⟨_, rfl⟩
  obtain ⟨locs, eL⟩ : ∃ z : List Loc, z = [] := ⟨_, rfl⟩
  have hw : wH D A s.heap (mo tc a μ ++ Y) H locs := by rw [eH, eL]; exact hw
  show W p l e _ s m _ below meth c s.heap [] 0 0 _ _
  have gl : W p l e ({ frames := 1, cells := 0, slots := 0, locals := 22 } : Room) s m [.ref (a 0), .int x1].toArray below meth c H locs 0 0 (MQ below (va_Qi (fun r u => (r, u) = F) (fun u t => qW D tc A (mo tc a u ++ Y) t) A) [.ref (a 0), .int x1].toArray s 0 0 A) (F0 m 0 ls []) := ?_
  · rw [eH, eL] at gl; exact gl
  have hl : lv_has ls 2 [(0, .ref (a 0)), (1, .int x1)] := hl
  unfold kM_place at hok
  unfold fM_place at hF
  refine lv_aload_n hx hb d_M_place_0 rfl (lv_at hl 0 rfl) ?_
  refine lv_iload_n hx hb d_M_place_1 rfl (lv_at hl 1 rfl) ?_
  refine lv_iconst (v := 0) hx hb d_M_place_2 (by decide) ?_
  refine lv_iconst (v := 2) hx hb d_M_place_3 (by decide) ?_
  obtain ⟨hi_1, hok⟩ := hok
  refine cs_p (n := 3) (As := [.int x1, .int 0, .int 2]) (rest := [.ref (a 0)]) hx hb hml hown hts (cM_in l x1 0 2 hi_1 rfl) (gd_S wd_707 wd_708 wd_3 wd_709) (by decide +kernel) ⟨rfl, rfl, Nat.le_of_ble_eq_true rfl, Nat.le_of_ble_eq_true rfl, Nat.le_of_ble_eq_true rfl, Nat.le_of_ble_eq_true rfl⟩ rfl hl.1 rfl (Nat.le_of_ble_eq_true rfl) d_M_place_4 ?_
  refine lv_if_ne (tgt := 14) hx hb d_M_place_7 (by decide) (fun c_2 => ?_) (fun c_2 => ?_)
  · have hok := hok.2 c_2
    have hF := (if_neg c_2).symm.trans hF
    refine lv_aload_n hx hb d_M_place_14 rfl (lv_at hl 0 rfl) ?_
    refine mg_3 h0 hw d_M_place_15 ?_
    refine lv_bipush (v := 20) hx hb d_M_place_18 (by decide) ?_
    refine lv_icmp_ne (tgt := 27) hx hb d_M_place_20 (by decide) (fun c_3 => ?_) (fun c_3 => ?_)
    · have hok := hok.2 c_3
      have hF := (if_neg c_3).symm.trans hF
      refine lv_iconst (v := 0) hx hb d_M_place_27 (by decide) ?_
      refine mp_0 h0 hw d_M_place_28 (fun H locs hw => ?_)
      refine lv_aload_n hx hb d_M_place_31 rfl (lv_at hl 0 rfl) ?_
      refine mg_0 h0 hw d_M_place_32 ?_
      refine W.eq (g2 := F0 m 35 ls [.int 0]) rfl ?_
      refine lv_if_le (tgt := 40) hx hb d_M_place_35 (by decide) (fun _ => ?_) (fun c_0 => absurd c_0 (by decide))
      refine lv_aload_n hx hb d_M_place_40 rfl (lv_at hl 0 rfl) ?_
      refine mg_4 h0 hw d_M_place_41 ?_
      refine lv_aload_n hx hb d_M_place_44 rfl (lv_at hl 0 rfl) ?_
      refine mg_3 h0 hw d_M_place_45 ?_
      refine W.eq (g2 := F0 m 48 ls [.int (μ 3 0), .ref (a 4)]) rfl ?_
      refine lv_iload_n hx hb d_M_place_48 rfl (lv_at hl 1 rfl) ?_
      obtain ⟨hi_4, hok⟩ := hok
      refine ms_4 h0 hw hi_4 d_M_place_49 (fun H locs hw => ?_)
      refine lv_aload_n hx hb d_M_place_50 rfl (lv_at hl 0 rfl) ?_
      refine mg_5 h0 hw d_M_place_51 ?_
      refine lv_aload_n hx hb d_M_place_54 rfl (lv_at hl 0 rfl) ?_
      refine mg_3 h0 hw d_M_place_55 ?_
      refine W.eq (g2 := F0 m 58 ls [.int (μ 3 0), .ref (a 5)]) rfl ?_
      refine lv_iconst (v := (-1)) hx hb d_M_place_58 (by decide) ?_
      obtain ⟨hi_5, hok⟩ := hok
      refine ms_5 h0 hw hi_5 d_M_place_59 (fun H locs hw => ?_)
      refine lv_aload_n hx hb d_M_place_60 rfl (lv_at hl 0 rfl) ?_
      refine lv_dup hx hb d_M_place_61 rfl ?_
      refine mg_3 h0 hw d_M_place_62 ?_
      refine W.eq (g2 := F0 m 65 ls [.int (μ 3 0), .ref (a 0)]) rfl ?_
      refine lv_iconst (v := 1) hx hb d_M_place_65 (by decide) ?_
      refine lv_iadd hx hb d_M_place_66 ?_
      refine mp_3 h0 hw d_M_place_67 (fun H locs hw => ?_)
      refine lv_aload_n hx hb d_M_place_70 rfl (lv_at hl 0 rfl) ?_
      refine mg_3 h0 hw d_M_place_71 ?_
      refine W.eq (g2 := F0 m 74 ls [.int ((μ 3 0) + 1)]) rfl ?_
      refine lv_iconst (v := 1) hx hb d_M_place_74 (by decide) ?_
      refine lv_isub hx hb d_M_place_75 ?_
      exact rt_i h0 hw hr hlocks rfl (u2 (u2 (u2 (u2 μ 0 0 0) 4 (μ 3 0).toNatClampNeg x1) 5 (μ 3 0).toNatClampNeg (-1)) 3 0 ((μ 3 0) + 1)) hF rfl d_M_place_76 (Nat.le_refl 0) (Nat.le_refl 0)
    · have hok := hok.1 c_3
      have hF := (if_pos c_3).symm.trans hF
      refine lv_iconst (v := 2) hx hb d_M_place_23 (by decide) ?_
      refine lv_goto (tgt := 28) hx hb d_M_place_24 (by decide) ?_
      refine mp_0 h0 hw d_M_place_28 (fun H locs hw => ?_)
      refine lv_aload_n hx hb d_M_place_31 rfl (lv_at hl 0 rfl) ?_
      refine mg_0 h0 hw d_M_place_32 ?_
      refine W.eq (g2 := F0 m 35 ls [.int 2]) rfl ?_
      refine lv_if_le (tgt := 40) hx hb d_M_place_35 (by decide) (fun c_0 => absurd c_0 (by decide)) (fun _ => ?_)
      refine lv_iconst (v := 0) hx hb d_M_place_38 (by decide) ?_
      exact rt_i h0 hw hr hlocks rfl (u2 μ 0 0 2) hF rfl d_M_place_39 (Nat.le_refl 0) (Nat.le_refl 0)
  · have hok := hok.1 c_2
    have hF := (if_pos c_2).symm.trans hF
    refine lv_iconst (v := 1) hx hb d_M_place_10 (by decide) ?_
    refine lv_goto (tgt := 28) hx hb d_M_place_11 (by decide) ?_
    refine mp_0 h0 hw d_M_place_28 (fun H locs hw => ?_)
    refine lv_aload_n hx hb d_M_place_31 rfl (lv_at hl 0 rfl) ?_
    refine mg_0 h0 hw d_M_place_32 ?_
    refine W.eq (g2 := F0 m 35 ls [.int 1]) rfl ?_
    refine lv_if_le (tgt := 40) hx hb d_M_place_35 (by decide) (fun c_0 => absurd c_0 (by decide)) (fun _ => ?_)
    refine lv_iconst (v := 0) hx hb d_M_place_38 (by decide) ?_
    exact rt_i h0 hw hr hlocks rfl (u2 μ 0 0 1) hF rfl d_M_place_39 (Nat.le_refl 0) (Nat.le_refl 0)
set_option maxHeartbeats 4000000 in
set_option maxRecDepth 100000 in
theorem cM_stock (l : Launch) (D : va_G) (tc : Nat → ClassId) (a : Nat → Nat) (Y : va_W) (sz : Nat) (x1 : Int32) (x2 : Int32) (x3 : Int32) (μ : Nat → Nat → Int32) {F : Nat → Nat → Int32} (hok : kM_stock x1 x2 x3 μ) (hF : fM_stock x1 x2 x3 μ = F) : Met l y_M_stock (Cond.code y_M_stock b_M_stock 4 none :: gw) ({ frames := 2, cells := 0, slots := 0, locals := 43 } : Room) (va_Pc [.ref (a 0), .int x1, .int x2, .int x3] (pW D tc (mo tc a μ ++ Y) sz)) (va_Qv (fun u => u = F) (fun u t => qW D tc (va_A (mo tc a μ ++ Y) sz) (mo tc a u ++ Y) t) (va_A (mo tc a μ ++ Y) sz)) 0 0 (va_A (mo tc a μ ++ Y) sz) := by
  refine en_W (by decide) (Nat.le_of_ble_eq_true rfl) ?_
  intro p e s m below meth c ls h0 hr hlocks hin hsz hw hl
  obtain ⟨hx, hb, hml, hown, hts, hK⟩ := id h0
  have hA : ∀ q : Nat, s.heap.size ≤ q → (va_A (mo tc a μ ++ Y) sz) q := fun q h => Or.inr (by rw [← hsz]; exact h)
  generalize va_A (mo tc a μ ++ Y) sz = A at hw hA ⊢
  obtain ⟨H, eH⟩ : ∃ z, z = s.heap := ⟨_, rfl⟩
  obtain ⟨locs, eL⟩ : ∃ z : List Loc, z = [] := ⟨_, rfl⟩
  have hw : wH D A s.heap (mo tc a μ ++ Y) H locs := by rw [eH, eL]; exact hw
  show W p l e _ s m _ below meth c s.heap [] 0 0 _ _
  have gl : W p l e ({ frames := 2, cells := 0, slots := 0, locals := 43 } : Room) s m [.ref (a 0), .int x1, .int x2, .int x3].toArray below meth c H locs 0 0 (MQ below (va_Qv (fun u => u = F) (fun u t => qW D tc A (mo tc a u ++ Y) t) A) [.ref (a 0), .int x1, .int x2, .int x3].toArray s 0 0 A) (F0 m 0 ls []) := ?_
  · rw [eH, eL] at gl; exact gl
  have hl : lv_has ls 4 [(0, .ref (a 0)), (1, .int x1), (2, .int x2), (3, .int x3)] := hl
  unfold kM_stock at hok
  unfold fM_stock at hF
  refine lv_aload_n hx hb d_M_stock_0 rfl (lv_at hl 0 rfl) ?_
  refine lv_aload_n hx hb d_M_stock_1 rfl (lv_at hl 0 rfl) ?_
  refine lv_iload_n hx hb d_M_stock_2 rfl (lv_at hl 1 rfl) ?_
  obtain ⟨hi_1, hok⟩ := hok
  refine cv_p (n := 1) (C := "CountRoundsModel") (b := a 0) (q0 := 0) (ci := 4) (As := [.int x1]) (rest := [.ref (a 0)]) h0 hw (cM_isPlace l D tc a Y H.size x1 μ hi_1 rfl) (gd_V wd_714 wd_716 (gw_s 22 rfl rfl) wd_3 wd_717) (by decide +kernel) ⟨rfl, rfl, Nat.le_of_ble_eq_true rfl, Nat.le_of_ble_eq_true rfl, Nat.le_of_ble_eq_true rfl, Nat.le_of_ble_eq_true rfl⟩ rfl rfl rfl hl.1 rfl (Nat.le_of_ble_eq_true rfl) d_M_stock_3 ?_
  refine lv_if_ne (tgt := 13) hx hb d_M_stock_6 (by decide) (fun c_2 => ?_) (fun c_2 => ?_)
  · have hok := hok.2 c_2
    have hF := (if_neg c_2).symm.trans hF
    refine lv_iload_n hx hb d_M_stock_13 rfl (lv_at hl 2 rfl) ?_
    obtain ⟨hi_3, hok⟩ := hok
    refine cs_p (n := 1) (As := [.int x2]) (rest := [.ref (a 0)]) hx hb hml hown hts (cM_isGood l x2 hi_3 rfl) (gd_S wd_718 wd_719 wd_3 wd_720) (by decide +kernel) ⟨rfl, rfl, Nat.le_of_ble_eq_true rfl, Nat.le_of_ble_eq_true rfl, Nat.le_of_ble_eq_true rfl, Nat.le_of_ble_eq_true rfl⟩ rfl hl.1 rfl (Nat.le_of_ble_eq_true rfl) d_M_stock_14 ?_
    refine lv_if_eq (tgt := 30) hx hb d_M_stock_17 (by decide) (fun c_4 => ?_) (fun c_4 => ?_)
    · have hok := hok.1 c_4
      have hF := (if_pos c_4).symm.trans hF
      refine lv_iconst (v := 2) hx hb d_M_stock_30 (by decide) ?_
      refine lv_goto (tgt := 35) hx hb d_M_stock_31 (by decide) ?_
      refine mp_0 h0 hw d_M_stock_35 (fun H locs hw => ?_)
      refine lv_aload_n hx hb d_M_stock_38 rfl (lv_at hl 0 rfl) ?_
      refine mg_0 h0 hw d_M_stock_39 ?_
      refine W.eq (g2 := F0 m 42 ls [.int 2]) rfl ?_
      refine lv_if_ne (tgt := 57) hx hb d_M_stock_42 (by decide) (fun _ => ?_) (fun c_0 => absurd c_0 (by decide))
      exact rt_v h0 hw hr hlocks (u2 μ 0 0 2) hF rfl d_M_stock_57 (Nat.le_refl 0) (Nat.le_refl 0)
    · have hok := hok.2 c_4
      have hF := (if_neg c_4).symm.trans hF
      refine lv_iload_n hx hb d_M_stock_20 rfl (lv_at hl 3 rfl) ?_
      refine lv_iconst (v := 0) hx hb d_M_stock_21 (by decide) ?_
      refine lv_ldc hx hb hown (hts _ wd_721) d_M_stock_22 ?_
      obtain ⟨hi_5, hok⟩ := hok
      refine cs_p (n := 3) (As := [.int x3, .int 0, .int 1000000]) (rest := [.ref (a 0)]) hx hb hml hown hts (cM_in l x3 0 1000000 hi_5 rfl) (gd_S wd_707 wd_708 wd_3 wd_709) (by decide +kernel) ⟨rfl, rfl, Nat.le_of_ble_eq_true rfl, Nat.le_of_ble_eq_true rfl, Nat.le_of_ble_eq_true rfl, Nat.le_of_ble_eq_true rfl⟩ rfl hl.1 rfl (Nat.le_of_ble_eq_true rfl) d_M_stock_24 ?_
      refine lv_if_ne (tgt := 34) hx hb d_M_stock_27 (by decide) (fun c_6 => ?_) (fun c_6 => ?_)
      · have hok := hok.2 c_6
        have hF := (if_neg c_6).symm.trans hF
        refine lv_iconst (v := 0) hx hb d_M_stock_34 (by decide) ?_
        refine mp_0 h0 hw d_M_stock_35 (fun H locs hw => ?_)
        refine lv_aload_n hx hb d_M_stock_38 rfl (lv_at hl 0 rfl) ?_
        refine mg_0 h0 hw d_M_stock_39 ?_
        refine W.eq (g2 := F0 m 42 ls [.int 0]) rfl ?_
        refine lv_if_ne (tgt := 57) hx hb d_M_stock_42 (by decide) (fun c_0 => absurd c_0 (by decide)) (fun _ => ?_)
        refine lv_aload_n hx hb d_M_stock_45 rfl (lv_at hl 0 rfl) ?_
        refine mg_6 h0 hw d_M_stock_46 ?_
        refine lv_bipush (v := 6) hx hb d_M_stock_49 (by decide) ?_
        refine lv_iload_n hx hb d_M_stock_51 rfl (lv_at hl 1 rfl) ?_
        refine lv_imul hx hb d_M_stock_52 ?_
        refine lv_iload_n hx hb d_M_stock_53 rfl (lv_at hl 2 rfl) ?_
        refine lv_iadd hx hb d_M_stock_54 ?_
        refine lv_iload_n hx hb d_M_stock_55 rfl (lv_at hl 3 rfl) ?_
        obtain ⟨hi_7, hok⟩ := hok
        refine ms_6 h0 hw hi_7 d_M_stock_56 (fun H locs hw => ?_)
        exact rt_v h0 hw hr hlocks (u2 (u2 μ 0 0 0) 6 ((6 * x1) + x2).toNatClampNeg x3) hF rfl d_M_stock_57 (Nat.le_refl 0) (Nat.le_refl 0)
      · have hok := hok.1 c_6
        have hF := (if_pos c_6).symm.trans hF
        refine lv_iconst (v := 2) hx hb d_M_stock_30 (by decide) ?_
        refine lv_goto (tgt := 35) hx hb d_M_stock_31 (by decide) ?_
        refine mp_0 h0 hw d_M_stock_35 (fun H locs hw => ?_)
        refine lv_aload_n hx hb d_M_stock_38 rfl (lv_at hl 0 rfl) ?_
        refine mg_0 h0 hw d_M_stock_39 ?_
        refine W.eq (g2 := F0 m 42 ls [.int 2]) rfl ?_
        refine lv_if_ne (tgt := 57) hx hb d_M_stock_42 (by decide) (fun _ => ?_) (fun c_0 => absurd c_0 (by decide))
        exact rt_v h0 hw hr hlocks (u2 μ 0 0 2) hF rfl d_M_stock_57 (Nat.le_refl 0) (Nat.le_refl 0)
  · have hok := hok.1 c_2
    have hF := (if_pos c_2).symm.trans hF
    refine lv_iconst (v := 1) hx hb d_M_stock_9 (by decide) ?_
    refine lv_goto (tgt := 35) hx hb d_M_stock_10 (by decide) ?_
    refine mp_0 h0 hw d_M_stock_35 (fun H locs hw => ?_)
    refine lv_aload_n hx hb d_M_stock_38 rfl (lv_at hl 0 rfl) ?_
    refine mg_0 h0 hw d_M_stock_39 ?_
    refine W.eq (g2 := F0 m 42 ls [.int 1]) rfl ?_
    refine lv_if_ne (tgt := 57) hx hb d_M_stock_42 (by decide) (fun _ => ?_) (fun c_0 => absurd c_0 (by decide))
    exact rt_v h0 hw hr hlocks (u2 μ 0 0 1) hF rfl d_M_stock_57 (Nat.le_refl 0) (Nat.le_refl 0)
