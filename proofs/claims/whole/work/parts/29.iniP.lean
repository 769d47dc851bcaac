set_option maxHeartbeats 4000000 in
set_option maxRecDepth 100000 in
theorem cP_init (l : Launch) (D : va_G) (tc : Nat → ClassId) (Z : va_W) (sz : Nat) (q0 : Nat) (x1 : Int32) : Met l y_P_init (Cond.code y_P_init b_P_init 2 none :: gw) ({ frames := 1, cells := 1, slots := 6, locals := 12 } : Room) (va_Pc [.ref q0, .int x1] (pW D tc ([(q0, .inr (0, [.int 0, .null, .int 0, .int 0]))] ++ Z) sz)) (va_Qv (fun _ : Nat => True) (fun u t => qW D tc (va_A ([(q0, .inr (0, [.int 0, .null, .int 0, .int 0]))] ++ Z) sz) ([(q0, .inr (0, [.int x1, .ref u, .int (-1), .int 0])), (u, .inl (tc 0, 6, .inl (fun _ => 0)))] ++ Z) t) (va_A ([(q0, .inr (0, [.int 0, .null, .int 0, .int 0]))] ++ Z) sz)) 1 6 (va_A ([(q0, .inr (0, [.int 0, .null, .int 0, .int 0]))] ++ Z) sz) := by
  refine en_W (by decide) (Nat.le_of_ble_eq_true rfl) ?_
  intro p e s m args below meth c ls h0 hr hlocks hin hsz hw hl
  obtain ⟨hx, hb, hml, hown, hts, hK⟩ := id h0
  have hA : ∀ q : Nat, s.heap.size ≤ q → (va_A ([(q0, .inr (0, [.int 0, .null, .int 0, .int 0]))] ++ Z) sz) q := fun q h => Or.inr (by rw [← hsz]; exact h)
  generalize (va_A ([(q0, .inr (0, [.int 0, .null, .int 0, .int 0]))] ++ Z) sz) = A at hw hA ⊢
  have hl : lv_has ls 2 [(0, .ref q0), (1, .int x1)] := hl
  refine lv_aload_n hx hb d_P_init_0 rfl (lv_at hl 0 rfl) ?_
  refine W.objInit hx hb hown (hts _ wd_211) (hts _ wd_23) (hts _ wd_24) rfl (by rw [hml]; exact hl.1) rfl d_P_init_1 (Nat.le_of_ble_eq_true rfl) (Nat.le_of_ble_eq_true rfl) ?_
  refine W.eq (g2 := F0 m 4 ls []) rfl ?_
  refine lv_aload_n hx hb d_P_init_4 rfl (lv_at hl 0 rfl) ?_
  refine lv_bipush (v := 6) hx hb d_P_init_5 (by decide) ?_
  refine nwI (K := 6) h0 hw hA wd_77 (by decide) (by decide) (by decide) (Nat.le_of_ble_eq_true rfl) (Nat.le_of_ble_eq_true rfl) d_P_init_7 (fun q1 H hw => ?_)
  have hw : wH D A s.heap ([(q0, .inr (0, [.int 0, .null, .int 0, .int 0])), (q1, .inl (tc 0, 6, .inl (fun _ => 0)))] ++ Z) H _ := hw
  refine va_putF (D := D) (ci := 0) (v := .ref q1) (ty := .array .int) (C := R_P) (T := F_P) (N := 4) hx hb hts i_P ty_P ty_P_ok n_P hown hK hw.1 hw.2.1 hw.2.2 0 rfl rfl 1 (by decide) (hts _ wd_214) (fun _ h9 => h9) rfl hin rfl (by decide +kernel) rfl rfl (Nat.le_of_ble_eq_true rfl) d_P_init_9 (fun H locs hP hD hS => ?_)
  have hw : wH D A s.heap ([(q0, .inr (0, [.int 0, .ref q1, .int 0, .int 0])), (q1, .inl (tc 0, 6, .inl (fun _ => 0)))] ++ Z) H _ := ⟨hP, hD, hS⟩
  refine lv_aload_n hx hb d_P_init_12 rfl (lv_at hl 0 rfl) ?_
  refine lv_iconst (v := (-1)) hx hb d_P_init_13 (by decide) ?_
  refine va_put (D := D) (ci := 0) (v := .int (-1)) (ty := .int) (C := R_P) (T := F_P) (N := 4) hx hb hts i_P ty_P ty_P_ok n_P hown hK hw.1 hw.2.1 hw.2.2 0 rfl rfl 2 (by decide) (hts _ wd_216) (fun _ h9 => h9) rfl (by decide +kernel) rfl rfl (Nat.le_of_ble_eq_true rfl) d_P_init_14 (fun H locs hP hD hS => ?_)
  have hw : wH D A s.heap ([(q0, .inr (0, [.int 0, .ref q1, .int (-1), .int 0])), (q1, .inl (tc 0, 6, .inl (fun _ => 0)))] ++ Z) H _ := ⟨hP, hD, hS⟩
  refine lv_aload_n hx hb d_P_init_17 rfl (lv_at hl 0 rfl) ?_
  refine lv_iload_n hx hb d_P_init_18 rfl (lv_at hl 1 rfl) ?_
  refine va_putF (D := D) (ci := 0) (v := .int x1) (ty := .int) (C := R_P) (T := F_P) (N := 4) hx hb hts i_P ty_P ty_P_ok n_P hown hK hw.1 hw.2.1 hw.2.2 0 rfl rfl 0 (by decide) (hts _ wd_212) (fun _ h9 => h9) rfl hin rfl (by decide +kernel) rfl rfl (Nat.le_of_ble_eq_true rfl) d_P_init_19 (fun H locs hP hD hS => ?_)
  have hw : wH D A s.heap ([(q0, .inr (0, [.int x1, .ref q1, .int (-1), .int 0])), (q1, .inl (tc 0, 6, .inl (fun _ => 0)))] ++ Z) H _ := ⟨hP, hD, hS⟩
  exact rt_v h0 hw hr hlocks q1 trivial rfl d_P_init_22 (Nat.le_refl _) (Nat.le_refl _)
set_option maxHeartbeats 4000000 in
set_option maxRecDepth 100000 in
theorem cT_init (l : Launch) (D : va_G) (tc : Nat → ClassId) (Z : va_W) (sz : Nat) (q0 : Nat) (x1 : Int32) (x2 : Int32) (x3 : Int32) (x4 : Int32) : Met l y_T_init (Cond.code y_T_init b_T_init 5 none :: gw) ({ frames := 1, cells := 0, slots := 0, locals := 12 } : Room) (va_Pc [.ref q0, .int x1, .int x2, .int x3, .int x4] (pW D tc ([(q0, .inr (2, [.int 0, .int 0, .int 0, .int 0, .int 0]))] ++ Z) sz)) (va_Qv (fun _ : Unit => True) (fun u t => qW D tc (va_A ([(q0, .inr (2, [.int 0, .int 0, .int 0, .int 0, .int 0]))] ++ Z) sz) ([(q0, .inr (2, [.int x1, .int x2, .int x3, .int x4, .int 1]))] ++ Z) t) (va_A ([(q0, .inr (2, [.int 0, .int 0, .int 0, .int 0, .int 0]))] ++ Z) sz)) 0 0 (va_A ([(q0, .inr (2, [.int 0, .int 0, .int 0, .int 0, .int 0]))] ++ Z) sz) := by
  refine en_W (by decide) (Nat.le_of_ble_eq_true rfl) ?_
  intro p e s m args below meth c ls h0 hr hlocks hin hsz hw hl
  obtain ⟨hx, hb, hml, hown, hts, hK⟩ := id h0
  have hA : ∀ q : Nat, s.heap.size ≤ q → (va_A ([(q0, .inr (2, [.int 0, .int 0, .int 0, .int 0, .int 0]))] ++ Z) sz) q := fun q h => Or.inr (by rw [← hsz]; exact h)
  generalize (va_A ([(q0, .inr (2, [.int 0, .int 0, .int 0, .int 0, .int 0]))] ++ Z) sz) = A at hw hA ⊢
  have hl : lv_has ls 5 [(0, .ref q0), (1, .int x1), (2, .int x2), (3, .int x3), (4, .int x4)] := hl
  refine lv_aload_n hx hb d_T_init_0 rfl (lv_at hl 0 rfl) ?_
  refine W.objInit hx hb hown (hts _ wd_318) (hts _ wd_23) (hts _ wd_24) rfl (by rw [hml]; exact hl.1) rfl d_T_init_1 (Nat.le_of_ble_eq_true rfl) (Nat.le_of_ble_eq_true rfl) ?_
  refine W.eq (g2 := F0 m 4 ls []) rfl ?_
  refine lv_aload_n hx hb d_T_init_4 rfl (lv_at hl 0 rfl) ?_
  refine lv_iconst (v := 1) hx hb d_T_init_5 (by decide) ?_
  refine va_put (D := D) (ci := 2) (v := .int 1) (ty := .boolean) (C := R_T) (T := F_T) (N := 5) hx hb hts i_T ty_T ty_T_ok n_T hown hK hw.1 hw.2.1 hw.2.2 0 rfl rfl 4 (by decide) (hts _ wd_327) (fun _ h9 => h9) rfl (by decide +kernel) rfl rfl (Nat.le_of_ble_eq_true rfl) d_T_init_6 (fun H locs hP hD hS => ?_)
  have hw : wH D A s.heap ([(q0, .inr (2, [.int 0, .int 0, .int 0, .int 0, .int 1]))] ++ Z) H _ := ⟨hP, hD, hS⟩
  refine lv_aload_n hx hb d_T_init_9 rfl (lv_at hl 0 rfl) ?_
  refine lv_iload_n hx hb d_T_init_10 rfl (lv_at hl 1 rfl) ?_
  refine va_putF (D := D) (ci := 2) (v := .int x1) (ty := .int) (C := R_T) (T := F_T) (N := 5) hx hb hts i_T ty_T ty_T_ok n_T hown hK hw.1 hw.2.1 hw.2.2 0 rfl rfl 0 (by decide) (hts _ wd_319) (fun _ h9 => h9) rfl hin rfl (by decide +kernel) rfl rfl (Nat.le_of_ble_eq_true rfl) d_T_init_11 (fun H locs hP hD hS => ?_)
  have hw : wH D A s.heap ([(q0, .inr (2, [.int x1, .int 0, .int 0, .int 0, .int 1]))] ++ Z) H _ := ⟨hP, hD, hS⟩
  refine lv_aload_n hx hb d_T_init_14 rfl (lv_at hl 0 rfl) ?_
  refine lv_iload_n hx hb d_T_init_15 rfl (lv_at hl 2 rfl) ?_
  refine va_putF (D := D) (ci := 2) (v := .int x2) (ty := .int) (C := R_T) (T := F_T) (N := 5) hx hb hts i_T ty_T ty_T_ok n_T hown hK hw.1 hw.2.1 hw.2.2 0 rfl rfl 1 (by decide) (hts _ wd_321) (fun _ h9 => h9) rfl hin rfl (by decide +kernel) rfl rfl (Nat.le_of_ble_eq_true rfl) d_T_init_16 (fun H locs hP hD hS => ?_)
  have hw : wH D A s.heap ([(q0, .inr (2, [.int x1, .int x2, .int 0, .int 0, .int 1]))] ++ Z) H _ := ⟨hP, hD, hS⟩
  refine lv_aload_n hx hb d_T_init_19 rfl (lv_at hl 0 rfl) ?_
  refine lv_iload_n hx hb d_T_init_20 rfl (lv_at hl 3 rfl) ?_
  refine va_putF (D := D) (ci := 2) (v := .int x3) (ty := .int) (C := R_T) (T := F_T) (N := 5) hx hb hts i_T ty_T ty_T_ok n_T hown hK hw.1 hw.2.1 hw.2.2 0 rfl rfl 2 (by decide) (hts _ wd_323) (fun _ h9 => h9) rfl hin rfl (by decide +kernel) rfl rfl (Nat.le_of_ble_eq_true rfl) d_T_init_21 (fun H locs hP hD hS => ?_)
  have hw : wH D A s.heap ([(q0, .inr (2, [.int x1, .int x2, .int x3, .int 0, .int 1]))] ++ Z) H _ := ⟨hP, hD, hS⟩
  refine lv_aload_n hx hb d_T_init_24 rfl (lv_at hl 0 rfl) ?_
  refine lv_iload hx hb d_T_init_25 (lv_at hl 4 rfl) ?_
  refine va_putF (D := D) (ci := 2) (v := .int x4) (ty := .int) (C := R_T) (T := F_T) (N := 5) hx hb hts i_T ty_T ty_T_ok n_T hown hK hw.1 hw.2.1 hw.2.2 0 rfl rfl 3 (by decide) (hts _ wd_325) (fun _ h9 => h9) rfl hin rfl (by decide +kernel) rfl rfl (Nat.le_of_ble_eq_true rfl) d_T_init_27 (fun H locs hP hD hS => ?_)
  have hw : wH D A s.heap ([(q0, .inr (2, [.int x1, .int x2, .int x3, .int x4, .int 1]))] ++ Z) H _ := ⟨hP, hD, hS⟩
  exact rt_v h0 hw hr hlocks () trivial rfl d_T_init_30 (Nat.le_refl _) (Nat.le_refl _)
