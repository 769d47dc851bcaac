def fC_move (x1 : Int32) (x2 : Int32) (x3 : Int32) (x4 : Int32) (g : Nat → Nat → Nat → Int32) (N : Nat → Nat) : Option String × Int32 × (Nat → Nat → Nat → Int32) × (Nat → Nat) := if (fC_isWithin x1 0 ((g 0 0 0) - 1)) = 0 then (some "java/util/NoSuchElementException", 0, g, N) else if (fC_isWithin x2 0 ((g 0 0 0) - 1)) = 0 then (some "java/util/NoSuchElementException", 0, g, N) else if x1 = x2 then (some "java/lang/IllegalArgumentException", 0, g, N) else if (fC_isGood x3) = 0 then (some "java/lang/IllegalArgumentException", 0, g, N) else if (fC_isWithin x4 1 1000000) = 0 then (some "java/lang/IllegalArgumentException", 0, g, N) else if x4 ≤ (g 6 x1.toNatClampNeg x3.toNatClampNeg) then if (g 0 0 1) < 60 then (none, (g 0 0 1) + 1, (u3 (nt_g N (u3 g 6 x1.toNatClampNeg x3.toNatClampNeg ((g 6 x1.toNatClampNeg x3.toNatClampNeg) - x4)) x1 x2 x3 x4) 0 0 1 ((g 0 0 1) + 1)), nt_N N) else (some "java/lang/UnsupportedOperationException", 0, g, N) else (some "java/lang/IllegalStateException", 0, g, N)
def kC_move (x1 : Int32) (x2 : Int32) (x3 : Int32) (x4 : Int32) (g : Nat → Nat → Nat → Int32) (N : Nat → Nat) : Prop := kC_isWithin x1 0 ((g 0 0 0) - 1) ∧ (((fC_isWithin x1 0 ((g 0 0 0) - 1)) = 0 → True) ∧ (¬ ((fC_isWithin x1 0 ((g 0 0 0) - 1)) = 0) → (vp_in x1 20) ∧ (x1.toNatClampNeg < N 0) ∧ (kC_isWithin x2 0 ((g 0 0 0) - 1) ∧ (((fC_isWithin x2 0 ((g 0 0 0) - 1)) = 0 → True) ∧ (¬ ((fC_isWithin x2 0 ((g 0 0 0) - 1)) = 0) → (vp_in x2 20) ∧ (x2.toNatClampNeg < N 0) ∧ ((x1 = x2 → True) ∧ (¬ (x1 = x2) → (kC_isGood x3) ∧ (((fC_isGood x3) = 0 → True) ∧ (¬ ((fC_isGood x3) = 0) → (kC_isWithin x4 1 1000000) ∧ (((fC_isWithin x4 1 1000000) = 0 → True) ∧ (¬ ((fC_isWithin x4 1 1000000) = 0) → (vp_in x3 6) ∧ ((x4 ≤ (g 6 x1.toNatClampNeg x3.toNatClampNeg) → ((g 0 0 1) < 60 → (vp_in x3 6) ∧ ((vp_in x3 6) ∧ (vp_in (g 0 0 1) 60 ∧ (g 0 0 1).toNatClampNeg = N 1))) ∧ (¬ ((g 0 0 1) < 60) → True)) ∧ (¬ (x4 ≤ (g 6 x1.toNatClampNeg x3.toNatClampNeg)) → True)))))))))))))
set_option maxHeartbeats 4000000 in
set_option maxRecDepth 100000 in
theorem cC_move (l : Launch) (hlt : l.stackTraces = false) (D : va_G) (tc : Nat → ClassId) (sa : Nat → Nat) (ad : Nat → Nat → Nat) (Y : va_W) (sz : Nat) (x1 : Int32) (x2 : Int32) (x3 : Int32) (x4 : Int32) (g : Nat → Nat → Nat → Int32) (N : Nat → Nat) {F : Option String × Int32 × (Nat → Nat → Nat → Int32) × (Nat → Nat)} (hok : kC_move x1 x2 x3 x4 g N) (hF : fC_move x1 x2 x3 x4 g N = F) : vx_Met l y_C_move (Cond.code y_C_move b_C_move 6 (some .int) :: gw) ({ frames := 7, cells := 3, slots := 18, locals := 104 } : Room) (va_Pc [.ref (ad 0 0), .int x1, .int x2, .int x3, .int x4] (pC D tc sa (cl tc g N ad ++ Y) sz)) (va_Qi (fun r (u : (Nat → Nat → Nat → Int32) × (Nat → Nat) × (Nat → Nat → Nat)) => (none, r, u.1, u.2.1) = F ∧ u.2.2 0 = ad 0) (fun u t => qW D tc (va_A (cl tc g N ad ++ Y) sz) (cl tc u.1 u.2.1 u.2.2 ++ Y) t) (va_A (cl tc g N ad ++ Y) sz)) (xC D tc (va_A (cl tc g N ad ++ Y) sz) (fun E (u : (Nat → Nat → Nat → Int32) × (Nat → Nat) × (Nat → Nat → Nat)) => (some E, (0 : Int32), u.1, u.2.1) = F ∧ u.2.2 0 = ad 0) (fun u => cl tc u.1 u.2.1 u.2.2 ++ Y)) 3 18 (va_A (cl tc g N ad ++ Y) sz) := by
  refine en_X (by decide) (Nat.le_of_ble_eq_true rfl) ?_
  intro p e s m args below meth c ls h0 hN hX hr hlocks htab hsz hw hl
  obtain ⟨hx, hb, hml, hown, hts, hK⟩ := id h0
  have hA : ∀ q : Nat, s.heap.size ≤ q → (va_A (cl tc g N ad ++ Y) sz) q := fun q h => Or.inr (by rw [← hsz]; exact h)
  generalize va_A (cl tc g N ad ++ Y) sz = A at hw hA hX ⊢
  obtain ⟨H, eH⟩ : ∃ z, z = s.heap := ⟨_, rfl⟩
  obtain ⟨locs, eL⟩ : ∃ z : List Loc, z = [] := ⟨_, rfl⟩
  have hw : wH D A s.heap (cl tc g N ad ++ Y) H locs := by rw [eH, eL]; exact hw
  have gl : W p l e ({ frames := 7, cells := 3, slots := 18, locals := 104 } : Room) s m args below meth c H locs 0 0 (vx_MQ below (va_Qi (fun r (u : (Nat → Nat → Nat → Int32) × (Nat → Nat) × (Nat → Nat → Nat)) => (none, r, u.1, u.2.1) = F ∧ u.2.2 0 = ad 0) (fun u t => qW D tc A (cl tc u.1 u.2.1 u.2.2 ++ Y) t) A) (xC D tc A (fun E (u : (Nat → Nat → Nat → Int32) × (Nat → Nat) × (Nat → Nat → Nat)) => (some E, (0 : Int32), u.1, u.2.1) = F ∧ u.2.2 0 = ad 0) (fun u => cl tc u.1 u.2.1 u.2.2 ++ Y)) args s 3 18 A) (F0 m 0 ls []) := ?_
  · rw [eH, eL] at gl; exact gl
  have hl : lv_has ls 6 [(0, .ref (ad 0 0)), (1, .int x1), (2, .int x2), (3, .int x3), (4, .int x4)] := hl
  unfold kC_move at hok
  unfold fC_move at hF
  refine lv_aload_n hx hb d_C_move_0 rfl (lv_at hl 0 rfl) ?_
  refine lv_iload_n hx hb d_C_move_1 rfl (lv_at hl 1 rfl) ?_
  obtain ⟨hi_1, hok⟩ := hok
  refine dx_r (n := 1) (C := "CountRounds") (b := ad 0 0) (q0 := bw_o (cb tc g N ad) 0 + 0) (ci := 3) (As := [.int x1]) (rest := []) h0 hX hw hA (xC_placeNumbered l hlt D tc sa ad Y H.size x1 g N ⟨hi_1, fun _ => trivial, fun c9 => ⟨(hok.2 c9).1, (hok.2 c9).2.1, trivial⟩⟩) (gd_V wd_236 wd_238 (gw_s 3 rfl rfl) wd_1 wd_239) (by decide +kernel) ⟨rfl, rfl, (Nat.le_of_ble_eq_true rfl), (Nat.le_of_ble_eq_true rfl), (Nat.le_of_ble_eq_true rfl), (Nat.le_of_ble_eq_true rfl)⟩ (bw_get (bs := cb tc g N ad) (j := 0) rfl Nat.one_pos Y) rfl rfl hl.1 rfl (Nat.le_of_ble_eq_true rfl) d_C_move_2 (fun c_2 H locs q ce hw hq hv hcl => ?_) (fun c_2 locs hw => ?_)
  · have hF := (if_pos c_2).symm.trans hF
    exact ox_t h0 hw htab hlocks hq hv hcl (g, N, ad) ⟨hF, rfl⟩ rfl (Nat.le_of_ble_eq_true rfl) (Nat.le_of_ble_eq_true rfl)
  · have hok := hok.2 c_2
    have hF := (if_neg c_2).symm.trans hF
    obtain ⟨hi_3, hi_4, hok⟩ := hok
    refine lv_astore (lv' := [(5, .ref (ad 1 x1.toNatClampNeg)), (0, .ref (ad 0 0)), (1, .int x1), (2, .int x2), (3, .int x3), (4, .int x4)]) hx hb d_C_move_5 hl (by decide) rfl (fun ls hl => ?_)
    refine lv_aload_n hx hb d_C_move_7 rfl (lv_at hl 1 rfl) ?_
    refine lv_iload_n hx hb d_C_move_8 rfl (lv_at hl 3 rfl) ?_
    obtain ⟨hi_5, hok⟩ := hok
    refine dx_r (n := 1) (C := "CountRounds") (b := ad 0 0) (q0 := bw_o (cb tc g N ad) 0 + 0) (ci := 3) (As := [.int x2]) (rest := []) h0 hX hw hA (xC_placeNumbered l hlt D tc sa ad Y H.size x2 g N ⟨hi_5, fun _ => trivial, fun c9 => ⟨(hok.2 c9).1, (hok.2 c9).2.1, trivial⟩⟩) (gd_V wd_236 wd_238 (gw_s 3 rfl rfl) wd_1 wd_239) (by decide +kernel) ⟨rfl, rfl, (Nat.le_of_ble_eq_true rfl), (Nat.le_of_ble_eq_true rfl), (Nat.le_of_ble_eq_true rfl), (Nat.le_of_ble_eq_true rfl)⟩ (bw_get (bs := cb tc g N ad) (j := 0) rfl Nat.one_pos Y) rfl rfl hl.1 rfl (Nat.le_of_ble_eq_true rfl) d_C_move_9 (fun c_6 H locs q ce hw hq hv hcl => ?_) (fun c_6 locs hw => ?_)
    · have hF := (if_pos c_6).symm.trans hF
      exact ox_t h0 hw htab hlocks hq hv hcl (g, N, ad) ⟨hF, rfl⟩ rfl (Nat.le_of_ble_eq_true rfl) (Nat.le_of_ble_eq_true rfl)
    · have hok := hok.2 c_6
      have hF := (if_neg c_6).symm.trans hF
      obtain ⟨hi_7, hi_8, hok⟩ := hok
      refine lv_pop hx hb d_C_move_12 rfl ?_
      refine lv_iload_n hx hb d_C_move_13 rfl (lv_at hl 2 rfl) ?_
      refine lv_iload_n hx hb d_C_move_14 rfl (lv_at hl 3 rfl) ?_
      refine lv_icmp_eq (tgt := 36) hx hb d_C_move_15 (by decide) (fun c_9 => ?_) (fun c_9 => ?_)
      · have hok := hok.1 c_9
        have hF := (if_pos c_9).symm.trans hF
        exact th_S hlt h0 rfl hX hw (by decide +kernel) wd_175 wd_7 (q9 := 10) rfl at_iae ag_iae hl.1 d_C_move_36 d_C_move_39 d_C_move_40 d_C_move_42 d_C_move_45 htab hlocks ⟨(Nat.le_of_ble_eq_true rfl), (Nat.le_of_ble_eq_true rfl), (Nat.le_of_ble_eq_true rfl), (Nat.le_of_ble_eq_true rfl)⟩ (g, N, ad) ⟨hF, rfl⟩ rfl (Nat.le_of_ble_eq_true rfl) (Nat.le_of_ble_eq_true rfl)
      · have hok := hok.2 c_9
        have hF := (if_neg c_9).symm.trans hF
        refine lv_iload_n hx hb d_C_move_18 rfl (lv_at hl 4 rfl) ?_
        obtain ⟨hi_10, hok⟩ := hok
        refine cs_p (n := 1) (As := [.int x3]) (rest := []) hx hb hml hown hts (cC_isGood l x3 hi_10 rfl) (gd_S wd_241 wd_242 wd_1 wd_243) (by decide +kernel) ⟨rfl, rfl, (Nat.le_of_ble_eq_true rfl), (Nat.le_of_ble_eq_true rfl), (Nat.le_of_ble_eq_true rfl), (Nat.le_of_ble_eq_true rfl)⟩ rfl hl.1 rfl (Nat.le_of_ble_eq_true rfl) d_C_move_19 ?_
        refine lv_if_eq (tgt := 36) hx hb d_C_move_22 (by decide) (fun c_11 => ?_) (fun c_11 => ?_)
        · have hok := hok.1 c_11
          have hF := (if_pos c_11).symm.trans hF
          exact th_S hlt h0 rfl hX hw (by decide +kernel) wd_175 wd_7 (q9 := 10) rfl at_iae ag_iae hl.1 d_C_move_36 d_C_move_39 d_C_move_40 d_C_move_42 d_C_move_45 htab hlocks ⟨(Nat.le_of_ble_eq_true rfl), (Nat.le_of_ble_eq_true rfl), (Nat.le_of_ble_eq_true rfl), (Nat.le_of_ble_eq_true rfl)⟩ (g, N, ad) ⟨hF, rfl⟩ rfl (Nat.le_of_ble_eq_true rfl) (Nat.le_of_ble_eq_true rfl)
        · have hok := hok.2 c_11
          have hF := (if_neg c_11).symm.trans hF
          refine lv_iload hx hb d_C_move_25 (lv_at hl 5 rfl) ?_
          refine lv_iconst (v := 1) hx hb d_C_move_27 (by decide) ?_
          refine lv_ldc hx hb hown (hts _ wd_247) d_C_move_28 ?_
          obtain ⟨hi_12, hok⟩ := hok
          refine cs_p (n := 3) (As := [.int x4, .int 1, .int 1000000]) (rest := []) hx hb hml hown hts (cC_isWithin l x4 1 1000000 hi_12 rfl) (gd_S wd_90 wd_91 wd_1 wd_92) (by decide +kernel) ⟨rfl, rfl, (Nat.le_of_ble_eq_true rfl), (Nat.le_of_ble_eq_true rfl), (Nat.le_of_ble_eq_true rfl), (Nat.le_of_ble_eq_true rfl)⟩ rfl hl.1 rfl (Nat.le_of_ble_eq_true rfl) d_C_move_30 ?_
          refine lv_if_ne (tgt := 46) hx hb d_C_move_33 (by decide) (fun c_13 => ?_) (fun c_13 => ?_)
          · have hok := hok.2 c_13
            have hF := (if_neg c_13).symm.trans hF
            refine lv_aload hx hb d_C_move_46 (lv_at hl 0 rfl) ?_
            refine gCP_1 h0 hN hw hi_4 d_C_move_48 ?_
            refine lv_iload_n hx hb d_C_move_51 rfl (lv_at hl 4 rfl) ?_
            obtain ⟨hi_14, hok⟩ := hok
            refine l_pieces h0 hw hi_4 hi_14 d_C_move_52 ?_
            refine lv_iload hx hb d_C_move_53 (lv_at hl 5 rfl) ?_
            refine lv_icmp_ge (tgt := 68) hx hb d_C_move_55 (by decide) (fun c_15 => ?_) (fun c_15 => ?_)
            · have hok := hok.1 c_15
              have hF := (if_pos c_15).symm.trans hF
              refine lv_aload_n hx hb d_C_move_68 rfl (lv_at hl 1 rfl) ?_
              refine gCC_8 h0 hw d_C_move_69 ?_
              refine lv_bipush (v := 60) hx hb d_C_move_72 (by decide) ?_
              refine lv_icmp_lt (tgt := 87) hx hb d_C_move_74 (by decide) (fun c_16 => ?_) (fun c_16 => ?_)
              · have hok := hok.1 c_16
                have hF := (if_pos c_16).symm.trans hF
                refine lv_aload hx hb d_C_move_87 (lv_at hl 0 rfl) ?_
                refine gCP_1 h0 hN hw hi_4 d_C_move_89 ?_
                refine lv_iload_n hx hb d_C_move_92 rfl (lv_at hl 4 rfl) ?_
                refine lv_dup2_11 hx hb d_C_move_93 rfl rfl ?_
                obtain ⟨hi_17, hok⟩ := hok
                refine l_pieces h0 hw hi_4 hi_17 d_C_move_94 ?_
                refine lv_iload hx hb d_C_move_95 (lv_at hl 5 rfl) ?_
                refine lv_isub hx hb d_C_move_97 ?_
                obtain ⟨hi_18, hok⟩ := hok
                refine s_pieces h0 hw hi_4 hi_18 d_C_move_98 (fun H locs hw => ?_)
                refine lv_aload_n hx hb d_C_move_99 rfl (lv_at hl 1 rfl) ?_
                refine gCC_1 h0 hw d_C_move_100 ?_
                refine lv_aload_n hx hb d_C_move_103 rfl (lv_at hl 1 rfl) ?_
                refine gCC_8 h0 hw d_C_move_104 ?_
                refine W.eq (g2 := F0 m 107 ls [.int (g 0 0 1), .ref (ad 0 2)]) rfl ?_
                obtain ⟨hv60, hvN⟩ := hok
                refine va_new (ci := 2) (fs := [.int 0, .int 0, .int 0, .int 0, .int 0]) (C := R_T) (T := F_T) (N := 5) hx hb hts i_T ty_T ty_T_ok hown (hts _ wd_27) (hts _ wd_314) (hts _ wd_12) hK hw.1 hw.2.1 hw.2.2 hA rfl (fun j hj => by rcases (show j = 0 ∨ j = 1 ∨ j = 2 ∨ j = 3 ∨ j = 4 by omega) with rfl | rfl | rfl | rfl | rfl <;> rfl) (Nat.le_of_ble_eq_true rfl) (Nat.le_of_ble_eq_true rfl) d_C_move_107 (fun q H hP hD hS => ?_)
                have hw : wH D A s.heap ([(q, .inr (2, [.int 0, .int 0, .int 0, .int 0, .int 0]))] ++ (cl tc (u3 g 6 x1.toNatClampNeg x3.toNatClampNeg ((g 6 x1.toNatClampNeg x3.toNatClampNeg) - x4)) N ad ++ Y)) H _ := ⟨bw_P List.perm_append_comm hP, bw_D List.perm_append_comm hD, hS⟩
                refine lv_dup hx hb d_C_move_110 rfl ?_
                refine lv_iload_n hx hb d_C_move_111 rfl (lv_at hl 2 rfl) ?_
                refine lv_iload_n hx hb d_C_move_112 rfl (lv_at hl 3 rfl) ?_
                refine lv_iload_n hx hb d_C_move_113 rfl (lv_at hl 4 rfl) ?_
                refine lv_iload hx hb d_C_move_114 (lv_at hl 5 rfl) ?_
                refine dn_c (n := 4) (b := q) (As := [.int x1, .int x2, .int x3, .int x4]) (rest := [.ref q, .int (g 0 0 1), .ref (ad 0 2)]) h0 hN hw hA (cT_init l D tc (cl tc (u3 g 6 x1.toNatClampNeg x3.toNatClampNeg ((g 6 x1.toNatClampNeg x3.toNatClampNeg) - x4)) N ad ++ Y) H.size q x1 x2 x3 x4) wd_317 wn_315 wd_12 wd_316 rfl (by decide +kernel) ⟨rfl, rfl, (Nat.le_of_ble_eq_true rfl), (Nat.le_of_ble_eq_true rfl), (Nat.le_of_ble_eq_true rfl), (Nat.le_of_ble_eq_true rfl)⟩ rfl hl.1 rfl (Nat.le_of_ble_eq_true rfl) d_C_move_116 (fun _ H locs _ hw => ?_)
                refine va_astq hx hb hK hw.1 hw.2.1 hw.2.2 (bw_o (cb tc (u3 g 6 x1.toNatClampNeg x3.toNatClampNeg ((g 6 x1.toNatClampNeg x3.toNatClampNeg) - x4)) N ad) 2 + 0 + 1) 4 0 2 (cA := tc 4) (r := (R_T, F_T, 5)) (n := 60) (f := fun i => if i < N 1 then some (ad 3 i) else none) (bw_get (bs := cb tc (u3 g 6 x1.toNatClampNeg x3.toNatClampNeg ((g 6 x1.toNatClampNeg x3.toNatClampNeg) - x4)) N ad) (j := 2) (i := 0) rfl Nat.one_pos Y) rfl rfl rfl hv60 d_C_move_119 (fun H locs hP hD hS => ?_)
                rw [hvN] at hP hD
                have hw : wH D A s.heap (cl tc (nt_g N (u3 g 6 x1.toNatClampNeg x3.toNatClampNeg ((g 6 x1.toNatClampNeg x3.toNatClampNeg) - x4)) x1 x2 x3 x4) (nt_N N) (nt_a N ad q) ++ Y) H locs := ⟨bw_P nt_w hP, bw_D nt_w hD, hS⟩
                refine lv_aload_n hx hb d_C_move_120 rfl (lv_at hl 1 rfl) ?_
                refine lv_dup hx hb d_C_move_121 rfl ?_
                refine gCC_8 (ad := (nt_a N ad q)) h0 hw d_C_move_122 ?_
                refine W.eq (g2 := F0 m 125 ls [.int (g 0 0 1), .ref (ad 0 0)]) rfl ?_
                refine lv_iconst (v := 1) hx hb d_C_move_125 (by decide) ?_
                refine lv_iadd hx hb d_C_move_126 ?_
                refine pCC_8 (ad := (nt_a N ad q)) h0 hw d_C_move_127 (fun H locs hw => ?_)
                refine lv_aload_n hx hb d_C_move_130 rfl (lv_at hl 1 rfl) ?_
                refine gCC_8 (ad := (nt_a N ad q)) h0 hw d_C_move_131 ?_
                refine W.eq (g2 := F0 m 134 ls [.int ((g 0 0 1) + 1)]) rfl ?_
                exact vx_ret (rt_i h0 hw hr hlocks rfl (u3 (nt_g N (u3 g 6 x1.toNatClampNeg x3.toNatClampNeg ((g 6 x1.toNatClampNeg x3.toNatClampNeg) - x4)) x1 x2 x3 x4) 0 0 1 ((g 0 0 1) + 1), nt_N N, (nt_a N ad q)) ⟨hF, rfl⟩ rfl d_C_move_134 (Nat.le_of_ble_eq_true rfl) (Nat.le_of_ble_eq_true rfl))
              · have hok := hok.2 c_16
                have hF := (if_neg c_16).symm.trans hF
                exact th_S hlt h0 rfl hX hw (by decide +kernel) wd_191 wd_8 (q9 := 12) rfl at_uoe ag_uoe hl.1 d_C_move_77 d_C_move_80 d_C_move_81 d_C_move_83 d_C_move_86 htab hlocks ⟨(Nat.le_of_ble_eq_true rfl), (Nat.le_of_ble_eq_true rfl), (Nat.le_of_ble_eq_true rfl), (Nat.le_of_ble_eq_true rfl)⟩ (g, N, ad) ⟨hF, rfl⟩ rfl (Nat.le_of_ble_eq_true rfl) (Nat.le_of_ble_eq_true rfl)
            · have hok := hok.2 c_15
              have hF := (if_neg c_15).symm.trans hF
              exact th_S hlt h0 rfl hX hw (by decide +kernel) wd_288 wd_11 (q9 := 11) rfl at_ise ag_ise hl.1 d_C_move_58 d_C_move_61 d_C_move_62 d_C_move_64 d_C_move_67 htab hlocks ⟨(Nat.le_of_ble_eq_true rfl), (Nat.le_of_ble_eq_true rfl), (Nat.le_of_ble_eq_true rfl), (Nat.le_of_ble_eq_true rfl)⟩ (g, N, ad) ⟨hF, rfl⟩ rfl (Nat.le_of_ble_eq_true rfl) (Nat.le_of_ble_eq_true rfl)
          · have hok := hok.1 c_13
            have hF := (if_pos c_13).symm.trans hF
            exact th_S hlt h0 rfl hX hw (by decide +kernel) wd_175 wd_7 (q9 := 10) rfl at_iae ag_iae hl.1 d_C_move_36 d_C_move_39 d_C_move_40 d_C_move_42 d_C_move_45 htab hlocks ⟨(Nat.le_of_ble_eq_true rfl), (Nat.le_of_ble_eq_true rfl), (Nat.le_of_ble_eq_true rfl), (Nat.le_of_ble_eq_true rfl)⟩ (g, N, ad) ⟨hF, rfl⟩ rfl (Nat.le_of_ble_eq_true rfl) (Nat.le_of_ble_eq_true rfl)
