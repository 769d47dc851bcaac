def fC_noteBooked_48x  (i1 : Nat) (x2 : Int32) (g : Nat → Nat → Nat → Int32) (N : Nat → Nat) : Nat → Nat → Nat → Int32 := g
def kC_noteBooked_48x  (i1 : Nat) (x2 : Int32) (g : Nat → Nat → Nat → Int32) (N : Nat → Nat) : Prop := True
def fC_noteBooked_48  (E48 : Nat → Int32 → (Nat → Nat → Nat → Int32) → (Nat → Nat) → (Nat → Nat → Nat → Int32)) : Nat → Nat → Int32 → (Nat → Nat → Nat → Int32) → (Nat → Nat) → (Nat → Nat → Nat → Int32)
  | 0, _, _, _, _ => fun _ _ _ => 0
  | n + 1, i1, x2, g, N => if (g 0 0 1) < x2 then E48 i1 x2 g N else if (g 7 ((x2 - 1).toNatClampNeg) 4) = 0 then (fC_noteBooked_48 E48 n) i1 (x2 + 1) g N else if (fS_positionOf i1 (g 7 ((x2 - 1).toNatClampNeg) 1) g N) = (-1) then (fC_noteBooked_48 E48 n) i1 (x2 + 1) g N else (fC_noteBooked_48 E48 n) i1 (x2 + 1) (u3 g 10 i1 ((((fS_positionOf i1 (g 7 ((x2 - 1).toNatClampNeg) 1) g N) * 6) + (g 7 ((x2 - 1).toNatClampNeg) 2)).toNatClampNeg) ((g 10 i1 ((((fS_positionOf i1 (g 7 ((x2 - 1).toNatClampNeg) 1) g N) * 6) + (g 7 ((x2 - 1).toNatClampNeg) 2)).toNatClampNeg)) + (g 7 ((x2 - 1).toNatClampNeg) 3))) N
def kC_noteBooked_48  (KE48 : Nat → Int32 → (Nat → Nat → Nat → Int32) → (Nat → Nat) → Prop) : Nat → Nat → Int32 → (Nat → Nat → Nat → Int32) → (Nat → Nat) → Prop
  | 0, _, _, _, _ => False
  | n + 1, i1, x2, g, N => ((g 0 0 1) < x2 → KE48 i1 x2 g N) ∧ (¬ ((g 0 0 1) < x2) → (kC_transferNumbered x2 g N) ∧ (¬ (fC_isWithin x2 1 (g 0 0 1)) = 0) ∧ ((x2 - 1).toNatClampNeg < N 1) ∧ ((kS_positionOf i1 (g 7 ((x2 - 1).toNatClampNeg) 1) g N) ∧ (((g 7 ((x2 - 1).toNatClampNeg) 4) = 0 → (kC_noteBooked_48 KE48 n) i1 (x2 + 1) g N) ∧ (¬ ((g 7 ((x2 - 1).toNatClampNeg) 4) = 0) → ((fS_positionOf i1 (g 7 ((x2 - 1).toNatClampNeg) 1) g N) = (-1) → (kC_noteBooked_48 KE48 n) i1 (x2 + 1) g N) ∧ (¬ ((fS_positionOf i1 (g 7 ((x2 - 1).toNatClampNeg) 1) g N) = (-1)) → (vp_in (((fS_positionOf i1 (g 7 ((x2 - 1).toNatClampNeg) 1) g N) * 6) + (g 7 ((x2 - 1).toNatClampNeg) 2)) (6 * N (3 + i1))) ∧ ((vp_in (((fS_positionOf i1 (g 7 ((x2 - 1).toNatClampNeg) 1) g N) * 6) + (g 7 ((x2 - 1).toNatClampNeg) 2)) (6 * N (3 + i1))) ∧ ((kC_noteBooked_48 KE48 n) i1 (x2 + 1) (u3 g 10 i1 ((((fS_positionOf i1 (g 7 ((x2 - 1).toNatClampNeg) 1) g N) * 6) + (g 7 ((x2 - 1).toNatClampNeg) 2)).toNatClampNeg) ((g 10 i1 ((((fS_positionOf i1 (g 7 ((x2 - 1).toNatClampNeg) 1) g N) * 6) + (g 7 ((x2 - 1).toNatClampNeg) 2)).toNatClampNeg)) + (g 7 ((x2 - 1).toNatClampNeg) 3))) N)))))))
def fC_noteBooked_2x  (i1 : Nat) (x2 : Int32) (g : Nat → Nat → Nat → Int32) (N : Nat → Nat) : Nat → Nat → Nat → Int32 := fC_noteBooked_48 fC_noteBooked_48x 200 i1 1 g N
def kC_noteBooked_2x  (i1 : Nat) (x2 : Int32) (g : Nat → Nat → Nat → Int32) (N : Nat → Nat) : Prop := kC_noteBooked_48 kC_noteBooked_48x 200 i1 1 g N
def fC_noteBooked_2  (E2 : Nat → Int32 → (Nat → Nat → Nat → Int32) → (Nat → Nat) → (Nat → Nat → Nat → Int32)) : Nat → Nat → Int32 → (Nat → Nat → Nat → Int32) → (Nat → Nat) → (Nat → Nat → Nat → Int32)
  | 0, _, _, _, _ => fun _ _ _ => 0
  | n + 1, i1, x2, g, N => if (nI (N (3 + i1))) ≤ x2 then E2 i1 x2 g N else (fC_noteBooked_2 E2 n) i1 (x2 + 1) (ur g 10 i1 (va_cpy (g 6 ((g 9 i1 x2.toNatClampNeg).toNatClampNeg)) (g 10 i1) (0 : Int32).toNatClampNeg (x2 * 6).toNatClampNeg (6 : Int32).toNatClampNeg)) N
def kC_noteBooked_2  (KE2 : Nat → Int32 → (Nat → Nat → Nat → Int32) → (Nat → Nat) → Prop) : Nat → Nat → Int32 → (Nat → Nat → Nat → Int32) → (Nat → Nat) → Prop
  | 0, _, _, _, _ => False
  | n + 1, i1, x2, g, N => ((nI (N (3 + i1))) ≤ x2 → KE2 i1 x2 g N) ∧ (¬ ((nI (N (3 + i1))) ≤ x2) → (vp_in x2 (N (3 + i1))) ∧ ((kC_placeNumbered (g 9 i1 x2.toNatClampNeg) g N) ∧ (¬ (fC_isWithin (g 9 i1 x2.toNatClampNeg) 0 ((g 0 0 0) - 1)) = 0) ∧ ((g 9 i1 x2.toNatClampNeg).toNatClampNeg < N 0) ∧ ((¬ (0 : Int32) < 0) ∧ (¬ (x2 * 6) < 0) ∧ (¬ (6 : Int32) < 0) ∧ ((0 : Int32).toNatClampNeg + (6 : Int32).toNatClampNeg ≤ 6) ∧ ((x2 * 6).toNatClampNeg + (6 : Int32).toNatClampNeg ≤ (6 * N (3 + i1))) ∧ ((kC_noteBooked_2 KE2 n) i1 (x2 + 1) (ur g 10 i1 (va_cpy (g 6 ((g 9 i1 x2.toNatClampNeg).toNatClampNeg)) (g 10 i1) (0 : Int32).toNatClampNeg (x2 * 6).toNatClampNeg (6 : Int32).toNatClampNeg)) N))))
def fC_noteBooked (i1 : Nat) (g : Nat → Nat → Nat → Int32) (N : Nat → Nat) : Nat → Nat → Nat → Int32 := fC_noteBooked_2 fC_noteBooked_2x 200 i1 0 g N
def kC_noteBooked (i1 : Nat) (g : Nat → Nat → Nat → Int32) (N : Nat → Nat) : Prop := kC_noteBooked_2 kC_noteBooked_2x 200 i1 0 g N
def fC_freeze (x1 : Int32) (g : Nat → Nat → Nat → Int32) (N : Nat → Nat) : Option String × Int32 × (Nat → Nat → Nat → Int32) := if (fC_isWithin x1 1 (g 0 0 2)) = 0 then (some "java/util/NoSuchElementException", 0, g) else if (g 8 ((x1 - 1).toNatClampNeg) 2) = 0 then if (g 0 0 4) = 0 then (none, nI (N (3 + ((x1 - 1).toNatClampNeg))), (u3 (fC_noteBooked ((x1 - 1).toNatClampNeg) g N) 8 ((x1 - 1).toNatClampNeg) 2 1)) else if (fC_hasOpenMoves ((x1 - 1).toNatClampNeg) g N) = 0 then (none, nI (N (3 + ((x1 - 1).toNatClampNeg))), (u3 (fC_noteBooked ((x1 - 1).toNatClampNeg) g N) 8 ((x1 - 1).toNatClampNeg) 2 1)) else (none, 0, g) else (some "java/lang/IllegalStateException", 0, g)
def kC_freeze (x1 : Int32) (g : Nat → Nat → Nat → Int32) (N : Nat → Nat) : Prop := kC_isWithin x1 1 (g 0 0 2) ∧ (((fC_isWithin x1 1 (g 0 0 2)) = 0 → True) ∧ (¬ ((fC_isWithin x1 1 (g 0 0 2)) = 0) → (vp_in (x1 - 1) 20) ∧ ((x1 - 1).toNatClampNeg < N 2) ∧ (((g 8 ((x1 - 1).toNatClampNeg) 2) = 0 → ((g 0 0 4) = 0 → (kC_noteBooked ((x1 - 1).toNatClampNeg) g N) ∧ (True)) ∧ (¬ ((g 0 0 4) = 0) → (kC_hasOpenMoves ((x1 - 1).toNatClampNeg) g N) ∧ (((fC_hasOpenMoves ((x1 - 1).toNatClampNeg) g N) = 0 → (kC_noteBooked ((x1 - 1).toNatClampNeg) g N) ∧ (True)) ∧ (¬ ((fC_hasOpenMoves ((x1 - 1).toNatClampNeg) g N) = 0) → True)))) ∧ (¬ ((g 8 ((x1 - 1).toNatClampNeg) 2) = 0) → True))))
set_option maxHeartbeats 4000000 in
set_option maxRecDepth 100000 in
theorem cC_noteBooked (l : Launch) (D : va_G) (tc : Nat → ClassId) (sa : Nat → Nat) (ad : Nat → Nat → Nat) (Y : va_W) (sz : Nat) (i1 : Nat) (g : Nat → Nat → Nat → Int32) (N : Nat → Nat) (hj1 : i1 < N 2) {F : Nat → Nat → Nat → Int32} (hok : kC_noteBooked i1 g N) (hF : fC_noteBooked i1 g N = F) : Met l y_C_noteBooked (Cond.code y_C_noteBooked b_C_noteBooked 5 none :: gw) ({ frames := 2, cells := 0, slots := 0, locals := 60 } : Room) (va_Pc [.ref (ad 0 0), .ref (ad 4 i1)] (pC D tc sa (cl tc g N ad ++ Y) sz)) (va_Qv (fun u => u = F) (fun u t => qW D tc (va_A (cl tc g N ad ++ Y) sz) (cl tc u N ad ++ Y) t) (va_A (cl tc g N ad ++ Y) sz)) 0 0 (va_A (cl tc g N ad ++ Y) sz) := by
  refine en_C (by decide) (Nat.le_of_ble_eq_true rfl) ?_
  intro p e s m args below meth c ls h0 hN hX hr hlocks hin hsz hw hl
  obtain ⟨hx, hb, hml, hown, hts, hK⟩ := id h0
  have hA : ∀ q : Nat, s.heap.size ≤ q → (va_A (cl tc g N ad ++ Y) sz) q := fun q h => Or.inr (by rw [← hsz]; exact h)
  generalize va_A (cl tc g N ad ++ Y) sz = A at hw hA hX ⊢
  obtain ⟨H, eH⟩ : ∃ z, z = s.heap := ⟨_, rfl⟩
  obtain ⟨locs, eL⟩ : ∃ z : List Loc, z = [] := ⟨_, rfl⟩
  have hw : wH D A s.heap (cl tc g N ad ++ Y) H locs := by rw [eH, eL]; exact hw
  have gl : W p l e ({ frames := 2, cells := 0, slots := 0, locals := 60 } : Room) s m args below meth c H locs 0 0 (MQ below (va_Qv (fun u => u = F) (fun u t => qW D tc A (cl tc u N ad ++ Y) t) A) args s 0 0 A) (F0 m 0 ls []) := ?_
  · rw [eH, eL] at gl; exact gl
  have hl : lv_has ls 5 [(0, .ref (ad 0 0)), (1, .ref (ad 4 i1))] := hl
  unfold kC_noteBooked at hok
  unfold fC_noteBooked at hF
  refine lv_iconst (v := 0) hx hb d_C_noteBooked_0 (by decide) ?_
  refine lv_istore_n (lv' := [(2, .int 0), (0, .ref (ad 0 0)), (1, .ref (ad 4 i1))]) hx hb d_C_noteBooked_1 rfl hl (by decide) rfl (fun ls hl => ?_)
  have hx_2 : ∀ (i1 : Nat) (x2 : Int32) (g : Nat → Nat → Nat → Int32) (H : Heap) (locs : List Loc) (ls : Array Slot), i1 < N 2 → wH D A s.heap (cl tc g N ad ++ Y) H locs → lv_has ls 5 [(0, .ref (ad 0 0)), (1, .ref (ad 4 i1)), (2, .int x2)] → kC_noteBooked_2x i1 x2 g N → fC_noteBooked_2x i1 x2 g N = F → W p l e ({ frames := 2, cells := 0, slots := 0, locals := 60 } : Room) s m args below meth c H locs 0 0 (MQ below (va_Qv (fun u => u = F) (fun u t => qW D tc A (cl tc u N ad ++ Y) t) A) args s 0 0 A) (F0 m 46 ls []) := by
    intro i1 x2 g H locs ls hj1 hw hl hok hF
    unfold kC_noteBooked_2x at hok
    unfold fC_noteBooked_2x at hF
    refine lv_iconst (v := 1) hx hb d_C_noteBooked_46 (by decide) ?_
    refine lv_istore_n (lv' := [(2, .int 1), (0, .ref (ad 0 0)), (1, .ref (ad 4 i1))]) hx hb d_C_noteBooked_47 rfl hl (by decide) rfl (fun ls hl => ?_)
    have hx_48 : ∀ (i1 : Nat) (x2 : Int32) (g : Nat → Nat → Nat → Int32) (H : Heap) (locs : List Loc) (ls : Array Slot), i1 < N 2 → wH D A s.heap (cl tc g N ad ++ Y) H locs → lv_has ls 5 [(0, .ref (ad 0 0)), (1, .ref (ad 4 i1)), (2, .int x2)] → kC_noteBooked_48x i1 x2 g N → fC_noteBooked_48x i1 x2 g N = F → W p l e ({ frames := 2, cells := 0, slots := 0, locals := 60 } : Room) s m args below meth c H locs 0 0 (MQ below (va_Qv (fun u => u = F) (fun u t => qW D tc A (cl tc u N ad ++ Y) t) A) args s 0 0 A) (F0 m 113 ls []) := by
      intro i1 x2 g H locs ls hj1 hw hl hok hF
      unfold kC_noteBooked_48x at hok
      unfold fC_noteBooked_48x at hF
      exact rt_v h0 hw hr hlocks g hF rfl d_C_noteBooked_113 (Nat.le_of_ble_eq_true rfl) (Nat.le_of_ble_eq_true rfl)
    have lp_48 : ∀ (n48 : Nat) (i1 : Nat) (x2 : Int32) (g : Nat → Nat → Nat → Int32) (H : Heap) (locs : List Loc) (ls : Array Slot), i1 < N 2 → wH D A s.heap (cl tc g N ad ++ Y) H locs → lv_has ls 5 [(0, .ref (ad 0 0)), (1, .ref (ad 4 i1)), (2, .int x2)] → kC_noteBooked_48 kC_noteBooked_48x n48 i1 x2 g N → fC_noteBooked_48 fC_noteBooked_48x n48 i1 x2 g N = F → W p l e ({ frames := 2, cells := 0, slots := 0, locals := 60 } : Room) s m args below meth c H locs 0 0 (MQ below (va_Qv (fun u => u = F) (fun u t => qW D tc A (cl tc u N ad ++ Y) t) A) args s 0 0 A) (F0 m 48 ls []) := by
      intro n48
      induction n48 with
      | zero =>
        intro i1 x2 g H locs ls hj1 hw hl hok hF
        unfold kC_noteBooked_48 at hok
        exact hok.elim
      | succ n48 ih_48 =>
        intro i1 x2 g H locs ls hj1 hw hl hok hF
        unfold kC_noteBooked_48 at hok
        unfold fC_noteBooked_48 at hF
        refine lv_iload_n hx hb d_C_noteBooked_48 rfl (lv_at hl 2 rfl) ?_
        refine lv_aload_n hx hb d_C_noteBooked_49 rfl (lv_at hl 0 rfl) ?_
        refine gCC_8 h0 hw d_C_noteBooked_50 ?_
        refine lv_icmp_gt (tgt := 113) hx hb d_C_noteBooked_53 (by decide) (fun c_1 => ?_) (fun c_1 => ?_)
        · have hok := hok.1 c_1
          have hF := (if_pos c_1).symm.trans hF
          exact hx_48 i1 x2 g H locs ls hj1 hw (lv_sub hl [0, 1, 2] rfl) hok hF
        · have hok := hok.2 c_1
          have hF := (if_neg c_1).symm.trans hF
          refine lv_aload_n hx hb d_C_noteBooked_56 rfl (lv_at hl 0 rfl) ?_
          refine lv_iload_n hx hb d_C_noteBooked_57 rfl (lv_at hl 2 rfl) ?_
          obtain ⟨hi_2, hi_3, hi_4, hok⟩ := hok
          refine dv_p (n := 1) (C := "CountRounds") (b := ad 0 0) (q0 := bw_o (cb tc g N ad) 0 + 0) (ci := 3) (As := [.int x2]) (rest := []) h0 hX hw hA (cC_transferNumbered l D tc sa ad Y H.size x2 g N hi_2 (if_neg hi_3)) (gd_V wd_86 wd_88 (gw_s 1 rfl rfl) wd_1 wd_89) (by decide +kernel) ⟨rfl, rfl, (Nat.le_of_ble_eq_true rfl), (Nat.le_of_ble_eq_true rfl), (Nat.le_of_ble_eq_true rfl), (Nat.le_of_ble_eq_true rfl)⟩ (bw_get (bs := cb tc g N ad) (j := 0) rfl Nat.one_pos Y) rfl rfl hl.1 rfl (Nat.le_of_ble_eq_true rfl) d_C_noteBooked_58 ?_
          refine lv_astore_n (lv' := [(3, .ref (ad 3 ((x2 - 1).toNatClampNeg))), (0, .ref (ad 0 0)), (1, .ref (ad 4 i1)), (2, .int x2)]) hx hb d_C_noteBooked_61 rfl hl (by decide) rfl (fun ls hl => ?_)
          refine lv_aload_n hx hb d_C_noteBooked_62 rfl (lv_at hl 2 rfl) ?_
          refine lv_aload_n hx hb d_C_noteBooked_63 rfl (lv_at hl 0 rfl) ?_
          refine gCT_1 h0 hN hw hi_4 d_C_noteBooked_64 ?_
          obtain ⟨hi_5, hok⟩ := hok
          refine dn_p (n := 1) (C := "CountRounds$Sheet") (b := ad 4 i1) (q0 := bw_o (cb tc g N ad) 11 + i1) (ci := 1) (As := [.int (g 7 ((x2 - 1).toNatClampNeg) 1)]) (rest := []) h0 hX hw hA (cS_positionOf l D tc sa ad Y H.size i1 (g 7 ((x2 - 1).toNatClampNeg) 1) g N hj1 hi_5 rfl) wd_461 wn_458 wd_15 wd_460 (gw_s 11 rfl rfl) (by decide +kernel) ⟨rfl, rfl, (Nat.le_of_ble_eq_true rfl), (Nat.le_of_ble_eq_true rfl), (Nat.le_of_ble_eq_true rfl), (Nat.le_of_ble_eq_true rfl)⟩ (bw_get (bs := cb tc g N ad) (j := 11) rfl hj1 Y) rfl rfl hl.1 rfl (Nat.le_of_ble_eq_true rfl) d_C_noteBooked_67 ?_
          refine lv_istore (lv' := [(4, .int (fS_positionOf i1 (g 7 ((x2 - 1).toNatClampNeg) 1) g N)), (3, .ref (ad 3 ((x2 - 1).toNatClampNeg))), (0, .ref (ad 0 0)), (1, .ref (ad 4 i1)), (2, .int x2)]) hx hb d_C_noteBooked_70 hl (by decide) rfl (fun ls hl => ?_)
          refine lv_aload_n hx hb d_C_noteBooked_72 rfl (lv_at hl 1 rfl) ?_
          refine gCT_4 h0 hN hw hi_4 d_C_noteBooked_73 ?_
          refine lv_if_eq (tgt := 107) hx hb d_C_noteBooked_76 (by decide) (fun c_6 => ?_) (fun c_6 => ?_)
          · have hok := hok.1 c_6
            have hF := (if_pos c_6).symm.trans hF
            refine lv_iinc (v := x2 + 1) (lv' := [(2, .int (x2 + 1)), (4, .int (fS_positionOf i1 (g 7 ((x2 - 1).toNatClampNeg) 1) g N)), (3, .ref (ad 3 ((x2 - 1).toNatClampNeg))), (0, .ref (ad 0 0)), (1, .ref (ad 4 i1))]) hx hb d_C_noteBooked_107 hl (k := 4) rfl rfl (by decide) rfl (fun ls hl => ?_)
            refine lv_goto (tgt := 48) hx hb d_C_noteBooked_110 (by decide) ?_
            exact ih_48 i1 (x2 + 1) g H locs ls hj1 hw (lv_sub hl [3, 4, 0] rfl) hok hF
          · have hok := hok.2 c_6
            have hF := (if_neg c_6).symm.trans hF
            refine lv_iload hx hb d_C_noteBooked_79 (lv_at hl 0 rfl) ?_
            refine lv_iconst (v := (-1)) hx hb d_C_noteBooked_81 (by decide) ?_
            refine lv_icmp_eq (tgt := 107) hx hb d_C_noteBooked_82 (by decide) (fun c_7 => ?_) (fun c_7 => ?_)
            · have hok := hok.1 c_7
              have hF := (if_pos c_7).symm.trans hF
              refine lv_iinc (v := x2 + 1) (lv' := [(2, .int (x2 + 1)), (4, .int (fS_positionOf i1 (g 7 ((x2 - 1).toNatClampNeg) 1) g N)), (3, .ref (ad 3 ((x2 - 1).toNatClampNeg))), (0, .ref (ad 0 0)), (1, .ref (ad 4 i1))]) hx hb d_C_noteBooked_107 hl (k := 4) rfl rfl (by decide) rfl (fun ls hl => ?_)
              refine lv_goto (tgt := 48) hx hb d_C_noteBooked_110 (by decide) ?_
              exact ih_48 i1 (x2 + 1) g H locs ls hj1 hw (lv_sub hl [3, 4, 0] rfl) hok hF
            · have hok := hok.2 c_7
              have hF := (if_neg c_7).symm.trans hF
              refine lv_aload_n hx hb d_C_noteBooked_85 rfl (lv_at hl 3 rfl) ?_
              refine gCS_1 h0 hN hw hj1 d_C_noteBooked_86 ?_
              refine lv_iload hx hb d_C_noteBooked_89 (lv_at hl 0 rfl) ?_
              refine lv_bipush (v := 6) hx hb d_C_noteBooked_91 (by decide) ?_
              refine lv_imul hx hb d_C_noteBooked_93 ?_
              refine lv_aload_n hx hb d_C_noteBooked_94 rfl (lv_at hl 1 rfl) ?_
              refine gCT_2 h0 hN hw hi_4 d_C_noteBooked_95 ?_
              refine lv_iadd hx hb d_C_noteBooked_98 ?_
              refine lv_dup2_11 hx hb d_C_noteBooked_99 rfl rfl ?_
              obtain ⟨hi_8, hok⟩ := hok
              refine l_noted h0 hw hj1 hi_8 d_C_noteBooked_100 ?_
              refine lv_aload_n hx hb d_C_noteBooked_101 rfl (lv_at hl 1 rfl) ?_
              refine gCT_3 h0 hN hw hi_4 d_C_noteBooked_102 ?_
              refine lv_iadd hx hb d_C_noteBooked_105 ?_
              obtain ⟨hi_9, hok⟩ := hok
              refine s_noted h0 hw hj1 hi_9 d_C_noteBooked_106 (fun H locs hw => ?_)
              refine lv_iinc (v := x2 + 1) (lv' := [(2, .int (x2 + 1)), (4, .int (fS_positionOf i1 (g 7 ((x2 - 1).toNatClampNeg) 1) g N)), (3, .ref (ad 3 ((x2 - 1).toNatClampNeg))), (0, .ref (ad 0 0)), (1, .ref (ad 4 i1))]) hx hb d_C_noteBooked_107 hl (k := 4) rfl rfl (by decide) rfl (fun ls hl => ?_)
              refine lv_goto (tgt := 48) hx hb d_C_noteBooked_110 (by decide) ?_
              exact ih_48 i1 (x2 + 1) (u3 g 10 i1 ((((fS_positionOf i1 (g 7 ((x2 - 1).toNatClampNeg) 1) g N) * 6) + (g 7 ((x2 - 1).toNatClampNeg) 2)).toNatClampNeg) ((g 10 i1 ((((fS_positionOf i1 (g 7 ((x2 - 1).toNatClampNeg) 1) g N) * 6) + (g 7 ((x2 - 1).toNatClampNeg) 2)).toNatClampNeg)) + (g 7 ((x2 - 1).toNatClampNeg) 3))) H locs ls hj1 hw (lv_sub hl [3, 4, 0] rfl) hok hF
    exact lp_48 200 i1 1 g H locs ls hj1 hw (lv_sub hl [1, 2, 0] rfl) hok hF
  have lp_2 : ∀ (n2 : Nat) (i1 : Nat) (x2 : Int32) (g : Nat → Nat → Nat → Int32) (H : Heap) (locs : List Loc) (ls : Array Slot), i1 < N 2 → wH D A s.heap (cl tc g N ad ++ Y) H locs → lv_has ls 5 [(0, .ref (ad 0 0)), (1, .ref (ad 4 i1)), (2, .int x2)] → kC_noteBooked_2 kC_noteBooked_2x n2 i1 x2 g N → fC_noteBooked_2 fC_noteBooked_2x n2 i1 x2 g N = F → W p l e ({ frames := 2, cells := 0, slots := 0, locals := 60 } : Room) s m args below meth c H locs 0 0 (MQ below (va_Qv (fun u => u = F) (fun u t => qW D tc A (cl tc u N ad ++ Y) t) A) args s 0 0 A) (F0 m 2 ls []) := by
    intro n2
    induction n2 with
    | zero =>
      intro i1 x2 g H locs ls hj1 hw hl hok hF
      unfold kC_noteBooked_2 at hok
      exact hok.elim
    | succ n2 ih_2 =>
      intro i1 x2 g H locs ls hj1 hw hl hok hF
      unfold kC_noteBooked_2 at hok
      unfold fC_noteBooked_2 at hF
      refine lv_iload_n hx hb d_C_noteBooked_2 rfl (lv_at hl 2 rfl) ?_
      refine lv_aload_n hx hb d_C_noteBooked_3 rfl (lv_at hl 1 rfl) ?_
      refine gCS_0 h0 hN hw hj1 d_C_noteBooked_4 ?_
      refine n_members h0 hw hj1 d_C_noteBooked_7 ?_
      refine lv_icmp_ge (tgt := 46) hx hb d_C_noteBooked_8 (by decide) (fun c_10 => ?_) (fun c_10 => ?_)
      · have hok := hok.1 c_10
        have hF := (if_pos c_10).symm.trans hF
        exact hx_2 i1 x2 g H locs ls hj1 hw (lv_sub hl [0, 1, 2] rfl) hok hF
      · have hok := hok.2 c_10
        have hF := (if_neg c_10).symm.trans hF
        refine lv_aload_n hx hb d_C_noteBooked_11 rfl (lv_at hl 0 rfl) ?_
        refine lv_aload_n hx hb d_C_noteBooked_12 rfl (lv_at hl 1 rfl) ?_
        refine gCS_0 h0 hN hw hj1 d_C_noteBooked_13 ?_
        refine lv_iload_n hx hb d_C_noteBooked_16 rfl (lv_at hl 2 rfl) ?_
        obtain ⟨hi_11, hok⟩ := hok
        refine l_members h0 hw hj1 hi_11 d_C_noteBooked_17 ?_
        obtain ⟨hi_12, hi_13, hi_14, hok⟩ := hok
        refine dv_p (n := 1) (C := "CountRounds") (b := ad 0 0) (q0 := bw_o (cb tc g N ad) 0 + 0) (ci := 3) (As := [.int (g 9 i1 x2.toNatClampNeg)]) (rest := []) h0 hX hw hA (cC_placeNumbered l D tc sa ad Y H.size (g 9 i1 x2.toNatClampNeg) g N hi_12 (if_neg hi_13)) (gd_V wd_236 wd_238 (gw_s 3 rfl rfl) wd_1 wd_239) (by decide +kernel) ⟨rfl, rfl, (Nat.le_of_ble_eq_true rfl), (Nat.le_of_ble_eq_true rfl), (Nat.le_of_ble_eq_true rfl), (Nat.le_of_ble_eq_true rfl)⟩ (bw_get (bs := cb tc g N ad) (j := 0) rfl Nat.one_pos Y) rfl rfl hl.1 rfl (Nat.le_of_ble_eq_true rfl) d_C_noteBooked_18 ?_
        refine lv_astore_n (lv' := [(3, .ref (ad 1 ((g 9 i1 x2.toNatClampNeg).toNatClampNeg))), (0, .ref (ad 0 0)), (1, .ref (ad 4 i1)), (2, .int x2)]) hx hb d_C_noteBooked_21 rfl hl (by decide) rfl (fun ls hl => ?_)
        refine lv_aload_n hx hb d_C_noteBooked_22 rfl (lv_at hl 0 rfl) ?_
        refine gCP_1 h0 hN hw hi_14 d_C_noteBooked_23 ?_
        refine lv_iconst (v := 0) hx hb d_C_noteBooked_26 (by decide) ?_
        refine lv_aload_n hx hb d_C_noteBooked_27 rfl (lv_at hl 2 rfl) ?_
        refine gCS_1 h0 hN hw hj1 d_C_noteBooked_28 ?_
        refine lv_iload_n hx hb d_C_noteBooked_31 rfl (lv_at hl 3 rfl) ?_
        refine lv_bipush (v := 6) hx hb d_C_noteBooked_32 (by decide) ?_
        refine lv_imul hx hb d_C_noteBooked_34 ?_
        refine lv_bipush (v := 6) hx hb d_C_noteBooked_35 (by decide) ?_
        obtain ⟨hi_15, hi_16, hi_17, hi_18, hi_19, hok⟩ := hok
        refine cp_pieces_noted h0 hw (hml.trans hl.1.symm) (hts _ wd_386) (hts _ wd_388) (hts _ wd_387) (hts _ wd_14) hi_14 hj1 hi_15 hi_16 hi_17 hi_18 hi_19 (Nat.le_of_ble_eq_true rfl) (Nat.le_of_ble_eq_true rfl) d_C_noteBooked_37 (fun H locs hw => ?_)
        refine lv_iinc (v := x2 + 1) (lv' := [(2, .int (x2 + 1)), (3, .ref (ad 1 ((g 9 i1 x2.toNatClampNeg).toNatClampNeg))), (0, .ref (ad 0 0)), (1, .ref (ad 4 i1))]) hx hb d_C_noteBooked_40 hl (k := 3) rfl rfl (by decide) rfl (fun ls hl => ?_)
        refine lv_goto (tgt := 2) hx hb d_C_noteBooked_43 (by decide) ?_
        exact ih_2 i1 (x2 + 1) (ur g 10 i1 (va_cpy (g 6 ((g 9 i1 x2.toNatClampNeg).toNatClampNeg)) (g 10 i1) (0 : Int32).toNatClampNeg (x2 * 6).toNatClampNeg (6 : Int32).toNatClampNeg)) H locs ls hj1 hw (lv_sub hl [2, 3, 0] rfl) hok hF
  exact lp_2 200 i1 0 g H locs ls hj1 hw (lv_sub hl [1, 2, 0] rfl) hok hF
set_option maxHeartbeats 4000000 in
set_option maxRecDepth 100000 in
theorem cC_freeze (l : Launch) (hlt : l.stackTraces = false) (D : va_G) (tc : Nat → ClassId) (sa : Nat → Nat) (ad : Nat → Nat → Nat) (Y : va_W) (sz : Nat) (x1 : Int32) (g : Nat → Nat → Nat → Int32) (N : Nat → Nat) {F : Option String × Int32 × (Nat → Nat → Nat → Int32)} (hok : kC_freeze x1 g N) (hF : fC_freeze x1 g N = F) : vx_Met l y_C_freeze (Cond.code y_C_freeze b_C_freeze 3 (some .int) :: gw) ({ frames := 7, cells := 2, slots := 12, locals := 104 } : Room) (va_Pc [.ref (ad 0 0), .int x1] (pC D tc sa (cl tc g N ad ++ Y) sz)) (va_Qi (fun r u => (none, r, u) = F) (fun u t => qW D tc (va_A (cl tc g N ad ++ Y) sz) (cl tc u N ad ++ Y) t) (va_A (cl tc g N ad ++ Y) sz)) (xC D tc (va_A (cl tc g N ad ++ Y) sz) (fun E u => (some E, (0 : Int32), u) = F) (fun u => cl tc u N ad ++ Y)) 2 12 (va_A (cl tc g N ad ++ Y) sz) := by
  refine en_X (by decide) (Nat.le_of_ble_eq_true rfl) ?_
  intro p e s m args below meth c ls h0 hN hX hr hlocks htab hsz hw hl
  obtain ⟨hx, hb, hml, hown, hts, hK⟩ := id h0
  have hA : ∀ q : Nat, s.heap.size ≤ q → (va_A (cl tc g N ad ++ Y) sz) q := fun q h => Or.inr (by rw [← hsz]; exact h)
  generalize va_A (cl tc g N ad ++ Y) sz = A at hw hA hX ⊢
  obtain ⟨H, eH⟩ : ∃ z, z = s.heap := ⟨_, rfl⟩
  obtain ⟨locs, eL⟩ : ∃ z : List Loc, z = [] := ⟨_, rfl⟩
  have hw : wH D A s.heap (cl tc g N ad ++ Y) H locs := by rw [eH, eL]; exact hw
  have gl : W p l e ({ frames := 7, cells := 2, slots := 12, locals := 104 } : Room) s m args below meth c H locs 0 0 (vx_MQ below (va_Qi (fun r u => (none, r, u) = F) (fun u t => qW D tc A (cl tc u N ad ++ Y) t) A) (xC D tc A (fun E u => (some E, (0 : Int32), u) = F) (fun u => cl tc u N ad ++ Y)) args s 2 12 A) (F0 m 0 ls []) := ?_
  · rw [eH, eL] at gl; exact gl
  have hl : lv_has ls 3 [(0, .ref (ad 0 0)), (1, .int x1)] := hl
  unfold kC_freeze at hok
  unfold fC_freeze at hF
  refine lv_aload_n hx hb d_C_freeze_0 rfl (lv_at hl 0 rfl) ?_
  refine lv_iload_n hx hb d_C_freeze_1 rfl (lv_at hl 1 rfl) ?_
  obtain ⟨hi_1, hok⟩ := hok
  refine dx_r (n := 1) (C := "CountRounds") (b := ad 0 0) (q0 := bw_o (cb tc g N ad) 0 + 0) (ci := 3) (As := [.int x1]) (rest := []) h0 hX hw hA (xC_sheetNumbered l hlt D tc sa ad Y H.size x1 g N ⟨hi_1, fun _ => trivial, fun c9 => ⟨(hok.2 c9).1, (hok.2 c9).2.1, trivial⟩⟩) (gd_V wd_444 wd_446 (gw_s 8 rfl rfl) wd_1 wd_447) (by decide +kernel) ⟨rfl, rfl, (Nat.le_of_ble_eq_true rfl), (Nat.le_of_ble_eq_true rfl), (Nat.le_of_ble_eq_true rfl), (Nat.le_of_ble_eq_true rfl)⟩ (bw_get (bs := cb tc g N ad) (j := 0) rfl Nat.one_pos Y) rfl rfl hl.1 rfl (Nat.le_of_ble_eq_true rfl) d_C_freeze_2 (fun c_2 H locs q ce hw hq hv hcl => ?_) (fun c_2 locs hw => ?_)
  · have hF := (if_pos c_2).symm.trans hF
    exact ox_t h0 hw htab hlocks hq hv hcl g hF rfl (Nat.le_of_ble_eq_true rfl) (Nat.le_of_ble_eq_true rfl)
  · have hok := hok.2 c_2
    have hF := (if_neg c_2).symm.trans hF
    obtain ⟨hi_3, hi_4, hok⟩ := hok
    refine lv_astore_n (lv' := [(2, .ref (ad 4 ((x1 - 1).toNatClampNeg))), (0, .ref (ad 0 0)), (1, .int x1)]) hx hb d_C_freeze_5 rfl hl (by decide) rfl (fun ls hl => ?_)
    refine lv_aload_n hx hb d_C_freeze_6 rfl (lv_at hl 0 rfl) ?_
    refine gCS_10 h0 hN hw hi_4 d_C_freeze_7 ?_
    refine lv_if_eq (tgt := 23) hx hb d_C_freeze_10 (by decide) (fun c_5 => ?_) (fun c_5 => ?_)
    · have hok := hok.1 c_5
      have hF := (if_pos c_5).symm.trans hF
      refine lv_aload_n hx hb d_C_freeze_23 rfl (lv_at hl 1 rfl) ?_
      refine gCC_11 h0 hw d_C_freeze_24 ?_
      refine lv_if_eq (tgt := 40) hx hb d_C_freeze_27 (by decide) (fun c_6 => ?_) (fun c_6 => ?_)
      · have hok := hok.1 c_6
        have hF := (if_pos c_6).symm.trans hF
        refine lv_aload_n hx hb d_C_freeze_40 rfl (lv_at hl 1 rfl) ?_
        refine lv_aload_n hx hb d_C_freeze_41 rfl (lv_at hl 0 rfl) ?_
        obtain ⟨hi_7, hok⟩ := hok
        refine dv_v (wd := fun u => cl tc u N ad ++ Y) (n := 1) (C := "CountRounds") (b := ad 0 0) (q0 := bw_o (cb tc g N ad) 0 + 0) (ci := 3) (As := [.ref (ad 4 ((x1 - 1).toNatClampNeg))]) (rest := []) h0 hX hw hA (cC_noteBooked l D tc sa ad Y H.size ((x1 - 1).toNatClampNeg) g N hi_4 hi_7 rfl) (gd_V wd_454 wd_456 (gw_s 10 rfl rfl) wd_1 wd_457) (by decide +kernel) ⟨rfl, rfl, (Nat.le_of_ble_eq_true rfl), (Nat.le_of_ble_eq_true rfl), (Nat.le_of_ble_eq_true rfl), (Nat.le_of_ble_eq_true rfl)⟩ (bw_get (bs := cb tc g N ad) (j := 0) rfl Nat.one_pos Y) rfl rfl hl.1 rfl (Nat.le_of_ble_eq_true rfl) d_C_freeze_42 (fun u H locs hu hw => ?_)
        subst hu
        refine lv_aload_n hx hb d_C_freeze_45 rfl (lv_at hl 0 rfl) ?_
        refine lv_iconst (v := 1) hx hb d_C_freeze_46 (by decide) ?_
        refine pCS_10 h0 hN hw hi_4 d_C_freeze_47 (fun H locs hw => ?_)
        refine lv_aload_n hx hb d_C_freeze_50 rfl (lv_at hl 0 rfl) ?_
        refine gCS_0 h0 hN hw hi_4 d_C_freeze_51 ?_
        refine n_members h0 hw hi_4 d_C_freeze_54 ?_
        exact vx_ret (rt_i h0 hw hr hlocks rfl (u3 (fC_noteBooked ((x1 - 1).toNatClampNeg) g N) 8 ((x1 - 1).toNatClampNeg) 2 1) hF rfl d_C_freeze_55 (Nat.le_of_ble_eq_true rfl) (Nat.le_of_ble_eq_true rfl))
      · have hok := hok.2 c_6
        have hF := (if_neg c_6).symm.trans hF
        refine lv_aload_n hx hb d_C_freeze_30 rfl (lv_at hl 1 rfl) ?_
        refine lv_aload_n hx hb d_C_freeze_31 rfl (lv_at hl 0 rfl) ?_
        obtain ⟨hi_8, hok⟩ := hok
        refine dv_p (n := 1) (C := "CountRounds") (b := ad 0 0) (q0 := bw_o (cb tc g N ad) 0 + 0) (ci := 3) (As := [.ref (ad 4 ((x1 - 1).toNatClampNeg))]) (rest := []) h0 hX hw hA (cC_hasOpenMoves l D tc sa ad Y H.size ((x1 - 1).toNatClampNeg) g N hi_4 hi_8 rfl) (gd_V wd_450 wd_452 (gw_s 9 rfl rfl) wd_1 wd_453) (by decide +kernel) ⟨rfl, rfl, (Nat.le_of_ble_eq_true rfl), (Nat.le_of_ble_eq_true rfl), (Nat.le_of_ble_eq_true rfl), (Nat.le_of_ble_eq_true rfl)⟩ (bw_get (bs := cb tc g N ad) (j := 0) rfl Nat.one_pos Y) rfl rfl hl.1 rfl (Nat.le_of_ble_eq_true rfl) d_C_freeze_32 ?_
        refine lv_if_eq (tgt := 40) hx hb d_C_freeze_35 (by decide) (fun c_9 => ?_) (fun c_9 => ?_)
        · have hok := hok.1 c_9
          have hF := (if_pos c_9).symm.trans hF
          refine lv_aload_n hx hb d_C_freeze_40 rfl (lv_at hl 1 rfl) ?_
          refine lv_aload_n hx hb d_C_freeze_41 rfl (lv_at hl 0 rfl) ?_
          obtain ⟨hi_10, hok⟩ := hok
          refine dv_v (wd := fun u => cl tc u N ad ++ Y) (n := 1) (C := "CountRounds") (b := ad 0 0) (q0 := bw_o (cb tc g N ad) 0 + 0) (ci := 3) (As := [.ref (ad 4 ((x1 - 1).toNatClampNeg))]) (rest := []) h0 hX hw hA (cC_noteBooked l D tc sa ad Y H.size ((x1 - 1).toNatClampNeg) g N hi_4 hi_10 rfl) (gd_V wd_454 wd_456 (gw_s 10 rfl rfl) wd_1 wd_457) (by decide +kernel) ⟨rfl, rfl, (Nat.le_of_ble_eq_true rfl), (Nat.le_of_ble_eq_true rfl), (Nat.le_of_ble_eq_true rfl), (Nat.le_of_ble_eq_true rfl)⟩ (bw_get (bs := cb tc g N ad) (j := 0) rfl Nat.one_pos Y) rfl rfl hl.1 rfl (Nat.le_of_ble_eq_true rfl) d_C_freeze_42 (fun u H locs hu hw => ?_)
          subst hu
          refine lv_aload_n hx hb d_C_freeze_45 rfl (lv_at hl 0 rfl) ?_
          refine lv_iconst (v := 1) hx hb d_C_freeze_46 (by decide) ?_
          refine pCS_10 h0 hN hw hi_4 d_C_freeze_47 (fun H locs hw => ?_)
          refine lv_aload_n hx hb d_C_freeze_50 rfl (lv_at hl 0 rfl) ?_
          refine gCS_0 h0 hN hw hi_4 d_C_freeze_51 ?_
          refine n_members h0 hw hi_4 d_C_freeze_54 ?_
          exact vx_ret (rt_i h0 hw hr hlocks rfl (u3 (fC_noteBooked ((x1 - 1).toNatClampNeg) g N) 8 ((x1 - 1).toNatClampNeg) 2 1) hF rfl d_C_freeze_55 (Nat.le_of_ble_eq_true rfl) (Nat.le_of_ble_eq_true rfl))
        · have hok := hok.2 c_9
          have hF := (if_neg c_9).symm.trans hF
          refine lv_iconst (v := 0) hx hb d_C_freeze_38 (by decide) ?_
          exact vx_ret (rt_i h0 hw hr hlocks rfl g hF rfl d_C_freeze_39 (Nat.le_of_ble_eq_true rfl) (Nat.le_of_ble_eq_true rfl))
    · have hok := hok.2 c_5
      have hF := (if_neg c_5).symm.trans hF
      exact th_S hlt h0 rfl hX hw (by decide +kernel) wd_288 wd_11 (q9 := 18) rfl at_ise ag_ise hl.1 d_C_freeze_13 d_C_freeze_16 d_C_freeze_17 d_C_freeze_19 d_C_freeze_22 htab hlocks ⟨(Nat.le_of_ble_eq_true rfl), (Nat.le_of_ble_eq_true rfl), (Nat.le_of_ble_eq_true rfl), (Nat.le_of_ble_eq_true rfl)⟩ g hF rfl (Nat.le_of_ble_eq_true rfl) (Nat.le_of_ble_eq_true rfl)
