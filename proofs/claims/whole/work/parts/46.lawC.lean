/-! THE LAW: its loop -/
def pvA (I : Nat → (Nat → Nat → Nat → Int32) → (Nat → Nat) → (Nat → Nat → Int32) → Prop) : Prop := ∀ (k : Nat) (g : Nat → Nat → Nat → Int32) (N : Nat → Nat) (μ : Nat → Nat → Int32), k < 512 → I k g N μ → (∀ x1, pv_place (I (k + 1)) x1 g N μ) ∧ (∀ x1 x2 x3, pv_stock (I (k + 1)) x1 x2 x3 g N μ) ∧ (∀ x1 x2 x3, pv_cycle (I (k + 1)) x1 x2 x3 g N μ) ∧ (∀ x1 x2, pv_right (I (k + 1)) x1 x2 g N μ) ∧ (∀ x1, pv_setting (I (k + 1)) x1 g N μ) ∧ (∀ x1, pv_day (I (k + 1)) x1 g N μ) ∧ (∀ x1 x2 x3 x4, pv_move (I (k + 1)) x1 x2 x3 x4 g N μ) ∧ (∀ x1, pv_end (I (k + 1)) x1 g N μ) ∧ (∀ x1, pv_moves (I (k + 1)) x1 g N μ) ∧ (∀ x1 x2 x3, pv_round (I (k + 1)) x1 x2 x3 g N μ) ∧ (∀ x1, pv_freeze (I (k + 1)) x1 g N μ) ∧ (∀ x1 x2 x3 x4 x5, pv_found (I (k + 1)) x1 x2 x3 x4 x5 g N μ) ∧ (∀ x1 x2 x3, pv_second (I (k + 1)) x1 x2 x3 g N μ) ∧ (∀ x1, pv_close (I (k + 1)) x1 g N μ) ∧ (∀ x1 x2 x3, pv_differ (I (k + 1)) x1 x2 x3 g N μ) ∧ (∀ x1 x2 x3, pv_correct (I (k + 1)) x1 x2 x3 g N μ) ∧ (∀ x1, pv_share (I (k + 1)) x1 g N μ) ∧ (∀ x1, pv_last (I (k + 1)) x1 g N μ) ∧ (∀ x1, pv_due (I (k + 1)) x1 g N μ) ∧ (∀ x1 x2, pv_booked (I (k + 1)) x1 x2 g N μ) ∧ (∀ x1 x2, pv_told (I (k + 1)) x1 x2 g N μ) ∧ (∀ x1, pv_count (I (k + 1)) x1 g N μ) ∧ I (k + 1) g N μ
section LP
variable {p : Program} {l : Launch} {e : Env} {R : Room} {s : State} {m : MethodId} {args : Array Value} {below : List Frame} {meth : Method} {c : Code} {H : Heap} {locs : List Loc} {cells slots : Nat} {Q : State → Prop} {ls : Array Slot} {D : va_G} {tc : Nat → ClassId} {sa : Nat → Nat} {b L : Nat} {xs : Nat → Int32} {ws : va_W}
theorem lp_head {k x y o : Nat} (hC : lC p l s m args c D tc sa b L xs) (hk : k ≤ 600) (hw : wH D (An s) s.heap ws H locs) (hl : lv_has ls 7 (lo7 b x y o k)) (kE : W p l e R s m args below meth c H locs cells slots Q (F0 m 1541 ls [])) (kB : 6 * k + 6 ≤ L → W p l e R s m args below meth c H locs cells slots Q (F0 m 33 ls [])) : W p l e R s m args below meth c H locs cells slots Q (F0 m 23 ls []) := by
  obtain ⟨h0, hX, hNc, hXs, hbl, hL, hlt⟩ := id hC
  obtain ⟨hx, hb, hml, hown, hts, hK⟩ := id h0
  have hl : lv_has ls 7 [(4, .int (nI (6 * k))), (0, .ref b), (1, .ref x), (2, .ref y), (3, .ref o)] := hl
  refine lv_iload hx hb d_L_law_23 (lv_at hl 0 rfl) ?_
  refine lv_aload_n hx hb d_L_law_25 rfl (lv_at hl 1 rfl) ?_
  refine va_slen hx hb hXs hbl (fun h => Nat.lt_irrefl _ (Nat.lt_of_lt_of_le hbl h)) hw.2.2 d_L_law_26 ?_
  refine lv_bipush (v := 6) hx hb d_L_law_27 (by decide) ?_
  refine lv_isub hx hb d_L_law_29 ?_
  refine lv_icmp_gt (tgt := 1541) hx hb d_L_law_30 (by decide) (fun _ => kE) (fun h => kB ?_)
  have e1 : (Int32.ofNat L - 6).toInt = (L : Int) - 6 := pk_sub_toInt (a := L) (b := 6) (by omega) (by decide)
  have e2 := nI_toInt (n := 6 * k) (by omega)
  rw [Int32.lt_iff_toInt_lt, e1, e2] at h
  omega
set_option maxHeartbeats 4000000 in
set_option maxRecDepth 100000 in
theorem lp_all {I : Nat → (Nat → Nat → Nat → Int32) → (Nat → Nat) → (Nat → Nat → Int32) → Prop} (hI : pvA I) {o : Nat} {a : Nat → Nat} (hC : lC p l s m args c D tc sa b L xs) (hend : ∀ (H : Heap) (locs : List Loc) (ls : Array Slot) (cells slots : Nat), cells ≤ 601024 → slots ≤ 7293033 → (∀ q ∈ locs, s.heap.size ≤ q.base) → W p l e room_1 s m args below meth c H locs cells slots Q (F0 m 1541 ls [])) :
    ∀ (n k : Nat) (g : Nat → Nat → Nat → Int32) (N : Nat → Nat) (ad : Nat → Nat → Nat) (μ : Nat → Nat → Int32) (fo : Nat → Int64) (H : Heap) (locs : List Loc) (ls : Array Slot), k + n = 513 → I k g N μ → wH D (An s) s.heap (cl tc g N ad ++ ((o, .inl (tc 2, 1, .inr (.inl fo))) :: mo tc a μ)) H locs → lv_has ls 7 (lo7 b (ad 0 0) (a 0) o k) → W p l e room_1 s m args below meth c H locs (100 + 9 * k) (20000 + 871 * k) Q (F0 m 23 ls []) := by
  obtain ⟨h0, hX, hNc, hXs, hbl, hL, hlt⟩ := id hC
  obtain ⟨hx, hb, hml, hown, hts, hK⟩ := id h0
  intro n
  induction n with
  | zero =>
    intro k g N ad μ fo H locs ls hkn hi hw hl
    refine lp_head hC (by omega) hw hl (hend H locs ls _ _ (by omega) (by omega) hw.2.2.2.2) (fun h => ?_)
    exact absurd h (by omega)
  | succ n ih =>
    intro k g N ad μ fo H locs ls hkn hi hw hl
    refine lp_head hC (by omega) hw hl (hend H locs ls _ _ (by omega) (by omega) hw.2.2.2.2) (fun hk => ?_)
    have hR : 100 + 9 * k + 9 ≤ 601024 ∧ 20000 + 871 * k + 871 ≤ 7293033 := ⟨by omega, by omega⟩
    have kk : kL p l e s m args below meth c Q D tc b o k (100 + 9 * k) (20000 + 871 * k) a (ad 0) (I (k + 1)) := by
      intro g1 N1 ad1 μ1 fo1 H1 locs1 ls1 hJ had hw1 hl1
      have hl1 : lv_has ls1 7 [(4, .int (nI (6 * k))), (0, .ref b), (1, .ref (ad 0 0)), (2, .ref (a 0)), (3, .ref o)] := hl1
      refine lv_iinc (v := nI (6 * (k + 1))) (lv' := lo7 b (ad 0 0) (a 0) o (k + 1)) hx hb d_L_law_1535 hl1 (k := 0) rfl (by rw [show Int32.ofInt 6 = nI 6 by decide, nI_add]; exact congrArg nI (by omega)) (by decide) rfl (fun ls2 hl2 => ?_)
      refine lv_goto (tgt := 23) hx hb d_L_law_1538 (by decide) ?_
      refine W.widen (k := 100 + 9 * (k + 1)) (n := 20000 + 871 * (k + 1)) (by omega) (by omega) ?_
      exact ih (k + 1) g1 N1 ad1 μ1 fo1 H1 locs1 ls2 (by omega) hJ hw1 (by rw [had]; exact hl2)
    obtain ⟨p0, p1, p2, p3, p4, p5, p6, p7, p8, p9, p10, p11, p12, p13, p14, p15, p16, p17, p18, p19, p20, p21, pD⟩ := hI k g N μ (by omega) hi
    have hl9 : lv_has ls 7 [(4, .int (nI (6 * k))), (0, .ref b), (1, .ref (ad 0 0)), (2, .ref (a 0)), (3, .ref o)] := hl
    refine lv_aload_n hx hb d_L_law_33 rfl (lv_at hl9 1 rfl) ?_
    refine lv_iload hx hb d_L_law_34 (lv_at hl9 0 rfl) ?_
    refine va_sld hx hb hXs hbl (fun h => Nat.lt_irrefl _ (Nat.lt_of_lt_of_le hbl h)) hw.2.2 (i := nI (6 * k)) (nI_in (by omega) (by omega)) d_L_law_36 ?_
    refine lv_bipush (v := 31) hx hb d_L_law_37 (by decide) ?_
    refine lv_iand hx hb d_L_law_39 ?_
    generalize (xs (nI (6 * k)).toNatClampNeg &&& 31) = x9
    by_cases ho : x9.toInt < 0 ∨ 21 < x9.toInt
    · refine lv_tableOut (tgt := 1535) hx hb d_L_law_40 ho (by decide) ?_
      exact W.widen (k := 100 + 9 * k + 9) (n := 20000 + 871 * k + 871) (Nat.le_add_right _ _) (Nat.le_add_right _ _) (kk g N ad μ fo H locs ls pD rfl hw hl)
    · have h1 : ¬ x9.toInt < 0 := fun h => ho (Or.inl h)
      have h2 : ¬ 21 < x9.toInt := fun h => ho (Or.inr h)
      rcases (show x9.toInt = 0 ∨ x9.toInt = 1 ∨ x9.toInt = 2 ∨ x9.toInt = 3 ∨ x9.toInt = 4 ∨ x9.toInt = 5 ∨ x9.toInt = 6 ∨ x9.toInt = 7 ∨ x9.toInt = 8 ∨ x9.toInt = 9 ∨ x9.toInt = 10 ∨ x9.toInt = 11 ∨ x9.toInt = 12 ∨ x9.toInt = 13 ∨ x9.toInt = 14 ∨ x9.toInt = 15 ∨ x9.toInt = 16 ∨ x9.toInt = 17 ∨ x9.toInt = 18 ∨ x9.toInt = 19 ∨ x9.toInt = 20 ∨ x9.toInt = 21 by omega) with hj | hj | hj | hj | hj | hj | hj | hj | hj | hj | hj | hj | hj | hj | hj | hj | hj | hj | hj | hj | hj | hj
      · refine lv_tableIn (off := 104) (tgt := 144) hx hb d_L_law_40 h1 h2 (by rw [hj]; rfl) (by decide) ?_
        exact lc_place hC hk hR hw hl (p0 _) kk
      · refine lv_tableIn (off := 160) (tgt := 200) hx hb d_L_law_40 h1 h2 (by rw [hj]; rfl) (by decide) ?_
        exact lc_stock hC hk hR hw hl (p1 _ _ _) kk
      · refine lv_tableIn (off := 220) (tgt := 260) hx hb d_L_law_40 h1 h2 (by rw [hj]; rfl) (by decide) ?_
        exact lc_cycle hC hk hR hw hl (p2 _ _ _) kk
      · refine lv_tableIn (off := 280) (tgt := 320) hx hb d_L_law_40 h1 h2 (by rw [hj]; rfl) (by decide) ?_
        exact lc_right hC hk hR hw hl (p3 _ _) kk
      · refine lv_tableIn (off := 328) (tgt := 368) hx hb d_L_law_40 h1 h2 (by rw [hj]; rfl) (by decide) ?_
        exact lc_setting hC hk hR hw hl (p4 _) kk
      · refine lv_tableIn (off := 364) (tgt := 404) hx hb d_L_law_40 h1 h2 (by rw [hj]; rfl) (by decide) ?_
        exact lc_day hC hk hR hw hl (p5 _) kk
      · refine lv_tableIn (off := 400) (tgt := 440) hx hb d_L_law_40 h1 h2 (by rw [hj]; rfl) (by decide) ?_
        exact lc_move hC hk hR hw hl (p6 _ _ _ _) kk
      · refine lv_tableIn (off := 492) (tgt := 532) hx hb d_L_law_40 h1 h2 (by rw [hj]; rfl) (by decide) ?_
        exact lc_end hC hk hR hw hl (p7 _) kk
      · refine lv_tableIn (off := 528) (tgt := 568) hx hb d_L_law_40 h1 h2 (by rw [hj]; rfl) (by decide) ?_
        exact lc_moves hC hk hR hw hl (p8 _) kk
      · refine lv_tableIn (off := 584) (tgt := 624) hx hb d_L_law_40 h1 h2 (by rw [hj]; rfl) (by decide) ?_
        exact lc_round hC hk hR hw hl (p9 _ _ _) kk
      · refine lv_tableIn (off := 696) (tgt := 736) hx hb d_L_law_40 h1 h2 (by rw [hj]; rfl) (by decide) ?_
        exact lc_freeze hC hk hR hw hl (p10 _) kk
      · refine lv_tableIn (off := 752) (tgt := 792) hx hb d_L_law_40 h1 h2 (by rw [hj]; rfl) (by decide) ?_
        exact lc_found hC hk hR hw hl (p11 _ _ _ _ _) kk
      · refine lv_tableIn (off := 856) (tgt := 896) hx hb d_L_law_40 h1 h2 (by rw [hj]; rfl) (by decide) ?_
        exact lc_second hC hk hR hw hl (p12 _ _ _) kk
      · refine lv_tableIn (off := 943) (tgt := 983) hx hb d_L_law_40 h1 h2 (by rw [hj]; rfl) (by decide) ?_
        exact lc_close hC hk hR hw hl (p13 _) kk
      · refine lv_tableIn (off := 999) (tgt := 1039) hx hb d_L_law_40 h1 h2 (by rw [hj]; rfl) (by decide) ?_
        exact lc_differ hC hk hR hw hl (p14 _ _ _) kk
      · refine lv_tableIn (off := 1079) (tgt := 1119) hx hb d_L_law_40 h1 h2 (by rw [hj]; rfl) (by decide) ?_
        exact lc_correct hC hk hR hw hl (p15 _ _ _) kk
      · refine lv_tableIn (off := 1166) (tgt := 1206) hx hb d_L_law_40 h1 h2 (by rw [hj]; rfl) (by decide) ?_
        exact lc_share hC hk hR hw hl (p16 _) kk
      · refine lv_tableIn (off := 1222) (tgt := 1262) hx hb d_L_law_40 h1 h2 (by rw [hj]; rfl) (by decide) ?_
        exact lc_last hC hk hR hw hl (p17 _) kk
      · refine lv_tableIn (off := 1278) (tgt := 1318) hx hb d_L_law_40 h1 h2 (by rw [hj]; rfl) (by decide) ?_
        exact lc_due hC hk hR hw hl (p18 _) kk
      · refine lv_tableIn (off := 1334) (tgt := 1374) hx hb d_L_law_40 h1 h2 (by rw [hj]; rfl) (by decide) ?_
        exact lc_booked hC hk hR hw hl (p19 _ _) kk
      · refine lv_tableIn (off := 1402) (tgt := 1442) hx hb d_L_law_40 h1 h2 (by rw [hj]; rfl) (by decide) ?_
        exact lc_told hC hk hR hw hl (p20 _ _) kk
      · refine lv_tableIn (off := 1470) (tgt := 1510) hx hb d_L_law_40 h1 h2 (by rw [hj]; rfl) (by decide) ?_
        exact lc_count hC hk hR hw hl (p21 _) kk
end LP
