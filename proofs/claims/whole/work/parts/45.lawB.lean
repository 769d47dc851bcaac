/-! THE LAW: a row for each call of its script -/
section LB
variable {p : Program} {l : Launch} {e : Env} {s : State} {m : MethodId} {args : Array Value} {below : List Frame} {meth : Method} {c : Code} {H : Heap} {locs : List Loc} {cells slots : Nat} {Q : State → Prop} {ls : Array Slot} {D : va_G} {tc : Nat → ClassId} {sa : Nat → Nat} {b L : Nat} {xs : Nat → Int32}
def pv_place (J : (Nat → Nat → Nat → Int32) → (Nat → Nat) → (Nat → Nat → Int32) → Prop) (x1 : Int32) (g : Nat → Nat → Nat → Int32) (N : Nat → Nat) (μ : Nat → Nat → Int32) : Prop := kC_place x1 g N ∧ kM_place x1 μ ∧ (∀ E, (fC_place x1 g N).1 = some E → E = "java/lang/IllegalArgumentException" ∨ E = "java/lang/UnsupportedOperationException") ∧ (fM_place x1 μ).2 0 0 = cd ["java/lang/IllegalArgumentException", "java/lang/UnsupportedOperationException"] (fC_place x1 g N).1 ∧ ((fC_place x1 g N).1 = none → (fC_place x1 g N).2.1 = (fM_place x1 μ).1) ∧ J (fC_place x1 g N).2.2.1 (fC_place x1 g N).2.2.2 (fM_place x1 μ).2
set_option maxHeartbeats 4000000 in
set_option maxRecDepth 100000 in
theorem lc_place {J : (Nat → Nat → Nat → Int32) → (Nat → Nat) → (Nat → Nat → Int32) → Prop} {g : Nat → Nat → Nat → Int32} {N : Nat → Nat} {ad : Nat → Nat → Nat} {a : Nat → Nat} {μ : Nat → Nat → Int32} {fo : Nat → Int64} {o k : Nat} (hC : lC p l s m args c D tc sa b L xs) (hk : 6 * k + 6 ≤ L) (hR : cells + 9 ≤ 601024 ∧ slots + 871 ≤ 7293033) (hw : wH D (An s) s.heap (cl tc g N ad ++ ((o, .inl (tc 2, 1, .inr (.inl fo))) :: mo tc a μ)) H locs) (hl : lv_has ls 7 (lo7 b (ad 0 0) (a 0) o k)) (pv : pv_place J (xs (6 * k + 1)) g N μ) (kk : kL p l e s m args below meth c Q D tc b o k cells slots a (ad 0) J) : W p l e room_1 s m args below meth c H locs cells slots Q (F0 m 144 ls []) := by
  obtain ⟨h0, hX, hNc, hXs, hbl, hL, hlt⟩ := id hC
  obtain ⟨hx, hb, hml, hown, hts, hK⟩ := id h0
  have hA : ∀ q : Nat, s.heap.size ≤ q → An s q := fun q h => h
  have hl : lv_has ls 7 [(4, .int (nI (6 * k))), (0, .ref b), (1, .ref (ad 0 0)), (2, .ref (a 0)), (3, .ref o)] := hl
  obtain ⟨k1, k2, hEx, e1, e2, hJ⟩ := pv
  refine lv_aload_n hx hb d_L_law_144 rfl (lv_at hl 2 rfl) ?_
  refine lr_x 1 hC hw hk (by decide) (lv_at hl 1 rfl) (lv_at hl 0 rfl) (by decide) d_L_law_145 d_L_law_146 d_L_law_148 d_L_law_149 d_L_law_150 ?_
  refine lv_aload_n hx hb d_L_law_151 rfl (lv_at hl 4 rfl) ?_
  refine ls_i (wd := fun (u : (Nat → Nat → Nat → Int32) × (Nat → Nat) × (Nat → Nat → Nat) × (Nat → Int64)) => cl tc u.1 u.2.1 u.2.2.1 ++ ((o, .inl (tc 2, 1, .inr (.inl u.2.2.2))) :: mo tc a μ)) (n := 3) (As := [.ref (ad 0 0), .int (xs (6 * k + 1)), .ref o]) (rest := []) h0 hX hNc hw hA (cL_place l hlt D tc sa ad (mo tc a μ) H.size o fo (xs (6 * k + 1)) g N k1 rfl hEx) (gd_W wd_163 wd_164 wd_0 wd_165) (by decide +kernel) ⟨rfl, rfl, (Nat.le_of_ble_eq_true rfl), (Nat.le_of_ble_eq_true rfl), Nat.le_trans (Nat.add_le_add_left (Nat.le_of_ble_eq_true rfl) _) hR.1, Nat.le_trans (Nat.add_le_add_left (Nat.le_of_ble_eq_true rfl) _) hR.2⟩ rfl hl.1 rfl (Nat.le_of_ble_eq_true rfl) d_L_law_152 (fun r u H locs hp hw => ?_)
  obtain ⟨g1, N1, ad1, fo1⟩ := u
  obtain ⟨hr, hg, had, ho⟩ := hp
  have hg1 : g1 = (fC_place (xs (6 * k + 1)) g N).2.2.1 := congrArg (fun z => z.1) hg
  have hg2 : N1 = (fC_place (xs (6 * k + 1)) g N).2.2.2 := congrArg (fun z => z.2) hg
  have had : ad1 0 = ad 0 := had
  have hw : wH D (An s) s.heap (cl tc g1 N1 ad1 ++ ((o, .inl (tc 2, 1, .inr (.inl fo1))) :: mo tc a μ)) H locs := hw
  refine lv_istore (lv' := [(5, .int r), (4, .int (nI (6 * k))), (0, .ref b), (1, .ref (ad 0 0)), (2, .ref (a 0)), (3, .ref o)]) hx hb d_L_law_155 hl (by decide) rfl (fun ls hl => ?_)
  refine lv_aload_n hx hb d_L_law_157 rfl (lv_at hl 4 rfl) ?_
  refine lr_x 1 hC hw hk (by decide) (lv_at hl 2 rfl) (lv_at hl 1 rfl) (by decide) d_L_law_158 d_L_law_159 d_L_law_161 d_L_law_162 d_L_law_163 ?_
  refine lm_i (n := 1) (As := [.int (xs (6 * k + 1))]) (rest := []) h0 hw hA (fun Y sz => cM_place l D tc a Y sz (xs (6 * k + 1)) μ k2 rfl) (gd_V wd_706 wd_707 wd_708 wd_3 wd_709) (by decide +kernel) ⟨rfl, rfl, (Nat.le_of_ble_eq_true rfl), (Nat.le_of_ble_eq_true rfl), Nat.le_trans (Nat.add_le_add_left (Nat.le_of_ble_eq_true rfl) _) hR.1, Nat.le_trans (Nat.add_le_add_left (Nat.le_of_ble_eq_true rfl) _) hR.2⟩ rfl hl.1 rfl (Nat.le_of_ble_eq_true rfl) d_L_law_164 (fun H locs hw => ?_)
  refine lv_istore (lv' := [(6, .int (fM_place (xs (6 * k + 1)) μ).1), (5, .int r), (4, .int (nI (6 * k))), (0, .ref b), (1, .ref (ad 0 0)), (2, .ref (a 0)), (3, .ref o)]) hx hb d_L_law_167 hl (by decide) rfl (fun ls hl => ?_)
  refine lv_aload_n hx hb d_L_law_169 rfl (lv_at hl 5 rfl) ?_
  refine lm_t (rest := []) h0 hw (gd_V wd_702 wd_703 wd_704 wd_3 wd_705) ⟨(Nat.le_of_ble_eq_true rfl), (Nat.le_of_ble_eq_true rfl), Nat.le_trans (Nat.add_le_add_left (Nat.le_of_ble_eq_true rfl) _) hR.1, Nat.le_trans (Nat.add_le_add_left (Nat.le_of_ble_eq_true rfl) _) hR.2⟩ hl.1 (Nat.le_of_ble_eq_true rfl) d_L_law_170 ?_
  refine lv_iload hx hb d_L_law_173 (lv_at hl 1 rfl) ?_
  refine lv_icmp_eq (tgt := 180) hx hb d_L_law_175 (by decide) (fun _ => ?_) (fun c1 => absurd (e1.trans hr.symm) c1)
  have hend : ∀ z : Nat, z = 0 → W p l e room_1 s m args below meth c H locs (cells + 2) (slots + 10) Q (F0 m 197 ls []) := by
    intro _ _
    refine lv_goto (tgt := 1535) hx hb d_L_law_197 (by decide) ?_
    exact W.widen (k := cells + 9) (n := slots + 871) (Nat.add_le_add_left (Nat.le_of_ble_eq_true rfl) _) (Nat.add_le_add_left (Nat.le_of_ble_eq_true rfl) _) (kk _ _ _ _ _ _ _ _ (by rw [hg1, hg2]; exact hJ) had hw (lv_sub hl [2, 3, 4, 5, 6] rfl))
  refine lv_iload hx hb d_L_law_180 (lv_at hl 1 rfl) ?_
  refine lv_if_ne (tgt := 197) hx hb d_L_law_182 (by decide) (fun _ => hend 0 rfl) (fun c2 => ?_)
  have hn : (fC_place (xs (6 * k + 1)) g N).1 = none := cd_0 (by decide) (hr.symm.trans c2)
  have ho1 := ho hn
  have e3 := e2 hn
  refine lv_aload_n hx hb d_L_law_185 rfl (lv_at hl 6 rfl) ?_
  refine lv_iconst (v := 0) hx hb d_L_law_186 (by decide) ?_
  refine va_lald hx hb hK hw.1 (cl tc g1 N1 ad1).length 2 (n := 1) (f := fo1) (cA := tc 2) (lc_get _ _) rfl (by unfold vp_in; decide) d_L_law_187 ?_
  refine lv_iload hx hb d_L_law_188 (lv_at hl 0 rfl) ?_
  refine lv_i2l hx hb d_L_law_190 rfl ?_
  refine W.lcmp hx hb d_L_law_191 ?_
  refine lv_if_eq (tgt := 197) hx hb d_L_law_192 (by decide) (fun _ => hend 0 rfl) (fun c3 => absurd ((lg_cmp_eq _ _).mpr ?_) c3)
  rw [← e3]
  exact ho1
def pv_stock (J : (Nat → Nat → Nat → Int32) → (Nat → Nat) → (Nat → Nat → Int32) → Prop) (x1 : Int32) (x2 : Int32) (x3 : Int32) (g : Nat → Nat → Nat → Int32) (N : Nat → Nat) (μ : Nat → Nat → Int32) : Prop := kC_stock x1 x2 x3 g N ∧ kM_stock x1 x2 x3 μ ∧ (∀ E, (fC_stock x1 x2 x3 g N).1 = some E → E = "java/util/NoSuchElementException" ∨ E = "java/lang/IllegalArgumentException") ∧ (fM_stock x1 x2 x3 μ) 0 0 = cd ["java/util/NoSuchElementException", "java/lang/IllegalArgumentException"] (fC_stock x1 x2 x3 g N).1 ∧ J (fC_stock x1 x2 x3 g N).2.2 N (fM_stock x1 x2 x3 μ)
set_option maxHeartbeats 4000000 in
set_option maxRecDepth 100000 in
theorem lc_stock {J : (Nat → Nat → Nat → Int32) → (Nat → Nat) → (Nat → Nat → Int32) → Prop} {g : Nat → Nat → Nat → Int32} {N : Nat → Nat} {ad : Nat → Nat → Nat} {a : Nat → Nat} {μ : Nat → Nat → Int32} {fo : Nat → Int64} {o k : Nat} (hC : lC p l s m args c D tc sa b L xs) (hk : 6 * k + 6 ≤ L) (hR : cells + 9 ≤ 601024 ∧ slots + 871 ≤ 7293033) (hw : wH D (An s) s.heap (cl tc g N ad ++ ((o, .inl (tc 2, 1, .inr (.inl fo))) :: mo tc a μ)) H locs) (hl : lv_has ls 7 (lo7 b (ad 0 0) (a 0) o k)) (pv : pv_stock J (xs (6 * k + 1)) (xs (6 * k + 2)) (xs (6 * k + 3)) g N μ) (kk : kL p l e s m args below meth c Q D tc b o k cells slots a (ad 0) J) : W p l e room_1 s m args below meth c H locs cells slots Q (F0 m 200 ls []) := by
  obtain ⟨h0, hX, hNc, hXs, hbl, hL, hlt⟩ := id hC
  obtain ⟨hx, hb, hml, hown, hts, hK⟩ := id h0
  have hA : ∀ q : Nat, s.heap.size ≤ q → An s q := fun q h => h
  have hl : lv_has ls 7 [(4, .int (nI (6 * k))), (0, .ref b), (1, .ref (ad 0 0)), (2, .ref (a 0)), (3, .ref o)] := hl
  obtain ⟨k1, k2, hEx, e1, hJ⟩ := pv
  refine lv_aload_n hx hb d_L_law_200 rfl (lv_at hl 2 rfl) ?_
  refine lr_x 1 hC hw hk (by decide) (lv_at hl 1 rfl) (lv_at hl 0 rfl) (by decide) d_L_law_201 d_L_law_202 d_L_law_204 d_L_law_205 d_L_law_206 ?_
  refine lr_x 2 hC hw hk (by decide) (lv_at hl 1 rfl) (lv_at hl 0 rfl) (by decide) d_L_law_207 d_L_law_208 d_L_law_210 d_L_law_211 d_L_law_212 ?_
  refine lr_x 3 hC hw hk (by decide) (lv_at hl 1 rfl) (lv_at hl 0 rfl) (by decide) d_L_law_213 d_L_law_214 d_L_law_216 d_L_law_217 d_L_law_218 ?_
  refine ls_i (wd := fun (u : Nat → Nat → Nat → Int32) => cl tc u N ad ++ ((o, .inl (tc 2, 1, .inr (.inl fo))) :: mo tc a μ)) (n := 4) (As := [.ref (ad 0 0), .int (xs (6 * k + 1)), .int (xs (6 * k + 2)), .int (xs (6 * k + 3))]) (rest := []) h0 hX hNc hw hA (cL_stock l hlt D tc sa ad ((o, .inl (tc 2, 1, .inr (.inl fo))) :: mo tc a μ) H.size (xs (6 * k + 1)) (xs (6 * k + 2)) (xs (6 * k + 3)) g N k1 rfl hEx) (gd_W wd_228 wd_229 wd_0 wd_230) (by decide +kernel) ⟨rfl, rfl, (Nat.le_of_ble_eq_true rfl), (Nat.le_of_ble_eq_true rfl), Nat.le_trans (Nat.add_le_add_left (Nat.le_of_ble_eq_true rfl) _) hR.1, Nat.le_trans (Nat.add_le_add_left (Nat.le_of_ble_eq_true rfl) _) hR.2⟩ rfl hl.1 rfl (Nat.le_of_ble_eq_true rfl) d_L_law_219 (fun r u H locs hp hw => ?_)
  obtain ⟨hr, hg1⟩ := hp
  have hw : wH D (An s) s.heap (cl tc u N ad ++ ((o, .inl (tc 2, 1, .inr (.inl fo))) :: mo tc a μ)) H locs := hw
  refine lv_istore (lv' := [(5, .int r), (4, .int (nI (6 * k))), (0, .ref b), (1, .ref (ad 0 0)), (2, .ref (a 0)), (3, .ref o)]) hx hb d_L_law_222 hl (by decide) rfl (fun ls hl => ?_)
  refine lv_aload_n hx hb d_L_law_224 rfl (lv_at hl 4 rfl) ?_
  refine lr_x 1 hC hw hk (by decide) (lv_at hl 2 rfl) (lv_at hl 1 rfl) (by decide) d_L_law_225 d_L_law_226 d_L_law_228 d_L_law_229 d_L_law_230 ?_
  refine lr_x 2 hC hw hk (by decide) (lv_at hl 2 rfl) (lv_at hl 1 rfl) (by decide) d_L_law_231 d_L_law_232 d_L_law_234 d_L_law_235 d_L_law_236 ?_
  refine lr_x 3 hC hw hk (by decide) (lv_at hl 2 rfl) (lv_at hl 1 rfl) (by decide) d_L_law_237 d_L_law_238 d_L_law_240 d_L_law_241 d_L_law_242 ?_
  refine lm_v (n := 3) (As := [.int (xs (6 * k + 1)), .int (xs (6 * k + 2)), .int (xs (6 * k + 3))]) (rest := []) h0 hw hA (fun Y sz => cM_stock l D tc a Y sz (xs (6 * k + 1)) (xs (6 * k + 2)) (xs (6 * k + 3)) μ k2 rfl) (gd_V wd_713 wd_714 wd_715 wd_3 wd_716) (by decide +kernel) ⟨rfl, rfl, (Nat.le_of_ble_eq_true rfl), (Nat.le_of_ble_eq_true rfl), Nat.le_trans (Nat.add_le_add_left (Nat.le_of_ble_eq_true rfl) _) hR.1, Nat.le_trans (Nat.add_le_add_left (Nat.le_of_ble_eq_true rfl) _) hR.2⟩ rfl hl.1 rfl (Nat.le_of_ble_eq_true rfl) d_L_law_243 (fun H locs hw => ?_)
  refine lv_aload_n hx hb d_L_law_246 rfl (lv_at hl 4 rfl) ?_
  refine lm_t (rest := []) h0 hw (gd_V wd_702 wd_703 wd_704 wd_3 wd_705) ⟨(Nat.le_of_ble_eq_true rfl), (Nat.le_of_ble_eq_true rfl), Nat.le_trans (Nat.add_le_add_left (Nat.le_of_ble_eq_true rfl) _) hR.1, Nat.le_trans (Nat.add_le_add_left (Nat.le_of_ble_eq_true rfl) _) hR.2⟩ hl.1 (Nat.le_of_ble_eq_true rfl) d_L_law_247 ?_
  refine lv_iload hx hb d_L_law_250 (lv_at hl 0 rfl) ?_
  refine lv_icmp_eq (tgt := 257) hx hb d_L_law_252 (by decide) (fun _ => ?_) (fun c1 => absurd (e1.trans hr.symm) c1)
  refine lv_goto (tgt := 1535) hx hb d_L_law_257 (by decide) ?_
  exact W.widen (k := cells + 9) (n := slots + 871) (Nat.add_le_add_left (Nat.le_of_ble_eq_true rfl) _) (Nat.add_le_add_left (Nat.le_of_ble_eq_true rfl) _) (kk _ _ _ _ _ _ _ _ (by rw [hg1]; exact hJ) rfl hw (lv_sub hl [1, 2, 3, 4, 5] rfl))
def pv_cycle (J : (Nat → Nat → Nat → Int32) → (Nat → Nat) → (Nat → Nat → Int32) → Prop) (x1 : Int32) (x2 : Int32) (x3 : Int32) (g : Nat → Nat → Nat → Int32) (N : Nat → Nat) (μ : Nat → Nat → Int32) : Prop := kC_cycle x1 x2 x3 g N ∧ kM_cycle x1 x2 x3 μ ∧ (∀ E, (fC_cycle x1 x2 x3 g N).1 = some E → E = "java/lang/IllegalArgumentException") ∧ (fM_cycle x1 x2 x3 μ) 0 0 = cd ["java/lang/IllegalArgumentException"] (fC_cycle x1 x2 x3 g N).1 ∧ J (fC_cycle x1 x2 x3 g N).2.2 N (fM_cycle x1 x2 x3 μ)
set_option maxHeartbeats 4000000 in
set_option maxRecDepth 100000 in
theorem lc_cycle {J : (Nat → Nat → Nat → Int32) → (Nat → Nat) → (Nat → Nat → Int32) → Prop} {g : Nat → Nat → Nat → Int32} {N : Nat → Nat} {ad : Nat → Nat → Nat} {a : Nat → Nat} {μ : Nat → Nat → Int32} {fo : Nat → Int64} {o k : Nat} (hC : lC p l s m args c D tc sa b L xs) (hk : 6 * k + 6 ≤ L) (hR : cells + 9 ≤ 601024 ∧ slots + 871 ≤ 7293033) (hw : wH D (An s) s.heap (cl tc g N ad ++ ((o, .inl (tc 2, 1, .inr (.inl fo))) :: mo tc a μ)) H locs) (hl : lv_has ls 7 (lo7 b (ad 0 0) (a 0) o k)) (pv : pv_cycle J (xs (6 * k + 1)) (xs (6 * k + 2)) (xs (6 * k + 3)) g N μ) (kk : kL p l e s m args below meth c Q D tc b o k cells slots a (ad 0) J) : W p l e room_1 s m args below meth c H locs cells slots Q (F0 m 260 ls []) := by
  obtain ⟨h0, hX, hNc, hXs, hbl, hL, hlt⟩ := id hC
  obtain ⟨hx, hb, hml, hown, hts, hK⟩ := id h0
  have hA : ∀ q : Nat, s.heap.size ≤ q → An s q := fun q h => h
  have hl : lv_has ls 7 [(4, .int (nI (6 * k))), (0, .ref b), (1, .ref (ad 0 0)), (2, .ref (a 0)), (3, .ref o)] := hl
  obtain ⟨k1, k2, hEx, e1, hJ⟩ := pv
  refine lv_aload_n hx hb d_L_law_260 rfl (lv_at hl 2 rfl) ?_
  refine lr_x 1 hC hw hk (by decide) (lv_at hl 1 rfl) (lv_at hl 0 rfl) (by decide) d_L_law_261 d_L_law_262 d_L_law_264 d_L_law_265 d_L_law_266 ?_
  refine lr_x 2 hC hw hk (by decide) (lv_at hl 1 rfl) (lv_at hl 0 rfl) (by decide) d_L_law_267 d_L_law_268 d_L_law_270 d_L_law_271 d_L_law_272 ?_
  refine lr_x 3 hC hw hk (by decide) (lv_at hl 1 rfl) (lv_at hl 0 rfl) (by decide) d_L_law_273 d_L_law_274 d_L_law_276 d_L_law_277 d_L_law_278 ?_
  refine ls_i (wd := fun (u : Nat → Nat → Nat → Int32) => cl tc u N ad ++ ((o, .inl (tc 2, 1, .inr (.inl fo))) :: mo tc a μ)) (n := 4) (As := [.ref (ad 0 0), .int (xs (6 * k + 1)), .int (xs (6 * k + 2)), .int (xs (6 * k + 3))]) (rest := []) h0 hX hNc hw hA (cL_cycle l hlt D tc sa ad ((o, .inl (tc 2, 1, .inr (.inl fo))) :: mo tc a μ) H.size (xs (6 * k + 1)) (xs (6 * k + 2)) (xs (6 * k + 3)) g N k1 rfl hEx) (gd_W wd_249 wd_250 wd_0 wd_251) (by decide +kernel) ⟨rfl, rfl, (Nat.le_of_ble_eq_true rfl), (Nat.le_of_ble_eq_true rfl), Nat.le_trans (Nat.add_le_add_left (Nat.le_of_ble_eq_true rfl) _) hR.1, Nat.le_trans (Nat.add_le_add_left (Nat.le_of_ble_eq_true rfl) _) hR.2⟩ rfl hl.1 rfl (Nat.le_of_ble_eq_true rfl) d_L_law_279 (fun r u H locs hp hw => ?_)
  obtain ⟨hr, hg1⟩ := hp
  have hw : wH D (An s) s.heap (cl tc u N ad ++ ((o, .inl (tc 2, 1, .inr (.inl fo))) :: mo tc a μ)) H locs := hw
  refine lv_istore (lv' := [(5, .int r), (4, .int (nI (6 * k))), (0, .ref b), (1, .ref (ad 0 0)), (2, .ref (a 0)), (3, .ref o)]) hx hb d_L_law_282 hl (by decide) rfl (fun ls hl => ?_)
  refine lv_aload_n hx hb d_L_law_284 rfl (lv_at hl 4 rfl) ?_
  refine lr_x 1 hC hw hk (by decide) (lv_at hl 2 rfl) (lv_at hl 1 rfl) (by decide) d_L_law_285 d_L_law_286 d_L_law_288 d_L_law_289 d_L_law_290 ?_
  refine lr_x 2 hC hw hk (by decide) (lv_at hl 2 rfl) (lv_at hl 1 rfl) (by decide) d_L_law_291 d_L_law_292 d_L_law_294 d_L_law_295 d_L_law_296 ?_
  refine lr_x 3 hC hw hk (by decide) (lv_at hl 2 rfl) (lv_at hl 1 rfl) (by decide) d_L_law_297 d_L_law_298 d_L_law_300 d_L_law_301 d_L_law_302 ?_
  refine lm_v (n := 3) (As := [.int (xs (6 * k + 1)), .int (xs (6 * k + 2)), .int (xs (6 * k + 3))]) (rest := []) h0 hw hA (fun Y sz => cM_cycle l D tc a Y sz (xs (6 * k + 1)) (xs (6 * k + 2)) (xs (6 * k + 3)) μ k2 rfl) (gd_V wd_725 wd_726 wd_727 wd_3 wd_728) (by decide +kernel) ⟨rfl, rfl, (Nat.le_of_ble_eq_true rfl), (Nat.le_of_ble_eq_true rfl), Nat.le_trans (Nat.add_le_add_left (Nat.le_of_ble_eq_true rfl) _) hR.1, Nat.le_trans (Nat.add_le_add_left (Nat.le_of_ble_eq_true rfl) _) hR.2⟩ rfl hl.1 rfl (Nat.le_of_ble_eq_true rfl) d_L_law_303 (fun H locs hw => ?_)
  refine lv_aload_n hx hb d_L_law_306 rfl (lv_at hl 4 rfl) ?_
  refine lm_t (rest := []) h0 hw (gd_V wd_702 wd_703 wd_704 wd_3 wd_705) ⟨(Nat.le_of_ble_eq_true rfl), (Nat.le_of_ble_eq_true rfl), Nat.le_trans (Nat.add_le_add_left (Nat.le_of_ble_eq_true rfl) _) hR.1, Nat.le_trans (Nat.add_le_add_left (Nat.le_of_ble_eq_true rfl) _) hR.2⟩ hl.1 (Nat.le_of_ble_eq_true rfl) d_L_law_307 ?_
  refine lv_iload hx hb d_L_law_310 (lv_at hl 0 rfl) ?_
  refine lv_icmp_eq (tgt := 317) hx hb d_L_law_312 (by decide) (fun _ => ?_) (fun c1 => absurd (e1.trans hr.symm) c1)
  refine lv_goto (tgt := 1535) hx hb d_L_law_317 (by decide) ?_
  exact W.widen (k := cells + 9) (n := slots + 871) (Nat.add_le_add_left (Nat.le_of_ble_eq_true rfl) _) (Nat.add_le_add_left (Nat.le_of_ble_eq_true rfl) _) (kk _ _ _ _ _ _ _ _ (by rw [hg1]; exact hJ) rfl hw (lv_sub hl [1, 2, 3, 4, 5] rfl))
def pv_right (J : (Nat → Nat → Nat → Int32) → (Nat → Nat) → (Nat → Nat → Int32) → Prop) (x1 : Int32) (x2 : Int32) (g : Nat → Nat → Nat → Int32) (N : Nat → Nat) (μ : Nat → Nat → Int32) : Prop := kC_right x1 x2 g N ∧ kM_right x1 x2 μ ∧ (∀ E, (fC_right x1 x2 g N).1 = some E → E = "java/lang/IllegalArgumentException") ∧ (fM_right x1 x2 μ) 0 0 = cd ["java/lang/IllegalArgumentException"] (fC_right x1 x2 g N).1 ∧ J (fC_right x1 x2 g N).2.2 N (fM_right x1 x2 μ)
set_option maxHeartbeats 4000000 in
set_option maxRecDepth 100000 in
theorem lc_right {J : (Nat → Nat → Nat → Int32) → (Nat → Nat) → (Nat → Nat → Int32) → Prop} {g : Nat → Nat → Nat → Int32} {N : Nat → Nat} {ad : Nat → Nat → Nat} {a : Nat → Nat} {μ : Nat → Nat → Int32} {fo : Nat → Int64} {o k : Nat} (hC : lC p l s m args c D tc sa b L xs) (hk : 6 * k + 6 ≤ L) (hR : cells + 9 ≤ 601024 ∧ slots + 871 ≤ 7293033) (hw : wH D (An s) s.heap (cl tc g N ad ++ ((o, .inl (tc 2, 1, .inr (.inl fo))) :: mo tc a μ)) H locs) (hl : lv_has ls 7 (lo7 b (ad 0 0) (a 0) o k)) (pv : pv_right J (xs (6 * k + 1)) (xs (6 * k + 2)) g N μ) (kk : kL p l e s m args below meth c Q D tc b o k cells slots a (ad 0) J) : W p l e room_1 s m args below meth c H locs cells slots Q (F0 m 320 ls []) := by
  obtain ⟨h0, hX, hNc, hXs, hbl, hL, hlt⟩ := id hC
  obtain ⟨hx, hb, hml, hown, hts, hK⟩ := id h0
  have hA : ∀ q : Nat, s.heap.size ≤ q → An s q := fun q h => h
  have hl : lv_has ls 7 [(4, .int (nI (6 * k))), (0, .ref b), (1, .ref (ad 0 0)), (2, .ref (a 0)), (3, .ref o)] := hl
  obtain ⟨k1, k2, hEx, e1, hJ⟩ := pv
  refine lv_aload_n hx hb d_L_law_320 rfl (lv_at hl 2 rfl) ?_
  refine lr_x 1 hC hw hk (by decide) (lv_at hl 1 rfl) (lv_at hl 0 rfl) (by decide) d_L_law_321 d_L_law_322 d_L_law_324 d_L_law_325 d_L_law_326 ?_
  refine lr_x 2 hC hw hk (by decide) (lv_at hl 1 rfl) (lv_at hl 0 rfl) (by decide) d_L_law_327 d_L_law_328 d_L_law_330 d_L_law_331 d_L_law_332 ?_
  refine ls_i (wd := fun (u : Nat → Nat → Nat → Int32) => cl tc u N ad ++ ((o, .inl (tc 2, 1, .inr (.inl fo))) :: mo tc a μ)) (n := 3) (As := [.ref (ad 0 0), .int (xs (6 * k + 1)), .int (xs (6 * k + 2))]) (rest := []) h0 hX hNc hw hA (cL_right l hlt D tc sa ad ((o, .inl (tc 2, 1, .inr (.inl fo))) :: mo tc a μ) H.size (xs (6 * k + 1)) (xs (6 * k + 2)) g N k1 rfl hEx) (gd_W wd_257 wd_258 wd_0 wd_259) (by decide +kernel) ⟨rfl, rfl, (Nat.le_of_ble_eq_true rfl), (Nat.le_of_ble_eq_true rfl), Nat.le_trans (Nat.add_le_add_left (Nat.le_of_ble_eq_true rfl) _) hR.1, Nat.le_trans (Nat.add_le_add_left (Nat.le_of_ble_eq_true rfl) _) hR.2⟩ rfl hl.1 rfl (Nat.le_of_ble_eq_true rfl) d_L_law_333 (fun r u H locs hp hw => ?_)
  obtain ⟨hr, hg1⟩ := hp
  have hw : wH D (An s) s.heap (cl tc u N ad ++ ((o, .inl (tc 2, 1, .inr (.inl fo))) :: mo tc a μ)) H locs := hw
  refine lv_istore (lv' := [(5, .int r), (4, .int (nI (6 * k))), (0, .ref b), (1, .ref (ad 0 0)), (2, .ref (a 0)), (3, .ref o)]) hx hb d_L_law_336 hl (by decide) rfl (fun ls hl => ?_)
  refine lv_aload_n hx hb d_L_law_338 rfl (lv_at hl 4 rfl) ?_
  refine lr_x 1 hC hw hk (by decide) (lv_at hl 2 rfl) (lv_at hl 1 rfl) (by decide) d_L_law_339 d_L_law_340 d_L_law_342 d_L_law_343 d_L_law_344 ?_
  refine lr_x 2 hC hw hk (by decide) (lv_at hl 2 rfl) (lv_at hl 1 rfl) (by decide) d_L_law_345 d_L_law_346 d_L_law_348 d_L_law_349 d_L_law_350 ?_
  refine lm_v (n := 2) (As := [.int (xs (6 * k + 1)), .int (xs (6 * k + 2))]) (rest := []) h0 hw hA (fun Y sz => cM_right l D tc a Y sz (xs (6 * k + 1)) (xs (6 * k + 2)) μ k2 rfl) (gd_V wd_729 wd_730 wd_731 wd_3 wd_732) (by decide +kernel) ⟨rfl, rfl, (Nat.le_of_ble_eq_true rfl), (Nat.le_of_ble_eq_true rfl), Nat.le_trans (Nat.add_le_add_left (Nat.le_of_ble_eq_true rfl) _) hR.1, Nat.le_trans (Nat.add_le_add_left (Nat.le_of_ble_eq_true rfl) _) hR.2⟩ rfl hl.1 rfl (Nat.le_of_ble_eq_true rfl) d_L_law_351 (fun H locs hw => ?_)
  refine lv_aload_n hx hb d_L_law_354 rfl (lv_at hl 4 rfl) ?_
  refine lm_t (rest := []) h0 hw (gd_V wd_702 wd_703 wd_704 wd_3 wd_705) ⟨(Nat.le_of_ble_eq_true rfl), (Nat.le_of_ble_eq_true rfl), Nat.le_trans (Nat.add_le_add_left (Nat.le_of_ble_eq_true rfl) _) hR.1, Nat.le_trans (Nat.add_le_add_left (Nat.le_of_ble_eq_true rfl) _) hR.2⟩ hl.1 (Nat.le_of_ble_eq_true rfl) d_L_law_355 ?_
  refine lv_iload hx hb d_L_law_358 (lv_at hl 0 rfl) ?_
  refine lv_icmp_eq (tgt := 365) hx hb d_L_law_360 (by decide) (fun _ => ?_) (fun c1 => absurd (e1.trans hr.symm) c1)
  refine lv_goto (tgt := 1535) hx hb d_L_law_365 (by decide) ?_
  exact W.widen (k := cells + 9) (n := slots + 871) (Nat.add_le_add_left (Nat.le_of_ble_eq_true rfl) _) (Nat.add_le_add_left (Nat.le_of_ble_eq_true rfl) _) (kk _ _ _ _ _ _ _ _ (by rw [hg1]; exact hJ) rfl hw (lv_sub hl [1, 2, 3, 4, 5] rfl))
def pv_setting (J : (Nat → Nat → Nat → Int32) → (Nat → Nat) → (Nat → Nat → Int32) → Prop) (x1 : Int32) (g : Nat → Nat → Nat → Int32) (N : Nat → Nat) (μ : Nat → Nat → Int32) : Prop := kC_setting x1 g N ∧ kM_setting x1 μ ∧ (∀ E, (fC_setting x1 g N).1 = some E → E = "java/lang/IllegalArgumentException") ∧ (fM_setting x1 μ) 0 0 = cd ["java/lang/IllegalArgumentException"] (fC_setting x1 g N).1 ∧ J (fC_setting x1 g N).2.2 N (fM_setting x1 μ)
set_option maxHeartbeats 4000000 in
set_option maxRecDepth 100000 in
theorem lc_setting {J : (Nat → Nat → Nat → Int32) → (Nat → Nat) → (Nat → Nat → Int32) → Prop} {g : Nat → Nat → Nat → Int32} {N : Nat → Nat} {ad : Nat → Nat → Nat} {a : Nat → Nat} {μ : Nat → Nat → Int32} {fo : Nat → Int64} {o k : Nat} (hC : lC p l s m args c D tc sa b L xs) (hk : 6 * k + 6 ≤ L) (hR : cells + 9 ≤ 601024 ∧ slots + 871 ≤ 7293033) (hw : wH D (An s) s.heap (cl tc g N ad ++ ((o, .inl (tc 2, 1, .inr (.inl fo))) :: mo tc a μ)) H locs) (hl : lv_has ls 7 (lo7 b (ad 0 0) (a 0) o k)) (pv : pv_setting J (xs (6 * k + 1)) g N μ) (kk : kL p l e s m args below meth c Q D tc b o k cells slots a (ad 0) J) : W p l e room_1 s m args below meth c H locs cells slots Q (F0 m 368 ls []) := by
  obtain ⟨h0, hX, hNc, hXs, hbl, hL, hlt⟩ := id hC
  obtain ⟨hx, hb, hml, hown, hts, hK⟩ := id h0
  have hA : ∀ q : Nat, s.heap.size ≤ q → An s q := fun q h => h
  have hl : lv_has ls 7 [(4, .int (nI (6 * k))), (0, .ref b), (1, .ref (ad 0 0)), (2, .ref (a 0)), (3, .ref o)] := hl
  obtain ⟨k1, k2, hEx, e1, hJ⟩ := pv
  refine lv_aload_n hx hb d_L_law_368 rfl (lv_at hl 2 rfl) ?_
  refine lr_x 1 hC hw hk (by decide) (lv_at hl 1 rfl) (lv_at hl 0 rfl) (by decide) d_L_law_369 d_L_law_370 d_L_law_372 d_L_law_373 d_L_law_374 ?_
  refine ls_i (wd := fun (u : Nat → Nat → Nat → Int32) => cl tc u N ad ++ ((o, .inl (tc 2, 1, .inr (.inl fo))) :: mo tc a μ)) (n := 2) (As := [.ref (ad 0 0), .int (xs (6 * k + 1))]) (rest := []) h0 hX hNc hw hA (cL_setting l hlt D tc sa ad ((o, .inl (tc 2, 1, .inr (.inl fo))) :: mo tc a μ) H.size (xs (6 * k + 1)) g N k1 rfl hEx) (gd_W wd_268 wd_269 wd_0 wd_270) (by decide +kernel) ⟨rfl, rfl, (Nat.le_of_ble_eq_true rfl), (Nat.le_of_ble_eq_true rfl), Nat.le_trans (Nat.add_le_add_left (Nat.le_of_ble_eq_true rfl) _) hR.1, Nat.le_trans (Nat.add_le_add_left (Nat.le_of_ble_eq_true rfl) _) hR.2⟩ rfl hl.1 rfl (Nat.le_of_ble_eq_true rfl) d_L_law_375 (fun r u H locs hp hw => ?_)
  obtain ⟨hr, hg1⟩ := hp
  have hw : wH D (An s) s.heap (cl tc u N ad ++ ((o, .inl (tc 2, 1, .inr (.inl fo))) :: mo tc a μ)) H locs := hw
  refine lv_istore (lv' := [(5, .int r), (4, .int (nI (6 * k))), (0, .ref b), (1, .ref (ad 0 0)), (2, .ref (a 0)), (3, .ref o)]) hx hb d_L_law_378 hl (by decide) rfl (fun ls hl => ?_)
  refine lv_aload_n hx hb d_L_law_380 rfl (lv_at hl 4 rfl) ?_
  refine lr_x 1 hC hw hk (by decide) (lv_at hl 2 rfl) (lv_at hl 1 rfl) (by decide) d_L_law_381 d_L_law_382 d_L_law_384 d_L_law_385 d_L_law_386 ?_
  refine lm_v (n := 1) (As := [.int (xs (6 * k + 1))]) (rest := []) h0 hw hA (fun Y sz => cM_setting l D tc a Y sz (xs (6 * k + 1)) μ k2 rfl) (gd_V wd_736 wd_737 wd_738 wd_3 wd_739) (by decide +kernel) ⟨rfl, rfl, (Nat.le_of_ble_eq_true rfl), (Nat.le_of_ble_eq_true rfl), Nat.le_trans (Nat.add_le_add_left (Nat.le_of_ble_eq_true rfl) _) hR.1, Nat.le_trans (Nat.add_le_add_left (Nat.le_of_ble_eq_true rfl) _) hR.2⟩ rfl hl.1 rfl (Nat.le_of_ble_eq_true rfl) d_L_law_387 (fun H locs hw => ?_)
  refine lv_aload_n hx hb d_L_law_390 rfl (lv_at hl 4 rfl) ?_
  refine lm_t (rest := []) h0 hw (gd_V wd_702 wd_703 wd_704 wd_3 wd_705) ⟨(Nat.le_of_ble_eq_true rfl), (Nat.le_of_ble_eq_true rfl), Nat.le_trans (Nat.add_le_add_left (Nat.le_of_ble_eq_true rfl) _) hR.1, Nat.le_trans (Nat.add_le_add_left (Nat.le_of_ble_eq_true rfl) _) hR.2⟩ hl.1 (Nat.le_of_ble_eq_true rfl) d_L_law_391 ?_
  refine lv_iload hx hb d_L_law_394 (lv_at hl 0 rfl) ?_
  refine lv_icmp_eq (tgt := 401) hx hb d_L_law_396 (by decide) (fun _ => ?_) (fun c1 => absurd (e1.trans hr.symm) c1)
  refine lv_goto (tgt := 1535) hx hb d_L_law_401 (by decide) ?_
  exact W.widen (k := cells + 9) (n := slots + 871) (Nat.add_le_add_left (Nat.le_of_ble_eq_true rfl) _) (Nat.add_le_add_left (Nat.le_of_ble_eq_true rfl) _) (kk _ _ _ _ _ _ _ _ (by rw [hg1]; exact hJ) rfl hw (lv_sub hl [1, 2, 3, 4, 5] rfl))
def pv_day (J : (Nat → Nat → Nat → Int32) → (Nat → Nat) → (Nat → Nat → Int32) → Prop) (x1 : Int32) (g : Nat → Nat → Nat → Int32) (N : Nat → Nat) (μ : Nat → Nat → Int32) : Prop := kC_day x1 g N ∧ kM_day x1 μ ∧ (∀ E, (fC_day x1 g N).1 = some E → E = "java/lang/IllegalArgumentException" ∨ E = "java/lang/IllegalStateException") ∧ (fM_day x1 μ) 0 0 = cd ["java/lang/IllegalArgumentException", "java/lang/IllegalStateException"] (fC_day x1 g N).1 ∧ J (fC_day x1 g N).2.2 N (fM_day x1 μ)
set_option maxHeartbeats 4000000 in
set_option maxRecDepth 100000 in
theorem lc_day {J : (Nat → Nat → Nat → Int32) → (Nat → Nat) → (Nat → Nat → Int32) → Prop} {g : Nat → Nat → Nat → Int32} {N : Nat → Nat} {ad : Nat → Nat → Nat} {a : Nat → Nat} {μ : Nat → Nat → Int32} {fo : Nat → Int64} {o k : Nat} (hC : lC p l s m args c D tc sa b L xs) (hk : 6 * k + 6 ≤ L) (hR : cells + 9 ≤ 601024 ∧ slots + 871 ≤ 7293033) (hw : wH D (An s) s.heap (cl tc g N ad ++ ((o, .inl (tc 2, 1, .inr (.inl fo))) :: mo tc a μ)) H locs) (hl : lv_has ls 7 (lo7 b (ad 0 0) (a 0) o k)) (pv : pv_day J (xs (6 * k + 1)) g N μ) (kk : kL p l e s m args below meth c Q D tc b o k cells slots a (ad 0) J) : W p l e room_1 s m args below meth c H locs cells slots Q (F0 m 404 ls []) := by
  obtain ⟨h0, hX, hNc, hXs, hbl, hL, hlt⟩ := id hC
  obtain ⟨hx, hb, hml, hown, hts, hK⟩ := id h0
  have hA : ∀ q : Nat, s.heap.size ≤ q → An s q := fun q h => h
  have hl : lv_has ls 7 [(4, .int (nI (6 * k))), (0, .ref b), (1, .ref (ad 0 0)), (2, .ref (a 0)), (3, .ref o)] := hl
  obtain ⟨k1, k2, hEx, e1, hJ⟩ := pv
  refine lv_aload_n hx hb d_L_law_404 rfl (lv_at hl 2 rfl) ?_
  refine lr_x 1 hC hw hk (by decide) (lv_at hl 1 rfl) (lv_at hl 0 rfl) (by decide) d_L_law_405 d_L_law_406 d_L_law_408 d_L_law_409 d_L_law_410 ?_
  refine ls_i (wd := fun (u : Nat → Nat → Nat → Int32) => cl tc u N ad ++ ((o, .inl (tc 2, 1, .inr (.inl fo))) :: mo tc a μ)) (n := 2) (As := [.ref (ad 0 0), .int (xs (6 * k + 1))]) (rest := []) h0 hX hNc hw hA (cL_day l hlt D tc sa ad ((o, .inl (tc 2, 1, .inr (.inl fo))) :: mo tc a μ) H.size (xs (6 * k + 1)) g N k1 rfl hEx) (gd_W wd_276 wd_277 wd_0 wd_278) (by decide +kernel) ⟨rfl, rfl, (Nat.le_of_ble_eq_true rfl), (Nat.le_of_ble_eq_true rfl), Nat.le_trans (Nat.add_le_add_left (Nat.le_of_ble_eq_true rfl) _) hR.1, Nat.le_trans (Nat.add_le_add_left (Nat.le_of_ble_eq_true rfl) _) hR.2⟩ rfl hl.1 rfl (Nat.le_of_ble_eq_true rfl) d_L_law_411 (fun r u H locs hp hw => ?_)
  obtain ⟨hr, hg1⟩ := hp
  have hw : wH D (An s) s.heap (cl tc u N ad ++ ((o, .inl (tc 2, 1, .inr (.inl fo))) :: mo tc a μ)) H locs := hw
  refine lv_istore (lv' := [(5, .int r), (4, .int (nI (6 * k))), (0, .ref b), (1, .ref (ad 0 0)), (2, .ref (a 0)), (3, .ref o)]) hx hb d_L_law_414 hl (by decide) rfl (fun ls hl => ?_)
  refine lv_aload_n hx hb d_L_law_416 rfl (lv_at hl 4 rfl) ?_
  refine lr_x 1 hC hw hk (by decide) (lv_at hl 2 rfl) (lv_at hl 1 rfl) (by decide) d_L_law_417 d_L_law_418 d_L_law_420 d_L_law_421 d_L_law_422 ?_
  refine lm_v (n := 1) (As := [.int (xs (6 * k + 1))]) (rest := []) h0 hw hA (fun Y sz => cM_day l D tc a Y sz (xs (6 * k + 1)) μ k2 rfl) (gd_V wd_740 wd_741 wd_742 wd_3 wd_743) (by decide +kernel) ⟨rfl, rfl, (Nat.le_of_ble_eq_true rfl), (Nat.le_of_ble_eq_true rfl), Nat.le_trans (Nat.add_le_add_left (Nat.le_of_ble_eq_true rfl) _) hR.1, Nat.le_trans (Nat.add_le_add_left (Nat.le_of_ble_eq_true rfl) _) hR.2⟩ rfl hl.1 rfl (Nat.le_of_ble_eq_true rfl) d_L_law_423 (fun H locs hw => ?_)
  refine lv_aload_n hx hb d_L_law_426 rfl (lv_at hl 4 rfl) ?_
  refine lm_t (rest := []) h0 hw (gd_V wd_702 wd_703 wd_704 wd_3 wd_705) ⟨(Nat.le_of_ble_eq_true rfl), (Nat.le_of_ble_eq_true rfl), Nat.le_trans (Nat.add_le_add_left (Nat.le_of_ble_eq_true rfl) _) hR.1, Nat.le_trans (Nat.add_le_add_left (Nat.le_of_ble_eq_true rfl) _) hR.2⟩ hl.1 (Nat.le_of_ble_eq_true rfl) d_L_law_427 ?_
  refine lv_iload hx hb d_L_law_430 (lv_at hl 0 rfl) ?_
  refine lv_icmp_eq (tgt := 437) hx hb d_L_law_432 (by decide) (fun _ => ?_) (fun c1 => absurd (e1.trans hr.symm) c1)
  refine lv_goto (tgt := 1535) hx hb d_L_law_437 (by decide) ?_
  exact W.widen (k := cells + 9) (n := slots + 871) (Nat.add_le_add_left (Nat.le_of_ble_eq_true rfl) _) (Nat.add_le_add_left (Nat.le_of_ble_eq_true rfl) _) (kk _ _ _ _ _ _ _ _ (by rw [hg1]; exact hJ) rfl hw (lv_sub hl [1, 2, 3, 4, 5] rfl))
def pv_move (J : (Nat → Nat → Nat → Int32) → (Nat → Nat) → (Nat → Nat → Int32) → Prop) (x1 : Int32) (x2 : Int32) (x3 : Int32) (x4 : Int32) (g : Nat → Nat → Nat → Int32) (N : Nat → Nat) (μ : Nat → Nat → Int32) : Prop := kC_move x1 x2 x3 x4 g N ∧ kM_move x1 x2 x3 x4 μ ∧ (∀ E, (fC_move x1 x2 x3 x4 g N).1 = some E → E = "java/util/NoSuchElementException" ∨ E = "java/lang/IllegalArgumentException" ∨ E = "java/lang/IllegalStateException" ∨ E = "java/lang/UnsupportedOperationException") ∧ (fM_move x1 x2 x3 x4 μ).2 0 0 = cd ["java/util/NoSuchElementException", "java/lang/IllegalArgumentException", "java/lang/IllegalStateException", "java/lang/UnsupportedOperationException"] (fC_move x1 x2 x3 x4 g N).1 ∧ ((fC_move x1 x2 x3 x4 g N).1 = none → (fC_move x1 x2 x3 x4 g N).2.1 = (fM_move x1 x2 x3 x4 μ).1) ∧ J (fC_move x1 x2 x3 x4 g N).2.2.1 (fC_move x1 x2 x3 x4 g N).2.2.2 (fM_move x1 x2 x3 x4 μ).2
set_option maxHeartbeats 4000000 in
set_option maxRecDepth 100000 in
theorem lc_move {J : (Nat → Nat → Nat → Int32) → (Nat → Nat) → (Nat → Nat → Int32) → Prop} {g : Nat → Nat → Nat → Int32} {N : Nat → Nat} {ad : Nat → Nat → Nat} {a : Nat → Nat} {μ : Nat → Nat → Int32} {fo : Nat → Int64} {o k : Nat} (hC : lC p l s m args c D tc sa b L xs) (hk : 6 * k + 6 ≤ L) (hR : cells + 9 ≤ 601024 ∧ slots + 871 ≤ 7293033) (hw : wH D (An s) s.heap (cl tc g N ad ++ ((o, .inl (tc 2, 1, .inr (.inl fo))) :: mo tc a μ)) H locs) (hl : lv_has ls 7 (lo7 b (ad 0 0) (a 0) o k)) (pv : pv_move J (xs (6 * k + 1)) (xs (6 * k + 2)) (xs (6 * k + 3)) (xs (6 * k + 4)) g N μ) (kk : kL p l e s m args below meth c Q D tc b o k cells slots a (ad 0) J) : W p l e room_1 s m args below meth c H locs cells slots Q (F0 m 440 ls []) := by
  obtain ⟨h0, hX, hNc, hXs, hbl, hL, hlt⟩ := id hC
  obtain ⟨hx, hb, hml, hown, hts, hK⟩ := id h0
  have hA : ∀ q : Nat, s.heap.size ≤ q → An s q := fun q h => h
  have hl : lv_has ls 7 [(4, .int (nI (6 * k))), (0, .ref b), (1, .ref (ad 0 0)), (2, .ref (a 0)), (3, .ref o)] := hl
  obtain ⟨k1, k2, hEx, e1, e2, hJ⟩ := pv
  refine lv_aload_n hx hb d_L_law_440 rfl (lv_at hl 2 rfl) ?_
  refine lr_x 1 hC hw hk (by decide) (lv_at hl 1 rfl) (lv_at hl 0 rfl) (by decide) d_L_law_441 d_L_law_442 d_L_law_444 d_L_law_445 d_L_law_446 ?_
  refine lr_x 2 hC hw hk (by decide) (lv_at hl 1 rfl) (lv_at hl 0 rfl) (by decide) d_L_law_447 d_L_law_448 d_L_law_450 d_L_law_451 d_L_law_452 ?_
  refine lr_x 3 hC hw hk (by decide) (lv_at hl 1 rfl) (lv_at hl 0 rfl) (by decide) d_L_law_453 d_L_law_454 d_L_law_456 d_L_law_457 d_L_law_458 ?_
  refine lr_x 4 hC hw hk (by decide) (lv_at hl 1 rfl) (lv_at hl 0 rfl) (by decide) d_L_law_459 d_L_law_460 d_L_law_462 d_L_law_463 d_L_law_464 ?_
  refine lv_aload_n hx hb d_L_law_465 rfl (lv_at hl 4 rfl) ?_
  refine ls_i (wd := fun (u : (Nat → Nat → Nat → Int32) × (Nat → Nat) × (Nat → Nat → Nat) × (Nat → Int64)) => cl tc u.1 u.2.1 u.2.2.1 ++ ((o, .inl (tc 2, 1, .inr (.inl u.2.2.2))) :: mo tc a μ)) (n := 6) (As := [.ref (ad 0 0), .int (xs (6 * k + 1)), .int (xs (6 * k + 2)), .int (xs (6 * k + 3)), .int (xs (6 * k + 4)), .ref o]) (rest := []) h0 hX hNc hw hA (cL_move l hlt D tc sa ad (mo tc a μ) H.size o fo (xs (6 * k + 1)) (xs (6 * k + 2)) (xs (6 * k + 3)) (xs (6 * k + 4)) g N k1 rfl hEx) (gd_W wd_304 wd_305 wd_0 wd_306) (by decide +kernel) ⟨rfl, rfl, (Nat.le_of_ble_eq_true rfl), (Nat.le_of_ble_eq_true rfl), Nat.le_trans (Nat.add_le_add_left (Nat.le_of_ble_eq_true rfl) _) hR.1, Nat.le_trans (Nat.add_le_add_left (Nat.le_of_ble_eq_true rfl) _) hR.2⟩ rfl hl.1 rfl (Nat.le_of_ble_eq_true rfl) d_L_law_466 (fun r u H locs hp hw => ?_)
  obtain ⟨g1, N1, ad1, fo1⟩ := u
  obtain ⟨hr, hg, had, ho⟩ := hp
  have hg1 : g1 = (fC_move (xs (6 * k + 1)) (xs (6 * k + 2)) (xs (6 * k + 3)) (xs (6 * k + 4)) g N).2.2.1 := congrArg (fun z => z.1) hg
  have hg2 : N1 = (fC_move (xs (6 * k + 1)) (xs (6 * k + 2)) (xs (6 * k + 3)) (xs (6 * k + 4)) g N).2.2.2 := congrArg (fun z => z.2) hg
  have had : ad1 0 = ad 0 := had
  have hw : wH D (An s) s.heap (cl tc g1 N1 ad1 ++ ((o, .inl (tc 2, 1, .inr (.inl fo1))) :: mo tc a μ)) H locs := hw
  refine lv_istore (lv' := [(5, .int r), (4, .int (nI (6 * k))), (0, .ref b), (1, .ref (ad 0 0)), (2, .ref (a 0)), (3, .ref o)]) hx hb d_L_law_469 hl (by decide) rfl (fun ls hl => ?_)
  refine lv_aload_n hx hb d_L_law_471 rfl (lv_at hl 4 rfl) ?_
  refine lr_x 1 hC hw hk (by decide) (lv_at hl 2 rfl) (lv_at hl 1 rfl) (by decide) d_L_law_472 d_L_law_473 d_L_law_475 d_L_law_476 d_L_law_477 ?_
  refine lr_x 2 hC hw hk (by decide) (lv_at hl 2 rfl) (lv_at hl 1 rfl) (by decide) d_L_law_478 d_L_law_479 d_L_law_481 d_L_law_482 d_L_law_483 ?_
  refine lr_x 3 hC hw hk (by decide) (lv_at hl 2 rfl) (lv_at hl 1 rfl) (by decide) d_L_law_484 d_L_law_485 d_L_law_487 d_L_law_488 d_L_law_489 ?_
  refine lr_x 4 hC hw hk (by decide) (lv_at hl 2 rfl) (lv_at hl 1 rfl) (by decide) d_L_law_490 d_L_law_491 d_L_law_493 d_L_law_494 d_L_law_495 ?_
  refine lm_i (n := 4) (As := [.int (xs (6 * k + 1)), .int (xs (6 * k + 2)), .int (xs (6 * k + 3)), .int (xs (6 * k + 4))]) (rest := []) h0 hw hA (fun Y sz => cM_move l D tc a Y sz (xs (6 * k + 1)) (xs (6 * k + 2)) (xs (6 * k + 3)) (xs (6 * k + 4)) μ k2 rfl) (gd_V wd_744 wd_745 wd_746 wd_3 wd_747) (by decide +kernel) ⟨rfl, rfl, (Nat.le_of_ble_eq_true rfl), (Nat.le_of_ble_eq_true rfl), Nat.le_trans (Nat.add_le_add_left (Nat.le_of_ble_eq_true rfl) _) hR.1, Nat.le_trans (Nat.add_le_add_left (Nat.le_of_ble_eq_true rfl) _) hR.2⟩ rfl hl.1 rfl (Nat.le_of_ble_eq_true rfl) d_L_law_496 (fun H locs hw => ?_)
  refine lv_istore (lv' := [(6, .int (fM_move (xs (6 * k + 1)) (xs (6 * k + 2)) (xs (6 * k + 3)) (xs (6 * k + 4)) μ).1), (5, .int r), (4, .int (nI (6 * k))), (0, .ref b), (1, .ref (ad 0 0)), (2, .ref (a 0)), (3, .ref o)]) hx hb d_L_law_499 hl (by decide) rfl (fun ls hl => ?_)
  refine lv_aload_n hx hb d_L_law_501 rfl (lv_at hl 5 rfl) ?_
  refine lm_t (rest := []) h0 hw (gd_V wd_702 wd_703 wd_704 wd_3 wd_705) ⟨(Nat.le_of_ble_eq_true rfl), (Nat.le_of_ble_eq_true rfl), Nat.le_trans (Nat.add_le_add_left (Nat.le_of_ble_eq_true rfl) _) hR.1, Nat.le_trans (Nat.add_le_add_left (Nat.le_of_ble_eq_true rfl) _) hR.2⟩ hl.1 (Nat.le_of_ble_eq_true rfl) d_L_law_502 ?_
  refine lv_iload hx hb d_L_law_505 (lv_at hl 1 rfl) ?_
  refine lv_icmp_eq (tgt := 512) hx hb d_L_law_507 (by decide) (fun _ => ?_) (fun c1 => absurd (e1.trans hr.symm) c1)
  have hend : ∀ z : Nat, z = 0 → W p l e room_1 s m args below meth c H locs (cells + 3) (slots + 18) Q (F0 m 529 ls []) := by
    intro _ _
    refine lv_goto (tgt := 1535) hx hb d_L_law_529 (by decide) ?_
    exact W.widen (k := cells + 9) (n := slots + 871) (Nat.add_le_add_left (Nat.le_of_ble_eq_true rfl) _) (Nat.add_le_add_left (Nat.le_of_ble_eq_true rfl) _) (kk _ _ _ _ _ _ _ _ (by rw [hg1, hg2]; exact hJ) had hw (lv_sub hl [2, 3, 4, 5, 6] rfl))
  refine lv_iload hx hb d_L_law_512 (lv_at hl 1 rfl) ?_
  refine lv_if_ne (tgt := 529) hx hb d_L_law_514 (by decide) (fun _ => hend 0 rfl) (fun c2 => ?_)
  have hn : (fC_move (xs (6 * k + 1)) (xs (6 * k + 2)) (xs (6 * k + 3)) (xs (6 * k + 4)) g N).1 = none := cd_0 (by decide) (hr.symm.trans c2)
  have ho1 := ho hn
  have e3 := e2 hn
  refine lv_aload_n hx hb d_L_law_517 rfl (lv_at hl 6 rfl) ?_
  refine lv_iconst (v := 0) hx hb d_L_law_518 (by decide) ?_
  refine va_lald hx hb hK hw.1 (cl tc g1 N1 ad1).length 2 (n := 1) (f := fo1) (cA := tc 2) (lc_get _ _) rfl (by unfold vp_in; decide) d_L_law_519 ?_
  refine lv_iload hx hb d_L_law_520 (lv_at hl 0 rfl) ?_
  refine lv_i2l hx hb d_L_law_522 rfl ?_
  refine W.lcmp hx hb d_L_law_523 ?_
  refine lv_if_eq (tgt := 529) hx hb d_L_law_524 (by decide) (fun _ => hend 0 rfl) (fun c3 => absurd ((lg_cmp_eq _ _).mpr ?_) c3)
  rw [← e3]
  exact ho1
def pv_end (J : (Nat → Nat → Nat → Int32) → (Nat → Nat) → (Nat → Nat → Int32) → Prop) (x1 : Int32) (g : Nat → Nat → Nat → Int32) (N : Nat → Nat) (μ : Nat → Nat → Int32) : Prop := kC_end x1 g N ∧ kM_end x1 μ ∧ (∀ E, (fC_end x1 g N).1 = some E → E = "java/util/NoSuchElementException" ∨ E = "java/lang/IllegalStateException") ∧ (fM_end x1 μ) 0 0 = cd ["java/util/NoSuchElementException", "java/lang/IllegalStateException"] (fC_end x1 g N).1 ∧ J (fC_end x1 g N).2.2 N (fM_end x1 μ)
set_option maxHeartbeats 4000000 in
set_option maxRecDepth 100000 in
theorem lc_end {J : (Nat → Nat → Nat → Int32) → (Nat → Nat) → (Nat → Nat → Int32) → Prop} {g : Nat → Nat → Nat → Int32} {N : Nat → Nat} {ad : Nat → Nat → Nat} {a : Nat → Nat} {μ : Nat → Nat → Int32} {fo : Nat → Int64} {o k : Nat} (hC : lC p l s m args c D tc sa b L xs) (hk : 6 * k + 6 ≤ L) (hR : cells + 9 ≤ 601024 ∧ slots + 871 ≤ 7293033) (hw : wH D (An s) s.heap (cl tc g N ad ++ ((o, .inl (tc 2, 1, .inr (.inl fo))) :: mo tc a μ)) H locs) (hl : lv_has ls 7 (lo7 b (ad 0 0) (a 0) o k)) (pv : pv_end J (xs (6 * k + 1)) g N μ) (kk : kL p l e s m args below meth c Q D tc b o k cells slots a (ad 0) J) : W p l e room_1 s m args below meth c H locs cells slots Q (F0 m 532 ls []) := by
  obtain ⟨h0, hX, hNc, hXs, hbl, hL, hlt⟩ := id hC
  obtain ⟨hx, hb, hml, hown, hts, hK⟩ := id h0
  have hA : ∀ q : Nat, s.heap.size ≤ q → An s q := fun q h => h
  have hl : lv_has ls 7 [(4, .int (nI (6 * k))), (0, .ref b), (1, .ref (ad 0 0)), (2, .ref (a 0)), (3, .ref o)] := hl
  obtain ⟨k1, k2, hEx, e1, hJ⟩ := pv
  refine lv_aload_n hx hb d_L_law_532 rfl (lv_at hl 2 rfl) ?_
  refine lr_x 1 hC hw hk (by decide) (lv_at hl 1 rfl) (lv_at hl 0 rfl) (by decide) d_L_law_533 d_L_law_534 d_L_law_536 d_L_law_537 d_L_law_538 ?_
  refine ls_i (wd := fun (u : Nat → Nat → Nat → Int32) => cl tc u N ad ++ ((o, .inl (tc 2, 1, .inr (.inl fo))) :: mo tc a μ)) (n := 2) (As := [.ref (ad 0 0), .int (xs (6 * k + 1))]) (rest := []) h0 hX hNc hw hA (cL_end l hlt D tc sa ad ((o, .inl (tc 2, 1, .inr (.inl fo))) :: mo tc a μ) H.size (xs (6 * k + 1)) g N k1 rfl hEx) (gd_W wd_340 wd_341 wd_0 wd_342) (by decide +kernel) ⟨rfl, rfl, (Nat.le_of_ble_eq_true rfl), (Nat.le_of_ble_eq_true rfl), Nat.le_trans (Nat.add_le_add_left (Nat.le_of_ble_eq_true rfl) _) hR.1, Nat.le_trans (Nat.add_le_add_left (Nat.le_of_ble_eq_true rfl) _) hR.2⟩ rfl hl.1 rfl (Nat.le_of_ble_eq_true rfl) d_L_law_539 (fun r u H locs hp hw => ?_)
  obtain ⟨hr, hg1⟩ := hp
  have hw : wH D (An s) s.heap (cl tc u N ad ++ ((o, .inl (tc 2, 1, .inr (.inl fo))) :: mo tc a μ)) H locs := hw
  refine lv_istore (lv' := [(5, .int r), (4, .int (nI (6 * k))), (0, .ref b), (1, .ref (ad 0 0)), (2, .ref (a 0)), (3, .ref o)]) hx hb d_L_law_542 hl (by decide) rfl (fun ls hl => ?_)
  refine lv_aload_n hx hb d_L_law_544 rfl (lv_at hl 4 rfl) ?_
  refine lr_x 1 hC hw hk (by decide) (lv_at hl 2 rfl) (lv_at hl 1 rfl) (by decide) d_L_law_545 d_L_law_546 d_L_law_548 d_L_law_549 d_L_law_550 ?_
  refine lm_v (n := 1) (As := [.int (xs (6 * k + 1))]) (rest := []) h0 hw hA (fun Y sz => cM_end l D tc a Y sz (xs (6 * k + 1)) μ k2 rfl) (gd_V wd_748 wd_749 wd_750 wd_3 wd_751) (by decide +kernel) ⟨rfl, rfl, (Nat.le_of_ble_eq_true rfl), (Nat.le_of_ble_eq_true rfl), Nat.le_trans (Nat.add_le_add_left (Nat.le_of_ble_eq_true rfl) _) hR.1, Nat.le_trans (Nat.add_le_add_left (Nat.le_of_ble_eq_true rfl) _) hR.2⟩ rfl hl.1 rfl (Nat.le_of_ble_eq_true rfl) d_L_law_551 (fun H locs hw => ?_)
  refine lv_aload_n hx hb d_L_law_554 rfl (lv_at hl 4 rfl) ?_
  refine lm_t (rest := []) h0 hw (gd_V wd_702 wd_703 wd_704 wd_3 wd_705) ⟨(Nat.le_of_ble_eq_true rfl), (Nat.le_of_ble_eq_true rfl), Nat.le_trans (Nat.add_le_add_left (Nat.le_of_ble_eq_true rfl) _) hR.1, Nat.le_trans (Nat.add_le_add_left (Nat.le_of_ble_eq_true rfl) _) hR.2⟩ hl.1 (Nat.le_of_ble_eq_true rfl) d_L_law_555 ?_
  refine lv_iload hx hb d_L_law_558 (lv_at hl 0 rfl) ?_
  refine lv_icmp_eq (tgt := 565) hx hb d_L_law_560 (by decide) (fun _ => ?_) (fun c1 => absurd (e1.trans hr.symm) c1)
  refine lv_goto (tgt := 1535) hx hb d_L_law_565 (by decide) ?_
  exact W.widen (k := cells + 9) (n := slots + 871) (Nat.add_le_add_left (Nat.le_of_ble_eq_true rfl) _) (Nat.add_le_add_left (Nat.le_of_ble_eq_true rfl) _) (kk _ _ _ _ _ _ _ _ (by rw [hg1]; exact hJ) rfl hw (lv_sub hl [1, 2, 3, 4, 5] rfl))
def pv_moves (J : (Nat → Nat → Nat → Int32) → (Nat → Nat) → (Nat → Nat → Int32) → Prop) (x1 : Int32) (g : Nat → Nat → Nat → Int32) (N : Nat → Nat) (μ : Nat → Nat → Int32) : Prop := kC_moves x1 g N ∧ kM_moves x1 μ ∧ (∀ E, (fC_moves x1 g N).1 = some E → E = "java/util/NoSuchElementException") ∧ (fM_moves x1 μ).2 0 0 = cd ["java/util/NoSuchElementException"] (fC_moves x1 g N).1 ∧ ((fC_moves x1 g N).1 = none → (fC_moves x1 g N).2.1 = (fM_moves x1 μ).1) ∧ J (fC_moves x1 g N).2.2 N (fM_moves x1 μ).2
set_option maxHeartbeats 4000000 in
set_option maxRecDepth 100000 in
theorem lc_moves {J : (Nat → Nat → Nat → Int32) → (Nat → Nat) → (Nat → Nat → Int32) → Prop} {g : Nat → Nat → Nat → Int32} {N : Nat → Nat} {ad : Nat → Nat → Nat} {a : Nat → Nat} {μ : Nat → Nat → Int32} {fo : Nat → Int64} {o k : Nat} (hC : lC p l s m args c D tc sa b L xs) (hk : 6 * k + 6 ≤ L) (hR : cells + 9 ≤ 601024 ∧ slots + 871 ≤ 7293033) (hw : wH D (An s) s.heap (cl tc g N ad ++ ((o, .inl (tc 2, 1, .inr (.inl fo))) :: mo tc a μ)) H locs) (hl : lv_has ls 7 (lo7 b (ad 0 0) (a 0) o k)) (pv : pv_moves J (xs (6 * k + 1)) g N μ) (kk : kL p l e s m args below meth c Q D tc b o k cells slots a (ad 0) J) : W p l e room_1 s m args below meth c H locs cells slots Q (F0 m 568 ls []) := by
  obtain ⟨h0, hX, hNc, hXs, hbl, hL, hlt⟩ := id hC
  obtain ⟨hx, hb, hml, hown, hts, hK⟩ := id h0
  have hA : ∀ q : Nat, s.heap.size ≤ q → An s q := fun q h => h
  have hl : lv_has ls 7 [(4, .int (nI (6 * k))), (0, .ref b), (1, .ref (ad 0 0)), (2, .ref (a 0)), (3, .ref o)] := hl
  obtain ⟨k1, k2, hEx, e1, e2, hJ⟩ := pv
  refine lv_aload_n hx hb d_L_law_568 rfl (lv_at hl 2 rfl) ?_
  refine lr_x 1 hC hw hk (by decide) (lv_at hl 1 rfl) (lv_at hl 0 rfl) (by decide) d_L_law_569 d_L_law_570 d_L_law_572 d_L_law_573 d_L_law_574 ?_
  refine lv_aload_n hx hb d_L_law_575 rfl (lv_at hl 4 rfl) ?_
  refine ls_i (wd := fun (u : (Nat → Nat → Nat → Int32) × (Nat → Int64)) => cl tc u.1 N ad ++ ((o, .inl (tc 2, 1, .inr (.inl u.2))) :: mo tc a μ)) (n := 3) (As := [.ref (ad 0 0), .int (xs (6 * k + 1)), .ref o]) (rest := []) h0 hX hNc hw hA (cL_moves l hlt D tc sa ad (mo tc a μ) H.size o fo (xs (6 * k + 1)) g N k1 rfl hEx) (gd_W wd_348 wd_349 wd_0 wd_350) (by decide +kernel) ⟨rfl, rfl, (Nat.le_of_ble_eq_true rfl), (Nat.le_of_ble_eq_true rfl), Nat.le_trans (Nat.add_le_add_left (Nat.le_of_ble_eq_true rfl) _) hR.1, Nat.le_trans (Nat.add_le_add_left (Nat.le_of_ble_eq_true rfl) _) hR.2⟩ rfl hl.1 rfl (Nat.le_of_ble_eq_true rfl) d_L_law_576 (fun r u H locs hp hw => ?_)
  obtain ⟨g1, fo1⟩ := u
  obtain ⟨hr, hg1, ho⟩ := hp
  have hg1 : g1 = (fC_moves (xs (6 * k + 1)) g N).2.2 := hg1
  have hw : wH D (An s) s.heap (cl tc g1 N ad ++ ((o, .inl (tc 2, 1, .inr (.inl fo1))) :: mo tc a μ)) H locs := hw
  refine lv_istore (lv' := [(5, .int r), (4, .int (nI (6 * k))), (0, .ref b), (1, .ref (ad 0 0)), (2, .ref (a 0)), (3, .ref o)]) hx hb d_L_law_579 hl (by decide) rfl (fun ls hl => ?_)
  refine lv_aload_n hx hb d_L_law_581 rfl (lv_at hl 4 rfl) ?_
  refine lr_x 1 hC hw hk (by decide) (lv_at hl 2 rfl) (lv_at hl 1 rfl) (by decide) d_L_law_582 d_L_law_583 d_L_law_585 d_L_law_586 d_L_law_587 ?_
  refine lm_i (n := 1) (As := [.int (xs (6 * k + 1))]) (rest := []) h0 hw hA (fun Y sz => cM_moves l D tc a Y sz (xs (6 * k + 1)) μ k2 rfl) (gd_V wd_752 wd_753 wd_754 wd_3 wd_755) (by decide +kernel) ⟨rfl, rfl, (Nat.le_of_ble_eq_true rfl), (Nat.le_of_ble_eq_true rfl), Nat.le_trans (Nat.add_le_add_left (Nat.le_of_ble_eq_true rfl) _) hR.1, Nat.le_trans (Nat.add_le_add_left (Nat.le_of_ble_eq_true rfl) _) hR.2⟩ rfl hl.1 rfl (Nat.le_of_ble_eq_true rfl) d_L_law_588 (fun H locs hw => ?_)
  refine lv_istore (lv' := [(6, .int (fM_moves (xs (6 * k + 1)) μ).1), (5, .int r), (4, .int (nI (6 * k))), (0, .ref b), (1, .ref (ad 0 0)), (2, .ref (a 0)), (3, .ref o)]) hx hb d_L_law_591 hl (by decide) rfl (fun ls hl => ?_)
  refine lv_aload_n hx hb d_L_law_593 rfl (lv_at hl 5 rfl) ?_
  refine lm_t (rest := []) h0 hw (gd_V wd_702 wd_703 wd_704 wd_3 wd_705) ⟨(Nat.le_of_ble_eq_true rfl), (Nat.le_of_ble_eq_true rfl), Nat.le_trans (Nat.add_le_add_left (Nat.le_of_ble_eq_true rfl) _) hR.1, Nat.le_trans (Nat.add_le_add_left (Nat.le_of_ble_eq_true rfl) _) hR.2⟩ hl.1 (Nat.le_of_ble_eq_true rfl) d_L_law_594 ?_
  refine lv_iload hx hb d_L_law_597 (lv_at hl 1 rfl) ?_
  refine lv_icmp_eq (tgt := 604) hx hb d_L_law_599 (by decide) (fun _ => ?_) (fun c1 => absurd (e1.trans hr.symm) c1)
  have hend : ∀ z : Nat, z = 0 → W p l e room_1 s m args below meth c H locs (cells + 1) (slots + 6) Q (F0 m 621 ls []) := by
    intro _ _
    refine lv_goto (tgt := 1535) hx hb d_L_law_621 (by decide) ?_
    exact W.widen (k := cells + 9) (n := slots + 871) (Nat.add_le_add_left (Nat.le_of_ble_eq_true rfl) _) (Nat.add_le_add_left (Nat.le_of_ble_eq_true rfl) _) (kk _ _ _ _ _ _ _ _ (by rw [hg1]; exact hJ) rfl hw (lv_sub hl [2, 3, 4, 5, 6] rfl))
  refine lv_iload hx hb d_L_law_604 (lv_at hl 1 rfl) ?_
  refine lv_if_ne (tgt := 621) hx hb d_L_law_606 (by decide) (fun _ => hend 0 rfl) (fun c2 => ?_)
  have hn : (fC_moves (xs (6 * k + 1)) g N).1 = none := cd_0 (by decide) (hr.symm.trans c2)
  have ho1 := ho hn
  have e3 := e2 hn
  refine lv_aload_n hx hb d_L_law_609 rfl (lv_at hl 6 rfl) ?_
  refine lv_iconst (v := 0) hx hb d_L_law_610 (by decide) ?_
  refine va_lald hx hb hK hw.1 (cl tc g1 N ad).length 2 (n := 1) (f := fo1) (cA := tc 2) (lc_get _ _) rfl (by unfold vp_in; decide) d_L_law_611 ?_
  refine lv_iload hx hb d_L_law_612 (lv_at hl 0 rfl) ?_
  refine lv_i2l hx hb d_L_law_614 rfl ?_
  refine W.lcmp hx hb d_L_law_615 ?_
  refine lv_if_eq (tgt := 621) hx hb d_L_law_616 (by decide) (fun _ => hend 0 rfl) (fun c3 => absurd ((lg_cmp_eq _ _).mpr ?_) c3)
  rw [← e3]
  exact ho1
def pv_round (J : (Nat → Nat → Nat → Int32) → (Nat → Nat) → (Nat → Nat → Int32) → Prop) (x1 : Int32) (x2 : Int32) (x3 : Int64) (g : Nat → Nat → Nat → Int32) (N : Nat → Nat) (μ : Nat → Nat → Int32) : Prop := kC_round x1 x2 x3 g N ∧ kM_round x1 x2 x3 μ ∧ (∀ E, (fC_round x1 x2 x3 g N).1 = some E → E = "java/lang/IllegalArgumentException" ∨ E = "java/lang/IllegalStateException" ∨ E = "java/lang/UnsupportedOperationException") ∧ (fM_round x1 x2 x3 μ).2 0 0 = cd ["java/lang/IllegalArgumentException", "java/lang/IllegalStateException", "java/lang/UnsupportedOperationException"] (fC_round x1 x2 x3 g N).1 ∧ ((fC_round x1 x2 x3 g N).1 = none → (fC_round x1 x2 x3 g N).2.1 = (fM_round x1 x2 x3 μ).1) ∧ J (fC_round x1 x2 x3 g N).2.2.1 (fC_round x1 x2 x3 g N).2.2.2 (fM_round x1 x2 x3 μ).2
set_option maxHeartbeats 4000000 in
set_option maxRecDepth 100000 in
theorem lc_round {J : (Nat → Nat → Nat → Int32) → (Nat → Nat) → (Nat → Nat → Int32) → Prop} {g : Nat → Nat → Nat → Int32} {N : Nat → Nat} {ad : Nat → Nat → Nat} {a : Nat → Nat} {μ : Nat → Nat → Int32} {fo : Nat → Int64} {o k : Nat} (hC : lC p l s m args c D tc sa b L xs) (hk : 6 * k + 6 ≤ L) (hR : cells + 9 ≤ 601024 ∧ slots + 871 ≤ 7293033) (hw : wH D (An s) s.heap (cl tc g N ad ++ ((o, .inl (tc 2, 1, .inr (.inl fo))) :: mo tc a μ)) H locs) (hl : lv_has ls 7 (lo7 b (ad 0 0) (a 0) o k)) (pv : pv_round J (xs (6 * k + 1)) (xs (6 * k + 2)) (sd (xs (6 * k + 3)) (xs (6 * k + 4))) g N μ) (kk : kL p l e s m args below meth c Q D tc b o k cells slots a (ad 0) J) : W p l e room_1 s m args below meth c H locs cells slots Q (F0 m 624 ls []) := by
  obtain ⟨h0, hX, hNc, hXs, hbl, hL, hlt⟩ := id hC
  obtain ⟨hx, hb, hml, hown, hts, hK⟩ := id h0
  have hA : ∀ q : Nat, s.heap.size ≤ q → An s q := fun q h => h
  have hl : lv_has ls 7 [(4, .int (nI (6 * k))), (0, .ref b), (1, .ref (ad 0 0)), (2, .ref (a 0)), (3, .ref o)] := hl
  obtain ⟨k1, k2, hEx, e1, e2, hJ⟩ := pv
  refine lv_aload_n hx hb d_L_law_624 rfl (lv_at hl 2 rfl) ?_
  refine lr_x 1 hC hw hk (by decide) (lv_at hl 1 rfl) (lv_at hl 0 rfl) (by decide) d_L_law_625 d_L_law_626 d_L_law_628 d_L_law_629 d_L_law_630 ?_
  refine lr_x 2 hC hw hk (by decide) (lv_at hl 1 rfl) (lv_at hl 0 rfl) (by decide) d_L_law_631 d_L_law_632 d_L_law_634 d_L_law_635 d_L_law_636 ?_
  refine lr_x 3 hC hw hk (by decide) (lv_at hl 1 rfl) (lv_at hl 0 rfl) (by decide) d_L_law_637 d_L_law_638 d_L_law_640 d_L_law_641 d_L_law_642 ?_
  refine lv_i2l hx hb d_L_law_643 rfl ?_
  refine lv_bipush (v := 32) hx hb d_L_law_644 (by decide) ?_
  refine lv_lshl hx hb d_L_law_646 rfl ?_
  refine lr_x 4 hC hw hk (by decide) (lv_at hl 1 rfl) (lv_at hl 0 rfl) (by decide) d_L_law_647 d_L_law_648 d_L_law_650 d_L_law_651 d_L_law_652 ?_
  refine lv_i2l hx hb d_L_law_653 rfl ?_
  refine lv_ldc2 hx hb hown (hts _ wd_872) d_L_law_654 ?_
  refine lv_land hx hb d_L_law_657 ?_
  refine lv_lor hx hb d_L_law_658 ?_
  refine lv_aload_n hx hb d_L_law_659 rfl (lv_at hl 4 rfl) ?_
  refine ls_i (wd := fun (u : (Nat → Nat → Nat → Int32) × (Nat → Nat) × (Nat → Nat → Nat) × (Nat → Int64)) => cl tc u.1 u.2.1 u.2.2.1 ++ ((o, .inl (tc 2, 1, .inr (.inl u.2.2.2))) :: mo tc a μ)) (n := 5) (As := [.ref (ad 0 0), .int (xs (6 * k + 1)), .int (xs (6 * k + 2)), .long (sd (xs (6 * k + 3)) (xs (6 * k + 4))), .ref o]) (rest := []) h0 hX hNc hw hA (cL_round l hlt D tc sa ad (mo tc a μ) H.size o fo (xs (6 * k + 1)) (xs (6 * k + 2)) (sd (xs (6 * k + 3)) (xs (6 * k + 4))) g N k1 rfl hEx) (gd_W wd_359 wd_360 wd_0 wd_361) (by decide +kernel) ⟨rfl, rfl, (Nat.le_of_ble_eq_true rfl), (Nat.le_of_ble_eq_true rfl), Nat.le_trans (Nat.add_le_add_left (Nat.le_of_ble_eq_true rfl) _) hR.1, Nat.le_trans (Nat.add_le_add_left (Nat.le_of_ble_eq_true rfl) _) hR.2⟩ rfl hl.1 rfl (Nat.le_of_ble_eq_true rfl) d_L_law_660 (fun r u H locs hp hw => ?_)
  obtain ⟨g1, N1, ad1, fo1⟩ := u
  obtain ⟨hr, hg, had, ho⟩ := hp
  have hg1 : g1 = (fC_round (xs (6 * k + 1)) (xs (6 * k + 2)) (sd (xs (6 * k + 3)) (xs (6 * k + 4))) g N).2.2.1 := congrArg (fun z => z.1) hg
  have hg2 : N1 = (fC_round (xs (6 * k + 1)) (xs (6 * k + 2)) (sd (xs (6 * k + 3)) (xs (6 * k + 4))) g N).2.2.2 := congrArg (fun z => z.2) hg
  have had : ad1 0 = ad 0 := had
  have hw : wH D (An s) s.heap (cl tc g1 N1 ad1 ++ ((o, .inl (tc 2, 1, .inr (.inl fo1))) :: mo tc a μ)) H locs := hw
  refine lv_istore (lv' := [(5, .int r), (4, .int (nI (6 * k))), (0, .ref b), (1, .ref (ad 0 0)), (2, .ref (a 0)), (3, .ref o)]) hx hb d_L_law_663 hl (by decide) rfl (fun ls hl => ?_)
  refine lv_aload_n hx hb d_L_law_665 rfl (lv_at hl 4 rfl) ?_
  refine lr_x 1 hC hw hk (by decide) (lv_at hl 2 rfl) (lv_at hl 1 rfl) (by decide) d_L_law_666 d_L_law_667 d_L_law_669 d_L_law_670 d_L_law_671 ?_
  refine lr_x 2 hC hw hk (by decide) (lv_at hl 2 rfl) (lv_at hl 1 rfl) (by decide) d_L_law_672 d_L_law_673 d_L_law_675 d_L_law_676 d_L_law_677 ?_
  refine lr_x 3 hC hw hk (by decide) (lv_at hl 2 rfl) (lv_at hl 1 rfl) (by decide) d_L_law_678 d_L_law_679 d_L_law_681 d_L_law_682 d_L_law_683 ?_
  refine lv_i2l hx hb d_L_law_684 rfl ?_
  refine lv_bipush (v := 32) hx hb d_L_law_685 (by decide) ?_
  refine lv_lshl hx hb d_L_law_687 rfl ?_
  refine lr_x 4 hC hw hk (by decide) (lv_at hl 2 rfl) (lv_at hl 1 rfl) (by decide) d_L_law_688 d_L_law_689 d_L_law_691 d_L_law_692 d_L_law_693 ?_
  refine lv_i2l hx hb d_L_law_694 rfl ?_
  refine lv_ldc2 hx hb hown (hts _ wd_872) d_L_law_695 ?_
  refine lv_land hx hb d_L_law_698 ?_
  refine lv_lor hx hb d_L_law_699 ?_
  refine lm_i (n := 3) (As := [.int (xs (6 * k + 1)), .int (xs (6 * k + 2)), .long (sd (xs (6 * k + 3)) (xs (6 * k + 4)))]) (rest := []) h0 hw hA (fun Y sz => cM_round l D tc a Y sz (xs (6 * k + 1)) (xs (6 * k + 2)) (sd (xs (6 * k + 3)) (xs (6 * k + 4))) μ k2 rfl) (gd_V wd_760 wd_761 wd_762 wd_3 wd_763) (by decide +kernel) ⟨rfl, rfl, (Nat.le_of_ble_eq_true rfl), (Nat.le_of_ble_eq_true rfl), Nat.le_trans (Nat.add_le_add_left (Nat.le_of_ble_eq_true rfl) _) hR.1, Nat.le_trans (Nat.add_le_add_left (Nat.le_of_ble_eq_true rfl) _) hR.2⟩ rfl hl.1 rfl (Nat.le_of_ble_eq_true rfl) d_L_law_700 (fun H locs hw => ?_)
  refine lv_istore (lv' := [(6, .int (fM_round (xs (6 * k + 1)) (xs (6 * k + 2)) (sd (xs (6 * k + 3)) (xs (6 * k + 4))) μ).1), (5, .int r), (4, .int (nI (6 * k))), (0, .ref b), (1, .ref (ad 0 0)), (2, .ref (a 0)), (3, .ref o)]) hx hb d_L_law_703 hl (by decide) rfl (fun ls hl => ?_)
  refine lv_aload_n hx hb d_L_law_705 rfl (lv_at hl 5 rfl) ?_
  refine lm_t (rest := []) h0 hw (gd_V wd_702 wd_703 wd_704 wd_3 wd_705) ⟨(Nat.le_of_ble_eq_true rfl), (Nat.le_of_ble_eq_true rfl), Nat.le_trans (Nat.add_le_add_left (Nat.le_of_ble_eq_true rfl) _) hR.1, Nat.le_trans (Nat.add_le_add_left (Nat.le_of_ble_eq_true rfl) _) hR.2⟩ hl.1 (Nat.le_of_ble_eq_true rfl) d_L_law_706 ?_
  refine lv_iload hx hb d_L_law_709 (lv_at hl 1 rfl) ?_
  refine lv_icmp_eq (tgt := 716) hx hb d_L_law_711 (by decide) (fun _ => ?_) (fun c1 => absurd (e1.trans hr.symm) c1)
  have hend : ∀ z : Nat, z = 0 → W p l e room_1 s m args below meth c H locs (cells + 9) (slots + 871) Q (F0 m 733 ls []) := by
    intro _ _
    refine lv_goto (tgt := 1535) hx hb d_L_law_733 (by decide) ?_
    exact W.widen (k := cells + 9) (n := slots + 871) (Nat.add_le_add_left (Nat.le_of_ble_eq_true rfl) _) (Nat.add_le_add_left (Nat.le_of_ble_eq_true rfl) _) (kk _ _ _ _ _ _ _ _ (by rw [hg1, hg2]; exact hJ) had hw (lv_sub hl [2, 3, 4, 5, 6] rfl))
  refine lv_iload hx hb d_L_law_716 (lv_at hl 1 rfl) ?_
  refine lv_if_ne (tgt := 733) hx hb d_L_law_718 (by decide) (fun _ => hend 0 rfl) (fun c2 => ?_)
  have hn : (fC_round (xs (6 * k + 1)) (xs (6 * k + 2)) (sd (xs (6 * k + 3)) (xs (6 * k + 4))) g N).1 = none := cd_0 (by decide) (hr.symm.trans c2)
  have ho1 := ho hn
  have e3 := e2 hn
  refine lv_aload_n hx hb d_L_law_721 rfl (lv_at hl 6 rfl) ?_
  refine lv_iconst (v := 0) hx hb d_L_law_722 (by decide) ?_
  refine va_lald hx hb hK hw.1 (cl tc g1 N1 ad1).length 2 (n := 1) (f := fo1) (cA := tc 2) (lc_get _ _) rfl (by unfold vp_in; decide) d_L_law_723 ?_
  refine lv_iload hx hb d_L_law_724 (lv_at hl 0 rfl) ?_
  refine lv_i2l hx hb d_L_law_726 rfl ?_
  refine W.lcmp hx hb d_L_law_727 ?_
  refine lv_if_eq (tgt := 733) hx hb d_L_law_728 (by decide) (fun _ => hend 0 rfl) (fun c3 => absurd ((lg_cmp_eq _ _).mpr ?_) c3)
  rw [← e3]
  exact ho1
def pv_freeze (J : (Nat → Nat → Nat → Int32) → (Nat → Nat) → (Nat → Nat → Int32) → Prop) (x1 : Int32) (g : Nat → Nat → Nat → Int32) (N : Nat → Nat) (μ : Nat → Nat → Int32) : Prop := kC_freeze x1 g N ∧ kM_freeze x1 μ ∧ (∀ E, (fC_freeze x1 g N).1 = some E → E = "java/util/NoSuchElementException" ∨ E = "java/lang/IllegalStateException") ∧ (fM_freeze x1 μ).2 0 0 = cd ["java/util/NoSuchElementException", "java/lang/IllegalStateException"] (fC_freeze x1 g N).1 ∧ ((fC_freeze x1 g N).1 = none → (fC_freeze x1 g N).2.1 = (fM_freeze x1 μ).1) ∧ J (fC_freeze x1 g N).2.2 N (fM_freeze x1 μ).2
set_option maxHeartbeats 4000000 in
set_option maxRecDepth 100000 in
theorem lc_freeze {J : (Nat → Nat → Nat → Int32) → (Nat → Nat) → (Nat → Nat → Int32) → Prop} {g : Nat → Nat → Nat → Int32} {N : Nat → Nat} {ad : Nat → Nat → Nat} {a : Nat → Nat} {μ : Nat → Nat → Int32} {fo : Nat → Int64} {o k : Nat} (hC : lC p l s m args c D tc sa b L xs) (hk : 6 * k + 6 ≤ L) (hR : cells + 9 ≤ 601024 ∧ slots + 871 ≤ 7293033) (hw : wH D (An s) s.heap (cl tc g N ad ++ ((o, .inl (tc 2, 1, .inr (.inl fo))) :: mo tc a μ)) H locs) (hl : lv_has ls 7 (lo7 b (ad 0 0) (a 0) o k)) (pv : pv_freeze J (xs (6 * k + 1)) g N μ) (kk : kL p l e s m args below meth c Q D tc b o k cells slots a (ad 0) J) : W p l e room_1 s m args below meth c H locs cells slots Q (F0 m 736 ls []) := by
  obtain ⟨h0, hX, hNc, hXs, hbl, hL, hlt⟩ := id hC
  obtain ⟨hx, hb, hml, hown, hts, hK⟩ := id h0
  have hA : ∀ q : Nat, s.heap.size ≤ q → An s q := fun q h => h
  have hl : lv_has ls 7 [(4, .int (nI (6 * k))), (0, .ref b), (1, .ref (ad 0 0)), (2, .ref (a 0)), (3, .ref o)] := hl
  obtain ⟨k1, k2, hEx, e1, e2, hJ⟩ := pv
  refine lv_aload_n hx hb d_L_law_736 rfl (lv_at hl 2 rfl) ?_
  refine lr_x 1 hC hw hk (by decide) (lv_at hl 1 rfl) (lv_at hl 0 rfl) (by decide) d_L_law_737 d_L_law_738 d_L_law_740 d_L_law_741 d_L_law_742 ?_
  refine lv_aload_n hx hb d_L_law_743 rfl (lv_at hl 4 rfl) ?_
  refine ls_i (wd := fun (u : (Nat → Nat → Nat → Int32) × (Nat → Int64)) => cl tc u.1 N ad ++ ((o, .inl (tc 2, 1, .inr (.inl u.2))) :: mo tc a μ)) (n := 3) (As := [.ref (ad 0 0), .int (xs (6 * k + 1)), .ref o]) (rest := []) h0 hX hNc hw hA (cL_freeze l hlt D tc sa ad (mo tc a μ) H.size o fo (xs (6 * k + 1)) g N k1 rfl hEx) (gd_W wd_437 wd_438 wd_0 wd_439) (by decide +kernel) ⟨rfl, rfl, (Nat.le_of_ble_eq_true rfl), (Nat.le_of_ble_eq_true rfl), Nat.le_trans (Nat.add_le_add_left (Nat.le_of_ble_eq_true rfl) _) hR.1, Nat.le_trans (Nat.add_le_add_left (Nat.le_of_ble_eq_true rfl) _) hR.2⟩ rfl hl.1 rfl (Nat.le_of_ble_eq_true rfl) d_L_law_744 (fun r u H locs hp hw => ?_)
  obtain ⟨g1, fo1⟩ := u
  obtain ⟨hr, hg1, ho⟩ := hp
  have hg1 : g1 = (fC_freeze (xs (6 * k + 1)) g N).2.2 := hg1
  have hw : wH D (An s) s.heap (cl tc g1 N ad ++ ((o, .inl (tc 2, 1, .inr (.inl fo1))) :: mo tc a μ)) H locs := hw
  refine lv_istore (lv' := [(5, .int r), (4, .int (nI (6 * k))), (0, .ref b), (1, .ref (ad 0 0)), (2, .ref (a 0)), (3, .ref o)]) hx hb d_L_law_747 hl (by decide) rfl (fun ls hl => ?_)
  refine lv_aload_n hx hb d_L_law_749 rfl (lv_at hl 4 rfl) ?_
  refine lr_x 1 hC hw hk (by decide) (lv_at hl 2 rfl) (lv_at hl 1 rfl) (by decide) d_L_law_750 d_L_law_751 d_L_law_753 d_L_law_754 d_L_law_755 ?_
  refine lm_i (n := 1) (As := [.int (xs (6 * k + 1))]) (rest := []) h0 hw hA (fun Y sz => cM_freeze l D tc a Y sz (xs (6 * k + 1)) μ k2 rfl) (gd_V wd_778 wd_779 wd_780 wd_3 wd_781) (by decide +kernel) ⟨rfl, rfl, (Nat.le_of_ble_eq_true rfl), (Nat.le_of_ble_eq_true rfl), Nat.le_trans (Nat.add_le_add_left (Nat.le_of_ble_eq_true rfl) _) hR.1, Nat.le_trans (Nat.add_le_add_left (Nat.le_of_ble_eq_true rfl) _) hR.2⟩ rfl hl.1 rfl (Nat.le_of_ble_eq_true rfl) d_L_law_756 (fun H locs hw => ?_)
  refine lv_istore (lv' := [(6, .int (fM_freeze (xs (6 * k + 1)) μ).1), (5, .int r), (4, .int (nI (6 * k))), (0, .ref b), (1, .ref (ad 0 0)), (2, .ref (a 0)), (3, .ref o)]) hx hb d_L_law_759 hl (by decide) rfl (fun ls hl => ?_)
  refine lv_aload_n hx hb d_L_law_761 rfl (lv_at hl 5 rfl) ?_
  refine lm_t (rest := []) h0 hw (gd_V wd_702 wd_703 wd_704 wd_3 wd_705) ⟨(Nat.le_of_ble_eq_true rfl), (Nat.le_of_ble_eq_true rfl), Nat.le_trans (Nat.add_le_add_left (Nat.le_of_ble_eq_true rfl) _) hR.1, Nat.le_trans (Nat.add_le_add_left (Nat.le_of_ble_eq_true rfl) _) hR.2⟩ hl.1 (Nat.le_of_ble_eq_true rfl) d_L_law_762 ?_
  refine lv_iload hx hb d_L_law_765 (lv_at hl 1 rfl) ?_
  refine lv_icmp_eq (tgt := 772) hx hb d_L_law_767 (by decide) (fun _ => ?_) (fun c1 => absurd (e1.trans hr.symm) c1)
  have hend : ∀ z : Nat, z = 0 → W p l e room_1 s m args below meth c H locs (cells + 2) (slots + 12) Q (F0 m 789 ls []) := by
    intro _ _
    refine lv_goto (tgt := 1535) hx hb d_L_law_789 (by decide) ?_
    exact W.widen (k := cells + 9) (n := slots + 871) (Nat.add_le_add_left (Nat.le_of_ble_eq_true rfl) _) (Nat.add_le_add_left (Nat.le_of_ble_eq_true rfl) _) (kk _ _ _ _ _ _ _ _ (by rw [hg1]; exact hJ) rfl hw (lv_sub hl [2, 3, 4, 5, 6] rfl))
  refine lv_iload hx hb d_L_law_772 (lv_at hl 1 rfl) ?_
  refine lv_if_ne (tgt := 789) hx hb d_L_law_774 (by decide) (fun _ => hend 0 rfl) (fun c2 => ?_)
  have hn : (fC_freeze (xs (6 * k + 1)) g N).1 = none := cd_0 (by decide) (hr.symm.trans c2)
  have ho1 := ho hn
  have e3 := e2 hn
  refine lv_aload_n hx hb d_L_law_777 rfl (lv_at hl 6 rfl) ?_
  refine lv_iconst (v := 0) hx hb d_L_law_778 (by decide) ?_
  refine va_lald hx hb hK hw.1 (cl tc g1 N ad).length 2 (n := 1) (f := fo1) (cA := tc 2) (lc_get _ _) rfl (by unfold vp_in; decide) d_L_law_779 ?_
  refine lv_iload hx hb d_L_law_780 (lv_at hl 0 rfl) ?_
  refine lv_i2l hx hb d_L_law_782 rfl ?_
  refine W.lcmp hx hb d_L_law_783 ?_
  refine lv_if_eq (tgt := 789) hx hb d_L_law_784 (by decide) (fun _ => hend 0 rfl) (fun c3 => absurd ((lg_cmp_eq _ _).mpr ?_) c3)
  rw [← e3]
  exact ho1
def pv_found (J : (Nat → Nat → Nat → Int32) → (Nat → Nat) → (Nat → Nat → Int32) → Prop) (x1 : Int32) (x2 : Int32) (x3 : Int32) (x4 : Int32) (x5 : Int32) (g : Nat → Nat → Nat → Int32) (N : Nat → Nat) (μ : Nat → Nat → Int32) : Prop := kC_found x1 x2 x3 x4 x5 g N ∧ kM_found x1 x2 x3 x4 x5 μ ∧ (∀ E, (fC_found x1 x2 x3 x4 x5 g N).1 = some E → E = "java/util/NoSuchElementException" ∨ E = "java/lang/IllegalArgumentException") ∧ (fM_found x1 x2 x3 x4 x5 μ).2 0 0 = cd ["java/util/NoSuchElementException", "java/lang/IllegalArgumentException"] (fC_found x1 x2 x3 x4 x5 g N).1 ∧ ((fC_found x1 x2 x3 x4 x5 g N).1 = none → (fC_found x1 x2 x3 x4 x5 g N).2.1 = (fM_found x1 x2 x3 x4 x5 μ).1) ∧ J (fC_found x1 x2 x3 x4 x5 g N).2.2 N (fM_found x1 x2 x3 x4 x5 μ).2
set_option maxHeartbeats 4000000 in
set_option maxRecDepth 100000 in
theorem lc_found {J : (Nat → Nat → Nat → Int32) → (Nat → Nat) → (Nat → Nat → Int32) → Prop} {g : Nat → Nat → Nat → Int32} {N : Nat → Nat} {ad : Nat → Nat → Nat} {a : Nat → Nat} {μ : Nat → Nat → Int32} {fo : Nat → Int64} {o k : Nat} (hC : lC p l s m args c D tc sa b L xs) (hk : 6 * k + 6 ≤ L) (hR : cells + 9 ≤ 601024 ∧ slots + 871 ≤ 7293033) (hw : wH D (An s) s.heap (cl tc g N ad ++ ((o, .inl (tc 2, 1, .inr (.inl fo))) :: mo tc a μ)) H locs) (hl : lv_has ls 7 (lo7 b (ad 0 0) (a 0) o k)) (pv : pv_found J (xs (6 * k + 1)) (xs (6 * k + 2)) (xs (6 * k + 3)) (xs (6 * k + 4)) (xs (6 * k + 5)) g N μ) (kk : kL p l e s m args below meth c Q D tc b o k cells slots a (ad 0) J) : W p l e room_1 s m args below meth c H locs cells slots Q (F0 m 792 ls []) := by
  obtain ⟨h0, hX, hNc, hXs, hbl, hL, hlt⟩ := id hC
  obtain ⟨hx, hb, hml, hown, hts, hK⟩ := id h0
  have hA : ∀ q : Nat, s.heap.size ≤ q → An s q := fun q h => h
  have hl : lv_has ls 7 [(4, .int (nI (6 * k))), (0, .ref b), (1, .ref (ad 0 0)), (2, .ref (a 0)), (3, .ref o)] := hl
  obtain ⟨k1, k2, hEx, e1, e2, hJ⟩ := pv
  refine lv_aload_n hx hb d_L_law_792 rfl (lv_at hl 2 rfl) ?_
  refine lr_x 1 hC hw hk (by decide) (lv_at hl 1 rfl) (lv_at hl 0 rfl) (by decide) d_L_law_793 d_L_law_794 d_L_law_796 d_L_law_797 d_L_law_798 ?_
  refine lr_x 2 hC hw hk (by decide) (lv_at hl 1 rfl) (lv_at hl 0 rfl) (by decide) d_L_law_799 d_L_law_800 d_L_law_802 d_L_law_803 d_L_law_804 ?_
  refine lr_x 3 hC hw hk (by decide) (lv_at hl 1 rfl) (lv_at hl 0 rfl) (by decide) d_L_law_805 d_L_law_806 d_L_law_808 d_L_law_809 d_L_law_810 ?_
  refine lr_x 4 hC hw hk (by decide) (lv_at hl 1 rfl) (lv_at hl 0 rfl) (by decide) d_L_law_811 d_L_law_812 d_L_law_814 d_L_law_815 d_L_law_816 ?_
  refine lr_x 5 hC hw hk (by decide) (lv_at hl 1 rfl) (lv_at hl 0 rfl) (by decide) d_L_law_817 d_L_law_818 d_L_law_820 d_L_law_821 d_L_law_822 ?_
  refine lv_aload_n hx hb d_L_law_823 rfl (lv_at hl 4 rfl) ?_
  refine ls_i (wd := fun (u : (Nat → Nat → Nat → Int32) × (Nat → Int64)) => cl tc u.1 N ad ++ ((o, .inl (tc 2, 1, .inr (.inl u.2))) :: mo tc a μ)) (n := 7) (As := [.ref (ad 0 0), .int (xs (6 * k + 1)), .int (xs (6 * k + 2)), .int (xs (6 * k + 3)), .int (xs (6 * k + 4)), .int (xs (6 * k + 5)), .ref o]) (rest := []) h0 hX hNc hw hA (cL_found l hlt D tc sa ad (mo tc a μ) H.size o fo (xs (6 * k + 1)) (xs (6 * k + 2)) (xs (6 * k + 3)) (xs (6 * k + 4)) (xs (6 * k + 5)) g N k1 rfl hEx) (gd_W wd_462 wd_463 wd_0 wd_464) (by decide +kernel) ⟨rfl, rfl, (Nat.le_of_ble_eq_true rfl), (Nat.le_of_ble_eq_true rfl), Nat.le_trans (Nat.add_le_add_left (Nat.le_of_ble_eq_true rfl) _) hR.1, Nat.le_trans (Nat.add_le_add_left (Nat.le_of_ble_eq_true rfl) _) hR.2⟩ rfl hl.1 rfl (Nat.le_of_ble_eq_true rfl) d_L_law_824 (fun r u H locs hp hw => ?_)
  obtain ⟨g1, fo1⟩ := u
  obtain ⟨hr, hg1, ho⟩ := hp
  have hg1 : g1 = (fC_found (xs (6 * k + 1)) (xs (6 * k + 2)) (xs (6 * k + 3)) (xs (6 * k + 4)) (xs (6 * k + 5)) g N).2.2 := hg1
  have hw : wH D (An s) s.heap (cl tc g1 N ad ++ ((o, .inl (tc 2, 1, .inr (.inl fo1))) :: mo tc a μ)) H locs := hw
  refine lv_istore (lv' := [(5, .int r), (4, .int (nI (6 * k))), (0, .ref b), (1, .ref (ad 0 0)), (2, .ref (a 0)), (3, .ref o)]) hx hb d_L_law_827 hl (by decide) rfl (fun ls hl => ?_)
  refine lv_aload_n hx hb d_L_law_829 rfl (lv_at hl 4 rfl) ?_
  refine lr_x 1 hC hw hk (by decide) (lv_at hl 2 rfl) (lv_at hl 1 rfl) (by decide) d_L_law_830 d_L_law_831 d_L_law_833 d_L_law_834 d_L_law_835 ?_
  refine lr_x 2 hC hw hk (by decide) (lv_at hl 2 rfl) (lv_at hl 1 rfl) (by decide) d_L_law_836 d_L_law_837 d_L_law_839 d_L_law_840 d_L_law_841 ?_
  refine lr_x 3 hC hw hk (by decide) (lv_at hl 2 rfl) (lv_at hl 1 rfl) (by decide) d_L_law_842 d_L_law_843 d_L_law_845 d_L_law_846 d_L_law_847 ?_
  refine lr_x 4 hC hw hk (by decide) (lv_at hl 2 rfl) (lv_at hl 1 rfl) (by decide) d_L_law_848 d_L_law_849 d_L_law_851 d_L_law_852 d_L_law_853 ?_
  refine lr_x 5 hC hw hk (by decide) (lv_at hl 2 rfl) (lv_at hl 1 rfl) (by decide) d_L_law_854 d_L_law_855 d_L_law_857 d_L_law_858 d_L_law_859 ?_
  refine lm_i (n := 5) (As := [.int (xs (6 * k + 1)), .int (xs (6 * k + 2)), .int (xs (6 * k + 3)), .int (xs (6 * k + 4)), .int (xs (6 * k + 5))]) (rest := []) h0 hw hA (fun Y sz => cM_found l D tc a Y sz (xs (6 * k + 1)) (xs (6 * k + 2)) (xs (6 * k + 3)) (xs (6 * k + 4)) (xs (6 * k + 5)) μ k2 rfl) (gd_V wd_790 wd_791 wd_792 wd_3 wd_793) (by decide +kernel) ⟨rfl, rfl, (Nat.le_of_ble_eq_true rfl), (Nat.le_of_ble_eq_true rfl), Nat.le_trans (Nat.add_le_add_left (Nat.le_of_ble_eq_true rfl) _) hR.1, Nat.le_trans (Nat.add_le_add_left (Nat.le_of_ble_eq_true rfl) _) hR.2⟩ rfl hl.1 rfl (Nat.le_of_ble_eq_true rfl) d_L_law_860 (fun H locs hw => ?_)
  refine lv_istore (lv' := [(6, .int (fM_found (xs (6 * k + 1)) (xs (6 * k + 2)) (xs (6 * k + 3)) (xs (6 * k + 4)) (xs (6 * k + 5)) μ).1), (5, .int r), (4, .int (nI (6 * k))), (0, .ref b), (1, .ref (ad 0 0)), (2, .ref (a 0)), (3, .ref o)]) hx hb d_L_law_863 hl (by decide) rfl (fun ls hl => ?_)
  refine lv_aload_n hx hb d_L_law_865 rfl (lv_at hl 5 rfl) ?_
  refine lm_t (rest := []) h0 hw (gd_V wd_702 wd_703 wd_704 wd_3 wd_705) ⟨(Nat.le_of_ble_eq_true rfl), (Nat.le_of_ble_eq_true rfl), Nat.le_trans (Nat.add_le_add_left (Nat.le_of_ble_eq_true rfl) _) hR.1, Nat.le_trans (Nat.add_le_add_left (Nat.le_of_ble_eq_true rfl) _) hR.2⟩ hl.1 (Nat.le_of_ble_eq_true rfl) d_L_law_866 ?_
  refine lv_iload hx hb d_L_law_869 (lv_at hl 1 rfl) ?_
  refine lv_icmp_eq (tgt := 876) hx hb d_L_law_871 (by decide) (fun _ => ?_) (fun c1 => absurd (e1.trans hr.symm) c1)
  have hend : ∀ z : Nat, z = 0 → W p l e room_1 s m args below meth c H locs (cells + 3) (slots + 18) Q (F0 m 893 ls []) := by
    intro _ _
    refine lv_goto (tgt := 1535) hx hb d_L_law_893 (by decide) ?_
    exact W.widen (k := cells + 9) (n := slots + 871) (Nat.add_le_add_left (Nat.le_of_ble_eq_true rfl) _) (Nat.add_le_add_left (Nat.le_of_ble_eq_true rfl) _) (kk _ _ _ _ _ _ _ _ (by rw [hg1]; exact hJ) rfl hw (lv_sub hl [2, 3, 4, 5, 6] rfl))
  refine lv_iload hx hb d_L_law_876 (lv_at hl 1 rfl) ?_
  refine lv_if_ne (tgt := 893) hx hb d_L_law_878 (by decide) (fun _ => hend 0 rfl) (fun c2 => ?_)
  have hn : (fC_found (xs (6 * k + 1)) (xs (6 * k + 2)) (xs (6 * k + 3)) (xs (6 * k + 4)) (xs (6 * k + 5)) g N).1 = none := cd_0 (by decide) (hr.symm.trans c2)
  have ho1 := ho hn
  have e3 := e2 hn
  refine lv_aload_n hx hb d_L_law_881 rfl (lv_at hl 6 rfl) ?_
  refine lv_iconst (v := 0) hx hb d_L_law_882 (by decide) ?_
  refine va_lald hx hb hK hw.1 (cl tc g1 N ad).length 2 (n := 1) (f := fo1) (cA := tc 2) (lc_get _ _) rfl (by unfold vp_in; decide) d_L_law_883 ?_
  refine lv_iload hx hb d_L_law_884 (lv_at hl 0 rfl) ?_
  refine lv_i2l hx hb d_L_law_886 rfl ?_
  refine W.lcmp hx hb d_L_law_887 ?_
  refine lv_if_eq (tgt := 893) hx hb d_L_law_888 (by decide) (fun _ => hend 0 rfl) (fun c3 => absurd ((lg_cmp_eq _ _).mpr ?_) c3)
  rw [← e3]
  exact ho1
def pv_second (J : (Nat → Nat → Nat → Int32) → (Nat → Nat) → (Nat → Nat → Int32) → Prop) (x1 : Int32) (x2 : Int32) (x3 : Int32) (g : Nat → Nat → Nat → Int32) (N : Nat → Nat) (μ : Nat → Nat → Int32) : Prop := kC_second x1 x2 x3 g N ∧ kM_second x1 x2 x3 μ ∧ (∀ E, (fC_second x1 x2 x3 g N).1 = some E → E = "java/util/NoSuchElementException" ∨ E = "java/lang/IllegalArgumentException" ∨ E = "java/lang/IllegalStateException") ∧ (fM_second x1 x2 x3 μ).2 0 0 = cd ["java/util/NoSuchElementException", "java/lang/IllegalArgumentException", "java/lang/IllegalStateException"] (fC_second x1 x2 x3 g N).1 ∧ ((fC_second x1 x2 x3 g N).1 = none → (fC_second x1 x2 x3 g N).2.1 = (fM_second x1 x2 x3 μ).1) ∧ J (fC_second x1 x2 x3 g N).2.2 N (fM_second x1 x2 x3 μ).2
set_option maxHeartbeats 4000000 in
set_option maxRecDepth 100000 in
theorem lc_second {J : (Nat → Nat → Nat → Int32) → (Nat → Nat) → (Nat → Nat → Int32) → Prop} {g : Nat → Nat → Nat → Int32} {N : Nat → Nat} {ad : Nat → Nat → Nat} {a : Nat → Nat} {μ : Nat → Nat → Int32} {fo : Nat → Int64} {o k : Nat} (hC : lC p l s m args c D tc sa b L xs) (hk : 6 * k + 6 ≤ L) (hR : cells + 9 ≤ 601024 ∧ slots + 871 ≤ 7293033) (hw : wH D (An s) s.heap (cl tc g N ad ++ ((o, .inl (tc 2, 1, .inr (.inl fo))) :: mo tc a μ)) H locs) (hl : lv_has ls 7 (lo7 b (ad 0 0) (a 0) o k)) (pv : pv_second J (xs (6 * k + 1)) (xs (6 * k + 2)) (xs (6 * k + 3)) g N μ) (kk : kL p l e s m args below meth c Q D tc b o k cells slots a (ad 0) J) : W p l e room_1 s m args below meth c H locs cells slots Q (F0 m 896 ls []) := by
  obtain ⟨h0, hX, hNc, hXs, hbl, hL, hlt⟩ := id hC
  obtain ⟨hx, hb, hml, hown, hts, hK⟩ := id h0
  have hA : ∀ q : Nat, s.heap.size ≤ q → An s q := fun q h => h
  have hl : lv_has ls 7 [(4, .int (nI (6 * k))), (0, .ref b), (1, .ref (ad 0 0)), (2, .ref (a 0)), (3, .ref o)] := hl
  obtain ⟨k1, k2, hEx, e1, e2, hJ⟩ := pv
  refine lv_aload_n hx hb d_L_law_896 rfl (lv_at hl 2 rfl) ?_
  refine lr_x 1 hC hw hk (by decide) (lv_at hl 1 rfl) (lv_at hl 0 rfl) (by decide) d_L_law_897 d_L_law_898 d_L_law_900 d_L_law_901 d_L_law_902 ?_
  refine lr_x 2 hC hw hk (by decide) (lv_at hl 1 rfl) (lv_at hl 0 rfl) (by decide) d_L_law_903 d_L_law_904 d_L_law_906 d_L_law_907 d_L_law_908 ?_
  refine lr_x 3 hC hw hk (by decide) (lv_at hl 1 rfl) (lv_at hl 0 rfl) (by decide) d_L_law_909 d_L_law_910 d_L_law_912 d_L_law_913 d_L_law_914 ?_
  refine lv_aload_n hx hb d_L_law_915 rfl (lv_at hl 4 rfl) ?_
  refine ls_i (wd := fun (u : (Nat → Nat → Nat → Int32) × (Nat → Int64)) => cl tc u.1 N ad ++ ((o, .inl (tc 2, 1, .inr (.inl u.2))) :: mo tc a μ)) (n := 5) (As := [.ref (ad 0 0), .int (xs (6 * k + 1)), .int (xs (6 * k + 2)), .int (xs (6 * k + 3)), .ref o]) (rest := []) h0 hX hNc hw hA (cL_second l hlt D tc sa ad (mo tc a μ) H.size o fo (xs (6 * k + 1)) (xs (6 * k + 2)) (xs (6 * k + 3)) g N k1 rfl hEx) (gd_W wd_474 wd_475 wd_0 wd_476) (by decide +kernel) ⟨rfl, rfl, (Nat.le_of_ble_eq_true rfl), (Nat.le_of_ble_eq_true rfl), Nat.le_trans (Nat.add_le_add_left (Nat.le_of_ble_eq_true rfl) _) hR.1, Nat.le_trans (Nat.add_le_add_left (Nat.le_of_ble_eq_true rfl) _) hR.2⟩ rfl hl.1 rfl (Nat.le_of_ble_eq_true rfl) d_L_law_916 (fun r u H locs hp hw => ?_)
  obtain ⟨g1, fo1⟩ := u
  obtain ⟨hr, hg1, ho⟩ := hp
  have hg1 : g1 = (fC_second (xs (6 * k + 1)) (xs (6 * k + 2)) (xs (6 * k + 3)) g N).2.2 := hg1
  have hw : wH D (An s) s.heap (cl tc g1 N ad ++ ((o, .inl (tc 2, 1, .inr (.inl fo1))) :: mo tc a μ)) H locs := hw
  refine lv_istore (lv' := [(5, .int r), (4, .int (nI (6 * k))), (0, .ref b), (1, .ref (ad 0 0)), (2, .ref (a 0)), (3, .ref o)]) hx hb d_L_law_919 hl (by decide) rfl (fun ls hl => ?_)
  refine lv_aload_n hx hb d_L_law_921 rfl (lv_at hl 4 rfl) ?_
  refine lr_x 1 hC hw hk (by decide) (lv_at hl 2 rfl) (lv_at hl 1 rfl) (by decide) d_L_law_922 d_L_law_923 d_L_law_925 d_L_law_926 d_L_law_927 ?_
  refine lr_x 2 hC hw hk (by decide) (lv_at hl 2 rfl) (lv_at hl 1 rfl) (by decide) d_L_law_928 d_L_law_929 d_L_law_931 d_L_law_932 d_L_law_933 ?_
  refine lr_x 3 hC hw hk (by decide) (lv_at hl 2 rfl) (lv_at hl 1 rfl) (by decide) d_L_law_934 d_L_law_935 d_L_law_937 d_L_law_938 d_L_law_939 ?_
  refine lm_i (n := 3) (As := [.int (xs (6 * k + 1)), .int (xs (6 * k + 2)), .int (xs (6 * k + 3))]) (rest := []) h0 hw hA (fun Y sz => cM_second l D tc a Y sz (xs (6 * k + 1)) (xs (6 * k + 2)) (xs (6 * k + 3)) μ k2 rfl) (gd_V wd_806 wd_807 wd_808 wd_3 wd_809) (by decide +kernel) ⟨rfl, rfl, (Nat.le_of_ble_eq_true rfl), (Nat.le_of_ble_eq_true rfl), Nat.le_trans (Nat.add_le_add_left (Nat.le_of_ble_eq_true rfl) _) hR.1, Nat.le_trans (Nat.add_le_add_left (Nat.le_of_ble_eq_true rfl) _) hR.2⟩ rfl hl.1 rfl (Nat.le_of_ble_eq_true rfl) d_L_law_940 (fun H locs hw => ?_)
  refine lv_istore (lv' := [(6, .int (fM_second (xs (6 * k + 1)) (xs (6 * k + 2)) (xs (6 * k + 3)) μ).1), (5, .int r), (4, .int (nI (6 * k))), (0, .ref b), (1, .ref (ad 0 0)), (2, .ref (a 0)), (3, .ref o)]) hx hb d_L_law_943 hl (by decide) rfl (fun ls hl => ?_)
  refine lv_aload_n hx hb d_L_law_945 rfl (lv_at hl 5 rfl) ?_
  refine lm_t (rest := []) h0 hw (gd_V wd_702 wd_703 wd_704 wd_3 wd_705) ⟨(Nat.le_of_ble_eq_true rfl), (Nat.le_of_ble_eq_true rfl), Nat.le_trans (Nat.add_le_add_left (Nat.le_of_ble_eq_true rfl) _) hR.1, Nat.le_trans (Nat.add_le_add_left (Nat.le_of_ble_eq_true rfl) _) hR.2⟩ hl.1 (Nat.le_of_ble_eq_true rfl) d_L_law_946 ?_
  refine lv_iload hx hb d_L_law_949 (lv_at hl 1 rfl) ?_
  refine lv_icmp_eq (tgt := 956) hx hb d_L_law_951 (by decide) (fun _ => ?_) (fun c1 => absurd (e1.trans hr.symm) c1)
  have hend : ∀ z : Nat, z = 0 → W p l e room_1 s m args below meth c H locs (cells + 3) (slots + 18) Q (F0 m 980 ls []) := by
    intro _ _
    refine lv_goto (tgt := 1535) hx hb d_L_law_980 (by decide) ?_
    exact W.widen (k := cells + 9) (n := slots + 871) (Nat.add_le_add_left (Nat.le_of_ble_eq_true rfl) _) (Nat.add_le_add_left (Nat.le_of_ble_eq_true rfl) _) (kk _ _ _ _ _ _ _ _ (by rw [hg1]; exact hJ) rfl hw (lv_sub hl [2, 3, 4, 5, 6] rfl))
  refine lv_iload hx hb d_L_law_956 (lv_at hl 1 rfl) ?_
  refine lv_if_ne (tgt := 980) hx hb d_L_law_958 (by decide) (fun _ => hend 0 rfl) (fun c2 => ?_)
  have hn : (fC_second (xs (6 * k + 1)) (xs (6 * k + 2)) (xs (6 * k + 3)) g N).1 = none := cd_0 (by decide) (hr.symm.trans c2)
  have ho1 := ho hn
  have e3 := e2 hn
  refine lv_aload_n hx hb d_L_law_961 rfl (lv_at hl 6 rfl) ?_
  refine lv_iconst (v := 0) hx hb d_L_law_962 (by decide) ?_
  refine va_lald hx hb hK hw.1 (cl tc g1 N ad).length 2 (n := 1) (f := fo1) (cA := tc 2) (lc_get _ _) rfl (by unfold vp_in; decide) d_L_law_963 ?_
  refine lv_iload hx hb d_L_law_964 (lv_at hl 0 rfl) ?_
  refine lv_if_eq (tgt := 973) hx hb d_L_law_966 (by decide) (fun c4 => ?_) (fun c4 => ?_)
  · refine lv_lconst (v := 0) hx hb d_L_law_973 (by decide) ?_
    refine W.lcmp hx hb d_L_law_974 ?_
    refine lv_if_eq (tgt := 980) hx hb d_L_law_975 (by decide) (fun _ => hend 0 rfl) (fun c3 => absurd ((lg_cmp_eq _ _).mpr ?_) c3)
    rw [if_pos (e3.trans c4)] at ho1
    exact ho1
  · refine lv_lconst (v := 1) hx hb d_L_law_969 (by decide) ?_
    refine lv_goto (tgt := 974) hx hb d_L_law_970 (by decide) ?_
    refine W.lcmp hx hb d_L_law_974 ?_
    refine lv_if_eq (tgt := 980) hx hb d_L_law_975 (by decide) (fun _ => hend 0 rfl) (fun c3 => absurd ((lg_cmp_eq _ _).mpr ?_) c3)
    rw [if_neg (fun h => c4 (e3.symm.trans h))] at ho1
    exact ho1
def pv_close (J : (Nat → Nat → Nat → Int32) → (Nat → Nat) → (Nat → Nat → Int32) → Prop) (x1 : Int32) (g : Nat → Nat → Nat → Int32) (N : Nat → Nat) (μ : Nat → Nat → Int32) : Prop := kC_close x1 g N ∧ kM_close x1 μ ∧ (∀ E, (fC_close x1 g N).1 = some E → E = "java/util/NoSuchElementException" ∨ E = "java/lang/IllegalStateException") ∧ (fM_close x1 μ).2 0 0 = cd ["java/util/NoSuchElementException", "java/lang/IllegalStateException"] (fC_close x1 g N).1 ∧ ((fC_close x1 g N).1 = none → (fC_close x1 g N).2.1 = (fM_close x1 μ).1) ∧ J (fC_close x1 g N).2.2 N (fM_close x1 μ).2
set_option maxHeartbeats 4000000 in
set_option maxRecDepth 100000 in
theorem lc_close {J : (Nat → Nat → Nat → Int32) → (Nat → Nat) → (Nat → Nat → Int32) → Prop} {g : Nat → Nat → Nat → Int32} {N : Nat → Nat} {ad : Nat → Nat → Nat} {a : Nat → Nat} {μ : Nat → Nat → Int32} {fo : Nat → Int64} {o k : Nat} (hC : lC p l s m args c D tc sa b L xs) (hk : 6 * k + 6 ≤ L) (hR : cells + 9 ≤ 601024 ∧ slots + 871 ≤ 7293033) (hw : wH D (An s) s.heap (cl tc g N ad ++ ((o, .inl (tc 2, 1, .inr (.inl fo))) :: mo tc a μ)) H locs) (hl : lv_has ls 7 (lo7 b (ad 0 0) (a 0) o k)) (pv : pv_close J (xs (6 * k + 1)) g N μ) (kk : kL p l e s m args below meth c Q D tc b o k cells slots a (ad 0) J) : W p l e room_1 s m args below meth c H locs cells slots Q (F0 m 983 ls []) := by
  obtain ⟨h0, hX, hNc, hXs, hbl, hL, hlt⟩ := id hC
  obtain ⟨hx, hb, hml, hown, hts, hK⟩ := id h0
  have hA : ∀ q : Nat, s.heap.size ≤ q → An s q := fun q h => h
  have hl : lv_has ls 7 [(4, .int (nI (6 * k))), (0, .ref b), (1, .ref (ad 0 0)), (2, .ref (a 0)), (3, .ref o)] := hl
  obtain ⟨k1, k2, hEx, e1, e2, hJ⟩ := pv
  refine lv_aload_n hx hb d_L_law_983 rfl (lv_at hl 2 rfl) ?_
  refine lr_x 1 hC hw hk (by decide) (lv_at hl 1 rfl) (lv_at hl 0 rfl) (by decide) d_L_law_984 d_L_law_985 d_L_law_987 d_L_law_988 d_L_law_989 ?_
  refine lv_aload_n hx hb d_L_law_990 rfl (lv_at hl 4 rfl) ?_
  refine ls_i (wd := fun (u : (Nat → Nat → Nat → Int32) × (Nat → Int64)) => cl tc u.1 N ad ++ ((o, .inl (tc 2, 1, .inr (.inl u.2))) :: mo tc a μ)) (n := 3) (As := [.ref (ad 0 0), .int (xs (6 * k + 1)), .ref o]) (rest := []) h0 hX hNc hw hA (cL_close l hlt D tc sa ad (mo tc a μ) H.size o fo (xs (6 * k + 1)) g N k1 rfl hEx) (gd_W wd_499 wd_500 wd_0 wd_501) (by decide +kernel) ⟨rfl, rfl, (Nat.le_of_ble_eq_true rfl), (Nat.le_of_ble_eq_true rfl), Nat.le_trans (Nat.add_le_add_left (Nat.le_of_ble_eq_true rfl) _) hR.1, Nat.le_trans (Nat.add_le_add_left (Nat.le_of_ble_eq_true rfl) _) hR.2⟩ rfl hl.1 rfl (Nat.le_of_ble_eq_true rfl) d_L_law_991 (fun r u H locs hp hw => ?_)
  obtain ⟨g1, fo1⟩ := u
  obtain ⟨hr, hg1, ho⟩ := hp
  have hg1 : g1 = (fC_close (xs (6 * k + 1)) g N).2.2 := hg1
  have hw : wH D (An s) s.heap (cl tc g1 N ad ++ ((o, .inl (tc 2, 1, .inr (.inl fo1))) :: mo tc a μ)) H locs := hw
  refine lv_istore (lv' := [(5, .int r), (4, .int (nI (6 * k))), (0, .ref b), (1, .ref (ad 0 0)), (2, .ref (a 0)), (3, .ref o)]) hx hb d_L_law_994 hl (by decide) rfl (fun ls hl => ?_)
  refine lv_aload_n hx hb d_L_law_996 rfl (lv_at hl 4 rfl) ?_
  refine lr_x 1 hC hw hk (by decide) (lv_at hl 2 rfl) (lv_at hl 1 rfl) (by decide) d_L_law_997 d_L_law_998 d_L_law_1000 d_L_law_1001 d_L_law_1002 ?_
  refine lm_i (n := 1) (As := [.int (xs (6 * k + 1))]) (rest := []) h0 hw hA (fun Y sz => cM_close l D tc a Y sz (xs (6 * k + 1)) μ k2 rfl) (gd_V wd_813 wd_814 wd_815 wd_3 wd_816) (by decide +kernel) ⟨rfl, rfl, (Nat.le_of_ble_eq_true rfl), (Nat.le_of_ble_eq_true rfl), Nat.le_trans (Nat.add_le_add_left (Nat.le_of_ble_eq_true rfl) _) hR.1, Nat.le_trans (Nat.add_le_add_left (Nat.le_of_ble_eq_true rfl) _) hR.2⟩ rfl hl.1 rfl (Nat.le_of_ble_eq_true rfl) d_L_law_1003 (fun H locs hw => ?_)
  refine lv_istore (lv' := [(6, .int (fM_close (xs (6 * k + 1)) μ).1), (5, .int r), (4, .int (nI (6 * k))), (0, .ref b), (1, .ref (ad 0 0)), (2, .ref (a 0)), (3, .ref o)]) hx hb d_L_law_1006 hl (by decide) rfl (fun ls hl => ?_)
  refine lv_aload_n hx hb d_L_law_1008 rfl (lv_at hl 5 rfl) ?_
  refine lm_t (rest := []) h0 hw (gd_V wd_702 wd_703 wd_704 wd_3 wd_705) ⟨(Nat.le_of_ble_eq_true rfl), (Nat.le_of_ble_eq_true rfl), Nat.le_trans (Nat.add_le_add_left (Nat.le_of_ble_eq_true rfl) _) hR.1, Nat.le_trans (Nat.add_le_add_left (Nat.le_of_ble_eq_true rfl) _) hR.2⟩ hl.1 (Nat.le_of_ble_eq_true rfl) d_L_law_1009 ?_
  refine lv_iload hx hb d_L_law_1012 (lv_at hl 1 rfl) ?_
  refine lv_icmp_eq (tgt := 1019) hx hb d_L_law_1014 (by decide) (fun _ => ?_) (fun c1 => absurd (e1.trans hr.symm) c1)
  have hend : ∀ z : Nat, z = 0 → W p l e room_1 s m args below meth c H locs (cells + 2) (slots + 12) Q (F0 m 1036 ls []) := by
    intro _ _
    refine lv_goto (tgt := 1535) hx hb d_L_law_1036 (by decide) ?_
    exact W.widen (k := cells + 9) (n := slots + 871) (Nat.add_le_add_left (Nat.le_of_ble_eq_true rfl) _) (Nat.add_le_add_left (Nat.le_of_ble_eq_true rfl) _) (kk _ _ _ _ _ _ _ _ (by rw [hg1]; exact hJ) rfl hw (lv_sub hl [2, 3, 4, 5, 6] rfl))
  refine lv_iload hx hb d_L_law_1019 (lv_at hl 1 rfl) ?_
  refine lv_if_ne (tgt := 1036) hx hb d_L_law_1021 (by decide) (fun _ => hend 0 rfl) (fun c2 => ?_)
  have hn : (fC_close (xs (6 * k + 1)) g N).1 = none := cd_0 (by decide) (hr.symm.trans c2)
  have ho1 := ho hn
  have e3 := e2 hn
  refine lv_aload_n hx hb d_L_law_1024 rfl (lv_at hl 6 rfl) ?_
  refine lv_iconst (v := 0) hx hb d_L_law_1025 (by decide) ?_
  refine va_lald hx hb hK hw.1 (cl tc g1 N ad).length 2 (n := 1) (f := fo1) (cA := tc 2) (lc_get _ _) rfl (by unfold vp_in; decide) d_L_law_1026 ?_
  refine lv_iload hx hb d_L_law_1027 (lv_at hl 0 rfl) ?_
  refine lv_i2l hx hb d_L_law_1029 rfl ?_
  refine W.lcmp hx hb d_L_law_1030 ?_
  refine lv_if_eq (tgt := 1036) hx hb d_L_law_1031 (by decide) (fun _ => hend 0 rfl) (fun c3 => absurd ((lg_cmp_eq _ _).mpr ?_) c3)
  rw [← e3]
  exact ho1
def pv_differ (J : (Nat → Nat → Nat → Int32) → (Nat → Nat) → (Nat → Nat → Int32) → Prop) (x1 : Int32) (x2 : Int32) (x3 : Int32) (g : Nat → Nat → Nat → Int32) (N : Nat → Nat) (μ : Nat → Nat → Int32) : Prop := kC_differ x1 x2 x3 g N ∧ kM_differ x1 x2 x3 μ ∧ (∀ E, (fC_differ x1 x2 x3 g N).1 = some E → E = "java/util/NoSuchElementException" ∨ E = "java/lang/IllegalArgumentException") ∧ (fM_differ x1 x2 x3 μ).2 0 0 = cd ["java/util/NoSuchElementException", "java/lang/IllegalArgumentException"] (fC_differ x1 x2 x3 g N).1 ∧ ((fC_differ x1 x2 x3 g N).1 = none → (fC_differ x1 x2 x3 g N).2.1 = (fM_differ x1 x2 x3 μ).1) ∧ J (fC_differ x1 x2 x3 g N).2.2 N (fM_differ x1 x2 x3 μ).2
set_option maxHeartbeats 4000000 in
set_option maxRecDepth 100000 in
theorem lc_differ {J : (Nat → Nat → Nat → Int32) → (Nat → Nat) → (Nat → Nat → Int32) → Prop} {g : Nat → Nat → Nat → Int32} {N : Nat → Nat} {ad : Nat → Nat → Nat} {a : Nat → Nat} {μ : Nat → Nat → Int32} {fo : Nat → Int64} {o k : Nat} (hC : lC p l s m args c D tc sa b L xs) (hk : 6 * k + 6 ≤ L) (hR : cells + 9 ≤ 601024 ∧ slots + 871 ≤ 7293033) (hw : wH D (An s) s.heap (cl tc g N ad ++ ((o, .inl (tc 2, 1, .inr (.inl fo))) :: mo tc a μ)) H locs) (hl : lv_has ls 7 (lo7 b (ad 0 0) (a 0) o k)) (pv : pv_differ J (xs (6 * k + 1)) (xs (6 * k + 2)) (xs (6 * k + 3)) g N μ) (kk : kL p l e s m args below meth c Q D tc b o k cells slots a (ad 0) J) : W p l e room_1 s m args below meth c H locs cells slots Q (F0 m 1039 ls []) := by
  obtain ⟨h0, hX, hNc, hXs, hbl, hL, hlt⟩ := id hC
  obtain ⟨hx, hb, hml, hown, hts, hK⟩ := id h0
  have hA : ∀ q : Nat, s.heap.size ≤ q → An s q := fun q h => h
  have hl : lv_has ls 7 [(4, .int (nI (6 * k))), (0, .ref b), (1, .ref (ad 0 0)), (2, .ref (a 0)), (3, .ref o)] := hl
  obtain ⟨k1, k2, hEx, e1, e2, hJ⟩ := pv
  refine lv_aload_n hx hb d_L_law_1039 rfl (lv_at hl 2 rfl) ?_
  refine lr_x 1 hC hw hk (by decide) (lv_at hl 1 rfl) (lv_at hl 0 rfl) (by decide) d_L_law_1040 d_L_law_1041 d_L_law_1043 d_L_law_1044 d_L_law_1045 ?_
  refine lr_x 2 hC hw hk (by decide) (lv_at hl 1 rfl) (lv_at hl 0 rfl) (by decide) d_L_law_1046 d_L_law_1047 d_L_law_1049 d_L_law_1050 d_L_law_1051 ?_
  refine lr_x 3 hC hw hk (by decide) (lv_at hl 1 rfl) (lv_at hl 0 rfl) (by decide) d_L_law_1052 d_L_law_1053 d_L_law_1055 d_L_law_1056 d_L_law_1057 ?_
  refine lv_aload_n hx hb d_L_law_1058 rfl (lv_at hl 4 rfl) ?_
  refine ls_i (wd := fun (u : (Nat → Nat → Nat → Int32) × (Nat → Int64)) => cl tc u.1 N ad ++ ((o, .inl (tc 2, 1, .inr (.inl u.2))) :: mo tc a μ)) (n := 5) (As := [.ref (ad 0 0), .int (xs (6 * k + 1)), .int (xs (6 * k + 2)), .int (xs (6 * k + 3)), .ref o]) (rest := []) h0 hX hNc hw hA (cL_differ l hlt D tc sa ad (mo tc a μ) H.size o fo (xs (6 * k + 1)) (xs (6 * k + 2)) (xs (6 * k + 3)) g N k1 rfl hEx) (gd_W wd_518 wd_519 wd_0 wd_520) (by decide +kernel) ⟨rfl, rfl, (Nat.le_of_ble_eq_true rfl), (Nat.le_of_ble_eq_true rfl), Nat.le_trans (Nat.add_le_add_left (Nat.le_of_ble_eq_true rfl) _) hR.1, Nat.le_trans (Nat.add_le_add_left (Nat.le_of_ble_eq_true rfl) _) hR.2⟩ rfl hl.1 rfl (Nat.le_of_ble_eq_true rfl) d_L_law_1059 (fun r u H locs hp hw => ?_)
  obtain ⟨g1, fo1⟩ := u
  obtain ⟨hr, hg1, ho⟩ := hp
  have hg1 : g1 = (fC_differ (xs (6 * k + 1)) (xs (6 * k + 2)) (xs (6 * k + 3)) g N).2.2 := hg1
  have hw : wH D (An s) s.heap (cl tc g1 N ad ++ ((o, .inl (tc 2, 1, .inr (.inl fo1))) :: mo tc a μ)) H locs := hw
  refine lv_istore (lv' := [(5, .int r), (4, .int (nI (6 * k))), (0, .ref b), (1, .ref (ad 0 0)), (2, .ref (a 0)), (3, .ref o)]) hx hb d_L_law_1062 hl (by decide) rfl (fun ls hl => ?_)
  refine lv_aload_n hx hb d_L_law_1064 rfl (lv_at hl 4 rfl) ?_
  refine lr_x 1 hC hw hk (by decide) (lv_at hl 2 rfl) (lv_at hl 1 rfl) (by decide) d_L_law_1065 d_L_law_1066 d_L_law_1068 d_L_law_1069 d_L_law_1070 ?_
  refine lr_x 2 hC hw hk (by decide) (lv_at hl 2 rfl) (lv_at hl 1 rfl) (by decide) d_L_law_1071 d_L_law_1072 d_L_law_1074 d_L_law_1075 d_L_law_1076 ?_
  refine lr_x 3 hC hw hk (by decide) (lv_at hl 2 rfl) (lv_at hl 1 rfl) (by decide) d_L_law_1077 d_L_law_1078 d_L_law_1080 d_L_law_1081 d_L_law_1082 ?_
  refine lm_i (n := 3) (As := [.int (xs (6 * k + 1)), .int (xs (6 * k + 2)), .int (xs (6 * k + 3))]) (rest := []) h0 hw hA (fun Y sz => cM_differ l D tc a Y sz (xs (6 * k + 1)) (xs (6 * k + 2)) (xs (6 * k + 3)) μ k2 rfl) (gd_V wd_833 wd_834 wd_835 wd_3 wd_836) (by decide +kernel) ⟨rfl, rfl, (Nat.le_of_ble_eq_true rfl), (Nat.le_of_ble_eq_true rfl), Nat.le_trans (Nat.add_le_add_left (Nat.le_of_ble_eq_true rfl) _) hR.1, Nat.le_trans (Nat.add_le_add_left (Nat.le_of_ble_eq_true rfl) _) hR.2⟩ rfl hl.1 rfl (Nat.le_of_ble_eq_true rfl) d_L_law_1083 (fun H locs hw => ?_)
  refine lv_istore (lv' := [(6, .int (fM_differ (xs (6 * k + 1)) (xs (6 * k + 2)) (xs (6 * k + 3)) μ).1), (5, .int r), (4, .int (nI (6 * k))), (0, .ref b), (1, .ref (ad 0 0)), (2, .ref (a 0)), (3, .ref o)]) hx hb d_L_law_1086 hl (by decide) rfl (fun ls hl => ?_)
  refine lv_aload_n hx hb d_L_law_1088 rfl (lv_at hl 5 rfl) ?_
  refine lm_t (rest := []) h0 hw (gd_V wd_702 wd_703 wd_704 wd_3 wd_705) ⟨(Nat.le_of_ble_eq_true rfl), (Nat.le_of_ble_eq_true rfl), Nat.le_trans (Nat.add_le_add_left (Nat.le_of_ble_eq_true rfl) _) hR.1, Nat.le_trans (Nat.add_le_add_left (Nat.le_of_ble_eq_true rfl) _) hR.2⟩ hl.1 (Nat.le_of_ble_eq_true rfl) d_L_law_1089 ?_
  refine lv_iload hx hb d_L_law_1092 (lv_at hl 1 rfl) ?_
  refine lv_icmp_eq (tgt := 1099) hx hb d_L_law_1094 (by decide) (fun _ => ?_) (fun c1 => absurd (e1.trans hr.symm) c1)
  have hend : ∀ z : Nat, z = 0 → W p l e room_1 s m args below meth c H locs (cells + 3) (slots + 18) Q (F0 m 1116 ls []) := by
    intro _ _
    refine lv_goto (tgt := 1535) hx hb d_L_law_1116 (by decide) ?_
    exact W.widen (k := cells + 9) (n := slots + 871) (Nat.add_le_add_left (Nat.le_of_ble_eq_true rfl) _) (Nat.add_le_add_left (Nat.le_of_ble_eq_true rfl) _) (kk _ _ _ _ _ _ _ _ (by rw [hg1]; exact hJ) rfl hw (lv_sub hl [2, 3, 4, 5, 6] rfl))
  refine lv_iload hx hb d_L_law_1099 (lv_at hl 1 rfl) ?_
  refine lv_if_ne (tgt := 1116) hx hb d_L_law_1101 (by decide) (fun _ => hend 0 rfl) (fun c2 => ?_)
  have hn : (fC_differ (xs (6 * k + 1)) (xs (6 * k + 2)) (xs (6 * k + 3)) g N).1 = none := cd_0 (by decide) (hr.symm.trans c2)
  have ho1 := ho hn
  have e3 := e2 hn
  refine lv_aload_n hx hb d_L_law_1104 rfl (lv_at hl 6 rfl) ?_
  refine lv_iconst (v := 0) hx hb d_L_law_1105 (by decide) ?_
  refine va_lald hx hb hK hw.1 (cl tc g1 N ad).length 2 (n := 1) (f := fo1) (cA := tc 2) (lc_get _ _) rfl (by unfold vp_in; decide) d_L_law_1106 ?_
  refine lv_iload hx hb d_L_law_1107 (lv_at hl 0 rfl) ?_
  refine lv_i2l hx hb d_L_law_1109 rfl ?_
  refine W.lcmp hx hb d_L_law_1110 ?_
  refine lv_if_eq (tgt := 1116) hx hb d_L_law_1111 (by decide) (fun _ => hend 0 rfl) (fun c3 => absurd ((lg_cmp_eq _ _).mpr ?_) c3)
  rw [← e3]
  exact ho1
def pv_correct (J : (Nat → Nat → Nat → Int32) → (Nat → Nat) → (Nat → Nat → Int32) → Prop) (x1 : Int32) (x2 : Int32) (x3 : Int32) (g : Nat → Nat → Nat → Int32) (N : Nat → Nat) (μ : Nat → Nat → Int32) : Prop := kC_correct x1 x2 x3 g N ∧ kM_correct x1 x2 x3 μ ∧ (∀ E, (fC_correct x1 x2 x3 g N).1 = some E → E = "java/util/NoSuchElementException" ∨ E = "java/lang/IllegalArgumentException" ∨ E = "java/lang/IllegalStateException") ∧ (fM_correct x1 x2 x3 μ).2 0 0 = cd ["java/util/NoSuchElementException", "java/lang/IllegalArgumentException", "java/lang/IllegalStateException"] (fC_correct x1 x2 x3 g N).1 ∧ ((fC_correct x1 x2 x3 g N).1 = none → (fC_correct x1 x2 x3 g N).2.1 = (fM_correct x1 x2 x3 μ).1) ∧ J (fC_correct x1 x2 x3 g N).2.2 N (fM_correct x1 x2 x3 μ).2
set_option maxHeartbeats 4000000 in
set_option maxRecDepth 100000 in
theorem lc_correct {J : (Nat → Nat → Nat → Int32) → (Nat → Nat) → (Nat → Nat → Int32) → Prop} {g : Nat → Nat → Nat → Int32} {N : Nat → Nat} {ad : Nat → Nat → Nat} {a : Nat → Nat} {μ : Nat → Nat → Int32} {fo : Nat → Int64} {o k : Nat} (hC : lC p l s m args c D tc sa b L xs) (hk : 6 * k + 6 ≤ L) (hR : cells + 9 ≤ 601024 ∧ slots + 871 ≤ 7293033) (hw : wH D (An s) s.heap (cl tc g N ad ++ ((o, .inl (tc 2, 1, .inr (.inl fo))) :: mo tc a μ)) H locs) (hl : lv_has ls 7 (lo7 b (ad 0 0) (a 0) o k)) (pv : pv_correct J (xs (6 * k + 1)) (xs (6 * k + 2)) (xs (6 * k + 3)) g N μ) (kk : kL p l e s m args below meth c Q D tc b o k cells slots a (ad 0) J) : W p l e room_1 s m args below meth c H locs cells slots Q (F0 m 1119 ls []) := by
  obtain ⟨h0, hX, hNc, hXs, hbl, hL, hlt⟩ := id hC
  obtain ⟨hx, hb, hml, hown, hts, hK⟩ := id h0
  have hA : ∀ q : Nat, s.heap.size ≤ q → An s q := fun q h => h
  have hl : lv_has ls 7 [(4, .int (nI (6 * k))), (0, .ref b), (1, .ref (ad 0 0)), (2, .ref (a 0)), (3, .ref o)] := hl
  obtain ⟨k1, k2, hEx, e1, e2, hJ⟩ := pv
  refine lv_aload_n hx hb d_L_law_1119 rfl (lv_at hl 2 rfl) ?_
  refine lr_x 1 hC hw hk (by decide) (lv_at hl 1 rfl) (lv_at hl 0 rfl) (by decide) d_L_law_1120 d_L_law_1121 d_L_law_1123 d_L_law_1124 d_L_law_1125 ?_
  refine lr_x 2 hC hw hk (by decide) (lv_at hl 1 rfl) (lv_at hl 0 rfl) (by decide) d_L_law_1126 d_L_law_1127 d_L_law_1129 d_L_law_1130 d_L_law_1131 ?_
  refine lr_x 3 hC hw hk (by decide) (lv_at hl 1 rfl) (lv_at hl 0 rfl) (by decide) d_L_law_1132 d_L_law_1133 d_L_law_1135 d_L_law_1136 d_L_law_1137 ?_
  refine lv_aload_n hx hb d_L_law_1138 rfl (lv_at hl 4 rfl) ?_
  refine ls_i (wd := fun (u : (Nat → Nat → Nat → Int32) × (Nat → Int64)) => cl tc u.1 N ad ++ ((o, .inl (tc 2, 1, .inr (.inl u.2))) :: mo tc a μ)) (n := 5) (As := [.ref (ad 0 0), .int (xs (6 * k + 1)), .int (xs (6 * k + 2)), .int (xs (6 * k + 3)), .ref o]) (rest := []) h0 hX hNc hw hA (cL_correct l hlt D tc sa ad (mo tc a μ) H.size o fo (xs (6 * k + 1)) (xs (6 * k + 2)) (xs (6 * k + 3)) g N k1 rfl hEx) (gd_W wd_538 wd_539 wd_0 wd_540) (by decide +kernel) ⟨rfl, rfl, (Nat.le_of_ble_eq_true rfl), (Nat.le_of_ble_eq_true rfl), Nat.le_trans (Nat.add_le_add_left (Nat.le_of_ble_eq_true rfl) _) hR.1, Nat.le_trans (Nat.add_le_add_left (Nat.le_of_ble_eq_true rfl) _) hR.2⟩ rfl hl.1 rfl (Nat.le_of_ble_eq_true rfl) d_L_law_1139 (fun r u H locs hp hw => ?_)
  obtain ⟨g1, fo1⟩ := u
  obtain ⟨hr, hg1, ho⟩ := hp
  have hg1 : g1 = (fC_correct (xs (6 * k + 1)) (xs (6 * k + 2)) (xs (6 * k + 3)) g N).2.2 := hg1
  have hw : wH D (An s) s.heap (cl tc g1 N ad ++ ((o, .inl (tc 2, 1, .inr (.inl fo1))) :: mo tc a μ)) H locs := hw
  refine lv_istore (lv' := [(5, .int r), (4, .int (nI (6 * k))), (0, .ref b), (1, .ref (ad 0 0)), (2, .ref (a 0)), (3, .ref o)]) hx hb d_L_law_1142 hl (by decide) rfl (fun ls hl => ?_)
  refine lv_aload_n hx hb d_L_law_1144 rfl (lv_at hl 4 rfl) ?_
  refine lr_x 1 hC hw hk (by decide) (lv_at hl 2 rfl) (lv_at hl 1 rfl) (by decide) d_L_law_1145 d_L_law_1146 d_L_law_1148 d_L_law_1149 d_L_law_1150 ?_
  refine lr_x 2 hC hw hk (by decide) (lv_at hl 2 rfl) (lv_at hl 1 rfl) (by decide) d_L_law_1151 d_L_law_1152 d_L_law_1154 d_L_law_1155 d_L_law_1156 ?_
  refine lr_x 3 hC hw hk (by decide) (lv_at hl 2 rfl) (lv_at hl 1 rfl) (by decide) d_L_law_1157 d_L_law_1158 d_L_law_1160 d_L_law_1161 d_L_law_1162 ?_
  refine lm_i (n := 3) (As := [.int (xs (6 * k + 1)), .int (xs (6 * k + 2)), .int (xs (6 * k + 3))]) (rest := []) h0 hw hA (fun Y sz => cM_correct l D tc a Y sz (xs (6 * k + 1)) (xs (6 * k + 2)) (xs (6 * k + 3)) μ k2 rfl) (gd_V wd_841 wd_842 wd_843 wd_3 wd_844) (by decide +kernel) ⟨rfl, rfl, (Nat.le_of_ble_eq_true rfl), (Nat.le_of_ble_eq_true rfl), Nat.le_trans (Nat.add_le_add_left (Nat.le_of_ble_eq_true rfl) _) hR.1, Nat.le_trans (Nat.add_le_add_left (Nat.le_of_ble_eq_true rfl) _) hR.2⟩ rfl hl.1 rfl (Nat.le_of_ble_eq_true rfl) d_L_law_1163 (fun H locs hw => ?_)
  refine lv_istore (lv' := [(6, .int (fM_correct (xs (6 * k + 1)) (xs (6 * k + 2)) (xs (6 * k + 3)) μ).1), (5, .int r), (4, .int (nI (6 * k))), (0, .ref b), (1, .ref (ad 0 0)), (2, .ref (a 0)), (3, .ref o)]) hx hb d_L_law_1166 hl (by decide) rfl (fun ls hl => ?_)
  refine lv_aload_n hx hb d_L_law_1168 rfl (lv_at hl 5 rfl) ?_
  refine lm_t (rest := []) h0 hw (gd_V wd_702 wd_703 wd_704 wd_3 wd_705) ⟨(Nat.le_of_ble_eq_true rfl), (Nat.le_of_ble_eq_true rfl), Nat.le_trans (Nat.add_le_add_left (Nat.le_of_ble_eq_true rfl) _) hR.1, Nat.le_trans (Nat.add_le_add_left (Nat.le_of_ble_eq_true rfl) _) hR.2⟩ hl.1 (Nat.le_of_ble_eq_true rfl) d_L_law_1169 ?_
  refine lv_iload hx hb d_L_law_1172 (lv_at hl 1 rfl) ?_
  refine lv_icmp_eq (tgt := 1179) hx hb d_L_law_1174 (by decide) (fun _ => ?_) (fun c1 => absurd (e1.trans hr.symm) c1)
  have hend : ∀ z : Nat, z = 0 → W p l e room_1 s m args below meth c H locs (cells + 3) (slots + 18) Q (F0 m 1203 ls []) := by
    intro _ _
    refine lv_goto (tgt := 1535) hx hb d_L_law_1203 (by decide) ?_
    exact W.widen (k := cells + 9) (n := slots + 871) (Nat.add_le_add_left (Nat.le_of_ble_eq_true rfl) _) (Nat.add_le_add_left (Nat.le_of_ble_eq_true rfl) _) (kk _ _ _ _ _ _ _ _ (by rw [hg1]; exact hJ) rfl hw (lv_sub hl [2, 3, 4, 5, 6] rfl))
  refine lv_iload hx hb d_L_law_1179 (lv_at hl 1 rfl) ?_
  refine lv_if_ne (tgt := 1203) hx hb d_L_law_1181 (by decide) (fun _ => hend 0 rfl) (fun c2 => ?_)
  have hn : (fC_correct (xs (6 * k + 1)) (xs (6 * k + 2)) (xs (6 * k + 3)) g N).1 = none := cd_0 (by decide) (hr.symm.trans c2)
  have ho1 := ho hn
  have e3 := e2 hn
  refine lv_aload_n hx hb d_L_law_1184 rfl (lv_at hl 6 rfl) ?_
  refine lv_iconst (v := 0) hx hb d_L_law_1185 (by decide) ?_
  refine va_lald hx hb hK hw.1 (cl tc g1 N ad).length 2 (n := 1) (f := fo1) (cA := tc 2) (lc_get _ _) rfl (by unfold vp_in; decide) d_L_law_1186 ?_
  refine lv_iload hx hb d_L_law_1187 (lv_at hl 0 rfl) ?_
  refine lv_if_eq (tgt := 1196) hx hb d_L_law_1189 (by decide) (fun c4 => ?_) (fun c4 => ?_)
  · refine lv_lconst (v := 0) hx hb d_L_law_1196 (by decide) ?_
    refine W.lcmp hx hb d_L_law_1197 ?_
    refine lv_if_eq (tgt := 1203) hx hb d_L_law_1198 (by decide) (fun _ => hend 0 rfl) (fun c3 => absurd ((lg_cmp_eq _ _).mpr ?_) c3)
    rw [if_pos (e3.trans c4)] at ho1
    exact ho1
  · refine lv_lconst (v := 1) hx hb d_L_law_1192 (by decide) ?_
    refine lv_goto (tgt := 1197) hx hb d_L_law_1193 (by decide) ?_
    refine W.lcmp hx hb d_L_law_1197 ?_
    refine lv_if_eq (tgt := 1203) hx hb d_L_law_1198 (by decide) (fun _ => hend 0 rfl) (fun c3 => absurd ((lg_cmp_eq _ _).mpr ?_) c3)
    rw [if_neg (fun h => c4 (e3.symm.trans h))] at ho1
    exact ho1
def pv_share (J : (Nat → Nat → Nat → Int32) → (Nat → Nat) → (Nat → Nat → Int32) → Prop) (x1 : Int32) (g : Nat → Nat → Nat → Int32) (N : Nat → Nat) (μ : Nat → Nat → Int32) : Prop := kC_share x1 g N ∧ kM_share x1 μ ∧ (∀ E, (fC_share x1 g N).1 = some E → E = "java/lang/IllegalArgumentException" ∨ E = "java/lang/ArithmeticException") ∧ (fM_share x1 μ).2 0 0 = cd ["java/lang/IllegalArgumentException", "java/lang/ArithmeticException"] (fC_share x1 g N).1 ∧ ((fC_share x1 g N).1 = none → (fC_share x1 g N).2.1 = (fM_share x1 μ).1) ∧ J (fC_share x1 g N).2.2 N (fM_share x1 μ).2
set_option maxHeartbeats 4000000 in
set_option maxRecDepth 100000 in
theorem lc_share {J : (Nat → Nat → Nat → Int32) → (Nat → Nat) → (Nat → Nat → Int32) → Prop} {g : Nat → Nat → Nat → Int32} {N : Nat → Nat} {ad : Nat → Nat → Nat} {a : Nat → Nat} {μ : Nat → Nat → Int32} {fo : Nat → Int64} {o k : Nat} (hC : lC p l s m args c D tc sa b L xs) (hk : 6 * k + 6 ≤ L) (hR : cells + 9 ≤ 601024 ∧ slots + 871 ≤ 7293033) (hw : wH D (An s) s.heap (cl tc g N ad ++ ((o, .inl (tc 2, 1, .inr (.inl fo))) :: mo tc a μ)) H locs) (hl : lv_has ls 7 (lo7 b (ad 0 0) (a 0) o k)) (pv : pv_share J (xs (6 * k + 1)) g N μ) (kk : kL p l e s m args below meth c Q D tc b o k cells slots a (ad 0) J) : W p l e room_1 s m args below meth c H locs cells slots Q (F0 m 1206 ls []) := by
  obtain ⟨h0, hX, hNc, hXs, hbl, hL, hlt⟩ := id hC
  obtain ⟨hx, hb, hml, hown, hts, hK⟩ := id h0
  have hA : ∀ q : Nat, s.heap.size ≤ q → An s q := fun q h => h
  have hl : lv_has ls 7 [(4, .int (nI (6 * k))), (0, .ref b), (1, .ref (ad 0 0)), (2, .ref (a 0)), (3, .ref o)] := hl
  obtain ⟨k1, k2, hEx, e1, e2, hJ⟩ := pv
  refine lv_aload_n hx hb d_L_law_1206 rfl (lv_at hl 2 rfl) ?_
  refine lr_x 1 hC hw hk (by decide) (lv_at hl 1 rfl) (lv_at hl 0 rfl) (by decide) d_L_law_1207 d_L_law_1208 d_L_law_1210 d_L_law_1211 d_L_law_1212 ?_
  refine lv_aload_n hx hb d_L_law_1213 rfl (lv_at hl 4 rfl) ?_
  refine ls_i (wd := fun (u : (Nat → Nat → Nat → Int32) × (Nat → Int64)) => cl tc u.1 N ad ++ ((o, .inl (tc 2, 1, .inr (.inl u.2))) :: mo tc a μ)) (n := 3) (As := [.ref (ad 0 0), .int (xs (6 * k + 1)), .ref o]) (rest := []) h0 hX hNc hw hA (cL_share l hlt D tc sa ad (mo tc a μ) H.size o fo (xs (6 * k + 1)) g N k1 rfl hEx) (gd_W wd_552 wd_553 wd_0 wd_554) (by decide +kernel) ⟨rfl, rfl, (Nat.le_of_ble_eq_true rfl), (Nat.le_of_ble_eq_true rfl), Nat.le_trans (Nat.add_le_add_left (Nat.le_of_ble_eq_true rfl) _) hR.1, Nat.le_trans (Nat.add_le_add_left (Nat.le_of_ble_eq_true rfl) _) hR.2⟩ rfl hl.1 rfl (Nat.le_of_ble_eq_true rfl) d_L_law_1214 (fun r u H locs hp hw => ?_)
  obtain ⟨g1, fo1⟩ := u
  obtain ⟨hr, hg1, ho⟩ := hp
  have hg1 : g1 = (fC_share (xs (6 * k + 1)) g N).2.2 := hg1
  have hw : wH D (An s) s.heap (cl tc g1 N ad ++ ((o, .inl (tc 2, 1, .inr (.inl fo1))) :: mo tc a μ)) H locs := hw
  refine lv_istore (lv' := [(5, .int r), (4, .int (nI (6 * k))), (0, .ref b), (1, .ref (ad 0 0)), (2, .ref (a 0)), (3, .ref o)]) hx hb d_L_law_1217 hl (by decide) rfl (fun ls hl => ?_)
  refine lv_aload_n hx hb d_L_law_1219 rfl (lv_at hl 4 rfl) ?_
  refine lr_x 1 hC hw hk (by decide) (lv_at hl 2 rfl) (lv_at hl 1 rfl) (by decide) d_L_law_1220 d_L_law_1221 d_L_law_1223 d_L_law_1224 d_L_law_1225 ?_
  refine lm_i (n := 1) (As := [.int (xs (6 * k + 1))]) (rest := []) h0 hw hA (fun Y sz => cM_share l D tc a Y sz (xs (6 * k + 1)) μ k2 rfl) (gd_V wd_845 wd_846 wd_847 wd_3 wd_848) (by decide +kernel) ⟨rfl, rfl, (Nat.le_of_ble_eq_true rfl), (Nat.le_of_ble_eq_true rfl), Nat.le_trans (Nat.add_le_add_left (Nat.le_of_ble_eq_true rfl) _) hR.1, Nat.le_trans (Nat.add_le_add_left (Nat.le_of_ble_eq_true rfl) _) hR.2⟩ rfl hl.1 rfl (Nat.le_of_ble_eq_true rfl) d_L_law_1226 (fun H locs hw => ?_)
  refine lv_istore (lv' := [(6, .int (fM_share (xs (6 * k + 1)) μ).1), (5, .int r), (4, .int (nI (6 * k))), (0, .ref b), (1, .ref (ad 0 0)), (2, .ref (a 0)), (3, .ref o)]) hx hb d_L_law_1229 hl (by decide) rfl (fun ls hl => ?_)
  refine lv_aload_n hx hb d_L_law_1231 rfl (lv_at hl 5 rfl) ?_
  refine lm_t (rest := []) h0 hw (gd_V wd_702 wd_703 wd_704 wd_3 wd_705) ⟨(Nat.le_of_ble_eq_true rfl), (Nat.le_of_ble_eq_true rfl), Nat.le_trans (Nat.add_le_add_left (Nat.le_of_ble_eq_true rfl) _) hR.1, Nat.le_trans (Nat.add_le_add_left (Nat.le_of_ble_eq_true rfl) _) hR.2⟩ hl.1 (Nat.le_of_ble_eq_true rfl) d_L_law_1232 ?_
  refine lv_iload hx hb d_L_law_1235 (lv_at hl 1 rfl) ?_
  refine lv_icmp_eq (tgt := 1242) hx hb d_L_law_1237 (by decide) (fun _ => ?_) (fun c1 => absurd (e1.trans hr.symm) c1)
  have hend : ∀ z : Nat, z = 0 → W p l e room_1 s m args below meth c H locs (cells + 1) (slots + 6) Q (F0 m 1259 ls []) := by
    intro _ _
    refine lv_goto (tgt := 1535) hx hb d_L_law_1259 (by decide) ?_
    exact W.widen (k := cells + 9) (n := slots + 871) (Nat.add_le_add_left (Nat.le_of_ble_eq_true rfl) _) (Nat.add_le_add_left (Nat.le_of_ble_eq_true rfl) _) (kk _ _ _ _ _ _ _ _ (by rw [hg1]; exact hJ) rfl hw (lv_sub hl [2, 3, 4, 5, 6] rfl))
  refine lv_iload hx hb d_L_law_1242 (lv_at hl 1 rfl) ?_
  refine lv_if_ne (tgt := 1259) hx hb d_L_law_1244 (by decide) (fun _ => hend 0 rfl) (fun c2 => ?_)
  have hn : (fC_share (xs (6 * k + 1)) g N).1 = none := cd_0 (by decide) (hr.symm.trans c2)
  have ho1 := ho hn
  have e3 := e2 hn
  refine lv_aload_n hx hb d_L_law_1247 rfl (lv_at hl 6 rfl) ?_
  refine lv_iconst (v := 0) hx hb d_L_law_1248 (by decide) ?_
  refine va_lald hx hb hK hw.1 (cl tc g1 N ad).length 2 (n := 1) (f := fo1) (cA := tc 2) (lc_get _ _) rfl (by unfold vp_in; decide) d_L_law_1249 ?_
  refine lv_iload hx hb d_L_law_1250 (lv_at hl 0 rfl) ?_
  refine lv_i2l hx hb d_L_law_1252 rfl ?_
  refine W.lcmp hx hb d_L_law_1253 ?_
  refine lv_if_eq (tgt := 1259) hx hb d_L_law_1254 (by decide) (fun _ => hend 0 rfl) (fun c3 => absurd ((lg_cmp_eq _ _).mpr ?_) c3)
  rw [← e3]
  exact ho1
def pv_last (J : (Nat → Nat → Nat → Int32) → (Nat → Nat) → (Nat → Nat → Int32) → Prop) (x1 : Int32) (g : Nat → Nat → Nat → Int32) (N : Nat → Nat) (μ : Nat → Nat → Int32) : Prop := kC_last x1 g N ∧ kM_last x1 μ ∧ (∀ E, (fC_last x1 g N).1 = some E → E = "java/util/NoSuchElementException") ∧ (fM_last x1 μ).2 0 0 = cd ["java/util/NoSuchElementException"] (fC_last x1 g N).1 ∧ ((fC_last x1 g N).1 = none → (fC_last x1 g N).2.1 = (fM_last x1 μ).1) ∧ J (fC_last x1 g N).2.2 N (fM_last x1 μ).2
set_option maxHeartbeats 4000000 in
set_option maxRecDepth 100000 in
theorem lc_last {J : (Nat → Nat → Nat → Int32) → (Nat → Nat) → (Nat → Nat → Int32) → Prop} {g : Nat → Nat → Nat → Int32} {N : Nat → Nat} {ad : Nat → Nat → Nat} {a : Nat → Nat} {μ : Nat → Nat → Int32} {fo : Nat → Int64} {o k : Nat} (hC : lC p l s m args c D tc sa b L xs) (hk : 6 * k + 6 ≤ L) (hR : cells + 9 ≤ 601024 ∧ slots + 871 ≤ 7293033) (hw : wH D (An s) s.heap (cl tc g N ad ++ ((o, .inl (tc 2, 1, .inr (.inl fo))) :: mo tc a μ)) H locs) (hl : lv_has ls 7 (lo7 b (ad 0 0) (a 0) o k)) (pv : pv_last J (xs (6 * k + 1)) g N μ) (kk : kL p l e s m args below meth c Q D tc b o k cells slots a (ad 0) J) : W p l e room_1 s m args below meth c H locs cells slots Q (F0 m 1262 ls []) := by
  obtain ⟨h0, hX, hNc, hXs, hbl, hL, hlt⟩ := id hC
  obtain ⟨hx, hb, hml, hown, hts, hK⟩ := id h0
  have hA : ∀ q : Nat, s.heap.size ≤ q → An s q := fun q h => h
  have hl : lv_has ls 7 [(4, .int (nI (6 * k))), (0, .ref b), (1, .ref (ad 0 0)), (2, .ref (a 0)), (3, .ref o)] := hl
  obtain ⟨k1, k2, hEx, e1, e2, hJ⟩ := pv
  refine lv_aload_n hx hb d_L_law_1262 rfl (lv_at hl 2 rfl) ?_
  refine lr_x 1 hC hw hk (by decide) (lv_at hl 1 rfl) (lv_at hl 0 rfl) (by decide) d_L_law_1263 d_L_law_1264 d_L_law_1266 d_L_law_1267 d_L_law_1268 ?_
  refine lv_aload_n hx hb d_L_law_1269 rfl (lv_at hl 4 rfl) ?_
  refine ls_i (wd := fun (u : (Nat → Nat → Nat → Int32) × (Nat → Int64)) => cl tc u.1 N ad ++ ((o, .inl (tc 2, 1, .inr (.inl u.2))) :: mo tc a μ)) (n := 3) (As := [.ref (ad 0 0), .int (xs (6 * k + 1)), .ref o]) (rest := []) h0 hX hNc hw hA (cL_last l hlt D tc sa ad (mo tc a μ) H.size o fo (xs (6 * k + 1)) g N k1 rfl hEx) (gd_W wd_580 wd_581 wd_0 wd_582) (by decide +kernel) ⟨rfl, rfl, (Nat.le_of_ble_eq_true rfl), (Nat.le_of_ble_eq_true rfl), Nat.le_trans (Nat.add_le_add_left (Nat.le_of_ble_eq_true rfl) _) hR.1, Nat.le_trans (Nat.add_le_add_left (Nat.le_of_ble_eq_true rfl) _) hR.2⟩ rfl hl.1 rfl (Nat.le_of_ble_eq_true rfl) d_L_law_1270 (fun r u H locs hp hw => ?_)
  obtain ⟨g1, fo1⟩ := u
  obtain ⟨hr, hg1, ho⟩ := hp
  have hg1 : g1 = (fC_last (xs (6 * k + 1)) g N).2.2 := hg1
  have hw : wH D (An s) s.heap (cl tc g1 N ad ++ ((o, .inl (tc 2, 1, .inr (.inl fo1))) :: mo tc a μ)) H locs := hw
  refine lv_istore (lv' := [(5, .int r), (4, .int (nI (6 * k))), (0, .ref b), (1, .ref (ad 0 0)), (2, .ref (a 0)), (3, .ref o)]) hx hb d_L_law_1273 hl (by decide) rfl (fun ls hl => ?_)
  refine lv_aload_n hx hb d_L_law_1275 rfl (lv_at hl 4 rfl) ?_
  refine lr_x 1 hC hw hk (by decide) (lv_at hl 2 rfl) (lv_at hl 1 rfl) (by decide) d_L_law_1276 d_L_law_1277 d_L_law_1279 d_L_law_1280 d_L_law_1281 ?_
  refine lm_i (n := 1) (As := [.int (xs (6 * k + 1))]) (rest := []) h0 hw hA (fun Y sz => cM_last l D tc a Y sz (xs (6 * k + 1)) μ k2 rfl) (gd_V wd_852 wd_853 wd_854 wd_3 wd_855) (by decide +kernel) ⟨rfl, rfl, (Nat.le_of_ble_eq_true rfl), (Nat.le_of_ble_eq_true rfl), Nat.le_trans (Nat.add_le_add_left (Nat.le_of_ble_eq_true rfl) _) hR.1, Nat.le_trans (Nat.add_le_add_left (Nat.le_of_ble_eq_true rfl) _) hR.2⟩ rfl hl.1 rfl (Nat.le_of_ble_eq_true rfl) d_L_law_1282 (fun H locs hw => ?_)
  refine lv_istore (lv' := [(6, .int (fM_last (xs (6 * k + 1)) μ).1), (5, .int r), (4, .int (nI (6 * k))), (0, .ref b), (1, .ref (ad 0 0)), (2, .ref (a 0)), (3, .ref o)]) hx hb d_L_law_1285 hl (by decide) rfl (fun ls hl => ?_)
  refine lv_aload_n hx hb d_L_law_1287 rfl (lv_at hl 5 rfl) ?_
  refine lm_t (rest := []) h0 hw (gd_V wd_702 wd_703 wd_704 wd_3 wd_705) ⟨(Nat.le_of_ble_eq_true rfl), (Nat.le_of_ble_eq_true rfl), Nat.le_trans (Nat.add_le_add_left (Nat.le_of_ble_eq_true rfl) _) hR.1, Nat.le_trans (Nat.add_le_add_left (Nat.le_of_ble_eq_true rfl) _) hR.2⟩ hl.1 (Nat.le_of_ble_eq_true rfl) d_L_law_1288 ?_
  refine lv_iload hx hb d_L_law_1291 (lv_at hl 1 rfl) ?_
  refine lv_icmp_eq (tgt := 1298) hx hb d_L_law_1293 (by decide) (fun _ => ?_) (fun c1 => absurd (e1.trans hr.symm) c1)
  have hend : ∀ z : Nat, z = 0 → W p l e room_1 s m args below meth c H locs (cells + 1) (slots + 6) Q (F0 m 1315 ls []) := by
    intro _ _
    refine lv_goto (tgt := 1535) hx hb d_L_law_1315 (by decide) ?_
    exact W.widen (k := cells + 9) (n := slots + 871) (Nat.add_le_add_left (Nat.le_of_ble_eq_true rfl) _) (Nat.add_le_add_left (Nat.le_of_ble_eq_true rfl) _) (kk _ _ _ _ _ _ _ _ (by rw [hg1]; exact hJ) rfl hw (lv_sub hl [2, 3, 4, 5, 6] rfl))
  refine lv_iload hx hb d_L_law_1298 (lv_at hl 1 rfl) ?_
  refine lv_if_ne (tgt := 1315) hx hb d_L_law_1300 (by decide) (fun _ => hend 0 rfl) (fun c2 => ?_)
  have hn : (fC_last (xs (6 * k + 1)) g N).1 = none := cd_0 (by decide) (hr.symm.trans c2)
  have ho1 := ho hn
  have e3 := e2 hn
  refine lv_aload_n hx hb d_L_law_1303 rfl (lv_at hl 6 rfl) ?_
  refine lv_iconst (v := 0) hx hb d_L_law_1304 (by decide) ?_
  refine va_lald hx hb hK hw.1 (cl tc g1 N ad).length 2 (n := 1) (f := fo1) (cA := tc 2) (lc_get _ _) rfl (by unfold vp_in; decide) d_L_law_1305 ?_
  refine lv_iload hx hb d_L_law_1306 (lv_at hl 0 rfl) ?_
  refine lv_i2l hx hb d_L_law_1308 rfl ?_
  refine W.lcmp hx hb d_L_law_1309 ?_
  refine lv_if_eq (tgt := 1315) hx hb d_L_law_1310 (by decide) (fun _ => hend 0 rfl) (fun c3 => absurd ((lg_cmp_eq _ _).mpr ?_) c3)
  rw [← e3]
  exact ho1
def pv_due (J : (Nat → Nat → Nat → Int32) → (Nat → Nat) → (Nat → Nat → Int32) → Prop) (x1 : Int32) (g : Nat → Nat → Nat → Int32) (N : Nat → Nat) (μ : Nat → Nat → Int32) : Prop := kC_due x1 g N ∧ kM_due x1 μ ∧ (∀ E, (fC_due x1 g N).1 = some E → E = "java/lang/IllegalArgumentException") ∧ (fM_due x1 μ).2 0 0 = cd ["java/lang/IllegalArgumentException"] (fC_due x1 g N).1 ∧ ((fC_due x1 g N).1 = none → (fC_due x1 g N).2.1 = (fM_due x1 μ).1) ∧ J (fC_due x1 g N).2.2 N (fM_due x1 μ).2
set_option maxHeartbeats 4000000 in
set_option maxRecDepth 100000 in
theorem lc_due {J : (Nat → Nat → Nat → Int32) → (Nat → Nat) → (Nat → Nat → Int32) → Prop} {g : Nat → Nat → Nat → Int32} {N : Nat → Nat} {ad : Nat → Nat → Nat} {a : Nat → Nat} {μ : Nat → Nat → Int32} {fo : Nat → Int64} {o k : Nat} (hC : lC p l s m args c D tc sa b L xs) (hk : 6 * k + 6 ≤ L) (hR : cells + 9 ≤ 601024 ∧ slots + 871 ≤ 7293033) (hw : wH D (An s) s.heap (cl tc g N ad ++ ((o, .inl (tc 2, 1, .inr (.inl fo))) :: mo tc a μ)) H locs) (hl : lv_has ls 7 (lo7 b (ad 0 0) (a 0) o k)) (pv : pv_due J (xs (6 * k + 1)) g N μ) (kk : kL p l e s m args below meth c Q D tc b o k cells slots a (ad 0) J) : W p l e room_1 s m args below meth c H locs cells slots Q (F0 m 1318 ls []) := by
  obtain ⟨h0, hX, hNc, hXs, hbl, hL, hlt⟩ := id hC
  obtain ⟨hx, hb, hml, hown, hts, hK⟩ := id h0
  have hA : ∀ q : Nat, s.heap.size ≤ q → An s q := fun q h => h
  have hl : lv_has ls 7 [(4, .int (nI (6 * k))), (0, .ref b), (1, .ref (ad 0 0)), (2, .ref (a 0)), (3, .ref o)] := hl
  obtain ⟨k1, k2, hEx, e1, e2, hJ⟩ := pv
  refine lv_aload_n hx hb d_L_law_1318 rfl (lv_at hl 2 rfl) ?_
  refine lr_x 1 hC hw hk (by decide) (lv_at hl 1 rfl) (lv_at hl 0 rfl) (by decide) d_L_law_1319 d_L_law_1320 d_L_law_1322 d_L_law_1323 d_L_law_1324 ?_
  refine lv_aload_n hx hb d_L_law_1325 rfl (lv_at hl 4 rfl) ?_
  refine ls_i (wd := fun (u : (Nat → Nat → Nat → Int32) × (Nat → Int64)) => cl tc u.1 N ad ++ ((o, .inl (tc 2, 1, .inr (.inl u.2))) :: mo tc a μ)) (n := 3) (As := [.ref (ad 0 0), .int (xs (6 * k + 1)), .ref o]) (rest := []) h0 hX hNc hw hA (cL_due l hlt D tc sa ad (mo tc a μ) H.size o fo (xs (6 * k + 1)) g N k1 rfl hEx) (gd_W wd_587 wd_588 wd_0 wd_589) (by decide +kernel) ⟨rfl, rfl, (Nat.le_of_ble_eq_true rfl), (Nat.le_of_ble_eq_true rfl), Nat.le_trans (Nat.add_le_add_left (Nat.le_of_ble_eq_true rfl) _) hR.1, Nat.le_trans (Nat.add_le_add_left (Nat.le_of_ble_eq_true rfl) _) hR.2⟩ rfl hl.1 rfl (Nat.le_of_ble_eq_true rfl) d_L_law_1326 (fun r u H locs hp hw => ?_)
  obtain ⟨g1, fo1⟩ := u
  obtain ⟨hr, hg1, ho⟩ := hp
  have hg1 : g1 = (fC_due (xs (6 * k + 1)) g N).2.2 := hg1
  have hw : wH D (An s) s.heap (cl tc g1 N ad ++ ((o, .inl (tc 2, 1, .inr (.inl fo1))) :: mo tc a μ)) H locs := hw
  refine lv_istore (lv' := [(5, .int r), (4, .int (nI (6 * k))), (0, .ref b), (1, .ref (ad 0 0)), (2, .ref (a 0)), (3, .ref o)]) hx hb d_L_law_1329 hl (by decide) rfl (fun ls hl => ?_)
  refine lv_aload_n hx hb d_L_law_1331 rfl (lv_at hl 4 rfl) ?_
  refine lr_x 1 hC hw hk (by decide) (lv_at hl 2 rfl) (lv_at hl 1 rfl) (by decide) d_L_law_1332 d_L_law_1333 d_L_law_1335 d_L_law_1336 d_L_law_1337 ?_
  refine lm_i (n := 1) (As := [.int (xs (6 * k + 1))]) (rest := []) h0 hw hA (fun Y sz => cM_due l D tc a Y sz (xs (6 * k + 1)) μ k2 rfl) (gd_V wd_856 wd_857 wd_858 wd_3 wd_859) (by decide +kernel) ⟨rfl, rfl, (Nat.le_of_ble_eq_true rfl), (Nat.le_of_ble_eq_true rfl), Nat.le_trans (Nat.add_le_add_left (Nat.le_of_ble_eq_true rfl) _) hR.1, Nat.le_trans (Nat.add_le_add_left (Nat.le_of_ble_eq_true rfl) _) hR.2⟩ rfl hl.1 rfl (Nat.le_of_ble_eq_true rfl) d_L_law_1338 (fun H locs hw => ?_)
  refine lv_istore (lv' := [(6, .int (fM_due (xs (6 * k + 1)) μ).1), (5, .int r), (4, .int (nI (6 * k))), (0, .ref b), (1, .ref (ad 0 0)), (2, .ref (a 0)), (3, .ref o)]) hx hb d_L_law_1341 hl (by decide) rfl (fun ls hl => ?_)
  refine lv_aload_n hx hb d_L_law_1343 rfl (lv_at hl 5 rfl) ?_
  refine lm_t (rest := []) h0 hw (gd_V wd_702 wd_703 wd_704 wd_3 wd_705) ⟨(Nat.le_of_ble_eq_true rfl), (Nat.le_of_ble_eq_true rfl), Nat.le_trans (Nat.add_le_add_left (Nat.le_of_ble_eq_true rfl) _) hR.1, Nat.le_trans (Nat.add_le_add_left (Nat.le_of_ble_eq_true rfl) _) hR.2⟩ hl.1 (Nat.le_of_ble_eq_true rfl) d_L_law_1344 ?_
  refine lv_iload hx hb d_L_law_1347 (lv_at hl 1 rfl) ?_
  refine lv_icmp_eq (tgt := 1354) hx hb d_L_law_1349 (by decide) (fun _ => ?_) (fun c1 => absurd (e1.trans hr.symm) c1)
  have hend : ∀ z : Nat, z = 0 → W p l e room_1 s m args below meth c H locs (cells + 1) (slots + 6) Q (F0 m 1371 ls []) := by
    intro _ _
    refine lv_goto (tgt := 1535) hx hb d_L_law_1371 (by decide) ?_
    exact W.widen (k := cells + 9) (n := slots + 871) (Nat.add_le_add_left (Nat.le_of_ble_eq_true rfl) _) (Nat.add_le_add_left (Nat.le_of_ble_eq_true rfl) _) (kk _ _ _ _ _ _ _ _ (by rw [hg1]; exact hJ) rfl hw (lv_sub hl [2, 3, 4, 5, 6] rfl))
  refine lv_iload hx hb d_L_law_1354 (lv_at hl 1 rfl) ?_
  refine lv_if_ne (tgt := 1371) hx hb d_L_law_1356 (by decide) (fun _ => hend 0 rfl) (fun c2 => ?_)
  have hn : (fC_due (xs (6 * k + 1)) g N).1 = none := cd_0 (by decide) (hr.symm.trans c2)
  have ho1 := ho hn
  have e3 := e2 hn
  refine lv_aload_n hx hb d_L_law_1359 rfl (lv_at hl 6 rfl) ?_
  refine lv_iconst (v := 0) hx hb d_L_law_1360 (by decide) ?_
  refine va_lald hx hb hK hw.1 (cl tc g1 N ad).length 2 (n := 1) (f := fo1) (cA := tc 2) (lc_get _ _) rfl (by unfold vp_in; decide) d_L_law_1361 ?_
  refine lv_iload hx hb d_L_law_1362 (lv_at hl 0 rfl) ?_
  refine lv_i2l hx hb d_L_law_1364 rfl ?_
  refine W.lcmp hx hb d_L_law_1365 ?_
  refine lv_if_eq (tgt := 1371) hx hb d_L_law_1366 (by decide) (fun _ => hend 0 rfl) (fun c3 => absurd ((lg_cmp_eq _ _).mpr ?_) c3)
  rw [← e3]
  exact ho1
def pv_booked (J : (Nat → Nat → Nat → Int32) → (Nat → Nat) → (Nat → Nat → Int32) → Prop) (x1 : Int32) (x2 : Int32) (g : Nat → Nat → Nat → Int32) (N : Nat → Nat) (μ : Nat → Nat → Int32) : Prop := kC_booked x1 x2 g N ∧ kM_booked x1 x2 μ ∧ (∀ E, (fC_booked x1 x2 g N).1 = some E → E = "java/util/NoSuchElementException" ∨ E = "java/lang/IllegalArgumentException") ∧ (fM_booked x1 x2 μ).2 0 0 = cd ["java/util/NoSuchElementException", "java/lang/IllegalArgumentException"] (fC_booked x1 x2 g N).1 ∧ ((fC_booked x1 x2 g N).1 = none → (fC_booked x1 x2 g N).2.1 = (fM_booked x1 x2 μ).1) ∧ J (fC_booked x1 x2 g N).2.2 N (fM_booked x1 x2 μ).2
set_option maxHeartbeats 4000000 in
set_option maxRecDepth 100000 in
theorem lc_booked {J : (Nat → Nat → Nat → Int32) → (Nat → Nat) → (Nat → Nat → Int32) → Prop} {g : Nat → Nat → Nat → Int32} {N : Nat → Nat} {ad : Nat → Nat → Nat} {a : Nat → Nat} {μ : Nat → Nat → Int32} {fo : Nat → Int64} {o k : Nat} (hC : lC p l s m args c D tc sa b L xs) (hk : 6 * k + 6 ≤ L) (hR : cells + 9 ≤ 601024 ∧ slots + 871 ≤ 7293033) (hw : wH D (An s) s.heap (cl tc g N ad ++ ((o, .inl (tc 2, 1, .inr (.inl fo))) :: mo tc a μ)) H locs) (hl : lv_has ls 7 (lo7 b (ad 0 0) (a 0) o k)) (pv : pv_booked J (xs (6 * k + 1)) (xs (6 * k + 2)) g N μ) (kk : kL p l e s m args below meth c Q D tc b o k cells slots a (ad 0) J) : W p l e room_1 s m args below meth c H locs cells slots Q (F0 m 1374 ls []) := by
  obtain ⟨h0, hX, hNc, hXs, hbl, hL, hlt⟩ := id hC
  obtain ⟨hx, hb, hml, hown, hts, hK⟩ := id h0
  have hA : ∀ q : Nat, s.heap.size ≤ q → An s q := fun q h => h
  have hl : lv_has ls 7 [(4, .int (nI (6 * k))), (0, .ref b), (1, .ref (ad 0 0)), (2, .ref (a 0)), (3, .ref o)] := hl
  obtain ⟨k1, k2, hEx, e1, e2, hJ⟩ := pv
  refine lv_aload_n hx hb d_L_law_1374 rfl (lv_at hl 2 rfl) ?_
  refine lr_x 1 hC hw hk (by decide) (lv_at hl 1 rfl) (lv_at hl 0 rfl) (by decide) d_L_law_1375 d_L_law_1376 d_L_law_1378 d_L_law_1379 d_L_law_1380 ?_
  refine lr_x 2 hC hw hk (by decide) (lv_at hl 1 rfl) (lv_at hl 0 rfl) (by decide) d_L_law_1381 d_L_law_1382 d_L_law_1384 d_L_law_1385 d_L_law_1386 ?_
  refine lv_aload_n hx hb d_L_law_1387 rfl (lv_at hl 4 rfl) ?_
  refine ls_i (wd := fun (u : (Nat → Nat → Nat → Int32) × (Nat → Int64)) => cl tc u.1 N ad ++ ((o, .inl (tc 2, 1, .inr (.inl u.2))) :: mo tc a μ)) (n := 4) (As := [.ref (ad 0 0), .int (xs (6 * k + 1)), .int (xs (6 * k + 2)), .ref o]) (rest := []) h0 hX hNc hw hA (cL_booked l hlt D tc sa ad (mo tc a μ) H.size o fo (xs (6 * k + 1)) (xs (6 * k + 2)) g N k1 rfl hEx) (gd_W wd_594 wd_595 wd_0 wd_596) (by decide +kernel) ⟨rfl, rfl, (Nat.le_of_ble_eq_true rfl), (Nat.le_of_ble_eq_true rfl), Nat.le_trans (Nat.add_le_add_left (Nat.le_of_ble_eq_true rfl) _) hR.1, Nat.le_trans (Nat.add_le_add_left (Nat.le_of_ble_eq_true rfl) _) hR.2⟩ rfl hl.1 rfl (Nat.le_of_ble_eq_true rfl) d_L_law_1388 (fun r u H locs hp hw => ?_)
  obtain ⟨g1, fo1⟩ := u
  obtain ⟨hr, hg1, ho⟩ := hp
  have hg1 : g1 = (fC_booked (xs (6 * k + 1)) (xs (6 * k + 2)) g N).2.2 := hg1
  have hw : wH D (An s) s.heap (cl tc g1 N ad ++ ((o, .inl (tc 2, 1, .inr (.inl fo1))) :: mo tc a μ)) H locs := hw
  refine lv_istore (lv' := [(5, .int r), (4, .int (nI (6 * k))), (0, .ref b), (1, .ref (ad 0 0)), (2, .ref (a 0)), (3, .ref o)]) hx hb d_L_law_1391 hl (by decide) rfl (fun ls hl => ?_)
  refine lv_aload_n hx hb d_L_law_1393 rfl (lv_at hl 4 rfl) ?_
  refine lr_x 1 hC hw hk (by decide) (lv_at hl 2 rfl) (lv_at hl 1 rfl) (by decide) d_L_law_1394 d_L_law_1395 d_L_law_1397 d_L_law_1398 d_L_law_1399 ?_
  refine lr_x 2 hC hw hk (by decide) (lv_at hl 2 rfl) (lv_at hl 1 rfl) (by decide) d_L_law_1400 d_L_law_1401 d_L_law_1403 d_L_law_1404 d_L_law_1405 ?_
  refine lm_i (n := 2) (As := [.int (xs (6 * k + 1)), .int (xs (6 * k + 2))]) (rest := []) h0 hw hA (fun Y sz => cM_booked l D tc a Y sz (xs (6 * k + 1)) (xs (6 * k + 2)) μ k2 rfl) (gd_V wd_860 wd_861 wd_862 wd_3 wd_863) (by decide +kernel) ⟨rfl, rfl, (Nat.le_of_ble_eq_true rfl), (Nat.le_of_ble_eq_true rfl), Nat.le_trans (Nat.add_le_add_left (Nat.le_of_ble_eq_true rfl) _) hR.1, Nat.le_trans (Nat.add_le_add_left (Nat.le_of_ble_eq_true rfl) _) hR.2⟩ rfl hl.1 rfl (Nat.le_of_ble_eq_true rfl) d_L_law_1406 (fun H locs hw => ?_)
  refine lv_istore (lv' := [(6, .int (fM_booked (xs (6 * k + 1)) (xs (6 * k + 2)) μ).1), (5, .int r), (4, .int (nI (6 * k))), (0, .ref b), (1, .ref (ad 0 0)), (2, .ref (a 0)), (3, .ref o)]) hx hb d_L_law_1409 hl (by decide) rfl (fun ls hl => ?_)
  refine lv_aload_n hx hb d_L_law_1411 rfl (lv_at hl 5 rfl) ?_
  refine lm_t (rest := []) h0 hw (gd_V wd_702 wd_703 wd_704 wd_3 wd_705) ⟨(Nat.le_of_ble_eq_true rfl), (Nat.le_of_ble_eq_true rfl), Nat.le_trans (Nat.add_le_add_left (Nat.le_of_ble_eq_true rfl) _) hR.1, Nat.le_trans (Nat.add_le_add_left (Nat.le_of_ble_eq_true rfl) _) hR.2⟩ hl.1 (Nat.le_of_ble_eq_true rfl) d_L_law_1412 ?_
  refine lv_iload hx hb d_L_law_1415 (lv_at hl 1 rfl) ?_
  refine lv_icmp_eq (tgt := 1422) hx hb d_L_law_1417 (by decide) (fun _ => ?_) (fun c1 => absurd (e1.trans hr.symm) c1)
  have hend : ∀ z : Nat, z = 0 → W p l e room_1 s m args below meth c H locs (cells + 2) (slots + 12) Q (F0 m 1439 ls []) := by
    intro _ _
    refine lv_goto (tgt := 1535) hx hb d_L_law_1439 (by decide) ?_
    exact W.widen (k := cells + 9) (n := slots + 871) (Nat.add_le_add_left (Nat.le_of_ble_eq_true rfl) _) (Nat.add_le_add_left (Nat.le_of_ble_eq_true rfl) _) (kk _ _ _ _ _ _ _ _ (by rw [hg1]; exact hJ) rfl hw (lv_sub hl [2, 3, 4, 5, 6] rfl))
  refine lv_iload hx hb d_L_law_1422 (lv_at hl 1 rfl) ?_
  refine lv_if_ne (tgt := 1439) hx hb d_L_law_1424 (by decide) (fun _ => hend 0 rfl) (fun c2 => ?_)
  have hn : (fC_booked (xs (6 * k + 1)) (xs (6 * k + 2)) g N).1 = none := cd_0 (by decide) (hr.symm.trans c2)
  have ho1 := ho hn
  have e3 := e2 hn
  refine lv_aload_n hx hb d_L_law_1427 rfl (lv_at hl 6 rfl) ?_
  refine lv_iconst (v := 0) hx hb d_L_law_1428 (by decide) ?_
  refine va_lald hx hb hK hw.1 (cl tc g1 N ad).length 2 (n := 1) (f := fo1) (cA := tc 2) (lc_get _ _) rfl (by unfold vp_in; decide) d_L_law_1429 ?_
  refine lv_iload hx hb d_L_law_1430 (lv_at hl 0 rfl) ?_
  refine lv_i2l hx hb d_L_law_1432 rfl ?_
  refine W.lcmp hx hb d_L_law_1433 ?_
  refine lv_if_eq (tgt := 1439) hx hb d_L_law_1434 (by decide) (fun _ => hend 0 rfl) (fun c3 => absurd ((lg_cmp_eq _ _).mpr ?_) c3)
  rw [← e3]
  exact ho1
def pv_told (J : (Nat → Nat → Nat → Int32) → (Nat → Nat) → (Nat → Nat → Int32) → Prop) (x1 : Int32) (x2 : Int32) (g : Nat → Nat → Nat → Int32) (N : Nat → Nat) (μ : Nat → Nat → Int32) : Prop := kC_told x1 x2 g N ∧ kM_told x1 x2 μ ∧ (∀ E, (fC_told x1 x2 g N).1 = some E → E = "java/util/NoSuchElementException" ∨ E = "java/lang/IllegalArgumentException") ∧ (fM_told x1 x2 μ).2 0 0 = cd ["java/util/NoSuchElementException", "java/lang/IllegalArgumentException"] (fC_told x1 x2 g N).1 ∧ ((fC_told x1 x2 g N).1 = none → (fC_told x1 x2 g N).2.1 = (fM_told x1 x2 μ).1) ∧ J (fC_told x1 x2 g N).2.2 N (fM_told x1 x2 μ).2
set_option maxHeartbeats 4000000 in
set_option maxRecDepth 100000 in
theorem lc_told {J : (Nat → Nat → Nat → Int32) → (Nat → Nat) → (Nat → Nat → Int32) → Prop} {g : Nat → Nat → Nat → Int32} {N : Nat → Nat} {ad : Nat → Nat → Nat} {a : Nat → Nat} {μ : Nat → Nat → Int32} {fo : Nat → Int64} {o k : Nat} (hC : lC p l s m args c D tc sa b L xs) (hk : 6 * k + 6 ≤ L) (hR : cells + 9 ≤ 601024 ∧ slots + 871 ≤ 7293033) (hw : wH D (An s) s.heap (cl tc g N ad ++ ((o, .inl (tc 2, 1, .inr (.inl fo))) :: mo tc a μ)) H locs) (hl : lv_has ls 7 (lo7 b (ad 0 0) (a 0) o k)) (pv : pv_told J (xs (6 * k + 1)) (xs (6 * k + 2)) g N μ) (kk : kL p l e s m args below meth c Q D tc b o k cells slots a (ad 0) J) : W p l e room_1 s m args below meth c H locs cells slots Q (F0 m 1442 ls []) := by
  obtain ⟨h0, hX, hNc, hXs, hbl, hL, hlt⟩ := id hC
  obtain ⟨hx, hb, hml, hown, hts, hK⟩ := id h0
  have hA : ∀ q : Nat, s.heap.size ≤ q → An s q := fun q h => h
  have hl : lv_has ls 7 [(4, .int (nI (6 * k))), (0, .ref b), (1, .ref (ad 0 0)), (2, .ref (a 0)), (3, .ref o)] := hl
  obtain ⟨k1, k2, hEx, e1, e2, hJ⟩ := pv
  refine lv_aload_n hx hb d_L_law_1442 rfl (lv_at hl 2 rfl) ?_
  refine lr_x 1 hC hw hk (by decide) (lv_at hl 1 rfl) (lv_at hl 0 rfl) (by decide) d_L_law_1443 d_L_law_1444 d_L_law_1446 d_L_law_1447 d_L_law_1448 ?_
  refine lr_x 2 hC hw hk (by decide) (lv_at hl 1 rfl) (lv_at hl 0 rfl) (by decide) d_L_law_1449 d_L_law_1450 d_L_law_1452 d_L_law_1453 d_L_law_1454 ?_
  refine lv_aload_n hx hb d_L_law_1455 rfl (lv_at hl 4 rfl) ?_
  refine ls_i (wd := fun (u : (Nat → Nat → Nat → Int32) × (Nat → Int64)) => cl tc u.1 N ad ++ ((o, .inl (tc 2, 1, .inr (.inl u.2))) :: mo tc a μ)) (n := 4) (As := [.ref (ad 0 0), .int (xs (6 * k + 1)), .int (xs (6 * k + 2)), .ref o]) (rest := []) h0 hX hNc hw hA (cL_told l hlt D tc sa ad (mo tc a μ) H.size o fo (xs (6 * k + 1)) (xs (6 * k + 2)) g N k1 rfl hEx) (gd_W wd_601 wd_602 wd_0 wd_603) (by decide +kernel) ⟨rfl, rfl, (Nat.le_of_ble_eq_true rfl), (Nat.le_of_ble_eq_true rfl), Nat.le_trans (Nat.add_le_add_left (Nat.le_of_ble_eq_true rfl) _) hR.1, Nat.le_trans (Nat.add_le_add_left (Nat.le_of_ble_eq_true rfl) _) hR.2⟩ rfl hl.1 rfl (Nat.le_of_ble_eq_true rfl) d_L_law_1456 (fun r u H locs hp hw => ?_)
  obtain ⟨g1, fo1⟩ := u
  obtain ⟨hr, hg1, ho⟩ := hp
  have hg1 : g1 = (fC_told (xs (6 * k + 1)) (xs (6 * k + 2)) g N).2.2 := hg1
  have hw : wH D (An s) s.heap (cl tc g1 N ad ++ ((o, .inl (tc 2, 1, .inr (.inl fo1))) :: mo tc a μ)) H locs := hw
  refine lv_istore (lv' := [(5, .int r), (4, .int (nI (6 * k))), (0, .ref b), (1, .ref (ad 0 0)), (2, .ref (a 0)), (3, .ref o)]) hx hb d_L_law_1459 hl (by decide) rfl (fun ls hl => ?_)
  refine lv_aload_n hx hb d_L_law_1461 rfl (lv_at hl 4 rfl) ?_
  refine lr_x 1 hC hw hk (by decide) (lv_at hl 2 rfl) (lv_at hl 1 rfl) (by decide) d_L_law_1462 d_L_law_1463 d_L_law_1465 d_L_law_1466 d_L_law_1467 ?_
  refine lr_x 2 hC hw hk (by decide) (lv_at hl 2 rfl) (lv_at hl 1 rfl) (by decide) d_L_law_1468 d_L_law_1469 d_L_law_1471 d_L_law_1472 d_L_law_1473 ?_
  refine lm_i (n := 2) (As := [.int (xs (6 * k + 1)), .int (xs (6 * k + 2))]) (rest := []) h0 hw hA (fun Y sz => cM_told l D tc a Y sz (xs (6 * k + 1)) (xs (6 * k + 2)) μ k2 rfl) (gd_V wd_864 wd_865 wd_866 wd_3 wd_867) (by decide +kernel) ⟨rfl, rfl, (Nat.le_of_ble_eq_true rfl), (Nat.le_of_ble_eq_true rfl), Nat.le_trans (Nat.add_le_add_left (Nat.le_of_ble_eq_true rfl) _) hR.1, Nat.le_trans (Nat.add_le_add_left (Nat.le_of_ble_eq_true rfl) _) hR.2⟩ rfl hl.1 rfl (Nat.le_of_ble_eq_true rfl) d_L_law_1474 (fun H locs hw => ?_)
  refine lv_istore (lv' := [(6, .int (fM_told (xs (6 * k + 1)) (xs (6 * k + 2)) μ).1), (5, .int r), (4, .int (nI (6 * k))), (0, .ref b), (1, .ref (ad 0 0)), (2, .ref (a 0)), (3, .ref o)]) hx hb d_L_law_1477 hl (by decide) rfl (fun ls hl => ?_)
  refine lv_aload_n hx hb d_L_law_1479 rfl (lv_at hl 5 rfl) ?_
  refine lm_t (rest := []) h0 hw (gd_V wd_702 wd_703 wd_704 wd_3 wd_705) ⟨(Nat.le_of_ble_eq_true rfl), (Nat.le_of_ble_eq_true rfl), Nat.le_trans (Nat.add_le_add_left (Nat.le_of_ble_eq_true rfl) _) hR.1, Nat.le_trans (Nat.add_le_add_left (Nat.le_of_ble_eq_true rfl) _) hR.2⟩ hl.1 (Nat.le_of_ble_eq_true rfl) d_L_law_1480 ?_
  refine lv_iload hx hb d_L_law_1483 (lv_at hl 1 rfl) ?_
  refine lv_icmp_eq (tgt := 1490) hx hb d_L_law_1485 (by decide) (fun _ => ?_) (fun c1 => absurd (e1.trans hr.symm) c1)
  have hend : ∀ z : Nat, z = 0 → W p l e room_1 s m args below meth c H locs (cells + 2) (slots + 12) Q (F0 m 1507 ls []) := by
    intro _ _
    refine lv_goto (tgt := 1535) hx hb d_L_law_1507 (by decide) ?_
    exact W.widen (k := cells + 9) (n := slots + 871) (Nat.add_le_add_left (Nat.le_of_ble_eq_true rfl) _) (Nat.add_le_add_left (Nat.le_of_ble_eq_true rfl) _) (kk _ _ _ _ _ _ _ _ (by rw [hg1]; exact hJ) rfl hw (lv_sub hl [2, 3, 4, 5, 6] rfl))
  refine lv_iload hx hb d_L_law_1490 (lv_at hl 1 rfl) ?_
  refine lv_if_ne (tgt := 1507) hx hb d_L_law_1492 (by decide) (fun _ => hend 0 rfl) (fun c2 => ?_)
  have hn : (fC_told (xs (6 * k + 1)) (xs (6 * k + 2)) g N).1 = none := cd_0 (by decide) (hr.symm.trans c2)
  have ho1 := ho hn
  have e3 := e2 hn
  refine lv_aload_n hx hb d_L_law_1495 rfl (lv_at hl 6 rfl) ?_
  refine lv_iconst (v := 0) hx hb d_L_law_1496 (by decide) ?_
  refine va_lald hx hb hK hw.1 (cl tc g1 N ad).length 2 (n := 1) (f := fo1) (cA := tc 2) (lc_get _ _) rfl (by unfold vp_in; decide) d_L_law_1497 ?_
  refine lv_iload hx hb d_L_law_1498 (lv_at hl 0 rfl) ?_
  refine lv_i2l hx hb d_L_law_1500 rfl ?_
  refine W.lcmp hx hb d_L_law_1501 ?_
  refine lv_if_eq (tgt := 1507) hx hb d_L_law_1502 (by decide) (fun _ => hend 0 rfl) (fun c3 => absurd ((lg_cmp_eq _ _).mpr ?_) c3)
  rw [← e3]
  exact ho1
def pv_count (J : (Nat → Nat → Nat → Int32) → (Nat → Nat) → (Nat → Nat → Int32) → Prop) (x1 : Int32) (g : Nat → Nat → Nat → Int32) (N : Nat → Nat) (μ : Nat → Nat → Int32) : Prop := kC_count x1 g N ∧ kM_count x1 μ ∧ fC_count x1 g N = (fM_count x1 μ).1 ∧ J g N (fM_count x1 μ).2
set_option maxHeartbeats 4000000 in
set_option maxRecDepth 100000 in
theorem lc_count {J : (Nat → Nat → Nat → Int32) → (Nat → Nat) → (Nat → Nat → Int32) → Prop} {g : Nat → Nat → Nat → Int32} {N : Nat → Nat} {ad : Nat → Nat → Nat} {a : Nat → Nat} {μ : Nat → Nat → Int32} {fo : Nat → Int64} {o k : Nat} (hC : lC p l s m args c D tc sa b L xs) (hk : 6 * k + 6 ≤ L) (hR : cells + 9 ≤ 601024 ∧ slots + 871 ≤ 7293033) (hw : wH D (An s) s.heap (cl tc g N ad ++ ((o, .inl (tc 2, 1, .inr (.inl fo))) :: mo tc a μ)) H locs) (hl : lv_has ls 7 (lo7 b (ad 0 0) (a 0) o k)) (pv : pv_count J (xs (6 * k + 1)) g N μ) (kk : kL p l e s m args below meth c Q D tc b o k cells slots a (ad 0) J) : W p l e room_1 s m args below meth c H locs cells slots Q (F0 m 1510 ls []) := by
  obtain ⟨h0, hX, hNc, hXs, hbl, hL, hlt⟩ := id hC
  obtain ⟨hx, hb, hml, hown, hts, hK⟩ := id h0
  have hA : ∀ q : Nat, s.heap.size ≤ q → An s q := fun q h => h
  have hl : lv_has ls 7 [(4, .int (nI (6 * k))), (0, .ref b), (1, .ref (ad 0 0)), (2, .ref (a 0)), (3, .ref o)] := hl
  obtain ⟨k1, k2, e2, hJ⟩ := pv
  refine lv_aload_n hx hb d_L_law_1510 rfl (lv_at hl 2 rfl) ?_
  refine lr_x 1 hC hw hk (by decide) (lv_at hl 1 rfl) (lv_at hl 0 rfl) (by decide) d_L_law_1511 d_L_law_1512 d_L_law_1514 d_L_law_1515 d_L_law_1516 ?_
  refine dv_p (n := 1) (C := "CountRounds") (b := ad 0 0) (q0 := bw_o (cb tc g N ad) 0 + 0) (ci := 3) (As := [.int (xs (6 * k + 1))]) (rest := []) h0 hX hw hA (cC_count l D tc sa ad _ H.size (xs (6 * k + 1)) g N k1 rfl) (gd_V wd_78 wd_79 wd_80 wd_1 wd_81) (by decide +kernel) ⟨rfl, rfl, (Nat.le_of_ble_eq_true rfl), (Nat.le_of_ble_eq_true rfl), Nat.le_trans (Nat.le_add_right _ _) hR.1, Nat.le_trans (Nat.le_add_right _ _) hR.2⟩ (bw_get (bs := cb tc g N ad) (j := 0) rfl Nat.one_pos _) rfl rfl hl.1 rfl (Nat.le_of_ble_eq_true rfl) d_L_law_1517 ?_
  refine lv_aload_n hx hb d_L_law_1520 rfl (lv_at hl 3 rfl) ?_
  refine lr_x 1 hC hw hk (by decide) (lv_at hl 1 rfl) (lv_at hl 0 rfl) (by decide) d_L_law_1521 d_L_law_1522 d_L_law_1524 d_L_law_1525 d_L_law_1526 ?_
  refine lm_i (n := 1) (As := [.int (xs (6 * k + 1))]) (rest := [.int (fC_count (xs (6 * k + 1)) g N)]) h0 hw hA (fun Y sz => cM_count l D tc a Y sz (xs (6 * k + 1)) μ k2 rfl) (gd_V wd_868 wd_869 wd_870 wd_3 wd_871) (by decide +kernel) ⟨rfl, rfl, (Nat.le_of_ble_eq_true rfl), (Nat.le_of_ble_eq_true rfl), Nat.le_trans (Nat.le_add_right _ _) hR.1, Nat.le_trans (Nat.le_add_right _ _) hR.2⟩ rfl hl.1 rfl (Nat.le_of_ble_eq_true rfl) d_L_law_1527 (fun H locs hw => ?_)
  refine lv_icmp_eq (tgt := 1535) hx hb d_L_law_1530 (by decide) (fun _ => ?_) (fun c1 => absurd e2 c1)
  exact W.widen (k := cells + 9) (n := slots + 871) (Nat.le_add_right _ _) (Nat.le_add_right _ _) (kk _ _ _ _ _ _ _ _ hJ rfl hw hl)
end LB
