section
-- ===== PART A: goes FIRST, ahead of the names: the tables' words, and 'selects' of the private methods out of them =====
/-- a private method of a class that the tables say can be made, by its rows of tables_1 -/
def lw_okq (q : MethodName × Nat) : Prop := (q.1.cls ≠ "java/lang/invoke/MethodHandle" ∧ q.1.cls ≠ "java/lang/invoke/VarHandle") ∧ Cond.instantiable q.1.cls q.2 ∈ tables_1 ∧ Cond.privateMethod q.1 ∈ tables_1 ∧ Cond.instanceMethod q.1 ∈ tables_1
theorem lw_p0 : lw_okq (⟨"CountRounds", "openMoves", "()I"⟩, 14) := ⟨⟨by decide +kernel, by decide +kernel⟩, List.mem_of_getElem? (i := 18) (by decide +kernel), List.mem_of_getElem? (i := 83) (by decide +kernel), List.mem_of_getElem? (i := 84) (by decide +kernel)⟩
theorem lw_p1 : lw_okq (⟨"CountRounds", "transferNumbered", "(I)LCountRounds$Transfer;"⟩, 14) := ⟨⟨by decide +kernel, by decide +kernel⟩, List.mem_of_getElem? (i := 18) (by decide +kernel), List.mem_of_getElem? (i := 87) (by decide +kernel), List.mem_of_getElem? (i := 88) (by decide +kernel)⟩
theorem lw_p2 : lw_okq (⟨"java/lang/Throwable", "fillInStackTrace", "(I)Ljava/lang/Throwable;"⟩, 6) := ⟨⟨by decide +kernel, by decide +kernel⟩, List.mem_of_getElem? (i := 134) (by decide +kernel), List.mem_of_getElem? (i := 132) (by decide +kernel), List.mem_of_getElem? (i := 133) (by decide +kernel)⟩
theorem lw_p3 : lw_okq (⟨"CountRounds", "placeNumbered", "(I)LCountRounds$Place;"⟩, 14) := ⟨⟨by decide +kernel, by decide +kernel⟩, List.mem_of_getElem? (i := 18) (by decide +kernel), List.mem_of_getElem? (i := 237) (by decide +kernel), List.mem_of_getElem? (i := 238) (by decide +kernel)⟩
theorem lw_p4 : lw_okq (⟨"CountRounds", "openMovesAt", "(I)I"⟩, 14) := ⟨⟨by decide +kernel, by decide +kernel⟩, List.mem_of_getElem? (i := 18) (by decide +kernel), List.mem_of_getElem? (i := 356) (by decide +kernel), List.mem_of_getElem? (i := 357) (by decide +kernel)⟩
theorem lw_p5 : lw_okq (⟨"CountRounds", "gatherCandidates", "(I)I"⟩, 14) := ⟨⟨by decide +kernel, by decide +kernel⟩, List.mem_of_getElem? (i := 18) (by decide +kernel), List.mem_of_getElem? (i := 368) (by decide +kernel), List.mem_of_getElem? (i := 369) (by decide +kernel)⟩
theorem lw_p6 : lw_okq (⟨"CountRounds", "chooseCandidates", "(IIJ)[I"⟩, 14) := ⟨⟨by decide +kernel, by decide +kernel⟩, List.mem_of_getElem? (i := 18) (by decide +kernel), List.mem_of_getElem? (i := 377) (by decide +kernel), List.mem_of_getElem? (i := 378) (by decide +kernel)⟩
theorem lw_p7 : lw_okq (⟨"CountRounds", "longestUncounted", "(I)I"⟩, 14) := ⟨⟨by decide +kernel, by decide +kernel⟩, List.mem_of_getElem? (i := 18) (by decide +kernel), List.mem_of_getElem? (i := 381) (by decide +kernel), List.mem_of_getElem? (i := 382) (by decide +kernel)⟩
theorem lw_p8 : lw_okq (⟨"CountRounds", "sheetNumbered", "(I)LCountRounds$Sheet;"⟩, 14) := ⟨⟨by decide +kernel, by decide +kernel⟩, List.mem_of_getElem? (i := 18) (by decide +kernel), List.mem_of_getElem? (i := 445) (by decide +kernel), List.mem_of_getElem? (i := 446) (by decide +kernel)⟩
theorem lw_p9 : lw_okq (⟨"CountRounds", "hasOpenMoves", "(LCountRounds$Sheet;)Z"⟩, 14) := ⟨⟨by decide +kernel, by decide +kernel⟩, List.mem_of_getElem? (i := 18) (by decide +kernel), List.mem_of_getElem? (i := 451) (by decide +kernel), List.mem_of_getElem? (i := 452) (by decide +kernel)⟩
theorem lw_p10 : lw_okq (⟨"CountRounds", "noteBooked", "(LCountRounds$Sheet;)V"⟩, 14) := ⟨⟨by decide +kernel, by decide +kernel⟩, List.mem_of_getElem? (i := 18) (by decide +kernel), List.mem_of_getElem? (i := 455) (by decide +kernel), List.mem_of_getElem? (i := 456) (by decide +kernel)⟩
theorem lw_p11 : lw_okq (⟨"CountRounds$Sheet", "positionOf", "(I)I"⟩, 11) := ⟨⟨by decide +kernel, by decide +kernel⟩, List.mem_of_getElem? (i := 389) (by decide +kernel), List.mem_of_getElem? (i := 459) (by decide +kernel), List.mem_of_getElem? (i := 460) (by decide +kernel)⟩
theorem lw_p12 : lw_okq (⟨"CountRounds$Sheet", "tell", "(III)I"⟩, 11) := ⟨⟨by decide +kernel, by decide +kernel⟩, List.mem_of_getElem? (i := 389) (by decide +kernel), List.mem_of_getElem? (i := 471) (by decide +kernel), List.mem_of_getElem? (i := 472) (by decide +kernel)⟩
theorem lw_p13 : lw_okq (⟨"CountRounds$Sheet", "isToldOnce", "(I)Z"⟩, 11) := ⟨⟨by decide +kernel, by decide +kernel⟩, List.mem_of_getElem? (i := 389) (by decide +kernel), List.mem_of_getElem? (i := 485) (by decide +kernel), List.mem_of_getElem? (i := 486) (by decide +kernel)⟩
theorem lw_p14 : lw_okq (⟨"CountRounds$Sheet", "differenceOf", "(I)I"⟩, 11) := ⟨⟨by decide +kernel, by decide +kernel⟩, List.mem_of_getElem? (i := 389) (by decide +kernel), List.mem_of_getElem? (i := 489) (by decide +kernel), List.mem_of_getElem? (i := 490) (by decide +kernel)⟩
theorem lw_p15 : lw_okq (⟨"CountRounds", "isTolerated", "(ILCountRounds$Place;)Z"⟩, 14) := ⟨⟨by decide +kernel, by decide +kernel⟩, List.mem_of_getElem? (i := 18) (by decide +kernel), List.mem_of_getElem? (i := 493) (by decide +kernel), List.mem_of_getElem? (i := 494) (by decide +kernel)⟩
def lw_privs_1 : List (MethodName × Nat) := [(⟨"CountRounds", "openMoves", "()I"⟩, 14), (⟨"CountRounds", "transferNumbered", "(I)LCountRounds$Transfer;"⟩, 14), (⟨"java/lang/Throwable", "fillInStackTrace", "(I)Ljava/lang/Throwable;"⟩, 6), (⟨"CountRounds", "placeNumbered", "(I)LCountRounds$Place;"⟩, 14), (⟨"CountRounds", "openMovesAt", "(I)I"⟩, 14), (⟨"CountRounds", "gatherCandidates", "(I)I"⟩, 14), (⟨"CountRounds", "chooseCandidates", "(IIJ)[I"⟩, 14), (⟨"CountRounds", "longestUncounted", "(I)I"⟩, 14), (⟨"CountRounds", "sheetNumbered", "(I)LCountRounds$Sheet;"⟩, 14), (⟨"CountRounds", "hasOpenMoves", "(LCountRounds$Sheet;)Z"⟩, 14), (⟨"CountRounds", "noteBooked", "(LCountRounds$Sheet;)V"⟩, 14), (⟨"CountRounds$Sheet", "positionOf", "(I)I"⟩, 11), (⟨"CountRounds$Sheet", "tell", "(III)I"⟩, 11), (⟨"CountRounds$Sheet", "isToldOnce", "(I)Z"⟩, 11), (⟨"CountRounds$Sheet", "differenceOf", "(I)I"⟩, 11), (⟨"CountRounds", "isTolerated", "(ILCountRounds$Place;)Z"⟩, 14)]
theorem lw_r1 : ∀ q ∈ lw_privs_1, lw_okq q := List.forall_mem_cons.mpr ⟨lw_p0, List.forall_mem_cons.mpr ⟨lw_p1, List.forall_mem_cons.mpr ⟨lw_p2, List.forall_mem_cons.mpr ⟨lw_p3, List.forall_mem_cons.mpr ⟨lw_p4, List.forall_mem_cons.mpr ⟨lw_p5, List.forall_mem_cons.mpr ⟨lw_p6, List.forall_mem_cons.mpr ⟨lw_p7, List.forall_mem_cons.mpr ⟨lw_p8, List.forall_mem_cons.mpr ⟨lw_p9, List.forall_mem_cons.mpr ⟨lw_p10, List.forall_mem_cons.mpr ⟨lw_p11, List.forall_mem_cons.mpr ⟨lw_p12, List.forall_mem_cons.mpr ⟨lw_p13, List.forall_mem_cons.mpr ⟨lw_p14, List.forall_mem_cons.mpr ⟨lw_p15, fun _ h => absurd h List.not_mem_nil⟩⟩⟩⟩⟩⟩⟩⟩⟩⟩⟩⟩⟩⟩⟩⟩
theorem lw_p16 : lw_okq (⟨"CountRounds$Sheet", "isPlaceTold", "(I)Z"⟩, 11) := ⟨⟨by decide +kernel, by decide +kernel⟩, List.mem_of_getElem? (i := 389) (by decide +kernel), List.mem_of_getElem? (i := 507) (by decide +kernel), List.mem_of_getElem? (i := 508) (by decide +kernel)⟩
theorem lw_p17 : lw_okq (⟨"CountRounds", "countPlace", "(LCountRounds$Sheet;ILCountRounds$Place;)V"⟩, 14) := ⟨⟨by decide +kernel, by decide +kernel⟩, List.mem_of_getElem? (i := 18) (by decide +kernel), List.mem_of_getElem? (i := 511) (by decide +kernel), List.mem_of_getElem? (i := 512) (by decide +kernel)⟩
theorem lw_p18 : lw_okq (⟨"CountRounds$Sheet", "addDifference", "(I)V"⟩, 11) := ⟨⟨by decide +kernel, by decide +kernel⟩, List.mem_of_getElem? (i := 389) (by decide +kernel), List.mem_of_getElem? (i := 515) (by decide +kernel), List.mem_of_getElem? (i := 516) (by decide +kernel)⟩
theorem lw_p19 : lw_okq (⟨"CountRounds$Sheet", "differingLine", "(I)I"⟩, 11) := ⟨⟨by decide +kernel, by decide +kernel⟩, List.mem_of_getElem? (i := 389) (by decide +kernel), List.mem_of_getElem? (i := 526) (by decide +kernel), List.mem_of_getElem? (i := 527) (by decide +kernel)⟩
theorem lw_p20 : lw_okq (⟨"CountRounds$Sheet", "finderOf", "(I)I"⟩, 11) := ⟨⟨by decide +kernel, by decide +kernel⟩, List.mem_of_getElem? (i := 389) (by decide +kernel), List.mem_of_getElem? (i := 531) (by decide +kernel), List.mem_of_getElem? (i := 532) (by decide +kernel)⟩
theorem lw_p21 : lw_okq (⟨"CountRounds", "mayCorrect", "(LCountRounds$Sheet;II)Z"⟩, 14) := ⟨⟨by decide +kernel, by decide +kernel⟩, List.mem_of_getElem? (i := 18) (by decide +kernel), List.mem_of_getElem? (i := 545) (by decide +kernel), List.mem_of_getElem? (i := 546) (by decide +kernel)⟩
theorem lw_p22 : lw_okq (⟨"CountRoundsModel", "isPlace", "(I)Z"⟩, 29) := ⟨⟨by decide +kernel, by decide +kernel⟩, List.mem_of_getElem? (i := 606) (by decide +kernel), List.mem_of_getElem? (i := 715) (by decide +kernel), List.mem_of_getElem? (i := 716) (by decide +kernel)⟩
theorem lw_p23 : lw_okq (⟨"CountRoundsModel", "openAt", "(I)I"⟩, 29) := ⟨⟨by decide +kernel, by decide +kernel⟩, List.mem_of_getElem? (i := 606) (by decide +kernel), List.mem_of_getElem? (i := 754) (by decide +kernel), List.mem_of_getElem? (i := 755) (by decide +kernel)⟩
theorem lw_p24 : lw_okq (⟨"CountRoundsModel", "isBusy", "(I)Z"⟩, 29) := ⟨⟨by decide +kernel, by decide +kernel⟩, List.mem_of_getElem? (i := 606) (by decide +kernel), List.mem_of_getElem? (i := 762) (by decide +kernel), List.mem_of_getElem? (i := 763) (by decide +kernel)⟩
theorem lw_p25 : lw_okq (⟨"CountRoundsModel", "byRank", "()I"⟩, 29) := ⟨⟨by decide +kernel, by decide +kernel⟩, List.mem_of_getElem? (i := 606) (by decide +kernel), List.mem_of_getElem? (i := 768) (by decide +kernel), List.mem_of_getElem? (i := 769) (by decide +kernel)⟩
theorem lw_p26 : lw_okq (⟨"CountRoundsModel", "byNumber", "(I)I"⟩, 29) := ⟨⟨by decide +kernel, by decide +kernel⟩, List.mem_of_getElem? (i := 606) (by decide +kernel), List.mem_of_getElem? (i := 772) (by decide +kernel), List.mem_of_getElem? (i := 773) (by decide +kernel)⟩
theorem lw_p27 : lw_okq (⟨"CountRoundsModel", "isCount", "(I)Z"⟩, 29) := ⟨⟨by decide +kernel, by decide +kernel⟩, List.mem_of_getElem? (i := 606) (by decide +kernel), List.mem_of_getElem? (i := 780) (by decide +kernel), List.mem_of_getElem? (i := 781) (by decide +kernel)⟩
theorem lw_p28 : lw_okq (⟨"CountRoundsModel", "coming", "(II)I"⟩, 29) := ⟨⟨by decide +kernel, by decide +kernel⟩, List.mem_of_getElem? (i := 606) (by decide +kernel), List.mem_of_getElem? (i := 784) (by decide +kernel), List.mem_of_getElem? (i := 785) (by decide +kernel)⟩
theorem lw_p29 : lw_okq (⟨"CountRoundsModel", "slot", "(II)I"⟩, 29) := ⟨⟨by decide +kernel, by decide +kernel⟩, List.mem_of_getElem? (i := 606) (by decide +kernel), List.mem_of_getElem? (i := 792) (by decide +kernel), List.mem_of_getElem? (i := 793) (by decide +kernel)⟩
theorem lw_p30 : lw_okq (⟨"CountRoundsModel", "firstBy", "(I)I"⟩, 29) := ⟨⟨by decide +kernel, by decide +kernel⟩, List.mem_of_getElem? (i := 606) (by decide +kernel), List.mem_of_getElem? (i := 796) (by decide +kernel), List.mem_of_getElem? (i := 797) (by decide +kernel)⟩
theorem lw_p31 : lw_okq (⟨"CountRoundsModel", "secondBy", "(I)I"⟩, 29) := ⟨⟨by decide +kernel, by decide +kernel⟩, List.mem_of_getElem? (i := 606) (by decide +kernel), List.mem_of_getElem? (i := 800) (by decide +kernel), List.mem_of_getElem? (i := 801) (by decide +kernel)⟩
def lw_privs_2 : List (MethodName × Nat) := [(⟨"CountRounds$Sheet", "isPlaceTold", "(I)Z"⟩, 11), (⟨"CountRounds", "countPlace", "(LCountRounds$Sheet;ILCountRounds$Place;)V"⟩, 14), (⟨"CountRounds$Sheet", "addDifference", "(I)V"⟩, 11), (⟨"CountRounds$Sheet", "differingLine", "(I)I"⟩, 11), (⟨"CountRounds$Sheet", "finderOf", "(I)I"⟩, 11), (⟨"CountRounds", "mayCorrect", "(LCountRounds$Sheet;II)Z"⟩, 14), (⟨"CountRoundsModel", "isPlace", "(I)Z"⟩, 29), (⟨"CountRoundsModel", "openAt", "(I)I"⟩, 29), (⟨"CountRoundsModel", "isBusy", "(I)Z"⟩, 29), (⟨"CountRoundsModel", "byRank", "()I"⟩, 29), (⟨"CountRoundsModel", "byNumber", "(I)I"⟩, 29), (⟨"CountRoundsModel", "isCount", "(I)Z"⟩, 29), (⟨"CountRoundsModel", "coming", "(II)I"⟩, 29), (⟨"CountRoundsModel", "slot", "(II)I"⟩, 29), (⟨"CountRoundsModel", "firstBy", "(I)I"⟩, 29), (⟨"CountRoundsModel", "secondBy", "(I)I"⟩, 29)]
theorem lw_r2 : ∀ q ∈ lw_privs_2, lw_okq q := List.forall_mem_cons.mpr ⟨lw_p16, List.forall_mem_cons.mpr ⟨lw_p17, List.forall_mem_cons.mpr ⟨lw_p18, List.forall_mem_cons.mpr ⟨lw_p19, List.forall_mem_cons.mpr ⟨lw_p20, List.forall_mem_cons.mpr ⟨lw_p21, List.forall_mem_cons.mpr ⟨lw_p22, List.forall_mem_cons.mpr ⟨lw_p23, List.forall_mem_cons.mpr ⟨lw_p24, List.forall_mem_cons.mpr ⟨lw_p25, List.forall_mem_cons.mpr ⟨lw_p26, List.forall_mem_cons.mpr ⟨lw_p27, List.forall_mem_cons.mpr ⟨lw_p28, List.forall_mem_cons.mpr ⟨lw_p29, List.forall_mem_cons.mpr ⟨lw_p30, List.forall_mem_cons.mpr ⟨lw_p31, fun _ h => absurd h List.not_mem_nil⟩⟩⟩⟩⟩⟩⟩⟩⟩⟩⟩⟩⟩⟩⟩⟩
theorem lw_p32 : lw_okq (⟨"CountRoundsModel", "closePlace", "(II)V"⟩, 29) := ⟨⟨by decide +kernel, by decide +kernel⟩, List.mem_of_getElem? (i := 606) (by decide +kernel), List.mem_of_getElem? (i := 815) (by decide +kernel), List.mem_of_getElem? (i := 816) (by decide +kernel)⟩
theorem lw_p33 : lw_okq (⟨"CountRoundsModel", "isTold", "(II)Z"⟩, 29) := ⟨⟨by decide +kernel, by decide +kernel⟩, List.mem_of_getElem? (i := 606) (by decide +kernel), List.mem_of_getElem? (i := 819) (by decide +kernel), List.mem_of_getElem? (i := 820) (by decide +kernel)⟩
theorem lw_p34 : lw_okq (⟨"CountRoundsModel", "counts", "(I)I"⟩, 29) := ⟨⟨by decide +kernel, by decide +kernel⟩, List.mem_of_getElem? (i := 606) (by decide +kernel), List.mem_of_getElem? (i := 823) (by decide +kernel), List.mem_of_getElem? (i := 824) (by decide +kernel)⟩
theorem lw_p35 : lw_okq (⟨"CountRoundsModel", "difference", "(II)I"⟩, 29) := ⟨⟨by decide +kernel, by decide +kernel⟩, List.mem_of_getElem? (i := 606) (by decide +kernel), List.mem_of_getElem? (i := 827) (by decide +kernel), List.mem_of_getElem? (i := 828) (by decide +kernel)⟩
theorem lw_p36 : lw_okq (⟨"CountRoundsModel", "bookedAt", "(I)I"⟩, 29) := ⟨⟨by decide +kernel, by decide +kernel⟩, List.mem_of_getElem? (i := 606) (by decide +kernel), List.mem_of_getElem? (i := 835) (by decide +kernel), List.mem_of_getElem? (i := 836) (by decide +kernel)⟩
def lw_privs_3 : List (MethodName × Nat) := [(⟨"CountRoundsModel", "closePlace", "(II)V"⟩, 29), (⟨"CountRoundsModel", "isTold", "(II)Z"⟩, 29), (⟨"CountRoundsModel", "counts", "(I)I"⟩, 29), (⟨"CountRoundsModel", "difference", "(II)I"⟩, 29), (⟨"CountRoundsModel", "bookedAt", "(I)I"⟩, 29)]
theorem lw_r3 : ∀ q ∈ lw_privs_3, lw_okq q := List.forall_mem_cons.mpr ⟨lw_p32, List.forall_mem_cons.mpr ⟨lw_p33, List.forall_mem_cons.mpr ⟨lw_p34, List.forall_mem_cons.mpr ⟨lw_p35, List.forall_mem_cons.mpr ⟨lw_p36, fun _ h => absurd h List.not_mem_nil⟩⟩⟩⟩⟩
def lw_privs : List (MethodName × Nat) := lw_privs_1 ++ (lw_privs_2 ++ (lw_privs_3))
def lw_tbl : List Cond := k2_sels lw_privs ++ tables_1
theorem lw_privs_ok : ∀ q ∈ lw_privs, lw_okq q := by
  show ∀ q ∈ lw_privs_1 ++ (lw_privs_2 ++ (lw_privs_3)), lw_okq q
  exact List.forall_mem_append.mpr ⟨lw_r1, List.forall_mem_append.mpr ⟨lw_r2, lw_r3⟩⟩
end
section
/-! ===== BEGIN words of one list among another's, by their places ===== -/
theorem goodIn_r {big : List Cond} (ws : List Cond) (ps : List Nat) (hp : ws = ps.filterMap (fun i => big[i]?)) (h : ws.all goodWord = true) : GoodIn big ws := by
  intro w hw
  have h1 := List.all_eq_true.mp h w hw
  rw [hp] at hw
  obtain ⟨i, -, hi⟩ := List.mem_filterMap.mp hw
  have hm : w ∈ big := by first | exact List.mem_of_getElem? hi | exact List.getElem?_mem hi
  exact ⟨hm, good_of_word h1⟩
theorem goodIn_app {big a b : List Cond} (ha : GoodIn big a) (hb : GoodIn big b) : GoodIn big (a ++ b) := fun w h => (List.mem_append.mp h).elim (ha w) (hb w)
theorem goodIn_ca {big a b : List Cond} {c : Cond} (ha : GoodIn big (c :: a)) (hb : GoodIn big b) : GoodIn big (c :: (a ++ b)) := fun w h => (List.mem_cons.mp h).elim (fun e => ha w (List.mem_cons.mpr (Or.inl e))) (fun h => (List.mem_append.mp h).elim (fun h => ha w (List.mem_cons.mpr (Or.inr h))) (hb w))
theorem goodIn_sub {big ws : List Cond} (hm : ∀ w ∈ ws, w ∈ big) (h : ws.all goodWord = true) : GoodIn big ws := fun w hw => ⟨hm w hw, good_of_word (List.all_eq_true.mp h w hw)⟩
/-! ===== END ===== -/

/-! ===== BEGIN exceptions that leave a method, and their catching by the caller (launches without stack traces) ===== -/
section VXA
/-! The laws vx_back, vx_callV, vx_callS, vx_callSW, vx_throw0, vx_throwS follow proofs of the library, with one case more: JvmDerived/Free/Laws.lean (Back.of_free), Shelf42/LK1.lean (callV, callS), Shelf/KitTraced.lean (throwNew0V, throwNewS). -/
/-- where a method has thrown q: the class by its name, the cell, what was written, the world -/
def vx_T (XC : String → State → State → Prop) (st : State) (q : Addr) (t : State) (mc ms : Nat) (free : Addr → Prop) : Prop :=
  ∃ (E : String) (ce : Cell) (L : List Loc), XC E st t ∧ t.heap[q]? = some ce ∧ ce.vm = .none ∧ st.vm.findClass E = some ce.cls ∧ st.WarmedH t.vm ∧ st.sameButNew ({ t with vm := st.vm } : State) L mc ms ∧ ∀ z ∈ L, free z.base
def vx_Q (Qc : Array Value → State → Outcome → State → Prop) (XC : String → State → State → Prop) (mc ms : Nat) (free : Addr → Prop) : Array Value → State → Outcome → State → Prop := fun a st o t =>
  (Qc a st o t ∧ ∃ L, FrameEnd st o t L mc ms ∧ ∀ q ∈ L, free q.base) ∨ ∃ q, o = .threw q ∧ vx_T XC st q t mc ms free
/-- a callee that returns or throws -/
def vx_Met (l : Launch) (y : MethodName) (ws : List Cond) (rm : Room) (Pc : Array Value → State → Prop) (Qc : Array Value → State → Outcome → State → Prop) (XC : String → State → State → Prop) (mc ms : Nat) (free : Addr → Prop) : Prop :=
  MetFree l y (headSpec ws rm) Pc (fun _ _ _ _ _ => True) (vx_Q Qc XC mc ms free)
def vx_Post (XC : String → State → State → Prop) (mc ms : Nat) (free : Addr → Prop) : Pt → Array Value → Addr → Pt → Prop := fun A a q B =>
  ∃ (g : JFrame) (mk : MethodId) (t : State) (L : List Loc) (E : String) (ce : Cell), B.U.heap = t.heap ∧ B.U.vm = t.vm ∧ XC E (A.U.calling g mk a) t ∧ t.heap[q]? = some ce ∧ ce.vm = .none ∧ A.U.vm.findClass E = some ce.cls ∧ B.locs = A.locs ++ L ∧ (∀ z ∈ L, free z.base) ∧ B.cells = A.cells + mc ∧ B.slots = A.slots + ms
def vx_Back (l : Launch) (R : Room) (p : Program) (e : Env) (below : List Frame) (s : State) (sargs : Array Value) (y : MethodName) (len W9 : Nat)
    (Pre : Pt → Array Value → Prop) (Post : Pt → Array Value → Option Value → Pt → Prop) (PostX : Pt → Array Value → Addr → Pt → Prop) : Prop :=
  ∀ (m : MethodId) (meth : Method) (c : Code) (A : Pt) (g : JFrame) (ig : Instr) (mk : MethodId) (a : Array Value),
    Stand p l e R s m sargs below meth c A.U A.locs A.cells A.slots → g.method = m → g.locals.size = c.maxLocals → decode c.code g.pc = .ok (ig, len) →
    2 * g.monitorRoom + (g.stack.map fun v => v.category).sum ≤ W9 → A.U.methodNamed? y = some mk → Pre A a →
    (∃ (v : Option Value) (B : Pt), Stand p l e R s m sargs below meth c B.U B.locs B.cells B.slots ∧ Post A a v B ∧
      Steps p.tables e below (doInvoke e (A.U.setTop g) [] mk a).1 (B.U.setTop { g with pc := g.pc + len, stack := v.toList ++ g.stack })) ∨
    (∃ (q : Addr) (B : Pt), Stand p l e R s m sargs below meth c B.U B.locs B.cells B.slots ∧ PostX A a q B ∧
      Steps p.tables e below (doInvoke e (A.U.setTop g) [] mk a).1 ((B.U.setTop g).pushFrame (.throwing q)))
section Payer
variable {l : Launch} {R : Room} {p : Program} {e : Env} {below : List Frame} {s : State} {sargs : Array Value} {y : MethodName} {len W9 : Nat}
theorem vx_back {ws : List Cond} {rm : Room} {Pc : Array Value → State → Prop} {Qc : Array Value → State → Outcome → State → Prop} {XC : String → State → State → Prop} {mc ms : Nat} {free : Addr → Prop} {bytes : ByteArray} {maxL : Nat} {ret : Option FieldType}
    (hM : vx_Met l y ws rm Pc Qc XC mc ms free) (hblind : FrameBlind Pc) (hrc : rm.cells = mc) (hrs : rm.slots = ms)
    (hframes : rm.frames + 1 ≤ R.frames) (hlocals : W9 + (maxL + 11) + rm.locals ≤ R.locals)
    (hws : ∀ w ∈ ws, ∀ a' U, s.WarmedH U.vm → w.before a' U = true) (hcode : Cond.code y bytes maxL ret ∈ ws) (hinit : ∀ a' U, s.WarmedH U.vm → (Cond.initialized y.cls).before a' U = true) :
    vx_Back l R p e below s sargs y len W9 (PreOf R mc ms Pc) (PostOf Qc mc ms free) (vx_Post XC mc ms free) := by
  intro m meth c A g ig mk a X hg hsize hdg hW hn hp
  have h1 : (headSpec ws rm).pre.before a A.U = true := atoms_intro fun w hw => hws w hw _ _ X.warmed
  have h2 : (Cond.code y bytes maxL ret).before a A.U = true := hws _ hcode _ _ X.warmed
  have h3 : (Cond.initialized y.cls).before a A.U = true := hinit _ _ X.warmed
  have h4 : A.cells + (headSpec ws rm).room.cells ≤ R.cells := by rw [show (headSpec ws rm).room.cells = mc from hrc]; exact hp.1
  have h5 : A.slots + (headSpec ws rm).room.slots ≤ R.slots := by rw [show (headSpec ws rm).room.slots = ms from hrs]; exact hp.2.1
  have hPc : Pc a (A.U.calling g mk a) := hblind _ _ _ _ hp.2.2
  obtain ⟨U, Ls, c0, s0⟩ := A
  dsimp only [Pt.U, Pt.locs, Pt.cells, Pt.slots] at h1 h2 h3 h4 h5 X hn hPc ⊢
  obtain ⟨methY, cY, hmY, hcY, -, hlY, -, -, -, -⟩ := Cond.code_spec hn h2
  obtain ⟨kY, hkY, -⟩ := className_of_methodNamed hn
  have hinitY : kY.init = .initialized := Cond.initialized_spec (findClass_of_methodNamed hn) hkY h3
  have h : At U g.method c below := by rw [hg]; exact X.here
  have hlocals9 : W9 + (maxL + 11) + (headSpec ws rm).room.locals ≤ R.locals := hlocals
  have happ : (headSpec ws rm).appliesLoose y e.platform (U.calling g mk a) = true :=
    Spec.appliesLoose_calling (g := g) h hdg hn hkY hinitY
      (X.room_calling (g := g) (R' := (headSpec ws rm).room) hsize hmY hcY hframes (by rw [hlY]; omega) h4 h5) h1
  obtain ⟨mid, hmid⟩ := h.above
  have hfr : (U.setTop g).frames = (.java g :: mid) ++ below := by rw [State.frames_setTop' g h.top, hmid]; rfl
  obtain ⟨o, s₂, hsteps, -, hend, hq⟩ := Steps.callFree hM p X.admits X.cas X.clock (acts := []) hfr happ hPc trivial
  have hq' : vx_Q Qc XC mc ms free a (U.calling g mk a) o s₂ := hq
  rw [State.frames_setTop' g h.top] at hend
  obtain ⟨g₀, hg0⟩ := Option.isSome_iff_exists.mp h.top
  obtain ⟨r, hr⟩ := State.topJava?_eq_some.mp hg0
  have hr' : (({ U with heap := s₂.heap, slotsUsed := s₂.slotsUsed } : State).setVm s₂.vm).frames = .java g₀ :: r := hr
  rcases hq' with ⟨hqc, L, hfe, hL⟩ | ⟨q, rfl, E, ce, L, hx, hce, hcv, hcl, hW₂, hsm, hL⟩
  · obtain ⟨⟨v, rfl⟩, hW₂, e2, q2, q3, q4, q5, q6⟩ := id hfe
    have e3 : s₂ = ({ (U.calling g mk a).setFrames s₂.frames with heap := s₂.heap, slotsUsed := s₂.slotsUsed } : State).setVm s₂.vm := by
      have : s₂ = ({ s₂ with vm := (U.calling g mk a).vm } : State).setVm s₂.vm := rfl
      rw [e2] at this
      exact this
    obtain ⟨c₂, i₂, len₂, hc₂, hd₂, hf₂⟩ := hend
    have hW' : U.WarmedH s₂.vm := hW₂
    have hcc : c₂ = c := by
      have h1 : s₂.code? g.method = U.code? g.method := by
        rw [State.code?_eq, State.code?_eq, hW'.alike.method?]
      exact Option.some.inj (hc₂.symm.trans (h1.trans h.code))
    subst hcc
    have hlen : len₂ = len := by rw [hdg] at hd₂; cases hd₂; rfl
    subst hlen
    have hs₂ : s₂ = (({ U with heap := s₂.heap, slotsUsed := s₂.slotsUsed } : State).setVm s₂.vm).setTop { g with pc := g.pc + len₂, stack := v.toList ++ g.stack } := by
      refine e3.trans ?_
      rw [hf₂, State.calling_eq h.top, State.setFrames_setFrames, State.setTop_of_frames _ hr', hr]
      rfl
    have hsame : U.sameButNew ({ U with heap := s₂.heap, slotsUsed := s₂.slotsUsed } : State) L mc ms := by
      refine ⟨?_, q2, q3, q4, q5, q6⟩
      obtain ⟨t, ht, -⟩ := State.frames_cons hr
      show ({ U with heap := s₂.heap, slotsUsed := s₂.slotsUsed } : State) = { U.setFrames U.frames with heap := s₂.heap, slotsUsed := s₂.slotsUsed }
      rw [State.setFrames_self ht]
    subst hg
    refine Or.inl ⟨v, ⟨(({ U with heap := s₂.heap, slotsUsed := s₂.slotsUsed } : State).setVm s₂.vm), Ls ++ L, c0 + mc, s0 + ms⟩,
      ⟨X.admits, X.cas, X.clock, X.frames, X.room, X.hears, X.method, X.code, (X.here.setHeapUsed s₂.heap s₂.slotsUsed).setVm hW'.alike, X.tail, State.WarmedH.trans X.warmed hW', X.limits, X.bytes, X.same.trans (hsame.setVm s.vm)⟩,
      ⟨g, mk, s₂, L, rfl, rfl, hqc, rfl, hL, rfl, rfl⟩, ?_⟩
    show Steps p.tables e below _ ((({ U with heap := s₂.heap, slotsUsed := s₂.slotsUsed } : State).setVm s₂.vm).setTop { g with pc := g.pc + len₂, stack := v.toList ++ g.stack })
    rw [← hs₂]
    exact hsteps
  · obtain ⟨e2, q2, q3, q4, q5, q6⟩ := id hsm
    have e3 : s₂ = ({ (U.calling g mk a).setFrames s₂.frames with heap := s₂.heap, slotsUsed := s₂.slotsUsed } : State).setVm s₂.vm := by
      have : s₂ = ({ s₂ with vm := (U.calling g mk a).vm } : State).setVm s₂.vm := rfl
      rw [e2] at this
      exact this
    have hf₂ : s₂.frames = .throwing q :: .java g :: U.frames.tail := hend
    have hW' : U.WarmedH s₂.vm := hW₂
    have hs₂ : s₂ = ((({ U with heap := s₂.heap, slotsUsed := s₂.slotsUsed } : State).setVm s₂.vm).setTop g).pushFrame (.throwing q) := by
      refine e3.trans ?_
      rw [hf₂, State.calling_eq h.top, State.setFrames_setFrames, State.pushFrame, State.frames_setTop _ hr', State.setTop_of_frames _ hr', State.setFrames_setFrames, hr]
      rfl
    have hsame : U.sameButNew ({ U with heap := s₂.heap, slotsUsed := s₂.slotsUsed } : State) L mc ms := by
      refine ⟨?_, q2, q3, q4, q5, q6⟩
      obtain ⟨t, ht, -⟩ := State.frames_cons hr
      show ({ U with heap := s₂.heap, slotsUsed := s₂.slotsUsed } : State) = { U.setFrames U.frames with heap := s₂.heap, slotsUsed := s₂.slotsUsed }
      rw [State.setFrames_self ht]
    subst hg
    refine Or.inr ⟨q, ⟨(({ U with heap := s₂.heap, slotsUsed := s₂.slotsUsed } : State).setVm s₂.vm), Ls ++ L, c0 + mc, s0 + ms⟩,
      ⟨X.admits, X.cas, X.clock, X.frames, X.room, X.hears, X.method, X.code, (X.here.setHeapUsed s₂.heap s₂.slotsUsed).setVm hW'.alike, X.tail, State.WarmedH.trans X.warmed hW', X.limits, X.bytes, X.same.trans (hsame.setVm s.vm)⟩,
      ⟨g, mk, s₂, L, E, ce, rfl, rfl, hx, hce, hcv, hcl, rfl, hL, rfl, rfl⟩, ?_⟩
    show Steps p.tables e below _ (((({ U with heap := s₂.heap, slotsUsed := s₂.slotsUsed } : State).setVm s₂.vm).setTop g).pushFrame (.throwing q))
    rw [← hs₂]
    exact hsteps
end Payer
section Calls
variable {p : Program} {l : Launch} {e : Env} {R : Room} {s : State} {m : MethodId} {args : Array Value} {below : List Frame} {meth : Method} {c : Code} {T : State} {locs : List Loc} {cells slots : Nat}
theorem vx_callV (X : Stand p l e R s m args below meth c T locs cells slots) (hexec : p.tables.exec = Jvm.exec) {own C : String} {index : Nat} {y : MethodName} {bytes : ByteArray} {maxL : Nat} {ret : Option FieldType}
    (hown : s.vm.findClass own = some m.cls) (hlink : (Cond.methodLink own index y).before args s = true) (hinst : (Cond.instanceMethod y).before args s = true) (hsel : (Cond.selects C y y).before args s = true)
    (hcode : (Cond.code y bytes maxL ret).before args s = true) (hy : y.cls ≠ "java/lang/invoke/MethodHandle" ∧ y.cls ≠ "java/lang/invoke/VarHandle")
    {W9 : Nat} {Pre : Pt → Array Value → Prop} {Post : Pt → Array Value → Option Value → Pt → Prop} {PostX : Pt → Array Value → Addr → Pt → Prop} (hK : vx_Back l R p e below s args y 3 W9 Pre Post PostX)
    {b : Addr} {cellB : Cell} (hcell : T.heap[b]? = some cellB) (hobj : cellB.vm.isStatics = false) (hcls : s.vm.findClass C = some cellB.cls)
    {g : JFrame} (hg : g.method = m) (hsize : g.locals.size = c.maxLocals) {argsL rest : List Value} (hlen : ∀ sig, parseMethodDescriptor y.desc = some sig → argsL.length = sig.parameters.length)
    (hstack : g.stack = argsL.reverse ++ .ref b :: rest) (hW : 2 * g.monitorRoom + (rest.map fun v => v.category).sum ≤ W9) (hdg : decode c.code g.pc = .ok (.invokevirtual index, 3))
    (hpre : ∀ vm₁, s.WarmedH vm₁ → Pre ⟨T.setVm vm₁, locs, cells, slots⟩ (Value.ref b :: argsL).toArray) :
    (∃ (v : Option Value) (vm₁ : Vm) (B : Pt), s.WarmedH vm₁ ∧ Stand p l e R s m args below meth c B.U B.locs B.cells B.slots ∧ Post ⟨T.setVm vm₁, locs, cells, slots⟩ (Value.ref b :: argsL).toArray v B ∧
      ∀ target, Steps p.tables e below (B.U.setTop { g with pc := g.pc + 3, stack := v.toList ++ rest }) target → Steps p.tables e below (T.setTop g) target) ∨
    (∃ (q : Addr) (vm₁ : Vm) (B : Pt), s.WarmedH vm₁ ∧ Stand p l e R s m args below meth c B.U B.locs B.cells B.slots ∧ PostX ⟨T.setVm vm₁, locs, cells, slots⟩ (Value.ref b :: argsL).toArray q B ∧
      Steps p.tables e below (T.setTop g) ((B.U.setTop { g with stack := rest }).pushFrame (.throwing q))) := by
  obtain ⟨mk, methM, hnamed, hmethM, hstM, habM⟩ := Cond.instanceMethod_spec hinst
  obtain ⟨methM', cM, hmethM', -, -, -, -, -, -, hsigM⟩ := Cond.code_spec hnamed hcode
  cases hmethM.symm.trans hmethM'
  obtain ⟨c2, r2, m2, q1, q2, q3, q4, kP, hkP, hkPi⟩ := Cond.selects_spec hsel
  cases hcls.symm.trans q1
  cases (State.methodFound?_of_named hnamed hy).symm.trans q2
  cases hnamed.symm.trans q3
  have hselP : selectMethod e.platform s.vm cellB.cls mk = .method mk := by rw [Launch.admits_selectMethod X.admits]; exact q4
  obtain ⟨vm₁, X₁, hstep₁⟩ := X.invokevirtual hexec hown hlink hnamed hmethM hstM hkP hkPi hy (a := b) (cell := cellB) hcell
    (fun z h => by rw [h] at hobj; cases hobj) hselP hmethM habM hkP hkPi (g := g) hg (argsL := argsL) (rest := rest) (hlen _ hsigM) hstack hdg
  rcases hK m meth c ⟨T.setVm vm₁, locs, cells, slots⟩ { g with stack := rest } (.invokevirtual index) mk (Value.ref b :: argsL).toArray X₁ hg hsize hdg hW (X₁.named hnamed) (hpre vm₁ X₁.warmed) with ⟨v, B, X', hpost, hsteps⟩ | ⟨q, B, X', hpost, hsteps⟩
  · exact Or.inl ⟨v, vm₁, B, X₁.warmed, X', hpost, fun target h => hstep₁ _ fun acts => by rw [doInvoke_state]; exact hsteps.trans h⟩
  · exact Or.inr ⟨q, vm₁, B, X₁.warmed, X', hpost, hstep₁ _ fun acts => by rw [doInvoke_state]; exact hsteps⟩
theorem vx_callS (X : Stand p l e R s m args below meth c T locs cells slots) (hexec : p.tables.exec = Jvm.exec) {own : String} {index : Nat} {y : MethodName} {bytes : ByteArray} {maxL : Nat} {ret : Option FieldType}
    (hown : s.vm.findClass own = some m.cls) (hlink : (Cond.methodLink own index y).before args s = true) (hstat : (Cond.static y).before args s = true) (hinit : (Cond.initialized y.cls).before args s = true)
    (hcode : (Cond.code y bytes maxL ret).before args s = true) (hy : y.cls ≠ "java/lang/invoke/MethodHandle" ∧ y.cls ≠ "java/lang/invoke/VarHandle")
    {W9 : Nat} {Pre : Pt → Array Value → Prop} {Post : Pt → Array Value → Option Value → Pt → Prop} {PostX : Pt → Array Value → Addr → Pt → Prop} (hK : vx_Back l R p e below s args y 3 W9 Pre Post PostX)
    {g : JFrame} (hg : g.method = m) (hsize : g.locals.size = c.maxLocals) {argsL rest : List Value} (hlen : ∀ sig, parseMethodDescriptor y.desc = some sig → argsL.length = sig.parameters.length)
    (hstack : g.stack = argsL.reverse ++ rest) (hW : 2 * g.monitorRoom + (rest.map fun v => v.category).sum ≤ W9) (hdg : decode c.code g.pc = .ok (.invokestatic index, 3))
    (hpre : ∀ vm₁, s.WarmedH vm₁ → Pre ⟨T.setVm vm₁, locs, cells, slots⟩ argsL.toArray) :
    (∃ (v : Option Value) (vm₁ : Vm) (B : Pt), s.WarmedH vm₁ ∧ Stand p l e R s m args below meth c B.U B.locs B.cells B.slots ∧ Post ⟨T.setVm vm₁, locs, cells, slots⟩ argsL.toArray v B ∧
      ∀ target, Steps p.tables e below (B.U.setTop { g with pc := g.pc + 3, stack := v.toList ++ rest }) target → Steps p.tables e below (T.setTop g) target) ∨
    (∃ (q : Addr) (vm₁ : Vm) (B : Pt), s.WarmedH vm₁ ∧ Stand p l e R s m args below meth c B.U B.locs B.cells B.slots ∧ PostX ⟨T.setVm vm₁, locs, cells, slots⟩ argsL.toArray q B ∧
      Steps p.tables e below (T.setTop g) ((B.U.setTop { g with stack := rest }).pushFrame (.throwing q))) := by
  obtain ⟨mk, hnamed⟩ := Cond.code_named hcode
  obtain ⟨methM, cM, hmethM, -, -, -, -, -, -, hsigM⟩ := Cond.code_spec hnamed hcode
  have hstatic : methM.isStatic = true := Cond.static_spec hnamed hmethM hstat
  obtain ⟨kP, hkP, -⟩ := className_of_methodNamed hnamed
  have hinitP : kP.init = .initialized := Cond.initialized_spec (findClass_of_methodNamed hnamed) hkP hinit
  obtain ⟨vm₁, X₁, hstep₁⟩ := X.invokestatic hexec hown hlink hnamed hmethM hstatic hkP hinitP hy (g := g) hg (argsL := argsL) (rest := rest) (hlen _ hsigM) hstack hdg
  rcases hK m meth c ⟨T.setVm vm₁, locs, cells, slots⟩ { g with stack := rest } (.invokestatic index) mk argsL.toArray X₁ hg hsize hdg hW (X₁.named hnamed) (hpre vm₁ X₁.warmed) with ⟨v, B, X', hpost, hsteps⟩ | ⟨q, B, X', hpost, hsteps⟩
  · exact Or.inl ⟨v, vm₁, B, X₁.warmed, X', hpost, fun target h => hstep₁ _ fun acts => by rw [doInvoke_state]; exact hsteps.trans h⟩
  · exact Or.inr ⟨q, vm₁, B, X₁.warmed, X', hpost, hstep₁ _ fun acts => by rw [doInvoke_state]; exact hsteps⟩
end Calls
theorem vx_cls {s : State} {T : State} {vm₁ : Vm} {E : String} {k : ClassId} (hW : s.WarmedH vm₁) (h : (T.setVm vm₁).vm.findClass E = some k) : s.vm.findClass E = some k := by
  have h1 : vm₁.findClass E = some k := h
  rw [hW.alike.findClass] at h1
  exact h1
/-- the method's frame g, with q thrown over it -/
def vx_W (p : Program) (l : Launch) (e : Env) (R : Room) (s : State) (m : MethodId) (args : Array Value) (below : List Frame) (meth : Method) (c : Code) (H : Heap) (locs : List Loc) (cells slots : Nat) (Q : State → Prop) (g : JFrame) (q : Addr) : Prop :=
  ∀ T : State, T.heap = H → Stand p l e R s m args below meth c T locs cells slots → ∃ t, Steps p.tables e below ((T.setTop g).pushFrame (.throwing q)) t ∧ Q t
def vx_Run (p : Program) (l : Launch) (e : Env) (R : Room) (s : State) (m : MethodId) (args : Array Value) (below : List Frame) (meth : Method) (c : Code) (H : Heap) (locs : List Loc) (cells slots mc ms : Nat) (g : JFrame) (rest : List Value) (Qa : State → Outcome → State → Prop) (XC : String → State → State → Prop) (free : Addr → Prop) : Prop :=
  ∀ T : State, T.heap = H → Stand p l e R s m args below meth c T locs cells slots →
    (∃ (v : Option Value) (st₀ t T' : State) (L : List Loc), st₀.heap = H ∧ Stand p l e R s m args below meth c T' (locs ++ L) (cells + mc) (slots + ms) ∧ (∀ q ∈ L, free q.base) ∧ T'.heap = t.heap ∧ T'.vm = t.vm ∧ Qa st₀ (.returned v) t ∧
      Goes p e below T g T' { g with pc := g.pc + 3, stack := v.toList ++ rest }) ∨
    (∃ (q : Addr) (st₀ t T' : State) (L : List Loc) (E : String) (ce : Cell), st₀.heap = H ∧ Stand p l e R s m args below meth c T' (locs ++ L) (cells + mc) (slots + ms) ∧ (∀ z ∈ L, free z.base) ∧ T'.heap = t.heap ∧ T'.vm = t.vm ∧ XC E st₀ t ∧ t.heap[q]? = some ce ∧ ce.vm = .none ∧ s.vm.findClass E = some ce.cls ∧
      Steps p.tables e below (T.setTop g) ((T'.setTop { g with stack := rest }).pushFrame (.throwing q)))
def vx_X {S : Type} (px : S → Prop) (B : String → S → State → Prop) (A : Nat → Prop) : String → State → State → Prop := fun E st t => ∃ u : S, px u ∧ B E u t ∧ va_F A st t
section Runs
variable {p : Program} {l : Launch} {e : Env} {R : Room} {s : State} {m : MethodId} {args : Array Value} {below : List Frame} {meth : Method} {c : Code} {H : Heap} {locs : List Loc} {cells slots : Nat}
variable {y : MethodName} {bytes cc : ByteArray} {maxL nL mc ms n index : Nat} {ret : Option FieldType} {ws : List Cond} {rm : Room} {Pc : Array Value → State → Prop} {Qc : Array Value → State → Outcome → State → Prop} {XC : String → State → State → Prop} {free : Addr → Prop} {Ts : List Cond} {own C : String} {b : Addr} {As rest : List Value} {g : JFrame}
theorem vx_callBack (cb : CallB R s args own index y bytes maxL ret ws rm mc ms n) (hM : vx_Met l y ws rm Pc Qc XC mc ms free) (hbl : FrameBlind Pc) : vx_Back l R p e below s args y 3 8 (PreOf R mc ms Pc) (PostOf Qc mc ms free) (vx_Post XC mc ms free) := by
  obtain ⟨hrc, hrs, hfr, hlo, hws, hcw, -, hini, -⟩ := cb
  exact vx_back (bytes := bytes) (maxL := maxL) (ret := ret) hM hbl hrc hrs hfr hlo hws hcw (fun a' U hW => word_at hW (Or.inl (by first | rfl | simp [Cond.onTables, Cond.keeps, Cond.steady])) hini)
theorem vx_runV (S : CallFix p m c cc nL s args Ts own) (hM : vx_Met l y ws rm Pc Qc XC mc ms free) (cw : CallW R s args own C index y bytes maxL ret ws rm mc ms n) (hp : PreV s H C b Pc As)
    (hg : g.method = m) (hn : As.length = n) (hsize : g.locals.size = nL) (hstack : g.stack = As.reverse ++ .ref b :: rest) (hW : 2 * g.monitorRoom + (rest.map fun v => v.category).sum ≤ 8) (hdg : decode cc g.pc = .ok (.invokevirtual index, 3)) (hf : cells + mc ≤ R.cells ∧ slots + ms ≤ R.slots) :
    vx_Run p l e R s m args below meth c H locs cells slots mc ms g rest (Qc (Value.ref b :: As).toArray) XC free := by
  have hK : vx_Back l R p e below s args y 3 8 (PreOf R mc ms Pc) (PostOf Qc mc ms free) (vx_Post XC mc ms free) := vx_callBack cw.1 hM hp.1
  obtain ⟨⟨-, -, -, -, -, -, hcode, -, hy, hlen, hl⟩, hin, hse⟩ := cw
  obtain ⟨hx, hb, hml, ho, -⟩ := S
  obtain ⟨-, ⟨cellB, hcB, hoB, hclB⟩, hPc⟩ := hp
  intro T hT X
  rcases vx_callV X hx (C := C) (bytes := bytes) (maxL := maxL) (ret := ret) ho hl hin hse hcode hy hK (by rw [hT]; exact hcB) hoB hclB hg (hsize.trans hml.symm) (argsL := As) (rest := rest) (fun sig h => hn.trans (hlen sig h)) hstack hW (by rw [hb]; exact hdg)
    (fun vm₁ hW₁ => ⟨hf.1, hf.2, hPc (T.setVm vm₁) hT hW₁⟩) with ⟨v, vm₁, ⟨U', l2, c2, s2⟩, hW₁, X', ⟨g', mk, t, L, e1, e2, hq, h1, hL, h2, h3⟩, st⟩ | ⟨q, vm₁, ⟨U', l2, c2, s2⟩, hW₁, X', ⟨g', mk, t, L, E, ce, e1, e2, hq, hce, hcv, hcl, h1, hL, h2, h3⟩, st⟩
  · dsimp only [Pt.U, Pt.locs, Pt.cells, Pt.slots] at X' e1 e2 h1 h2 h3 st
    subst h1; subst h2; subst h3
    exact Or.inl ⟨v, (T.setVm vm₁).calling g' mk (Value.ref b :: As).toArray, t, U', L, hT, X', hL, e1, e2, hq, st⟩
  · dsimp only [Pt.U, Pt.locs, Pt.cells, Pt.slots] at X' e1 e2 h1 h2 h3 st hcl
    subst h1; subst h2; subst h3
    exact Or.inr ⟨q, (T.setVm vm₁).calling g' mk (Value.ref b :: As).toArray, t, U', L, E, ce, hT, X', hL, e1, e2, hq, hce, hcv, vx_cls hW₁ hcl, st⟩
theorem vx_runS (S : CallFix p m c cc nL s args Ts own) (hM : vx_Met l y ws rm Pc Qc XC mc ms free) (cw : CallB R s args own index y bytes maxL ret ws rm mc ms n ∧ (Cond.static y).before args s = true) (hp : PreS s H Pc As)
    (hg : g.method = m) (hn : As.length = n) (hsize : g.locals.size = nL) (hstack : g.stack = As.reverse ++ rest) (hW : 2 * g.monitorRoom + (rest.map fun v => v.category).sum ≤ 8) (hdg : decode cc g.pc = .ok (.invokestatic index, 3)) (hf : cells + mc ≤ R.cells ∧ slots + ms ≤ R.slots) :
    vx_Run p l e R s m args below meth c H locs cells slots mc ms g rest (Qc As.toArray) XC free := by
  have hK : vx_Back l R p e below s args y 3 8 (PreOf R mc ms Pc) (PostOf Qc mc ms free) (vx_Post XC mc ms free) := vx_callBack cw.1 hM hp.1
  obtain ⟨⟨-, -, -, -, -, -, hcode, hini, hy, hlen, hl⟩, hstt⟩ := cw
  obtain ⟨hx, hb, hml, ho, -⟩ := S
  intro T hT X
  rcases vx_callS X hx (bytes := bytes) (maxL := maxL) (ret := ret) ho hl hstt hini hcode hy hK hg (hsize.trans hml.symm) (argsL := As) (rest := rest) (fun sig h => hn.trans (hlen sig h)) hstack hW (by rw [hb]; exact hdg)
    (fun vm₁ hW₁ => ⟨hf.1, hf.2, hp.2 (T.setVm vm₁) hT hW₁⟩) with ⟨v, vm₁, ⟨U', l2, c2, s2⟩, hW₁, X', ⟨g', mk, t, L, e1, e2, hq, h1, hL, h2, h3⟩, st⟩ | ⟨q, vm₁, ⟨U', l2, c2, s2⟩, hW₁, X', ⟨g', mk, t, L, E, ce, e1, e2, hq, hce, hcv, hcl, h1, hL, h2, h3⟩, st⟩
  · dsimp only [Pt.U, Pt.locs, Pt.cells, Pt.slots] at X' e1 e2 h1 h2 h3 st
    subst h1; subst h2; subst h3
    exact Or.inl ⟨v, (T.setVm vm₁).calling g' mk As.toArray, t, U', L, hT, X', hL, e1, e2, hq, st⟩
  · dsimp only [Pt.U, Pt.locs, Pt.cells, Pt.slots] at X' e1 e2 h1 h2 h3 st hcl
    subst h1; subst h2; subst h3
    exact Or.inr ⟨q, (T.setVm vm₁).calling g' mk As.toArray, t, U', L, E, ce, hT, X', hL, e1, e2, hq, hce, hcv, vx_cls hW₁ hcl, st⟩
end Runs
section Rows
variable {p : Program} {l : Launch} {e : Env} {R : Room} {s : State} {m : MethodId} {args : Array Value} {below : List Frame} {meth : Method} {c : Code} {H : Heap} {locs : List Loc} {cells slots : Nat} {Q : State → Prop}
variable {mc ms : Nat} {free : Addr → Prop} {A0 A1 : Nat → Prop} {H0 : Heap} {a : Array Value} {pc : Nat} {ls : Array Slot} {st0 rest : List Value}
theorem vx_keep {st₀ t T' : State} {L : List Loc} (h0 : st₀.heap = H) (e1 : T'.heap = t.heap) (hS : va_S A0 H0 H locs) (hA : ∀ q, q < H.size → A1 q → A0 q) (hf : ∀ q, free q → A0 q) (hL : ∀ q ∈ L, free q.base) (hF : va_F A1 st₀ t) :
    H.size ≤ T'.heap.size ∧ (∀ q : Nat, q < H.size → ¬ A1 q → T'.heap[q]? = H[q]?) ∧ va_S A0 H0 T'.heap (locs ++ L) := by
  obtain ⟨hz, hk⟩ := hF
  rw [h0] at hz hk
  exact ⟨by rw [e1]; exact hz, fun q h1 h2 => by rw [e1]; exact hk q h1 h2,
    ⟨Nat.le_trans hS.1 (by rw [e1]; exact hz), fun q h1 h2 => by rw [e1, hk q (Nat.lt_of_lt_of_le h1 hS.1) (fun z => h2 (hA q (Nat.lt_of_lt_of_le h1 hS.1) z))]; exact hS.2.1 q h1 h2, fun q hq => by
      rcases List.mem_append.mp hq with h | h
      · exact hS.2.2 q h
      · exact hf _ (hL q h)⟩⟩
theorem vx_calli {S SX : Type} {post : Int32 → S → Prop} {px : SX → Prop} {B : S → State → Prop} {BX : String → SX → State → Prop} {AX : Nat → Prop} (hr : vx_Run p l e R s m args below meth c H locs cells slots mc ms (F0 m pc ls st0) rest (va_Qi post B A1 a) (vx_X px BX AX) free) (hS : va_S A0 H0 H locs) (hA : ∀ q, q < H.size → A1 q → A0 q) (hf : ∀ q, free q → A0 q) (hAX : ∀ q, q < H.size → AX q → A0 q)
    (kx : ∀ (E : String) (ce : Cell) (q9 : Addr) (u : SX) (t : State) (H1 : Heap) (locs1 : List Loc), t.heap = H1 → s.vm.Alike t.vm → px u → BX E u t → H.size ≤ H1.size → (∀ q : Nat, q < H.size → ¬ AX q → H1[q]? = H[q]?) → va_S A0 H0 H1 locs1 → H1[q9]? = some ce → ce.vm = .none → s.vm.findClass E = some ce.cls → vx_W p l e R s m args below meth c H1 locs1 (cells + mc) (slots + ms) Q (F0 m pc ls rest) q9)
    (kk : ∀ (r : Int32) (u : S) (t : State) (H1 : Heap) (locs1 : List Loc), t.heap = H1 → s.vm.Alike t.vm → post r u → B u t → H.size ≤ H1.size → (∀ q : Nat, q < H.size → ¬ A1 q → H1[q]? = H[q]?) → va_S A0 H0 H1 locs1 → W p l e R s m args below meth c H1 locs1 (cells + mc) (slots + ms) Q (F0 m (pc + 3) ls (.int r :: rest))) : W p l e R s m args below meth c H locs cells slots Q (F0 m pc ls st0) := by
  intro T hT X
  rcases hr T hT X with ⟨v, st₀, t, T', L, h0, X', hL, e1, e2, ⟨⟨r, u, hv, hp, hb⟩, hF⟩, st⟩ | ⟨q, st₀, t, T', L, E, ce, h0, X', hL, e1, e2, ⟨u, hp, hb, hF⟩, hce, hcv, hcl, st⟩
  · cases hv
    obtain ⟨k1, k2, k3⟩ := vx_keep h0 e1 hS hA hf hL hF
    obtain ⟨t2, a1, b1⟩ := kk r u t T'.heap (locs ++ L) e1.symm (by rw [← e2]; exact X'.warmed.alike) hp hb k1 k2 k3 T' rfl X'
    exact ⟨t2, st t2 a1, b1⟩
  · obtain ⟨k1, k2, k3⟩ := vx_keep h0 e1 hS hAX hf hL hF
    obtain ⟨t2, a1, b1⟩ := kx E ce q u t T'.heap (locs ++ L) e1.symm (by rw [← e2]; exact X'.warmed.alike) hp hb k1 k2 k3 (by rw [e1]; exact hce) hcv hcl T' rfl X'
    exact ⟨t2, st.trans a1, b1⟩
theorem vx_calll {S SX : Type} {post : Int64 → S → Prop} {px : SX → Prop} {B : S → State → Prop} {BX : String → SX → State → Prop} {AX : Nat → Prop} (hr : vx_Run p l e R s m args below meth c H locs cells slots mc ms (F0 m pc ls st0) rest (va_Ql post B A1 a) (vx_X px BX AX) free) (hS : va_S A0 H0 H locs) (hA : ∀ q, q < H.size → A1 q → A0 q) (hf : ∀ q, free q → A0 q) (hAX : ∀ q, q < H.size → AX q → A0 q)
    (kx : ∀ (E : String) (ce : Cell) (q9 : Addr) (u : SX) (t : State) (H1 : Heap) (locs1 : List Loc), t.heap = H1 → s.vm.Alike t.vm → px u → BX E u t → H.size ≤ H1.size → (∀ q : Nat, q < H.size → ¬ AX q → H1[q]? = H[q]?) → va_S A0 H0 H1 locs1 → H1[q9]? = some ce → ce.vm = .none → s.vm.findClass E = some ce.cls → vx_W p l e R s m args below meth c H1 locs1 (cells + mc) (slots + ms) Q (F0 m pc ls rest) q9)
    (kk : ∀ (r : Int64) (u : S) (t : State) (H1 : Heap) (locs1 : List Loc), t.heap = H1 → s.vm.Alike t.vm → post r u → B u t → H.size ≤ H1.size → (∀ q : Nat, q < H.size → ¬ A1 q → H1[q]? = H[q]?) → va_S A0 H0 H1 locs1 → W p l e R s m args below meth c H1 locs1 (cells + mc) (slots + ms) Q (F0 m (pc + 3) ls (.long r :: rest))) : W p l e R s m args below meth c H locs cells slots Q (F0 m pc ls st0) := by
  intro T hT X
  rcases hr T hT X with ⟨v, st₀, t, T', L, h0, X', hL, e1, e2, ⟨⟨r, u, hv, hp, hb⟩, hF⟩, st⟩ | ⟨q, st₀, t, T', L, E, ce, h0, X', hL, e1, e2, ⟨u, hp, hb, hF⟩, hce, hcv, hcl, st⟩
  · cases hv
    obtain ⟨k1, k2, k3⟩ := vx_keep h0 e1 hS hA hf hL hF
    obtain ⟨t2, a1, b1⟩ := kk r u t T'.heap (locs ++ L) e1.symm (by rw [← e2]; exact X'.warmed.alike) hp hb k1 k2 k3 T' rfl X'
    exact ⟨t2, st t2 a1, b1⟩
  · obtain ⟨k1, k2, k3⟩ := vx_keep h0 e1 hS hAX hf hL hF
    obtain ⟨t2, a1, b1⟩ := kx E ce q u t T'.heap (locs ++ L) e1.symm (by rw [← e2]; exact X'.warmed.alike) hp hb k1 k2 k3 (by rw [e1]; exact hce) hcv hcl T' rfl X'
    exact ⟨t2, st.trans a1, b1⟩
theorem vx_callf {S SX : Type} {post : UInt32 → S → Prop} {px : SX → Prop} {B : S → State → Prop} {BX : String → SX → State → Prop} {AX : Nat → Prop} (hr : vx_Run p l e R s m args below meth c H locs cells slots mc ms (F0 m pc ls st0) rest (va_Qf post B A1 a) (vx_X px BX AX) free) (hS : va_S A0 H0 H locs) (hA : ∀ q, q < H.size → A1 q → A0 q) (hf : ∀ q, free q → A0 q) (hAX : ∀ q, q < H.size → AX q → A0 q)
    (kx : ∀ (E : String) (ce : Cell) (q9 : Addr) (u : SX) (t : State) (H1 : Heap) (locs1 : List Loc), t.heap = H1 → s.vm.Alike t.vm → px u → BX E u t → H.size ≤ H1.size → (∀ q : Nat, q < H.size → ¬ AX q → H1[q]? = H[q]?) → va_S A0 H0 H1 locs1 → H1[q9]? = some ce → ce.vm = .none → s.vm.findClass E = some ce.cls → vx_W p l e R s m args below meth c H1 locs1 (cells + mc) (slots + ms) Q (F0 m pc ls rest) q9)
    (kk : ∀ (r : UInt32) (u : S) (t : State) (H1 : Heap) (locs1 : List Loc), t.heap = H1 → s.vm.Alike t.vm → post r u → B u t → H.size ≤ H1.size → (∀ q : Nat, q < H.size → ¬ A1 q → H1[q]? = H[q]?) → va_S A0 H0 H1 locs1 → W p l e R s m args below meth c H1 locs1 (cells + mc) (slots + ms) Q (F0 m (pc + 3) ls (.float r :: rest))) : W p l e R s m args below meth c H locs cells slots Q (F0 m pc ls st0) := by
  intro T hT X
  rcases hr T hT X with ⟨v, st₀, t, T', L, h0, X', hL, e1, e2, ⟨⟨r, u, hv, hp, hb⟩, hF⟩, st⟩ | ⟨q, st₀, t, T', L, E, ce, h0, X', hL, e1, e2, ⟨u, hp, hb, hF⟩, hce, hcv, hcl, st⟩
  · cases hv
    obtain ⟨k1, k2, k3⟩ := vx_keep h0 e1 hS hA hf hL hF
    obtain ⟨t2, a1, b1⟩ := kk r u t T'.heap (locs ++ L) e1.symm (by rw [← e2]; exact X'.warmed.alike) hp hb k1 k2 k3 T' rfl X'
    exact ⟨t2, st t2 a1, b1⟩
  · obtain ⟨k1, k2, k3⟩ := vx_keep h0 e1 hS hAX hf hL hF
    obtain ⟨t2, a1, b1⟩ := kx E ce q u t T'.heap (locs ++ L) e1.symm (by rw [← e2]; exact X'.warmed.alike) hp hb k1 k2 k3 (by rw [e1]; exact hce) hcv hcl T' rfl X'
    exact ⟨t2, st.trans a1, b1⟩
theorem vx_calld {S SX : Type} {post : UInt64 → S → Prop} {px : SX → Prop} {B : S → State → Prop} {BX : String → SX → State → Prop} {AX : Nat → Prop} (hr : vx_Run p l e R s m args below meth c H locs cells slots mc ms (F0 m pc ls st0) rest (va_Qd post B A1 a) (vx_X px BX AX) free) (hS : va_S A0 H0 H locs) (hA : ∀ q, q < H.size → A1 q → A0 q) (hf : ∀ q, free q → A0 q) (hAX : ∀ q, q < H.size → AX q → A0 q)
    (kx : ∀ (E : String) (ce : Cell) (q9 : Addr) (u : SX) (t : State) (H1 : Heap) (locs1 : List Loc), t.heap = H1 → s.vm.Alike t.vm → px u → BX E u t → H.size ≤ H1.size → (∀ q : Nat, q < H.size → ¬ AX q → H1[q]? = H[q]?) → va_S A0 H0 H1 locs1 → H1[q9]? = some ce → ce.vm = .none → s.vm.findClass E = some ce.cls → vx_W p l e R s m args below meth c H1 locs1 (cells + mc) (slots + ms) Q (F0 m pc ls rest) q9)
    (kk : ∀ (r : UInt64) (u : S) (t : State) (H1 : Heap) (locs1 : List Loc), t.heap = H1 → s.vm.Alike t.vm → post r u → B u t → H.size ≤ H1.size → (∀ q : Nat, q < H.size → ¬ A1 q → H1[q]? = H[q]?) → va_S A0 H0 H1 locs1 → W p l e R s m args below meth c H1 locs1 (cells + mc) (slots + ms) Q (F0 m (pc + 3) ls (.double r :: rest))) : W p l e R s m args below meth c H locs cells slots Q (F0 m pc ls st0) := by
  intro T hT X
  rcases hr T hT X with ⟨v, st₀, t, T', L, h0, X', hL, e1, e2, ⟨⟨r, u, hv, hp, hb⟩, hF⟩, st⟩ | ⟨q, st₀, t, T', L, E, ce, h0, X', hL, e1, e2, ⟨u, hp, hb, hF⟩, hce, hcv, hcl, st⟩
  · cases hv
    obtain ⟨k1, k2, k3⟩ := vx_keep h0 e1 hS hA hf hL hF
    obtain ⟨t2, a1, b1⟩ := kk r u t T'.heap (locs ++ L) e1.symm (by rw [← e2]; exact X'.warmed.alike) hp hb k1 k2 k3 T' rfl X'
    exact ⟨t2, st t2 a1, b1⟩
  · obtain ⟨k1, k2, k3⟩ := vx_keep h0 e1 hS hAX hf hL hF
    obtain ⟨t2, a1, b1⟩ := kx E ce q u t T'.heap (locs ++ L) e1.symm (by rw [← e2]; exact X'.warmed.alike) hp hb k1 k2 k3 (by rw [e1]; exact hce) hcv hcl T' rfl X'
    exact ⟨t2, st.trans a1, b1⟩
theorem vx_callv {S SX : Type} {post : S → Prop} {px : SX → Prop} {B : S → State → Prop} {BX : String → SX → State → Prop} {AX : Nat → Prop} (hr : vx_Run p l e R s m args below meth c H locs cells slots mc ms (F0 m pc ls st0) rest (va_Qv post B A1 a) (vx_X px BX AX) free) (hS : va_S A0 H0 H locs) (hA : ∀ q, q < H.size → A1 q → A0 q) (hf : ∀ q, free q → A0 q) (hAX : ∀ q, q < H.size → AX q → A0 q)
    (kx : ∀ (E : String) (ce : Cell) (q9 : Addr) (u : SX) (t : State) (H1 : Heap) (locs1 : List Loc), t.heap = H1 → s.vm.Alike t.vm → px u → BX E u t → H.size ≤ H1.size → (∀ q : Nat, q < H.size → ¬ AX q → H1[q]? = H[q]?) → va_S A0 H0 H1 locs1 → H1[q9]? = some ce → ce.vm = .none → s.vm.findClass E = some ce.cls → vx_W p l e R s m args below meth c H1 locs1 (cells + mc) (slots + ms) Q (F0 m pc ls rest) q9)
    (kk : ∀ (u : S) (t : State) (H1 : Heap) (locs1 : List Loc), t.heap = H1 → s.vm.Alike t.vm → post u → B u t → H.size ≤ H1.size → (∀ q : Nat, q < H.size → ¬ A1 q → H1[q]? = H[q]?) → va_S A0 H0 H1 locs1 → W p l e R s m args below meth c H1 locs1 (cells + mc) (slots + ms) Q (F0 m (pc + 3) ls (rest))) : W p l e R s m args below meth c H locs cells slots Q (F0 m pc ls st0) := by
  intro T hT X
  rcases hr T hT X with ⟨v, st₀, t, T', L, h0, X', hL, e1, e2, ⟨⟨u, hv, hp, hb⟩, hF⟩, st⟩ | ⟨q, st₀, t, T', L, E, ce, h0, X', hL, e1, e2, ⟨u, hp, hb, hF⟩, hce, hcv, hcl, st⟩
  · cases hv
    obtain ⟨k1, k2, k3⟩ := vx_keep h0 e1 hS hA hf hL hF
    obtain ⟨t2, a1, b1⟩ := kk u t T'.heap (locs ++ L) e1.symm (by rw [← e2]; exact X'.warmed.alike) hp hb k1 k2 k3 T' rfl X'
    exact ⟨t2, st t2 a1, b1⟩
  · obtain ⟨k1, k2, k3⟩ := vx_keep h0 e1 hS hAX hf hL hF
    obtain ⟨t2, a1, b1⟩ := kx E ce q u t T'.heap (locs ++ L) e1.symm (by rw [← e2]; exact X'.warmed.alike) hp hb k1 k2 k3 (by rw [e1]; exact hce) hcv hcl T' rfl X'
    exact ⟨t2, st.trans a1, b1⟩
/-- caught by the row x of this method's table; the rows ahead don't take it -/
theorem vx_catch {own name : String} {E : String} {ce : Cell} {q : Addr} (hown : s.vm.findClass own = some m.cls) (pre : List ExceptionTableEntry) (x : ExceptionTableEntry) (suf : List ExceptionTableEntry) (hsplit : c.exceptionTable.toList = pre ++ x :: suf)
    (hpass : ∀ z ∈ pre, covers z pc = false ∨ (z.catchType ≠ 0 ∧ ∃ nm : String, (Cond.classLink own z.catchType nm).before args s = true ∧ va_Nc E nm s)) (hx : covers x pc = true) (h0 : x.catchType ≠ 0)
    (hlink : (Cond.classLink own x.catchType name).before args s = true) (hcast : (Cond.castable E name).before args s = true) (hcell : H[q]? = some ce) (hv : ce.vm = .none) (hcl : s.vm.findClass E = some ce.cls)
    (kk : W p l e R s m args below meth c H locs cells slots Q (F0 m x.handlerPc ls [.ref q])) : vx_W p l e R s m args below meth c H locs cells slots Q (F0 m pc ls rest) q := by
  intro T hT X
  have hpl : e.platform.magicAccessors = ({} : Platform).magicAccessors := by rw [X.admits.platform]
  obtain ⟨c3, c4, hc3, hc4, hasg⟩ := Cond.castable_spec hcast
  cases Option.some.inj (hc3.symm.trans hcl)
  obtain ⟨c5, hc5, hcl5⟩ := Cond.classLink_spec hown hlink e.platform hpl
  cases Option.some.inj (hc4.symm.trans hc5)
  obtain ⟨vm', X', st⟩ := X.thenCaughtThrough q (g := F0 m pc ls rest) rfl (Steps.refl _) (by rw [hT]; exact hcell) (by rw [hv]; rfl) (by obtain ⟨k9, h9, -⟩ := Vm.findClass_spec hcl; exact ⟨k9, h9⟩) pre x suf hsplit
    (fun z hz => by
      rcases hpass z hz with h | ⟨hz0, nm, hl1, hn1⟩
      · exact Or.inl h
      · obtain ⟨c6, hc6, hcl6⟩ := Cond.classLink_spec hown hl1 e.platform hpl
        obtain ⟨a8, b8, h1, h2, h3⟩ := hn1
        cases Option.some.inj (h1.symm.trans hcl)
        cases Option.some.inj (h2.symm.trans hc6)
        exact Or.inr ⟨hz0, _, hcl6, h3⟩) hx (Or.inr ⟨h0, c4, hcl5, hasg⟩)
  obtain ⟨t, a1, b1⟩ := kk (T.setVm vm') hT X'
  exact ⟨t, st.trans a1, b1⟩
end Rows
section Ends
variable {p : Program} {l : Launch} {e : Env} {R : Room} {s : State} {m : MethodId} {args : Array Value} {below : List Frame} {meth : Method} {c : Code} {H : Heap} {locs : List Loc} {cells slots : Nat} {Q : State → Prop}
variable {mc ms : Nat} {free : Addr → Prop} {A0 A1 : Nat → Prop} {H0 : Heap} {a : Array Value} {ls : Array Slot} {st0 rest : List Value}
variable {Qc : Array Value → State → Outcome → State → Prop} {XC : String → State → State → Prop}
/-- what a body that may throw owes at its end -/
def vx_MQ (below : List Frame) (Qc : Array Value → State → Outcome → State → Prop) (XC : String → State → State → Prop) (a : Array Value) (s : State) (mc ms : Nat) (free : Addr → Prop) : State → Prop := fun t =>
  ∃ o, t.status = .running ∧ Ended t below o ∧ vx_Q Qc XC mc ms free a s o t
theorem vx_ret {g : JFrame} {mc ms : Nat} (k : W p l e R s m args below meth c H locs cells slots (MQ below Qc args s mc ms free) g) : W p l e R s m args below meth c H locs cells slots (vx_MQ below Qc XC args s mc ms free) g := by
  intro T hT X
  obtain ⟨t, a1, o, b1, b2, b3, b4⟩ := k T hT X
  exact ⟨t, a1, o, b1, b2, Or.inl ⟨b3, b4⟩⟩
/-- not caught here: it goes on to the caller -/
theorem vx_widen {g : JFrame} {q : Addr} {k n : Nat} (h1 : cells ≤ k) (h2 : slots ≤ n) (kk : vx_W p l e R s m args below meth c H locs k n Q g q) : vx_W p l e R s m args below meth c H locs cells slots Q g q := fun T hT X => kk T hT (stand_widen X h1 h2)
theorem vx_out {pc : Nat} {E : String} {ce : Cell} {q : Addr} {mc ms : Nat} (hout : ∀ x ∈ c.exceptionTable.toList, covers x pc = false) (hlocks : meth.locks = false) (hcell : H[q]? = some ce) (hv : ce.vm = .none) (hcl : s.vm.findClass E = some ce.cls)
    (hx : ∀ t : State, t.heap = H → s.vm.Alike t.vm → XC E s t) (hf : ∀ z ∈ locs, free z.base) (hc : cells ≤ mc) (hs : slots ≤ ms) :
    vx_W p l e R s m args below meth c H locs cells slots (vx_MQ below Qc XC args s mc ms free) (F0 m pc ls rest) q := by
  intro T hT X
  obtain ⟨st1, hrun, hend, hW, hsm⟩ := X.leaveThrown q (g := F0 m pc ls rest) rfl rfl rfl hout hlocks
  have hcell9 : (T.setFrames (.throwing q :: below)).heap[q]? = some ce := by
    show T.heap[q]? = some ce
    rw [hT]; exact hcell
  exact ⟨_, st1, .threw q, hrun, hend, Or.inr ⟨q, rfl, E, ce, locs, hx _ hT hW.alike, hcell9, hv, hcl, hW, hsm.mono hc hs, hf⟩⟩
theorem vx_frame {U : State} {k n : Nat} (h : s.sameButNew ({ U with vm := s.vm } : State) locs k n) : s.heap.size ≤ U.heap.size ∧ ∀ q : Nat, q < s.heap.size → (∀ z ∈ locs, z.base ≠ q) → U.heap[q]? = s.heap[q]? := by
  obtain ⟨-, h2, -, -, -, h6⟩ := h
  refine ⟨h2, fun q hq hz => ?_⟩
  obtain ⟨c9, e1, e2, e3, e4⟩ := h6 q _ (Array.getElem?_eq_getElem hq)
  have hs : c9.slots = (s.heap[q]).slots := Array.ext_getElem? fun i => e4 i fun hm => hz _ hm rfl
  have h9 : c9 = s.heap[q] := by
    rw [hs] at e2
    exact e2
  have e5 : U.heap[q]? = some c9 := e1
  rw [e5, h9, Array.getElem?_eq_getElem hq]
/-- the words of a throw but the four that speak of the heap -/
def vx_no (w : Cond) : Bool := decide (w ≠ .isRef (.static Bundle.tN "UNASSIGNED_STACK" Bundle.steD)) && decide (w ≠ .isRef (.static Bundle.tN "SUPPRESSED_SENTINEL" Bundle.listD)) && decide (w ≠ .laysStatic Bundle.tN "UNASSIGNED_STACK" Bundle.steD) && decide (w ≠ .laysStatic Bundle.tN "SUPPRESSED_SENTINEL" Bundle.listD)
def vx_at0 (own : String) (ic : Nat) (X : String) (names : List String) : List Cond := (Bundle.ownAtoms0 own ic X names).filter vx_no
def vx_atS (own : String) (ic : Nat) (X : String) (names : List String) : List Cond := (Bundle.ownAtoms own ic X names).filter vx_no
/-- a word that the tables alone decide, or a good one -/
def vx_ot (w : Cond) : Bool := w.onTables || goodWord w
theorem vx_ot_at {args a' : Array Value} {s U : State} {w : Cond} (hW : s.WarmedH U.vm) (hvm : s.vm = U.vm) (hg : vx_ot w = true) (h : w.before args s = true) : w.before a' U = true := by
  simp only [vx_ot, Bool.or_eq_true] at hg
  rcases hg with hg | hg
  · exact va_tabs hg hvm h
  · exact word_at hW (good_of_word hg) h
/-- a list's words: the good ones out of the method's own list, the others by premises of their own -/
theorem vx_hat {args : Array Value} {s : State} {L B : List Cond} (h1 : ∀ w ∈ L.filter goodWord, w.before args s = true) (h2 : ∀ w ∈ L.filter (fun w => !goodWord w), w ∈ B) (h3 : ∀ w ∈ B, w.before args s = true) : ∀ w ∈ L, w.before args s = true := by
  intro w hw
  by_cases g : goodWord w = true
  · exact h1 w (List.mem_filter.mpr ⟨hw, g⟩)
  · refine h3 w (h2 w (List.mem_filter.mpr ⟨hw, ?_⟩))
    show (!goodWord w) = true
    cases hgw : goodWord w
    · rfl
    · exact absurd hgw g
theorem vx_c {args : Array Value} {s : State} {w : Cond} {B : List Cond} (h : w.before args s = true) (t : ∀ w ∈ B, w.before args s = true) : ∀ w' ∈ w :: B, w'.before args s = true := fun w' h' => (List.mem_cons.mp h').elim (fun e => by rw [e]; exact h) (t w')
theorem vx_n {args : Array Value} {s : State} : ∀ w ∈ ([] : List Cond), w.before args s = true := fun _ h => nomatch h
theorem vx_own {args : Array Value} {s : State} {L : List Cond} (h1 : ∀ w ∈ L.filter vx_no, w.before args s = true)
    (hU : (Cond.isRef (.static Bundle.tN "UNASSIGNED_STACK" Bundle.steD)).before args s = true) (hN : (Cond.isRef (.static Bundle.tN "SUPPRESSED_SENTINEL" Bundle.listD)).before args s = true)
    (lU : (Cond.laysStatic Bundle.tN "UNASSIGNED_STACK" Bundle.steD).before args s = true) (lN : (Cond.laysStatic Bundle.tN "SUPPRESSED_SENTINEL" Bundle.listD).before args s = true) : ∀ w ∈ L, w.before args s = true := by
  intro w hw
  by_cases e1 : w = .isRef (.static Bundle.tN "UNASSIGNED_STACK" Bundle.steD)
  · rw [e1]; exact hU
  · by_cases e2 : w = .isRef (.static Bundle.tN "SUPPRESSED_SENTINEL" Bundle.listD)
    · rw [e2]; exact hN
    · by_cases e3 : w = .laysStatic Bundle.tN "UNASSIGNED_STACK" Bundle.steD
      · rw [e3]; exact lU
      · by_cases e4 : w = .laysStatic Bundle.tN "SUPPRESSED_SENTINEL" Bundle.listD
        · rw [e4]; exact lN
        · exact h1 w (List.mem_filter.mpr ⟨hw, by unfold vx_no; rw [decide_eq_true e1, decide_eq_true e2, decide_eq_true e3, decide_eq_true e4]; rfl⟩)
/-- where a static field lies, its class's statics cell in H -/
def vx_L (C n d : String) (A : Nat → Prop) (U : State) (H : Heap) : Prop := ∃ (c : ClassId) (k : Class) (i : Nat) (f : Field) (a : Nat) (cell : Cell), U.vm.findClass C = some c ∧ U.fieldFound? C n d = some (c, k, i, f) ∧ f.isStatic = true ∧ k.statics = some a ∧ H[a]? = some cell ∧ cell.vm.isStatics = true ∧ cell.cls = c ∧ f.slot < cell.slots.size ∧ k.staticTypes[f.slot]? = some f.type ∧ ¬ A a
theorem vx_L.moved {C n d : String} {A : Nat → Prop} {u U : State} {H : Heap} (hvm : u.vm.Alike U.vm) (h : vx_L C n d A u H) : vx_L C n d A U H := by
  obtain ⟨c, k, i, f, a, cell, h1, h2, h3, h4, h5, h6, h7, h8, h9, h10⟩ := h
  obtain ⟨k', hi', he⟩ := State.fieldFound?_setVm hvm h2
  exact ⟨c, k', i, f, a, cell, by rw [hvm.findClass]; exact h1, hi', h3, by rw [he]; exact h4, h5, h6, h7, h8, by rw [he]; exact h9, h10⟩
theorem vx_L.kept {C n d : String} {A : Nat → Prop} {U : State} {H H1 : Heap} (h : vx_L C n d A U H) (hq : ∀ a : Nat, a < H.size → ¬ A a → H1[a]? = H[a]?) : vx_L C n d A U H1 := by
  obtain ⟨c, k, i, f, a, cell, h1, h2, h3, h4, h5, h6, h7, h8, h9, h10⟩ := h
  exact ⟨c, k, i, f, a, cell, h1, h2, h3, h4, by rw [hq a (Array.getElem?_eq_some_iff.mp h5).1 h10]; exact h5, h6, h7, h8, h9, h10⟩
theorem vx_L.narrow {C n d : String} {A B : Nat → Prop} {U : State} {H : Heap} (h : vx_L C n d A U H) (hAB : ∀ q, B q → A q) : vx_L C n d B U H := by
  obtain ⟨c, k, i, f, a, cell, h1, h2, h3, h4, h5, h6, h7, h8, h9, h10⟩ := h
  exact ⟨c, k, i, f, a, cell, h1, h2, h3, h4, h5, h6, h7, h8, h9, fun z => h10 (hAB _ z)⟩
theorem vx_L.word {C n d : String} {A : Nat → Prop} {s : State} {args : Array Value} (h : vx_L C n d A s s.heap) : (Cond.laysStatic C n d).before args s = true := by
  obtain ⟨c, k, i, f, a, cell, h1, h2, h3, h4, h5, h6, h7, h8, h9, -⟩ := h
  show (Cond.laysStatic C n d).holds args s none s [] = true
  exact Cond.laysStatic_of h1 h2 h3 h4 h5 h6 h7 h8 h9
/-- .. and what it holds: null or some reference -/
def vx_Zq (C n d : String) (A : Nat → Prop) (U : State) (H : Heap) : Prop := va_Zq C n d A U H ∧ vx_L C n d A U H
theorem vx_Zq.moved {C n d : String} {A : Nat → Prop} {u U : State} {H : Heap} (hvm : u.vm.Alike U.vm) (h : vx_Zq C n d A u H) : vx_Zq C n d A U H := ⟨va_Zq.moved hvm h.1, vx_L.moved hvm h.2⟩
theorem vx_Zq.kept {C n d : String} {A : Nat → Prop} {U : State} {H H1 : Heap} (h : vx_Zq C n d A U H) (hq : ∀ a : Nat, a < H.size → ¬ A a → H1[a]? = H[a]?) : vx_Zq C n d A U H1 := ⟨va_Zq.kept h.1 hq, vx_L.kept h.2 hq⟩
theorem vx_Zq.narrow {C n d : String} {A B : Nat → Prop} {U : State} {H : Heap} (h : vx_Zq C n d A U H) (hAB : ∀ q, B q → A q) : vx_Zq C n d B U H := ⟨va_Zq.narrow h.1 hAB, vx_L.narrow h.2 hAB⟩
theorem vx_Zqof {args : Array Value} {s : State} {C n d : String} {A : Nat → Prop} (hl : (Cond.laysStatic C n d).before args s = true) (hini : (Cond.initialized C).before args s = true) (h : (Cond.isRef (.static C n d)).before args s = true) (hA : ∀ a : Nat, a < s.heap.size → ¬ A a) : vx_Zq C n d A s s.heap := by
  refine ⟨va_Zqof hl hini h hA, ?_⟩
  obtain ⟨c, k, i, f, a, cell, h1, h2, h3, h4, h5, h6, h7, h8, h9⟩ := Cond.laysStatic_spec hl
  exact ⟨c, k, i, f, a, cell, h1, h2, h3, h4, h5, h6, h7, h8, h9, hA a (Array.getElem?_eq_some_iff.mp h5).1⟩
theorem vx_isRef {C n d : String} {v : Value} {A : Nat → Prop} {s : State} {args : Array Value} (h : va_Z C n d v A s s.heap) (hv : v.isRef = true) : (Cond.isRef (.static C n d)).before args s = true := by
  obtain ⟨cf, kf, fi, f, a, cell, h1, h2, h3, h4, h5, h6, h7, -⟩ := h
  have he : (Term.static C n d).eval args s none [] s = some v := by
    simp [Term.eval, State.fieldNamed?, h1, h2, h4, h5, h6, h7]
  simp only [Cond.before, Cond.holds, Cond.value, he]
  cases v <;> simp_all [Value.isRef]
theorem vx_isRefq {C n d : String} {A : Nat → Prop} {s : State} {args : Array Value} (h : va_Zq C n d A s s.heap) : (Cond.isRef (.static C n d)).before args s = true := by
  rcases h with h | ⟨t, h⟩
  · exact vx_isRef h rfl
  · exact vx_isRef h rfl
/-- the same frame, seen from here: as if the method were called anew in this heap -/
theorem vx_rebase {T : State} (X : Stand p l e R s m args below meth c T locs cells slots) {R' : Room} (hf : R'.frames ≤ R.frames) (hl : R'.locals ≤ R.locals) (hc : cells + R'.cells ≤ R.cells) (hs : slots + R'.slots ≤ R.slots) :
    Stand p l e R' ((T.setVm s.vm).setFrames (.invoking m args :: below)) m args below meth c T [] 0 0 := by
  have htop : (T.setVm s.vm).topJava?.isSome := X.here.top
  have hF : ((T.setVm s.vm).setFrames (.invoking m args :: below)).frames = .invoking m args :: below := State.frames_setFrames _ (State.cur_lt_of_top htop)
  obtain ⟨g₀, hg0⟩ := Option.isSome_iff_exists.mp htop
  obtain ⟨r, hr⟩ := State.topJava?_eq_some.mp hg0
  have hl9 : e.platform.stackLimits (T.setVm s.vm).me = e.platform.stackLimits s.me := X.limits
  have hb9 : (T.setVm s.vm).me.stackBytes = s.me.stackBytes := X.bytes
  refine ⟨X.admits, X.cas, X.clock, hF, ?_, X.hears, X.method, X.code, X.here, X.tail, X.warmed, ?_, ?_, ?_⟩
  · have h := X.room
    have hU : ((T.setVm s.vm).setFrames (.invoking m args :: below)).localsInUse = s.localsInUse := by
      rw [State.localsInUse_invoking hF (meth := meth) (c := c) X.method X.code, State.localsInUse_invoking X.frames X.method X.code]
    simp only [State.hasRoom, Bool.and_eq_true, decide_eq_true_eq] at h ⊢
    obtain ⟨⟨⟨⟨h1, h2, h3, h4, h5, h6⟩, h7⟩, h8⟩, h9⟩ := h
    rw [X.frames, List.length_cons] at h2 h3
    have q1 := X.heapSize
    have q2 := X.used
    simp only [hF, hU, List.length_cons, State.stackLimits_setFrames, State.stackBytes_setFrames, hl9, hb9]
    refine ⟨⟨⟨⟨by omega, by omega, by omega, by omega, by omega, h6⟩, ?_⟩, ?_⟩, X.book⟩
    · show T.heap.size + R'.cells ≤ e.platform.maxCells
      omega
    · show T.slotsUsed + R'.slots ≤ e.platform.maxSlots
      omega
  · rw [State.stackLimits_setFrames]; rfl
  · rw [State.stackBytes_setFrames]; rfl
  · refine ⟨?_, Nat.le_refl _, Nat.le_refl _, ?_, ?_, fun a c9 h9 => ⟨c9, h9, rfl, rfl, fun _ _ => rfl⟩⟩
    · obtain ⟨t, ht, -⟩ := State.frames_cons hr
      show T.setVm s.vm = { ((T.setVm s.vm).setFrames (.invoking m args :: below)).setFrames (T.setVm s.vm).frames with heap := T.heap, slotsUsed := T.slotsUsed }
      rw [State.setFrames_setFrames, State.setFrames_self ht]
      rfl
    · show T.slotsUsed = T.slotsUsed + ((T.heap.toList.drop T.heap.size).map (·.slots.size)).sum
      rw [List.drop_eq_nil_of_le (Nat.le_of_eq Array.length_toList)]
      rfl
    · show ((T.heap.toList.drop T.heap.size).map (·.slots.size)).sum ≤ 0
      rw [List.drop_eq_nil_of_le (Nat.le_of_eq Array.length_toList)]
      exact Nat.le_refl _
/-- 'throw new E()': new; dup; invokespecial; athrow -/
theorem vx_throw0 {cc : ByteArray} {pc : Nat} (hexec : p.tables.exec = Jvm.exec) (hb : c.code = cc) (hl : l.stackTraces = false) {own cls : String} {names : List String} {ik ic mc ms : Nat} {A : Nat → Prop}
    (hown : s.vm.findClass own = some m.cls) (hcls : Bundle.fit cls = true) (hnames : ∀ n ∈ names, Bundle.fit n = true)
    (hk : (Cond.classLink own ik cls).before args s = true) (hini : (Cond.initialized cls).before args s = true) (hat : ∀ w ∈ vx_at0 own ic cls names, w.before args s = true)
    (hgood : ∀ w ∈ Cond.classLink own ik cls :: Cond.initialized cls :: vx_at0 own ic cls names, vx_ot w = true)
    (hU : vx_Zq Bundle.tN "UNASSIGNED_STACK" Bundle.steD A s s.heap) (hN : vx_Zq Bundle.tN "SUPPRESSED_SENTINEL" Bundle.listD A s s.heap) (hS : va_S A s.heap H locs) (hsize : ls.size = c.maxLocals)
    (d0 : decode cc pc = .ok (.new ik, 3)) (d3 : decode cc (pc + 3) = .ok (.dup, 1)) (d4 : decode cc (pc + 4) = .ok (.invokespecial ic, 3)) (d7 : decode cc (pc + 7) = .ok (.athrow, 1))
    (hout : ∀ x ∈ c.exceptionTable.toList, covers x (pc + 7) = false)
    (hRframes : names.length + 3 < R.frames) (hRlocals : (rest.map fun v => v.category).sum + (13 * (names.length + 1) + 42) ≤ R.locals) (hRcells : cells + 1 ≤ R.cells) (hRslots : slots + 6 ≤ R.slots) (hlocks : meth.locks = false)
    (hx : ∀ t : State, s.vm.Alike t.vm → H.size ≤ t.heap.size → (∀ q : Nat, q < H.size → t.heap[q]? = H[q]?) → XC cls s t)
    (hf : ∀ z ∈ locs, free z.base) (hc : cells + 1 ≤ mc) (hs : slots + 6 ≤ ms) :
    W p l e R s m args below meth c H locs cells slots (vx_MQ below Qc XC args s mc ms free) (F0 m pc ls rest) := by
  intro T hT X
  have htr : e.platform.stackTraces = false := (show e.platform.stackTraces = l.stackTraces by rw [X.admits.platform]).trans hl
  have Y := vx_rebase X (R' := { frames := R.frames, locals := R.locals, cells := 1, slots := 6 }) (Nat.le_refl _) (Nat.le_refl _) hRcells hRslots
  obtain ⟨s', hA⟩ : ∃ z, z = (T.setVm s.vm).setFrames (.invoking m args :: below) := ⟨_, rfl⟩
  rw [← hA] at Y
  have hvm : s'.vm = s.vm := by rw [hA]; rfl
  have hhp : s'.heap = H := by rw [hA]; exact hT
  have hW0 : s.WarmedH s'.vm := by rw [hvm]; exact State.WarmedH.refl s
  have hat' : ∀ w ∈ vx_at0 own ic cls names, w.before args s' = true := fun w hw => vx_ot_at hW0 hvm.symm (hgood w (List.mem_cons_of_mem _ (List.mem_cons_of_mem _ hw))) (hat w hw)
  have hk' : (Cond.classLink own ik cls).before args s' = true := vx_ot_at hW0 hvm.symm (hgood _ List.mem_cons_self) hk
  have hini' : (Cond.initialized cls).before args s' = true := vx_ot_at hW0 hvm.symm (hgood _ (List.mem_cons_of_mem _ List.mem_cons_self)) hini
  have hU' : vx_Zq Bundle.tN "UNASSIGNED_STACK" Bundle.steD A s' s'.heap := by rw [hhp]; exact vx_Zq.moved hW0.alike (hU.kept hS.2.1)
  have hN' : vx_Zq Bundle.tN "SUPPRESSED_SENTINEL" Bundle.listD A s' s'.heap := by rw [hhp]; exact vx_Zq.moved hW0.alike (hN.kept hS.2.1)
  have h : ∀ w ∈ Bundle.ownAtoms0 own ic cls names, w.before args s' = true := vx_own hat' (vx_isRefq hU'.1) (vx_isRefq hN'.1) hU'.2.word hN'.2.word
  have hown' : s'.vm.findClass own = some m.cls := by rw [hvm]; exact hown
  have hins : (Cond.instantiable cls 6).before args s' = true := h _ (by simp [Bundle.ownAtoms0])
  obtain ⟨vm₁, cX, kX, hfX, hkX, -, -, X₁, st1⟩ := Y.newCold hexec (own := own) (C := cls) (index := ik) (n := 6) hown' hk' hins hini'
    (g := F0 m pc ls rest) rfl (by rw [hb]; exact d0) (Nat.le_refl _) (Nat.le_refl _)
  generalize hT1 : (T.setVm vm₁).pushCell { cls := cX, slots := kX.instanceTypes.map defaultValue, vm := .none } = T1 at X₁ st1
  have hcat : (Value.ref T.heap.size).category = 1 := rfl
  have hcellA : T1.heap[T.heap.size]? = some (freshCell cX kX) := by rw [← hT1]; exact State.heap_pushCell_size _ _
  have d3' : decode c.code (pc + 3) = .ok (.dup, 1) := by rw [hb]; exact d3
  obtain ⟨U, hsteps, hrun, hend, hW, hsame, ce, hce, hO⟩ := X₁.ctorThrow0 hexec htr (own := own) (cls := cls) (names := names) (ic := ic) hown' hcls hnames h (fun x hx => nomatch hx) hfX hkX hcellA (by rw [hhp, hT]; exact Nat.le_refl _)
    (g := { method := m, pc := pc + 4, locals := ls, stack := .ref T.heap.size :: .ref T.heap.size :: rest, locked := none }) rfl hsize rfl rfl (rest := rest) rfl
    (by rw [hb]; exact d4) (by rw [hb]; exact d7) hout hRframes (by simp only [List.map_cons, List.sum_cons, hcat]; omega) hlocks
  obtain ⟨f1, f2⟩ := vx_frame hsame
  rw [hhp] at f1 f2
  have hWs : s.WarmedH U.vm := State.WarmedH.trans hW0 hW
  have hcl : s.vm.findClass cls = some ce.cls := by
    have h9 := hO.cls
    rw [hvm] at h9
    exact h9
  have hall : s.sameButNew ({ U with vm := s.vm } : State) locs mc ms := by
    subst hA
    obtain ⟨e1, e2⟩ := hsame
    rw [State.setFrames_setFrames] at e1
    have h2 : (T.setVm s.vm).sameButNew ({ U with vm := s.vm } : State) [] (0 + 1) (0 + 6) := ⟨e1, e2⟩
    have h3 := X.same.trans h2
    rw [List.append_nil] at h3
    exact h3.mono hc hs
  refine ⟨U, ?_, .threw T.heap.size, hrun, hend, Or.inr ⟨T.heap.size, rfl, cls, ce, locs, hx U hWs.alike f1 (fun q hq => f2 q hq (fun z hz => nomatch hz)), hce, hO.vm, hcl, hWs, hall, hf⟩⟩
  refine st1 _ ?_
  show Steps p.tables e below (T1.setTop { method := m, pc := pc + 3, locals := ls, stack := .ref T.heap.size :: rest, locked := none }) _
  jvm_step X₁.here [X₁.here.top, hexec, d3', Value.category]
  exact hsteps
/-- 'throw new E("text")': new; dup; ldc; invokespecial; athrow -/
theorem vx_throwS {cc : ByteArray} {pc : Nat} (hexec : p.tables.exec = Jvm.exec) (hb : c.code = cc) (hl : l.stackTraces = false) {own cls text : String} {names : List String} {ik is ic mc ms sa : Nat} {A : Nat → Prop}
    (hown : s.vm.findClass own = some m.cls) (hcls : Bundle.fit cls = true) (hnames : ∀ n ∈ names, Bundle.fit n = true)
    (hk : (Cond.classLink own ik cls).before args s = true) (hini : (Cond.initialized cls).before args s = true) (hstr : vk_R own is text sa s) (hat : ∀ w ∈ vx_atS own ic cls names, w.before args s = true)
    (hgood : ∀ w ∈ Cond.classLink own ik cls :: Cond.initialized cls :: vx_atS own ic cls names, vx_ot w = true)
    (hU : vx_Zq Bundle.tN "UNASSIGNED_STACK" Bundle.steD A s s.heap) (hN : vx_Zq Bundle.tN "SUPPRESSED_SENTINEL" Bundle.listD A s s.heap) (hS : va_S A s.heap H locs) (hsize : ls.size = c.maxLocals)
    (d0 : decode cc pc = .ok (.new ik, 3)) (d3 : decode cc (pc + 3) = .ok (.dup, 1)) (d4 : decode cc (pc + 4) = .ok (.ldc is, 2)) (d6 : decode cc (pc + 6) = .ok (.invokespecial ic, 3)) (d9 : decode cc (pc + 9) = .ok (.athrow, 1))
    (hout : ∀ x ∈ c.exceptionTable.toList, covers x (pc + 9) = false)
    (hRframes : names.length + 3 < R.frames) (hRlocals : (rest.map fun v => v.category).sum + (13 * (names.length + 1) + 43) ≤ R.locals) (hRcells : cells + 1 ≤ R.cells) (hRslots : slots + 6 ≤ R.slots) (hlocks : meth.locks = false)
    (hx : ∀ t : State, s.vm.Alike t.vm → H.size ≤ t.heap.size → (∀ q : Nat, q < H.size → t.heap[q]? = H[q]?) → XC cls s t)
    (hf : ∀ z ∈ locs, free z.base) (hc : cells + 1 ≤ mc) (hs : slots + 6 ≤ ms) :
    W p l e R s m args below meth c H locs cells slots (vx_MQ below Qc XC args s mc ms free) (F0 m pc ls rest) := by
  intro T hT X
  have htr : e.platform.stackTraces = false := (show e.platform.stackTraces = l.stackTraces by rw [X.admits.platform]).trans hl
  have Y := vx_rebase X (R' := { frames := R.frames, locals := R.locals, cells := 1, slots := 6 }) (Nat.le_refl _) (Nat.le_refl _) hRcells hRslots
  obtain ⟨s', hA⟩ : ∃ z, z = (T.setVm s.vm).setFrames (.invoking m args :: below) := ⟨_, rfl⟩
  rw [← hA] at Y
  have hvm : s'.vm = s.vm := by rw [hA]; rfl
  have hhp : s'.heap = H := by rw [hA]; exact hT
  have hW0 : s.WarmedH s'.vm := by rw [hvm]; exact State.WarmedH.refl s
  have hat' : ∀ w ∈ vx_atS own ic cls names, w.before args s' = true := fun w hw => vx_ot_at hW0 hvm.symm (hgood w (List.mem_cons_of_mem _ (List.mem_cons_of_mem _ hw))) (hat w hw)
  have hk' : (Cond.classLink own ik cls).before args s' = true := vx_ot_at hW0 hvm.symm (hgood _ List.mem_cons_self) hk
  have hini' : (Cond.initialized cls).before args s' = true := vx_ot_at hW0 hvm.symm (hgood _ (List.mem_cons_of_mem _ List.mem_cons_self)) hini
  have hU' : vx_Zq Bundle.tN "UNASSIGNED_STACK" Bundle.steD A s' s'.heap := by rw [hhp]; exact vx_Zq.moved hW0.alike (hU.kept hS.2.1)
  have hN' : vx_Zq Bundle.tN "SUPPRESSED_SENTINEL" Bundle.listD A s' s'.heap := by rw [hhp]; exact vx_Zq.moved hW0.alike (hN.kept hS.2.1)
  have h : ∀ w ∈ Bundle.ownAtoms own ic cls names, w.before args s' = true := vx_own hat' (vx_isRefq hU'.1) (vx_isRefq hN'.1) hU'.2.word hN'.2.word
  have hown' : s'.vm.findClass own = some m.cls := by rw [hvm]; exact hown
  have hins : (Cond.instantiable cls 6).before args s' = true := h _ (by simp [Bundle.ownAtoms])
  obtain ⟨vm₁, cX, kX, hfX, hkX, -, -, X₁, st1⟩ := Y.newCold hexec (own := own) (C := cls) (index := ik) (n := 6) hown' hk' hins hini'
    (g := F0 m pc ls rest) rfl (by rw [hb]; exact d0) (Nat.le_refl _) (Nat.le_refl _)
  generalize hT1 : (T.setVm vm₁).pushCell { cls := cX, slots := kX.instanceTypes.map defaultValue, vm := .none } = T1 at X₁ st1
  have hcat : (Value.ref T.heap.size).category = 1 := rfl
  have hcellA : T1.heap[T.heap.size]? = some (freshCell cX kX) := by rw [← hT1]; exact State.heap_pushCell_size _ _
  have d3' : decode c.code (pc + 3) = .ok (.dup, 1) := by rw [hb]; exact d3
  have d4' : decode c.code (pc + 4) = .ok (.ldc is, 2) := by rw [hb]; exact d4
  have hstr' : vk_R own is text sa s' := vk_R.warm hW0 hstr
  obtain ⟨U, hsteps, hrun, hend, hW, hsame, ce, hce, hO⟩ := X₁.ctorThrowS hexec htr (own := own) (cls := cls) (names := names) (ic := ic) hown' hcls hnames h (fun x hx => nomatch hx) hfX hkX hcellA (by rw [hhp, hT]; exact Nat.le_refl _) (msg := .ref sa) rfl
    (g := { method := m, pc := pc + 6, locals := ls, stack := .ref sa :: .ref T.heap.size :: .ref T.heap.size :: rest, locked := none }) rfl hsize rfl rfl (rest := rest) rfl
    (by rw [hb]; exact d6) (by rw [hb]; exact d9) hout hRframes (by simp only [List.map_cons, List.sum_cons, hcat]; omega) hlocks
  obtain ⟨f1, f2⟩ := vx_frame hsame
  rw [hhp] at f1 f2
  have hWs : s.WarmedH U.vm := State.WarmedH.trans hW0 hW
  have hcl : s.vm.findClass cls = some ce.cls := by
    have h9 := hO.cls
    rw [hvm] at h9
    exact h9
  have hall : s.sameButNew ({ U with vm := s.vm } : State) locs mc ms := by
    subst hA
    obtain ⟨e1, e2⟩ := hsame
    rw [State.setFrames_setFrames] at e1
    have h2 : (T.setVm s.vm).sameButNew ({ U with vm := s.vm } : State) [] (0 + 1) (0 + 6) := ⟨e1, e2⟩
    have h3 := X.same.trans h2
    rw [List.append_nil] at h3
    exact h3.mono hc hs
  refine ⟨U, ?_, .threw T.heap.size, hrun, hend, Or.inr ⟨T.heap.size, rfl, cls, ce, locs, hx U hWs.alike f1 (fun q hq => f2 q hq (fun z hz => nomatch hz)), hce, hO.vm, hcl, hWs, hall, hf⟩⟩
  refine st1 _ ?_
  show Steps p.tables e below (T1.setTop { method := m, pc := pc + 3, locals := ls, stack := .ref T.heap.size :: rest, locked := none }) _
  jvm_step X₁.here [X₁.here.top, hexec, d3', Value.category]
  exact X₁.ldcString hexec (own := own) (text := text) (index := is) (a := sa) hown' hstr'.1 hstr'.2
    (g := { method := m, pc := pc + 4, locals := ls, stack := .ref T.heap.size :: .ref T.heap.size :: rest, locked := none }) rfl d4' _ hsteps
/-- 'throw new E("text")', the text by a wide index -/
theorem vx_throwSW {cc : ByteArray} {pc : Nat} (hexec : p.tables.exec = Jvm.exec) (hb : c.code = cc) (hl : l.stackTraces = false) {own cls text : String} {names : List String} {ik is ic mc ms sa : Nat} {A : Nat → Prop}
    (hown : s.vm.findClass own = some m.cls) (hcls : Bundle.fit cls = true) (hnames : ∀ n ∈ names, Bundle.fit n = true)
    (hk : (Cond.classLink own ik cls).before args s = true) (hini : (Cond.initialized cls).before args s = true) (hstr : vk_R own is text sa s) (hat : ∀ w ∈ vx_atS own ic cls names, w.before args s = true)
    (hgood : ∀ w ∈ Cond.classLink own ik cls :: Cond.initialized cls :: vx_atS own ic cls names, vx_ot w = true)
    (hU : vx_Zq Bundle.tN "UNASSIGNED_STACK" Bundle.steD A s s.heap) (hN : vx_Zq Bundle.tN "SUPPRESSED_SENTINEL" Bundle.listD A s s.heap) (hS : va_S A s.heap H locs) (hsize : ls.size = c.maxLocals)
    (d0 : decode cc pc = .ok (.new ik, 3)) (d3 : decode cc (pc + 3) = .ok (.dup, 1)) (d4 : decode cc (pc + 4) = .ok (.ldc_w is, 3)) (d7 : decode cc (pc + 7) = .ok (.invokespecial ic, 3)) (d10 : decode cc (pc + 10) = .ok (.athrow, 1))
    (hout : ∀ x ∈ c.exceptionTable.toList, covers x (pc + 10) = false)
    (hRframes : names.length + 3 < R.frames) (hRlocals : (rest.map fun v => v.category).sum + (13 * (names.length + 1) + 43) ≤ R.locals) (hRcells : cells + 1 ≤ R.cells) (hRslots : slots + 6 ≤ R.slots) (hlocks : meth.locks = false)
    (hx : ∀ t : State, s.vm.Alike t.vm → H.size ≤ t.heap.size → (∀ q : Nat, q < H.size → t.heap[q]? = H[q]?) → XC cls s t)
    (hf : ∀ z ∈ locs, free z.base) (hc : cells + 1 ≤ mc) (hs : slots + 6 ≤ ms) :
    W p l e R s m args below meth c H locs cells slots (vx_MQ below Qc XC args s mc ms free) (F0 m pc ls rest) := by
  intro T hT X
  have htr : e.platform.stackTraces = false := (show e.platform.stackTraces = l.stackTraces by rw [X.admits.platform]).trans hl
  have Y := vx_rebase X (R' := { frames := R.frames, locals := R.locals, cells := 1, slots := 6 }) (Nat.le_refl _) (Nat.le_refl _) hRcells hRslots
  obtain ⟨s', hA⟩ : ∃ z, z = (T.setVm s.vm).setFrames (.invoking m args :: below) := ⟨_, rfl⟩
  rw [← hA] at Y
  have hvm : s'.vm = s.vm := by rw [hA]; rfl
  have hhp : s'.heap = H := by rw [hA]; exact hT
  have hW0 : s.WarmedH s'.vm := by rw [hvm]; exact State.WarmedH.refl s
  have hat' : ∀ w ∈ vx_atS own ic cls names, w.before args s' = true := fun w hw => vx_ot_at hW0 hvm.symm (hgood w (List.mem_cons_of_mem _ (List.mem_cons_of_mem _ hw))) (hat w hw)
  have hk' : (Cond.classLink own ik cls).before args s' = true := vx_ot_at hW0 hvm.symm (hgood _ List.mem_cons_self) hk
  have hini' : (Cond.initialized cls).before args s' = true := vx_ot_at hW0 hvm.symm (hgood _ (List.mem_cons_of_mem _ List.mem_cons_self)) hini
  have hU' : vx_Zq Bundle.tN "UNASSIGNED_STACK" Bundle.steD A s' s'.heap := by rw [hhp]; exact vx_Zq.moved hW0.alike (hU.kept hS.2.1)
  have hN' : vx_Zq Bundle.tN "SUPPRESSED_SENTINEL" Bundle.listD A s' s'.heap := by rw [hhp]; exact vx_Zq.moved hW0.alike (hN.kept hS.2.1)
  have h : ∀ w ∈ Bundle.ownAtoms own ic cls names, w.before args s' = true := vx_own hat' (vx_isRefq hU'.1) (vx_isRefq hN'.1) hU'.2.word hN'.2.word
  have hown' : s'.vm.findClass own = some m.cls := by rw [hvm]; exact hown
  have hins : (Cond.instantiable cls 6).before args s' = true := h _ (by simp [Bundle.ownAtoms])
  obtain ⟨vm₁, cX, kX, hfX, hkX, -, -, X₁, st1⟩ := Y.newCold hexec (own := own) (C := cls) (index := ik) (n := 6) hown' hk' hins hini'
    (g := F0 m pc ls rest) rfl (by rw [hb]; exact d0) (Nat.le_refl _) (Nat.le_refl _)
  generalize hT1 : (T.setVm vm₁).pushCell { cls := cX, slots := kX.instanceTypes.map defaultValue, vm := .none } = T1 at X₁ st1
  have hcat : (Value.ref T.heap.size).category = 1 := rfl
  have hcellA : T1.heap[T.heap.size]? = some (freshCell cX kX) := by rw [← hT1]; exact State.heap_pushCell_size _ _
  have d3' : decode c.code (pc + 3) = .ok (.dup, 1) := by rw [hb]; exact d3
  have d4' : decode c.code (pc + 4) = .ok (.ldc_w is, 3) := by rw [hb]; exact d4
  have hstr' : vk_R own is text sa s' := vk_R.warm hW0 hstr
  obtain ⟨U, hsteps, hrun, hend, hW, hsame, ce, hce, hO⟩ := X₁.ctorThrowS hexec htr (own := own) (cls := cls) (names := names) (ic := ic) hown' hcls hnames h (fun x hx => nomatch hx) hfX hkX hcellA (by rw [hhp, hT]; exact Nat.le_refl _) (msg := .ref sa) rfl
    (g := { method := m, pc := pc + 7, locals := ls, stack := .ref sa :: .ref T.heap.size :: .ref T.heap.size :: rest, locked := none }) rfl hsize rfl rfl (rest := rest) rfl
    (by rw [hb]; exact d7) (by rw [hb]; exact d10) hout hRframes (by simp only [List.map_cons, List.sum_cons, hcat]; omega) hlocks
  obtain ⟨f1, f2⟩ := vx_frame hsame
  rw [hhp] at f1 f2
  have hWs : s.WarmedH U.vm := State.WarmedH.trans hW0 hW
  have hcl : s.vm.findClass cls = some ce.cls := by
    have h9 := hO.cls
    rw [hvm] at h9
    exact h9
  have hall : s.sameButNew ({ U with vm := s.vm } : State) locs mc ms := by
    subst hA
    obtain ⟨e1, e2⟩ := hsame
    rw [State.setFrames_setFrames] at e1
    have h2 : (T.setVm s.vm).sameButNew ({ U with vm := s.vm } : State) [] (0 + 1) (0 + 6) := ⟨e1, e2⟩
    have h3 := X.same.trans h2
    rw [List.append_nil] at h3
    exact h3.mono hc hs
  refine ⟨U, ?_, .threw T.heap.size, hrun, hend, Or.inr ⟨T.heap.size, rfl, cls, ce, locs, hx U hWs.alike f1 (fun q hq => f2 q hq (fun z hz => nomatch hz)), hce, hO.vm, hcl, hWs, hall, hf⟩⟩
  refine st1 _ ?_
  show Steps p.tables e below (T1.setTop { method := m, pc := pc + 3, locals := ls, stack := .ref T.heap.size :: rest, locked := none }) _
  jvm_step X₁.here [X₁.here.top, hexec, d3', Value.category]
  exact X₁.ldcStringW hexec (own := own) (text := text) (index := is) (a := sa) hown' hstr'.1 hstr'.2
    (g := { method := m, pc := pc + 4, locals := ls, stack := .ref T.heap.size :: .ref T.heap.size :: rest, locked := none }) rfl d4' _ hsteps
end Ends
section Bodies
variable {l : Launch}
theorem vx_ofW {y : MethodName} {ws ws' : List Cond} {rm : Room} {Pc : Array Value → State → Prop} {Qc : Array Value → State → Outcome → State → Prop} {XC : String → State → State → Prop} {mc ms : Nat} {free : Addr → Prop} {cc : ByteArray} {maxL : Nat} {ret : Option FieldType}
    (hy : plainName y.cls = true) (hw : ws = Cond.code y cc maxL ret :: ws')
    (body : ∀ p e s m args below meth c s₁, BodyLoose p l y (headSpec ws rm) cc maxL ret e s m args below meth c s₁ → c.maxLocals = maxL → (∀ x ∈ c.exceptionTable.toList, False) → Pc args s →
      W p l e (headSpec ws rm).room s m args below meth c s.heap [] 0 0 (vx_MQ below Qc XC args s mc ms free) (entryFrame m args maxL)) : vx_Met l y ws rm Pc Qc XC mc ms free := by
  refine MetFree.of_bodyS (code := cc) (maxLocals := maxL) (ret := ret) hy ?_ ?_
  · intro args s m h hn
    obtain ⟨meth, c, h1, h2, h3, h4, h5, h6, -, -⟩ := Cond.code_spec hn (atoms_spec (ws := ws) h _ (by rw [hw]; exact List.mem_cons_self))
    exact ⟨meth, c, h1, h2, h3, h4, h5, h6⟩
  · intro p e s m args below meth c s₁ B hml hP _
    have hh0 : s₁.heap = s.heap := by rw [B.state]; rfl
    have ht : ∀ x ∈ c.exceptionTable.toList, False := by
      obtain ⟨meth9, c9, h1, h2, -, -, -, -, h7, -⟩ := Cond.code_spec B.named (atoms_spec (ws := ws) B.pre _ (by rw [hw]; exact List.mem_cons_self))
      cases Option.some.inj (h1.symm.trans B.method)
      cases Option.some.inj (h2.symm.trans (Stand.of_body B).code)
      intro x hx
      rw [Array.isEmpty_iff.mp h7] at hx
      cases hx
    obtain ⟨t, a1, o, b1, b2, b3⟩ := body p e s m args below meth c s₁ B hml ht hP s₁ hh0 (Stand.of_body B)
    exact ⟨t, o, a1, b1, b2, b3⟩
/-- the table of a body with handlers -/
theorem vx_table {p : Program} {x y : MethodName} {S : Spec} {cc bytes : ByteArray} {maxL maxL' : Nat} {ret ret' : Option FieldType} {e : Env} {s s₁ : State} {m : MethodId} {args : Array Value} {below : List Frame} {meth : Method} {c : Code} {hh : List (Nat × Nat × Nat × Nat)}
    (B : BodyLoose p l y S cc maxL ret e s m args below meth c s₁) (h : (Cond.codeWith y bytes maxL' ret' hh).before args s = true) : c.exceptionTable.toList = tableOf hh := by
  obtain ⟨m9, meth9, c9, hn9, h1, h2, -, -, h6, -⟩ := Cond.codeWith_spec h
  cases Option.some.inj (hn9.symm.trans B.named)
  cases Option.some.inj (h1.symm.trans B.method)
  cases Option.some.inj (h2.symm.trans (Stand.of_body B).code)
  rw [← h6, table_eq]
end Bodies
end VXA
/-! ===== END ===== -/
/-! ===== BEGIN a static call of a method with an exception table ===== -/
section VXS
variable {p : Program} {l : Launch} {e : Env} {R : Room} {s : State} {m : MethodId} {args : Array Value} {below : List Frame} {meth : Method} {c : Code} {T : State} {H : Heap} {locs : List Loc} {cells slots : Nat}
abbrev vx_CSW (R : Room) (s : State) (args : Array Value) (own : String) (index : Nat) (y : MethodName) (bytes : ByteArray) (maxL : Nat) (ret : Option FieldType) (hh : List (Nat × Nat × Nat × Nat)) (ws : List Cond) (rm : Room) (mc ms n : Nat) : Prop :=
  (rm.cells = mc ∧ rm.slots = ms ∧ rm.frames + 1 ≤ R.frames ∧ 8 + (maxL + 11) + rm.locals ≤ R.locals ∧ (∀ w ∈ ws, ∀ (a' : Array Value) (U : State), s.WarmedH U.vm → w.before a' U = true) ∧ Cond.codeWith y bytes maxL ret hh ∈ ws) ∧
  (Cond.codeWith y bytes maxL ret hh).before args s = true ∧ (Cond.initialized y.cls).before args s = true ∧ (y.cls ≠ "java/lang/invoke/MethodHandle" ∧ y.cls ≠ "java/lang/invoke/VarHandle") ∧
  (∀ sig, parseMethodDescriptor y.desc = some sig → n = sig.parameters.length) ∧ (Cond.methodLink own index y).before args s = true ∧ (Cond.static y).before args s = true
theorem vx_cwSW {own : String} {index maxL mc ms : Nat} {y : MethodName} {bytes : ByteArray} {ret : Option FieldType} {hh : List (Nat × Nat × Nat × Nat)} {Ts ws ws' : List Cond} {rm : Room} (n : Nat) (ht : ∀ w ∈ Ts, w.before args s = true) (hT : GoodIn Ts (va_wsS own index y ws)) (hw : ws = Cond.codeWith y bytes maxL ret hh :: ws') (hrc : rm.cells = mc) (hrs : rm.slots = ms)
    (hd : y.cls ≠ "java/lang/invoke/MethodHandle" ∧ y.cls ≠ "java/lang/invoke/VarHandle" ∧ (parseMethodDescriptor y.desc).map (fun d => d.parameters.length) = some n) (hR : rm.frames + 1 ≤ R.frames ∧ 8 + (maxL + 11) + rm.locals ≤ R.locals) :
    vx_CSW R s args own index y bytes maxL ret hh ws rm mc ms n := by
  have ok : ∀ w ∈ va_wsS own index y ws, w.before args s = true := fun w h => ht w (hT w h).1
  have hG : GoodIn Ts ws := fun w h => hT w (by unfold va_wsS; exact List.mem_append_right _ h)
  have hc : Cond.codeWith y bytes maxL ret hh ∈ ws := by rw [hw]; exact List.mem_cons_self
  refine ⟨⟨hrc, hrs, hR.1, hR.2, pay_in ht hG, hc⟩, ht _ (hG _ hc).1, ok _ (by simp [va_wsS]), ⟨hd.1, hd.2.1⟩, fun sig h => ?_, ok _ (by simp [va_wsS]), ok _ (by simp [va_wsS])⟩
  have h2 := hd.2.2
  rw [h] at h2
  exact (Option.some.inj h2).symm
theorem vx_callSW (X : Stand p l e R s m args below meth c T locs cells slots) (hexec : p.tables.exec = Jvm.exec) {own : String} {index : Nat} {y : MethodName} {bytes : ByteArray} {maxL : Nat} {ret : Option FieldType} {hh : List (Nat × Nat × Nat × Nat)}
    (hown : s.vm.findClass own = some m.cls) (hlink : (Cond.methodLink own index y).before args s = true) (hstat : (Cond.static y).before args s = true) (hinit : (Cond.initialized y.cls).before args s = true)
    (hcode : (Cond.codeWith y bytes maxL ret hh).before args s = true) (hy : y.cls ≠ "java/lang/invoke/MethodHandle" ∧ y.cls ≠ "java/lang/invoke/VarHandle")
    {W9 : Nat} {Pre : Pt → Array Value → Prop} {Post : Pt → Array Value → Option Value → Pt → Prop} (hK : Back l R p e below s args y 3 W9 Pre Post)
    {g : JFrame} (hg : g.method = m) (hsize : g.locals.size = c.maxLocals) {argsL rest : List Value} (hlen : ∀ sig, parseMethodDescriptor y.desc = some sig → argsL.length = sig.parameters.length)
    (hstack : g.stack = argsL.reverse ++ rest) (hW : 2 * g.monitorRoom + (rest.map fun v => v.category).sum ≤ W9) (hdg : decode c.code g.pc = .ok (.invokestatic index, 3))
    (hpre : ∀ vm₁, s.WarmedH vm₁ → Pre ⟨T.setVm vm₁, locs, cells, slots⟩ argsL.toArray) :
    ∃ (v : Option Value) (vm₁ : Vm) (B : Pt), s.WarmedH vm₁ ∧ Stand p l e R s m args below meth c B.U B.locs B.cells B.slots ∧ Post ⟨T.setVm vm₁, locs, cells, slots⟩ argsL.toArray v B ∧
      ∀ target, Steps p.tables e below (B.U.setTop { g with pc := g.pc + 3, stack := v.toList ++ rest }) target → Steps p.tables e below (T.setTop g) target := by
  obtain ⟨mk, methM, cM, hnamed, hmethM, -, -, -, -, -, -, hsigM⟩ := Cond.codeWith_spec hcode
  have hstatic : methM.isStatic = true := Cond.static_spec hnamed hmethM hstat
  obtain ⟨kP, hkP, -⟩ := className_of_methodNamed hnamed
  have hinitP : kP.init = .initialized := Cond.initialized_spec (findClass_of_methodNamed hnamed) hkP hinit
  obtain ⟨vm₁, X₁, hstep₁⟩ := X.invokestatic hexec hown hlink hnamed hmethM hstatic hkP hinitP hy (g := g) hg (argsL := argsL) (rest := rest) (hlen _ hsigM) hstack hdg
  obtain ⟨v, B, X', hpost, hsteps⟩ := hK m meth c ⟨T.setVm vm₁, locs, cells, slots⟩ { g with stack := rest } (.invokestatic index) mk argsL.toArray X₁ hg hsize hdg hW (X₁.named hnamed) (hpre vm₁ X₁.warmed)
  exact ⟨v, vm₁, B, X₁.warmed, X', hpost, fun target h => hstep₁ _ fun acts => by rw [doInvoke_state]; exact hsteps.trans h⟩
theorem vx_runSW {y : MethodName} {bytes cc : ByteArray} {maxL nL mc ms n index : Nat} {ret : Option FieldType} {hh : List (Nat × Nat × Nat × Nat)} {ws : List Cond} {rm : Room} {Pc : Array Value → State → Prop} {Qc : Array Value → State → Outcome → State → Prop} {free : Addr → Prop} {Ts : List Cond} {own : String} {As rest : List Value} {g : JFrame}
    (S : CallFix p m c cc nL s args Ts own) (hM : Met l y ws rm Pc Qc mc ms free) (cw : vx_CSW R s args own index y bytes maxL ret hh ws rm mc ms n) (hp : PreS s H Pc As)
    (hg : g.method = m) (hn : As.length = n) (hsize : g.locals.size = nL) (hstack : g.stack = As.reverse ++ rest) (hW : 2 * g.monitorRoom + (rest.map fun v => v.category).sum ≤ 8) (hdg : decode cc g.pc = .ok (.invokestatic index, 3)) (hf : cells + mc ≤ R.cells ∧ slots + ms ≤ R.slots) :
    va_Run p l e R s m args below meth c H locs cells slots mc ms g rest (Qc As.toArray) (free) := by
  obtain ⟨⟨hrc, hrs, hfr, hlo, hws, hcw⟩, hcode, hini, hy, hlen, hl, hstt⟩ := cw
  have hK : Back l R p e below s args y 3 8 (PreOf R mc ms Pc) (PostOf Qc mc ms free) := va_backW (hh := hh) (bytes := bytes) (maxL := maxL) (ret := ret) hM hp.1 hrc hrs hfr hlo hws hcw (fun a' U hW => word_at hW (Or.inl (by first | rfl | simp [Cond.onTables, Cond.keeps, Cond.steady])) hini)
  obtain ⟨hx, hb, hml, ho, -⟩ := S
  intro T hT X
  obtain ⟨v, vm₁, ⟨U', l2, c2, s2⟩, hW₁, X', ⟨g', mk, t, L, e1, e2, hq, h1, hL, h2, h3⟩, st⟩ := vx_callSW X hx (hh := hh) (bytes := bytes) (maxL := maxL) (ret := ret) ho hl hstt hini hcode hy hK hg (hsize.trans hml.symm) (argsL := As) (rest := rest) (fun sig h => hn.trans (hlen sig h)) hstack hW (by rw [hb]; exact hdg)
    (fun vm₁ hW₁ => ⟨hf.1, hf.2, hp.2 (T.setVm vm₁) hT hW₁⟩)
  dsimp only [Pt.U, Pt.locs, Pt.cells, Pt.slots] at X' e1 e2 h1 h2 h3 st
  subst h1; subst h2; subst h3
  exact ⟨v, (T.setVm vm₁).calling g' mk As.toArray, t, U', L, hT, X', hL, e1, e2, hq, st⟩
/-- not caught here, past rows that name other classes: it goes on to the caller -/
theorem vx_outP {p : Program} {l : Launch} {e : Env} {R : Room} {s : State} {m : MethodId} {args : Array Value} {below : List Frame} {meth : Method} {c : Code} {H : Heap} {locs : List Loc} {cells slots : Nat} {free : Addr → Prop} {ls : Array Slot} {rest : List Value} {Qc : Array Value → State → Outcome → State → Prop} {XC : String → State → State → Prop}
    {pc : Nat} {own E : String} {ce : Cell} {q : Addr} {mc ms : Nat} (hown : s.vm.findClass own = some m.cls) (hlocks : meth.locks = false)
    (hpass : ∀ z ∈ c.exceptionTable.toList, covers z pc = false ∨ (z.catchType ≠ 0 ∧ ∃ nm : String, (Cond.classLink own z.catchType nm).before args s = true ∧ va_Nc E nm s)) (hcell : H[q]? = some ce) (hv : ce.vm = .none) (hcl : s.vm.findClass E = some ce.cls)
    (hx : ∀ t : State, t.heap = H → s.vm.Alike t.vm → XC E s t) (hf : ∀ z ∈ locs, free z.base) (hc : cells ≤ mc) (hs : slots ≤ ms) :
    vx_W p l e R s m args below meth c H locs cells slots (vx_MQ below Qc XC args s mc ms free) (F0 m pc ls rest) q := by
  intro T hT X
  have hpl : e.platform.magicAccessors = ({} : Platform).magicAccessors := by rw [X.admits.platform]
  obtain ⟨vm', hW', X', st⟩ := X.outThrough hlocks q (g := F0 m pc ls rest) rfl rfl rfl (cell := ce) (by rw [hT]; exact hcell) (by rw [hv]; rfl)
    (by obtain ⟨k9, h9, -⟩ := Vm.findClass_spec hcl; exact ⟨k9, h9⟩) (fun z hz => by
      rcases hpass z hz with h | ⟨hz0, nm, hl1, hn1⟩
      · exact Or.inl h
      · obtain ⟨c6, hc6, hcl6⟩ := Cond.classLink_spec hown hl1 e.platform hpl
        obtain ⟨a8, b8, h1, h2, h3⟩ := hn1
        cases Option.some.inj (h1.symm.trans hcl)
        cases Option.some.inj (h2.symm.trans hc6)
        exact Or.inr ⟨hz0, _, hcl6, h3⟩)
  obtain ⟨g₀, hfr⟩ := X'.frames_eq
  have hcell9 : ((T.setVm vm').setFrames (.throwing q :: below)).heap[q]? = some ce := by
    show T.heap[q]? = some ce
    rw [hT]; exact hcell
  have hend : Ended ((T.setVm vm').setFrames (.throwing q :: below)) below (.threw q) := State.frames_setFrames _ (State.cur_lt_of_frames hfr)
  refine ⟨(T.setVm vm').setFrames (.throwing q :: below), ?_, .threw q, X'.here.running, hend, Or.inr ⟨q, rfl, E, ce, locs, hx _ hT (X'.ends _).1.alike, hcell9, hv, hcl, (X'.ends _).1, (X'.ends _).2.mono hc hs, hf⟩⟩
  rw [X.pushThrowing_eq]
  exact st
/-- a thing of a world lies in the heap -/
theorem vx_lt {D : va_G} {cl : List vw_C} {ws : va_W} {H1 : Heap} (h : va_P D cl ws H1) {k : Nat} {q : Nat × va_E} (hk : ws[k]? = some q) : q.1 < H1.size := (h k q hk).lt
end VXS
/-! ===== END ===== -/
/-! ===== BEGIN methods with a table of their own: called by a name, returning or throwing ===== -/
section VXH
/-! vx_backW, vx_callVX, vx_callSX, vx_callVW, vx_runVW, vx_runVX, vx_runSX, vx_ofWH follow the same proofs as their sisters above (Free/Laws.lean, Shelf42/LK1.lean); vx_outP calls Shelf42/NT130.lean (outThrough). -/
section
variable {l : Launch} {R : Room} {p : Program} {e : Env} {below : List Frame} {s : State} {sargs : Array Value} {y : MethodName} {len W9 : Nat}
theorem vx_backW {ws : List Cond} {rm : Room} {Pc : Array Value → State → Prop} {Qc : Array Value → State → Outcome → State → Prop} {XC : String → State → State → Prop} {mc ms : Nat} {free : Addr → Prop} {bytes : ByteArray} {maxL : Nat} {ret : Option FieldType} {hh : List (Nat × Nat × Nat × Nat)}
    (hM : vx_Met l y ws rm Pc Qc XC mc ms free) (hblind : FrameBlind Pc) (hrc : rm.cells = mc) (hrs : rm.slots = ms)
    (hframes : rm.frames + 1 ≤ R.frames) (hlocals : W9 + (maxL + 11) + rm.locals ≤ R.locals)
    (hws : ∀ w ∈ ws, ∀ a' U, s.WarmedH U.vm → w.before a' U = true) (hcode : Cond.codeWith y bytes maxL ret hh ∈ ws) (hinit : ∀ a' U, s.WarmedH U.vm → (Cond.initialized y.cls).before a' U = true) :
    vx_Back l R p e below s sargs y len W9 (PreOf R mc ms Pc) (PostOf Qc mc ms free) (vx_Post XC mc ms free) := by
  intro m meth c A g ig mk a X hg hsize hdg hW hn hp
  have h1 : (headSpec ws rm).pre.before a A.U = true := atoms_intro fun w hw => hws w hw _ _ X.warmed
  have h2 : (Cond.codeWith y bytes maxL ret hh).before a A.U = true := hws _ hcode _ _ X.warmed
  have h3 : (Cond.initialized y.cls).before a A.U = true := hinit _ _ X.warmed
  have h4 : A.cells + (headSpec ws rm).room.cells ≤ R.cells := by rw [show (headSpec ws rm).room.cells = mc from hrc]; exact hp.1
  have h5 : A.slots + (headSpec ws rm).room.slots ≤ R.slots := by rw [show (headSpec ws rm).room.slots = ms from hrs]; exact hp.2.1
  have hPc : Pc a (A.U.calling g mk a) := hblind _ _ _ _ hp.2.2
  obtain ⟨U, Ls, c0, s0⟩ := A
  dsimp only [Pt.U, Pt.locs, Pt.cells, Pt.slots] at h1 h2 h3 h4 h5 X hn hPc ⊢
  obtain ⟨m9, methY, cY, hn9, hmY, hcY, -, hlY, -⟩ := Cond.codeWith_spec h2
  cases Option.some.inj (hn9.symm.trans hn)
  obtain ⟨kY, hkY, -⟩ := className_of_methodNamed hn
  have hinitY : kY.init = .initialized := Cond.initialized_spec (findClass_of_methodNamed hn) hkY h3
  have h : At U g.method c below := by rw [hg]; exact X.here
  have hlocals9 : W9 + (maxL + 11) + (headSpec ws rm).room.locals ≤ R.locals := hlocals
  have happ : (headSpec ws rm).appliesLoose y e.platform (U.calling g mk a) = true :=
    Spec.appliesLoose_calling (g := g) h hdg hn hkY hinitY
      (X.room_calling (g := g) (R' := (headSpec ws rm).room) hsize hmY hcY hframes (by rw [hlY]; omega) h4 h5) h1
  obtain ⟨mid, hmid⟩ := h.above
  have hfr : (U.setTop g).frames = (.java g :: mid) ++ below := by rw [State.frames_setTop' g h.top, hmid]; rfl
  obtain ⟨o, s₂, hsteps, -, hend, hq⟩ := Steps.callFree hM p X.admits X.cas X.clock (acts := []) hfr happ hPc trivial
  have hq' : vx_Q Qc XC mc ms free a (U.calling g mk a) o s₂ := hq
  rw [State.frames_setTop' g h.top] at hend
  obtain ⟨g₀, hg0⟩ := Option.isSome_iff_exists.mp h.top
  obtain ⟨r, hr⟩ := State.topJava?_eq_some.mp hg0
  have hr' : (({ U with heap := s₂.heap, slotsUsed := s₂.slotsUsed } : State).setVm s₂.vm).frames = .java g₀ :: r := hr
  rcases hq' with ⟨hqc, L, hfe, hL⟩ | ⟨q, rfl, E, ce, L, hx, hce, hcv, hcl, hW₂, hsm, hL⟩
  · obtain ⟨⟨v, rfl⟩, hW₂, e2, q2, q3, q4, q5, q6⟩ := id hfe
    have e3 : s₂ = ({ (U.calling g mk a).setFrames s₂.frames with heap := s₂.heap, slotsUsed := s₂.slotsUsed } : State).setVm s₂.vm := by
      have : s₂ = ({ s₂ with vm := (U.calling g mk a).vm } : State).setVm s₂.vm := rfl
      rw [e2] at this
      exact this
    obtain ⟨c₂, i₂, len₂, hc₂, hd₂, hf₂⟩ := hend
    have hW' : U.WarmedH s₂.vm := hW₂
    have hcc : c₂ = c := by
      have h1 : s₂.code? g.method = U.code? g.method := by
        rw [State.code?_eq, State.code?_eq, hW'.alike.method?]
      exact Option.some.inj (hc₂.symm.trans (h1.trans h.code))
    subst hcc
    have hlen : len₂ = len := by rw [hdg] at hd₂; cases hd₂; rfl
    subst hlen
    have hs₂ : s₂ = (({ U with heap := s₂.heap, slotsUsed := s₂.slotsUsed } : State).setVm s₂.vm).setTop { g with pc := g.pc + len₂, stack := v.toList ++ g.stack } := by
      refine e3.trans ?_
      rw [hf₂, State.calling_eq h.top, State.setFrames_setFrames, State.setTop_of_frames _ hr', hr]
      rfl
    have hsame : U.sameButNew ({ U with heap := s₂.heap, slotsUsed := s₂.slotsUsed } : State) L mc ms := by
      refine ⟨?_, q2, q3, q4, q5, q6⟩
      obtain ⟨t, ht, -⟩ := State.frames_cons hr
      show ({ U with heap := s₂.heap, slotsUsed := s₂.slotsUsed } : State) = { U.setFrames U.frames with heap := s₂.heap, slotsUsed := s₂.slotsUsed }
      rw [State.setFrames_self ht]
    subst hg
    refine Or.inl ⟨v, ⟨(({ U with heap := s₂.heap, slotsUsed := s₂.slotsUsed } : State).setVm s₂.vm), Ls ++ L, c0 + mc, s0 + ms⟩,
      ⟨X.admits, X.cas, X.clock, X.frames, X.room, X.hears, X.method, X.code, (X.here.setHeapUsed s₂.heap s₂.slotsUsed).setVm hW'.alike, X.tail, State.WarmedH.trans X.warmed hW', X.limits, X.bytes, X.same.trans (hsame.setVm s.vm)⟩,
      ⟨g, mk, s₂, L, rfl, rfl, hqc, rfl, hL, rfl, rfl⟩, ?_⟩
    show Steps p.tables e below _ ((({ U with heap := s₂.heap, slotsUsed := s₂.slotsUsed } : State).setVm s₂.vm).setTop { g with pc := g.pc + len₂, stack := v.toList ++ g.stack })
    rw [← hs₂]
    exact hsteps
  · obtain ⟨e2, q2, q3, q4, q5, q6⟩ := id hsm
    have e3 : s₂ = ({ (U.calling g mk a).setFrames s₂.frames with heap := s₂.heap, slotsUsed := s₂.slotsUsed } : State).setVm s₂.vm := by
      have : s₂ = ({ s₂ with vm := (U.calling g mk a).vm } : State).setVm s₂.vm := rfl
      rw [e2] at this
      exact this
    have hf₂ : s₂.frames = .throwing q :: .java g :: U.frames.tail := hend
    have hW' : U.WarmedH s₂.vm := hW₂
    have hs₂ : s₂ = ((({ U with heap := s₂.heap, slotsUsed := s₂.slotsUsed } : State).setVm s₂.vm).setTop g).pushFrame (.throwing q) := by
      refine e3.trans ?_
      rw [hf₂, State.calling_eq h.top, State.setFrames_setFrames, State.pushFrame, State.frames_setTop _ hr', State.setTop_of_frames _ hr', State.setFrames_setFrames, hr]
      rfl
    have hsame : U.sameButNew ({ U with heap := s₂.heap, slotsUsed := s₂.slotsUsed } : State) L mc ms := by
      refine ⟨?_, q2, q3, q4, q5, q6⟩
      obtain ⟨t, ht, -⟩ := State.frames_cons hr
      show ({ U with heap := s₂.heap, slotsUsed := s₂.slotsUsed } : State) = { U.setFrames U.frames with heap := s₂.heap, slotsUsed := s₂.slotsUsed }
      rw [State.setFrames_self ht]
    subst hg
    refine Or.inr ⟨q, ⟨(({ U with heap := s₂.heap, slotsUsed := s₂.slotsUsed } : State).setVm s₂.vm), Ls ++ L, c0 + mc, s0 + ms⟩,
      ⟨X.admits, X.cas, X.clock, X.frames, X.room, X.hears, X.method, X.code, (X.here.setHeapUsed s₂.heap s₂.slotsUsed).setVm hW'.alike, X.tail, State.WarmedH.trans X.warmed hW', X.limits, X.bytes, X.same.trans (hsame.setVm s.vm)⟩,
      ⟨g, mk, s₂, L, E, ce, rfl, rfl, hx, hce, hcv, hcl, rfl, hL, rfl, rfl⟩, ?_⟩
    show Steps p.tables e below _ (((({ U with heap := s₂.heap, slotsUsed := s₂.slotsUsed } : State).setVm s₂.vm).setTop g).pushFrame (.throwing q))
    rw [← hs₂]
    exact hsteps
end
variable {p : Program} {l : Launch} {e : Env} {R : Room} {s : State} {m : MethodId} {args : Array Value} {below : List Frame} {meth : Method} {c : Code} {T : State} {H : Heap} {locs : List Loc} {cells slots : Nat}
theorem vx_callVX (X : Stand p l e R s m args below meth c T locs cells slots) (hexec : p.tables.exec = Jvm.exec) {own C : String} {index : Nat} {y : MethodName} {bytes : ByteArray} {maxL : Nat} {ret : Option FieldType} {hh : List (Nat × Nat × Nat × Nat)}
    (hown : s.vm.findClass own = some m.cls) (hlink : (Cond.methodLink own index y).before args s = true) (hinst : (Cond.instanceMethod y).before args s = true) (hsel : (Cond.selects C y y).before args s = true)
    (hcode : (Cond.codeWith y bytes maxL ret hh).before args s = true) (hy : y.cls ≠ "java/lang/invoke/MethodHandle" ∧ y.cls ≠ "java/lang/invoke/VarHandle")
    {W9 : Nat} {Pre : Pt → Array Value → Prop} {Post : Pt → Array Value → Option Value → Pt → Prop} {PostX : Pt → Array Value → Addr → Pt → Prop} (hK : vx_Back l R p e below s args y 3 W9 Pre Post PostX)
    {b : Addr} {cellB : Cell} (hcell : T.heap[b]? = some cellB) (hobj : cellB.vm.isStatics = false) (hcls : s.vm.findClass C = some cellB.cls)
    {g : JFrame} (hg : g.method = m) (hsize : g.locals.size = c.maxLocals) {argsL rest : List Value} (hlen : ∀ sig, parseMethodDescriptor y.desc = some sig → argsL.length = sig.parameters.length)
    (hstack : g.stack = argsL.reverse ++ .ref b :: rest) (hW : 2 * g.monitorRoom + (rest.map fun v => v.category).sum ≤ W9) (hdg : decode c.code g.pc = .ok (.invokevirtual index, 3))
    (hpre : ∀ vm₁, s.WarmedH vm₁ → Pre ⟨T.setVm vm₁, locs, cells, slots⟩ (Value.ref b :: argsL).toArray) :
    (∃ (v : Option Value) (vm₁ : Vm) (B : Pt), s.WarmedH vm₁ ∧ Stand p l e R s m args below meth c B.U B.locs B.cells B.slots ∧ Post ⟨T.setVm vm₁, locs, cells, slots⟩ (Value.ref b :: argsL).toArray v B ∧
      ∀ target, Steps p.tables e below (B.U.setTop { g with pc := g.pc + 3, stack := v.toList ++ rest }) target → Steps p.tables e below (T.setTop g) target) ∨
    (∃ (q : Addr) (vm₁ : Vm) (B : Pt), s.WarmedH vm₁ ∧ Stand p l e R s m args below meth c B.U B.locs B.cells B.slots ∧ PostX ⟨T.setVm vm₁, locs, cells, slots⟩ (Value.ref b :: argsL).toArray q B ∧
      Steps p.tables e below (T.setTop g) ((B.U.setTop { g with stack := rest }).pushFrame (.throwing q))) := by
  obtain ⟨mk, methM, hnamed, hmethM, hstM, habM⟩ := Cond.instanceMethod_spec hinst
  obtain ⟨m8, methM', cM, hn8, hmethM', -, -, -, -, -, -, hsigM⟩ := Cond.codeWith_spec hcode
  cases Option.some.inj (hn8.symm.trans hnamed)
  cases hmethM.symm.trans hmethM'
  obtain ⟨c2, r2, m2, q1, q2, q3, q4, kP, hkP, hkPi⟩ := Cond.selects_spec hsel
  cases hcls.symm.trans q1
  cases (State.methodFound?_of_named hnamed hy).symm.trans q2
  cases hnamed.symm.trans q3
  have hselP : selectMethod e.platform s.vm cellB.cls mk = .method mk := by rw [Launch.admits_selectMethod X.admits]; exact q4
  obtain ⟨vm₁, X₁, hstep₁⟩ := X.invokevirtual hexec hown hlink hnamed hmethM hstM hkP hkPi hy (a := b) (cell := cellB) hcell
    (fun z h => by rw [h] at hobj; cases hobj) hselP hmethM habM hkP hkPi (g := g) hg (argsL := argsL) (rest := rest) (hlen _ hsigM) hstack hdg
  rcases hK m meth c ⟨T.setVm vm₁, locs, cells, slots⟩ { g with stack := rest } (.invokevirtual index) mk (Value.ref b :: argsL).toArray X₁ hg hsize hdg hW (X₁.named hnamed) (hpre vm₁ X₁.warmed) with ⟨v, B, X', hpost, hsteps⟩ | ⟨q, B, X', hpost, hsteps⟩
  · exact Or.inl ⟨v, vm₁, B, X₁.warmed, X', hpost, fun target h => hstep₁ _ fun acts => by rw [doInvoke_state]; exact hsteps.trans h⟩
  · exact Or.inr ⟨q, vm₁, B, X₁.warmed, X', hpost, hstep₁ _ fun acts => by rw [doInvoke_state]; exact hsteps⟩
theorem vx_callSX (X : Stand p l e R s m args below meth c T locs cells slots) (hexec : p.tables.exec = Jvm.exec) {own : String} {index : Nat} {y : MethodName} {bytes : ByteArray} {maxL : Nat} {ret : Option FieldType} {hh : List (Nat × Nat × Nat × Nat)}
    (hown : s.vm.findClass own = some m.cls) (hlink : (Cond.methodLink own index y).before args s = true) (hstat : (Cond.static y).before args s = true) (hinit : (Cond.initialized y.cls).before args s = true)
    (hcode : (Cond.codeWith y bytes maxL ret hh).before args s = true) (hy : y.cls ≠ "java/lang/invoke/MethodHandle" ∧ y.cls ≠ "java/lang/invoke/VarHandle")
    {W9 : Nat} {Pre : Pt → Array Value → Prop} {Post : Pt → Array Value → Option Value → Pt → Prop} {PostX : Pt → Array Value → Addr → Pt → Prop} (hK : vx_Back l R p e below s args y 3 W9 Pre Post PostX)
    {g : JFrame} (hg : g.method = m) (hsize : g.locals.size = c.maxLocals) {argsL rest : List Value} (hlen : ∀ sig, parseMethodDescriptor y.desc = some sig → argsL.length = sig.parameters.length)
    (hstack : g.stack = argsL.reverse ++ rest) (hW : 2 * g.monitorRoom + (rest.map fun v => v.category).sum ≤ W9) (hdg : decode c.code g.pc = .ok (.invokestatic index, 3))
    (hpre : ∀ vm₁, s.WarmedH vm₁ → Pre ⟨T.setVm vm₁, locs, cells, slots⟩ argsL.toArray) :
    (∃ (v : Option Value) (vm₁ : Vm) (B : Pt), s.WarmedH vm₁ ∧ Stand p l e R s m args below meth c B.U B.locs B.cells B.slots ∧ Post ⟨T.setVm vm₁, locs, cells, slots⟩ argsL.toArray v B ∧
      ∀ target, Steps p.tables e below (B.U.setTop { g with pc := g.pc + 3, stack := v.toList ++ rest }) target → Steps p.tables e below (T.setTop g) target) ∨
    (∃ (q : Addr) (vm₁ : Vm) (B : Pt), s.WarmedH vm₁ ∧ Stand p l e R s m args below meth c B.U B.locs B.cells B.slots ∧ PostX ⟨T.setVm vm₁, locs, cells, slots⟩ argsL.toArray q B ∧
      Steps p.tables e below (T.setTop g) ((B.U.setTop { g with stack := rest }).pushFrame (.throwing q))) := by
  obtain ⟨mk, methM, cM, hnamed, hmethM, -, -, -, -, -, -, hsigM⟩ := Cond.codeWith_spec hcode
  have hstatic : methM.isStatic = true := Cond.static_spec hnamed hmethM hstat
  obtain ⟨kP, hkP, -⟩ := className_of_methodNamed hnamed
  have hinitP : kP.init = .initialized := Cond.initialized_spec (findClass_of_methodNamed hnamed) hkP hinit
  obtain ⟨vm₁, X₁, hstep₁⟩ := X.invokestatic hexec hown hlink hnamed hmethM hstatic hkP hinitP hy (g := g) hg (argsL := argsL) (rest := rest) (hlen _ hsigM) hstack hdg
  rcases hK m meth c ⟨T.setVm vm₁, locs, cells, slots⟩ { g with stack := rest } (.invokestatic index) mk argsL.toArray X₁ hg hsize hdg hW (X₁.named hnamed) (hpre vm₁ X₁.warmed) with ⟨v, B, X', hpost, hsteps⟩ | ⟨q, B, X', hpost, hsteps⟩
  · exact Or.inl ⟨v, vm₁, B, X₁.warmed, X', hpost, fun target h => hstep₁ _ fun acts => by rw [doInvoke_state]; exact hsteps.trans h⟩
  · exact Or.inr ⟨q, vm₁, B, X₁.warmed, X', hpost, hstep₁ _ fun acts => by rw [doInvoke_state]; exact hsteps⟩
theorem vx_callVW (X : Stand p l e R s m args below meth c T locs cells slots) (hexec : p.tables.exec = Jvm.exec) {own C : String} {index : Nat} {y : MethodName} {bytes : ByteArray} {maxL : Nat} {ret : Option FieldType} {hh : List (Nat × Nat × Nat × Nat)}
    (hown : s.vm.findClass own = some m.cls) (hlink : (Cond.methodLink own index y).before args s = true) (hinst : (Cond.instanceMethod y).before args s = true) (hsel : (Cond.selects C y y).before args s = true)
    (hcode : (Cond.codeWith y bytes maxL ret hh).before args s = true) (hy : y.cls ≠ "java/lang/invoke/MethodHandle" ∧ y.cls ≠ "java/lang/invoke/VarHandle")
    {W9 : Nat} {Pre : Pt → Array Value → Prop} {Post : Pt → Array Value → Option Value → Pt → Prop} (hK : Back l R p e below s args y 3 W9 Pre Post)
    {b : Addr} {cellB : Cell} (hcell : T.heap[b]? = some cellB) (hobj : cellB.vm.isStatics = false) (hcls : s.vm.findClass C = some cellB.cls)
    {g : JFrame} (hg : g.method = m) (hsize : g.locals.size = c.maxLocals) {argsL rest : List Value} (hlen : ∀ sig, parseMethodDescriptor y.desc = some sig → argsL.length = sig.parameters.length)
    (hstack : g.stack = argsL.reverse ++ .ref b :: rest) (hW : 2 * g.monitorRoom + (rest.map fun v => v.category).sum ≤ W9) (hdg : decode c.code g.pc = .ok (.invokevirtual index, 3))
    (hpre : ∀ vm₁, s.WarmedH vm₁ → Pre ⟨T.setVm vm₁, locs, cells, slots⟩ (Value.ref b :: argsL).toArray) :
    ∃ (v : Option Value) (vm₁ : Vm) (B : Pt), s.WarmedH vm₁ ∧ Stand p l e R s m args below meth c B.U B.locs B.cells B.slots ∧ Post ⟨T.setVm vm₁, locs, cells, slots⟩ (Value.ref b :: argsL).toArray v B ∧
      ∀ target, Steps p.tables e below (B.U.setTop { g with pc := g.pc + 3, stack := v.toList ++ rest }) target → Steps p.tables e below (T.setTop g) target := by
  obtain ⟨mk, methM, hnamed, hmethM, hstM, habM⟩ := Cond.instanceMethod_spec hinst
  obtain ⟨m8, methM', cM, hn8, hmethM', -, -, -, -, -, -, hsigM⟩ := Cond.codeWith_spec hcode
  cases Option.some.inj (hn8.symm.trans hnamed)
  cases hmethM.symm.trans hmethM'
  obtain ⟨c2, r2, m2, q1, q2, q3, q4, kP, hkP, hkPi⟩ := Cond.selects_spec hsel
  cases hcls.symm.trans q1
  cases (State.methodFound?_of_named hnamed hy).symm.trans q2
  cases hnamed.symm.trans q3
  have hselP : selectMethod e.platform s.vm cellB.cls mk = .method mk := by rw [Launch.admits_selectMethod X.admits]; exact q4
  obtain ⟨vm₁, X₁, hstep₁⟩ := X.invokevirtual hexec hown hlink hnamed hmethM hstM hkP hkPi hy (a := b) (cell := cellB) hcell
    (fun z h => by rw [h] at hobj; cases hobj) hselP hmethM habM hkP hkPi (g := g) hg (argsL := argsL) (rest := rest) (hlen _ hsigM) hstack hdg
  obtain ⟨v, B, X', hpost, hsteps⟩ := hK m meth c ⟨T.setVm vm₁, locs, cells, slots⟩ { g with stack := rest } (.invokevirtual index) mk (Value.ref b :: argsL).toArray X₁ hg hsize hdg hW (X₁.named hnamed) (hpre vm₁ X₁.warmed)
  exact ⟨v, vm₁, B, X₁.warmed, X', hpost, fun target h => hstep₁ _ fun acts => by rw [doInvoke_state]; exact hsteps.trans h⟩
abbrev vx_CVW (R : Room) (s : State) (args : Array Value) (own C : String) (index : Nat) (y : MethodName) (bytes : ByteArray) (maxL : Nat) (ret : Option FieldType) (hh : List (Nat × Nat × Nat × Nat)) (ws : List Cond) (rm : Room) (mc ms n : Nat) : Prop :=
  (rm.cells = mc ∧ rm.slots = ms ∧ rm.frames + 1 ≤ R.frames ∧ 8 + (maxL + 11) + rm.locals ≤ R.locals ∧ (∀ w ∈ ws, ∀ (a' : Array Value) (U : State), s.WarmedH U.vm → w.before a' U = true) ∧ Cond.codeWith y bytes maxL ret hh ∈ ws) ∧
  (Cond.codeWith y bytes maxL ret hh).before args s = true ∧ (Cond.initialized y.cls).before args s = true ∧ (y.cls ≠ "java/lang/invoke/MethodHandle" ∧ y.cls ≠ "java/lang/invoke/VarHandle") ∧
  (∀ sig, parseMethodDescriptor y.desc = some sig → n = sig.parameters.length) ∧ (Cond.methodLink own index y).before args s = true ∧ (Cond.instanceMethod y).before args s = true ∧ (Cond.selects C y y).before args s = true
theorem vx_cwVW {own C : String} {index maxL mc ms : Nat} {y : MethodName} {bytes : ByteArray} {ret : Option FieldType} {hh : List (Nat × Nat × Nat × Nat)} {Ts ws ws' : List Cond} {rm : Room} (n : Nat) (ht : ∀ w ∈ Ts, w.before args s = true) (hT : GoodIn Ts (wsV own index C y ws)) (hw : ws = Cond.codeWith y bytes maxL ret hh :: ws') (hrc : rm.cells = mc) (hrs : rm.slots = ms)
    (hd : y.cls = C ∧ y.cls ≠ "java/lang/invoke/MethodHandle" ∧ y.cls ≠ "java/lang/invoke/VarHandle" ∧ (parseMethodDescriptor y.desc).map (fun d => d.parameters.length) = some n) (hR : rm.frames + 1 ≤ R.frames ∧ 8 + (maxL + 11) + rm.locals ≤ R.locals) :
    vx_CVW R s args own C index y bytes maxL ret hh ws rm mc ms n := by
  obtain ⟨hC, hd⟩ := hd
  subst hC
  have ok : ∀ w ∈ wsV own index y.cls y ws, w.before args s = true := fun w h => ht w (hT w h).1
  have hG : GoodIn Ts ws := fun w h => hT w (by unfold wsV; exact List.mem_append_right _ h)
  have hc : Cond.codeWith y bytes maxL ret hh ∈ ws := by rw [hw]; exact List.mem_cons_self
  refine ⟨⟨hrc, hrs, hR.1, hR.2, pay_in ht hG, hc⟩, ht _ (hG _ hc).1, ok _ (by simp [wsV]), ⟨hd.1, hd.2.1⟩, fun sig h => ?_, ok _ (by simp [wsV]), ok _ (by simp [wsV]), ok _ (by simp [wsV])⟩
  have h2 := hd.2.2
  rw [h] at h2
  exact (Option.some.inj h2).symm
theorem vx_runVW {y : MethodName} {bytes cc : ByteArray} {maxL nL mc ms n index : Nat} {ret : Option FieldType} {hh : List (Nat × Nat × Nat × Nat)} {ws : List Cond} {rm : Room} {Pc : Array Value → State → Prop} {Qc : Array Value → State → Outcome → State → Prop} {free : Addr → Prop} {Ts : List Cond} {own C : String} {b : Addr} {As rest : List Value} {g : JFrame}
    (S : CallFix p m c cc nL s args Ts own) (hM : Met l y ws rm Pc Qc mc ms free) (cw : vx_CVW R s args own C index y bytes maxL ret hh ws rm mc ms n) (hp : PreV s H C b Pc As)
    (hg : g.method = m) (hn : As.length = n) (hsize : g.locals.size = nL) (hstack : g.stack = As.reverse ++ .ref b :: rest) (hW : 2 * g.monitorRoom + (rest.map fun v => v.category).sum ≤ 8) (hdg : decode cc g.pc = .ok (.invokevirtual index, 3)) (hf : cells + mc ≤ R.cells ∧ slots + ms ≤ R.slots) :
    va_Run p l e R s m args below meth c H locs cells slots mc ms g rest (Qc (Value.ref b :: As).toArray) free := by
  obtain ⟨⟨hrc, hrs, hfr, hlo, hws, hcw⟩, hcode, hini, hy, hlen, hl, hin, hse⟩ := cw
  have hK : Back l R p e below s args y 3 8 (PreOf R mc ms Pc) (PostOf Qc mc ms free) := va_backW (hh := hh) (bytes := bytes) (maxL := maxL) (ret := ret) hM hp.1 hrc hrs hfr hlo hws hcw (fun a' U hW => word_at hW (Or.inl (by first | rfl | simp [Cond.onTables, Cond.keeps, Cond.steady])) hini)
  obtain ⟨hx, hb, hml, ho, -⟩ := S
  obtain ⟨-, ⟨cellB, hcB, hoB, hclB⟩, hPc⟩ := hp
  intro T hT X
  obtain ⟨v, vm₁, ⟨U', l2, c2, s2⟩, hW₁, X', ⟨g', mk, t, L, e1, e2, hq, h1, hL, h2, h3⟩, st⟩ := vx_callVW X hx (C := C) (hh := hh) (bytes := bytes) (maxL := maxL) (ret := ret) ho hl hin hse hcode hy hK (by rw [hT]; exact hcB) hoB hclB hg (hsize.trans hml.symm) (argsL := As) (rest := rest) (fun sig h => hn.trans (hlen sig h)) hstack hW (by rw [hb]; exact hdg)
    (fun vm₁ hW₁ => ⟨hf.1, hf.2, hPc (T.setVm vm₁) hT hW₁⟩)
  dsimp only [Pt.U, Pt.locs, Pt.cells, Pt.slots] at X' e1 e2 h1 h2 h3 st
  subst h1; subst h2; subst h3
  exact ⟨v, (T.setVm vm₁).calling g' mk (Value.ref b :: As).toArray, t, U', L, hT, X', hL, e1, e2, hq, st⟩
section
variable {y : MethodName} {bytes cc : ByteArray} {maxL nL mc ms n index : Nat} {ret : Option FieldType} {ws : List Cond} {rm : Room} {Pc : Array Value → State → Prop} {Qc : Array Value → State → Outcome → State → Prop} {XC : String → State → State → Prop} {free : Addr → Prop} {Ts : List Cond} {own C : String} {b : Addr} {As rest : List Value} {g : JFrame}
theorem vx_runVX {hh : List (Nat × Nat × Nat × Nat)} (S : CallFix p m c cc nL s args Ts own) (hM : vx_Met l y ws rm Pc Qc XC mc ms free) (cw : vx_CVW R s args own C index y bytes maxL ret hh ws rm mc ms n) (hp : PreV s H C b Pc As)
    (hg : g.method = m) (hn : As.length = n) (hsize : g.locals.size = nL) (hstack : g.stack = As.reverse ++ .ref b :: rest) (hW : 2 * g.monitorRoom + (rest.map fun v => v.category).sum ≤ 8) (hdg : decode cc g.pc = .ok (.invokevirtual index, 3)) (hf : cells + mc ≤ R.cells ∧ slots + ms ≤ R.slots) :
    vx_Run p l e R s m args below meth c H locs cells slots mc ms g rest (Qc (Value.ref b :: As).toArray) XC free := by
  obtain ⟨⟨hrc, hrs, hfr, hlo, hws, hcw⟩, hcode, hini, hy, hlen, hl, hin, hse⟩ := cw
  have hK : vx_Back l R p e below s args y 3 8 (PreOf R mc ms Pc) (PostOf Qc mc ms free) (vx_Post XC mc ms free) := vx_backW (hh := hh) (bytes := bytes) (maxL := maxL) (ret := ret) hM hp.1 hrc hrs hfr hlo hws hcw (fun a' U hW => word_at hW (Or.inl (by first | rfl | simp [Cond.onTables, Cond.keeps, Cond.steady])) hini)
  obtain ⟨hx, hb, hml, ho, -⟩ := S
  obtain ⟨-, ⟨cellB, hcB, hoB, hclB⟩, hPc⟩ := hp
  intro T hT X
  rcases vx_callVX X hx (C := C) (hh := hh) (bytes := bytes) (maxL := maxL) (ret := ret) ho hl hin hse hcode hy hK (by rw [hT]; exact hcB) hoB hclB hg (hsize.trans hml.symm) (argsL := As) (rest := rest) (fun sig h => hn.trans (hlen sig h)) hstack hW (by rw [hb]; exact hdg)
    (fun vm₁ hW₁ => ⟨hf.1, hf.2, hPc (T.setVm vm₁) hT hW₁⟩) with ⟨v, vm₁, ⟨U', l2, c2, s2⟩, hW₁, X', ⟨g', mk, t, L, e1, e2, hq, h1, hL, h2, h3⟩, st⟩ | ⟨q, vm₁, ⟨U', l2, c2, s2⟩, hW₁, X', ⟨g', mk, t, L, E, ce, e1, e2, hq, hce, hcv, hcl, h1, hL, h2, h3⟩, st⟩
  · dsimp only [Pt.U, Pt.locs, Pt.cells, Pt.slots] at X' e1 e2 h1 h2 h3 st
    subst h1; subst h2; subst h3
    exact Or.inl ⟨v, (T.setVm vm₁).calling g' mk (Value.ref b :: As).toArray, t, U', L, hT, X', hL, e1, e2, hq, st⟩
  · dsimp only [Pt.U, Pt.locs, Pt.cells, Pt.slots] at X' e1 e2 h1 h2 h3 st hcl
    subst h1; subst h2; subst h3
    exact Or.inr ⟨q, (T.setVm vm₁).calling g' mk (Value.ref b :: As).toArray, t, U', L, E, ce, hT, X', hL, e1, e2, hq, hce, hcv, vx_cls hW₁ hcl, st⟩
theorem vx_runSX {hh : List (Nat × Nat × Nat × Nat)} (S : CallFix p m c cc nL s args Ts own) (hM : vx_Met l y ws rm Pc Qc XC mc ms free) (cw : vx_CSW R s args own index y bytes maxL ret hh ws rm mc ms n) (hp : PreS s H Pc As)
    (hg : g.method = m) (hn : As.length = n) (hsize : g.locals.size = nL) (hstack : g.stack = As.reverse ++ rest) (hW : 2 * g.monitorRoom + (rest.map fun v => v.category).sum ≤ 8) (hdg : decode cc g.pc = .ok (.invokestatic index, 3)) (hf : cells + mc ≤ R.cells ∧ slots + ms ≤ R.slots) :
    vx_Run p l e R s m args below meth c H locs cells slots mc ms g rest (Qc As.toArray) XC free := by
  obtain ⟨⟨hrc, hrs, hfr, hlo, hws, hcw⟩, hcode, hini, hy, hlen, hl, hstt⟩ := cw
  have hK : vx_Back l R p e below s args y 3 8 (PreOf R mc ms Pc) (PostOf Qc mc ms free) (vx_Post XC mc ms free) := vx_backW (hh := hh) (bytes := bytes) (maxL := maxL) (ret := ret) hM hp.1 hrc hrs hfr hlo hws hcw (fun a' U hW => word_at hW (Or.inl (by first | rfl | simp [Cond.onTables, Cond.keeps, Cond.steady])) hini)
  obtain ⟨hx, hb, hml, ho, -⟩ := S
  intro T hT X
  rcases vx_callSX X hx (hh := hh) (bytes := bytes) (maxL := maxL) (ret := ret) ho hl hstt hini hcode hy hK hg (hsize.trans hml.symm) (argsL := As) (rest := rest) (fun sig h => hn.trans (hlen sig h)) hstack hW (by rw [hb]; exact hdg)
    (fun vm₁ hW₁ => ⟨hf.1, hf.2, hp.2 (T.setVm vm₁) hT hW₁⟩) with ⟨v, vm₁, ⟨U', l2, c2, s2⟩, hW₁, X', ⟨g', mk, t, L, e1, e2, hq, h1, hL, h2, h3⟩, st⟩ | ⟨q, vm₁, ⟨U', l2, c2, s2⟩, hW₁, X', ⟨g', mk, t, L, E, ce, e1, e2, hq, hce, hcv, hcl, h1, hL, h2, h3⟩, st⟩
  · dsimp only [Pt.U, Pt.locs, Pt.cells, Pt.slots] at X' e1 e2 h1 h2 h3 st
    subst h1; subst h2; subst h3
    exact Or.inl ⟨v, (T.setVm vm₁).calling g' mk As.toArray, t, U', L, hT, X', hL, e1, e2, hq, st⟩
  · dsimp only [Pt.U, Pt.locs, Pt.cells, Pt.slots] at X' e1 e2 h1 h2 h3 st hcl
    subst h1; subst h2; subst h3
    exact Or.inr ⟨q, (T.setVm vm₁).calling g' mk As.toArray, t, U', L, E, ce, hT, X', hL, e1, e2, hq, hce, hcv, vx_cls hW₁ hcl, st⟩
end
end VXH
theorem vx_ofWH {l : Launch} {y : MethodName} {ws ws' : List Cond} {rm : Room} {Pc : Array Value → State → Prop} {Qc : Array Value → State → Outcome → State → Prop} {XC : String → State → State → Prop} {mc ms : Nat} {free : Addr → Prop} {cc : ByteArray} {maxL : Nat} {ret : Option FieldType} {hh : List (Nat × Nat × Nat × Nat)}
    (hy : plainName y.cls = true) (hw : ws = Cond.codeWith y cc maxL ret hh :: ws')
    (body : ∀ p e s m args below meth c s₁, BodyLoose p l y (headSpec ws rm) cc maxL ret e s m args below meth c s₁ → c.maxLocals = maxL → Pc args s →
      W p l e (headSpec ws rm).room s m args below meth c s.heap [] 0 0 (vx_MQ below Qc XC args s mc ms free) (entryFrame m args maxL)) : vx_Met l y ws rm Pc Qc XC mc ms free := by
  refine MetFree.of_bodyS (code := cc) (maxLocals := maxL) (ret := ret) hy ?_ ?_
  · intro args s m h hn
    obtain ⟨m9, meth, c, hn9, h1, h2, h3, h4, -, h5, h6, -⟩ := Cond.codeWith_spec (atoms_spec (ws := ws) h _ (by rw [hw]; exact List.mem_cons_self))
    cases hn.symm.trans hn9
    exact ⟨meth, c, h1, h2, h3, h4, h5, h6⟩
  · intro p e s m args below meth c s₁ B hml hP _
    have hh0 : s₁.heap = s.heap := by rw [B.state]; rfl
    obtain ⟨t, a1, o, b1, b2, b3⟩ := body p e s m args below meth c s₁ B hml hP s₁ hh0 (Stand.of_body B)
    exact ⟨t, o, a1, b1, b2, b3⟩
/-! ===== END ===== -/
end
section
/-! BLOCKS: a world as a list of blocks; a block is a number of cells with an address and a content each -/
abbrev bw_B : Type := Nat × (Nat → Nat × va_E)
def bw_r {α : Type} (n : Nat) (f : Nat → α) : List α := (List.range n).map f
theorem bw_r_len {α : Type} {n : Nat} {f : Nat → α} : (bw_r n f).length = n := by simp [bw_r]
theorem bw_r_get {α : Type} {n : Nat} {f : Nat → α} {i : Nat} (h : i < n) : (bw_r n f)[i]? = some (f i) := by
  simp [bw_r, h]
theorem bw_r_set {α : Type} {n : Nat} {f : Nat → α} {i : Nat} {v : α} : (bw_r n f).set i v = bw_r n (va_up f i v) := by
  apply List.ext_getElem?
  intro k
  rw [List.getElem?_set]
  by_cases hk : k < n
  · rw [bw_r_get hk, bw_r_get hk, bw_r_len]
    by_cases h : i = k
    · subst h; simp [va_up, hk]
    · have h' : ¬ k = i := fun q => h q.symm
      simp [va_up, h, h']
  · have h1 : (bw_r n f)[k]? = none := List.getElem?_eq_none (by rw [bw_r_len]; omega)
    have h2 : (bw_r n (va_up f i v))[k]? = none := List.getElem?_eq_none (by rw [bw_r_len]; omega)
    rw [h1, h2, bw_r_len]
    by_cases h : i = k
    · subst h; simp [hk]
    · simp [h]
theorem bw_r_push {α : Type} {n : Nat} {f : Nat → α} {v : α} : bw_r n f ++ [v] = bw_r (n + 1) (va_up f n v) := by
  apply List.ext_getElem?
  intro k
  by_cases hk : k < n
  · rw [List.getElem?_append_left (by rw [bw_r_len]; exact hk), bw_r_get hk, bw_r_get (by omega)]
    have : ¬ k = n := by omega
    simp [va_up, this]
  · rw [List.getElem?_append_right (by rw [bw_r_len]; omega), bw_r_len]
    by_cases h : k = n
    · subst h; rw [bw_r_get (by omega)]; simp [va_up]
    · rw [List.getElem?_eq_none (l := bw_r (n + 1) (va_up f n v)) (by rw [bw_r_len]; omega), List.getElem?_eq_none (by simp; omega)]
def bw_l (bs : List bw_B) : va_W := bs.flatMap fun b => bw_r b.1 b.2
def bw_o : List bw_B → Nat → Nat
  | [], _ => 0
  | _ :: _, 0 => 0
  | b :: bs, j + 1 => b.1 + bw_o bs j
theorem bw_get {bs : List bw_B} {j n i : Nat} {f : Nat → Nat × va_E} (hj : bs[j]? = some (n, f)) (hi : i < n) (Y : va_W) : (bw_l bs ++ Y)[bw_o bs j + i]? = some (f i) := by
  induction bs generalizing j with
  | nil => simp at hj
  | cons b bs ih =>
    cases j with
    | zero =>
      simp at hj
      subst hj
      show (bw_l ((n, f) :: bs) ++ Y)[0 + i]? = some (f i)
      simp only [bw_l, List.flatMap_cons, List.append_assoc, Nat.zero_add]
      rw [List.getElem?_append_left (by rw [bw_r_len]; exact hi), bw_r_get hi]
    | succ j =>
      have hj' : bs[j]? = some (n, f) := by simpa using hj
      have := ih hj'
      show (bw_l (b :: bs) ++ Y)[b.1 + bw_o bs j + i]? = some (f i)
      simp only [bw_l, List.flatMap_cons, List.append_assoc] at this ⊢
      rw [List.getElem?_append_right (by rw [bw_r_len]; omega), bw_r_len, show b.1 + bw_o bs j + i - b.1 = bw_o bs j + i by omega]
      exact this
theorem bw_set {bs : List bw_B} {j n i : Nat} {f : Nat → Nat × va_E} (hj : bs[j]? = some (n, f)) (hi : i < n) (Y : va_W) (v : Nat × va_E) : (bw_l bs ++ Y).set (bw_o bs j + i) v = bw_l (bs.set j (n, va_up f i v)) ++ Y := by
  induction bs generalizing j with
  | nil => simp at hj
  | cons b bs ih =>
    cases j with
    | zero =>
      simp at hj
      subst hj
      show (bw_l ((n, f) :: bs) ++ Y).set (0 + i) v = bw_l ((n, va_up f i v) :: bs) ++ Y
      simp only [bw_l, List.flatMap_cons, List.append_assoc, Nat.zero_add]
      rw [List.set_append_left _ _ (by rw [bw_r_len]; exact hi), bw_r_set]
    | succ j =>
      have hj' : bs[j]? = some (n, f) := by simpa using hj
      have := ih hj'
      show (bw_l (b :: bs) ++ Y).set (b.1 + bw_o bs j + i) v = bw_l (b :: bs.set j (n, va_up f i v)) ++ Y
      simp only [bw_l, List.flatMap_cons, List.append_assoc] at this ⊢
      rw [List.set_append_right _ _ (by rw [bw_r_len]; omega), bw_r_len, show b.1 + bw_o bs j + i - b.1 = bw_o bs j + i by omega, this]
theorem bw_push {bs : List bw_B} {j n : Nat} {f : Nat → Nat × va_E} (hj : bs[j]? = some (n, f)) (v : Nat × va_E) : (bw_l bs ++ [v]).Perm (bw_l (bs.set j (n + 1, va_up f n v))) := by
  induction bs generalizing j with
  | nil => simp at hj
  | cons b bs ih =>
    cases j with
    | zero =>
      simp at hj
      subst hj
      show (bw_l ((n, f) :: bs) ++ [v]).Perm (bw_l ((n + 1, va_up f n v) :: bs))
      simp only [bw_l, List.flatMap_cons, List.append_assoc]
      rw [← bw_r_push, List.append_assoc]
      exact List.Perm.append_left _ List.perm_append_comm
    | succ j =>
      have hj' : bs[j]? = some (n, f) := by simpa using hj
      have := ih hj'
      show (bw_l (b :: bs) ++ [v]).Perm (bw_l (b :: bs.set j (n + 1, va_up f n v)))
      simp only [bw_l, List.flatMap_cons, List.append_assoc] at this ⊢
      exact List.Perm.append_left _ this
theorem bw_pushY {bs : List bw_B} {j n : Nat} {f : Nat → Nat × va_E} (hj : bs[j]? = some (n, f)) (Y : va_W) (v : Nat × va_E) : (bw_l bs ++ Y ++ [v]).Perm (bw_l (bs.set j (n + 1, va_up f n v)) ++ Y) := by
  have h1 : (bw_l bs ++ Y ++ [v]).Perm (bw_l bs ++ [v] ++ Y) := by
    rw [List.append_assoc, List.append_assoc]
    exact List.Perm.append_left _ List.perm_append_comm
  exact h1.trans (List.Perm.append_right _ (bw_push hj v))
theorem bw_P {D : va_G} {cl : List vw_C} {ws ws' : va_W} {H : Heap} (hp : ws.Perm ws') (h : va_P D cl ws H) : va_P D cl ws' H := by
  intro k q hk
  obtain ⟨i, hi⟩ := List.getElem?_of_mem (hp.mem_iff.mpr (List.mem_of_getElem? hk))
  exact h i q hi
theorem bw_D_iff {A : Nat → Prop} {ws : va_W} : va_D A ws ↔ (ws.map (·.1)).Nodup ∧ ∀ q ∈ ws, A q.1 := by
  constructor
  · intro h
    refine ⟨?_, fun q hq => ?_⟩
    · rw [List.Nodup, List.pairwise_iff_getElem]
      intro i j hi hj hij he
      simp only [List.length_map] at hi hj
      simp only [List.getElem_map] at he
      have := h.1 i j ws[i] ws[j] (List.getElem?_eq_getElem hi) (List.getElem?_eq_getElem hj) he
      omega
    · obtain ⟨i, hi⟩ := List.getElem?_of_mem hq
      exact h.2 i q hi
  · intro ⟨h1, h2⟩
    refine ⟨fun i j p q hi hj he => ?_, fun k q hk => h2 q (List.mem_of_getElem? hk)⟩
    have li := (List.getElem?_eq_some_iff.mp hi)
    have lj := (List.getElem?_eq_some_iff.mp hj)
    obtain ⟨li, ei⟩ := li
    obtain ⟨lj, ej⟩ := lj
    rw [List.Nodup, List.pairwise_iff_getElem] at h1
    rcases Nat.lt_trichotomy i j with h | h | h
    · refine absurd ?_ (h1 i j (by simpa using li) (by simpa using lj) h)
      rw [List.getElem_map, List.getElem_map, ei, ej]
      exact he
    · exact h
    · refine absurd ?_ (h1 j i (by simpa using lj) (by simpa using li) h)
      rw [List.getElem_map, List.getElem_map, ei, ej]
      exact he.symm
theorem bw_D {A : Nat → Prop} {ws ws' : va_W} (hp : ws.Perm ws') (h : va_D A ws) : va_D A ws' := by
  rw [bw_D_iff] at h ⊢
  exact ⟨(hp.map _).nodup_iff.mp h.1, fun q hq => h.2 q (hp.mem_iff.mpr hq)⟩
end
section
/-! NAMES: classes, fields, methods, decode rows, words by their places; by the program wip/gen/names.py -/
def R_P : String := "CountRounds$Place"
def F_P : u_T := fun k => match k with
  | 0 => ("CountRounds$Place", "kind", "I", true)
  | 1 => ("CountRounds$Place", "pieces", "[I", true)
  | 2 => ("CountRounds$Place", "countedOn", "I", false)
  | _ => ("CountRounds$Place", "taken", "Z", false)
def ty_P : Nat → FieldType := fun k => match k with
  | 0 => .int
  | 1 => .array .int
  | 2 => .int
  | _ => .boolean
theorem n_P : ∀ a, a < 4 → ∀ b, b < 4 → a ≠ b → (F_P a).2.1 ≠ (F_P b).2.1 := by decide +kernel
theorem ty_P_ok : ∀ k, k < 4 → parseFieldDescriptor (F_P k).2.2.1 = some (ty_P k) := by decide +kernel
def R_S : String := "CountRounds$Sheet"
def F_S : u_T := fun k => match k with
  | 0 => ("CountRounds$Sheet", "members", "[I", true)
  | 1 => ("CountRounds$Sheet", "noted", "[I", true)
  | 2 => ("CountRounds$Sheet", "pieces", "[I", true)
  | 3 => ("CountRounds$Sheet", "firstFinders", "[I", true)
  | 4 => ("CountRounds$Sheet", "secondFinders", "[I", true)
  | 5 => ("CountRounds$Sheet", "askers", "[I", true)
  | 6 => ("CountRounds$Sheet", "corrected", "[Z", true)
  | 7 => ("CountRounds$Sheet", "differing", "[I", true)
  | 8 => ("CountRounds$Sheet", "differences", "I", false)
  | 9 => ("CountRounds$Sheet", "findings", "I", false)
  | _ => ("CountRounds$Sheet", "state", "I", false)
def ty_S : Nat → FieldType := fun k => match k with
  | 0 => .array .int
  | 1 => .array .int
  | 2 => .array .int
  | 3 => .array .int
  | 4 => .array .int
  | 5 => .array .int
  | 6 => .array .boolean
  | 7 => .array .int
  | 8 => .int
  | 9 => .int
  | _ => .int
theorem n_S : ∀ a, a < 11 → ∀ b, b < 11 → a ≠ b → (F_S a).2.1 ≠ (F_S b).2.1 := by decide +kernel
theorem ty_S_ok : ∀ k, k < 11 → parseFieldDescriptor (F_S k).2.2.1 = some (ty_S k) := by decide +kernel
def R_T : String := "CountRounds$Transfer"
def F_T : u_T := fun k => match k with
  | 0 => ("CountRounds$Transfer", "from", "I", true)
  | 1 => ("CountRounds$Transfer", "to", "I", true)
  | 2 => ("CountRounds$Transfer", "good", "I", true)
  | 3 => ("CountRounds$Transfer", "pieces", "I", true)
  | _ => ("CountRounds$Transfer", "open", "Z", false)
def ty_T : Nat → FieldType := fun k => match k with
  | 0 => .int
  | 1 => .int
  | 2 => .int
  | 3 => .int
  | _ => .boolean
theorem n_T : ∀ a, a < 5 → ∀ b, b < 5 → a ≠ b → (F_T a).2.1 ≠ (F_T b).2.1 := by decide +kernel
theorem ty_T_ok : ∀ k, k < 5 → parseFieldDescriptor (F_T k).2.2.1 = some (ty_T k) := by decide +kernel
def R_C : String := "CountRounds"
def F_C : u_T := fun k => match k with
  | 0 => ("CountRounds", "places", "[LCountRounds$Place;", true)
  | 1 => ("CountRounds", "transfers", "[LCountRounds$Transfer;", true)
  | 2 => ("CountRounds", "sheets", "[LCountRounds$Sheet;", true)
  | 3 => ("CountRounds", "cycles", "[I", true)
  | 4 => ("CountRounds", "tolerances", "[I", true)
  | 5 => ("CountRounds", "rights", "[I", true)
  | 6 => ("CountRounds", "candidates", "[I", true)
  | 7 => ("CountRounds", "placesMade", "I", false)
  | 8 => ("CountRounds", "transfersMade", "I", false)
  | 9 => ("CountRounds", "sheetsMade", "I", false)
  | 10 => ("CountRounds", "today", "I", false)
  | 11 => ("CountRounds", "waits", "Z", false)
  | 12 => ("CountRounds", "timesCounted", "I", false)
  | _ => ("CountRounds", "timesRight", "I", false)
def ty_C : Nat → FieldType := fun k => match k with
  | 0 => .array (.object "CountRounds$Place")
  | 1 => .array (.object "CountRounds$Transfer")
  | 2 => .array (.object "CountRounds$Sheet")
  | 3 => .array .int
  | 4 => .array .int
  | 5 => .array .int
  | 6 => .array .int
  | 7 => .int
  | 8 => .int
  | 9 => .int
  | 10 => .int
  | 11 => .boolean
  | 12 => .int
  | _ => .int
theorem n_C : ∀ a, a < 14 → ∀ b, b < 14 → a ≠ b → (F_C a).2.1 ≠ (F_C b).2.1 := by decide +kernel
theorem ty_C_ok : ∀ k, k < 14 → parseFieldDescriptor (F_C k).2.2.1 = some (ty_C k) := by decide +kernel
def R_M : String := "CountRoundsModel"
def F_M : u_T := fun k => match k with
  | 0 => ("CountRoundsModel", "code", "I", false)
  | 1 => ("CountRoundsModel", "today", "I", false)
  | 2 => ("CountRoundsModel", "wait", "I", false)
  | 3 => ("CountRoundsModel", "places", "I", false)
  | 4 => ("CountRoundsModel", "classOf", "[I", true)
  | 5 => ("CountRoundsModel", "lastDay", "[I", true)
  | 6 => ("CountRoundsModel", "booked", "[I", true)
  | 7 => ("CountRoundsModel", "cycles", "[I", true)
  | 8 => ("CountRoundsModel", "tolerances", "[I", true)
  | 9 => ("CountRoundsModel", "rights", "[I", true)
  | 10 => ("CountRoundsModel", "moves", "I", false)
  | 11 => ("CountRoundsModel", "moveFrom", "[I", true)
  | 12 => ("CountRoundsModel", "moveTo", "[I", true)
  | 13 => ("CountRoundsModel", "moveGood", "[I", true)
  | 14 => ("CountRoundsModel", "moveMany", "[I", true)
  | 15 => ("CountRoundsModel", "ended", "[Z", true)
  | 16 => ("CountRoundsModel", "counts", "I", false)
  | 17 => ("CountRoundsModel", "state", "[I", true)
  | 18 => ("CountRoundsModel", "size", "[I", true)
  | 19 => ("CountRoundsModel", "tellings", "[I", true)
  | 20 => ("CountRoundsModel", "placeAt", "[I", true)
  | 21 => ("CountRoundsModel", "noted", "[I", true)
  | 22 => ("CountRoundsModel", "first", "[I", true)
  | 23 => ("CountRoundsModel", "second", "[I", true)
  | 24 => ("CountRoundsModel", "tellers", "[I", true)
  | 25 => ("CountRoundsModel", "marks", "[I", true)
  | 26 => ("CountRoundsModel", "counted", "I", false)
  | 27 => ("CountRoundsModel", "right", "I", false)
  | _ => ("CountRoundsModel", "left", "[Z", true)
def ty_M : Nat → FieldType := fun k => match k with
  | 0 => .int
  | 1 => .int
  | 2 => .int
  | 3 => .int
  | 4 => .array .int
  | 5 => .array .int
  | 6 => .array .int
  | 7 => .array .int
  | 8 => .array .int
  | 9 => .array .int
  | 10 => .int
  | 11 => .array .int
  | 12 => .array .int
  | 13 => .array .int
  | 14 => .array .int
  | 15 => .array .boolean
  | 16 => .int
  | 17 => .array .int
  | 18 => .array .int
  | 19 => .array .int
  | 20 => .array .int
  | 21 => .array .int
  | 22 => .array .int
  | 23 => .array .int
  | 24 => .array .int
  | 25 => .array .int
  | 26 => .int
  | 27 => .int
  | _ => .array .boolean
theorem n_M : ∀ a, a < 29 → ∀ b, b < 29 → a ≠ b → (F_M a).2.1 ≠ (F_M b).2.1 := by decide +kernel
theorem ty_M_ok : ∀ k, k < 29 → parseFieldDescriptor (F_M k).2.2.1 = some (ty_M k) := by decide +kernel
abbrev classes : List vw_C := [(R_P, F_P, 4), (R_S, F_S, 11), (R_T, F_T, 5), (R_C, F_C, 14), (R_M, F_M, 29)]
def gw : List Cond := lw_tbl.filter goodWord
theorem gw_t {w : Cond} (k : Nat) (h : tables_1[k]? = some w) (hg : goodWord w = true) : w ∈ gw := List.mem_filter.mpr ⟨List.mem_append_right _ (List.mem_of_getElem? h), hg⟩
theorem gw_s {q : MethodName × Nat} (k : Nat) (h : lw_privs[k]? = some q) (hg : goodWord (.selects q.1.cls q.1 q.1) = true) : Cond.selects q.1.cls q.1 q.1 ∈ gw := List.mem_filter.mpr ⟨List.mem_append_left _ (List.mem_map.mpr ⟨q, List.mem_of_getElem? h, rfl⟩), hg⟩
abbrev b_C_init : ByteArray := prog_1_method_1_code
def y_C_init : MethodName := ⟨"CountRounds", "<init>", "()V"⟩
abbrev b_C_place : ByteArray := prog_1_method_2_code
def y_C_place : MethodName := ⟨"CountRounds", "place", "(I)I"⟩
abbrev b_C_stock : ByteArray := prog_1_method_3_code
def y_C_stock : MethodName := ⟨"CountRounds", "stock", "(III)V"⟩
abbrev b_C_cycle : ByteArray := prog_1_method_4_code
def y_C_cycle : MethodName := ⟨"CountRounds", "cycle", "(III)V"⟩
abbrev b_C_right : ByteArray := prog_1_method_5_code
def y_C_right : MethodName := ⟨"CountRounds", "right", "(II)V"⟩
abbrev b_C_setting : ByteArray := prog_1_method_6_code
def y_C_setting : MethodName := ⟨"CountRounds", "setting", "(I)V"⟩
abbrev b_C_day : ByteArray := prog_1_method_7_code
def y_C_day : MethodName := ⟨"CountRounds", "day", "(I)V"⟩
abbrev b_C_move : ByteArray := prog_1_method_8_code
def y_C_move : MethodName := ⟨"CountRounds", "move", "(IIII)I"⟩
abbrev b_C_end : ByteArray := prog_1_method_9_code
def y_C_end : MethodName := ⟨"CountRounds", "end", "(I)V"⟩
abbrev b_C_moves : ByteArray := prog_1_method_10_code
def y_C_moves : MethodName := ⟨"CountRounds", "moves", "(I)I"⟩
abbrev b_C_round : ByteArray := prog_1_method_11_code
def y_C_round : MethodName := ⟨"CountRounds", "round", "(IIJ)I"⟩
abbrev b_C_freeze : ByteArray := prog_1_method_12_code
def y_C_freeze : MethodName := ⟨"CountRounds", "freeze", "(I)I"⟩
abbrev b_C_found : ByteArray := prog_1_method_13_code
def y_C_found : MethodName := ⟨"CountRounds", "found", "(IIIII)I"⟩
abbrev b_C_second : ByteArray := prog_1_method_14_code
def y_C_second : MethodName := ⟨"CountRounds", "second", "(III)Z"⟩
abbrev b_C_close : ByteArray := prog_1_method_15_code
def y_C_close : MethodName := ⟨"CountRounds", "close", "(I)I"⟩
abbrev b_C_differ : ByteArray := prog_1_method_16_code
def y_C_differ : MethodName := ⟨"CountRounds", "differ", "(III)I"⟩
abbrev b_C_correct : ByteArray := prog_1_method_17_code
def y_C_correct : MethodName := ⟨"CountRounds", "correct", "(III)Z"⟩
abbrev b_C_share : ByteArray := prog_1_method_18_code
def y_C_share : MethodName := ⟨"CountRounds", "share", "(I)I"⟩
abbrev b_C_last : ByteArray := prog_1_method_19_code
def y_C_last : MethodName := ⟨"CountRounds", "last", "(I)I"⟩
abbrev b_C_due : ByteArray := prog_1_method_20_code
def y_C_due : MethodName := ⟨"CountRounds", "due", "(I)I"⟩
abbrev b_C_booked : ByteArray := prog_1_method_21_code
def y_C_booked : MethodName := ⟨"CountRounds", "booked", "(II)I"⟩
abbrev b_C_told : ByteArray := prog_1_method_22_code
def y_C_told : MethodName := ⟨"CountRounds", "told", "(II)I"⟩
abbrev b_C_count : ByteArray := prog_1_method_23_code
def y_C_count : MethodName := ⟨"CountRounds", "count", "(I)I"⟩
abbrev b_C_isWithin : ByteArray := prog_1_method_24_code
def y_C_isWithin : MethodName := ⟨"CountRounds", "isWithin", "(III)Z"⟩
abbrev b_C_isKind : ByteArray := prog_1_method_25_code
def y_C_isKind : MethodName := ⟨"CountRounds", "isKind", "(I)Z"⟩
abbrev b_C_isGood : ByteArray := prog_1_method_26_code
def y_C_isGood : MethodName := ⟨"CountRounds", "isGood", "(I)Z"⟩
abbrev b_C_isPerson : ByteArray := prog_1_method_27_code
def y_C_isPerson : MethodName := ⟨"CountRounds", "isPerson", "(I)Z"⟩
abbrev b_C_isPieces : ByteArray := prog_1_method_28_code
def y_C_isPieces : MethodName := ⟨"CountRounds", "isPieces", "(I)Z"⟩
abbrev b_C_isDay : ByteArray := prog_1_method_29_code
def y_C_isDay : MethodName := ⟨"CountRounds", "isDay", "(I)Z"⟩
abbrev b_C_placeNumbered : ByteArray := prog_1_method_30_code
def y_C_placeNumbered : MethodName := ⟨"CountRounds", "placeNumbered", "(I)LCountRounds$Place;"⟩
abbrev b_C_transferNumbered : ByteArray := prog_1_method_31_code
def y_C_transferNumbered : MethodName := ⟨"CountRounds", "transferNumbered", "(I)LCountRounds$Transfer;"⟩
abbrev b_C_sheetNumbered : ByteArray := prog_1_method_32_code
def y_C_sheetNumbered : MethodName := ⟨"CountRounds", "sheetNumbered", "(I)LCountRounds$Sheet;"⟩
abbrev b_C_openMoves : ByteArray := prog_1_method_33_code
def y_C_openMoves : MethodName := ⟨"CountRounds", "openMoves", "()I"⟩
abbrev b_C_openMovesAt : ByteArray := prog_1_method_34_code
def y_C_openMovesAt : MethodName := ⟨"CountRounds", "openMovesAt", "(I)I"⟩
abbrev b_C_hasOpenMoves : ByteArray := prog_1_method_35_code
def y_C_hasOpenMoves : MethodName := ⟨"CountRounds", "hasOpenMoves", "(LCountRounds$Sheet;)Z"⟩
abbrev b_C_gatherCandidates : ByteArray := prog_1_method_36_code
def y_C_gatherCandidates : MethodName := ⟨"CountRounds", "gatherCandidates", "(I)I"⟩
abbrev b_C_chooseCandidates : ByteArray := prog_1_method_37_code
def y_C_chooseCandidates : MethodName := ⟨"CountRounds", "chooseCandidates", "(IIJ)[I"⟩
abbrev b_C_longestUncounted : ByteArray := prog_1_method_38_code
def y_C_longestUncounted : MethodName := ⟨"CountRounds", "longestUncounted", "(I)I"⟩
abbrev b_C_noteBooked : ByteArray := prog_1_method_39_code
def y_C_noteBooked : MethodName := ⟨"CountRounds", "noteBooked", "(LCountRounds$Sheet;)V"⟩
abbrev b_C_countPlace : ByteArray := prog_1_method_40_code
def y_C_countPlace : MethodName := ⟨"CountRounds", "countPlace", "(LCountRounds$Sheet;ILCountRounds$Place;)V"⟩
abbrev b_C_isTolerated : ByteArray := prog_1_method_41_code
def y_C_isTolerated : MethodName := ⟨"CountRounds", "isTolerated", "(ILCountRounds$Place;)Z"⟩
abbrev b_C_mayCorrect : ByteArray := prog_1_method_42_code
def y_C_mayCorrect : MethodName := ⟨"CountRounds", "mayCorrect", "(LCountRounds$Sheet;II)Z"⟩
abbrev b_C_commonDivisor : ByteArray := prog_1_method_43_code
def y_C_commonDivisor : MethodName := ⟨"CountRounds", "commonDivisor", "(II)I"⟩
abbrev b_M_init : ByteArray := prog_6_method_1_code
def y_M_init : MethodName := ⟨"CountRoundsModel", "<init>", "()V"⟩
abbrev b_M_thrown : ByteArray := prog_6_method_2_code
def y_M_thrown : MethodName := ⟨"CountRoundsModel", "thrown", "()I"⟩
abbrev b_M_in : ByteArray := prog_6_method_3_code
def y_M_in : MethodName := ⟨"CountRoundsModel", "in", "(III)Z"⟩
abbrev b_M_isPlace : ByteArray := prog_6_method_4_code
def y_M_isPlace : MethodName := ⟨"CountRoundsModel", "isPlace", "(I)Z"⟩
abbrev b_M_isGood : ByteArray := prog_6_method_5_code
def y_M_isGood : MethodName := ⟨"CountRoundsModel", "isGood", "(I)Z"⟩
abbrev b_M_isPerson : ByteArray := prog_6_method_6_code
def y_M_isPerson : MethodName := ⟨"CountRoundsModel", "isPerson", "(I)Z"⟩
abbrev b_M_isCount : ByteArray := prog_6_method_7_code
def y_M_isCount : MethodName := ⟨"CountRoundsModel", "isCount", "(I)Z"⟩
abbrev b_M_place : ByteArray := prog_6_method_8_code
def y_M_place : MethodName := ⟨"CountRoundsModel", "place", "(I)I"⟩
abbrev b_M_stock : ByteArray := prog_6_method_9_code
def y_M_stock : MethodName := ⟨"CountRoundsModel", "stock", "(III)V"⟩
abbrev b_M_cycle : ByteArray := prog_6_method_10_code
def y_M_cycle : MethodName := ⟨"CountRoundsModel", "cycle", "(III)V"⟩
abbrev b_M_right : ByteArray := prog_6_method_11_code
def y_M_right : MethodName := ⟨"CountRoundsModel", "right", "(II)V"⟩
abbrev b_M_setting : ByteArray := prog_6_method_12_code
def y_M_setting : MethodName := ⟨"CountRoundsModel", "setting", "(I)V"⟩
abbrev b_M_day : ByteArray := prog_6_method_13_code
def y_M_day : MethodName := ⟨"CountRoundsModel", "day", "(I)V"⟩
abbrev b_M_move : ByteArray := prog_6_method_14_code
def y_M_move : MethodName := ⟨"CountRoundsModel", "move", "(IIII)I"⟩
abbrev b_M_end : ByteArray := prog_6_method_15_code
def y_M_end : MethodName := ⟨"CountRoundsModel", "end", "(I)V"⟩
abbrev b_M_openAt : ByteArray := prog_6_method_16_code
def y_M_openAt : MethodName := ⟨"CountRoundsModel", "openAt", "(I)I"⟩
abbrev b_M_moves : ByteArray := prog_6_method_17_code
def y_M_moves : MethodName := ⟨"CountRoundsModel", "moves", "(I)I"⟩
abbrev b_M_isBusy : ByteArray := prog_6_method_18_code
def y_M_isBusy : MethodName := ⟨"CountRoundsModel", "isBusy", "(I)Z"⟩
abbrev b_M_byRank : ByteArray := prog_6_method_19_code
def y_M_byRank : MethodName := ⟨"CountRoundsModel", "byRank", "()I"⟩
abbrev b_M_byNumber : ByteArray := prog_6_method_20_code
def y_M_byNumber : MethodName := ⟨"CountRoundsModel", "byNumber", "(I)I"⟩
abbrev b_M_round : ByteArray := prog_6_method_21_code
def y_M_round : MethodName := ⟨"CountRoundsModel", "round", "(IIJ)I"⟩
abbrev b_M_coming : ByteArray := prog_6_method_22_code
def y_M_coming : MethodName := ⟨"CountRoundsModel", "coming", "(II)I"⟩
abbrev b_M_freeze : ByteArray := prog_6_method_23_code
def y_M_freeze : MethodName := ⟨"CountRoundsModel", "freeze", "(I)I"⟩
abbrev b_M_slot : ByteArray := prog_6_method_24_code
def y_M_slot : MethodName := ⟨"CountRoundsModel", "slot", "(II)I"⟩
abbrev b_M_found : ByteArray := prog_6_method_25_code
def y_M_found : MethodName := ⟨"CountRoundsModel", "found", "(IIIII)I"⟩
abbrev b_M_firstBy : ByteArray := prog_6_method_26_code
def y_M_firstBy : MethodName := ⟨"CountRoundsModel", "firstBy", "(I)I"⟩
abbrev b_M_secondBy : ByteArray := prog_6_method_27_code
def y_M_secondBy : MethodName := ⟨"CountRoundsModel", "secondBy", "(I)I"⟩
abbrev b_M_far : ByteArray := prog_6_method_28_code
def y_M_far : MethodName := ⟨"CountRoundsModel", "far", "(II)I"⟩
abbrev b_M_second : ByteArray := prog_6_method_29_code
def y_M_second : MethodName := ⟨"CountRoundsModel", "second", "(III)Z"⟩
abbrev b_M_close : ByteArray := prog_6_method_30_code
def y_M_close : MethodName := ⟨"CountRoundsModel", "close", "(I)I"⟩
abbrev b_M_counts : ByteArray := prog_6_method_31_code
def y_M_counts : MethodName := ⟨"CountRoundsModel", "counts", "(I)I"⟩
abbrev b_M_isTold : ByteArray := prog_6_method_32_code
def y_M_isTold : MethodName := ⟨"CountRoundsModel", "isTold", "(II)Z"⟩
abbrev b_M_closePlace : ByteArray := prog_6_method_33_code
def y_M_closePlace : MethodName := ⟨"CountRoundsModel", "closePlace", "(II)V"⟩
abbrev b_M_difference : ByteArray := prog_6_method_34_code
def y_M_difference : MethodName := ⟨"CountRoundsModel", "difference", "(II)I"⟩
abbrev b_M_bookedAt : ByteArray := prog_6_method_35_code
def y_M_bookedAt : MethodName := ⟨"CountRoundsModel", "bookedAt", "(I)I"⟩
abbrev b_M_differ : ByteArray := prog_6_method_36_code
def y_M_differ : MethodName := ⟨"CountRoundsModel", "differ", "(III)I"⟩
abbrev b_M_correct : ByteArray := prog_6_method_37_code
def y_M_correct : MethodName := ⟨"CountRoundsModel", "correct", "(III)Z"⟩
abbrev b_M_divisor : ByteArray := prog_6_method_38_code
def y_M_divisor : MethodName := ⟨"CountRoundsModel", "divisor", "(II)I"⟩
abbrev b_M_share : ByteArray := prog_6_method_39_code
def y_M_share : MethodName := ⟨"CountRoundsModel", "share", "(I)I"⟩
abbrev b_M_last : ByteArray := prog_6_method_40_code
def y_M_last : MethodName := ⟨"CountRoundsModel", "last", "(I)I"⟩
abbrev b_M_due : ByteArray := prog_6_method_41_code
def y_M_due : MethodName := ⟨"CountRoundsModel", "due", "(I)I"⟩
abbrev b_M_booked : ByteArray := prog_6_method_42_code
def y_M_booked : MethodName := ⟨"CountRoundsModel", "booked", "(II)I"⟩
abbrev b_M_told : ByteArray := prog_6_method_43_code
def y_M_told : MethodName := ⟨"CountRoundsModel", "told", "(II)I"⟩
abbrev b_M_count : ByteArray := prog_6_method_44_code
def y_M_count : MethodName := ⟨"CountRoundsModel", "count", "(I)I"⟩
abbrev b_P_init : ByteArray := prog_2_method_1_code
def y_P_init : MethodName := ⟨"CountRounds$Place", "<init>", "(I)V"⟩
abbrev b_S_init : ByteArray := prog_3_method_1_code
def y_S_init : MethodName := ⟨"CountRounds$Sheet", "<init>", "([I)V"⟩
abbrev b_S_positionOf : ByteArray := prog_3_method_2_code
def y_S_positionOf : MethodName := ⟨"CountRounds$Sheet", "positionOf", "(I)I"⟩
abbrev b_S_tell : ByteArray := prog_3_method_3_code
def y_S_tell : MethodName := ⟨"CountRounds$Sheet", "tell", "(III)I"⟩
abbrev b_S_isToldOnce : ByteArray := prog_3_method_4_code
def y_S_isToldOnce : MethodName := ⟨"CountRounds$Sheet", "isToldOnce", "(I)Z"⟩
abbrev b_S_isPlaceTold : ByteArray := prog_3_method_5_code
def y_S_isPlaceTold : MethodName := ⟨"CountRounds$Sheet", "isPlaceTold", "(I)Z"⟩
abbrev b_S_finderOf : ByteArray := prog_3_method_6_code
def y_S_finderOf : MethodName := ⟨"CountRounds$Sheet", "finderOf", "(I)I"⟩
abbrev b_S_differenceOf : ByteArray := prog_3_method_7_code
def y_S_differenceOf : MethodName := ⟨"CountRounds$Sheet", "differenceOf", "(I)I"⟩
abbrev b_S_addDifference : ByteArray := prog_3_method_8_code
def y_S_addDifference : MethodName := ⟨"CountRounds$Sheet", "addDifference", "(I)V"⟩
abbrev b_S_differingLine : ByteArray := prog_3_method_9_code
def y_S_differingLine : MethodName := ⟨"CountRounds$Sheet", "differingLine", "(I)I"⟩
abbrev b_T_init : ByteArray := prog_4_method_1_code
def y_T_init : MethodName := ⟨"CountRounds$Transfer", "<init>", "(IIII)V"⟩
abbrev b_L_place : ByteArray := method_3_code
def y_L_place : MethodName := ⟨"CountRoundsLaw", "place", "(LCountRounds;I[J)I"⟩
abbrev b_L_stock : ByteArray := method_4_code
def y_L_stock : MethodName := ⟨"CountRoundsLaw", "stock", "(LCountRounds;III)I"⟩
abbrev b_L_cycle : ByteArray := method_5_code
def y_L_cycle : MethodName := ⟨"CountRoundsLaw", "cycle", "(LCountRounds;III)I"⟩
abbrev b_L_right : ByteArray := method_6_code
def y_L_right : MethodName := ⟨"CountRoundsLaw", "right", "(LCountRounds;II)I"⟩
abbrev b_L_setting : ByteArray := method_7_code
def y_L_setting : MethodName := ⟨"CountRoundsLaw", "setting", "(LCountRounds;I)I"⟩
abbrev b_L_day : ByteArray := method_8_code
def y_L_day : MethodName := ⟨"CountRoundsLaw", "day", "(LCountRounds;I)I"⟩
abbrev b_L_move : ByteArray := method_9_code
def y_L_move : MethodName := ⟨"CountRoundsLaw", "move", "(LCountRounds;IIII[J)I"⟩
abbrev b_L_end : ByteArray := method_10_code
def y_L_end : MethodName := ⟨"CountRoundsLaw", "end", "(LCountRounds;I)I"⟩
abbrev b_L_moves : ByteArray := method_11_code
def y_L_moves : MethodName := ⟨"CountRoundsLaw", "moves", "(LCountRounds;I[J)I"⟩
abbrev b_L_round : ByteArray := method_12_code
def y_L_round : MethodName := ⟨"CountRoundsLaw", "round", "(LCountRounds;IIJ[J)I"⟩
abbrev b_L_freeze : ByteArray := method_13_code
def y_L_freeze : MethodName := ⟨"CountRoundsLaw", "freeze", "(LCountRounds;I[J)I"⟩
abbrev b_L_found : ByteArray := method_14_code
def y_L_found : MethodName := ⟨"CountRoundsLaw", "found", "(LCountRounds;IIIII[J)I"⟩
abbrev b_L_second : ByteArray := method_15_code
def y_L_second : MethodName := ⟨"CountRoundsLaw", "second", "(LCountRounds;III[J)I"⟩
abbrev b_L_close : ByteArray := method_16_code
def y_L_close : MethodName := ⟨"CountRoundsLaw", "close", "(LCountRounds;I[J)I"⟩
abbrev b_L_differ : ByteArray := method_17_code
def y_L_differ : MethodName := ⟨"CountRoundsLaw", "differ", "(LCountRounds;III[J)I"⟩
abbrev b_L_correct : ByteArray := method_18_code
def y_L_correct : MethodName := ⟨"CountRoundsLaw", "correct", "(LCountRounds;III[J)I"⟩
abbrev b_L_share : ByteArray := method_19_code
def y_L_share : MethodName := ⟨"CountRoundsLaw", "share", "(LCountRounds;I[J)I"⟩
abbrev b_L_last : ByteArray := method_20_code
def y_L_last : MethodName := ⟨"CountRoundsLaw", "last", "(LCountRounds;I[J)I"⟩
abbrev b_L_due : ByteArray := method_21_code
def y_L_due : MethodName := ⟨"CountRoundsLaw", "due", "(LCountRounds;I[J)I"⟩
abbrev b_L_booked : ByteArray := method_22_code
def y_L_booked : MethodName := ⟨"CountRoundsLaw", "booked", "(LCountRounds;II[J)I"⟩
abbrev b_L_told : ByteArray := method_23_code
def y_L_told : MethodName := ⟨"CountRoundsLaw", "told", "(LCountRounds;II[J)I"⟩
end
section
/-! WORDS of the tables by their places -/
theorem gw_1 {w : Cond} (k : Nat) (h : tables_1_1[k]? = some w) (hg : goodWord w = true) : w ∈ gw := List.mem_filter.mpr ⟨List.mem_append_right _ (List.mem_append_left _ (List.mem_of_getElem? h)), hg⟩
theorem gw_2 {w : Cond} (k : Nat) (h : tables_1_2[k]? = some w) (hg : goodWord w = true) : w ∈ gw := List.mem_filter.mpr ⟨List.mem_append_right _ (List.mem_append_right _ (List.mem_append_left _ (List.mem_of_getElem? h))), hg⟩
theorem gw_3 {w : Cond} (k : Nat) (h : tables_1_3[k]? = some w) (hg : goodWord w = true) : w ∈ gw := List.mem_filter.mpr ⟨List.mem_append_right _ (List.mem_append_right _ (List.mem_append_right _ (List.mem_append_left _ (List.mem_of_getElem? h)))), hg⟩
theorem gw_4 {w : Cond} (k : Nat) (h : tables_1_4[k]? = some w) (hg : goodWord w = true) : w ∈ gw := List.mem_filter.mpr ⟨List.mem_append_right _ (List.mem_append_right _ (List.mem_append_right _ (List.mem_append_right _ (List.mem_of_getElem? h)))), hg⟩
theorem wd_0 : (Cond.initialized "CountRoundsLaw") ∈ gw := gw_1 0 (by decide +kernel) rfl
theorem wd_1 : (Cond.initialized "CountRounds") ∈ gw := gw_1 1 (by decide +kernel) rfl
theorem wd_2 : (Cond.initialized "java/util/Arrays") ∈ gw := gw_1 2 (by decide +kernel) rfl
theorem wd_3 : (Cond.initialized "CountRoundsModel") ∈ gw := gw_1 3 (by decide +kernel) rfl
theorem wd_4 : (Cond.initialized "java/lang/Throwable") ∈ gw := gw_1 4 (by decide +kernel) rfl
theorem wd_5 : (Cond.initialized "java/lang/Exception") ∈ gw := gw_1 5 (by decide +kernel) rfl
theorem wd_6 : (Cond.initialized "java/lang/RuntimeException") ∈ gw := gw_1 6 (by decide +kernel) rfl
theorem wd_7 : (Cond.initialized "java/lang/IllegalArgumentException") ∈ gw := gw_1 7 (by decide +kernel) rfl
theorem wd_8 : (Cond.initialized "java/lang/UnsupportedOperationException") ∈ gw := gw_1 8 (by decide +kernel) rfl
theorem wd_9 : (Cond.initialized "CountRounds$Place") ∈ gw := gw_1 9 (by decide +kernel) rfl
theorem wd_10 : (Cond.initialized "java/util/NoSuchElementException") ∈ gw := gw_1 10 (by decide +kernel) rfl
theorem wd_11 : (Cond.initialized "java/lang/IllegalStateException") ∈ gw := gw_1 11 (by decide +kernel) rfl
theorem wd_12 : (Cond.initialized "CountRounds$Transfer") ∈ gw := gw_1 12 (by decide +kernel) rfl
theorem wd_13 : (Cond.initialized "java/lang/Math") ∈ gw := gw_1 13 (by decide +kernel) rfl
theorem wd_14 : (Cond.initialized "java/lang/System") ∈ gw := gw_1 14 (by decide +kernel) rfl
theorem wd_15 : (Cond.initialized "CountRounds$Sheet") ∈ gw := gw_1 15 (by decide +kernel) rfl
theorem wd_16 : (Cond.initialized "java/lang/ArithmeticException") ∈ gw := gw_1 16 (by decide +kernel) rfl
theorem wd_17 : (Cond.classLink "CountRoundsLaw" 8 "CountRounds") ∈ gw := gw_1 17 (by decide +kernel) rfl
theorem wd_18 : (Cond.instantiable "CountRounds" 14) ∈ gw := gw_1 18 (by decide +kernel) rfl
theorem wd_19 : (Cond.methodLink "CountRoundsLaw" 92 ({ cls := "CountRounds", name := "<init>", desc := "()V" } : MethodName)) ∈ gw := gw_1 19 (by decide +kernel) rfl
theorem wd_20 : (Cond.instanceMethod ({ cls := "CountRounds", name := "<init>", desc := "()V" } : MethodName)) ∈ gw := gw_1 20 (by decide +kernel) rfl
theorem wd_21 : (Cond.code ({ cls := "CountRounds", name := "<init>", desc := "()V" } : MethodName) prog_1_method_1_code 1 (Option.none : Option FieldType)) ∈ gw := gw_1 21 rfl rfl
theorem wd_22 : (Cond.methodLink "CountRounds" 1 ({ cls := "java/lang/Object", name := "<init>", desc := "()V" } : MethodName)) ∈ gw := gw_1 22 (by decide +kernel) rfl
theorem wd_23 : (Cond.instanceMethod ({ cls := "java/lang/Object", name := "<init>", desc := "()V" } : MethodName)) ∈ gw := gw_1 23 (by decide +kernel) rfl
theorem wd_24 : (Cond.code ({ cls := "java/lang/Object", name := "<init>", desc := "()V" } : MethodName) object_method_1_code 1 (Option.none : Option FieldType)) ∈ gw := gw_1 24 rfl rfl
theorem wd_25 : (Cond.classLink "CountRounds" 9 "CountRounds$Place") ∈ gw := gw_1 25 (by decide +kernel) rfl
theorem wd_27 : (Cond.classLink "CountRounds" 15 "CountRounds$Transfer") ∈ gw := gw_1 27 (by decide +kernel) rfl
theorem wd_29 : (Cond.classLink "CountRounds" 21 "CountRounds$Sheet") ∈ gw := gw_1 29 (by decide +kernel) rfl
theorem wd_31 : (Cond.methodLink "CountRounds" 44 ({ cls := "java/util/Arrays", name := "fill", desc := "([II)V" } : MethodName)) ∈ gw := gw_1 31 (by decide +kernel) rfl
theorem wd_32 : (Cond.static ({ cls := "java/util/Arrays", name := "fill", desc := "([II)V" } : MethodName)) ∈ gw := gw_1 32 (by decide +kernel) rfl
theorem wd_33 : (Cond.code ({ cls := "java/util/Arrays", name := "fill", desc := "([II)V" } : MethodName) prog_17_method_103_code 4 (Option.none : Option FieldType)) ∈ gw := gw_1 33 rfl rfl
theorem wd_34 : (Cond.fieldLink "CountRounds" 11 "CountRounds" "places" "[LCountRounds$Place;") ∈ gw := gw_1 34 (by decide +kernel) rfl
theorem wd_35 : (Cond.fieldLink "CountRounds" 17 "CountRounds" "transfers" "[LCountRounds$Transfer;") ∈ gw := gw_1 35 (by decide +kernel) rfl
theorem wd_36 : (Cond.fieldLink "CountRounds" 23 "CountRounds" "sheets" "[LCountRounds$Sheet;") ∈ gw := gw_1 36 (by decide +kernel) rfl
theorem wd_37 : (Cond.fieldLink "CountRounds" 27 "CountRounds" "cycles" "[I") ∈ gw := gw_1 37 (by decide +kernel) rfl
theorem wd_38 : (Cond.fieldLink "CountRounds" 31 "CountRounds" "tolerances" "[I") ∈ gw := gw_1 38 (by decide +kernel) rfl
theorem wd_39 : (Cond.fieldLink "CountRounds" 34 "CountRounds" "rights" "[I") ∈ gw := gw_1 39 (by decide +kernel) rfl
theorem wd_40 : (Cond.fieldLink "CountRounds" 37 "CountRounds" "candidates" "[I") ∈ gw := gw_1 40 (by decide +kernel) rfl
theorem wd_41 : (Cond.fieldLink "CountRounds" 61 "CountRounds" "placesMade" "I") ∈ gw := gw_1 41 (by decide +kernel) rfl
theorem wd_42 : (Cond.fieldLink "CountRounds" 119 "CountRounds" "transfersMade" "I") ∈ gw := gw_1 42 (by decide +kernel) rfl
theorem wd_43 : (Cond.fieldLink "CountRounds" 155 "CountRounds" "sheetsMade" "I") ∈ gw := gw_1 43 (by decide +kernel) rfl
theorem wd_44 : (Cond.fieldLink "CountRounds" 106 "CountRounds" "today" "I") ∈ gw := gw_1 44 (by decide +kernel) rfl
theorem wd_45 : (Cond.fieldLink "CountRounds" 40 "CountRounds" "waits" "Z") ∈ gw := gw_1 45 (by decide +kernel) rfl
theorem wd_46 : (Cond.fieldLink "CountRounds" 263 "CountRounds" "timesCounted" "I") ∈ gw := gw_1 46 (by decide +kernel) rfl
theorem wd_47 : (Cond.fieldLink "CountRounds" 266 "CountRounds" "timesRight" "I") ∈ gw := gw_1 47 (by decide +kernel) rfl
theorem wd_48 : (Cond.laysFinal "CountRounds" "CountRounds" "places" "[LCountRounds$Place;") ∈ gw := gw_1 48 (by decide +kernel) rfl
theorem wd_50 : (Cond.laysFinal "CountRounds" "CountRounds" "transfers" "[LCountRounds$Transfer;") ∈ gw := gw_1 50 (by decide +kernel) rfl
theorem wd_52 : (Cond.laysFinal "CountRounds" "CountRounds" "sheets" "[LCountRounds$Sheet;") ∈ gw := gw_1 52 (by decide +kernel) rfl
theorem wd_54 : (Cond.laysFinal "CountRounds" "CountRounds" "cycles" "[I") ∈ gw := gw_1 54 (by decide +kernel) rfl
theorem wd_56 : (Cond.laysFinal "CountRounds" "CountRounds" "tolerances" "[I") ∈ gw := gw_1 56 (by decide +kernel) rfl
theorem wd_58 : (Cond.laysFinal "CountRounds" "CountRounds" "rights" "[I") ∈ gw := gw_1 58 (by decide +kernel) rfl
theorem wd_60 : (Cond.laysFinal "CountRounds" "CountRounds" "candidates" "[I") ∈ gw := gw_1 60 (by decide +kernel) rfl
theorem wd_62 : (Cond.lays "CountRounds" "CountRounds" "placesMade" "I") ∈ gw := gw_1 62 (by decide +kernel) rfl
theorem wd_64 : (Cond.lays "CountRounds" "CountRounds" "transfersMade" "I") ∈ gw := gw_1 64 (by decide +kernel) rfl
theorem wd_66 : (Cond.lays "CountRounds" "CountRounds" "sheetsMade" "I") ∈ gw := gw_1 66 (by decide +kernel) rfl
theorem wd_68 : (Cond.lays "CountRounds" "CountRounds" "today" "I") ∈ gw := gw_1 68 (by decide +kernel) rfl
theorem wd_70 : (Cond.lays "CountRounds" "CountRounds" "waits" "Z") ∈ gw := gw_1 70 (by decide +kernel) rfl
theorem wd_72 : (Cond.lays "CountRounds" "CountRounds" "timesCounted" "I") ∈ gw := gw_1 72 (by decide +kernel) rfl
theorem wd_74 : (Cond.lays "CountRounds" "CountRounds" "timesRight" "I") ∈ gw := gw_1 74 (by decide +kernel) rfl
theorem wd_77 : (Cond.arrayClass FieldType.int) ∈ gw := gw_1 77 (by decide +kernel) rfl
theorem wd_78 : (Cond.methodLink "CountRoundsLaw" 176 ({ cls := "CountRounds", name := "count", desc := "(I)I" } : MethodName)) ∈ gw := gw_1 78 (by decide +kernel) rfl
theorem wd_79 : (Cond.instanceMethod ({ cls := "CountRounds", name := "count", desc := "(I)I" } : MethodName)) ∈ gw := gw_1 79 (by decide +kernel) rfl
theorem wd_80 : (Cond.selects "CountRounds" ({ cls := "CountRounds", name := "count", desc := "(I)I" } : MethodName) ({ cls := "CountRounds", name := "count", desc := "(I)I" } : MethodName)) ∈ gw := gw_1 80 (by decide +kernel) rfl
theorem wd_81 : (Cond.code ({ cls := "CountRounds", name := "count", desc := "(I)I" } : MethodName) prog_1_method_23_code 2 (Option.some FieldType.int)) ∈ gw := gw_1 81 rfl rfl
theorem wd_82 : (Cond.methodLink "CountRounds" 286 ({ cls := "CountRounds", name := "openMoves", desc := "()I" } : MethodName)) ∈ gw := gw_1 82 (by decide +kernel) rfl
theorem wd_84 : (Cond.instanceMethod ({ cls := "CountRounds", name := "openMoves", desc := "()I" } : MethodName)) ∈ gw := gw_1 84 (by decide +kernel) rfl
theorem wd_85 : (Cond.code ({ cls := "CountRounds", name := "openMoves", desc := "()I" } : MethodName) prog_1_method_33_code 3 (Option.some FieldType.int)) ∈ gw := gw_1 85 rfl rfl
theorem wd_86 : (Cond.methodLink "CountRounds" 127 ({ cls := "CountRounds", name := "transferNumbered", desc := "(I)LCountRounds$Transfer;" } : MethodName)) ∈ gw := gw_1 86 (by decide +kernel) rfl
theorem wd_88 : (Cond.instanceMethod ({ cls := "CountRounds", name := "transferNumbered", desc := "(I)LCountRounds$Transfer;" } : MethodName)) ∈ gw := gw_1 88 (by decide +kernel) rfl
theorem wd_89 : (Cond.code ({ cls := "CountRounds", name := "transferNumbered", desc := "(I)LCountRounds$Transfer;" } : MethodName) prog_1_method_31_code 3 (Option.some (FieldType.object "CountRounds$Transfer"))) ∈ gw := gw_1 89 rfl rfl
theorem wd_90 : (Cond.methodLink "CountRounds" 88 ({ cls := "CountRounds", name := "isWithin", desc := "(III)Z" } : MethodName)) ∈ gw := gw_1 90 (by decide +kernel) rfl
theorem wd_91 : (Cond.static ({ cls := "CountRounds", name := "isWithin", desc := "(III)Z" } : MethodName)) ∈ gw := gw_1 91 (by decide +kernel) rfl
theorem wd_92 : (Cond.code ({ cls := "CountRounds", name := "isWithin", desc := "(III)Z" } : MethodName) prog_1_method_24_code 3 (Option.some FieldType.boolean)) ∈ gw := gw_1 92 rfl rfl
theorem wd_93 : (Cond.classLink "CountRounds" 202 "java/util/NoSuchElementException") ∈ gw := gw_1 93 (by decide +kernel) rfl
theorem wd_94 : (Cond.instantiable "java/util/NoSuchElementException" 6) ∈ gw := gw_1 94 (by decide +kernel) rfl
theorem wd_102 : (Cond.selects "java/util/NoSuchElementException" ({ cls := "java/lang/Throwable", name := "fillInStackTrace", desc := "(I)Ljava/lang/Throwable;" } : MethodName) ({ cls := "java/lang/Throwable", name := "fillInStackTrace", desc := "(I)Ljava/lang/Throwable;" } : MethodName)) ∈ gw := gw_1 102 (by decide +kernel) rfl
theorem wd_103 : (Cond.selects "java/util/NoSuchElementException" ({ cls := "java/lang/Throwable", name := "fillInStackTrace", desc := "()Ljava/lang/Throwable;" } : MethodName) ({ cls := "java/lang/Throwable", name := "fillInStackTrace", desc := "()Ljava/lang/Throwable;" } : MethodName)) ∈ gw := gw_1 103 (by decide +kernel) rfl
theorem wd_104 : (Cond.lays "java/util/NoSuchElementException" "java/lang/Throwable" "cause" "Ljava/lang/Throwable;") ∈ gw := gw_1 104 (by decide +kernel) rfl
theorem wd_105 : (Cond.lays "java/lang/Throwable" "java/lang/Throwable" "cause" "Ljava/lang/Throwable;") ∈ gw := gw_1 105 (by decide +kernel) rfl
theorem wd_106 : (Cond.lays "java/util/NoSuchElementException" "java/lang/Throwable" "stackTrace" "[Ljava/lang/StackTraceElement;") ∈ gw := gw_1 106 (by decide +kernel) rfl
theorem wd_107 : (Cond.lays "java/lang/Throwable" "java/lang/Throwable" "stackTrace" "[Ljava/lang/StackTraceElement;") ∈ gw := gw_1 107 (by decide +kernel) rfl
theorem wd_108 : (Cond.lays "java/util/NoSuchElementException" "java/lang/Throwable" "suppressedExceptions" "Ljava/util/List;") ∈ gw := gw_1 108 (by decide +kernel) rfl
theorem wd_109 : (Cond.lays "java/lang/Throwable" "java/lang/Throwable" "suppressedExceptions" "Ljava/util/List;") ∈ gw := gw_1 109 (by decide +kernel) rfl
theorem wd_110 : (Cond.lays "java/util/NoSuchElementException" "java/lang/Throwable" "detailMessage" "Ljava/lang/String;") ∈ gw := gw_1 110 (by decide +kernel) rfl
theorem wd_111 : (Cond.lays "java/lang/Throwable" "java/lang/Throwable" "detailMessage" "Ljava/lang/String;") ∈ gw := gw_1 111 (by decide +kernel) rfl
theorem wd_112 : (Cond.lays "java/util/NoSuchElementException" "java/lang/Throwable" "backtrace" "Ljava/lang/Object;") ∈ gw := gw_1 112 (by decide +kernel) rfl
theorem wd_113 : (Cond.lays "java/lang/Throwable" "java/lang/Throwable" "backtrace" "Ljava/lang/Object;") ∈ gw := gw_1 113 (by decide +kernel) rfl
theorem wd_114 : (Cond.fieldLink "java/lang/Throwable" 198 "java/lang/Throwable" "backtrace" "Ljava/lang/Object;") ∈ gw := gw_1 114 (by decide +kernel) rfl
theorem wd_116 : (Cond.instanceMethod ({ cls := "java/lang/Throwable", name := "<init>", desc := "()V" } : MethodName)) ∈ gw := gw_1 116 (by decide +kernel) rfl
theorem wd_117 : (Cond.code ({ cls := "java/lang/Throwable", name := "<init>", desc := "()V" } : MethodName) prog_15_method_1_code 1 (Option.none : Option FieldType)) ∈ gw := gw_1 117 rfl rfl
theorem wd_118 : (Cond.methodLink "java/lang/Throwable" 1 ({ cls := "java/lang/Object", name := "<init>", desc := "()V" } : MethodName)) ∈ gw := gw_1 118 (by decide +kernel) rfl
theorem wd_119 : (Cond.fieldLink "java/lang/Throwable" 13 "java/lang/Throwable" "UNASSIGNED_STACK" "[Ljava/lang/StackTraceElement;") ∈ gw := gw_1 119 (by decide +kernel) rfl
theorem wd_121 : (Cond.fieldLink "java/lang/Throwable" 20 "java/lang/Throwable" "SUPPRESSED_SENTINEL" "Ljava/util/List;") ∈ gw := gw_1 121 (by decide +kernel) rfl
theorem wd_123 : (Cond.methodLink "java/lang/Throwable" 27 ({ cls := "java/lang/Throwable", name := "fillInStackTrace", desc := "()Ljava/lang/Throwable;" } : MethodName)) ∈ gw := gw_1 123 (by decide +kernel) rfl
theorem wd_124 : (Cond.instanceMethod ({ cls := "java/lang/Throwable", name := "fillInStackTrace", desc := "()Ljava/lang/Throwable;" } : MethodName)) ∈ gw := gw_1 124 (by decide +kernel) rfl
theorem wd_125 : (Cond.sameMethod "java/lang/Throwable" "java/lang/Throwable" "fillInStackTrace" "()Ljava/lang/Throwable;") ∈ gw := gw_1 125 (by decide +kernel) rfl
theorem wd_126 : (Cond.selects "java/lang/ArithmeticException" ({ cls := "java/lang/Throwable", name := "fillInStackTrace", desc := "()Ljava/lang/Throwable;" } : MethodName) ({ cls := "java/lang/Throwable", name := "fillInStackTrace", desc := "()Ljava/lang/Throwable;" } : MethodName)) ∈ gw := gw_1 126 (by decide +kernel) rfl
theorem wd_127 : (Cond.selects "java/lang/IllegalArgumentException" ({ cls := "java/lang/Throwable", name := "fillInStackTrace", desc := "()Ljava/lang/Throwable;" } : MethodName) ({ cls := "java/lang/Throwable", name := "fillInStackTrace", desc := "()Ljava/lang/Throwable;" } : MethodName)) ∈ gw := gw_1 127 (by decide +kernel) rfl
theorem wd_128 : (Cond.selects "java/lang/IllegalStateException" ({ cls := "java/lang/Throwable", name := "fillInStackTrace", desc := "()Ljava/lang/Throwable;" } : MethodName) ({ cls := "java/lang/Throwable", name := "fillInStackTrace", desc := "()Ljava/lang/Throwable;" } : MethodName)) ∈ gw := gw_1 128 (by decide +kernel) rfl
theorem wd_129 : (Cond.selects "java/lang/UnsupportedOperationException" ({ cls := "java/lang/Throwable", name := "fillInStackTrace", desc := "()Ljava/lang/Throwable;" } : MethodName) ({ cls := "java/lang/Throwable", name := "fillInStackTrace", desc := "()Ljava/lang/Throwable;" } : MethodName)) ∈ gw := gw_1 129 (by decide +kernel) rfl
theorem wd_130 : (Cond.codeSync ({ cls := "java/lang/Throwable", name := "fillInStackTrace", desc := "()Ljava/lang/Throwable;" } : MethodName) prog_15_method_18_code 1 (Option.some (FieldType.object "java/lang/Throwable"))) ∈ gw := gw_1 130 rfl rfl
theorem wd_131 : (Cond.methodLink "java/lang/Throwable" 202 ({ cls := "java/lang/Throwable", name := "fillInStackTrace", desc := "(I)Ljava/lang/Throwable;" } : MethodName)) ∈ gw := gw_1 131 (by decide +kernel) rfl
theorem wd_133 : (Cond.instanceMethod ({ cls := "java/lang/Throwable", name := "fillInStackTrace", desc := "(I)Ljava/lang/Throwable;" } : MethodName)) ∈ gw := gw_1 133 (by decide +kernel) rfl
theorem wd_134 : (Cond.instantiable "java/lang/Throwable" 6) ∈ gw := gw_1 134 (by decide +kernel) rfl
theorem wd_135 : (Cond.native ({ cls := "java/lang/Throwable", name := "fillInStackTrace", desc := "(I)Ljava/lang/Throwable;" } : MethodName)) ∈ gw := gw_1 135 (by decide +kernel) rfl
theorem wd_137 : (Cond.methodLink "CountRounds" 206 ({ cls := "java/util/NoSuchElementException", name := "<init>", desc := "(Ljava/lang/String;)V" } : MethodName)) ∈ gw := gw_1 137 (by decide +kernel) rfl
theorem wd_138 : (Cond.instanceMethod ({ cls := "java/util/NoSuchElementException", name := "<init>", desc := "(Ljava/lang/String;)V" } : MethodName)) ∈ gw := gw_1 138 (by decide +kernel) rfl
theorem wd_139 : (Cond.code ({ cls := "java/util/NoSuchElementException", name := "<init>", desc := "(Ljava/lang/String;)V" } : MethodName) prog_18_method_4_code 2 (Option.none : Option FieldType)) ∈ gw := gw_1 139 rfl rfl
theorem wd_140 : (Cond.methodLink "java/util/NoSuchElementException" 13 ({ cls := "java/lang/RuntimeException", name := "<init>", desc := "(Ljava/lang/String;)V" } : MethodName)) ∈ gw := gw_1 140 (by decide +kernel) rfl
theorem wd_141 : (Cond.instanceMethod ({ cls := "java/lang/RuntimeException", name := "<init>", desc := "(Ljava/lang/String;)V" } : MethodName)) ∈ gw := gw_1 141 (by decide +kernel) rfl
theorem wd_142 : (Cond.code ({ cls := "java/lang/RuntimeException", name := "<init>", desc := "(Ljava/lang/String;)V" } : MethodName) prog_12_method_2_code 2 (Option.none : Option FieldType)) ∈ gw := gw_1 142 rfl rfl
theorem wd_143 : (Cond.methodLink "java/lang/RuntimeException" 7 ({ cls := "java/lang/Exception", name := "<init>", desc := "(Ljava/lang/String;)V" } : MethodName)) ∈ gw := gw_1 143 (by decide +kernel) rfl
theorem wd_144 : (Cond.instanceMethod ({ cls := "java/lang/Exception", name := "<init>", desc := "(Ljava/lang/String;)V" } : MethodName)) ∈ gw := gw_1 144 (by decide +kernel) rfl
theorem wd_145 : (Cond.code ({ cls := "java/lang/Exception", name := "<init>", desc := "(Ljava/lang/String;)V" } : MethodName) prog_8_method_2_code 2 (Option.none : Option FieldType)) ∈ gw := gw_1 145 rfl rfl
theorem wd_146 : (Cond.methodLink "java/lang/Exception" 7 ({ cls := "java/lang/Throwable", name := "<init>", desc := "(Ljava/lang/String;)V" } : MethodName)) ∈ gw := gw_1 146 (by decide +kernel) rfl
theorem wd_147 : (Cond.instanceMethod ({ cls := "java/lang/Throwable", name := "<init>", desc := "(Ljava/lang/String;)V" } : MethodName)) ∈ gw := gw_1 147 (by decide +kernel) rfl
theorem wd_148 : (Cond.code ({ cls := "java/lang/Throwable", name := "<init>", desc := "(Ljava/lang/String;)V" } : MethodName) prog_15_method_2_code 2 (Option.none : Option FieldType)) ∈ gw := gw_1 148 rfl rfl
theorem wd_149 : (Cond.fieldLink "java/lang/Throwable" 198 "java/lang/Throwable" "backtrace" "Ljava/lang/Object;") ∈ gw := gw_1 149 (by decide +kernel) rfl
theorem wd_150 : (Cond.fieldLink "java/lang/Throwable" 31 "java/lang/Throwable" "detailMessage" "Ljava/lang/String;") ∈ gw := gw_1 150 (by decide +kernel) rfl
theorem wd_151 : (Cond.fieldLink "java/lang/Throwable" 7 "java/lang/Throwable" "cause" "Ljava/lang/Throwable;") ∈ gw := gw_1 151 (by decide +kernel) rfl
theorem wd_152 : (Cond.fieldLink "java/lang/Throwable" 17 "java/lang/Throwable" "stackTrace" "[Ljava/lang/StackTraceElement;") ∈ gw := gw_1 152 (by decide +kernel) rfl
theorem wd_153 : (Cond.fieldLink "java/lang/Throwable" 24 "java/lang/Throwable" "suppressedExceptions" "Ljava/util/List;") ∈ gw := gw_1 153 (by decide +kernel) rfl
theorem wd_158 : (Cond.lays "java/util/NoSuchElementException" "java/lang/Throwable" "depth" "I") ∈ gw := gw_1 158 (by decide +kernel) rfl
theorem wd_162 : (Cond.arrayClass FieldType.byte) ∈ gw := gw_1 162 (by decide +kernel) rfl
theorem wd_163 : (Cond.methodLink "CountRoundsLaw" 96 ({ cls := "CountRoundsLaw", name := "place", desc := "(LCountRounds;I[J)I" } : MethodName)) ∈ gw := gw_1 163 (by decide +kernel) rfl
theorem wd_164 : (Cond.static ({ cls := "CountRoundsLaw", name := "place", desc := "(LCountRounds;I[J)I" } : MethodName)) ∈ gw := gw_1 164 (by decide +kernel) rfl
theorem wd_165 : (Cond.codeWith ({ cls := "CountRoundsLaw", name := "place", desc := "(LCountRounds;I[J)I" } : MethodName) method_3_code 4 (Option.some FieldType.int) [(0, 9, 12, 13), (0, 9, 15, 15)]) ∈ gw := gw_1 165 rfl rfl
theorem wd_166 : (Cond.classLink "CountRoundsLaw" 13 "java/lang/IllegalArgumentException") ∈ gw := gw_1 166 (by decide +kernel) rfl
theorem wd_167 : (Cond.classLink "CountRoundsLaw" 15 "java/lang/UnsupportedOperationException") ∈ gw := gw_1 167 (by decide +kernel) rfl
theorem wd_168 : (Cond.methodLink "CountRoundsLaw" 7 ({ cls := "CountRounds", name := "place", desc := "(I)I" } : MethodName)) ∈ gw := gw_1 168 (by decide +kernel) rfl
theorem wd_169 : (Cond.instanceMethod ({ cls := "CountRounds", name := "place", desc := "(I)I" } : MethodName)) ∈ gw := gw_1 169 (by decide +kernel) rfl
theorem wd_170 : (Cond.selects "CountRounds" ({ cls := "CountRounds", name := "place", desc := "(I)I" } : MethodName) ({ cls := "CountRounds", name := "place", desc := "(I)I" } : MethodName)) ∈ gw := gw_1 170 (by decide +kernel) rfl
theorem wd_171 : (Cond.code ({ cls := "CountRounds", name := "place", desc := "(I)I" } : MethodName) prog_1_method_2_code 3 (Option.some FieldType.int)) ∈ gw := gw_1 171 rfl rfl
theorem wd_172 : (Cond.methodLink "CountRounds" 50 ({ cls := "CountRounds", name := "isKind", desc := "(I)Z" } : MethodName)) ∈ gw := gw_1 172 (by decide +kernel) rfl
theorem wd_173 : (Cond.static ({ cls := "CountRounds", name := "isKind", desc := "(I)Z" } : MethodName)) ∈ gw := gw_1 173 (by decide +kernel) rfl
theorem wd_174 : (Cond.code ({ cls := "CountRounds", name := "isKind", desc := "(I)Z" } : MethodName) prog_1_method_25_code 1 (Option.some FieldType.boolean)) ∈ gw := gw_1 174 rfl rfl
theorem wd_175 : (Cond.classLink "CountRounds" 54 "java/lang/IllegalArgumentException") ∈ gw := gw_1 175 (by decide +kernel) rfl
theorem wd_176 : (Cond.instantiable "java/lang/IllegalArgumentException" 6) ∈ gw := gw_1 176 (by decide +kernel) rfl
theorem wd_178 : (Cond.selects "java/lang/IllegalArgumentException" ({ cls := "java/lang/Throwable", name := "fillInStackTrace", desc := "(I)Ljava/lang/Throwable;" } : MethodName) ({ cls := "java/lang/Throwable", name := "fillInStackTrace", desc := "(I)Ljava/lang/Throwable;" } : MethodName)) ∈ gw := gw_1 178 (by decide +kernel) rfl
theorem wd_179 : (Cond.lays "java/lang/IllegalArgumentException" "java/lang/Throwable" "cause" "Ljava/lang/Throwable;") ∈ gw := gw_1 179 (by decide +kernel) rfl
theorem wd_180 : (Cond.lays "java/lang/IllegalArgumentException" "java/lang/Throwable" "stackTrace" "[Ljava/lang/StackTraceElement;") ∈ gw := gw_1 180 (by decide +kernel) rfl
theorem wd_181 : (Cond.lays "java/lang/IllegalArgumentException" "java/lang/Throwable" "suppressedExceptions" "Ljava/util/List;") ∈ gw := gw_1 181 (by decide +kernel) rfl
theorem wd_182 : (Cond.lays "java/lang/IllegalArgumentException" "java/lang/Throwable" "detailMessage" "Ljava/lang/String;") ∈ gw := gw_1 182 (by decide +kernel) rfl
theorem wd_183 : (Cond.lays "java/lang/IllegalArgumentException" "java/lang/Throwable" "backtrace" "Ljava/lang/Object;") ∈ gw := gw_1 183 (by decide +kernel) rfl
theorem wd_185 : (Cond.methodLink "CountRounds" 58 ({ cls := "java/lang/IllegalArgumentException", name := "<init>", desc := "(Ljava/lang/String;)V" } : MethodName)) ∈ gw := gw_1 185 (by decide +kernel) rfl
theorem wd_186 : (Cond.instanceMethod ({ cls := "java/lang/IllegalArgumentException", name := "<init>", desc := "(Ljava/lang/String;)V" } : MethodName)) ∈ gw := gw_1 186 (by decide +kernel) rfl
theorem wd_187 : (Cond.code ({ cls := "java/lang/IllegalArgumentException", name := "<init>", desc := "(Ljava/lang/String;)V" } : MethodName) prog_9_method_2_code 2 (Option.none : Option FieldType)) ∈ gw := gw_1 187 rfl rfl
theorem wd_188 : (Cond.methodLink "java/lang/IllegalArgumentException" 7 ({ cls := "java/lang/RuntimeException", name := "<init>", desc := "(Ljava/lang/String;)V" } : MethodName)) ∈ gw := gw_1 188 (by decide +kernel) rfl
theorem wd_189 : (Cond.lays "java/lang/IllegalArgumentException" "java/lang/Throwable" "depth" "I") ∈ gw := gw_1 189 (by decide +kernel) rfl
theorem wd_191 : (Cond.classLink "CountRounds" 65 "java/lang/UnsupportedOperationException") ∈ gw := gw_1 191 (by decide +kernel) rfl
theorem wd_192 : (Cond.instantiable "java/lang/UnsupportedOperationException" 6) ∈ gw := gw_1 192 (by decide +kernel) rfl
theorem wd_194 : (Cond.selects "java/lang/UnsupportedOperationException" ({ cls := "java/lang/Throwable", name := "fillInStackTrace", desc := "(I)Ljava/lang/Throwable;" } : MethodName) ({ cls := "java/lang/Throwable", name := "fillInStackTrace", desc := "(I)Ljava/lang/Throwable;" } : MethodName)) ∈ gw := gw_1 194 (by decide +kernel) rfl
theorem wd_195 : (Cond.lays "java/lang/UnsupportedOperationException" "java/lang/Throwable" "cause" "Ljava/lang/Throwable;") ∈ gw := gw_1 195 (by decide +kernel) rfl
theorem wd_196 : (Cond.lays "java/lang/UnsupportedOperationException" "java/lang/Throwable" "stackTrace" "[Ljava/lang/StackTraceElement;") ∈ gw := gw_1 196 (by decide +kernel) rfl
theorem wd_197 : (Cond.lays "java/lang/UnsupportedOperationException" "java/lang/Throwable" "suppressedExceptions" "Ljava/util/List;") ∈ gw := gw_1 197 (by decide +kernel) rfl
theorem wd_198 : (Cond.lays "java/lang/UnsupportedOperationException" "java/lang/Throwable" "detailMessage" "Ljava/lang/String;") ∈ gw := gw_1 198 (by decide +kernel) rfl
theorem wd_199 : (Cond.lays "java/lang/UnsupportedOperationException" "java/lang/Throwable" "backtrace" "Ljava/lang/Object;") ∈ gw := gw_1 199 (by decide +kernel) rfl
theorem wd_201 : (Cond.methodLink "CountRounds" 69 ({ cls := "java/lang/UnsupportedOperationException", name := "<init>", desc := "(Ljava/lang/String;)V" } : MethodName)) ∈ gw := gw_1 201 (by decide +kernel) rfl
theorem wd_202 : (Cond.instanceMethod ({ cls := "java/lang/UnsupportedOperationException", name := "<init>", desc := "(Ljava/lang/String;)V" } : MethodName)) ∈ gw := gw_1 202 (by decide +kernel) rfl
theorem wd_203 : (Cond.code ({ cls := "java/lang/UnsupportedOperationException", name := "<init>", desc := "(Ljava/lang/String;)V" } : MethodName) prog_16_method_2_code 2 (Option.none : Option FieldType)) ∈ gw := gw_1 203 rfl rfl
theorem wd_204 : (Cond.methodLink "java/lang/UnsupportedOperationException" 7 ({ cls := "java/lang/RuntimeException", name := "<init>", desc := "(Ljava/lang/String;)V" } : MethodName)) ∈ gw := gw_1 204 (by decide +kernel) rfl
theorem wd_205 : (Cond.lays "java/lang/UnsupportedOperationException" "java/lang/Throwable" "depth" "I") ∈ gw := gw_1 205 (by decide +kernel) rfl
theorem wd_207 : (Cond.instantiable "CountRounds$Place" 4) ∈ gw := gw_1 207 (by decide +kernel) rfl
theorem wd_209 : (Cond.instanceMethod ({ cls := "CountRounds$Place", name := "<init>", desc := "(I)V" } : MethodName)) ∈ gw := gw_1 209 (by decide +kernel) rfl
theorem wd_210 : (Cond.code ({ cls := "CountRounds$Place", name := "<init>", desc := "(I)V" } : MethodName) prog_2_method_1_code 2 (Option.none : Option FieldType)) ∈ gw := gw_1 210 rfl rfl
theorem wd_211 : (Cond.methodLink "CountRounds$Place" 3 ({ cls := "java/lang/Object", name := "<init>", desc := "()V" } : MethodName)) ∈ gw := gw_1 211 (by decide +kernel) rfl
theorem wd_212 : (Cond.fieldLink "CountRounds$Place" 19 "CountRounds$Place" "kind" "I") ∈ gw := gw_1 212 (by decide +kernel) rfl
theorem wd_214 : (Cond.fieldLink "CountRounds$Place" 9 "CountRounds$Place" "pieces" "[I") ∈ gw := gw_1 214 (by decide +kernel) rfl
theorem wd_216 : (Cond.fieldLink "CountRounds$Place" 15 "CountRounds$Place" "countedOn" "I") ∈ gw := gw_1 216 (by decide +kernel) rfl
theorem wd_219 : (Cond.laysFinal "CountRounds$Place" "CountRounds$Place" "kind" "I") ∈ gw := gw_1 219 (by decide +kernel) rfl
theorem wd_221 : (Cond.laysFinal "CountRounds$Place" "CountRounds$Place" "pieces" "[I") ∈ gw := gw_1 221 (by decide +kernel) rfl
theorem wd_223 : (Cond.lays "CountRounds$Place" "CountRounds$Place" "countedOn" "I") ∈ gw := gw_1 223 (by decide +kernel) rfl
theorem wd_225 : (Cond.lays "CountRounds$Place" "CountRounds$Place" "taken" "Z") ∈ gw := gw_1 225 (by decide +kernel) rfl
theorem wd_228 : (Cond.methodLink "CountRoundsLaw" 106 ({ cls := "CountRoundsLaw", name := "stock", desc := "(LCountRounds;III)I" } : MethodName)) ∈ gw := gw_1 228 (by decide +kernel) rfl
theorem wd_229 : (Cond.static ({ cls := "CountRoundsLaw", name := "stock", desc := "(LCountRounds;III)I" } : MethodName)) ∈ gw := gw_1 229 (by decide +kernel) rfl
theorem wd_230 : (Cond.codeWith ({ cls := "CountRoundsLaw", name := "stock", desc := "(LCountRounds;III)I" } : MethodName) method_4_code 5 (Option.some FieldType.int) [(0, 7, 10, 21), (0, 7, 14, 13)]) ∈ gw := gw_1 230 rfl rfl
theorem wd_231 : (Cond.classLink "CountRoundsLaw" 21 "java/util/NoSuchElementException") ∈ gw := gw_1 231 (by decide +kernel) rfl
theorem wd_232 : (Cond.methodLink "CountRoundsLaw" 17 ({ cls := "CountRounds", name := "stock", desc := "(III)V" } : MethodName)) ∈ gw := gw_1 232 (by decide +kernel) rfl
theorem wd_233 : (Cond.instanceMethod ({ cls := "CountRounds", name := "stock", desc := "(III)V" } : MethodName)) ∈ gw := gw_1 233 (by decide +kernel) rfl
theorem wd_234 : (Cond.selects "CountRounds" ({ cls := "CountRounds", name := "stock", desc := "(III)V" } : MethodName) ({ cls := "CountRounds", name := "stock", desc := "(III)V" } : MethodName)) ∈ gw := gw_1 234 (by decide +kernel) rfl
theorem wd_235 : (Cond.code ({ cls := "CountRounds", name := "stock", desc := "(III)V" } : MethodName) prog_1_method_3_code 5 (Option.none : Option FieldType)) ∈ gw := gw_1 235 rfl rfl
theorem wd_236 : (Cond.methodLink "CountRounds" 73 ({ cls := "CountRounds", name := "placeNumbered", desc := "(I)LCountRounds$Place;" } : MethodName)) ∈ gw := gw_1 236 (by decide +kernel) rfl
theorem wd_238 : (Cond.instanceMethod ({ cls := "CountRounds", name := "placeNumbered", desc := "(I)LCountRounds$Place;" } : MethodName)) ∈ gw := gw_1 238 (by decide +kernel) rfl
theorem wd_239 : (Cond.code ({ cls := "CountRounds", name := "placeNumbered", desc := "(I)LCountRounds$Place;" } : MethodName) prog_1_method_30_code 3 (Option.some (FieldType.object "CountRounds$Place"))) ∈ gw := gw_1 239 rfl rfl
theorem wd_241 : (Cond.methodLink "CountRounds" 77 ({ cls := "CountRounds", name := "isGood", desc := "(I)Z" } : MethodName)) ∈ gw := gw_2 1 (by decide +kernel) rfl
theorem wd_242 : (Cond.static ({ cls := "CountRounds", name := "isGood", desc := "(I)Z" } : MethodName)) ∈ gw := gw_2 2 (by decide +kernel) rfl
theorem wd_243 : (Cond.code ({ cls := "CountRounds", name := "isGood", desc := "(I)Z" } : MethodName) prog_1_method_26_code 1 (Option.some FieldType.boolean)) ∈ gw := gw_2 3 rfl rfl
theorem wd_244 : (Cond.methodLink "CountRounds" 80 ({ cls := "CountRounds", name := "isPieces", desc := "(I)Z" } : MethodName)) ∈ gw := gw_2 4 (by decide +kernel) rfl
theorem wd_245 : (Cond.static ({ cls := "CountRounds", name := "isPieces", desc := "(I)Z" } : MethodName)) ∈ gw := gw_2 5 (by decide +kernel) rfl
theorem wd_246 : (Cond.code ({ cls := "CountRounds", name := "isPieces", desc := "(I)Z" } : MethodName) prog_1_method_28_code 1 (Option.some FieldType.boolean)) ∈ gw := gw_2 6 rfl rfl
theorem wd_247 : (Cond.constant "CountRounds" 114 (1000000 : Int32)) ∈ gw := gw_2 7 (by decide +kernel) rfl
theorem wd_249 : (Cond.methodLink "CountRoundsLaw" 110 ({ cls := "CountRoundsLaw", name := "cycle", desc := "(LCountRounds;III)I" } : MethodName)) ∈ gw := gw_2 9 (by decide +kernel) rfl
theorem wd_250 : (Cond.static ({ cls := "CountRoundsLaw", name := "cycle", desc := "(LCountRounds;III)I" } : MethodName)) ∈ gw := gw_2 10 (by decide +kernel) rfl
theorem wd_251 : (Cond.codeWith ({ cls := "CountRoundsLaw", name := "cycle", desc := "(LCountRounds;III)I" } : MethodName) method_5_code 5 (Option.some FieldType.int) [(0, 7, 10, 13)]) ∈ gw := gw_2 11 rfl rfl
theorem wd_252 : (Cond.methodLink "CountRoundsLaw" 23 ({ cls := "CountRounds", name := "cycle", desc := "(III)V" } : MethodName)) ∈ gw := gw_2 12 (by decide +kernel) rfl
theorem wd_253 : (Cond.instanceMethod ({ cls := "CountRounds", name := "cycle", desc := "(III)V" } : MethodName)) ∈ gw := gw_2 13 (by decide +kernel) rfl
theorem wd_254 : (Cond.selects "CountRounds" ({ cls := "CountRounds", name := "cycle", desc := "(III)V" } : MethodName) ({ cls := "CountRounds", name := "cycle", desc := "(III)V" } : MethodName)) ∈ gw := gw_2 14 (by decide +kernel) rfl
theorem wd_255 : (Cond.code ({ cls := "CountRounds", name := "cycle", desc := "(III)V" } : MethodName) prog_1_method_4_code 4 (Option.none : Option FieldType)) ∈ gw := gw_2 15 rfl rfl
theorem wd_257 : (Cond.methodLink "CountRoundsLaw" 113 ({ cls := "CountRoundsLaw", name := "right", desc := "(LCountRounds;II)I" } : MethodName)) ∈ gw := gw_2 17 (by decide +kernel) rfl
theorem wd_258 : (Cond.static ({ cls := "CountRoundsLaw", name := "right", desc := "(LCountRounds;II)I" } : MethodName)) ∈ gw := gw_2 18 (by decide +kernel) rfl
theorem wd_259 : (Cond.codeWith ({ cls := "CountRoundsLaw", name := "right", desc := "(LCountRounds;II)I" } : MethodName) method_6_code 4 (Option.some FieldType.int) [(0, 6, 9, 13)]) ∈ gw := gw_2 19 rfl rfl
theorem wd_260 : (Cond.methodLink "CountRoundsLaw" 26 ({ cls := "CountRounds", name := "right", desc := "(II)V" } : MethodName)) ∈ gw := gw_2 20 (by decide +kernel) rfl
theorem wd_261 : (Cond.instanceMethod ({ cls := "CountRounds", name := "right", desc := "(II)V" } : MethodName)) ∈ gw := gw_2 21 (by decide +kernel) rfl
theorem wd_262 : (Cond.selects "CountRounds" ({ cls := "CountRounds", name := "right", desc := "(II)V" } : MethodName) ({ cls := "CountRounds", name := "right", desc := "(II)V" } : MethodName)) ∈ gw := gw_2 22 (by decide +kernel) rfl
theorem wd_263 : (Cond.code ({ cls := "CountRounds", name := "right", desc := "(II)V" } : MethodName) prog_1_method_5_code 3 (Option.none : Option FieldType)) ∈ gw := gw_2 23 rfl rfl
theorem wd_264 : (Cond.methodLink "CountRounds" 94 ({ cls := "CountRounds", name := "isPerson", desc := "(I)Z" } : MethodName)) ∈ gw := gw_2 24 (by decide +kernel) rfl
theorem wd_265 : (Cond.static ({ cls := "CountRounds", name := "isPerson", desc := "(I)Z" } : MethodName)) ∈ gw := gw_2 25 (by decide +kernel) rfl
theorem wd_266 : (Cond.code ({ cls := "CountRounds", name := "isPerson", desc := "(I)Z" } : MethodName) prog_1_method_27_code 1 (Option.some FieldType.boolean)) ∈ gw := gw_2 26 rfl rfl
theorem wd_268 : (Cond.methodLink "CountRoundsLaw" 117 ({ cls := "CountRoundsLaw", name := "setting", desc := "(LCountRounds;I)I" } : MethodName)) ∈ gw := gw_2 28 (by decide +kernel) rfl
theorem wd_269 : (Cond.static ({ cls := "CountRoundsLaw", name := "setting", desc := "(LCountRounds;I)I" } : MethodName)) ∈ gw := gw_2 29 (by decide +kernel) rfl
theorem wd_270 : (Cond.codeWith ({ cls := "CountRoundsLaw", name := "setting", desc := "(LCountRounds;I)I" } : MethodName) method_7_code 3 (Option.some FieldType.int) [(0, 5, 8, 13)]) ∈ gw := gw_2 30 rfl rfl
theorem wd_271 : (Cond.methodLink "CountRoundsLaw" 30 ({ cls := "CountRounds", name := "setting", desc := "(I)V" } : MethodName)) ∈ gw := gw_2 31 (by decide +kernel) rfl
theorem wd_272 : (Cond.instanceMethod ({ cls := "CountRounds", name := "setting", desc := "(I)V" } : MethodName)) ∈ gw := gw_2 32 (by decide +kernel) rfl
theorem wd_273 : (Cond.selects "CountRounds" ({ cls := "CountRounds", name := "setting", desc := "(I)V" } : MethodName) ({ cls := "CountRounds", name := "setting", desc := "(I)V" } : MethodName)) ∈ gw := gw_2 33 (by decide +kernel) rfl
theorem wd_274 : (Cond.code ({ cls := "CountRounds", name := "setting", desc := "(I)V" } : MethodName) prog_1_method_6_code 2 (Option.none : Option FieldType)) ∈ gw := gw_2 34 rfl rfl
theorem wd_276 : (Cond.methodLink "CountRoundsLaw" 121 ({ cls := "CountRoundsLaw", name := "day", desc := "(LCountRounds;I)I" } : MethodName)) ∈ gw := gw_2 36 (by decide +kernel) rfl
theorem wd_277 : (Cond.static ({ cls := "CountRoundsLaw", name := "day", desc := "(LCountRounds;I)I" } : MethodName)) ∈ gw := gw_2 37 (by decide +kernel) rfl
theorem wd_278 : (Cond.codeWith ({ cls := "CountRoundsLaw", name := "day", desc := "(LCountRounds;I)I" } : MethodName) method_8_code 3 (Option.some FieldType.int) [(0, 5, 8, 13), (0, 5, 11, 37)]) ∈ gw := gw_2 38 rfl rfl
theorem wd_279 : (Cond.classLink "CountRoundsLaw" 37 "java/lang/IllegalStateException") ∈ gw := gw_2 39 (by decide +kernel) rfl
theorem wd_280 : (Cond.methodLink "CountRoundsLaw" 34 ({ cls := "CountRounds", name := "day", desc := "(I)V" } : MethodName)) ∈ gw := gw_2 40 (by decide +kernel) rfl
theorem wd_281 : (Cond.instanceMethod ({ cls := "CountRounds", name := "day", desc := "(I)V" } : MethodName)) ∈ gw := gw_2 41 (by decide +kernel) rfl
theorem wd_282 : (Cond.selects "CountRounds" ({ cls := "CountRounds", name := "day", desc := "(I)V" } : MethodName) ({ cls := "CountRounds", name := "day", desc := "(I)V" } : MethodName)) ∈ gw := gw_2 42 (by decide +kernel) rfl
theorem wd_283 : (Cond.code ({ cls := "CountRounds", name := "day", desc := "(I)V" } : MethodName) prog_1_method_7_code 2 (Option.none : Option FieldType)) ∈ gw := gw_2 43 rfl rfl
theorem wd_284 : (Cond.methodLink "CountRounds" 101 ({ cls := "CountRounds", name := "isDay", desc := "(I)Z" } : MethodName)) ∈ gw := gw_2 44 (by decide +kernel) rfl
theorem wd_285 : (Cond.static ({ cls := "CountRounds", name := "isDay", desc := "(I)Z" } : MethodName)) ∈ gw := gw_2 45 (by decide +kernel) rfl
theorem wd_286 : (Cond.code ({ cls := "CountRounds", name := "isDay", desc := "(I)Z" } : MethodName) prog_1_method_29_code 1 (Option.some FieldType.boolean)) ∈ gw := gw_2 46 rfl rfl
theorem wd_288 : (Cond.classLink "CountRounds" 109 "java/lang/IllegalStateException") ∈ gw := gw_2 48 (by decide +kernel) rfl
theorem wd_289 : (Cond.instantiable "java/lang/IllegalStateException" 6) ∈ gw := gw_2 49 (by decide +kernel) rfl
theorem wd_291 : (Cond.selects "java/lang/IllegalStateException" ({ cls := "java/lang/Throwable", name := "fillInStackTrace", desc := "(I)Ljava/lang/Throwable;" } : MethodName) ({ cls := "java/lang/Throwable", name := "fillInStackTrace", desc := "(I)Ljava/lang/Throwable;" } : MethodName)) ∈ gw := gw_2 51 (by decide +kernel) rfl
theorem wd_292 : (Cond.lays "java/lang/IllegalStateException" "java/lang/Throwable" "cause" "Ljava/lang/Throwable;") ∈ gw := gw_2 52 (by decide +kernel) rfl
theorem wd_293 : (Cond.lays "java/lang/IllegalStateException" "java/lang/Throwable" "stackTrace" "[Ljava/lang/StackTraceElement;") ∈ gw := gw_2 53 (by decide +kernel) rfl
theorem wd_294 : (Cond.lays "java/lang/IllegalStateException" "java/lang/Throwable" "suppressedExceptions" "Ljava/util/List;") ∈ gw := gw_2 54 (by decide +kernel) rfl
theorem wd_295 : (Cond.lays "java/lang/IllegalStateException" "java/lang/Throwable" "detailMessage" "Ljava/lang/String;") ∈ gw := gw_2 55 (by decide +kernel) rfl
theorem wd_296 : (Cond.lays "java/lang/IllegalStateException" "java/lang/Throwable" "backtrace" "Ljava/lang/Object;") ∈ gw := gw_2 56 (by decide +kernel) rfl
theorem wd_298 : (Cond.methodLink "CountRounds" 113 ({ cls := "java/lang/IllegalStateException", name := "<init>", desc := "(Ljava/lang/String;)V" } : MethodName)) ∈ gw := gw_2 58 (by decide +kernel) rfl
theorem wd_299 : (Cond.instanceMethod ({ cls := "java/lang/IllegalStateException", name := "<init>", desc := "(Ljava/lang/String;)V" } : MethodName)) ∈ gw := gw_2 59 (by decide +kernel) rfl
theorem wd_300 : (Cond.code ({ cls := "java/lang/IllegalStateException", name := "<init>", desc := "(Ljava/lang/String;)V" } : MethodName) prog_10_method_2_code 2 (Option.none : Option FieldType)) ∈ gw := gw_2 60 rfl rfl
theorem wd_301 : (Cond.methodLink "java/lang/IllegalStateException" 7 ({ cls := "java/lang/RuntimeException", name := "<init>", desc := "(Ljava/lang/String;)V" } : MethodName)) ∈ gw := gw_2 61 (by decide +kernel) rfl
theorem wd_302 : (Cond.lays "java/lang/IllegalStateException" "java/lang/Throwable" "depth" "I") ∈ gw := gw_2 62 (by decide +kernel) rfl
theorem wd_304 : (Cond.methodLink "CountRoundsLaw" 124 ({ cls := "CountRoundsLaw", name := "move", desc := "(LCountRounds;IIII[J)I" } : MethodName)) ∈ gw := gw_2 64 (by decide +kernel) rfl
theorem wd_305 : (Cond.static ({ cls := "CountRoundsLaw", name := "move", desc := "(LCountRounds;IIII[J)I" } : MethodName)) ∈ gw := gw_2 65 (by decide +kernel) rfl
theorem wd_306 : (Cond.codeWith ({ cls := "CountRoundsLaw", name := "move", desc := "(LCountRounds;IIII[J)I" } : MethodName) method_9_code 7 (Option.some FieldType.int) [(0, 14, 17, 21), (0, 14, 21, 13), (0, 14, 25, 37), (0, 14, 29, 15)]) ∈ gw := gw_2 66 rfl rfl
theorem wd_307 : (Cond.methodLink "CountRoundsLaw" 39 ({ cls := "CountRounds", name := "move", desc := "(IIII)I" } : MethodName)) ∈ gw := gw_2 67 (by decide +kernel) rfl
theorem wd_308 : (Cond.instanceMethod ({ cls := "CountRounds", name := "move", desc := "(IIII)I" } : MethodName)) ∈ gw := gw_2 68 (by decide +kernel) rfl
theorem wd_309 : (Cond.selects "CountRounds" ({ cls := "CountRounds", name := "move", desc := "(IIII)I" } : MethodName) ({ cls := "CountRounds", name := "move", desc := "(IIII)I" } : MethodName)) ∈ gw := gw_2 69 (by decide +kernel) rfl
theorem wd_310 : (Cond.code ({ cls := "CountRounds", name := "move", desc := "(IIII)I" } : MethodName) prog_1_method_8_code 6 (Option.some FieldType.int)) ∈ gw := gw_2 70 rfl rfl
theorem wd_314 : (Cond.instantiable "CountRounds$Transfer" 5) ∈ gw := gw_2 74 (by decide +kernel) rfl
theorem wd_316 : (Cond.instanceMethod ({ cls := "CountRounds$Transfer", name := "<init>", desc := "(IIII)V" } : MethodName)) ∈ gw := gw_2 76 (by decide +kernel) rfl
theorem wd_317 : (Cond.code ({ cls := "CountRounds$Transfer", name := "<init>", desc := "(IIII)V" } : MethodName) prog_4_method_1_code 5 (Option.none : Option FieldType)) ∈ gw := gw_2 77 rfl rfl
theorem wd_318 : (Cond.methodLink "CountRounds$Transfer" 1 ({ cls := "java/lang/Object", name := "<init>", desc := "()V" } : MethodName)) ∈ gw := gw_2 78 (by decide +kernel) rfl
theorem wd_319 : (Cond.fieldLink "CountRounds$Transfer" 13 "CountRounds$Transfer" "from" "I") ∈ gw := gw_2 79 (by decide +kernel) rfl
theorem wd_321 : (Cond.fieldLink "CountRounds$Transfer" 17 "CountRounds$Transfer" "to" "I") ∈ gw := gw_2 81 (by decide +kernel) rfl
theorem wd_323 : (Cond.fieldLink "CountRounds$Transfer" 20 "CountRounds$Transfer" "good" "I") ∈ gw := gw_2 83 (by decide +kernel) rfl
theorem wd_325 : (Cond.fieldLink "CountRounds$Transfer" 23 "CountRounds$Transfer" "pieces" "I") ∈ gw := gw_2 85 (by decide +kernel) rfl
theorem wd_327 : (Cond.fieldLink "CountRounds$Transfer" 7 "CountRounds$Transfer" "open" "Z") ∈ gw := gw_2 87 (by decide +kernel) rfl
theorem wd_329 : (Cond.laysFinal "CountRounds$Transfer" "CountRounds$Transfer" "from" "I") ∈ gw := gw_2 89 (by decide +kernel) rfl
theorem wd_331 : (Cond.laysFinal "CountRounds$Transfer" "CountRounds$Transfer" "to" "I") ∈ gw := gw_2 91 (by decide +kernel) rfl
theorem wd_333 : (Cond.laysFinal "CountRounds$Transfer" "CountRounds$Transfer" "good" "I") ∈ gw := gw_2 93 (by decide +kernel) rfl
theorem wd_335 : (Cond.laysFinal "CountRounds$Transfer" "CountRounds$Transfer" "pieces" "I") ∈ gw := gw_2 95 (by decide +kernel) rfl
theorem wd_337 : (Cond.lays "CountRounds$Transfer" "CountRounds$Transfer" "open" "Z") ∈ gw := gw_2 97 (by decide +kernel) rfl
theorem wd_340 : (Cond.methodLink "CountRoundsLaw" 128 ({ cls := "CountRoundsLaw", name := "end", desc := "(LCountRounds;I)I" } : MethodName)) ∈ gw := gw_2 100 (by decide +kernel) rfl
theorem wd_341 : (Cond.static ({ cls := "CountRoundsLaw", name := "end", desc := "(LCountRounds;I)I" } : MethodName)) ∈ gw := gw_2 101 (by decide +kernel) rfl
theorem wd_342 : (Cond.codeWith ({ cls := "CountRoundsLaw", name := "end", desc := "(LCountRounds;I)I" } : MethodName) method_10_code 3 (Option.some FieldType.int) [(0, 5, 8, 21), (0, 5, 11, 37)]) ∈ gw := gw_2 102 rfl rfl
theorem wd_343 : (Cond.methodLink "CountRoundsLaw" 43 ({ cls := "CountRounds", name := "end", desc := "(I)V" } : MethodName)) ∈ gw := gw_2 103 (by decide +kernel) rfl
theorem wd_344 : (Cond.instanceMethod ({ cls := "CountRounds", name := "end", desc := "(I)V" } : MethodName)) ∈ gw := gw_2 104 (by decide +kernel) rfl
theorem wd_345 : (Cond.selects "CountRounds" ({ cls := "CountRounds", name := "end", desc := "(I)V" } : MethodName) ({ cls := "CountRounds", name := "end", desc := "(I)V" } : MethodName)) ∈ gw := gw_2 105 (by decide +kernel) rfl
theorem wd_346 : (Cond.code ({ cls := "CountRounds", name := "end", desc := "(I)V" } : MethodName) prog_1_method_9_code 5 (Option.none : Option FieldType)) ∈ gw := gw_2 106 rfl rfl
theorem wd_348 : (Cond.methodLink "CountRoundsLaw" 131 ({ cls := "CountRoundsLaw", name := "moves", desc := "(LCountRounds;I[J)I" } : MethodName)) ∈ gw := gw_2 108 (by decide +kernel) rfl
theorem wd_349 : (Cond.static ({ cls := "CountRoundsLaw", name := "moves", desc := "(LCountRounds;I[J)I" } : MethodName)) ∈ gw := gw_2 109 (by decide +kernel) rfl
theorem wd_350 : (Cond.codeWith ({ cls := "CountRoundsLaw", name := "moves", desc := "(LCountRounds;I[J)I" } : MethodName) method_11_code 4 (Option.some FieldType.int) [(0, 9, 12, 21)]) ∈ gw := gw_2 110 rfl rfl
theorem wd_351 : (Cond.methodLink "CountRoundsLaw" 46 ({ cls := "CountRounds", name := "moves", desc := "(I)I" } : MethodName)) ∈ gw := gw_2 111 (by decide +kernel) rfl
theorem wd_352 : (Cond.instanceMethod ({ cls := "CountRounds", name := "moves", desc := "(I)I" } : MethodName)) ∈ gw := gw_2 112 (by decide +kernel) rfl
theorem wd_353 : (Cond.selects "CountRounds" ({ cls := "CountRounds", name := "moves", desc := "(I)I" } : MethodName) ({ cls := "CountRounds", name := "moves", desc := "(I)I" } : MethodName)) ∈ gw := gw_2 113 (by decide +kernel) rfl
theorem wd_354 : (Cond.code ({ cls := "CountRounds", name := "moves", desc := "(I)I" } : MethodName) prog_1_method_10_code 2 (Option.some FieldType.int)) ∈ gw := gw_2 114 rfl rfl
theorem wd_355 : (Cond.methodLink "CountRounds" 144 ({ cls := "CountRounds", name := "openMovesAt", desc := "(I)I" } : MethodName)) ∈ gw := gw_2 115 (by decide +kernel) rfl
theorem wd_357 : (Cond.instanceMethod ({ cls := "CountRounds", name := "openMovesAt", desc := "(I)I" } : MethodName)) ∈ gw := gw_2 117 (by decide +kernel) rfl
theorem wd_358 : (Cond.code ({ cls := "CountRounds", name := "openMovesAt", desc := "(I)I" } : MethodName) prog_1_method_34_code 5 (Option.some FieldType.int)) ∈ gw := gw_2 118 rfl rfl
theorem wd_359 : (Cond.methodLink "CountRoundsLaw" 136 ({ cls := "CountRoundsLaw", name := "round", desc := "(LCountRounds;IIJ[J)I" } : MethodName)) ∈ gw := gw_2 119 (by decide +kernel) rfl
theorem wd_360 : (Cond.static ({ cls := "CountRoundsLaw", name := "round", desc := "(LCountRounds;IIJ[J)I" } : MethodName)) ∈ gw := gw_2 120 (by decide +kernel) rfl
theorem wd_361 : (Cond.codeWith ({ cls := "CountRoundsLaw", name := "round", desc := "(LCountRounds;IIJ[J)I" } : MethodName) method_12_code 7 (Option.some FieldType.int) [(0, 12, 15, 13), (0, 12, 19, 37), (0, 12, 23, 15)]) ∈ gw := gw_2 121 rfl rfl
theorem wd_362 : (Cond.methodLink "CountRoundsLaw" 49 ({ cls := "CountRounds", name := "round", desc := "(IIJ)I" } : MethodName)) ∈ gw := gw_2 122 (by decide +kernel) rfl
theorem wd_363 : (Cond.instanceMethod ({ cls := "CountRounds", name := "round", desc := "(IIJ)I" } : MethodName)) ∈ gw := gw_2 123 (by decide +kernel) rfl
theorem wd_364 : (Cond.selects "CountRounds" ({ cls := "CountRounds", name := "round", desc := "(IIJ)I" } : MethodName) ({ cls := "CountRounds", name := "round", desc := "(IIJ)I" } : MethodName)) ∈ gw := gw_2 124 (by decide +kernel) rfl
theorem wd_365 : (Cond.code ({ cls := "CountRounds", name := "round", desc := "(IIJ)I" } : MethodName) prog_1_method_11_code 8 (Option.some FieldType.int)) ∈ gw := gw_2 125 rfl rfl
theorem wd_367 : (Cond.methodLink "CountRounds" 150 ({ cls := "CountRounds", name := "gatherCandidates", desc := "(I)I" } : MethodName)) ∈ gw := gw_2 127 (by decide +kernel) rfl
theorem wd_369 : (Cond.instanceMethod ({ cls := "CountRounds", name := "gatherCandidates", desc := "(I)I" } : MethodName)) ∈ gw := gw_2 129 (by decide +kernel) rfl
theorem wd_370 : (Cond.code ({ cls := "CountRounds", name := "gatherCandidates", desc := "(I)I" } : MethodName) prog_1_method_36_code 5 (Option.some FieldType.int)) ∈ gw := gw_2 130 rfl rfl
theorem wd_373 : (Cond.methodLink "CountRounds" 160 ({ cls := "java/lang/Math", name := "min", desc := "(II)I" } : MethodName)) ∈ gw := gw_2 133 (by decide +kernel) rfl
theorem wd_374 : (Cond.static ({ cls := "java/lang/Math", name := "min", desc := "(II)I" } : MethodName)) ∈ gw := gw_2 134 (by decide +kernel) rfl
theorem wd_375 : (Cond.code ({ cls := "java/lang/Math", name := "min", desc := "(II)I" } : MethodName) prog_11_method_69_code 2 (Option.some FieldType.int)) ∈ gw := gw_2 135 rfl rfl
theorem wd_376 : (Cond.methodLink "CountRounds" 166 ({ cls := "CountRounds", name := "chooseCandidates", desc := "(IIJ)[I" } : MethodName)) ∈ gw := gw_2 136 (by decide +kernel) rfl
theorem wd_378 : (Cond.instanceMethod ({ cls := "CountRounds", name := "chooseCandidates", desc := "(IIJ)[I" } : MethodName)) ∈ gw := gw_2 138 (by decide +kernel) rfl
theorem wd_379 : (Cond.code ({ cls := "CountRounds", name := "chooseCandidates", desc := "(IIJ)[I" } : MethodName) prog_1_method_37_code 11 (Option.some (FieldType.array FieldType.int))) ∈ gw := gw_2 139 rfl rfl
theorem wd_380 : (Cond.methodLink "CountRounds" 299 ({ cls := "CountRounds", name := "longestUncounted", desc := "(I)I" } : MethodName)) ∈ gw := gw_2 140 (by decide +kernel) rfl
theorem wd_382 : (Cond.instanceMethod ({ cls := "CountRounds", name := "longestUncounted", desc := "(I)I" } : MethodName)) ∈ gw := gw_2 142 (by decide +kernel) rfl
theorem wd_383 : (Cond.code ({ cls := "CountRounds", name := "longestUncounted", desc := "(I)I" } : MethodName) prog_1_method_38_code 4 (Option.some FieldType.int)) ∈ gw := gw_2 143 rfl rfl
theorem wd_384 : (Cond.constantLong "CountRounds" 302 (6364136223846793005 : Int64)) ∈ gw := gw_2 144 (by decide +kernel) rfl
theorem wd_385 : (Cond.constantLong "CountRounds" 304 (1442695040888963407 : Int64)) ∈ gw := gw_2 145 (by decide +kernel) rfl
theorem wd_386 : (Cond.methodLink "CountRounds" 306 ({ cls := "java/lang/System", name := "arraycopy", desc := "(Ljava/lang/Object;ILjava/lang/Object;II)V" } : MethodName)) ∈ gw := gw_2 146 (by decide +kernel) rfl
theorem wd_387 : (Cond.static ({ cls := "java/lang/System", name := "arraycopy", desc := "(Ljava/lang/Object;ILjava/lang/Object;II)V" } : MethodName)) ∈ gw := gw_2 147 (by decide +kernel) rfl
theorem wd_388 : (Cond.native ({ cls := "java/lang/System", name := "arraycopy", desc := "(Ljava/lang/Object;ILjava/lang/Object;II)V" } : MethodName)) ∈ gw := gw_2 148 (by decide +kernel) rfl
theorem wd_389 : (Cond.instantiable "CountRounds$Sheet" 11) ∈ gw := gw_2 149 (by decide +kernel) rfl
theorem wd_391 : (Cond.instanceMethod ({ cls := "CountRounds$Sheet", name := "<init>", desc := "([I)V" } : MethodName)) ∈ gw := gw_2 151 (by decide +kernel) rfl
theorem wd_392 : (Cond.code ({ cls := "CountRounds$Sheet", name := "<init>", desc := "([I)V" } : MethodName) prog_3_method_1_code 3 (Option.none : Option FieldType)) ∈ gw := gw_2 152 rfl rfl
theorem wd_393 : (Cond.methodLink "CountRounds$Sheet" 3 ({ cls := "java/lang/Object", name := "<init>", desc := "()V" } : MethodName)) ∈ gw := gw_2 153 (by decide +kernel) rfl
theorem wd_394 : (Cond.methodLink "CountRounds$Sheet" 41 ({ cls := "java/util/Arrays", name := "fill", desc := "([II)V" } : MethodName)) ∈ gw := gw_2 154 (by decide +kernel) rfl
theorem wd_395 : (Cond.fieldLink "CountRounds$Sheet" 15 "CountRounds$Sheet" "members" "[I") ∈ gw := gw_2 155 (by decide +kernel) rfl
theorem wd_397 : (Cond.fieldLink "CountRounds$Sheet" 19 "CountRounds$Sheet" "noted" "[I") ∈ gw := gw_2 157 (by decide +kernel) rfl
theorem wd_399 : (Cond.fieldLink "CountRounds$Sheet" 22 "CountRounds$Sheet" "pieces" "[I") ∈ gw := gw_2 159 (by decide +kernel) rfl
theorem wd_400 : (Cond.fieldLink "CountRounds$Sheet" 25 "CountRounds$Sheet" "firstFinders" "[I") ∈ gw := gw_2 160 (by decide +kernel) rfl
theorem wd_401 : (Cond.fieldLink "CountRounds$Sheet" 28 "CountRounds$Sheet" "secondFinders" "[I") ∈ gw := gw_2 161 (by decide +kernel) rfl
theorem wd_402 : (Cond.fieldLink "CountRounds$Sheet" 31 "CountRounds$Sheet" "askers" "[I") ∈ gw := gw_2 162 (by decide +kernel) rfl
theorem wd_404 : (Cond.fieldLink "CountRounds$Sheet" 34 "CountRounds$Sheet" "corrected" "[Z") ∈ gw := gw_2 164 (by decide +kernel) rfl
theorem wd_406 : (Cond.fieldLink "CountRounds$Sheet" 38 "CountRounds$Sheet" "differing" "[I") ∈ gw := gw_2 166 (by decide +kernel) rfl
theorem wd_407 : (Cond.fieldLink "CountRounds$Sheet" 50 "CountRounds$Sheet" "differences" "I") ∈ gw := gw_2 167 (by decide +kernel) rfl
theorem wd_409 : (Cond.fieldLink "CountRounds$Sheet" 47 "CountRounds$Sheet" "findings" "I") ∈ gw := gw_2 169 (by decide +kernel) rfl
theorem wd_411 : (Cond.fieldLink "CountRounds$Sheet" 9 "CountRounds$Sheet" "state" "I") ∈ gw := gw_2 171 (by decide +kernel) rfl
theorem wd_413 : (Cond.laysFinal "CountRounds$Sheet" "CountRounds$Sheet" "members" "[I") ∈ gw := gw_2 173 (by decide +kernel) rfl
theorem wd_415 : (Cond.laysFinal "CountRounds$Sheet" "CountRounds$Sheet" "noted" "[I") ∈ gw := gw_2 175 (by decide +kernel) rfl
theorem wd_417 : (Cond.laysFinal "CountRounds$Sheet" "CountRounds$Sheet" "pieces" "[I") ∈ gw := gw_2 177 (by decide +kernel) rfl
theorem wd_419 : (Cond.laysFinal "CountRounds$Sheet" "CountRounds$Sheet" "firstFinders" "[I") ∈ gw := gw_2 179 (by decide +kernel) rfl
theorem wd_421 : (Cond.laysFinal "CountRounds$Sheet" "CountRounds$Sheet" "secondFinders" "[I") ∈ gw := gw_2 181 (by decide +kernel) rfl
theorem wd_423 : (Cond.laysFinal "CountRounds$Sheet" "CountRounds$Sheet" "askers" "[I") ∈ gw := gw_2 183 (by decide +kernel) rfl
theorem wd_425 : (Cond.laysFinal "CountRounds$Sheet" "CountRounds$Sheet" "corrected" "[Z") ∈ gw := gw_2 185 (by decide +kernel) rfl
theorem wd_427 : (Cond.laysFinal "CountRounds$Sheet" "CountRounds$Sheet" "differing" "[I") ∈ gw := gw_2 187 (by decide +kernel) rfl
theorem wd_429 : (Cond.lays "CountRounds$Sheet" "CountRounds$Sheet" "differences" "I") ∈ gw := gw_2 189 (by decide +kernel) rfl
theorem wd_431 : (Cond.lays "CountRounds$Sheet" "CountRounds$Sheet" "findings" "I") ∈ gw := gw_2 191 (by decide +kernel) rfl
theorem wd_433 : (Cond.lays "CountRounds$Sheet" "CountRounds$Sheet" "state" "I") ∈ gw := gw_2 193 (by decide +kernel) rfl
theorem wd_436 : (Cond.arrayClass FieldType.boolean) ∈ gw := gw_2 196 (by decide +kernel) rfl
theorem wd_437 : (Cond.methodLink "CountRoundsLaw" 140 ({ cls := "CountRoundsLaw", name := "freeze", desc := "(LCountRounds;I[J)I" } : MethodName)) ∈ gw := gw_2 197 (by decide +kernel) rfl
theorem wd_438 : (Cond.static ({ cls := "CountRoundsLaw", name := "freeze", desc := "(LCountRounds;I[J)I" } : MethodName)) ∈ gw := gw_2 198 (by decide +kernel) rfl
theorem wd_439 : (Cond.codeWith ({ cls := "CountRoundsLaw", name := "freeze", desc := "(LCountRounds;I[J)I" } : MethodName) method_13_code 4 (Option.some FieldType.int) [(0, 9, 12, 21), (0, 9, 15, 37)]) ∈ gw := gw_2 199 rfl rfl
theorem wd_440 : (Cond.methodLink "CountRoundsLaw" 53 ({ cls := "CountRounds", name := "freeze", desc := "(I)I" } : MethodName)) ∈ gw := gw_2 200 (by decide +kernel) rfl
theorem wd_441 : (Cond.instanceMethod ({ cls := "CountRounds", name := "freeze", desc := "(I)I" } : MethodName)) ∈ gw := gw_2 201 (by decide +kernel) rfl
theorem wd_442 : (Cond.selects "CountRounds" ({ cls := "CountRounds", name := "freeze", desc := "(I)I" } : MethodName) ({ cls := "CountRounds", name := "freeze", desc := "(I)I" } : MethodName)) ∈ gw := gw_2 202 (by decide +kernel) rfl
theorem wd_443 : (Cond.code ({ cls := "CountRounds", name := "freeze", desc := "(I)I" } : MethodName) prog_1_method_12_code 3 (Option.some FieldType.int)) ∈ gw := gw_2 203 rfl rfl
theorem wd_444 : (Cond.methodLink "CountRounds" 173 ({ cls := "CountRounds", name := "sheetNumbered", desc := "(I)LCountRounds$Sheet;" } : MethodName)) ∈ gw := gw_2 204 (by decide +kernel) rfl
theorem wd_446 : (Cond.instanceMethod ({ cls := "CountRounds", name := "sheetNumbered", desc := "(I)LCountRounds$Sheet;" } : MethodName)) ∈ gw := gw_2 206 (by decide +kernel) rfl
theorem wd_447 : (Cond.code ({ cls := "CountRounds", name := "sheetNumbered", desc := "(I)LCountRounds$Sheet;" } : MethodName) prog_1_method_32_code 3 (Option.some (FieldType.object "CountRounds$Sheet"))) ∈ gw := gw_2 207 rfl rfl
theorem wd_450 : (Cond.methodLink "CountRounds" 182 ({ cls := "CountRounds", name := "hasOpenMoves", desc := "(LCountRounds$Sheet;)Z" } : MethodName)) ∈ gw := gw_2 210 (by decide +kernel) rfl
theorem wd_452 : (Cond.instanceMethod ({ cls := "CountRounds", name := "hasOpenMoves", desc := "(LCountRounds$Sheet;)Z" } : MethodName)) ∈ gw := gw_2 212 (by decide +kernel) rfl
theorem wd_453 : (Cond.code ({ cls := "CountRounds", name := "hasOpenMoves", desc := "(LCountRounds$Sheet;)Z" } : MethodName) prog_1_method_35_code 3 (Option.some FieldType.boolean)) ∈ gw := gw_2 213 rfl rfl
theorem wd_454 : (Cond.methodLink "CountRounds" 186 ({ cls := "CountRounds", name := "noteBooked", desc := "(LCountRounds$Sheet;)V" } : MethodName)) ∈ gw := gw_2 214 (by decide +kernel) rfl
theorem wd_456 : (Cond.instanceMethod ({ cls := "CountRounds", name := "noteBooked", desc := "(LCountRounds$Sheet;)V" } : MethodName)) ∈ gw := gw_2 216 (by decide +kernel) rfl
theorem wd_457 : (Cond.code ({ cls := "CountRounds", name := "noteBooked", desc := "(LCountRounds$Sheet;)V" } : MethodName) prog_1_method_39_code 5 (Option.none : Option FieldType)) ∈ gw := gw_2 217 rfl rfl
theorem wd_460 : (Cond.instanceMethod ({ cls := "CountRounds$Sheet", name := "positionOf", desc := "(I)I" } : MethodName)) ∈ gw := gw_2 220 (by decide +kernel) rfl
theorem wd_461 : (Cond.code ({ cls := "CountRounds$Sheet", name := "positionOf", desc := "(I)I" } : MethodName) prog_3_method_2_code 3 (Option.some FieldType.int)) ∈ gw := gw_2 221 rfl rfl
theorem wd_462 : (Cond.methodLink "CountRoundsLaw" 143 ({ cls := "CountRoundsLaw", name := "found", desc := "(LCountRounds;IIIII[J)I" } : MethodName)) ∈ gw := gw_2 222 (by decide +kernel) rfl
theorem wd_463 : (Cond.static ({ cls := "CountRoundsLaw", name := "found", desc := "(LCountRounds;IIIII[J)I" } : MethodName)) ∈ gw := gw_2 223 (by decide +kernel) rfl
theorem wd_464 : (Cond.codeWith ({ cls := "CountRoundsLaw", name := "found", desc := "(LCountRounds;IIIII[J)I" } : MethodName) method_14_code 8 (Option.some FieldType.int) [(0, 16, 19, 21), (0, 16, 23, 13)]) ∈ gw := gw_2 224 rfl rfl
theorem wd_465 : (Cond.methodLink "CountRoundsLaw" 56 ({ cls := "CountRounds", name := "found", desc := "(IIIII)I" } : MethodName)) ∈ gw := gw_2 225 (by decide +kernel) rfl
theorem wd_466 : (Cond.instanceMethod ({ cls := "CountRounds", name := "found", desc := "(IIIII)I" } : MethodName)) ∈ gw := gw_2 226 (by decide +kernel) rfl
theorem wd_467 : (Cond.selects "CountRounds" ({ cls := "CountRounds", name := "found", desc := "(IIIII)I" } : MethodName) ({ cls := "CountRounds", name := "found", desc := "(IIIII)I" } : MethodName)) ∈ gw := gw_2 227 (by decide +kernel) rfl
theorem wd_468 : (Cond.code ({ cls := "CountRounds", name := "found", desc := "(IIIII)I" } : MethodName) prog_1_method_13_code 8 (Option.some FieldType.int)) ∈ gw := gw_2 228 rfl rfl
theorem wd_472 : (Cond.instanceMethod ({ cls := "CountRounds$Sheet", name := "tell", desc := "(III)I" } : MethodName)) ∈ gw := gw_2 232 (by decide +kernel) rfl
theorem wd_473 : (Cond.code ({ cls := "CountRounds$Sheet", name := "tell", desc := "(III)I" } : MethodName) prog_3_method_3_code 4 (Option.some FieldType.int)) ∈ gw := gw_2 233 rfl rfl
theorem wd_474 : (Cond.methodLink "CountRoundsLaw" 147 ({ cls := "CountRoundsLaw", name := "second", desc := "(LCountRounds;III[J)I" } : MethodName)) ∈ gw := gw_2 234 (by decide +kernel) rfl
theorem wd_475 : (Cond.static ({ cls := "CountRoundsLaw", name := "second", desc := "(LCountRounds;III[J)I" } : MethodName)) ∈ gw := gw_2 235 (by decide +kernel) rfl
theorem wd_476 : (Cond.codeWith ({ cls := "CountRoundsLaw", name := "second", desc := "(LCountRounds;III[J)I" } : MethodName) method_15_code 6 (Option.some FieldType.int) [(0, 19, 22, 21), (0, 19, 26, 13), (0, 19, 30, 37)]) ∈ gw := gw_2 236 rfl rfl
theorem wd_477 : (Cond.methodLink "CountRoundsLaw" 60 ({ cls := "CountRounds", name := "second", desc := "(III)Z" } : MethodName)) ∈ gw := gw_2 237 (by decide +kernel) rfl
theorem wd_478 : (Cond.instanceMethod ({ cls := "CountRounds", name := "second", desc := "(III)Z" } : MethodName)) ∈ gw := gw_2 238 (by decide +kernel) rfl
theorem wd_479 : (Cond.selects "CountRounds" ({ cls := "CountRounds", name := "second", desc := "(III)Z" } : MethodName) ({ cls := "CountRounds", name := "second", desc := "(III)Z" } : MethodName)) ∈ gw := gw_2 239 (by decide +kernel) rfl
theorem wd_480 : (Cond.code ({ cls := "CountRounds", name := "second", desc := "(III)Z" } : MethodName) prog_1_method_14_code 8 (Option.some FieldType.boolean)) ∈ gw := gw_3 0 rfl rfl
theorem wd_486 : (Cond.instanceMethod ({ cls := "CountRounds$Sheet", name := "isToldOnce", desc := "(I)Z" } : MethodName)) ∈ gw := gw_3 6 (by decide +kernel) rfl
theorem wd_487 : (Cond.code ({ cls := "CountRounds$Sheet", name := "isToldOnce", desc := "(I)Z" } : MethodName) prog_3_method_4_code 2 (Option.some FieldType.boolean)) ∈ gw := gw_3 7 rfl rfl
theorem wd_490 : (Cond.instanceMethod ({ cls := "CountRounds$Sheet", name := "differenceOf", desc := "(I)I" } : MethodName)) ∈ gw := gw_3 10 (by decide +kernel) rfl
theorem wd_491 : (Cond.code ({ cls := "CountRounds$Sheet", name := "differenceOf", desc := "(I)I" } : MethodName) prog_3_method_7_code 2 (Option.some FieldType.int)) ∈ gw := gw_3 11 rfl rfl
theorem wd_492 : (Cond.methodLink "CountRounds" 217 ({ cls := "CountRounds", name := "isTolerated", desc := "(ILCountRounds$Place;)Z" } : MethodName)) ∈ gw := gw_3 12 (by decide +kernel) rfl
theorem wd_494 : (Cond.instanceMethod ({ cls := "CountRounds", name := "isTolerated", desc := "(ILCountRounds$Place;)Z" } : MethodName)) ∈ gw := gw_3 14 (by decide +kernel) rfl
theorem wd_495 : (Cond.code ({ cls := "CountRounds", name := "isTolerated", desc := "(ILCountRounds$Place;)Z" } : MethodName) prog_1_method_41_code 3 (Option.some FieldType.boolean)) ∈ gw := gw_3 15 rfl rfl
theorem wd_496 : (Cond.methodLink "CountRounds" 318 ({ cls := "java/lang/Math", name := "abs", desc := "(I)I" } : MethodName)) ∈ gw := gw_3 16 (by decide +kernel) rfl
theorem wd_497 : (Cond.static ({ cls := "java/lang/Math", name := "abs", desc := "(I)I" } : MethodName)) ∈ gw := gw_3 17 (by decide +kernel) rfl
theorem wd_498 : (Cond.code ({ cls := "java/lang/Math", name := "abs", desc := "(I)I" } : MethodName) prog_11_method_59_code 1 (Option.some FieldType.int)) ∈ gw := gw_3 18 rfl rfl
theorem wd_499 : (Cond.methodLink "CountRoundsLaw" 151 ({ cls := "CountRoundsLaw", name := "close", desc := "(LCountRounds;I[J)I" } : MethodName)) ∈ gw := gw_3 19 (by decide +kernel) rfl
theorem wd_500 : (Cond.static ({ cls := "CountRoundsLaw", name := "close", desc := "(LCountRounds;I[J)I" } : MethodName)) ∈ gw := gw_3 20 (by decide +kernel) rfl
theorem wd_501 : (Cond.codeWith ({ cls := "CountRoundsLaw", name := "close", desc := "(LCountRounds;I[J)I" } : MethodName) method_16_code 4 (Option.some FieldType.int) [(0, 9, 12, 21), (0, 9, 15, 37)]) ∈ gw := gw_3 21 rfl rfl
theorem wd_502 : (Cond.methodLink "CountRoundsLaw" 64 ({ cls := "CountRounds", name := "close", desc := "(I)I" } : MethodName)) ∈ gw := gw_3 22 (by decide +kernel) rfl
theorem wd_503 : (Cond.instanceMethod ({ cls := "CountRounds", name := "close", desc := "(I)I" } : MethodName)) ∈ gw := gw_3 23 (by decide +kernel) rfl
theorem wd_504 : (Cond.selects "CountRounds" ({ cls := "CountRounds", name := "close", desc := "(I)I" } : MethodName) ({ cls := "CountRounds", name := "close", desc := "(I)I" } : MethodName)) ∈ gw := gw_3 24 (by decide +kernel) rfl
theorem wd_505 : (Cond.code ({ cls := "CountRounds", name := "close", desc := "(I)I" } : MethodName) prog_1_method_15_code 5 (Option.some FieldType.int)) ∈ gw := gw_3 25 rfl rfl
theorem wd_508 : (Cond.instanceMethod ({ cls := "CountRounds$Sheet", name := "isPlaceTold", desc := "(I)Z" } : MethodName)) ∈ gw := gw_3 28 (by decide +kernel) rfl
theorem wd_509 : (Cond.code ({ cls := "CountRounds$Sheet", name := "isPlaceTold", desc := "(I)Z" } : MethodName) prog_3_method_5_code 3 (Option.some FieldType.boolean)) ∈ gw := gw_3 29 rfl rfl
theorem wd_510 : (Cond.methodLink "CountRounds" 227 ({ cls := "CountRounds", name := "countPlace", desc := "(LCountRounds$Sheet;ILCountRounds$Place;)V" } : MethodName)) ∈ gw := gw_3 30 (by decide +kernel) rfl
theorem wd_512 : (Cond.instanceMethod ({ cls := "CountRounds", name := "countPlace", desc := "(LCountRounds$Sheet;ILCountRounds$Place;)V" } : MethodName)) ∈ gw := gw_3 32 (by decide +kernel) rfl
theorem wd_513 : (Cond.code ({ cls := "CountRounds", name := "countPlace", desc := "(LCountRounds$Sheet;ILCountRounds$Place;)V" } : MethodName) prog_1_method_40_code 8 (Option.none : Option FieldType)) ∈ gw := gw_3 33 rfl rfl
theorem wd_516 : (Cond.instanceMethod ({ cls := "CountRounds$Sheet", name := "addDifference", desc := "(I)V" } : MethodName)) ∈ gw := gw_3 36 (by decide +kernel) rfl
theorem wd_517 : (Cond.code ({ cls := "CountRounds$Sheet", name := "addDifference", desc := "(I)V" } : MethodName) prog_3_method_8_code 2 (Option.none : Option FieldType)) ∈ gw := gw_3 37 rfl rfl
theorem wd_518 : (Cond.methodLink "CountRoundsLaw" 154 ({ cls := "CountRoundsLaw", name := "differ", desc := "(LCountRounds;III[J)I" } : MethodName)) ∈ gw := gw_3 38 (by decide +kernel) rfl
theorem wd_519 : (Cond.static ({ cls := "CountRoundsLaw", name := "differ", desc := "(LCountRounds;III[J)I" } : MethodName)) ∈ gw := gw_3 39 (by decide +kernel) rfl
theorem wd_520 : (Cond.codeWith ({ cls := "CountRoundsLaw", name := "differ", desc := "(LCountRounds;III[J)I" } : MethodName) method_17_code 6 (Option.some FieldType.int) [(0, 12, 15, 21), (0, 12, 19, 13)]) ∈ gw := gw_3 40 rfl rfl
theorem wd_521 : (Cond.methodLink "CountRoundsLaw" 67 ({ cls := "CountRounds", name := "differ", desc := "(III)I" } : MethodName)) ∈ gw := gw_3 41 (by decide +kernel) rfl
theorem wd_522 : (Cond.instanceMethod ({ cls := "CountRounds", name := "differ", desc := "(III)I" } : MethodName)) ∈ gw := gw_3 42 (by decide +kernel) rfl
theorem wd_523 : (Cond.selects "CountRounds" ({ cls := "CountRounds", name := "differ", desc := "(III)I" } : MethodName) ({ cls := "CountRounds", name := "differ", desc := "(III)I" } : MethodName)) ∈ gw := gw_3 43 (by decide +kernel) rfl
theorem wd_524 : (Cond.code ({ cls := "CountRounds", name := "differ", desc := "(III)I" } : MethodName) prog_1_method_16_code 6 (Option.some FieldType.int)) ∈ gw := gw_3 44 rfl rfl
theorem wd_527 : (Cond.instanceMethod ({ cls := "CountRounds$Sheet", name := "differingLine", desc := "(I)I" } : MethodName)) ∈ gw := gw_3 47 (by decide +kernel) rfl
theorem wd_528 : (Cond.code ({ cls := "CountRounds$Sheet", name := "differingLine", desc := "(I)I" } : MethodName) prog_3_method_9_code 2 (Option.some FieldType.int)) ∈ gw := gw_3 48 rfl rfl
theorem wd_532 : (Cond.instanceMethod ({ cls := "CountRounds$Sheet", name := "finderOf", desc := "(I)I" } : MethodName)) ∈ gw := gw_3 52 (by decide +kernel) rfl
theorem wd_533 : (Cond.code ({ cls := "CountRounds$Sheet", name := "finderOf", desc := "(I)I" } : MethodName) prog_3_method_6_code 2 (Option.some FieldType.int)) ∈ gw := gw_3 53 rfl rfl
theorem wd_535 : (Cond.methodLink "CountRoundsLaw" 157 ({ cls := "CountRoundsLaw", name := "correct", desc := "(LCountRounds;III[J)I" } : MethodName)) ∈ gw := gw_3 55 (by decide +kernel) rfl
theorem wd_536 : (Cond.static ({ cls := "CountRoundsLaw", name := "correct", desc := "(LCountRounds;III[J)I" } : MethodName)) ∈ gw := gw_3 56 (by decide +kernel) rfl
theorem wd_537 : (Cond.codeWith ({ cls := "CountRoundsLaw", name := "correct", desc := "(LCountRounds;III[J)I" } : MethodName) method_18_code 6 (Option.some FieldType.int) [(0, 19, 22, 21), (0, 19, 26, 13), (0, 19, 30, 37)]) ∈ gw := gw_3 57 rfl rfl
theorem wd_538 : (Cond.methodLink "CountRoundsLaw" 71 ({ cls := "CountRounds", name := "correct", desc := "(III)Z" } : MethodName)) ∈ gw := gw_3 58 (by decide +kernel) rfl
theorem wd_539 : (Cond.instanceMethod ({ cls := "CountRounds", name := "correct", desc := "(III)Z" } : MethodName)) ∈ gw := gw_3 59 (by decide +kernel) rfl
theorem wd_540 : (Cond.selects "CountRounds" ({ cls := "CountRounds", name := "correct", desc := "(III)Z" } : MethodName) ({ cls := "CountRounds", name := "correct", desc := "(III)Z" } : MethodName)) ∈ gw := gw_3 60 (by decide +kernel) rfl
theorem wd_541 : (Cond.code ({ cls := "CountRounds", name := "correct", desc := "(III)Z" } : MethodName) prog_1_method_17_code 8 (Option.some FieldType.boolean)) ∈ gw := gw_3 61 rfl rfl
theorem wd_544 : (Cond.methodLink "CountRounds" 255 ({ cls := "CountRounds", name := "mayCorrect", desc := "(LCountRounds$Sheet;II)Z" } : MethodName)) ∈ gw := gw_3 64 (by decide +kernel) rfl
theorem wd_546 : (Cond.instanceMethod ({ cls := "CountRounds", name := "mayCorrect", desc := "(LCountRounds$Sheet;II)Z" } : MethodName)) ∈ gw := gw_3 66 (by decide +kernel) rfl
theorem wd_547 : (Cond.code ({ cls := "CountRounds", name := "mayCorrect", desc := "(LCountRounds$Sheet;II)Z" } : MethodName) prog_1_method_42_code 7 (Option.some FieldType.boolean)) ∈ gw := gw_3 67 rfl rfl
theorem wd_549 : (Cond.methodLink "CountRoundsLaw" 160 ({ cls := "CountRoundsLaw", name := "share", desc := "(LCountRounds;I[J)I" } : MethodName)) ∈ gw := gw_3 69 (by decide +kernel) rfl
theorem wd_550 : (Cond.static ({ cls := "CountRoundsLaw", name := "share", desc := "(LCountRounds;I[J)I" } : MethodName)) ∈ gw := gw_3 70 (by decide +kernel) rfl
theorem wd_551 : (Cond.codeWith ({ cls := "CountRoundsLaw", name := "share", desc := "(LCountRounds;I[J)I" } : MethodName) method_19_code 4 (Option.some FieldType.int) [(0, 9, 12, 13), (0, 9, 15, 77)]) ∈ gw := gw_3 71 rfl rfl
theorem wd_552 : (Cond.classLink "CountRoundsLaw" 77 "java/lang/ArithmeticException") ∈ gw := gw_3 72 (by decide +kernel) rfl
theorem wd_553 : (Cond.methodLink "CountRoundsLaw" 74 ({ cls := "CountRounds", name := "share", desc := "(I)I" } : MethodName)) ∈ gw := gw_3 73 (by decide +kernel) rfl
theorem wd_554 : (Cond.instanceMethod ({ cls := "CountRounds", name := "share", desc := "(I)I" } : MethodName)) ∈ gw := gw_3 74 (by decide +kernel) rfl
theorem wd_555 : (Cond.selects "CountRounds" ({ cls := "CountRounds", name := "share", desc := "(I)I" } : MethodName) ({ cls := "CountRounds", name := "share", desc := "(I)I" } : MethodName)) ∈ gw := gw_3 75 (by decide +kernel) rfl
theorem wd_556 : (Cond.code ({ cls := "CountRounds", name := "share", desc := "(I)I" } : MethodName) prog_1_method_18_code 3 (Option.some FieldType.int)) ∈ gw := gw_3 76 rfl rfl
theorem wd_558 : (Cond.methodLink "CountRounds" 269 ({ cls := "CountRounds", name := "commonDivisor", desc := "(II)I" } : MethodName)) ∈ gw := gw_3 78 (by decide +kernel) rfl
theorem wd_559 : (Cond.static ({ cls := "CountRounds", name := "commonDivisor", desc := "(II)I" } : MethodName)) ∈ gw := gw_3 79 (by decide +kernel) rfl
theorem wd_560 : (Cond.code ({ cls := "CountRounds", name := "commonDivisor", desc := "(II)I" } : MethodName) prog_1_method_43_code 6 (Option.some FieldType.int)) ∈ gw := gw_3 80 rfl rfl
theorem wd_561 : (Cond.classLink "CountRounds" 272 "java/lang/ArithmeticException") ∈ gw := gw_3 81 (by decide +kernel) rfl
theorem wd_562 : (Cond.instantiable "java/lang/ArithmeticException" 6) ∈ gw := gw_3 82 (by decide +kernel) rfl
theorem wd_564 : (Cond.selects "java/lang/ArithmeticException" ({ cls := "java/lang/Throwable", name := "fillInStackTrace", desc := "(I)Ljava/lang/Throwable;" } : MethodName) ({ cls := "java/lang/Throwable", name := "fillInStackTrace", desc := "(I)Ljava/lang/Throwable;" } : MethodName)) ∈ gw := gw_3 84 (by decide +kernel) rfl
theorem wd_565 : (Cond.lays "java/lang/ArithmeticException" "java/lang/Throwable" "cause" "Ljava/lang/Throwable;") ∈ gw := gw_3 85 (by decide +kernel) rfl
theorem wd_566 : (Cond.lays "java/lang/ArithmeticException" "java/lang/Throwable" "stackTrace" "[Ljava/lang/StackTraceElement;") ∈ gw := gw_3 86 (by decide +kernel) rfl
theorem wd_567 : (Cond.lays "java/lang/ArithmeticException" "java/lang/Throwable" "suppressedExceptions" "Ljava/util/List;") ∈ gw := gw_3 87 (by decide +kernel) rfl
theorem wd_568 : (Cond.lays "java/lang/ArithmeticException" "java/lang/Throwable" "detailMessage" "Ljava/lang/String;") ∈ gw := gw_3 88 (by decide +kernel) rfl
theorem wd_569 : (Cond.lays "java/lang/ArithmeticException" "java/lang/Throwable" "backtrace" "Ljava/lang/Object;") ∈ gw := gw_3 89 (by decide +kernel) rfl
theorem wd_571 : (Cond.methodLink "CountRounds" 276 ({ cls := "java/lang/ArithmeticException", name := "<init>", desc := "(Ljava/lang/String;)V" } : MethodName)) ∈ gw := gw_3 91 (by decide +kernel) rfl
theorem wd_572 : (Cond.instanceMethod ({ cls := "java/lang/ArithmeticException", name := "<init>", desc := "(Ljava/lang/String;)V" } : MethodName)) ∈ gw := gw_3 92 (by decide +kernel) rfl
theorem wd_573 : (Cond.code ({ cls := "java/lang/ArithmeticException", name := "<init>", desc := "(Ljava/lang/String;)V" } : MethodName) prog_7_method_2_code 2 (Option.none : Option FieldType)) ∈ gw := gw_3 93 rfl rfl
theorem wd_574 : (Cond.methodLink "java/lang/ArithmeticException" 7 ({ cls := "java/lang/RuntimeException", name := "<init>", desc := "(Ljava/lang/String;)V" } : MethodName)) ∈ gw := gw_3 94 (by decide +kernel) rfl
theorem wd_575 : (Cond.lays "java/lang/ArithmeticException" "java/lang/Throwable" "depth" "I") ∈ gw := gw_3 95 (by decide +kernel) rfl
theorem wd_577 : (Cond.methodLink "CountRoundsLaw" 163 ({ cls := "CountRoundsLaw", name := "last", desc := "(LCountRounds;I[J)I" } : MethodName)) ∈ gw := gw_3 97 (by decide +kernel) rfl
theorem wd_578 : (Cond.static ({ cls := "CountRoundsLaw", name := "last", desc := "(LCountRounds;I[J)I" } : MethodName)) ∈ gw := gw_3 98 (by decide +kernel) rfl
theorem wd_579 : (Cond.codeWith ({ cls := "CountRoundsLaw", name := "last", desc := "(LCountRounds;I[J)I" } : MethodName) method_20_code 4 (Option.some FieldType.int) [(0, 9, 12, 21)]) ∈ gw := gw_3 99 rfl rfl
theorem wd_580 : (Cond.methodLink "CountRoundsLaw" 79 ({ cls := "CountRounds", name := "last", desc := "(I)I" } : MethodName)) ∈ gw := gw_3 100 (by decide +kernel) rfl
theorem wd_581 : (Cond.instanceMethod ({ cls := "CountRounds", name := "last", desc := "(I)I" } : MethodName)) ∈ gw := gw_3 101 (by decide +kernel) rfl
theorem wd_582 : (Cond.selects "CountRounds" ({ cls := "CountRounds", name := "last", desc := "(I)I" } : MethodName) ({ cls := "CountRounds", name := "last", desc := "(I)I" } : MethodName)) ∈ gw := gw_3 102 (by decide +kernel) rfl
theorem wd_583 : (Cond.code ({ cls := "CountRounds", name := "last", desc := "(I)I" } : MethodName) prog_1_method_19_code 2 (Option.some FieldType.int)) ∈ gw := gw_3 103 rfl rfl
theorem wd_584 : (Cond.methodLink "CountRoundsLaw" 166 ({ cls := "CountRoundsLaw", name := "due", desc := "(LCountRounds;I[J)I" } : MethodName)) ∈ gw := gw_3 104 (by decide +kernel) rfl
theorem wd_585 : (Cond.static ({ cls := "CountRoundsLaw", name := "due", desc := "(LCountRounds;I[J)I" } : MethodName)) ∈ gw := gw_3 105 (by decide +kernel) rfl
theorem wd_586 : (Cond.codeWith ({ cls := "CountRoundsLaw", name := "due", desc := "(LCountRounds;I[J)I" } : MethodName) method_21_code 4 (Option.some FieldType.int) [(0, 9, 12, 13)]) ∈ gw := gw_3 106 rfl rfl
theorem wd_587 : (Cond.methodLink "CountRoundsLaw" 82 ({ cls := "CountRounds", name := "due", desc := "(I)I" } : MethodName)) ∈ gw := gw_3 107 (by decide +kernel) rfl
theorem wd_588 : (Cond.instanceMethod ({ cls := "CountRounds", name := "due", desc := "(I)I" } : MethodName)) ∈ gw := gw_3 108 (by decide +kernel) rfl
theorem wd_589 : (Cond.selects "CountRounds" ({ cls := "CountRounds", name := "due", desc := "(I)I" } : MethodName) ({ cls := "CountRounds", name := "due", desc := "(I)I" } : MethodName)) ∈ gw := gw_3 109 (by decide +kernel) rfl
theorem wd_590 : (Cond.code ({ cls := "CountRounds", name := "due", desc := "(I)I" } : MethodName) prog_1_method_20_code 5 (Option.some FieldType.int)) ∈ gw := gw_3 110 rfl rfl
theorem wd_591 : (Cond.methodLink "CountRoundsLaw" 169 ({ cls := "CountRoundsLaw", name := "booked", desc := "(LCountRounds;II[J)I" } : MethodName)) ∈ gw := gw_3 111 (by decide +kernel) rfl
theorem wd_592 : (Cond.static ({ cls := "CountRoundsLaw", name := "booked", desc := "(LCountRounds;II[J)I" } : MethodName)) ∈ gw := gw_3 112 (by decide +kernel) rfl
theorem wd_593 : (Cond.codeWith ({ cls := "CountRoundsLaw", name := "booked", desc := "(LCountRounds;II[J)I" } : MethodName) method_22_code 5 (Option.some FieldType.int) [(0, 10, 13, 21), (0, 10, 17, 13)]) ∈ gw := gw_3 113 rfl rfl
theorem wd_594 : (Cond.methodLink "CountRoundsLaw" 85 ({ cls := "CountRounds", name := "booked", desc := "(II)I" } : MethodName)) ∈ gw := gw_3 114 (by decide +kernel) rfl
theorem wd_595 : (Cond.instanceMethod ({ cls := "CountRounds", name := "booked", desc := "(II)I" } : MethodName)) ∈ gw := gw_3 115 (by decide +kernel) rfl
theorem wd_596 : (Cond.selects "CountRounds" ({ cls := "CountRounds", name := "booked", desc := "(II)I" } : MethodName) ({ cls := "CountRounds", name := "booked", desc := "(II)I" } : MethodName)) ∈ gw := gw_3 116 (by decide +kernel) rfl
theorem wd_597 : (Cond.code ({ cls := "CountRounds", name := "booked", desc := "(II)I" } : MethodName) prog_1_method_21_code 4 (Option.some FieldType.int)) ∈ gw := gw_3 117 rfl rfl
theorem wd_598 : (Cond.methodLink "CountRoundsLaw" 173 ({ cls := "CountRoundsLaw", name := "told", desc := "(LCountRounds;II[J)I" } : MethodName)) ∈ gw := gw_3 118 (by decide +kernel) rfl
theorem wd_599 : (Cond.static ({ cls := "CountRoundsLaw", name := "told", desc := "(LCountRounds;II[J)I" } : MethodName)) ∈ gw := gw_3 119 (by decide +kernel) rfl
theorem wd_600 : (Cond.codeWith ({ cls := "CountRoundsLaw", name := "told", desc := "(LCountRounds;II[J)I" } : MethodName) method_23_code 5 (Option.some FieldType.int) [(0, 10, 13, 21), (0, 10, 17, 13)]) ∈ gw := gw_3 120 rfl rfl
theorem wd_601 : (Cond.methodLink "CountRoundsLaw" 89 ({ cls := "CountRounds", name := "told", desc := "(II)I" } : MethodName)) ∈ gw := gw_3 121 (by decide +kernel) rfl
theorem wd_602 : (Cond.instanceMethod ({ cls := "CountRounds", name := "told", desc := "(II)I" } : MethodName)) ∈ gw := gw_3 122 (by decide +kernel) rfl
theorem wd_603 : (Cond.selects "CountRounds" ({ cls := "CountRounds", name := "told", desc := "(II)I" } : MethodName) ({ cls := "CountRounds", name := "told", desc := "(II)I" } : MethodName)) ∈ gw := gw_3 123 (by decide +kernel) rfl
theorem wd_604 : (Cond.code ({ cls := "CountRounds", name := "told", desc := "(II)I" } : MethodName) prog_1_method_22_code 5 (Option.some FieldType.int)) ∈ gw := gw_3 124 rfl rfl
theorem wd_605 : (Cond.classLink "CountRoundsLaw" 93 "CountRoundsModel") ∈ gw := gw_3 125 (by decide +kernel) rfl
theorem wd_606 : (Cond.instantiable "CountRoundsModel" 29) ∈ gw := gw_3 126 (by decide +kernel) rfl
theorem wd_607 : (Cond.methodLink "CountRoundsLaw" 95 ({ cls := "CountRoundsModel", name := "<init>", desc := "()V" } : MethodName)) ∈ gw := gw_3 127 (by decide +kernel) rfl
theorem wd_608 : (Cond.instanceMethod ({ cls := "CountRoundsModel", name := "<init>", desc := "()V" } : MethodName)) ∈ gw := gw_3 128 (by decide +kernel) rfl
theorem wd_609 : (Cond.code ({ cls := "CountRoundsModel", name := "<init>", desc := "()V" } : MethodName) prog_6_method_1_code 1 (Option.none : Option FieldType)) ∈ gw := gw_3 129 rfl rfl
theorem wd_610 : (Cond.methodLink "CountRoundsModel" 1 ({ cls := "java/lang/Object", name := "<init>", desc := "()V" } : MethodName)) ∈ gw := gw_3 130 (by decide +kernel) rfl
theorem wd_611 : (Cond.fieldLink "CountRoundsModel" 74 "CountRoundsModel" "code" "I") ∈ gw := gw_3 131 (by decide +kernel) rfl
theorem wd_612 : (Cond.fieldLink "CountRoundsModel" 102 "CountRoundsModel" "today" "I") ∈ gw := gw_3 132 (by decide +kernel) rfl
theorem wd_613 : (Cond.fieldLink "CountRoundsModel" 99 "CountRoundsModel" "wait" "I") ∈ gw := gw_3 133 (by decide +kernel) rfl
theorem wd_614 : (Cond.fieldLink "CountRoundsModel" 78 "CountRoundsModel" "places" "I") ∈ gw := gw_3 134 (by decide +kernel) rfl
theorem wd_615 : (Cond.fieldLink "CountRoundsModel" 7 "CountRoundsModel" "classOf" "[I") ∈ gw := gw_3 135 (by decide +kernel) rfl
theorem wd_616 : (Cond.fieldLink "CountRoundsModel" 13 "CountRoundsModel" "lastDay" "[I") ∈ gw := gw_3 136 (by decide +kernel) rfl
theorem wd_617 : (Cond.fieldLink "CountRoundsModel" 16 "CountRoundsModel" "booked" "[I") ∈ gw := gw_3 137 (by decide +kernel) rfl
theorem wd_618 : (Cond.fieldLink "CountRoundsModel" 19 "CountRoundsModel" "cycles" "[I") ∈ gw := gw_3 138 (by decide +kernel) rfl
theorem wd_619 : (Cond.fieldLink "CountRoundsModel" 22 "CountRoundsModel" "tolerances" "[I") ∈ gw := gw_3 139 (by decide +kernel) rfl
theorem wd_620 : (Cond.fieldLink "CountRoundsModel" 25 "CountRoundsModel" "rights" "[I") ∈ gw := gw_3 140 (by decide +kernel) rfl
theorem wd_621 : (Cond.fieldLink "CountRoundsModel" 105 "CountRoundsModel" "moves" "I") ∈ gw := gw_3 141 (by decide +kernel) rfl
theorem wd_622 : (Cond.fieldLink "CountRoundsModel" 28 "CountRoundsModel" "moveFrom" "[I") ∈ gw := gw_3 142 (by decide +kernel) rfl
theorem wd_623 : (Cond.fieldLink "CountRoundsModel" 31 "CountRoundsModel" "moveTo" "[I") ∈ gw := gw_3 143 (by decide +kernel) rfl
theorem wd_624 : (Cond.fieldLink "CountRoundsModel" 34 "CountRoundsModel" "moveGood" "[I") ∈ gw := gw_3 144 (by decide +kernel) rfl
theorem wd_625 : (Cond.fieldLink "CountRoundsModel" 37 "CountRoundsModel" "moveMany" "[I") ∈ gw := gw_3 145 (by decide +kernel) rfl
theorem wd_626 : (Cond.fieldLink "CountRoundsModel" 40 "CountRoundsModel" "ended" "[Z") ∈ gw := gw_3 146 (by decide +kernel) rfl
theorem wd_627 : (Cond.fieldLink "CountRoundsModel" 85 "CountRoundsModel" "counts" "I") ∈ gw := gw_3 147 (by decide +kernel) rfl
theorem wd_628 : (Cond.fieldLink "CountRoundsModel" 44 "CountRoundsModel" "state" "[I") ∈ gw := gw_3 148 (by decide +kernel) rfl
theorem wd_629 : (Cond.fieldLink "CountRoundsModel" 47 "CountRoundsModel" "size" "[I") ∈ gw := gw_3 149 (by decide +kernel) rfl
theorem wd_630 : (Cond.fieldLink "CountRoundsModel" 50 "CountRoundsModel" "tellings" "[I") ∈ gw := gw_3 150 (by decide +kernel) rfl
theorem wd_631 : (Cond.fieldLink "CountRoundsModel" 53 "CountRoundsModel" "placeAt" "[I") ∈ gw := gw_3 151 (by decide +kernel) rfl
theorem wd_632 : (Cond.fieldLink "CountRoundsModel" 56 "CountRoundsModel" "noted" "[I") ∈ gw := gw_3 152 (by decide +kernel) rfl
theorem wd_633 : (Cond.fieldLink "CountRoundsModel" 59 "CountRoundsModel" "first" "[I") ∈ gw := gw_3 153 (by decide +kernel) rfl
theorem wd_634 : (Cond.fieldLink "CountRoundsModel" 62 "CountRoundsModel" "second" "[I") ∈ gw := gw_3 154 (by decide +kernel) rfl
theorem wd_635 : (Cond.fieldLink "CountRoundsModel" 65 "CountRoundsModel" "tellers" "[I") ∈ gw := gw_3 155 (by decide +kernel) rfl
theorem wd_636 : (Cond.fieldLink "CountRoundsModel" 68 "CountRoundsModel" "marks" "[I") ∈ gw := gw_3 156 (by decide +kernel) rfl
theorem wd_637 : (Cond.fieldLink "CountRoundsModel" 158 "CountRoundsModel" "counted" "I") ∈ gw := gw_3 157 (by decide +kernel) rfl
theorem wd_638 : (Cond.fieldLink "CountRoundsModel" 161 "CountRoundsModel" "right" "I") ∈ gw := gw_3 158 (by decide +kernel) rfl
theorem wd_639 : (Cond.fieldLink "CountRoundsModel" 71 "CountRoundsModel" "left" "[Z") ∈ gw := gw_3 159 (by decide +kernel) rfl
theorem wd_640 : (Cond.lays "CountRoundsModel" "CountRoundsModel" "code" "I") ∈ gw := gw_3 160 (by decide +kernel) rfl
theorem wd_642 : (Cond.lays "CountRoundsModel" "CountRoundsModel" "today" "I") ∈ gw := gw_3 162 (by decide +kernel) rfl
theorem wd_644 : (Cond.lays "CountRoundsModel" "CountRoundsModel" "wait" "I") ∈ gw := gw_3 164 (by decide +kernel) rfl
theorem wd_646 : (Cond.lays "CountRoundsModel" "CountRoundsModel" "places" "I") ∈ gw := gw_3 166 (by decide +kernel) rfl
theorem wd_648 : (Cond.laysFinal "CountRoundsModel" "CountRoundsModel" "classOf" "[I") ∈ gw := gw_3 168 (by decide +kernel) rfl
theorem wd_650 : (Cond.laysFinal "CountRoundsModel" "CountRoundsModel" "lastDay" "[I") ∈ gw := gw_3 170 (by decide +kernel) rfl
theorem wd_652 : (Cond.laysFinal "CountRoundsModel" "CountRoundsModel" "booked" "[I") ∈ gw := gw_3 172 (by decide +kernel) rfl
theorem wd_654 : (Cond.laysFinal "CountRoundsModel" "CountRoundsModel" "cycles" "[I") ∈ gw := gw_3 174 (by decide +kernel) rfl
theorem wd_656 : (Cond.laysFinal "CountRoundsModel" "CountRoundsModel" "tolerances" "[I") ∈ gw := gw_3 176 (by decide +kernel) rfl
theorem wd_658 : (Cond.laysFinal "CountRoundsModel" "CountRoundsModel" "rights" "[I") ∈ gw := gw_3 178 (by decide +kernel) rfl
theorem wd_660 : (Cond.lays "CountRoundsModel" "CountRoundsModel" "moves" "I") ∈ gw := gw_3 180 (by decide +kernel) rfl
theorem wd_662 : (Cond.laysFinal "CountRoundsModel" "CountRoundsModel" "moveFrom" "[I") ∈ gw := gw_3 182 (by decide +kernel) rfl
theorem wd_664 : (Cond.laysFinal "CountRoundsModel" "CountRoundsModel" "moveTo" "[I") ∈ gw := gw_3 184 (by decide +kernel) rfl
theorem wd_666 : (Cond.laysFinal "CountRoundsModel" "CountRoundsModel" "moveGood" "[I") ∈ gw := gw_3 186 (by decide +kernel) rfl
theorem wd_668 : (Cond.laysFinal "CountRoundsModel" "CountRoundsModel" "moveMany" "[I") ∈ gw := gw_3 188 (by decide +kernel) rfl
theorem wd_670 : (Cond.laysFinal "CountRoundsModel" "CountRoundsModel" "ended" "[Z") ∈ gw := gw_3 190 (by decide +kernel) rfl
theorem wd_672 : (Cond.lays "CountRoundsModel" "CountRoundsModel" "counts" "I") ∈ gw := gw_3 192 (by decide +kernel) rfl
theorem wd_674 : (Cond.laysFinal "CountRoundsModel" "CountRoundsModel" "state" "[I") ∈ gw := gw_3 194 (by decide +kernel) rfl
theorem wd_676 : (Cond.laysFinal "CountRoundsModel" "CountRoundsModel" "size" "[I") ∈ gw := gw_3 196 (by decide +kernel) rfl
theorem wd_678 : (Cond.laysFinal "CountRoundsModel" "CountRoundsModel" "tellings" "[I") ∈ gw := gw_3 198 (by decide +kernel) rfl
theorem wd_680 : (Cond.laysFinal "CountRoundsModel" "CountRoundsModel" "placeAt" "[I") ∈ gw := gw_3 200 (by decide +kernel) rfl
theorem wd_682 : (Cond.laysFinal "CountRoundsModel" "CountRoundsModel" "noted" "[I") ∈ gw := gw_3 202 (by decide +kernel) rfl
theorem wd_684 : (Cond.laysFinal "CountRoundsModel" "CountRoundsModel" "first" "[I") ∈ gw := gw_3 204 (by decide +kernel) rfl
theorem wd_686 : (Cond.laysFinal "CountRoundsModel" "CountRoundsModel" "second" "[I") ∈ gw := gw_3 206 (by decide +kernel) rfl
theorem wd_688 : (Cond.laysFinal "CountRoundsModel" "CountRoundsModel" "tellers" "[I") ∈ gw := gw_3 208 (by decide +kernel) rfl
theorem wd_690 : (Cond.laysFinal "CountRoundsModel" "CountRoundsModel" "marks" "[I") ∈ gw := gw_3 210 (by decide +kernel) rfl
theorem wd_692 : (Cond.lays "CountRoundsModel" "CountRoundsModel" "counted" "I") ∈ gw := gw_3 212 (by decide +kernel) rfl
theorem wd_694 : (Cond.lays "CountRoundsModel" "CountRoundsModel" "right" "I") ∈ gw := gw_3 214 (by decide +kernel) rfl
theorem wd_696 : (Cond.laysFinal "CountRoundsModel" "CountRoundsModel" "left" "[Z") ∈ gw := gw_3 216 (by decide +kernel) rfl
theorem wd_699 : (Cond.methodLink "CountRoundsLaw" 102 ({ cls := "CountRoundsModel", name := "thrown", desc := "()I" } : MethodName)) ∈ gw := gw_3 219 (by decide +kernel) rfl
theorem wd_700 : (Cond.instanceMethod ({ cls := "CountRoundsModel", name := "thrown", desc := "()I" } : MethodName)) ∈ gw := gw_3 220 (by decide +kernel) rfl
theorem wd_701 : (Cond.selects "CountRoundsModel" ({ cls := "CountRoundsModel", name := "thrown", desc := "()I" } : MethodName) ({ cls := "CountRoundsModel", name := "thrown", desc := "()I" } : MethodName)) ∈ gw := gw_3 221 (by decide +kernel) rfl
theorem wd_702 : (Cond.code ({ cls := "CountRoundsModel", name := "thrown", desc := "()I" } : MethodName) prog_6_method_2_code 1 (Option.some FieldType.int)) ∈ gw := gw_3 222 rfl rfl
theorem wd_703 : (Cond.methodLink "CountRoundsLaw" 101 ({ cls := "CountRoundsModel", name := "place", desc := "(I)I" } : MethodName)) ∈ gw := gw_3 223 (by decide +kernel) rfl
theorem wd_704 : (Cond.instanceMethod ({ cls := "CountRoundsModel", name := "place", desc := "(I)I" } : MethodName)) ∈ gw := gw_3 224 (by decide +kernel) rfl
theorem wd_705 : (Cond.selects "CountRoundsModel" ({ cls := "CountRoundsModel", name := "place", desc := "(I)I" } : MethodName) ({ cls := "CountRoundsModel", name := "place", desc := "(I)I" } : MethodName)) ∈ gw := gw_3 225 (by decide +kernel) rfl
theorem wd_706 : (Cond.code ({ cls := "CountRoundsModel", name := "place", desc := "(I)I" } : MethodName) prog_6_method_8_code 2 (Option.some FieldType.int)) ∈ gw := gw_3 226 rfl rfl
theorem wd_707 : (Cond.methodLink "CountRoundsModel" 81 ({ cls := "CountRoundsModel", name := "in", desc := "(III)Z" } : MethodName)) ∈ gw := gw_3 227 (by decide +kernel) rfl
theorem wd_708 : (Cond.static ({ cls := "CountRoundsModel", name := "in", desc := "(III)Z" } : MethodName)) ∈ gw := gw_3 228 (by decide +kernel) rfl
theorem wd_709 : (Cond.code ({ cls := "CountRoundsModel", name := "in", desc := "(III)Z" } : MethodName) prog_6_method_3_code 3 (Option.some FieldType.boolean)) ∈ gw := gw_3 229 rfl rfl
theorem wd_710 : (Cond.methodLink "CountRoundsLaw" 109 ({ cls := "CountRoundsModel", name := "stock", desc := "(III)V" } : MethodName)) ∈ gw := gw_3 230 (by decide +kernel) rfl
theorem wd_711 : (Cond.instanceMethod ({ cls := "CountRoundsModel", name := "stock", desc := "(III)V" } : MethodName)) ∈ gw := gw_3 231 (by decide +kernel) rfl
theorem wd_712 : (Cond.selects "CountRoundsModel" ({ cls := "CountRoundsModel", name := "stock", desc := "(III)V" } : MethodName) ({ cls := "CountRoundsModel", name := "stock", desc := "(III)V" } : MethodName)) ∈ gw := gw_3 232 (by decide +kernel) rfl
theorem wd_713 : (Cond.code ({ cls := "CountRoundsModel", name := "stock", desc := "(III)V" } : MethodName) prog_6_method_9_code 4 (Option.none : Option FieldType)) ∈ gw := gw_3 233 rfl rfl
theorem wd_714 : (Cond.methodLink "CountRoundsModel" 88 ({ cls := "CountRoundsModel", name := "isPlace", desc := "(I)Z" } : MethodName)) ∈ gw := gw_3 234 (by decide +kernel) rfl
theorem wd_716 : (Cond.instanceMethod ({ cls := "CountRoundsModel", name := "isPlace", desc := "(I)Z" } : MethodName)) ∈ gw := gw_3 236 (by decide +kernel) rfl
theorem wd_717 : (Cond.code ({ cls := "CountRoundsModel", name := "isPlace", desc := "(I)Z" } : MethodName) prog_6_method_4_code 2 (Option.some FieldType.boolean)) ∈ gw := gw_3 237 rfl rfl
theorem wd_718 : (Cond.methodLink "CountRoundsModel" 92 ({ cls := "CountRoundsModel", name := "isGood", desc := "(I)Z" } : MethodName)) ∈ gw := gw_3 238 (by decide +kernel) rfl
theorem wd_719 : (Cond.static ({ cls := "CountRoundsModel", name := "isGood", desc := "(I)Z" } : MethodName)) ∈ gw := gw_3 239 (by decide +kernel) rfl
theorem wd_720 : (Cond.code ({ cls := "CountRoundsModel", name := "isGood", desc := "(I)Z" } : MethodName) prog_6_method_5_code 1 (Option.some FieldType.boolean)) ∈ gw := gw_4 0 rfl rfl
theorem wd_721 : (Cond.constant "CountRoundsModel" 95 (1000000 : Int32)) ∈ gw := gw_4 1 (by decide +kernel) rfl
theorem wd_722 : (Cond.methodLink "CountRoundsLaw" 112 ({ cls := "CountRoundsModel", name := "cycle", desc := "(III)V" } : MethodName)) ∈ gw := gw_4 2 (by decide +kernel) rfl
theorem wd_723 : (Cond.instanceMethod ({ cls := "CountRoundsModel", name := "cycle", desc := "(III)V" } : MethodName)) ∈ gw := gw_4 3 (by decide +kernel) rfl
theorem wd_724 : (Cond.selects "CountRoundsModel" ({ cls := "CountRoundsModel", name := "cycle", desc := "(III)V" } : MethodName) ({ cls := "CountRoundsModel", name := "cycle", desc := "(III)V" } : MethodName)) ∈ gw := gw_4 4 (by decide +kernel) rfl
theorem wd_725 : (Cond.code ({ cls := "CountRoundsModel", name := "cycle", desc := "(III)V" } : MethodName) prog_6_method_10_code 4 (Option.none : Option FieldType)) ∈ gw := gw_4 5 rfl rfl
theorem wd_726 : (Cond.methodLink "CountRoundsLaw" 116 ({ cls := "CountRoundsModel", name := "right", desc := "(II)V" } : MethodName)) ∈ gw := gw_4 6 (by decide +kernel) rfl
theorem wd_727 : (Cond.instanceMethod ({ cls := "CountRoundsModel", name := "right", desc := "(II)V" } : MethodName)) ∈ gw := gw_4 7 (by decide +kernel) rfl
theorem wd_728 : (Cond.selects "CountRoundsModel" ({ cls := "CountRoundsModel", name := "right", desc := "(II)V" } : MethodName) ({ cls := "CountRoundsModel", name := "right", desc := "(II)V" } : MethodName)) ∈ gw := gw_4 8 (by decide +kernel) rfl
theorem wd_729 : (Cond.code ({ cls := "CountRoundsModel", name := "right", desc := "(II)V" } : MethodName) prog_6_method_11_code 3 (Option.none : Option FieldType)) ∈ gw := gw_4 9 rfl rfl
theorem wd_730 : (Cond.methodLink "CountRoundsModel" 96 ({ cls := "CountRoundsModel", name := "isPerson", desc := "(I)Z" } : MethodName)) ∈ gw := gw_4 10 (by decide +kernel) rfl
theorem wd_731 : (Cond.static ({ cls := "CountRoundsModel", name := "isPerson", desc := "(I)Z" } : MethodName)) ∈ gw := gw_4 11 (by decide +kernel) rfl
theorem wd_732 : (Cond.code ({ cls := "CountRoundsModel", name := "isPerson", desc := "(I)Z" } : MethodName) prog_6_method_6_code 1 (Option.some FieldType.boolean)) ∈ gw := gw_4 12 rfl rfl
theorem wd_733 : (Cond.methodLink "CountRoundsLaw" 120 ({ cls := "CountRoundsModel", name := "setting", desc := "(I)V" } : MethodName)) ∈ gw := gw_4 13 (by decide +kernel) rfl
theorem wd_734 : (Cond.instanceMethod ({ cls := "CountRoundsModel", name := "setting", desc := "(I)V" } : MethodName)) ∈ gw := gw_4 14 (by decide +kernel) rfl
theorem wd_735 : (Cond.selects "CountRoundsModel" ({ cls := "CountRoundsModel", name := "setting", desc := "(I)V" } : MethodName) ({ cls := "CountRoundsModel", name := "setting", desc := "(I)V" } : MethodName)) ∈ gw := gw_4 15 (by decide +kernel) rfl
theorem wd_736 : (Cond.code ({ cls := "CountRoundsModel", name := "setting", desc := "(I)V" } : MethodName) prog_6_method_12_code 2 (Option.none : Option FieldType)) ∈ gw := gw_4 16 rfl rfl
theorem wd_737 : (Cond.methodLink "CountRoundsLaw" 123 ({ cls := "CountRoundsModel", name := "day", desc := "(I)V" } : MethodName)) ∈ gw := gw_4 17 (by decide +kernel) rfl
theorem wd_738 : (Cond.instanceMethod ({ cls := "CountRoundsModel", name := "day", desc := "(I)V" } : MethodName)) ∈ gw := gw_4 18 (by decide +kernel) rfl
theorem wd_739 : (Cond.selects "CountRoundsModel" ({ cls := "CountRoundsModel", name := "day", desc := "(I)V" } : MethodName) ({ cls := "CountRoundsModel", name := "day", desc := "(I)V" } : MethodName)) ∈ gw := gw_4 19 (by decide +kernel) rfl
theorem wd_740 : (Cond.code ({ cls := "CountRoundsModel", name := "day", desc := "(I)V" } : MethodName) prog_6_method_13_code 2 (Option.none : Option FieldType)) ∈ gw := gw_4 20 rfl rfl
theorem wd_741 : (Cond.methodLink "CountRoundsLaw" 127 ({ cls := "CountRoundsModel", name := "move", desc := "(IIII)I" } : MethodName)) ∈ gw := gw_4 21 (by decide +kernel) rfl
theorem wd_742 : (Cond.instanceMethod ({ cls := "CountRoundsModel", name := "move", desc := "(IIII)I" } : MethodName)) ∈ gw := gw_4 22 (by decide +kernel) rfl
theorem wd_743 : (Cond.selects "CountRoundsModel" ({ cls := "CountRoundsModel", name := "move", desc := "(IIII)I" } : MethodName) ({ cls := "CountRoundsModel", name := "move", desc := "(IIII)I" } : MethodName)) ∈ gw := gw_4 23 (by decide +kernel) rfl
theorem wd_744 : (Cond.code ({ cls := "CountRoundsModel", name := "move", desc := "(IIII)I" } : MethodName) prog_6_method_14_code 5 (Option.some FieldType.int)) ∈ gw := gw_4 24 rfl rfl
theorem wd_745 : (Cond.methodLink "CountRoundsLaw" 130 ({ cls := "CountRoundsModel", name := "end", desc := "(I)V" } : MethodName)) ∈ gw := gw_4 25 (by decide +kernel) rfl
theorem wd_746 : (Cond.instanceMethod ({ cls := "CountRoundsModel", name := "end", desc := "(I)V" } : MethodName)) ∈ gw := gw_4 26 (by decide +kernel) rfl
theorem wd_747 : (Cond.selects "CountRoundsModel" ({ cls := "CountRoundsModel", name := "end", desc := "(I)V" } : MethodName) ({ cls := "CountRoundsModel", name := "end", desc := "(I)V" } : MethodName)) ∈ gw := gw_4 27 (by decide +kernel) rfl
theorem wd_748 : (Cond.code ({ cls := "CountRoundsModel", name := "end", desc := "(I)V" } : MethodName) prog_6_method_15_code 3 (Option.none : Option FieldType)) ∈ gw := gw_4 28 rfl rfl
theorem wd_749 : (Cond.methodLink "CountRoundsLaw" 133 ({ cls := "CountRoundsModel", name := "moves", desc := "(I)I" } : MethodName)) ∈ gw := gw_4 29 (by decide +kernel) rfl
theorem wd_750 : (Cond.instanceMethod ({ cls := "CountRoundsModel", name := "moves", desc := "(I)I" } : MethodName)) ∈ gw := gw_4 30 (by decide +kernel) rfl
theorem wd_751 : (Cond.selects "CountRoundsModel" ({ cls := "CountRoundsModel", name := "moves", desc := "(I)I" } : MethodName) ({ cls := "CountRoundsModel", name := "moves", desc := "(I)I" } : MethodName)) ∈ gw := gw_4 31 (by decide +kernel) rfl
theorem wd_752 : (Cond.code ({ cls := "CountRoundsModel", name := "moves", desc := "(I)I" } : MethodName) prog_6_method_17_code 2 (Option.some FieldType.int)) ∈ gw := gw_4 32 rfl rfl
theorem wd_753 : (Cond.methodLink "CountRoundsModel" 108 ({ cls := "CountRoundsModel", name := "openAt", desc := "(I)I" } : MethodName)) ∈ gw := gw_4 33 (by decide +kernel) rfl
theorem wd_755 : (Cond.instanceMethod ({ cls := "CountRoundsModel", name := "openAt", desc := "(I)I" } : MethodName)) ∈ gw := gw_4 35 (by decide +kernel) rfl
theorem wd_756 : (Cond.code ({ cls := "CountRoundsModel", name := "openAt", desc := "(I)I" } : MethodName) prog_6_method_16_code 4 (Option.some FieldType.int)) ∈ gw := gw_4 36 rfl rfl
theorem wd_757 : (Cond.methodLink "CountRoundsLaw" 139 ({ cls := "CountRoundsModel", name := "round", desc := "(IIJ)I" } : MethodName)) ∈ gw := gw_4 37 (by decide +kernel) rfl
theorem wd_758 : (Cond.instanceMethod ({ cls := "CountRoundsModel", name := "round", desc := "(IIJ)I" } : MethodName)) ∈ gw := gw_4 38 (by decide +kernel) rfl
theorem wd_759 : (Cond.selects "CountRoundsModel" ({ cls := "CountRoundsModel", name := "round", desc := "(IIJ)I" } : MethodName) ({ cls := "CountRoundsModel", name := "round", desc := "(IIJ)I" } : MethodName)) ∈ gw := gw_4 39 (by decide +kernel) rfl
theorem wd_760 : (Cond.code ({ cls := "CountRoundsModel", name := "round", desc := "(IIJ)I" } : MethodName) prog_6_method_21_code 10 (Option.some FieldType.int)) ∈ gw := gw_4 40 rfl rfl
theorem wd_761 : (Cond.methodLink "CountRoundsModel" 112 ({ cls := "CountRoundsModel", name := "isBusy", desc := "(I)Z" } : MethodName)) ∈ gw := gw_4 41 (by decide +kernel) rfl
theorem wd_763 : (Cond.instanceMethod ({ cls := "CountRoundsModel", name := "isBusy", desc := "(I)Z" } : MethodName)) ∈ gw := gw_4 43 (by decide +kernel) rfl
theorem wd_764 : (Cond.code ({ cls := "CountRoundsModel", name := "isBusy", desc := "(I)Z" } : MethodName) prog_6_method_18_code 4 (Option.some FieldType.boolean)) ∈ gw := gw_4 44 rfl rfl
theorem wd_765 : (Cond.constantLong "CountRoundsModel" 115 (6364136223846793005 : Int64)) ∈ gw := gw_4 45 (by decide +kernel) rfl
theorem wd_766 : (Cond.constantLong "CountRoundsModel" 117 (1442695040888963407 : Int64)) ∈ gw := gw_4 46 (by decide +kernel) rfl
theorem wd_767 : (Cond.methodLink "CountRoundsModel" 119 ({ cls := "CountRoundsModel", name := "byRank", desc := "()I" } : MethodName)) ∈ gw := gw_4 47 (by decide +kernel) rfl
theorem wd_769 : (Cond.instanceMethod ({ cls := "CountRoundsModel", name := "byRank", desc := "()I" } : MethodName)) ∈ gw := gw_4 49 (by decide +kernel) rfl
theorem wd_770 : (Cond.code ({ cls := "CountRoundsModel", name := "byRank", desc := "()I" } : MethodName) prog_6_method_19_code 3 (Option.some FieldType.int)) ∈ gw := gw_4 50 rfl rfl
theorem wd_771 : (Cond.methodLink "CountRoundsModel" 123 ({ cls := "CountRoundsModel", name := "byNumber", desc := "(I)I" } : MethodName)) ∈ gw := gw_4 51 (by decide +kernel) rfl
theorem wd_773 : (Cond.instanceMethod ({ cls := "CountRoundsModel", name := "byNumber", desc := "(I)I" } : MethodName)) ∈ gw := gw_4 53 (by decide +kernel) rfl
theorem wd_774 : (Cond.code ({ cls := "CountRoundsModel", name := "byNumber", desc := "(I)I" } : MethodName) prog_6_method_20_code 4 (Option.some FieldType.int)) ∈ gw := gw_4 54 rfl rfl
theorem wd_775 : (Cond.methodLink "CountRoundsLaw" 142 ({ cls := "CountRoundsModel", name := "freeze", desc := "(I)I" } : MethodName)) ∈ gw := gw_4 55 (by decide +kernel) rfl
theorem wd_776 : (Cond.instanceMethod ({ cls := "CountRoundsModel", name := "freeze", desc := "(I)I" } : MethodName)) ∈ gw := gw_4 56 (by decide +kernel) rfl
theorem wd_777 : (Cond.selects "CountRoundsModel" ({ cls := "CountRoundsModel", name := "freeze", desc := "(I)I" } : MethodName) ({ cls := "CountRoundsModel", name := "freeze", desc := "(I)I" } : MethodName)) ∈ gw := gw_4 57 (by decide +kernel) rfl
theorem wd_778 : (Cond.code ({ cls := "CountRoundsModel", name := "freeze", desc := "(I)I" } : MethodName) prog_6_method_23_code 6 (Option.some FieldType.int)) ∈ gw := gw_4 58 rfl rfl
theorem wd_779 : (Cond.methodLink "CountRoundsModel" 126 ({ cls := "CountRoundsModel", name := "isCount", desc := "(I)Z" } : MethodName)) ∈ gw := gw_4 59 (by decide +kernel) rfl
theorem wd_781 : (Cond.instanceMethod ({ cls := "CountRoundsModel", name := "isCount", desc := "(I)Z" } : MethodName)) ∈ gw := gw_4 61 (by decide +kernel) rfl
theorem wd_782 : (Cond.code ({ cls := "CountRoundsModel", name := "isCount", desc := "(I)Z" } : MethodName) prog_6_method_7_code 2 (Option.some FieldType.boolean)) ∈ gw := gw_4 62 rfl rfl
theorem wd_783 : (Cond.methodLink "CountRoundsModel" 129 ({ cls := "CountRoundsModel", name := "coming", desc := "(II)I" } : MethodName)) ∈ gw := gw_4 63 (by decide +kernel) rfl
theorem wd_785 : (Cond.instanceMethod ({ cls := "CountRoundsModel", name := "coming", desc := "(II)I" } : MethodName)) ∈ gw := gw_4 65 (by decide +kernel) rfl
theorem wd_786 : (Cond.code ({ cls := "CountRoundsModel", name := "coming", desc := "(II)I" } : MethodName) prog_6_method_22_code 5 (Option.some FieldType.int)) ∈ gw := gw_4 66 rfl rfl
theorem wd_787 : (Cond.methodLink "CountRoundsLaw" 146 ({ cls := "CountRoundsModel", name := "found", desc := "(IIIII)I" } : MethodName)) ∈ gw := gw_4 67 (by decide +kernel) rfl
theorem wd_788 : (Cond.instanceMethod ({ cls := "CountRoundsModel", name := "found", desc := "(IIIII)I" } : MethodName)) ∈ gw := gw_4 68 (by decide +kernel) rfl
theorem wd_789 : (Cond.selects "CountRoundsModel" ({ cls := "CountRoundsModel", name := "found", desc := "(IIIII)I" } : MethodName) ({ cls := "CountRoundsModel", name := "found", desc := "(IIIII)I" } : MethodName)) ∈ gw := gw_4 69 (by decide +kernel) rfl
theorem wd_790 : (Cond.code ({ cls := "CountRoundsModel", name := "found", desc := "(IIIII)I" } : MethodName) prog_6_method_25_code 8 (Option.some FieldType.int)) ∈ gw := gw_4 70 rfl rfl
theorem wd_791 : (Cond.methodLink "CountRoundsModel" 133 ({ cls := "CountRoundsModel", name := "slot", desc := "(II)I" } : MethodName)) ∈ gw := gw_4 71 (by decide +kernel) rfl
theorem wd_793 : (Cond.instanceMethod ({ cls := "CountRoundsModel", name := "slot", desc := "(II)I" } : MethodName)) ∈ gw := gw_4 73 (by decide +kernel) rfl
theorem wd_794 : (Cond.code ({ cls := "CountRoundsModel", name := "slot", desc := "(II)I" } : MethodName) prog_6_method_24_code 4 (Option.some FieldType.int)) ∈ gw := gw_4 74 rfl rfl
theorem wd_795 : (Cond.methodLink "CountRoundsModel" 136 ({ cls := "CountRoundsModel", name := "firstBy", desc := "(I)I" } : MethodName)) ∈ gw := gw_4 75 (by decide +kernel) rfl
theorem wd_797 : (Cond.instanceMethod ({ cls := "CountRoundsModel", name := "firstBy", desc := "(I)I" } : MethodName)) ∈ gw := gw_4 77 (by decide +kernel) rfl
theorem wd_798 : (Cond.code ({ cls := "CountRoundsModel", name := "firstBy", desc := "(I)I" } : MethodName) prog_6_method_26_code 2 (Option.some FieldType.int)) ∈ gw := gw_4 78 rfl rfl
theorem wd_799 : (Cond.methodLink "CountRoundsModel" 139 ({ cls := "CountRoundsModel", name := "secondBy", desc := "(I)I" } : MethodName)) ∈ gw := gw_4 79 (by decide +kernel) rfl
theorem wd_801 : (Cond.instanceMethod ({ cls := "CountRoundsModel", name := "secondBy", desc := "(I)I" } : MethodName)) ∈ gw := gw_4 81 (by decide +kernel) rfl
theorem wd_802 : (Cond.code ({ cls := "CountRoundsModel", name := "secondBy", desc := "(I)I" } : MethodName) prog_6_method_27_code 2 (Option.some FieldType.int)) ∈ gw := gw_4 82 rfl rfl
theorem wd_803 : (Cond.methodLink "CountRoundsLaw" 150 ({ cls := "CountRoundsModel", name := "second", desc := "(III)Z" } : MethodName)) ∈ gw := gw_4 83 (by decide +kernel) rfl
theorem wd_804 : (Cond.instanceMethod ({ cls := "CountRoundsModel", name := "second", desc := "(III)Z" } : MethodName)) ∈ gw := gw_4 84 (by decide +kernel) rfl
theorem wd_805 : (Cond.selects "CountRoundsModel" ({ cls := "CountRoundsModel", name := "second", desc := "(III)Z" } : MethodName) ({ cls := "CountRoundsModel", name := "second", desc := "(III)Z" } : MethodName)) ∈ gw := gw_4 85 (by decide +kernel) rfl
theorem wd_806 : (Cond.code ({ cls := "CountRoundsModel", name := "second", desc := "(III)Z" } : MethodName) prog_6_method_29_code 6 (Option.some FieldType.boolean)) ∈ gw := gw_4 86 rfl rfl
theorem wd_807 : (Cond.methodLink "CountRoundsModel" 142 ({ cls := "CountRoundsModel", name := "far", desc := "(II)I" } : MethodName)) ∈ gw := gw_4 87 (by decide +kernel) rfl
theorem wd_808 : (Cond.static ({ cls := "CountRoundsModel", name := "far", desc := "(II)I" } : MethodName)) ∈ gw := gw_4 88 (by decide +kernel) rfl
theorem wd_809 : (Cond.code ({ cls := "CountRoundsModel", name := "far", desc := "(II)I" } : MethodName) prog_6_method_28_code 2 (Option.some FieldType.int)) ∈ gw := gw_4 89 rfl rfl
theorem wd_810 : (Cond.methodLink "CountRoundsLaw" 153 ({ cls := "CountRoundsModel", name := "close", desc := "(I)I" } : MethodName)) ∈ gw := gw_4 90 (by decide +kernel) rfl
theorem wd_811 : (Cond.instanceMethod ({ cls := "CountRoundsModel", name := "close", desc := "(I)I" } : MethodName)) ∈ gw := gw_4 91 (by decide +kernel) rfl
theorem wd_812 : (Cond.selects "CountRoundsModel" ({ cls := "CountRoundsModel", name := "close", desc := "(I)I" } : MethodName) ({ cls := "CountRoundsModel", name := "close", desc := "(I)I" } : MethodName)) ∈ gw := gw_4 92 (by decide +kernel) rfl
theorem wd_813 : (Cond.code ({ cls := "CountRoundsModel", name := "close", desc := "(I)I" } : MethodName) prog_6_method_30_code 3 (Option.some FieldType.int)) ∈ gw := gw_4 93 rfl rfl
theorem wd_814 : (Cond.methodLink "CountRoundsModel" 145 ({ cls := "CountRoundsModel", name := "closePlace", desc := "(II)V" } : MethodName)) ∈ gw := gw_4 94 (by decide +kernel) rfl
theorem wd_816 : (Cond.instanceMethod ({ cls := "CountRoundsModel", name := "closePlace", desc := "(II)V" } : MethodName)) ∈ gw := gw_4 96 (by decide +kernel) rfl
theorem wd_817 : (Cond.code ({ cls := "CountRoundsModel", name := "closePlace", desc := "(II)V" } : MethodName) prog_6_method_33_code 7 (Option.none : Option FieldType)) ∈ gw := gw_4 97 rfl rfl
theorem wd_818 : (Cond.methodLink "CountRoundsModel" 152 ({ cls := "CountRoundsModel", name := "isTold", desc := "(II)Z" } : MethodName)) ∈ gw := gw_4 98 (by decide +kernel) rfl
theorem wd_820 : (Cond.instanceMethod ({ cls := "CountRoundsModel", name := "isTold", desc := "(II)Z" } : MethodName)) ∈ gw := gw_4 100 (by decide +kernel) rfl
theorem wd_821 : (Cond.code ({ cls := "CountRoundsModel", name := "isTold", desc := "(II)Z" } : MethodName) prog_6_method_32_code 5 (Option.some FieldType.boolean)) ∈ gw := gw_4 101 rfl rfl
theorem wd_822 : (Cond.methodLink "CountRoundsModel" 156 ({ cls := "CountRoundsModel", name := "counts", desc := "(I)I" } : MethodName)) ∈ gw := gw_4 102 (by decide +kernel) rfl
theorem wd_824 : (Cond.instanceMethod ({ cls := "CountRoundsModel", name := "counts", desc := "(I)I" } : MethodName)) ∈ gw := gw_4 104 (by decide +kernel) rfl
theorem wd_825 : (Cond.code ({ cls := "CountRoundsModel", name := "counts", desc := "(I)I" } : MethodName) prog_6_method_31_code 2 (Option.some FieldType.int)) ∈ gw := gw_4 105 rfl rfl
theorem wd_826 : (Cond.methodLink "CountRoundsModel" 149 ({ cls := "CountRoundsModel", name := "difference", desc := "(II)I" } : MethodName)) ∈ gw := gw_4 106 (by decide +kernel) rfl
theorem wd_828 : (Cond.instanceMethod ({ cls := "CountRoundsModel", name := "difference", desc := "(II)I" } : MethodName)) ∈ gw := gw_4 108 (by decide +kernel) rfl
theorem wd_829 : (Cond.code ({ cls := "CountRoundsModel", name := "difference", desc := "(II)I" } : MethodName) prog_6_method_34_code 7 (Option.some FieldType.int)) ∈ gw := gw_4 109 rfl rfl
theorem wd_830 : (Cond.methodLink "CountRoundsLaw" 156 ({ cls := "CountRoundsModel", name := "differ", desc := "(III)I" } : MethodName)) ∈ gw := gw_4 110 (by decide +kernel) rfl
theorem wd_831 : (Cond.instanceMethod ({ cls := "CountRoundsModel", name := "differ", desc := "(III)I" } : MethodName)) ∈ gw := gw_4 111 (by decide +kernel) rfl
theorem wd_832 : (Cond.selects "CountRoundsModel" ({ cls := "CountRoundsModel", name := "differ", desc := "(III)I" } : MethodName) ({ cls := "CountRoundsModel", name := "differ", desc := "(III)I" } : MethodName)) ∈ gw := gw_4 112 (by decide +kernel) rfl
theorem wd_833 : (Cond.code ({ cls := "CountRoundsModel", name := "differ", desc := "(III)I" } : MethodName) prog_6_method_36_code 5 (Option.some FieldType.int)) ∈ gw := gw_4 113 rfl rfl
theorem wd_834 : (Cond.methodLink "CountRoundsModel" 164 ({ cls := "CountRoundsModel", name := "bookedAt", desc := "(I)I" } : MethodName)) ∈ gw := gw_4 114 (by decide +kernel) rfl
theorem wd_836 : (Cond.instanceMethod ({ cls := "CountRoundsModel", name := "bookedAt", desc := "(I)I" } : MethodName)) ∈ gw := gw_4 116 (by decide +kernel) rfl
theorem wd_837 : (Cond.code ({ cls := "CountRoundsModel", name := "bookedAt", desc := "(I)I" } : MethodName) prog_6_method_35_code 2 (Option.some FieldType.int)) ∈ gw := gw_4 117 rfl rfl
theorem wd_838 : (Cond.methodLink "CountRoundsLaw" 159 ({ cls := "CountRoundsModel", name := "correct", desc := "(III)Z" } : MethodName)) ∈ gw := gw_4 118 (by decide +kernel) rfl
theorem wd_839 : (Cond.instanceMethod ({ cls := "CountRoundsModel", name := "correct", desc := "(III)Z" } : MethodName)) ∈ gw := gw_4 119 (by decide +kernel) rfl
theorem wd_840 : (Cond.selects "CountRoundsModel" ({ cls := "CountRoundsModel", name := "correct", desc := "(III)Z" } : MethodName) ({ cls := "CountRoundsModel", name := "correct", desc := "(III)Z" } : MethodName)) ∈ gw := gw_4 120 (by decide +kernel) rfl
theorem wd_841 : (Cond.code ({ cls := "CountRoundsModel", name := "correct", desc := "(III)Z" } : MethodName) prog_6_method_37_code 8 (Option.some FieldType.boolean)) ∈ gw := gw_4 121 rfl rfl
theorem wd_842 : (Cond.methodLink "CountRoundsLaw" 162 ({ cls := "CountRoundsModel", name := "share", desc := "(I)I" } : MethodName)) ∈ gw := gw_4 122 (by decide +kernel) rfl
theorem wd_843 : (Cond.instanceMethod ({ cls := "CountRoundsModel", name := "share", desc := "(I)I" } : MethodName)) ∈ gw := gw_4 123 (by decide +kernel) rfl
theorem wd_844 : (Cond.selects "CountRoundsModel" ({ cls := "CountRoundsModel", name := "share", desc := "(I)I" } : MethodName) ({ cls := "CountRoundsModel", name := "share", desc := "(I)I" } : MethodName)) ∈ gw := gw_4 124 (by decide +kernel) rfl
theorem wd_845 : (Cond.code ({ cls := "CountRoundsModel", name := "share", desc := "(I)I" } : MethodName) prog_6_method_39_code 3 (Option.some FieldType.int)) ∈ gw := gw_4 125 rfl rfl
theorem wd_846 : (Cond.methodLink "CountRoundsModel" 167 ({ cls := "CountRoundsModel", name := "divisor", desc := "(II)I" } : MethodName)) ∈ gw := gw_4 126 (by decide +kernel) rfl
theorem wd_847 : (Cond.static ({ cls := "CountRoundsModel", name := "divisor", desc := "(II)I" } : MethodName)) ∈ gw := gw_4 127 (by decide +kernel) rfl
theorem wd_848 : (Cond.code ({ cls := "CountRoundsModel", name := "divisor", desc := "(II)I" } : MethodName) prog_6_method_38_code 5 (Option.some FieldType.int)) ∈ gw := gw_4 128 rfl rfl
theorem wd_849 : (Cond.methodLink "CountRoundsLaw" 165 ({ cls := "CountRoundsModel", name := "last", desc := "(I)I" } : MethodName)) ∈ gw := gw_4 129 (by decide +kernel) rfl
theorem wd_850 : (Cond.instanceMethod ({ cls := "CountRoundsModel", name := "last", desc := "(I)I" } : MethodName)) ∈ gw := gw_4 130 (by decide +kernel) rfl
theorem wd_851 : (Cond.selects "CountRoundsModel" ({ cls := "CountRoundsModel", name := "last", desc := "(I)I" } : MethodName) ({ cls := "CountRoundsModel", name := "last", desc := "(I)I" } : MethodName)) ∈ gw := gw_4 131 (by decide +kernel) rfl
theorem wd_852 : (Cond.code ({ cls := "CountRoundsModel", name := "last", desc := "(I)I" } : MethodName) prog_6_method_40_code 2 (Option.some FieldType.int)) ∈ gw := gw_4 132 rfl rfl
theorem wd_853 : (Cond.methodLink "CountRoundsLaw" 168 ({ cls := "CountRoundsModel", name := "due", desc := "(I)I" } : MethodName)) ∈ gw := gw_4 133 (by decide +kernel) rfl
theorem wd_854 : (Cond.instanceMethod ({ cls := "CountRoundsModel", name := "due", desc := "(I)I" } : MethodName)) ∈ gw := gw_4 134 (by decide +kernel) rfl
theorem wd_855 : (Cond.selects "CountRoundsModel" ({ cls := "CountRoundsModel", name := "due", desc := "(I)I" } : MethodName) ({ cls := "CountRoundsModel", name := "due", desc := "(I)I" } : MethodName)) ∈ gw := gw_4 135 (by decide +kernel) rfl
theorem wd_856 : (Cond.code ({ cls := "CountRoundsModel", name := "due", desc := "(I)I" } : MethodName) prog_6_method_41_code 4 (Option.some FieldType.int)) ∈ gw := gw_4 136 rfl rfl
theorem wd_857 : (Cond.methodLink "CountRoundsLaw" 172 ({ cls := "CountRoundsModel", name := "booked", desc := "(II)I" } : MethodName)) ∈ gw := gw_4 137 (by decide +kernel) rfl
theorem wd_858 : (Cond.instanceMethod ({ cls := "CountRoundsModel", name := "booked", desc := "(II)I" } : MethodName)) ∈ gw := gw_4 138 (by decide +kernel) rfl
theorem wd_859 : (Cond.selects "CountRoundsModel" ({ cls := "CountRoundsModel", name := "booked", desc := "(II)I" } : MethodName) ({ cls := "CountRoundsModel", name := "booked", desc := "(II)I" } : MethodName)) ∈ gw := gw_4 139 (by decide +kernel) rfl
theorem wd_860 : (Cond.code ({ cls := "CountRoundsModel", name := "booked", desc := "(II)I" } : MethodName) prog_6_method_42_code 3 (Option.some FieldType.int)) ∈ gw := gw_4 140 rfl rfl
theorem wd_861 : (Cond.methodLink "CountRoundsLaw" 175 ({ cls := "CountRoundsModel", name := "told", desc := "(II)I" } : MethodName)) ∈ gw := gw_4 141 (by decide +kernel) rfl
theorem wd_862 : (Cond.instanceMethod ({ cls := "CountRoundsModel", name := "told", desc := "(II)I" } : MethodName)) ∈ gw := gw_4 142 (by decide +kernel) rfl
theorem wd_863 : (Cond.selects "CountRoundsModel" ({ cls := "CountRoundsModel", name := "told", desc := "(II)I" } : MethodName) ({ cls := "CountRoundsModel", name := "told", desc := "(II)I" } : MethodName)) ∈ gw := gw_4 143 (by decide +kernel) rfl
theorem wd_864 : (Cond.code ({ cls := "CountRoundsModel", name := "told", desc := "(II)I" } : MethodName) prog_6_method_43_code 3 (Option.some FieldType.int)) ∈ gw := gw_4 144 rfl rfl
theorem wd_865 : (Cond.methodLink "CountRoundsLaw" 179 ({ cls := "CountRoundsModel", name := "count", desc := "(I)I" } : MethodName)) ∈ gw := gw_4 145 (by decide +kernel) rfl
theorem wd_866 : (Cond.instanceMethod ({ cls := "CountRoundsModel", name := "count", desc := "(I)I" } : MethodName)) ∈ gw := gw_4 146 (by decide +kernel) rfl
theorem wd_867 : (Cond.selects "CountRoundsModel" ({ cls := "CountRoundsModel", name := "count", desc := "(I)I" } : MethodName) ({ cls := "CountRoundsModel", name := "count", desc := "(I)I" } : MethodName)) ∈ gw := gw_4 147 (by decide +kernel) rfl
theorem wd_868 : (Cond.code ({ cls := "CountRoundsModel", name := "count", desc := "(I)I" } : MethodName) prog_6_method_44_code 4 (Option.some FieldType.int)) ∈ gw := gw_4 148 rfl rfl
theorem wd_869 : (Cond.constantLong "CountRoundsLaw" 134 (4294967295 : Int64)) ∈ gw := gw_4 149 (by decide +kernel) rfl
theorem wd_870 : (Cond.arrayClass FieldType.long) ∈ gw := gw_4 150 (by decide +kernel) rfl
theorem wd_871 : (Cond.sameMethod "java/lang/Throwable" "java/lang/Throwable" "fillInStackTrace" "(I)Ljava/lang/Throwable;") ∈ gw := gw_4 151 (by decide +kernel) rfl
end
