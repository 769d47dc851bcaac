section
-- ===== PART A: goes FIRST, ahead of the names: the tables' words, and 'selects' of the private methods out of them =====
/-- a private method of a class that the tables say can be made, by its rows of tables_1 -/
def lw_okq (q : MethodName × Nat) : Prop := (q.1.cls ≠ "java/lang/invoke/MethodHandle" ∧ q.1.cls ≠ "java/lang/invoke/VarHandle") ∧ Cond.instantiable q.1.cls q.2 ∈ tables_1 ∧ Cond.privateMethod q.1 ∈ tables_1 ∧ Cond.instanceMethod q.1 ∈ tables_1
theorem lw_p0 : lw_okq (⟨"CountRounds", "openMoves", "()I"⟩, 14) := ⟨⟨by decide +kernel, by decide +kernel⟩, List.mem_of_getElem? (i := 18) (by decide +kernel), List.mem_of_getElem? (i := 83) (by decide +kernel), List.mem_of_getElem? (i := 84) (by decide +kernel)⟩
theorem lw_p1 : lw_okq (⟨"CountRounds", "transferNumbered", "(I)LCountRounds$Transfer;"⟩, 14) := ⟨⟨by decide +kernel, by decide +kernel⟩, List.mem_of_getElem? (i := 18) (by decide +kernel), List.mem_of_getElem? (i := 87) (by decide +kernel), List.mem_of_getElem? (i := 88) (by decide +kernel)⟩
theorem lw_p2 : lw_okq (⟨"java/lang/Throwable", "fillInStackTrace", "(I)Ljava/lang/Throwable;"⟩, 6) := ⟨⟨by decide +kernel, by decide +kernel⟩, List.mem_of_getElem? (i := 134) (by decide +kernel), List.mem_of_getElem? (i := 132) (by decide +kernel), List.mem_of_getElem? (i := 133) (by decide +kernel)⟩
theorem lw_p3 : lw_okq (⟨"CountRounds", "placeNumbered", "(I)LCountRounds$Place;"⟩, 14) := ⟨⟨by decide +kernel, by decide +kernel⟩, List.mem_of_getElem? (i := 18) (by decide +kernel), List.mem_of_getElem? (i := 237) (by decide +kernel), List.mem_of_getElem? (i := 238) (by decide +kernel)⟩
theorem lw_p4 : lw_okq (⟨"CountRounds", "openMovesAt", "(I)I"⟩, 14) := ⟨⟨by decide +kernel, by decide +kernel⟩, List.mem_of_getElem? (i := 18) (by decide +kernel), List.mem_of_getElem? (i := 356) (by decide +kernel), List.mem_of_getElem? (i := 357) (by decide +kernel)⟩
theorem lw_p5 : lw_okq (⟨"CountRounds", "gatherCandidates", "(I)I"⟩, 14) := ⟨⟨by decide +kernel, by decide +kernel⟩, List.mem_of_getElem? (i := 18) (by decide +kernel), List.mem_of_getElem? (i := 368) (by decide +kernel), List.mem_of_getElem? (i := 369) (by decide +kernel)⟩
theorem lw_p6 : lw_okq (⟨"CountRounds", "chooseCandidates", "(IIJ)[I"⟩, 14) := ⟨⟨by decide +kernel, by decide +kernel⟩, List.mem_of_getElem? (i := 18) (by decide +kernel), List.mem_of_getElem? (i := 377) (by decide +kernel), List.mem_of_getElem? (i := 378) (by decide +kernel)⟩
theorem lw_p7 : lw_okq (⟨"CountRounds", "longestUncounted", "(I)I"⟩, 14) := ⟨⟨by decide +kernel, by decide +kernel⟩, List.mem_of_getElem? (i := 18) (by decide +kernel), List.mem_of_getElem? (i := 381) (by decide +kernel), List.mem_of_getElem? (i := 382) (by decide +kernel)⟩
theorem lw_p8 : lw_okq (⟨"CountRounds", "sheetNumbered", "(I)LCountRounds$Sheet;"⟩, 14) := ⟨⟨by decide +kernel, by decide +kernel⟩, List.mem_of_getElem? (i := 18) (by decide +kernel), List.mem_of_getElem? (i := 445) (by decide +kernel), List.mem_of_getElem? (i := 446) (by decide +kernel)⟩
theorem lw_p9 : lw_okq (⟨"CountRounds", "hasOpenMoves", "(LCountRounds$Sheet;)Z"⟩, 14) := ⟨⟨by decide +kernel, by decide +kernel⟩, List.mem_of_getElem? (i := 18) (by decide +kernel), List.mem_of_getElem? (i := 451) (by decide +kernel), List.mem_of_getElem? (i := 452) (by decide +kernel)⟩
theorem lw_p10 : lw_okq (⟨"CountRounds", "noteBooked", "(LCountRounds$Sheet;)V"⟩, 14) := ⟨⟨by decide +kernel, by decide +kernel⟩, List.mem_of_getElem? (i := 18) (by decide +kernel), List.mem_of_getElem? (i := 455) (by decide +kernel), List.mem_of_getElem? (i := 456) (by decide +kernel)⟩
theorem lw_p11 : lw_okq (⟨"CountRounds$Sheet", "positionOf", "(I)I"⟩, 11) := ⟨⟨by decide +kernel, by decide +kernel⟩, List.mem_of_getElem? (i := 389) (by decide +kernel), List.mem_of_getElem? (i := 459) (by decide +kernel), List.mem_of_getElem? (i := 460) (by decide +kernel)⟩
theorem lw_p12 : lw_okq (⟨"CountRounds$Sheet", "tell", "(III)I"⟩, 11) := ⟨⟨by decide +kernel, by decide +kernel⟩, List.mem_of_getElem? (i := 389) (by decide +kernel), List.mem_of_getElem? (i := 471) (by decide +kernel), List.mem_of_getElem? (i := 472) (by decide +kernel)⟩
theorem lw_p13 : lw_okq (⟨"CountRounds$Sheet", "isToldOnce", "(I)Z"⟩, 11) := ⟨⟨by decide +kernel, by decide +kernel⟩, List.mem_of_getElem? (i := 389) (by decide +kernel), List.mem_of_getElem? (i := 485) (by decide +kernel), List.mem_of_getElem? (i := 486) (by decide +kernel)⟩
theorem lw_p14 : lw_okq (⟨"CountRounds$Sheet", "differenceOf", "(I)I"⟩, 11) := ⟨⟨by decide +kernel, by decide +kernel⟩, List.mem_of_getElem? (i := 389) (by decide +kernel), List.mem_of_getElem? (i := 489) (by decide +kernel), List.mem_of_getElem? (i := 490) (by decide +kernel)⟩
theorem lw_p15 : lw_okq (⟨"CountRounds", "isTolerated", "(ILCountRounds$Place;)Z"⟩, 14) := ⟨⟨by decide +kernel, by decide +kernel⟩, List.mem_of_getElem? (i := 18) (by decide +kernel), List.mem_of_getElem? (i := 493) (by decide +kernel), List.mem_of_getElem? (i := 494) (by decide +kernel)⟩
def lw_privs_1 : List (MethodName × Nat) := [(⟨"CountRounds", "openMoves", "()I"⟩, 14), (⟨"CountRounds", "transferNumbered", "(I)LCountRounds$Transfer;"⟩, 14), (⟨"java/lang/Throwable", "fillInStackTrace", "(I)Ljava/lang/Throwable;"⟩, 6), (⟨"CountRounds", "placeNumbered", "(I)LCountRounds$Place;"⟩, 14), (⟨"CountRounds", "openMovesAt", "(I)I"⟩, 14), (⟨"CountRounds", "gatherCandidates", "(I)I"⟩, 14), (⟨"CountRounds", "chooseCandidates", "(IIJ)[I"⟩, 14), (⟨"CountRounds", "longestUncounted", "(I)I"⟩, 14), (⟨"CountRounds", "sheetNumbered", "(I)LCountRounds$Sheet;"⟩, 14), (⟨"CountRounds", "hasOpenMoves", "(LCountRounds$Sheet;)Z"⟩, 14), (⟨"CountRounds", "noteBooked", "(LCountRounds$Sheet;)V"⟩, 14), (⟨"CountRounds$Sheet", "positionOf", "(I)I"⟩, 11), (⟨"CountRounds$Sheet", "tell", "(III)I"⟩, 11), (⟨"CountRounds$Sheet", "isToldOnce", "(I)Z"⟩, 11), (⟨"CountRounds$Sheet", "differenceOf", "(I)I"⟩, 11), (⟨"CountRounds", "isTolerated", "(ILCountRounds$Place;)Z"⟩, 14)]
theorem lw_r1 : ∀ q ∈ lw_privs_1, lw_okq q := List.forall_mem_cons.mpr ⟨lw_p0, List.forall_mem_cons.mpr ⟨lw_p1, List.forall_mem_cons.mpr ⟨lw_p2, List.forall_mem_cons.mpr ⟨lw_p3, List.forall_mem_cons.mpr ⟨lw_p4, List.forall_mem_cons.mpr ⟨lw_p5, List.forall_mem_cons.mpr ⟨lw_p6, List.forall_mem_cons.mpr ⟨lw_p7, List.forall_mem_cons.mpr ⟨lw_p8, List.forall_mem_cons.mpr ⟨lw_p9, List.forall_mem_cons.mpr ⟨lw_p10, List.forall_mem_cons.mpr ⟨lw_p11, List.forall_mem_cons.mpr ⟨lw_p12, List.forall_mem_cons.mpr ⟨lw_p13, List.forall_mem_cons.mpr ⟨lw_p14, List.forall_mem_cons.mpr ⟨lw_p15, fun _ h => absurd h List.not_mem_nil⟩⟩⟩⟩⟩⟩⟩⟩⟩⟩⟩⟩⟩⟩⟩⟩
theorem lw_p16 : lw_okq (⟨"CountRounds$Sheet", "isPlaceTold", "(I)Z"⟩, 11) := ⟨⟨by decide +kernel, by decide +kernel⟩, List.mem_of_getElem? (i := 389) (by decide +kernel), List.mem_of_getElem? (i := 507) (by decide +kernel), List.mem_of_getElem? (i := 508) (by decide +kernel)⟩
theorem lw_p17 : lw_okq (⟨"CountRounds", "countPlace", "(LCountRounds$Sheet;ILCountRounds$Place;)V"⟩, 14) := ⟨⟨by decide +kernel, by decide +kernel⟩, List.mem_of_getElem? (i := 18) (by decide +kernel), List.mem_of_getElem? (i := 511) (by decide +kernel), List.mem_of_getElem? (i := 512) (by decide +kernel)⟩
theorem lw_p18 : lw_okq (⟨"CountRounds$Sheet", "addDifference", "(I)V"⟩, 11) := ⟨⟨by decide +kernel, by decide +kernel⟩, List.mem_of_getElem? (i := 389) (by decide +kernel), List.mem_of_getElem? (i := 515) (by decide +kernel), List.mem_of_getElem? (i := 516) (by decide +kernel)⟩
theorem lw_p19 : lw_okq (⟨"CountRounds$Sheet", "differingLine", "(I)I"⟩, 11) := ⟨⟨by decide +kernel, by decide +kernel⟩, List.mem_of_getElem? (i := 389) (by decide +kernel), List.mem_of_getElem? (i := 526) (by decide +kernel), List.mem_of_getElem? (i := 527) (by decide +kernel)⟩
theorem lw_p20 : lw_okq (⟨"CountRounds$Sheet", "finderOf", "(I)I"⟩, 11) := ⟨⟨by decide +kernel, by decide +kernel⟩, List.mem_of_getElem? (i := 389) (by decide +kernel), List.mem_of_getElem? (i := 531) (by decide +kernel), List.mem_of_getElem? (i := 532) (by decide +kernel)⟩
theorem lw_p21 : lw_okq (⟨"CountRounds", "mayCorrect", "(LCountRounds$Sheet;II)Z"⟩, 14) := ⟨⟨by decide +kernel, by decide +kernel⟩, List.mem_of_getElem? (i := 18) (by decide +kernel), List.mem_of_getElem? (i := 545) (by decide +kernel), List.mem_of_getElem? (i := 546) (by decide +kernel)⟩
theorem lw_p22 : lw_okq (⟨"CountRoundsModel", "isPlace", "(I)Z"⟩, 29) := ⟨⟨by decide +kernel, by decide +kernel⟩, List.mem_of_getElem? (i := 606) (by decide +kernel), List.mem_of_getElem? (i := 715) (by decide +kernel), List.mem_of_getElem? (i := 716) (by decide +kernel)⟩
theorem lw_p23 : lw_okq (⟨"CountRoundsModel", "openAt", "(I)I"⟩, 29) := ⟨⟨by decide +kernel, by decide +kernel⟩, List.mem_of_getElem? (i := 606) (by decide +kernel), List.mem_of_getElem? (i := 754) (by decide +kernel), List.mem_of_getElem? (i := 755) (by decide +kernel)⟩
theorem lw_p24 : lw_okq (⟨"CountRoundsModel", "isBusy", "(I)Z"⟩, 29) := ⟨⟨by decide +kernel, by decide +kernel⟩, List.mem_of_getElem? (i := 606) (by decide +kernel), List.mem_of_getElem? (i := 762) (by decide +kernel), List.mem_of_getElem? (i := 763) (by decide +kernel)⟩
theorem lw_p25 : lw_okq (⟨"CountRoundsModel", "byRank", "()I"⟩, 29) := ⟨⟨by decide +kernel, by decide +kernel⟩, List.mem_of_getElem? (i := 606) (by decide +kernel), List.mem_of_getElem? (i := 768) (by decide +kernel), List.mem_of_getElem? (i := 769) (by decide +kernel)⟩
theorem lw_p26 : lw_okq (⟨"CountRoundsModel", "byNumber", "(I)I"⟩, 29) := ⟨⟨by decide +kernel, by decide +kernel⟩, List.mem_of_getElem? (i := 606) (by decide +kernel), List.mem_of_getElem? (i := 772) (by decide +kernel), List.mem_of_getElem? (i := 773) (by decide +kernel)⟩
theorem lw_p27 : lw_okq (⟨"CountRoundsModel", "isCount", "(I)Z"⟩, 29) := ⟨⟨by decide +kernel, by decide +kernel⟩, List.mem_of_getElem? (i := 606) (by decide +kernel), List.mem_of_getElem? (i := 780) (by decide +kernel), List.mem_of_getElem? (i := 781) (by decide +kernel)⟩
theorem lw_p28 : lw_okq (⟨"CountRoundsModel", "coming", "(II)I"⟩, 29) := ⟨⟨by decide +kernel, by decide +kernel⟩, List.mem_of_getElem? (i := 606) (by decide +kernel), List.mem_of_getElem? (i := 784) (by decide +kernel), List.mem_of_getElem? (i := 785) (by decide +kernel)⟩
theorem lw_p29 : lw_okq (⟨"CountRoundsModel", "slot", "(II)I"⟩, 29) := ⟨⟨by decide +kernel, by decide +kernel⟩, List.mem_of_getElem? (i := 606) (by decide +kernel), List.mem_of_getElem? (i := 792) (by decide +kernel), List.mem_of_getElem? (i := 793) (by decide +kernel)⟩
theorem lw_p30 : lw_okq (⟨"CountRoundsModel", "firstBy", "(I)I"⟩, 29) := ⟨⟨by decide +kernel, by decide +kernel⟩, List.mem_of_getElem? (i := 606) (by decide +kernel), List.mem_of_getElem? (i := 796) (by decide +kernel), List.mem_of_getElem? (i := 797) (by decide +kernel)⟩
theorem lw_p31 : lw_okq (⟨"CountRoundsModel", "secondBy", "(I)I"⟩, 29) := ⟨⟨by decide +kernel, by decide +kernel⟩, List.mem_of_getElem? (i := 606) (by decide +kernel), List.mem_of_getElem? (i := 800) (by decide +kernel), List.mem_of_getElem? (i := 801) (by decide +kernel)⟩
def lw_privs_2 : List (MethodName × Nat) := [(⟨"CountRounds$Sheet", "isPlaceTold", "(I)Z"⟩, 11), (⟨"CountRounds", "countPlace", "(LCountRounds$Sheet;ILCountRounds$Place;)V"⟩, 14), (⟨"CountRounds$Sheet", "addDifference", "(I)V"⟩, 11), (⟨"CountRounds$Sheet", "differingLine", "(I)I"⟩, 11), (⟨"CountRounds$Sheet", "finderOf", "(I)I"⟩, 11), (⟨"CountRounds", "mayCorrect", "(LCountRounds$Sheet;II)Z"⟩, 14), (⟨"CountRoundsModel", "isPlace", "(I)Z"⟩, 29), (⟨"CountRoundsModel", "openAt", "(I)I"⟩, 29), (⟨"CountRoundsModel", "isBusy", "(I)Z"⟩, 29), (⟨"CountRoundsModel", "byRank", "()I"⟩, 29), (⟨"CountRoundsModel", "byNumber", "(I)I"⟩, 29), (⟨"CountRoundsModel", "isCount", "(I)Z"⟩, 29), (⟨"CountRoundsModel", "coming", "(II)I"⟩, 29), (⟨"CountRoundsModel", "slot", "(II)I"⟩, 29), (⟨"CountRoundsModel", "firstBy", "(I)I"⟩, 29), (⟨"CountRoundsModel", "secondBy", "(I)I"⟩, 29)]
theorem lw_r2 : ∀ q ∈ lw_privs_2, lw_okq q := List.forall_mem_cons.mpr ⟨lw_p16, List.forall_mem_cons.mpr ⟨lw_p17, List.forall_mem_cons.mpr ⟨lw_p18, List.forall_mem_cons.mpr ⟨lw_p19, List.forall_mem_cons.mpr ⟨lw_p20, List.forall_mem_cons.mpr ⟨lw_p21, List.forall_mem_cons.mpr ⟨lw_p22, List.forall_mem_cons.mpr ⟨lw_p23, List.forall_mem_cons.mpr ⟨lw_p24, List.forall_mem_cons.mpr ⟨lw_p25, List.forall_mem_cons.mpr ⟨lw_p26, List.forall_mem_cons.mpr ⟨lw_p27, List.forall_mem_cons.mpr ⟨lw_p28, List.forall_mem_cons.mpr ⟨lw_p29, List.forall_mem_cons.mpr ⟨lw_p30, List.forall_mem_cons.mpr ⟨lw_p31, fun _ h => absurd h List.not_mem_nil⟩⟩⟩⟩⟩⟩⟩⟩⟩⟩⟩⟩⟩⟩⟩⟩
theorem lw_p32 : lw_okq (⟨"CountRoundsModel", "closePlace", "(II)V"⟩, 29) := ⟨⟨by decide +kernel, by decide +kernel⟩, List.mem_of_getElem? (i := 606) (by decide +kernel), List.mem_of_getElem? (i := 815) (by decide +kernel), List.mem_of_getElem? (i := 816) (by decide +kernel)⟩
theorem lw_p33 : lw_okq (⟨"CountRoundsModel", "isTold", "(II)Z"⟩, 29) := ⟨⟨by decide +kernel, by decide +kernel⟩, List.mem_of_getElem? (i := 606) (by decide +kernel), List.mem_of_getElem? (i := 819) (by decide +kernel), List.mem_of_getElem? (i := 820) (by decide +kernel)⟩
theorem lw_p34 : lw_okq (⟨"CountRoundsModel", "counts", "(I)I"⟩, 29) := ⟨⟨by decide +kernel, by decide +kernel⟩, List.mem_of_getElem? (i := 606) (by decide +kernel), List.mem_of_getElem? (i := 823) (by decide +kernel), List.mem_of_getElem? (i := 824) (by decide +kernel)⟩
theorem lw_p35 : lw_okq (⟨"CountRoundsModel", "difference", "(II)I"⟩, 29) := ⟨⟨by decide +kernel, by decide +kernel⟩, List.mem_of_getElem? (i := 606) (by decide +kernel), List.mem_of_getElem? (i := 827) (by decide +kernel), List.mem_of_getElem? (i := 828) (by decide +kernel)⟩
theorem lw_p36 : lw_okq (⟨"CountRoundsModel", "bookedAt", "(I)I"⟩, 29) := ⟨⟨by decide +kernel, by decide +kernel⟩, List.mem_of_getElem? (i := 606) (by decide +kernel), List.mem_of_getElem? (i := 835) (by decide +kernel), List.mem_of_getElem? (i := 836) (by decide +kernel)⟩
def lw_privs_3 : List (MethodName × Nat) := [(⟨"CountRoundsModel", "closePlace", "(II)V"⟩, 29), (⟨"CountRoundsModel", "isTold", "(II)Z"⟩, 29), (⟨"CountRoundsModel", "counts", "(I)I"⟩, 29), (⟨"CountRoundsModel", "difference", "(II)I"⟩, 29), (⟨"CountRoundsModel", "bookedAt", "(I)I"⟩, 29)]
theorem lw_r3 : ∀ q ∈ lw_privs_3, lw_okq q := List.forall_mem_cons.mpr ⟨lw_p32, List.forall_mem_cons.mpr ⟨lw_p33, List.forall_mem_cons.mpr ⟨lw_p34, List.forall_mem_cons.mpr ⟨lw_p35, List.forall_mem_cons.mpr ⟨lw_p36, fun _ h => absurd h List.not_mem_nil⟩⟩⟩⟩⟩
def lw_privs : List (MethodName × Nat) := lw_privs_1 ++ (lw_privs_2 ++ (lw_privs_3))
def lw_tbl : List Cond := k2_sels lw_privs ++ tables_1
theorem lw_privs_ok : ∀ q ∈ lw_privs, lw_okq q := by
  show ∀ q ∈ lw_privs_1 ++ (lw_privs_2 ++ (lw_privs_3)), lw_okq q
  exact List.forall_mem_append.mpr ⟨lw_r1, List.forall_mem_append.mpr ⟨lw_r2, lw_r3⟩⟩
end
section
/-! ===== BEGIN words of one list among another's, by their places ===== -/
theorem goodIn_r {big : List Cond} (ws : List Cond) (ps : List Nat) (hp : ws = ps.filterMap (fun i => big[i]?)) (h : ws.all goodWord = true) : GoodIn big ws := by
  intro w hw
  have h1 := List.all_eq_true.mp h w hw
  rw [hp] at hw
  obtain ⟨i, -, hi⟩ := List.mem_filterMap.mp hw
  have hm : w ∈ big := by first | exact List.mem_of_getElem? hi | exact List.getElem?_mem hi
  exact ⟨hm, good_of_word h1⟩
theorem goodIn_app {big a b : List Cond} (ha : GoodIn big a) (hb : GoodIn big b) : GoodIn big (a ++ b) := fun w h => (List.mem_append.mp h).elim (ha w) (hb w)
theorem goodIn_ca {big a b : List Cond} {c : Cond} (ha : GoodIn big (c :: a)) (hb : GoodIn big b) : GoodIn big (c :: (a ++ b)) := fun w h => (List.mem_cons.mp h).elim (fun e => ha w (List.mem_cons.mpr (Or.inl e))) (fun h => (List.mem_append.mp h).elim (fun h => ha w (List.mem_cons.mpr (Or.inr h))) (hb w))
theorem goodIn_sub {big ws : List Cond} (hm : ∀ w ∈ ws, w ∈ big) (h : ws.all goodWord = true) : GoodIn big ws := fun w hw => ⟨hm w hw, good_of_word (List.all_eq_true.mp h w hw)⟩
/-! ===== END ===== -/

/-! ===== BEGIN exceptions that leave a method, and their catching by the caller (launches without stack traces) ===== -/
section VXA
/-! The laws vx_back, vx_callV, vx_callS, vx_callSW, vx_throw0, vx_throwS follow proofs of the library, with one case more: JvmDerived/Free/Laws.lean (Back.of_free), Shelf42/LK1.lean (callV, callS), Shelf/KitTraced.lean (throwNew0V, throwNewS). -/
/-- where a method has thrown q: the class by its name, the cell, what was written, the world -/
def vx_T (XC : String → State → State → Prop) (st : State) (q : Addr) (t : State) (mc ms : Nat) (free : Addr → Prop) : Prop :=
  ∃ (E : String) (ce : Cell) (L : List Loc), XC E st t ∧ t.heap[q]? = some ce ∧ ce.vm = .none ∧ st.vm.findClass E = some ce.cls ∧ st.WarmedH t.vm ∧ st.sameButNew ({ t with vm := st.vm } : State) L mc ms ∧ ∀ z ∈ L, free z.base
def vx_Q (Qc : Array Value → State → Outcome → State → Prop) (XC : String → State → State → Prop) (mc ms : Nat) (free : Addr → Prop) : Array Value → State → Outcome → State → Prop := fun a st o t =>
  (Qc a st o t ∧ ∃ L, FrameEnd st o t L mc ms ∧ ∀ q ∈ L, free q.base) ∨ ∃ q, o = .threw q ∧ vx_T XC st q t mc ms free
/-- a callee that returns or throws -/
def vx_Met (l : Launch) (y : MethodName) (ws : List Cond) (rm : Room) (Pc : Array Value → State → Prop) (Qc : Array Value → State → Outcome → State → Prop) (XC : String → State → State → Prop) (mc ms : Nat) (free : Addr → Prop) : Prop :=
  MetFree l y (headSpec ws rm) Pc (fun _ _ _ _ _ => True) (vx_Q Qc XC mc ms free)
def vx_Post (XC : String → State → State → Prop) (mc ms : Nat) (free : Addr → Prop) : Pt → Array Value → Addr → Pt → Prop := fun A a q B =>
  ∃ (g : JFrame) (mk : MethodId) (t : State) (L : List Loc) (E : String) (ce : Cell), B.U.heap = t.heap ∧ B.U.vm = t.vm ∧ XC E (A.U.calling g mk a) t ∧ t.heap[q]? = some ce ∧ ce.vm = .none ∧ A.U.vm.findClass E = some ce.cls ∧ B.locs = A.locs ++ L ∧ (∀ z ∈ L, free z.base) ∧ B.cells = A.cells + mc ∧ B.slots = A.slots + ms
def vx_Back (l : Launch) (R : Room) (p : Program) (e : Env) (below : List Frame) (s : State) (sargs : Array Value) (y : MethodName) (len W9 : Nat)
    (Pre : Pt → Array Value → Prop) (Post : Pt → Array Value → Option Value → Pt → Prop) (PostX : Pt → Array Value → Addr → Pt → Prop) : Prop :=
  ∀ (m : MethodId) (meth : Method) (c : Code) (A : Pt) (g : JFrame) (ig : Instr) (mk : MethodId) (a : Array Value),
    Stand p l e R s m sargs below meth c A.U A.locs A.cells A.slots → g.method = m → g.locals.size = c.maxLocals → decode c.code g.pc = .ok (ig, len) →
    2 * g.monitorRoom + (g.stack.map fun v => v.category).sum ≤ W9 → A.U.methodNamed? y = some mk → Pre A a →
    (∃ (v : Option Value) (B : Pt), Stand p l e R s m sargs below meth c B.U B.locs B.cells B.slots ∧ Post A a v B ∧
      Steps p.tables e below (doInvoke e (A.U.setTop g) [] mk a).1 (B.U.setTop { g with pc := g.pc + len, stack := v.toList ++ g.stack })) ∨
    (∃ (q : Addr) (B : Pt), Stand p l e R s m sargs below meth c B.U B.locs B.cells B.slots ∧ PostX A a q B ∧
      Steps p.tables e below (doInvoke e (A.U.setTop g) [] mk a).1 ((B.U.setTop g).pushFrame (.throwing q)))
section Payer
variable {l : Launch} {R : Room} {p : Program} {e : Env} {below : List Frame} {s : State} {sargs : Array Value} {y : MethodName} {len W9 : Nat}
theorem vx_back {ws : List Cond} {rm : Room} {Pc : Array Value → State → Prop} {Qc : Array Value → State → Outcome → State → Prop} {XC : String → State → State → Prop} {mc ms : Nat} {free : Addr → Prop} {bytes : ByteArray} {maxL : Nat} {ret : Option FieldType}
    (hM : vx_Met l y ws rm Pc Qc XC mc ms free) (hblind : FrameBlind Pc) (hrc : rm.cells = mc) (hrs : rm.slots = ms)
    (hframes : rm.frames + 1 ≤ R.frames) (hlocals : W9 + (maxL + 11) + rm.locals ≤ R.locals)
    (hws : ∀ w ∈ ws, ∀ a' U, s.WarmedH U.vm → w.before a' U = true) (hcode : Cond.code y bytes maxL ret ∈ ws) (hinit : ∀ a' U, s.WarmedH U.vm → (Cond.initialized y.cls).before a' U = true) :
    vx_Back l R p e below s sargs y len W9 (PreOf R mc ms Pc) (PostOf Qc mc ms free) (vx_Post XC mc ms free) := by
  intro m meth c A g ig mk a X hg hsize hdg hW hn hp
  have h1 : (headSpec ws rm).pre.before a A.U = true := atoms_intro fun w hw => hws w hw _ _ X.warmed
  have h2 : (Cond.code y bytes maxL ret).before a A.U = true := hws _ hcode _ _ X.warmed
  have h3 : (Cond.initialized y.cls).before a A.U = true := hinit _ _ X.warmed
  have h4 : A.cells + (headSpec ws rm).room.cells ≤ R.cells := by rw [show (headSpec ws rm).room.cells = mc from hrc]; exact hp.1
  have h5 : A.slots + (headSpec ws rm).room.slots ≤ R.slots := by rw [show (headSpec ws rm).room.slots = ms from hrs]; exact hp.2.1
  have hPc : Pc a (A.U.calling g mk a) := hblind _ _ _ _ hp.2.2
  obtain ⟨U, Ls, c0, s0⟩ := A
  dsimp only [Pt.U, Pt.locs, Pt.cells, Pt.slots] at h1 h2 h3 h4 h5 X hn hPc ⊢
  obtain ⟨methY, cY, hmY, hcY, -, hlY, -, -, -, -⟩ := Cond.code_spec hn h2
  obtain ⟨kY, hkY, -⟩ := className_of_methodNamed hn
  have hinitY : kY.init = .initialized := Cond.initialized_spec (findClass_of_methodNamed hn) hkY h3
  have h : At U g.method c below := by rw [hg]; exact X.here
  have hlocals9 : W9 + (maxL + 11) + (headSpec ws rm).room.locals ≤ R.locals := hlocals
  have happ : (headSpec ws rm).appliesLoose y e.platform (U.calling g mk a) = true :=
    Spec.appliesLoose_calling (g := g) h hdg hn hkY hinitY
      (X.room_calling (g := g) (R' := (headSpec ws rm).room) hsize hmY hcY hframes (by rw [hlY]; omega) h4 h5) h1
  obtain ⟨mid, hmid⟩ := h.above
  have hfr : (U.setTop g).frames = (.java g :: mid) ++ below := by rw [State.frames_setTop' g h.top, hmid]; rfl
  obtain ⟨o, s₂, hsteps, -, hend, hq⟩ := Steps.callFree hM p X.admits X.cas X.clock (acts := []) hfr happ hPc trivial
  have hq' : vx_Q Qc XC mc ms free a (U.calling g mk a) o s₂ := hq
  rw [State.frames_setTop' g h.top] at hend
  obtain ⟨g₀, hg0⟩ := Option.isSome_iff_exists.mp h.top
  obtain ⟨r, hr⟩ := State.topJava?_eq_some.mp hg0
  have hr' : (({ U with heap := s₂.heap, slotsUsed := s₂.slotsUsed } : State).setVm s₂.vm).frames = .java g₀ :: r := hr
  rcases hq' with ⟨hqc, L, hfe, hL⟩ | ⟨q, rfl, E, ce, L, hx, hce, hcv, hcl, hW₂, hsm, hL⟩
  · obtain ⟨⟨v, rfl⟩, hW₂, e2, q2, q3, q4, q5, q6⟩ := id hfe
    have e3 : s₂ = ({ (U.calling g mk a).setFrames s₂.frames with heap := s₂.heap, slotsUsed := s₂.slotsUsed } : State).setVm s₂.vm := by
      have : s₂ = ({ s₂ with vm := (U.calling g mk a).vm } : State).setVm s₂.vm := rfl
      rw [e2] at this
      exact this
    obtain ⟨c₂, i₂, len₂, hc₂, hd₂, hf₂⟩ := hend
    have hW' : U.WarmedH s₂.vm := hW₂
    have hcc : c₂ = c := by
      have h1 : s₂.code? g.method = U.code? g.method := by
        rw [State.code?_eq, State.code?_eq, hW'.alike.method?]
      exact Option.some.inj (hc₂.symm.trans (h1.trans h.code))
    subst hcc
    have hlen : len₂ = len := by rw [hdg] at hd₂; cases hd₂; rfl
    subst hlen
    have hs₂ : s₂ = (({ U with heap := s₂.heap, slotsUsed := s₂.slotsUsed } : State).setVm s₂.vm).setTop { g with pc := g.pc + len₂, stack := v.toList ++ g.stack } := by
      refine e3.trans ?_
      rw [hf₂, State.calling_eq h.top, State.setFrames_setFrames, State.setTop_of_frames _ hr', hr]
      rfl
    have hsame : U.sameButNew ({ U with heap := s₂.heap, slotsUsed := s₂.slotsUsed } : State) L mc ms := by
      refine ⟨?_, q2, q3, q4, q5, q6⟩
      obtain ⟨t, ht, -⟩ := State.frames_cons hr
      show ({ U with heap := s₂.heap, slotsUsed := s₂.slotsUsed } : State) = { U.setFrames U.frames with heap := s₂.heap, slotsUsed := s₂.slotsUsed }
      rw [State.setFrames_self ht]
    subst hg
    refine Or.inl ⟨v, ⟨(({ U with heap := s₂.heap, slotsUsed := s₂.slotsUsed } : State).setVm s₂.vm), Ls ++ L, c0 + mc, s0 + ms⟩,
      ⟨X.admits, X.cas, X.clock, X.frames, X.room, X.hears, X.method, X.code, (X.here.setHeapUsed s₂.heap s₂.slotsUsed).setVm hW'.alike, X.tail, State.WarmedH.trans X.warmed hW', X.limits, X.bytes, X.same.trans (hsame.setVm s.vm)⟩,
      ⟨g, mk, s₂, L, rfl, rfl, hqc, rfl, hL, rfl, rfl⟩, ?_⟩
    show Steps p.tables e below _ ((({ U with heap := s₂.heap, slotsUsed := s₂.slotsUsed } : State).setVm s₂.vm).setTop { g with pc := g.pc + len₂, stack := v.toList ++ g.stack })
    rw [← hs₂]
    exact hsteps
  · obtain ⟨e2, q2, q3, q4, q5, q6⟩ := id hsm
    have e3 : s₂ = ({ (U.calling g mk a).setFrames s₂.frames with heap := s₂.heap, slotsUsed := s₂.slotsUsed } : State).setVm s₂.vm := by
      have : s₂ = ({ s₂ with vm := (U.calling g mk a).vm } : State).setVm s₂.vm := rfl
      rw [e2] at this
      exact this
    have hf₂ : s₂.frames = .throwing q :: .java g :: U.frames.tail := hend
    have hW' : U.WarmedH s₂.vm := hW₂
    have hs₂ : s₂ = ((({ U with heap := s₂.heap, slotsUsed := s₂.slotsUsed } : State).setVm s₂.vm).setTop g).pushFrame (.throwing q) := by
      refine e3.trans ?_
      rw [hf₂, State.calling_eq h.top, State.setFrames_setFrames, State.pushFrame, State.frames_setTop _ hr', State.setTop_of_frames _ hr', State.setFrames_setFrames, hr]
      rfl
    have hsame : U.sameButNew ({ U with heap := s₂.heap, slotsUsed := s₂.slotsUsed } : State) L mc ms := by
      refine ⟨?_, q2, q3, q4, q5, q6⟩
      obtain ⟨t, ht, -⟩ := State.frames_cons hr
      show ({ U with heap := s₂.heap, slotsUsed := s₂.slotsUsed } : State) = { U.setFrames U.frames with heap := s₂.heap, slotsUsed := s₂.slotsUsed }
      rw [State.setFrames_self ht]
    subst hg
    refine Or.inr ⟨q, ⟨(({ U with heap := s₂.heap, slotsUsed := s₂.slotsUsed } : State).setVm s₂.vm), Ls ++ L, c0 + mc, s0 + ms⟩,
      ⟨X.admits, X.cas, X.clock, X.frames, X.room, X.hears, X.method, X.code, (X.here.setHeapUsed s₂.heap s₂.slotsUsed).setVm hW'.alike, X.tail, State.WarmedH.trans X.warmed hW', X.limits, X.bytes, X.same.trans (hsame.setVm s.vm)⟩,
      ⟨g, mk, s₂, L, E, ce, rfl, rfl, hx, hce, hcv, hcl, rfl, hL, rfl, rfl⟩, ?_⟩
    show Steps p.tables e below _ (((({ U with heap := s₂.heap, slotsUsed := s₂.slotsUsed } : State).setVm s₂.vm).setTop g).pushFrame (.throwing q))
    rw [← hs₂]
    exact hsteps
end Payer
section Calls
variable {p : Program} {l : Launch} {e : Env} {R : Room} {s : State} {m : MethodId} {args : Array Value} {below : List Frame} {meth : Method} {c : Code} {T : State} {locs : List Loc} {cells slots : Nat}
theorem vx_callV (X : Stand p l e R s m args below meth c T locs cells slots) (hexec : p.tables.exec = Jvm.exec) {own C : String} {index : Nat} {y : MethodName} {bytes : ByteArray} {maxL : Nat} {ret : Option FieldType}
    (hown : s.vm.findClass own = some m.cls) (hlink : (Cond.methodLink own index y).before args s = true) (hinst : (Cond.instanceMethod y).before args s = true) (hsel : (Cond.selects C y y).before args s = true)
    (hcode : (Cond.code y bytes maxL ret).before args s = true) (hy : y.cls ≠ "java/lang/invoke/MethodHandle" ∧ y.cls ≠ "java/lang/invoke/VarHandle")
    {W9 : Nat} {Pre : Pt → Array Value → Prop} {Post : Pt → Array Value → Option Value → Pt → Prop} {PostX : Pt → Array Value → Addr → Pt → Prop} (hK : vx_Back l R p e below s args y 3 W9 Pre Post PostX)
    {b : Addr} {cellB : Cell} (hcell : T.heap[b]? = some cellB) (hobj : cellB.vm.isStatics = false) (hcls : s.vm.findClass C = some cellB.cls)
    {g : JFrame} (hg : g.method = m) (hsize : g.locals.size = c.maxLocals) {argsL rest : List Value} (hlen : ∀ sig, parseMethodDescriptor y.desc = some sig → argsL.length = sig.parameters.length)
    (hstack : g.stack = argsL.reverse ++ .ref b :: rest) (hW : 2 * g.monitorRoom + (rest.map fun v => v.category).sum ≤ W9) (hdg : decode c.code g.pc = .ok (.invokevirtual index, 3))
    (hpre : ∀ vm₁, s.WarmedH vm₁ → Pre ⟨T.setVm vm₁, locs, cells, slots⟩ (Value.ref b :: argsL).toArray) :
    (∃ (v : Option Value) (vm₁ : Vm) (B : Pt), s.WarmedH vm₁ ∧ Stand p l e R s m args below meth c B.U B.locs B.cells B.slots ∧ Post ⟨T.setVm vm₁, locs, cells, slots⟩ (Value.ref b :: argsL).toArray v B ∧
      ∀ target, Steps p.tables e below (B.U.setTop { g with pc := g.pc + 3, stack := v.toList ++ rest }) target → Steps p.tables e below (T.setTop g) target) ∨
    (∃ (q : Addr) (vm₁ : Vm) (B : Pt), s.WarmedH vm₁ ∧ Stand p l e R s m args below meth c B.U B.locs B.cells B.slots ∧ PostX ⟨T.setVm vm₁, locs, cells, slots⟩ (Value.ref b :: argsL).toArray q B ∧
      Steps p.tables e below (T.setTop g) ((B.U.setTop { g with stack := rest }).pushFrame (.throwing q))) := by
  obtain ⟨mk, methM, hnamed, hmethM, hstM, habM⟩ := Cond.instanceMethod_spec hinst
  obtain ⟨methM', cM, hmethM', -, -, -, -, -, -, hsigM⟩ := Cond.code_spec hnamed hcode
  cases hmethM.symm.trans hmethM'
  obtain ⟨c2, r2, m2, q1, q2, q3, q4, kP, hkP, hkPi⟩ := Cond.selects_spec hsel
  cases hcls.symm.trans q1
  cases (State.methodFound?_of_named hnamed hy).symm.trans q2
  cases hnamed.symm.trans q3
  have hselP : selectMethod e.platform s.vm cellB.cls mk = .method mk := by rw [Launch.admits_selectMethod X.admits]; exact q4
  obtain ⟨vm₁, X₁, hstep₁⟩ := X.invokevirtual hexec hown hlink hnamed hmethM hstM hkP hkPi hy (a := b) (cell := cellB) hcell
    (fun z h => by rw [h] at hobj; cases hobj) hselP hmethM habM hkP hkPi (g := g) hg (argsL := argsL) (rest := rest) (hlen _ hsigM) hstack hdg
  rcases hK m meth c ⟨T.setVm vm₁, locs, cells, slots⟩ { g with stack := rest } (.invokevirtual index) mk (Value.ref b :: argsL).toArray X₁ hg hsize hdg hW (X₁.named hnamed) (hpre vm₁ X₁.warmed) with ⟨v, B, X', hpost, hsteps⟩ | ⟨q, B, X', hpost, hsteps⟩
  · exact Or.inl ⟨v, vm₁, B, X₁.warmed, X', hpost, fun target h => hstep₁ _ fun acts => by rw [doInvoke_state]; exact hsteps.trans h⟩
  · exact Or.inr ⟨q, vm₁, B, X₁.warmed, X', hpost, hstep₁ _ fun acts => by rw [doInvoke_state]; exact hsteps⟩
theorem vx_callS (X : Stand p l e R s m args below meth c T locs cells slots) (hexec : p.tables.exec = Jvm.exec) {own : String} {index : Nat} {y : MethodName} {bytes : ByteArray} {maxL : Nat} {ret : Option FieldType}
    (hown : s.vm.findClass own = some m.cls) (hlink : (Cond.methodLink own index y).before args s = true) (hstat : (Cond.static y).before args s = true) (hinit : (Cond.initialized y.cls).before args s = true)
    (hcode : (Cond.code y bytes maxL ret).before args s = true) (hy : y.cls ≠ "java/lang/invoke/MethodHandle" ∧ y.cls ≠ "java/lang/invoke/VarHandle")
    {W9 : Nat} {Pre : Pt → Array Value → Prop} {Post : Pt → Array Value → Option Value → Pt → Prop} {PostX : Pt → Array Value → Addr → Pt → Prop} (hK : vx_Back l R p e below s args y 3 W9 Pre Post PostX)
    {g : JFrame} (hg : g.method = m) (hsize : g.locals.size = c.maxLocals) {argsL rest : List Value} (hlen : ∀ sig, parseMethodDescriptor y.desc = some sig → argsL.length = sig.parameters.length)
    (hstack : g.stack = argsL.reverse ++ rest) (hW : 2 * g.monitorRoom + (rest.map fun v => v.category).sum ≤ W9) (hdg : decode c.code g.pc = .ok (.invokestatic index, 3))
    (hpre : ∀ vm₁, s.WarmedH vm₁ → Pre ⟨T.setVm vm₁, locs, cells, slots⟩ argsL.toArray) :
    (∃ (v : Option Value) (vm₁ : Vm) (B : Pt), s.WarmedH vm₁ ∧ Stand p l e R s m args below meth c B.U B.locs B.cells B.slots ∧ Post ⟨T.setVm vm₁, locs, cells, slots⟩ argsL.toArray v B ∧
      ∀ target, Steps p.tables e below (B.U.setTop { g with pc := g.pc + 3, stack := v.toList ++ rest }) target → Steps p.tables e below (T.setTop g) target) ∨
    (∃ (q : Addr) (vm₁ : Vm) (B : Pt), s.WarmedH vm₁ ∧ Stand p l e R s m args below meth c B.U B.locs B.cells B.slots ∧ PostX ⟨T.setVm vm₁, locs, cells, slots⟩ argsL.toArray q B ∧
      Steps p.tables e below (T.setTop g) ((B.U.setTop { g with stack := rest }).pushFrame (.throwing q))) := by
  obtain ⟨mk, hnamed⟩ := Cond.code_named hcode
  obtain ⟨methM, cM, hmethM, -, -, -, -, -, -, hsigM⟩ := Cond.code_spec hnamed hcode
  have hstatic : methM.isStatic = true := Cond.static_spec hnamed hmethM hstat
  obtain ⟨kP, hkP, -⟩ := className_of_methodNamed hnamed
  have hinitP : kP.init = .initialized := Cond.initialized_spec (findClass_of_methodNamed hnamed) hkP hinit
  obtain ⟨vm₁, X₁, hstep₁⟩ := X.invokestatic hexec hown hlink hnamed hmethM hstatic hkP hinitP hy (g := g) hg (argsL := argsL) (rest := rest) (hlen _ hsigM) hstack hdg
  rcases hK m meth c ⟨T.setVm vm₁, locs, cells, slots⟩ { g with stack := rest } (.invokestatic index) mk argsL.toArray X₁ hg hsize hdg hW (X₁.named hnamed) (hpre vm₁ X₁.warmed) with ⟨v, B, X', hpost, hsteps⟩ | ⟨q, B, X', hpost, hsteps⟩
  · exact Or.inl ⟨v, vm₁, B, X₁.warmed, X', hpost, fun target h => hstep₁ _ fun acts => by rw [doInvoke_state]; exact hsteps.trans h⟩
  · exact Or.inr ⟨q, vm₁, B, X₁.warmed, X', hpost, hstep₁ _ fun acts => by rw [doInvoke_state]; exact hsteps⟩
end Calls
theorem vx_cls {s : State} {T : State} {vm₁ : Vm} {E : String} {k : ClassId} (hW : s.WarmedH vm₁) (h : (T.setVm vm₁).vm.findClass E = some k) : s.vm.findClass E = some k := by
  have h1 : vm₁.findClass E = some k := h
  rw [hW.alike.findClass] at h1
  exact h1
/-- the method's frame g, with q thrown over it -/
def vx_W (p : Program) (l : Launch) (e : Env) (R : Room) (s : State) (m : MethodId) (args : Array Value) (below : List Frame) (meth : Method) (c : Code) (H : Heap) (locs : List Loc) (cells slots : Nat) (Q : State → Prop) (g : JFrame) (q : Addr) : Prop :=
  ∀ T : State, T.heap = H → Stand p l e R s m args below meth c T locs cells slots → ∃ t, Steps p.tables e below ((T.setTop g).pushFrame (.throwing q)) t ∧ Q t
def vx_Run (p : Program) (l : Launch) (e : Env) (R : Room) (s : State) (m : MethodId) (args : Array Value) (below : List Frame) (meth : Method) (c : Code) (H : Heap) (locs : List Loc) (cells slots mc ms : Nat) (g : JFrame) (rest : List Value) (Qa : State → Outcome → State → Prop) (XC : String → State → State → Prop) (free : Addr → Prop) : Prop :=
  ∀ T : State, T.heap = H → Stand p l e R s m args below meth c T locs cells slots →
    (∃ (v : Option Value) (st₀ t T' : State) (L : List Loc), st₀.heap = H ∧ Stand p l e R s m args below meth c T' (locs ++ L) (cells + mc) (slots + ms) ∧ (∀ q ∈ L, free q.base) ∧ T'.heap = t.heap ∧ T'.vm = t.vm ∧ Qa st₀ (.returned v) t ∧
      Goes p e below T g T' { g with pc := g.pc + 3, stack := v.toList ++ rest }) ∨
    (∃ (q : Addr) (st₀ t T' : State) (L : List Loc) (E : String) (ce : Cell), st₀.heap = H ∧ Stand p l e R s m args below meth c T' (locs ++ L) (cells + mc) (slots + ms) ∧ (∀ z ∈ L, free z.base) ∧ T'.heap = t.heap ∧ T'.vm = t.vm ∧ XC E st₀ t ∧ t.heap[q]? = some ce ∧ ce.vm = .none ∧ s.vm.findClass E = some ce.cls ∧
      Steps p.tables e below (T.setTop g) ((T'.setTop { g with stack := rest }).pushFrame (.throwing q)))
def vx_X {S : Type} (px : S → Prop) (B : String → S → State → Prop) (A : Nat → Prop) : String → State → State → Prop := fun E st t => ∃ u : S, px u ∧ B E u t ∧ va_F A st t
section Runs
variable {p : Program} {l : Launch} {e : Env} {R : Room} {s : State} {m : MethodId} {args : Array Value} {below : List Frame} {meth : Method} {c : Code} {H : Heap} {locs : List Loc} {cells slots : Nat}
variable {y : MethodName} {bytes cc : ByteArray} {maxL nL mc ms n index : Nat} {ret : Option FieldType} {ws : List Cond} {rm : Room} {Pc : Array Value → State → Prop} {Qc : Array Value → State → Outcome → State → Prop} {XC : String → State → State → Prop} {free : Addr → Prop} {Ts : List Cond} {own C : String} {b : Addr} {As rest : List Value} {g : JFrame}
theorem vx_callBack (cb : CallB R s args own index y bytes maxL ret ws rm mc ms n) (hM : vx_Met l y ws rm Pc Qc XC mc ms free) (hbl : FrameBlind Pc) : vx_Back l R p e below s args y 3 8 (PreOf R mc ms Pc) (PostOf Qc mc ms free) (vx_Post XC mc ms free) := by
  obtain ⟨hrc, hrs, hfr, hlo, hws, hcw, -, hini, -⟩ := cb
  exact vx_back (bytes := bytes) (maxL := maxL) (ret := ret) hM hbl hrc hrs hfr hlo hws hcw (fun a' U hW => word_at hW (Or.inl (by first | rfl | simp [Cond.onTables, Cond.keeps, Cond.steady])) hini)
theorem vx_runV (S : CallFix p m c cc nL s args Ts own) (hM : vx_Met l y ws rm Pc Qc XC mc ms free) (cw : CallW R s args own C index y bytes maxL ret ws rm mc ms n) (hp : PreV s H C b Pc As)
    (hg : g.method = m) (hn : As.length = n) (hsize : g.locals.size = nL) (hstack : g.stack = As.reverse ++ .ref b :: rest) (hW : 2 * g.monitorRoom + (rest.map fun v => v.category).sum ≤ 8) (hdg : decode cc g.pc = .ok (.invokevirtual index, 3)) (hf : cells + mc ≤ R.cells ∧ slots + ms ≤ R.slots) :
    vx_Run p l e R s m args below meth c H locs cells slots mc ms g rest (Qc (Value.ref b :: As).toArray) XC free := by
  have hK : vx_Back l R p e below s args y 3 8 (PreOf R mc ms Pc) (PostOf Qc mc ms free) (vx_Post XC mc ms free) := vx_callBack cw.1 hM hp.1
  obtain ⟨⟨-, -, -, -, -, -, hcode, -, hy, hlen, hl⟩, hin, hse⟩ := cw
  obtain ⟨hx, hb, hml, ho, -⟩ := S
  obtain ⟨-, ⟨cellB, hcB, hoB, hclB⟩, hPc⟩ := hp
  intro T hT X
  rcases vx_callV X hx (C := C) (bytes := bytes) (maxL := maxL) (ret := ret) ho hl hin hse hcode hy hK (by rw [hT]; exact hcB) hoB hclB hg (hsize.trans hml.symm) (argsL := As) (rest := rest) (fun sig h => hn.trans (hlen sig h)) hstack hW (by rw [hb]; exact hdg)
    (fun vm₁ hW₁ => ⟨hf.1, hf.2, hPc (T.setVm vm₁) hT hW₁⟩) with ⟨v, vm₁, ⟨U', l2, c2, s2⟩, hW₁, X', ⟨g', mk, t, L, e1, e2, hq, h1, hL, h2, h3⟩, st⟩ | ⟨q, vm₁, ⟨U', l2, c2, s2⟩, hW₁, X', ⟨g', mk, t, L, E, ce, e1, e2, hq, hce, hcv, hcl, h1, hL, h2, h3⟩, st⟩
  · dsimp only [Pt.U, Pt.locs, Pt.cells, Pt.slots] at X' e1 e2 h1 h2 h3 st
    subst h1; subst h2; subst h3
    exact Or.inl ⟨v, (T.setVm vm₁).calling g' mk (Value.ref b :: As).toArray, t, U', L, hT, X', hL, e1, e2, hq, st⟩
  · dsimp only [Pt.U, Pt.locs, Pt.cells, Pt.slots] at X' e1 e2 h1 h2 h3 st hcl
    subst h1; subst h2; subst h3
    exact Or.inr ⟨q, (T.setVm vm₁).calling g' mk (Value.ref b :: As).toArray, t, U', L, E, ce, hT, X', hL, e1, e2, hq, hce, hcv, vx_cls hW₁ hcl, st⟩
theorem vx_runS (S : CallFix p m c cc nL s args Ts own) (hM : vx_Met l y ws rm Pc Qc XC mc ms free) (cw : CallB R s args own index y bytes maxL ret ws rm mc ms n ∧ (Cond.static y).before args s = true) (hp : PreS s H Pc As)
    (hg : g.method = m) (hn : As.length = n) (hsize : g.locals.size = nL) (hstack : g.stack = As.reverse ++ rest) (hW : 2 * g.monitorRoom + (rest.map fun v => v.category).sum ≤ 8) (hdg : decode cc g.pc = .ok (.invokestatic index, 3)) (hf : cells + mc ≤ R.cells ∧ slots + ms ≤ R.slots) :
    vx_Run p l e R s m args below meth c H locs cells slots mc ms g rest (Qc As.toArray) XC free := by
  have hK : vx_Back l R p e below s args y 3 8 (PreOf R mc ms Pc) (PostOf Qc mc ms free) (vx_Post XC mc ms free) := vx_callBack cw.1 hM hp.1
  obtain ⟨⟨-, -, -, -, -, -, hcode, hini, hy, hlen, hl⟩, hstt⟩ := cw
  obtain ⟨hx, hb, hml, ho, -⟩ := S
  intro T hT X
  rcases vx_callS X hx (bytes := bytes) (maxL := maxL) (ret := ret) ho hl hstt hini hcode hy hK hg (hsize.trans hml.symm) (argsL := As) (rest := rest) (fun sig h => hn.trans (hlen sig h)) hstack hW (by rw [hb]; exact hdg)
    (fun vm₁ hW₁ => ⟨hf.1, hf.2, hp.2 (T.setVm vm₁) hT hW₁⟩) with ⟨v, vm₁, ⟨U', l2, c2, s2⟩, hW₁, X', ⟨g', mk, t, L, e1, e2, hq, h1, hL, h2, h3⟩, st⟩ | ⟨q, vm₁, ⟨U', l2, c2, s2⟩, hW₁, X', ⟨g', mk, t, L, E, ce, e1, e2, hq, hce, hcv, hcl, h1, hL, h2, h3⟩, st⟩
  · dsimp only [Pt.U, Pt.locs, Pt.cells, Pt.slots] at X' e1 e2 h1 h2 h3 st
    subst h1; subst h2; subst h3
    exact Or.inl ⟨v, (T.setVm vm₁).calling g' mk As.toArray, t, U', L, hT, X', hL, e1, e2, hq, st⟩
  · dsimp only [Pt.U, Pt.locs, Pt.cells, Pt.slots] at X' e1 e2 h1 h2 h3 st hcl
    subst h1; subst h2; subst h3
    exact Or.inr ⟨q, (T.setVm vm₁).calling g' mk As.toArray, t, U', L, E, ce, hT, X', hL, e1, e2, hq, hce, hcv, vx_cls hW₁ hcl, st⟩
end Runs
section Rows
variable {p : Program} {l : Launch} {e : Env} {R : Room} {s : State} {m : MethodId} {args : Array Value} {below : List Frame} {meth : Method} {c : Code} {H : Heap} {locs : List Loc} {cells slots : Nat} {Q : State → Prop}
variable {mc ms : Nat} {free : Addr → Prop} {A0 A1 : Nat → Prop} {H0 : Heap} {a : Array Value} {pc : Nat} {ls : Array Slot} {st0 rest : List Value}
theorem vx_keep {st₀ t T' : State} {L : List Loc} (h0 : st₀.heap = H) (e1 : T'.heap = t.heap) (hS : va_S A0 H0 H locs) (hA : ∀ q, q < H.size → A1 q → A0 q) (hf : ∀ q, free q → A0 q) (hL : ∀ q ∈ L, free q.base) (hF : va_F A1 st₀ t) :
    H.size ≤ T'.heap.size ∧ (∀ q : Nat, q < H.size → ¬ A1 q → T'.heap[q]? = H[q]?) ∧ va_S A0 H0 T'.heap (locs ++ L) := by
  obtain ⟨hz, hk⟩ := hF
  rw [h0] at hz hk
  exact ⟨by rw [e1]; exact hz, fun q h1 h2 => by rw [e1]; exact hk q h1 h2,
    ⟨Nat.le_trans hS.1 (by rw [e1]; exact hz), fun q h1 h2 => by rw [e1, hk q (Nat.lt_of_lt_of_le h1 hS.1) (fun z => h2 (hA q (Nat.lt_of_lt_of_le h1 hS.1) z))]; exact hS.2.1 q h1 h2, fun q hq => by
      rcases List.mem_append.mp hq with h | h
      · exact hS.2.2 q h
      · exact hf _ (hL q h)⟩⟩
theorem vx_calli {S SX : Type} {post : Int32 → S → Prop} {px : SX → Prop} {B : S → State → Prop} {BX : String → SX → State → Prop} {AX : Nat → Prop} (hr : vx_Run p l e R s m args below meth c H locs cells slots mc ms (F0 m pc ls st0) rest (va_Qi post B A1 a) (vx_X px BX AX) free) (hS : va_S A0 H0 H locs) (hA : ∀ q, q < H.size → A1 q → A0 q) (hf : ∀ q, free q → A0 q) (hAX : ∀ q, q < H.size → AX q → A0 q)
    (kx : ∀ (E : String) (ce : Cell) (q9 : Addr) (u : SX) (t : State) (H1 : Heap) (locs1 : List Loc), t.heap = H1 → s.vm.Alike t.vm → px u → BX E u t → H.size ≤ H1.size → (∀ q : Nat, q < H.size → ¬ AX q → H1[q]? = H[q]?) → va_S A0 H0 H1 locs1 → H1[q9]? = some ce → ce.vm = .none → s.vm.findClass E = some ce.cls → vx_W p l e R s m args below meth c H1 locs1 (cells + mc) (slots + ms) Q (F0 m pc ls rest) q9)
    (kk : ∀ (r : Int32) (u : S) (t : State) (H1 : Heap) (locs1 : List Loc), t.heap = H1 → s.vm.Alike t.vm → post r u → B u t → H.size ≤ H1.size → (∀ q : Nat, q < H.size → ¬ A1 q → H1[q]? = H[q]?) → va_S A0 H0 H1 locs1 → W p l e R s m args below meth c H1 locs1 (cells + mc) (slots + ms) Q (F0 m (pc + 3) ls (.int r :: rest))) : W p l e R s m args below meth c H locs cells slots Q (F0 m pc ls st0) := by
  intro T hT X
  rcases hr T hT X with ⟨v, st₀, t, T', L, h0, X', hL, e1, e2, ⟨⟨r, u, hv, hp, hb⟩, hF⟩, st⟩ | ⟨q, st₀, t, T', L, E, ce, h0, X', hL, e1, e2, ⟨u, hp, hb, hF⟩, hce, hcv, hcl, st⟩
  · cases hv
    obtain ⟨k1, k2, k3⟩ := vx_keep h0 e1 hS hA hf hL hF
    obtain ⟨t2, a1, b1⟩ := kk r u t T'.heap (locs ++ L) e1.symm (by rw [← e2]; exact X'.warmed.alike) hp hb k1 k2 k3 T' rfl X'
    exact ⟨t2, st t2 a1, b1⟩
  · obtain ⟨k1, k2, k3⟩ := vx_keep h0 e1 hS hAX hf hL hF
    obtain ⟨t2, a1, b1⟩ := kx E ce q u t T'.heap (locs ++ L) e1.symm (by rw [← e2]; exact X'.warmed.alike) hp hb k1 k2 k3 (by rw [e1]; exact hce) hcv hcl T' rfl X'
    exact ⟨t2, st.trans a1, b1⟩
theorem vx_calll {S SX : Type} {post : Int64 → S → Prop} {px : SX → Prop} {B : S → State → Prop} {BX : String → SX → State → Prop} {AX : Nat → Prop} (hr : vx_Run p l e R s m args below meth c H locs cells slots mc ms (F0 m pc ls st0) rest (va_Ql post B A1 a) (vx_X px BX AX) free) (hS : va_S A0 H0 H locs) (hA : ∀ q, q < H.size → A1 q → A0 q) (hf : ∀ q, free q → A0 q) (hAX : ∀ q, q < H.size → AX q → A0 q)
    (kx : ∀ (E : String) (ce : Cell) (q9 : Addr) (u : SX) (t : State) (H1 : Heap) (locs1 : List Loc), t.heap = H1 → s.vm.Alike t.vm → px u → BX E u t → H.size ≤ H1.size → (∀ q : Nat, q < H.size → ¬ AX q → H1[q]? = H[q]?) → va_S A0 H0 H1 locs1 → H1[q9]? = some ce → ce.vm = .none → s.vm.findClass E = some ce.cls → vx_W p l e R s m args below meth c H1 locs1 (cells + mc) (slots + ms) Q (F0 m pc ls rest) q9)
    (kk : ∀ (r : Int64) (u : S) (t : State) (H1 : Heap) (locs1 : List Loc), t.heap = H1 → s.vm.Alike t.vm → post r u → B u t → H.size ≤ H1.size → (∀ q : Nat, q < H.size → ¬ A1 q → H1[q]? = H[q]?) → va_S A0 H0 H1 locs1 → W p l e R s m args below meth c H1 locs1 (cells + mc) (slots + ms) Q (F0 m (pc + 3) ls (.long r :: rest))) : W p l e R s m args below meth c H locs cells slots Q (F0 m pc ls st0) := by
  intro T hT X
  rcases hr T hT X with ⟨v, st₀, t, T', L, h0, X', hL, e1, e2, ⟨⟨r, u, hv, hp, hb⟩, hF⟩, st⟩ | ⟨q, st₀, t, T', L, E, ce, h0, X', hL, e1, e2, ⟨u, hp, hb, hF⟩, hce, hcv, hcl, st⟩
  · cases hv
    obtain ⟨k1, k2, k3⟩ := vx_keep h0 e1 hS hA hf hL hF
    obtain ⟨t2, a1, b1⟩ := kk r u t T'.heap (locs ++ L) e1.symm (by rw [← e2]; exact X'.warmed.alike) hp hb k1 k2 k3 T' rfl X'
    exact ⟨t2, st t2 a1, b1⟩
  · obtain ⟨k1, k2, k3⟩ := vx_keep h0 e1 hS hAX hf hL hF
    obtain ⟨t2, a1, b1⟩ := kx E ce q u t T'.heap (locs ++ L) e1.symm (by rw [← e2]; exact X'.warmed.alike) hp hb k1 k2 k3 (by rw [e1]; exact hce) hcv hcl T' rfl X'
    exact ⟨t2, st.trans a1, b1⟩
theorem vx_callf {S SX : Type} {post : UInt32 → S → Prop} {px : SX → Prop} {B : S → State → Prop} {BX : String → SX → State → Prop} {AX : Nat → Prop} (hr : vx_Run p l e R s m args below meth c H locs cells slots mc ms (F0 m pc ls st0) rest (va_Qf post B A1 a) (vx_X px BX AX) free) (hS : va_S A0 H0 H locs) (hA : ∀ q, q < H.size → A1 q → A0 q) (hf : ∀ q, free q → A0 q) (hAX : ∀ q, q < H.size → AX q → A0 q)
    (kx : ∀ (E : String) (ce : Cell) (q9 : Addr) (u : SX) (t : State) (H1 : Heap) (locs1 : List Loc), t.heap = H1 → s.vm.Alike t.vm → px u → BX E u t → H.size ≤ H1.size → (∀ q : Nat, q < H.size → ¬ AX q → H1[q]? = H[q]?) → va_S A0 H0 H1 locs1 → H1[q9]? = some ce → ce.vm = .none → s.vm.findClass E = some ce.cls → vx_W p l e R s m args below meth c H1 locs1 (cells + mc) (slots + ms) Q (F0 m pc ls rest) q9)
    (kk : ∀ (r : UInt32) (u : S) (t : State) (H1 : Heap) (locs1 : List Loc), t.heap = H1 → s.vm.Alike t.vm → post r u → B u t → H.size ≤ H1.size → (∀ q : Nat, q < H.size → ¬ A1 q → H1[q]? = H[q]?) → va_S A0 H0 H1 locs1 → W p l e R s m args below meth c H1 locs1 (cells + mc) (slots + ms) Q (F0 m (pc + 3) ls (.float r :: rest))) : W p l e R s m args below meth c H locs cells slots Q (F0 m pc ls st0) := by
  intro T hT X
  rcases hr T hT X with ⟨v, st₀, t, T', L, h0, X', hL, e1, e2, ⟨⟨r, u, hv, hp, hb⟩, hF⟩, st⟩ | ⟨q, st₀, t, T', L, E, ce, h0, X', hL, e1, e2, ⟨u, hp, hb, hF⟩, hce, hcv, hcl, st⟩
  · cases hv
    obtain ⟨k1, k2, k3⟩ := vx_keep h0 e1 hS hA hf hL hF
    obtain ⟨t2, a1, b1⟩ := kk r u t T'.heap (locs ++ L) e1.symm (by rw [← e2]; exact X'.warmed.alike) hp hb k1 k2 k3 T' rfl X'
    exact ⟨t2, st t2 a1, b1⟩
  · obtain ⟨k1, k2, k3⟩ := vx_keep h0 e1 hS hAX hf hL hF
    obtain ⟨t2, a1, b1⟩ := kx E ce q u t T'.heap (locs ++ L) e1.symm (by rw [← e2]; exact X'.warmed.alike) hp hb k1 k2 k3 (by rw [e1]; exact hce) hcv hcl T' rfl X'
    exact ⟨t2, st.trans a1, b1⟩
theorem vx_calld {S SX : Type} {post : UInt64 → S → Prop} {px : SX → Prop} {B : S → State → Prop} {BX : String → SX → State → Prop} {AX : Nat → Prop} (hr : vx_Run p l e R s m args below meth c H locs cells slots mc ms (F0 m pc ls st0) rest (va_Qd post B A1 a) (vx_X px BX AX) free) (hS : va_S A0 H0 H locs) (hA : ∀ q, q < H.size → A1 q → A0 q) (hf : ∀ q, free q → A0 q) (hAX : ∀ q, q < H.size → AX q → A0 q)
    (kx : ∀ (E : String) (ce : Cell) (q9 : Addr) (u : SX) (t : State) (H1 : Heap) (locs1 : List Loc), t.heap = H1 → s.vm.Alike t.vm → px u → BX E u t → H.size ≤ H1.size → (∀ q : Nat, q < H.size → ¬ AX q → H1[q]? = H[q]?) → va_S A0 H0 H1 locs1 → H1[q9]? = some ce → ce.vm = .none → s.vm.findClass E = some ce.cls → vx_W p l e R s m args below meth c H1 locs1 (cells + mc) (slots + ms) Q (F0 m pc ls rest) q9)
    (kk : ∀ (r : UInt64) (u : S) (t : State) (H1 : Heap) (locs1 : List Loc), t.heap = H1 → s.vm.Alike t.vm → post r u → B u t → H.size ≤ H1.size → (∀ q : Nat, q < H.size → ¬ A1 q → H1[q]? = H[q]?) → va_S A0 H0 H1 locs1 → W p l e R s m args below meth c H1 locs1 (cells + mc) (slots + ms) Q (F0 m (pc + 3) ls (.double r :: rest))) : W p l e R s m args below meth c H locs cells slots Q (F0 m pc ls st0) := by
  intro T hT X
  rcases hr T hT X with ⟨v, st₀, t, T', L, h0, X', hL, e1, e2, ⟨⟨r, u, hv, hp, hb⟩, hF⟩, st⟩ | ⟨q, st₀, t, T', L, E, ce, h0, X', hL, e1, e2, ⟨u, hp, hb, hF⟩, hce, hcv, hcl, st⟩
  · cases hv
    obtain ⟨k1, k2, k3⟩ := vx_keep h0 e1 hS hA hf hL hF
    obtain ⟨t2, a1, b1⟩ := kk r u t T'.heap (locs ++ L) e1.symm (by rw [← e2]; exact X'.warmed.alike) hp hb k1 k2 k3 T' rfl X'
    exact ⟨t2, st t2 a1, b1⟩
  · obtain ⟨k1, k2, k3⟩ := vx_keep h0 e1 hS hAX hf hL hF
    obtain ⟨t2, a1, b1⟩ := kx E ce q u t T'.heap (locs ++ L) e1.symm (by rw [← e2]; exact X'.warmed.alike) hp hb k1 k2 k3 (by rw [e1]; exact hce) hcv hcl T' rfl X'
    exact ⟨t2, st.trans a1, b1⟩
theorem vx_callv {S SX : Type} {post : S → Prop} {px : SX → Prop} {B : S → State → Prop} {BX : String → SX → State → Prop} {AX : Nat → Prop} (hr : vx_Run p l e R s m args below meth c H locs cells slots mc ms (F0 m pc ls st0) rest (va_Qv post B A1 a) (vx_X px BX AX) free) (hS : va_S A0 H0 H locs) (hA : ∀ q, q < H.size → A1 q → A0 q) (hf : ∀ q, free q → A0 q) (hAX : ∀ q, q < H.size → AX q → A0 q)
    (kx : ∀ (E : String) (ce : Cell) (q9 : Addr) (u : SX) (t : State) (H1 : Heap) (locs1 : List Loc), t.heap = H1 → s.vm.Alike t.vm → px u → BX E u t → H.size ≤ H1.size → (∀ q : Nat, q < H.size → ¬ AX q → H1[q]? = H[q]?) → va_S A0 H0 H1 locs1 → H1[q9]? = some ce → ce.vm = .none → s.vm.findClass E = some ce.cls → vx_W p l e R s m args below meth c H1 locs1 (cells + mc) (slots + ms) Q (F0 m pc ls rest) q9)
    (kk : ∀ (u : S) (t : State) (H1 : Heap) (locs1 : List Loc), t.heap = H1 → s.vm.Alike t.vm → post u → B u t → H.size ≤ H1.size → (∀ q : Nat, q < H.size → ¬ A1 q → H1[q]? = H[q]?) → va_S A0 H0 H1 locs1 → W p l e R s m args below meth c H1 locs1 (cells + mc) (slots + ms) Q (F0 m (pc + 3) ls (rest))) : W p l e R s m args below meth c H locs cells slots Q (F0 m pc ls st0) := by
  intro T hT X
  rcases hr T hT X with ⟨v, st₀, t, T', L, h0, X', hL, e1, e2, ⟨⟨u, hv, hp, hb⟩, hF⟩, st⟩ | ⟨q, st₀, t, T', L, E, ce, h0, X', hL, e1, e2, ⟨u, hp, hb, hF⟩, hce, hcv, hcl, st⟩
  · cases hv
    obtain ⟨k1, k2, k3⟩ := vx_keep h0 e1 hS hA hf hL hF
    obtain ⟨t2, a1, b1⟩ := kk u t T'.heap (locs ++ L) e1.symm (by rw [← e2]; exact X'.warmed.alike) hp hb k1 k2 k3 T' rfl X'
    exact ⟨t2, st t2 a1, b1⟩
  · obtain ⟨k1, k2, k3⟩ := vx_keep h0 e1 hS hAX hf hL hF
    obtain ⟨t2, a1, b1⟩ := kx E ce q u t T'.heap (locs ++ L) e1.symm (by rw [← e2]; exact X'.warmed.alike) hp hb k1 k2 k3 (by rw [e1]; exact hce) hcv hcl T' rfl X'
    exact ⟨t2, st.trans a1, b1⟩
/-- caught by the row x of this method's table; the rows ahead don't take it -/
theorem vx_catch {own name : String} {E : String} {ce : Cell} {q : Addr} (hown : s.vm.findClass own = some m.cls) (pre : List ExceptionTableEntry) (x : ExceptionTableEntry) (suf : List ExceptionTableEntry) (hsplit : c.exceptionTable.toList = pre ++ x :: suf)
    (hpass : ∀ z ∈ pre, covers z pc = false ∨ (z.catchType ≠ 0 ∧ ∃ nm : String, (Cond.classLink own z.catchType nm).before args s = true ∧ va_Nc E nm s)) (hx : covers x pc = true) (h0 : x.catchType ≠ 0)
    (hlink : (Cond.classLink own x.catchType name).before args s = true) (hcast : (Cond.castable E name).before args s = true) (hcell : H[q]? = some ce) (hv : ce.vm = .none) (hcl : s.vm.findClass E = some ce.cls)
    (kk : W p l e R s m args below meth c H locs cells slots Q (F0 m x.handlerPc ls [.ref q])) : vx_W p l e R s m args below meth c H locs cells slots Q (F0 m pc ls rest) q := by
  intro T hT X
  have hpl : e.platform.magicAccessors = ({} : Platform).magicAccessors := by rw [X.admits.platform]
  obtain ⟨c3, c4, hc3, hc4, hasg⟩ := Cond.castable_spec hcast
  cases Option.some.inj (hc3.symm.trans hcl)
  obtain ⟨c5, hc5, hcl5⟩ := Cond.classLink_spec hown hlink e.platform hpl
  cases Option.some.inj (hc4.symm.trans hc5)
  obtain ⟨vm', X', st⟩ := X.thenCaughtThrough q (g := F0 m pc ls rest) rfl (Steps.refl _) (by rw [hT]; exact hcell) (by rw [hv]; rfl) (by obtain ⟨k9, h9, -⟩ := Vm.findClass_spec hcl; exact ⟨k9, h9⟩) pre x suf hsplit
    (fun z hz => by
      rcases hpass z hz with h | ⟨hz0, nm, hl1, hn1⟩
      · exact Or.inl h
      · obtain ⟨c6, hc6, hcl6⟩ := Cond.classLink_spec hown hl1 e.platform hpl
        obtain ⟨a8, b8, h1, h2, h3⟩ := hn1
        cases Option.some.inj (h1.symm.trans hcl)
        cases Option.some.inj (h2.symm.trans hc6)
        exact Or.inr ⟨hz0, _, hcl6, h3⟩) hx (Or.inr ⟨h0, c4, hcl5, hasg⟩)
  obtain ⟨t, a1, b1⟩ := kk (T.setVm vm') hT X'
  exact ⟨t, st.trans a1, b1⟩
end Rows
section Ends
variable {p : Program} {l : Launch} {e : Env} {R : Room} {s : State} {m : MethodId} {args : Array Value} {below : List Frame} {meth : Method} {c : Code} {H : Heap} {locs : List Loc} {cells slots : Nat} {Q : State → Prop}
variable {mc ms : Nat} {free : Addr → Prop} {A0 A1 : Nat → Prop} {H0 : Heap} {a : Array Value} {ls : Array Slot} {st0 rest : List Value}
variable {Qc : Array Value → State → Outcome → State → Prop} {XC : String → State → State → Prop}
/-- what a body that may throw owes at its end -/
def vx_MQ (below : List Frame) (Qc : Array Value → State → Outcome → State → Prop) (XC : String → State → State → Prop) (a : Array Value) (s : State) (mc ms : Nat) (free : Addr → Prop) : State → Prop := fun t =>
  ∃ o, t.status = .running ∧ Ended t below o ∧ vx_Q Qc XC mc ms free a s o t
theorem vx_ret {g : JFrame} {mc ms : Nat} (k : W p l e R s m args below meth c H locs cells slots (MQ below Qc args s mc ms free) g) : W p l e R s m args below meth c H locs cells slots (vx_MQ below Qc XC args s mc ms free) g := by
  intro T hT X
  obtain ⟨t, a1, o, b1, b2, b3, b4⟩ := k T hT X
  exact ⟨t, a1, o, b1, b2, Or.inl ⟨b3, b4⟩⟩
/-- not caught here: it goes on to the caller -/
theorem vx_widen {g : JFrame} {q : Addr} {k n : Nat} (h1 : cells ≤ k) (h2 : slots ≤ n) (kk : vx_W p l e R s m args below meth c H locs k n Q g q) : vx_W p l e R s m args below meth c H locs cells slots Q g q := fun T hT X => kk T hT (stand_widen X h1 h2)
theorem vx_out {pc : Nat} {E : String} {ce : Cell} {q : Addr} {mc ms : Nat} (hout : ∀ x ∈ c.exceptionTable.toList, covers x pc = false) (hlocks : meth.locks = false) (hcell : H[q]? = some ce) (hv : ce.vm = .none) (hcl : s.vm.findClass E = some ce.cls)
    (hx : ∀ t : State, t.heap = H → s.vm.Alike t.vm → XC E s t) (hf : ∀ z ∈ locs, free z.base) (hc : cells ≤ mc) (hs : slots ≤ ms) :
    vx_W p l e R s m args below meth c H locs cells slots (vx_MQ below Qc XC args s mc ms free) (F0 m pc ls rest) q := by
  intro T hT X
  obtain ⟨st1, hrun, hend, hW, hsm⟩ := X.leaveThrown q (g := F0 m pc ls rest) rfl rfl rfl hout hlocks
  have hcell9 : (T.setFrames (.throwing q :: below)).heap[q]? = some ce := by
    show T.heap[q]? = some ce
    rw [hT]; exact hcell
  exact ⟨_, st1, .threw q, hrun, hend, Or.inr ⟨q, rfl, E, ce, locs, hx _ hT hW.alike, hcell9, hv, hcl, hW, hsm.mono hc hs, hf⟩⟩
theorem vx_frame {U : State} {k n : Nat} (h : s.sameButNew ({ U with vm := s.vm } : State) locs k n) : s.heap.size ≤ U.heap.size ∧ ∀ q : Nat, q < s.heap.size → (∀ z ∈ locs, z.base ≠ q) → U.heap[q]? = s.heap[q]? := by
  obtain ⟨-, h2, -, -, -, h6⟩ := h
  refine ⟨h2, fun q hq hz => ?_⟩
  obtain ⟨c9, e1, e2, e3, e4⟩ := h6 q _ (Array.getElem?_eq_getElem hq)
  have hs : c9.slots = (s.heap[q]).slots := Array.ext_getElem? fun i => e4 i fun hm => hz _ hm rfl
  have h9 : c9 = s.heap[q] := by
    rw [hs] at e2
    exact e2
  have e5 : U.heap[q]? = some c9 := e1
  rw [e5, h9, Array.getElem?_eq_getElem hq]
/-- the words of a throw but the four that speak of the heap -/
def vx_no (w : Cond) : Bool := decide (w ≠ .isRef (.static Bundle.tN "UNASSIGNED_STACK" Bundle.steD)) && decide (w ≠ .isRef (.static Bundle.tN "SUPPRESSED_SENTINEL" Bundle.listD)) && decide (w ≠ .laysStatic Bundle.tN "UNASSIGNED_STACK" Bundle.steD) && decide (w ≠ .laysStatic Bundle.tN "SUPPRESSED_SENTINEL" Bundle.listD)
def vx_at0 (own : String) (ic : Nat) (X : String) (names : List String) : List Cond := (Bundle.ownAtoms0 own ic X names).filter vx_no
def vx_atS (own : String) (ic : Nat) (X : String) (names : List String) : List Cond := (Bundle.ownAtoms own ic X names).filter vx_no
/-- a word that the tables alone decide, or a good one -/
def vx_ot (w : Cond) : Bool := w.onTables || goodWord w
theorem vx_ot_at {args a' : Array Value} {s U : State} {w : Cond} (hW : s.WarmedH U.vm) (hvm : s.vm = U.vm) (hg : vx_ot w = true) (h : w.before args s = true) : w.before a' U = true := by
  simp only [vx_ot, Bool.or_eq_true] at hg
  rcases hg with hg | hg
  · exact va_tabs hg hvm h
  · exact word_at hW (good_of_word hg) h
/-- a list's words: the good ones out of the method's own list, the others by premises of their own -/
theorem vx_hat {args : Array Value} {s : State} {L B : List Cond} (h1 : ∀ w ∈ L.filter goodWord, w.before args s = true) (h2 : ∀ w ∈ L.filter (fun w => !goodWord w), w ∈ B) (h3 : ∀ w ∈ B, w.before args s = true) : ∀ w ∈ L, w.before args s = true := by
  intro w hw
  by_cases g : goodWord w = true
  · exact h1 w (List.mem_filter.mpr ⟨hw, g⟩)
  · refine h3 w (h2 w (List.mem_filter.mpr ⟨hw, ?_⟩))
    show (!goodWord w) = true
    cases hgw : goodWord w
    · rfl
    · exact absurd hgw g
theorem vx_c {args : Array Value} {s : State} {w : Cond} {B : List Cond} (h : w.before args s = true) (t : ∀ w ∈ B, w.before args s = true) : ∀ w' ∈ w :: B, w'.before args s = true := fun w' h' => (List.mem_cons.mp h').elim (fun e => by rw [e]; exact h) (t w')
theorem vx_n {args : Array Value} {s : State} : ∀ w ∈ ([] : List Cond), w.before args s = true := fun _ h => nomatch h
theorem vx_own {args : Array Value} {s : State} {L : List Cond} (h1 : ∀ w ∈ L.filter vx_no, w.before args s = true)
    (hU : (Cond.isRef (.static Bundle.tN "UNASSIGNED_STACK" Bundle.steD)).before args s = true) (hN : (Cond.isRef (.static Bundle.tN "SUPPRESSED_SENTINEL" Bundle.listD)).before args s = true)
    (lU : (Cond.laysStatic Bundle.tN "UNASSIGNED_STACK" Bundle.steD).before args s = true) (lN : (Cond.laysStatic Bundle.tN "SUPPRESSED_SENTINEL" Bundle.listD).before args s = true) : ∀ w ∈ L, w.before args s = true := by
  intro w hw
  by_cases e1 : w = .isRef (.static Bundle.tN "UNASSIGNED_STACK" Bundle.steD)
  · rw [e1]; exact hU
  · by_cases e2 : w = .isRef (.static Bundle.tN "SUPPRESSED_SENTINEL" Bundle.listD)
    · rw [e2]; exact hN
    · by_cases e3 : w = .laysStatic Bundle.tN "UNASSIGNED_STACK" Bundle.steD
      · rw [e3]; exact lU
      · by_cases e4 : w = .laysStatic Bundle.tN "SUPPRESSED_SENTINEL" Bundle.listD
        · rw [e4]; exact lN
        · exact h1 w (List.mem_filter.mpr ⟨hw, by unfold vx_no; rw [decide_eq_true e1, decide_eq_true e2, decide_eq_true e3, decide_eq_true e4]; rfl⟩)
/-- where a static field lies, its class's statics cell in H -/
def vx_L (C n d : String) (A : Nat → Prop) (U : State) (H : Heap) : Prop := ∃ (c : ClassId) (k : Class) (i : Nat) (f : Field) (a : Nat) (cell : Cell), U.vm.findClass C = some c ∧ U.fieldFound? C n d = some (c, k, i, f) ∧ f.isStatic = true ∧ k.statics = some a ∧ H[a]? = some cell ∧ cell.vm.isStatics = true ∧ cell.cls = c ∧ f.slot < cell.slots.size ∧ k.staticTypes[f.slot]? = some f.type ∧ ¬ A a
theorem vx_L.moved {C n d : String} {A : Nat → Prop} {u U : State} {H : Heap} (hvm : u.vm.Alike U.vm) (h : vx_L C n d A u H) : vx_L C n d A U H := by
  obtain ⟨c, k, i, f, a, cell, h1, h2, h3, h4, h5, h6, h7, h8, h9, h10⟩ := h
  obtain ⟨k', hi', he⟩ := State.fieldFound?_setVm hvm h2
  exact ⟨c, k', i, f, a, cell, by rw [hvm.findClass]; exact h1, hi', h3, by rw [he]; exact h4, h5, h6, h7, h8, by rw [he]; exact h9, h10⟩
theorem vx_L.kept {C n d : String} {A : Nat → Prop} {U : State} {H H1 : Heap} (h : vx_L C n d A U H) (hq : ∀ a : Nat, a < H.size → ¬ A a → H1[a]? = H[a]?) : vx_L C n d A U H1 := by
  obtain ⟨c, k, i, f, a, cell, h1, h2, h3, h4, h5, h6, h7, h8, h9, h10⟩ := h
  exact ⟨c, k, i, f, a, cell, h1, h2, h3, h4, by rw [hq a (Array.getElem?_eq_some_iff.mp h5).1 h10]; exact h5, h6, h7, h8, h9, h10⟩
theorem vx_L.narrow {C n d : String} {A B : Nat → Prop} {U : State} {H : Heap} (h : vx_L C n d A U H) (hAB : ∀ q, B q → A q) : vx_L C n d B U H := by
  obtain ⟨c, k, i, f, a, cell, h1, h2, h3, h4, h5, h6, h7, h8, h9, h10⟩ := h
  exact ⟨c, k, i, f, a, cell, h1, h2, h3, h4, h5, h6, h7, h8, h9, fun z => h10 (hAB _ z)⟩
theorem vx_L.word {C n d : String} {A : Nat → Prop} {s : State} {args : Array Value} (h : vx_L C n d A s s.heap) : (Cond.laysStatic C n d).before args s = true := by
  obtain ⟨c, k, i, f, a, cell, h1, h2, h3, h4, h5, h6, h7, h8, h9, -⟩ := h
  show (Cond.laysStatic C n d).holds args s none s [] = true
  exact Cond.laysStatic_of h1 h2 h3 h4 h5 h6 h7 h8 h9
/-- .. and what it holds: null or some reference -/
def vx_Zq (C n d : String) (A : Nat → Prop) (U : State) (H : Heap) : Prop := va_Zq C n d A U H ∧ vx_L C n d A U H
theorem vx_Zq.moved {C n d : String} {A : Nat → Prop} {u U : State} {H : Heap} (hvm : u.vm.Alike U.vm) (h : vx_Zq C n d A u H) : vx_Zq C n d A U H := ⟨va_Zq.moved hvm h.1, vx_L.moved hvm h.2⟩
theorem vx_Zq.kept {C n d : String} {A : Nat → Prop} {U : State} {H H1 : Heap} (h : vx_Zq C n d A U H) (hq : ∀ a : Nat, a < H.size → ¬ A a → H1[a]? = H[a]?) : vx_Zq C n d A U H1 := ⟨va_Zq.kept h.1 hq, vx_L.kept h.2 hq⟩
theorem vx_Zq.narrow {C n d : String} {A B : Nat → Prop} {U : State} {H : Heap} (h : vx_Zq C n d A U H) (hAB : ∀ q, B q → A q) : vx_Zq C n d B U H := ⟨va_Zq.narrow h.1 hAB, vx_L.narrow h.2 hAB⟩
theorem vx_Zqof {args : Array Value} {s : State} {C n d : String} {A : Nat → Prop} (hl : (Cond.laysStatic C n d).before args s = true) (hini : (Cond.initialized C).before args s = true) (h : (Cond.isRef (.static C n d)).before args s = true) (hA : ∀ a : Nat, a < s.heap.size → ¬ A a) : vx_Zq C n d A s s.heap := by
  refine ⟨va_Zqof hl hini h hA, ?_⟩
  obtain ⟨c, k, i, f, a, cell, h1, h2, h3, h4, h5, h6, h7, h8, h9⟩ := Cond.laysStatic_spec hl
  exact ⟨c, k, i, f, a, cell, h1, h2, h3, h4, h5, h6, h7, h8, h9, hA a (Array.getElem?_eq_some_iff.mp h5).1⟩
theorem vx_isRef {C n d : String} {v : Value} {A : Nat → Prop} {s : State} {args : Array Value} (h : va_Z C n d v A s s.heap) (hv : v.isRef = true) : (Cond.isRef (.static C n d)).before args s = true := by
  obtain ⟨cf, kf, fi, f, a, cell, h1, h2, h3, h4, h5, h6, h7, -⟩ := h
  have he : (Term.static C n d).eval args s none [] s = some v := by
    simp [Term.eval, State.fieldNamed?, h1, h2, h4, h5, h6, h7]
  simp only [Cond.before, Cond.holds, Cond.value, he]
  cases v <;> simp_all [Value.isRef]
theorem vx_isRefq {C n d : String} {A : Nat → Prop} {s : State} {args : Array Value} (h : va_Zq C n d A s s.heap) : (Cond.isRef (.static C n d)).before args s = true := by
  rcases h with h | ⟨t, h⟩
  · exact vx_isRef h rfl
  · exact vx_isRef h rfl
/-- the same frame, seen from here: as if the method were called anew in this heap -/
theorem vx_rebase {T : State} (X : Stand p l e R s m args below meth c T locs cells slots) {R' : Room} (hf : R'.frames ≤ R.frames) (hl : R'.locals ≤ R.locals) (hc : cells + R'.cells ≤ R.cells) (hs : slots + R'.slots ≤ R.slots) :
    Stand p l e R' ((T.setVm s.vm).setFrames (.invoking m args :: below)) m args below meth c T [] 0 0 := by
  have htop : (T.setVm s.vm).topJava?.isSome := X.here.top
  have hF : ((T.setVm s.vm).setFrames (.invoking m args :: below)).frames = .invoking m args :: below := State.frames_setFrames _ (State.cur_lt_of_top htop)
  obtain ⟨g₀, hg0⟩ := Option.isSome_iff_exists.mp htop
  obtain ⟨r, hr⟩ := State.topJava?_eq_some.mp hg0
  have hl9 : e.platform.stackLimits (T.setVm s.vm).me = e.platform.stackLimits s.me := X.limits
  have hb9 : (T.setVm s.vm).me.stackBytes = s.me.stackBytes := X.bytes
  refine ⟨X.admits, X.cas, X.clock, hF, ?_, X.hears, X.method, X.code, X.here, X.tail, X.warmed, ?_, ?_, ?_⟩
  · have h := X.room
    have hU : ((T.setVm s.vm).setFrames (.invoking m args :: below)).localsInUse = s.localsInUse := by
      rw [State.localsInUse_invoking hF (meth := meth) (c := c) X.method X.code, State.localsInUse_invoking X.frames X.method X.code]
    simp only [State.hasRoom, Bool.and_eq_true, decide_eq_true_eq] at h ⊢
    obtain ⟨⟨⟨⟨h1, h2, h3, h4, h5, h6⟩, h7⟩, h8⟩, h9⟩ := h
    rw [X.frames, List.length_cons] at h2 h3
    have q1 := X.heapSize
    have q2 := X.used
    simp only [hF, hU, List.length_cons, State.stackLimits_setFrames, State.stackBytes_setFrames, hl9, hb9]
    refine ⟨⟨⟨⟨by omega, by omega, by omega, by omega, by omega, h6⟩, ?_⟩, ?_⟩, X.book⟩
    · show T.heap.size + R'.cells ≤ e.platform.maxCells
      omega
    · show T.slotsUsed + R'.slots ≤ e.platform.maxSlots
      omega
  · rw [State.stackLimits_setFrames]; rfl
  · rw [State.stackBytes_setFrames]; rfl
  · refine ⟨?_, Nat.le_refl _, Nat.le_refl _, ?_, ?_, fun a c9 h9 => ⟨c9, h9, rfl, rfl, fun _ _ => rfl⟩⟩
    · obtain ⟨t, ht, -⟩ := State.frames_cons hr
      show T.setVm s.vm = { ((T.setVm s.vm).setFrames (.invoking m args :: below)).setFrames (T.setVm s.vm).frames with heap := T.heap, slotsUsed := T.slotsUsed }
      rw [State.setFrames_setFrames, State.setFrames_self ht]
      rfl
    · show T.slotsUsed = T.slotsUsed + ((T.heap.toList.drop T.heap.size).map (·.slots.size)).sum
      rw [List.drop_eq_nil_of_le (Nat.le_of_eq Array.length_toList)]
      rfl
    · show ((T.heap.toList.drop T.heap.size).map (·.slots.size)).sum ≤ 0
      rw [List.drop_eq_nil_of_le (Nat.le_of_eq Array.length_toList)]
      exact Nat.le_refl _
/-- 'throw new E()': new; dup; invokespecial; athrow -/
theorem vx_throw0 {cc : ByteArray} {pc : Nat} (hexec : p.tables.exec = Jvm.exec) (hb : c.code = cc) (hl : l.stackTraces = false) {own cls : String} {names : List String} {ik ic mc ms : Nat} {A : Nat → Prop}
    (hown : s.vm.findClass own = some m.cls) (hcls : Bundle.fit cls = true) (hnames : ∀ n ∈ names, Bundle.fit n = true)
    (hk : (Cond.classLink own ik cls).before args s = true) (hini : (Cond.initialized cls).before args s = true) (hat : ∀ w ∈ vx_at0 own ic cls names, w.before args s = true)
    (hgood : ∀ w ∈ Cond.classLink own ik cls :: Cond.initialized cls :: vx_at0 own ic cls names, vx_ot w = true)
    (hU : vx_Zq Bundle.tN "UNASSIGNED_STACK" Bundle.steD A s s.heap) (hN : vx_Zq Bundle.tN "SUPPRESSED_SENTINEL" Bundle.listD A s s.heap) (hS : va_S A s.heap H locs) (hsize : ls.size = c.maxLocals)
    (d0 : decode cc pc = .ok (.new ik, 3)) (d3 : decode cc (pc + 3) = .ok (.dup, 1)) (d4 : decode cc (pc + 4) = .ok (.invokespecial ic, 3)) (d7 : decode cc (pc + 7) = .ok (.athrow, 1))
    (hout : ∀ x ∈ c.exceptionTable.toList, covers x (pc + 7) = false)
    (hRframes : names.length + 3 < R.frames) (hRlocals : (rest.map fun v => v.category).sum + (13 * (names.length + 1) + 42) ≤ R.locals) (hRcells : cells + 1 ≤ R.cells) (hRslots : slots + 6 ≤ R.slots) (hlocks : meth.locks = false)
    (hx : ∀ t : State, s.vm.Alike t.vm → H.size ≤ t.heap.size → (∀ q : Nat, q < H.size → t.heap[q]? = H[q]?) → XC cls s t)
    (hf : ∀ z ∈ locs, free z.base) (hc : cells + 1 ≤ mc) (hs : slots + 6 ≤ ms) :
    W p l e R s m args below meth c H locs cells slots (vx_MQ below Qc XC args s mc ms free) (F0 m pc ls rest) := by
  intro T hT X
  have htr : e.platform.stackTraces = false := (show e.platform.stackTraces = l.stackTraces by rw [X.admits.platform]).trans hl
  have Y := vx_rebase X (R' := { frames := R.frames, locals := R.locals, cells := 1, slots := 6 }) (Nat.le_refl _) (Nat.le_refl _) hRcells hRslots
  obtain ⟨s', hA⟩ : ∃ z, z = (T.setVm s.vm).setFrames (.invoking m args :: below) := ⟨_, rfl⟩
  rw [← hA] at Y
  have hvm : s'.vm = s.vm := by rw [hA]; rfl
  have hhp : s'.heap = H := by rw [hA]; exact hT
  have hW0 : s.WarmedH s'.vm := by rw [hvm]; exact State.WarmedH.refl s
  have hat' : ∀ w ∈ vx_at0 own ic cls names, w.before args s' = true := fun w hw => vx_ot_at hW0 hvm.symm (hgood w (List.mem_cons_of_mem _ (List.mem_cons_of_mem _ hw))) (hat w hw)
  have hk' : (Cond.classLink own ik cls).before args s' = true := vx_ot_at hW0 hvm.symm (hgood _ List.mem_cons_self) hk
  have hini' : (Cond.initialized cls).before args s' = true := vx_ot_at hW0 hvm.symm (hgood _ (List.mem_cons_of_mem _ List.mem_cons_self)) hini
  have hU' : vx_Zq Bundle.tN "UNASSIGNED_STACK" Bundle.steD A s' s'.heap := by rw [hhp]; exact vx_Zq.moved hW0.alike (hU.kept hS.2.1)
  have hN' : vx_Zq Bundle.tN "SUPPRESSED_SENTINEL" Bundle.listD A s' s'.heap := by rw [hhp]; exact vx_Zq.moved hW0.alike (hN.kept hS.2.1)
  have h : ∀ w ∈ Bundle.ownAtoms0 own ic cls names, w.before args s' = true := vx_own hat' (vx_isRefq hU'.1) (vx_isRefq hN'.1) hU'.2.word hN'.2.word
  have hown' : s'.vm.findClass own = some m.cls := by rw [hvm]; exact hown
  have hins : (Cond.instantiable cls 6).before args s' = true := h _ (by simp [Bundle.ownAtoms0])
  obtain ⟨vm₁, cX, kX, hfX, hkX, -, -, X₁, st1⟩ := Y.newCold hexec (own := own) (C := cls) (index := ik) (n := 6) hown' hk' hins hini'
    (g := F0 m pc ls rest) rfl (by rw [hb]; exact d0) (Nat.le_refl _) (Nat.le_refl _)
  generalize hT1 : (T.setVm vm₁).pushCell { cls := cX, slots := kX.instanceTypes.map defaultValue, vm := .none } = T1 at X₁ st1
  have hcat : (Value.ref T.heap.size).category = 1 := rfl
  have hcellA : T1.heap[T.heap.size]? = some (freshCell cX kX) := by rw [← hT1]; exact State.heap_pushCell_size _ _
  have d3' : decode c.code (pc + 3) = .ok (.dup, 1) := by rw [hb]; exact d3
  obtain ⟨U, hsteps, hrun, hend, hW, hsame, ce, hce, hO⟩ := X₁.ctorThrow0 hexec htr (own := own) (cls := cls) (names := names) (ic := ic) hown' hcls hnames h (fun x hx => nomatch hx) hfX hkX hcellA (by rw [hhp, hT]; exact Nat.le_refl _)
    (g := { method := m, pc := pc + 4, locals := ls, stack := .ref T.heap.size :: .ref T.heap.size :: rest, locked := none }) rfl hsize rfl rfl (rest := rest) rfl
    (by rw [hb]; exact d4) (by rw [hb]; exact d7) hout hRframes (by simp only [List.map_cons, List.sum_cons, hcat]; omega) hlocks
  obtain ⟨f1, f2⟩ := vx_frame hsame
  rw [hhp] at f1 f2
  have hWs : s.WarmedH U.vm := State.WarmedH.trans hW0 hW
  have hcl : s.vm.findClass cls = some ce.cls := by
    have h9 := hO.cls
    rw [hvm] at h9
    exact h9
  have hall : s.sameButNew ({ U with vm := s.vm } : State) locs mc ms := by
    subst hA
    obtain ⟨e1, e2⟩ := hsame
    rw [State.setFrames_setFrames] at e1
    have h2 : (T.setVm s.vm).sameButNew ({ U with vm := s.vm } : State) [] (0 + 1) (0 + 6) := ⟨e1, e2⟩
    have h3 := X.same.trans h2
    rw [List.append_nil] at h3
    exact h3.mono hc hs
  refine ⟨U, ?_, .threw T.heap.size, hrun, hend, Or.inr ⟨T.heap.size, rfl, cls, ce, locs, hx U hWs.alike f1 (fun q hq => f2 q hq (fun z hz => nomatch hz)), hce, hO.vm, hcl, hWs, hall, hf⟩⟩
  refine st1 _ ?_
  show Steps p.tables e below (T1.setTop { method := m, pc := pc + 3, locals := ls, stack := .ref T.heap.size :: rest, locked := none }) _
  jvm_step X₁.here [X₁.here.top, hexec, d3', Value.category]
  exact hsteps
/-- 'throw new E("text")': new; dup; ldc; invokespecial; athrow -/
theorem vx_throwS {cc : ByteArray} {pc : Nat} (hexec : p.tables.exec = Jvm.exec) (hb : c.code = cc) (hl : l.stackTraces = false) {own cls text : String} {names : List String} {ik is ic mc ms sa : Nat} {A : Nat → Prop}
    (hown : s.vm.findClass own = some m.cls) (hcls : Bundle.fit cls = true) (hnames : ∀ n ∈ names, Bundle.fit n = true)
    (hk : (Cond.classLink own ik cls).before args s = true) (hini : (Cond.initialized cls).before args s = true) (hstr : vk_R own is text sa s) (hat : ∀ w ∈ vx_atS own ic cls names, w.before args s = true)
    (hgood : ∀ w ∈ Cond.classLink own ik cls :: Cond.initialized cls :: vx_atS own ic cls names, vx_ot w = true)
    (hU : vx_Zq Bundle.tN "UNASSIGNED_STACK" Bundle.steD A s s.heap) (hN : vx_Zq Bundle.tN "SUPPRESSED_SENTINEL" Bundle.listD A s s.heap) (hS : va_S A s.heap H locs) (hsize : ls.size = c.maxLocals)
    (d0 : decode cc pc = .ok (.new ik, 3)) (d3 : decode cc (pc + 3) = .ok (.dup, 1)) (d4 : decode cc (pc + 4) = .ok (.ldc is, 2)) (d6 : decode cc (pc + 6) = .ok (.invokespecial ic, 3)) (d9 : decode cc (pc + 9) = .ok (.athrow, 1))
    (hout : ∀ x ∈ c.exceptionTable.toList, covers x (pc + 9) = false)
    (hRframes : names.length + 3 < R.frames) (hRlocals : (rest.map fun v => v.category).sum + (13 * (names.length + 1) + 43) ≤ R.locals) (hRcells : cells + 1 ≤ R.cells) (hRslots : slots + 6 ≤ R.slots) (hlocks : meth.locks = false)
    (hx : ∀ t : State, s.vm.Alike t.vm → H.size ≤ t.heap.size → (∀ q : Nat, q < H.size → t.heap[q]? = H[q]?) → XC cls s t)
    (hf : ∀ z ∈ locs, free z.base) (hc : cells + 1 ≤ mc) (hs : slots + 6 ≤ ms) :
    W p l e R s m args below meth c H locs cells slots (vx_MQ below Qc XC args s mc ms free) (F0 m pc ls rest) := by
  intro T hT X
  have htr : e.platform.stackTraces = false := (show e.platform.stackTraces = l.stackTraces by rw [X.admits.platform]).trans hl
  have Y := vx_rebase X (R' := { frames := R.frames, locals := R.locals, cells := 1, slots := 6 }) (Nat.le_refl _) (Nat.le_refl _) hRcells hRslots
  obtain ⟨s', hA⟩ : ∃ z, z = (T.setVm s.vm).setFrames (.invoking m args :: below) := ⟨_, rfl⟩
  rw [← hA] at Y
  have hvm : s'.vm = s.vm := by rw [hA]; rfl
  have hhp : s'.heap = H := by rw [hA]; exact hT
  have hW0 : s.WarmedH s'.vm := by rw [hvm]; exact State.WarmedH.refl s
  have hat' : ∀ w ∈ vx_atS own ic cls names, w.before args s' = true := fun w hw => vx_ot_at hW0 hvm.symm (hgood w (List.mem_cons_of_mem _ (List.mem_cons_of_mem _ hw))) (hat w hw)
  have hk' : (Cond.classLink own ik cls).before args s' = true := vx_ot_at hW0 hvm.symm (hgood _ List.mem_cons_self) hk
  have hini' : (Cond.initialized cls).before args s' = true := vx_ot_at hW0 hvm.symm (hgood _ (List.mem_cons_of_mem _ List.mem_cons_self)) hini
  have hU' : vx_Zq Bundle.tN "UNASSIGNED_STACK" Bundle.steD A s' s'.heap := by rw [hhp]; exact vx_Zq.moved hW0.alike (hU.kept hS.2.1)
  have hN' : vx_Zq Bundle.tN "SUPPRESSED_SENTINEL" Bundle.listD A s' s'.heap := by rw [hhp]; exact vx_Zq.moved hW0.alike (hN.kept hS.2.1)
  have h : ∀ w ∈ Bundle.ownAtoms own ic cls names, w.before args s' = true := vx_own hat' (vx_isRefq hU'.1) (vx_isRefq hN'.1) hU'.2.word hN'.2.word
  have hown' : s'.vm.findClass own = some m.cls := by rw [hvm]; exact hown
  have hins : (Cond.instantiable cls 6).before args s' = true := h _ (by simp [Bundle.ownAtoms])
  obtain ⟨vm₁, cX, kX, hfX, hkX, -, -, X₁, st1⟩ := Y.newCold hexec (own := own) (C := cls) (index := ik) (n := 6) hown' hk' hins hini'
    (g := F0 m pc ls rest) rfl (by rw [hb]; exact d0) (Nat.le_refl _) (Nat.le_refl _)
  generalize hT1 : (T.setVm vm₁).pushCell { cls := cX, slots := kX.instanceTypes.map defaultValue, vm := .none } = T1 at X₁ st1
  have hcat : (Value.ref T.heap.size).category = 1 := rfl
  have hcellA : T1.heap[T.heap.size]? = some (freshCell cX kX) := by rw [← hT1]; exact State.heap_pushCell_size _ _
  have d3' : decode c.code (pc + 3) = .ok (.dup, 1) := by rw [hb]; exact d3
  have d4' : decode c.code (pc + 4) = .ok (.ldc is, 2) := by rw [hb]; exact d4
  have hstr' : vk_R own is text sa s' := vk_R.warm hW0 hstr
  obtain ⟨U, hsteps, hrun, hend, hW, hsame, ce, hce, hO⟩ := X₁.ctorThrowS hexec htr (own := own) (cls := cls) (names := names) (ic := ic) hown' hcls hnames h (fun x hx => nomatch hx) hfX hkX hcellA (by rw [hhp, hT]; exact Nat.le_refl _) (msg := .ref sa) rfl
    (g := { method := m, pc := pc + 6, locals := ls, stack := .ref sa :: .ref T.heap.size :: .ref T.heap.size :: rest, locked := none }) rfl hsize rfl rfl (rest := rest) rfl
    (by rw [hb]; exact d6) (by rw [hb]; exact d9) hout hRframes (by simp only [List.map_cons, List.sum_cons, hcat]; omega) hlocks
  obtain ⟨f1, f2⟩ := vx_frame hsame
  rw [hhp] at f1 f2
  have hWs : s.WarmedH U.vm := State.WarmedH.trans hW0 hW
  have hcl : s.vm.findClass cls = some ce.cls := by
    have h9 := hO.cls
    rw [hvm] at h9
    exact h9
  have hall : s.sameButNew ({ U with vm := s.vm } : State) locs mc ms := by
    subst hA
    obtain ⟨e1, e2⟩ := hsame
    rw [State.setFrames_setFrames] at e1
    have h2 : (T.setVm s.vm).sameButNew ({ U with vm := s.vm } : State) [] (0 + 1) (0 + 6) := ⟨e1, e2⟩
    have h3 := X.same.trans h2
    rw [List.append_nil] at h3
    exact h3.mono hc hs
  refine ⟨U, ?_, .threw T.heap.size, hrun, hend, Or.inr ⟨T.heap.size, rfl, cls, ce, locs, hx U hWs.alike f1 (fun q hq => f2 q hq (fun z hz => nomatch hz)), hce, hO.vm, hcl, hWs, hall, hf⟩⟩
  refine st1 _ ?_
  show Steps p.tables e below (T1.setTop { method := m, pc := pc + 3, locals := ls, stack := .ref T.heap.size :: rest, locked := none }) _
  jvm_step X₁.here [X₁.here.top, hexec, d3', Value.category]
  exact X₁.ldcString hexec (own := own) (text := text) (index := is) (a := sa) hown' hstr'.1 hstr'.2
    (g := { method := m, pc := pc + 4, locals := ls, stack := .ref T.heap.size :: .ref T.heap.size :: rest, locked := none }) rfl d4' _ hsteps
/-- 'throw new E("text")', the text by a wide index -/
theorem vx_throwSW {cc : ByteArray} {pc : Nat} (hexec : p.tables.exec = Jvm.exec) (hb : c.code = cc) (hl : l.stackTraces = false) {own cls text : String} {names : List String} {ik is ic mc ms sa : Nat} {A : Nat → Prop}
    (hown : s.vm.findClass own = some m.cls) (hcls : Bundle.fit cls = true) (hnames : ∀ n ∈ names, Bundle.fit n = true)
    (hk : (Cond.classLink own ik cls).before args s = true) (hini : (Cond.initialized cls).before args s = true) (hstr : vk_R own is text sa s) (hat : ∀ w ∈ vx_atS own ic cls names, w.before args s = true)
    (hgood : ∀ w ∈ Cond.classLink own ik cls :: Cond.initialized cls :: vx_atS own ic cls names, vx_ot w = true)
    (hU : vx_Zq Bundle.tN "UNASSIGNED_STACK" Bundle.steD A s s.heap) (hN : vx_Zq Bundle.tN "SUPPRESSED_SENTINEL" Bundle.listD A s s.heap) (hS : va_S A s.heap H locs) (hsize : ls.size = c.maxLocals)
    (d0 : decode cc pc = .ok (.new ik, 3)) (d3 : decode cc (pc + 3) = .ok (.dup, 1)) (d4 : decode cc (pc + 4) = .ok (.ldc_w is, 3)) (d7 : decode cc (pc + 7) = .ok (.invokespecial ic, 3)) (d10 : decode cc (pc + 10) = .ok (.athrow, 1))
    (hout : ∀ x ∈ c.exceptionTable.toList, covers x (pc + 10) = false)
    (hRframes : names.length + 3 < R.frames) (hRlocals : (rest.map fun v => v.category).sum + (13 * (names.length + 1) + 43) ≤ R.locals) (hRcells : cells + 1 ≤ R.cells) (hRslots : slots + 6 ≤ R.slots) (hlocks : meth.locks = false)
    (hx : ∀ t : State, s.vm.Alike t.vm → H.size ≤ t.heap.size → (∀ q : Nat, q < H.size → t.heap[q]? = H[q]?) → XC cls s t)
    (hf : ∀ z ∈ locs, free z.base) (hc : cells + 1 ≤ mc) (hs : slots + 6 ≤ ms) :
    W p l e R s m args below meth c H locs cells slots (vx_MQ below Qc XC args s mc ms free) (F0 m pc ls rest) := by
  intro T hT X
  have htr : e.platform.stackTraces = false := (show e.platform.stackTraces = l.stackTraces by rw [X.admits.platform]).trans hl
  have Y := vx_rebase X (R' := { frames := R.frames, locals := R.locals, cells := 1, slots := 6 }) (Nat.le_refl _) (Nat.le_refl _) hRcells hRslots
  obtain ⟨s', hA⟩ : ∃ z, z = (T.setVm s.vm).setFrames (.invoking m args :: below) := ⟨_, rfl⟩
  rw [← hA] at Y
  have hvm : s'.vm = s.vm := by rw [hA]; rfl
  have hhp : s'.heap = H := by rw [hA]; exact hT
  have hW0 : s.WarmedH s'.vm := by rw [hvm]; exact State.WarmedH.refl s
  have hat' : ∀ w ∈ vx_atS own ic cls names, w.before args s' = true := fun w hw => vx_ot_at hW0 hvm.symm (hgood w (List.mem_cons_of_mem _ (List.mem_cons_of_mem _ hw))) (hat w hw)
  have hk' : (Cond.classLink own ik cls).before args s' = true := vx_ot_at hW0 hvm.symm (hgood _ List.mem_cons_self) hk
  have hini' : (Cond.initialized cls).before args s' = true := vx_ot_at hW0 hvm.symm (hgood _ (List.mem_cons_of_mem _ List.mem_cons_self)) hini
  have hU' : vx_Zq Bundle.tN "UNASSIGNED_STACK" Bundle.steD A s' s'.heap := by rw [hhp]; exact vx_Zq.moved hW0.alike (hU.kept hS.2.1)
  have hN' : vx_Zq Bundle.tN "SUPPRESSED_SENTINEL" Bundle.listD A s' s'.heap := by rw [hhp]; exact vx_Zq.moved hW0.alike (hN.kept hS.2.1)
  have h : ∀ w ∈ Bundle.ownAtoms own ic cls names, w.before args s' = true := vx_own hat' (vx_isRefq hU'.1) (vx_isRefq hN'.1) hU'.2.word hN'.2.word
  have hown' : s'.vm.findClass own = some m.cls := by rw [hvm]; exact hown
  have hins : (Cond.instantiable cls 6).before args s' = true := h _ (by simp [Bundle.ownAtoms])
  obtain ⟨vm₁, cX, kX, hfX, hkX, -, -, X₁, st1⟩ := Y.newCold hexec (own := own) (C := cls) (index := ik) (n := 6) hown' hk' hins hini'
    (g := F0 m pc ls rest) rfl (by rw [hb]; exact d0) (Nat.le_refl _) (Nat.le_refl _)
  generalize hT1 : (T.setVm vm₁).pushCell { cls := cX, slots := kX.instanceTypes.map defaultValue, vm := .none } = T1 at X₁ st1
  have hcat : (Value.ref T.heap.size).category = 1 := rfl
  have hcellA : T1.heap[T.heap.size]? = some (freshCell cX kX) := by rw [← hT1]; exact State.heap_pushCell_size _ _
  have d3' : decode c.code (pc + 3) = .ok (.dup, 1) := by rw [hb]; exact d3
  have d4' : decode c.code (pc + 4) = .ok (.ldc_w is, 3) := by rw [hb]; exact d4
  have hstr' : vk_R own is text sa s' := vk_R.warm hW0 hstr
  obtain ⟨U, hsteps, hrun, hend, hW, hsame, ce, hce, hO⟩ := X₁.ctorThrowS hexec htr (own := own) (cls := cls) (names := names) (ic := ic) hown' hcls hnames h (fun x hx => nomatch hx) hfX hkX hcellA (by rw [hhp, hT]; exact Nat.le_refl _) (msg := .ref sa) rfl
    (g := { method := m, pc := pc + 7, locals := ls, stack := .ref sa :: .ref T.heap.size :: .ref T.heap.size :: rest, locked := none }) rfl hsize rfl rfl (rest := rest) rfl
    (by rw [hb]; exact d7) (by rw [hb]; exact d10) hout hRframes (by simp only [List.map_cons, List.sum_cons, hcat]; omega) hlocks
  obtain ⟨f1, f2⟩ := vx_frame hsame
  rw [hhp] at f1 f2
  have hWs : s.WarmedH U.vm := State.WarmedH.trans hW0 hW
  have hcl : s.vm.findClass cls = some ce.cls := by
    have h9 := hO.cls
    rw [hvm] at h9
    exact h9
  have hall : s.sameButNew ({ U with vm := s.vm } : State) locs mc ms := by
    subst hA
    obtain ⟨e1, e2⟩ := hsame
    rw [State.setFrames_setFrames] at e1
    have h2 : (T.setVm s.vm).sameButNew ({ U with vm := s.vm } : State) [] (0 + 1) (0 + 6) := ⟨e1, e2⟩
    have h3 := X.same.trans h2
    rw [List.append_nil] at h3
    exact h3.mono hc hs
  refine ⟨U, ?_, .threw T.heap.size, hrun, hend, Or.inr ⟨T.heap.size, rfl, cls, ce, locs, hx U hWs.alike f1 (fun q hq => f2 q hq (fun z hz => nomatch hz)), hce, hO.vm, hcl, hWs, hall, hf⟩⟩
  refine st1 _ ?_
  show Steps p.tables e below (T1.setTop { method := m, pc := pc + 3, locals := ls, stack := .ref T.heap.size :: rest, locked := none }) _
  jvm_step X₁.here [X₁.here.top, hexec, d3', Value.category]
  exact X₁.ldcStringW hexec (own := own) (text := text) (index := is) (a := sa) hown' hstr'.1 hstr'.2
    (g := { method := m, pc := pc + 4, locals := ls, stack := .ref T.heap.size :: .ref T.heap.size :: rest, locked := none }) rfl d4' _ hsteps
end Ends
section Bodies
variable {l : Launch}
theorem vx_ofW {y : MethodName} {ws ws' : List Cond} {rm : Room} {Pc : Array Value → State → Prop} {Qc : Array Value → State → Outcome → State → Prop} {XC : String → State → State → Prop} {mc ms : Nat} {free : Addr → Prop} {cc : ByteArray} {maxL : Nat} {ret : Option FieldType}
    (hy : plainName y.cls = true) (hw : ws = Cond.code y cc maxL ret :: ws')
    (body : ∀ p e s m args below meth c s₁, BodyLoose p l y (headSpec ws rm) cc maxL ret e s m args below meth c s₁ → c.maxLocals = maxL → (∀ x ∈ c.exceptionTable.toList, False) → Pc args s →
      W p l e (headSpec ws rm).room s m args below meth c s.heap [] 0 0 (vx_MQ below Qc XC args s mc ms free) (entryFrame m args maxL)) : vx_Met l y ws rm Pc Qc XC mc ms free := by
  refine MetFree.of_bodyS (code := cc) (maxLocals := maxL) (ret := ret) hy ?_ ?_
  · intro args s m h hn
    obtain ⟨meth, c, h1, h2, h3, h4, h5, h6, -, -⟩ := Cond.code_spec hn (atoms_spec (ws := ws) h _ (by rw [hw]; exact List.mem_cons_self))
    exact ⟨meth, c, h1, h2, h3, h4, h5, h6⟩
  · intro p e s m args below meth c s₁ B hml hP _
    have hh0 : s₁.heap = s.heap := by rw [B.state]; rfl
    have ht : ∀ x ∈ c.exceptionTable.toList, False := by
      obtain ⟨meth9, c9, h1, h2, -, -, -, -, h7, -⟩ := Cond.code_spec B.named (atoms_spec (ws := ws) B.pre _ (by rw [hw]; exact List.mem_cons_self))
      cases Option.some.inj (h1.symm.trans B.method)
      cases Option.some.inj (h2.symm.trans (Stand.of_body B).code)
      intro x hx
      rw [Array.isEmpty_iff.mp h7] at hx
      cases hx
    obtain ⟨t, a1, o, b1, b2, b3⟩ := body p e s m args below meth c s₁ B hml ht hP s₁ hh0 (Stand.of_body B)
    exact ⟨t, o, a1, b1, b2, b3⟩
/-- the table of a body with handlers -/
theorem vx_table {p : Program} {x y : MethodName} {S : Spec} {cc bytes : ByteArray} {maxL maxL' : Nat} {ret ret' : Option FieldType} {e : Env} {s s₁ : State} {m : MethodId} {args : Array Value} {below : List Frame} {meth : Method} {c : Code} {hh : List (Nat × Nat × Nat × Nat)}
    (B : BodyLoose p l y S cc maxL ret e s m args below meth c s₁) (h : (Cond.codeWith y bytes maxL' ret' hh).before args s = true) : c.exceptionTable.toList = tableOf hh := by
  obtain ⟨m9, meth9, c9, hn9, h1, h2, -, -, h6, -⟩ := Cond.codeWith_spec h
  cases Option.some.inj (hn9.symm.trans B.named)
  cases Option.some.inj (h1.symm.trans B.method)
  cases Option.some.inj (h2.symm.trans (Stand.of_body B).code)
  rw [← h6, table_eq]
end Bodies
end VXA
/-! ===== END ===== -/
/-! ===== BEGIN a static call of a method with an exception table ===== -/
section VXS
variable {p : Program} {l : Launch} {e : Env} {R : Room} {s : State} {m : MethodId} {args : Array Value} {below : List Frame} {meth : Method} {c : Code} {T : State} {H : Heap} {locs : List Loc} {cells slots : Nat}
abbrev vx_CSW (R : Room) (s : State) (args : Array Value) (own : String) (index : Nat) (y : MethodName) (bytes : ByteArray) (maxL : Nat) (ret : Option FieldType) (hh : List (Nat × Nat × Nat × Nat)) (ws : List Cond) (rm : Room) (mc ms n : Nat) : Prop :=
  (rm.cells = mc ∧ rm.slots = ms ∧ rm.frames + 1 ≤ R.frames ∧ 8 + (maxL + 11) + rm.locals ≤ R.locals ∧ (∀ w ∈ ws, ∀ (a' : Array Value) (U : State), s.WarmedH U.vm → w.before a' U = true) ∧ Cond.codeWith y bytes maxL ret hh ∈ ws) ∧
  (Cond.codeWith y bytes maxL ret hh).before args s = true ∧ (Cond.initialized y.cls).before args s = true ∧ (y.cls ≠ "java/lang/invoke/MethodHandle" ∧ y.cls ≠ "java/lang/invoke/VarHandle") ∧
  (∀ sig, parseMethodDescriptor y.desc = some sig → n = sig.parameters.length) ∧ (Cond.methodLink own index y).before args s = true ∧ (Cond.static y).before args s = true
theorem vx_cwSW {own : String} {index maxL mc ms : Nat} {y : MethodName} {bytes : ByteArray} {ret : Option FieldType} {hh : List (Nat × Nat × Nat × Nat)} {Ts ws ws' : List Cond} {rm : Room} (n : Nat) (ht : ∀ w ∈ Ts, w.before args s = true) (hT : GoodIn Ts (va_wsS own index y ws)) (hw : ws = Cond.codeWith y bytes maxL ret hh :: ws') (hrc : rm.cells = mc) (hrs : rm.slots = ms)
    (hd : y.cls ≠ "java/lang/invoke/MethodHandle" ∧ y.cls ≠ "java/lang/invoke/VarHandle" ∧ (parseMethodDescriptor y.desc).map (fun d => d.parameters.length) = some n) (hR : rm.frames + 1 ≤ R.frames ∧ 8 + (maxL + 11) + rm.locals ≤ R.locals) :
    vx_CSW R s args own index y bytes maxL ret hh ws rm mc ms n := by
  have ok : ∀ w ∈ va_wsS own index y ws, w.before args s = true := fun w h => ht w (hT w h).1
  have hG : GoodIn Ts ws := fun w h => hT w (by unfold va_wsS; exact List.mem_append_right _ h)
  have hc : Cond.codeWith y bytes maxL ret hh ∈ ws := by rw [hw]; exact List.mem_cons_self
  refine ⟨⟨hrc, hrs, hR.1, hR.2, pay_in ht hG, hc⟩, ht _ (hG _ hc).1, ok _ (by simp [va_wsS]), ⟨hd.1, hd.2.1⟩, fun sig h => ?_, ok _ (by simp [va_wsS]), ok _ (by simp [va_wsS])⟩
  have h2 := hd.2.2
  rw [h] at h2
  exact (Option.some.inj h2).symm
theorem vx_callSW (X : Stand p l e R s m args below meth c T locs cells slots) (hexec : p.tables.exec = Jvm.exec) {own : String} {index : Nat} {y : MethodName} {bytes : ByteArray} {maxL : Nat} {ret : Option FieldType} {hh : List (Nat × Nat × Nat × Nat)}
    (hown : s.vm.findClass own = some m.cls) (hlink : (Cond.methodLink own index y).before args s = true) (hstat : (Cond.static y).before args s = true) (hinit : (Cond.initialized y.cls).before args s = true)
    (hcode : (Cond.codeWith y bytes maxL ret hh).before args s = true) (hy : y.cls ≠ "java/lang/invoke/MethodHandle" ∧ y.cls ≠ "java/lang/invoke/VarHandle")
    {W9 : Nat} {Pre : Pt → Array Value → Prop} {Post : Pt → Array Value → Option Value → Pt → Prop} (hK : Back l R p e below s args y 3 W9 Pre Post)
    {g : JFrame} (hg : g.method = m) (hsize : g.locals.size = c.maxLocals) {argsL rest : List Value} (hlen : ∀ sig, parseMethodDescriptor y.desc = some sig → argsL.length = sig.parameters.length)
    (hstack : g.stack = argsL.reverse ++ rest) (hW : 2 * g.monitorRoom + (rest.map fun v => v.category).sum ≤ W9) (hdg : decode c.code g.pc = .ok (.invokestatic index, 3))
    (hpre : ∀ vm₁, s.WarmedH vm₁ → Pre ⟨T.setVm vm₁, locs, cells, slots⟩ argsL.toArray) :
    ∃ (v : Option Value) (vm₁ : Vm) (B : Pt), s.WarmedH vm₁ ∧ Stand p l e R s m args below meth c B.U B.locs B.cells B.slots ∧ Post ⟨T.setVm vm₁, locs, cells, slots⟩ argsL.toArray v B ∧
      ∀ target, Steps p.tables e below (B.U.setTop { g with pc := g.pc + 3, stack := v.toList ++ rest }) target → Steps p.tables e below (T.setTop g) target := by
  obtain ⟨mk, methM, cM, hnamed, hmethM, -, -, -, -, -, -, hsigM⟩ := Cond.codeWith_spec hcode
  have hstatic : methM.isStatic = true := Cond.static_spec hnamed hmethM hstat
  obtain ⟨kP, hkP, -⟩ := className_of_methodNamed hnamed
  have hinitP : kP.init = .initialized := Cond.initialized_spec (findClass_of_methodNamed hnamed) hkP hinit
  obtain ⟨vm₁, X₁, hstep₁⟩ := X.invokestatic hexec hown hlink hnamed hmethM hstatic hkP hinitP hy (g := g) hg (argsL := argsL) (rest := rest) (hlen _ hsigM) hstack hdg
  obtain ⟨v, B, X', hpost, hsteps⟩ := hK m meth c ⟨T.setVm vm₁, locs, cells, slots⟩ { g with stack := rest } (.invokestatic index) mk argsL.toArray X₁ hg hsize hdg hW (X₁.named hnamed) (hpre vm₁ X₁.warmed)
  exact ⟨v, vm₁, B, X₁.warmed, X', hpost, fun target h => hstep₁ _ fun acts => by rw [doInvoke_state]; exact hsteps.trans h⟩
theorem vx_runSW {y : MethodName} {bytes cc : ByteArray} {maxL nL mc ms n index : Nat} {ret : Option FieldType} {hh : List (Nat × Nat × Nat × Nat)} {ws : List Cond} {rm : Room} {Pc : Array Value → State → Prop} {Qc : Array Value → State → Outcome → State → Prop} {free : Addr → Prop} {Ts : List Cond} {own : String} {As rest : List Value} {g : JFrame}
    (S : CallFix p m c cc nL s args Ts own) (hM : Met l y ws rm Pc Qc mc ms free) (cw : vx_CSW R s args own index y bytes maxL ret hh ws rm mc ms n) (hp : PreS s H Pc As)
    (hg : g.method = m) (hn : As.length = n) (hsize : g.locals.size = nL) (hstack : g.stack = As.reverse ++ rest) (hW : 2 * g.monitorRoom + (rest.map fun v => v.category).sum ≤ 8) (hdg : decode cc g.pc = .ok (.invokestatic index, 3)) (hf : cells + mc ≤ R.cells ∧ slots + ms ≤ R.slots) :
    va_Run p l e R s m args below meth c H locs cells slots mc ms g rest (Qc As.toArray) (free) := by
  obtain ⟨⟨hrc, hrs, hfr, hlo, hws, hcw⟩, hcode, hini, hy, hlen, hl, hstt⟩ := cw
  have hK : Back l R p e below s args y 3 8 (PreOf R mc ms Pc) (PostOf Qc mc ms free) := va_backW (hh := hh) (bytes := bytes) (maxL := maxL) (ret := ret) hM hp.1 hrc hrs hfr hlo hws hcw (fun a' U hW => word_at hW (Or.inl (by first | rfl | simp [Cond.onTables, Cond.keeps, Cond.steady])) hini)
  obtain ⟨hx, hb, hml, ho, -⟩ := S
  intro T hT X
  obtain ⟨v, vm₁, ⟨U', l2, c2, s2⟩, hW₁, X', ⟨g', mk, t, L, e1, e2, hq, h1, hL, h2, h3⟩, st⟩ := vx_callSW X hx (hh := hh) (bytes := bytes) (maxL := maxL) (ret := ret) ho hl hstt hini hcode hy hK hg (hsize.trans hml.symm) (argsL := As) (rest := rest) (fun sig h => hn.trans (hlen sig h)) hstack hW (by rw [hb]; exact hdg)
    (fun vm₁ hW₁ => ⟨hf.1, hf.2, hp.2 (T.setVm vm₁) hT hW₁⟩)
  dsimp only [Pt.U, Pt.locs, Pt.cells, Pt.slots] at X' e1 e2 h1 h2 h3 st
  subst h1; subst h2; subst h3
  exact ⟨v, (T.setVm vm₁).calling g' mk As.toArray, t, U', L, hT, X', hL, e1, e2, hq, st⟩
/-- not caught here, past rows that name other classes: it goes on to the caller -/
theorem vx_outP {p : Program} {l : Launch} {e : Env} {R : Room} {s : State} {m : MethodId} {args : Array Value} {below : List Frame} {meth : Method} {c : Code} {H : Heap} {locs : List Loc} {cells slots : Nat} {free : Addr → Prop} {ls : Array Slot} {rest : List Value} {Qc : Array Value → State → Outcome → State → Prop} {XC : String → State → State → Prop}
    {pc : Nat} {own E : String} {ce : Cell} {q : Addr} {mc ms : Nat} (hown : s.vm.findClass own = some m.cls) (hlocks : meth.locks = false)
    (hpass : ∀ z ∈ c.exceptionTable.toList, covers z pc = false ∨ (z.catchType ≠ 0 ∧ ∃ nm : String, (Cond.classLink own z.catchType nm).before args s = true ∧ va_Nc E nm s)) (hcell : H[q]? = some ce) (hv : ce.vm = .none) (hcl : s.vm.findClass E = some ce.cls)
    (hx : ∀ t : State, t.heap = H → s.vm.Alike t.vm → XC E s t) (hf : ∀ z ∈ locs, free z.base) (hc : cells ≤ mc) (hs : slots ≤ ms) :
    vx_W p l e R s m args below meth c H locs cells slots (vx_MQ below Qc XC args s mc ms free) (F0 m pc ls rest) q := by
  intro T hT X
  have hpl : e.platform.magicAccessors = ({} : Platform).magicAccessors := by rw [X.admits.platform]
  obtain ⟨vm', hW', X', st⟩ := X.outThrough hlocks q (g := F0 m pc ls rest) rfl rfl rfl (cell := ce) (by rw [hT]; exact hcell) (by rw [hv]; rfl)
    (by obtain ⟨k9, h9, -⟩ := Vm.findClass_spec hcl; exact ⟨k9, h9⟩) (fun z hz => by
      rcases hpass z hz with h | ⟨hz0, nm, hl1, hn1⟩
      · exact Or.inl h
      · obtain ⟨c6, hc6, hcl6⟩ := Cond.classLink_spec hown hl1 e.platform hpl
        obtain ⟨a8, b8, h1, h2, h3⟩ := hn1
        cases Option.some.inj (h1.symm.trans hcl)
        cases Option.some.inj (h2.symm.trans hc6)
        exact Or.inr ⟨hz0, _, hcl6, h3⟩)
  obtain ⟨g₀, hfr⟩ := X'.frames_eq
  have hcell9 : ((T.setVm vm').setFrames (.throwing q :: below)).heap[q]? = some ce := by
    show T.heap[q]? = some ce
    rw [hT]; exact hcell
  have hend : Ended ((T.setVm vm').setFrames (.throwing q :: below)) below (.threw q) := State.frames_setFrames _ (State.cur_lt_of_frames hfr)
  refine ⟨(T.setVm vm').setFrames (.throwing q :: below), ?_, .threw q, X'.here.running, hend, Or.inr ⟨q, rfl, E, ce, locs, hx _ hT (X'.ends _).1.alike, hcell9, hv, hcl, (X'.ends _).1, (X'.ends _).2.mono hc hs, hf⟩⟩
  rw [X.pushThrowing_eq]
  exact st
/-- a thing of a world lies in the heap -/
theorem vx_lt {D : va_G} {cl : List vw_C} {ws : va_W} {H1 : Heap} (h : va_P D cl ws H1) {k : Nat} {q : Nat × va_E} (hk : ws[k]? = some q) : q.1 < H1.size := (h k q hk).lt
end VXS
/-! ===== END ===== -/
/-! ===== BEGIN methods with a table of their own: called by a name, returning or throwing ===== -/
section VXH
/-! vx_backW, vx_callVX, vx_callSX, vx_callVW, vx_runVW, vx_runVX, vx_runSX, vx_ofWH follow the same proofs as their sisters above (Free/Laws.lean, Shelf42/LK1.lean); vx_outP calls Shelf42/NT130.lean (outThrough). -/
section
variable {l : Launch} {R : Room} {p : Program} {e : Env} {below : List Frame} {s : State} {sargs : Array Value} {y : MethodName} {len W9 : Nat}
theorem vx_backW {ws : List Cond} {rm : Room} {Pc : Array Value → State → Prop} {Qc : Array Value → State → Outcome → State → Prop} {XC : String → State → State → Prop} {mc ms : Nat} {free : Addr → Prop} {bytes : ByteArray} {maxL : Nat} {ret : Option FieldType} {hh : List (Nat × Nat × Nat × Nat)}
    (hM : vx_Met l y ws rm Pc Qc XC mc ms free) (hblind : FrameBlind Pc) (hrc : rm.cells = mc) (hrs : rm.slots = ms)
    (hframes : rm.frames + 1 ≤ R.frames) (hlocals : W9 + (maxL + 11) + rm.locals ≤ R.locals)
    (hws : ∀ w ∈ ws, ∀ a' U, s.WarmedH U.vm → w.before a' U = true) (hcode : Cond.codeWith y bytes maxL ret hh ∈ ws) (hinit : ∀ a' U, s.WarmedH U.vm → (Cond.initialized y.cls).before a' U = true) :
    vx_Back l R p e below s sargs y len W9 (PreOf R mc ms Pc) (PostOf Qc mc ms free) (vx_Post XC mc ms free) := by
  intro m meth c A g ig mk a X hg hsize hdg hW hn hp
  have h1 : (headSpec ws rm).pre.before a A.U = true := atoms_intro fun w hw => hws w hw _ _ X.warmed
  have h2 : (Cond.codeWith y bytes maxL ret hh).before a A.U = true := hws _ hcode _ _ X.warmed
  have h3 : (Cond.initialized y.cls).before a A.U = true := hinit _ _ X.warmed
  have h4 : A.cells + (headSpec ws rm).room.cells ≤ R.cells := by rw [show (headSpec ws rm).room.cells = mc from hrc]; exact hp.1
  have h5 : A.slots + (headSpec ws rm).room.slots ≤ R.slots := by rw [show (headSpec ws rm).room.slots = ms from hrs]; exact hp.2.1
  have hPc : Pc a (A.U.calling g mk a) := hblind _ _ _ _ hp.2.2
  obtain ⟨U, Ls, c0, s0⟩ := A
  dsimp only [Pt.U, Pt.locs, Pt.cells, Pt.slots] at h1 h2 h3 h4 h5 X hn hPc ⊢
  obtain ⟨m9, methY, cY, hn9, hmY, hcY, -, hlY, -⟩ := Cond.codeWith_spec h2
  cases Option.some.inj (hn9.symm.trans hn)
  obtain ⟨kY, hkY, -⟩ := className_of_methodNamed hn
  have hinitY : kY.init = .initialized := Cond.initialized_spec (findClass_of_methodNamed hn) hkY h3
  have h : At U g.method c below := by rw [hg]; exact X.here
  have hlocals9 : W9 + (maxL + 11) + (headSpec ws rm).room.locals ≤ R.locals := hlocals
  have happ : (headSpec ws rm).appliesLoose y e.platform (U.calling g mk a) = true :=
    Spec.appliesLoose_calling (g := g) h hdg hn hkY hinitY
      (X.room_calling (g := g) (R' := (headSpec ws rm).room) hsize hmY hcY hframes (by rw [hlY]; omega) h4 h5) h1
  obtain ⟨mid, hmid⟩ := h.above
  have hfr : (U.setTop g).frames = (.java g :: mid) ++ below := by rw [State.frames_setTop' g h.top, hmid]; rfl
  obtain ⟨o, s₂, hsteps, -, hend, hq⟩ := Steps.callFree hM p X.admits X.cas X.clock (acts := []) hfr happ hPc trivial
  have hq' : vx_Q Qc XC mc ms free a (U.calling g mk a) o s₂ := hq
  rw [State.frames_setTop' g h.top] at hend
  obtain ⟨g₀, hg0⟩ := Option.isSome_iff_exists.mp h.top
  obtain ⟨r, hr⟩ := State.topJava?_eq_some.mp hg0
  have hr' : (({ U with heap := s₂.heap, slotsUsed := s₂.slotsUsed } : State).setVm s₂.vm).frames = .java g₀ :: r := hr
  rcases hq' with ⟨hqc, L, hfe, hL⟩ | ⟨q, rfl, E, ce, L, hx, hce, hcv, hcl, hW₂, hsm, hL⟩
  · obtain ⟨⟨v, rfl⟩, hW₂, e2, q2, q3, q4, q5, q6⟩ := id hfe
    have e3 : s₂ = ({ (U.calling g mk a).setFrames s₂.frames with heap := s₂.heap, slotsUsed := s₂.slotsUsed } : State).setVm s₂.vm := by
      have : s₂ = ({ s₂ with vm := (U.calling g mk a).vm } : State).setVm s₂.vm := rfl
      rw [e2] at this
      exact this
    obtain ⟨c₂, i₂, len₂, hc₂, hd₂, hf₂⟩ := hend
    have hW' : U.WarmedH s₂.vm := hW₂
    have hcc : c₂ = c := by
      have h1 : s₂.code? g.method = U.code? g.method := by
        rw [State.code?_eq, State.code?_eq, hW'.alike.method?]
      exact Option.some.inj (hc₂.symm.trans (h1.trans h.code))
    subst hcc
    have hlen : len₂ = len := by rw [hdg] at hd₂; cases hd₂; rfl
    subst hlen
    have hs₂ : s₂ = (({ U with heap := s₂.heap, slotsUsed := s₂.slotsUsed } : State).setVm s₂.vm).setTop { g with pc := g.pc + len₂, stack := v.toList ++ g.stack } := by
      refine e3.trans ?_
      rw [hf₂, State.calling_eq h.top, State.setFrames_setFrames, State.setTop_of_frames _ hr', hr]
      rfl
    have hsame : U.sameButNew ({ U with heap := s₂.heap, slotsUsed := s₂.slotsUsed } : State) L mc ms := by
      refine ⟨?_, q2, q3, q4, q5, q6⟩
      obtain ⟨t, ht, -⟩ := State.frames_cons hr
      show ({ U with heap := s₂.heap, slotsUsed := s₂.slotsUsed } : State) = { U.setFrames U.frames with heap := s₂.heap, slotsUsed := s₂.slotsUsed }
      rw [State.setFrames_self ht]
    subst hg
    refine Or.inl ⟨v, ⟨(({ U with heap := s₂.heap, slotsUsed := s₂.slotsUsed } : State).setVm s₂.vm), Ls ++ L, c0 + mc, s0 + ms⟩,
      ⟨X.admits, X.cas, X.clock, X.frames, X.room, X.hears, X.method, X.code, (X.here.setHeapUsed s₂.heap s₂.slotsUsed).setVm hW'.alike, X.tail, State.WarmedH.trans X.warmed hW', X.limits, X.bytes, X.same.trans (hsame.setVm s.vm)⟩,
      ⟨g, mk, s₂, L, rfl, rfl, hqc, rfl, hL, rfl, rfl⟩, ?_⟩
    show Steps p.tables e below _ ((({ U with heap := s₂.heap, slotsUsed := s₂.slotsUsed } : State).setVm s₂.vm).setTop { g with pc := g.pc + len₂, stack := v.toList ++ g.stack })
    rw [← hs₂]
    exact hsteps
  · obtain ⟨e2, q2, q3, q4, q5, q6⟩ := id hsm
    have e3 : s₂ = ({ (U.calling g mk a).setFrames s₂.frames with heap := s₂.heap, slotsUsed := s₂.slotsUsed } : State).setVm s₂.vm := by
      have : s₂ = ({ s₂ with vm := (U.calling g mk a).vm } : State).setVm s₂.vm := rfl
      rw [e2] at this
      exact this
    have hf₂ : s₂.frames = .throwing q :: .java g :: U.frames.tail := hend
    have hW' : U.WarmedH s₂.vm := hW₂
    have hs₂ : s₂ = ((({ U with heap := s₂.heap, slotsUsed := s₂.slotsUsed } : State).setVm s₂.vm).setTop g).pushFrame (.throwing q) := by
      refine e3.trans ?_
      rw [hf₂, State.calling_eq h.top, State.setFrames_setFrames, State.pushFrame, State.frames_setTop _ hr', State.setTop_of_frames _ hr', State.setFrames_setFrames, hr]
      rfl
    have hsame : U.sameButNew ({ U with heap := s₂.heap, slotsUsed := s₂.slotsUsed } : State) L mc ms := by
      refine ⟨?_, q2, q3, q4, q5, q6⟩
      obtain ⟨t, ht, -⟩ := State.frames_cons hr
      show ({ U with heap := s₂.heap, slotsUsed := s₂.slotsUsed } : State) = { U.setFrames U.frames with heap := s₂.heap, slotsUsed := s₂.slotsUsed }
      rw [State.setFrames_self ht]
    subst hg
    refine Or.inr ⟨q, ⟨(({ U with heap := s₂.heap, slotsUsed := s₂.slotsUsed } : State).setVm s₂.vm), Ls ++ L, c0 + mc, s0 + ms⟩,
      ⟨X.admits, X.cas, X.clock, X.frames, X.room, X.hears, X.method, X.code, (X.here.setHeapUsed s₂.heap s₂.slotsUsed).setVm hW'.alike, X.tail, State.WarmedH.trans X.warmed hW', X.limits, X.bytes, X.same.trans (hsame.setVm s.vm)⟩,
      ⟨g, mk, s₂, L, E, ce, rfl, rfl, hx, hce, hcv, hcl, rfl, hL, rfl, rfl⟩, ?_⟩
    show Steps p.tables e below _ (((({ U with heap := s₂.heap, slotsUsed := s₂.slotsUsed } : State).setVm s₂.vm).setTop g).pushFrame (.throwing q))
    rw [← hs₂]
    exact hsteps
end
variable {p : Program} {l : Launch} {e : Env} {R : Room} {s : State} {m : MethodId} {args : Array Value} {below : List Frame} {meth : Method} {c : Code} {T : State} {H : Heap} {locs : List Loc} {cells slots : Nat}
theorem vx_callVX (X : Stand p l e R s m args below meth c T locs cells slots) (hexec : p.tables.exec = Jvm.exec) {own C : String} {index : Nat} {y : MethodName} {bytes : ByteArray} {maxL : Nat} {ret : Option FieldType} {hh : List (Nat × Nat × Nat × Nat)}
    (hown : s.vm.findClass own = some m.cls) (hlink : (Cond.methodLink own index y).before args s = true) (hinst : (Cond.instanceMethod y).before args s = true) (hsel : (Cond.selects C y y).before args s = true)
    (hcode : (Cond.codeWith y bytes maxL ret hh).before args s = true) (hy : y.cls ≠ "java/lang/invoke/MethodHandle" ∧ y.cls ≠ "java/lang/invoke/VarHandle")
    {W9 : Nat} {Pre : Pt → Array Value → Prop} {Post : Pt → Array Value → Option Value → Pt → Prop} {PostX : Pt → Array Value → Addr → Pt → Prop} (hK : vx_Back l R p e below s args y 3 W9 Pre Post PostX)
    {b : Addr} {cellB : Cell} (hcell : T.heap[b]? = some cellB) (hobj : cellB.vm.isStatics = false) (hcls : s.vm.findClass C = some cellB.cls)
    {g : JFrame} (hg : g.method = m) (hsize : g.locals.size = c.maxLocals) {argsL rest : List Value} (hlen : ∀ sig, parseMethodDescriptor y.desc = some sig → argsL.length = sig.parameters.length)
    (hstack : g.stack = argsL.reverse ++ .ref b :: rest) (hW : 2 * g.monitorRoom + (rest.map fun v => v.category).sum ≤ W9) (hdg : decode c.code g.pc = .ok (.invokevirtual index, 3))
    (hpre : ∀ vm₁, s.WarmedH vm₁ → Pre ⟨T.setVm vm₁, locs, cells, slots⟩ (Value.ref b :: argsL).toArray) :
    (∃ (v : Option Value) (vm₁ : Vm) (B : Pt), s.WarmedH vm₁ ∧ Stand p l e R s m args below meth c B.U B.locs B.cells B.slots ∧ Post ⟨T.setVm vm₁, locs, cells, slots⟩ (Value.ref b :: argsL).toArray v B ∧
      ∀ target, Steps p.tables e below (B.U.setTop { g with pc := g.pc + 3, stack := v.toList ++ rest }) target → Steps p.tables e below (T.setTop g) target) ∨
    (∃ (q : Addr) (vm₁ : Vm) (B : Pt), s.WarmedH vm₁ ∧ Stand p l e R s m args below meth c B.U B.locs B.cells B.slots ∧ PostX ⟨T.setVm vm₁, locs, cells, slots⟩ (Value.ref b :: argsL).toArray q B ∧
      Steps p.tables e below (T.setTop g) ((B.U.setTop { g with stack := rest }).pushFrame (.throwing q))) := by
  obtain ⟨mk, methM, hnamed, hmethM, hstM, habM⟩ := Cond.instanceMethod_spec hinst
  obtain ⟨m8, methM', cM, hn8, hmethM', -, -, -, -, -, -, hsigM⟩ := Cond.codeWith_spec hcode
  cases Option.some.inj (hn8.symm.trans hnamed)
  cases hmethM.symm.trans hmethM'
  obtain ⟨c2, r2, m2, q1, q2, q3, q4, kP, hkP, hkPi⟩ := Cond.selects_spec hsel
  cases hcls.symm.trans q1
  cases (State.methodFound?_of_named hnamed hy).symm.trans q2
  cases hnamed.symm.trans q3
  have hselP : selectMethod e.platform s.vm cellB.cls mk = .method mk := by rw [Launch.admits_selectMethod X.admits]; exact q4
  obtain ⟨vm₁, X₁, hstep₁⟩ := X.invokevirtual hexec hown hlink hnamed hmethM hstM hkP hkPi hy (a := b) (cell := cellB) hcell
    (fun z h => by rw [h] at hobj; cases hobj) hselP hmethM habM hkP hkPi (g := g) hg (argsL := argsL) (rest := rest) (hlen _ hsigM) hstack hdg
  rcases hK m meth c ⟨T.setVm vm₁, locs, cells, slots⟩ { g with stack := rest } (.invokevirtual index) mk (Value.ref b :: argsL).toArray X₁ hg hsize hdg hW (X₁.named hnamed) (hpre vm₁ X₁.warmed) with ⟨v, B, X', hpost, hsteps⟩ | ⟨q, B, X', hpost, hsteps⟩
  · exact Or.inl ⟨v, vm₁, B, X₁.warmed, X', hpost, fun target h => hstep₁ _ fun acts => by rw [doInvoke_state]; exact hsteps.trans h⟩
  · exact Or.inr ⟨q, vm₁, B, X₁.warmed, X', hpost, hstep₁ _ fun acts => by rw [doInvoke_state]; exact hsteps⟩
theorem vx_callSX (X : Stand p l e R s m args below meth c T locs cells slots) (hexec : p.tables.exec = Jvm.exec) {own : String} {index : Nat} {y : MethodName} {bytes : ByteArray} {maxL : Nat} {ret : Option FieldType} {hh : List (Nat × Nat × Nat × Nat)}
    (hown : s.vm.findClass own = some m.cls) (hlink : (Cond.methodLink own index y).before args s = true) (hstat : (Cond.static y).before args s = true) (hinit : (Cond.initialized y.cls).before args s = true)
    (hcode : (Cond.codeWith y bytes maxL ret hh).before args s = true) (hy : y.cls ≠ "java/lang/invoke/MethodHandle" ∧ y.cls ≠ "java/lang/invoke/VarHandle")
    {W9 : Nat} {Pre : Pt → Array Value → Prop} {Post : Pt → Array Value → Option Value → Pt → Prop} {PostX : Pt → Array Value → Addr → Pt → Prop} (hK : vx_Back l R p e below s args y 3 W9 Pre Post PostX)
    {g : JFrame} (hg : g.method = m) (hsize : g.locals.size = c.maxLocals) {argsL rest : List Value} (hlen : ∀ sig, parseMethodDescriptor y.desc = some sig → argsL.length = sig.parameters.length)
    (hstack : g.stack = argsL.reverse ++ rest) (hW : 2 * g.monitorRoom + (rest.map fun v => v.category).sum ≤ W9) (hdg : decode c.code g.pc = .ok (.invokestatic index, 3))
    (hpre : ∀ vm₁, s.WarmedH vm₁ → Pre ⟨T.setVm vm₁, locs, cells, slots⟩ argsL.toArray) :
    (∃ (v : Option Value) (vm₁ : Vm) (B : Pt), s.WarmedH vm₁ ∧ Stand p l e R s m args below meth c B.U B.locs B.cells B.slots ∧ Post ⟨T.setVm vm₁, locs, cells, slots⟩ argsL.toArray v B ∧
      ∀ target, Steps p.tables e below (B.U.setTop { g with pc := g.pc + 3, stack := v.toList ++ rest }) target → Steps p.tables e below (T.setTop g) target) ∨
    (∃ (q : Addr) (vm₁ : Vm) (B : Pt), s.WarmedH vm₁ ∧ Stand p l e R s m args below meth c B.U B.locs B.cells B.slots ∧ PostX ⟨T.setVm vm₁, locs, cells, slots⟩ argsL.toArray q B ∧
      Steps p.tables e below (T.setTop g) ((B.U.setTop { g with stack := rest }).pushFrame (.throwing q))) := by
  obtain ⟨mk, methM, cM, hnamed, hmethM, -, -, -, -, -, -, hsigM⟩ := Cond.codeWith_spec hcode
  have hstatic : methM.isStatic = true := Cond.static_spec hnamed hmethM hstat
  obtain ⟨kP, hkP, -⟩ := className_of_methodNamed hnamed
  have hinitP : kP.init = .initialized := Cond.initialized_spec (findClass_of_methodNamed hnamed) hkP hinit
  obtain ⟨vm₁, X₁, hstep₁⟩ := X.invokestatic hexec hown hlink hnamed hmethM hstatic hkP hinitP hy (g := g) hg (argsL := argsL) (rest := rest) (hlen _ hsigM) hstack hdg
  rcases hK m meth c ⟨T.setVm vm₁, locs, cells, slots⟩ { g with stack := rest } (.invokestatic index) mk argsL.toArray X₁ hg hsize hdg hW (X₁.named hnamed) (hpre vm₁ X₁.warmed) with ⟨v, B, X', hpost, hsteps⟩ | ⟨q, B, X', hpost, hsteps⟩
  · exact Or.inl ⟨v, vm₁, B, X₁.warmed, X', hpost, fun target h => hstep₁ _ fun acts => by rw [doInvoke_state]; exact hsteps.trans h⟩
  · exact Or.inr ⟨q, vm₁, B, X₁.warmed, X', hpost, hstep₁ _ fun acts => by rw [doInvoke_state]; exact hsteps⟩
theorem vx_callVW (X : Stand p l e R s m args below meth c T locs cells slots) (hexec : p.tables.exec = Jvm.exec) {own C : String} {index : Nat} {y : MethodName} {bytes : ByteArray} {maxL : Nat} {ret : Option FieldType} {hh : List (Nat × Nat × Nat × Nat)}
    (hown : s.vm.findClass own = some m.cls) (hlink : (Cond.methodLink own index y).before args s = true) (hinst : (Cond.instanceMethod y).before args s = true) (hsel : (Cond.selects C y y).before args s = true)
    (hcode : (Cond.codeWith y bytes maxL ret hh).before args s = true) (hy : y.cls ≠ "java/lang/invoke/MethodHandle" ∧ y.cls ≠ "java/lang/invoke/VarHandle")
    {W9 : Nat} {Pre : Pt → Array Value → Prop} {Post : Pt → Array Value → Option Value → Pt → Prop} (hK : Back l R p e below s args y 3 W9 Pre Post)
    {b : Addr} {cellB : Cell} (hcell : T.heap[b]? = some cellB) (hobj : cellB.vm.isStatics = false) (hcls : s.vm.findClass C = some cellB.cls)
    {g : JFrame} (hg : g.method = m) (hsize : g.locals.size = c.maxLocals) {argsL rest : List Value} (hlen : ∀ sig, parseMethodDescriptor y.desc = some sig → argsL.length = sig.parameters.length)
    (hstack : g.stack = argsL.reverse ++ .ref b :: rest) (hW : 2 * g.monitorRoom + (rest.map fun v => v.category).sum ≤ W9) (hdg : decode c.code g.pc = .ok (.invokevirtual index, 3))
    (hpre : ∀ vm₁, s.WarmedH vm₁ → Pre ⟨T.setVm vm₁, locs, cells, slots⟩ (Value.ref b :: argsL).toArray) :
    ∃ (v : Option Value) (vm₁ : Vm) (B : Pt), s.WarmedH vm₁ ∧ Stand p l e R s m args below meth c B.U B.locs B.cells B.slots ∧ Post ⟨T.setVm vm₁, locs, cells, slots⟩ (Value.ref b :: argsL).toArray v B ∧
      ∀ target, Steps p.tables e below (B.U.setTop { g with pc := g.pc + 3, stack := v.toList ++ rest }) target → Steps p.tables e below (T.setTop g) target := by
  obtain ⟨mk, methM, hnamed, hmethM, hstM, habM⟩ := Cond.instanceMethod_spec hinst
  obtain ⟨m8, methM', cM, hn8, hmethM', -, -, -, -, -, -, hsigM⟩ := Cond.codeWith_spec hcode
  cases Option.some.inj (hn8.symm.trans hnamed)
  cases hmethM.symm.trans hmethM'
  obtain ⟨c2, r2, m2, q1, q2, q3, q4, kP, hkP, hkPi⟩ := Cond.selects_spec hsel
  cases hcls.symm.trans q1
  cases (State.methodFound?_of_named hnamed hy).symm.trans q2
  cases hnamed.symm.trans q3
  have hselP : selectMethod e.platform s.vm cellB.cls mk = .method mk := by rw [Launch.admits_selectMethod X.admits]; exact q4
  obtain ⟨vm₁, X₁, hstep₁⟩ := X.invokevirtual hexec hown hlink hnamed hmethM hstM hkP hkPi hy (a := b) (cell := cellB) hcell
    (fun z h => by rw [h] at hobj; cases hobj) hselP hmethM habM hkP hkPi (g := g) hg (argsL := argsL) (rest := rest) (hlen _ hsigM) hstack hdg
  obtain ⟨v, B, X', hpost, hsteps⟩ := hK m meth c ⟨T.setVm vm₁, locs, cells, slots⟩ { g with stack := rest } (.invokevirtual index) mk (Value.ref b :: argsL).toArray X₁ hg hsize hdg hW (X₁.named hnamed) (hpre vm₁ X₁.warmed)
  exact ⟨v, vm₁, B, X₁.warmed, X', hpost, fun target h => hstep₁ _ fun acts => by rw [doInvoke_state]; exact hsteps.trans h⟩
abbrev vx_CVW (R : Room) (s : State) (args : Array Value) (own C : String) (index : Nat) (y : MethodName) (bytes : ByteArray) (maxL : Nat) (ret : Option FieldType) (hh : List (Nat × Nat × Nat × Nat)) (ws : List Cond) (rm : Room) (mc ms n : Nat) : Prop :=
  (rm.cells = mc ∧ rm.slots = ms ∧ rm.frames + 1 ≤ R.frames ∧ 8 + (maxL + 11) + rm.locals ≤ R.locals ∧ (∀ w ∈ ws, ∀ (a' : Array Value) (U : State), s.WarmedH U.vm → w.before a' U = true) ∧ Cond.codeWith y bytes maxL ret hh ∈ ws) ∧
  (Cond.codeWith y bytes maxL ret hh).before args s = true ∧ (Cond.initialized y.cls).before args s = true ∧ (y.cls ≠ "java/lang/invoke/MethodHandle" ∧ y.cls ≠ "java/lang/invoke/VarHandle") ∧
  (∀ sig, parseMethodDescriptor y.desc = some sig → n = sig.parameters.length) ∧ (Cond.methodLink own index y).before args s = true ∧ (Cond.instanceMethod y).before args s = true ∧ (Cond.selects C y y).before args s = true
theorem vx_cwVW {own C : String} {index maxL mc ms : Nat} {y : MethodName} {bytes : ByteArray} {ret : Option FieldType} {hh : List (Nat × Nat × Nat × Nat)} {Ts ws ws' : List Cond} {rm : Room} (n : Nat) (ht : ∀ w ∈ Ts, w.before args s = true) (hT : GoodIn Ts (wsV own index C y ws)) (hw : ws = Cond.codeWith y bytes maxL ret hh :: ws') (hrc : rm.cells = mc) (hrs : rm.slots = ms)
    (hd : y.cls = C ∧ y.cls ≠ "java/lang/invoke/MethodHandle" ∧ y.cls ≠ "java/lang/invoke/VarHandle" ∧ (parseMethodDescriptor y.desc).map (fun d => d.parameters.length) = some n) (hR : rm.frames + 1 ≤ R.frames ∧ 8 + (maxL + 11) + rm.locals ≤ R.locals) :
    vx_CVW R s args own C index y bytes maxL ret hh ws rm mc ms n := by
  obtain ⟨hC, hd⟩ := hd
  subst hC
  have ok : ∀ w ∈ wsV own index y.cls y ws, w.before args s = true := fun w h => ht w (hT w h).1
  have hG : GoodIn Ts ws := fun w h => hT w (by unfold wsV; exact List.mem_append_right _ h)
  have hc : Cond.codeWith y bytes maxL ret hh ∈ ws := by rw [hw]; exact List.mem_cons_self
  refine ⟨⟨hrc, hrs, hR.1, hR.2, pay_in ht hG, hc⟩, ht _ (hG _ hc).1, ok _ (by simp [wsV]), ⟨hd.1, hd.2.1⟩, fun sig h => ?_, ok _ (by simp [wsV]), ok _ (by simp [wsV]), ok _ (by simp [wsV])⟩
  have h2 := hd.2.2
  rw [h] at h2
  exact (Option.some.inj h2).symm
theorem vx_runVW {y : MethodName} {bytes cc : ByteArray} {maxL nL mc ms n index : Nat} {ret : Option FieldType} {hh : List (Nat × Nat × Nat × Nat)} {ws : List Cond} {rm : Room} {Pc : Array Value → State → Prop} {Qc : Array Value → State → Outcome → State → Prop} {free : Addr → Prop} {Ts : List Cond} {own C : String} {b : Addr} {As rest : List Value} {g : JFrame}
    (S : CallFix p m c cc nL s args Ts own) (hM : Met l y ws rm Pc Qc mc ms free) (cw : vx_CVW R s args own C index y bytes maxL ret hh ws rm mc ms n) (hp : PreV s H C b Pc As)
    (hg : g.method = m) (hn : As.length = n) (hsize : g.locals.size = nL) (hstack : g.stack = As.reverse ++ .ref b :: rest) (hW : 2 * g.monitorRoom + (rest.map fun v => v.category).sum ≤ 8) (hdg : decode cc g.pc = .ok (.invokevirtual index, 3)) (hf : cells + mc ≤ R.cells ∧ slots + ms ≤ R.slots) :
    va_Run p l e R s m args below meth c H locs cells slots mc ms g rest (Qc (Value.ref b :: As).toArray) free := by
  obtain ⟨⟨hrc, hrs, hfr, hlo, hws, hcw⟩, hcode, hini, hy, hlen, hl, hin, hse⟩ := cw
  have hK : Back l R p e below s args y 3 8 (PreOf R mc ms Pc) (PostOf Qc mc ms free) := va_backW (hh := hh) (bytes := bytes) (maxL := maxL) (ret := ret) hM hp.1 hrc hrs hfr hlo hws hcw (fun a' U hW => word_at hW (Or.inl (by first | rfl | simp [Cond.onTables, Cond.keeps, Cond.steady])) hini)
  obtain ⟨hx, hb, hml, ho, -⟩ := S
  obtain ⟨-, ⟨cellB, hcB, hoB, hclB⟩, hPc⟩ := hp
  intro T hT X
  obtain ⟨v, vm₁, ⟨U', l2, c2, s2⟩, hW₁, X', ⟨g', mk, t, L, e1, e2, hq, h1, hL, h2, h3⟩, st⟩ := vx_callVW X hx (C := C) (hh := hh) (bytes := bytes) (maxL := maxL) (ret := ret) ho hl hin hse hcode hy hK (by rw [hT]; exact hcB) hoB hclB hg (hsize.trans hml.symm) (argsL := As) (rest := rest) (fun sig h => hn.trans (hlen sig h)) hstack hW (by rw [hb]; exact hdg)
    (fun vm₁ hW₁ => ⟨hf.1, hf.2, hPc (T.setVm vm₁) hT hW₁⟩)
  dsimp only [Pt.U, Pt.locs, Pt.cells, Pt.slots] at X' e1 e2 h1 h2 h3 st
  subst h1; subst h2; subst h3
  exact ⟨v, (T.setVm vm₁).calling g' mk (Value.ref b :: As).toArray, t, U', L, hT, X', hL, e1, e2, hq, st⟩
section
variable {y : MethodName} {bytes cc : ByteArray} {maxL nL mc ms n index : Nat} {ret : Option FieldType} {ws : List Cond} {rm : Room} {Pc : Array Value → State → Prop} {Qc : Array Value → State → Outcome → State → Prop} {XC : String → State → State → Prop} {free : Addr → Prop} {Ts : List Cond} {own C : String} {b : Addr} {As rest : List Value} {g : JFrame}
theorem vx_runVX {hh : List (Nat × Nat × Nat × Nat)} (S : CallFix p m c cc nL s args Ts own) (hM : vx_Met l y ws rm Pc Qc XC mc ms free) (cw : vx_CVW R s args own C index y bytes maxL ret hh ws rm mc ms n) (hp : PreV s H C b Pc As)
    (hg : g.method = m) (hn : As.length = n) (hsize : g.locals.size = nL) (hstack : g.stack = As.reverse ++ .ref b :: rest) (hW : 2 * g.monitorRoom + (rest.map fun v => v.category).sum ≤ 8) (hdg : decode cc g.pc = .ok (.invokevirtual index, 3)) (hf : cells + mc ≤ R.cells ∧ slots + ms ≤ R.slots) :
    vx_Run p l e R s m args below meth c H locs cells slots mc ms g rest (Qc (Value.ref b :: As).toArray) XC free := by
  obtain ⟨⟨hrc, hrs, hfr, hlo, hws, hcw⟩, hcode, hini, hy, hlen, hl, hin, hse⟩ := cw
  have hK : vx_Back l R p e below s args y 3 8 (PreOf R mc ms Pc) (PostOf Qc mc ms free) (vx_Post XC mc ms free) := vx_backW (hh := hh) (bytes := bytes) (maxL := maxL) (ret := ret) hM hp.1 hrc hrs hfr hlo hws hcw (fun a' U hW => word_at hW (Or.inl (by first | rfl | simp [Cond.onTables, Cond.keeps, Cond.steady])) hini)
  obtain ⟨hx, hb, hml, ho, -⟩ := S
  obtain ⟨-, ⟨cellB, hcB, hoB, hclB⟩, hPc⟩ := hp
  intro T hT X
  rcases vx_callVX X hx (C := C) (hh := hh) (bytes := bytes) (maxL := maxL) (ret := ret) ho hl hin hse hcode hy hK (by rw [hT]; exact hcB) hoB hclB hg (hsize.trans hml.symm) (argsL := As) (rest := rest) (fun sig h => hn.trans (hlen sig h)) hstack hW (by rw [hb]; exact hdg)
    (fun vm₁ hW₁ => ⟨hf.1, hf.2, hPc (T.setVm vm₁) hT hW₁⟩) with ⟨v, vm₁, ⟨U', l2, c2, s2⟩, hW₁, X', ⟨g', mk, t, L, e1, e2, hq, h1, hL, h2, h3⟩, st⟩ | ⟨q, vm₁, ⟨U', l2, c2, s2⟩, hW₁, X', ⟨g', mk, t, L, E, ce, e1, e2, hq, hce, hcv, hcl, h1, hL, h2, h3⟩, st⟩
  · dsimp only [Pt.U, Pt.locs, Pt.cells, Pt.slots] at X' e1 e2 h1 h2 h3 st
    subst h1; subst h2; subst h3
    exact Or.inl ⟨v, (T.setVm vm₁).calling g' mk (Value.ref b :: As).toArray, t, U', L, hT, X', hL, e1, e2, hq, st⟩
  · dsimp only [Pt.U, Pt.locs, Pt.cells, Pt.slots] at X' e1 e2 h1 h2 h3 st hcl
    subst h1; subst h2; subst h3
    exact Or.inr ⟨q, (T.setVm vm₁).calling g' mk (Value.ref b :: As).toArray, t, U', L, E, ce, hT, X', hL, e1, e2, hq, hce, hcv, vx_cls hW₁ hcl, st⟩
theorem vx_runSX {hh : List (Nat × Nat × Nat × Nat)} (S : CallFix p m c cc nL s args Ts own) (hM : vx_Met l y ws rm Pc Qc XC mc ms free) (cw : vx_CSW R s args own index y bytes maxL ret hh ws rm mc ms n) (hp : PreS s H Pc As)
    (hg : g.method = m) (hn : As.length = n) (hsize : g.locals.size = nL) (hstack : g.stack = As.reverse ++ rest) (hW : 2 * g.monitorRoom + (rest.map fun v => v.category).sum ≤ 8) (hdg : decode cc g.pc = .ok (.invokestatic index, 3)) (hf : cells + mc ≤ R.cells ∧ slots + ms ≤ R.slots) :
    vx_Run p l e R s m args below meth c H locs cells slots mc ms g rest (Qc As.toArray) XC free := by
  obtain ⟨⟨hrc, hrs, hfr, hlo, hws, hcw⟩, hcode, hini, hy, hlen, hl, hstt⟩ := cw
  have hK : vx_Back l R p e below s args y 3 8 (PreOf R mc ms Pc) (PostOf Qc mc ms free) (vx_Post XC mc ms free) := vx_backW (hh := hh) (bytes := bytes) (maxL := maxL) (ret := ret) hM hp.1 hrc hrs hfr hlo hws hcw (fun a' U hW => word_at hW (Or.inl (by first | rfl | simp [Cond.onTables, Cond.keeps, Cond.steady])) hini)
  obtain ⟨hx, hb, hml, ho, -⟩ := S
  intro T hT X
  rcases vx_callSX X hx (hh := hh) (bytes := bytes) (maxL := maxL) (ret := ret) ho hl hstt hini hcode hy hK hg (hsize.trans hml.symm) (argsL := As) (rest := rest) (fun sig h => hn.trans (hlen sig h)) hstack hW (by rw [hb]; exact hdg)
    (fun vm₁ hW₁ => ⟨hf.1, hf.2, hp.2 (T.setVm vm₁) hT hW₁⟩) with ⟨v, vm₁, ⟨U', l2, c2, s2⟩, hW₁, X', ⟨g', mk, t, L, e1, e2, hq, h1, hL, h2, h3⟩, st⟩ | ⟨q, vm₁, ⟨U', l2, c2, s2⟩, hW₁, X', ⟨g', mk, t, L, E, ce, e1, e2, hq, hce, hcv, hcl, h1, hL, h2, h3⟩, st⟩
  · dsimp only [Pt.U, Pt.locs, Pt.cells, Pt.slots] at X' e1 e2 h1 h2 h3 st
    subst h1; subst h2; subst h3
    exact Or.inl ⟨v, (T.setVm vm₁).calling g' mk As.toArray, t, U', L, hT, X', hL, e1, e2, hq, st⟩
  · dsimp only [Pt.U, Pt.locs, Pt.cells, Pt.slots] at X' e1 e2 h1 h2 h3 st hcl
    subst h1; subst h2; subst h3
    exact Or.inr ⟨q, (T.setVm vm₁).calling g' mk As.toArray, t, U', L, E, ce, hT, X', hL, e1, e2, hq, hce, hcv, vx_cls hW₁ hcl, st⟩
end
end VXH
theorem vx_ofWH {l : Launch} {y : MethodName} {ws ws' : List Cond} {rm : Room} {Pc : Array Value → State → Prop} {Qc : Array Value → State → Outcome → State → Prop} {XC : String → State → State → Prop} {mc ms : Nat} {free : Addr → Prop} {cc : ByteArray} {maxL : Nat} {ret : Option FieldType} {hh : List (Nat × Nat × Nat × Nat)}
    (hy : plainName y.cls = true) (hw : ws = Cond.codeWith y cc maxL ret hh :: ws')
    (body : ∀ p e s m args below meth c s₁, BodyLoose p l y (headSpec ws rm) cc maxL ret e s m args below meth c s₁ → c.maxLocals = maxL → Pc args s →
      W p l e (headSpec ws rm).room s m args below meth c s.heap [] 0 0 (vx_MQ below Qc XC args s mc ms free) (entryFrame m args maxL)) : vx_Met l y ws rm Pc Qc XC mc ms free := by
  refine MetFree.of_bodyS (code := cc) (maxLocals := maxL) (ret := ret) hy ?_ ?_
  · intro args s m h hn
    obtain ⟨m9, meth, c, hn9, h1, h2, h3, h4, -, h5, h6, -⟩ := Cond.codeWith_spec (atoms_spec (ws := ws) h _ (by rw [hw]; exact List.mem_cons_self))
    cases hn.symm.trans hn9
    exact ⟨meth, c, h1, h2, h3, h4, h5, h6⟩
  · intro p e s m args below meth c s₁ B hml hP _
    have hh0 : s₁.heap = s.heap := by rw [B.state]; rfl
    obtain ⟨t, a1, o, b1, b2, b3⟩ := body p e s m args below meth c s₁ B hml hP s₁ hh0 (Stand.of_body B)
    exact ⟨t, o, a1, b1, b2, b3⟩
/-! ===== END ===== -/
end
section
/-! BLOCKS: a world as a list of blocks; a block is a number of cells with an address and a content each -/
abbrev bw_B : Type := Nat × (Nat → Nat × va_E)
def bw_r {α : Type} (n : Nat) (f : Nat → α) : List α := (List.range n).map f
theorem bw_r_len {α : Type} {n : Nat} {f : Nat → α} : (bw_r n f).length = n := by simp [bw_r]
theorem bw_r_get {α : Type} {n : Nat} {f : Nat → α} {i : Nat} (h : i < n) : (bw_r n f)[i]? = some (f i) := by
  simp [bw_r, h]
theorem bw_r_set {α : Type} {n : Nat} {f : Nat → α} {i : Nat} {v : α} : (bw_r n f).set i v = bw_r n (va_up f i v) := by
  apply List.ext_getElem?
  intro k
  rw [List.getElem?_set]
  by_cases hk : k < n
  · rw [bw_r_get hk, bw_r_get hk, bw_r_len]
    by_cases h : i = k
    · subst h; simp [va_up, hk]
    · have h' : ¬ k = i := fun q => h q.symm
      simp [va_up, h, h']
  · have h1 : (bw_r n f)[k]? = none := List.getElem?_eq_none (by rw [bw_r_len]; omega)
    have h2 : (bw_r n (va_up f i v))[k]? = none := List.getElem?_eq_none (by rw [bw_r_len]; omega)
    rw [h1, h2, bw_r_len]
    by_cases h : i = k
    · subst h; simp [hk]
    · simp [h]
theorem bw_r_push {α : Type} {n : Nat} {f : Nat → α} {v : α} : bw_r n f ++ [v] = bw_r (n + 1) (va_up f n v) := by
  apply List.ext_getElem?
  intro k
  by_cases hk : k < n
  · rw [List.getElem?_append_left (by rw [bw_r_len]; exact hk), bw_r_get hk, bw_r_get (by omega)]
    have : ¬ k = n := by omega
    simp [va_up, this]
  · rw [List.getElem?_append_right (by rw [bw_r_len]; omega), bw_r_len]
    by_cases h : k = n
    · subst h; rw [bw_r_get (by omega)]; simp [va_up]
    · rw [List.getElem?_eq_none (l := bw_r (n + 1) (va_up f n v)) (by rw [bw_r_len]; omega), List.getElem?_eq_none (by simp; omega)]
def bw_l (bs : List bw_B) : va_W := bs.flatMap fun b => bw_r b.1 b.2
def bw_o : List bw_B → Nat → Nat
  | [], _ => 0
  | _ :: _, 0 => 0
  | b :: bs, j + 1 => b.1 + bw_o bs j
theorem bw_get {bs : List bw_B} {j n i : Nat} {f : Nat → Nat × va_E} (hj : bs[j]? = some (n, f)) (hi : i < n) (Y : va_W) : (bw_l bs ++ Y)[bw_o bs j + i]? = some (f i) := by
  induction bs generalizing j with
  | nil => simp at hj
  | cons b bs ih =>
    cases j with
    | zero =>
      simp at hj
      subst hj
      show (bw_l ((n, f) :: bs) ++ Y)[0 + i]? = some (f i)
      simp only [bw_l, List.flatMap_cons, List.append_assoc, Nat.zero_add]
      rw [List.getElem?_append_left (by rw [bw_r_len]; exact hi), bw_r_get hi]
    | succ j =>
      have hj' : bs[j]? = some (n, f) := by simpa using hj
      have := ih hj'
      show (bw_l (b :: bs) ++ Y)[b.1 + bw_o bs j + i]? = some (f i)
      simp only [bw_l, List.flatMap_cons, List.append_assoc] at this ⊢
      rw [List.getElem?_append_right (by rw [bw_r_len]; omega), bw_r_len, show b.1 + bw_o bs j + i - b.1 = bw_o bs j + i by omega]
      exact this
theorem bw_set {bs : List bw_B} {j n i : Nat} {f : Nat → Nat × va_E} (hj : bs[j]? = some (n, f)) (hi : i < n) (Y : va_W) (v : Nat × va_E) : (bw_l bs ++ Y).set (bw_o bs j + i) v = bw_l (bs.set j (n, va_up f i v)) ++ Y := by
  induction bs generalizing j with
  | nil => simp at hj
  | cons b bs ih =>
    cases j with
    | zero =>
      simp at hj
      subst hj
      show (bw_l ((n, f) :: bs) ++ Y).set (0 + i) v = bw_l ((n, va_up f i v) :: bs) ++ Y
      simp only [bw_l, List.flatMap_cons, List.append_assoc, Nat.zero_add]
      rw [List.set_append_left _ _ (by rw [bw_r_len]; exact hi), bw_r_set]
    | succ j =>
      have hj' : bs[j]? = some (n, f) := by simpa using hj
      have := ih hj'
      show (bw_l (b :: bs) ++ Y).set (b.1 + bw_o bs j + i) v = bw_l (b :: bs.set j (n, va_up f i v)) ++ Y
      simp only [bw_l, List.flatMap_cons, List.append_assoc] at this ⊢
      rw [List.set_append_right _ _ (by rw [bw_r_len]; omega), bw_r_len, show b.1 + bw_o bs j + i - b.1 = bw_o bs j + i by omega, this]
theorem bw_push {bs : List bw_B} {j n : Nat} {f : Nat → Nat × va_E} (hj : bs[j]? = some (n, f)) (v : Nat × va_E) : (bw_l bs ++ [v]).Perm (bw_l (bs.set j (n + 1, va_up f n v))) := by
  induction bs generalizing j with
  | nil => simp at hj
  | cons b bs ih =>
    cases j with
    | zero =>
      simp at hj
      subst hj
      show (bw_l ((n, f) :: bs) ++ [v]).Perm (bw_l ((n + 1, va_up f n v) :: bs))
      simp only [bw_l, List.flatMap_cons, List.append_assoc]
      rw [← bw_r_push, List.append_assoc]
      exact List.Perm.append_left _ List.perm_append_comm
    | succ j =>
      have hj' : bs[j]? = some (n, f) := by simpa using hj
      have := ih hj'
      show (bw_l (b :: bs) ++ [v]).Perm (bw_l (b :: bs.set j (n + 1, va_up f n v)))
      simp only [bw_l, List.flatMap_cons, List.append_assoc] at this ⊢
      exact List.Perm.append_left _ this
theorem bw_pushY {bs : List bw_B} {j n : Nat} {f : Nat → Nat × va_E} (hj : bs[j]? = some (n, f)) (Y : va_W) (v : Nat × va_E) : (bw_l bs ++ Y ++ [v]).Perm (bw_l (bs.set j (n + 1, va_up f n v)) ++ Y) := by
  have h1 : (bw_l bs ++ Y ++ [v]).Perm (bw_l bs ++ [v] ++ Y) := by
    rw [List.append_assoc, List.append_assoc]
    exact List.Perm.append_left _ List.perm_append_comm
  exact h1.trans (List.Perm.append_right _ (bw_push hj v))
theorem bw_P {D : va_G} {cl : List vw_C} {ws ws' : va_W} {H : Heap} (hp : ws.Perm ws') (h : va_P D cl ws H) : va_P D cl ws' H := by
  intro k q hk
  obtain ⟨i, hi⟩ := List.getElem?_of_mem (hp.mem_iff.mpr (List.mem_of_getElem? hk))
  exact h i q hi
theorem bw_D_iff {A : Nat → Prop} {ws : va_W} : va_D A ws ↔ (ws.map (·.1)).Nodup ∧ ∀ q ∈ ws, A q.1 := by
  constructor
  · intro h
    refine ⟨?_, fun q hq => ?_⟩
    · rw [List.Nodup, List.pairwise_iff_getElem]
      intro i j hi hj hij he
      simp only [List.length_map] at hi hj
      simp only [List.getElem_map] at he
      have := h.1 i j ws[i] ws[j] (List.getElem?_eq_getElem hi) (List.getElem?_eq_getElem hj) he
      omega
    · obtain ⟨i, hi⟩ := List.getElem?_of_mem hq
      exact h.2 i q hi
  · intro ⟨h1, h2⟩
    refine ⟨fun i j p q hi hj he => ?_, fun k q hk => h2 q (List.mem_of_getElem? hk)⟩
    have li := (List.getElem?_eq_some_iff.mp hi)
    have lj := (List.getElem?_eq_some_iff.mp hj)
    obtain ⟨li, ei⟩ := li
    obtain ⟨lj, ej⟩ := lj
    rw [List.Nodup, List.pairwise_iff_getElem] at h1
    rcases Nat.lt_trichotomy i j with h | h | h
    · refine absurd ?_ (h1 i j (by simpa using li) (by simpa using lj) h)
      rw [List.getElem_map, List.getElem_map, ei, ej]
      exact he
    · exact h
    · refine absurd ?_ (h1 j i (by simpa using lj) (by simpa using li) h)
      rw [List.getElem_map, List.getElem_map, ei, ej]
      exact he.symm
theorem bw_D {A : Nat → Prop} {ws ws' : va_W} (hp : ws.Perm ws') (h : va_D A ws) : va_D A ws' := by
  rw [bw_D_iff] at h ⊢
  exact ⟨(hp.map _).nodup_iff.mp h.1, fun q hq => h.2 q (hp.mem_iff.mpr hq)⟩
end
section
/-! NAMES: classes, fields, methods, decode rows, words by their places; by the program wip/gen/names.py -/
def R_P : String := "CountRounds$Place"
def F_P : u_T := fun k => match k with
  | 0 => ("CountRounds$Place", "kind", "I", true)
  | 1 => ("CountRounds$Place", "pieces", "[I", true)
  | 2 => ("CountRounds$Place", "countedOn", "I", false)
  | _ => ("CountRounds$Place", "taken", "Z", false)
def ty_P : Nat → FieldType := fun k => match k with
  | 0 => .int
  | 1 => .array .int
  | 2 => .int
  | _ => .boolean
theorem n_P : ∀ a, a < 4 → ∀ b, b < 4 → a ≠ b → (F_P a).2.1 ≠ (F_P b).2.1 := by decide +kernel
theorem ty_P_ok : ∀ k, k < 4 → parseFieldDescriptor (F_P k).2.2.1 = some (ty_P k) := by decide +kernel
def R_S : String := "CountRounds$Sheet"
def F_S : u_T := fun k => match k with
  | 0 => ("CountRounds$Sheet", "members", "[I", true)
  | 1 => ("CountRounds$Sheet", "noted", "[I", true)
  | 2 => ("CountRounds$Sheet", "pieces", "[I", true)
  | 3 => ("CountRounds$Sheet", "firstFinders", "[I", true)
  | 4 => ("CountRounds$Sheet", "secondFinders", "[I", true)
  | 5 => ("CountRounds$Sheet", "askers", "[I", true)
  | 6 => ("CountRounds$Sheet", "corrected", "[Z", true)
  | 7 => ("CountRounds$Sheet", "differing", "[I", true)
  | 8 => ("CountRounds$Sheet", "differences", "I", false)
  | 9 => ("CountRounds$Sheet", "findings", "I", false)
  | _ => ("CountRounds$Sheet", "state", "I", false)
def ty_S : Nat → FieldType := fun k => match k with
  | 0 => .array .int
  | 1 => .array .int
  | 2 => .array .int
  | 3 => .array .int
  | 4 => .array .int
  | 5 => .array .int
  | 6 => .array .boolean
  | 7 => .array .int
  | 8 => .int
  | 9 => .int
  | _ => .int
theorem n_S : ∀ a, a < 11 → ∀ b, b < 11 → a ≠ b → (F_S a).2.1 ≠ (F_S b).2.1 := by decide +kernel
theorem ty_S_ok : ∀ k, k < 11 → parseFieldDescriptor (F_S k).2.2.1 = some (ty_S k) := by decide +kernel
def R_T : String := "CountRounds$Transfer"
def F_T : u_T := fun k => match k with
  | 0 => ("CountRounds$Transfer", "from", "I", true)
  | 1 => ("CountRounds$Transfer", "to", "I", true)
  | 2 => ("CountRounds$Transfer", "good", "I", true)
  | 3 => ("CountRounds$Transfer", "pieces", "I", true)
  | _ => ("CountRounds$Transfer", "open", "Z", false)
def ty_T : Nat → FieldType := fun k => match k with
  | 0 => .int
  | 1 => .int
  | 2 => .int
  | 3 => .int
  | _ => .boolean
theorem n_T : ∀ a, a < 5 → ∀ b, b < 5 → a ≠ b → (F_T a).2.1 ≠ (F_T b).2.1 := by decide +kernel
theorem ty_T_ok : ∀ k, k < 5 → parseFieldDescriptor (F_T k).2.2.1 = some (ty_T k) := by decide +kernel
def R_C : String := "CountRounds"
def F_C : u_T := fun k => match k with
  | 0 => ("CountRounds", "places", "[LCountRounds$Place;", true)
  | 1 => ("CountRounds", "transfers", "[LCountRounds$Transfer;", true)
  | 2 => ("CountRounds", "sheets", "[LCountRounds$Sheet;", true)
  | 3 => ("CountRounds", "cycles", "[I", true)
  | 4 => ("CountRounds", "tolerances", "[I", true)
  | 5 => ("CountRounds", "rights", "[I", true)
  | 6 => ("CountRounds", "candidates", "[I", true)
  | 7 => ("CountRounds", "placesMade", "I", false)
  | 8 => ("CountRounds", "transfersMade", "I", false)
  | 9 => ("CountRounds", "sheetsMade", "I", false)
  | 10 => ("CountRounds", "today", "I", false)
  | 11 => ("CountRounds", "waits", "Z", false)
  | 12 => ("CountRounds", "timesCounted", "I", false)
  | _ => ("CountRounds", "timesRight", "I", false)
def ty_C : Nat → FieldType := fun k => match k with
  | 0 => .array (.object "CountRounds$Place")
  | 1 => .array (.object "CountRounds$Transfer")
  | 2 => .array (.object "CountRounds$Sheet")
  | 3 => .array .int
  | 4 => .array .int
  | 5 => .array .int
  | 6 => .array .int
  | 7 => .int
  | 8 => .int
  | 9 => .int
  | 10 => .int
  | 11 => .boolean
  | 12 => .int
  | _ => .int
theorem n_C : ∀ a, a < 14 → ∀ b, b < 14 → a ≠ b → (F_C a).2.1 ≠ (F_C b).2.1 := by decide +kernel
theorem ty_C_ok : ∀ k, k < 14 → parseFieldDescriptor (F_C k).2.2.1 = some (ty_C k) := by decide +kernel
def R_M : String := "CountRoundsModel"
def F_M : u_T := fun k => match k with
  | 0 => ("CountRoundsModel", "code", "I", false)
  | 1 => ("CountRoundsModel", "today", "I", false)
  | 2 => ("CountRoundsModel", "wait", "I", false)
  | 3 => ("CountRoundsModel", "places", "I", false)
  | 4 => ("CountRoundsModel", "classOf", "[I", true)
  | 5 => ("CountRoundsModel", "lastDay", "[I", true)
  | 6 => ("CountRoundsModel", "booked", "[I", true)
  | 7 => ("CountRoundsModel", "cycles", "[I", true)
  | 8 => ("CountRoundsModel", "tolerances", "[I", true)
  | 9 => ("CountRoundsModel", "rights", "[I", true)
  | 10 => ("CountRoundsModel", "moves", "I", false)
  | 11 => ("CountRoundsModel", "moveFrom", "[I", true)
  | 12 => ("CountRoundsModel", "moveTo", "[I", true)
  | 13 => ("CountRoundsModel", "moveGood", "[I", true)
  | 14 => ("CountRoundsModel", "moveMany", "[I", true)
  | 15 => ("CountRoundsModel", "ended", "[Z", true)
  | 16 => ("CountRoundsModel", "counts", "I", false)
  | 17 => ("CountRoundsModel", "state", "[I", true)
  | 18 => ("CountRoundsModel", "size", "[I", true)
  | 19 => ("CountRoundsModel", "tellings", "[I", true)
  | 20 => ("CountRoundsModel", "placeAt", "[I", true)
  | 21 => ("CountRoundsModel", "noted", "[I", true)
  | 22 => ("CountRoundsModel", "first", "[I", true)
  | 23 => ("CountRoundsModel", "second", "[I", true)
  | 24 => ("CountRoundsModel", "tellers", "[I", true)
  | 25 => ("CountRoundsModel", "marks", "[I", true)
  | 26 => ("CountRoundsModel", "counted", "I", false)
  | 27 => ("CountRoundsModel", "right", "I", false)
  | _ => ("CountRoundsModel", "left", "[Z", true)
def ty_M : Nat → FieldType := fun k => match k with
  | 0 => .int
  | 1 => .int
  | 2 => .int
  | 3 => .int
  | 4 => .array .int
  | 5 => .array .int
  | 6 => .array .int
  | 7 => .array .int
  | 8 => .array .int
  | 9 => .array .int
  | 10 => .int
  | 11 => .array .int
  | 12 => .array .int
  | 13 => .array .int
  | 14 => .array .int
  | 15 => .array .boolean
  | 16 => .int
  | 17 => .array .int
  | 18 => .array .int
  | 19 => .array .int
  | 20 => .array .int
  | 21 => .array .int
  | 22 => .array .int
  | 23 => .array .int
  | 24 => .array .int
  | 25 => .array .int
  | 26 => .int
  | 27 => .int
  | _ => .array .boolean
theorem n_M : ∀ a, a < 29 → ∀ b, b < 29 → a ≠ b → (F_M a).2.1 ≠ (F_M b).2.1 := by decide +kernel
theorem ty_M_ok : ∀ k, k < 29 → parseFieldDescriptor (F_M k).2.2.1 = some (ty_M k) := by decide +kernel
abbrev classes : List vw_C := [(R_P, F_P, 4), (R_S, F_S, 11), (R_T, F_T, 5), (R_C, F_C, 14), (R_M, F_M, 29)]
def gw : List Cond := lw_tbl.filter goodWord
theorem gw_t {w : Cond} (k : Nat) (h : tables_1[k]? = some w) (hg : goodWord w = true) : w ∈ gw := List.mem_filter.mpr ⟨List.mem_append_right _ (List.mem_of_getElem? h), hg⟩
theorem gw_s {q : MethodName × Nat} (k : Nat) (h : lw_privs[k]? = some q) (hg : goodWord (.selects q.1.cls q.1 q.1) = true) : Cond.selects q.1.cls q.1 q.1 ∈ gw := List.mem_filter.mpr ⟨List.mem_append_left _ (List.mem_map.mpr ⟨q, List.mem_of_getElem? h, rfl⟩), hg⟩
abbrev b_C_init : ByteArray := prog_1_method_1_code
def y_C_init : MethodName := ⟨"CountRounds", "<init>", "()V"⟩
abbrev b_C_place : ByteArray := prog_1_method_2_code
def y_C_place : MethodName := ⟨"CountRounds", "place", "(I)I"⟩
abbrev b_C_stock : ByteArray := prog_1_method_3_code
def y_C_stock : MethodName := ⟨"CountRounds", "stock", "(III)V"⟩
abbrev b_C_cycle : ByteArray := prog_1_method_4_code
def y_C_cycle : MethodName := ⟨"CountRounds", "cycle", "(III)V"⟩
abbrev b_C_right : ByteArray := prog_1_method_5_code
def y_C_right : MethodName := ⟨"CountRounds", "right", "(II)V"⟩
abbrev b_C_setting : ByteArray := prog_1_method_6_code
def y_C_setting : MethodName := ⟨"CountRounds", "setting", "(I)V"⟩
abbrev b_C_day : ByteArray := prog_1_method_7_code
def y_C_day : MethodName := ⟨"CountRounds", "day", "(I)V"⟩
abbrev b_C_move : ByteArray := prog_1_method_8_code
def y_C_move : MethodName := ⟨"CountRounds", "move", "(IIII)I"⟩
abbrev b_C_end : ByteArray := prog_1_method_9_code
def y_C_end : MethodName := ⟨"CountRounds", "end", "(I)V"⟩
abbrev b_C_moves : ByteArray := prog_1_method_10_code
def y_C_moves : MethodName := ⟨"CountRounds", "moves", "(I)I"⟩
abbrev b_C_round : ByteArray := prog_1_method_11_code
def y_C_round : MethodName := ⟨"CountRounds", "round", "(IIJ)I"⟩
abbrev b_C_freeze : ByteArray := prog_1_method_12_code
def y_C_freeze : MethodName := ⟨"CountRounds", "freeze", "(I)I"⟩
abbrev b_C_found : ByteArray := prog_1_method_13_code
def y_C_found : MethodName := ⟨"CountRounds", "found", "(IIIII)I"⟩
abbrev b_C_second : ByteArray := prog_1_method_14_code
def y_C_second : MethodName := ⟨"CountRounds", "second", "(III)Z"⟩
abbrev b_C_close : ByteArray := prog_1_method_15_code
def y_C_close : MethodName := ⟨"CountRounds", "close", "(I)I"⟩
abbrev b_C_differ : ByteArray := prog_1_method_16_code
def y_C_differ : MethodName := ⟨"CountRounds", "differ", "(III)I"⟩
abbrev b_C_correct : ByteArray := prog_1_method_17_code
def y_C_correct : MethodName := ⟨"CountRounds", "correct", "(III)Z"⟩
abbrev b_C_share : ByteArray := prog_1_method_18_code
def y_C_share : MethodName := ⟨"CountRounds", "share", "(I)I"⟩
abbrev b_C_last : ByteArray := prog_1_method_19_code
def y_C_last : MethodName := ⟨"CountRounds", "last", "(I)I"⟩
abbrev b_C_due : ByteArray := prog_1_method_20_code
def y_C_due : MethodName := ⟨"CountRounds", "due", "(I)I"⟩
abbrev b_C_booked : ByteArray := prog_1_method_21_code
def y_C_booked : MethodName := ⟨"CountRounds", "booked", "(II)I"⟩
abbrev b_C_told : ByteArray := prog_1_method_22_code
def y_C_told : MethodName := ⟨"CountRounds", "told", "(II)I"⟩
abbrev b_C_count : ByteArray := prog_1_method_23_code
def y_C_count : MethodName := ⟨"CountRounds", "count", "(I)I"⟩
abbrev b_C_isWithin : ByteArray := prog_1_method_24_code
def y_C_isWithin : MethodName := ⟨"CountRounds", "isWithin", "(III)Z"⟩
abbrev b_C_isKind : ByteArray := prog_1_method_25_code
def y_C_isKind : MethodName := ⟨"CountRounds", "isKind", "(I)Z"⟩
abbrev b_C_isGood : ByteArray := prog_1_method_26_code
def y_C_isGood : MethodName := ⟨"CountRounds", "isGood", "(I)Z"⟩
abbrev b_C_isPerson : ByteArray := prog_1_method_27_code
def y_C_isPerson : MethodName := ⟨"CountRounds", "isPerson", "(I)Z"⟩
abbrev b_C_isPieces : ByteArray := prog_1_method_28_code
def y_C_isPieces : MethodName := ⟨"CountRounds", "isPieces", "(I)Z"⟩
abbrev b_C_isDay : ByteArray := prog_1_method_29_code
def y_C_isDay : MethodName := ⟨"CountRounds", "isDay", "(I)Z"⟩
abbrev b_C_placeNumbered : ByteArray := prog_1_method_30_code
def y_C_placeNumbered : MethodName := ⟨"CountRounds", "placeNumbered", "(I)LCountRounds$Place;"⟩
abbrev b_C_transferNumbered : ByteArray := prog_1_method_31_code
def y_C_transferNumbered : MethodName := ⟨"CountRounds", "transferNumbered", "(I)LCountRounds$Transfer;"⟩
abbrev b_C_sheetNumbered : ByteArray := prog_1_method_32_code
def y_C_sheetNumbered : MethodName := ⟨"CountRounds", "sheetNumbered", "(I)LCountRounds$Sheet;"⟩
abbrev b_C_openMoves : ByteArray := prog_1_method_33_code
def y_C_openMoves : MethodName := ⟨"CountRounds", "openMoves", "()I"⟩
abbrev b_C_openMovesAt : ByteArray := prog_1_method_34_code
def y_C_openMovesAt : MethodName := ⟨"CountRounds", "openMovesAt", "(I)I"⟩
abbrev b_C_hasOpenMoves : ByteArray := prog_1_method_35_code
def y_C_hasOpenMoves : MethodName := ⟨"CountRounds", "hasOpenMoves", "(LCountRounds$Sheet;)Z"⟩
abbrev b_C_gatherCandidates : ByteArray := prog_1_method_36_code
def y_C_gatherCandidates : MethodName := ⟨"CountRounds", "gatherCandidates", "(I)I"⟩
abbrev b_C_chooseCandidates : ByteArray := prog_1_method_37_code
def y_C_chooseCandidates : MethodName := ⟨"CountRounds", "chooseCandidates", "(IIJ)[I"⟩
abbrev b_C_longestUncounted : ByteArray := prog_1_method_38_code
def y_C_longestUncounted : MethodName := ⟨"CountRounds", "longestUncounted", "(I)I"⟩
abbrev b_C_noteBooked : ByteArray := prog_1_method_39_code
def y_C_noteBooked : MethodName := ⟨"CountRounds", "noteBooked", "(LCountRounds$Sheet;)V"⟩
abbrev b_C_countPlace : ByteArray := prog_1_method_40_code
def y_C_countPlace : MethodName := ⟨"CountRounds", "countPlace", "(LCountRounds$Sheet;ILCountRounds$Place;)V"⟩
abbrev b_C_isTolerated : ByteArray := prog_1_method_41_code
def y_C_isTolerated : MethodName := ⟨"CountRounds", "isTolerated", "(ILCountRounds$Place;)Z"⟩
abbrev b_C_mayCorrect : ByteArray := prog_1_method_42_code
def y_C_mayCorrect : MethodName := ⟨"CountRounds", "mayCorrect", "(LCountRounds$Sheet;II)Z"⟩
abbrev b_C_commonDivisor : ByteArray := prog_1_method_43_code
def y_C_commonDivisor : MethodName := ⟨"CountRounds", "commonDivisor", "(II)I"⟩
abbrev b_M_init : ByteArray := prog_6_method_1_code
def y_M_init : MethodName := ⟨"CountRoundsModel", "<init>", "()V"⟩
abbrev b_M_thrown : ByteArray := prog_6_method_2_code
def y_M_thrown : MethodName := ⟨"CountRoundsModel", "thrown", "()I"⟩
abbrev b_M_in : ByteArray := prog_6_method_3_code
def y_M_in : MethodName := ⟨"CountRoundsModel", "in", "(III)Z"⟩
abbrev b_M_isPlace : ByteArray := prog_6_method_4_code
def y_M_isPlace : MethodName := ⟨"CountRoundsModel", "isPlace", "(I)Z"⟩
abbrev b_M_isGood : ByteArray := prog_6_method_5_code
def y_M_isGood : MethodName := ⟨"CountRoundsModel", "isGood", "(I)Z"⟩
abbrev b_M_isPerson : ByteArray := prog_6_method_6_code
def y_M_isPerson : MethodName := ⟨"CountRoundsModel", "isPerson", "(I)Z"⟩
abbrev b_M_isCount : ByteArray := prog_6_method_7_code
def y_M_isCount : MethodName := ⟨"CountRoundsModel", "isCount", "(I)Z"⟩
abbrev b_M_place : ByteArray := prog_6_method_8_code
def y_M_place : MethodName := ⟨"CountRoundsModel", "place", "(I)I"⟩
abbrev b_M_stock : ByteArray := prog_6_method_9_code
def y_M_stock : MethodName := ⟨"CountRoundsModel", "stock", "(III)V"⟩
abbrev b_M_cycle : ByteArray := prog_6_method_10_code
def y_M_cycle : MethodName := ⟨"CountRoundsModel", "cycle", "(III)V"⟩
abbrev b_M_right : ByteArray := prog_6_method_11_code
def y_M_right : MethodName := ⟨"CountRoundsModel", "right", "(II)V"⟩
abbrev b_M_setting : ByteArray := prog_6_method_12_code
def y_M_setting : MethodName := ⟨"CountRoundsModel", "setting", "(I)V"⟩
abbrev b_M_day : ByteArray := prog_6_method_13_code
def y_M_day : MethodName := ⟨"CountRoundsModel", "day", "(I)V"⟩
abbrev b_M_move : ByteArray := prog_6_method_14_code
def y_M_move : MethodName := ⟨"CountRoundsModel", "move", "(IIII)I"⟩
abbrev b_M_end : ByteArray := prog_6_method_15_code
def y_M_end : MethodName := ⟨"CountRoundsModel", "end", "(I)V"⟩
abbrev b_M_openAt : ByteArray := prog_6_method_16_code
def y_M_openAt : MethodName := ⟨"CountRoundsModel", "openAt", "(I)I"⟩
abbrev b_M_moves : ByteArray := prog_6_method_17_code
def y_M_moves : MethodName := ⟨"CountRoundsModel", "moves", "(I)I"⟩
abbrev b_M_isBusy : ByteArray := prog_6_method_18_code
def y_M_isBusy : MethodName := ⟨"CountRoundsModel", "isBusy", "(I)Z"⟩
abbrev b_M_byRank : ByteArray := prog_6_method_19_code
def y_M_byRank : MethodName := ⟨"CountRoundsModel", "byRank", "()I"⟩
abbrev b_M_byNumber : ByteArray := prog_6_method_20_code
def y_M_byNumber : MethodName := ⟨"CountRoundsModel", "byNumber", "(I)I"⟩
abbrev b_M_round : ByteArray := prog_6_method_21_code
def y_M_round : MethodName := ⟨"CountRoundsModel", "round", "(IIJ)I"⟩
abbrev b_M_coming : ByteArray := prog_6_method_22_code
def y_M_coming : MethodName := ⟨"CountRoundsModel", "coming", "(II)I"⟩
abbrev b_M_freeze : ByteArray := prog_6_method_23_code
def y_M_freeze : MethodName := ⟨"CountRoundsModel", "freeze", "(I)I"⟩
abbrev b_M_slot : ByteArray := prog_6_method_24_code
def y_M_slot : MethodName := ⟨"CountRoundsModel", "slot", "(II)I"⟩
abbrev b_M_found : ByteArray := prog_6_method_25_code
def y_M_found : MethodName := ⟨"CountRoundsModel", "found", "(IIIII)I"⟩
abbrev b_M_firstBy : ByteArray := prog_6_method_26_code
def y_M_firstBy : MethodName := ⟨"CountRoundsModel", "firstBy", "(I)I"⟩
abbrev b_M_secondBy : ByteArray := prog_6_method_27_code
def y_M_secondBy : MethodName := ⟨"CountRoundsModel", "secondBy", "(I)I"⟩
abbrev b_M_far : ByteArray := prog_6_method_28_code
def y_M_far : MethodName := ⟨"CountRoundsModel", "far", "(II)I"⟩
abbrev b_M_second : ByteArray := prog_6_method_29_code
def y_M_second : MethodName := ⟨"CountRoundsModel", "second", "(III)Z"⟩
abbrev b_M_close : ByteArray := prog_6_method_30_code
def y_M_close : MethodName := ⟨"CountRoundsModel", "close", "(I)I"⟩
abbrev b_M_counts : ByteArray := prog_6_method_31_code
def y_M_counts : MethodName := ⟨"CountRoundsModel", "counts", "(I)I"⟩
abbrev b_M_isTold : ByteArray := prog_6_method_32_code
def y_M_isTold : MethodName := ⟨"CountRoundsModel", "isTold", "(II)Z"⟩
abbrev b_M_closePlace : ByteArray := prog_6_method_33_code
def y_M_closePlace : MethodName := ⟨"CountRoundsModel", "closePlace", "(II)V"⟩
abbrev b_M_difference : ByteArray := prog_6_method_34_code
def y_M_difference : MethodName := ⟨"CountRoundsModel", "difference", "(II)I"⟩
abbrev b_M_bookedAt : ByteArray := prog_6_method_35_code
def y_M_bookedAt : MethodName := ⟨"CountRoundsModel", "bookedAt", "(I)I"⟩
abbrev b_M_differ : ByteArray := prog_6_method_36_code
def y_M_differ : MethodName := ⟨"CountRoundsModel", "differ", "(III)I"⟩
abbrev b_M_correct : ByteArray := prog_6_method_37_code
def y_M_correct : MethodName := ⟨"CountRoundsModel", "correct", "(III)Z"⟩
abbrev b_M_divisor : ByteArray := prog_6_method_38_code
def y_M_divisor : MethodName := ⟨"CountRoundsModel", "divisor", "(II)I"⟩
abbrev b_M_share : ByteArray := prog_6_method_39_code
def y_M_share : MethodName := ⟨"CountRoundsModel", "share", "(I)I"⟩
abbrev b_M_last : ByteArray := prog_6_method_40_code
def y_M_last : MethodName := ⟨"CountRoundsModel", "last", "(I)I"⟩
abbrev b_M_due : ByteArray := prog_6_method_41_code
def y_M_due : MethodName := ⟨"CountRoundsModel", "due", "(I)I"⟩
abbrev b_M_booked : ByteArray := prog_6_method_42_code
def y_M_booked : MethodName := ⟨"CountRoundsModel", "booked", "(II)I"⟩
abbrev b_M_told : ByteArray := prog_6_method_43_code
def y_M_told : MethodName := ⟨"CountRoundsModel", "told", "(II)I"⟩
abbrev b_M_count : ByteArray := prog_6_method_44_code
def y_M_count : MethodName := ⟨"CountRoundsModel", "count", "(I)I"⟩
abbrev b_P_init : ByteArray := prog_2_method_1_code
def y_P_init : MethodName := ⟨"CountRounds$Place", "<init>", "(I)V"⟩
abbrev b_S_init : ByteArray := prog_3_method_1_code
def y_S_init : MethodName := ⟨"CountRounds$Sheet", "<init>", "([I)V"⟩
abbrev b_S_positionOf : ByteArray := prog_3_method_2_code
def y_S_positionOf : MethodName := ⟨"CountRounds$Sheet", "positionOf", "(I)I"⟩
abbrev b_S_tell : ByteArray := prog_3_method_3_code
def y_S_tell : MethodName := ⟨"CountRounds$Sheet", "tell", "(III)I"⟩
abbrev b_S_isToldOnce : ByteArray := prog_3_method_4_code
def y_S_isToldOnce : MethodName := ⟨"CountRounds$Sheet", "isToldOnce", "(I)Z"⟩
abbrev b_S_isPlaceTold : ByteArray := prog_3_method_5_code
def y_S_isPlaceTold : MethodName := ⟨"CountRounds$Sheet", "isPlaceTold", "(I)Z"⟩
abbrev b_S_finderOf : ByteArray := prog_3_method_6_code
def y_S_finderOf : MethodName := ⟨"CountRounds$Sheet", "finderOf", "(I)I"⟩
abbrev b_S_differenceOf : ByteArray := prog_3_method_7_code
def y_S_differenceOf : MethodName := ⟨"CountRounds$Sheet", "differenceOf", "(I)I"⟩
abbrev b_S_addDifference : ByteArray := prog_3_method_8_code
def y_S_addDifference : MethodName := ⟨"CountRounds$Sheet", "addDifference", "(I)V"⟩
abbrev b_S_differingLine : ByteArray := prog_3_method_9_code
def y_S_differingLine : MethodName := ⟨"CountRounds$Sheet", "differingLine", "(I)I"⟩
abbrev b_T_init : ByteArray := prog_4_method_1_code
def y_T_init : MethodName := ⟨"CountRounds$Transfer", "<init>", "(IIII)V"⟩
abbrev b_L_place : ByteArray := method_3_code
def y_L_place : MethodName := ⟨"CountRoundsLaw", "place", "(LCountRounds;I[J)I"⟩
abbrev b_L_stock : ByteArray := method_4_code
def y_L_stock : MethodName := ⟨"CountRoundsLaw", "stock", "(LCountRounds;III)I"⟩
abbrev b_L_cycle : ByteArray := method_5_code
def y_L_cycle : MethodName := ⟨"CountRoundsLaw", "cycle", "(LCountRounds;III)I"⟩
abbrev b_L_right : ByteArray := method_6_code
def y_L_right : MethodName := ⟨"CountRoundsLaw", "right", "(LCountRounds;II)I"⟩
abbrev b_L_setting : ByteArray := method_7_code
def y_L_setting : MethodName := ⟨"CountRoundsLaw", "setting", "(LCountRounds;I)I"⟩
abbrev b_L_day : ByteArray := method_8_code
def y_L_day : MethodName := ⟨"CountRoundsLaw", "day", "(LCountRounds;I)I"⟩
abbrev b_L_move : ByteArray := method_9_code
def y_L_move : MethodName := ⟨"CountRoundsLaw", "move", "(LCountRounds;IIII[J)I"⟩
abbrev b_L_end : ByteArray := method_10_code
def y_L_end : MethodName := ⟨"CountRoundsLaw", "end", "(LCountRounds;I)I"⟩
abbrev b_L_moves : ByteArray := method_11_code
def y_L_moves : MethodName := ⟨"CountRoundsLaw", "moves", "(LCountRounds;I[J)I"⟩
abbrev b_L_round : ByteArray := method_12_code
def y_L_round : MethodName := ⟨"CountRoundsLaw", "round", "(LCountRounds;IIJ[J)I"⟩
abbrev b_L_freeze : ByteArray := method_13_code
def y_L_freeze : MethodName := ⟨"CountRoundsLaw", "freeze", "(LCountRounds;I[J)I"⟩
abbrev b_L_found : ByteArray := method_14_code
def y_L_found : MethodName := ⟨"CountRoundsLaw", "found", "(LCountRounds;IIIII[J)I"⟩
abbrev b_L_second : ByteArray := method_15_code
def y_L_second : MethodName := ⟨"CountRoundsLaw", "second", "(LCountRounds;III[J)I"⟩
abbrev b_L_close : ByteArray := method_16_code
def y_L_close : MethodName := ⟨"CountRoundsLaw", "close", "(LCountRounds;I[J)I"⟩
abbrev b_L_differ : ByteArray := method_17_code
def y_L_differ : MethodName := ⟨"CountRoundsLaw", "differ", "(LCountRounds;III[J)I"⟩
abbrev b_L_correct : ByteArray := method_18_code
def y_L_correct : MethodName := ⟨"CountRoundsLaw", "correct", "(LCountRounds;III[J)I"⟩
abbrev b_L_share : ByteArray := method_19_code
def y_L_share : MethodName := ⟨"CountRoundsLaw", "share", "(LCountRounds;I[J)I"⟩
abbrev b_L_last : ByteArray := method_20_code
def y_L_last : MethodName := ⟨"CountRoundsLaw", "last", "(LCountRounds;I[J)I"⟩
abbrev b_L_due : ByteArray := method_21_code
def y_L_due : MethodName := ⟨"CountRoundsLaw", "due", "(LCountRounds;I[J)I"⟩
abbrev b_L_booked : ByteArray := method_22_code
def y_L_booked : MethodName := ⟨"CountRoundsLaw", "booked", "(LCountRounds;II[J)I"⟩
abbrev b_L_told : ByteArray := method_23_code
def y_L_told : MethodName := ⟨"CountRoundsLaw", "told", "(LCountRounds;II[J)I"⟩
end
section
/-! WORDS of the tables by their places -/
theorem gw_1 {w : Cond} (k : Nat) (h : tables_1_1[k]? = some w) (hg : goodWord w = true) : w ∈ gw := List.mem_filter.mpr ⟨List.mem_append_right _ (List.mem_append_left _ (List.mem_of_getElem? h)), hg⟩
theorem gw_2 {w : Cond} (k : Nat) (h : tables_1_2[k]? = some w) (hg : goodWord w = true) : w ∈ gw := List.mem_filter.mpr ⟨List.mem_append_right _ (List.mem_append_right _ (List.mem_append_left _ (List.mem_of_getElem? h))), hg⟩
theorem gw_3 {w : Cond} (k : Nat) (h : tables_1_3[k]? = some w) (hg : goodWord w = true) : w ∈ gw := List.mem_filter.mpr ⟨List.mem_append_right _ (List.mem_append_right _ (List.mem_append_right _ (List.mem_append_left _ (List.mem_of_getElem? h)))), hg⟩
theorem gw_4 {w : Cond} (k : Nat) (h : tables_1_4[k]? = some w) (hg : goodWord w = true) : w ∈ gw := List.mem_filter.mpr ⟨List.mem_append_right _ (List.mem_append_right _ (List.mem_append_right _ (List.mem_append_right _ (List.mem_of_getElem? h)))), hg⟩
theorem wd_0 : (Cond.initialized "CountRoundsLaw") ∈ gw := gw_1 0 (by decide +kernel) rfl
theorem wd_1 : (Cond.initialized "CountRounds") ∈ gw := gw_1 1 (by decide +kernel) rfl
theorem wd_2 : (Cond.initialized "java/util/Arrays") ∈ gw := gw_1 2 (by decide +kernel) rfl
theorem wd_3 : (Cond.initialized "CountRoundsModel") ∈ gw := gw_1 3 (by decide +kernel) rfl
theorem wd_4 : (Cond.initialized "java/lang/Throwable") ∈ gw := gw_1 4 (by decide +kernel) rfl
theorem wd_5 : (Cond.initialized "java/lang/Exception") ∈ gw := gw_1 5 (by decide +kernel) rfl
theorem wd_6 : (Cond.initialized "java/lang/RuntimeException") ∈ gw := gw_1 6 (by decide +kernel) rfl
theorem wd_7 : (Cond.initialized "java/lang/IllegalArgumentException") ∈ gw := gw_1 7 (by decide +kernel) rfl
theorem wd_8 : (Cond.initialized "java/lang/UnsupportedOperationException") ∈ gw := gw_1 8 (by decide +kernel) rfl
theorem wd_9 : (Cond.initialized "CountRounds$Place") ∈ gw := gw_1 9 (by decide +kernel) rfl
theorem wd_10 : (Cond.initialized "java/util/NoSuchElementException") ∈ gw := gw_1 10 (by decide +kernel) rfl
theorem wd_11 : (Cond.initialized "java/lang/IllegalStateException") ∈ gw := gw_1 11 (by decide +kernel) rfl
theorem wd_12 : (Cond.initialized "CountRounds$Transfer") ∈ gw := gw_1 12 (by decide +kernel) rfl
theorem wd_13 : (Cond.initialized "java/lang/Math") ∈ gw := gw_1 13 (by decide +kernel) rfl
theorem wd_14 : (Cond.initialized "java/lang/System") ∈ gw := gw_1 14 (by decide +kernel) rfl
theorem wd_15 : (Cond.initialized "CountRounds$Sheet") ∈ gw := gw_1 15 (by decide +kernel) rfl
theorem wd_16 : (Cond.initialized "java/lang/ArithmeticException") ∈ gw := gw_1 16 (by decide +kernel) rfl
theorem wd_17 : (Cond.classLink "CountRoundsLaw" 8 "CountRounds") ∈ gw := gw_1 17 (by decide +kernel) rfl
theorem wd_18 : (Cond.instantiable "CountRounds" 14) ∈ gw := gw_1 18 (by decide +kernel) rfl
theorem wd_19 : (Cond.methodLink "CountRoundsLaw" 92 ({ cls := "CountRounds", name := "<init>", desc := "()V" } : MethodName)) ∈ gw := gw_1 19 (by decide +kernel) rfl
theorem wd_20 : (Cond.instanceMethod ({ cls := "CountRounds", name := "<init>", desc := "()V" } : MethodName)) ∈ gw := gw_1 20 (by decide +kernel) rfl
theorem wd_21 : (Cond.code ({ cls := "CountRounds", name := "<init>", desc := "()V" } : MethodName) prog_1_method_1_code 1 (Option.none : Option FieldType)) ∈ gw := gw_1 21 rfl rfl
theorem wd_22 : (Cond.methodLink "CountRounds" 1 ({ cls := "java/lang/Object", name := "<init>", desc := "()V" } : MethodName)) ∈ gw := gw_1 22 (by decide +kernel) rfl
theorem wd_23 : (Cond.instanceMethod ({ cls := "java/lang/Object", name := "<init>", desc := "()V" } : MethodName)) ∈ gw := gw_1 23 (by decide +kernel) rfl
theorem wd_24 : (Cond.code ({ cls := "java/lang/Object", name := "<init>", desc := "()V" } : MethodName) object_method_1_code 1 (Option.none : Option FieldType)) ∈ gw := gw_1 24 rfl rfl
theorem wd_25 : (Cond.classLink "CountRounds" 9 "CountRounds$Place") ∈ gw := gw_1 25 (by decide +kernel) rfl
theorem wd_27 : (Cond.classLink "CountRounds" 15 "CountRounds$Transfer") ∈ gw := gw_1 27 (by decide +kernel) rfl
theorem wd_29 : (Cond.classLink "CountRounds" 21 "CountRounds$Sheet") ∈ gw := gw_1 29 (by decide +kernel) rfl
theorem wd_31 : (Cond.methodLink "CountRounds" 44 ({ cls := "java/util/Arrays", name := "fill", desc := "([II)V" } : MethodName)) ∈ gw := gw_1 31 (by decide +kernel) rfl
theorem wd_32 : (Cond.static ({ cls := "java/util/Arrays", name := "fill", desc := "([II)V" } : MethodName)) ∈ gw := gw_1 32 (by decide +kernel) rfl
theorem wd_33 : (Cond.code ({ cls := "java/util/Arrays", name := "fill", desc := "([II)V" } : MethodName) prog_17_method_103_code 4 (Option.none : Option FieldType)) ∈ gw := gw_1 33 rfl rfl
theorem wd_34 : (Cond.fieldLink "CountRounds" 11 "CountRounds" "places" "[LCountRounds$Place;") ∈ gw := gw_1 34 (by decide +kernel) rfl
theorem wd_35 : (Cond.fieldLink "CountRounds" 17 "CountRounds" "transfers" "[LCountRounds$Transfer;") ∈ gw := gw_1 35 (by decide +kernel) rfl
theorem wd_36 : (Cond.fieldLink "CountRounds" 23 "CountRounds" "sheets" "[LCountRounds$Sheet;") ∈ gw := gw_1 36 (by decide +kernel) rfl
theorem wd_37 : (Cond.fieldLink "CountRounds" 27 "CountRounds" "cycles" "[I") ∈ gw := gw_1 37 (by decide +kernel) rfl
theorem wd_38 : (Cond.fieldLink "CountRounds" 31 "CountRounds" "tolerances" "[I") ∈ gw := gw_1 38 (by decide +kernel) rfl
theorem wd_39 : (Cond.fieldLink "CountRounds" 34 "CountRounds" "rights" "[I") ∈ gw := gw_1 39 (by decide +kernel) rfl
theorem wd_40 : (Cond.fieldLink "CountRounds" 37 "CountRounds" "candidates" "[I") ∈ gw := gw_1 40 (by decide +kernel) rfl
theorem wd_41 : (Cond.fieldLink "CountRounds" 61 "CountRounds" "placesMade" "I") ∈ gw := gw_1 41 (by decide +kernel) rfl
theorem wd_42 : (Cond.fieldLink "CountRounds" 119 "CountRounds" "transfersMade" "I") ∈ gw := gw_1 42 (by decide +kernel) rfl
theorem wd_43 : (Cond.fieldLink "CountRounds" 155 "CountRounds" "sheetsMade" "I") ∈ gw := gw_1 43 (by decide +kernel) rfl
theorem wd_44 : (Cond.fieldLink "CountRounds" 106 "CountRounds" "today" "I") ∈ gw := gw_1 44 (by decide +kernel) rfl
theorem wd_45 : (Cond.fieldLink "CountRounds" 40 "CountRounds" "waits" "Z") ∈ gw := gw_1 45 (by decide +kernel) rfl
theorem wd_46 : (Cond.fieldLink "CountRounds" 263 "CountRounds" "timesCounted" "I") ∈ gw := gw_1 46 (by decide +kernel) rfl
theorem wd_47 : (Cond.fieldLink "CountRounds" 266 "CountRounds" "timesRight" "I") ∈ gw := gw_1 47 (by decide +kernel) rfl
theorem wd_48 : (Cond.laysFinal "CountRounds" "CountRounds" "places" "[LCountRounds$Place;") ∈ gw := gw_1 48 (by decide +kernel) rfl
theorem wd_50 : (Cond.laysFinal "CountRounds" "CountRounds" "transfers" "[LCountRounds$Transfer;") ∈ gw := gw_1 50 (by decide +kernel) rfl
theorem wd_52 : (Cond.laysFinal "CountRounds" "CountRounds" "sheets" "[LCountRounds$Sheet;") ∈ gw := gw_1 52 (by decide +kernel) rfl
theorem wd_54 : (Cond.laysFinal "CountRounds" "CountRounds" "cycles" "[I") ∈ gw := gw_1 54 (by decide +kernel) rfl
theorem wd_56 : (Cond.laysFinal "CountRounds" "CountRounds" "tolerances" "[I") ∈ gw := gw_1 56 (by decide +kernel) rfl
theorem wd_58 : (Cond.laysFinal "CountRounds" "CountRounds" "rights" "[I") ∈ gw := gw_1 58 (by decide +kernel) rfl
theorem wd_60 : (Cond.laysFinal "CountRounds" "CountRounds" "candidates" "[I") ∈ gw := gw_1 60 (by decide +kernel) rfl
theorem wd_62 : (Cond.lays "CountRounds" "CountRounds" "placesMade" "I") ∈ gw := gw_1 62 (by decide +kernel) rfl
theorem wd_64 : (Cond.lays "CountRounds" "CountRounds" "transfersMade" "I") ∈ gw := gw_1 64 (by decide +kernel) rfl
theorem wd_66 : (Cond.lays "CountRounds" "CountRounds" "sheetsMade" "I") ∈ gw := gw_1 66 (by decide +kernel) rfl
theorem wd_68 : (Cond.lays "CountRounds" "CountRounds" "today" "I") ∈ gw := gw_1 68 (by decide +kernel) rfl
theorem wd_70 : (Cond.lays "CountRounds" "CountRounds" "waits" "Z") ∈ gw := gw_1 70 (by decide +kernel) rfl
theorem wd_72 : (Cond.lays "CountRounds" "CountRounds" "timesCounted" "I") ∈ gw := gw_1 72 (by decide +kernel) rfl
theorem wd_74 : (Cond.lays "CountRounds" "CountRounds" "timesRight" "I") ∈ gw := gw_1 74 (by decide +kernel) rfl
theorem wd_77 : (Cond.arrayClass FieldType.int) ∈ gw := gw_1 77 (by decide +kernel) rfl
theorem wd_78 : (Cond.methodLink "CountRoundsLaw" 176 ({ cls := "CountRounds", name := "count", desc := "(I)I" } : MethodName)) ∈ gw := gw_1 78 (by decide +kernel) rfl
theorem wd_79 : (Cond.instanceMethod ({ cls := "CountRounds", name := "count", desc := "(I)I" } : MethodName)) ∈ gw := gw_1 79 (by decide +kernel) rfl
theorem wd_80 : (Cond.selects "CountRounds" ({ cls := "CountRounds", name := "count", desc := "(I)I" } : MethodName) ({ cls := "CountRounds", name := "count", desc := "(I)I" } : MethodName)) ∈ gw := gw_1 80 (by decide +kernel) rfl
theorem wd_81 : (Cond.code ({ cls := "CountRounds", name := "count", desc := "(I)I" } : MethodName) prog_1_method_23_code 2 (Option.some FieldType.int)) ∈ gw := gw_1 81 rfl rfl
theorem wd_82 : (Cond.methodLink "CountRounds" 286 ({ cls := "CountRounds", name := "openMoves", desc := "()I" } : MethodName)) ∈ gw := gw_1 82 (by decide +kernel) rfl
theorem wd_84 : (Cond.instanceMethod ({ cls := "CountRounds", name := "openMoves", desc := "()I" } : MethodName)) ∈ gw := gw_1 84 (by decide +kernel) rfl
theorem wd_85 : (Cond.code ({ cls := "CountRounds", name := "openMoves", desc := "()I" } : MethodName) prog_1_method_33_code 3 (Option.some FieldType.int)) ∈ gw := gw_1 85 rfl rfl
theorem wd_86 : (Cond.methodLink "CountRounds" 127 ({ cls := "CountRounds", name := "transferNumbered", desc := "(I)LCountRounds$Transfer;" } : MethodName)) ∈ gw := gw_1 86 (by decide +kernel) rfl
theorem wd_88 : (Cond.instanceMethod ({ cls := "CountRounds", name := "transferNumbered", desc := "(I)LCountRounds$Transfer;" } : MethodName)) ∈ gw := gw_1 88 (by decide +kernel) rfl
theorem wd_89 : (Cond.code ({ cls := "CountRounds", name := "transferNumbered", desc := "(I)LCountRounds$Transfer;" } : MethodName) prog_1_method_31_code 3 (Option.some (FieldType.object "CountRounds$Transfer"))) ∈ gw := gw_1 89 rfl rfl
theorem wd_90 : (Cond.methodLink "CountRounds" 88 ({ cls := "CountRounds", name := "isWithin", desc := "(III)Z" } : MethodName)) ∈ gw := gw_1 90 (by decide +kernel) rfl
theorem wd_91 : (Cond.static ({ cls := "CountRounds", name := "isWithin", desc := "(III)Z" } : MethodName)) ∈ gw := gw_1 91 (by decide +kernel) rfl
theorem wd_92 : (Cond.code ({ cls := "CountRounds", name := "isWithin", desc := "(III)Z" } : MethodName) prog_1_method_24_code 3 (Option.some FieldType.boolean)) ∈ gw := gw_1 92 rfl rfl
theorem wd_93 : (Cond.classLink "CountRounds" 202 "java/util/NoSuchElementException") ∈ gw := gw_1 93 (by decide +kernel) rfl
theorem wd_94 : (Cond.instantiable "java/util/NoSuchElementException" 6) ∈ gw := gw_1 94 (by decide +kernel) rfl
theorem wd_102 : (Cond.selects "java/util/NoSuchElementException" ({ cls := "java/lang/Throwable", name := "fillInStackTrace", desc := "(I)Ljava/lang/Throwable;" } : MethodName) ({ cls := "java/lang/Throwable", name := "fillInStackTrace", desc := "(I)Ljava/lang/Throwable;" } : MethodName)) ∈ gw := gw_1 102 (by decide +kernel) rfl
theorem wd_103 : (Cond.selects "java/util/NoSuchElementException" ({ cls := "java/lang/Throwable", name := "fillInStackTrace", desc := "()Ljava/lang/Throwable;" } : MethodName) ({ cls := "java/lang/Throwable", name := "fillInStackTrace", desc := "()Ljava/lang/Throwable;" } : MethodName)) ∈ gw := gw_1 103 (by decide +kernel) rfl
theorem wd_104 : (Cond.lays "java/util/NoSuchElementException" "java/lang/Throwable" "cause" "Ljava/lang/Throwable;") ∈ gw := gw_1 104 (by decide +kernel) rfl
theorem wd_105 : (Cond.lays "java/lang/Throwable" "java/lang/Throwable" "cause" "Ljava/lang/Throwable;") ∈ gw := gw_1 105 (by decide +kernel) rfl
theorem wd_106 : (Cond.lays "java/util/NoSuchElementException" "java/lang/Throwable" "stackTrace" "[Ljava/lang/StackTraceElement;") ∈ gw := gw_1 106 (by decide +kernel) rfl
theorem wd_107 : (Cond.lays "java/lang/Throwable" "java/lang/Throwable" "stackTrace" "[Ljava/lang/StackTraceElement;") ∈ gw := gw_1 107 (by decide +kernel) rfl
theorem wd_108 : (Cond.lays "java/util/NoSuchElementException" "java/lang/Throwable" "suppressedExceptions" "Ljava/util/List;") ∈ gw := gw_1 108 (by decide +kernel) rfl
theorem wd_109 : (Cond.lays "java/lang/Throwable" "java/lang/Throwable" "suppressedExceptions" "Ljava/util/List;") ∈ gw := gw_1 109 (by decide +kernel) rfl
theorem wd_110 : (Cond.lays "java/util/NoSuchElementException" "java/lang/Throwable" "detailMessage" "Ljava/lang/String;") ∈ gw := gw_1 110 (by decide +kernel) rfl
theorem wd_111 : (Cond.lays "java/lang/Throwable" "java/lang/Throwable" "detailMessage" "Ljava/lang/String;") ∈ gw := gw_1 111 (by decide +kernel) rfl
theorem wd_112 : (Cond.lays "java/util/NoSuchElementException" "java/lang/Throwable" "backtrace" "Ljava/lang/Object;") ∈ gw := gw_1 112 (by decide +kernel) rfl
theorem wd_113 : (Cond.lays "java/lang/Throwable" "java/lang/Throwable" "backtrace" "Ljava/lang/Object;") ∈ gw := gw_1 113 (by decide +kernel) rfl
theorem wd_114 : (Cond.fieldLink "java/lang/Throwable" 198 "java/lang/Throwable" "backtrace" "Ljava/lang/Object;") ∈ gw := gw_1 114 (by decide +kernel) rfl
theorem wd_116 : (Cond.instanceMethod ({ cls := "java/lang/Throwable", name := "<init>", desc := "()V" } : MethodName)) ∈ gw := gw_1 116 (by decide +kernel) rfl
theorem wd_117 : (Cond.code ({ cls := "java/lang/Throwable", name := "<init>", desc := "()V" } : MethodName) prog_15_method_1_code 1 (Option.none : Option FieldType)) ∈ gw := gw_1 117 rfl rfl
theorem wd_118 : (Cond.methodLink "java/lang/Throwable" 1 ({ cls := "java/lang/Object", name := "<init>", desc := "()V" } : MethodName)) ∈ gw := gw_1 118 (by decide +kernel) rfl
theorem wd_119 : (Cond.fieldLink "java/lang/Throwable" 13 "java/lang/Throwable" "UNASSIGNED_STACK" "[Ljava/lang/StackTraceElement;") ∈ gw := gw_1 119 (by decide +kernel) rfl
theorem wd_121 : (Cond.fieldLink "java/lang/Throwable" 20 "java/lang/Throwable" "SUPPRESSED_SENTINEL" "Ljava/util/List;") ∈ gw := gw_1 121 (by decide +kernel) rfl
theorem wd_123 : (Cond.methodLink "java/lang/Throwable" 27 ({ cls := "java/lang/Throwable", name := "fillInStackTrace", desc := "()Ljava/lang/Throwable;" } : MethodName)) ∈ gw := gw_1 123 (by decide +kernel) rfl
theorem wd_124 : (Cond.instanceMethod ({ cls := "java/lang/Throwable", name := "fillInStackTrace", desc := "()Ljava/lang/Throwable;" } : MethodName)) ∈ gw := gw_1 124 (by decide +kernel) rfl
theorem wd_125 : (Cond.sameMethod "java/lang/Throwable" "java/lang/Throwable" "fillInStackTrace" "()Ljava/lang/Throwable;") ∈ gw := gw_1 125 (by decide +kernel) rfl
theorem wd_126 : (Cond.selects "java/lang/ArithmeticException" ({ cls := "java/lang/Throwable", name := "fillInStackTrace", desc := "()Ljava/lang/Throwable;" } : MethodName) ({ cls := "java/lang/Throwable", name := "fillInStackTrace", desc := "()Ljava/lang/Throwable;" } : MethodName)) ∈ gw := gw_1 126 (by decide +kernel) rfl
theorem wd_127 : (Cond.selects "java/lang/IllegalArgumentException" ({ cls := "java/lang/Throwable", name := "fillInStackTrace", desc := "()Ljava/lang/Throwable;" } : MethodName) ({ cls := "java/lang/Throwable", name := "fillInStackTrace", desc := "()Ljava/lang/Throwable;" } : MethodName)) ∈ gw := gw_1 127 (by decide +kernel) rfl
theorem wd_128 : (Cond.selects "java/lang/IllegalStateException" ({ cls := "java/lang/Throwable", name := "fillInStackTrace", desc := "()Ljava/lang/Throwable;" } : MethodName) ({ cls := "java/lang/Throwable", name := "fillInStackTrace", desc := "()Ljava/lang/Throwable;" } : MethodName)) ∈ gw := gw_1 128 (by decide +kernel) rfl
theorem wd_129 : (Cond.selects "java/lang/UnsupportedOperationException" ({ cls := "java/lang/Throwable", name := "fillInStackTrace", desc := "()Ljava/lang/Throwable;" } : MethodName) ({ cls := "java/lang/Throwable", name := "fillInStackTrace", desc := "()Ljava/lang/Throwable;" } : MethodName)) ∈ gw := gw_1 129 (by decide +kernel) rfl
theorem wd_130 : (Cond.codeSync ({ cls := "java/lang/Throwable", name := "fillInStackTrace", desc := "()Ljava/lang/Throwable;" } : MethodName) prog_15_method_18_code 1 (Option.some (FieldType.object "java/lang/Throwable"))) ∈ gw := gw_1 130 rfl rfl
theorem wd_131 : (Cond.methodLink "java/lang/Throwable" 202 ({ cls := "java/lang/Throwable", name := "fillInStackTrace", desc := "(I)Ljava/lang/Throwable;" } : MethodName)) ∈ gw := gw_1 131 (by decide +kernel) rfl
theorem wd_133 : (Cond.instanceMethod ({ cls := "java/lang/Throwable", name := "fillInStackTrace", desc := "(I)Ljava/lang/Throwable;" } : MethodName)) ∈ gw := gw_1 133 (by decide +kernel) rfl
theorem wd_134 : (Cond.instantiable "java/lang/Throwable" 6) ∈ gw := gw_1 134 (by decide +kernel) rfl
theorem wd_135 : (Cond.native ({ cls := "java/lang/Throwable", name := "fillInStackTrace", desc := "(I)Ljava/lang/Throwable;" } : MethodName)) ∈ gw := gw_1 135 (by decide +kernel) rfl
theorem wd_137 : (Cond.methodLink "CountRounds" 206 ({ cls := "java/util/NoSuchElementException", name := "<init>", desc := "(Ljava/lang/String;)V" } : MethodName)) ∈ gw := gw_1 137 (by decide +kernel) rfl
theorem wd_138 : (Cond.instanceMethod ({ cls := "java/util/NoSuchElementException", name := "<init>", desc := "(Ljava/lang/String;)V" } : MethodName)) ∈ gw := gw_1 138 (by decide +kernel) rfl
theorem wd_139 : (Cond.code ({ cls := "java/util/NoSuchElementException", name := "<init>", desc := "(Ljava/lang/String;)V" } : MethodName) prog_18_method_4_code 2 (Option.none : Option FieldType)) ∈ gw := gw_1 139 rfl rfl
theorem wd_140 : (Cond.methodLink "java/util/NoSuchElementException" 13 ({ cls := "java/lang/RuntimeException", name := "<init>", desc := "(Ljava/lang/String;)V" } : MethodName)) ∈ gw := gw_1 140 (by decide +kernel) rfl
theorem wd_141 : (Cond.instanceMethod ({ cls := "java/lang/RuntimeException", name := "<init>", desc := "(Ljava/lang/String;)V" } : MethodName)) ∈ gw := gw_1 141 (by decide +kernel) rfl
theorem wd_142 : (Cond.code ({ cls := "java/lang/RuntimeException", name := "<init>", desc := "(Ljava/lang/String;)V" } : MethodName) prog_12_method_2_code 2 (Option.none : Option FieldType)) ∈ gw := gw_1 142 rfl rfl
theorem wd_143 : (Cond.methodLink "java/lang/RuntimeException" 7 ({ cls := "java/lang/Exception", name := "<init>", desc := "(Ljava/lang/String;)V" } : MethodName)) ∈ gw := gw_1 143 (by decide +kernel) rfl
theorem wd_144 : (Cond.instanceMethod ({ cls := "java/lang/Exception", name := "<init>", desc := "(Ljava/lang/String;)V" } : MethodName)) ∈ gw := gw_1 144 (by decide +kernel) rfl
theorem wd_145 : (Cond.code ({ cls := "java/lang/Exception", name := "<init>", desc := "(Ljava/lang/String;)V" } : MethodName) prog_8_method_2_code 2 (Option.none : Option FieldType)) ∈ gw := gw_1 145 rfl rfl
theorem wd_146 : (Cond.methodLink "java/lang/Exception" 7 ({ cls := "java/lang/Throwable", name := "<init>", desc := "(Ljava/lang/String;)V" } : MethodName)) ∈ gw := gw_1 146 (by decide +kernel) rfl
theorem wd_147 : (Cond.instanceMethod ({ cls := "java/lang/Throwable", name := "<init>", desc := "(Ljava/lang/String;)V" } : MethodName)) ∈ gw := gw_1 147 (by decide +kernel) rfl
theorem wd_148 : (Cond.code ({ cls := "java/lang/Throwable", name := "<init>", desc := "(Ljava/lang/String;)V" } : MethodName) prog_15_method_2_code 2 (Option.none : Option FieldType)) ∈ gw := gw_1 148 rfl rfl
theorem wd_149 : (Cond.fieldLink "java/lang/Throwable" 198 "java/lang/Throwable" "backtrace" "Ljava/lang/Object;") ∈ gw := gw_1 149 (by decide +kernel) rfl
theorem wd_150 : (Cond.fieldLink "java/lang/Throwable" 31 "java/lang/Throwable" "detailMessage" "Ljava/lang/String;") ∈ gw := gw_1 150 (by decide +kernel) rfl
theorem wd_151 : (Cond.fieldLink "java/lang/Throwable" 7 "java/lang/Throwable" "cause" "Ljava/lang/Throwable;") ∈ gw := gw_1 151 (by decide +kernel) rfl
theorem wd_152 : (Cond.fieldLink "java/lang/Throwable" 17 "java/lang/Throwable" "stackTrace" "[Ljava/lang/StackTraceElement;") ∈ gw := gw_1 152 (by decide +kernel) rfl
theorem wd_153 : (Cond.fieldLink "java/lang/Throwable" 24 "java/lang/Throwable" "suppressedExceptions" "Ljava/util/List;") ∈ gw := gw_1 153 (by decide +kernel) rfl
theorem wd_158 : (Cond.lays "java/util/NoSuchElementException" "java/lang/Throwable" "depth" "I") ∈ gw := gw_1 158 (by decide +kernel) rfl
theorem wd_162 : (Cond.arrayClass FieldType.byte) ∈ gw := gw_1 162 (by decide +kernel) rfl
theorem wd_163 : (Cond.methodLink "CountRoundsLaw" 96 ({ cls := "CountRoundsLaw", name := "place", desc := "(LCountRounds;I[J)I" } : MethodName)) ∈ gw := gw_1 163 (by decide +kernel) rfl
theorem wd_164 : (Cond.static ({ cls := "CountRoundsLaw", name := "place", desc := "(LCountRounds;I[J)I" } : MethodName)) ∈ gw := gw_1 164 (by decide +kernel) rfl
theorem wd_165 : (Cond.codeWith ({ cls := "CountRoundsLaw", name := "place", desc := "(LCountRounds;I[J)I" } : MethodName) method_3_code 4 (Option.some FieldType.int) [(0, 9, 12, 13), (0, 9, 15, 15)]) ∈ gw := gw_1 165 rfl rfl
theorem wd_166 : (Cond.classLink "CountRoundsLaw" 13 "java/lang/IllegalArgumentException") ∈ gw := gw_1 166 (by decide +kernel) rfl
theorem wd_167 : (Cond.classLink "CountRoundsLaw" 15 "java/lang/UnsupportedOperationException") ∈ gw := gw_1 167 (by decide +kernel) rfl
theorem wd_168 : (Cond.methodLink "CountRoundsLaw" 7 ({ cls := "CountRounds", name := "place", desc := "(I)I" } : MethodName)) ∈ gw := gw_1 168 (by decide +kernel) rfl
theorem wd_169 : (Cond.instanceMethod ({ cls := "CountRounds", name := "place", desc := "(I)I" } : MethodName)) ∈ gw := gw_1 169 (by decide +kernel) rfl
theorem wd_170 : (Cond.selects "CountRounds" ({ cls := "CountRounds", name := "place", desc := "(I)I" } : MethodName) ({ cls := "CountRounds", name := "place", desc := "(I)I" } : MethodName)) ∈ gw := gw_1 170 (by decide +kernel) rfl
theorem wd_171 : (Cond.code ({ cls := "CountRounds", name := "place", desc := "(I)I" } : MethodName) prog_1_method_2_code 3 (Option.some FieldType.int)) ∈ gw := gw_1 171 rfl rfl
theorem wd_172 : (Cond.methodLink "CountRounds" 50 ({ cls := "CountRounds", name := "isKind", desc := "(I)Z" } : MethodName)) ∈ gw := gw_1 172 (by decide +kernel) rfl
theorem wd_173 : (Cond.static ({ cls := "CountRounds", name := "isKind", desc := "(I)Z" } : MethodName)) ∈ gw := gw_1 173 (by decide +kernel) rfl
theorem wd_174 : (Cond.code ({ cls := "CountRounds", name := "isKind", desc := "(I)Z" } : MethodName) prog_1_method_25_code 1 (Option.some FieldType.boolean)) ∈ gw := gw_1 174 rfl rfl
theorem wd_175 : (Cond.classLink "CountRounds" 54 "java/lang/IllegalArgumentException") ∈ gw := gw_1 175 (by decide +kernel) rfl
theorem wd_176 : (Cond.instantiable "java/lang/IllegalArgumentException" 6) ∈ gw := gw_1 176 (by decide +kernel) rfl
theorem wd_178 : (Cond.selects "java/lang/IllegalArgumentException" ({ cls := "java/lang/Throwable", name := "fillInStackTrace", desc := "(I)Ljava/lang/Throwable;" } : MethodName) ({ cls := "java/lang/Throwable", name := "fillInStackTrace", desc := "(I)Ljava/lang/Throwable;" } : MethodName)) ∈ gw := gw_1 178 (by decide +kernel) rfl
theorem wd_179 : (Cond.lays "java/lang/IllegalArgumentException" "java/lang/Throwable" "cause" "Ljava/lang/Throwable;") ∈ gw := gw_1 179 (by decide +kernel) rfl
theorem wd_180 : (Cond.lays "java/lang/IllegalArgumentException" "java/lang/Throwable" "stackTrace" "[Ljava/lang/StackTraceElement;") ∈ gw := gw_1 180 (by decide +kernel) rfl
theorem wd_181 : (Cond.lays "java/lang/IllegalArgumentException" "java/lang/Throwable" "suppressedExceptions" "Ljava/util/List;") ∈ gw := gw_1 181 (by decide +kernel) rfl
theorem wd_182 : (Cond.lays "java/lang/IllegalArgumentException" "java/lang/Throwable" "detailMessage" "Ljava/lang/String;") ∈ gw := gw_1 182 (by decide +kernel) rfl
theorem wd_183 : (Cond.lays "java/lang/IllegalArgumentException" "java/lang/Throwable" "backtrace" "Ljava/lang/Object;") ∈ gw := gw_1 183 (by decide +kernel) rfl
theorem wd_185 : (Cond.methodLink "CountRounds" 58 ({ cls := "java/lang/IllegalArgumentException", name := "<init>", desc := "(Ljava/lang/String;)V" } : MethodName)) ∈ gw := gw_1 185 (by decide +kernel) rfl
theorem wd_186 : (Cond.instanceMethod ({ cls := "java/lang/IllegalArgumentException", name := "<init>", desc := "(Ljava/lang/String;)V" } : MethodName)) ∈ gw := gw_1 186 (by decide +kernel) rfl
theorem wd_187 : (Cond.code ({ cls := "java/lang/IllegalArgumentException", name := "<init>", desc := "(Ljava/lang/String;)V" } : MethodName) prog_9_method_2_code 2 (Option.none : Option FieldType)) ∈ gw := gw_1 187 rfl rfl
theorem wd_188 : (Cond.methodLink "java/lang/IllegalArgumentException" 7 ({ cls := "java/lang/RuntimeException", name := "<init>", desc := "(Ljava/lang/String;)V" } : MethodName)) ∈ gw := gw_1 188 (by decide +kernel) rfl
theorem wd_189 : (Cond.lays "java/lang/IllegalArgumentException" "java/lang/Throwable" "depth" "I") ∈ gw := gw_1 189 (by decide +kernel) rfl
theorem wd_191 : (Cond.classLink "CountRounds" 65 "java/lang/UnsupportedOperationException") ∈ gw := gw_1 191 (by decide +kernel) rfl
theorem wd_192 : (Cond.instantiable "java/lang/UnsupportedOperationException" 6) ∈ gw := gw_1 192 (by decide +kernel) rfl
theorem wd_194 : (Cond.selects "java/lang/UnsupportedOperationException" ({ cls := "java/lang/Throwable", name := "fillInStackTrace", desc := "(I)Ljava/lang/Throwable;" } : MethodName) ({ cls := "java/lang/Throwable", name := "fillInStackTrace", desc := "(I)Ljava/lang/Throwable;" } : MethodName)) ∈ gw := gw_1 194 (by decide +kernel) rfl
theorem wd_195 : (Cond.lays "java/lang/UnsupportedOperationException" "java/lang/Throwable" "cause" "Ljava/lang/Throwable;") ∈ gw := gw_1 195 (by decide +kernel) rfl
theorem wd_196 : (Cond.lays "java/lang/UnsupportedOperationException" "java/lang/Throwable" "stackTrace" "[Ljava/lang/StackTraceElement;") ∈ gw := gw_1 196 (by decide +kernel) rfl
theorem wd_197 : (Cond.lays "java/lang/UnsupportedOperationException" "java/lang/Throwable" "suppressedExceptions" "Ljava/util/List;") ∈ gw := gw_1 197 (by decide +kernel) rfl
theorem wd_198 : (Cond.lays "java/lang/UnsupportedOperationException" "java/lang/Throwable" "detailMessage" "Ljava/lang/String;") ∈ gw := gw_1 198 (by decide +kernel) rfl
theorem wd_199 : (Cond.lays "java/lang/UnsupportedOperationException" "java/lang/Throwable" "backtrace" "Ljava/lang/Object;") ∈ gw := gw_1 199 (by decide +kernel) rfl
theorem wd_201 : (Cond.methodLink "CountRounds" 69 ({ cls := "java/lang/UnsupportedOperationException", name := "<init>", desc := "(Ljava/lang/String;)V" } : MethodName)) ∈ gw := gw_1 201 (by decide +kernel) rfl
theorem wd_202 : (Cond.instanceMethod ({ cls := "java/lang/UnsupportedOperationException", name := "<init>", desc := "(Ljava/lang/String;)V" } : MethodName)) ∈ gw := gw_1 202 (by decide +kernel) rfl
theorem wd_203 : (Cond.code ({ cls := "java/lang/UnsupportedOperationException", name := "<init>", desc := "(Ljava/lang/String;)V" } : MethodName) prog_16_method_2_code 2 (Option.none : Option FieldType)) ∈ gw := gw_1 203 rfl rfl
theorem wd_204 : (Cond.methodLink "java/lang/UnsupportedOperationException" 7 ({ cls := "java/lang/RuntimeException", name := "<init>", desc := "(Ljava/lang/String;)V" } : MethodName)) ∈ gw := gw_1 204 (by decide +kernel) rfl
theorem wd_205 : (Cond.lays "java/lang/UnsupportedOperationException" "java/lang/Throwable" "depth" "I") ∈ gw := gw_1 205 (by decide +kernel) rfl
theorem wd_207 : (Cond.instantiable "CountRounds$Place" 4) ∈ gw := gw_1 207 (by decide +kernel) rfl
theorem wd_209 : (Cond.instanceMethod ({ cls := "CountRounds$Place", name := "<init>", desc := "(I)V" } : MethodName)) ∈ gw := gw_1 209 (by decide +kernel) rfl
theorem wd_210 : (Cond.code ({ cls := "CountRounds$Place", name := "<init>", desc := "(I)V" } : MethodName) prog_2_method_1_code 2 (Option.none : Option FieldType)) ∈ gw := gw_1 210 rfl rfl
theorem wd_211 : (Cond.methodLink "CountRounds$Place" 3 ({ cls := "java/lang/Object", name := "<init>", desc := "()V" } : MethodName)) ∈ gw := gw_1 211 (by decide +kernel) rfl
theorem wd_212 : (Cond.fieldLink "CountRounds$Place" 19 "CountRounds$Place" "kind" "I") ∈ gw := gw_1 212 (by decide +kernel) rfl
theorem wd_214 : (Cond.fieldLink "CountRounds$Place" 9 "CountRounds$Place" "pieces" "[I") ∈ gw := gw_1 214 (by decide +kernel) rfl
theorem wd_216 : (Cond.fieldLink "CountRounds$Place" 15 "CountRounds$Place" "countedOn" "I") ∈ gw := gw_1 216 (by decide +kernel) rfl
theorem wd_219 : (Cond.laysFinal "CountRounds$Place" "CountRounds$Place" "kind" "I") ∈ gw := gw_1 219 (by decide +kernel) rfl
theorem wd_221 : (Cond.laysFinal "CountRounds$Place" "CountRounds$Place" "pieces" "[I") ∈ gw := gw_1 221 (by decide +kernel) rfl
theorem wd_223 : (Cond.lays "CountRounds$Place" "CountRounds$Place" "countedOn" "I") ∈ gw := gw_1 223 (by decide +kernel) rfl
theorem wd_225 : (Cond.lays "CountRounds$Place" "CountRounds$Place" "taken" "Z") ∈ gw := gw_1 225 (by decide +kernel) rfl
theorem wd_228 : (Cond.methodLink "CountRoundsLaw" 106 ({ cls := "CountRoundsLaw", name := "stock", desc := "(LCountRounds;III)I" } : MethodName)) ∈ gw := gw_1 228 (by decide +kernel) rfl
theorem wd_229 : (Cond.static ({ cls := "CountRoundsLaw", name := "stock", desc := "(LCountRounds;III)I" } : MethodName)) ∈ gw := gw_1 229 (by decide +kernel) rfl
theorem wd_230 : (Cond.codeWith ({ cls := "CountRoundsLaw", name := "stock", desc := "(LCountRounds;III)I" } : MethodName) method_4_code 5 (Option.some FieldType.int) [(0, 7, 10, 21), (0, 7, 14, 13)]) ∈ gw := gw_1 230 rfl rfl
theorem wd_231 : (Cond.classLink "CountRoundsLaw" 21 "java/util/NoSuchElementException") ∈ gw := gw_1 231 (by decide +kernel) rfl
theorem wd_232 : (Cond.methodLink "CountRoundsLaw" 17 ({ cls := "CountRounds", name := "stock", desc := "(III)V" } : MethodName)) ∈ gw := gw_1 232 (by decide +kernel) rfl
theorem wd_233 : (Cond.instanceMethod ({ cls := "CountRounds", name := "stock", desc := "(III)V" } : MethodName)) ∈ gw := gw_1 233 (by decide +kernel) rfl
theorem wd_234 : (Cond.selects "CountRounds" ({ cls := "CountRounds", name := "stock", desc := "(III)V" } : MethodName) ({ cls := "CountRounds", name := "stock", desc := "(III)V" } : MethodName)) ∈ gw := gw_1 234 (by decide +kernel) rfl
theorem wd_235 : (Cond.code ({ cls := "CountRounds", name := "stock", desc := "(III)V" } : MethodName) prog_1_method_3_code 5 (Option.none : Option FieldType)) ∈ gw := gw_1 235 rfl rfl
theorem wd_236 : (Cond.methodLink "CountRounds" 73 ({ cls := "CountRounds", name := "placeNumbered", desc := "(I)LCountRounds$Place;" } : MethodName)) ∈ gw := gw_1 236 (by decide +kernel) rfl
theorem wd_238 : (Cond.instanceMethod ({ cls := "CountRounds", name := "placeNumbered", desc := "(I)LCountRounds$Place;" } : MethodName)) ∈ gw := gw_1 238 (by decide +kernel) rfl
theorem wd_239 : (Cond.code ({ cls := "CountRounds", name := "placeNumbered", desc := "(I)LCountRounds$Place;" } : MethodName) prog_1_method_30_code 3 (Option.some (FieldType.object "CountRounds$Place"))) ∈ gw := gw_1 239 rfl rfl
theorem wd_241 : (Cond.methodLink "CountRounds" 77 ({ cls := "CountRounds", name := "isGood", desc := "(I)Z" } : MethodName)) ∈ gw := gw_2 1 (by decide +kernel) rfl
theorem wd_242 : (Cond.static ({ cls := "CountRounds", name := "isGood", desc := "(I)Z" } : MethodName)) ∈ gw := gw_2 2 (by decide +kernel) rfl
theorem wd_243 : (Cond.code ({ cls := "CountRounds", name := "isGood", desc := "(I)Z" } : MethodName) prog_1_method_26_code 1 (Option.some FieldType.boolean)) ∈ gw := gw_2 3 rfl rfl
theorem wd_244 : (Cond.methodLink "CountRounds" 80 ({ cls := "CountRounds", name := "isPieces", desc := "(I)Z" } : MethodName)) ∈ gw := gw_2 4 (by decide +kernel) rfl
theorem wd_245 : (Cond.static ({ cls := "CountRounds", name := "isPieces", desc := "(I)Z" } : MethodName)) ∈ gw := gw_2 5 (by decide +kernel) rfl
theorem wd_246 : (Cond.code ({ cls := "CountRounds", name := "isPieces", desc := "(I)Z" } : MethodName) prog_1_method_28_code 1 (Option.some FieldType.boolean)) ∈ gw := gw_2 6 rfl rfl
theorem wd_247 : (Cond.constant "CountRounds" 114 (1000000 : Int32)) ∈ gw := gw_2 7 (by decide +kernel) rfl
theorem wd_249 : (Cond.methodLink "CountRoundsLaw" 110 ({ cls := "CountRoundsLaw", name := "cycle", desc := "(LCountRounds;III)I" } : MethodName)) ∈ gw := gw_2 9 (by decide +kernel) rfl
theorem wd_250 : (Cond.static ({ cls := "CountRoundsLaw", name := "cycle", desc := "(LCountRounds;III)I" } : MethodName)) ∈ gw := gw_2 10 (by decide +kernel) rfl
theorem wd_251 : (Cond.codeWith ({ cls := "CountRoundsLaw", name := "cycle", desc := "(LCountRounds;III)I" } : MethodName) method_5_code 5 (Option.some FieldType.int) [(0, 7, 10, 13)]) ∈ gw := gw_2 11 rfl rfl
theorem wd_252 : (Cond.methodLink "CountRoundsLaw" 23 ({ cls := "CountRounds", name := "cycle", desc := "(III)V" } : MethodName)) ∈ gw := gw_2 12 (by decide +kernel) rfl
theorem wd_253 : (Cond.instanceMethod ({ cls := "CountRounds", name := "cycle", desc := "(III)V" } : MethodName)) ∈ gw := gw_2 13 (by decide +kernel) rfl
theorem wd_254 : (Cond.selects "CountRounds" ({ cls := "CountRounds", name := "cycle", desc := "(III)V" } : MethodName) ({ cls := "CountRounds", name := "cycle", desc := "(III)V" } : MethodName)) ∈ gw := gw_2 14 (by decide +kernel) rfl
theorem wd_255 : (Cond.code ({ cls := "CountRounds", name := "cycle", desc := "(III)V" } : MethodName) prog_1_method_4_code 4 (Option.none : Option FieldType)) ∈ gw := gw_2 15 rfl rfl
theorem wd_257 : (Cond.methodLink "CountRoundsLaw" 113 ({ cls := "CountRoundsLaw", name := "right", desc := "(LCountRounds;II)I" } : MethodName)) ∈ gw := gw_2 17 (by decide +kernel) rfl
theorem wd_258 : (Cond.static ({ cls := "CountRoundsLaw", name := "right", desc := "(LCountRounds;II)I" } : MethodName)) ∈ gw := gw_2 18 (by decide +kernel) rfl
theorem wd_259 : (Cond.codeWith ({ cls := "CountRoundsLaw", name := "right", desc := "(LCountRounds;II)I" } : MethodName) method_6_code 4 (Option.some FieldType.int) [(0, 6, 9, 13)]) ∈ gw := gw_2 19 rfl rfl
theorem wd_260 : (Cond.methodLink "CountRoundsLaw" 26 ({ cls := "CountRounds", name := "right", desc := "(II)V" } : MethodName)) ∈ gw := gw_2 20 (by decide +kernel) rfl
theorem wd_261 : (Cond.instanceMethod ({ cls := "CountRounds", name := "right", desc := "(II)V" } : MethodName)) ∈ gw := gw_2 21 (by decide +kernel) rfl
theorem wd_262 : (Cond.selects "CountRounds" ({ cls := "CountRounds", name := "right", desc := "(II)V" } : MethodName) ({ cls := "CountRounds", name := "right", desc := "(II)V" } : MethodName)) ∈ gw := gw_2 22 (by decide +kernel) rfl
theorem wd_263 : (Cond.code ({ cls := "CountRounds", name := "right", desc := "(II)V" } : MethodName) prog_1_method_5_code 3 (Option.none : Option FieldType)) ∈ gw := gw_2 23 rfl rfl
theorem wd_264 : (Cond.methodLink "CountRounds" 94 ({ cls := "CountRounds", name := "isPerson", desc := "(I)Z" } : MethodName)) ∈ gw := gw_2 24 (by decide +kernel) rfl
theorem wd_265 : (Cond.static ({ cls := "CountRounds", name := "isPerson", desc := "(I)Z" } : MethodName)) ∈ gw := gw_2 25 (by decide +kernel) rfl
theorem wd_266 : (Cond.code ({ cls := "CountRounds", name := "isPerson", desc := "(I)Z" } : MethodName) prog_1_method_27_code 1 (Option.some FieldType.boolean)) ∈ gw := gw_2 26 rfl rfl
theorem wd_268 : (Cond.methodLink "CountRoundsLaw" 117 ({ cls := "CountRoundsLaw", name := "setting", desc := "(LCountRounds;I)I" } : MethodName)) ∈ gw := gw_2 28 (by decide +kernel) rfl
theorem wd_269 : (Cond.static ({ cls := "CountRoundsLaw", name := "setting", desc := "(LCountRounds;I)I" } : MethodName)) ∈ gw := gw_2 29 (by decide +kernel) rfl
theorem wd_270 : (Cond.codeWith ({ cls := "CountRoundsLaw", name := "setting", desc := "(LCountRounds;I)I" } : MethodName) method_7_code 3 (Option.some FieldType.int) [(0, 5, 8, 13)]) ∈ gw := gw_2 30 rfl rfl
theorem wd_271 : (Cond.methodLink "CountRoundsLaw" 30 ({ cls := "CountRounds", name := "setting", desc := "(I)V" } : MethodName)) ∈ gw := gw_2 31 (by decide +kernel) rfl
theorem wd_272 : (Cond.instanceMethod ({ cls := "CountRounds", name := "setting", desc := "(I)V" } : MethodName)) ∈ gw := gw_2 32 (by decide +kernel) rfl
theorem wd_273 : (Cond.selects "CountRounds" ({ cls := "CountRounds", name := "setting", desc := "(I)V" } : MethodName) ({ cls := "CountRounds", name := "setting", desc := "(I)V" } : MethodName)) ∈ gw := gw_2 33 (by decide +kernel) rfl
theorem wd_274 : (Cond.code ({ cls := "CountRounds", name := "setting", desc := "(I)V" } : MethodName) prog_1_method_6_code 2 (Option.none : Option FieldType)) ∈ gw := gw_2 34 rfl rfl
theorem wd_276 : (Cond.methodLink "CountRoundsLaw" 121 ({ cls := "CountRoundsLaw", name := "day", desc := "(LCountRounds;I)I" } : MethodName)) ∈ gw := gw_2 36 (by decide +kernel) rfl
theorem wd_277 : (Cond.static ({ cls := "CountRoundsLaw", name := "day", desc := "(LCountRounds;I)I" } : MethodName)) ∈ gw := gw_2 37 (by decide +kernel) rfl
theorem wd_278 : (Cond.codeWith ({ cls := "CountRoundsLaw", name := "day", desc := "(LCountRounds;I)I" } : MethodName) method_8_code 3 (Option.some FieldType.int) [(0, 5, 8, 13), (0, 5, 11, 37)]) ∈ gw := gw_2 38 rfl rfl
theorem wd_279 : (Cond.classLink "CountRoundsLaw" 37 "java/lang/IllegalStateException") ∈ gw := gw_2 39 (by decide +kernel) rfl
theorem wd_280 : (Cond.methodLink "CountRoundsLaw" 34 ({ cls := "CountRounds", name := "day", desc := "(I)V" } : MethodName)) ∈ gw := gw_2 40 (by decide +kernel) rfl
theorem wd_281 : (Cond.instanceMethod ({ cls := "CountRounds", name := "day", desc := "(I)V" } : MethodName)) ∈ gw := gw_2 41 (by decide +kernel) rfl
theorem wd_282 : (Cond.selects "CountRounds" ({ cls := "CountRounds", name := "day", desc := "(I)V" } : MethodName) ({ cls := "CountRounds", name := "day", desc := "(I)V" } : MethodName)) ∈ gw := gw_2 42 (by decide +kernel) rfl
theorem wd_283 : (Cond.code ({ cls := "CountRounds", name := "day", desc := "(I)V" } : MethodName) prog_1_method_7_code 2 (Option.none : Option FieldType)) ∈ gw := gw_2 43 rfl rfl
theorem wd_284 : (Cond.methodLink "CountRounds" 101 ({ cls := "CountRounds", name := "isDay", desc := "(I)Z" } : MethodName)) ∈ gw := gw_2 44 (by decide +kernel) rfl
theorem wd_285 : (Cond.static ({ cls := "CountRounds", name := "isDay", desc := "(I)Z" } : MethodName)) ∈ gw := gw_2 45 (by decide +kernel) rfl
theorem wd_286 : (Cond.code ({ cls := "CountRounds", name := "isDay", desc := "(I)Z" } : MethodName) prog_1_method_29_code 1 (Option.some FieldType.boolean)) ∈ gw := gw_2 46 rfl rfl
theorem wd_288 : (Cond.classLink "CountRounds" 109 "java/lang/IllegalStateException") ∈ gw := gw_2 48 (by decide +kernel) rfl
theorem wd_289 : (Cond.instantiable "java/lang/IllegalStateException" 6) ∈ gw := gw_2 49 (by decide +kernel) rfl
theorem wd_291 : (Cond.selects "java/lang/IllegalStateException" ({ cls := "java/lang/Throwable", name := "fillInStackTrace", desc := "(I)Ljava/lang/Throwable;" } : MethodName) ({ cls := "java/lang/Throwable", name := "fillInStackTrace", desc := "(I)Ljava/lang/Throwable;" } : MethodName)) ∈ gw := gw_2 51 (by decide +kernel) rfl
theorem wd_292 : (Cond.lays "java/lang/IllegalStateException" "java/lang/Throwable" "cause" "Ljava/lang/Throwable;") ∈ gw := gw_2 52 (by decide +kernel) rfl
theorem wd_293 : (Cond.lays "java/lang/IllegalStateException" "java/lang/Throwable" "stackTrace" "[Ljava/lang/StackTraceElement;") ∈ gw := gw_2 53 (by decide +kernel) rfl
theorem wd_294 : (Cond.lays "java/lang/IllegalStateException" "java/lang/Throwable" "suppressedExceptions" "Ljava/util/List;") ∈ gw := gw_2 54 (by decide +kernel) rfl
theorem wd_295 : (Cond.lays "java/lang/IllegalStateException" "java/lang/Throwable" "detailMessage" "Ljava/lang/String;") ∈ gw := gw_2 55 (by decide +kernel) rfl
theorem wd_296 : (Cond.lays "java/lang/IllegalStateException" "java/lang/Throwable" "backtrace" "Ljava/lang/Object;") ∈ gw := gw_2 56 (by decide +kernel) rfl
theorem wd_298 : (Cond.methodLink "CountRounds" 113 ({ cls := "java/lang/IllegalStateException", name := "<init>", desc := "(Ljava/lang/String;)V" } : MethodName)) ∈ gw := gw_2 58 (by decide +kernel) rfl
theorem wd_299 : (Cond.instanceMethod ({ cls := "java/lang/IllegalStateException", name := "<init>", desc := "(Ljava/lang/String;)V" } : MethodName)) ∈ gw := gw_2 59 (by decide +kernel) rfl
theorem wd_300 : (Cond.code ({ cls := "java/lang/IllegalStateException", name := "<init>", desc := "(Ljava/lang/String;)V" } : MethodName) prog_10_method_2_code 2 (Option.none : Option FieldType)) ∈ gw := gw_2 60 rfl rfl
theorem wd_301 : (Cond.methodLink "java/lang/IllegalStateException" 7 ({ cls := "java/lang/RuntimeException", name := "<init>", desc := "(Ljava/lang/String;)V" } : MethodName)) ∈ gw := gw_2 61 (by decide +kernel) rfl
theorem wd_302 : (Cond.lays "java/lang/IllegalStateException" "java/lang/Throwable" "depth" "I") ∈ gw := gw_2 62 (by decide +kernel) rfl
theorem wd_304 : (Cond.methodLink "CountRoundsLaw" 124 ({ cls := "CountRoundsLaw", name := "move", desc := "(LCountRounds;IIII[J)I" } : MethodName)) ∈ gw := gw_2 64 (by decide +kernel) rfl
theorem wd_305 : (Cond.static ({ cls := "CountRoundsLaw", name := "move", desc := "(LCountRounds;IIII[J)I" } : MethodName)) ∈ gw := gw_2 65 (by decide +kernel) rfl
theorem wd_306 : (Cond.codeWith ({ cls := "CountRoundsLaw", name := "move", desc := "(LCountRounds;IIII[J)I" } : MethodName) method_9_code 7 (Option.some FieldType.int) [(0, 14, 17, 21), (0, 14, 21, 13), (0, 14, 25, 37), (0, 14, 29, 15)]) ∈ gw := gw_2 66 rfl rfl
theorem wd_307 : (Cond.methodLink "CountRoundsLaw" 39 ({ cls := "CountRounds", name := "move", desc := "(IIII)I" } : MethodName)) ∈ gw := gw_2 67 (by decide +kernel) rfl
theorem wd_308 : (Cond.instanceMethod ({ cls := "CountRounds", name := "move", desc := "(IIII)I" } : MethodName)) ∈ gw := gw_2 68 (by decide +kernel) rfl
theorem wd_309 : (Cond.selects "CountRounds" ({ cls := "CountRounds", name := "move", desc := "(IIII)I" } : MethodName) ({ cls := "CountRounds", name := "move", desc := "(IIII)I" } : MethodName)) ∈ gw := gw_2 69 (by decide +kernel) rfl
theorem wd_310 : (Cond.code ({ cls := "CountRounds", name := "move", desc := "(IIII)I" } : MethodName) prog_1_method_8_code 6 (Option.some FieldType.int)) ∈ gw := gw_2 70 rfl rfl
theorem wd_314 : (Cond.instantiable "CountRounds$Transfer" 5) ∈ gw := gw_2 74 (by decide +kernel) rfl
theorem wd_316 : (Cond.instanceMethod ({ cls := "CountRounds$Transfer", name := "<init>", desc := "(IIII)V" } : MethodName)) ∈ gw := gw_2 76 (by decide +kernel) rfl
theorem wd_317 : (Cond.code ({ cls := "CountRounds$Transfer", name := "<init>", desc := "(IIII)V" } : MethodName) prog_4_method_1_code 5 (Option.none : Option FieldType)) ∈ gw := gw_2 77 rfl rfl
theorem wd_318 : (Cond.methodLink "CountRounds$Transfer" 1 ({ cls := "java/lang/Object", name := "<init>", desc := "()V" } : MethodName)) ∈ gw := gw_2 78 (by decide +kernel) rfl
theorem wd_319 : (Cond.fieldLink "CountRounds$Transfer" 13 "CountRounds$Transfer" "from" "I") ∈ gw := gw_2 79 (by decide +kernel) rfl
theorem wd_321 : (Cond.fieldLink "CountRounds$Transfer" 17 "CountRounds$Transfer" "to" "I") ∈ gw := gw_2 81 (by decide +kernel) rfl
theorem wd_323 : (Cond.fieldLink "CountRounds$Transfer" 20 "CountRounds$Transfer" "good" "I") ∈ gw := gw_2 83 (by decide +kernel) rfl
theorem wd_325 : (Cond.fieldLink "CountRounds$Transfer" 23 "CountRounds$Transfer" "pieces" "I") ∈ gw := gw_2 85 (by decide +kernel) rfl
theorem wd_327 : (Cond.fieldLink "CountRounds$Transfer" 7 "CountRounds$Transfer" "open" "Z") ∈ gw := gw_2 87 (by decide +kernel) rfl
theorem wd_329 : (Cond.laysFinal "CountRounds$Transfer" "CountRounds$Transfer" "from" "I") ∈ gw := gw_2 89 (by decide +kernel) rfl
theorem wd_331 : (Cond.laysFinal "CountRounds$Transfer" "CountRounds$Transfer" "to" "I") ∈ gw := gw_2 91 (by decide +kernel) rfl
theorem wd_333 : (Cond.laysFinal "CountRounds$Transfer" "CountRounds$Transfer" "good" "I") ∈ gw := gw_2 93 (by decide +kernel) rfl
theorem wd_335 : (Cond.laysFinal "CountRounds$Transfer" "CountRounds$Transfer" "pieces" "I") ∈ gw := gw_2 95 (by decide +kernel) rfl
theorem wd_337 : (Cond.lays "CountRounds$Transfer" "CountRounds$Transfer" "open" "Z") ∈ gw := gw_2 97 (by decide +kernel) rfl
theorem wd_340 : (Cond.methodLink "CountRoundsLaw" 128 ({ cls := "CountRoundsLaw", name := "end", desc := "(LCountRounds;I)I" } : MethodName)) ∈ gw := gw_2 100 (by decide +kernel) rfl
theorem wd_341 : (Cond.static ({ cls := "CountRoundsLaw", name := "end", desc := "(LCountRounds;I)I" } : MethodName)) ∈ gw := gw_2 101 (by decide +kernel) rfl
theorem wd_342 : (Cond.codeWith ({ cls := "CountRoundsLaw", name := "end", desc := "(LCountRounds;I)I" } : MethodName) method_10_code 3 (Option.some FieldType.int) [(0, 5, 8, 21), (0, 5, 11, 37)]) ∈ gw := gw_2 102 rfl rfl
theorem wd_343 : (Cond.methodLink "CountRoundsLaw" 43 ({ cls := "CountRounds", name := "end", desc := "(I)V" } : MethodName)) ∈ gw := gw_2 103 (by decide +kernel) rfl
theorem wd_344 : (Cond.instanceMethod ({ cls := "CountRounds", name := "end", desc := "(I)V" } : MethodName)) ∈ gw := gw_2 104 (by decide +kernel) rfl
theorem wd_345 : (Cond.selects "CountRounds" ({ cls := "CountRounds", name := "end", desc := "(I)V" } : MethodName) ({ cls := "CountRounds", name := "end", desc := "(I)V" } : MethodName)) ∈ gw := gw_2 105 (by decide +kernel) rfl
theorem wd_346 : (Cond.code ({ cls := "CountRounds", name := "end", desc := "(I)V" } : MethodName) prog_1_method_9_code 5 (Option.none : Option FieldType)) ∈ gw := gw_2 106 rfl rfl
theorem wd_348 : (Cond.methodLink "CountRoundsLaw" 131 ({ cls := "CountRoundsLaw", name := "moves", desc := "(LCountRounds;I[J)I" } : MethodName)) ∈ gw := gw_2 108 (by decide +kernel) rfl
theorem wd_349 : (Cond.static ({ cls := "CountRoundsLaw", name := "moves", desc := "(LCountRounds;I[J)I" } : MethodName)) ∈ gw := gw_2 109 (by decide +kernel) rfl
theorem wd_350 : (Cond.codeWith ({ cls := "CountRoundsLaw", name := "moves", desc := "(LCountRounds;I[J)I" } : MethodName) method_11_code 4 (Option.some FieldType.int) [(0, 9, 12, 21)]) ∈ gw := gw_2 110 rfl rfl
theorem wd_351 : (Cond.methodLink "CountRoundsLaw" 46 ({ cls := "CountRounds", name := "moves", desc := "(I)I" } : MethodName)) ∈ gw := gw_2 111 (by decide +kernel) rfl
theorem wd_352 : (Cond.instanceMethod ({ cls := "CountRounds", name := "moves", desc := "(I)I" } : MethodName)) ∈ gw := gw_2 112 (by decide +kernel) rfl
theorem wd_353 : (Cond.selects "CountRounds" ({ cls := "CountRounds", name := "moves", desc := "(I)I" } : MethodName) ({ cls := "CountRounds", name := "moves", desc := "(I)I" } : MethodName)) ∈ gw := gw_2 113 (by decide +kernel) rfl
theorem wd_354 : (Cond.code ({ cls := "CountRounds", name := "moves", desc := "(I)I" } : MethodName) prog_1_method_10_code 2 (Option.some FieldType.int)) ∈ gw := gw_2 114 rfl rfl
theorem wd_355 : (Cond.methodLink "CountRounds" 144 ({ cls := "CountRounds", name := "openMovesAt", desc := "(I)I" } : MethodName)) ∈ gw := gw_2 115 (by decide +kernel) rfl
theorem wd_357 : (Cond.instanceMethod ({ cls := "CountRounds", name := "openMovesAt", desc := "(I)I" } : MethodName)) ∈ gw := gw_2 117 (by decide +kernel) rfl
theorem wd_358 : (Cond.code ({ cls := "CountRounds", name := "openMovesAt", desc := "(I)I" } : MethodName) prog_1_method_34_code 5 (Option.some FieldType.int)) ∈ gw := gw_2 118 rfl rfl
theorem wd_359 : (Cond.methodLink "CountRoundsLaw" 136 ({ cls := "CountRoundsLaw", name := "round", desc := "(LCountRounds;IIJ[J)I" } : MethodName)) ∈ gw := gw_2 119 (by decide +kernel) rfl
theorem wd_360 : (Cond.static ({ cls := "CountRoundsLaw", name := "round", desc := "(LCountRounds;IIJ[J)I" } : MethodName)) ∈ gw := gw_2 120 (by decide +kernel) rfl
theorem wd_361 : (Cond.codeWith ({ cls := "CountRoundsLaw", name := "round", desc := "(LCountRounds;IIJ[J)I" } : MethodName) method_12_code 7 (Option.some FieldType.int) [(0, 12, 15, 13), (0, 12, 19, 37), (0, 12, 23, 15)]) ∈ gw := gw_2 121 rfl rfl
theorem wd_362 : (Cond.methodLink "CountRoundsLaw" 49 ({ cls := "CountRounds", name := "round", desc := "(IIJ)I" } : MethodName)) ∈ gw := gw_2 122 (by decide +kernel) rfl
theorem wd_363 : (Cond.instanceMethod ({ cls := "CountRounds", name := "round", desc := "(IIJ)I" } : MethodName)) ∈ gw := gw_2 123 (by decide +kernel) rfl
theorem wd_364 : (Cond.selects "CountRounds" ({ cls := "CountRounds", name := "round", desc := "(IIJ)I" } : MethodName) ({ cls := "CountRounds", name := "round", desc := "(IIJ)I" } : MethodName)) ∈ gw := gw_2 124 (by decide +kernel) rfl
theorem wd_365 : (Cond.code ({ cls := "CountRounds", name := "round", desc := "(IIJ)I" } : MethodName) prog_1_method_11_code 8 (Option.some FieldType.int)) ∈ gw := gw_2 125 rfl rfl
theorem wd_367 : (Cond.methodLink "CountRounds" 150 ({ cls := "CountRounds", name := "gatherCandidates", desc := "(I)I" } : MethodName)) ∈ gw := gw_2 127 (by decide +kernel) rfl
theorem wd_369 : (Cond.instanceMethod ({ cls := "CountRounds", name := "gatherCandidates", desc := "(I)I" } : MethodName)) ∈ gw := gw_2 129 (by decide +kernel) rfl
theorem wd_370 : (Cond.code ({ cls := "CountRounds", name := "gatherCandidates", desc := "(I)I" } : MethodName) prog_1_method_36_code 5 (Option.some FieldType.int)) ∈ gw := gw_2 130 rfl rfl
theorem wd_373 : (Cond.methodLink "CountRounds" 160 ({ cls := "java/lang/Math", name := "min", desc := "(II)I" } : MethodName)) ∈ gw := gw_2 133 (by decide +kernel) rfl
theorem wd_374 : (Cond.static ({ cls := "java/lang/Math", name := "min", desc := "(II)I" } : MethodName)) ∈ gw := gw_2 134 (by decide +kernel) rfl
theorem wd_375 : (Cond.code ({ cls := "java/lang/Math", name := "min", desc := "(II)I" } : MethodName) prog_11_method_69_code 2 (Option.some FieldType.int)) ∈ gw := gw_2 135 rfl rfl
theorem wd_376 : (Cond.methodLink "CountRounds" 166 ({ cls := "CountRounds", name := "chooseCandidates", desc := "(IIJ)[I" } : MethodName)) ∈ gw := gw_2 136 (by decide +kernel) rfl
theorem wd_378 : (Cond.instanceMethod ({ cls := "CountRounds", name := "chooseCandidates", desc := "(IIJ)[I" } : MethodName)) ∈ gw := gw_2 138 (by decide +kernel) rfl
theorem wd_379 : (Cond.code ({ cls := "CountRounds", name := "chooseCandidates", desc := "(IIJ)[I" } : MethodName) prog_1_method_37_code 11 (Option.some (FieldType.array FieldType.int))) ∈ gw := gw_2 139 rfl rfl
theorem wd_380 : (Cond.methodLink "CountRounds" 299 ({ cls := "CountRounds", name := "longestUncounted", desc := "(I)I" } : MethodName)) ∈ gw := gw_2 140 (by decide +kernel) rfl
theorem wd_382 : (Cond.instanceMethod ({ cls := "CountRounds", name := "longestUncounted", desc := "(I)I" } : MethodName)) ∈ gw := gw_2 142 (by decide +kernel) rfl
theorem wd_383 : (Cond.code ({ cls := "CountRounds", name := "longestUncounted", desc := "(I)I" } : MethodName) prog_1_method_38_code 4 (Option.some FieldType.int)) ∈ gw := gw_2 143 rfl rfl
theorem wd_384 : (Cond.constantLong "CountRounds" 302 (6364136223846793005 : Int64)) ∈ gw := gw_2 144 (by decide +kernel) rfl
theorem wd_385 : (Cond.constantLong "CountRounds" 304 (1442695040888963407 : Int64)) ∈ gw := gw_2 145 (by decide +kernel) rfl
theorem wd_386 : (Cond.methodLink "CountRounds" 306 ({ cls := "java/lang/System", name := "arraycopy", desc := "(Ljava/lang/Object;ILjava/lang/Object;II)V" } : MethodName)) ∈ gw := gw_2 146 (by decide +kernel) rfl
theorem wd_387 : (Cond.static ({ cls := "java/lang/System", name := "arraycopy", desc := "(Ljava/lang/Object;ILjava/lang/Object;II)V" } : MethodName)) ∈ gw := gw_2 147 (by decide +kernel) rfl
theorem wd_388 : (Cond.native ({ cls := "java/lang/System", name := "arraycopy", desc := "(Ljava/lang/Object;ILjava/lang/Object;II)V" } : MethodName)) ∈ gw := gw_2 148 (by decide +kernel) rfl
theorem wd_389 : (Cond.instantiable "CountRounds$Sheet" 11) ∈ gw := gw_2 149 (by decide +kernel) rfl
theorem wd_391 : (Cond.instanceMethod ({ cls := "CountRounds$Sheet", name := "<init>", desc := "([I)V" } : MethodName)) ∈ gw := gw_2 151 (by decide +kernel) rfl
theorem wd_392 : (Cond.code ({ cls := "CountRounds$Sheet", name := "<init>", desc := "([I)V" } : MethodName) prog_3_method_1_code 3 (Option.none : Option FieldType)) ∈ gw := gw_2 152 rfl rfl
theorem wd_393 : (Cond.methodLink "CountRounds$Sheet" 3 ({ cls := "java/lang/Object", name := "<init>", desc := "()V" } : MethodName)) ∈ gw := gw_2 153 (by decide +kernel) rfl
theorem wd_394 : (Cond.methodLink "CountRounds$Sheet" 41 ({ cls := "java/util/Arrays", name := "fill", desc := "([II)V" } : MethodName)) ∈ gw := gw_2 154 (by decide +kernel) rfl
theorem wd_395 : (Cond.fieldLink "CountRounds$Sheet" 15 "CountRounds$Sheet" "members" "[I") ∈ gw := gw_2 155 (by decide +kernel) rfl
theorem wd_397 : (Cond.fieldLink "CountRounds$Sheet" 19 "CountRounds$Sheet" "noted" "[I") ∈ gw := gw_2 157 (by decide +kernel) rfl
theorem wd_399 : (Cond.fieldLink "CountRounds$Sheet" 22 "CountRounds$Sheet" "pieces" "[I") ∈ gw := gw_2 159 (by decide +kernel) rfl
theorem wd_400 : (Cond.fieldLink "CountRounds$Sheet" 25 "CountRounds$Sheet" "firstFinders" "[I") ∈ gw := gw_2 160 (by decide +kernel) rfl
theorem wd_401 : (Cond.fieldLink "CountRounds$Sheet" 28 "CountRounds$Sheet" "secondFinders" "[I") ∈ gw := gw_2 161 (by decide +kernel) rfl
theorem wd_402 : (Cond.fieldLink "CountRounds$Sheet" 31 "CountRounds$Sheet" "askers" "[I") ∈ gw := gw_2 162 (by decide +kernel) rfl
theorem wd_404 : (Cond.fieldLink "CountRounds$Sheet" 34 "CountRounds$Sheet" "corrected" "[Z") ∈ gw := gw_2 164 (by decide +kernel) rfl
theorem wd_406 : (Cond.fieldLink "CountRounds$Sheet" 38 "CountRounds$Sheet" "differing" "[I") ∈ gw := gw_2 166 (by decide +kernel) rfl
theorem wd_407 : (Cond.fieldLink "CountRounds$Sheet" 50 "CountRounds$Sheet" "differences" "I") ∈ gw := gw_2 167 (by decide +kernel) rfl
theorem wd_409 : (Cond.fieldLink "CountRounds$Sheet" 47 "CountRounds$Sheet" "findings" "I") ∈ gw := gw_2 169 (by decide +kernel) rfl
theorem wd_411 : (Cond.fieldLink "CountRounds$Sheet" 9 "CountRounds$Sheet" "state" "I") ∈ gw := gw_2 171 (by decide +kernel) rfl
theorem wd_413 : (Cond.laysFinal "CountRounds$Sheet" "CountRounds$Sheet" "members" "[I") ∈ gw := gw_2 173 (by decide +kernel) rfl
theorem wd_415 : (Cond.laysFinal "CountRounds$Sheet" "CountRounds$Sheet" "noted" "[I") ∈ gw := gw_2 175 (by decide +kernel) rfl
theorem wd_417 : (Cond.laysFinal "CountRounds$Sheet" "CountRounds$Sheet" "pieces" "[I") ∈ gw := gw_2 177 (by decide +kernel) rfl
theorem wd_419 : (Cond.laysFinal "CountRounds$Sheet" "CountRounds$Sheet" "firstFinders" "[I") ∈ gw := gw_2 179 (by decide +kernel) rfl
theorem wd_421 : (Cond.laysFinal "CountRounds$Sheet" "CountRounds$Sheet" "secondFinders" "[I") ∈ gw := gw_2 181 (by decide +kernel) rfl
theorem wd_423 : (Cond.laysFinal "CountRounds$Sheet" "CountRounds$Sheet" "askers" "[I") ∈ gw := gw_2 183 (by decide +kernel) rfl
theorem wd_425 : (Cond.laysFinal "CountRounds$Sheet" "CountRounds$Sheet" "corrected" "[Z") ∈ gw := gw_2 185 (by decide +kernel) rfl
theorem wd_427 : (Cond.laysFinal "CountRounds$Sheet" "CountRounds$Sheet" "differing" "[I") ∈ gw := gw_2 187 (by decide +kernel) rfl
theorem wd_429 : (Cond.lays "CountRounds$Sheet" "CountRounds$Sheet" "differences" "I") ∈ gw := gw_2 189 (by decide +kernel) rfl
theorem wd_431 : (Cond.lays "CountRounds$Sheet" "CountRounds$Sheet" "findings" "I") ∈ gw := gw_2 191 (by decide +kernel) rfl
theorem wd_433 : (Cond.lays "CountRounds$Sheet" "CountRounds$Sheet" "state" "I") ∈ gw := gw_2 193 (by decide +kernel) rfl
theorem wd_436 : (Cond.arrayClass FieldType.boolean) ∈ gw := gw_2 196 (by decide +kernel) rfl
theorem wd_437 : (Cond.methodLink "CountRoundsLaw" 140 ({ cls := "CountRoundsLaw", name := "freeze", desc := "(LCountRounds;I[J)I" } : MethodName)) ∈ gw := gw_2 197 (by decide +kernel) rfl
theorem wd_438 : (Cond.static ({ cls := "CountRoundsLaw", name := "freeze", desc := "(LCountRounds;I[J)I" } : MethodName)) ∈ gw := gw_2 198 (by decide +kernel) rfl
theorem wd_439 : (Cond.codeWith ({ cls := "CountRoundsLaw", name := "freeze", desc := "(LCountRounds;I[J)I" } : MethodName) method_13_code 4 (Option.some FieldType.int) [(0, 9, 12, 21), (0, 9, 15, 37)]) ∈ gw := gw_2 199 rfl rfl
theorem wd_440 : (Cond.methodLink "CountRoundsLaw" 53 ({ cls := "CountRounds", name := "freeze", desc := "(I)I" } : MethodName)) ∈ gw := gw_2 200 (by decide +kernel) rfl
theorem wd_441 : (Cond.instanceMethod ({ cls := "CountRounds", name := "freeze", desc := "(I)I" } : MethodName)) ∈ gw := gw_2 201 (by decide +kernel) rfl
theorem wd_442 : (Cond.selects "CountRounds" ({ cls := "CountRounds", name := "freeze", desc := "(I)I" } : MethodName) ({ cls := "CountRounds", name := "freeze", desc := "(I)I" } : MethodName)) ∈ gw := gw_2 202 (by decide +kernel) rfl
theorem wd_443 : (Cond.code ({ cls := "CountRounds", name := "freeze", desc := "(I)I" } : MethodName) prog_1_method_12_code 3 (Option.some FieldType.int)) ∈ gw := gw_2 203 rfl rfl
theorem wd_444 : (Cond.methodLink "CountRounds" 173 ({ cls := "CountRounds", name := "sheetNumbered", desc := "(I)LCountRounds$Sheet;" } : MethodName)) ∈ gw := gw_2 204 (by decide +kernel) rfl
theorem wd_446 : (Cond.instanceMethod ({ cls := "CountRounds", name := "sheetNumbered", desc := "(I)LCountRounds$Sheet;" } : MethodName)) ∈ gw := gw_2 206 (by decide +kernel) rfl
theorem wd_447 : (Cond.code ({ cls := "CountRounds", name := "sheetNumbered", desc := "(I)LCountRounds$Sheet;" } : MethodName) prog_1_method_32_code 3 (Option.some (FieldType.object "CountRounds$Sheet"))) ∈ gw := gw_2 207 rfl rfl
theorem wd_450 : (Cond.methodLink "CountRounds" 182 ({ cls := "CountRounds", name := "hasOpenMoves", desc := "(LCountRounds$Sheet;)Z" } : MethodName)) ∈ gw := gw_2 210 (by decide +kernel) rfl
theorem wd_452 : (Cond.instanceMethod ({ cls := "CountRounds", name := "hasOpenMoves", desc := "(LCountRounds$Sheet;)Z" } : MethodName)) ∈ gw := gw_2 212 (by decide +kernel) rfl
theorem wd_453 : (Cond.code ({ cls := "CountRounds", name := "hasOpenMoves", desc := "(LCountRounds$Sheet;)Z" } : MethodName) prog_1_method_35_code 3 (Option.some FieldType.boolean)) ∈ gw := gw_2 213 rfl rfl
theorem wd_454 : (Cond.methodLink "CountRounds" 186 ({ cls := "CountRounds", name := "noteBooked", desc := "(LCountRounds$Sheet;)V" } : MethodName)) ∈ gw := gw_2 214 (by decide +kernel) rfl
theorem wd_456 : (Cond.instanceMethod ({ cls := "CountRounds", name := "noteBooked", desc := "(LCountRounds$Sheet;)V" } : MethodName)) ∈ gw := gw_2 216 (by decide +kernel) rfl
theorem wd_457 : (Cond.code ({ cls := "CountRounds", name := "noteBooked", desc := "(LCountRounds$Sheet;)V" } : MethodName) prog_1_method_39_code 5 (Option.none : Option FieldType)) ∈ gw := gw_2 217 rfl rfl
theorem wd_460 : (Cond.instanceMethod ({ cls := "CountRounds$Sheet", name := "positionOf", desc := "(I)I" } : MethodName)) ∈ gw := gw_2 220 (by decide +kernel) rfl
theorem wd_461 : (Cond.code ({ cls := "CountRounds$Sheet", name := "positionOf", desc := "(I)I" } : MethodName) prog_3_method_2_code 3 (Option.some FieldType.int)) ∈ gw := gw_2 221 rfl rfl
theorem wd_462 : (Cond.methodLink "CountRoundsLaw" 143 ({ cls := "CountRoundsLaw", name := "found", desc := "(LCountRounds;IIIII[J)I" } : MethodName)) ∈ gw := gw_2 222 (by decide +kernel) rfl
theorem wd_463 : (Cond.static ({ cls := "CountRoundsLaw", name := "found", desc := "(LCountRounds;IIIII[J)I" } : MethodName)) ∈ gw := gw_2 223 (by decide +kernel) rfl
theorem wd_464 : (Cond.codeWith ({ cls := "CountRoundsLaw", name := "found", desc := "(LCountRounds;IIIII[J)I" } : MethodName) method_14_code 8 (Option.some FieldType.int) [(0, 16, 19, 21), (0, 16, 23, 13)]) ∈ gw := gw_2 224 rfl rfl
theorem wd_465 : (Cond.methodLink "CountRoundsLaw" 56 ({ cls := "CountRounds", name := "found", desc := "(IIIII)I" } : MethodName)) ∈ gw := gw_2 225 (by decide +kernel) rfl
theorem wd_466 : (Cond.instanceMethod ({ cls := "CountRounds", name := "found", desc := "(IIIII)I" } : MethodName)) ∈ gw := gw_2 226 (by decide +kernel) rfl
theorem wd_467 : (Cond.selects "CountRounds" ({ cls := "CountRounds", name := "found", desc := "(IIIII)I" } : MethodName) ({ cls := "CountRounds", name := "found", desc := "(IIIII)I" } : MethodName)) ∈ gw := gw_2 227 (by decide +kernel) rfl
theorem wd_468 : (Cond.code ({ cls := "CountRounds", name := "found", desc := "(IIIII)I" } : MethodName) prog_1_method_13_code 8 (Option.some FieldType.int)) ∈ gw := gw_2 228 rfl rfl
theorem wd_472 : (Cond.instanceMethod ({ cls := "CountRounds$Sheet", name := "tell", desc := "(III)I" } : MethodName)) ∈ gw := gw_2 232 (by decide +kernel) rfl
theorem wd_473 : (Cond.code ({ cls := "CountRounds$Sheet", name := "tell", desc := "(III)I" } : MethodName) prog_3_method_3_code 4 (Option.some FieldType.int)) ∈ gw := gw_2 233 rfl rfl
theorem wd_474 : (Cond.methodLink "CountRoundsLaw" 147 ({ cls := "CountRoundsLaw", name := "second", desc := "(LCountRounds;III[J)I" } : MethodName)) ∈ gw := gw_2 234 (by decide +kernel) rfl
theorem wd_475 : (Cond.static ({ cls := "CountRoundsLaw", name := "second", desc := "(LCountRounds;III[J)I" } : MethodName)) ∈ gw := gw_2 235 (by decide +kernel) rfl
theorem wd_476 : (Cond.codeWith ({ cls := "CountRoundsLaw", name := "second", desc := "(LCountRounds;III[J)I" } : MethodName) method_15_code 6 (Option.some FieldType.int) [(0, 19, 22, 21), (0, 19, 26, 13), (0, 19, 30, 37)]) ∈ gw := gw_2 236 rfl rfl
theorem wd_477 : (Cond.methodLink "CountRoundsLaw" 60 ({ cls := "CountRounds", name := "second", desc := "(III)Z" } : MethodName)) ∈ gw := gw_2 237 (by decide +kernel) rfl
theorem wd_478 : (Cond.instanceMethod ({ cls := "CountRounds", name := "second", desc := "(III)Z" } : MethodName)) ∈ gw := gw_2 238 (by decide +kernel) rfl
theorem wd_479 : (Cond.selects "CountRounds" ({ cls := "CountRounds", name := "second", desc := "(III)Z" } : MethodName) ({ cls := "CountRounds", name := "second", desc := "(III)Z" } : MethodName)) ∈ gw := gw_2 239 (by decide +kernel) rfl
theorem wd_480 : (Cond.code ({ cls := "CountRounds", name := "second", desc := "(III)Z" } : MethodName) prog_1_method_14_code 8 (Option.some FieldType.boolean)) ∈ gw := gw_3 0 rfl rfl
theorem wd_486 : (Cond.instanceMethod ({ cls := "CountRounds$Sheet", name := "isToldOnce", desc := "(I)Z" } : MethodName)) ∈ gw := gw_3 6 (by decide +kernel) rfl
theorem wd_487 : (Cond.code ({ cls := "CountRounds$Sheet", name := "isToldOnce", desc := "(I)Z" } : MethodName) prog_3_method_4_code 2 (Option.some FieldType.boolean)) ∈ gw := gw_3 7 rfl rfl
theorem wd_490 : (Cond.instanceMethod ({ cls := "CountRounds$Sheet", name := "differenceOf", desc := "(I)I" } : MethodName)) ∈ gw := gw_3 10 (by decide +kernel) rfl
theorem wd_491 : (Cond.code ({ cls := "CountRounds$Sheet", name := "differenceOf", desc := "(I)I" } : MethodName) prog_3_method_7_code 2 (Option.some FieldType.int)) ∈ gw := gw_3 11 rfl rfl
theorem wd_492 : (Cond.methodLink "CountRounds" 217 ({ cls := "CountRounds", name := "isTolerated", desc := "(ILCountRounds$Place;)Z" } : MethodName)) ∈ gw := gw_3 12 (by decide +kernel) rfl
theorem wd_494 : (Cond.instanceMethod ({ cls := "CountRounds", name := "isTolerated", desc := "(ILCountRounds$Place;)Z" } : MethodName)) ∈ gw := gw_3 14 (by decide +kernel) rfl
theorem wd_495 : (Cond.code ({ cls := "CountRounds", name := "isTolerated", desc := "(ILCountRounds$Place;)Z" } : MethodName) prog_1_method_41_code 3 (Option.some FieldType.boolean)) ∈ gw := gw_3 15 rfl rfl
theorem wd_496 : (Cond.methodLink "CountRounds" 318 ({ cls := "java/lang/Math", name := "abs", desc := "(I)I" } : MethodName)) ∈ gw := gw_3 16 (by decide +kernel) rfl
theorem wd_497 : (Cond.static ({ cls := "java/lang/Math", name := "abs", desc := "(I)I" } : MethodName)) ∈ gw := gw_3 17 (by decide +kernel) rfl
theorem wd_498 : (Cond.code ({ cls := "java/lang/Math", name := "abs", desc := "(I)I" } : MethodName) prog_11_method_59_code 1 (Option.some FieldType.int)) ∈ gw := gw_3 18 rfl rfl
theorem wd_499 : (Cond.methodLink "CountRoundsLaw" 151 ({ cls := "CountRoundsLaw", name := "close", desc := "(LCountRounds;I[J)I" } : MethodName)) ∈ gw := gw_3 19 (by decide +kernel) rfl
theorem wd_500 : (Cond.static ({ cls := "CountRoundsLaw", name := "close", desc := "(LCountRounds;I[J)I" } : MethodName)) ∈ gw := gw_3 20 (by decide +kernel) rfl
theorem wd_501 : (Cond.codeWith ({ cls := "CountRoundsLaw", name := "close", desc := "(LCountRounds;I[J)I" } : MethodName) method_16_code 4 (Option.some FieldType.int) [(0, 9, 12, 21), (0, 9, 15, 37)]) ∈ gw := gw_3 21 rfl rfl
theorem wd_502 : (Cond.methodLink "CountRoundsLaw" 64 ({ cls := "CountRounds", name := "close", desc := "(I)I" } : MethodName)) ∈ gw := gw_3 22 (by decide +kernel) rfl
theorem wd_503 : (Cond.instanceMethod ({ cls := "CountRounds", name := "close", desc := "(I)I" } : MethodName)) ∈ gw := gw_3 23 (by decide +kernel) rfl
theorem wd_504 : (Cond.selects "CountRounds" ({ cls := "CountRounds", name := "close", desc := "(I)I" } : MethodName) ({ cls := "CountRounds", name := "close", desc := "(I)I" } : MethodName)) ∈ gw := gw_3 24 (by decide +kernel) rfl
theorem wd_505 : (Cond.code ({ cls := "CountRounds", name := "close", desc := "(I)I" } : MethodName) prog_1_method_15_code 5 (Option.some FieldType.int)) ∈ gw := gw_3 25 rfl rfl
theorem wd_508 : (Cond.instanceMethod ({ cls := "CountRounds$Sheet", name := "isPlaceTold", desc := "(I)Z" } : MethodName)) ∈ gw := gw_3 28 (by decide +kernel) rfl
theorem wd_509 : (Cond.code ({ cls := "CountRounds$Sheet", name := "isPlaceTold", desc := "(I)Z" } : MethodName) prog_3_method_5_code 3 (Option.some FieldType.boolean)) ∈ gw := gw_3 29 rfl rfl
theorem wd_510 : (Cond.methodLink "CountRounds" 227 ({ cls := "CountRounds", name := "countPlace", desc := "(LCountRounds$Sheet;ILCountRounds$Place;)V" } : MethodName)) ∈ gw := gw_3 30 (by decide +kernel) rfl
theorem wd_512 : (Cond.instanceMethod ({ cls := "CountRounds", name := "countPlace", desc := "(LCountRounds$Sheet;ILCountRounds$Place;)V" } : MethodName)) ∈ gw := gw_3 32 (by decide +kernel) rfl
theorem wd_513 : (Cond.code ({ cls := "CountRounds", name := "countPlace", desc := "(LCountRounds$Sheet;ILCountRounds$Place;)V" } : MethodName) prog_1_method_40_code 8 (Option.none : Option FieldType)) ∈ gw := gw_3 33 rfl rfl
theorem wd_516 : (Cond.instanceMethod ({ cls := "CountRounds$Sheet", name := "addDifference", desc := "(I)V" } : MethodName)) ∈ gw := gw_3 36 (by decide +kernel) rfl
theorem wd_517 : (Cond.code ({ cls := "CountRounds$Sheet", name := "addDifference", desc := "(I)V" } : MethodName) prog_3_method_8_code 2 (Option.none : Option FieldType)) ∈ gw := gw_3 37 rfl rfl
theorem wd_518 : (Cond.methodLink "CountRoundsLaw" 154 ({ cls := "CountRoundsLaw", name := "differ", desc := "(LCountRounds;III[J)I" } : MethodName)) ∈ gw := gw_3 38 (by decide +kernel) rfl
theorem wd_519 : (Cond.static ({ cls := "CountRoundsLaw", name := "differ", desc := "(LCountRounds;III[J)I" } : MethodName)) ∈ gw := gw_3 39 (by decide +kernel) rfl
theorem wd_520 : (Cond.codeWith ({ cls := "CountRoundsLaw", name := "differ", desc := "(LCountRounds;III[J)I" } : MethodName) method_17_code 6 (Option.some FieldType.int) [(0, 12, 15, 21), (0, 12, 19, 13)]) ∈ gw := gw_3 40 rfl rfl
theorem wd_521 : (Cond.methodLink "CountRoundsLaw" 67 ({ cls := "CountRounds", name := "differ", desc := "(III)I" } : MethodName)) ∈ gw := gw_3 41 (by decide +kernel) rfl
theorem wd_522 : (Cond.instanceMethod ({ cls := "CountRounds", name := "differ", desc := "(III)I" } : MethodName)) ∈ gw := gw_3 42 (by decide +kernel) rfl
theorem wd_523 : (Cond.selects "CountRounds" ({ cls := "CountRounds", name := "differ", desc := "(III)I" } : MethodName) ({ cls := "CountRounds", name := "differ", desc := "(III)I" } : MethodName)) ∈ gw := gw_3 43 (by decide +kernel) rfl
theorem wd_524 : (Cond.code ({ cls := "CountRounds", name := "differ", desc := "(III)I" } : MethodName) prog_1_method_16_code 6 (Option.some FieldType.int)) ∈ gw := gw_3 44 rfl rfl
theorem wd_527 : (Cond.instanceMethod ({ cls := "CountRounds$Sheet", name := "differingLine", desc := "(I)I" } : MethodName)) ∈ gw := gw_3 47 (by decide +kernel) rfl
theorem wd_528 : (Cond.code ({ cls := "CountRounds$Sheet", name := "differingLine", desc := "(I)I" } : MethodName) prog_3_method_9_code 2 (Option.some FieldType.int)) ∈ gw := gw_3 48 rfl rfl
theorem wd_532 : (Cond.instanceMethod ({ cls := "CountRounds$Sheet", name := "finderOf", desc := "(I)I" } : MethodName)) ∈ gw := gw_3 52 (by decide +kernel) rfl
theorem wd_533 : (Cond.code ({ cls := "CountRounds$Sheet", name := "finderOf", desc := "(I)I" } : MethodName) prog_3_method_6_code 2 (Option.some FieldType.int)) ∈ gw := gw_3 53 rfl rfl
theorem wd_535 : (Cond.methodLink "CountRoundsLaw" 157 ({ cls := "CountRoundsLaw", name := "correct", desc := "(LCountRounds;III[J)I" } : MethodName)) ∈ gw := gw_3 55 (by decide +kernel) rfl
theorem wd_536 : (Cond.static ({ cls := "CountRoundsLaw", name := "correct", desc := "(LCountRounds;III[J)I" } : MethodName)) ∈ gw := gw_3 56 (by decide +kernel) rfl
theorem wd_537 : (Cond.codeWith ({ cls := "CountRoundsLaw", name := "correct", desc := "(LCountRounds;III[J)I" } : MethodName) method_18_code 6 (Option.some FieldType.int) [(0, 19, 22, 21), (0, 19, 26, 13), (0, 19, 30, 37)]) ∈ gw := gw_3 57 rfl rfl
theorem wd_538 : (Cond.methodLink "CountRoundsLaw" 71 ({ cls := "CountRounds", name := "correct", desc := "(III)Z" } : MethodName)) ∈ gw := gw_3 58 (by decide +kernel) rfl
theorem wd_539 : (Cond.instanceMethod ({ cls := "CountRounds", name := "correct", desc := "(III)Z" } : MethodName)) ∈ gw := gw_3 59 (by decide +kernel) rfl
theorem wd_540 : (Cond.selects "CountRounds" ({ cls := "CountRounds", name := "correct", desc := "(III)Z" } : MethodName) ({ cls := "CountRounds", name := "correct", desc := "(III)Z" } : MethodName)) ∈ gw := gw_3 60 (by decide +kernel) rfl
theorem wd_541 : (Cond.code ({ cls := "CountRounds", name := "correct", desc := "(III)Z" } : MethodName) prog_1_method_17_code 8 (Option.some FieldType.boolean)) ∈ gw := gw_3 61 rfl rfl
theorem wd_544 : (Cond.methodLink "CountRounds" 255 ({ cls := "CountRounds", name := "mayCorrect", desc := "(LCountRounds$Sheet;II)Z" } : MethodName)) ∈ gw := gw_3 64 (by decide +kernel) rfl
theorem wd_546 : (Cond.instanceMethod ({ cls := "CountRounds", name := "mayCorrect", desc := "(LCountRounds$Sheet;II)Z" } : MethodName)) ∈ gw := gw_3 66 (by decide +kernel) rfl
theorem wd_547 : (Cond.code ({ cls := "CountRounds", name := "mayCorrect", desc := "(LCountRounds$Sheet;II)Z" } : MethodName) prog_1_method_42_code 7 (Option.some FieldType.boolean)) ∈ gw := gw_3 67 rfl rfl
theorem wd_549 : (Cond.methodLink "CountRoundsLaw" 160 ({ cls := "CountRoundsLaw", name := "share", desc := "(LCountRounds;I[J)I" } : MethodName)) ∈ gw := gw_3 69 (by decide +kernel) rfl
theorem wd_550 : (Cond.static ({ cls := "CountRoundsLaw", name := "share", desc := "(LCountRounds;I[J)I" } : MethodName)) ∈ gw := gw_3 70 (by decide +kernel) rfl
theorem wd_551 : (Cond.codeWith ({ cls := "CountRoundsLaw", name := "share", desc := "(LCountRounds;I[J)I" } : MethodName) method_19_code 4 (Option.some FieldType.int) [(0, 9, 12, 13), (0, 9, 15, 77)]) ∈ gw := gw_3 71 rfl rfl
theorem wd_552 : (Cond.classLink "CountRoundsLaw" 77 "java/lang/ArithmeticException") ∈ gw := gw_3 72 (by decide +kernel) rfl
theorem wd_553 : (Cond.methodLink "CountRoundsLaw" 74 ({ cls := "CountRounds", name := "share", desc := "(I)I" } : MethodName)) ∈ gw := gw_3 73 (by decide +kernel) rfl
theorem wd_554 : (Cond.instanceMethod ({ cls := "CountRounds", name := "share", desc := "(I)I" } : MethodName)) ∈ gw := gw_3 74 (by decide +kernel) rfl
theorem wd_555 : (Cond.selects "CountRounds" ({ cls := "CountRounds", name := "share", desc := "(I)I" } : MethodName) ({ cls := "CountRounds", name := "share", desc := "(I)I" } : MethodName)) ∈ gw := gw_3 75 (by decide +kernel) rfl
theorem wd_556 : (Cond.code ({ cls := "CountRounds", name := "share", desc := "(I)I" } : MethodName) prog_1_method_18_code 3 (Option.some FieldType.int)) ∈ gw := gw_3 76 rfl rfl
theorem wd_558 : (Cond.methodLink "CountRounds" 269 ({ cls := "CountRounds", name := "commonDivisor", desc := "(II)I" } : MethodName)) ∈ gw := gw_3 78 (by decide +kernel) rfl
theorem wd_559 : (Cond.static ({ cls := "CountRounds", name := "commonDivisor", desc := "(II)I" } : MethodName)) ∈ gw := gw_3 79 (by decide +kernel) rfl
theorem wd_560 : (Cond.code ({ cls := "CountRounds", name := "commonDivisor", desc := "(II)I" } : MethodName) prog_1_method_43_code 6 (Option.some FieldType.int)) ∈ gw := gw_3 80 rfl rfl
theorem wd_561 : (Cond.classLink "CountRounds" 272 "java/lang/ArithmeticException") ∈ gw := gw_3 81 (by decide +kernel) rfl
theorem wd_562 : (Cond.instantiable "java/lang/ArithmeticException" 6) ∈ gw := gw_3 82 (by decide +kernel) rfl
theorem wd_564 : (Cond.selects "java/lang/ArithmeticException" ({ cls := "java/lang/Throwable", name := "fillInStackTrace", desc := "(I)Ljava/lang/Throwable;" } : MethodName) ({ cls := "java/lang/Throwable", name := "fillInStackTrace", desc := "(I)Ljava/lang/Throwable;" } : MethodName)) ∈ gw := gw_3 84 (by decide +kernel) rfl
theorem wd_565 : (Cond.lays "java/lang/ArithmeticException" "java/lang/Throwable" "cause" "Ljava/lang/Throwable;") ∈ gw := gw_3 85 (by decide +kernel) rfl
theorem wd_566 : (Cond.lays "java/lang/ArithmeticException" "java/lang/Throwable" "stackTrace" "[Ljava/lang/StackTraceElement;") ∈ gw := gw_3 86 (by decide +kernel) rfl
theorem wd_567 : (Cond.lays "java/lang/ArithmeticException" "java/lang/Throwable" "suppressedExceptions" "Ljava/util/List;") ∈ gw := gw_3 87 (by decide +kernel) rfl
theorem wd_568 : (Cond.lays "java/lang/ArithmeticException" "java/lang/Throwable" "detailMessage" "Ljava/lang/String;") ∈ gw := gw_3 88 (by decide +kernel) rfl
theorem wd_569 : (Cond.lays "java/lang/ArithmeticException" "java/lang/Throwable" "backtrace" "Ljava/lang/Object;") ∈ gw := gw_3 89 (by decide +kernel) rfl
theorem wd_571 : (Cond.methodLink "CountRounds" 276 ({ cls := "java/lang/ArithmeticException", name := "<init>", desc := "(Ljava/lang/String;)V" } : MethodName)) ∈ gw := gw_3 91 (by decide +kernel) rfl
theorem wd_572 : (Cond.instanceMethod ({ cls := "java/lang/ArithmeticException", name := "<init>", desc := "(Ljava/lang/String;)V" } : MethodName)) ∈ gw := gw_3 92 (by decide +kernel) rfl
theorem wd_573 : (Cond.code ({ cls := "java/lang/ArithmeticException", name := "<init>", desc := "(Ljava/lang/String;)V" } : MethodName) prog_7_method_2_code 2 (Option.none : Option FieldType)) ∈ gw := gw_3 93 rfl rfl
theorem wd_574 : (Cond.methodLink "java/lang/ArithmeticException" 7 ({ cls := "java/lang/RuntimeException", name := "<init>", desc := "(Ljava/lang/String;)V" } : MethodName)) ∈ gw := gw_3 94 (by decide +kernel) rfl
theorem wd_575 : (Cond.lays "java/lang/ArithmeticException" "java/lang/Throwable" "depth" "I") ∈ gw := gw_3 95 (by decide +kernel) rfl
theorem wd_577 : (Cond.methodLink "CountRoundsLaw" 163 ({ cls := "CountRoundsLaw", name := "last", desc := "(LCountRounds;I[J)I" } : MethodName)) ∈ gw := gw_3 97 (by decide +kernel) rfl
theorem wd_578 : (Cond.static ({ cls := "CountRoundsLaw", name := "last", desc := "(LCountRounds;I[J)I" } : MethodName)) ∈ gw := gw_3 98 (by decide +kernel) rfl
theorem wd_579 : (Cond.codeWith ({ cls := "CountRoundsLaw", name := "last", desc := "(LCountRounds;I[J)I" } : MethodName) method_20_code 4 (Option.some FieldType.int) [(0, 9, 12, 21)]) ∈ gw := gw_3 99 rfl rfl
theorem wd_580 : (Cond.methodLink "CountRoundsLaw" 79 ({ cls := "CountRounds", name := "last", desc := "(I)I" } : MethodName)) ∈ gw := gw_3 100 (by decide +kernel) rfl
theorem wd_581 : (Cond.instanceMethod ({ cls := "CountRounds", name := "last", desc := "(I)I" } : MethodName)) ∈ gw := gw_3 101 (by decide +kernel) rfl
theorem wd_582 : (Cond.selects "CountRounds" ({ cls := "CountRounds", name := "last", desc := "(I)I" } : MethodName) ({ cls := "CountRounds", name := "last", desc := "(I)I" } : MethodName)) ∈ gw := gw_3 102 (by decide +kernel) rfl
theorem wd_583 : (Cond.code ({ cls := "CountRounds", name := "last", desc := "(I)I" } : MethodName) prog_1_method_19_code 2 (Option.some FieldType.int)) ∈ gw := gw_3 103 rfl rfl
theorem wd_584 : (Cond.methodLink "CountRoundsLaw" 166 ({ cls := "CountRoundsLaw", name := "due", desc := "(LCountRounds;I[J)I" } : MethodName)) ∈ gw := gw_3 104 (by decide +kernel) rfl
theorem wd_585 : (Cond.static ({ cls := "CountRoundsLaw", name := "due", desc := "(LCountRounds;I[J)I" } : MethodName)) ∈ gw := gw_3 105 (by decide +kernel) rfl
theorem wd_586 : (Cond.codeWith ({ cls := "CountRoundsLaw", name := "due", desc := "(LCountRounds;I[J)I" } : MethodName) method_21_code 4 (Option.some FieldType.int) [(0, 9, 12, 13)]) ∈ gw := gw_3 106 rfl rfl
theorem wd_587 : (Cond.methodLink "CountRoundsLaw" 82 ({ cls := "CountRounds", name := "due", desc := "(I)I" } : MethodName)) ∈ gw := gw_3 107 (by decide +kernel) rfl
theorem wd_588 : (Cond.instanceMethod ({ cls := "CountRounds", name := "due", desc := "(I)I" } : MethodName)) ∈ gw := gw_3 108 (by decide +kernel) rfl
theorem wd_589 : (Cond.selects "CountRounds" ({ cls := "CountRounds", name := "due", desc := "(I)I" } : MethodName) ({ cls := "CountRounds", name := "due", desc := "(I)I" } : MethodName)) ∈ gw := gw_3 109 (by decide +kernel) rfl
theorem wd_590 : (Cond.code ({ cls := "CountRounds", name := "due", desc := "(I)I" } : MethodName) prog_1_method_20_code 5 (Option.some FieldType.int)) ∈ gw := gw_3 110 rfl rfl
theorem wd_591 : (Cond.methodLink "CountRoundsLaw" 169 ({ cls := "CountRoundsLaw", name := "booked", desc := "(LCountRounds;II[J)I" } : MethodName)) ∈ gw := gw_3 111 (by decide +kernel) rfl
theorem wd_592 : (Cond.static ({ cls := "CountRoundsLaw", name := "booked", desc := "(LCountRounds;II[J)I" } : MethodName)) ∈ gw := gw_3 112 (by decide +kernel) rfl
theorem wd_593 : (Cond.codeWith ({ cls := "CountRoundsLaw", name := "booked", desc := "(LCountRounds;II[J)I" } : MethodName) method_22_code 5 (Option.some FieldType.int) [(0, 10, 13, 21), (0, 10, 17, 13)]) ∈ gw := gw_3 113 rfl rfl
theorem wd_594 : (Cond.methodLink "CountRoundsLaw" 85 ({ cls := "CountRounds", name := "booked", desc := "(II)I" } : MethodName)) ∈ gw := gw_3 114 (by decide +kernel) rfl
theorem wd_595 : (Cond.instanceMethod ({ cls := "CountRounds", name := "booked", desc := "(II)I" } : MethodName)) ∈ gw := gw_3 115 (by decide +kernel) rfl
theorem wd_596 : (Cond.selects "CountRounds" ({ cls := "CountRounds", name := "booked", desc := "(II)I" } : MethodName) ({ cls := "CountRounds", name := "booked", desc := "(II)I" } : MethodName)) ∈ gw := gw_3 116 (by decide +kernel) rfl
theorem wd_597 : (Cond.code ({ cls := "CountRounds", name := "booked", desc := "(II)I" } : MethodName) prog_1_method_21_code 4 (Option.some FieldType.int)) ∈ gw := gw_3 117 rfl rfl
theorem wd_598 : (Cond.methodLink "CountRoundsLaw" 173 ({ cls := "CountRoundsLaw", name := "told", desc := "(LCountRounds;II[J)I" } : MethodName)) ∈ gw := gw_3 118 (by decide +kernel) rfl
theorem wd_599 : (Cond.static ({ cls := "CountRoundsLaw", name := "told", desc := "(LCountRounds;II[J)I" } : MethodName)) ∈ gw := gw_3 119 (by decide +kernel) rfl
theorem wd_600 : (Cond.codeWith ({ cls := "CountRoundsLaw", name := "told", desc := "(LCountRounds;II[J)I" } : MethodName) method_23_code 5 (Option.some FieldType.int) [(0, 10, 13, 21), (0, 10, 17, 13)]) ∈ gw := gw_3 120 rfl rfl
theorem wd_601 : (Cond.methodLink "CountRoundsLaw" 89 ({ cls := "CountRounds", name := "told", desc := "(II)I" } : MethodName)) ∈ gw := gw_3 121 (by decide +kernel) rfl
theorem wd_602 : (Cond.instanceMethod ({ cls := "CountRounds", name := "told", desc := "(II)I" } : MethodName)) ∈ gw := gw_3 122 (by decide +kernel) rfl
theorem wd_603 : (Cond.selects "CountRounds" ({ cls := "CountRounds", name := "told", desc := "(II)I" } : MethodName) ({ cls := "CountRounds", name := "told", desc := "(II)I" } : MethodName)) ∈ gw := gw_3 123 (by decide +kernel) rfl
theorem wd_604 : (Cond.code ({ cls := "CountRounds", name := "told", desc := "(II)I" } : MethodName) prog_1_method_22_code 5 (Option.some FieldType.int)) ∈ gw := gw_3 124 rfl rfl
theorem wd_605 : (Cond.classLink "CountRoundsLaw" 93 "CountRoundsModel") ∈ gw := gw_3 125 (by decide +kernel) rfl
theorem wd_606 : (Cond.instantiable "CountRoundsModel" 29) ∈ gw := gw_3 126 (by decide +kernel) rfl
theorem wd_607 : (Cond.methodLink "CountRoundsLaw" 95 ({ cls := "CountRoundsModel", name := "<init>", desc := "()V" } : MethodName)) ∈ gw := gw_3 127 (by decide +kernel) rfl
theorem wd_608 : (Cond.instanceMethod ({ cls := "CountRoundsModel", name := "<init>", desc := "()V" } : MethodName)) ∈ gw := gw_3 128 (by decide +kernel) rfl
theorem wd_609 : (Cond.code ({ cls := "CountRoundsModel", name := "<init>", desc := "()V" } : MethodName) prog_6_method_1_code 1 (Option.none : Option FieldType)) ∈ gw := gw_3 129 rfl rfl
theorem wd_610 : (Cond.methodLink "CountRoundsModel" 1 ({ cls := "java/lang/Object", name := "<init>", desc := "()V" } : MethodName)) ∈ gw := gw_3 130 (by decide +kernel) rfl
theorem wd_611 : (Cond.fieldLink "CountRoundsModel" 74 "CountRoundsModel" "code" "I") ∈ gw := gw_3 131 (by decide +kernel) rfl
theorem wd_612 : (Cond.fieldLink "CountRoundsModel" 102 "CountRoundsModel" "today" "I") ∈ gw := gw_3 132 (by decide +kernel) rfl
theorem wd_613 : (Cond.fieldLink "CountRoundsModel" 99 "CountRoundsModel" "wait" "I") ∈ gw := gw_3 133 (by decide +kernel) rfl
theorem wd_614 : (Cond.fieldLink "CountRoundsModel" 78 "CountRoundsModel" "places" "I") ∈ gw := gw_3 134 (by decide +kernel) rfl
theorem wd_615 : (Cond.fieldLink "CountRoundsModel" 7 "CountRoundsModel" "classOf" "[I") ∈ gw := gw_3 135 (by decide +kernel) rfl
theorem wd_616 : (Cond.fieldLink "CountRoundsModel" 13 "CountRoundsModel" "lastDay" "[I") ∈ gw := gw_3 136 (by decide +kernel) rfl
theorem wd_617 : (Cond.fieldLink "CountRoundsModel" 16 "CountRoundsModel" "booked" "[I") ∈ gw := gw_3 137 (by decide +kernel) rfl
theorem wd_618 : (Cond.fieldLink "CountRoundsModel" 19 "CountRoundsModel" "cycles" "[I") ∈ gw := gw_3 138 (by decide +kernel) rfl
theorem wd_619 : (Cond.fieldLink "CountRoundsModel" 22 "CountRoundsModel" "tolerances" "[I") ∈ gw := gw_3 139 (by decide +kernel) rfl
theorem wd_620 : (Cond.fieldLink "CountRoundsModel" 25 "CountRoundsModel" "rights" "[I") ∈ gw := gw_3 140 (by decide +kernel) rfl
theorem wd_621 : (Cond.fieldLink "CountRoundsModel" 105 "CountRoundsModel" "moves" "I") ∈ gw := gw_3 141 (by decide +kernel) rfl
theorem wd_622 : (Cond.fieldLink "CountRoundsModel" 28 "CountRoundsModel" "moveFrom" "[I") ∈ gw := gw_3 142 (by decide +kernel) rfl
theorem wd_623 : (Cond.fieldLink "CountRoundsModel" 31 "CountRoundsModel" "moveTo" "[I") ∈ gw := gw_3 143 (by decide +kernel) rfl
theorem wd_624 : (Cond.fieldLink "CountRoundsModel" 34 "CountRoundsModel" "moveGood" "[I") ∈ gw := gw_3 144 (by decide +kernel) rfl
theorem wd_625 : (Cond.fieldLink "CountRoundsModel" 37 "CountRoundsModel" "moveMany" "[I") ∈ gw := gw_3 145 (by decide +kernel) rfl
theorem wd_626 : (Cond.fieldLink "CountRoundsModel" 40 "CountRoundsModel" "ended" "[Z") ∈ gw := gw_3 146 (by decide +kernel) rfl
theorem wd_627 : (Cond.fieldLink "CountRoundsModel" 85 "CountRoundsModel" "counts" "I") ∈ gw := gw_3 147 (by decide +kernel) rfl
theorem wd_628 : (Cond.fieldLink "CountRoundsModel" 44 "CountRoundsModel" "state" "[I") ∈ gw := gw_3 148 (by decide +kernel) rfl
theorem wd_629 : (Cond.fieldLink "CountRoundsModel" 47 "CountRoundsModel" "size" "[I") ∈ gw := gw_3 149 (by decide +kernel) rfl
theorem wd_630 : (Cond.fieldLink "CountRoundsModel" 50 "CountRoundsModel" "tellings" "[I") ∈ gw := gw_3 150 (by decide +kernel) rfl
theorem wd_631 : (Cond.fieldLink "CountRoundsModel" 53 "CountRoundsModel" "placeAt" "[I") ∈ gw := gw_3 151 (by decide +kernel) rfl
theorem wd_632 : (Cond.fieldLink "CountRoundsModel" 56 "CountRoundsModel" "noted" "[I") ∈ gw := gw_3 152 (by decide +kernel) rfl
theorem wd_633 : (Cond.fieldLink "CountRoundsModel" 59 "CountRoundsModel" "first" "[I") ∈ gw := gw_3 153 (by decide +kernel) rfl
theorem wd_634 : (Cond.fieldLink "CountRoundsModel" 62 "CountRoundsModel" "second" "[I") ∈ gw := gw_3 154 (by decide +kernel) rfl
theorem wd_635 : (Cond.fieldLink "CountRoundsModel" 65 "CountRoundsModel" "tellers" "[I") ∈ gw := gw_3 155 (by decide +kernel) rfl
theorem wd_636 : (Cond.fieldLink "CountRoundsModel" 68 "CountRoundsModel" "marks" "[I") ∈ gw := gw_3 156 (by decide +kernel) rfl
theorem wd_637 : (Cond.fieldLink "CountRoundsModel" 158 "CountRoundsModel" "counted" "I") ∈ gw := gw_3 157 (by decide +kernel) rfl
theorem wd_638 : (Cond.fieldLink "CountRoundsModel" 161 "CountRoundsModel" "right" "I") ∈ gw := gw_3 158 (by decide +kernel) rfl
theorem wd_639 : (Cond.fieldLink "CountRoundsModel" 71 "CountRoundsModel" "left" "[Z") ∈ gw := gw_3 159 (by decide +kernel) rfl
theorem wd_640 : (Cond.lays "CountRoundsModel" "CountRoundsModel" "code" "I") ∈ gw := gw_3 160 (by decide +kernel) rfl
theorem wd_642 : (Cond.lays "CountRoundsModel" "CountRoundsModel" "today" "I") ∈ gw := gw_3 162 (by decide +kernel) rfl
theorem wd_644 : (Cond.lays "CountRoundsModel" "CountRoundsModel" "wait" "I") ∈ gw := gw_3 164 (by decide +kernel) rfl
theorem wd_646 : (Cond.lays "CountRoundsModel" "CountRoundsModel" "places" "I") ∈ gw := gw_3 166 (by decide +kernel) rfl
theorem wd_648 : (Cond.laysFinal "CountRoundsModel" "CountRoundsModel" "classOf" "[I") ∈ gw := gw_3 168 (by decide +kernel) rfl
theorem wd_650 : (Cond.laysFinal "CountRoundsModel" "CountRoundsModel" "lastDay" "[I") ∈ gw := gw_3 170 (by decide +kernel) rfl
theorem wd_652 : (Cond.laysFinal "CountRoundsModel" "CountRoundsModel" "booked" "[I") ∈ gw := gw_3 172 (by decide +kernel) rfl
theorem wd_654 : (Cond.laysFinal "CountRoundsModel" "CountRoundsModel" "cycles" "[I") ∈ gw := gw_3 174 (by decide +kernel) rfl
theorem wd_656 : (Cond.laysFinal "CountRoundsModel" "CountRoundsModel" "tolerances" "[I") ∈ gw := gw_3 176 (by decide +kernel) rfl
theorem wd_658 : (Cond.laysFinal "CountRoundsModel" "CountRoundsModel" "rights" "[I") ∈ gw := gw_3 178 (by decide +kernel) rfl
theorem wd_660 : (Cond.lays "CountRoundsModel" "CountRoundsModel" "moves" "I") ∈ gw := gw_3 180 (by decide +kernel) rfl
theorem wd_662 : (Cond.laysFinal "CountRoundsModel" "CountRoundsModel" "moveFrom" "[I") ∈ gw := gw_3 182 (by decide +kernel) rfl
theorem wd_664 : (Cond.laysFinal "CountRoundsModel" "CountRoundsModel" "moveTo" "[I") ∈ gw := gw_3 184 (by decide +kernel) rfl
theorem wd_666 : (Cond.laysFinal "CountRoundsModel" "CountRoundsModel" "moveGood" "[I") ∈ gw := gw_3 186 (by decide +kernel) rfl
theorem wd_668 : (Cond.laysFinal "CountRoundsModel" "CountRoundsModel" "moveMany" "[I") ∈ gw := gw_3 188 (by decide +kernel) rfl
theorem wd_670 : (Cond.laysFinal "CountRoundsModel" "CountRoundsModel" "ended" "[Z") ∈ gw := gw_3 190 (by decide +kernel) rfl
theorem wd_672 : (Cond.lays "CountRoundsModel" "CountRoundsModel" "counts" "I") ∈ gw := gw_3 192 (by decide +kernel) rfl
theorem wd_674 : (Cond.laysFinal "CountRoundsModel" "CountRoundsModel" "state" "[I") ∈ gw := gw_3 194 (by decide +kernel) rfl
theorem wd_676 : (Cond.laysFinal "CountRoundsModel" "CountRoundsModel" "size" "[I") ∈ gw := gw_3 196 (by decide +kernel) rfl
theorem wd_678 : (Cond.laysFinal "CountRoundsModel" "CountRoundsModel" "tellings" "[I") ∈ gw := gw_3 198 (by decide +kernel) rfl
theorem wd_680 : (Cond.laysFinal "CountRoundsModel" "CountRoundsModel" "placeAt" "[I") ∈ gw := gw_3 200 (by decide +kernel) rfl
theorem wd_682 : (Cond.laysFinal "CountRoundsModel" "CountRoundsModel" "noted" "[I") ∈ gw := gw_3 202 (by decide +kernel) rfl
theorem wd_684 : (Cond.laysFinal "CountRoundsModel" "CountRoundsModel" "first" "[I") ∈ gw := gw_3 204 (by decide +kernel) rfl
theorem wd_686 : (Cond.laysFinal "CountRoundsModel" "CountRoundsModel" "second" "[I") ∈ gw := gw_3 206 (by decide +kernel) rfl
theorem wd_688 : (Cond.laysFinal "CountRoundsModel" "CountRoundsModel" "tellers" "[I") ∈ gw := gw_3 208 (by decide +kernel) rfl
theorem wd_690 : (Cond.laysFinal "CountRoundsModel" "CountRoundsModel" "marks" "[I") ∈ gw := gw_3 210 (by decide +kernel) rfl
theorem wd_692 : (Cond.lays "CountRoundsModel" "CountRoundsModel" "counted" "I") ∈ gw := gw_3 212 (by decide +kernel) rfl
theorem wd_694 : (Cond.lays "CountRoundsModel" "CountRoundsModel" "right" "I") ∈ gw := gw_3 214 (by decide +kernel) rfl
theorem wd_696 : (Cond.laysFinal "CountRoundsModel" "CountRoundsModel" "left" "[Z") ∈ gw := gw_3 216 (by decide +kernel) rfl
theorem wd_699 : (Cond.methodLink "CountRoundsLaw" 102 ({ cls := "CountRoundsModel", name := "thrown", desc := "()I" } : MethodName)) ∈ gw := gw_3 219 (by decide +kernel) rfl
theorem wd_700 : (Cond.instanceMethod ({ cls := "CountRoundsModel", name := "thrown", desc := "()I" } : MethodName)) ∈ gw := gw_3 220 (by decide +kernel) rfl
theorem wd_701 : (Cond.selects "CountRoundsModel" ({ cls := "CountRoundsModel", name := "thrown", desc := "()I" } : MethodName) ({ cls := "CountRoundsModel", name := "thrown", desc := "()I" } : MethodName)) ∈ gw := gw_3 221 (by decide +kernel) rfl
theorem wd_702 : (Cond.code ({ cls := "CountRoundsModel", name := "thrown", desc := "()I" } : MethodName) prog_6_method_2_code 1 (Option.some FieldType.int)) ∈ gw := gw_3 222 rfl rfl
theorem wd_703 : (Cond.methodLink "CountRoundsLaw" 101 ({ cls := "CountRoundsModel", name := "place", desc := "(I)I" } : MethodName)) ∈ gw := gw_3 223 (by decide +kernel) rfl
theorem wd_704 : (Cond.instanceMethod ({ cls := "CountRoundsModel", name := "place", desc := "(I)I" } : MethodName)) ∈ gw := gw_3 224 (by decide +kernel) rfl
theorem wd_705 : (Cond.selects "CountRoundsModel" ({ cls := "CountRoundsModel", name := "place", desc := "(I)I" } : MethodName) ({ cls := "CountRoundsModel", name := "place", desc := "(I)I" } : MethodName)) ∈ gw := gw_3 225 (by decide +kernel) rfl
theorem wd_706 : (Cond.code ({ cls := "CountRoundsModel", name := "place", desc := "(I)I" } : MethodName) prog_6_method_8_code 2 (Option.some FieldType.int)) ∈ gw := gw_3 226 rfl rfl
theorem wd_707 : (Cond.methodLink "CountRoundsModel" 81 ({ cls := "CountRoundsModel", name := "in", desc := "(III)Z" } : MethodName)) ∈ gw := gw_3 227 (by decide +kernel) rfl
theorem wd_708 : (Cond.static ({ cls := "CountRoundsModel", name := "in", desc := "(III)Z" } : MethodName)) ∈ gw := gw_3 228 (by decide +kernel) rfl
theorem wd_709 : (Cond.code ({ cls := "CountRoundsModel", name := "in", desc := "(III)Z" } : MethodName) prog_6_method_3_code 3 (Option.some FieldType.boolean)) ∈ gw := gw_3 229 rfl rfl
theorem wd_710 : (Cond.methodLink "CountRoundsLaw" 109 ({ cls := "CountRoundsModel", name := "stock", desc := "(III)V" } : MethodName)) ∈ gw := gw_3 230 (by decide +kernel) rfl
theorem wd_711 : (Cond.instanceMethod ({ cls := "CountRoundsModel", name := "stock", desc := "(III)V" } : MethodName)) ∈ gw := gw_3 231 (by decide +kernel) rfl
theorem wd_712 : (Cond.selects "CountRoundsModel" ({ cls := "CountRoundsModel", name := "stock", desc := "(III)V" } : MethodName) ({ cls := "CountRoundsModel", name := "stock", desc := "(III)V" } : MethodName)) ∈ gw := gw_3 232 (by decide +kernel) rfl
theorem wd_713 : (Cond.code ({ cls := "CountRoundsModel", name := "stock", desc := "(III)V" } : MethodName) prog_6_method_9_code 4 (Option.none : Option FieldType)) ∈ gw := gw_3 233 rfl rfl
theorem wd_714 : (Cond.methodLink "CountRoundsModel" 88 ({ cls := "CountRoundsModel", name := "isPlace", desc := "(I)Z" } : MethodName)) ∈ gw := gw_3 234 (by decide +kernel) rfl
theorem wd_716 : (Cond.instanceMethod ({ cls := "CountRoundsModel", name := "isPlace", desc := "(I)Z" } : MethodName)) ∈ gw := gw_3 236 (by decide +kernel) rfl
theorem wd_717 : (Cond.code ({ cls := "CountRoundsModel", name := "isPlace", desc := "(I)Z" } : MethodName) prog_6_method_4_code 2 (Option.some FieldType.boolean)) ∈ gw := gw_3 237 rfl rfl
theorem wd_718 : (Cond.methodLink "CountRoundsModel" 92 ({ cls := "CountRoundsModel", name := "isGood", desc := "(I)Z" } : MethodName)) ∈ gw := gw_3 238 (by decide +kernel) rfl
theorem wd_719 : (Cond.static ({ cls := "CountRoundsModel", name := "isGood", desc := "(I)Z" } : MethodName)) ∈ gw := gw_3 239 (by decide +kernel) rfl
theorem wd_720 : (Cond.code ({ cls := "CountRoundsModel", name := "isGood", desc := "(I)Z" } : MethodName) prog_6_method_5_code 1 (Option.some FieldType.boolean)) ∈ gw := gw_4 0 rfl rfl
theorem wd_721 : (Cond.constant "CountRoundsModel" 95 (1000000 : Int32)) ∈ gw := gw_4 1 (by decide +kernel) rfl
theorem wd_722 : (Cond.methodLink "CountRoundsLaw" 112 ({ cls := "CountRoundsModel", name := "cycle", desc := "(III)V" } : MethodName)) ∈ gw := gw_4 2 (by decide +kernel) rfl
theorem wd_723 : (Cond.instanceMethod ({ cls := "CountRoundsModel", name := "cycle", desc := "(III)V" } : MethodName)) ∈ gw := gw_4 3 (by decide +kernel) rfl
theorem wd_724 : (Cond.selects "CountRoundsModel" ({ cls := "CountRoundsModel", name := "cycle", desc := "(III)V" } : MethodName) ({ cls := "CountRoundsModel", name := "cycle", desc := "(III)V" } : MethodName)) ∈ gw := gw_4 4 (by decide +kernel) rfl
theorem wd_725 : (Cond.code ({ cls := "CountRoundsModel", name := "cycle", desc := "(III)V" } : MethodName) prog_6_method_10_code 4 (Option.none : Option FieldType)) ∈ gw := gw_4 5 rfl rfl
theorem wd_726 : (Cond.methodLink "CountRoundsLaw" 116 ({ cls := "CountRoundsModel", name := "right", desc := "(II)V" } : MethodName)) ∈ gw := gw_4 6 (by decide +kernel) rfl
theorem wd_727 : (Cond.instanceMethod ({ cls := "CountRoundsModel", name := "right", desc := "(II)V" } : MethodName)) ∈ gw := gw_4 7 (by decide +kernel) rfl
theorem wd_728 : (Cond.selects "CountRoundsModel" ({ cls := "CountRoundsModel", name := "right", desc := "(II)V" } : MethodName) ({ cls := "CountRoundsModel", name := "right", desc := "(II)V" } : MethodName)) ∈ gw := gw_4 8 (by decide +kernel) rfl
theorem wd_729 : (Cond.code ({ cls := "CountRoundsModel", name := "right", desc := "(II)V" } : MethodName) prog_6_method_11_code 3 (Option.none : Option FieldType)) ∈ gw := gw_4 9 rfl rfl
theorem wd_730 : (Cond.methodLink "CountRoundsModel" 96 ({ cls := "CountRoundsModel", name := "isPerson", desc := "(I)Z" } : MethodName)) ∈ gw := gw_4 10 (by decide +kernel) rfl
theorem wd_731 : (Cond.static ({ cls := "CountRoundsModel", name := "isPerson", desc := "(I)Z" } : MethodName)) ∈ gw := gw_4 11 (by decide +kernel) rfl
theorem wd_732 : (Cond.code ({ cls := "CountRoundsModel", name := "isPerson", desc := "(I)Z" } : MethodName) prog_6_method_6_code 1 (Option.some FieldType.boolean)) ∈ gw := gw_4 12 rfl rfl
theorem wd_733 : (Cond.methodLink "CountRoundsLaw" 120 ({ cls := "CountRoundsModel", name := "setting", desc := "(I)V" } : MethodName)) ∈ gw := gw_4 13 (by decide +kernel) rfl
theorem wd_734 : (Cond.instanceMethod ({ cls := "CountRoundsModel", name := "setting", desc := "(I)V" } : MethodName)) ∈ gw := gw_4 14 (by decide +kernel) rfl
theorem wd_735 : (Cond.selects "CountRoundsModel" ({ cls := "CountRoundsModel", name := "setting", desc := "(I)V" } : MethodName) ({ cls := "CountRoundsModel", name := "setting", desc := "(I)V" } : MethodName)) ∈ gw := gw_4 15 (by decide +kernel) rfl
theorem wd_736 : (Cond.code ({ cls := "CountRoundsModel", name := "setting", desc := "(I)V" } : MethodName) prog_6_method_12_code 2 (Option.none : Option FieldType)) ∈ gw := gw_4 16 rfl rfl
theorem wd_737 : (Cond.methodLink "CountRoundsLaw" 123 ({ cls := "CountRoundsModel", name := "day", desc := "(I)V" } : MethodName)) ∈ gw := gw_4 17 (by decide +kernel) rfl
theorem wd_738 : (Cond.instanceMethod ({ cls := "CountRoundsModel", name := "day", desc := "(I)V" } : MethodName)) ∈ gw := gw_4 18 (by decide +kernel) rfl
theorem wd_739 : (Cond.selects "CountRoundsModel" ({ cls := "CountRoundsModel", name := "day", desc := "(I)V" } : MethodName) ({ cls := "CountRoundsModel", name := "day", desc := "(I)V" } : MethodName)) ∈ gw := gw_4 19 (by decide +kernel) rfl
theorem wd_740 : (Cond.code ({ cls := "CountRoundsModel", name := "day", desc := "(I)V" } : MethodName) prog_6_method_13_code 2 (Option.none : Option FieldType)) ∈ gw := gw_4 20 rfl rfl
theorem wd_741 : (Cond.methodLink "CountRoundsLaw" 127 ({ cls := "CountRoundsModel", name := "move", desc := "(IIII)I" } : MethodName)) ∈ gw := gw_4 21 (by decide +kernel) rfl
theorem wd_742 : (Cond.instanceMethod ({ cls := "CountRoundsModel", name := "move", desc := "(IIII)I" } : MethodName)) ∈ gw := gw_4 22 (by decide +kernel) rfl
theorem wd_743 : (Cond.selects "CountRoundsModel" ({ cls := "CountRoundsModel", name := "move", desc := "(IIII)I" } : MethodName) ({ cls := "CountRoundsModel", name := "move", desc := "(IIII)I" } : MethodName)) ∈ gw := gw_4 23 (by decide +kernel) rfl
theorem wd_744 : (Cond.code ({ cls := "CountRoundsModel", name := "move", desc := "(IIII)I" } : MethodName) prog_6_method_14_code 5 (Option.some FieldType.int)) ∈ gw := gw_4 24 rfl rfl
theorem wd_745 : (Cond.methodLink "CountRoundsLaw" 130 ({ cls := "CountRoundsModel", name := "end", desc := "(I)V" } : MethodName)) ∈ gw := gw_4 25 (by decide +kernel) rfl
theorem wd_746 : (Cond.instanceMethod ({ cls := "CountRoundsModel", name := "end", desc := "(I)V" } : MethodName)) ∈ gw := gw_4 26 (by decide +kernel) rfl
theorem wd_747 : (Cond.selects "CountRoundsModel" ({ cls := "CountRoundsModel", name := "end", desc := "(I)V" } : MethodName) ({ cls := "CountRoundsModel", name := "end", desc := "(I)V" } : MethodName)) ∈ gw := gw_4 27 (by decide +kernel) rfl
theorem wd_748 : (Cond.code ({ cls := "CountRoundsModel", name := "end", desc := "(I)V" } : MethodName) prog_6_method_15_code 3 (Option.none : Option FieldType)) ∈ gw := gw_4 28 rfl rfl
theorem wd_749 : (Cond.methodLink "CountRoundsLaw" 133 ({ cls := "CountRoundsModel", name := "moves", desc := "(I)I" } : MethodName)) ∈ gw := gw_4 29 (by decide +kernel) rfl
theorem wd_750 : (Cond.instanceMethod ({ cls := "CountRoundsModel", name := "moves", desc := "(I)I" } : MethodName)) ∈ gw := gw_4 30 (by decide +kernel) rfl
theorem wd_751 : (Cond.selects "CountRoundsModel" ({ cls := "CountRoundsModel", name := "moves", desc := "(I)I" } : MethodName) ({ cls := "CountRoundsModel", name := "moves", desc := "(I)I" } : MethodName)) ∈ gw := gw_4 31 (by decide +kernel) rfl
theorem wd_752 : (Cond.code ({ cls := "CountRoundsModel", name := "moves", desc := "(I)I" } : MethodName) prog_6_method_17_code 2 (Option.some FieldType.int)) ∈ gw := gw_4 32 rfl rfl
theorem wd_753 : (Cond.methodLink "CountRoundsModel" 108 ({ cls := "CountRoundsModel", name := "openAt", desc := "(I)I" } : MethodName)) ∈ gw := gw_4 33 (by decide +kernel) rfl
theorem wd_755 : (Cond.instanceMethod ({ cls := "CountRoundsModel", name := "openAt", desc := "(I)I" } : MethodName)) ∈ gw := gw_4 35 (by decide +kernel) rfl
theorem wd_756 : (Cond.code ({ cls := "CountRoundsModel", name := "openAt", desc := "(I)I" } : MethodName) prog_6_method_16_code 4 (Option.some FieldType.int)) ∈ gw := gw_4 36 rfl rfl
theorem wd_757 : (Cond.methodLink "CountRoundsLaw" 139 ({ cls := "CountRoundsModel", name := "round", desc := "(IIJ)I" } : MethodName)) ∈ gw := gw_4 37 (by decide +kernel) rfl
theorem wd_758 : (Cond.instanceMethod ({ cls := "CountRoundsModel", name := "round", desc := "(IIJ)I" } : MethodName)) ∈ gw := gw_4 38 (by decide +kernel) rfl
theorem wd_759 : (Cond.selects "CountRoundsModel" ({ cls := "CountRoundsModel", name := "round", desc := "(IIJ)I" } : MethodName) ({ cls := "CountRoundsModel", name := "round", desc := "(IIJ)I" } : MethodName)) ∈ gw := gw_4 39 (by decide +kernel) rfl
theorem wd_760 : (Cond.code ({ cls := "CountRoundsModel", name := "round", desc := "(IIJ)I" } : MethodName) prog_6_method_21_code 10 (Option.some FieldType.int)) ∈ gw := gw_4 40 rfl rfl
theorem wd_761 : (Cond.methodLink "CountRoundsModel" 112 ({ cls := "CountRoundsModel", name := "isBusy", desc := "(I)Z" } : MethodName)) ∈ gw := gw_4 41 (by decide +kernel) rfl
theorem wd_763 : (Cond.instanceMethod ({ cls := "CountRoundsModel", name := "isBusy", desc := "(I)Z" } : MethodName)) ∈ gw := gw_4 43 (by decide +kernel) rfl
theorem wd_764 : (Cond.code ({ cls := "CountRoundsModel", name := "isBusy", desc := "(I)Z" } : MethodName) prog_6_method_18_code 4 (Option.some FieldType.boolean)) ∈ gw := gw_4 44 rfl rfl
theorem wd_765 : (Cond.constantLong "CountRoundsModel" 115 (6364136223846793005 : Int64)) ∈ gw := gw_4 45 (by decide +kernel) rfl
theorem wd_766 : (Cond.constantLong "CountRoundsModel" 117 (1442695040888963407 : Int64)) ∈ gw := gw_4 46 (by decide +kernel) rfl
theorem wd_767 : (Cond.methodLink "CountRoundsModel" 119 ({ cls := "CountRoundsModel", name := "byRank", desc := "()I" } : MethodName)) ∈ gw := gw_4 47 (by decide +kernel) rfl
theorem wd_769 : (Cond.instanceMethod ({ cls := "CountRoundsModel", name := "byRank", desc := "()I" } : MethodName)) ∈ gw := gw_4 49 (by decide +kernel) rfl
theorem wd_770 : (Cond.code ({ cls := "CountRoundsModel", name := "byRank", desc := "()I" } : MethodName) prog_6_method_19_code 3 (Option.some FieldType.int)) ∈ gw := gw_4 50 rfl rfl
theorem wd_771 : (Cond.methodLink "CountRoundsModel" 123 ({ cls := "CountRoundsModel", name := "byNumber", desc := "(I)I" } : MethodName)) ∈ gw := gw_4 51 (by decide +kernel) rfl
theorem wd_773 : (Cond.instanceMethod ({ cls := "CountRoundsModel", name := "byNumber", desc := "(I)I" } : MethodName)) ∈ gw := gw_4 53 (by decide +kernel) rfl
theorem wd_774 : (Cond.code ({ cls := "CountRoundsModel", name := "byNumber", desc := "(I)I" } : MethodName) prog_6_method_20_code 4 (Option.some FieldType.int)) ∈ gw := gw_4 54 rfl rfl
theorem wd_775 : (Cond.methodLink "CountRoundsLaw" 142 ({ cls := "CountRoundsModel", name := "freeze", desc := "(I)I" } : MethodName)) ∈ gw := gw_4 55 (by decide +kernel) rfl
theorem wd_776 : (Cond.instanceMethod ({ cls := "CountRoundsModel", name := "freeze", desc := "(I)I" } : MethodName)) ∈ gw := gw_4 56 (by decide +kernel) rfl
theorem wd_777 : (Cond.selects "CountRoundsModel" ({ cls := "CountRoundsModel", name := "freeze", desc := "(I)I" } : MethodName) ({ cls := "CountRoundsModel", name := "freeze", desc := "(I)I" } : MethodName)) ∈ gw := gw_4 57 (by decide +kernel) rfl
theorem wd_778 : (Cond.code ({ cls := "CountRoundsModel", name := "freeze", desc := "(I)I" } : MethodName) prog_6_method_23_code 6 (Option.some FieldType.int)) ∈ gw := gw_4 58 rfl rfl
theorem wd_779 : (Cond.methodLink "CountRoundsModel" 126 ({ cls := "CountRoundsModel", name := "isCount", desc := "(I)Z" } : MethodName)) ∈ gw := gw_4 59 (by decide +kernel) rfl
theorem wd_781 : (Cond.instanceMethod ({ cls := "CountRoundsModel", name := "isCount", desc := "(I)Z" } : MethodName)) ∈ gw := gw_4 61 (by decide +kernel) rfl
theorem wd_782 : (Cond.code ({ cls := "CountRoundsModel", name := "isCount", desc := "(I)Z" } : MethodName) prog_6_method_7_code 2 (Option.some FieldType.boolean)) ∈ gw := gw_4 62 rfl rfl
theorem wd_783 : (Cond.methodLink "CountRoundsModel" 129 ({ cls := "CountRoundsModel", name := "coming", desc := "(II)I" } : MethodName)) ∈ gw := gw_4 63 (by decide +kernel) rfl
theorem wd_785 : (Cond.instanceMethod ({ cls := "CountRoundsModel", name := "coming", desc := "(II)I" } : MethodName)) ∈ gw := gw_4 65 (by decide +kernel) rfl
theorem wd_786 : (Cond.code ({ cls := "CountRoundsModel", name := "coming", desc := "(II)I" } : MethodName) prog_6_method_22_code 5 (Option.some FieldType.int)) ∈ gw := gw_4 66 rfl rfl
theorem wd_787 : (Cond.methodLink "CountRoundsLaw" 146 ({ cls := "CountRoundsModel", name := "found", desc := "(IIIII)I" } : MethodName)) ∈ gw := gw_4 67 (by decide +kernel) rfl
theorem wd_788 : (Cond.instanceMethod ({ cls := "CountRoundsModel", name := "found", desc := "(IIIII)I" } : MethodName)) ∈ gw := gw_4 68 (by decide +kernel) rfl
theorem wd_789 : (Cond.selects "CountRoundsModel" ({ cls := "CountRoundsModel", name := "found", desc := "(IIIII)I" } : MethodName) ({ cls := "CountRoundsModel", name := "found", desc := "(IIIII)I" } : MethodName)) ∈ gw := gw_4 69 (by decide +kernel) rfl
theorem wd_790 : (Cond.code ({ cls := "CountRoundsModel", name := "found", desc := "(IIIII)I" } : MethodName) prog_6_method_25_code 8 (Option.some FieldType.int)) ∈ gw := gw_4 70 rfl rfl
theorem wd_791 : (Cond.methodLink "CountRoundsModel" 133 ({ cls := "CountRoundsModel", name := "slot", desc := "(II)I" } : MethodName)) ∈ gw := gw_4 71 (by decide +kernel) rfl
theorem wd_793 : (Cond.instanceMethod ({ cls := "CountRoundsModel", name := "slot", desc := "(II)I" } : MethodName)) ∈ gw := gw_4 73 (by decide +kernel) rfl
theorem wd_794 : (Cond.code ({ cls := "CountRoundsModel", name := "slot", desc := "(II)I" } : MethodName) prog_6_method_24_code 4 (Option.some FieldType.int)) ∈ gw := gw_4 74 rfl rfl
theorem wd_795 : (Cond.methodLink "CountRoundsModel" 136 ({ cls := "CountRoundsModel", name := "firstBy", desc := "(I)I" } : MethodName)) ∈ gw := gw_4 75 (by decide +kernel) rfl
theorem wd_797 : (Cond.instanceMethod ({ cls := "CountRoundsModel", name := "firstBy", desc := "(I)I" } : MethodName)) ∈ gw := gw_4 77 (by decide +kernel) rfl
theorem wd_798 : (Cond.code ({ cls := "CountRoundsModel", name := "firstBy", desc := "(I)I" } : MethodName) prog_6_method_26_code 2 (Option.some FieldType.int)) ∈ gw := gw_4 78 rfl rfl
theorem wd_799 : (Cond.methodLink "CountRoundsModel" 139 ({ cls := "CountRoundsModel", name := "secondBy", desc := "(I)I" } : MethodName)) ∈ gw := gw_4 79 (by decide +kernel) rfl
theorem wd_801 : (Cond.instanceMethod ({ cls := "CountRoundsModel", name := "secondBy", desc := "(I)I" } : MethodName)) ∈ gw := gw_4 81 (by decide +kernel) rfl
theorem wd_802 : (Cond.code ({ cls := "CountRoundsModel", name := "secondBy", desc := "(I)I" } : MethodName) prog_6_method_27_code 2 (Option.some FieldType.int)) ∈ gw := gw_4 82 rfl rfl
theorem wd_803 : (Cond.methodLink "CountRoundsLaw" 150 ({ cls := "CountRoundsModel", name := "second", desc := "(III)Z" } : MethodName)) ∈ gw := gw_4 83 (by decide +kernel) rfl
theorem wd_804 : (Cond.instanceMethod ({ cls := "CountRoundsModel", name := "second", desc := "(III)Z" } : MethodName)) ∈ gw := gw_4 84 (by decide +kernel) rfl
theorem wd_805 : (Cond.selects "CountRoundsModel" ({ cls := "CountRoundsModel", name := "second", desc := "(III)Z" } : MethodName) ({ cls := "CountRoundsModel", name := "second", desc := "(III)Z" } : MethodName)) ∈ gw := gw_4 85 (by decide +kernel) rfl
theorem wd_806 : (Cond.code ({ cls := "CountRoundsModel", name := "second", desc := "(III)Z" } : MethodName) prog_6_method_29_code 6 (Option.some FieldType.boolean)) ∈ gw := gw_4 86 rfl rfl
theorem wd_807 : (Cond.methodLink "CountRoundsModel" 142 ({ cls := "CountRoundsModel", name := "far", desc := "(II)I" } : MethodName)) ∈ gw := gw_4 87 (by decide +kernel) rfl
theorem wd_808 : (Cond.static ({ cls := "CountRoundsModel", name := "far", desc := "(II)I" } : MethodName)) ∈ gw := gw_4 88 (by decide +kernel) rfl
theorem wd_809 : (Cond.code ({ cls := "CountRoundsModel", name := "far", desc := "(II)I" } : MethodName) prog_6_method_28_code 2 (Option.some FieldType.int)) ∈ gw := gw_4 89 rfl rfl
theorem wd_810 : (Cond.methodLink "CountRoundsLaw" 153 ({ cls := "CountRoundsModel", name := "close", desc := "(I)I" } : MethodName)) ∈ gw := gw_4 90 (by decide +kernel) rfl
theorem wd_811 : (Cond.instanceMethod ({ cls := "CountRoundsModel", name := "close", desc := "(I)I" } : MethodName)) ∈ gw := gw_4 91 (by decide +kernel) rfl
theorem wd_812 : (Cond.selects "CountRoundsModel" ({ cls := "CountRoundsModel", name := "close", desc := "(I)I" } : MethodName) ({ cls := "CountRoundsModel", name := "close", desc := "(I)I" } : MethodName)) ∈ gw := gw_4 92 (by decide +kernel) rfl
theorem wd_813 : (Cond.code ({ cls := "CountRoundsModel", name := "close", desc := "(I)I" } : MethodName) prog_6_method_30_code 3 (Option.some FieldType.int)) ∈ gw := gw_4 93 rfl rfl
theorem wd_814 : (Cond.methodLink "CountRoundsModel" 145 ({ cls := "CountRoundsModel", name := "closePlace", desc := "(II)V" } : MethodName)) ∈ gw := gw_4 94 (by decide +kernel) rfl
theorem wd_816 : (Cond.instanceMethod ({ cls := "CountRoundsModel", name := "closePlace", desc := "(II)V" } : MethodName)) ∈ gw := gw_4 96 (by decide +kernel) rfl
theorem wd_817 : (Cond.code ({ cls := "CountRoundsModel", name := "closePlace", desc := "(II)V" } : MethodName) prog_6_method_33_code 7 (Option.none : Option FieldType)) ∈ gw := gw_4 97 rfl rfl
theorem wd_818 : (Cond.methodLink "CountRoundsModel" 152 ({ cls := "CountRoundsModel", name := "isTold", desc := "(II)Z" } : MethodName)) ∈ gw := gw_4 98 (by decide +kernel) rfl
theorem wd_820 : (Cond.instanceMethod ({ cls := "CountRoundsModel", name := "isTold", desc := "(II)Z" } : MethodName)) ∈ gw := gw_4 100 (by decide +kernel) rfl
theorem wd_821 : (Cond.code ({ cls := "CountRoundsModel", name := "isTold", desc := "(II)Z" } : MethodName) prog_6_method_32_code 5 (Option.some FieldType.boolean)) ∈ gw := gw_4 101 rfl rfl
theorem wd_822 : (Cond.methodLink "CountRoundsModel" 156 ({ cls := "CountRoundsModel", name := "counts", desc := "(I)I" } : MethodName)) ∈ gw := gw_4 102 (by decide +kernel) rfl
theorem wd_824 : (Cond.instanceMethod ({ cls := "CountRoundsModel", name := "counts", desc := "(I)I" } : MethodName)) ∈ gw := gw_4 104 (by decide +kernel) rfl
theorem wd_825 : (Cond.code ({ cls := "CountRoundsModel", name := "counts", desc := "(I)I" } : MethodName) prog_6_method_31_code 2 (Option.some FieldType.int)) ∈ gw := gw_4 105 rfl rfl
theorem wd_826 : (Cond.methodLink "CountRoundsModel" 149 ({ cls := "CountRoundsModel", name := "difference", desc := "(II)I" } : MethodName)) ∈ gw := gw_4 106 (by decide +kernel) rfl
theorem wd_828 : (Cond.instanceMethod ({ cls := "CountRoundsModel", name := "difference", desc := "(II)I" } : MethodName)) ∈ gw := gw_4 108 (by decide +kernel) rfl
theorem wd_829 : (Cond.code ({ cls := "CountRoundsModel", name := "difference", desc := "(II)I" } : MethodName) prog_6_method_34_code 7 (Option.some FieldType.int)) ∈ gw := gw_4 109 rfl rfl
theorem wd_830 : (Cond.methodLink "CountRoundsLaw" 156 ({ cls := "CountRoundsModel", name := "differ", desc := "(III)I" } : MethodName)) ∈ gw := gw_4 110 (by decide +kernel) rfl
theorem wd_831 : (Cond.instanceMethod ({ cls := "CountRoundsModel", name := "differ", desc := "(III)I" } : MethodName)) ∈ gw := gw_4 111 (by decide +kernel) rfl
theorem wd_832 : (Cond.selects "CountRoundsModel" ({ cls := "CountRoundsModel", name := "differ", desc := "(III)I" } : MethodName) ({ cls := "CountRoundsModel", name := "differ", desc := "(III)I" } : MethodName)) ∈ gw := gw_4 112 (by decide +kernel) rfl
theorem wd_833 : (Cond.code ({ cls := "CountRoundsModel", name := "differ", desc := "(III)I" } : MethodName) prog_6_method_36_code 5 (Option.some FieldType.int)) ∈ gw := gw_4 113 rfl rfl
theorem wd_834 : (Cond.methodLink "CountRoundsModel" 164 ({ cls := "CountRoundsModel", name := "bookedAt", desc := "(I)I" } : MethodName)) ∈ gw := gw_4 114 (by decide +kernel) rfl
theorem wd_836 : (Cond.instanceMethod ({ cls := "CountRoundsModel", name := "bookedAt", desc := "(I)I" } : MethodName)) ∈ gw := gw_4 116 (by decide +kernel) rfl
theorem wd_837 : (Cond.code ({ cls := "CountRoundsModel", name := "bookedAt", desc := "(I)I" } : MethodName) prog_6_method_35_code 2 (Option.some FieldType.int)) ∈ gw := gw_4 117 rfl rfl
theorem wd_838 : (Cond.methodLink "CountRoundsLaw" 159 ({ cls := "CountRoundsModel", name := "correct", desc := "(III)Z" } : MethodName)) ∈ gw := gw_4 118 (by decide +kernel) rfl
theorem wd_839 : (Cond.instanceMethod ({ cls := "CountRoundsModel", name := "correct", desc := "(III)Z" } : MethodName)) ∈ gw := gw_4 119 (by decide +kernel) rfl
theorem wd_840 : (Cond.selects "CountRoundsModel" ({ cls := "CountRoundsModel", name := "correct", desc := "(III)Z" } : MethodName) ({ cls := "CountRoundsModel", name := "correct", desc := "(III)Z" } : MethodName)) ∈ gw := gw_4 120 (by decide +kernel) rfl
theorem wd_841 : (Cond.code ({ cls := "CountRoundsModel", name := "correct", desc := "(III)Z" } : MethodName) prog_6_method_37_code 8 (Option.some FieldType.boolean)) ∈ gw := gw_4 121 rfl rfl
theorem wd_842 : (Cond.methodLink "CountRoundsLaw" 162 ({ cls := "CountRoundsModel", name := "share", desc := "(I)I" } : MethodName)) ∈ gw := gw_4 122 (by decide +kernel) rfl
theorem wd_843 : (Cond.instanceMethod ({ cls := "CountRoundsModel", name := "share", desc := "(I)I" } : MethodName)) ∈ gw := gw_4 123 (by decide +kernel) rfl
theorem wd_844 : (Cond.selects "CountRoundsModel" ({ cls := "CountRoundsModel", name := "share", desc := "(I)I" } : MethodName) ({ cls := "CountRoundsModel", name := "share", desc := "(I)I" } : MethodName)) ∈ gw := gw_4 124 (by decide +kernel) rfl
theorem wd_845 : (Cond.code ({ cls := "CountRoundsModel", name := "share", desc := "(I)I" } : MethodName) prog_6_method_39_code 3 (Option.some FieldType.int)) ∈ gw := gw_4 125 rfl rfl
theorem wd_846 : (Cond.methodLink "CountRoundsModel" 167 ({ cls := "CountRoundsModel", name := "divisor", desc := "(II)I" } : MethodName)) ∈ gw := gw_4 126 (by decide +kernel) rfl
theorem wd_847 : (Cond.static ({ cls := "CountRoundsModel", name := "divisor", desc := "(II)I" } : MethodName)) ∈ gw := gw_4 127 (by decide +kernel) rfl
theorem wd_848 : (Cond.code ({ cls := "CountRoundsModel", name := "divisor", desc := "(II)I" } : MethodName) prog_6_method_38_code 5 (Option.some FieldType.int)) ∈ gw := gw_4 128 rfl rfl
theorem wd_849 : (Cond.methodLink "CountRoundsLaw" 165 ({ cls := "CountRoundsModel", name := "last", desc := "(I)I" } : MethodName)) ∈ gw := gw_4 129 (by decide +kernel) rfl
theorem wd_850 : (Cond.instanceMethod ({ cls := "CountRoundsModel", name := "last", desc := "(I)I" } : MethodName)) ∈ gw := gw_4 130 (by decide +kernel) rfl
theorem wd_851 : (Cond.selects "CountRoundsModel" ({ cls := "CountRoundsModel", name := "last", desc := "(I)I" } : MethodName) ({ cls := "CountRoundsModel", name := "last", desc := "(I)I" } : MethodName)) ∈ gw := gw_4 131 (by decide +kernel) rfl
theorem wd_852 : (Cond.code ({ cls := "CountRoundsModel", name := "last", desc := "(I)I" } : MethodName) prog_6_method_40_code 2 (Option.some FieldType.int)) ∈ gw := gw_4 132 rfl rfl
theorem wd_853 : (Cond.methodLink "CountRoundsLaw" 168 ({ cls := "CountRoundsModel", name := "due", desc := "(I)I" } : MethodName)) ∈ gw := gw_4 133 (by decide +kernel) rfl
theorem wd_854 : (Cond.instanceMethod ({ cls := "CountRoundsModel", name := "due", desc := "(I)I" } : MethodName)) ∈ gw := gw_4 134 (by decide +kernel) rfl
theorem wd_855 : (Cond.selects "CountRoundsModel" ({ cls := "CountRoundsModel", name := "due", desc := "(I)I" } : MethodName) ({ cls := "CountRoundsModel", name := "due", desc := "(I)I" } : MethodName)) ∈ gw := gw_4 135 (by decide +kernel) rfl
theorem wd_856 : (Cond.code ({ cls := "CountRoundsModel", name := "due", desc := "(I)I" } : MethodName) prog_6_method_41_code 4 (Option.some FieldType.int)) ∈ gw := gw_4 136 rfl rfl
theorem wd_857 : (Cond.methodLink "CountRoundsLaw" 172 ({ cls := "CountRoundsModel", name := "booked", desc := "(II)I" } : MethodName)) ∈ gw := gw_4 137 (by decide +kernel) rfl
theorem wd_858 : (Cond.instanceMethod ({ cls := "CountRoundsModel", name := "booked", desc := "(II)I" } : MethodName)) ∈ gw := gw_4 138 (by decide +kernel) rfl
theorem wd_859 : (Cond.selects "CountRoundsModel" ({ cls := "CountRoundsModel", name := "booked", desc := "(II)I" } : MethodName) ({ cls := "CountRoundsModel", name := "booked", desc := "(II)I" } : MethodName)) ∈ gw := gw_4 139 (by decide +kernel) rfl
theorem wd_860 : (Cond.code ({ cls := "CountRoundsModel", name := "booked", desc := "(II)I" } : MethodName) prog_6_method_42_code 3 (Option.some FieldType.int)) ∈ gw := gw_4 140 rfl rfl
theorem wd_861 : (Cond.methodLink "CountRoundsLaw" 175 ({ cls := "CountRoundsModel", name := "told", desc := "(II)I" } : MethodName)) ∈ gw := gw_4 141 (by decide +kernel) rfl
theorem wd_862 : (Cond.instanceMethod ({ cls := "CountRoundsModel", name := "told", desc := "(II)I" } : MethodName)) ∈ gw := gw_4 142 (by decide +kernel) rfl
theorem wd_863 : (Cond.selects "CountRoundsModel" ({ cls := "CountRoundsModel", name := "told", desc := "(II)I" } : MethodName) ({ cls := "CountRoundsModel", name := "told", desc := "(II)I" } : MethodName)) ∈ gw := gw_4 143 (by decide +kernel) rfl
theorem wd_864 : (Cond.code ({ cls := "CountRoundsModel", name := "told", desc := "(II)I" } : MethodName) prog_6_method_43_code 3 (Option.some FieldType.int)) ∈ gw := gw_4 144 rfl rfl
theorem wd_865 : (Cond.methodLink "CountRoundsLaw" 179 ({ cls := "CountRoundsModel", name := "count", desc := "(I)I" } : MethodName)) ∈ gw := gw_4 145 (by decide +kernel) rfl
theorem wd_866 : (Cond.instanceMethod ({ cls := "CountRoundsModel", name := "count", desc := "(I)I" } : MethodName)) ∈ gw := gw_4 146 (by decide +kernel) rfl
theorem wd_867 : (Cond.selects "CountRoundsModel" ({ cls := "CountRoundsModel", name := "count", desc := "(I)I" } : MethodName) ({ cls := "CountRoundsModel", name := "count", desc := "(I)I" } : MethodName)) ∈ gw := gw_4 147 (by decide +kernel) rfl
theorem wd_868 : (Cond.code ({ cls := "CountRoundsModel", name := "count", desc := "(I)I" } : MethodName) prog_6_method_44_code 4 (Option.some FieldType.int)) ∈ gw := gw_4 148 rfl rfl
theorem wd_869 : (Cond.constantLong "CountRoundsLaw" 134 (4294967295 : Int64)) ∈ gw := gw_4 149 (by decide +kernel) rfl
theorem wd_870 : (Cond.arrayClass FieldType.long) ∈ gw := gw_4 150 (by decide +kernel) rfl
theorem wd_871 : (Cond.sameMethod "java/lang/Throwable" "java/lang/Throwable" "fillInStackTrace" "(I)Ljava/lang/Throwable;") ∈ gw := gw_4 151 (by decide +kernel) rfl
end
section
/-! decode rows: the class -/
theorem d_C_init_0 : decode b_C_init 0 = .ok (.aload_n 0, 1) := by decide +kernel
theorem d_C_init_1 : decode b_C_init 1 = .ok (.invokespecial 1, 3) := by decide +kernel
theorem d_C_init_4 : decode b_C_init 4 = .ok (.aload_n 0, 1) := by decide +kernel
theorem d_C_init_5 : decode b_C_init 5 = .ok (.bipush 20, 2) := by decide +kernel
theorem d_C_init_7 : decode b_C_init 7 = .ok (.anewarray 9, 3) := by decide +kernel
theorem d_C_init_10 : decode b_C_init 10 = .ok (.putfield 11, 3) := by decide +kernel
theorem d_C_init_13 : decode b_C_init 13 = .ok (.aload_n 0, 1) := by decide +kernel
theorem d_C_init_14 : decode b_C_init 14 = .ok (.bipush 60, 2) := by decide +kernel
theorem d_C_init_16 : decode b_C_init 16 = .ok (.anewarray 15, 3) := by decide +kernel
theorem d_C_init_19 : decode b_C_init 19 = .ok (.putfield 17, 3) := by decide +kernel
theorem d_C_init_22 : decode b_C_init 22 = .ok (.aload_n 0, 1) := by decide +kernel
theorem d_C_init_23 : decode b_C_init 23 = .ok (.bipush 20, 2) := by decide +kernel
theorem d_C_init_25 : decode b_C_init 25 = .ok (.anewarray 21, 3) := by decide +kernel
theorem d_C_init_28 : decode b_C_init 28 = .ok (.putfield 23, 3) := by decide +kernel
theorem d_C_init_31 : decode b_C_init 31 = .ok (.aload_n 0, 1) := by decide +kernel
theorem d_C_init_32 : decode b_C_init 32 = .ok (.iconst 3, 1) := by decide +kernel
theorem d_C_init_33 : decode b_C_init 33 = .ok (.newarray .int, 2) := by decide +kernel
theorem d_C_init_35 : decode b_C_init 35 = .ok (.putfield 27, 3) := by decide +kernel
theorem d_C_init_38 : decode b_C_init 38 = .ok (.aload_n 0, 1) := by decide +kernel
theorem d_C_init_39 : decode b_C_init 39 = .ok (.iconst 3, 1) := by decide +kernel
theorem d_C_init_40 : decode b_C_init 40 = .ok (.newarray .int, 2) := by decide +kernel
theorem d_C_init_42 : decode b_C_init 42 = .ok (.putfield 31, 3) := by decide +kernel
theorem d_C_init_45 : decode b_C_init 45 = .ok (.aload_n 0, 1) := by decide +kernel
theorem d_C_init_46 : decode b_C_init 46 = .ok (.bipush 6, 2) := by decide +kernel
theorem d_C_init_48 : decode b_C_init 48 = .ok (.newarray .int, 2) := by decide +kernel
theorem d_C_init_50 : decode b_C_init 50 = .ok (.putfield 34, 3) := by decide +kernel
theorem d_C_init_53 : decode b_C_init 53 = .ok (.aload_n 0, 1) := by decide +kernel
theorem d_C_init_54 : decode b_C_init 54 = .ok (.bipush 20, 2) := by decide +kernel
theorem d_C_init_56 : decode b_C_init 56 = .ok (.newarray .int, 2) := by decide +kernel
theorem d_C_init_58 : decode b_C_init 58 = .ok (.putfield 37, 3) := by decide +kernel
theorem d_C_init_61 : decode b_C_init 61 = .ok (.aload_n 0, 1) := by decide +kernel
theorem d_C_init_62 : decode b_C_init 62 = .ok (.iconst 1, 1) := by decide +kernel
theorem d_C_init_63 : decode b_C_init 63 = .ok (.putfield 40, 3) := by decide +kernel
theorem d_C_init_66 : decode b_C_init 66 = .ok (.aload_n 0, 1) := by decide +kernel
theorem d_C_init_67 : decode b_C_init 67 = .ok (.getfield 27, 3) := by decide +kernel
theorem d_C_init_70 : decode b_C_init 70 = .ok (.bipush 30, 2) := by decide +kernel
theorem d_C_init_72 : decode b_C_init 72 = .ok (.invokestatic 44, 3) := by decide +kernel
theorem d_C_init_75 : decode b_C_init 75 = .ok (.return_, 1) := by decide +kernel
theorem d_C_place_0 : decode b_C_place 0 = .ok (.iload_n 1, 1) := by decide +kernel
theorem d_C_place_1 : decode b_C_place 1 = .ok (.invokestatic 50, 3) := by decide +kernel
theorem d_C_place_4 : decode b_C_place 4 = .ok (.ifCond .ne 13, 3) := by decide +kernel
theorem d_C_place_7 : decode b_C_place 7 = .ok (.new 54, 3) := by decide +kernel
theorem d_C_place_10 : decode b_C_place 10 = .ok (.dup, 1) := by decide +kernel
theorem d_C_place_11 : decode b_C_place 11 = .ok (.ldc 56, 2) := by decide +kernel
theorem d_C_place_13 : decode b_C_place 13 = .ok (.invokespecial 58, 3) := by decide +kernel
theorem d_C_place_16 : decode b_C_place 16 = .ok (.athrow, 1) := by decide +kernel
theorem d_C_place_17 : decode b_C_place 17 = .ok (.aload_n 0, 1) := by decide +kernel
theorem d_C_place_18 : decode b_C_place 18 = .ok (.getfield 61, 3) := by decide +kernel
theorem d_C_place_21 : decode b_C_place 21 = .ok (.bipush 20, 2) := by decide +kernel
theorem d_C_place_23 : decode b_C_place 23 = .ok (.if_icmp .lt 13, 3) := by decide +kernel
theorem d_C_place_26 : decode b_C_place 26 = .ok (.new 65, 3) := by decide +kernel
theorem d_C_place_29 : decode b_C_place 29 = .ok (.dup, 1) := by decide +kernel
theorem d_C_place_30 : decode b_C_place 30 = .ok (.ldc 67, 2) := by decide +kernel
theorem d_C_place_32 : decode b_C_place 32 = .ok (.invokespecial 69, 3) := by decide +kernel
theorem d_C_place_35 : decode b_C_place 35 = .ok (.athrow, 1) := by decide +kernel
theorem d_C_place_36 : decode b_C_place 36 = .ok (.aload_n 0, 1) := by decide +kernel
theorem d_C_place_37 : decode b_C_place 37 = .ok (.getfield 61, 3) := by decide +kernel
theorem d_C_place_40 : decode b_C_place 40 = .ok (.istore_n 2, 1) := by decide +kernel
theorem d_C_place_41 : decode b_C_place 41 = .ok (.aload_n 0, 1) := by decide +kernel
theorem d_C_place_42 : decode b_C_place 42 = .ok (.getfield 11, 3) := by decide +kernel
theorem d_C_place_45 : decode b_C_place 45 = .ok (.iload_n 2, 1) := by decide +kernel
theorem d_C_place_46 : decode b_C_place 46 = .ok (.new 9, 3) := by decide +kernel
theorem d_C_place_49 : decode b_C_place 49 = .ok (.dup, 1) := by decide +kernel
theorem d_C_place_50 : decode b_C_place 50 = .ok (.iload_n 1, 1) := by decide +kernel
theorem d_C_place_51 : decode b_C_place 51 = .ok (.invokespecial 70, 3) := by decide +kernel
theorem d_C_place_54 : decode b_C_place 54 = .ok (.aastore, 1) := by decide +kernel
theorem d_C_place_55 : decode b_C_place 55 = .ok (.aload_n 0, 1) := by decide +kernel
theorem d_C_place_56 : decode b_C_place 56 = .ok (.dup, 1) := by decide +kernel
theorem d_C_place_57 : decode b_C_place 57 = .ok (.getfield 61, 3) := by decide +kernel
theorem d_C_place_60 : decode b_C_place 60 = .ok (.iconst 1, 1) := by decide +kernel
theorem d_C_place_61 : decode b_C_place 61 = .ok (.iadd, 1) := by decide +kernel
theorem d_C_place_62 : decode b_C_place 62 = .ok (.putfield 61, 3) := by decide +kernel
theorem d_C_place_65 : decode b_C_place 65 = .ok (.iload_n 2, 1) := by decide +kernel
theorem d_C_place_66 : decode b_C_place 66 = .ok (.ireturn, 1) := by decide +kernel
theorem d_C_stock_0 : decode b_C_stock 0 = .ok (.aload_n 0, 1) := by decide +kernel
theorem d_C_stock_1 : decode b_C_stock 1 = .ok (.iload_n 1, 1) := by decide +kernel
theorem d_C_stock_2 : decode b_C_stock 2 = .ok (.invokevirtual 73, 3) := by decide +kernel
theorem d_C_stock_5 : decode b_C_stock 5 = .ok (.astore 4, 2) := by decide +kernel
theorem d_C_stock_7 : decode b_C_stock 7 = .ok (.iload_n 2, 1) := by decide +kernel
theorem d_C_stock_8 : decode b_C_stock 8 = .ok (.invokestatic 77, 3) := by decide +kernel
theorem d_C_stock_11 : decode b_C_stock 11 = .ok (.ifCond .eq 10, 3) := by decide +kernel
theorem d_C_stock_14 : decode b_C_stock 14 = .ok (.iload_n 3, 1) := by decide +kernel
theorem d_C_stock_15 : decode b_C_stock 15 = .ok (.invokestatic 80, 3) := by decide +kernel
theorem d_C_stock_18 : decode b_C_stock 18 = .ok (.ifCond .ne 13, 3) := by decide +kernel
theorem d_C_stock_21 : decode b_C_stock 21 = .ok (.new 54, 3) := by decide +kernel
theorem d_C_stock_24 : decode b_C_stock 24 = .ok (.dup, 1) := by decide +kernel
theorem d_C_stock_25 : decode b_C_stock 25 = .ok (.ldc 83, 2) := by decide +kernel
theorem d_C_stock_27 : decode b_C_stock 27 = .ok (.invokespecial 58, 3) := by decide +kernel
theorem d_C_stock_30 : decode b_C_stock 30 = .ok (.athrow, 1) := by decide +kernel
theorem d_C_stock_31 : decode b_C_stock 31 = .ok (.aload 4, 2) := by decide +kernel
theorem d_C_stock_33 : decode b_C_stock 33 = .ok (.getfield 85, 3) := by decide +kernel
theorem d_C_stock_36 : decode b_C_stock 36 = .ok (.iload_n 2, 1) := by decide +kernel
theorem d_C_stock_37 : decode b_C_stock 37 = .ok (.iload_n 3, 1) := by decide +kernel
theorem d_C_stock_38 : decode b_C_stock 38 = .ok (.iastore, 1) := by decide +kernel
theorem d_C_stock_39 : decode b_C_stock 39 = .ok (.return_, 1) := by decide +kernel
theorem d_C_cycle_0 : decode b_C_cycle 0 = .ok (.iload_n 1, 1) := by decide +kernel
theorem d_C_cycle_1 : decode b_C_cycle 1 = .ok (.invokestatic 50, 3) := by decide +kernel
theorem d_C_cycle_4 : decode b_C_cycle 4 = .ok (.ifCond .eq 25, 3) := by decide +kernel
theorem d_C_cycle_7 : decode b_C_cycle 7 = .ok (.iload_n 2, 1) := by decide +kernel
theorem d_C_cycle_8 : decode b_C_cycle 8 = .ok (.iconst 1, 1) := by decide +kernel
theorem d_C_cycle_9 : decode b_C_cycle 9 = .ok (.sipush 1000, 3) := by decide +kernel
theorem d_C_cycle_12 : decode b_C_cycle 12 = .ok (.invokestatic 88, 3) := by decide +kernel
theorem d_C_cycle_15 : decode b_C_cycle 15 = .ok (.ifCond .eq 14, 3) := by decide +kernel
theorem d_C_cycle_18 : decode b_C_cycle 18 = .ok (.iload_n 3, 1) := by decide +kernel
theorem d_C_cycle_19 : decode b_C_cycle 19 = .ok (.iconst 0, 1) := by decide +kernel
theorem d_C_cycle_20 : decode b_C_cycle 20 = .ok (.sipush 1000, 3) := by decide +kernel
theorem d_C_cycle_23 : decode b_C_cycle 23 = .ok (.invokestatic 88, 3) := by decide +kernel
theorem d_C_cycle_26 : decode b_C_cycle 26 = .ok (.ifCond .ne 13, 3) := by decide +kernel
theorem d_C_cycle_29 : decode b_C_cycle 29 = .ok (.new 54, 3) := by decide +kernel
theorem d_C_cycle_32 : decode b_C_cycle 32 = .ok (.dup, 1) := by decide +kernel
theorem d_C_cycle_33 : decode b_C_cycle 33 = .ok (.ldc 92, 2) := by decide +kernel
theorem d_C_cycle_35 : decode b_C_cycle 35 = .ok (.invokespecial 58, 3) := by decide +kernel
theorem d_C_cycle_38 : decode b_C_cycle 38 = .ok (.athrow, 1) := by decide +kernel
theorem d_C_cycle_39 : decode b_C_cycle 39 = .ok (.aload_n 0, 1) := by decide +kernel
theorem d_C_cycle_40 : decode b_C_cycle 40 = .ok (.getfield 27, 3) := by decide +kernel
theorem d_C_cycle_43 : decode b_C_cycle 43 = .ok (.iload_n 1, 1) := by decide +kernel
theorem d_C_cycle_44 : decode b_C_cycle 44 = .ok (.iload_n 2, 1) := by decide +kernel
theorem d_C_cycle_45 : decode b_C_cycle 45 = .ok (.iastore, 1) := by decide +kernel
theorem d_C_cycle_46 : decode b_C_cycle 46 = .ok (.aload_n 0, 1) := by decide +kernel
theorem d_C_cycle_47 : decode b_C_cycle 47 = .ok (.getfield 31, 3) := by decide +kernel
theorem d_C_cycle_50 : decode b_C_cycle 50 = .ok (.iload_n 1, 1) := by decide +kernel
theorem d_C_cycle_51 : decode b_C_cycle 51 = .ok (.iload_n 3, 1) := by decide +kernel
theorem d_C_cycle_52 : decode b_C_cycle 52 = .ok (.iastore, 1) := by decide +kernel
theorem d_C_cycle_53 : decode b_C_cycle 53 = .ok (.return_, 1) := by decide +kernel
theorem d_C_right_0 : decode b_C_right 0 = .ok (.iload_n 1, 1) := by decide +kernel
theorem d_C_right_1 : decode b_C_right 1 = .ok (.invokestatic 94, 3) := by decide +kernel
theorem d_C_right_4 : decode b_C_right 4 = .ok (.ifCond .eq 10, 3) := by decide +kernel
theorem d_C_right_7 : decode b_C_right 7 = .ok (.iload_n 2, 1) := by decide +kernel
theorem d_C_right_8 : decode b_C_right 8 = .ok (.invokestatic 80, 3) := by decide +kernel
theorem d_C_right_11 : decode b_C_right 11 = .ok (.ifCond .ne 13, 3) := by decide +kernel
theorem d_C_right_14 : decode b_C_right 14 = .ok (.new 54, 3) := by decide +kernel
theorem d_C_right_17 : decode b_C_right 17 = .ok (.dup, 1) := by decide +kernel
theorem d_C_right_18 : decode b_C_right 18 = .ok (.ldc 97, 2) := by decide +kernel
theorem d_C_right_20 : decode b_C_right 20 = .ok (.invokespecial 58, 3) := by decide +kernel
theorem d_C_right_23 : decode b_C_right 23 = .ok (.athrow, 1) := by decide +kernel
theorem d_C_right_24 : decode b_C_right 24 = .ok (.aload_n 0, 1) := by decide +kernel
theorem d_C_right_25 : decode b_C_right 25 = .ok (.getfield 34, 3) := by decide +kernel
theorem d_C_right_28 : decode b_C_right 28 = .ok (.iload_n 1, 1) := by decide +kernel
theorem d_C_right_29 : decode b_C_right 29 = .ok (.iload_n 2, 1) := by decide +kernel
theorem d_C_right_30 : decode b_C_right 30 = .ok (.iastore, 1) := by decide +kernel
theorem d_C_right_31 : decode b_C_right 31 = .ok (.return_, 1) := by decide +kernel
theorem d_C_setting_0 : decode b_C_setting 0 = .ok (.iload_n 1, 1) := by decide +kernel
theorem d_C_setting_1 : decode b_C_setting 1 = .ok (.iconst 0, 1) := by decide +kernel
theorem d_C_setting_2 : decode b_C_setting 2 = .ok (.iconst 1, 1) := by decide +kernel
theorem d_C_setting_3 : decode b_C_setting 3 = .ok (.invokestatic 88, 3) := by decide +kernel
theorem d_C_setting_6 : decode b_C_setting 6 = .ok (.ifCond .ne 13, 3) := by decide +kernel
theorem d_C_setting_9 : decode b_C_setting 9 = .ok (.new 54, 3) := by decide +kernel
theorem d_C_setting_12 : decode b_C_setting 12 = .ok (.dup, 1) := by decide +kernel
theorem d_C_setting_13 : decode b_C_setting 13 = .ok (.ldc 99, 2) := by decide +kernel
theorem d_C_setting_15 : decode b_C_setting 15 = .ok (.invokespecial 58, 3) := by decide +kernel
theorem d_C_setting_18 : decode b_C_setting 18 = .ok (.athrow, 1) := by decide +kernel
theorem d_C_setting_19 : decode b_C_setting 19 = .ok (.aload_n 0, 1) := by decide +kernel
theorem d_C_setting_20 : decode b_C_setting 20 = .ok (.iload_n 1, 1) := by decide +kernel
theorem d_C_setting_21 : decode b_C_setting 21 = .ok (.ifCond .ne 7, 3) := by decide +kernel
theorem d_C_setting_24 : decode b_C_setting 24 = .ok (.iconst 1, 1) := by decide +kernel
theorem d_C_setting_25 : decode b_C_setting 25 = .ok (.goto 4, 3) := by decide +kernel
theorem d_C_setting_28 : decode b_C_setting 28 = .ok (.iconst 0, 1) := by decide +kernel
theorem d_C_setting_29 : decode b_C_setting 29 = .ok (.putfield 40, 3) := by decide +kernel
theorem d_C_setting_32 : decode b_C_setting 32 = .ok (.return_, 1) := by decide +kernel
theorem d_C_day_0 : decode b_C_day 0 = .ok (.iload_n 1, 1) := by decide +kernel
theorem d_C_day_1 : decode b_C_day 1 = .ok (.invokestatic 101, 3) := by decide +kernel
theorem d_C_day_4 : decode b_C_day 4 = .ok (.ifCond .ne 13, 3) := by decide +kernel
theorem d_C_day_7 : decode b_C_day 7 = .ok (.new 54, 3) := by decide +kernel
theorem d_C_day_10 : decode b_C_day 10 = .ok (.dup, 1) := by decide +kernel
theorem d_C_day_11 : decode b_C_day 11 = .ok (.ldc 104, 2) := by decide +kernel
theorem d_C_day_13 : decode b_C_day 13 = .ok (.invokespecial 58, 3) := by decide +kernel
theorem d_C_day_16 : decode b_C_day 16 = .ok (.athrow, 1) := by decide +kernel
theorem d_C_day_17 : decode b_C_day 17 = .ok (.iload_n 1, 1) := by decide +kernel
theorem d_C_day_18 : decode b_C_day 18 = .ok (.aload_n 0, 1) := by decide +kernel
theorem d_C_day_19 : decode b_C_day 19 = .ok (.getfield 106, 3) := by decide +kernel
theorem d_C_day_22 : decode b_C_day 22 = .ok (.if_icmp .ge 13, 3) := by decide +kernel
theorem d_C_day_25 : decode b_C_day 25 = .ok (.new 109, 3) := by decide +kernel
theorem d_C_day_28 : decode b_C_day 28 = .ok (.dup, 1) := by decide +kernel
theorem d_C_day_29 : decode b_C_day 29 = .ok (.ldc 111, 2) := by decide +kernel
theorem d_C_day_31 : decode b_C_day 31 = .ok (.invokespecial 113, 3) := by decide +kernel
theorem d_C_day_34 : decode b_C_day 34 = .ok (.athrow, 1) := by decide +kernel
theorem d_C_day_35 : decode b_C_day 35 = .ok (.aload_n 0, 1) := by decide +kernel
theorem d_C_day_36 : decode b_C_day 36 = .ok (.iload_n 1, 1) := by decide +kernel
theorem d_C_day_37 : decode b_C_day 37 = .ok (.putfield 106, 3) := by decide +kernel
theorem d_C_day_40 : decode b_C_day 40 = .ok (.return_, 1) := by decide +kernel
theorem d_C_move_0 : decode b_C_move 0 = .ok (.aload_n 0, 1) := by decide +kernel
theorem d_C_move_1 : decode b_C_move 1 = .ok (.iload_n 1, 1) := by decide +kernel
theorem d_C_move_2 : decode b_C_move 2 = .ok (.invokevirtual 73, 3) := by decide +kernel
theorem d_C_move_5 : decode b_C_move 5 = .ok (.astore 5, 2) := by decide +kernel
theorem d_C_move_7 : decode b_C_move 7 = .ok (.aload_n 0, 1) := by decide +kernel
theorem d_C_move_8 : decode b_C_move 8 = .ok (.iload_n 2, 1) := by decide +kernel
theorem d_C_move_9 : decode b_C_move 9 = .ok (.invokevirtual 73, 3) := by decide +kernel
theorem d_C_move_12 : decode b_C_move 12 = .ok (.pop, 1) := by decide +kernel
theorem d_C_move_13 : decode b_C_move 13 = .ok (.iload_n 1, 1) := by decide +kernel
theorem d_C_move_14 : decode b_C_move 14 = .ok (.iload_n 2, 1) := by decide +kernel
theorem d_C_move_15 : decode b_C_move 15 = .ok (.if_icmp .eq 21, 3) := by decide +kernel
theorem d_C_move_18 : decode b_C_move 18 = .ok (.iload_n 3, 1) := by decide +kernel
theorem d_C_move_19 : decode b_C_move 19 = .ok (.invokestatic 77, 3) := by decide +kernel
theorem d_C_move_22 : decode b_C_move 22 = .ok (.ifCond .eq 14, 3) := by decide +kernel
theorem d_C_move_25 : decode b_C_move 25 = .ok (.iload 4, 2) := by decide +kernel
theorem d_C_move_27 : decode b_C_move 27 = .ok (.iconst 1, 1) := by decide +kernel
theorem d_C_move_28 : decode b_C_move 28 = .ok (.ldc 114, 2) := by decide +kernel
theorem d_C_move_30 : decode b_C_move 30 = .ok (.invokestatic 88, 3) := by decide +kernel
theorem d_C_move_33 : decode b_C_move 33 = .ok (.ifCond .ne 13, 3) := by decide +kernel
theorem d_C_move_36 : decode b_C_move 36 = .ok (.new 54, 3) := by decide +kernel
theorem d_C_move_39 : decode b_C_move 39 = .ok (.dup, 1) := by decide +kernel
theorem d_C_move_40 : decode b_C_move 40 = .ok (.ldc 115, 2) := by decide +kernel
theorem d_C_move_42 : decode b_C_move 42 = .ok (.invokespecial 58, 3) := by decide +kernel
theorem d_C_move_45 : decode b_C_move 45 = .ok (.athrow, 1) := by decide +kernel
theorem d_C_move_46 : decode b_C_move 46 = .ok (.aload 5, 2) := by decide +kernel
theorem d_C_move_48 : decode b_C_move 48 = .ok (.getfield 85, 3) := by decide +kernel
theorem d_C_move_51 : decode b_C_move 51 = .ok (.iload_n 3, 1) := by decide +kernel
theorem d_C_move_52 : decode b_C_move 52 = .ok (.iaload, 1) := by decide +kernel
theorem d_C_move_53 : decode b_C_move 53 = .ok (.iload 4, 2) := by decide +kernel
theorem d_C_move_55 : decode b_C_move 55 = .ok (.if_icmp .ge 13, 3) := by decide +kernel
theorem d_C_move_58 : decode b_C_move 58 = .ok (.new 109, 3) := by decide +kernel
theorem d_C_move_61 : decode b_C_move 61 = .ok (.dup, 1) := by decide +kernel
theorem d_C_move_62 : decode b_C_move 62 = .ok (.ldc 117, 2) := by decide +kernel
theorem d_C_move_64 : decode b_C_move 64 = .ok (.invokespecial 113, 3) := by decide +kernel
theorem d_C_move_67 : decode b_C_move 67 = .ok (.athrow, 1) := by decide +kernel
theorem d_C_move_68 : decode b_C_move 68 = .ok (.aload_n 0, 1) := by decide +kernel
theorem d_C_move_69 : decode b_C_move 69 = .ok (.getfield 119, 3) := by decide +kernel
theorem d_C_move_72 : decode b_C_move 72 = .ok (.bipush 60, 2) := by decide +kernel
theorem d_C_move_74 : decode b_C_move 74 = .ok (.if_icmp .lt 13, 3) := by decide +kernel
theorem d_C_move_77 : decode b_C_move 77 = .ok (.new 65, 3) := by decide +kernel
theorem d_C_move_80 : decode b_C_move 80 = .ok (.dup, 1) := by decide +kernel
theorem d_C_move_81 : decode b_C_move 81 = .ok (.ldc 122, 2) := by decide +kernel
theorem d_C_move_83 : decode b_C_move 83 = .ok (.invokespecial 69, 3) := by decide +kernel
theorem d_C_move_86 : decode b_C_move 86 = .ok (.athrow, 1) := by decide +kernel
theorem d_C_move_87 : decode b_C_move 87 = .ok (.aload 5, 2) := by decide +kernel
theorem d_C_move_89 : decode b_C_move 89 = .ok (.getfield 85, 3) := by decide +kernel
theorem d_C_move_92 : decode b_C_move 92 = .ok (.iload_n 3, 1) := by decide +kernel
theorem d_C_move_93 : decode b_C_move 93 = .ok (.dup2, 1) := by decide +kernel
theorem d_C_move_94 : decode b_C_move 94 = .ok (.iaload, 1) := by decide +kernel
theorem d_C_move_95 : decode b_C_move 95 = .ok (.iload 4, 2) := by decide +kernel
theorem d_C_move_97 : decode b_C_move 97 = .ok (.isub, 1) := by decide +kernel
theorem d_C_move_98 : decode b_C_move 98 = .ok (.iastore, 1) := by decide +kernel
theorem d_C_move_99 : decode b_C_move 99 = .ok (.aload_n 0, 1) := by decide +kernel
theorem d_C_move_100 : decode b_C_move 100 = .ok (.getfield 17, 3) := by decide +kernel
theorem d_C_move_103 : decode b_C_move 103 = .ok (.aload_n 0, 1) := by decide +kernel
theorem d_C_move_104 : decode b_C_move 104 = .ok (.getfield 119, 3) := by decide +kernel
theorem d_C_move_107 : decode b_C_move 107 = .ok (.new 15, 3) := by decide +kernel
theorem d_C_move_110 : decode b_C_move 110 = .ok (.dup, 1) := by decide +kernel
theorem d_C_move_111 : decode b_C_move 111 = .ok (.iload_n 1, 1) := by decide +kernel
theorem d_C_move_112 : decode b_C_move 112 = .ok (.iload_n 2, 1) := by decide +kernel
theorem d_C_move_113 : decode b_C_move 113 = .ok (.iload_n 3, 1) := by decide +kernel
theorem d_C_move_114 : decode b_C_move 114 = .ok (.iload 4, 2) := by decide +kernel
theorem d_C_move_116 : decode b_C_move 116 = .ok (.invokespecial 124, 3) := by decide +kernel
theorem d_C_move_119 : decode b_C_move 119 = .ok (.aastore, 1) := by decide +kernel
theorem d_C_move_120 : decode b_C_move 120 = .ok (.aload_n 0, 1) := by decide +kernel
theorem d_C_move_121 : decode b_C_move 121 = .ok (.dup, 1) := by decide +kernel
theorem d_C_move_122 : decode b_C_move 122 = .ok (.getfield 119, 3) := by decide +kernel
theorem d_C_move_125 : decode b_C_move 125 = .ok (.iconst 1, 1) := by decide +kernel
theorem d_C_move_126 : decode b_C_move 126 = .ok (.iadd, 1) := by decide +kernel
theorem d_C_move_127 : decode b_C_move 127 = .ok (.putfield 119, 3) := by decide +kernel
theorem d_C_move_130 : decode b_C_move 130 = .ok (.aload_n 0, 1) := by decide +kernel
theorem d_C_move_131 : decode b_C_move 131 = .ok (.getfield 119, 3) := by decide +kernel
theorem d_C_move_134 : decode b_C_move 134 = .ok (.ireturn, 1) := by decide +kernel
theorem d_C_end_0 : decode b_C_end 0 = .ok (.aload_n 0, 1) := by decide +kernel
theorem d_C_end_1 : decode b_C_end 1 = .ok (.iload_n 1, 1) := by decide +kernel
theorem d_C_end_2 : decode b_C_end 2 = .ok (.invokevirtual 127, 3) := by decide +kernel
theorem d_C_end_5 : decode b_C_end 5 = .ok (.astore_n 2, 1) := by decide +kernel
theorem d_C_end_6 : decode b_C_end 6 = .ok (.aload_n 0, 1) := by decide +kernel
theorem d_C_end_7 : decode b_C_end 7 = .ok (.aload_n 2, 1) := by decide +kernel
theorem d_C_end_8 : decode b_C_end 8 = .ok (.getfield 131, 3) := by decide +kernel
theorem d_C_end_11 : decode b_C_end 11 = .ok (.invokevirtual 73, 3) := by decide +kernel
theorem d_C_end_14 : decode b_C_end 14 = .ok (.astore_n 3, 1) := by decide +kernel
theorem d_C_end_15 : decode b_C_end 15 = .ok (.aload_n 3, 1) := by decide +kernel
theorem d_C_end_16 : decode b_C_end 16 = .ok (.getfield 85, 3) := by decide +kernel
theorem d_C_end_19 : decode b_C_end 19 = .ok (.aload_n 2, 1) := by decide +kernel
theorem d_C_end_20 : decode b_C_end 20 = .ok (.getfield 134, 3) := by decide +kernel
theorem d_C_end_23 : decode b_C_end 23 = .ok (.iaload, 1) := by decide +kernel
theorem d_C_end_24 : decode b_C_end 24 = .ok (.aload_n 2, 1) := by decide +kernel
theorem d_C_end_25 : decode b_C_end 25 = .ok (.getfield 137, 3) := by decide +kernel
theorem d_C_end_28 : decode b_C_end 28 = .ok (.iadd, 1) := by decide +kernel
theorem d_C_end_29 : decode b_C_end 29 = .ok (.istore 4, 2) := by decide +kernel
theorem d_C_end_31 : decode b_C_end 31 = .ok (.aload_n 2, 1) := by decide +kernel
theorem d_C_end_32 : decode b_C_end 32 = .ok (.getfield 139, 3) := by decide +kernel
theorem d_C_end_35 : decode b_C_end 35 = .ok (.ifCond .eq 11, 3) := by decide +kernel
theorem d_C_end_38 : decode b_C_end 38 = .ok (.iload 4, 2) := by decide +kernel
theorem d_C_end_40 : decode b_C_end 40 = .ok (.invokestatic 80, 3) := by decide +kernel
theorem d_C_end_43 : decode b_C_end 43 = .ok (.ifCond .ne 13, 3) := by decide +kernel
theorem d_C_end_46 : decode b_C_end 46 = .ok (.new 109, 3) := by decide +kernel
theorem d_C_end_49 : decode b_C_end 49 = .ok (.dup, 1) := by decide +kernel
theorem d_C_end_50 : decode b_C_end 50 = .ok (.ldc 142, 2) := by decide +kernel
theorem d_C_end_52 : decode b_C_end 52 = .ok (.invokespecial 113, 3) := by decide +kernel
theorem d_C_end_55 : decode b_C_end 55 = .ok (.athrow, 1) := by decide +kernel
theorem d_C_end_56 : decode b_C_end 56 = .ok (.aload_n 3, 1) := by decide +kernel
theorem d_C_end_57 : decode b_C_end 57 = .ok (.getfield 85, 3) := by decide +kernel
theorem d_C_end_60 : decode b_C_end 60 = .ok (.aload_n 2, 1) := by decide +kernel
theorem d_C_end_61 : decode b_C_end 61 = .ok (.getfield 134, 3) := by decide +kernel
theorem d_C_end_64 : decode b_C_end 64 = .ok (.iload 4, 2) := by decide +kernel
theorem d_C_end_66 : decode b_C_end 66 = .ok (.iastore, 1) := by decide +kernel
theorem d_C_end_67 : decode b_C_end 67 = .ok (.aload_n 2, 1) := by decide +kernel
theorem d_C_end_68 : decode b_C_end 68 = .ok (.iconst 0, 1) := by decide +kernel
theorem d_C_end_69 : decode b_C_end 69 = .ok (.putfield 139, 3) := by decide +kernel
theorem d_C_end_72 : decode b_C_end 72 = .ok (.return_, 1) := by decide +kernel
theorem d_C_moves_0 : decode b_C_moves 0 = .ok (.aload_n 0, 1) := by decide +kernel
theorem d_C_moves_1 : decode b_C_moves 1 = .ok (.iload_n 1, 1) := by decide +kernel
theorem d_C_moves_2 : decode b_C_moves 2 = .ok (.invokevirtual 73, 3) := by decide +kernel
theorem d_C_moves_5 : decode b_C_moves 5 = .ok (.pop, 1) := by decide +kernel
theorem d_C_moves_6 : decode b_C_moves 6 = .ok (.aload_n 0, 1) := by decide +kernel
theorem d_C_moves_7 : decode b_C_moves 7 = .ok (.iload_n 1, 1) := by decide +kernel
theorem d_C_moves_8 : decode b_C_moves 8 = .ok (.invokevirtual 144, 3) := by decide +kernel
theorem d_C_moves_11 : decode b_C_moves 11 = .ok (.ireturn, 1) := by decide +kernel
theorem d_C_round_0 : decode b_C_round 0 = .ok (.iload_n 1, 1) := by decide +kernel
theorem d_C_round_1 : decode b_C_round 1 = .ok (.iconst (-1), 1) := by decide +kernel
theorem d_C_round_2 : decode b_C_round 2 = .ok (.if_icmp .eq 10, 3) := by decide +kernel
theorem d_C_round_5 : decode b_C_round 5 = .ok (.iload_n 1, 1) := by decide +kernel
theorem d_C_round_6 : decode b_C_round 6 = .ok (.invokestatic 50, 3) := by decide +kernel
theorem d_C_round_9 : decode b_C_round 9 = .ok (.ifCond .eq 7, 3) := by decide +kernel
theorem d_C_round_12 : decode b_C_round 12 = .ok (.iconst 1, 1) := by decide +kernel
theorem d_C_round_13 : decode b_C_round 13 = .ok (.goto 4, 3) := by decide +kernel
theorem d_C_round_16 : decode b_C_round 16 = .ok (.iconst 0, 1) := by decide +kernel
theorem d_C_round_17 : decode b_C_round 17 = .ok (.istore 5, 2) := by decide +kernel
theorem d_C_round_19 : decode b_C_round 19 = .ok (.iload 5, 2) := by decide +kernel
theorem d_C_round_21 : decode b_C_round 21 = .ok (.ifCond .eq 13, 3) := by decide +kernel
theorem d_C_round_24 : decode b_C_round 24 = .ok (.iload_n 2, 1) := by decide +kernel
theorem d_C_round_25 : decode b_C_round 25 = .ok (.iconst 1, 1) := by decide +kernel
theorem d_C_round_26 : decode b_C_round 26 = .ok (.bipush 20, 2) := by decide +kernel
theorem d_C_round_28 : decode b_C_round 28 = .ok (.invokestatic 88, 3) := by decide +kernel
theorem d_C_round_31 : decode b_C_round 31 = .ok (.ifCond .ne 13, 3) := by decide +kernel
theorem d_C_round_34 : decode b_C_round 34 = .ok (.new 54, 3) := by decide +kernel
theorem d_C_round_37 : decode b_C_round 37 = .ok (.dup, 1) := by decide +kernel
theorem d_C_round_38 : decode b_C_round 38 = .ok (.ldc 148, 2) := by decide +kernel
theorem d_C_round_40 : decode b_C_round 40 = .ok (.invokespecial 58, 3) := by decide +kernel
theorem d_C_round_43 : decode b_C_round 43 = .ok (.athrow, 1) := by decide +kernel
theorem d_C_round_44 : decode b_C_round 44 = .ok (.aload_n 0, 1) := by decide +kernel
theorem d_C_round_45 : decode b_C_round 45 = .ok (.iload_n 1, 1) := by decide +kernel
theorem d_C_round_46 : decode b_C_round 46 = .ok (.invokevirtual 150, 3) := by decide +kernel
theorem d_C_round_49 : decode b_C_round 49 = .ok (.istore 6, 2) := by decide +kernel
theorem d_C_round_51 : decode b_C_round 51 = .ok (.iload 6, 2) := by decide +kernel
theorem d_C_round_53 : decode b_C_round 53 = .ok (.ifCond .ne 13, 3) := by decide +kernel
theorem d_C_round_56 : decode b_C_round 56 = .ok (.new 109, 3) := by decide +kernel
theorem d_C_round_59 : decode b_C_round 59 = .ok (.dup, 1) := by decide +kernel
theorem d_C_round_60 : decode b_C_round 60 = .ok (.ldc 153, 2) := by decide +kernel
theorem d_C_round_62 : decode b_C_round 62 = .ok (.invokespecial 113, 3) := by decide +kernel
theorem d_C_round_65 : decode b_C_round 65 = .ok (.athrow, 1) := by decide +kernel
theorem d_C_round_66 : decode b_C_round 66 = .ok (.aload_n 0, 1) := by decide +kernel
theorem d_C_round_67 : decode b_C_round 67 = .ok (.getfield 155, 3) := by decide +kernel
theorem d_C_round_70 : decode b_C_round 70 = .ok (.bipush 20, 2) := by decide +kernel
theorem d_C_round_72 : decode b_C_round 72 = .ok (.if_icmp .lt 13, 3) := by decide +kernel
theorem d_C_round_75 : decode b_C_round 75 = .ok (.new 65, 3) := by decide +kernel
theorem d_C_round_78 : decode b_C_round 78 = .ok (.dup, 1) := by decide +kernel
theorem d_C_round_79 : decode b_C_round 79 = .ok (.ldc 158, 2) := by decide +kernel
theorem d_C_round_81 : decode b_C_round 81 = .ok (.invokespecial 69, 3) := by decide +kernel
theorem d_C_round_84 : decode b_C_round 84 = .ok (.athrow, 1) := by decide +kernel
theorem d_C_round_85 : decode b_C_round 85 = .ok (.aload_n 0, 1) := by decide +kernel
theorem d_C_round_86 : decode b_C_round 86 = .ok (.iload 6, 2) := by decide +kernel
theorem d_C_round_88 : decode b_C_round 88 = .ok (.iload_n 2, 1) := by decide +kernel
theorem d_C_round_89 : decode b_C_round 89 = .ok (.iload 6, 2) := by decide +kernel
theorem d_C_round_91 : decode b_C_round 91 = .ok (.invokestatic 160, 3) := by decide +kernel
theorem d_C_round_94 : decode b_C_round 94 = .ok (.lload_n 3, 1) := by decide +kernel
theorem d_C_round_95 : decode b_C_round 95 = .ok (.invokevirtual 166, 3) := by decide +kernel
theorem d_C_round_98 : decode b_C_round 98 = .ok (.astore 7, 2) := by decide +kernel
theorem d_C_round_100 : decode b_C_round 100 = .ok (.aload_n 0, 1) := by decide +kernel
theorem d_C_round_101 : decode b_C_round 101 = .ok (.getfield 23, 3) := by decide +kernel
theorem d_C_round_104 : decode b_C_round 104 = .ok (.aload_n 0, 1) := by decide +kernel
theorem d_C_round_105 : decode b_C_round 105 = .ok (.getfield 155, 3) := by decide +kernel
theorem d_C_round_108 : decode b_C_round 108 = .ok (.new 21, 3) := by decide +kernel
theorem d_C_round_111 : decode b_C_round 111 = .ok (.dup, 1) := by decide +kernel
theorem d_C_round_112 : decode b_C_round 112 = .ok (.aload 7, 2) := by decide +kernel
theorem d_C_round_114 : decode b_C_round 114 = .ok (.invokespecial 170, 3) := by decide +kernel
theorem d_C_round_117 : decode b_C_round 117 = .ok (.aastore, 1) := by decide +kernel
theorem d_C_round_118 : decode b_C_round 118 = .ok (.aload_n 0, 1) := by decide +kernel
theorem d_C_round_119 : decode b_C_round 119 = .ok (.dup, 1) := by decide +kernel
theorem d_C_round_120 : decode b_C_round 120 = .ok (.getfield 155, 3) := by decide +kernel
theorem d_C_round_123 : decode b_C_round 123 = .ok (.iconst 1, 1) := by decide +kernel
theorem d_C_round_124 : decode b_C_round 124 = .ok (.iadd, 1) := by decide +kernel
theorem d_C_round_125 : decode b_C_round 125 = .ok (.putfield 155, 3) := by decide +kernel
theorem d_C_round_128 : decode b_C_round 128 = .ok (.aload_n 0, 1) := by decide +kernel
theorem d_C_round_129 : decode b_C_round 129 = .ok (.getfield 155, 3) := by decide +kernel
theorem d_C_round_132 : decode b_C_round 132 = .ok (.ireturn, 1) := by decide +kernel
theorem d_C_freeze_0 : decode b_C_freeze 0 = .ok (.aload_n 0, 1) := by decide +kernel
theorem d_C_freeze_1 : decode b_C_freeze 1 = .ok (.iload_n 1, 1) := by decide +kernel
theorem d_C_freeze_2 : decode b_C_freeze 2 = .ok (.invokevirtual 173, 3) := by decide +kernel
theorem d_C_freeze_5 : decode b_C_freeze 5 = .ok (.astore_n 2, 1) := by decide +kernel
theorem d_C_freeze_6 : decode b_C_freeze 6 = .ok (.aload_n 2, 1) := by decide +kernel
theorem d_C_freeze_7 : decode b_C_freeze 7 = .ok (.getfield 177, 3) := by decide +kernel
theorem d_C_freeze_10 : decode b_C_freeze 10 = .ok (.ifCond .eq 13, 3) := by decide +kernel
theorem d_C_freeze_13 : decode b_C_freeze 13 = .ok (.new 109, 3) := by decide +kernel
theorem d_C_freeze_16 : decode b_C_freeze 16 = .ok (.dup, 1) := by decide +kernel
theorem d_C_freeze_17 : decode b_C_freeze 17 = .ok (.ldc 180, 2) := by decide +kernel
theorem d_C_freeze_19 : decode b_C_freeze 19 = .ok (.invokespecial 113, 3) := by decide +kernel
theorem d_C_freeze_22 : decode b_C_freeze 22 = .ok (.athrow, 1) := by decide +kernel
theorem d_C_freeze_23 : decode b_C_freeze 23 = .ok (.aload_n 0, 1) := by decide +kernel
theorem d_C_freeze_24 : decode b_C_freeze 24 = .ok (.getfield 40, 3) := by decide +kernel
theorem d_C_freeze_27 : decode b_C_freeze 27 = .ok (.ifCond .eq 13, 3) := by decide +kernel
theorem d_C_freeze_30 : decode b_C_freeze 30 = .ok (.aload_n 0, 1) := by decide +kernel
theorem d_C_freeze_31 : decode b_C_freeze 31 = .ok (.aload_n 2, 1) := by decide +kernel
theorem d_C_freeze_32 : decode b_C_freeze 32 = .ok (.invokevirtual 182, 3) := by decide +kernel
theorem d_C_freeze_35 : decode b_C_freeze 35 = .ok (.ifCond .eq 5, 3) := by decide +kernel
theorem d_C_freeze_38 : decode b_C_freeze 38 = .ok (.iconst 0, 1) := by decide +kernel
theorem d_C_freeze_39 : decode b_C_freeze 39 = .ok (.ireturn, 1) := by decide +kernel
theorem d_C_freeze_40 : decode b_C_freeze 40 = .ok (.aload_n 0, 1) := by decide +kernel
theorem d_C_freeze_41 : decode b_C_freeze 41 = .ok (.aload_n 2, 1) := by decide +kernel
theorem d_C_freeze_42 : decode b_C_freeze 42 = .ok (.invokevirtual 186, 3) := by decide +kernel
theorem d_C_freeze_45 : decode b_C_freeze 45 = .ok (.aload_n 2, 1) := by decide +kernel
theorem d_C_freeze_46 : decode b_C_freeze 46 = .ok (.iconst 1, 1) := by decide +kernel
theorem d_C_freeze_47 : decode b_C_freeze 47 = .ok (.putfield 177, 3) := by decide +kernel
theorem d_C_freeze_50 : decode b_C_freeze 50 = .ok (.aload_n 2, 1) := by decide +kernel
theorem d_C_freeze_51 : decode b_C_freeze 51 = .ok (.getfield 190, 3) := by decide +kernel
theorem d_C_freeze_54 : decode b_C_freeze 54 = .ok (.arraylength, 1) := by decide +kernel
theorem d_C_freeze_55 : decode b_C_freeze 55 = .ok (.ireturn, 1) := by decide +kernel
theorem d_C_found_0 : decode b_C_found 0 = .ok (.aload_n 0, 1) := by decide +kernel
theorem d_C_found_1 : decode b_C_found 1 = .ok (.iload_n 1, 1) := by decide +kernel
theorem d_C_found_2 : decode b_C_found 2 = .ok (.invokevirtual 173, 3) := by decide +kernel
theorem d_C_found_5 : decode b_C_found 5 = .ok (.astore 6, 2) := by decide +kernel
theorem d_C_found_7 : decode b_C_found 7 = .ok (.aload_n 0, 1) := by decide +kernel
theorem d_C_found_8 : decode b_C_found 8 = .ok (.iload_n 2, 1) := by decide +kernel
theorem d_C_found_9 : decode b_C_found 9 = .ok (.invokevirtual 73, 3) := by decide +kernel
theorem d_C_found_12 : decode b_C_found 12 = .ok (.pop, 1) := by decide +kernel
theorem d_C_found_13 : decode b_C_found 13 = .ok (.iload_n 3, 1) := by decide +kernel
theorem d_C_found_14 : decode b_C_found 14 = .ok (.invokestatic 77, 3) := by decide +kernel
theorem d_C_found_17 : decode b_C_found 17 = .ok (.ifCond .eq 19, 3) := by decide +kernel
theorem d_C_found_20 : decode b_C_found 20 = .ok (.iload 4, 2) := by decide +kernel
theorem d_C_found_22 : decode b_C_found 22 = .ok (.invokestatic 80, 3) := by decide +kernel
theorem d_C_found_25 : decode b_C_found 25 = .ok (.ifCond .eq 11, 3) := by decide +kernel
theorem d_C_found_28 : decode b_C_found 28 = .ok (.iload 5, 2) := by decide +kernel
theorem d_C_found_30 : decode b_C_found 30 = .ok (.invokestatic 94, 3) := by decide +kernel
theorem d_C_found_33 : decode b_C_found 33 = .ok (.ifCond .ne 13, 3) := by decide +kernel
theorem d_C_found_36 : decode b_C_found 36 = .ok (.new 54, 3) := by decide +kernel
theorem d_C_found_39 : decode b_C_found 39 = .ok (.dup, 1) := by decide +kernel
theorem d_C_found_40 : decode b_C_found 40 = .ok (.ldc 193, 2) := by decide +kernel
theorem d_C_found_42 : decode b_C_found 42 = .ok (.invokespecial 58, 3) := by decide +kernel
theorem d_C_found_45 : decode b_C_found 45 = .ok (.athrow, 1) := by decide +kernel
theorem d_C_found_46 : decode b_C_found 46 = .ok (.aload 6, 2) := by decide +kernel
theorem d_C_found_48 : decode b_C_found 48 = .ok (.getfield 177, 3) := by decide +kernel
theorem d_C_found_51 : decode b_C_found 51 = .ok (.iconst 1, 1) := by decide +kernel
theorem d_C_found_52 : decode b_C_found 52 = .ok (.if_icmp .eq 5, 3) := by decide +kernel
theorem d_C_found_55 : decode b_C_found 55 = .ok (.iconst (-1), 1) := by decide +kernel
theorem d_C_found_56 : decode b_C_found 56 = .ok (.ireturn, 1) := by decide +kernel
theorem d_C_found_57 : decode b_C_found 57 = .ok (.aload 6, 2) := by decide +kernel
theorem d_C_found_59 : decode b_C_found 59 = .ok (.iload_n 2, 1) := by decide +kernel
theorem d_C_found_60 : decode b_C_found 60 = .ok (.invokevirtual 195, 3) := by decide +kernel
theorem d_C_found_63 : decode b_C_found 63 = .ok (.istore 7, 2) := by decide +kernel
theorem d_C_found_65 : decode b_C_found 65 = .ok (.iload 7, 2) := by decide +kernel
theorem d_C_found_67 : decode b_C_found 67 = .ok (.iconst (-1), 1) := by decide +kernel
theorem d_C_found_68 : decode b_C_found 68 = .ok (.if_icmp .ne 6, 3) := by decide +kernel
theorem d_C_found_71 : decode b_C_found 71 = .ok (.bipush (-2), 2) := by decide +kernel
theorem d_C_found_73 : decode b_C_found 73 = .ok (.ireturn, 1) := by decide +kernel
theorem d_C_found_74 : decode b_C_found 74 = .ok (.aload 6, 2) := by decide +kernel
theorem d_C_found_76 : decode b_C_found 76 = .ok (.iload 7, 2) := by decide +kernel
theorem d_C_found_78 : decode b_C_found 78 = .ok (.bipush 6, 2) := by decide +kernel
theorem d_C_found_80 : decode b_C_found 80 = .ok (.imul, 1) := by decide +kernel
theorem d_C_found_81 : decode b_C_found 81 = .ok (.iload_n 3, 1) := by decide +kernel
theorem d_C_found_82 : decode b_C_found 82 = .ok (.iadd, 1) := by decide +kernel
theorem d_C_found_83 : decode b_C_found 83 = .ok (.iload 4, 2) := by decide +kernel
theorem d_C_found_85 : decode b_C_found 85 = .ok (.iload 5, 2) := by decide +kernel
theorem d_C_found_87 : decode b_C_found 87 = .ok (.invokevirtual 198, 3) := by decide +kernel
theorem d_C_found_90 : decode b_C_found 90 = .ok (.ireturn, 1) := by decide +kernel
theorem d_C_second_0 : decode b_C_second 0 = .ok (.aload_n 0, 1) := by decide +kernel
theorem d_C_second_1 : decode b_C_second 1 = .ok (.iload_n 1, 1) := by decide +kernel
theorem d_C_second_2 : decode b_C_second 2 = .ok (.invokevirtual 173, 3) := by decide +kernel
theorem d_C_second_5 : decode b_C_second 5 = .ok (.astore 4, 2) := by decide +kernel
theorem d_C_second_7 : decode b_C_second 7 = .ok (.aload_n 0, 1) := by decide +kernel
theorem d_C_second_8 : decode b_C_second 8 = .ok (.iload_n 2, 1) := by decide +kernel
theorem d_C_second_9 : decode b_C_second 9 = .ok (.invokevirtual 73, 3) := by decide +kernel
theorem d_C_second_12 : decode b_C_second 12 = .ok (.astore 5, 2) := by decide +kernel
theorem d_C_second_14 : decode b_C_second 14 = .ok (.aload 4, 2) := by decide +kernel
theorem d_C_second_16 : decode b_C_second 16 = .ok (.iload_n 2, 1) := by decide +kernel
theorem d_C_second_17 : decode b_C_second 17 = .ok (.invokevirtual 195, 3) := by decide +kernel
theorem d_C_second_20 : decode b_C_second 20 = .ok (.istore 6, 2) := by decide +kernel
theorem d_C_second_22 : decode b_C_second 22 = .ok (.iload 6, 2) := by decide +kernel
theorem d_C_second_24 : decode b_C_second 24 = .ok (.iconst (-1), 1) := by decide +kernel
theorem d_C_second_25 : decode b_C_second 25 = .ok (.if_icmp .ne 13, 3) := by decide +kernel
theorem d_C_second_28 : decode b_C_second 28 = .ok (.new 202, 3) := by decide +kernel
theorem d_C_second_31 : decode b_C_second 31 = .ok (.dup, 1) := by decide +kernel
theorem d_C_second_32 : decode b_C_second 32 = .ok (.ldc 204, 2) := by decide +kernel
theorem d_C_second_34 : decode b_C_second 34 = .ok (.invokespecial 206, 3) := by decide +kernel
theorem d_C_second_37 : decode b_C_second 37 = .ok (.athrow, 1) := by decide +kernel
theorem d_C_second_38 : decode b_C_second 38 = .ok (.iload_n 3, 1) := by decide +kernel
theorem d_C_second_39 : decode b_C_second 39 = .ok (.invokestatic 77, 3) := by decide +kernel
theorem d_C_second_42 : decode b_C_second 42 = .ok (.ifCond .ne 13, 3) := by decide +kernel
theorem d_C_second_45 : decode b_C_second 45 = .ok (.new 54, 3) := by decide +kernel
theorem d_C_second_48 : decode b_C_second 48 = .ok (.dup, 1) := by decide +kernel
theorem d_C_second_49 : decode b_C_second 49 = .ok (.ldc 207, 2) := by decide +kernel
theorem d_C_second_51 : decode b_C_second 51 = .ok (.invokespecial 58, 3) := by decide +kernel
theorem d_C_second_54 : decode b_C_second 54 = .ok (.athrow, 1) := by decide +kernel
theorem d_C_second_55 : decode b_C_second 55 = .ok (.aload 4, 2) := by decide +kernel
theorem d_C_second_57 : decode b_C_second 57 = .ok (.getfield 177, 3) := by decide +kernel
theorem d_C_second_60 : decode b_C_second 60 = .ok (.iconst 1, 1) := by decide +kernel
theorem d_C_second_61 : decode b_C_second 61 = .ok (.if_icmp .eq 13, 3) := by decide +kernel
theorem d_C_second_64 : decode b_C_second 64 = .ok (.new 109, 3) := by decide +kernel
theorem d_C_second_67 : decode b_C_second 67 = .ok (.dup, 1) := by decide +kernel
theorem d_C_second_68 : decode b_C_second 68 = .ok (.ldc 209, 2) := by decide +kernel
theorem d_C_second_70 : decode b_C_second 70 = .ok (.invokespecial 113, 3) := by decide +kernel
theorem d_C_second_73 : decode b_C_second 73 = .ok (.athrow, 1) := by decide +kernel
theorem d_C_second_74 : decode b_C_second 74 = .ok (.iload 6, 2) := by decide +kernel
theorem d_C_second_76 : decode b_C_second 76 = .ok (.bipush 6, 2) := by decide +kernel
theorem d_C_second_78 : decode b_C_second 78 = .ok (.imul, 1) := by decide +kernel
theorem d_C_second_79 : decode b_C_second 79 = .ok (.iload_n 3, 1) := by decide +kernel
theorem d_C_second_80 : decode b_C_second 80 = .ok (.iadd, 1) := by decide +kernel
theorem d_C_second_81 : decode b_C_second 81 = .ok (.istore 7, 2) := by decide +kernel
theorem d_C_second_83 : decode b_C_second 83 = .ok (.aload 4, 2) := by decide +kernel
theorem d_C_second_85 : decode b_C_second 85 = .ok (.iload 7, 2) := by decide +kernel
theorem d_C_second_87 : decode b_C_second 87 = .ok (.invokevirtual 211, 3) := by decide +kernel
theorem d_C_second_90 : decode b_C_second 90 = .ok (.ifCond .eq 23, 3) := by decide +kernel
theorem d_C_second_93 : decode b_C_second 93 = .ok (.aload_n 0, 1) := by decide +kernel
theorem d_C_second_94 : decode b_C_second 94 = .ok (.aload 4, 2) := by decide +kernel
theorem d_C_second_96 : decode b_C_second 96 = .ok (.iload 7, 2) := by decide +kernel
theorem d_C_second_98 : decode b_C_second 98 = .ok (.invokevirtual 214, 3) := by decide +kernel
theorem d_C_second_101 : decode b_C_second 101 = .ok (.aload 5, 2) := by decide +kernel
theorem d_C_second_103 : decode b_C_second 103 = .ok (.invokevirtual 217, 3) := by decide +kernel
theorem d_C_second_106 : decode b_C_second 106 = .ok (.ifCond .ne 7, 3) := by decide +kernel
theorem d_C_second_109 : decode b_C_second 109 = .ok (.iconst 1, 1) := by decide +kernel
theorem d_C_second_110 : decode b_C_second 110 = .ok (.goto 4, 3) := by decide +kernel
theorem d_C_second_113 : decode b_C_second 113 = .ok (.iconst 0, 1) := by decide +kernel
theorem d_C_second_114 : decode b_C_second 114 = .ok (.ireturn, 1) := by decide +kernel
theorem d_C_close_0 : decode b_C_close 0 = .ok (.aload_n 0, 1) := by decide +kernel
theorem d_C_close_1 : decode b_C_close 1 = .ok (.iload_n 1, 1) := by decide +kernel
theorem d_C_close_2 : decode b_C_close 2 = .ok (.invokevirtual 173, 3) := by decide +kernel
theorem d_C_close_5 : decode b_C_close 5 = .ok (.astore_n 2, 1) := by decide +kernel
theorem d_C_close_6 : decode b_C_close 6 = .ok (.aload_n 2, 1) := by decide +kernel
theorem d_C_close_7 : decode b_C_close 7 = .ok (.getfield 177, 3) := by decide +kernel
theorem d_C_close_10 : decode b_C_close 10 = .ok (.iconst 1, 1) := by decide +kernel
theorem d_C_close_11 : decode b_C_close 11 = .ok (.if_icmp .eq 13, 3) := by decide +kernel
theorem d_C_close_14 : decode b_C_close 14 = .ok (.new 109, 3) := by decide +kernel
theorem d_C_close_17 : decode b_C_close 17 = .ok (.dup, 1) := by decide +kernel
theorem d_C_close_18 : decode b_C_close 18 = .ok (.ldc 209, 2) := by decide +kernel
theorem d_C_close_20 : decode b_C_close 20 = .ok (.invokespecial 113, 3) := by decide +kernel
theorem d_C_close_23 : decode b_C_close 23 = .ok (.athrow, 1) := by decide +kernel
theorem d_C_close_24 : decode b_C_close 24 = .ok (.iconst 0, 1) := by decide +kernel
theorem d_C_close_25 : decode b_C_close 25 = .ok (.istore_n 3, 1) := by decide +kernel
theorem d_C_close_26 : decode b_C_close 26 = .ok (.iload_n 3, 1) := by decide +kernel
theorem d_C_close_27 : decode b_C_close 27 = .ok (.aload_n 2, 1) := by decide +kernel
theorem d_C_close_28 : decode b_C_close 28 = .ok (.getfield 190, 3) := by decide +kernel
theorem d_C_close_31 : decode b_C_close 31 = .ok (.arraylength, 1) := by decide +kernel
theorem d_C_close_32 : decode b_C_close 32 = .ok (.if_icmp .ge 43, 3) := by decide +kernel
theorem d_C_close_35 : decode b_C_close 35 = .ok (.aload_n 0, 1) := by decide +kernel
theorem d_C_close_36 : decode b_C_close 36 = .ok (.aload_n 2, 1) := by decide +kernel
theorem d_C_close_37 : decode b_C_close 37 = .ok (.getfield 190, 3) := by decide +kernel
theorem d_C_close_40 : decode b_C_close 40 = .ok (.iload_n 3, 1) := by decide +kernel
theorem d_C_close_41 : decode b_C_close 41 = .ok (.iaload, 1) := by decide +kernel
theorem d_C_close_42 : decode b_C_close 42 = .ok (.invokevirtual 73, 3) := by decide +kernel
theorem d_C_close_45 : decode b_C_close 45 = .ok (.astore 4, 2) := by decide +kernel
theorem d_C_close_47 : decode b_C_close 47 = .ok (.aload 4, 2) := by decide +kernel
theorem d_C_close_49 : decode b_C_close 49 = .ok (.iconst 0, 1) := by decide +kernel
theorem d_C_close_50 : decode b_C_close 50 = .ok (.putfield 221, 3) := by decide +kernel
theorem d_C_close_53 : decode b_C_close 53 = .ok (.aload_n 2, 1) := by decide +kernel
theorem d_C_close_54 : decode b_C_close 54 = .ok (.iload_n 3, 1) := by decide +kernel
theorem d_C_close_55 : decode b_C_close 55 = .ok (.invokevirtual 224, 3) := by decide +kernel
theorem d_C_close_58 : decode b_C_close 58 = .ok (.ifCond .eq 11, 3) := by decide +kernel
theorem d_C_close_61 : decode b_C_close 61 = .ok (.aload_n 0, 1) := by decide +kernel
theorem d_C_close_62 : decode b_C_close 62 = .ok (.aload_n 2, 1) := by decide +kernel
theorem d_C_close_63 : decode b_C_close 63 = .ok (.iload_n 3, 1) := by decide +kernel
theorem d_C_close_64 : decode b_C_close 64 = .ok (.aload 4, 2) := by decide +kernel
theorem d_C_close_66 : decode b_C_close 66 = .ok (.invokevirtual 227, 3) := by decide +kernel
theorem d_C_close_69 : decode b_C_close 69 = .ok (.iinc 3 1, 3) := by decide +kernel
theorem d_C_close_72 : decode b_C_close 72 = .ok (.goto (-46), 3) := by decide +kernel
theorem d_C_close_75 : decode b_C_close 75 = .ok (.aload_n 2, 1) := by decide +kernel
theorem d_C_close_76 : decode b_C_close 76 = .ok (.iconst 2, 1) := by decide +kernel
theorem d_C_close_77 : decode b_C_close 77 = .ok (.putfield 177, 3) := by decide +kernel
theorem d_C_close_80 : decode b_C_close 80 = .ok (.aload_n 2, 1) := by decide +kernel
theorem d_C_close_81 : decode b_C_close 81 = .ok (.getfield 231, 3) := by decide +kernel
theorem d_C_close_84 : decode b_C_close 84 = .ok (.ireturn, 1) := by decide +kernel
theorem d_C_differ_0 : decode b_C_differ 0 = .ok (.aload_n 0, 1) := by decide +kernel
theorem d_C_differ_1 : decode b_C_differ 1 = .ok (.iload_n 1, 1) := by decide +kernel
theorem d_C_differ_2 : decode b_C_differ 2 = .ok (.invokevirtual 173, 3) := by decide +kernel
theorem d_C_differ_5 : decode b_C_differ 5 = .ok (.astore 4, 2) := by decide +kernel
theorem d_C_differ_7 : decode b_C_differ 7 = .ok (.aload 4, 2) := by decide +kernel
theorem d_C_differ_9 : decode b_C_differ 9 = .ok (.iload_n 2, 1) := by decide +kernel
theorem d_C_differ_10 : decode b_C_differ 10 = .ok (.invokevirtual 234, 3) := by decide +kernel
theorem d_C_differ_13 : decode b_C_differ 13 = .ok (.istore 5, 2) := by decide +kernel
theorem d_C_differ_15 : decode b_C_differ 15 = .ok (.iload 5, 2) := by decide +kernel
theorem d_C_differ_17 : decode b_C_differ 17 = .ok (.iconst (-1), 1) := by decide +kernel
theorem d_C_differ_18 : decode b_C_differ 18 = .ok (.if_icmp .ne 13, 3) := by decide +kernel
theorem d_C_differ_21 : decode b_C_differ 21 = .ok (.new 202, 3) := by decide +kernel
theorem d_C_differ_24 : decode b_C_differ 24 = .ok (.dup, 1) := by decide +kernel
theorem d_C_differ_25 : decode b_C_differ 25 = .ok (.ldc 237, 2) := by decide +kernel
theorem d_C_differ_27 : decode b_C_differ 27 = .ok (.invokespecial 206, 3) := by decide +kernel
theorem d_C_differ_30 : decode b_C_differ 30 = .ok (.athrow, 1) := by decide +kernel
theorem d_C_differ_31 : decode b_C_differ 31 = .ok (.iload_n 3, 1) := by decide +kernel
theorem d_C_differ_32 : decode b_C_differ 32 = .ok (.tableswitch 100 0 5 #[40, 52, 58, 66, 74, 91], 40) := by decide +kernel
theorem d_C_differ_72 : decode b_C_differ 72 = .ok (.aload 4, 2) := by decide +kernel
theorem d_C_differ_74 : decode b_C_differ 74 = .ok (.getfield 190, 3) := by decide +kernel
theorem d_C_differ_77 : decode b_C_differ 77 = .ok (.iload 5, 2) := by decide +kernel
theorem d_C_differ_79 : decode b_C_differ 79 = .ok (.bipush 6, 2) := by decide +kernel
theorem d_C_differ_81 : decode b_C_differ 81 = .ok (.idiv, 1) := by decide +kernel
theorem d_C_differ_82 : decode b_C_differ 82 = .ok (.iaload, 1) := by decide +kernel
theorem d_C_differ_83 : decode b_C_differ 83 = .ok (.ireturn, 1) := by decide +kernel
theorem d_C_differ_84 : decode b_C_differ 84 = .ok (.iload 5, 2) := by decide +kernel
theorem d_C_differ_86 : decode b_C_differ 86 = .ok (.bipush 6, 2) := by decide +kernel
theorem d_C_differ_88 : decode b_C_differ 88 = .ok (.irem, 1) := by decide +kernel
theorem d_C_differ_89 : decode b_C_differ 89 = .ok (.ireturn, 1) := by decide +kernel
theorem d_C_differ_90 : decode b_C_differ 90 = .ok (.aload 4, 2) := by decide +kernel
theorem d_C_differ_92 : decode b_C_differ 92 = .ok (.iload 5, 2) := by decide +kernel
theorem d_C_differ_94 : decode b_C_differ 94 = .ok (.invokevirtual 214, 3) := by decide +kernel
theorem d_C_differ_97 : decode b_C_differ 97 = .ok (.ireturn, 1) := by decide +kernel
theorem d_C_differ_98 : decode b_C_differ 98 = .ok (.aload 4, 2) := by decide +kernel
theorem d_C_differ_100 : decode b_C_differ 100 = .ok (.iload 5, 2) := by decide +kernel
theorem d_C_differ_102 : decode b_C_differ 102 = .ok (.invokevirtual 239, 3) := by decide +kernel
theorem d_C_differ_105 : decode b_C_differ 105 = .ok (.ireturn, 1) := by decide +kernel
theorem d_C_differ_106 : decode b_C_differ 106 = .ok (.aload 4, 2) := by decide +kernel
theorem d_C_differ_108 : decode b_C_differ 108 = .ok (.getfield 242, 3) := by decide +kernel
theorem d_C_differ_111 : decode b_C_differ 111 = .ok (.iload 5, 2) := by decide +kernel
theorem d_C_differ_113 : decode b_C_differ 113 = .ok (.baload, 1) := by decide +kernel
theorem d_C_differ_114 : decode b_C_differ 114 = .ok (.ifCond .eq 7, 3) := by decide +kernel
theorem d_C_differ_117 : decode b_C_differ 117 = .ok (.iconst 1, 1) := by decide +kernel
theorem d_C_differ_118 : decode b_C_differ 118 = .ok (.goto 4, 3) := by decide +kernel
theorem d_C_differ_121 : decode b_C_differ 121 = .ok (.iconst 0, 1) := by decide +kernel
theorem d_C_differ_122 : decode b_C_differ 122 = .ok (.ireturn, 1) := by decide +kernel
theorem d_C_differ_123 : decode b_C_differ 123 = .ok (.aload 4, 2) := by decide +kernel
theorem d_C_differ_125 : decode b_C_differ 125 = .ok (.getfield 246, 3) := by decide +kernel
theorem d_C_differ_128 : decode b_C_differ 128 = .ok (.iload 5, 2) := by decide +kernel
theorem d_C_differ_130 : decode b_C_differ 130 = .ok (.iaload, 1) := by decide +kernel
theorem d_C_differ_131 : decode b_C_differ 131 = .ok (.ireturn, 1) := by decide +kernel
theorem d_C_differ_132 : decode b_C_differ 132 = .ok (.new 54, 3) := by decide +kernel
theorem d_C_differ_135 : decode b_C_differ 135 = .ok (.dup, 1) := by decide +kernel
theorem d_C_differ_136 : decode b_C_differ 136 = .ok (.ldc 249, 2) := by decide +kernel
theorem d_C_differ_138 : decode b_C_differ 138 = .ok (.invokespecial 58, 3) := by decide +kernel
theorem d_C_differ_141 : decode b_C_differ 141 = .ok (.athrow, 1) := by decide +kernel
theorem d_C_correct_0 : decode b_C_correct 0 = .ok (.aload_n 0, 1) := by decide +kernel
theorem d_C_correct_1 : decode b_C_correct 1 = .ok (.iload_n 1, 1) := by decide +kernel
theorem d_C_correct_2 : decode b_C_correct 2 = .ok (.invokevirtual 173, 3) := by decide +kernel
theorem d_C_correct_5 : decode b_C_correct 5 = .ok (.astore 4, 2) := by decide +kernel
theorem d_C_correct_7 : decode b_C_correct 7 = .ok (.aload 4, 2) := by decide +kernel
theorem d_C_correct_9 : decode b_C_correct 9 = .ok (.iload_n 2, 1) := by decide +kernel
theorem d_C_correct_10 : decode b_C_correct 10 = .ok (.invokevirtual 234, 3) := by decide +kernel
theorem d_C_correct_13 : decode b_C_correct 13 = .ok (.istore 5, 2) := by decide +kernel
theorem d_C_correct_15 : decode b_C_correct 15 = .ok (.iload 5, 2) := by decide +kernel
theorem d_C_correct_17 : decode b_C_correct 17 = .ok (.iconst (-1), 1) := by decide +kernel
theorem d_C_correct_18 : decode b_C_correct 18 = .ok (.if_icmp .ne 13, 3) := by decide +kernel
theorem d_C_correct_21 : decode b_C_correct 21 = .ok (.new 202, 3) := by decide +kernel
theorem d_C_correct_24 : decode b_C_correct 24 = .ok (.dup, 1) := by decide +kernel
theorem d_C_correct_25 : decode b_C_correct 25 = .ok (.ldc 237, 2) := by decide +kernel
theorem d_C_correct_27 : decode b_C_correct 27 = .ok (.invokespecial 206, 3) := by decide +kernel
theorem d_C_correct_30 : decode b_C_correct 30 = .ok (.athrow, 1) := by decide +kernel
theorem d_C_correct_31 : decode b_C_correct 31 = .ok (.iload_n 3, 1) := by decide +kernel
theorem d_C_correct_32 : decode b_C_correct 32 = .ok (.invokestatic 94, 3) := by decide +kernel
theorem d_C_correct_35 : decode b_C_correct 35 = .ok (.ifCond .ne 13, 3) := by decide +kernel
theorem d_C_correct_38 : decode b_C_correct 38 = .ok (.new 54, 3) := by decide +kernel
theorem d_C_correct_41 : decode b_C_correct 41 = .ok (.dup, 1) := by decide +kernel
theorem d_C_correct_42 : decode b_C_correct 42 = .ok (.ldc 251, 2) := by decide +kernel
theorem d_C_correct_44 : decode b_C_correct 44 = .ok (.invokespecial 58, 3) := by decide +kernel
theorem d_C_correct_47 : decode b_C_correct 47 = .ok (.athrow, 1) := by decide +kernel
theorem d_C_correct_48 : decode b_C_correct 48 = .ok (.aload 4, 2) := by decide +kernel
theorem d_C_correct_50 : decode b_C_correct 50 = .ok (.getfield 242, 3) := by decide +kernel
theorem d_C_correct_53 : decode b_C_correct 53 = .ok (.iload 5, 2) := by decide +kernel
theorem d_C_correct_55 : decode b_C_correct 55 = .ok (.baload, 1) := by decide +kernel
theorem d_C_correct_56 : decode b_C_correct 56 = .ok (.ifCond .eq 13, 3) := by decide +kernel
theorem d_C_correct_59 : decode b_C_correct 59 = .ok (.new 109, 3) := by decide +kernel
theorem d_C_correct_62 : decode b_C_correct 62 = .ok (.dup, 1) := by decide +kernel
theorem d_C_correct_63 : decode b_C_correct 63 = .ok (.ldc 253, 2) := by decide +kernel
theorem d_C_correct_65 : decode b_C_correct 65 = .ok (.invokespecial 113, 3) := by decide +kernel
theorem d_C_correct_68 : decode b_C_correct 68 = .ok (.athrow, 1) := by decide +kernel
theorem d_C_correct_69 : decode b_C_correct 69 = .ok (.aload_n 0, 1) := by decide +kernel
theorem d_C_correct_70 : decode b_C_correct 70 = .ok (.aload 4, 2) := by decide +kernel
theorem d_C_correct_72 : decode b_C_correct 72 = .ok (.iload 5, 2) := by decide +kernel
theorem d_C_correct_74 : decode b_C_correct 74 = .ok (.iload_n 3, 1) := by decide +kernel
theorem d_C_correct_75 : decode b_C_correct 75 = .ok (.invokevirtual 255, 3) := by decide +kernel
theorem d_C_correct_78 : decode b_C_correct 78 = .ok (.ifCond .ne 14, 3) := by decide +kernel
theorem d_C_correct_81 : decode b_C_correct 81 = .ok (.aload 4, 2) := by decide +kernel
theorem d_C_correct_83 : decode b_C_correct 83 = .ok (.getfield 246, 3) := by decide +kernel
theorem d_C_correct_86 : decode b_C_correct 86 = .ok (.iload 5, 2) := by decide +kernel
theorem d_C_correct_88 : decode b_C_correct 88 = .ok (.iload_n 3, 1) := by decide +kernel
theorem d_C_correct_89 : decode b_C_correct 89 = .ok (.iastore, 1) := by decide +kernel
theorem d_C_correct_90 : decode b_C_correct 90 = .ok (.iconst 0, 1) := by decide +kernel
theorem d_C_correct_91 : decode b_C_correct 91 = .ok (.ireturn, 1) := by decide +kernel
theorem d_C_correct_92 : decode b_C_correct 92 = .ok (.aload_n 0, 1) := by decide +kernel
theorem d_C_correct_93 : decode b_C_correct 93 = .ok (.aload 4, 2) := by decide +kernel
theorem d_C_correct_95 : decode b_C_correct 95 = .ok (.getfield 190, 3) := by decide +kernel
theorem d_C_correct_98 : decode b_C_correct 98 = .ok (.iload 5, 2) := by decide +kernel
theorem d_C_correct_100 : decode b_C_correct 100 = .ok (.bipush 6, 2) := by decide +kernel
theorem d_C_correct_102 : decode b_C_correct 102 = .ok (.idiv, 1) := by decide +kernel
theorem d_C_correct_103 : decode b_C_correct 103 = .ok (.iaload, 1) := by decide +kernel
theorem d_C_correct_104 : decode b_C_correct 104 = .ok (.invokevirtual 73, 3) := by decide +kernel
theorem d_C_correct_107 : decode b_C_correct 107 = .ok (.astore 6, 2) := by decide +kernel
theorem d_C_correct_109 : decode b_C_correct 109 = .ok (.aload 6, 2) := by decide +kernel
theorem d_C_correct_111 : decode b_C_correct 111 = .ok (.getfield 85, 3) := by decide +kernel
theorem d_C_correct_114 : decode b_C_correct 114 = .ok (.iload 5, 2) := by decide +kernel
theorem d_C_correct_116 : decode b_C_correct 116 = .ok (.bipush 6, 2) := by decide +kernel
theorem d_C_correct_118 : decode b_C_correct 118 = .ok (.irem, 1) := by decide +kernel
theorem d_C_correct_119 : decode b_C_correct 119 = .ok (.iaload, 1) := by decide +kernel
theorem d_C_correct_120 : decode b_C_correct 120 = .ok (.aload 4, 2) := by decide +kernel
theorem d_C_correct_122 : decode b_C_correct 122 = .ok (.iload 5, 2) := by decide +kernel
theorem d_C_correct_124 : decode b_C_correct 124 = .ok (.invokevirtual 214, 3) := by decide +kernel
theorem d_C_correct_127 : decode b_C_correct 127 = .ok (.iadd, 1) := by decide +kernel
theorem d_C_correct_128 : decode b_C_correct 128 = .ok (.istore 7, 2) := by decide +kernel
theorem d_C_correct_130 : decode b_C_correct 130 = .ok (.iload 7, 2) := by decide +kernel
theorem d_C_correct_132 : decode b_C_correct 132 = .ok (.invokestatic 80, 3) := by decide +kernel
theorem d_C_correct_135 : decode b_C_correct 135 = .ok (.ifCond .ne 14, 3) := by decide +kernel
theorem d_C_correct_138 : decode b_C_correct 138 = .ok (.new 109, 3) := by decide +kernel
theorem d_C_correct_141 : decode b_C_correct 141 = .ok (.dup, 1) := by decide +kernel
theorem d_C_correct_142 : decode b_C_correct 142 = .ok (.ldc_w 259, 3) := by decide +kernel
theorem d_C_correct_145 : decode b_C_correct 145 = .ok (.invokespecial 113, 3) := by decide +kernel
theorem d_C_correct_148 : decode b_C_correct 148 = .ok (.athrow, 1) := by decide +kernel
theorem d_C_correct_149 : decode b_C_correct 149 = .ok (.aload 6, 2) := by decide +kernel
theorem d_C_correct_151 : decode b_C_correct 151 = .ok (.getfield 85, 3) := by decide +kernel
theorem d_C_correct_154 : decode b_C_correct 154 = .ok (.iload 5, 2) := by decide +kernel
theorem d_C_correct_156 : decode b_C_correct 156 = .ok (.bipush 6, 2) := by decide +kernel
theorem d_C_correct_158 : decode b_C_correct 158 = .ok (.irem, 1) := by decide +kernel
theorem d_C_correct_159 : decode b_C_correct 159 = .ok (.iload 7, 2) := by decide +kernel
theorem d_C_correct_161 : decode b_C_correct 161 = .ok (.iastore, 1) := by decide +kernel
theorem d_C_correct_162 : decode b_C_correct 162 = .ok (.aload 4, 2) := by decide +kernel
theorem d_C_correct_164 : decode b_C_correct 164 = .ok (.getfield 242, 3) := by decide +kernel
theorem d_C_correct_167 : decode b_C_correct 167 = .ok (.iload 5, 2) := by decide +kernel
theorem d_C_correct_169 : decode b_C_correct 169 = .ok (.iconst 1, 1) := by decide +kernel
theorem d_C_correct_170 : decode b_C_correct 170 = .ok (.bastore, 1) := by decide +kernel
theorem d_C_correct_171 : decode b_C_correct 171 = .ok (.iconst 1, 1) := by decide +kernel
theorem d_C_correct_172 : decode b_C_correct 172 = .ok (.ireturn, 1) := by decide +kernel
theorem d_C_share_0 : decode b_C_share 0 = .ok (.iload_n 1, 1) := by decide +kernel
theorem d_C_share_1 : decode b_C_share 1 = .ok (.iconst 0, 1) := by decide +kernel
theorem d_C_share_2 : decode b_C_share 2 = .ok (.iconst 1, 1) := by decide +kernel
theorem d_C_share_3 : decode b_C_share 3 = .ok (.invokestatic 88, 3) := by decide +kernel
theorem d_C_share_6 : decode b_C_share 6 = .ok (.ifCond .ne 14, 3) := by decide +kernel
theorem d_C_share_9 : decode b_C_share 9 = .ok (.new 54, 3) := by decide +kernel
theorem d_C_share_12 : decode b_C_share 12 = .ok (.dup, 1) := by decide +kernel
theorem d_C_share_13 : decode b_C_share 13 = .ok (.ldc_w 261, 3) := by decide +kernel
theorem d_C_share_16 : decode b_C_share 16 = .ok (.invokespecial 58, 3) := by decide +kernel
theorem d_C_share_19 : decode b_C_share 19 = .ok (.athrow, 1) := by decide +kernel
theorem d_C_share_20 : decode b_C_share 20 = .ok (.aload_n 0, 1) := by decide +kernel
theorem d_C_share_21 : decode b_C_share 21 = .ok (.getfield 263, 3) := by decide +kernel
theorem d_C_share_24 : decode b_C_share 24 = .ok (.aload_n 0, 1) := by decide +kernel
theorem d_C_share_25 : decode b_C_share 25 = .ok (.getfield 266, 3) := by decide +kernel
theorem d_C_share_28 : decode b_C_share 28 = .ok (.invokestatic 269, 3) := by decide +kernel
theorem d_C_share_31 : decode b_C_share 31 = .ok (.istore_n 2, 1) := by decide +kernel
theorem d_C_share_32 : decode b_C_share 32 = .ok (.iload_n 2, 1) := by decide +kernel
theorem d_C_share_33 : decode b_C_share 33 = .ok (.ifCond .ne 14, 3) := by decide +kernel
theorem d_C_share_36 : decode b_C_share 36 = .ok (.new 272, 3) := by decide +kernel
theorem d_C_share_39 : decode b_C_share 39 = .ok (.dup, 1) := by decide +kernel
theorem d_C_share_40 : decode b_C_share 40 = .ok (.ldc_w 274, 3) := by decide +kernel
theorem d_C_share_43 : decode b_C_share 43 = .ok (.invokespecial 276, 3) := by decide +kernel
theorem d_C_share_46 : decode b_C_share 46 = .ok (.athrow, 1) := by decide +kernel
theorem d_C_share_47 : decode b_C_share 47 = .ok (.iload_n 1, 1) := by decide +kernel
theorem d_C_share_48 : decode b_C_share 48 = .ok (.ifCond .ne 10, 3) := by decide +kernel
theorem d_C_share_51 : decode b_C_share 51 = .ok (.aload_n 0, 1) := by decide +kernel
theorem d_C_share_52 : decode b_C_share 52 = .ok (.getfield 266, 3) := by decide +kernel
theorem d_C_share_55 : decode b_C_share 55 = .ok (.goto 7, 3) := by decide +kernel
theorem d_C_share_58 : decode b_C_share 58 = .ok (.aload_n 0, 1) := by decide +kernel
theorem d_C_share_59 : decode b_C_share 59 = .ok (.getfield 263, 3) := by decide +kernel
theorem d_C_share_62 : decode b_C_share 62 = .ok (.iload_n 2, 1) := by decide +kernel
theorem d_C_share_63 : decode b_C_share 63 = .ok (.idiv, 1) := by decide +kernel
theorem d_C_share_64 : decode b_C_share 64 = .ok (.ireturn, 1) := by decide +kernel
theorem d_C_last_0 : decode b_C_last 0 = .ok (.aload_n 0, 1) := by decide +kernel
theorem d_C_last_1 : decode b_C_last 1 = .ok (.iload_n 1, 1) := by decide +kernel
theorem d_C_last_2 : decode b_C_last 2 = .ok (.invokevirtual 73, 3) := by decide +kernel
theorem d_C_last_5 : decode b_C_last 5 = .ok (.getfield 277, 3) := by decide +kernel
theorem d_C_last_8 : decode b_C_last 8 = .ok (.ireturn, 1) := by decide +kernel
theorem d_C_due_0 : decode b_C_due 0 = .ok (.iload_n 1, 1) := by decide +kernel
theorem d_C_due_1 : decode b_C_due 1 = .ok (.invokestatic 101, 3) := by decide +kernel
theorem d_C_due_4 : decode b_C_due 4 = .ok (.ifCond .ne 13, 3) := by decide +kernel
theorem d_C_due_7 : decode b_C_due 7 = .ok (.new 54, 3) := by decide +kernel
theorem d_C_due_10 : decode b_C_due 10 = .ok (.dup, 1) := by decide +kernel
theorem d_C_due_11 : decode b_C_due 11 = .ok (.ldc 104, 2) := by decide +kernel
theorem d_C_due_13 : decode b_C_due 13 = .ok (.invokespecial 58, 3) := by decide +kernel
theorem d_C_due_16 : decode b_C_due 16 = .ok (.athrow, 1) := by decide +kernel
theorem d_C_due_17 : decode b_C_due 17 = .ok (.iconst 0, 1) := by decide +kernel
theorem d_C_due_18 : decode b_C_due 18 = .ok (.istore_n 2, 1) := by decide +kernel
theorem d_C_due_19 : decode b_C_due 19 = .ok (.iconst 0, 1) := by decide +kernel
theorem d_C_due_20 : decode b_C_due 20 = .ok (.istore_n 3, 1) := by decide +kernel
theorem d_C_due_21 : decode b_C_due 21 = .ok (.iload_n 3, 1) := by decide +kernel
theorem d_C_due_22 : decode b_C_due 22 = .ok (.aload_n 0, 1) := by decide +kernel
theorem d_C_due_23 : decode b_C_due 23 = .ok (.getfield 61, 3) := by decide +kernel
theorem d_C_due_26 : decode b_C_due 26 = .ok (.if_icmp .ge 48, 3) := by decide +kernel
theorem d_C_due_29 : decode b_C_due 29 = .ok (.aload_n 0, 1) := by decide +kernel
theorem d_C_due_30 : decode b_C_due 30 = .ok (.iload_n 3, 1) := by decide +kernel
theorem d_C_due_31 : decode b_C_due 31 = .ok (.invokevirtual 73, 3) := by decide +kernel
theorem d_C_due_34 : decode b_C_due 34 = .ok (.astore 4, 2) := by decide +kernel
theorem d_C_due_36 : decode b_C_due 36 = .ok (.aload 4, 2) := by decide +kernel
theorem d_C_due_38 : decode b_C_due 38 = .ok (.getfield 277, 3) := by decide +kernel
theorem d_C_due_41 : decode b_C_due 41 = .ok (.iconst (-1), 1) := by decide +kernel
theorem d_C_due_42 : decode b_C_due 42 = .ok (.if_icmp .eq 23, 3) := by decide +kernel
theorem d_C_due_45 : decode b_C_due 45 = .ok (.iload_n 1, 1) := by decide +kernel
theorem d_C_due_46 : decode b_C_due 46 = .ok (.aload 4, 2) := by decide +kernel
theorem d_C_due_48 : decode b_C_due 48 = .ok (.getfield 277, 3) := by decide +kernel
theorem d_C_due_51 : decode b_C_due 51 = .ok (.isub, 1) := by decide +kernel
theorem d_C_due_52 : decode b_C_due 52 = .ok (.aload_n 0, 1) := by decide +kernel
theorem d_C_due_53 : decode b_C_due 53 = .ok (.getfield 27, 3) := by decide +kernel
theorem d_C_due_56 : decode b_C_due 56 = .ok (.aload 4, 2) := by decide +kernel
theorem d_C_due_58 : decode b_C_due 58 = .ok (.getfield 280, 3) := by decide +kernel
theorem d_C_due_61 : decode b_C_due 61 = .ok (.iaload, 1) := by decide +kernel
theorem d_C_due_62 : decode b_C_due 62 = .ok (.if_icmp .lt 6, 3) := by decide +kernel
theorem d_C_due_65 : decode b_C_due 65 = .ok (.iinc 2 1, 3) := by decide +kernel
theorem d_C_due_68 : decode b_C_due 68 = .ok (.iinc 3 1, 3) := by decide +kernel
theorem d_C_due_71 : decode b_C_due 71 = .ok (.goto (-50), 3) := by decide +kernel
theorem d_C_due_74 : decode b_C_due 74 = .ok (.iload_n 2, 1) := by decide +kernel
theorem d_C_due_75 : decode b_C_due 75 = .ok (.ireturn, 1) := by decide +kernel
theorem d_C_booked_0 : decode b_C_booked 0 = .ok (.aload_n 0, 1) := by decide +kernel
theorem d_C_booked_1 : decode b_C_booked 1 = .ok (.iload_n 1, 1) := by decide +kernel
theorem d_C_booked_2 : decode b_C_booked 2 = .ok (.invokevirtual 73, 3) := by decide +kernel
theorem d_C_booked_5 : decode b_C_booked 5 = .ok (.astore_n 3, 1) := by decide +kernel
theorem d_C_booked_6 : decode b_C_booked 6 = .ok (.iload_n 2, 1) := by decide +kernel
theorem d_C_booked_7 : decode b_C_booked 7 = .ok (.invokestatic 77, 3) := by decide +kernel
theorem d_C_booked_10 : decode b_C_booked 10 = .ok (.ifCond .ne 13, 3) := by decide +kernel
theorem d_C_booked_13 : decode b_C_booked 13 = .ok (.new 54, 3) := by decide +kernel
theorem d_C_booked_16 : decode b_C_booked 16 = .ok (.dup, 1) := by decide +kernel
theorem d_C_booked_17 : decode b_C_booked 17 = .ok (.ldc 207, 2) := by decide +kernel
theorem d_C_booked_19 : decode b_C_booked 19 = .ok (.invokespecial 58, 3) := by decide +kernel
theorem d_C_booked_22 : decode b_C_booked 22 = .ok (.athrow, 1) := by decide +kernel
theorem d_C_booked_23 : decode b_C_booked 23 = .ok (.aload_n 3, 1) := by decide +kernel
theorem d_C_booked_24 : decode b_C_booked 24 = .ok (.getfield 85, 3) := by decide +kernel
theorem d_C_booked_27 : decode b_C_booked 27 = .ok (.iload_n 2, 1) := by decide +kernel
theorem d_C_booked_28 : decode b_C_booked 28 = .ok (.iaload, 1) := by decide +kernel
theorem d_C_booked_29 : decode b_C_booked 29 = .ok (.ireturn, 1) := by decide +kernel
theorem d_C_told_0 : decode b_C_told 0 = .ok (.aload_n 0, 1) := by decide +kernel
theorem d_C_told_1 : decode b_C_told 1 = .ok (.iload_n 1, 1) := by decide +kernel
theorem d_C_told_2 : decode b_C_told 2 = .ok (.invokevirtual 173, 3) := by decide +kernel
theorem d_C_told_5 : decode b_C_told 5 = .ok (.astore_n 3, 1) := by decide +kernel
theorem d_C_told_6 : decode b_C_told 6 = .ok (.iload_n 2, 1) := by decide +kernel
theorem d_C_told_7 : decode b_C_told 7 = .ok (.bipush 10, 2) := by decide +kernel
theorem d_C_told_9 : decode b_C_told 9 = .ok (.if_icmp .lt 31, 3) := by decide +kernel
theorem d_C_told_12 : decode b_C_told 12 = .ok (.iload_n 2, 1) := by decide +kernel
theorem d_C_told_13 : decode b_C_told 13 = .ok (.bipush 10, 2) := by decide +kernel
theorem d_C_told_15 : decode b_C_told 15 = .ok (.isub, 1) := by decide +kernel
theorem d_C_told_16 : decode b_C_told 16 = .ok (.istore 4, 2) := by decide +kernel
theorem d_C_told_18 : decode b_C_told 18 = .ok (.iload 4, 2) := by decide +kernel
theorem d_C_told_20 : decode b_C_told 20 = .ok (.aload_n 3, 1) := by decide +kernel
theorem d_C_told_21 : decode b_C_told 21 = .ok (.getfield 190, 3) := by decide +kernel
theorem d_C_told_24 : decode b_C_told 24 = .ok (.arraylength, 1) := by decide +kernel
theorem d_C_told_25 : decode b_C_told 25 = .ok (.if_icmp .ge 13, 3) := by decide +kernel
theorem d_C_told_28 : decode b_C_told 28 = .ok (.aload_n 3, 1) := by decide +kernel
theorem d_C_told_29 : decode b_C_told 29 = .ok (.getfield 190, 3) := by decide +kernel
theorem d_C_told_32 : decode b_C_told 32 = .ok (.iload 4, 2) := by decide +kernel
theorem d_C_told_34 : decode b_C_told 34 = .ok (.iaload, 1) := by decide +kernel
theorem d_C_told_35 : decode b_C_told 35 = .ok (.goto 4, 3) := by decide +kernel
theorem d_C_told_38 : decode b_C_told 38 = .ok (.iconst (-1), 1) := by decide +kernel
theorem d_C_told_39 : decode b_C_told 39 = .ok (.ireturn, 1) := by decide +kernel
theorem d_C_told_40 : decode b_C_told 40 = .ok (.iload_n 2, 1) := by decide +kernel
theorem d_C_told_41 : decode b_C_told 41 = .ok (.tableswitch 43 0 2 #[27, 32, 38], 27) := by decide +kernel
theorem d_C_told_68 : decode b_C_told 68 = .ok (.aload_n 3, 1) := by decide +kernel
theorem d_C_told_69 : decode b_C_told 69 = .ok (.getfield 177, 3) := by decide +kernel
theorem d_C_told_72 : decode b_C_told 72 = .ok (.ireturn, 1) := by decide +kernel
theorem d_C_told_73 : decode b_C_told 73 = .ok (.aload_n 3, 1) := by decide +kernel
theorem d_C_told_74 : decode b_C_told 74 = .ok (.getfield 190, 3) := by decide +kernel
theorem d_C_told_77 : decode b_C_told 77 = .ok (.arraylength, 1) := by decide +kernel
theorem d_C_told_78 : decode b_C_told 78 = .ok (.ireturn, 1) := by decide +kernel
theorem d_C_told_79 : decode b_C_told 79 = .ok (.aload_n 3, 1) := by decide +kernel
theorem d_C_told_80 : decode b_C_told 80 = .ok (.getfield 283, 3) := by decide +kernel
theorem d_C_told_83 : decode b_C_told 83 = .ok (.ireturn, 1) := by decide +kernel
theorem d_C_told_84 : decode b_C_told 84 = .ok (.new 54, 3) := by decide +kernel
theorem d_C_told_87 : decode b_C_told 87 = .ok (.dup, 1) := by decide +kernel
theorem d_C_told_88 : decode b_C_told 88 = .ok (.ldc 249, 2) := by decide +kernel
theorem d_C_told_90 : decode b_C_told 90 = .ok (.invokespecial 58, 3) := by decide +kernel
theorem d_C_told_93 : decode b_C_told 93 = .ok (.athrow, 1) := by decide +kernel
theorem d_C_count_0 : decode b_C_count 0 = .ok (.iload_n 1, 1) := by decide +kernel
theorem d_C_count_1 : decode b_C_count 1 = .ok (.tableswitch 60 0 4 #[35, 40, 45, 50, 55], 35) := by decide +kernel
theorem d_C_count_36 : decode b_C_count 36 = .ok (.aload_n 0, 1) := by decide +kernel
theorem d_C_count_37 : decode b_C_count 37 = .ok (.getfield 61, 3) := by decide +kernel
theorem d_C_count_40 : decode b_C_count 40 = .ok (.ireturn, 1) := by decide +kernel
theorem d_C_count_41 : decode b_C_count 41 = .ok (.aload_n 0, 1) := by decide +kernel
theorem d_C_count_42 : decode b_C_count 42 = .ok (.getfield 119, 3) := by decide +kernel
theorem d_C_count_45 : decode b_C_count 45 = .ok (.ireturn, 1) := by decide +kernel
theorem d_C_count_46 : decode b_C_count 46 = .ok (.aload_n 0, 1) := by decide +kernel
theorem d_C_count_47 : decode b_C_count 47 = .ok (.getfield 155, 3) := by decide +kernel
theorem d_C_count_50 : decode b_C_count 50 = .ok (.ireturn, 1) := by decide +kernel
theorem d_C_count_51 : decode b_C_count 51 = .ok (.aload_n 0, 1) := by decide +kernel
theorem d_C_count_52 : decode b_C_count 52 = .ok (.getfield 106, 3) := by decide +kernel
theorem d_C_count_55 : decode b_C_count 55 = .ok (.ireturn, 1) := by decide +kernel
theorem d_C_count_56 : decode b_C_count 56 = .ok (.aload_n 0, 1) := by decide +kernel
theorem d_C_count_57 : decode b_C_count 57 = .ok (.invokevirtual 286, 3) := by decide +kernel
theorem d_C_count_60 : decode b_C_count 60 = .ok (.ireturn, 1) := by decide +kernel
theorem d_C_count_61 : decode b_C_count 61 = .ok (.iconst (-1), 1) := by decide +kernel
theorem d_C_count_62 : decode b_C_count 62 = .ok (.ireturn, 1) := by decide +kernel
theorem d_C_isWithin_0 : decode b_C_isWithin 0 = .ok (.iload_n 0, 1) := by decide +kernel
theorem d_C_isWithin_1 : decode b_C_isWithin 1 = .ok (.iload_n 1, 1) := by decide +kernel
theorem d_C_isWithin_2 : decode b_C_isWithin 2 = .ok (.if_icmp .lt 12, 3) := by decide +kernel
theorem d_C_isWithin_5 : decode b_C_isWithin 5 = .ok (.iload_n 0, 1) := by decide +kernel
theorem d_C_isWithin_6 : decode b_C_isWithin 6 = .ok (.iload_n 2, 1) := by decide +kernel
theorem d_C_isWithin_7 : decode b_C_isWithin 7 = .ok (.if_icmp .gt 7, 3) := by decide +kernel
theorem d_C_isWithin_10 : decode b_C_isWithin 10 = .ok (.iconst 1, 1) := by decide +kernel
theorem d_C_isWithin_11 : decode b_C_isWithin 11 = .ok (.goto 4, 3) := by decide +kernel
theorem d_C_isWithin_14 : decode b_C_isWithin 14 = .ok (.iconst 0, 1) := by decide +kernel
theorem d_C_isWithin_15 : decode b_C_isWithin 15 = .ok (.ireturn, 1) := by decide +kernel
theorem d_C_isKind_0 : decode b_C_isKind 0 = .ok (.iload_n 0, 1) := by decide +kernel
theorem d_C_isKind_1 : decode b_C_isKind 1 = .ok (.iconst 0, 1) := by decide +kernel
theorem d_C_isKind_2 : decode b_C_isKind 2 = .ok (.iconst 2, 1) := by decide +kernel
theorem d_C_isKind_3 : decode b_C_isKind 3 = .ok (.invokestatic 88, 3) := by decide +kernel
theorem d_C_isKind_6 : decode b_C_isKind 6 = .ok (.ireturn, 1) := by decide +kernel
theorem d_C_isGood_0 : decode b_C_isGood 0 = .ok (.iload_n 0, 1) := by decide +kernel
theorem d_C_isGood_1 : decode b_C_isGood 1 = .ok (.iconst 0, 1) := by decide +kernel
theorem d_C_isGood_2 : decode b_C_isGood 2 = .ok (.iconst 5, 1) := by decide +kernel
theorem d_C_isGood_3 : decode b_C_isGood 3 = .ok (.invokestatic 88, 3) := by decide +kernel
theorem d_C_isGood_6 : decode b_C_isGood 6 = .ok (.ireturn, 1) := by decide +kernel
theorem d_C_isPerson_0 : decode b_C_isPerson 0 = .ok (.iload_n 0, 1) := by decide +kernel
theorem d_C_isPerson_1 : decode b_C_isPerson 1 = .ok (.iconst 0, 1) := by decide +kernel
theorem d_C_isPerson_2 : decode b_C_isPerson 2 = .ok (.iconst 5, 1) := by decide +kernel
theorem d_C_isPerson_3 : decode b_C_isPerson 3 = .ok (.invokestatic 88, 3) := by decide +kernel
theorem d_C_isPerson_6 : decode b_C_isPerson 6 = .ok (.ireturn, 1) := by decide +kernel
theorem d_C_isPieces_0 : decode b_C_isPieces 0 = .ok (.iload_n 0, 1) := by decide +kernel
theorem d_C_isPieces_1 : decode b_C_isPieces 1 = .ok (.iconst 0, 1) := by decide +kernel
theorem d_C_isPieces_2 : decode b_C_isPieces 2 = .ok (.ldc 114, 2) := by decide +kernel
theorem d_C_isPieces_4 : decode b_C_isPieces 4 = .ok (.invokestatic 88, 3) := by decide +kernel
theorem d_C_isPieces_7 : decode b_C_isPieces 7 = .ok (.ireturn, 1) := by decide +kernel
theorem d_C_isDay_0 : decode b_C_isDay 0 = .ok (.iload_n 0, 1) := by decide +kernel
theorem d_C_isDay_1 : decode b_C_isDay 1 = .ok (.iconst 0, 1) := by decide +kernel
theorem d_C_isDay_2 : decode b_C_isDay 2 = .ok (.sipush 10000, 3) := by decide +kernel
theorem d_C_isDay_5 : decode b_C_isDay 5 = .ok (.invokestatic 88, 3) := by decide +kernel
theorem d_C_isDay_8 : decode b_C_isDay 8 = .ok (.ireturn, 1) := by decide +kernel
theorem d_C_placeNumbered_0 : decode b_C_placeNumbered 0 = .ok (.iload_n 1, 1) := by decide +kernel
theorem d_C_placeNumbered_1 : decode b_C_placeNumbered 1 = .ok (.iconst 0, 1) := by decide +kernel
theorem d_C_placeNumbered_2 : decode b_C_placeNumbered 2 = .ok (.aload_n 0, 1) := by decide +kernel
theorem d_C_placeNumbered_3 : decode b_C_placeNumbered 3 = .ok (.getfield 61, 3) := by decide +kernel
theorem d_C_placeNumbered_6 : decode b_C_placeNumbered 6 = .ok (.iconst 1, 1) := by decide +kernel
theorem d_C_placeNumbered_7 : decode b_C_placeNumbered 7 = .ok (.isub, 1) := by decide +kernel
theorem d_C_placeNumbered_8 : decode b_C_placeNumbered 8 = .ok (.invokestatic 88, 3) := by decide +kernel
theorem d_C_placeNumbered_11 : decode b_C_placeNumbered 11 = .ok (.ifCond .eq 12, 3) := by decide +kernel
theorem d_C_placeNumbered_14 : decode b_C_placeNumbered 14 = .ok (.aload_n 0, 1) := by decide +kernel
theorem d_C_placeNumbered_15 : decode b_C_placeNumbered 15 = .ok (.getfield 11, 3) := by decide +kernel
theorem d_C_placeNumbered_18 : decode b_C_placeNumbered 18 = .ok (.iload_n 1, 1) := by decide +kernel
theorem d_C_placeNumbered_19 : decode b_C_placeNumbered 19 = .ok (.aaload, 1) := by decide +kernel
theorem d_C_placeNumbered_20 : decode b_C_placeNumbered 20 = .ok (.goto 4, 3) := by decide +kernel
theorem d_C_placeNumbered_23 : decode b_C_placeNumbered 23 = .ok (.aconst_null, 1) := by decide +kernel
theorem d_C_placeNumbered_24 : decode b_C_placeNumbered 24 = .ok (.astore_n 2, 1) := by decide +kernel
theorem d_C_placeNumbered_25 : decode b_C_placeNumbered 25 = .ok (.aload_n 2, 1) := by decide +kernel
theorem d_C_placeNumbered_26 : decode b_C_placeNumbered 26 = .ok (.ifnonnull 14, 3) := by decide +kernel
theorem d_C_placeNumbered_29 : decode b_C_placeNumbered 29 = .ok (.new 202, 3) := by decide +kernel
theorem d_C_placeNumbered_32 : decode b_C_placeNumbered 32 = .ok (.dup, 1) := by decide +kernel
theorem d_C_placeNumbered_33 : decode b_C_placeNumbered 33 = .ok (.ldc_w 290, 3) := by decide +kernel
theorem d_C_placeNumbered_36 : decode b_C_placeNumbered 36 = .ok (.invokespecial 206, 3) := by decide +kernel
theorem d_C_placeNumbered_39 : decode b_C_placeNumbered 39 = .ok (.athrow, 1) := by decide +kernel
theorem d_C_placeNumbered_40 : decode b_C_placeNumbered 40 = .ok (.aload_n 2, 1) := by decide +kernel
theorem d_C_placeNumbered_41 : decode b_C_placeNumbered 41 = .ok (.areturn, 1) := by decide +kernel
theorem d_C_transferNumbered_0 : decode b_C_transferNumbered 0 = .ok (.iload_n 1, 1) := by decide +kernel
theorem d_C_transferNumbered_1 : decode b_C_transferNumbered 1 = .ok (.iconst 1, 1) := by decide +kernel
theorem d_C_transferNumbered_2 : decode b_C_transferNumbered 2 = .ok (.aload_n 0, 1) := by decide +kernel
theorem d_C_transferNumbered_3 : decode b_C_transferNumbered 3 = .ok (.getfield 119, 3) := by decide +kernel
theorem d_C_transferNumbered_6 : decode b_C_transferNumbered 6 = .ok (.invokestatic 88, 3) := by decide +kernel
theorem d_C_transferNumbered_9 : decode b_C_transferNumbered 9 = .ok (.ifCond .eq 14, 3) := by decide +kernel
theorem d_C_transferNumbered_12 : decode b_C_transferNumbered 12 = .ok (.aload_n 0, 1) := by decide +kernel
theorem d_C_transferNumbered_13 : decode b_C_transferNumbered 13 = .ok (.getfield 17, 3) := by decide +kernel
theorem d_C_transferNumbered_16 : decode b_C_transferNumbered 16 = .ok (.iload_n 1, 1) := by decide +kernel
theorem d_C_transferNumbered_17 : decode b_C_transferNumbered 17 = .ok (.iconst 1, 1) := by decide +kernel
theorem d_C_transferNumbered_18 : decode b_C_transferNumbered 18 = .ok (.isub, 1) := by decide +kernel
theorem d_C_transferNumbered_19 : decode b_C_transferNumbered 19 = .ok (.aaload, 1) := by decide +kernel
theorem d_C_transferNumbered_20 : decode b_C_transferNumbered 20 = .ok (.goto 4, 3) := by decide +kernel
theorem d_C_transferNumbered_23 : decode b_C_transferNumbered 23 = .ok (.aconst_null, 1) := by decide +kernel
theorem d_C_transferNumbered_24 : decode b_C_transferNumbered 24 = .ok (.astore_n 2, 1) := by decide +kernel
theorem d_C_transferNumbered_25 : decode b_C_transferNumbered 25 = .ok (.aload_n 2, 1) := by decide +kernel
theorem d_C_transferNumbered_26 : decode b_C_transferNumbered 26 = .ok (.ifnonnull 14, 3) := by decide +kernel
theorem d_C_transferNumbered_29 : decode b_C_transferNumbered 29 = .ok (.new 202, 3) := by decide +kernel
theorem d_C_transferNumbered_32 : decode b_C_transferNumbered 32 = .ok (.dup, 1) := by decide +kernel
theorem d_C_transferNumbered_33 : decode b_C_transferNumbered 33 = .ok (.ldc_w 292, 3) := by decide +kernel
theorem d_C_transferNumbered_36 : decode b_C_transferNumbered 36 = .ok (.invokespecial 206, 3) := by decide +kernel
theorem d_C_transferNumbered_39 : decode b_C_transferNumbered 39 = .ok (.athrow, 1) := by decide +kernel
theorem d_C_transferNumbered_40 : decode b_C_transferNumbered 40 = .ok (.aload_n 2, 1) := by decide +kernel
theorem d_C_transferNumbered_41 : decode b_C_transferNumbered 41 = .ok (.areturn, 1) := by decide +kernel
theorem d_C_sheetNumbered_0 : decode b_C_sheetNumbered 0 = .ok (.iload_n 1, 1) := by decide +kernel
theorem d_C_sheetNumbered_1 : decode b_C_sheetNumbered 1 = .ok (.iconst 1, 1) := by decide +kernel
theorem d_C_sheetNumbered_2 : decode b_C_sheetNumbered 2 = .ok (.aload_n 0, 1) := by decide +kernel
theorem d_C_sheetNumbered_3 : decode b_C_sheetNumbered 3 = .ok (.getfield 155, 3) := by decide +kernel
theorem d_C_sheetNumbered_6 : decode b_C_sheetNumbered 6 = .ok (.invokestatic 88, 3) := by decide +kernel
theorem d_C_sheetNumbered_9 : decode b_C_sheetNumbered 9 = .ok (.ifCond .eq 14, 3) := by decide +kernel
theorem d_C_sheetNumbered_12 : decode b_C_sheetNumbered 12 = .ok (.aload_n 0, 1) := by decide +kernel
theorem d_C_sheetNumbered_13 : decode b_C_sheetNumbered 13 = .ok (.getfield 23, 3) := by decide +kernel
theorem d_C_sheetNumbered_16 : decode b_C_sheetNumbered 16 = .ok (.iload_n 1, 1) := by decide +kernel
theorem d_C_sheetNumbered_17 : decode b_C_sheetNumbered 17 = .ok (.iconst 1, 1) := by decide +kernel
theorem d_C_sheetNumbered_18 : decode b_C_sheetNumbered 18 = .ok (.isub, 1) := by decide +kernel
theorem d_C_sheetNumbered_19 : decode b_C_sheetNumbered 19 = .ok (.aaload, 1) := by decide +kernel
theorem d_C_sheetNumbered_20 : decode b_C_sheetNumbered 20 = .ok (.goto 4, 3) := by decide +kernel
theorem d_C_sheetNumbered_23 : decode b_C_sheetNumbered 23 = .ok (.aconst_null, 1) := by decide +kernel
theorem d_C_sheetNumbered_24 : decode b_C_sheetNumbered 24 = .ok (.astore_n 2, 1) := by decide +kernel
theorem d_C_sheetNumbered_25 : decode b_C_sheetNumbered 25 = .ok (.aload_n 2, 1) := by decide +kernel
theorem d_C_sheetNumbered_26 : decode b_C_sheetNumbered 26 = .ok (.ifnonnull 14, 3) := by decide +kernel
theorem d_C_sheetNumbered_29 : decode b_C_sheetNumbered 29 = .ok (.new 202, 3) := by decide +kernel
theorem d_C_sheetNumbered_32 : decode b_C_sheetNumbered 32 = .ok (.dup, 1) := by decide +kernel
theorem d_C_sheetNumbered_33 : decode b_C_sheetNumbered 33 = .ok (.ldc_w 294, 3) := by decide +kernel
theorem d_C_sheetNumbered_36 : decode b_C_sheetNumbered 36 = .ok (.invokespecial 206, 3) := by decide +kernel
theorem d_C_sheetNumbered_39 : decode b_C_sheetNumbered 39 = .ok (.athrow, 1) := by decide +kernel
theorem d_C_sheetNumbered_40 : decode b_C_sheetNumbered 40 = .ok (.aload_n 2, 1) := by decide +kernel
theorem d_C_sheetNumbered_41 : decode b_C_sheetNumbered 41 = .ok (.areturn, 1) := by decide +kernel
theorem d_C_openMoves_0 : decode b_C_openMoves 0 = .ok (.iconst 0, 1) := by decide +kernel
theorem d_C_openMoves_1 : decode b_C_openMoves 1 = .ok (.istore_n 1, 1) := by decide +kernel
theorem d_C_openMoves_2 : decode b_C_openMoves 2 = .ok (.iconst 1, 1) := by decide +kernel
theorem d_C_openMoves_3 : decode b_C_openMoves 3 = .ok (.istore_n 2, 1) := by decide +kernel
theorem d_C_openMoves_4 : decode b_C_openMoves 4 = .ok (.iload_n 2, 1) := by decide +kernel
theorem d_C_openMoves_5 : decode b_C_openMoves 5 = .ok (.aload_n 0, 1) := by decide +kernel
theorem d_C_openMoves_6 : decode b_C_openMoves 6 = .ok (.getfield 119, 3) := by decide +kernel
theorem d_C_openMoves_9 : decode b_C_openMoves 9 = .ok (.if_icmp .gt 23, 3) := by decide +kernel
theorem d_C_openMoves_12 : decode b_C_openMoves 12 = .ok (.aload_n 0, 1) := by decide +kernel
theorem d_C_openMoves_13 : decode b_C_openMoves 13 = .ok (.iload_n 2, 1) := by decide +kernel
theorem d_C_openMoves_14 : decode b_C_openMoves 14 = .ok (.invokevirtual 127, 3) := by decide +kernel
theorem d_C_openMoves_17 : decode b_C_openMoves 17 = .ok (.getfield 139, 3) := by decide +kernel
theorem d_C_openMoves_20 : decode b_C_openMoves 20 = .ok (.ifCond .eq 6, 3) := by decide +kernel
theorem d_C_openMoves_23 : decode b_C_openMoves 23 = .ok (.iinc 1 1, 3) := by decide +kernel
theorem d_C_openMoves_26 : decode b_C_openMoves 26 = .ok (.iinc 2 1, 3) := by decide +kernel
theorem d_C_openMoves_29 : decode b_C_openMoves 29 = .ok (.goto (-25), 3) := by decide +kernel
theorem d_C_openMoves_32 : decode b_C_openMoves 32 = .ok (.iload_n 1, 1) := by decide +kernel
theorem d_C_openMoves_33 : decode b_C_openMoves 33 = .ok (.ireturn, 1) := by decide +kernel
theorem d_C_openMovesAt_0 : decode b_C_openMovesAt 0 = .ok (.iconst 0, 1) := by decide +kernel
theorem d_C_openMovesAt_1 : decode b_C_openMovesAt 1 = .ok (.istore_n 2, 1) := by decide +kernel
theorem d_C_openMovesAt_2 : decode b_C_openMovesAt 2 = .ok (.iconst 1, 1) := by decide +kernel
theorem d_C_openMovesAt_3 : decode b_C_openMovesAt 3 = .ok (.istore_n 3, 1) := by decide +kernel
theorem d_C_openMovesAt_4 : decode b_C_openMovesAt 4 = .ok (.iload_n 3, 1) := by decide +kernel
theorem d_C_openMovesAt_5 : decode b_C_openMovesAt 5 = .ok (.aload_n 0, 1) := by decide +kernel
theorem d_C_openMovesAt_6 : decode b_C_openMovesAt 6 = .ok (.getfield 119, 3) := by decide +kernel
theorem d_C_openMovesAt_9 : decode b_C_openMovesAt 9 = .ok (.if_icmp .gt 45, 3) := by decide +kernel
theorem d_C_openMovesAt_12 : decode b_C_openMovesAt 12 = .ok (.aload_n 0, 1) := by decide +kernel
theorem d_C_openMovesAt_13 : decode b_C_openMovesAt 13 = .ok (.iload_n 3, 1) := by decide +kernel
theorem d_C_openMovesAt_14 : decode b_C_openMovesAt 14 = .ok (.invokevirtual 127, 3) := by decide +kernel
theorem d_C_openMovesAt_17 : decode b_C_openMovesAt 17 = .ok (.astore 4, 2) := by decide +kernel
theorem d_C_openMovesAt_19 : decode b_C_openMovesAt 19 = .ok (.aload 4, 2) := by decide +kernel
theorem d_C_openMovesAt_21 : decode b_C_openMovesAt 21 = .ok (.getfield 139, 3) := by decide +kernel
theorem d_C_openMovesAt_24 : decode b_C_openMovesAt 24 = .ok (.ifCond .eq 24, 3) := by decide +kernel
theorem d_C_openMovesAt_27 : decode b_C_openMovesAt 27 = .ok (.aload 4, 2) := by decide +kernel
theorem d_C_openMovesAt_29 : decode b_C_openMovesAt 29 = .ok (.getfield 296, 3) := by decide +kernel
theorem d_C_openMovesAt_32 : decode b_C_openMovesAt 32 = .ok (.iload_n 1, 1) := by decide +kernel
theorem d_C_openMovesAt_33 : decode b_C_openMovesAt 33 = .ok (.if_icmp .eq 12, 3) := by decide +kernel
theorem d_C_openMovesAt_36 : decode b_C_openMovesAt 36 = .ok (.aload 4, 2) := by decide +kernel
theorem d_C_openMovesAt_38 : decode b_C_openMovesAt 38 = .ok (.getfield 131, 3) := by decide +kernel
theorem d_C_openMovesAt_41 : decode b_C_openMovesAt 41 = .ok (.iload_n 1, 1) := by decide +kernel
theorem d_C_openMovesAt_42 : decode b_C_openMovesAt 42 = .ok (.if_icmp .ne 6, 3) := by decide +kernel
theorem d_C_openMovesAt_45 : decode b_C_openMovesAt 45 = .ok (.iinc 2 1, 3) := by decide +kernel
theorem d_C_openMovesAt_48 : decode b_C_openMovesAt 48 = .ok (.iinc 3 1, 3) := by decide +kernel
theorem d_C_openMovesAt_51 : decode b_C_openMovesAt 51 = .ok (.goto (-47), 3) := by decide +kernel
theorem d_C_openMovesAt_54 : decode b_C_openMovesAt 54 = .ok (.iload_n 2, 1) := by decide +kernel
theorem d_C_openMovesAt_55 : decode b_C_openMovesAt 55 = .ok (.ireturn, 1) := by decide +kernel
theorem d_C_hasOpenMoves_0 : decode b_C_hasOpenMoves 0 = .ok (.iconst 0, 1) := by decide +kernel
theorem d_C_hasOpenMoves_1 : decode b_C_hasOpenMoves 1 = .ok (.istore_n 2, 1) := by decide +kernel
theorem d_C_hasOpenMoves_2 : decode b_C_hasOpenMoves 2 = .ok (.iload_n 2, 1) := by decide +kernel
theorem d_C_hasOpenMoves_3 : decode b_C_hasOpenMoves 3 = .ok (.aload_n 1, 1) := by decide +kernel
theorem d_C_hasOpenMoves_4 : decode b_C_hasOpenMoves 4 = .ok (.getfield 190, 3) := by decide +kernel
theorem d_C_hasOpenMoves_7 : decode b_C_hasOpenMoves 7 = .ok (.arraylength, 1) := by decide +kernel
theorem d_C_hasOpenMoves_8 : decode b_C_hasOpenMoves 8 = .ok (.if_icmp .ge 24, 3) := by decide +kernel
theorem d_C_hasOpenMoves_11 : decode b_C_hasOpenMoves 11 = .ok (.aload_n 0, 1) := by decide +kernel
theorem d_C_hasOpenMoves_12 : decode b_C_hasOpenMoves 12 = .ok (.aload_n 1, 1) := by decide +kernel
theorem d_C_hasOpenMoves_13 : decode b_C_hasOpenMoves 13 = .ok (.getfield 190, 3) := by decide +kernel
theorem d_C_hasOpenMoves_16 : decode b_C_hasOpenMoves 16 = .ok (.iload_n 2, 1) := by decide +kernel
theorem d_C_hasOpenMoves_17 : decode b_C_hasOpenMoves 17 = .ok (.iaload, 1) := by decide +kernel
theorem d_C_hasOpenMoves_18 : decode b_C_hasOpenMoves 18 = .ok (.invokevirtual 144, 3) := by decide +kernel
theorem d_C_hasOpenMoves_21 : decode b_C_hasOpenMoves 21 = .ok (.ifCond .le 5, 3) := by decide +kernel
theorem d_C_hasOpenMoves_24 : decode b_C_hasOpenMoves 24 = .ok (.iconst 1, 1) := by decide +kernel
theorem d_C_hasOpenMoves_25 : decode b_C_hasOpenMoves 25 = .ok (.ireturn, 1) := by decide +kernel
theorem d_C_hasOpenMoves_26 : decode b_C_hasOpenMoves 26 = .ok (.iinc 2 1, 3) := by decide +kernel
theorem d_C_hasOpenMoves_29 : decode b_C_hasOpenMoves 29 = .ok (.goto (-27), 3) := by decide +kernel
theorem d_C_hasOpenMoves_32 : decode b_C_hasOpenMoves 32 = .ok (.iconst 0, 1) := by decide +kernel
theorem d_C_hasOpenMoves_33 : decode b_C_hasOpenMoves 33 = .ok (.ireturn, 1) := by decide +kernel
theorem d_C_gatherCandidates_0 : decode b_C_gatherCandidates 0 = .ok (.iconst 0, 1) := by decide +kernel
theorem d_C_gatherCandidates_1 : decode b_C_gatherCandidates 1 = .ok (.istore_n 2, 1) := by decide +kernel
theorem d_C_gatherCandidates_2 : decode b_C_gatherCandidates 2 = .ok (.iconst 0, 1) := by decide +kernel
theorem d_C_gatherCandidates_3 : decode b_C_gatherCandidates 3 = .ok (.istore_n 3, 1) := by decide +kernel
theorem d_C_gatherCandidates_4 : decode b_C_gatherCandidates 4 = .ok (.iload_n 3, 1) := by decide +kernel
theorem d_C_gatherCandidates_5 : decode b_C_gatherCandidates 5 = .ok (.aload_n 0, 1) := by decide +kernel
theorem d_C_gatherCandidates_6 : decode b_C_gatherCandidates 6 = .ok (.getfield 61, 3) := by decide +kernel
theorem d_C_gatherCandidates_9 : decode b_C_gatherCandidates 9 = .ok (.if_icmp .ge 48, 3) := by decide +kernel
theorem d_C_gatherCandidates_12 : decode b_C_gatherCandidates 12 = .ok (.aload_n 0, 1) := by decide +kernel
theorem d_C_gatherCandidates_13 : decode b_C_gatherCandidates 13 = .ok (.iload_n 3, 1) := by decide +kernel
theorem d_C_gatherCandidates_14 : decode b_C_gatherCandidates 14 = .ok (.invokevirtual 73, 3) := by decide +kernel
theorem d_C_gatherCandidates_17 : decode b_C_gatherCandidates 17 = .ok (.astore 4, 2) := by decide +kernel
theorem d_C_gatherCandidates_19 : decode b_C_gatherCandidates 19 = .ok (.aload 4, 2) := by decide +kernel
theorem d_C_gatherCandidates_21 : decode b_C_gatherCandidates 21 = .ok (.getfield 221, 3) := by decide +kernel
theorem d_C_gatherCandidates_24 : decode b_C_gatherCandidates 24 = .ok (.ifCond .ne 27, 3) := by decide +kernel
theorem d_C_gatherCandidates_27 : decode b_C_gatherCandidates 27 = .ok (.iload_n 1, 1) := by decide +kernel
theorem d_C_gatherCandidates_28 : decode b_C_gatherCandidates 28 = .ok (.iconst (-1), 1) := by decide +kernel
theorem d_C_gatherCandidates_29 : decode b_C_gatherCandidates 29 = .ok (.if_icmp .eq 12, 3) := by decide +kernel
theorem d_C_gatherCandidates_32 : decode b_C_gatherCandidates 32 = .ok (.aload 4, 2) := by decide +kernel
theorem d_C_gatherCandidates_34 : decode b_C_gatherCandidates 34 = .ok (.getfield 280, 3) := by decide +kernel
theorem d_C_gatherCandidates_37 : decode b_C_gatherCandidates 37 = .ok (.iload_n 1, 1) := by decide +kernel
theorem d_C_gatherCandidates_38 : decode b_C_gatherCandidates 38 = .ok (.if_icmp .ne 13, 3) := by decide +kernel
theorem d_C_gatherCandidates_41 : decode b_C_gatherCandidates 41 = .ok (.aload_n 0, 1) := by decide +kernel
theorem d_C_gatherCandidates_42 : decode b_C_gatherCandidates 42 = .ok (.getfield 37, 3) := by decide +kernel
theorem d_C_gatherCandidates_45 : decode b_C_gatherCandidates 45 = .ok (.iload_n 2, 1) := by decide +kernel
theorem d_C_gatherCandidates_46 : decode b_C_gatherCandidates 46 = .ok (.iload_n 3, 1) := by decide +kernel
theorem d_C_gatherCandidates_47 : decode b_C_gatherCandidates 47 = .ok (.iastore, 1) := by decide +kernel
theorem d_C_gatherCandidates_48 : decode b_C_gatherCandidates 48 = .ok (.iinc 2 1, 3) := by decide +kernel
theorem d_C_gatherCandidates_51 : decode b_C_gatherCandidates 51 = .ok (.iinc 3 1, 3) := by decide +kernel
theorem d_C_gatherCandidates_54 : decode b_C_gatherCandidates 54 = .ok (.goto (-50), 3) := by decide +kernel
theorem d_C_gatherCandidates_57 : decode b_C_gatherCandidates 57 = .ok (.iload_n 2, 1) := by decide +kernel
theorem d_C_gatherCandidates_58 : decode b_C_gatherCandidates 58 = .ok (.ireturn, 1) := by decide +kernel
theorem d_C_chooseCandidates_0 : decode b_C_chooseCandidates 0 = .ok (.iload_n 2, 1) := by decide +kernel
theorem d_C_chooseCandidates_1 : decode b_C_chooseCandidates 1 = .ok (.newarray .int, 2) := by decide +kernel
theorem d_C_chooseCandidates_3 : decode b_C_chooseCandidates 3 = .ok (.astore 5, 2) := by decide +kernel
theorem d_C_chooseCandidates_5 : decode b_C_chooseCandidates 5 = .ok (.iload_n 1, 1) := by decide +kernel
theorem d_C_chooseCandidates_6 : decode b_C_chooseCandidates 6 = .ok (.istore 6, 2) := by decide +kernel
theorem d_C_chooseCandidates_8 : decode b_C_chooseCandidates 8 = .ok (.lload_n 3, 1) := by decide +kernel
theorem d_C_chooseCandidates_9 : decode b_C_chooseCandidates 9 = .ok (.lstore 7, 2) := by decide +kernel
theorem d_C_chooseCandidates_11 : decode b_C_chooseCandidates 11 = .ok (.iconst 0, 1) := by decide +kernel
theorem d_C_chooseCandidates_12 : decode b_C_chooseCandidates 12 = .ok (.istore 9, 2) := by decide +kernel
theorem d_C_chooseCandidates_14 : decode b_C_chooseCandidates 14 = .ok (.iload 9, 2) := by decide +kernel
theorem d_C_chooseCandidates_16 : decode b_C_chooseCandidates 16 = .ok (.iload_n 2, 1) := by decide +kernel
theorem d_C_chooseCandidates_17 : decode b_C_chooseCandidates 17 = .ok (.if_icmp .ge 105, 3) := by decide +kernel
theorem d_C_chooseCandidates_20 : decode b_C_chooseCandidates 20 = .ok (.iload 6, 2) := by decide +kernel
theorem d_C_chooseCandidates_22 : decode b_C_chooseCandidates 22 = .ok (.ifCond .le 100, 3) := by decide +kernel
theorem d_C_chooseCandidates_25 : decode b_C_chooseCandidates 25 = .ok (.lload_n 3, 1) := by decide +kernel
theorem d_C_chooseCandidates_26 : decode b_C_chooseCandidates 26 = .ok (.lconst 0, 1) := by decide +kernel
theorem d_C_chooseCandidates_27 : decode b_C_chooseCandidates 27 = .ok (.lcmp, 1) := by decide +kernel
theorem d_C_chooseCandidates_28 : decode b_C_chooseCandidates 28 = .ok (.ifCond .ne 14, 3) := by decide +kernel
theorem d_C_chooseCandidates_31 : decode b_C_chooseCandidates 31 = .ok (.aload_n 0, 1) := by decide +kernel
theorem d_C_chooseCandidates_32 : decode b_C_chooseCandidates 32 = .ok (.iload 6, 2) := by decide +kernel
theorem d_C_chooseCandidates_34 : decode b_C_chooseCandidates 34 = .ok (.invokevirtual 299, 3) := by decide +kernel
theorem d_C_chooseCandidates_37 : decode b_C_chooseCandidates 37 = .ok (.istore 10, 2) := by decide +kernel
theorem d_C_chooseCandidates_39 : decode b_C_chooseCandidates 39 = .ok (.goto 27, 3) := by decide +kernel
theorem d_C_chooseCandidates_42 : decode b_C_chooseCandidates 42 = .ok (.lload 7, 2) := by decide +kernel
theorem d_C_chooseCandidates_44 : decode b_C_chooseCandidates 44 = .ok (.ldc2_w 302, 3) := by decide +kernel
theorem d_C_chooseCandidates_47 : decode b_C_chooseCandidates 47 = .ok (.lmul, 1) := by decide +kernel
theorem d_C_chooseCandidates_48 : decode b_C_chooseCandidates 48 = .ok (.ldc2_w 304, 3) := by decide +kernel
theorem d_C_chooseCandidates_51 : decode b_C_chooseCandidates 51 = .ok (.ladd, 1) := by decide +kernel
theorem d_C_chooseCandidates_52 : decode b_C_chooseCandidates 52 = .ok (.lstore 7, 2) := by decide +kernel
theorem d_C_chooseCandidates_54 : decode b_C_chooseCandidates 54 = .ok (.lload 7, 2) := by decide +kernel
theorem d_C_chooseCandidates_56 : decode b_C_chooseCandidates 56 = .ok (.bipush 33, 2) := by decide +kernel
theorem d_C_chooseCandidates_58 : decode b_C_chooseCandidates 58 = .ok (.lushr, 1) := by decide +kernel
theorem d_C_chooseCandidates_59 : decode b_C_chooseCandidates 59 = .ok (.iload 6, 2) := by decide +kernel
theorem d_C_chooseCandidates_61 : decode b_C_chooseCandidates 61 = .ok (.i2l, 1) := by decide +kernel
theorem d_C_chooseCandidates_62 : decode b_C_chooseCandidates 62 = .ok (.lrem, 1) := by decide +kernel
theorem d_C_chooseCandidates_63 : decode b_C_chooseCandidates 63 = .ok (.l2i, 1) := by decide +kernel
theorem d_C_chooseCandidates_64 : decode b_C_chooseCandidates 64 = .ok (.istore 10, 2) := by decide +kernel
theorem d_C_chooseCandidates_66 : decode b_C_chooseCandidates 66 = .ok (.aload 5, 2) := by decide +kernel
theorem d_C_chooseCandidates_68 : decode b_C_chooseCandidates 68 = .ok (.iload 9, 2) := by decide +kernel
theorem d_C_chooseCandidates_70 : decode b_C_chooseCandidates 70 = .ok (.aload_n 0, 1) := by decide +kernel
theorem d_C_chooseCandidates_71 : decode b_C_chooseCandidates 71 = .ok (.getfield 37, 3) := by decide +kernel
theorem d_C_chooseCandidates_74 : decode b_C_chooseCandidates 74 = .ok (.iload 10, 2) := by decide +kernel
theorem d_C_chooseCandidates_76 : decode b_C_chooseCandidates 76 = .ok (.iaload, 1) := by decide +kernel
theorem d_C_chooseCandidates_77 : decode b_C_chooseCandidates 77 = .ok (.iastore, 1) := by decide +kernel
theorem d_C_chooseCandidates_78 : decode b_C_chooseCandidates 78 = .ok (.aload_n 0, 1) := by decide +kernel
theorem d_C_chooseCandidates_79 : decode b_C_chooseCandidates 79 = .ok (.aload 5, 2) := by decide +kernel
theorem d_C_chooseCandidates_81 : decode b_C_chooseCandidates 81 = .ok (.iload 9, 2) := by decide +kernel
theorem d_C_chooseCandidates_83 : decode b_C_chooseCandidates 83 = .ok (.iaload, 1) := by decide +kernel
theorem d_C_chooseCandidates_84 : decode b_C_chooseCandidates 84 = .ok (.invokevirtual 73, 3) := by decide +kernel
theorem d_C_chooseCandidates_87 : decode b_C_chooseCandidates 87 = .ok (.iconst 1, 1) := by decide +kernel
theorem d_C_chooseCandidates_88 : decode b_C_chooseCandidates 88 = .ok (.putfield 221, 3) := by decide +kernel
theorem d_C_chooseCandidates_91 : decode b_C_chooseCandidates 91 = .ok (.iinc 6 (-1), 3) := by decide +kernel
theorem d_C_chooseCandidates_94 : decode b_C_chooseCandidates 94 = .ok (.aload_n 0, 1) := by decide +kernel
theorem d_C_chooseCandidates_95 : decode b_C_chooseCandidates 95 = .ok (.getfield 37, 3) := by decide +kernel
theorem d_C_chooseCandidates_98 : decode b_C_chooseCandidates 98 = .ok (.iload 10, 2) := by decide +kernel
theorem d_C_chooseCandidates_100 : decode b_C_chooseCandidates 100 = .ok (.iconst 1, 1) := by decide +kernel
theorem d_C_chooseCandidates_101 : decode b_C_chooseCandidates 101 = .ok (.iadd, 1) := by decide +kernel
theorem d_C_chooseCandidates_102 : decode b_C_chooseCandidates 102 = .ok (.aload_n 0, 1) := by decide +kernel
theorem d_C_chooseCandidates_103 : decode b_C_chooseCandidates 103 = .ok (.getfield 37, 3) := by decide +kernel
theorem d_C_chooseCandidates_106 : decode b_C_chooseCandidates 106 = .ok (.iload 10, 2) := by decide +kernel
theorem d_C_chooseCandidates_108 : decode b_C_chooseCandidates 108 = .ok (.iload 6, 2) := by decide +kernel
theorem d_C_chooseCandidates_110 : decode b_C_chooseCandidates 110 = .ok (.iload 10, 2) := by decide +kernel
theorem d_C_chooseCandidates_112 : decode b_C_chooseCandidates 112 = .ok (.isub, 1) := by decide +kernel
theorem d_C_chooseCandidates_113 : decode b_C_chooseCandidates 113 = .ok (.invokestatic 306, 3) := by decide +kernel
theorem d_C_chooseCandidates_116 : decode b_C_chooseCandidates 116 = .ok (.iinc 9 1, 3) := by decide +kernel
theorem d_C_chooseCandidates_119 : decode b_C_chooseCandidates 119 = .ok (.goto (-105), 3) := by decide +kernel
theorem d_C_chooseCandidates_122 : decode b_C_chooseCandidates 122 = .ok (.aload 5, 2) := by decide +kernel
theorem d_C_chooseCandidates_124 : decode b_C_chooseCandidates 124 = .ok (.areturn, 1) := by decide +kernel
theorem d_C_longestUncounted_0 : decode b_C_longestUncounted 0 = .ok (.iconst 0, 1) := by decide +kernel
theorem d_C_longestUncounted_1 : decode b_C_longestUncounted 1 = .ok (.istore_n 2, 1) := by decide +kernel
theorem d_C_longestUncounted_2 : decode b_C_longestUncounted 2 = .ok (.iconst 1, 1) := by decide +kernel
theorem d_C_longestUncounted_3 : decode b_C_longestUncounted 3 = .ok (.istore_n 3, 1) := by decide +kernel
theorem d_C_longestUncounted_4 : decode b_C_longestUncounted 4 = .ok (.iload_n 3, 1) := by decide +kernel
theorem d_C_longestUncounted_5 : decode b_C_longestUncounted 5 = .ok (.iload_n 1, 1) := by decide +kernel
theorem d_C_longestUncounted_6 : decode b_C_longestUncounted 6 = .ok (.if_icmp .ge 40, 3) := by decide +kernel
theorem d_C_longestUncounted_9 : decode b_C_longestUncounted 9 = .ok (.aload_n 0, 1) := by decide +kernel
theorem d_C_longestUncounted_10 : decode b_C_longestUncounted 10 = .ok (.aload_n 0, 1) := by decide +kernel
theorem d_C_longestUncounted_11 : decode b_C_longestUncounted 11 = .ok (.getfield 37, 3) := by decide +kernel
theorem d_C_longestUncounted_14 : decode b_C_longestUncounted 14 = .ok (.iload_n 3, 1) := by decide +kernel
theorem d_C_longestUncounted_15 : decode b_C_longestUncounted 15 = .ok (.iaload, 1) := by decide +kernel
theorem d_C_longestUncounted_16 : decode b_C_longestUncounted 16 = .ok (.invokevirtual 73, 3) := by decide +kernel
theorem d_C_longestUncounted_19 : decode b_C_longestUncounted 19 = .ok (.getfield 277, 3) := by decide +kernel
theorem d_C_longestUncounted_22 : decode b_C_longestUncounted 22 = .ok (.aload_n 0, 1) := by decide +kernel
theorem d_C_longestUncounted_23 : decode b_C_longestUncounted 23 = .ok (.aload_n 0, 1) := by decide +kernel
theorem d_C_longestUncounted_24 : decode b_C_longestUncounted 24 = .ok (.getfield 37, 3) := by decide +kernel
theorem d_C_longestUncounted_27 : decode b_C_longestUncounted 27 = .ok (.iload_n 2, 1) := by decide +kernel
theorem d_C_longestUncounted_28 : decode b_C_longestUncounted 28 = .ok (.iaload, 1) := by decide +kernel
theorem d_C_longestUncounted_29 : decode b_C_longestUncounted 29 = .ok (.invokevirtual 73, 3) := by decide +kernel
theorem d_C_longestUncounted_32 : decode b_C_longestUncounted 32 = .ok (.getfield 277, 3) := by decide +kernel
theorem d_C_longestUncounted_35 : decode b_C_longestUncounted 35 = .ok (.if_icmp .ge 5, 3) := by decide +kernel
theorem d_C_longestUncounted_38 : decode b_C_longestUncounted 38 = .ok (.iload_n 3, 1) := by decide +kernel
theorem d_C_longestUncounted_39 : decode b_C_longestUncounted 39 = .ok (.istore_n 2, 1) := by decide +kernel
theorem d_C_longestUncounted_40 : decode b_C_longestUncounted 40 = .ok (.iinc 3 1, 3) := by decide +kernel
theorem d_C_longestUncounted_43 : decode b_C_longestUncounted 43 = .ok (.goto (-39), 3) := by decide +kernel
theorem d_C_longestUncounted_46 : decode b_C_longestUncounted 46 = .ok (.iload_n 2, 1) := by decide +kernel
theorem d_C_longestUncounted_47 : decode b_C_longestUncounted 47 = .ok (.ireturn, 1) := by decide +kernel
theorem d_C_noteBooked_0 : decode b_C_noteBooked 0 = .ok (.iconst 0, 1) := by decide +kernel
theorem d_C_noteBooked_1 : decode b_C_noteBooked 1 = .ok (.istore_n 2, 1) := by decide +kernel
theorem d_C_noteBooked_2 : decode b_C_noteBooked 2 = .ok (.iload_n 2, 1) := by decide +kernel
theorem d_C_noteBooked_3 : decode b_C_noteBooked 3 = .ok (.aload_n 1, 1) := by decide +kernel
theorem d_C_noteBooked_4 : decode b_C_noteBooked 4 = .ok (.getfield 190, 3) := by decide +kernel
theorem d_C_noteBooked_7 : decode b_C_noteBooked 7 = .ok (.arraylength, 1) := by decide +kernel
theorem d_C_noteBooked_8 : decode b_C_noteBooked 8 = .ok (.if_icmp .ge 38, 3) := by decide +kernel
theorem d_C_noteBooked_11 : decode b_C_noteBooked 11 = .ok (.aload_n 0, 1) := by decide +kernel
theorem d_C_noteBooked_12 : decode b_C_noteBooked 12 = .ok (.aload_n 1, 1) := by decide +kernel
theorem d_C_noteBooked_13 : decode b_C_noteBooked 13 = .ok (.getfield 190, 3) := by decide +kernel
theorem d_C_noteBooked_16 : decode b_C_noteBooked 16 = .ok (.iload_n 2, 1) := by decide +kernel
theorem d_C_noteBooked_17 : decode b_C_noteBooked 17 = .ok (.iaload, 1) := by decide +kernel
theorem d_C_noteBooked_18 : decode b_C_noteBooked 18 = .ok (.invokevirtual 73, 3) := by decide +kernel
theorem d_C_noteBooked_21 : decode b_C_noteBooked 21 = .ok (.astore_n 3, 1) := by decide +kernel
theorem d_C_noteBooked_22 : decode b_C_noteBooked 22 = .ok (.aload_n 3, 1) := by decide +kernel
theorem d_C_noteBooked_23 : decode b_C_noteBooked 23 = .ok (.getfield 85, 3) := by decide +kernel
theorem d_C_noteBooked_26 : decode b_C_noteBooked 26 = .ok (.iconst 0, 1) := by decide +kernel
theorem d_C_noteBooked_27 : decode b_C_noteBooked 27 = .ok (.aload_n 1, 1) := by decide +kernel
theorem d_C_noteBooked_28 : decode b_C_noteBooked 28 = .ok (.getfield 312, 3) := by decide +kernel
theorem d_C_noteBooked_31 : decode b_C_noteBooked 31 = .ok (.iload_n 2, 1) := by decide +kernel
theorem d_C_noteBooked_32 : decode b_C_noteBooked 32 = .ok (.bipush 6, 2) := by decide +kernel
theorem d_C_noteBooked_34 : decode b_C_noteBooked 34 = .ok (.imul, 1) := by decide +kernel
theorem d_C_noteBooked_35 : decode b_C_noteBooked 35 = .ok (.bipush 6, 2) := by decide +kernel
theorem d_C_noteBooked_37 : decode b_C_noteBooked 37 = .ok (.invokestatic 306, 3) := by decide +kernel
theorem d_C_noteBooked_40 : decode b_C_noteBooked 40 = .ok (.iinc 2 1, 3) := by decide +kernel
theorem d_C_noteBooked_43 : decode b_C_noteBooked 43 = .ok (.goto (-41), 3) := by decide +kernel
theorem d_C_noteBooked_46 : decode b_C_noteBooked 46 = .ok (.iconst 1, 1) := by decide +kernel
theorem d_C_noteBooked_47 : decode b_C_noteBooked 47 = .ok (.istore_n 2, 1) := by decide +kernel
theorem d_C_noteBooked_48 : decode b_C_noteBooked 48 = .ok (.iload_n 2, 1) := by decide +kernel
theorem d_C_noteBooked_49 : decode b_C_noteBooked 49 = .ok (.aload_n 0, 1) := by decide +kernel
theorem d_C_noteBooked_50 : decode b_C_noteBooked 50 = .ok (.getfield 119, 3) := by decide +kernel
theorem d_C_noteBooked_53 : decode b_C_noteBooked 53 = .ok (.if_icmp .gt 60, 3) := by decide +kernel
theorem d_C_noteBooked_56 : decode b_C_noteBooked 56 = .ok (.aload_n 0, 1) := by decide +kernel
theorem d_C_noteBooked_57 : decode b_C_noteBooked 57 = .ok (.iload_n 2, 1) := by decide +kernel
theorem d_C_noteBooked_58 : decode b_C_noteBooked 58 = .ok (.invokevirtual 127, 3) := by decide +kernel
theorem d_C_noteBooked_61 : decode b_C_noteBooked 61 = .ok (.astore_n 3, 1) := by decide +kernel
theorem d_C_noteBooked_62 : decode b_C_noteBooked 62 = .ok (.aload_n 1, 1) := by decide +kernel
theorem d_C_noteBooked_63 : decode b_C_noteBooked 63 = .ok (.aload_n 3, 1) := by decide +kernel
theorem d_C_noteBooked_64 : decode b_C_noteBooked 64 = .ok (.getfield 131, 3) := by decide +kernel
theorem d_C_noteBooked_67 : decode b_C_noteBooked 67 = .ok (.invokevirtual 195, 3) := by decide +kernel
theorem d_C_noteBooked_70 : decode b_C_noteBooked 70 = .ok (.istore 4, 2) := by decide +kernel
theorem d_C_noteBooked_72 : decode b_C_noteBooked 72 = .ok (.aload_n 3, 1) := by decide +kernel
theorem d_C_noteBooked_73 : decode b_C_noteBooked 73 = .ok (.getfield 139, 3) := by decide +kernel
theorem d_C_noteBooked_76 : decode b_C_noteBooked 76 = .ok (.ifCond .eq 31, 3) := by decide +kernel
theorem d_C_noteBooked_79 : decode b_C_noteBooked 79 = .ok (.iload 4, 2) := by decide +kernel
theorem d_C_noteBooked_81 : decode b_C_noteBooked 81 = .ok (.iconst (-1), 1) := by decide +kernel
theorem d_C_noteBooked_82 : decode b_C_noteBooked 82 = .ok (.if_icmp .eq 25, 3) := by decide +kernel
theorem d_C_noteBooked_85 : decode b_C_noteBooked 85 = .ok (.aload_n 1, 1) := by decide +kernel
theorem d_C_noteBooked_86 : decode b_C_noteBooked 86 = .ok (.getfield 312, 3) := by decide +kernel
theorem d_C_noteBooked_89 : decode b_C_noteBooked 89 = .ok (.iload 4, 2) := by decide +kernel
theorem d_C_noteBooked_91 : decode b_C_noteBooked 91 = .ok (.bipush 6, 2) := by decide +kernel
theorem d_C_noteBooked_93 : decode b_C_noteBooked 93 = .ok (.imul, 1) := by decide +kernel
theorem d_C_noteBooked_94 : decode b_C_noteBooked 94 = .ok (.aload_n 3, 1) := by decide +kernel
theorem d_C_noteBooked_95 : decode b_C_noteBooked 95 = .ok (.getfield 134, 3) := by decide +kernel
theorem d_C_noteBooked_98 : decode b_C_noteBooked 98 = .ok (.iadd, 1) := by decide +kernel
theorem d_C_noteBooked_99 : decode b_C_noteBooked 99 = .ok (.dup2, 1) := by decide +kernel
theorem d_C_noteBooked_100 : decode b_C_noteBooked 100 = .ok (.iaload, 1) := by decide +kernel
theorem d_C_noteBooked_101 : decode b_C_noteBooked 101 = .ok (.aload_n 3, 1) := by decide +kernel
theorem d_C_noteBooked_102 : decode b_C_noteBooked 102 = .ok (.getfield 137, 3) := by decide +kernel
theorem d_C_noteBooked_105 : decode b_C_noteBooked 105 = .ok (.iadd, 1) := by decide +kernel
theorem d_C_noteBooked_106 : decode b_C_noteBooked 106 = .ok (.iastore, 1) := by decide +kernel
theorem d_C_noteBooked_107 : decode b_C_noteBooked 107 = .ok (.iinc 2 1, 3) := by decide +kernel
theorem d_C_noteBooked_110 : decode b_C_noteBooked 110 = .ok (.goto (-62), 3) := by decide +kernel
theorem d_C_noteBooked_113 : decode b_C_noteBooked 113 = .ok (.return_, 1) := by decide +kernel
theorem d_C_countPlace_0 : decode b_C_countPlace 0 = .ok (.iconst 1, 1) := by decide +kernel
theorem d_C_countPlace_1 : decode b_C_countPlace 1 = .ok (.istore 4, 2) := by decide +kernel
theorem d_C_countPlace_3 : decode b_C_countPlace 3 = .ok (.iconst 0, 1) := by decide +kernel
theorem d_C_countPlace_4 : decode b_C_countPlace 4 = .ok (.istore 5, 2) := by decide +kernel
theorem d_C_countPlace_6 : decode b_C_countPlace 6 = .ok (.iload 5, 2) := by decide +kernel
theorem d_C_countPlace_8 : decode b_C_countPlace 8 = .ok (.bipush 6, 2) := by decide +kernel
theorem d_C_countPlace_10 : decode b_C_countPlace 10 = .ok (.if_icmp .ge 59, 3) := by decide +kernel
theorem d_C_countPlace_13 : decode b_C_countPlace 13 = .ok (.iload_n 2, 1) := by decide +kernel
theorem d_C_countPlace_14 : decode b_C_countPlace 14 = .ok (.bipush 6, 2) := by decide +kernel
theorem d_C_countPlace_16 : decode b_C_countPlace 16 = .ok (.imul, 1) := by decide +kernel
theorem d_C_countPlace_17 : decode b_C_countPlace 17 = .ok (.iload 5, 2) := by decide +kernel
theorem d_C_countPlace_19 : decode b_C_countPlace 19 = .ok (.iadd, 1) := by decide +kernel
theorem d_C_countPlace_20 : decode b_C_countPlace 20 = .ok (.istore 6, 2) := by decide +kernel
theorem d_C_countPlace_22 : decode b_C_countPlace 22 = .ok (.aload_n 1, 1) := by decide +kernel
theorem d_C_countPlace_23 : decode b_C_countPlace 23 = .ok (.iload 6, 2) := by decide +kernel
theorem d_C_countPlace_25 : decode b_C_countPlace 25 = .ok (.invokevirtual 214, 3) := by decide +kernel
theorem d_C_countPlace_28 : decode b_C_countPlace 28 = .ok (.istore 7, 2) := by decide +kernel
theorem d_C_countPlace_30 : decode b_C_countPlace 30 = .ok (.iload 7, 2) := by decide +kernel
theorem d_C_countPlace_32 : decode b_C_countPlace 32 = .ok (.ifCond .eq 9, 3) := by decide +kernel
theorem d_C_countPlace_35 : decode b_C_countPlace 35 = .ok (.aload_n 1, 1) := by decide +kernel
theorem d_C_countPlace_36 : decode b_C_countPlace 36 = .ok (.iload 6, 2) := by decide +kernel
theorem d_C_countPlace_38 : decode b_C_countPlace 38 = .ok (.invokevirtual 315, 3) := by decide +kernel
theorem d_C_countPlace_41 : decode b_C_countPlace 41 = .ok (.iload 4, 2) := by decide +kernel
theorem d_C_countPlace_43 : decode b_C_countPlace 43 = .ok (.ifCond .eq 17, 3) := by decide +kernel
theorem d_C_countPlace_46 : decode b_C_countPlace 46 = .ok (.aload_n 0, 1) := by decide +kernel
theorem d_C_countPlace_47 : decode b_C_countPlace 47 = .ok (.iload 7, 2) := by decide +kernel
theorem d_C_countPlace_49 : decode b_C_countPlace 49 = .ok (.aload_n 3, 1) := by decide +kernel
theorem d_C_countPlace_50 : decode b_C_countPlace 50 = .ok (.invokevirtual 217, 3) := by decide +kernel
theorem d_C_countPlace_53 : decode b_C_countPlace 53 = .ok (.ifCond .eq 7, 3) := by decide +kernel
theorem d_C_countPlace_56 : decode b_C_countPlace 56 = .ok (.iconst 1, 1) := by decide +kernel
theorem d_C_countPlace_57 : decode b_C_countPlace 57 = .ok (.goto 4, 3) := by decide +kernel
theorem d_C_countPlace_60 : decode b_C_countPlace 60 = .ok (.iconst 0, 1) := by decide +kernel
theorem d_C_countPlace_61 : decode b_C_countPlace 61 = .ok (.istore 4, 2) := by decide +kernel
theorem d_C_countPlace_63 : decode b_C_countPlace 63 = .ok (.iinc 5 1, 3) := by decide +kernel
theorem d_C_countPlace_66 : decode b_C_countPlace 66 = .ok (.goto (-60), 3) := by decide +kernel
theorem d_C_countPlace_69 : decode b_C_countPlace 69 = .ok (.aload_n 3, 1) := by decide +kernel
theorem d_C_countPlace_70 : decode b_C_countPlace 70 = .ok (.aload_n 0, 1) := by decide +kernel
theorem d_C_countPlace_71 : decode b_C_countPlace 71 = .ok (.getfield 106, 3) := by decide +kernel
theorem d_C_countPlace_74 : decode b_C_countPlace 74 = .ok (.putfield 277, 3) := by decide +kernel
theorem d_C_countPlace_77 : decode b_C_countPlace 77 = .ok (.aload_n 0, 1) := by decide +kernel
theorem d_C_countPlace_78 : decode b_C_countPlace 78 = .ok (.dup, 1) := by decide +kernel
theorem d_C_countPlace_79 : decode b_C_countPlace 79 = .ok (.getfield 263, 3) := by decide +kernel
theorem d_C_countPlace_82 : decode b_C_countPlace 82 = .ok (.iconst 1, 1) := by decide +kernel
theorem d_C_countPlace_83 : decode b_C_countPlace 83 = .ok (.iadd, 1) := by decide +kernel
theorem d_C_countPlace_84 : decode b_C_countPlace 84 = .ok (.putfield 263, 3) := by decide +kernel
theorem d_C_countPlace_87 : decode b_C_countPlace 87 = .ok (.iload 4, 2) := by decide +kernel
theorem d_C_countPlace_89 : decode b_C_countPlace 89 = .ok (.ifCond .eq 13, 3) := by decide +kernel
theorem d_C_countPlace_92 : decode b_C_countPlace 92 = .ok (.aload_n 0, 1) := by decide +kernel
theorem d_C_countPlace_93 : decode b_C_countPlace 93 = .ok (.dup, 1) := by decide +kernel
theorem d_C_countPlace_94 : decode b_C_countPlace 94 = .ok (.getfield 266, 3) := by decide +kernel
theorem d_C_countPlace_97 : decode b_C_countPlace 97 = .ok (.iconst 1, 1) := by decide +kernel
theorem d_C_countPlace_98 : decode b_C_countPlace 98 = .ok (.iadd, 1) := by decide +kernel
theorem d_C_countPlace_99 : decode b_C_countPlace 99 = .ok (.putfield 266, 3) := by decide +kernel
theorem d_C_countPlace_102 : decode b_C_countPlace 102 = .ok (.return_, 1) := by decide +kernel
theorem d_C_isTolerated_0 : decode b_C_isTolerated 0 = .ok (.iload_n 1, 1) := by decide +kernel
theorem d_C_isTolerated_1 : decode b_C_isTolerated 1 = .ok (.invokestatic 318, 3) := by decide +kernel
theorem d_C_isTolerated_4 : decode b_C_isTolerated 4 = .ok (.aload_n 0, 1) := by decide +kernel
theorem d_C_isTolerated_5 : decode b_C_isTolerated 5 = .ok (.getfield 31, 3) := by decide +kernel
theorem d_C_isTolerated_8 : decode b_C_isTolerated 8 = .ok (.aload_n 2, 1) := by decide +kernel
theorem d_C_isTolerated_9 : decode b_C_isTolerated 9 = .ok (.getfield 280, 3) := by decide +kernel
theorem d_C_isTolerated_12 : decode b_C_isTolerated 12 = .ok (.iaload, 1) := by decide +kernel
theorem d_C_isTolerated_13 : decode b_C_isTolerated 13 = .ok (.if_icmp .gt 7, 3) := by decide +kernel
theorem d_C_isTolerated_16 : decode b_C_isTolerated 16 = .ok (.iconst 1, 1) := by decide +kernel
theorem d_C_isTolerated_17 : decode b_C_isTolerated 17 = .ok (.goto 4, 3) := by decide +kernel
theorem d_C_isTolerated_20 : decode b_C_isTolerated 20 = .ok (.iconst 0, 1) := by decide +kernel
theorem d_C_isTolerated_21 : decode b_C_isTolerated 21 = .ok (.ireturn, 1) := by decide +kernel
theorem d_C_mayCorrect_0 : decode b_C_mayCorrect 0 = .ok (.aload_n 1, 1) := by decide +kernel
theorem d_C_mayCorrect_1 : decode b_C_mayCorrect 1 = .ok (.getfield 246, 3) := by decide +kernel
theorem d_C_mayCorrect_4 : decode b_C_mayCorrect 4 = .ok (.iload_n 2, 1) := by decide +kernel
theorem d_C_mayCorrect_5 : decode b_C_mayCorrect 5 = .ok (.iaload, 1) := by decide +kernel
theorem d_C_mayCorrect_6 : decode b_C_mayCorrect 6 = .ok (.istore 4, 2) := by decide +kernel
theorem d_C_mayCorrect_8 : decode b_C_mayCorrect 8 = .ok (.aload_n 0, 1) := by decide +kernel
theorem d_C_mayCorrect_9 : decode b_C_mayCorrect 9 = .ok (.getfield 34, 3) := by decide +kernel
theorem d_C_mayCorrect_12 : decode b_C_mayCorrect 12 = .ok (.iload_n 3, 1) := by decide +kernel
theorem d_C_mayCorrect_13 : decode b_C_mayCorrect 13 = .ok (.iaload, 1) := by decide +kernel
theorem d_C_mayCorrect_14 : decode b_C_mayCorrect 14 = .ok (.aload_n 1, 1) := by decide +kernel
theorem d_C_mayCorrect_15 : decode b_C_mayCorrect 15 = .ok (.iload_n 2, 1) := by decide +kernel
theorem d_C_mayCorrect_16 : decode b_C_mayCorrect 16 = .ok (.invokevirtual 214, 3) := by decide +kernel
theorem d_C_mayCorrect_19 : decode b_C_mayCorrect 19 = .ok (.invokestatic 318, 3) := by decide +kernel
theorem d_C_mayCorrect_22 : decode b_C_mayCorrect 22 = .ok (.if_icmp .lt 7, 3) := by decide +kernel
theorem d_C_mayCorrect_25 : decode b_C_mayCorrect 25 = .ok (.iconst 1, 1) := by decide +kernel
theorem d_C_mayCorrect_26 : decode b_C_mayCorrect 26 = .ok (.goto 4, 3) := by decide +kernel
theorem d_C_mayCorrect_29 : decode b_C_mayCorrect 29 = .ok (.iconst 0, 1) := by decide +kernel
theorem d_C_mayCorrect_30 : decode b_C_mayCorrect 30 = .ok (.istore 5, 2) := by decide +kernel
theorem d_C_mayCorrect_32 : decode b_C_mayCorrect 32 = .ok (.iload 4, 2) := by decide +kernel
theorem d_C_mayCorrect_34 : decode b_C_mayCorrect 34 = .ok (.iconst (-1), 1) := by decide +kernel
theorem d_C_mayCorrect_35 : decode b_C_mayCorrect 35 = .ok (.if_icmp .eq 13, 3) := by decide +kernel
theorem d_C_mayCorrect_38 : decode b_C_mayCorrect 38 = .ok (.iload 4, 2) := by decide +kernel
theorem d_C_mayCorrect_40 : decode b_C_mayCorrect 40 = .ok (.iload_n 3, 1) := by decide +kernel
theorem d_C_mayCorrect_41 : decode b_C_mayCorrect 41 = .ok (.if_icmp .eq 7, 3) := by decide +kernel
theorem d_C_mayCorrect_44 : decode b_C_mayCorrect 44 = .ok (.iconst 1, 1) := by decide +kernel
theorem d_C_mayCorrect_45 : decode b_C_mayCorrect 45 = .ok (.goto 4, 3) := by decide +kernel
theorem d_C_mayCorrect_48 : decode b_C_mayCorrect 48 = .ok (.iconst 0, 1) := by decide +kernel
theorem d_C_mayCorrect_49 : decode b_C_mayCorrect 49 = .ok (.istore 6, 2) := by decide +kernel
theorem d_C_mayCorrect_51 : decode b_C_mayCorrect 51 = .ok (.iload 5, 2) := by decide +kernel
theorem d_C_mayCorrect_53 : decode b_C_mayCorrect 53 = .ok (.ifCond .ne 8, 3) := by decide +kernel
theorem d_C_mayCorrect_56 : decode b_C_mayCorrect 56 = .ok (.iload 6, 2) := by decide +kernel
theorem d_C_mayCorrect_58 : decode b_C_mayCorrect 58 = .ok (.ifCond .eq 7, 3) := by decide +kernel
theorem d_C_mayCorrect_61 : decode b_C_mayCorrect 61 = .ok (.iconst 1, 1) := by decide +kernel
theorem d_C_mayCorrect_62 : decode b_C_mayCorrect 62 = .ok (.goto 4, 3) := by decide +kernel
theorem d_C_mayCorrect_65 : decode b_C_mayCorrect 65 = .ok (.iconst 0, 1) := by decide +kernel
theorem d_C_mayCorrect_66 : decode b_C_mayCorrect 66 = .ok (.ireturn, 1) := by decide +kernel
theorem d_C_commonDivisor_0 : decode b_C_commonDivisor 0 = .ok (.iload_n 0, 1) := by decide +kernel
theorem d_C_commonDivisor_1 : decode b_C_commonDivisor 1 = .ok (.istore_n 2, 1) := by decide +kernel
theorem d_C_commonDivisor_2 : decode b_C_commonDivisor 2 = .ok (.iload_n 1, 1) := by decide +kernel
theorem d_C_commonDivisor_3 : decode b_C_commonDivisor 3 = .ok (.istore_n 3, 1) := by decide +kernel
theorem d_C_commonDivisor_4 : decode b_C_commonDivisor 4 = .ok (.iconst 0, 1) := by decide +kernel
theorem d_C_commonDivisor_5 : decode b_C_commonDivisor 5 = .ok (.istore 4, 2) := by decide +kernel
theorem d_C_commonDivisor_7 : decode b_C_commonDivisor 7 = .ok (.iload 4, 2) := by decide +kernel
theorem d_C_commonDivisor_9 : decode b_C_commonDivisor 9 = .ok (.bipush 64, 2) := by decide +kernel
theorem d_C_commonDivisor_11 : decode b_C_commonDivisor 11 = .ok (.if_icmp .ge 23, 3) := by decide +kernel
theorem d_C_commonDivisor_14 : decode b_C_commonDivisor 14 = .ok (.iload_n 3, 1) := by decide +kernel
theorem d_C_commonDivisor_15 : decode b_C_commonDivisor 15 = .ok (.ifCond .eq 19, 3) := by decide +kernel
theorem d_C_commonDivisor_18 : decode b_C_commonDivisor 18 = .ok (.iload_n 2, 1) := by decide +kernel
theorem d_C_commonDivisor_19 : decode b_C_commonDivisor 19 = .ok (.iload_n 3, 1) := by decide +kernel
theorem d_C_commonDivisor_20 : decode b_C_commonDivisor 20 = .ok (.irem, 1) := by decide +kernel
theorem d_C_commonDivisor_21 : decode b_C_commonDivisor 21 = .ok (.istore 5, 2) := by decide +kernel
theorem d_C_commonDivisor_23 : decode b_C_commonDivisor 23 = .ok (.iload_n 3, 1) := by decide +kernel
theorem d_C_commonDivisor_24 : decode b_C_commonDivisor 24 = .ok (.istore_n 2, 1) := by decide +kernel
theorem d_C_commonDivisor_25 : decode b_C_commonDivisor 25 = .ok (.iload 5, 2) := by decide +kernel
theorem d_C_commonDivisor_27 : decode b_C_commonDivisor 27 = .ok (.istore_n 3, 1) := by decide +kernel
theorem d_C_commonDivisor_28 : decode b_C_commonDivisor 28 = .ok (.iinc 4 1, 3) := by decide +kernel
theorem d_C_commonDivisor_31 : decode b_C_commonDivisor 31 = .ok (.goto (-24), 3) := by decide +kernel
theorem d_C_commonDivisor_34 : decode b_C_commonDivisor 34 = .ok (.iload_n 2, 1) := by decide +kernel
theorem d_C_commonDivisor_35 : decode b_C_commonDivisor 35 = .ok (.ireturn, 1) := by decide +kernel
theorem d_P_init_0 : decode b_P_init 0 = .ok (.aload_n 0, 1) := by decide +kernel
theorem d_P_init_1 : decode b_P_init 1 = .ok (.invokespecial 3, 3) := by decide +kernel
theorem d_P_init_4 : decode b_P_init 4 = .ok (.aload_n 0, 1) := by decide +kernel
theorem d_P_init_5 : decode b_P_init 5 = .ok (.bipush 6, 2) := by decide +kernel
theorem d_P_init_7 : decode b_P_init 7 = .ok (.newarray .int, 2) := by decide +kernel
theorem d_P_init_9 : decode b_P_init 9 = .ok (.putfield 9, 3) := by decide +kernel
theorem d_P_init_12 : decode b_P_init 12 = .ok (.aload_n 0, 1) := by decide +kernel
theorem d_P_init_13 : decode b_P_init 13 = .ok (.iconst (-1), 1) := by decide +kernel
theorem d_P_init_14 : decode b_P_init 14 = .ok (.putfield 15, 3) := by decide +kernel
theorem d_P_init_17 : decode b_P_init 17 = .ok (.aload_n 0, 1) := by decide +kernel
theorem d_P_init_18 : decode b_P_init 18 = .ok (.iload_n 1, 1) := by decide +kernel
theorem d_P_init_19 : decode b_P_init 19 = .ok (.putfield 19, 3) := by decide +kernel
theorem d_P_init_22 : decode b_P_init 22 = .ok (.return_, 1) := by decide +kernel
theorem d_S_init_0 : decode b_S_init 0 = .ok (.aload_n 0, 1) := by decide +kernel
theorem d_S_init_1 : decode b_S_init 1 = .ok (.invokespecial 3, 3) := by decide +kernel
theorem d_S_init_4 : decode b_S_init 4 = .ok (.aload_n 0, 1) := by decide +kernel
theorem d_S_init_5 : decode b_S_init 5 = .ok (.iconst 0, 1) := by decide +kernel
theorem d_S_init_6 : decode b_S_init 6 = .ok (.putfield 9, 3) := by decide +kernel
theorem d_S_init_9 : decode b_S_init 9 = .ok (.aload_n 1, 1) := by decide +kernel
theorem d_S_init_10 : decode b_S_init 10 = .ok (.arraylength, 1) := by decide +kernel
theorem d_S_init_11 : decode b_S_init 11 = .ok (.bipush 6, 2) := by decide +kernel
theorem d_S_init_13 : decode b_S_init 13 = .ok (.imul, 1) := by decide +kernel
theorem d_S_init_14 : decode b_S_init 14 = .ok (.istore_n 2, 1) := by decide +kernel
theorem d_S_init_15 : decode b_S_init 15 = .ok (.aload_n 0, 1) := by decide +kernel
theorem d_S_init_16 : decode b_S_init 16 = .ok (.aload_n 1, 1) := by decide +kernel
theorem d_S_init_17 : decode b_S_init 17 = .ok (.putfield 15, 3) := by decide +kernel
theorem d_S_init_20 : decode b_S_init 20 = .ok (.aload_n 0, 1) := by decide +kernel
theorem d_S_init_21 : decode b_S_init 21 = .ok (.iload_n 2, 1) := by decide +kernel
theorem d_S_init_22 : decode b_S_init 22 = .ok (.newarray .int, 2) := by decide +kernel
theorem d_S_init_24 : decode b_S_init 24 = .ok (.putfield 19, 3) := by decide +kernel
theorem d_S_init_27 : decode b_S_init 27 = .ok (.aload_n 0, 1) := by decide +kernel
theorem d_S_init_28 : decode b_S_init 28 = .ok (.iload_n 2, 1) := by decide +kernel
theorem d_S_init_29 : decode b_S_init 29 = .ok (.newarray .int, 2) := by decide +kernel
theorem d_S_init_31 : decode b_S_init 31 = .ok (.putfield 22, 3) := by decide +kernel
theorem d_S_init_34 : decode b_S_init 34 = .ok (.aload_n 0, 1) := by decide +kernel
theorem d_S_init_35 : decode b_S_init 35 = .ok (.iload_n 2, 1) := by decide +kernel
theorem d_S_init_36 : decode b_S_init 36 = .ok (.newarray .int, 2) := by decide +kernel
theorem d_S_init_38 : decode b_S_init 38 = .ok (.putfield 25, 3) := by decide +kernel
theorem d_S_init_41 : decode b_S_init 41 = .ok (.aload_n 0, 1) := by decide +kernel
theorem d_S_init_42 : decode b_S_init 42 = .ok (.iload_n 2, 1) := by decide +kernel
theorem d_S_init_43 : decode b_S_init 43 = .ok (.newarray .int, 2) := by decide +kernel
theorem d_S_init_45 : decode b_S_init 45 = .ok (.putfield 28, 3) := by decide +kernel
theorem d_S_init_48 : decode b_S_init 48 = .ok (.aload_n 0, 1) := by decide +kernel
theorem d_S_init_49 : decode b_S_init 49 = .ok (.iload_n 2, 1) := by decide +kernel
theorem d_S_init_50 : decode b_S_init 50 = .ok (.newarray .int, 2) := by decide +kernel
theorem d_S_init_52 : decode b_S_init 52 = .ok (.putfield 31, 3) := by decide +kernel
theorem d_S_init_55 : decode b_S_init 55 = .ok (.aload_n 0, 1) := by decide +kernel
theorem d_S_init_56 : decode b_S_init 56 = .ok (.iload_n 2, 1) := by decide +kernel
theorem d_S_init_57 : decode b_S_init 57 = .ok (.newarray .boolean, 2) := by decide +kernel
theorem d_S_init_59 : decode b_S_init 59 = .ok (.putfield 34, 3) := by decide +kernel
theorem d_S_init_62 : decode b_S_init 62 = .ok (.aload_n 0, 1) := by decide +kernel
theorem d_S_init_63 : decode b_S_init 63 = .ok (.iload_n 2, 1) := by decide +kernel
theorem d_S_init_64 : decode b_S_init 64 = .ok (.newarray .int, 2) := by decide +kernel
theorem d_S_init_66 : decode b_S_init 66 = .ok (.putfield 38, 3) := by decide +kernel
theorem d_S_init_69 : decode b_S_init 69 = .ok (.aload_n 0, 1) := by decide +kernel
theorem d_S_init_70 : decode b_S_init 70 = .ok (.getfield 25, 3) := by decide +kernel
theorem d_S_init_73 : decode b_S_init 73 = .ok (.iconst (-1), 1) := by decide +kernel
theorem d_S_init_74 : decode b_S_init 74 = .ok (.invokestatic 41, 3) := by decide +kernel
theorem d_S_init_77 : decode b_S_init 77 = .ok (.aload_n 0, 1) := by decide +kernel
theorem d_S_init_78 : decode b_S_init 78 = .ok (.getfield 28, 3) := by decide +kernel
theorem d_S_init_81 : decode b_S_init 81 = .ok (.iconst (-1), 1) := by decide +kernel
theorem d_S_init_82 : decode b_S_init 82 = .ok (.invokestatic 41, 3) := by decide +kernel
theorem d_S_init_85 : decode b_S_init 85 = .ok (.aload_n 0, 1) := by decide +kernel
theorem d_S_init_86 : decode b_S_init 86 = .ok (.getfield 31, 3) := by decide +kernel
theorem d_S_init_89 : decode b_S_init 89 = .ok (.iconst (-1), 1) := by decide +kernel
theorem d_S_init_90 : decode b_S_init 90 = .ok (.invokestatic 41, 3) := by decide +kernel
theorem d_S_init_93 : decode b_S_init 93 = .ok (.return_, 1) := by decide +kernel
theorem d_S_positionOf_0 : decode b_S_positionOf 0 = .ok (.iconst 0, 1) := by decide +kernel
theorem d_S_positionOf_1 : decode b_S_positionOf 1 = .ok (.istore_n 2, 1) := by decide +kernel
theorem d_S_positionOf_2 : decode b_S_positionOf 2 = .ok (.iload_n 2, 1) := by decide +kernel
theorem d_S_positionOf_3 : decode b_S_positionOf 3 = .ok (.aload_n 0, 1) := by decide +kernel
theorem d_S_positionOf_4 : decode b_S_positionOf 4 = .ok (.getfield 15, 3) := by decide +kernel
theorem d_S_positionOf_7 : decode b_S_positionOf 7 = .ok (.arraylength, 1) := by decide +kernel
theorem d_S_positionOf_8 : decode b_S_positionOf 8 = .ok (.if_icmp .ge 21, 3) := by decide +kernel
theorem d_S_positionOf_11 : decode b_S_positionOf 11 = .ok (.aload_n 0, 1) := by decide +kernel
theorem d_S_positionOf_12 : decode b_S_positionOf 12 = .ok (.getfield 15, 3) := by decide +kernel
theorem d_S_positionOf_15 : decode b_S_positionOf 15 = .ok (.iload_n 2, 1) := by decide +kernel
theorem d_S_positionOf_16 : decode b_S_positionOf 16 = .ok (.iaload, 1) := by decide +kernel
theorem d_S_positionOf_17 : decode b_S_positionOf 17 = .ok (.iload_n 1, 1) := by decide +kernel
theorem d_S_positionOf_18 : decode b_S_positionOf 18 = .ok (.if_icmp .ne 5, 3) := by decide +kernel
theorem d_S_positionOf_21 : decode b_S_positionOf 21 = .ok (.iload_n 2, 1) := by decide +kernel
theorem d_S_positionOf_22 : decode b_S_positionOf 22 = .ok (.ireturn, 1) := by decide +kernel
theorem d_S_positionOf_23 : decode b_S_positionOf 23 = .ok (.iinc 2 1, 3) := by decide +kernel
theorem d_S_positionOf_26 : decode b_S_positionOf 26 = .ok (.goto (-24), 3) := by decide +kernel
theorem d_S_positionOf_29 : decode b_S_positionOf 29 = .ok (.iconst (-1), 1) := by decide +kernel
theorem d_S_positionOf_30 : decode b_S_positionOf 30 = .ok (.ireturn, 1) := by decide +kernel
theorem d_S_tell_0 : decode b_S_tell 0 = .ok (.aload_n 0, 1) := by decide +kernel
theorem d_S_tell_1 : decode b_S_tell 1 = .ok (.getfield 25, 3) := by decide +kernel
theorem d_S_tell_4 : decode b_S_tell 4 = .ok (.iload_n 1, 1) := by decide +kernel
theorem d_S_tell_5 : decode b_S_tell 5 = .ok (.iaload, 1) := by decide +kernel
theorem d_S_tell_6 : decode b_S_tell 6 = .ok (.iload_n 3, 1) := by decide +kernel
theorem d_S_tell_7 : decode b_S_tell 7 = .ok (.if_icmp .eq 13, 3) := by decide +kernel
theorem d_S_tell_10 : decode b_S_tell 10 = .ok (.aload_n 0, 1) := by decide +kernel
theorem d_S_tell_11 : decode b_S_tell 11 = .ok (.getfield 28, 3) := by decide +kernel
theorem d_S_tell_14 : decode b_S_tell 14 = .ok (.iload_n 1, 1) := by decide +kernel
theorem d_S_tell_15 : decode b_S_tell 15 = .ok (.iaload, 1) := by decide +kernel
theorem d_S_tell_16 : decode b_S_tell 16 = .ok (.iload_n 3, 1) := by decide +kernel
theorem d_S_tell_17 : decode b_S_tell 17 = .ok (.if_icmp .ne 6, 3) := by decide +kernel
theorem d_S_tell_20 : decode b_S_tell 20 = .ok (.bipush (-3), 2) := by decide +kernel
theorem d_S_tell_22 : decode b_S_tell 22 = .ok (.ireturn, 1) := by decide +kernel
theorem d_S_tell_23 : decode b_S_tell 23 = .ok (.aload_n 0, 1) := by decide +kernel
theorem d_S_tell_24 : decode b_S_tell 24 = .ok (.getfield 28, 3) := by decide +kernel
theorem d_S_tell_27 : decode b_S_tell 27 = .ok (.iload_n 1, 1) := by decide +kernel
theorem d_S_tell_28 : decode b_S_tell 28 = .ok (.iaload, 1) := by decide +kernel
theorem d_S_tell_29 : decode b_S_tell 29 = .ok (.iconst (-1), 1) := by decide +kernel
theorem d_S_tell_30 : decode b_S_tell 30 = .ok (.if_icmp .eq 6, 3) := by decide +kernel
theorem d_S_tell_33 : decode b_S_tell 33 = .ok (.bipush (-4), 2) := by decide +kernel
theorem d_S_tell_35 : decode b_S_tell 35 = .ok (.ireturn, 1) := by decide +kernel
theorem d_S_tell_36 : decode b_S_tell 36 = .ok (.aload_n 0, 1) := by decide +kernel
theorem d_S_tell_37 : decode b_S_tell 37 = .ok (.getfield 25, 3) := by decide +kernel
theorem d_S_tell_40 : decode b_S_tell 40 = .ok (.iload_n 1, 1) := by decide +kernel
theorem d_S_tell_41 : decode b_S_tell 41 = .ok (.iaload, 1) := by decide +kernel
theorem d_S_tell_42 : decode b_S_tell 42 = .ok (.iconst (-1), 1) := by decide +kernel
theorem d_S_tell_43 : decode b_S_tell 43 = .ok (.if_icmp .ne 13, 3) := by decide +kernel
theorem d_S_tell_46 : decode b_S_tell 46 = .ok (.aload_n 0, 1) := by decide +kernel
theorem d_S_tell_47 : decode b_S_tell 47 = .ok (.getfield 25, 3) := by decide +kernel
theorem d_S_tell_50 : decode b_S_tell 50 = .ok (.iload_n 1, 1) := by decide +kernel
theorem d_S_tell_51 : decode b_S_tell 51 = .ok (.iload_n 3, 1) := by decide +kernel
theorem d_S_tell_52 : decode b_S_tell 52 = .ok (.iastore, 1) := by decide +kernel
theorem d_S_tell_53 : decode b_S_tell 53 = .ok (.goto 10, 3) := by decide +kernel
theorem d_S_tell_56 : decode b_S_tell 56 = .ok (.aload_n 0, 1) := by decide +kernel
theorem d_S_tell_57 : decode b_S_tell 57 = .ok (.getfield 28, 3) := by decide +kernel
theorem d_S_tell_60 : decode b_S_tell 60 = .ok (.iload_n 1, 1) := by decide +kernel
theorem d_S_tell_61 : decode b_S_tell 61 = .ok (.iload_n 3, 1) := by decide +kernel
theorem d_S_tell_62 : decode b_S_tell 62 = .ok (.iastore, 1) := by decide +kernel
theorem d_S_tell_63 : decode b_S_tell 63 = .ok (.aload_n 0, 1) := by decide +kernel
theorem d_S_tell_64 : decode b_S_tell 64 = .ok (.getfield 22, 3) := by decide +kernel
theorem d_S_tell_67 : decode b_S_tell 67 = .ok (.iload_n 1, 1) := by decide +kernel
theorem d_S_tell_68 : decode b_S_tell 68 = .ok (.iload_n 2, 1) := by decide +kernel
theorem d_S_tell_69 : decode b_S_tell 69 = .ok (.iastore, 1) := by decide +kernel
theorem d_S_tell_70 : decode b_S_tell 70 = .ok (.aload_n 0, 1) := by decide +kernel
theorem d_S_tell_71 : decode b_S_tell 71 = .ok (.dup, 1) := by decide +kernel
theorem d_S_tell_72 : decode b_S_tell 72 = .ok (.getfield 47, 3) := by decide +kernel
theorem d_S_tell_75 : decode b_S_tell 75 = .ok (.iconst 1, 1) := by decide +kernel
theorem d_S_tell_76 : decode b_S_tell 76 = .ok (.iadd, 1) := by decide +kernel
theorem d_S_tell_77 : decode b_S_tell 77 = .ok (.putfield 47, 3) := by decide +kernel
theorem d_S_tell_80 : decode b_S_tell 80 = .ok (.iconst 1, 1) := by decide +kernel
theorem d_S_tell_81 : decode b_S_tell 81 = .ok (.ireturn, 1) := by decide +kernel
theorem d_S_isToldOnce_0 : decode b_S_isToldOnce 0 = .ok (.aload_n 0, 1) := by decide +kernel
theorem d_S_isToldOnce_1 : decode b_S_isToldOnce 1 = .ok (.getfield 25, 3) := by decide +kernel
theorem d_S_isToldOnce_4 : decode b_S_isToldOnce 4 = .ok (.iload_n 1, 1) := by decide +kernel
theorem d_S_isToldOnce_5 : decode b_S_isToldOnce 5 = .ok (.iaload, 1) := by decide +kernel
theorem d_S_isToldOnce_6 : decode b_S_isToldOnce 6 = .ok (.iconst (-1), 1) := by decide +kernel
theorem d_S_isToldOnce_7 : decode b_S_isToldOnce 7 = .ok (.if_icmp .eq 17, 3) := by decide +kernel
theorem d_S_isToldOnce_10 : decode b_S_isToldOnce 10 = .ok (.aload_n 0, 1) := by decide +kernel
theorem d_S_isToldOnce_11 : decode b_S_isToldOnce 11 = .ok (.getfield 28, 3) := by decide +kernel
theorem d_S_isToldOnce_14 : decode b_S_isToldOnce 14 = .ok (.iload_n 1, 1) := by decide +kernel
theorem d_S_isToldOnce_15 : decode b_S_isToldOnce 15 = .ok (.iaload, 1) := by decide +kernel
theorem d_S_isToldOnce_16 : decode b_S_isToldOnce 16 = .ok (.iconst (-1), 1) := by decide +kernel
theorem d_S_isToldOnce_17 : decode b_S_isToldOnce 17 = .ok (.if_icmp .ne 7, 3) := by decide +kernel
theorem d_S_isToldOnce_20 : decode b_S_isToldOnce 20 = .ok (.iconst 1, 1) := by decide +kernel
theorem d_S_isToldOnce_21 : decode b_S_isToldOnce 21 = .ok (.goto 4, 3) := by decide +kernel
theorem d_S_isToldOnce_24 : decode b_S_isToldOnce 24 = .ok (.iconst 0, 1) := by decide +kernel
theorem d_S_isToldOnce_25 : decode b_S_isToldOnce 25 = .ok (.ireturn, 1) := by decide +kernel
theorem d_S_isPlaceTold_0 : decode b_S_isPlaceTold 0 = .ok (.iconst 0, 1) := by decide +kernel
theorem d_S_isPlaceTold_1 : decode b_S_isPlaceTold 1 = .ok (.istore_n 2, 1) := by decide +kernel
theorem d_S_isPlaceTold_2 : decode b_S_isPlaceTold 2 = .ok (.iload_n 2, 1) := by decide +kernel
theorem d_S_isPlaceTold_3 : decode b_S_isPlaceTold 3 = .ok (.bipush 6, 2) := by decide +kernel
theorem d_S_isPlaceTold_5 : decode b_S_isPlaceTold 5 = .ok (.if_icmp .ge 26, 3) := by decide +kernel
theorem d_S_isPlaceTold_8 : decode b_S_isPlaceTold 8 = .ok (.aload_n 0, 1) := by decide +kernel
theorem d_S_isPlaceTold_9 : decode b_S_isPlaceTold 9 = .ok (.getfield 25, 3) := by decide +kernel
theorem d_S_isPlaceTold_12 : decode b_S_isPlaceTold 12 = .ok (.iload_n 1, 1) := by decide +kernel
theorem d_S_isPlaceTold_13 : decode b_S_isPlaceTold 13 = .ok (.bipush 6, 2) := by decide +kernel
theorem d_S_isPlaceTold_15 : decode b_S_isPlaceTold 15 = .ok (.imul, 1) := by decide +kernel
theorem d_S_isPlaceTold_16 : decode b_S_isPlaceTold 16 = .ok (.iload_n 2, 1) := by decide +kernel
theorem d_S_isPlaceTold_17 : decode b_S_isPlaceTold 17 = .ok (.iadd, 1) := by decide +kernel
theorem d_S_isPlaceTold_18 : decode b_S_isPlaceTold 18 = .ok (.iaload, 1) := by decide +kernel
theorem d_S_isPlaceTold_19 : decode b_S_isPlaceTold 19 = .ok (.iconst (-1), 1) := by decide +kernel
theorem d_S_isPlaceTold_20 : decode b_S_isPlaceTold 20 = .ok (.if_icmp .eq 5, 3) := by decide +kernel
theorem d_S_isPlaceTold_23 : decode b_S_isPlaceTold 23 = .ok (.iconst 1, 1) := by decide +kernel
theorem d_S_isPlaceTold_24 : decode b_S_isPlaceTold 24 = .ok (.ireturn, 1) := by decide +kernel
theorem d_S_isPlaceTold_25 : decode b_S_isPlaceTold 25 = .ok (.iinc 2 1, 3) := by decide +kernel
theorem d_S_isPlaceTold_28 : decode b_S_isPlaceTold 28 = .ok (.goto (-26), 3) := by decide +kernel
theorem d_S_isPlaceTold_31 : decode b_S_isPlaceTold 31 = .ok (.iconst 0, 1) := by decide +kernel
theorem d_S_isPlaceTold_32 : decode b_S_isPlaceTold 32 = .ok (.ireturn, 1) := by decide +kernel
theorem d_S_finderOf_0 : decode b_S_finderOf 0 = .ok (.aload_n 0, 1) := by decide +kernel
theorem d_S_finderOf_1 : decode b_S_finderOf 1 = .ok (.getfield 28, 3) := by decide +kernel
theorem d_S_finderOf_4 : decode b_S_finderOf 4 = .ok (.iload_n 1, 1) := by decide +kernel
theorem d_S_finderOf_5 : decode b_S_finderOf 5 = .ok (.iaload, 1) := by decide +kernel
theorem d_S_finderOf_6 : decode b_S_finderOf 6 = .ok (.iconst (-1), 1) := by decide +kernel
theorem d_S_finderOf_7 : decode b_S_finderOf 7 = .ok (.if_icmp .eq 12, 3) := by decide +kernel
theorem d_S_finderOf_10 : decode b_S_finderOf 10 = .ok (.aload_n 0, 1) := by decide +kernel
theorem d_S_finderOf_11 : decode b_S_finderOf 11 = .ok (.getfield 28, 3) := by decide +kernel
theorem d_S_finderOf_14 : decode b_S_finderOf 14 = .ok (.iload_n 1, 1) := by decide +kernel
theorem d_S_finderOf_15 : decode b_S_finderOf 15 = .ok (.iaload, 1) := by decide +kernel
theorem d_S_finderOf_16 : decode b_S_finderOf 16 = .ok (.goto 9, 3) := by decide +kernel
theorem d_S_finderOf_19 : decode b_S_finderOf 19 = .ok (.aload_n 0, 1) := by decide +kernel
theorem d_S_finderOf_20 : decode b_S_finderOf 20 = .ok (.getfield 25, 3) := by decide +kernel
theorem d_S_finderOf_23 : decode b_S_finderOf 23 = .ok (.iload_n 1, 1) := by decide +kernel
theorem d_S_finderOf_24 : decode b_S_finderOf 24 = .ok (.iaload, 1) := by decide +kernel
theorem d_S_finderOf_25 : decode b_S_finderOf 25 = .ok (.ireturn, 1) := by decide +kernel
theorem d_S_differenceOf_0 : decode b_S_differenceOf 0 = .ok (.aload_n 0, 1) := by decide +kernel
theorem d_S_differenceOf_1 : decode b_S_differenceOf 1 = .ok (.getfield 22, 3) := by decide +kernel
theorem d_S_differenceOf_4 : decode b_S_differenceOf 4 = .ok (.iload_n 1, 1) := by decide +kernel
theorem d_S_differenceOf_5 : decode b_S_differenceOf 5 = .ok (.iaload, 1) := by decide +kernel
theorem d_S_differenceOf_6 : decode b_S_differenceOf 6 = .ok (.aload_n 0, 1) := by decide +kernel
theorem d_S_differenceOf_7 : decode b_S_differenceOf 7 = .ok (.getfield 19, 3) := by decide +kernel
theorem d_S_differenceOf_10 : decode b_S_differenceOf 10 = .ok (.iload_n 1, 1) := by decide +kernel
theorem d_S_differenceOf_11 : decode b_S_differenceOf 11 = .ok (.iaload, 1) := by decide +kernel
theorem d_S_differenceOf_12 : decode b_S_differenceOf 12 = .ok (.isub, 1) := by decide +kernel
theorem d_S_differenceOf_13 : decode b_S_differenceOf 13 = .ok (.ireturn, 1) := by decide +kernel
theorem d_S_addDifference_0 : decode b_S_addDifference 0 = .ok (.aload_n 0, 1) := by decide +kernel
theorem d_S_addDifference_1 : decode b_S_addDifference 1 = .ok (.getfield 50, 3) := by decide +kernel
theorem d_S_addDifference_4 : decode b_S_addDifference 4 = .ok (.aload_n 0, 1) := by decide +kernel
theorem d_S_addDifference_5 : decode b_S_addDifference 5 = .ok (.getfield 38, 3) := by decide +kernel
theorem d_S_addDifference_8 : decode b_S_addDifference 8 = .ok (.arraylength, 1) := by decide +kernel
theorem d_S_addDifference_9 : decode b_S_addDifference 9 = .ok (.if_icmp .ge 23, 3) := by decide +kernel
theorem d_S_addDifference_12 : decode b_S_addDifference 12 = .ok (.aload_n 0, 1) := by decide +kernel
theorem d_S_addDifference_13 : decode b_S_addDifference 13 = .ok (.getfield 38, 3) := by decide +kernel
theorem d_S_addDifference_16 : decode b_S_addDifference 16 = .ok (.aload_n 0, 1) := by decide +kernel
theorem d_S_addDifference_17 : decode b_S_addDifference 17 = .ok (.getfield 50, 3) := by decide +kernel
theorem d_S_addDifference_20 : decode b_S_addDifference 20 = .ok (.iload_n 1, 1) := by decide +kernel
theorem d_S_addDifference_21 : decode b_S_addDifference 21 = .ok (.iastore, 1) := by decide +kernel
theorem d_S_addDifference_22 : decode b_S_addDifference 22 = .ok (.aload_n 0, 1) := by decide +kernel
theorem d_S_addDifference_23 : decode b_S_addDifference 23 = .ok (.dup, 1) := by decide +kernel
theorem d_S_addDifference_24 : decode b_S_addDifference 24 = .ok (.getfield 50, 3) := by decide +kernel
theorem d_S_addDifference_27 : decode b_S_addDifference 27 = .ok (.iconst 1, 1) := by decide +kernel
theorem d_S_addDifference_28 : decode b_S_addDifference 28 = .ok (.iadd, 1) := by decide +kernel
theorem d_S_addDifference_29 : decode b_S_addDifference 29 = .ok (.putfield 50, 3) := by decide +kernel
theorem d_S_addDifference_32 : decode b_S_addDifference 32 = .ok (.return_, 1) := by decide +kernel
theorem d_S_differingLine_0 : decode b_S_differingLine 0 = .ok (.iload_n 1, 1) := by decide +kernel
theorem d_S_differingLine_1 : decode b_S_differingLine 1 = .ok (.ifCond .lt 20, 3) := by decide +kernel
theorem d_S_differingLine_4 : decode b_S_differingLine 4 = .ok (.iload_n 1, 1) := by decide +kernel
theorem d_S_differingLine_5 : decode b_S_differingLine 5 = .ok (.aload_n 0, 1) := by decide +kernel
theorem d_S_differingLine_6 : decode b_S_differingLine 6 = .ok (.getfield 50, 3) := by decide +kernel
theorem d_S_differingLine_9 : decode b_S_differingLine 9 = .ok (.if_icmp .ge 12, 3) := by decide +kernel
theorem d_S_differingLine_12 : decode b_S_differingLine 12 = .ok (.aload_n 0, 1) := by decide +kernel
theorem d_S_differingLine_13 : decode b_S_differingLine 13 = .ok (.getfield 38, 3) := by decide +kernel
theorem d_S_differingLine_16 : decode b_S_differingLine 16 = .ok (.iload_n 1, 1) := by decide +kernel
theorem d_S_differingLine_17 : decode b_S_differingLine 17 = .ok (.iaload, 1) := by decide +kernel
theorem d_S_differingLine_18 : decode b_S_differingLine 18 = .ok (.goto 4, 3) := by decide +kernel
theorem d_S_differingLine_21 : decode b_S_differingLine 21 = .ok (.iconst (-1), 1) := by decide +kernel
theorem d_S_differingLine_22 : decode b_S_differingLine 22 = .ok (.ireturn, 1) := by decide +kernel
theorem d_T_init_0 : decode b_T_init 0 = .ok (.aload_n 0, 1) := by decide +kernel
theorem d_T_init_1 : decode b_T_init 1 = .ok (.invokespecial 1, 3) := by decide +kernel
theorem d_T_init_4 : decode b_T_init 4 = .ok (.aload_n 0, 1) := by decide +kernel
theorem d_T_init_5 : decode b_T_init 5 = .ok (.iconst 1, 1) := by decide +kernel
theorem d_T_init_6 : decode b_T_init 6 = .ok (.putfield 7, 3) := by decide +kernel
theorem d_T_init_9 : decode b_T_init 9 = .ok (.aload_n 0, 1) := by decide +kernel
theorem d_T_init_10 : decode b_T_init 10 = .ok (.iload_n 1, 1) := by decide +kernel
theorem d_T_init_11 : decode b_T_init 11 = .ok (.putfield 13, 3) := by decide +kernel
theorem d_T_init_14 : decode b_T_init 14 = .ok (.aload_n 0, 1) := by decide +kernel
theorem d_T_init_15 : decode b_T_init 15 = .ok (.iload_n 2, 1) := by decide +kernel
theorem d_T_init_16 : decode b_T_init 16 = .ok (.putfield 17, 3) := by decide +kernel
theorem d_T_init_19 : decode b_T_init 19 = .ok (.aload_n 0, 1) := by decide +kernel
theorem d_T_init_20 : decode b_T_init 20 = .ok (.iload_n 3, 1) := by decide +kernel
theorem d_T_init_21 : decode b_T_init 21 = .ok (.putfield 20, 3) := by decide +kernel
theorem d_T_init_24 : decode b_T_init 24 = .ok (.aload_n 0, 1) := by decide +kernel
theorem d_T_init_25 : decode b_T_init 25 = .ok (.iload 4, 2) := by decide +kernel
theorem d_T_init_27 : decode b_T_init 27 = .ok (.putfield 23, 3) := by decide +kernel
theorem d_T_init_30 : decode b_T_init 30 = .ok (.return_, 1) := by decide +kernel
end
section
/-! decode rows: the calls of the law -/
theorem d_L_place_0 : decode b_L_place 0 = .ok (.aload_n 2, 1) := by decide +kernel
theorem d_L_place_1 : decode b_L_place 1 = .ok (.iconst 0, 1) := by decide +kernel
theorem d_L_place_2 : decode b_L_place 2 = .ok (.aload_n 0, 1) := by decide +kernel
theorem d_L_place_3 : decode b_L_place 3 = .ok (.iload_n 1, 1) := by decide +kernel
theorem d_L_place_4 : decode b_L_place 4 = .ok (.invokevirtual 7, 3) := by decide +kernel
theorem d_L_place_7 : decode b_L_place 7 = .ok (.i2l, 1) := by decide +kernel
theorem d_L_place_8 : decode b_L_place 8 = .ok (.lastore, 1) := by decide +kernel
theorem d_L_place_9 : decode b_L_place 9 = .ok (.goto 9, 3) := by decide +kernel
theorem d_L_place_12 : decode b_L_place 12 = .ok (.astore_n 3, 1) := by decide +kernel
theorem d_L_place_13 : decode b_L_place 13 = .ok (.iconst 1, 1) := by decide +kernel
theorem d_L_place_14 : decode b_L_place 14 = .ok (.ireturn, 1) := by decide +kernel
theorem d_L_place_15 : decode b_L_place 15 = .ok (.astore_n 3, 1) := by decide +kernel
theorem d_L_place_16 : decode b_L_place 16 = .ok (.iconst 2, 1) := by decide +kernel
theorem d_L_place_17 : decode b_L_place 17 = .ok (.ireturn, 1) := by decide +kernel
theorem d_L_place_18 : decode b_L_place 18 = .ok (.iconst 0, 1) := by decide +kernel
theorem d_L_place_19 : decode b_L_place 19 = .ok (.ireturn, 1) := by decide +kernel
theorem d_L_stock_0 : decode b_L_stock 0 = .ok (.aload_n 0, 1) := by decide +kernel
theorem d_L_stock_1 : decode b_L_stock 1 = .ok (.iload_n 1, 1) := by decide +kernel
theorem d_L_stock_2 : decode b_L_stock 2 = .ok (.iload_n 2, 1) := by decide +kernel
theorem d_L_stock_3 : decode b_L_stock 3 = .ok (.iload_n 3, 1) := by decide +kernel
theorem d_L_stock_4 : decode b_L_stock 4 = .ok (.invokevirtual 17, 3) := by decide +kernel
theorem d_L_stock_7 : decode b_L_stock 7 = .ok (.goto 11, 3) := by decide +kernel
theorem d_L_stock_10 : decode b_L_stock 10 = .ok (.astore 4, 2) := by decide +kernel
theorem d_L_stock_12 : decode b_L_stock 12 = .ok (.iconst 1, 1) := by decide +kernel
theorem d_L_stock_13 : decode b_L_stock 13 = .ok (.ireturn, 1) := by decide +kernel
theorem d_L_stock_14 : decode b_L_stock 14 = .ok (.astore 4, 2) := by decide +kernel
theorem d_L_stock_16 : decode b_L_stock 16 = .ok (.iconst 2, 1) := by decide +kernel
theorem d_L_stock_17 : decode b_L_stock 17 = .ok (.ireturn, 1) := by decide +kernel
theorem d_L_stock_18 : decode b_L_stock 18 = .ok (.iconst 0, 1) := by decide +kernel
theorem d_L_stock_19 : decode b_L_stock 19 = .ok (.ireturn, 1) := by decide +kernel
theorem d_L_cycle_0 : decode b_L_cycle 0 = .ok (.aload_n 0, 1) := by decide +kernel
theorem d_L_cycle_1 : decode b_L_cycle 1 = .ok (.iload_n 1, 1) := by decide +kernel
theorem d_L_cycle_2 : decode b_L_cycle 2 = .ok (.iload_n 2, 1) := by decide +kernel
theorem d_L_cycle_3 : decode b_L_cycle 3 = .ok (.iload_n 3, 1) := by decide +kernel
theorem d_L_cycle_4 : decode b_L_cycle 4 = .ok (.invokevirtual 23, 3) := by decide +kernel
theorem d_L_cycle_7 : decode b_L_cycle 7 = .ok (.goto 7, 3) := by decide +kernel
theorem d_L_cycle_10 : decode b_L_cycle 10 = .ok (.astore 4, 2) := by decide +kernel
theorem d_L_cycle_12 : decode b_L_cycle 12 = .ok (.iconst 1, 1) := by decide +kernel
theorem d_L_cycle_13 : decode b_L_cycle 13 = .ok (.ireturn, 1) := by decide +kernel
theorem d_L_cycle_14 : decode b_L_cycle 14 = .ok (.iconst 0, 1) := by decide +kernel
theorem d_L_cycle_15 : decode b_L_cycle 15 = .ok (.ireturn, 1) := by decide +kernel
theorem d_L_right_0 : decode b_L_right 0 = .ok (.aload_n 0, 1) := by decide +kernel
theorem d_L_right_1 : decode b_L_right 1 = .ok (.iload_n 1, 1) := by decide +kernel
theorem d_L_right_2 : decode b_L_right 2 = .ok (.iload_n 2, 1) := by decide +kernel
theorem d_L_right_3 : decode b_L_right 3 = .ok (.invokevirtual 26, 3) := by decide +kernel
theorem d_L_right_6 : decode b_L_right 6 = .ok (.goto 6, 3) := by decide +kernel
theorem d_L_right_9 : decode b_L_right 9 = .ok (.astore_n 3, 1) := by decide +kernel
theorem d_L_right_10 : decode b_L_right 10 = .ok (.iconst 1, 1) := by decide +kernel
theorem d_L_right_11 : decode b_L_right 11 = .ok (.ireturn, 1) := by decide +kernel
theorem d_L_right_12 : decode b_L_right 12 = .ok (.iconst 0, 1) := by decide +kernel
theorem d_L_right_13 : decode b_L_right 13 = .ok (.ireturn, 1) := by decide +kernel
theorem d_L_setting_0 : decode b_L_setting 0 = .ok (.aload_n 0, 1) := by decide +kernel
theorem d_L_setting_1 : decode b_L_setting 1 = .ok (.iload_n 1, 1) := by decide +kernel
theorem d_L_setting_2 : decode b_L_setting 2 = .ok (.invokevirtual 30, 3) := by decide +kernel
theorem d_L_setting_5 : decode b_L_setting 5 = .ok (.goto 6, 3) := by decide +kernel
theorem d_L_setting_8 : decode b_L_setting 8 = .ok (.astore_n 2, 1) := by decide +kernel
theorem d_L_setting_9 : decode b_L_setting 9 = .ok (.iconst 1, 1) := by decide +kernel
theorem d_L_setting_10 : decode b_L_setting 10 = .ok (.ireturn, 1) := by decide +kernel
theorem d_L_setting_11 : decode b_L_setting 11 = .ok (.iconst 0, 1) := by decide +kernel
theorem d_L_setting_12 : decode b_L_setting 12 = .ok (.ireturn, 1) := by decide +kernel
theorem d_L_day_0 : decode b_L_day 0 = .ok (.aload_n 0, 1) := by decide +kernel
theorem d_L_day_1 : decode b_L_day 1 = .ok (.iload_n 1, 1) := by decide +kernel
theorem d_L_day_2 : decode b_L_day 2 = .ok (.invokevirtual 34, 3) := by decide +kernel
theorem d_L_day_5 : decode b_L_day 5 = .ok (.goto 9, 3) := by decide +kernel
theorem d_L_day_8 : decode b_L_day 8 = .ok (.astore_n 2, 1) := by decide +kernel
theorem d_L_day_9 : decode b_L_day 9 = .ok (.iconst 1, 1) := by decide +kernel
theorem d_L_day_10 : decode b_L_day 10 = .ok (.ireturn, 1) := by decide +kernel
theorem d_L_day_11 : decode b_L_day 11 = .ok (.astore_n 2, 1) := by decide +kernel
theorem d_L_day_12 : decode b_L_day 12 = .ok (.iconst 2, 1) := by decide +kernel
theorem d_L_day_13 : decode b_L_day 13 = .ok (.ireturn, 1) := by decide +kernel
theorem d_L_day_14 : decode b_L_day 14 = .ok (.iconst 0, 1) := by decide +kernel
theorem d_L_day_15 : decode b_L_day 15 = .ok (.ireturn, 1) := by decide +kernel
theorem d_L_move_0 : decode b_L_move 0 = .ok (.aload 5, 2) := by decide +kernel
theorem d_L_move_2 : decode b_L_move 2 = .ok (.iconst 0, 1) := by decide +kernel
theorem d_L_move_3 : decode b_L_move 3 = .ok (.aload_n 0, 1) := by decide +kernel
theorem d_L_move_4 : decode b_L_move 4 = .ok (.iload_n 1, 1) := by decide +kernel
theorem d_L_move_5 : decode b_L_move 5 = .ok (.iload_n 2, 1) := by decide +kernel
theorem d_L_move_6 : decode b_L_move 6 = .ok (.iload_n 3, 1) := by decide +kernel
theorem d_L_move_7 : decode b_L_move 7 = .ok (.iload 4, 2) := by decide +kernel
theorem d_L_move_9 : decode b_L_move 9 = .ok (.invokevirtual 39, 3) := by decide +kernel
theorem d_L_move_12 : decode b_L_move 12 = .ok (.i2l, 1) := by decide +kernel
theorem d_L_move_13 : decode b_L_move 13 = .ok (.lastore, 1) := by decide +kernel
theorem d_L_move_14 : decode b_L_move 14 = .ok (.goto 19, 3) := by decide +kernel
theorem d_L_move_17 : decode b_L_move 17 = .ok (.astore 6, 2) := by decide +kernel
theorem d_L_move_19 : decode b_L_move 19 = .ok (.iconst 1, 1) := by decide +kernel
theorem d_L_move_20 : decode b_L_move 20 = .ok (.ireturn, 1) := by decide +kernel
theorem d_L_move_21 : decode b_L_move 21 = .ok (.astore 6, 2) := by decide +kernel
theorem d_L_move_23 : decode b_L_move 23 = .ok (.iconst 2, 1) := by decide +kernel
theorem d_L_move_24 : decode b_L_move 24 = .ok (.ireturn, 1) := by decide +kernel
theorem d_L_move_25 : decode b_L_move 25 = .ok (.astore 6, 2) := by decide +kernel
theorem d_L_move_27 : decode b_L_move 27 = .ok (.iconst 3, 1) := by decide +kernel
theorem d_L_move_28 : decode b_L_move 28 = .ok (.ireturn, 1) := by decide +kernel
theorem d_L_move_29 : decode b_L_move 29 = .ok (.astore 6, 2) := by decide +kernel
theorem d_L_move_31 : decode b_L_move 31 = .ok (.iconst 4, 1) := by decide +kernel
theorem d_L_move_32 : decode b_L_move 32 = .ok (.ireturn, 1) := by decide +kernel
theorem d_L_move_33 : decode b_L_move 33 = .ok (.iconst 0, 1) := by decide +kernel
theorem d_L_move_34 : decode b_L_move 34 = .ok (.ireturn, 1) := by decide +kernel
theorem d_L_end_0 : decode b_L_end 0 = .ok (.aload_n 0, 1) := by decide +kernel
theorem d_L_end_1 : decode b_L_end 1 = .ok (.iload_n 1, 1) := by decide +kernel
theorem d_L_end_2 : decode b_L_end 2 = .ok (.invokevirtual 43, 3) := by decide +kernel
theorem d_L_end_5 : decode b_L_end 5 = .ok (.goto 9, 3) := by decide +kernel
theorem d_L_end_8 : decode b_L_end 8 = .ok (.astore_n 2, 1) := by decide +kernel
theorem d_L_end_9 : decode b_L_end 9 = .ok (.iconst 1, 1) := by decide +kernel
theorem d_L_end_10 : decode b_L_end 10 = .ok (.ireturn, 1) := by decide +kernel
theorem d_L_end_11 : decode b_L_end 11 = .ok (.astore_n 2, 1) := by decide +kernel
theorem d_L_end_12 : decode b_L_end 12 = .ok (.iconst 2, 1) := by decide +kernel
theorem d_L_end_13 : decode b_L_end 13 = .ok (.ireturn, 1) := by decide +kernel
theorem d_L_end_14 : decode b_L_end 14 = .ok (.iconst 0, 1) := by decide +kernel
theorem d_L_end_15 : decode b_L_end 15 = .ok (.ireturn, 1) := by decide +kernel
theorem d_L_moves_0 : decode b_L_moves 0 = .ok (.aload_n 2, 1) := by decide +kernel
theorem d_L_moves_1 : decode b_L_moves 1 = .ok (.iconst 0, 1) := by decide +kernel
theorem d_L_moves_2 : decode b_L_moves 2 = .ok (.aload_n 0, 1) := by decide +kernel
theorem d_L_moves_3 : decode b_L_moves 3 = .ok (.iload_n 1, 1) := by decide +kernel
theorem d_L_moves_4 : decode b_L_moves 4 = .ok (.invokevirtual 46, 3) := by decide +kernel
theorem d_L_moves_7 : decode b_L_moves 7 = .ok (.i2l, 1) := by decide +kernel
theorem d_L_moves_8 : decode b_L_moves 8 = .ok (.lastore, 1) := by decide +kernel
theorem d_L_moves_9 : decode b_L_moves 9 = .ok (.goto 6, 3) := by decide +kernel
theorem d_L_moves_12 : decode b_L_moves 12 = .ok (.astore_n 3, 1) := by decide +kernel
theorem d_L_moves_13 : decode b_L_moves 13 = .ok (.iconst 1, 1) := by decide +kernel
theorem d_L_moves_14 : decode b_L_moves 14 = .ok (.ireturn, 1) := by decide +kernel
theorem d_L_moves_15 : decode b_L_moves 15 = .ok (.iconst 0, 1) := by decide +kernel
theorem d_L_moves_16 : decode b_L_moves 16 = .ok (.ireturn, 1) := by decide +kernel
theorem d_L_round_0 : decode b_L_round 0 = .ok (.aload 5, 2) := by decide +kernel
theorem d_L_round_2 : decode b_L_round 2 = .ok (.iconst 0, 1) := by decide +kernel
theorem d_L_round_3 : decode b_L_round 3 = .ok (.aload_n 0, 1) := by decide +kernel
theorem d_L_round_4 : decode b_L_round 4 = .ok (.iload_n 1, 1) := by decide +kernel
theorem d_L_round_5 : decode b_L_round 5 = .ok (.iload_n 2, 1) := by decide +kernel
theorem d_L_round_6 : decode b_L_round 6 = .ok (.lload_n 3, 1) := by decide +kernel
theorem d_L_round_7 : decode b_L_round 7 = .ok (.invokevirtual 49, 3) := by decide +kernel
theorem d_L_round_10 : decode b_L_round 10 = .ok (.i2l, 1) := by decide +kernel
theorem d_L_round_11 : decode b_L_round 11 = .ok (.lastore, 1) := by decide +kernel
theorem d_L_round_12 : decode b_L_round 12 = .ok (.goto 15, 3) := by decide +kernel
theorem d_L_round_15 : decode b_L_round 15 = .ok (.astore 6, 2) := by decide +kernel
theorem d_L_round_17 : decode b_L_round 17 = .ok (.iconst 1, 1) := by decide +kernel
theorem d_L_round_18 : decode b_L_round 18 = .ok (.ireturn, 1) := by decide +kernel
theorem d_L_round_19 : decode b_L_round 19 = .ok (.astore 6, 2) := by decide +kernel
theorem d_L_round_21 : decode b_L_round 21 = .ok (.iconst 2, 1) := by decide +kernel
theorem d_L_round_22 : decode b_L_round 22 = .ok (.ireturn, 1) := by decide +kernel
theorem d_L_round_23 : decode b_L_round 23 = .ok (.astore 6, 2) := by decide +kernel
theorem d_L_round_25 : decode b_L_round 25 = .ok (.iconst 3, 1) := by decide +kernel
theorem d_L_round_26 : decode b_L_round 26 = .ok (.ireturn, 1) := by decide +kernel
theorem d_L_round_27 : decode b_L_round 27 = .ok (.iconst 0, 1) := by decide +kernel
theorem d_L_round_28 : decode b_L_round 28 = .ok (.ireturn, 1) := by decide +kernel
theorem d_L_freeze_0 : decode b_L_freeze 0 = .ok (.aload_n 2, 1) := by decide +kernel
theorem d_L_freeze_1 : decode b_L_freeze 1 = .ok (.iconst 0, 1) := by decide +kernel
theorem d_L_freeze_2 : decode b_L_freeze 2 = .ok (.aload_n 0, 1) := by decide +kernel
theorem d_L_freeze_3 : decode b_L_freeze 3 = .ok (.iload_n 1, 1) := by decide +kernel
theorem d_L_freeze_4 : decode b_L_freeze 4 = .ok (.invokevirtual 53, 3) := by decide +kernel
theorem d_L_freeze_7 : decode b_L_freeze 7 = .ok (.i2l, 1) := by decide +kernel
theorem d_L_freeze_8 : decode b_L_freeze 8 = .ok (.lastore, 1) := by decide +kernel
theorem d_L_freeze_9 : decode b_L_freeze 9 = .ok (.goto 9, 3) := by decide +kernel
theorem d_L_freeze_12 : decode b_L_freeze 12 = .ok (.astore_n 3, 1) := by decide +kernel
theorem d_L_freeze_13 : decode b_L_freeze 13 = .ok (.iconst 1, 1) := by decide +kernel
theorem d_L_freeze_14 : decode b_L_freeze 14 = .ok (.ireturn, 1) := by decide +kernel
theorem d_L_freeze_15 : decode b_L_freeze 15 = .ok (.astore_n 3, 1) := by decide +kernel
theorem d_L_freeze_16 : decode b_L_freeze 16 = .ok (.iconst 2, 1) := by decide +kernel
theorem d_L_freeze_17 : decode b_L_freeze 17 = .ok (.ireturn, 1) := by decide +kernel
theorem d_L_freeze_18 : decode b_L_freeze 18 = .ok (.iconst 0, 1) := by decide +kernel
theorem d_L_freeze_19 : decode b_L_freeze 19 = .ok (.ireturn, 1) := by decide +kernel
theorem d_L_found_0 : decode b_L_found 0 = .ok (.aload 6, 2) := by decide +kernel
theorem d_L_found_2 : decode b_L_found 2 = .ok (.iconst 0, 1) := by decide +kernel
theorem d_L_found_3 : decode b_L_found 3 = .ok (.aload_n 0, 1) := by decide +kernel
theorem d_L_found_4 : decode b_L_found 4 = .ok (.iload_n 1, 1) := by decide +kernel
theorem d_L_found_5 : decode b_L_found 5 = .ok (.iload_n 2, 1) := by decide +kernel
theorem d_L_found_6 : decode b_L_found 6 = .ok (.iload_n 3, 1) := by decide +kernel
theorem d_L_found_7 : decode b_L_found 7 = .ok (.iload 4, 2) := by decide +kernel
theorem d_L_found_9 : decode b_L_found 9 = .ok (.iload 5, 2) := by decide +kernel
theorem d_L_found_11 : decode b_L_found 11 = .ok (.invokevirtual 56, 3) := by decide +kernel
theorem d_L_found_14 : decode b_L_found 14 = .ok (.i2l, 1) := by decide +kernel
theorem d_L_found_15 : decode b_L_found 15 = .ok (.lastore, 1) := by decide +kernel
theorem d_L_found_16 : decode b_L_found 16 = .ok (.goto 11, 3) := by decide +kernel
theorem d_L_found_19 : decode b_L_found 19 = .ok (.astore 7, 2) := by decide +kernel
theorem d_L_found_21 : decode b_L_found 21 = .ok (.iconst 1, 1) := by decide +kernel
theorem d_L_found_22 : decode b_L_found 22 = .ok (.ireturn, 1) := by decide +kernel
theorem d_L_found_23 : decode b_L_found 23 = .ok (.astore 7, 2) := by decide +kernel
theorem d_L_found_25 : decode b_L_found 25 = .ok (.iconst 2, 1) := by decide +kernel
theorem d_L_found_26 : decode b_L_found 26 = .ok (.ireturn, 1) := by decide +kernel
theorem d_L_found_27 : decode b_L_found 27 = .ok (.iconst 0, 1) := by decide +kernel
theorem d_L_found_28 : decode b_L_found 28 = .ok (.ireturn, 1) := by decide +kernel
theorem d_L_second_0 : decode b_L_second 0 = .ok (.aload 4, 2) := by decide +kernel
theorem d_L_second_2 : decode b_L_second 2 = .ok (.iconst 0, 1) := by decide +kernel
theorem d_L_second_3 : decode b_L_second 3 = .ok (.aload_n 0, 1) := by decide +kernel
theorem d_L_second_4 : decode b_L_second 4 = .ok (.iload_n 1, 1) := by decide +kernel
theorem d_L_second_5 : decode b_L_second 5 = .ok (.iload_n 2, 1) := by decide +kernel
theorem d_L_second_6 : decode b_L_second 6 = .ok (.iload_n 3, 1) := by decide +kernel
theorem d_L_second_7 : decode b_L_second 7 = .ok (.invokevirtual 60, 3) := by decide +kernel
theorem d_L_second_10 : decode b_L_second 10 = .ok (.ifCond .eq 7, 3) := by decide +kernel
theorem d_L_second_13 : decode b_L_second 13 = .ok (.lconst 1, 1) := by decide +kernel
theorem d_L_second_14 : decode b_L_second 14 = .ok (.goto 4, 3) := by decide +kernel
theorem d_L_second_17 : decode b_L_second 17 = .ok (.lconst 0, 1) := by decide +kernel
theorem d_L_second_18 : decode b_L_second 18 = .ok (.lastore, 1) := by decide +kernel
theorem d_L_second_19 : decode b_L_second 19 = .ok (.goto 15, 3) := by decide +kernel
theorem d_L_second_22 : decode b_L_second 22 = .ok (.astore 5, 2) := by decide +kernel
theorem d_L_second_24 : decode b_L_second 24 = .ok (.iconst 1, 1) := by decide +kernel
theorem d_L_second_25 : decode b_L_second 25 = .ok (.ireturn, 1) := by decide +kernel
theorem d_L_second_26 : decode b_L_second 26 = .ok (.astore 5, 2) := by decide +kernel
theorem d_L_second_28 : decode b_L_second 28 = .ok (.iconst 2, 1) := by decide +kernel
theorem d_L_second_29 : decode b_L_second 29 = .ok (.ireturn, 1) := by decide +kernel
theorem d_L_second_30 : decode b_L_second 30 = .ok (.astore 5, 2) := by decide +kernel
theorem d_L_second_32 : decode b_L_second 32 = .ok (.iconst 3, 1) := by decide +kernel
theorem d_L_second_33 : decode b_L_second 33 = .ok (.ireturn, 1) := by decide +kernel
theorem d_L_second_34 : decode b_L_second 34 = .ok (.iconst 0, 1) := by decide +kernel
theorem d_L_second_35 : decode b_L_second 35 = .ok (.ireturn, 1) := by decide +kernel
theorem d_L_close_0 : decode b_L_close 0 = .ok (.aload_n 2, 1) := by decide +kernel
theorem d_L_close_1 : decode b_L_close 1 = .ok (.iconst 0, 1) := by decide +kernel
theorem d_L_close_2 : decode b_L_close 2 = .ok (.aload_n 0, 1) := by decide +kernel
theorem d_L_close_3 : decode b_L_close 3 = .ok (.iload_n 1, 1) := by decide +kernel
theorem d_L_close_4 : decode b_L_close 4 = .ok (.invokevirtual 64, 3) := by decide +kernel
theorem d_L_close_7 : decode b_L_close 7 = .ok (.i2l, 1) := by decide +kernel
theorem d_L_close_8 : decode b_L_close 8 = .ok (.lastore, 1) := by decide +kernel
theorem d_L_close_9 : decode b_L_close 9 = .ok (.goto 9, 3) := by decide +kernel
theorem d_L_close_12 : decode b_L_close 12 = .ok (.astore_n 3, 1) := by decide +kernel
theorem d_L_close_13 : decode b_L_close 13 = .ok (.iconst 1, 1) := by decide +kernel
theorem d_L_close_14 : decode b_L_close 14 = .ok (.ireturn, 1) := by decide +kernel
theorem d_L_close_15 : decode b_L_close 15 = .ok (.astore_n 3, 1) := by decide +kernel
theorem d_L_close_16 : decode b_L_close 16 = .ok (.iconst 2, 1) := by decide +kernel
theorem d_L_close_17 : decode b_L_close 17 = .ok (.ireturn, 1) := by decide +kernel
theorem d_L_close_18 : decode b_L_close 18 = .ok (.iconst 0, 1) := by decide +kernel
theorem d_L_close_19 : decode b_L_close 19 = .ok (.ireturn, 1) := by decide +kernel
theorem d_L_differ_0 : decode b_L_differ 0 = .ok (.aload 4, 2) := by decide +kernel
theorem d_L_differ_2 : decode b_L_differ 2 = .ok (.iconst 0, 1) := by decide +kernel
theorem d_L_differ_3 : decode b_L_differ 3 = .ok (.aload_n 0, 1) := by decide +kernel
theorem d_L_differ_4 : decode b_L_differ 4 = .ok (.iload_n 1, 1) := by decide +kernel
theorem d_L_differ_5 : decode b_L_differ 5 = .ok (.iload_n 2, 1) := by decide +kernel
theorem d_L_differ_6 : decode b_L_differ 6 = .ok (.iload_n 3, 1) := by decide +kernel
theorem d_L_differ_7 : decode b_L_differ 7 = .ok (.invokevirtual 67, 3) := by decide +kernel
theorem d_L_differ_10 : decode b_L_differ 10 = .ok (.i2l, 1) := by decide +kernel
theorem d_L_differ_11 : decode b_L_differ 11 = .ok (.lastore, 1) := by decide +kernel
theorem d_L_differ_12 : decode b_L_differ 12 = .ok (.goto 11, 3) := by decide +kernel
theorem d_L_differ_15 : decode b_L_differ 15 = .ok (.astore 5, 2) := by decide +kernel
theorem d_L_differ_17 : decode b_L_differ 17 = .ok (.iconst 1, 1) := by decide +kernel
theorem d_L_differ_18 : decode b_L_differ 18 = .ok (.ireturn, 1) := by decide +kernel
theorem d_L_differ_19 : decode b_L_differ 19 = .ok (.astore 5, 2) := by decide +kernel
theorem d_L_differ_21 : decode b_L_differ 21 = .ok (.iconst 2, 1) := by decide +kernel
theorem d_L_differ_22 : decode b_L_differ 22 = .ok (.ireturn, 1) := by decide +kernel
theorem d_L_differ_23 : decode b_L_differ 23 = .ok (.iconst 0, 1) := by decide +kernel
theorem d_L_differ_24 : decode b_L_differ 24 = .ok (.ireturn, 1) := by decide +kernel
theorem d_L_correct_0 : decode b_L_correct 0 = .ok (.aload 4, 2) := by decide +kernel
theorem d_L_correct_2 : decode b_L_correct 2 = .ok (.iconst 0, 1) := by decide +kernel
theorem d_L_correct_3 : decode b_L_correct 3 = .ok (.aload_n 0, 1) := by decide +kernel
theorem d_L_correct_4 : decode b_L_correct 4 = .ok (.iload_n 1, 1) := by decide +kernel
theorem d_L_correct_5 : decode b_L_correct 5 = .ok (.iload_n 2, 1) := by decide +kernel
theorem d_L_correct_6 : decode b_L_correct 6 = .ok (.iload_n 3, 1) := by decide +kernel
theorem d_L_correct_7 : decode b_L_correct 7 = .ok (.invokevirtual 71, 3) := by decide +kernel
theorem d_L_correct_10 : decode b_L_correct 10 = .ok (.ifCond .eq 7, 3) := by decide +kernel
theorem d_L_correct_13 : decode b_L_correct 13 = .ok (.lconst 1, 1) := by decide +kernel
theorem d_L_correct_14 : decode b_L_correct 14 = .ok (.goto 4, 3) := by decide +kernel
theorem d_L_correct_17 : decode b_L_correct 17 = .ok (.lconst 0, 1) := by decide +kernel
theorem d_L_correct_18 : decode b_L_correct 18 = .ok (.lastore, 1) := by decide +kernel
theorem d_L_correct_19 : decode b_L_correct 19 = .ok (.goto 15, 3) := by decide +kernel
theorem d_L_correct_22 : decode b_L_correct 22 = .ok (.astore 5, 2) := by decide +kernel
theorem d_L_correct_24 : decode b_L_correct 24 = .ok (.iconst 1, 1) := by decide +kernel
theorem d_L_correct_25 : decode b_L_correct 25 = .ok (.ireturn, 1) := by decide +kernel
theorem d_L_correct_26 : decode b_L_correct 26 = .ok (.astore 5, 2) := by decide +kernel
theorem d_L_correct_28 : decode b_L_correct 28 = .ok (.iconst 2, 1) := by decide +kernel
theorem d_L_correct_29 : decode b_L_correct 29 = .ok (.ireturn, 1) := by decide +kernel
theorem d_L_correct_30 : decode b_L_correct 30 = .ok (.astore 5, 2) := by decide +kernel
theorem d_L_correct_32 : decode b_L_correct 32 = .ok (.iconst 3, 1) := by decide +kernel
theorem d_L_correct_33 : decode b_L_correct 33 = .ok (.ireturn, 1) := by decide +kernel
theorem d_L_correct_34 : decode b_L_correct 34 = .ok (.iconst 0, 1) := by decide +kernel
theorem d_L_correct_35 : decode b_L_correct 35 = .ok (.ireturn, 1) := by decide +kernel
theorem d_L_share_0 : decode b_L_share 0 = .ok (.aload_n 2, 1) := by decide +kernel
theorem d_L_share_1 : decode b_L_share 1 = .ok (.iconst 0, 1) := by decide +kernel
theorem d_L_share_2 : decode b_L_share 2 = .ok (.aload_n 0, 1) := by decide +kernel
theorem d_L_share_3 : decode b_L_share 3 = .ok (.iload_n 1, 1) := by decide +kernel
theorem d_L_share_4 : decode b_L_share 4 = .ok (.invokevirtual 74, 3) := by decide +kernel
theorem d_L_share_7 : decode b_L_share 7 = .ok (.i2l, 1) := by decide +kernel
theorem d_L_share_8 : decode b_L_share 8 = .ok (.lastore, 1) := by decide +kernel
theorem d_L_share_9 : decode b_L_share 9 = .ok (.goto 9, 3) := by decide +kernel
theorem d_L_share_12 : decode b_L_share 12 = .ok (.astore_n 3, 1) := by decide +kernel
theorem d_L_share_13 : decode b_L_share 13 = .ok (.iconst 1, 1) := by decide +kernel
theorem d_L_share_14 : decode b_L_share 14 = .ok (.ireturn, 1) := by decide +kernel
theorem d_L_share_15 : decode b_L_share 15 = .ok (.astore_n 3, 1) := by decide +kernel
theorem d_L_share_16 : decode b_L_share 16 = .ok (.iconst 2, 1) := by decide +kernel
theorem d_L_share_17 : decode b_L_share 17 = .ok (.ireturn, 1) := by decide +kernel
theorem d_L_share_18 : decode b_L_share 18 = .ok (.iconst 0, 1) := by decide +kernel
theorem d_L_share_19 : decode b_L_share 19 = .ok (.ireturn, 1) := by decide +kernel
theorem d_L_last_0 : decode b_L_last 0 = .ok (.aload_n 2, 1) := by decide +kernel
theorem d_L_last_1 : decode b_L_last 1 = .ok (.iconst 0, 1) := by decide +kernel
theorem d_L_last_2 : decode b_L_last 2 = .ok (.aload_n 0, 1) := by decide +kernel
theorem d_L_last_3 : decode b_L_last 3 = .ok (.iload_n 1, 1) := by decide +kernel
theorem d_L_last_4 : decode b_L_last 4 = .ok (.invokevirtual 79, 3) := by decide +kernel
theorem d_L_last_7 : decode b_L_last 7 = .ok (.i2l, 1) := by decide +kernel
theorem d_L_last_8 : decode b_L_last 8 = .ok (.lastore, 1) := by decide +kernel
theorem d_L_last_9 : decode b_L_last 9 = .ok (.goto 6, 3) := by decide +kernel
theorem d_L_last_12 : decode b_L_last 12 = .ok (.astore_n 3, 1) := by decide +kernel
theorem d_L_last_13 : decode b_L_last 13 = .ok (.iconst 1, 1) := by decide +kernel
theorem d_L_last_14 : decode b_L_last 14 = .ok (.ireturn, 1) := by decide +kernel
theorem d_L_last_15 : decode b_L_last 15 = .ok (.iconst 0, 1) := by decide +kernel
theorem d_L_last_16 : decode b_L_last 16 = .ok (.ireturn, 1) := by decide +kernel
theorem d_L_due_0 : decode b_L_due 0 = .ok (.aload_n 2, 1) := by decide +kernel
theorem d_L_due_1 : decode b_L_due 1 = .ok (.iconst 0, 1) := by decide +kernel
theorem d_L_due_2 : decode b_L_due 2 = .ok (.aload_n 0, 1) := by decide +kernel
theorem d_L_due_3 : decode b_L_due 3 = .ok (.iload_n 1, 1) := by decide +kernel
theorem d_L_due_4 : decode b_L_due 4 = .ok (.invokevirtual 82, 3) := by decide +kernel
theorem d_L_due_7 : decode b_L_due 7 = .ok (.i2l, 1) := by decide +kernel
theorem d_L_due_8 : decode b_L_due 8 = .ok (.lastore, 1) := by decide +kernel
theorem d_L_due_9 : decode b_L_due 9 = .ok (.goto 6, 3) := by decide +kernel
theorem d_L_due_12 : decode b_L_due 12 = .ok (.astore_n 3, 1) := by decide +kernel
theorem d_L_due_13 : decode b_L_due 13 = .ok (.iconst 1, 1) := by decide +kernel
theorem d_L_due_14 : decode b_L_due 14 = .ok (.ireturn, 1) := by decide +kernel
theorem d_L_due_15 : decode b_L_due 15 = .ok (.iconst 0, 1) := by decide +kernel
theorem d_L_due_16 : decode b_L_due 16 = .ok (.ireturn, 1) := by decide +kernel
theorem d_L_booked_0 : decode b_L_booked 0 = .ok (.aload_n 3, 1) := by decide +kernel
theorem d_L_booked_1 : decode b_L_booked 1 = .ok (.iconst 0, 1) := by decide +kernel
theorem d_L_booked_2 : decode b_L_booked 2 = .ok (.aload_n 0, 1) := by decide +kernel
theorem d_L_booked_3 : decode b_L_booked 3 = .ok (.iload_n 1, 1) := by decide +kernel
theorem d_L_booked_4 : decode b_L_booked 4 = .ok (.iload_n 2, 1) := by decide +kernel
theorem d_L_booked_5 : decode b_L_booked 5 = .ok (.invokevirtual 85, 3) := by decide +kernel
theorem d_L_booked_8 : decode b_L_booked 8 = .ok (.i2l, 1) := by decide +kernel
theorem d_L_booked_9 : decode b_L_booked 9 = .ok (.lastore, 1) := by decide +kernel
theorem d_L_booked_10 : decode b_L_booked 10 = .ok (.goto 11, 3) := by decide +kernel
theorem d_L_booked_13 : decode b_L_booked 13 = .ok (.astore 4, 2) := by decide +kernel
theorem d_L_booked_15 : decode b_L_booked 15 = .ok (.iconst 1, 1) := by decide +kernel
theorem d_L_booked_16 : decode b_L_booked 16 = .ok (.ireturn, 1) := by decide +kernel
theorem d_L_booked_17 : decode b_L_booked 17 = .ok (.astore 4, 2) := by decide +kernel
theorem d_L_booked_19 : decode b_L_booked 19 = .ok (.iconst 2, 1) := by decide +kernel
theorem d_L_booked_20 : decode b_L_booked 20 = .ok (.ireturn, 1) := by decide +kernel
theorem d_L_booked_21 : decode b_L_booked 21 = .ok (.iconst 0, 1) := by decide +kernel
theorem d_L_booked_22 : decode b_L_booked 22 = .ok (.ireturn, 1) := by decide +kernel
theorem d_L_told_0 : decode b_L_told 0 = .ok (.aload_n 3, 1) := by decide +kernel
theorem d_L_told_1 : decode b_L_told 1 = .ok (.iconst 0, 1) := by decide +kernel
theorem d_L_told_2 : decode b_L_told 2 = .ok (.aload_n 0, 1) := by decide +kernel
theorem d_L_told_3 : decode b_L_told 3 = .ok (.iload_n 1, 1) := by decide +kernel
theorem d_L_told_4 : decode b_L_told 4 = .ok (.iload_n 2, 1) := by decide +kernel
theorem d_L_told_5 : decode b_L_told 5 = .ok (.invokevirtual 89, 3) := by decide +kernel
theorem d_L_told_8 : decode b_L_told 8 = .ok (.i2l, 1) := by decide +kernel
theorem d_L_told_9 : decode b_L_told 9 = .ok (.lastore, 1) := by decide +kernel
theorem d_L_told_10 : decode b_L_told 10 = .ok (.goto 11, 3) := by decide +kernel
theorem d_L_told_13 : decode b_L_told 13 = .ok (.astore 4, 2) := by decide +kernel
theorem d_L_told_15 : decode b_L_told 15 = .ok (.iconst 1, 1) := by decide +kernel
theorem d_L_told_16 : decode b_L_told 16 = .ok (.ireturn, 1) := by decide +kernel
theorem d_L_told_17 : decode b_L_told 17 = .ok (.astore 4, 2) := by decide +kernel
theorem d_L_told_19 : decode b_L_told 19 = .ok (.iconst 2, 1) := by decide +kernel
theorem d_L_told_20 : decode b_L_told 20 = .ok (.ireturn, 1) := by decide +kernel
theorem d_L_told_21 : decode b_L_told 21 = .ok (.iconst 0, 1) := by decide +kernel
theorem d_L_told_22 : decode b_L_told 22 = .ok (.ireturn, 1) := by decide +kernel
end
section
/-! decode rows: the reference -/
theorem d_M_init_0 : decode b_M_init 0 = .ok (.aload_n 0, 1) := by decide +kernel
theorem d_M_init_1 : decode b_M_init 1 = .ok (.invokespecial 1, 3) := by decide +kernel
theorem d_M_init_4 : decode b_M_init 4 = .ok (.aload_n 0, 1) := by decide +kernel
theorem d_M_init_5 : decode b_M_init 5 = .ok (.bipush 20, 2) := by decide +kernel
theorem d_M_init_7 : decode b_M_init 7 = .ok (.newarray .int, 2) := by decide +kernel
theorem d_M_init_9 : decode b_M_init 9 = .ok (.putfield 7, 3) := by decide +kernel
theorem d_M_init_12 : decode b_M_init 12 = .ok (.aload_n 0, 1) := by decide +kernel
theorem d_M_init_13 : decode b_M_init 13 = .ok (.bipush 20, 2) := by decide +kernel
theorem d_M_init_15 : decode b_M_init 15 = .ok (.newarray .int, 2) := by decide +kernel
theorem d_M_init_17 : decode b_M_init 17 = .ok (.putfield 13, 3) := by decide +kernel
theorem d_M_init_20 : decode b_M_init 20 = .ok (.aload_n 0, 1) := by decide +kernel
theorem d_M_init_21 : decode b_M_init 21 = .ok (.bipush 120, 2) := by decide +kernel
theorem d_M_init_23 : decode b_M_init 23 = .ok (.newarray .int, 2) := by decide +kernel
theorem d_M_init_25 : decode b_M_init 25 = .ok (.putfield 16, 3) := by decide +kernel
theorem d_M_init_28 : decode b_M_init 28 = .ok (.aload_n 0, 1) := by decide +kernel
theorem d_M_init_29 : decode b_M_init 29 = .ok (.iconst 3, 1) := by decide +kernel
theorem d_M_init_30 : decode b_M_init 30 = .ok (.newarray .int, 2) := by decide +kernel
theorem d_M_init_32 : decode b_M_init 32 = .ok (.dup, 1) := by decide +kernel
theorem d_M_init_33 : decode b_M_init 33 = .ok (.iconst 0, 1) := by decide +kernel
theorem d_M_init_34 : decode b_M_init 34 = .ok (.bipush 30, 2) := by decide +kernel
theorem d_M_init_36 : decode b_M_init 36 = .ok (.iastore, 1) := by decide +kernel
theorem d_M_init_37 : decode b_M_init 37 = .ok (.dup, 1) := by decide +kernel
theorem d_M_init_38 : decode b_M_init 38 = .ok (.iconst 1, 1) := by decide +kernel
theorem d_M_init_39 : decode b_M_init 39 = .ok (.bipush 30, 2) := by decide +kernel
theorem d_M_init_41 : decode b_M_init 41 = .ok (.iastore, 1) := by decide +kernel
theorem d_M_init_42 : decode b_M_init 42 = .ok (.dup, 1) := by decide +kernel
theorem d_M_init_43 : decode b_M_init 43 = .ok (.iconst 2, 1) := by decide +kernel
theorem d_M_init_44 : decode b_M_init 44 = .ok (.bipush 30, 2) := by decide +kernel
theorem d_M_init_46 : decode b_M_init 46 = .ok (.iastore, 1) := by decide +kernel
theorem d_M_init_47 : decode b_M_init 47 = .ok (.putfield 19, 3) := by decide +kernel
theorem d_M_init_50 : decode b_M_init 50 = .ok (.aload_n 0, 1) := by decide +kernel
theorem d_M_init_51 : decode b_M_init 51 = .ok (.iconst 3, 1) := by decide +kernel
theorem d_M_init_52 : decode b_M_init 52 = .ok (.newarray .int, 2) := by decide +kernel
theorem d_M_init_54 : decode b_M_init 54 = .ok (.putfield 22, 3) := by decide +kernel
theorem d_M_init_57 : decode b_M_init 57 = .ok (.aload_n 0, 1) := by decide +kernel
theorem d_M_init_58 : decode b_M_init 58 = .ok (.bipush 6, 2) := by decide +kernel
theorem d_M_init_60 : decode b_M_init 60 = .ok (.newarray .int, 2) := by decide +kernel
theorem d_M_init_62 : decode b_M_init 62 = .ok (.putfield 25, 3) := by decide +kernel
theorem d_M_init_65 : decode b_M_init 65 = .ok (.aload_n 0, 1) := by decide +kernel
theorem d_M_init_66 : decode b_M_init 66 = .ok (.bipush 61, 2) := by decide +kernel
theorem d_M_init_68 : decode b_M_init 68 = .ok (.newarray .int, 2) := by decide +kernel
theorem d_M_init_70 : decode b_M_init 70 = .ok (.putfield 28, 3) := by decide +kernel
theorem d_M_init_73 : decode b_M_init 73 = .ok (.aload_n 0, 1) := by decide +kernel
theorem d_M_init_74 : decode b_M_init 74 = .ok (.bipush 61, 2) := by decide +kernel
theorem d_M_init_76 : decode b_M_init 76 = .ok (.newarray .int, 2) := by decide +kernel
theorem d_M_init_78 : decode b_M_init 78 = .ok (.putfield 31, 3) := by decide +kernel
theorem d_M_init_81 : decode b_M_init 81 = .ok (.aload_n 0, 1) := by decide +kernel
theorem d_M_init_82 : decode b_M_init 82 = .ok (.bipush 61, 2) := by decide +kernel
theorem d_M_init_84 : decode b_M_init 84 = .ok (.newarray .int, 2) := by decide +kernel
theorem d_M_init_86 : decode b_M_init 86 = .ok (.putfield 34, 3) := by decide +kernel
theorem d_M_init_89 : decode b_M_init 89 = .ok (.aload_n 0, 1) := by decide +kernel
theorem d_M_init_90 : decode b_M_init 90 = .ok (.bipush 61, 2) := by decide +kernel
theorem d_M_init_92 : decode b_M_init 92 = .ok (.newarray .int, 2) := by decide +kernel
theorem d_M_init_94 : decode b_M_init 94 = .ok (.putfield 37, 3) := by decide +kernel
theorem d_M_init_97 : decode b_M_init 97 = .ok (.aload_n 0, 1) := by decide +kernel
theorem d_M_init_98 : decode b_M_init 98 = .ok (.bipush 61, 2) := by decide +kernel
theorem d_M_init_100 : decode b_M_init 100 = .ok (.newarray .boolean, 2) := by decide +kernel
theorem d_M_init_102 : decode b_M_init 102 = .ok (.putfield 40, 3) := by decide +kernel
theorem d_M_init_105 : decode b_M_init 105 = .ok (.aload_n 0, 1) := by decide +kernel
theorem d_M_init_106 : decode b_M_init 106 = .ok (.bipush 21, 2) := by decide +kernel
theorem d_M_init_108 : decode b_M_init 108 = .ok (.newarray .int, 2) := by decide +kernel
theorem d_M_init_110 : decode b_M_init 110 = .ok (.putfield 44, 3) := by decide +kernel
theorem d_M_init_113 : decode b_M_init 113 = .ok (.aload_n 0, 1) := by decide +kernel
theorem d_M_init_114 : decode b_M_init 114 = .ok (.bipush 21, 2) := by decide +kernel
theorem d_M_init_116 : decode b_M_init 116 = .ok (.newarray .int, 2) := by decide +kernel
theorem d_M_init_118 : decode b_M_init 118 = .ok (.putfield 47, 3) := by decide +kernel
theorem d_M_init_121 : decode b_M_init 121 = .ok (.aload_n 0, 1) := by decide +kernel
theorem d_M_init_122 : decode b_M_init 122 = .ok (.bipush 21, 2) := by decide +kernel
theorem d_M_init_124 : decode b_M_init 124 = .ok (.newarray .int, 2) := by decide +kernel
theorem d_M_init_126 : decode b_M_init 126 = .ok (.putfield 50, 3) := by decide +kernel
theorem d_M_init_129 : decode b_M_init 129 = .ok (.aload_n 0, 1) := by decide +kernel
theorem d_M_init_130 : decode b_M_init 130 = .ok (.sipush 420, 3) := by decide +kernel
theorem d_M_init_133 : decode b_M_init 133 = .ok (.newarray .int, 2) := by decide +kernel
theorem d_M_init_135 : decode b_M_init 135 = .ok (.putfield 53, 3) := by decide +kernel
theorem d_M_init_138 : decode b_M_init 138 = .ok (.aload_n 0, 1) := by decide +kernel
theorem d_M_init_139 : decode b_M_init 139 = .ok (.sipush 2520, 3) := by decide +kernel
theorem d_M_init_142 : decode b_M_init 142 = .ok (.newarray .int, 2) := by decide +kernel
theorem d_M_init_144 : decode b_M_init 144 = .ok (.putfield 56, 3) := by decide +kernel
theorem d_M_init_147 : decode b_M_init 147 = .ok (.aload_n 0, 1) := by decide +kernel
theorem d_M_init_148 : decode b_M_init 148 = .ok (.sipush 2520, 3) := by decide +kernel
theorem d_M_init_151 : decode b_M_init 151 = .ok (.newarray .int, 2) := by decide +kernel
theorem d_M_init_153 : decode b_M_init 153 = .ok (.putfield 59, 3) := by decide +kernel
theorem d_M_init_156 : decode b_M_init 156 = .ok (.aload_n 0, 1) := by decide +kernel
theorem d_M_init_157 : decode b_M_init 157 = .ok (.sipush 2520, 3) := by decide +kernel
theorem d_M_init_160 : decode b_M_init 160 = .ok (.newarray .int, 2) := by decide +kernel
theorem d_M_init_162 : decode b_M_init 162 = .ok (.putfield 62, 3) := by decide +kernel
theorem d_M_init_165 : decode b_M_init 165 = .ok (.aload_n 0, 1) := by decide +kernel
theorem d_M_init_166 : decode b_M_init 166 = .ok (.sipush 2520, 3) := by decide +kernel
theorem d_M_init_169 : decode b_M_init 169 = .ok (.newarray .int, 2) := by decide +kernel
theorem d_M_init_171 : decode b_M_init 171 = .ok (.putfield 65, 3) := by decide +kernel
theorem d_M_init_174 : decode b_M_init 174 = .ok (.aload_n 0, 1) := by decide +kernel
theorem d_M_init_175 : decode b_M_init 175 = .ok (.sipush 2520, 3) := by decide +kernel
theorem d_M_init_178 : decode b_M_init 178 = .ok (.newarray .int, 2) := by decide +kernel
theorem d_M_init_180 : decode b_M_init 180 = .ok (.putfield 68, 3) := by decide +kernel
theorem d_M_init_183 : decode b_M_init 183 = .ok (.aload_n 0, 1) := by decide +kernel
theorem d_M_init_184 : decode b_M_init 184 = .ok (.bipush 20, 2) := by decide +kernel
theorem d_M_init_186 : decode b_M_init 186 = .ok (.newarray .boolean, 2) := by decide +kernel
theorem d_M_init_188 : decode b_M_init 188 = .ok (.putfield 71, 3) := by decide +kernel
theorem d_M_init_191 : decode b_M_init 191 = .ok (.return_, 1) := by decide +kernel
theorem d_M_thrown_0 : decode b_M_thrown 0 = .ok (.aload_n 0, 1) := by decide +kernel
theorem d_M_thrown_1 : decode b_M_thrown 1 = .ok (.getfield 74, 3) := by decide +kernel
theorem d_M_thrown_4 : decode b_M_thrown 4 = .ok (.ireturn, 1) := by decide +kernel
theorem d_M_in_0 : decode b_M_in 0 = .ok (.iload_n 0, 1) := by decide +kernel
theorem d_M_in_1 : decode b_M_in 1 = .ok (.iload_n 1, 1) := by decide +kernel
theorem d_M_in_2 : decode b_M_in 2 = .ok (.if_icmp .lt 12, 3) := by decide +kernel
theorem d_M_in_5 : decode b_M_in 5 = .ok (.iload_n 0, 1) := by decide +kernel
theorem d_M_in_6 : decode b_M_in 6 = .ok (.iload_n 2, 1) := by decide +kernel
theorem d_M_in_7 : decode b_M_in 7 = .ok (.if_icmp .gt 7, 3) := by decide +kernel
theorem d_M_in_10 : decode b_M_in 10 = .ok (.iconst 1, 1) := by decide +kernel
theorem d_M_in_11 : decode b_M_in 11 = .ok (.goto 4, 3) := by decide +kernel
theorem d_M_in_14 : decode b_M_in 14 = .ok (.iconst 0, 1) := by decide +kernel
theorem d_M_in_15 : decode b_M_in 15 = .ok (.ireturn, 1) := by decide +kernel
theorem d_M_isPlace_0 : decode b_M_isPlace 0 = .ok (.iload_n 1, 1) := by decide +kernel
theorem d_M_isPlace_1 : decode b_M_isPlace 1 = .ok (.iconst 0, 1) := by decide +kernel
theorem d_M_isPlace_2 : decode b_M_isPlace 2 = .ok (.aload_n 0, 1) := by decide +kernel
theorem d_M_isPlace_3 : decode b_M_isPlace 3 = .ok (.getfield 78, 3) := by decide +kernel
theorem d_M_isPlace_6 : decode b_M_isPlace 6 = .ok (.iconst 1, 1) := by decide +kernel
theorem d_M_isPlace_7 : decode b_M_isPlace 7 = .ok (.isub, 1) := by decide +kernel
theorem d_M_isPlace_8 : decode b_M_isPlace 8 = .ok (.invokestatic 81, 3) := by decide +kernel
theorem d_M_isPlace_11 : decode b_M_isPlace 11 = .ok (.ireturn, 1) := by decide +kernel
theorem d_M_isGood_0 : decode b_M_isGood 0 = .ok (.iload_n 0, 1) := by decide +kernel
theorem d_M_isGood_1 : decode b_M_isGood 1 = .ok (.iconst 0, 1) := by decide +kernel
theorem d_M_isGood_2 : decode b_M_isGood 2 = .ok (.iconst 5, 1) := by decide +kernel
theorem d_M_isGood_3 : decode b_M_isGood 3 = .ok (.invokestatic 81, 3) := by decide +kernel
theorem d_M_isGood_6 : decode b_M_isGood 6 = .ok (.ireturn, 1) := by decide +kernel
theorem d_M_isPerson_0 : decode b_M_isPerson 0 = .ok (.iload_n 0, 1) := by decide +kernel
theorem d_M_isPerson_1 : decode b_M_isPerson 1 = .ok (.iconst 0, 1) := by decide +kernel
theorem d_M_isPerson_2 : decode b_M_isPerson 2 = .ok (.iconst 5, 1) := by decide +kernel
theorem d_M_isPerson_3 : decode b_M_isPerson 3 = .ok (.invokestatic 81, 3) := by decide +kernel
theorem d_M_isPerson_6 : decode b_M_isPerson 6 = .ok (.ireturn, 1) := by decide +kernel
theorem d_M_isCount_0 : decode b_M_isCount 0 = .ok (.iload_n 1, 1) := by decide +kernel
theorem d_M_isCount_1 : decode b_M_isCount 1 = .ok (.iconst 1, 1) := by decide +kernel
theorem d_M_isCount_2 : decode b_M_isCount 2 = .ok (.aload_n 0, 1) := by decide +kernel
theorem d_M_isCount_3 : decode b_M_isCount 3 = .ok (.getfield 85, 3) := by decide +kernel
theorem d_M_isCount_6 : decode b_M_isCount 6 = .ok (.invokestatic 81, 3) := by decide +kernel
theorem d_M_isCount_9 : decode b_M_isCount 9 = .ok (.ireturn, 1) := by decide +kernel
theorem d_M_place_0 : decode b_M_place 0 = .ok (.aload_n 0, 1) := by decide +kernel
theorem d_M_place_1 : decode b_M_place 1 = .ok (.iload_n 1, 1) := by decide +kernel
theorem d_M_place_2 : decode b_M_place 2 = .ok (.iconst 0, 1) := by decide +kernel
theorem d_M_place_3 : decode b_M_place 3 = .ok (.iconst 2, 1) := by decide +kernel
theorem d_M_place_4 : decode b_M_place 4 = .ok (.invokestatic 81, 3) := by decide +kernel
theorem d_M_place_7 : decode b_M_place 7 = .ok (.ifCond .ne 7, 3) := by decide +kernel
theorem d_M_place_10 : decode b_M_place 10 = .ok (.iconst 1, 1) := by decide +kernel
theorem d_M_place_11 : decode b_M_place 11 = .ok (.goto 17, 3) := by decide +kernel
theorem d_M_place_14 : decode b_M_place 14 = .ok (.aload_n 0, 1) := by decide +kernel
theorem d_M_place_15 : decode b_M_place 15 = .ok (.getfield 78, 3) := by decide +kernel
theorem d_M_place_18 : decode b_M_place 18 = .ok (.bipush 20, 2) := by decide +kernel
theorem d_M_place_20 : decode b_M_place 20 = .ok (.if_icmp .ne 7, 3) := by decide +kernel
theorem d_M_place_23 : decode b_M_place 23 = .ok (.iconst 2, 1) := by decide +kernel
theorem d_M_place_24 : decode b_M_place 24 = .ok (.goto 4, 3) := by decide +kernel
theorem d_M_place_27 : decode b_M_place 27 = .ok (.iconst 0, 1) := by decide +kernel
theorem d_M_place_28 : decode b_M_place 28 = .ok (.putfield 74, 3) := by decide +kernel
theorem d_M_place_31 : decode b_M_place 31 = .ok (.aload_n 0, 1) := by decide +kernel
theorem d_M_place_32 : decode b_M_place 32 = .ok (.getfield 74, 3) := by decide +kernel
theorem d_M_place_35 : decode b_M_place 35 = .ok (.ifCond .le 5, 3) := by decide +kernel
theorem d_M_place_38 : decode b_M_place 38 = .ok (.iconst 0, 1) := by decide +kernel
theorem d_M_place_39 : decode b_M_place 39 = .ok (.ireturn, 1) := by decide +kernel
theorem d_M_place_40 : decode b_M_place 40 = .ok (.aload_n 0, 1) := by decide +kernel
theorem d_M_place_41 : decode b_M_place 41 = .ok (.getfield 7, 3) := by decide +kernel
theorem d_M_place_44 : decode b_M_place 44 = .ok (.aload_n 0, 1) := by decide +kernel
theorem d_M_place_45 : decode b_M_place 45 = .ok (.getfield 78, 3) := by decide +kernel
theorem d_M_place_48 : decode b_M_place 48 = .ok (.iload_n 1, 1) := by decide +kernel
theorem d_M_place_49 : decode b_M_place 49 = .ok (.iastore, 1) := by decide +kernel
theorem d_M_place_50 : decode b_M_place 50 = .ok (.aload_n 0, 1) := by decide +kernel
theorem d_M_place_51 : decode b_M_place 51 = .ok (.getfield 13, 3) := by decide +kernel
theorem d_M_place_54 : decode b_M_place 54 = .ok (.aload_n 0, 1) := by decide +kernel
theorem d_M_place_55 : decode b_M_place 55 = .ok (.getfield 78, 3) := by decide +kernel
theorem d_M_place_58 : decode b_M_place 58 = .ok (.iconst (-1), 1) := by decide +kernel
theorem d_M_place_59 : decode b_M_place 59 = .ok (.iastore, 1) := by decide +kernel
theorem d_M_place_60 : decode b_M_place 60 = .ok (.aload_n 0, 1) := by decide +kernel
theorem d_M_place_61 : decode b_M_place 61 = .ok (.dup, 1) := by decide +kernel
theorem d_M_place_62 : decode b_M_place 62 = .ok (.getfield 78, 3) := by decide +kernel
theorem d_M_place_65 : decode b_M_place 65 = .ok (.iconst 1, 1) := by decide +kernel
theorem d_M_place_66 : decode b_M_place 66 = .ok (.iadd, 1) := by decide +kernel
theorem d_M_place_67 : decode b_M_place 67 = .ok (.putfield 78, 3) := by decide +kernel
theorem d_M_place_70 : decode b_M_place 70 = .ok (.aload_n 0, 1) := by decide +kernel
theorem d_M_place_71 : decode b_M_place 71 = .ok (.getfield 78, 3) := by decide +kernel
theorem d_M_place_74 : decode b_M_place 74 = .ok (.iconst 1, 1) := by decide +kernel
theorem d_M_place_75 : decode b_M_place 75 = .ok (.isub, 1) := by decide +kernel
theorem d_M_place_76 : decode b_M_place 76 = .ok (.ireturn, 1) := by decide +kernel
theorem d_M_stock_0 : decode b_M_stock 0 = .ok (.aload_n 0, 1) := by decide +kernel
theorem d_M_stock_1 : decode b_M_stock 1 = .ok (.aload_n 0, 1) := by decide +kernel
theorem d_M_stock_2 : decode b_M_stock 2 = .ok (.iload_n 1, 1) := by decide +kernel
theorem d_M_stock_3 : decode b_M_stock 3 = .ok (.invokevirtual 88, 3) := by decide +kernel
theorem d_M_stock_6 : decode b_M_stock 6 = .ok (.ifCond .ne 7, 3) := by decide +kernel
theorem d_M_stock_9 : decode b_M_stock 9 = .ok (.iconst 1, 1) := by decide +kernel
theorem d_M_stock_10 : decode b_M_stock 10 = .ok (.goto 25, 3) := by decide +kernel
theorem d_M_stock_13 : decode b_M_stock 13 = .ok (.iload_n 2, 1) := by decide +kernel
theorem d_M_stock_14 : decode b_M_stock 14 = .ok (.invokestatic 92, 3) := by decide +kernel
theorem d_M_stock_17 : decode b_M_stock 17 = .ok (.ifCond .eq 13, 3) := by decide +kernel
theorem d_M_stock_20 : decode b_M_stock 20 = .ok (.iload_n 3, 1) := by decide +kernel
theorem d_M_stock_21 : decode b_M_stock 21 = .ok (.iconst 0, 1) := by decide +kernel
theorem d_M_stock_22 : decode b_M_stock 22 = .ok (.ldc 95, 2) := by decide +kernel
theorem d_M_stock_24 : decode b_M_stock 24 = .ok (.invokestatic 81, 3) := by decide +kernel
theorem d_M_stock_27 : decode b_M_stock 27 = .ok (.ifCond .ne 7, 3) := by decide +kernel
theorem d_M_stock_30 : decode b_M_stock 30 = .ok (.iconst 2, 1) := by decide +kernel
theorem d_M_stock_31 : decode b_M_stock 31 = .ok (.goto 4, 3) := by decide +kernel
theorem d_M_stock_34 : decode b_M_stock 34 = .ok (.iconst 0, 1) := by decide +kernel
theorem d_M_stock_35 : decode b_M_stock 35 = .ok (.putfield 74, 3) := by decide +kernel
theorem d_M_stock_38 : decode b_M_stock 38 = .ok (.aload_n 0, 1) := by decide +kernel
theorem d_M_stock_39 : decode b_M_stock 39 = .ok (.getfield 74, 3) := by decide +kernel
theorem d_M_stock_42 : decode b_M_stock 42 = .ok (.ifCond .ne 15, 3) := by decide +kernel
theorem d_M_stock_45 : decode b_M_stock 45 = .ok (.aload_n 0, 1) := by decide +kernel
theorem d_M_stock_46 : decode b_M_stock 46 = .ok (.getfield 16, 3) := by decide +kernel
theorem d_M_stock_49 : decode b_M_stock 49 = .ok (.bipush 6, 2) := by decide +kernel
theorem d_M_stock_51 : decode b_M_stock 51 = .ok (.iload_n 1, 1) := by decide +kernel
theorem d_M_stock_52 : decode b_M_stock 52 = .ok (.imul, 1) := by decide +kernel
theorem d_M_stock_53 : decode b_M_stock 53 = .ok (.iload_n 2, 1) := by decide +kernel
theorem d_M_stock_54 : decode b_M_stock 54 = .ok (.iadd, 1) := by decide +kernel
theorem d_M_stock_55 : decode b_M_stock 55 = .ok (.iload_n 3, 1) := by decide +kernel
theorem d_M_stock_56 : decode b_M_stock 56 = .ok (.iastore, 1) := by decide +kernel
theorem d_M_stock_57 : decode b_M_stock 57 = .ok (.return_, 1) := by decide +kernel
theorem d_M_cycle_0 : decode b_M_cycle 0 = .ok (.aload_n 0, 1) := by decide +kernel
theorem d_M_cycle_1 : decode b_M_cycle 1 = .ok (.iload_n 1, 1) := by decide +kernel
theorem d_M_cycle_2 : decode b_M_cycle 2 = .ok (.iconst 0, 1) := by decide +kernel
theorem d_M_cycle_3 : decode b_M_cycle 3 = .ok (.iconst 2, 1) := by decide +kernel
theorem d_M_cycle_4 : decode b_M_cycle 4 = .ok (.invokestatic 81, 3) := by decide +kernel
theorem d_M_cycle_7 : decode b_M_cycle 7 = .ok (.ifCond .eq 25, 3) := by decide +kernel
theorem d_M_cycle_10 : decode b_M_cycle 10 = .ok (.iload_n 2, 1) := by decide +kernel
theorem d_M_cycle_11 : decode b_M_cycle 11 = .ok (.iconst 1, 1) := by decide +kernel
theorem d_M_cycle_12 : decode b_M_cycle 12 = .ok (.sipush 1000, 3) := by decide +kernel
theorem d_M_cycle_15 : decode b_M_cycle 15 = .ok (.invokestatic 81, 3) := by decide +kernel
theorem d_M_cycle_18 : decode b_M_cycle 18 = .ok (.ifCond .eq 14, 3) := by decide +kernel
theorem d_M_cycle_21 : decode b_M_cycle 21 = .ok (.iload_n 3, 1) := by decide +kernel
theorem d_M_cycle_22 : decode b_M_cycle 22 = .ok (.iconst 0, 1) := by decide +kernel
theorem d_M_cycle_23 : decode b_M_cycle 23 = .ok (.sipush 1000, 3) := by decide +kernel
theorem d_M_cycle_26 : decode b_M_cycle 26 = .ok (.invokestatic 81, 3) := by decide +kernel
theorem d_M_cycle_29 : decode b_M_cycle 29 = .ok (.ifCond .ne 7, 3) := by decide +kernel
theorem d_M_cycle_32 : decode b_M_cycle 32 = .ok (.iconst 1, 1) := by decide +kernel
theorem d_M_cycle_33 : decode b_M_cycle 33 = .ok (.goto 4, 3) := by decide +kernel
theorem d_M_cycle_36 : decode b_M_cycle 36 = .ok (.iconst 0, 1) := by decide +kernel
theorem d_M_cycle_37 : decode b_M_cycle 37 = .ok (.putfield 74, 3) := by decide +kernel
theorem d_M_cycle_40 : decode b_M_cycle 40 = .ok (.aload_n 0, 1) := by decide +kernel
theorem d_M_cycle_41 : decode b_M_cycle 41 = .ok (.getfield 74, 3) := by decide +kernel
theorem d_M_cycle_44 : decode b_M_cycle 44 = .ok (.ifCond .le 4, 3) := by decide +kernel
theorem d_M_cycle_47 : decode b_M_cycle 47 = .ok (.return_, 1) := by decide +kernel
theorem d_M_cycle_48 : decode b_M_cycle 48 = .ok (.aload_n 0, 1) := by decide +kernel
theorem d_M_cycle_49 : decode b_M_cycle 49 = .ok (.getfield 19, 3) := by decide +kernel
theorem d_M_cycle_52 : decode b_M_cycle 52 = .ok (.iload_n 1, 1) := by decide +kernel
theorem d_M_cycle_53 : decode b_M_cycle 53 = .ok (.iload_n 2, 1) := by decide +kernel
theorem d_M_cycle_54 : decode b_M_cycle 54 = .ok (.iastore, 1) := by decide +kernel
theorem d_M_cycle_55 : decode b_M_cycle 55 = .ok (.aload_n 0, 1) := by decide +kernel
theorem d_M_cycle_56 : decode b_M_cycle 56 = .ok (.getfield 22, 3) := by decide +kernel
theorem d_M_cycle_59 : decode b_M_cycle 59 = .ok (.iload_n 1, 1) := by decide +kernel
theorem d_M_cycle_60 : decode b_M_cycle 60 = .ok (.iload_n 3, 1) := by decide +kernel
theorem d_M_cycle_61 : decode b_M_cycle 61 = .ok (.iastore, 1) := by decide +kernel
theorem d_M_cycle_62 : decode b_M_cycle 62 = .ok (.return_, 1) := by decide +kernel
theorem d_M_right_0 : decode b_M_right 0 = .ok (.aload_n 0, 1) := by decide +kernel
theorem d_M_right_1 : decode b_M_right 1 = .ok (.iload_n 1, 1) := by decide +kernel
theorem d_M_right_2 : decode b_M_right 2 = .ok (.invokestatic 96, 3) := by decide +kernel
theorem d_M_right_5 : decode b_M_right 5 = .ok (.ifCond .eq 13, 3) := by decide +kernel
theorem d_M_right_8 : decode b_M_right 8 = .ok (.iload_n 2, 1) := by decide +kernel
theorem d_M_right_9 : decode b_M_right 9 = .ok (.iconst 0, 1) := by decide +kernel
theorem d_M_right_10 : decode b_M_right 10 = .ok (.ldc 95, 2) := by decide +kernel
theorem d_M_right_12 : decode b_M_right 12 = .ok (.invokestatic 81, 3) := by decide +kernel
theorem d_M_right_15 : decode b_M_right 15 = .ok (.ifCond .ne 7, 3) := by decide +kernel
theorem d_M_right_18 : decode b_M_right 18 = .ok (.iconst 1, 1) := by decide +kernel
theorem d_M_right_19 : decode b_M_right 19 = .ok (.goto 4, 3) := by decide +kernel
theorem d_M_right_22 : decode b_M_right 22 = .ok (.iconst 0, 1) := by decide +kernel
theorem d_M_right_23 : decode b_M_right 23 = .ok (.putfield 74, 3) := by decide +kernel
theorem d_M_right_26 : decode b_M_right 26 = .ok (.aload_n 0, 1) := by decide +kernel
theorem d_M_right_27 : decode b_M_right 27 = .ok (.getfield 74, 3) := by decide +kernel
theorem d_M_right_30 : decode b_M_right 30 = .ok (.ifCond .ne 10, 3) := by decide +kernel
theorem d_M_right_33 : decode b_M_right 33 = .ok (.aload_n 0, 1) := by decide +kernel
theorem d_M_right_34 : decode b_M_right 34 = .ok (.getfield 25, 3) := by decide +kernel
theorem d_M_right_37 : decode b_M_right 37 = .ok (.iload_n 1, 1) := by decide +kernel
theorem d_M_right_38 : decode b_M_right 38 = .ok (.iload_n 2, 1) := by decide +kernel
theorem d_M_right_39 : decode b_M_right 39 = .ok (.iastore, 1) := by decide +kernel
theorem d_M_right_40 : decode b_M_right 40 = .ok (.return_, 1) := by decide +kernel
theorem d_M_setting_0 : decode b_M_setting 0 = .ok (.aload_n 0, 1) := by decide +kernel
theorem d_M_setting_1 : decode b_M_setting 1 = .ok (.iload_n 1, 1) := by decide +kernel
theorem d_M_setting_2 : decode b_M_setting 2 = .ok (.iconst 0, 1) := by decide +kernel
theorem d_M_setting_3 : decode b_M_setting 3 = .ok (.iconst 1, 1) := by decide +kernel
theorem d_M_setting_4 : decode b_M_setting 4 = .ok (.invokestatic 81, 3) := by decide +kernel
theorem d_M_setting_7 : decode b_M_setting 7 = .ok (.ifCond .eq 7, 3) := by decide +kernel
theorem d_M_setting_10 : decode b_M_setting 10 = .ok (.iconst 0, 1) := by decide +kernel
theorem d_M_setting_11 : decode b_M_setting 11 = .ok (.goto 4, 3) := by decide +kernel
theorem d_M_setting_14 : decode b_M_setting 14 = .ok (.iconst 1, 1) := by decide +kernel
theorem d_M_setting_15 : decode b_M_setting 15 = .ok (.putfield 74, 3) := by decide +kernel
theorem d_M_setting_18 : decode b_M_setting 18 = .ok (.aload_n 0, 1) := by decide +kernel
theorem d_M_setting_19 : decode b_M_setting 19 = .ok (.getfield 74, 3) := by decide +kernel
theorem d_M_setting_22 : decode b_M_setting 22 = .ok (.ifCond .ne 8, 3) := by decide +kernel
theorem d_M_setting_25 : decode b_M_setting 25 = .ok (.aload_n 0, 1) := by decide +kernel
theorem d_M_setting_26 : decode b_M_setting 26 = .ok (.iload_n 1, 1) := by decide +kernel
theorem d_M_setting_27 : decode b_M_setting 27 = .ok (.putfield 99, 3) := by decide +kernel
theorem d_M_setting_30 : decode b_M_setting 30 = .ok (.return_, 1) := by decide +kernel
theorem d_M_day_0 : decode b_M_day 0 = .ok (.aload_n 0, 1) := by decide +kernel
theorem d_M_day_1 : decode b_M_day 1 = .ok (.iload_n 1, 1) := by decide +kernel
theorem d_M_day_2 : decode b_M_day 2 = .ok (.iconst 0, 1) := by decide +kernel
theorem d_M_day_3 : decode b_M_day 3 = .ok (.sipush 10000, 3) := by decide +kernel
theorem d_M_day_6 : decode b_M_day 6 = .ok (.invokestatic 81, 3) := by decide +kernel
theorem d_M_day_9 : decode b_M_day 9 = .ok (.ifCond .ne 7, 3) := by decide +kernel
theorem d_M_day_12 : decode b_M_day 12 = .ok (.iconst 1, 1) := by decide +kernel
theorem d_M_day_13 : decode b_M_day 13 = .ok (.goto 16, 3) := by decide +kernel
theorem d_M_day_16 : decode b_M_day 16 = .ok (.iload_n 1, 1) := by decide +kernel
theorem d_M_day_17 : decode b_M_day 17 = .ok (.aload_n 0, 1) := by decide +kernel
theorem d_M_day_18 : decode b_M_day 18 = .ok (.getfield 102, 3) := by decide +kernel
theorem d_M_day_21 : decode b_M_day 21 = .ok (.if_icmp .ge 7, 3) := by decide +kernel
theorem d_M_day_24 : decode b_M_day 24 = .ok (.iconst 2, 1) := by decide +kernel
theorem d_M_day_25 : decode b_M_day 25 = .ok (.goto 4, 3) := by decide +kernel
theorem d_M_day_28 : decode b_M_day 28 = .ok (.iconst 0, 1) := by decide +kernel
theorem d_M_day_29 : decode b_M_day 29 = .ok (.putfield 74, 3) := by decide +kernel
theorem d_M_day_32 : decode b_M_day 32 = .ok (.aload_n 0, 1) := by decide +kernel
theorem d_M_day_33 : decode b_M_day 33 = .ok (.getfield 74, 3) := by decide +kernel
theorem d_M_day_36 : decode b_M_day 36 = .ok (.ifCond .ne 8, 3) := by decide +kernel
theorem d_M_day_39 : decode b_M_day 39 = .ok (.aload_n 0, 1) := by decide +kernel
theorem d_M_day_40 : decode b_M_day 40 = .ok (.iload_n 1, 1) := by decide +kernel
theorem d_M_day_41 : decode b_M_day 41 = .ok (.putfield 102, 3) := by decide +kernel
theorem d_M_day_44 : decode b_M_day 44 = .ok (.return_, 1) := by decide +kernel
theorem d_M_move_0 : decode b_M_move 0 = .ok (.aload_n 0, 1) := by decide +kernel
theorem d_M_move_1 : decode b_M_move 1 = .ok (.aload_n 0, 1) := by decide +kernel
theorem d_M_move_2 : decode b_M_move 2 = .ok (.iload_n 1, 1) := by decide +kernel
theorem d_M_move_3 : decode b_M_move 3 = .ok (.invokevirtual 88, 3) := by decide +kernel
theorem d_M_move_6 : decode b_M_move 6 = .ok (.ifCond .eq 11, 3) := by decide +kernel
theorem d_M_move_9 : decode b_M_move 9 = .ok (.aload_n 0, 1) := by decide +kernel
theorem d_M_move_10 : decode b_M_move 10 = .ok (.iload_n 2, 1) := by decide +kernel
theorem d_M_move_11 : decode b_M_move 11 = .ok (.invokevirtual 88, 3) := by decide +kernel
theorem d_M_move_14 : decode b_M_move 14 = .ok (.ifCond .ne 7, 3) := by decide +kernel
theorem d_M_move_17 : decode b_M_move 17 = .ok (.iconst 1, 1) := by decide +kernel
theorem d_M_move_18 : decode b_M_move 18 = .ok (.goto 31, 3) := by decide +kernel
theorem d_M_move_21 : decode b_M_move 21 = .ok (.iload_n 3, 1) := by decide +kernel
theorem d_M_move_22 : decode b_M_move 22 = .ok (.invokestatic 92, 3) := by decide +kernel
theorem d_M_move_25 : decode b_M_move 25 = .ok (.ifCond .eq 19, 3) := by decide +kernel
theorem d_M_move_28 : decode b_M_move 28 = .ok (.iload 4, 2) := by decide +kernel
theorem d_M_move_30 : decode b_M_move 30 = .ok (.iconst 1, 1) := by decide +kernel
theorem d_M_move_31 : decode b_M_move 31 = .ok (.ldc 95, 2) := by decide +kernel
theorem d_M_move_33 : decode b_M_move 33 = .ok (.invokestatic 81, 3) := by decide +kernel
theorem d_M_move_36 : decode b_M_move 36 = .ok (.ifCond .eq 8, 3) := by decide +kernel
theorem d_M_move_39 : decode b_M_move 39 = .ok (.iload_n 1, 1) := by decide +kernel
theorem d_M_move_40 : decode b_M_move 40 = .ok (.iload_n 2, 1) := by decide +kernel
theorem d_M_move_41 : decode b_M_move 41 = .ok (.if_icmp .ne 7, 3) := by decide +kernel
theorem d_M_move_44 : decode b_M_move 44 = .ok (.iconst 2, 1) := by decide +kernel
theorem d_M_move_45 : decode b_M_move 45 = .ok (.goto 4, 3) := by decide +kernel
theorem d_M_move_48 : decode b_M_move 48 = .ok (.iconst 0, 1) := by decide +kernel
theorem d_M_move_49 : decode b_M_move 49 = .ok (.putfield 74, 3) := by decide +kernel
theorem d_M_move_52 : decode b_M_move 52 = .ok (.aload_n 0, 1) := by decide +kernel
theorem d_M_move_53 : decode b_M_move 53 = .ok (.getfield 74, 3) := by decide +kernel
theorem d_M_move_56 : decode b_M_move 56 = .ok (.ifCond .ne 41, 3) := by decide +kernel
theorem d_M_move_59 : decode b_M_move 59 = .ok (.aload_n 0, 1) := by decide +kernel
theorem d_M_move_60 : decode b_M_move 60 = .ok (.aload_n 0, 1) := by decide +kernel
theorem d_M_move_61 : decode b_M_move 61 = .ok (.getfield 16, 3) := by decide +kernel
theorem d_M_move_64 : decode b_M_move 64 = .ok (.bipush 6, 2) := by decide +kernel
theorem d_M_move_66 : decode b_M_move 66 = .ok (.iload_n 1, 1) := by decide +kernel
theorem d_M_move_67 : decode b_M_move 67 = .ok (.imul, 1) := by decide +kernel
theorem d_M_move_68 : decode b_M_move 68 = .ok (.iload_n 3, 1) := by decide +kernel
theorem d_M_move_69 : decode b_M_move 69 = .ok (.iadd, 1) := by decide +kernel
theorem d_M_move_70 : decode b_M_move 70 = .ok (.iaload, 1) := by decide +kernel
theorem d_M_move_71 : decode b_M_move 71 = .ok (.iload 4, 2) := by decide +kernel
theorem d_M_move_73 : decode b_M_move 73 = .ok (.if_icmp .ge 7, 3) := by decide +kernel
theorem d_M_move_76 : decode b_M_move 76 = .ok (.iconst 3, 1) := by decide +kernel
theorem d_M_move_77 : decode b_M_move 77 = .ok (.goto 17, 3) := by decide +kernel
theorem d_M_move_80 : decode b_M_move 80 = .ok (.aload_n 0, 1) := by decide +kernel
theorem d_M_move_81 : decode b_M_move 81 = .ok (.getfield 105, 3) := by decide +kernel
theorem d_M_move_84 : decode b_M_move 84 = .ok (.bipush 60, 2) := by decide +kernel
theorem d_M_move_86 : decode b_M_move 86 = .ok (.if_icmp .ne 7, 3) := by decide +kernel
theorem d_M_move_89 : decode b_M_move 89 = .ok (.iconst 4, 1) := by decide +kernel
theorem d_M_move_90 : decode b_M_move 90 = .ok (.goto 4, 3) := by decide +kernel
theorem d_M_move_93 : decode b_M_move 93 = .ok (.iconst 0, 1) := by decide +kernel
theorem d_M_move_94 : decode b_M_move 94 = .ok (.putfield 74, 3) := by decide +kernel
theorem d_M_move_97 : decode b_M_move 97 = .ok (.aload_n 0, 1) := by decide +kernel
theorem d_M_move_98 : decode b_M_move 98 = .ok (.getfield 74, 3) := by decide +kernel
theorem d_M_move_101 : decode b_M_move 101 = .ok (.ifCond .le 5, 3) := by decide +kernel
theorem d_M_move_104 : decode b_M_move 104 = .ok (.iconst 0, 1) := by decide +kernel
theorem d_M_move_105 : decode b_M_move 105 = .ok (.ireturn, 1) := by decide +kernel
theorem d_M_move_106 : decode b_M_move 106 = .ok (.aload_n 0, 1) := by decide +kernel
theorem d_M_move_107 : decode b_M_move 107 = .ok (.getfield 16, 3) := by decide +kernel
theorem d_M_move_110 : decode b_M_move 110 = .ok (.bipush 6, 2) := by decide +kernel
theorem d_M_move_112 : decode b_M_move 112 = .ok (.iload_n 1, 1) := by decide +kernel
theorem d_M_move_113 : decode b_M_move 113 = .ok (.imul, 1) := by decide +kernel
theorem d_M_move_114 : decode b_M_move 114 = .ok (.iload_n 3, 1) := by decide +kernel
theorem d_M_move_115 : decode b_M_move 115 = .ok (.iadd, 1) := by decide +kernel
theorem d_M_move_116 : decode b_M_move 116 = .ok (.dup2, 1) := by decide +kernel
theorem d_M_move_117 : decode b_M_move 117 = .ok (.iaload, 1) := by decide +kernel
theorem d_M_move_118 : decode b_M_move 118 = .ok (.iload 4, 2) := by decide +kernel
theorem d_M_move_120 : decode b_M_move 120 = .ok (.isub, 1) := by decide +kernel
theorem d_M_move_121 : decode b_M_move 121 = .ok (.iastore, 1) := by decide +kernel
theorem d_M_move_122 : decode b_M_move 122 = .ok (.aload_n 0, 1) := by decide +kernel
theorem d_M_move_123 : decode b_M_move 123 = .ok (.dup, 1) := by decide +kernel
theorem d_M_move_124 : decode b_M_move 124 = .ok (.getfield 105, 3) := by decide +kernel
theorem d_M_move_127 : decode b_M_move 127 = .ok (.iconst 1, 1) := by decide +kernel
theorem d_M_move_128 : decode b_M_move 128 = .ok (.iadd, 1) := by decide +kernel
theorem d_M_move_129 : decode b_M_move 129 = .ok (.putfield 105, 3) := by decide +kernel
theorem d_M_move_132 : decode b_M_move 132 = .ok (.aload_n 0, 1) := by decide +kernel
theorem d_M_move_133 : decode b_M_move 133 = .ok (.getfield 28, 3) := by decide +kernel
theorem d_M_move_136 : decode b_M_move 136 = .ok (.aload_n 0, 1) := by decide +kernel
theorem d_M_move_137 : decode b_M_move 137 = .ok (.getfield 105, 3) := by decide +kernel
theorem d_M_move_140 : decode b_M_move 140 = .ok (.iload_n 1, 1) := by decide +kernel
theorem d_M_move_141 : decode b_M_move 141 = .ok (.iastore, 1) := by decide +kernel
theorem d_M_move_142 : decode b_M_move 142 = .ok (.aload_n 0, 1) := by decide +kernel
theorem d_M_move_143 : decode b_M_move 143 = .ok (.getfield 31, 3) := by decide +kernel
theorem d_M_move_146 : decode b_M_move 146 = .ok (.aload_n 0, 1) := by decide +kernel
theorem d_M_move_147 : decode b_M_move 147 = .ok (.getfield 105, 3) := by decide +kernel
theorem d_M_move_150 : decode b_M_move 150 = .ok (.iload_n 2, 1) := by decide +kernel
theorem d_M_move_151 : decode b_M_move 151 = .ok (.iastore, 1) := by decide +kernel
theorem d_M_move_152 : decode b_M_move 152 = .ok (.aload_n 0, 1) := by decide +kernel
theorem d_M_move_153 : decode b_M_move 153 = .ok (.getfield 34, 3) := by decide +kernel
theorem d_M_move_156 : decode b_M_move 156 = .ok (.aload_n 0, 1) := by decide +kernel
theorem d_M_move_157 : decode b_M_move 157 = .ok (.getfield 105, 3) := by decide +kernel
theorem d_M_move_160 : decode b_M_move 160 = .ok (.iload_n 3, 1) := by decide +kernel
theorem d_M_move_161 : decode b_M_move 161 = .ok (.iastore, 1) := by decide +kernel
theorem d_M_move_162 : decode b_M_move 162 = .ok (.aload_n 0, 1) := by decide +kernel
theorem d_M_move_163 : decode b_M_move 163 = .ok (.getfield 37, 3) := by decide +kernel
theorem d_M_move_166 : decode b_M_move 166 = .ok (.aload_n 0, 1) := by decide +kernel
theorem d_M_move_167 : decode b_M_move 167 = .ok (.getfield 105, 3) := by decide +kernel
theorem d_M_move_170 : decode b_M_move 170 = .ok (.iload 4, 2) := by decide +kernel
theorem d_M_move_172 : decode b_M_move 172 = .ok (.iastore, 1) := by decide +kernel
theorem d_M_move_173 : decode b_M_move 173 = .ok (.aload_n 0, 1) := by decide +kernel
theorem d_M_move_174 : decode b_M_move 174 = .ok (.getfield 105, 3) := by decide +kernel
theorem d_M_move_177 : decode b_M_move 177 = .ok (.ireturn, 1) := by decide +kernel
theorem d_M_end_0 : decode b_M_end 0 = .ok (.aload_n 0, 1) := by decide +kernel
theorem d_M_end_1 : decode b_M_end 1 = .ok (.iload_n 1, 1) := by decide +kernel
theorem d_M_end_2 : decode b_M_end 2 = .ok (.iconst 1, 1) := by decide +kernel
theorem d_M_end_3 : decode b_M_end 3 = .ok (.aload_n 0, 1) := by decide +kernel
theorem d_M_end_4 : decode b_M_end 4 = .ok (.getfield 105, 3) := by decide +kernel
theorem d_M_end_7 : decode b_M_end 7 = .ok (.invokestatic 81, 3) := by decide +kernel
theorem d_M_end_10 : decode b_M_end 10 = .ok (.ifCond .ne 7, 3) := by decide +kernel
theorem d_M_end_13 : decode b_M_end 13 = .ok (.iconst 1, 1) := by decide +kernel
theorem d_M_end_14 : decode b_M_end 14 = .ok (.goto 4, 3) := by decide +kernel
theorem d_M_end_17 : decode b_M_end 17 = .ok (.iconst 0, 1) := by decide +kernel
theorem d_M_end_18 : decode b_M_end 18 = .ok (.putfield 74, 3) := by decide +kernel
theorem d_M_end_21 : decode b_M_end 21 = .ok (.aload_n 0, 1) := by decide +kernel
theorem d_M_end_22 : decode b_M_end 22 = .ok (.getfield 74, 3) := by decide +kernel
theorem d_M_end_25 : decode b_M_end 25 = .ok (.ifCond .le 4, 3) := by decide +kernel
theorem d_M_end_28 : decode b_M_end 28 = .ok (.return_, 1) := by decide +kernel
theorem d_M_end_29 : decode b_M_end 29 = .ok (.bipush 6, 2) := by decide +kernel
theorem d_M_end_31 : decode b_M_end 31 = .ok (.aload_n 0, 1) := by decide +kernel
theorem d_M_end_32 : decode b_M_end 32 = .ok (.getfield 31, 3) := by decide +kernel
theorem d_M_end_35 : decode b_M_end 35 = .ok (.iload_n 1, 1) := by decide +kernel
theorem d_M_end_36 : decode b_M_end 36 = .ok (.iaload, 1) := by decide +kernel
theorem d_M_end_37 : decode b_M_end 37 = .ok (.imul, 1) := by decide +kernel
theorem d_M_end_38 : decode b_M_end 38 = .ok (.aload_n 0, 1) := by decide +kernel
theorem d_M_end_39 : decode b_M_end 39 = .ok (.getfield 34, 3) := by decide +kernel
theorem d_M_end_42 : decode b_M_end 42 = .ok (.iload_n 1, 1) := by decide +kernel
theorem d_M_end_43 : decode b_M_end 43 = .ok (.iaload, 1) := by decide +kernel
theorem d_M_end_44 : decode b_M_end 44 = .ok (.iadd, 1) := by decide +kernel
theorem d_M_end_45 : decode b_M_end 45 = .ok (.istore_n 2, 1) := by decide +kernel
theorem d_M_end_46 : decode b_M_end 46 = .ok (.aload_n 0, 1) := by decide +kernel
theorem d_M_end_47 : decode b_M_end 47 = .ok (.aload_n 0, 1) := by decide +kernel
theorem d_M_end_48 : decode b_M_end 48 = .ok (.getfield 40, 3) := by decide +kernel
theorem d_M_end_51 : decode b_M_end 51 = .ok (.iload_n 1, 1) := by decide +kernel
theorem d_M_end_52 : decode b_M_end 52 = .ok (.baload, 1) := by decide +kernel
theorem d_M_end_53 : decode b_M_end 53 = .ok (.ifCond .ne 21, 3) := by decide +kernel
theorem d_M_end_56 : decode b_M_end 56 = .ok (.aload_n 0, 1) := by decide +kernel
theorem d_M_end_57 : decode b_M_end 57 = .ok (.getfield 16, 3) := by decide +kernel
theorem d_M_end_60 : decode b_M_end 60 = .ok (.iload_n 2, 1) := by decide +kernel
theorem d_M_end_61 : decode b_M_end 61 = .ok (.iaload, 1) := by decide +kernel
theorem d_M_end_62 : decode b_M_end 62 = .ok (.aload_n 0, 1) := by decide +kernel
theorem d_M_end_63 : decode b_M_end 63 = .ok (.getfield 37, 3) := by decide +kernel
theorem d_M_end_66 : decode b_M_end 66 = .ok (.iload_n 1, 1) := by decide +kernel
theorem d_M_end_67 : decode b_M_end 67 = .ok (.iaload, 1) := by decide +kernel
theorem d_M_end_68 : decode b_M_end 68 = .ok (.iadd, 1) := by decide +kernel
theorem d_M_end_69 : decode b_M_end 69 = .ok (.ldc 95, 2) := by decide +kernel
theorem d_M_end_71 : decode b_M_end 71 = .ok (.if_icmp .le 7, 3) := by decide +kernel
theorem d_M_end_74 : decode b_M_end 74 = .ok (.iconst 2, 1) := by decide +kernel
theorem d_M_end_75 : decode b_M_end 75 = .ok (.goto 4, 3) := by decide +kernel
theorem d_M_end_78 : decode b_M_end 78 = .ok (.iconst 0, 1) := by decide +kernel
theorem d_M_end_79 : decode b_M_end 79 = .ok (.putfield 74, 3) := by decide +kernel
theorem d_M_end_82 : decode b_M_end 82 = .ok (.aload_n 0, 1) := by decide +kernel
theorem d_M_end_83 : decode b_M_end 83 = .ok (.getfield 74, 3) := by decide +kernel
theorem d_M_end_86 : decode b_M_end 86 = .ok (.ifCond .le 4, 3) := by decide +kernel
theorem d_M_end_89 : decode b_M_end 89 = .ok (.return_, 1) := by decide +kernel
theorem d_M_end_90 : decode b_M_end 90 = .ok (.aload_n 0, 1) := by decide +kernel
theorem d_M_end_91 : decode b_M_end 91 = .ok (.getfield 40, 3) := by decide +kernel
theorem d_M_end_94 : decode b_M_end 94 = .ok (.iload_n 1, 1) := by decide +kernel
theorem d_M_end_95 : decode b_M_end 95 = .ok (.iconst 1, 1) := by decide +kernel
theorem d_M_end_96 : decode b_M_end 96 = .ok (.bastore, 1) := by decide +kernel
theorem d_M_end_97 : decode b_M_end 97 = .ok (.aload_n 0, 1) := by decide +kernel
theorem d_M_end_98 : decode b_M_end 98 = .ok (.getfield 16, 3) := by decide +kernel
theorem d_M_end_101 : decode b_M_end 101 = .ok (.iload_n 2, 1) := by decide +kernel
theorem d_M_end_102 : decode b_M_end 102 = .ok (.dup2, 1) := by decide +kernel
theorem d_M_end_103 : decode b_M_end 103 = .ok (.iaload, 1) := by decide +kernel
theorem d_M_end_104 : decode b_M_end 104 = .ok (.aload_n 0, 1) := by decide +kernel
theorem d_M_end_105 : decode b_M_end 105 = .ok (.getfield 37, 3) := by decide +kernel
theorem d_M_end_108 : decode b_M_end 108 = .ok (.iload_n 1, 1) := by decide +kernel
theorem d_M_end_109 : decode b_M_end 109 = .ok (.iaload, 1) := by decide +kernel
theorem d_M_end_110 : decode b_M_end 110 = .ok (.iadd, 1) := by decide +kernel
theorem d_M_end_111 : decode b_M_end 111 = .ok (.iastore, 1) := by decide +kernel
theorem d_M_end_112 : decode b_M_end 112 = .ok (.return_, 1) := by decide +kernel
theorem d_M_openAt_0 : decode b_M_openAt 0 = .ok (.iconst 0, 1) := by decide +kernel
theorem d_M_openAt_1 : decode b_M_openAt 1 = .ok (.istore_n 2, 1) := by decide +kernel
theorem d_M_openAt_2 : decode b_M_openAt 2 = .ok (.iconst 1, 1) := by decide +kernel
theorem d_M_openAt_3 : decode b_M_openAt 3 = .ok (.istore_n 3, 1) := by decide +kernel
theorem d_M_openAt_4 : decode b_M_openAt 4 = .ok (.iload_n 3, 1) := by decide +kernel
theorem d_M_openAt_5 : decode b_M_openAt 5 = .ok (.aload_n 0, 1) := by decide +kernel
theorem d_M_openAt_6 : decode b_M_openAt 6 = .ok (.getfield 105, 3) := by decide +kernel
theorem d_M_openAt_9 : decode b_M_openAt 9 = .ok (.if_icmp .gt 46, 3) := by decide +kernel
theorem d_M_openAt_12 : decode b_M_openAt 12 = .ok (.iload_n 2, 1) := by decide +kernel
theorem d_M_openAt_13 : decode b_M_openAt 13 = .ok (.aload_n 0, 1) := by decide +kernel
theorem d_M_openAt_14 : decode b_M_openAt 14 = .ok (.getfield 40, 3) := by decide +kernel
theorem d_M_openAt_17 : decode b_M_openAt 17 = .ok (.iload_n 3, 1) := by decide +kernel
theorem d_M_openAt_18 : decode b_M_openAt 18 = .ok (.baload, 1) := by decide +kernel
theorem d_M_openAt_19 : decode b_M_openAt 19 = .ok (.ifCond .ne 27, 3) := by decide +kernel
theorem d_M_openAt_22 : decode b_M_openAt 22 = .ok (.aload_n 0, 1) := by decide +kernel
theorem d_M_openAt_23 : decode b_M_openAt 23 = .ok (.getfield 28, 3) := by decide +kernel
theorem d_M_openAt_26 : decode b_M_openAt 26 = .ok (.iload_n 3, 1) := by decide +kernel
theorem d_M_openAt_27 : decode b_M_openAt 27 = .ok (.iaload, 1) := by decide +kernel
theorem d_M_openAt_28 : decode b_M_openAt 28 = .ok (.iload_n 1, 1) := by decide +kernel
theorem d_M_openAt_29 : decode b_M_openAt 29 = .ok (.if_icmp .eq 13, 3) := by decide +kernel
theorem d_M_openAt_32 : decode b_M_openAt 32 = .ok (.aload_n 0, 1) := by decide +kernel
theorem d_M_openAt_33 : decode b_M_openAt 33 = .ok (.getfield 31, 3) := by decide +kernel
theorem d_M_openAt_36 : decode b_M_openAt 36 = .ok (.iload_n 3, 1) := by decide +kernel
theorem d_M_openAt_37 : decode b_M_openAt 37 = .ok (.iaload, 1) := by decide +kernel
theorem d_M_openAt_38 : decode b_M_openAt 38 = .ok (.iload_n 1, 1) := by decide +kernel
theorem d_M_openAt_39 : decode b_M_openAt 39 = .ok (.if_icmp .ne 7, 3) := by decide +kernel
theorem d_M_openAt_42 : decode b_M_openAt 42 = .ok (.iconst 1, 1) := by decide +kernel
theorem d_M_openAt_43 : decode b_M_openAt 43 = .ok (.goto 4, 3) := by decide +kernel
theorem d_M_openAt_46 : decode b_M_openAt 46 = .ok (.iconst 0, 1) := by decide +kernel
theorem d_M_openAt_47 : decode b_M_openAt 47 = .ok (.iadd, 1) := by decide +kernel
theorem d_M_openAt_48 : decode b_M_openAt 48 = .ok (.istore_n 2, 1) := by decide +kernel
theorem d_M_openAt_49 : decode b_M_openAt 49 = .ok (.iinc 3 1, 3) := by decide +kernel
theorem d_M_openAt_52 : decode b_M_openAt 52 = .ok (.goto (-48), 3) := by decide +kernel
theorem d_M_openAt_55 : decode b_M_openAt 55 = .ok (.iload_n 2, 1) := by decide +kernel
theorem d_M_openAt_56 : decode b_M_openAt 56 = .ok (.ireturn, 1) := by decide +kernel
theorem d_M_moves_0 : decode b_M_moves 0 = .ok (.aload_n 0, 1) := by decide +kernel
theorem d_M_moves_1 : decode b_M_moves 1 = .ok (.aload_n 0, 1) := by decide +kernel
theorem d_M_moves_2 : decode b_M_moves 2 = .ok (.iload_n 1, 1) := by decide +kernel
theorem d_M_moves_3 : decode b_M_moves 3 = .ok (.invokevirtual 88, 3) := by decide +kernel
theorem d_M_moves_6 : decode b_M_moves 6 = .ok (.ifCond .eq 7, 3) := by decide +kernel
theorem d_M_moves_9 : decode b_M_moves 9 = .ok (.iconst 0, 1) := by decide +kernel
theorem d_M_moves_10 : decode b_M_moves 10 = .ok (.goto 4, 3) := by decide +kernel
theorem d_M_moves_13 : decode b_M_moves 13 = .ok (.iconst 1, 1) := by decide +kernel
theorem d_M_moves_14 : decode b_M_moves 14 = .ok (.putfield 74, 3) := by decide +kernel
theorem d_M_moves_17 : decode b_M_moves 17 = .ok (.aload_n 0, 1) := by decide +kernel
theorem d_M_moves_18 : decode b_M_moves 18 = .ok (.getfield 74, 3) := by decide +kernel
theorem d_M_moves_21 : decode b_M_moves 21 = .ok (.ifCond .le 7, 3) := by decide +kernel
theorem d_M_moves_24 : decode b_M_moves 24 = .ok (.iconst 0, 1) := by decide +kernel
theorem d_M_moves_25 : decode b_M_moves 25 = .ok (.goto 8, 3) := by decide +kernel
theorem d_M_moves_28 : decode b_M_moves 28 = .ok (.aload_n 0, 1) := by decide +kernel
theorem d_M_moves_29 : decode b_M_moves 29 = .ok (.iload_n 1, 1) := by decide +kernel
theorem d_M_moves_30 : decode b_M_moves 30 = .ok (.invokevirtual 108, 3) := by decide +kernel
theorem d_M_moves_33 : decode b_M_moves 33 = .ok (.ireturn, 1) := by decide +kernel
theorem d_M_isBusy_0 : decode b_M_isBusy 0 = .ok (.iconst 1, 1) := by decide +kernel
theorem d_M_isBusy_1 : decode b_M_isBusy 1 = .ok (.istore_n 2, 1) := by decide +kernel
theorem d_M_isBusy_2 : decode b_M_isBusy 2 = .ok (.iload_n 2, 1) := by decide +kernel
theorem d_M_isBusy_3 : decode b_M_isBusy 3 = .ok (.aload_n 0, 1) := by decide +kernel
theorem d_M_isBusy_4 : decode b_M_isBusy 4 = .ok (.getfield 85, 3) := by decide +kernel
theorem d_M_isBusy_7 : decode b_M_isBusy 7 = .ok (.if_icmp .gt 54, 3) := by decide +kernel
theorem d_M_isBusy_10 : decode b_M_isBusy 10 = .ok (.iconst 0, 1) := by decide +kernel
theorem d_M_isBusy_11 : decode b_M_isBusy 11 = .ok (.istore_n 3, 1) := by decide +kernel
theorem d_M_isBusy_12 : decode b_M_isBusy 12 = .ok (.iload_n 3, 1) := by decide +kernel
theorem d_M_isBusy_13 : decode b_M_isBusy 13 = .ok (.aload_n 0, 1) := by decide +kernel
theorem d_M_isBusy_14 : decode b_M_isBusy 14 = .ok (.getfield 47, 3) := by decide +kernel
theorem d_M_isBusy_17 : decode b_M_isBusy 17 = .ok (.iload_n 2, 1) := by decide +kernel
theorem d_M_isBusy_18 : decode b_M_isBusy 18 = .ok (.iaload, 1) := by decide +kernel
theorem d_M_isBusy_19 : decode b_M_isBusy 19 = .ok (.if_icmp .ge 36, 3) := by decide +kernel
theorem d_M_isBusy_22 : decode b_M_isBusy 22 = .ok (.aload_n 0, 1) := by decide +kernel
theorem d_M_isBusy_23 : decode b_M_isBusy 23 = .ok (.getfield 44, 3) := by decide +kernel
theorem d_M_isBusy_26 : decode b_M_isBusy 26 = .ok (.iload_n 2, 1) := by decide +kernel
theorem d_M_isBusy_27 : decode b_M_isBusy 27 = .ok (.iaload, 1) := by decide +kernel
theorem d_M_isBusy_28 : decode b_M_isBusy 28 = .ok (.iconst 2, 1) := by decide +kernel
theorem d_M_isBusy_29 : decode b_M_isBusy 29 = .ok (.if_icmp .eq 26, 3) := by decide +kernel
theorem d_M_isBusy_32 : decode b_M_isBusy 32 = .ok (.aload_n 0, 1) := by decide +kernel
theorem d_M_isBusy_33 : decode b_M_isBusy 33 = .ok (.getfield 53, 3) := by decide +kernel
theorem d_M_isBusy_36 : decode b_M_isBusy 36 = .ok (.bipush 20, 2) := by decide +kernel
theorem d_M_isBusy_38 : decode b_M_isBusy 38 = .ok (.iload_n 2, 1) := by decide +kernel
theorem d_M_isBusy_39 : decode b_M_isBusy 39 = .ok (.imul, 1) := by decide +kernel
theorem d_M_isBusy_40 : decode b_M_isBusy 40 = .ok (.iload_n 3, 1) := by decide +kernel
theorem d_M_isBusy_41 : decode b_M_isBusy 41 = .ok (.iadd, 1) := by decide +kernel
theorem d_M_isBusy_42 : decode b_M_isBusy 42 = .ok (.iaload, 1) := by decide +kernel
theorem d_M_isBusy_43 : decode b_M_isBusy 43 = .ok (.iload_n 1, 1) := by decide +kernel
theorem d_M_isBusy_44 : decode b_M_isBusy 44 = .ok (.if_icmp .ne 5, 3) := by decide +kernel
theorem d_M_isBusy_47 : decode b_M_isBusy 47 = .ok (.iconst 1, 1) := by decide +kernel
theorem d_M_isBusy_48 : decode b_M_isBusy 48 = .ok (.ireturn, 1) := by decide +kernel
theorem d_M_isBusy_49 : decode b_M_isBusy 49 = .ok (.iinc 3 1, 3) := by decide +kernel
theorem d_M_isBusy_52 : decode b_M_isBusy 52 = .ok (.goto (-40), 3) := by decide +kernel
theorem d_M_isBusy_55 : decode b_M_isBusy 55 = .ok (.iinc 2 1, 3) := by decide +kernel
theorem d_M_isBusy_58 : decode b_M_isBusy 58 = .ok (.goto (-56), 3) := by decide +kernel
theorem d_M_isBusy_61 : decode b_M_isBusy 61 = .ok (.iconst 0, 1) := by decide +kernel
theorem d_M_isBusy_62 : decode b_M_isBusy 62 = .ok (.ireturn, 1) := by decide +kernel
theorem d_M_byRank_0 : decode b_M_byRank 0 = .ok (.iconst (-1), 1) := by decide +kernel
theorem d_M_byRank_1 : decode b_M_byRank 1 = .ok (.istore_n 1, 1) := by decide +kernel
theorem d_M_byRank_2 : decode b_M_byRank 2 = .ok (.iconst 0, 1) := by decide +kernel
theorem d_M_byRank_3 : decode b_M_byRank 3 = .ok (.istore_n 2, 1) := by decide +kernel
theorem d_M_byRank_4 : decode b_M_byRank 4 = .ok (.iload_n 2, 1) := by decide +kernel
theorem d_M_byRank_5 : decode b_M_byRank 5 = .ok (.aload_n 0, 1) := by decide +kernel
theorem d_M_byRank_6 : decode b_M_byRank 6 = .ok (.getfield 78, 3) := by decide +kernel
theorem d_M_byRank_9 : decode b_M_byRank 9 = .ok (.if_icmp .ge 40, 3) := by decide +kernel
theorem d_M_byRank_12 : decode b_M_byRank 12 = .ok (.aload_n 0, 1) := by decide +kernel
theorem d_M_byRank_13 : decode b_M_byRank 13 = .ok (.getfield 71, 3) := by decide +kernel
theorem d_M_byRank_16 : decode b_M_byRank 16 = .ok (.iload_n 2, 1) := by decide +kernel
theorem d_M_byRank_17 : decode b_M_byRank 17 = .ok (.baload, 1) := by decide +kernel
theorem d_M_byRank_18 : decode b_M_byRank 18 = .ok (.ifCond .eq 25, 3) := by decide +kernel
theorem d_M_byRank_21 : decode b_M_byRank 21 = .ok (.iload_n 1, 1) := by decide +kernel
theorem d_M_byRank_22 : decode b_M_byRank 22 = .ok (.iconst (-1), 1) := by decide +kernel
theorem d_M_byRank_23 : decode b_M_byRank 23 = .ok (.if_icmp .eq 18, 3) := by decide +kernel
theorem d_M_byRank_26 : decode b_M_byRank 26 = .ok (.aload_n 0, 1) := by decide +kernel
theorem d_M_byRank_27 : decode b_M_byRank 27 = .ok (.getfield 13, 3) := by decide +kernel
theorem d_M_byRank_30 : decode b_M_byRank 30 = .ok (.iload_n 2, 1) := by decide +kernel
theorem d_M_byRank_31 : decode b_M_byRank 31 = .ok (.iaload, 1) := by decide +kernel
theorem d_M_byRank_32 : decode b_M_byRank 32 = .ok (.aload_n 0, 1) := by decide +kernel
theorem d_M_byRank_33 : decode b_M_byRank 33 = .ok (.getfield 13, 3) := by decide +kernel
theorem d_M_byRank_36 : decode b_M_byRank 36 = .ok (.iload_n 1, 1) := by decide +kernel
theorem d_M_byRank_37 : decode b_M_byRank 37 = .ok (.iaload, 1) := by decide +kernel
theorem d_M_byRank_38 : decode b_M_byRank 38 = .ok (.if_icmp .ge 5, 3) := by decide +kernel
theorem d_M_byRank_41 : decode b_M_byRank 41 = .ok (.iload_n 2, 1) := by decide +kernel
theorem d_M_byRank_42 : decode b_M_byRank 42 = .ok (.istore_n 1, 1) := by decide +kernel
theorem d_M_byRank_43 : decode b_M_byRank 43 = .ok (.iinc 2 1, 3) := by decide +kernel
theorem d_M_byRank_46 : decode b_M_byRank 46 = .ok (.goto (-42), 3) := by decide +kernel
theorem d_M_byRank_49 : decode b_M_byRank 49 = .ok (.iload_n 1, 1) := by decide +kernel
theorem d_M_byRank_50 : decode b_M_byRank 50 = .ok (.ireturn, 1) := by decide +kernel
theorem d_M_byNumber_0 : decode b_M_byNumber 0 = .ok (.iload_n 1, 1) := by decide +kernel
theorem d_M_byNumber_1 : decode b_M_byNumber 1 = .ok (.istore_n 2, 1) := by decide +kernel
theorem d_M_byNumber_2 : decode b_M_byNumber 2 = .ok (.iconst 0, 1) := by decide +kernel
theorem d_M_byNumber_3 : decode b_M_byNumber 3 = .ok (.istore_n 3, 1) := by decide +kernel
theorem d_M_byNumber_4 : decode b_M_byNumber 4 = .ok (.iload_n 3, 1) := by decide +kernel
theorem d_M_byNumber_5 : decode b_M_byNumber 5 = .ok (.aload_n 0, 1) := by decide +kernel
theorem d_M_byNumber_6 : decode b_M_byNumber 6 = .ok (.getfield 78, 3) := by decide +kernel
theorem d_M_byNumber_9 : decode b_M_byNumber 9 = .ok (.if_icmp .ge 30, 3) := by decide +kernel
theorem d_M_byNumber_12 : decode b_M_byNumber 12 = .ok (.aload_n 0, 1) := by decide +kernel
theorem d_M_byNumber_13 : decode b_M_byNumber 13 = .ok (.getfield 71, 3) := by decide +kernel
theorem d_M_byNumber_16 : decode b_M_byNumber 16 = .ok (.iload_n 3, 1) := by decide +kernel
theorem d_M_byNumber_17 : decode b_M_byNumber 17 = .ok (.baload, 1) := by decide +kernel
theorem d_M_byNumber_18 : decode b_M_byNumber 18 = .ok (.ifCond .ne 6, 3) := by decide +kernel
theorem d_M_byNumber_21 : decode b_M_byNumber 21 = .ok (.goto 12, 3) := by decide +kernel
theorem d_M_byNumber_24 : decode b_M_byNumber 24 = .ok (.iload_n 2, 1) := by decide +kernel
theorem d_M_byNumber_25 : decode b_M_byNumber 25 = .ok (.ifCond .ne 5, 3) := by decide +kernel
theorem d_M_byNumber_28 : decode b_M_byNumber 28 = .ok (.iload_n 3, 1) := by decide +kernel
theorem d_M_byNumber_29 : decode b_M_byNumber 29 = .ok (.ireturn, 1) := by decide +kernel
theorem d_M_byNumber_30 : decode b_M_byNumber 30 = .ok (.iinc 2 (-1), 3) := by decide +kernel
theorem d_M_byNumber_33 : decode b_M_byNumber 33 = .ok (.iinc 3 1, 3) := by decide +kernel
theorem d_M_byNumber_36 : decode b_M_byNumber 36 = .ok (.goto (-32), 3) := by decide +kernel
theorem d_M_byNumber_39 : decode b_M_byNumber 39 = .ok (.iconst (-1), 1) := by decide +kernel
theorem d_M_byNumber_40 : decode b_M_byNumber 40 = .ok (.ireturn, 1) := by decide +kernel
theorem d_M_round_0 : decode b_M_round 0 = .ok (.aload_n 0, 1) := by decide +kernel
theorem d_M_round_1 : decode b_M_round 1 = .ok (.iload_n 1, 1) := by decide +kernel
theorem d_M_round_2 : decode b_M_round 2 = .ok (.iconst (-1), 1) := by decide +kernel
theorem d_M_round_3 : decode b_M_round 3 = .ok (.iconst 2, 1) := by decide +kernel
theorem d_M_round_4 : decode b_M_round 4 = .ok (.invokestatic 81, 3) := by decide +kernel
theorem d_M_round_7 : decode b_M_round 7 = .ok (.ifCond .eq 13, 3) := by decide +kernel
theorem d_M_round_10 : decode b_M_round 10 = .ok (.iload_n 2, 1) := by decide +kernel
theorem d_M_round_11 : decode b_M_round 11 = .ok (.iconst 1, 1) := by decide +kernel
theorem d_M_round_12 : decode b_M_round 12 = .ok (.bipush 20, 2) := by decide +kernel
theorem d_M_round_14 : decode b_M_round 14 = .ok (.invokestatic 81, 3) := by decide +kernel
theorem d_M_round_17 : decode b_M_round 17 = .ok (.ifCond .ne 7, 3) := by decide +kernel
theorem d_M_round_20 : decode b_M_round 20 = .ok (.iconst 1, 1) := by decide +kernel
theorem d_M_round_21 : decode b_M_round 21 = .ok (.goto 4, 3) := by decide +kernel
theorem d_M_round_24 : decode b_M_round 24 = .ok (.iconst 0, 1) := by decide +kernel
theorem d_M_round_25 : decode b_M_round 25 = .ok (.putfield 74, 3) := by decide +kernel
theorem d_M_round_28 : decode b_M_round 28 = .ok (.aload_n 0, 1) := by decide +kernel
theorem d_M_round_29 : decode b_M_round 29 = .ok (.getfield 74, 3) := by decide +kernel
theorem d_M_round_32 : decode b_M_round 32 = .ok (.ifCond .le 5, 3) := by decide +kernel
theorem d_M_round_35 : decode b_M_round 35 = .ok (.iconst 0, 1) := by decide +kernel
theorem d_M_round_36 : decode b_M_round 36 = .ok (.ireturn, 1) := by decide +kernel
theorem d_M_round_37 : decode b_M_round 37 = .ok (.iconst 0, 1) := by decide +kernel
theorem d_M_round_38 : decode b_M_round 38 = .ok (.istore 5, 2) := by decide +kernel
theorem d_M_round_40 : decode b_M_round 40 = .ok (.iconst 0, 1) := by decide +kernel
theorem d_M_round_41 : decode b_M_round 41 = .ok (.istore 6, 2) := by decide +kernel
theorem d_M_round_43 : decode b_M_round 43 = .ok (.iload 6, 2) := by decide +kernel
theorem d_M_round_45 : decode b_M_round 45 = .ok (.aload_n 0, 1) := by decide +kernel
theorem d_M_round_46 : decode b_M_round 46 = .ok (.getfield 78, 3) := by decide +kernel
theorem d_M_round_49 : decode b_M_round 49 = .ok (.if_icmp .ge 66, 3) := by decide +kernel
theorem d_M_round_52 : decode b_M_round 52 = .ok (.aload_n 0, 1) := by decide +kernel
theorem d_M_round_53 : decode b_M_round 53 = .ok (.getfield 71, 3) := by decide +kernel
theorem d_M_round_56 : decode b_M_round 56 = .ok (.iload 6, 2) := by decide +kernel
theorem d_M_round_58 : decode b_M_round 58 = .ok (.iload_n 1, 1) := by decide +kernel
theorem d_M_round_59 : decode b_M_round 59 = .ok (.iconst (-1), 1) := by decide +kernel
theorem d_M_round_60 : decode b_M_round 60 = .ok (.if_icmp .eq 14, 3) := by decide +kernel
theorem d_M_round_63 : decode b_M_round 63 = .ok (.aload_n 0, 1) := by decide +kernel
theorem d_M_round_64 : decode b_M_round 64 = .ok (.getfield 7, 3) := by decide +kernel
theorem d_M_round_67 : decode b_M_round 67 = .ok (.iload 6, 2) := by decide +kernel
theorem d_M_round_69 : decode b_M_round 69 = .ok (.iaload, 1) := by decide +kernel
theorem d_M_round_70 : decode b_M_round 70 = .ok (.iload_n 1, 1) := by decide +kernel
theorem d_M_round_71 : decode b_M_round 71 = .ok (.if_icmp .ne 16, 3) := by decide +kernel
theorem d_M_round_74 : decode b_M_round 74 = .ok (.aload_n 0, 1) := by decide +kernel
theorem d_M_round_75 : decode b_M_round 75 = .ok (.iload 6, 2) := by decide +kernel
theorem d_M_round_77 : decode b_M_round 77 = .ok (.invokevirtual 112, 3) := by decide +kernel
theorem d_M_round_80 : decode b_M_round 80 = .ok (.ifCond .ne 7, 3) := by decide +kernel
theorem d_M_round_83 : decode b_M_round 83 = .ok (.iconst 1, 1) := by decide +kernel
theorem d_M_round_84 : decode b_M_round 84 = .ok (.goto 4, 3) := by decide +kernel
theorem d_M_round_87 : decode b_M_round 87 = .ok (.iconst 0, 1) := by decide +kernel
theorem d_M_round_88 : decode b_M_round 88 = .ok (.bastore, 1) := by decide +kernel
theorem d_M_round_89 : decode b_M_round 89 = .ok (.iload 5, 2) := by decide +kernel
theorem d_M_round_91 : decode b_M_round 91 = .ok (.aload_n 0, 1) := by decide +kernel
theorem d_M_round_92 : decode b_M_round 92 = .ok (.getfield 71, 3) := by decide +kernel
theorem d_M_round_95 : decode b_M_round 95 = .ok (.iload 6, 2) := by decide +kernel
theorem d_M_round_97 : decode b_M_round 97 = .ok (.baload, 1) := by decide +kernel
theorem d_M_round_98 : decode b_M_round 98 = .ok (.ifCond .eq 7, 3) := by decide +kernel
theorem d_M_round_101 : decode b_M_round 101 = .ok (.iconst 1, 1) := by decide +kernel
theorem d_M_round_102 : decode b_M_round 102 = .ok (.goto 4, 3) := by decide +kernel
theorem d_M_round_105 : decode b_M_round 105 = .ok (.iconst 0, 1) := by decide +kernel
theorem d_M_round_106 : decode b_M_round 106 = .ok (.iadd, 1) := by decide +kernel
theorem d_M_round_107 : decode b_M_round 107 = .ok (.istore 5, 2) := by decide +kernel
theorem d_M_round_109 : decode b_M_round 109 = .ok (.iinc 6 1, 3) := by decide +kernel
theorem d_M_round_112 : decode b_M_round 112 = .ok (.goto (-69), 3) := by decide +kernel
theorem d_M_round_115 : decode b_M_round 115 = .ok (.aload_n 0, 1) := by decide +kernel
theorem d_M_round_116 : decode b_M_round 116 = .ok (.iload 5, 2) := by decide +kernel
theorem d_M_round_118 : decode b_M_round 118 = .ok (.ifCond .ne 7, 3) := by decide +kernel
theorem d_M_round_121 : decode b_M_round 121 = .ok (.iconst 2, 1) := by decide +kernel
theorem d_M_round_122 : decode b_M_round 122 = .ok (.goto 17, 3) := by decide +kernel
theorem d_M_round_125 : decode b_M_round 125 = .ok (.aload_n 0, 1) := by decide +kernel
theorem d_M_round_126 : decode b_M_round 126 = .ok (.getfield 85, 3) := by decide +kernel
theorem d_M_round_129 : decode b_M_round 129 = .ok (.bipush 20, 2) := by decide +kernel
theorem d_M_round_131 : decode b_M_round 131 = .ok (.if_icmp .ne 7, 3) := by decide +kernel
theorem d_M_round_134 : decode b_M_round 134 = .ok (.iconst 3, 1) := by decide +kernel
theorem d_M_round_135 : decode b_M_round 135 = .ok (.goto 4, 3) := by decide +kernel
theorem d_M_round_138 : decode b_M_round 138 = .ok (.iconst 0, 1) := by decide +kernel
theorem d_M_round_139 : decode b_M_round 139 = .ok (.putfield 74, 3) := by decide +kernel
theorem d_M_round_142 : decode b_M_round 142 = .ok (.aload_n 0, 1) := by decide +kernel
theorem d_M_round_143 : decode b_M_round 143 = .ok (.getfield 74, 3) := by decide +kernel
theorem d_M_round_146 : decode b_M_round 146 = .ok (.ifCond .le 5, 3) := by decide +kernel
theorem d_M_round_149 : decode b_M_round 149 = .ok (.iconst 0, 1) := by decide +kernel
theorem d_M_round_150 : decode b_M_round 150 = .ok (.ireturn, 1) := by decide +kernel
theorem d_M_round_151 : decode b_M_round 151 = .ok (.aload_n 0, 1) := by decide +kernel
theorem d_M_round_152 : decode b_M_round 152 = .ok (.dup, 1) := by decide +kernel
theorem d_M_round_153 : decode b_M_round 153 = .ok (.getfield 85, 3) := by decide +kernel
theorem d_M_round_156 : decode b_M_round 156 = .ok (.iconst 1, 1) := by decide +kernel
theorem d_M_round_157 : decode b_M_round 157 = .ok (.iadd, 1) := by decide +kernel
theorem d_M_round_158 : decode b_M_round 158 = .ok (.putfield 85, 3) := by decide +kernel
theorem d_M_round_161 : decode b_M_round 161 = .ok (.aload_n 0, 1) := by decide +kernel
theorem d_M_round_162 : decode b_M_round 162 = .ok (.getfield 44, 3) := by decide +kernel
theorem d_M_round_165 : decode b_M_round 165 = .ok (.aload_n 0, 1) := by decide +kernel
theorem d_M_round_166 : decode b_M_round 166 = .ok (.getfield 85, 3) := by decide +kernel
theorem d_M_round_169 : decode b_M_round 169 = .ok (.iconst 0, 1) := by decide +kernel
theorem d_M_round_170 : decode b_M_round 170 = .ok (.iastore, 1) := by decide +kernel
theorem d_M_round_171 : decode b_M_round 171 = .ok (.lload_n 3, 1) := by decide +kernel
theorem d_M_round_172 : decode b_M_round 172 = .ok (.lstore 6, 2) := by decide +kernel
theorem d_M_round_174 : decode b_M_round 174 = .ok (.iconst 0, 1) := by decide +kernel
theorem d_M_round_175 : decode b_M_round 175 = .ok (.istore 8, 2) := by decide +kernel
theorem d_M_round_177 : decode b_M_round 177 = .ok (.iload 8, 2) := by decide +kernel
theorem d_M_round_179 : decode b_M_round 179 = .ok (.iload_n 2, 1) := by decide +kernel
theorem d_M_round_180 : decode b_M_round 180 = .ok (.if_icmp .ge 96, 3) := by decide +kernel
theorem d_M_round_183 : decode b_M_round 183 = .ok (.iload 5, 2) := by decide +kernel
theorem d_M_round_185 : decode b_M_round 185 = .ok (.ifCond .le 91, 3) := by decide +kernel
theorem d_M_round_188 : decode b_M_round 188 = .ok (.lload 6, 2) := by decide +kernel
theorem d_M_round_190 : decode b_M_round 190 = .ok (.ldc2_w 115, 3) := by decide +kernel
theorem d_M_round_193 : decode b_M_round 193 = .ok (.lmul, 1) := by decide +kernel
theorem d_M_round_194 : decode b_M_round 194 = .ok (.ldc2_w 117, 3) := by decide +kernel
theorem d_M_round_197 : decode b_M_round 197 = .ok (.ladd, 1) := by decide +kernel
theorem d_M_round_198 : decode b_M_round 198 = .ok (.lstore 6, 2) := by decide +kernel
theorem d_M_round_200 : decode b_M_round 200 = .ok (.lload_n 3, 1) := by decide +kernel
theorem d_M_round_201 : decode b_M_round 201 = .ok (.lconst 0, 1) := by decide +kernel
theorem d_M_round_202 : decode b_M_round 202 = .ok (.lcmp, 1) := by decide +kernel
theorem d_M_round_203 : decode b_M_round 203 = .ok (.ifCond .ne 10, 3) := by decide +kernel
theorem d_M_round_206 : decode b_M_round 206 = .ok (.aload_n 0, 1) := by decide +kernel
theorem d_M_round_207 : decode b_M_round 207 = .ok (.invokevirtual 119, 3) := by decide +kernel
theorem d_M_round_210 : decode b_M_round 210 = .ok (.goto 17, 3) := by decide +kernel
theorem d_M_round_213 : decode b_M_round 213 = .ok (.aload_n 0, 1) := by decide +kernel
theorem d_M_round_214 : decode b_M_round 214 = .ok (.lload 6, 2) := by decide +kernel
theorem d_M_round_216 : decode b_M_round 216 = .ok (.bipush 33, 2) := by decide +kernel
theorem d_M_round_218 : decode b_M_round 218 = .ok (.lushr, 1) := by decide +kernel
theorem d_M_round_219 : decode b_M_round 219 = .ok (.iload 5, 2) := by decide +kernel
theorem d_M_round_221 : decode b_M_round 221 = .ok (.i2l, 1) := by decide +kernel
theorem d_M_round_222 : decode b_M_round 222 = .ok (.lrem, 1) := by decide +kernel
theorem d_M_round_223 : decode b_M_round 223 = .ok (.l2i, 1) := by decide +kernel
theorem d_M_round_224 : decode b_M_round 224 = .ok (.invokevirtual 123, 3) := by decide +kernel
theorem d_M_round_227 : decode b_M_round 227 = .ok (.istore 9, 2) := by decide +kernel
theorem d_M_round_229 : decode b_M_round 229 = .ok (.aload_n 0, 1) := by decide +kernel
theorem d_M_round_230 : decode b_M_round 230 = .ok (.getfield 71, 3) := by decide +kernel
theorem d_M_round_233 : decode b_M_round 233 = .ok (.iload 9, 2) := by decide +kernel
theorem d_M_round_235 : decode b_M_round 235 = .ok (.iconst 0, 1) := by decide +kernel
theorem d_M_round_236 : decode b_M_round 236 = .ok (.bastore, 1) := by decide +kernel
theorem d_M_round_237 : decode b_M_round 237 = .ok (.aload_n 0, 1) := by decide +kernel
theorem d_M_round_238 : decode b_M_round 238 = .ok (.getfield 53, 3) := by decide +kernel
theorem d_M_round_241 : decode b_M_round 241 = .ok (.bipush 20, 2) := by decide +kernel
theorem d_M_round_243 : decode b_M_round 243 = .ok (.aload_n 0, 1) := by decide +kernel
theorem d_M_round_244 : decode b_M_round 244 = .ok (.getfield 85, 3) := by decide +kernel
theorem d_M_round_247 : decode b_M_round 247 = .ok (.imul, 1) := by decide +kernel
theorem d_M_round_248 : decode b_M_round 248 = .ok (.iload 8, 2) := by decide +kernel
theorem d_M_round_250 : decode b_M_round 250 = .ok (.iadd, 1) := by decide +kernel
theorem d_M_round_251 : decode b_M_round 251 = .ok (.iload 9, 2) := by decide +kernel
theorem d_M_round_253 : decode b_M_round 253 = .ok (.iastore, 1) := by decide +kernel
theorem d_M_round_254 : decode b_M_round 254 = .ok (.aload_n 0, 1) := by decide +kernel
theorem d_M_round_255 : decode b_M_round 255 = .ok (.getfield 47, 3) := by decide +kernel
theorem d_M_round_258 : decode b_M_round 258 = .ok (.aload_n 0, 1) := by decide +kernel
theorem d_M_round_259 : decode b_M_round 259 = .ok (.getfield 85, 3) := by decide +kernel
theorem d_M_round_262 : decode b_M_round 262 = .ok (.dup2, 1) := by decide +kernel
theorem d_M_round_263 : decode b_M_round 263 = .ok (.iaload, 1) := by decide +kernel
theorem d_M_round_264 : decode b_M_round 264 = .ok (.iconst 1, 1) := by decide +kernel
theorem d_M_round_265 : decode b_M_round 265 = .ok (.iadd, 1) := by decide +kernel
theorem d_M_round_266 : decode b_M_round 266 = .ok (.iastore, 1) := by decide +kernel
theorem d_M_round_267 : decode b_M_round 267 = .ok (.iinc 5 (-1), 3) := by decide +kernel
theorem d_M_round_270 : decode b_M_round 270 = .ok (.iinc 8 1, 3) := by decide +kernel
theorem d_M_round_273 : decode b_M_round 273 = .ok (.goto (-96), 3) := by decide +kernel
theorem d_M_round_276 : decode b_M_round 276 = .ok (.aload_n 0, 1) := by decide +kernel
theorem d_M_round_277 : decode b_M_round 277 = .ok (.getfield 85, 3) := by decide +kernel
theorem d_M_round_280 : decode b_M_round 280 = .ok (.ireturn, 1) := by decide +kernel
theorem d_M_coming_0 : decode b_M_coming 0 = .ok (.iconst 0, 1) := by decide +kernel
theorem d_M_coming_1 : decode b_M_coming 1 = .ok (.istore_n 3, 1) := by decide +kernel
theorem d_M_coming_2 : decode b_M_coming 2 = .ok (.iconst 1, 1) := by decide +kernel
theorem d_M_coming_3 : decode b_M_coming 3 = .ok (.istore 4, 2) := by decide +kernel
theorem d_M_coming_5 : decode b_M_coming 5 = .ok (.iload 4, 2) := by decide +kernel
theorem d_M_coming_7 : decode b_M_coming 7 = .ok (.aload_n 0, 1) := by decide +kernel
theorem d_M_coming_8 : decode b_M_coming 8 = .ok (.getfield 105, 3) := by decide +kernel
theorem d_M_coming_11 : decode b_M_coming 11 = .ok (.if_icmp .gt 55, 3) := by decide +kernel
theorem d_M_coming_14 : decode b_M_coming 14 = .ok (.iload_n 3, 1) := by decide +kernel
theorem d_M_coming_15 : decode b_M_coming 15 = .ok (.aload_n 0, 1) := by decide +kernel
theorem d_M_coming_16 : decode b_M_coming 16 = .ok (.getfield 40, 3) := by decide +kernel
theorem d_M_coming_19 : decode b_M_coming 19 = .ok (.iload 4, 2) := by decide +kernel
theorem d_M_coming_21 : decode b_M_coming 21 = .ok (.baload, 1) := by decide +kernel
theorem d_M_coming_22 : decode b_M_coming 22 = .ok (.ifCond .ne 35, 3) := by decide +kernel
theorem d_M_coming_25 : decode b_M_coming 25 = .ok (.aload_n 0, 1) := by decide +kernel
theorem d_M_coming_26 : decode b_M_coming 26 = .ok (.getfield 31, 3) := by decide +kernel
theorem d_M_coming_29 : decode b_M_coming 29 = .ok (.iload 4, 2) := by decide +kernel
theorem d_M_coming_31 : decode b_M_coming 31 = .ok (.iaload, 1) := by decide +kernel
theorem d_M_coming_32 : decode b_M_coming 32 = .ok (.iload_n 1, 1) := by decide +kernel
theorem d_M_coming_33 : decode b_M_coming 33 = .ok (.if_icmp .ne 24, 3) := by decide +kernel
theorem d_M_coming_36 : decode b_M_coming 36 = .ok (.aload_n 0, 1) := by decide +kernel
theorem d_M_coming_37 : decode b_M_coming 37 = .ok (.getfield 34, 3) := by decide +kernel
theorem d_M_coming_40 : decode b_M_coming 40 = .ok (.iload 4, 2) := by decide +kernel
theorem d_M_coming_42 : decode b_M_coming 42 = .ok (.iaload, 1) := by decide +kernel
theorem d_M_coming_43 : decode b_M_coming 43 = .ok (.iload_n 2, 1) := by decide +kernel
theorem d_M_coming_44 : decode b_M_coming 44 = .ok (.if_icmp .ne 13, 3) := by decide +kernel
theorem d_M_coming_47 : decode b_M_coming 47 = .ok (.aload_n 0, 1) := by decide +kernel
theorem d_M_coming_48 : decode b_M_coming 48 = .ok (.getfield 37, 3) := by decide +kernel
theorem d_M_coming_51 : decode b_M_coming 51 = .ok (.iload 4, 2) := by decide +kernel
theorem d_M_coming_53 : decode b_M_coming 53 = .ok (.iaload, 1) := by decide +kernel
theorem d_M_coming_54 : decode b_M_coming 54 = .ok (.goto 4, 3) := by decide +kernel
theorem d_M_coming_57 : decode b_M_coming 57 = .ok (.iconst 0, 1) := by decide +kernel
theorem d_M_coming_58 : decode b_M_coming 58 = .ok (.iadd, 1) := by decide +kernel
theorem d_M_coming_59 : decode b_M_coming 59 = .ok (.istore_n 3, 1) := by decide +kernel
theorem d_M_coming_60 : decode b_M_coming 60 = .ok (.iinc 4 1, 3) := by decide +kernel
theorem d_M_coming_63 : decode b_M_coming 63 = .ok (.goto (-58), 3) := by decide +kernel
theorem d_M_coming_66 : decode b_M_coming 66 = .ok (.iload_n 3, 1) := by decide +kernel
theorem d_M_coming_67 : decode b_M_coming 67 = .ok (.ireturn, 1) := by decide +kernel
theorem d_M_freeze_0 : decode b_M_freeze 0 = .ok (.aload_n 0, 1) := by decide +kernel
theorem d_M_freeze_1 : decode b_M_freeze 1 = .ok (.aload_n 0, 1) := by decide +kernel
theorem d_M_freeze_2 : decode b_M_freeze 2 = .ok (.iload_n 1, 1) := by decide +kernel
theorem d_M_freeze_3 : decode b_M_freeze 3 = .ok (.invokevirtual 126, 3) := by decide +kernel
theorem d_M_freeze_6 : decode b_M_freeze 6 = .ok (.ifCond .ne 7, 3) := by decide +kernel
theorem d_M_freeze_9 : decode b_M_freeze 9 = .ok (.iconst 1, 1) := by decide +kernel
theorem d_M_freeze_10 : decode b_M_freeze 10 = .ok (.goto 4, 3) := by decide +kernel
theorem d_M_freeze_13 : decode b_M_freeze 13 = .ok (.iconst 0, 1) := by decide +kernel
theorem d_M_freeze_14 : decode b_M_freeze 14 = .ok (.putfield 74, 3) := by decide +kernel
theorem d_M_freeze_17 : decode b_M_freeze 17 = .ok (.aload_n 0, 1) := by decide +kernel
theorem d_M_freeze_18 : decode b_M_freeze 18 = .ok (.getfield 74, 3) := by decide +kernel
theorem d_M_freeze_21 : decode b_M_freeze 21 = .ok (.ifCond .ne 21, 3) := by decide +kernel
theorem d_M_freeze_24 : decode b_M_freeze 24 = .ok (.aload_n 0, 1) := by decide +kernel
theorem d_M_freeze_25 : decode b_M_freeze 25 = .ok (.aload_n 0, 1) := by decide +kernel
theorem d_M_freeze_26 : decode b_M_freeze 26 = .ok (.getfield 44, 3) := by decide +kernel
theorem d_M_freeze_29 : decode b_M_freeze 29 = .ok (.iload_n 1, 1) := by decide +kernel
theorem d_M_freeze_30 : decode b_M_freeze 30 = .ok (.iaload, 1) := by decide +kernel
theorem d_M_freeze_31 : decode b_M_freeze 31 = .ok (.ifCond .eq 7, 3) := by decide +kernel
theorem d_M_freeze_34 : decode b_M_freeze 34 = .ok (.iconst 2, 1) := by decide +kernel
theorem d_M_freeze_35 : decode b_M_freeze 35 = .ok (.goto 4, 3) := by decide +kernel
theorem d_M_freeze_38 : decode b_M_freeze 38 = .ok (.iconst 0, 1) := by decide +kernel
theorem d_M_freeze_39 : decode b_M_freeze 39 = .ok (.putfield 74, 3) := by decide +kernel
theorem d_M_freeze_42 : decode b_M_freeze 42 = .ok (.aload_n 0, 1) := by decide +kernel
theorem d_M_freeze_43 : decode b_M_freeze 43 = .ok (.getfield 74, 3) := by decide +kernel
theorem d_M_freeze_46 : decode b_M_freeze 46 = .ok (.ifCond .le 5, 3) := by decide +kernel
theorem d_M_freeze_49 : decode b_M_freeze 49 = .ok (.iconst 0, 1) := by decide +kernel
theorem d_M_freeze_50 : decode b_M_freeze 50 = .ok (.ireturn, 1) := by decide +kernel
theorem d_M_freeze_51 : decode b_M_freeze 51 = .ok (.iconst 0, 1) := by decide +kernel
theorem d_M_freeze_52 : decode b_M_freeze 52 = .ok (.istore_n 2, 1) := by decide +kernel
theorem d_M_freeze_53 : decode b_M_freeze 53 = .ok (.iload_n 2, 1) := by decide +kernel
theorem d_M_freeze_54 : decode b_M_freeze 54 = .ok (.aload_n 0, 1) := by decide +kernel
theorem d_M_freeze_55 : decode b_M_freeze 55 = .ok (.getfield 47, 3) := by decide +kernel
theorem d_M_freeze_58 : decode b_M_freeze 58 = .ok (.iload_n 1, 1) := by decide +kernel
theorem d_M_freeze_59 : decode b_M_freeze 59 = .ok (.iaload, 1) := by decide +kernel
theorem d_M_freeze_60 : decode b_M_freeze 60 = .ok (.if_icmp .ge 36, 3) := by decide +kernel
theorem d_M_freeze_63 : decode b_M_freeze 63 = .ok (.aload_n 0, 1) := by decide +kernel
theorem d_M_freeze_64 : decode b_M_freeze 64 = .ok (.getfield 99, 3) := by decide +kernel
theorem d_M_freeze_67 : decode b_M_freeze 67 = .ok (.ifCond .ne 29, 3) := by decide +kernel
theorem d_M_freeze_70 : decode b_M_freeze 70 = .ok (.aload_n 0, 1) := by decide +kernel
theorem d_M_freeze_71 : decode b_M_freeze 71 = .ok (.aload_n 0, 1) := by decide +kernel
theorem d_M_freeze_72 : decode b_M_freeze 72 = .ok (.getfield 53, 3) := by decide +kernel
theorem d_M_freeze_75 : decode b_M_freeze 75 = .ok (.bipush 20, 2) := by decide +kernel
theorem d_M_freeze_77 : decode b_M_freeze 77 = .ok (.iload_n 1, 1) := by decide +kernel
theorem d_M_freeze_78 : decode b_M_freeze 78 = .ok (.imul, 1) := by decide +kernel
theorem d_M_freeze_79 : decode b_M_freeze 79 = .ok (.iload_n 2, 1) := by decide +kernel
theorem d_M_freeze_80 : decode b_M_freeze 80 = .ok (.iadd, 1) := by decide +kernel
theorem d_M_freeze_81 : decode b_M_freeze 81 = .ok (.iaload, 1) := by decide +kernel
theorem d_M_freeze_82 : decode b_M_freeze 82 = .ok (.invokevirtual 108, 3) := by decide +kernel
theorem d_M_freeze_85 : decode b_M_freeze 85 = .ok (.ifCond .le 5, 3) := by decide +kernel
theorem d_M_freeze_88 : decode b_M_freeze 88 = .ok (.iconst 0, 1) := by decide +kernel
theorem d_M_freeze_89 : decode b_M_freeze 89 = .ok (.ireturn, 1) := by decide +kernel
theorem d_M_freeze_90 : decode b_M_freeze 90 = .ok (.iinc 2 1, 3) := by decide +kernel
theorem d_M_freeze_93 : decode b_M_freeze 93 = .ok (.goto (-40), 3) := by decide +kernel
theorem d_M_freeze_96 : decode b_M_freeze 96 = .ok (.aload_n 0, 1) := by decide +kernel
theorem d_M_freeze_97 : decode b_M_freeze 97 = .ok (.getfield 44, 3) := by decide +kernel
theorem d_M_freeze_100 : decode b_M_freeze 100 = .ok (.iload_n 1, 1) := by decide +kernel
theorem d_M_freeze_101 : decode b_M_freeze 101 = .ok (.iconst 1, 1) := by decide +kernel
theorem d_M_freeze_102 : decode b_M_freeze 102 = .ok (.iastore, 1) := by decide +kernel
theorem d_M_freeze_103 : decode b_M_freeze 103 = .ok (.iconst 0, 1) := by decide +kernel
theorem d_M_freeze_104 : decode b_M_freeze 104 = .ok (.istore_n 2, 1) := by decide +kernel
theorem d_M_freeze_105 : decode b_M_freeze 105 = .ok (.iload_n 2, 1) := by decide +kernel
theorem d_M_freeze_106 : decode b_M_freeze 106 = .ok (.aload_n 0, 1) := by decide +kernel
theorem d_M_freeze_107 : decode b_M_freeze 107 = .ok (.getfield 47, 3) := by decide +kernel
theorem d_M_freeze_110 : decode b_M_freeze 110 = .ok (.iload_n 1, 1) := by decide +kernel
theorem d_M_freeze_111 : decode b_M_freeze 111 = .ok (.iaload, 1) := by decide +kernel
theorem d_M_freeze_112 : decode b_M_freeze 112 = .ok (.if_icmp .ge 88, 3) := by decide +kernel
theorem d_M_freeze_115 : decode b_M_freeze 115 = .ok (.iconst 0, 1) := by decide +kernel
theorem d_M_freeze_116 : decode b_M_freeze 116 = .ok (.istore_n 3, 1) := by decide +kernel
theorem d_M_freeze_117 : decode b_M_freeze 117 = .ok (.iload_n 3, 1) := by decide +kernel
theorem d_M_freeze_118 : decode b_M_freeze 118 = .ok (.bipush 6, 2) := by decide +kernel
theorem d_M_freeze_120 : decode b_M_freeze 120 = .ok (.if_icmp .ge 74, 3) := by decide +kernel
theorem d_M_freeze_123 : decode b_M_freeze 123 = .ok (.bipush 120, 2) := by decide +kernel
theorem d_M_freeze_125 : decode b_M_freeze 125 = .ok (.iload_n 1, 1) := by decide +kernel
theorem d_M_freeze_126 : decode b_M_freeze 126 = .ok (.imul, 1) := by decide +kernel
theorem d_M_freeze_127 : decode b_M_freeze 127 = .ok (.bipush 6, 2) := by decide +kernel
theorem d_M_freeze_129 : decode b_M_freeze 129 = .ok (.iload_n 2, 1) := by decide +kernel
theorem d_M_freeze_130 : decode b_M_freeze 130 = .ok (.imul, 1) := by decide +kernel
theorem d_M_freeze_131 : decode b_M_freeze 131 = .ok (.iadd, 1) := by decide +kernel
theorem d_M_freeze_132 : decode b_M_freeze 132 = .ok (.iload_n 3, 1) := by decide +kernel
theorem d_M_freeze_133 : decode b_M_freeze 133 = .ok (.iadd, 1) := by decide +kernel
theorem d_M_freeze_134 : decode b_M_freeze 134 = .ok (.istore 4, 2) := by decide +kernel
theorem d_M_freeze_136 : decode b_M_freeze 136 = .ok (.aload_n 0, 1) := by decide +kernel
theorem d_M_freeze_137 : decode b_M_freeze 137 = .ok (.getfield 53, 3) := by decide +kernel
theorem d_M_freeze_140 : decode b_M_freeze 140 = .ok (.bipush 20, 2) := by decide +kernel
theorem d_M_freeze_142 : decode b_M_freeze 142 = .ok (.iload_n 1, 1) := by decide +kernel
theorem d_M_freeze_143 : decode b_M_freeze 143 = .ok (.imul, 1) := by decide +kernel
theorem d_M_freeze_144 : decode b_M_freeze 144 = .ok (.iload_n 2, 1) := by decide +kernel
theorem d_M_freeze_145 : decode b_M_freeze 145 = .ok (.iadd, 1) := by decide +kernel
theorem d_M_freeze_146 : decode b_M_freeze 146 = .ok (.iaload, 1) := by decide +kernel
theorem d_M_freeze_147 : decode b_M_freeze 147 = .ok (.istore 5, 2) := by decide +kernel
theorem d_M_freeze_149 : decode b_M_freeze 149 = .ok (.aload_n 0, 1) := by decide +kernel
theorem d_M_freeze_150 : decode b_M_freeze 150 = .ok (.getfield 56, 3) := by decide +kernel
theorem d_M_freeze_153 : decode b_M_freeze 153 = .ok (.iload 4, 2) := by decide +kernel
theorem d_M_freeze_155 : decode b_M_freeze 155 = .ok (.aload_n 0, 1) := by decide +kernel
theorem d_M_freeze_156 : decode b_M_freeze 156 = .ok (.getfield 16, 3) := by decide +kernel
theorem d_M_freeze_159 : decode b_M_freeze 159 = .ok (.bipush 6, 2) := by decide +kernel
theorem d_M_freeze_161 : decode b_M_freeze 161 = .ok (.iload 5, 2) := by decide +kernel
theorem d_M_freeze_163 : decode b_M_freeze 163 = .ok (.imul, 1) := by decide +kernel
theorem d_M_freeze_164 : decode b_M_freeze 164 = .ok (.iload_n 3, 1) := by decide +kernel
theorem d_M_freeze_165 : decode b_M_freeze 165 = .ok (.iadd, 1) := by decide +kernel
theorem d_M_freeze_166 : decode b_M_freeze 166 = .ok (.iaload, 1) := by decide +kernel
theorem d_M_freeze_167 : decode b_M_freeze 167 = .ok (.aload_n 0, 1) := by decide +kernel
theorem d_M_freeze_168 : decode b_M_freeze 168 = .ok (.getfield 99, 3) := by decide +kernel
theorem d_M_freeze_171 : decode b_M_freeze 171 = .ok (.iconst 1, 1) := by decide +kernel
theorem d_M_freeze_172 : decode b_M_freeze 172 = .ok (.if_icmp .ne 13, 3) := by decide +kernel
theorem d_M_freeze_175 : decode b_M_freeze 175 = .ok (.aload_n 0, 1) := by decide +kernel
theorem d_M_freeze_176 : decode b_M_freeze 176 = .ok (.iload 5, 2) := by decide +kernel
theorem d_M_freeze_178 : decode b_M_freeze 178 = .ok (.iload_n 3, 1) := by decide +kernel
theorem d_M_freeze_179 : decode b_M_freeze 179 = .ok (.invokevirtual 129, 3) := by decide +kernel
theorem d_M_freeze_182 : decode b_M_freeze 182 = .ok (.goto 4, 3) := by decide +kernel
theorem d_M_freeze_185 : decode b_M_freeze 185 = .ok (.iconst 0, 1) := by decide +kernel
theorem d_M_freeze_186 : decode b_M_freeze 186 = .ok (.iadd, 1) := by decide +kernel
theorem d_M_freeze_187 : decode b_M_freeze 187 = .ok (.iastore, 1) := by decide +kernel
theorem d_M_freeze_188 : decode b_M_freeze 188 = .ok (.iinc 3 1, 3) := by decide +kernel
theorem d_M_freeze_191 : decode b_M_freeze 191 = .ok (.goto (-74), 3) := by decide +kernel
theorem d_M_freeze_194 : decode b_M_freeze 194 = .ok (.iinc 2 1, 3) := by decide +kernel
theorem d_M_freeze_197 : decode b_M_freeze 197 = .ok (.goto (-92), 3) := by decide +kernel
theorem d_M_freeze_200 : decode b_M_freeze 200 = .ok (.aload_n 0, 1) := by decide +kernel
theorem d_M_freeze_201 : decode b_M_freeze 201 = .ok (.getfield 47, 3) := by decide +kernel
theorem d_M_freeze_204 : decode b_M_freeze 204 = .ok (.iload_n 1, 1) := by decide +kernel
theorem d_M_freeze_205 : decode b_M_freeze 205 = .ok (.iaload, 1) := by decide +kernel
theorem d_M_freeze_206 : decode b_M_freeze 206 = .ok (.ireturn, 1) := by decide +kernel
theorem d_M_slot_0 : decode b_M_slot 0 = .ok (.iconst 0, 1) := by decide +kernel
theorem d_M_slot_1 : decode b_M_slot 1 = .ok (.istore_n 3, 1) := by decide +kernel
theorem d_M_slot_2 : decode b_M_slot 2 = .ok (.iload_n 3, 1) := by decide +kernel
theorem d_M_slot_3 : decode b_M_slot 3 = .ok (.aload_n 0, 1) := by decide +kernel
theorem d_M_slot_4 : decode b_M_slot 4 = .ok (.getfield 47, 3) := by decide +kernel
theorem d_M_slot_7 : decode b_M_slot 7 = .ok (.iload_n 1, 1) := by decide +kernel
theorem d_M_slot_8 : decode b_M_slot 8 = .ok (.iaload, 1) := by decide +kernel
theorem d_M_slot_9 : decode b_M_slot 9 = .ok (.if_icmp .ge 26, 3) := by decide +kernel
theorem d_M_slot_12 : decode b_M_slot 12 = .ok (.aload_n 0, 1) := by decide +kernel
theorem d_M_slot_13 : decode b_M_slot 13 = .ok (.getfield 53, 3) := by decide +kernel
theorem d_M_slot_16 : decode b_M_slot 16 = .ok (.bipush 20, 2) := by decide +kernel
theorem d_M_slot_18 : decode b_M_slot 18 = .ok (.iload_n 1, 1) := by decide +kernel
theorem d_M_slot_19 : decode b_M_slot 19 = .ok (.imul, 1) := by decide +kernel
theorem d_M_slot_20 : decode b_M_slot 20 = .ok (.iload_n 3, 1) := by decide +kernel
theorem d_M_slot_21 : decode b_M_slot 21 = .ok (.iadd, 1) := by decide +kernel
theorem d_M_slot_22 : decode b_M_slot 22 = .ok (.iaload, 1) := by decide +kernel
theorem d_M_slot_23 : decode b_M_slot 23 = .ok (.iload_n 2, 1) := by decide +kernel
theorem d_M_slot_24 : decode b_M_slot 24 = .ok (.if_icmp .ne 5, 3) := by decide +kernel
theorem d_M_slot_27 : decode b_M_slot 27 = .ok (.iload_n 3, 1) := by decide +kernel
theorem d_M_slot_28 : decode b_M_slot 28 = .ok (.ireturn, 1) := by decide +kernel
theorem d_M_slot_29 : decode b_M_slot 29 = .ok (.iinc 3 1, 3) := by decide +kernel
theorem d_M_slot_32 : decode b_M_slot 32 = .ok (.goto (-30), 3) := by decide +kernel
theorem d_M_slot_35 : decode b_M_slot 35 = .ok (.iconst (-1), 1) := by decide +kernel
theorem d_M_slot_36 : decode b_M_slot 36 = .ok (.ireturn, 1) := by decide +kernel
theorem d_M_found_0 : decode b_M_found 0 = .ok (.aload_n 0, 1) := by decide +kernel
theorem d_M_found_1 : decode b_M_found 1 = .ok (.aload_n 0, 1) := by decide +kernel
theorem d_M_found_2 : decode b_M_found 2 = .ok (.iload_n 1, 1) := by decide +kernel
theorem d_M_found_3 : decode b_M_found 3 = .ok (.invokevirtual 126, 3) := by decide +kernel
theorem d_M_found_6 : decode b_M_found 6 = .ok (.ifCond .eq 11, 3) := by decide +kernel
theorem d_M_found_9 : decode b_M_found 9 = .ok (.aload_n 0, 1) := by decide +kernel
theorem d_M_found_10 : decode b_M_found 10 = .ok (.iload_n 2, 1) := by decide +kernel
theorem d_M_found_11 : decode b_M_found 11 = .ok (.invokevirtual 88, 3) := by decide +kernel
theorem d_M_found_14 : decode b_M_found 14 = .ok (.ifCond .ne 7, 3) := by decide +kernel
theorem d_M_found_17 : decode b_M_found 17 = .ok (.iconst 1, 1) := by decide +kernel
theorem d_M_found_18 : decode b_M_found 18 = .ok (.goto 34, 3) := by decide +kernel
theorem d_M_found_21 : decode b_M_found 21 = .ok (.iload_n 3, 1) := by decide +kernel
theorem d_M_found_22 : decode b_M_found 22 = .ok (.invokestatic 92, 3) := by decide +kernel
theorem d_M_found_25 : decode b_M_found 25 = .ok (.ifCond .eq 22, 3) := by decide +kernel
theorem d_M_found_28 : decode b_M_found 28 = .ok (.iload 4, 2) := by decide +kernel
theorem d_M_found_30 : decode b_M_found 30 = .ok (.iconst 0, 1) := by decide +kernel
theorem d_M_found_31 : decode b_M_found 31 = .ok (.ldc 95, 2) := by decide +kernel
theorem d_M_found_33 : decode b_M_found 33 = .ok (.invokestatic 81, 3) := by decide +kernel
theorem d_M_found_36 : decode b_M_found 36 = .ok (.ifCond .eq 11, 3) := by decide +kernel
theorem d_M_found_39 : decode b_M_found 39 = .ok (.iload 5, 2) := by decide +kernel
theorem d_M_found_41 : decode b_M_found 41 = .ok (.invokestatic 96, 3) := by decide +kernel
theorem d_M_found_44 : decode b_M_found 44 = .ok (.ifCond .ne 7, 3) := by decide +kernel
theorem d_M_found_47 : decode b_M_found 47 = .ok (.iconst 2, 1) := by decide +kernel
theorem d_M_found_48 : decode b_M_found 48 = .ok (.goto 4, 3) := by decide +kernel
theorem d_M_found_51 : decode b_M_found 51 = .ok (.iconst 0, 1) := by decide +kernel
theorem d_M_found_52 : decode b_M_found 52 = .ok (.putfield 74, 3) := by decide +kernel
theorem d_M_found_55 : decode b_M_found 55 = .ok (.aload_n 0, 1) := by decide +kernel
theorem d_M_found_56 : decode b_M_found 56 = .ok (.getfield 74, 3) := by decide +kernel
theorem d_M_found_59 : decode b_M_found 59 = .ok (.ifCond .le 5, 3) := by decide +kernel
theorem d_M_found_62 : decode b_M_found 62 = .ok (.iconst 0, 1) := by decide +kernel
theorem d_M_found_63 : decode b_M_found 63 = .ok (.ireturn, 1) := by decide +kernel
theorem d_M_found_64 : decode b_M_found 64 = .ok (.aload_n 0, 1) := by decide +kernel
theorem d_M_found_65 : decode b_M_found 65 = .ok (.getfield 44, 3) := by decide +kernel
theorem d_M_found_68 : decode b_M_found 68 = .ok (.iload_n 1, 1) := by decide +kernel
theorem d_M_found_69 : decode b_M_found 69 = .ok (.iaload, 1) := by decide +kernel
theorem d_M_found_70 : decode b_M_found 70 = .ok (.iconst 1, 1) := by decide +kernel
theorem d_M_found_71 : decode b_M_found 71 = .ok (.if_icmp .eq 5, 3) := by decide +kernel
theorem d_M_found_74 : decode b_M_found 74 = .ok (.iconst (-1), 1) := by decide +kernel
theorem d_M_found_75 : decode b_M_found 75 = .ok (.ireturn, 1) := by decide +kernel
theorem d_M_found_76 : decode b_M_found 76 = .ok (.aload_n 0, 1) := by decide +kernel
theorem d_M_found_77 : decode b_M_found 77 = .ok (.iload_n 1, 1) := by decide +kernel
theorem d_M_found_78 : decode b_M_found 78 = .ok (.iload_n 2, 1) := by decide +kernel
theorem d_M_found_79 : decode b_M_found 79 = .ok (.invokevirtual 133, 3) := by decide +kernel
theorem d_M_found_82 : decode b_M_found 82 = .ok (.istore 6, 2) := by decide +kernel
theorem d_M_found_84 : decode b_M_found 84 = .ok (.iload 6, 2) := by decide +kernel
theorem d_M_found_86 : decode b_M_found 86 = .ok (.iconst (-1), 1) := by decide +kernel
theorem d_M_found_87 : decode b_M_found 87 = .ok (.if_icmp .ne 6, 3) := by decide +kernel
theorem d_M_found_90 : decode b_M_found 90 = .ok (.bipush (-2), 2) := by decide +kernel
theorem d_M_found_92 : decode b_M_found 92 = .ok (.ireturn, 1) := by decide +kernel
theorem d_M_found_93 : decode b_M_found 93 = .ok (.bipush 120, 2) := by decide +kernel
theorem d_M_found_95 : decode b_M_found 95 = .ok (.iload_n 1, 1) := by decide +kernel
theorem d_M_found_96 : decode b_M_found 96 = .ok (.imul, 1) := by decide +kernel
theorem d_M_found_97 : decode b_M_found 97 = .ok (.bipush 6, 2) := by decide +kernel
theorem d_M_found_99 : decode b_M_found 99 = .ok (.iload 6, 2) := by decide +kernel
theorem d_M_found_101 : decode b_M_found 101 = .ok (.imul, 1) := by decide +kernel
theorem d_M_found_102 : decode b_M_found 102 = .ok (.iadd, 1) := by decide +kernel
theorem d_M_found_103 : decode b_M_found 103 = .ok (.iload_n 3, 1) := by decide +kernel
theorem d_M_found_104 : decode b_M_found 104 = .ok (.iadd, 1) := by decide +kernel
theorem d_M_found_105 : decode b_M_found 105 = .ok (.istore 7, 2) := by decide +kernel
theorem d_M_found_107 : decode b_M_found 107 = .ok (.aload_n 0, 1) := by decide +kernel
theorem d_M_found_108 : decode b_M_found 108 = .ok (.iload 7, 2) := by decide +kernel
theorem d_M_found_110 : decode b_M_found 110 = .ok (.invokevirtual 136, 3) := by decide +kernel
theorem d_M_found_113 : decode b_M_found 113 = .ok (.iload 5, 2) := by decide +kernel
theorem d_M_found_115 : decode b_M_found 115 = .ok (.if_icmp .eq 14, 3) := by decide +kernel
theorem d_M_found_118 : decode b_M_found 118 = .ok (.aload_n 0, 1) := by decide +kernel
theorem d_M_found_119 : decode b_M_found 119 = .ok (.iload 7, 2) := by decide +kernel
theorem d_M_found_121 : decode b_M_found 121 = .ok (.invokevirtual 139, 3) := by decide +kernel
theorem d_M_found_124 : decode b_M_found 124 = .ok (.iload 5, 2) := by decide +kernel
theorem d_M_found_126 : decode b_M_found 126 = .ok (.if_icmp .ne 6, 3) := by decide +kernel
theorem d_M_found_129 : decode b_M_found 129 = .ok (.bipush (-3), 2) := by decide +kernel
theorem d_M_found_131 : decode b_M_found 131 = .ok (.ireturn, 1) := by decide +kernel
theorem d_M_found_132 : decode b_M_found 132 = .ok (.aload_n 0, 1) := by decide +kernel
theorem d_M_found_133 : decode b_M_found 133 = .ok (.iload 7, 2) := by decide +kernel
theorem d_M_found_135 : decode b_M_found 135 = .ok (.invokevirtual 139, 3) := by decide +kernel
theorem d_M_found_138 : decode b_M_found 138 = .ok (.iconst (-1), 1) := by decide +kernel
theorem d_M_found_139 : decode b_M_found 139 = .ok (.if_icmp .eq 6, 3) := by decide +kernel
theorem d_M_found_142 : decode b_M_found 142 = .ok (.bipush (-4), 2) := by decide +kernel
theorem d_M_found_144 : decode b_M_found 144 = .ok (.ireturn, 1) := by decide +kernel
theorem d_M_found_145 : decode b_M_found 145 = .ok (.aload_n 0, 1) := by decide +kernel
theorem d_M_found_146 : decode b_M_found 146 = .ok (.getfield 50, 3) := by decide +kernel
theorem d_M_found_149 : decode b_M_found 149 = .ok (.iload_n 1, 1) := by decide +kernel
theorem d_M_found_150 : decode b_M_found 150 = .ok (.dup2, 1) := by decide +kernel
theorem d_M_found_151 : decode b_M_found 151 = .ok (.iaload, 1) := by decide +kernel
theorem d_M_found_152 : decode b_M_found 152 = .ok (.iconst 1, 1) := by decide +kernel
theorem d_M_found_153 : decode b_M_found 153 = .ok (.iadd, 1) := by decide +kernel
theorem d_M_found_154 : decode b_M_found 154 = .ok (.iastore, 1) := by decide +kernel
theorem d_M_found_155 : decode b_M_found 155 = .ok (.aload_n 0, 1) := by decide +kernel
theorem d_M_found_156 : decode b_M_found 156 = .ok (.iload 7, 2) := by decide +kernel
theorem d_M_found_158 : decode b_M_found 158 = .ok (.invokevirtual 136, 3) := by decide +kernel
theorem d_M_found_161 : decode b_M_found 161 = .ok (.iconst (-1), 1) := by decide +kernel
theorem d_M_found_162 : decode b_M_found 162 = .ok (.if_icmp .ne 26, 3) := by decide +kernel
theorem d_M_found_165 : decode b_M_found 165 = .ok (.aload_n 0, 1) := by decide +kernel
theorem d_M_found_166 : decode b_M_found 166 = .ok (.getfield 59, 3) := by decide +kernel
theorem d_M_found_169 : decode b_M_found 169 = .ok (.iload 7, 2) := by decide +kernel
theorem d_M_found_171 : decode b_M_found 171 = .ok (.iload 4, 2) := by decide +kernel
theorem d_M_found_173 : decode b_M_found 173 = .ok (.iastore, 1) := by decide +kernel
theorem d_M_found_174 : decode b_M_found 174 = .ok (.aload_n 0, 1) := by decide +kernel
theorem d_M_found_175 : decode b_M_found 175 = .ok (.getfield 65, 3) := by decide +kernel
theorem d_M_found_178 : decode b_M_found 178 = .ok (.iload 7, 2) := by decide +kernel
theorem d_M_found_180 : decode b_M_found 180 = .ok (.iload 5, 2) := by decide +kernel
theorem d_M_found_182 : decode b_M_found 182 = .ok (.iconst 1, 1) := by decide +kernel
theorem d_M_found_183 : decode b_M_found 183 = .ok (.iadd, 1) := by decide +kernel
theorem d_M_found_184 : decode b_M_found 184 = .ok (.iastore, 1) := by decide +kernel
theorem d_M_found_185 : decode b_M_found 185 = .ok (.goto 29, 3) := by decide +kernel
theorem d_M_found_188 : decode b_M_found 188 = .ok (.aload_n 0, 1) := by decide +kernel
theorem d_M_found_189 : decode b_M_found 189 = .ok (.getfield 62, 3) := by decide +kernel
theorem d_M_found_192 : decode b_M_found 192 = .ok (.iload 7, 2) := by decide +kernel
theorem d_M_found_194 : decode b_M_found 194 = .ok (.iload 4, 2) := by decide +kernel
theorem d_M_found_196 : decode b_M_found 196 = .ok (.iastore, 1) := by decide +kernel
theorem d_M_found_197 : decode b_M_found 197 = .ok (.aload_n 0, 1) := by decide +kernel
theorem d_M_found_198 : decode b_M_found 198 = .ok (.getfield 65, 3) := by decide +kernel
theorem d_M_found_201 : decode b_M_found 201 = .ok (.iload 7, 2) := by decide +kernel
theorem d_M_found_203 : decode b_M_found 203 = .ok (.dup2, 1) := by decide +kernel
theorem d_M_found_204 : decode b_M_found 204 = .ok (.iaload, 1) := by decide +kernel
theorem d_M_found_205 : decode b_M_found 205 = .ok (.bipush 10, 2) := by decide +kernel
theorem d_M_found_207 : decode b_M_found 207 = .ok (.iload 5, 2) := by decide +kernel
theorem d_M_found_209 : decode b_M_found 209 = .ok (.iconst 1, 1) := by decide +kernel
theorem d_M_found_210 : decode b_M_found 210 = .ok (.iadd, 1) := by decide +kernel
theorem d_M_found_211 : decode b_M_found 211 = .ok (.imul, 1) := by decide +kernel
theorem d_M_found_212 : decode b_M_found 212 = .ok (.iadd, 1) := by decide +kernel
theorem d_M_found_213 : decode b_M_found 213 = .ok (.iastore, 1) := by decide +kernel
theorem d_M_found_214 : decode b_M_found 214 = .ok (.iconst 1, 1) := by decide +kernel
theorem d_M_found_215 : decode b_M_found 215 = .ok (.ireturn, 1) := by decide +kernel
theorem d_M_firstBy_0 : decode b_M_firstBy 0 = .ok (.aload_n 0, 1) := by decide +kernel
theorem d_M_firstBy_1 : decode b_M_firstBy 1 = .ok (.getfield 65, 3) := by decide +kernel
theorem d_M_firstBy_4 : decode b_M_firstBy 4 = .ok (.iload_n 1, 1) := by decide +kernel
theorem d_M_firstBy_5 : decode b_M_firstBy 5 = .ok (.iaload, 1) := by decide +kernel
theorem d_M_firstBy_6 : decode b_M_firstBy 6 = .ok (.bipush 10, 2) := by decide +kernel
theorem d_M_firstBy_8 : decode b_M_firstBy 8 = .ok (.irem, 1) := by decide +kernel
theorem d_M_firstBy_9 : decode b_M_firstBy 9 = .ok (.iconst 1, 1) := by decide +kernel
theorem d_M_firstBy_10 : decode b_M_firstBy 10 = .ok (.isub, 1) := by decide +kernel
theorem d_M_firstBy_11 : decode b_M_firstBy 11 = .ok (.ireturn, 1) := by decide +kernel
theorem d_M_secondBy_0 : decode b_M_secondBy 0 = .ok (.aload_n 0, 1) := by decide +kernel
theorem d_M_secondBy_1 : decode b_M_secondBy 1 = .ok (.getfield 65, 3) := by decide +kernel
theorem d_M_secondBy_4 : decode b_M_secondBy 4 = .ok (.iload_n 1, 1) := by decide +kernel
theorem d_M_secondBy_5 : decode b_M_secondBy 5 = .ok (.iaload, 1) := by decide +kernel
theorem d_M_secondBy_6 : decode b_M_secondBy 6 = .ok (.bipush 10, 2) := by decide +kernel
theorem d_M_secondBy_8 : decode b_M_secondBy 8 = .ok (.idiv, 1) := by decide +kernel
theorem d_M_secondBy_9 : decode b_M_secondBy 9 = .ok (.iconst 1, 1) := by decide +kernel
theorem d_M_secondBy_10 : decode b_M_secondBy 10 = .ok (.isub, 1) := by decide +kernel
theorem d_M_secondBy_11 : decode b_M_secondBy 11 = .ok (.ireturn, 1) := by decide +kernel
theorem d_M_far_0 : decode b_M_far 0 = .ok (.iload_n 0, 1) := by decide +kernel
theorem d_M_far_1 : decode b_M_far 1 = .ok (.iload_n 1, 1) := by decide +kernel
theorem d_M_far_2 : decode b_M_far 2 = .ok (.if_icmp .le 9, 3) := by decide +kernel
theorem d_M_far_5 : decode b_M_far 5 = .ok (.iload_n 0, 1) := by decide +kernel
theorem d_M_far_6 : decode b_M_far 6 = .ok (.iload_n 1, 1) := by decide +kernel
theorem d_M_far_7 : decode b_M_far 7 = .ok (.isub, 1) := by decide +kernel
theorem d_M_far_8 : decode b_M_far 8 = .ok (.goto 6, 3) := by decide +kernel
theorem d_M_far_11 : decode b_M_far 11 = .ok (.iload_n 1, 1) := by decide +kernel
theorem d_M_far_12 : decode b_M_far 12 = .ok (.iload_n 0, 1) := by decide +kernel
theorem d_M_far_13 : decode b_M_far 13 = .ok (.isub, 1) := by decide +kernel
theorem d_M_far_14 : decode b_M_far 14 = .ok (.ireturn, 1) := by decide +kernel
theorem d_M_second_0 : decode b_M_second 0 = .ok (.aload_n 0, 1) := by decide +kernel
theorem d_M_second_1 : decode b_M_second 1 = .ok (.aload_n 0, 1) := by decide +kernel
theorem d_M_second_2 : decode b_M_second 2 = .ok (.iload_n 1, 1) := by decide +kernel
theorem d_M_second_3 : decode b_M_second 3 = .ok (.invokevirtual 126, 3) := by decide +kernel
theorem d_M_second_6 : decode b_M_second 6 = .ok (.ifCond .eq 11, 3) := by decide +kernel
theorem d_M_second_9 : decode b_M_second 9 = .ok (.aload_n 0, 1) := by decide +kernel
theorem d_M_second_10 : decode b_M_second 10 = .ok (.iload_n 2, 1) := by decide +kernel
theorem d_M_second_11 : decode b_M_second 11 = .ok (.invokevirtual 88, 3) := by decide +kernel
theorem d_M_second_14 : decode b_M_second 14 = .ok (.ifCond .ne 7, 3) := by decide +kernel
theorem d_M_second_17 : decode b_M_second 17 = .ok (.iconst 1, 1) := by decide +kernel
theorem d_M_second_18 : decode b_M_second 18 = .ok (.goto 4, 3) := by decide +kernel
theorem d_M_second_21 : decode b_M_second 21 = .ok (.iconst 0, 1) := by decide +kernel
theorem d_M_second_22 : decode b_M_second 22 = .ok (.putfield 74, 3) := by decide +kernel
theorem d_M_second_25 : decode b_M_second 25 = .ok (.aload_n 0, 1) := by decide +kernel
theorem d_M_second_26 : decode b_M_second 26 = .ok (.getfield 74, 3) := by decide +kernel
theorem d_M_second_29 : decode b_M_second 29 = .ok (.ifCond .le 7, 3) := by decide +kernel
theorem d_M_second_32 : decode b_M_second 32 = .ok (.iconst (-1), 1) := by decide +kernel
theorem d_M_second_33 : decode b_M_second 33 = .ok (.goto 9, 3) := by decide +kernel
theorem d_M_second_36 : decode b_M_second 36 = .ok (.aload_n 0, 1) := by decide +kernel
theorem d_M_second_37 : decode b_M_second 37 = .ok (.iload_n 1, 1) := by decide +kernel
theorem d_M_second_38 : decode b_M_second 38 = .ok (.iload_n 2, 1) := by decide +kernel
theorem d_M_second_39 : decode b_M_second 39 = .ok (.invokevirtual 133, 3) := by decide +kernel
theorem d_M_second_42 : decode b_M_second 42 = .ok (.istore 4, 2) := by decide +kernel
theorem d_M_second_44 : decode b_M_second 44 = .ok (.aload_n 0, 1) := by decide +kernel
theorem d_M_second_45 : decode b_M_second 45 = .ok (.iload 4, 2) := by decide +kernel
theorem d_M_second_47 : decode b_M_second 47 = .ok (.iconst (-1), 1) := by decide +kernel
theorem d_M_second_48 : decode b_M_second 48 = .ok (.if_icmp .ne 7, 3) := by decide +kernel
theorem d_M_second_51 : decode b_M_second 51 = .ok (.iconst 1, 1) := by decide +kernel
theorem d_M_second_52 : decode b_M_second 52 = .ok (.goto 29, 3) := by decide +kernel
theorem d_M_second_55 : decode b_M_second 55 = .ok (.iload_n 3, 1) := by decide +kernel
theorem d_M_second_56 : decode b_M_second 56 = .ok (.invokestatic 92, 3) := by decide +kernel
theorem d_M_second_59 : decode b_M_second 59 = .ok (.ifCond .ne 7, 3) := by decide +kernel
theorem d_M_second_62 : decode b_M_second 62 = .ok (.iconst 2, 1) := by decide +kernel
theorem d_M_second_63 : decode b_M_second 63 = .ok (.goto 18, 3) := by decide +kernel
theorem d_M_second_66 : decode b_M_second 66 = .ok (.aload_n 0, 1) := by decide +kernel
theorem d_M_second_67 : decode b_M_second 67 = .ok (.getfield 44, 3) := by decide +kernel
theorem d_M_second_70 : decode b_M_second 70 = .ok (.iload_n 1, 1) := by decide +kernel
theorem d_M_second_71 : decode b_M_second 71 = .ok (.iaload, 1) := by decide +kernel
theorem d_M_second_72 : decode b_M_second 72 = .ok (.iconst 1, 1) := by decide +kernel
theorem d_M_second_73 : decode b_M_second 73 = .ok (.if_icmp .eq 7, 3) := by decide +kernel
theorem d_M_second_76 : decode b_M_second 76 = .ok (.iconst 3, 1) := by decide +kernel
theorem d_M_second_77 : decode b_M_second 77 = .ok (.goto 4, 3) := by decide +kernel
theorem d_M_second_80 : decode b_M_second 80 = .ok (.iconst 0, 1) := by decide +kernel
theorem d_M_second_81 : decode b_M_second 81 = .ok (.putfield 74, 3) := by decide +kernel
theorem d_M_second_84 : decode b_M_second 84 = .ok (.aload_n 0, 1) := by decide +kernel
theorem d_M_second_85 : decode b_M_second 85 = .ok (.getfield 74, 3) := by decide +kernel
theorem d_M_second_88 : decode b_M_second 88 = .ok (.ifCond .le 5, 3) := by decide +kernel
theorem d_M_second_91 : decode b_M_second 91 = .ok (.iconst 0, 1) := by decide +kernel
theorem d_M_second_92 : decode b_M_second 92 = .ok (.ireturn, 1) := by decide +kernel
theorem d_M_second_93 : decode b_M_second 93 = .ok (.bipush 120, 2) := by decide +kernel
theorem d_M_second_95 : decode b_M_second 95 = .ok (.iload_n 1, 1) := by decide +kernel
theorem d_M_second_96 : decode b_M_second 96 = .ok (.imul, 1) := by decide +kernel
theorem d_M_second_97 : decode b_M_second 97 = .ok (.bipush 6, 2) := by decide +kernel
theorem d_M_second_99 : decode b_M_second 99 = .ok (.iload 4, 2) := by decide +kernel
theorem d_M_second_101 : decode b_M_second 101 = .ok (.imul, 1) := by decide +kernel
theorem d_M_second_102 : decode b_M_second 102 = .ok (.iadd, 1) := by decide +kernel
theorem d_M_second_103 : decode b_M_second 103 = .ok (.iload_n 3, 1) := by decide +kernel
theorem d_M_second_104 : decode b_M_second 104 = .ok (.iadd, 1) := by decide +kernel
theorem d_M_second_105 : decode b_M_second 105 = .ok (.istore 5, 2) := by decide +kernel
theorem d_M_second_107 : decode b_M_second 107 = .ok (.aload_n 0, 1) := by decide +kernel
theorem d_M_second_108 : decode b_M_second 108 = .ok (.iload 5, 2) := by decide +kernel
theorem d_M_second_110 : decode b_M_second 110 = .ok (.invokevirtual 136, 3) := by decide +kernel
theorem d_M_second_113 : decode b_M_second 113 = .ok (.iconst (-1), 1) := by decide +kernel
theorem d_M_second_114 : decode b_M_second 114 = .ok (.if_icmp .eq 48, 3) := by decide +kernel
theorem d_M_second_117 : decode b_M_second 117 = .ok (.aload_n 0, 1) := by decide +kernel
theorem d_M_second_118 : decode b_M_second 118 = .ok (.iload 5, 2) := by decide +kernel
theorem d_M_second_120 : decode b_M_second 120 = .ok (.invokevirtual 139, 3) := by decide +kernel
theorem d_M_second_123 : decode b_M_second 123 = .ok (.iconst (-1), 1) := by decide +kernel
theorem d_M_second_124 : decode b_M_second 124 = .ok (.if_icmp .ne 38, 3) := by decide +kernel
theorem d_M_second_127 : decode b_M_second 127 = .ok (.aload_n 0, 1) := by decide +kernel
theorem d_M_second_128 : decode b_M_second 128 = .ok (.getfield 59, 3) := by decide +kernel
theorem d_M_second_131 : decode b_M_second 131 = .ok (.iload 5, 2) := by decide +kernel
theorem d_M_second_133 : decode b_M_second 133 = .ok (.iaload, 1) := by decide +kernel
theorem d_M_second_134 : decode b_M_second 134 = .ok (.aload_n 0, 1) := by decide +kernel
theorem d_M_second_135 : decode b_M_second 135 = .ok (.getfield 56, 3) := by decide +kernel
theorem d_M_second_138 : decode b_M_second 138 = .ok (.iload 5, 2) := by decide +kernel
theorem d_M_second_140 : decode b_M_second 140 = .ok (.iaload, 1) := by decide +kernel
theorem d_M_second_141 : decode b_M_second 141 = .ok (.invokestatic 142, 3) := by decide +kernel
theorem d_M_second_144 : decode b_M_second 144 = .ok (.aload_n 0, 1) := by decide +kernel
theorem d_M_second_145 : decode b_M_second 145 = .ok (.getfield 22, 3) := by decide +kernel
theorem d_M_second_148 : decode b_M_second 148 = .ok (.aload_n 0, 1) := by decide +kernel
theorem d_M_second_149 : decode b_M_second 149 = .ok (.getfield 7, 3) := by decide +kernel
theorem d_M_second_152 : decode b_M_second 152 = .ok (.iload_n 2, 1) := by decide +kernel
theorem d_M_second_153 : decode b_M_second 153 = .ok (.iaload, 1) := by decide +kernel
theorem d_M_second_154 : decode b_M_second 154 = .ok (.iaload, 1) := by decide +kernel
theorem d_M_second_155 : decode b_M_second 155 = .ok (.if_icmp .le 7, 3) := by decide +kernel
theorem d_M_second_158 : decode b_M_second 158 = .ok (.iconst 1, 1) := by decide +kernel
theorem d_M_second_159 : decode b_M_second 159 = .ok (.goto 4, 3) := by decide +kernel
theorem d_M_second_162 : decode b_M_second 162 = .ok (.iconst 0, 1) := by decide +kernel
theorem d_M_second_163 : decode b_M_second 163 = .ok (.ireturn, 1) := by decide +kernel
theorem d_M_close_0 : decode b_M_close 0 = .ok (.aload_n 0, 1) := by decide +kernel
theorem d_M_close_1 : decode b_M_close 1 = .ok (.aload_n 0, 1) := by decide +kernel
theorem d_M_close_2 : decode b_M_close 2 = .ok (.iload_n 1, 1) := by decide +kernel
theorem d_M_close_3 : decode b_M_close 3 = .ok (.invokevirtual 126, 3) := by decide +kernel
theorem d_M_close_6 : decode b_M_close 6 = .ok (.ifCond .ne 7, 3) := by decide +kernel
theorem d_M_close_9 : decode b_M_close 9 = .ok (.iconst 1, 1) := by decide +kernel
theorem d_M_close_10 : decode b_M_close 10 = .ok (.goto 4, 3) := by decide +kernel
theorem d_M_close_13 : decode b_M_close 13 = .ok (.iconst 0, 1) := by decide +kernel
theorem d_M_close_14 : decode b_M_close 14 = .ok (.putfield 74, 3) := by decide +kernel
theorem d_M_close_17 : decode b_M_close 17 = .ok (.aload_n 0, 1) := by decide +kernel
theorem d_M_close_18 : decode b_M_close 18 = .ok (.getfield 74, 3) := by decide +kernel
theorem d_M_close_21 : decode b_M_close 21 = .ok (.ifCond .ne 22, 3) := by decide +kernel
theorem d_M_close_24 : decode b_M_close 24 = .ok (.aload_n 0, 1) := by decide +kernel
theorem d_M_close_25 : decode b_M_close 25 = .ok (.aload_n 0, 1) := by decide +kernel
theorem d_M_close_26 : decode b_M_close 26 = .ok (.getfield 44, 3) := by decide +kernel
theorem d_M_close_29 : decode b_M_close 29 = .ok (.iload_n 1, 1) := by decide +kernel
theorem d_M_close_30 : decode b_M_close 30 = .ok (.iaload, 1) := by decide +kernel
theorem d_M_close_31 : decode b_M_close 31 = .ok (.iconst 1, 1) := by decide +kernel
theorem d_M_close_32 : decode b_M_close 32 = .ok (.if_icmp .eq 7, 3) := by decide +kernel
theorem d_M_close_35 : decode b_M_close 35 = .ok (.iconst 2, 1) := by decide +kernel
theorem d_M_close_36 : decode b_M_close 36 = .ok (.goto 4, 3) := by decide +kernel
theorem d_M_close_39 : decode b_M_close 39 = .ok (.iconst 0, 1) := by decide +kernel
theorem d_M_close_40 : decode b_M_close 40 = .ok (.putfield 74, 3) := by decide +kernel
theorem d_M_close_43 : decode b_M_close 43 = .ok (.aload_n 0, 1) := by decide +kernel
theorem d_M_close_44 : decode b_M_close 44 = .ok (.getfield 74, 3) := by decide +kernel
theorem d_M_close_47 : decode b_M_close 47 = .ok (.ifCond .le 5, 3) := by decide +kernel
theorem d_M_close_50 : decode b_M_close 50 = .ok (.iconst 0, 1) := by decide +kernel
theorem d_M_close_51 : decode b_M_close 51 = .ok (.ireturn, 1) := by decide +kernel
theorem d_M_close_52 : decode b_M_close 52 = .ok (.aload_n 0, 1) := by decide +kernel
theorem d_M_close_53 : decode b_M_close 53 = .ok (.getfield 44, 3) := by decide +kernel
theorem d_M_close_56 : decode b_M_close 56 = .ok (.iload_n 1, 1) := by decide +kernel
theorem d_M_close_57 : decode b_M_close 57 = .ok (.iconst 2, 1) := by decide +kernel
theorem d_M_close_58 : decode b_M_close 58 = .ok (.iastore, 1) := by decide +kernel
theorem d_M_close_59 : decode b_M_close 59 = .ok (.iconst 0, 1) := by decide +kernel
theorem d_M_close_60 : decode b_M_close 60 = .ok (.istore_n 2, 1) := by decide +kernel
theorem d_M_close_61 : decode b_M_close 61 = .ok (.iload_n 2, 1) := by decide +kernel
theorem d_M_close_62 : decode b_M_close 62 = .ok (.aload_n 0, 1) := by decide +kernel
theorem d_M_close_63 : decode b_M_close 63 = .ok (.getfield 47, 3) := by decide +kernel
theorem d_M_close_66 : decode b_M_close 66 = .ok (.iload_n 1, 1) := by decide +kernel
theorem d_M_close_67 : decode b_M_close 67 = .ok (.iaload, 1) := by decide +kernel
theorem d_M_close_68 : decode b_M_close 68 = .ok (.if_icmp .ge 15, 3) := by decide +kernel
theorem d_M_close_71 : decode b_M_close 71 = .ok (.aload_n 0, 1) := by decide +kernel
theorem d_M_close_72 : decode b_M_close 72 = .ok (.iload_n 1, 1) := by decide +kernel
theorem d_M_close_73 : decode b_M_close 73 = .ok (.iload_n 2, 1) := by decide +kernel
theorem d_M_close_74 : decode b_M_close 74 = .ok (.invokevirtual 145, 3) := by decide +kernel
theorem d_M_close_77 : decode b_M_close 77 = .ok (.iinc 2 1, 3) := by decide +kernel
theorem d_M_close_80 : decode b_M_close 80 = .ok (.goto (-19), 3) := by decide +kernel
theorem d_M_close_83 : decode b_M_close 83 = .ok (.iconst 0, 1) := by decide +kernel
theorem d_M_close_84 : decode b_M_close 84 = .ok (.istore_n 2, 1) := by decide +kernel
theorem d_M_close_85 : decode b_M_close 85 = .ok (.aload_n 0, 1) := by decide +kernel
theorem d_M_close_86 : decode b_M_close 86 = .ok (.iload_n 1, 1) := by decide +kernel
theorem d_M_close_87 : decode b_M_close 87 = .ok (.iload_n 2, 1) := by decide +kernel
theorem d_M_close_88 : decode b_M_close 88 = .ok (.invokevirtual 149, 3) := by decide +kernel
theorem d_M_close_91 : decode b_M_close 91 = .ok (.iconst (-1), 1) := by decide +kernel
theorem d_M_close_92 : decode b_M_close 92 = .ok (.if_icmp .eq 9, 3) := by decide +kernel
theorem d_M_close_95 : decode b_M_close 95 = .ok (.iinc 2 1, 3) := by decide +kernel
theorem d_M_close_98 : decode b_M_close 98 = .ok (.goto (-13), 3) := by decide +kernel
theorem d_M_close_101 : decode b_M_close 101 = .ok (.iload_n 2, 1) := by decide +kernel
theorem d_M_close_102 : decode b_M_close 102 = .ok (.ireturn, 1) := by decide +kernel
theorem d_M_counts_0 : decode b_M_counts 0 = .ok (.aload_n 0, 1) := by decide +kernel
theorem d_M_counts_1 : decode b_M_counts 1 = .ok (.iload_n 1, 1) := by decide +kernel
theorem d_M_counts_2 : decode b_M_counts 2 = .ok (.invokevirtual 139, 3) := by decide +kernel
theorem d_M_counts_5 : decode b_M_counts 5 = .ok (.iconst (-1), 1) := by decide +kernel
theorem d_M_counts_6 : decode b_M_counts 6 = .ok (.if_icmp .eq 12, 3) := by decide +kernel
theorem d_M_counts_9 : decode b_M_counts 9 = .ok (.aload_n 0, 1) := by decide +kernel
theorem d_M_counts_10 : decode b_M_counts 10 = .ok (.getfield 62, 3) := by decide +kernel
theorem d_M_counts_13 : decode b_M_counts 13 = .ok (.iload_n 1, 1) := by decide +kernel
theorem d_M_counts_14 : decode b_M_counts 14 = .ok (.iaload, 1) := by decide +kernel
theorem d_M_counts_15 : decode b_M_counts 15 = .ok (.goto 22, 3) := by decide +kernel
theorem d_M_counts_18 : decode b_M_counts 18 = .ok (.aload_n 0, 1) := by decide +kernel
theorem d_M_counts_19 : decode b_M_counts 19 = .ok (.iload_n 1, 1) := by decide +kernel
theorem d_M_counts_20 : decode b_M_counts 20 = .ok (.invokevirtual 136, 3) := by decide +kernel
theorem d_M_counts_23 : decode b_M_counts 23 = .ok (.iconst (-1), 1) := by decide +kernel
theorem d_M_counts_24 : decode b_M_counts 24 = .ok (.if_icmp .eq 12, 3) := by decide +kernel
theorem d_M_counts_27 : decode b_M_counts 27 = .ok (.aload_n 0, 1) := by decide +kernel
theorem d_M_counts_28 : decode b_M_counts 28 = .ok (.getfield 59, 3) := by decide +kernel
theorem d_M_counts_31 : decode b_M_counts 31 = .ok (.iload_n 1, 1) := by decide +kernel
theorem d_M_counts_32 : decode b_M_counts 32 = .ok (.iaload, 1) := by decide +kernel
theorem d_M_counts_33 : decode b_M_counts 33 = .ok (.goto 4, 3) := by decide +kernel
theorem d_M_counts_36 : decode b_M_counts 36 = .ok (.iconst 0, 1) := by decide +kernel
theorem d_M_counts_37 : decode b_M_counts 37 = .ok (.ireturn, 1) := by decide +kernel
theorem d_M_isTold_0 : decode b_M_isTold 0 = .ok (.iconst 0, 1) := by decide +kernel
theorem d_M_isTold_1 : decode b_M_isTold 1 = .ok (.istore_n 3, 1) := by decide +kernel
theorem d_M_isTold_2 : decode b_M_isTold 2 = .ok (.iconst 0, 1) := by decide +kernel
theorem d_M_isTold_3 : decode b_M_isTold 3 = .ok (.istore 4, 2) := by decide +kernel
theorem d_M_isTold_5 : decode b_M_isTold 5 = .ok (.iload 4, 2) := by decide +kernel
theorem d_M_isTold_7 : decode b_M_isTold 7 = .ok (.bipush 6, 2) := by decide +kernel
theorem d_M_isTold_9 : decode b_M_isTold 9 = .ok (.if_icmp .ge 39, 3) := by decide +kernel
theorem d_M_isTold_12 : decode b_M_isTold 12 = .ok (.iload_n 3, 1) := by decide +kernel
theorem d_M_isTold_13 : decode b_M_isTold 13 = .ok (.ifCond .ne 23, 3) := by decide +kernel
theorem d_M_isTold_16 : decode b_M_isTold 16 = .ok (.aload_n 0, 1) := by decide +kernel
theorem d_M_isTold_17 : decode b_M_isTold 17 = .ok (.getfield 65, 3) := by decide +kernel
theorem d_M_isTold_20 : decode b_M_isTold 20 = .ok (.bipush 120, 2) := by decide +kernel
theorem d_M_isTold_22 : decode b_M_isTold 22 = .ok (.iload_n 1, 1) := by decide +kernel
theorem d_M_isTold_23 : decode b_M_isTold 23 = .ok (.imul, 1) := by decide +kernel
theorem d_M_isTold_24 : decode b_M_isTold 24 = .ok (.bipush 6, 2) := by decide +kernel
theorem d_M_isTold_26 : decode b_M_isTold 26 = .ok (.iload_n 2, 1) := by decide +kernel
theorem d_M_isTold_27 : decode b_M_isTold 27 = .ok (.imul, 1) := by decide +kernel
theorem d_M_isTold_28 : decode b_M_isTold 28 = .ok (.iadd, 1) := by decide +kernel
theorem d_M_isTold_29 : decode b_M_isTold 29 = .ok (.iload 4, 2) := by decide +kernel
theorem d_M_isTold_31 : decode b_M_isTold 31 = .ok (.iadd, 1) := by decide +kernel
theorem d_M_isTold_32 : decode b_M_isTold 32 = .ok (.iaload, 1) := by decide +kernel
theorem d_M_isTold_33 : decode b_M_isTold 33 = .ok (.ifCond .le 7, 3) := by decide +kernel
theorem d_M_isTold_36 : decode b_M_isTold 36 = .ok (.iconst 1, 1) := by decide +kernel
theorem d_M_isTold_37 : decode b_M_isTold 37 = .ok (.goto 4, 3) := by decide +kernel
theorem d_M_isTold_40 : decode b_M_isTold 40 = .ok (.iconst 0, 1) := by decide +kernel
theorem d_M_isTold_41 : decode b_M_isTold 41 = .ok (.istore_n 3, 1) := by decide +kernel
theorem d_M_isTold_42 : decode b_M_isTold 42 = .ok (.iinc 4 1, 3) := by decide +kernel
theorem d_M_isTold_45 : decode b_M_isTold 45 = .ok (.goto (-40), 3) := by decide +kernel
theorem d_M_isTold_48 : decode b_M_isTold 48 = .ok (.iload_n 3, 1) := by decide +kernel
theorem d_M_isTold_49 : decode b_M_isTold 49 = .ok (.ireturn, 1) := by decide +kernel
theorem d_M_closePlace_0 : decode b_M_closePlace 0 = .ok (.aload_n 0, 1) := by decide +kernel
theorem d_M_closePlace_1 : decode b_M_closePlace 1 = .ok (.iload_n 1, 1) := by decide +kernel
theorem d_M_closePlace_2 : decode b_M_closePlace 2 = .ok (.iload_n 2, 1) := by decide +kernel
theorem d_M_closePlace_3 : decode b_M_closePlace 3 = .ok (.invokevirtual 152, 3) := by decide +kernel
theorem d_M_closePlace_6 : decode b_M_closePlace 6 = .ok (.ifCond .ne 4, 3) := by decide +kernel
theorem d_M_closePlace_9 : decode b_M_closePlace 9 = .ok (.return_, 1) := by decide +kernel
theorem d_M_closePlace_10 : decode b_M_closePlace 10 = .ok (.aload_n 0, 1) := by decide +kernel
theorem d_M_closePlace_11 : decode b_M_closePlace 11 = .ok (.getfield 53, 3) := by decide +kernel
theorem d_M_closePlace_14 : decode b_M_closePlace 14 = .ok (.bipush 20, 2) := by decide +kernel
theorem d_M_closePlace_16 : decode b_M_closePlace 16 = .ok (.iload_n 1, 1) := by decide +kernel
theorem d_M_closePlace_17 : decode b_M_closePlace 17 = .ok (.imul, 1) := by decide +kernel
theorem d_M_closePlace_18 : decode b_M_closePlace 18 = .ok (.iload_n 2, 1) := by decide +kernel
theorem d_M_closePlace_19 : decode b_M_closePlace 19 = .ok (.iadd, 1) := by decide +kernel
theorem d_M_closePlace_20 : decode b_M_closePlace 20 = .ok (.iaload, 1) := by decide +kernel
theorem d_M_closePlace_21 : decode b_M_closePlace 21 = .ok (.istore_n 3, 1) := by decide +kernel
theorem d_M_closePlace_22 : decode b_M_closePlace 22 = .ok (.iconst 1, 1) := by decide +kernel
theorem d_M_closePlace_23 : decode b_M_closePlace 23 = .ok (.istore 4, 2) := by decide +kernel
theorem d_M_closePlace_25 : decode b_M_closePlace 25 = .ok (.iconst 0, 1) := by decide +kernel
theorem d_M_closePlace_26 : decode b_M_closePlace 26 = .ok (.istore 5, 2) := by decide +kernel
theorem d_M_closePlace_28 : decode b_M_closePlace 28 = .ok (.iload 5, 2) := by decide +kernel
theorem d_M_closePlace_30 : decode b_M_closePlace 30 = .ok (.bipush 6, 2) := by decide +kernel
theorem d_M_closePlace_32 : decode b_M_closePlace 32 = .ok (.if_icmp .ge 65, 3) := by decide +kernel
theorem d_M_closePlace_35 : decode b_M_closePlace 35 = .ok (.bipush 120, 2) := by decide +kernel
theorem d_M_closePlace_37 : decode b_M_closePlace 37 = .ok (.iload_n 1, 1) := by decide +kernel
theorem d_M_closePlace_38 : decode b_M_closePlace 38 = .ok (.imul, 1) := by decide +kernel
theorem d_M_closePlace_39 : decode b_M_closePlace 39 = .ok (.bipush 6, 2) := by decide +kernel
theorem d_M_closePlace_41 : decode b_M_closePlace 41 = .ok (.iload_n 2, 1) := by decide +kernel
theorem d_M_closePlace_42 : decode b_M_closePlace 42 = .ok (.imul, 1) := by decide +kernel
theorem d_M_closePlace_43 : decode b_M_closePlace 43 = .ok (.iadd, 1) := by decide +kernel
theorem d_M_closePlace_44 : decode b_M_closePlace 44 = .ok (.iload 5, 2) := by decide +kernel
theorem d_M_closePlace_46 : decode b_M_closePlace 46 = .ok (.iadd, 1) := by decide +kernel
theorem d_M_closePlace_47 : decode b_M_closePlace 47 = .ok (.istore 6, 2) := by decide +kernel
theorem d_M_closePlace_49 : decode b_M_closePlace 49 = .ok (.iload 4, 2) := by decide +kernel
theorem d_M_closePlace_51 : decode b_M_closePlace 51 = .ok (.ifCond .eq 37, 3) := by decide +kernel
theorem d_M_closePlace_54 : decode b_M_closePlace 54 = .ok (.aload_n 0, 1) := by decide +kernel
theorem d_M_closePlace_55 : decode b_M_closePlace 55 = .ok (.iload 6, 2) := by decide +kernel
theorem d_M_closePlace_57 : decode b_M_closePlace 57 = .ok (.invokevirtual 156, 3) := by decide +kernel
theorem d_M_closePlace_60 : decode b_M_closePlace 60 = .ok (.aload_n 0, 1) := by decide +kernel
theorem d_M_closePlace_61 : decode b_M_closePlace 61 = .ok (.getfield 56, 3) := by decide +kernel
theorem d_M_closePlace_64 : decode b_M_closePlace 64 = .ok (.iload 6, 2) := by decide +kernel
theorem d_M_closePlace_66 : decode b_M_closePlace 66 = .ok (.iaload, 1) := by decide +kernel
theorem d_M_closePlace_67 : decode b_M_closePlace 67 = .ok (.invokestatic 142, 3) := by decide +kernel
theorem d_M_closePlace_70 : decode b_M_closePlace 70 = .ok (.aload_n 0, 1) := by decide +kernel
theorem d_M_closePlace_71 : decode b_M_closePlace 71 = .ok (.getfield 22, 3) := by decide +kernel
theorem d_M_closePlace_74 : decode b_M_closePlace 74 = .ok (.aload_n 0, 1) := by decide +kernel
theorem d_M_closePlace_75 : decode b_M_closePlace 75 = .ok (.getfield 7, 3) := by decide +kernel
theorem d_M_closePlace_78 : decode b_M_closePlace 78 = .ok (.iload_n 3, 1) := by decide +kernel
theorem d_M_closePlace_79 : decode b_M_closePlace 79 = .ok (.iaload, 1) := by decide +kernel
theorem d_M_closePlace_80 : decode b_M_closePlace 80 = .ok (.iaload, 1) := by decide +kernel
theorem d_M_closePlace_81 : decode b_M_closePlace 81 = .ok (.if_icmp .gt 7, 3) := by decide +kernel
theorem d_M_closePlace_84 : decode b_M_closePlace 84 = .ok (.iconst 1, 1) := by decide +kernel
theorem d_M_closePlace_85 : decode b_M_closePlace 85 = .ok (.goto 4, 3) := by decide +kernel
theorem d_M_closePlace_88 : decode b_M_closePlace 88 = .ok (.iconst 0, 1) := by decide +kernel
theorem d_M_closePlace_89 : decode b_M_closePlace 89 = .ok (.istore 4, 2) := by decide +kernel
theorem d_M_closePlace_91 : decode b_M_closePlace 91 = .ok (.iinc 5 1, 3) := by decide +kernel
theorem d_M_closePlace_94 : decode b_M_closePlace 94 = .ok (.goto (-66), 3) := by decide +kernel
theorem d_M_closePlace_97 : decode b_M_closePlace 97 = .ok (.aload_n 0, 1) := by decide +kernel
theorem d_M_closePlace_98 : decode b_M_closePlace 98 = .ok (.getfield 13, 3) := by decide +kernel
theorem d_M_closePlace_101 : decode b_M_closePlace 101 = .ok (.iload_n 3, 1) := by decide +kernel
theorem d_M_closePlace_102 : decode b_M_closePlace 102 = .ok (.aload_n 0, 1) := by decide +kernel
theorem d_M_closePlace_103 : decode b_M_closePlace 103 = .ok (.getfield 102, 3) := by decide +kernel
theorem d_M_closePlace_106 : decode b_M_closePlace 106 = .ok (.iastore, 1) := by decide +kernel
theorem d_M_closePlace_107 : decode b_M_closePlace 107 = .ok (.aload_n 0, 1) := by decide +kernel
theorem d_M_closePlace_108 : decode b_M_closePlace 108 = .ok (.dup, 1) := by decide +kernel
theorem d_M_closePlace_109 : decode b_M_closePlace 109 = .ok (.getfield 158, 3) := by decide +kernel
theorem d_M_closePlace_112 : decode b_M_closePlace 112 = .ok (.iconst 1, 1) := by decide +kernel
theorem d_M_closePlace_113 : decode b_M_closePlace 113 = .ok (.iadd, 1) := by decide +kernel
theorem d_M_closePlace_114 : decode b_M_closePlace 114 = .ok (.putfield 158, 3) := by decide +kernel
theorem d_M_closePlace_117 : decode b_M_closePlace 117 = .ok (.aload_n 0, 1) := by decide +kernel
theorem d_M_closePlace_118 : decode b_M_closePlace 118 = .ok (.dup, 1) := by decide +kernel
theorem d_M_closePlace_119 : decode b_M_closePlace 119 = .ok (.getfield 161, 3) := by decide +kernel
theorem d_M_closePlace_122 : decode b_M_closePlace 122 = .ok (.iload 4, 2) := by decide +kernel
theorem d_M_closePlace_124 : decode b_M_closePlace 124 = .ok (.ifCond .eq 7, 3) := by decide +kernel
theorem d_M_closePlace_127 : decode b_M_closePlace 127 = .ok (.iconst 1, 1) := by decide +kernel
theorem d_M_closePlace_128 : decode b_M_closePlace 128 = .ok (.goto 4, 3) := by decide +kernel
theorem d_M_closePlace_131 : decode b_M_closePlace 131 = .ok (.iconst 0, 1) := by decide +kernel
theorem d_M_closePlace_132 : decode b_M_closePlace 132 = .ok (.iadd, 1) := by decide +kernel
theorem d_M_closePlace_133 : decode b_M_closePlace 133 = .ok (.putfield 161, 3) := by decide +kernel
theorem d_M_closePlace_136 : decode b_M_closePlace 136 = .ok (.return_, 1) := by decide +kernel
theorem d_M_difference_0 : decode b_M_difference 0 = .ok (.iload_n 2, 1) := by decide +kernel
theorem d_M_difference_1 : decode b_M_difference 1 = .ok (.istore_n 3, 1) := by decide +kernel
theorem d_M_difference_2 : decode b_M_difference 2 = .ok (.iconst 0, 1) := by decide +kernel
theorem d_M_difference_3 : decode b_M_difference 3 = .ok (.istore 4, 2) := by decide +kernel
theorem d_M_difference_5 : decode b_M_difference 5 = .ok (.iload 4, 2) := by decide +kernel
theorem d_M_difference_7 : decode b_M_difference 7 = .ok (.aload_n 0, 1) := by decide +kernel
theorem d_M_difference_8 : decode b_M_difference 8 = .ok (.getfield 47, 3) := by decide +kernel
theorem d_M_difference_11 : decode b_M_difference 11 = .ok (.iload_n 1, 1) := by decide +kernel
theorem d_M_difference_12 : decode b_M_difference 12 = .ok (.iaload, 1) := by decide +kernel
theorem d_M_difference_13 : decode b_M_difference 13 = .ok (.if_icmp .ge 93, 3) := by decide +kernel
theorem d_M_difference_16 : decode b_M_difference 16 = .ok (.iload_n 2, 1) := by decide +kernel
theorem d_M_difference_17 : decode b_M_difference 17 = .ok (.ifCond .lt 89, 3) := by decide +kernel
theorem d_M_difference_20 : decode b_M_difference 20 = .ok (.aload_n 0, 1) := by decide +kernel
theorem d_M_difference_21 : decode b_M_difference 21 = .ok (.getfield 44, 3) := by decide +kernel
theorem d_M_difference_24 : decode b_M_difference 24 = .ok (.iload_n 1, 1) := by decide +kernel
theorem d_M_difference_25 : decode b_M_difference 25 = .ok (.iaload, 1) := by decide +kernel
theorem d_M_difference_26 : decode b_M_difference 26 = .ok (.iconst 2, 1) := by decide +kernel
theorem d_M_difference_27 : decode b_M_difference 27 = .ok (.if_icmp .ne 79, 3) := by decide +kernel
theorem d_M_difference_30 : decode b_M_difference 30 = .ok (.iconst 0, 1) := by decide +kernel
theorem d_M_difference_31 : decode b_M_difference 31 = .ok (.istore 5, 2) := by decide +kernel
theorem d_M_difference_33 : decode b_M_difference 33 = .ok (.iload 5, 2) := by decide +kernel
theorem d_M_difference_35 : decode b_M_difference 35 = .ok (.bipush 6, 2) := by decide +kernel
theorem d_M_difference_37 : decode b_M_difference 37 = .ok (.if_icmp .ge 63, 3) := by decide +kernel
theorem d_M_difference_40 : decode b_M_difference 40 = .ok (.aload_n 0, 1) := by decide +kernel
theorem d_M_difference_41 : decode b_M_difference 41 = .ok (.iload_n 1, 1) := by decide +kernel
theorem d_M_difference_42 : decode b_M_difference 42 = .ok (.iload 4, 2) := by decide +kernel
theorem d_M_difference_44 : decode b_M_difference 44 = .ok (.invokevirtual 152, 3) := by decide +kernel
theorem d_M_difference_47 : decode b_M_difference 47 = .ok (.ifCond .eq 53, 3) := by decide +kernel
theorem d_M_difference_50 : decode b_M_difference 50 = .ok (.bipush 120, 2) := by decide +kernel
theorem d_M_difference_52 : decode b_M_difference 52 = .ok (.iload_n 1, 1) := by decide +kernel
theorem d_M_difference_53 : decode b_M_difference 53 = .ok (.imul, 1) := by decide +kernel
theorem d_M_difference_54 : decode b_M_difference 54 = .ok (.bipush 6, 2) := by decide +kernel
theorem d_M_difference_56 : decode b_M_difference 56 = .ok (.iload 4, 2) := by decide +kernel
theorem d_M_difference_58 : decode b_M_difference 58 = .ok (.imul, 1) := by decide +kernel
theorem d_M_difference_59 : decode b_M_difference 59 = .ok (.iadd, 1) := by decide +kernel
theorem d_M_difference_60 : decode b_M_difference 60 = .ok (.iload 5, 2) := by decide +kernel
theorem d_M_difference_62 : decode b_M_difference 62 = .ok (.iadd, 1) := by decide +kernel
theorem d_M_difference_63 : decode b_M_difference 63 = .ok (.istore 6, 2) := by decide +kernel
theorem d_M_difference_65 : decode b_M_difference 65 = .ok (.aload_n 0, 1) := by decide +kernel
theorem d_M_difference_66 : decode b_M_difference 66 = .ok (.iload 6, 2) := by decide +kernel
theorem d_M_difference_68 : decode b_M_difference 68 = .ok (.invokevirtual 156, 3) := by decide +kernel
theorem d_M_difference_71 : decode b_M_difference 71 = .ok (.aload_n 0, 1) := by decide +kernel
theorem d_M_difference_72 : decode b_M_difference 72 = .ok (.getfield 56, 3) := by decide +kernel
theorem d_M_difference_75 : decode b_M_difference 75 = .ok (.iload 6, 2) := by decide +kernel
theorem d_M_difference_77 : decode b_M_difference 77 = .ok (.iaload, 1) := by decide +kernel
theorem d_M_difference_78 : decode b_M_difference 78 = .ok (.if_icmp .ne 6, 3) := by decide +kernel
theorem d_M_difference_81 : decode b_M_difference 81 = .ok (.goto 13, 3) := by decide +kernel
theorem d_M_difference_84 : decode b_M_difference 84 = .ok (.iload_n 3, 1) := by decide +kernel
theorem d_M_difference_85 : decode b_M_difference 85 = .ok (.ifCond .ne 6, 3) := by decide +kernel
theorem d_M_difference_88 : decode b_M_difference 88 = .ok (.iload 6, 2) := by decide +kernel
theorem d_M_difference_90 : decode b_M_difference 90 = .ok (.ireturn, 1) := by decide +kernel
theorem d_M_difference_91 : decode b_M_difference 91 = .ok (.iinc 3 (-1), 3) := by decide +kernel
theorem d_M_difference_94 : decode b_M_difference 94 = .ok (.iinc 5 1, 3) := by decide +kernel
theorem d_M_difference_97 : decode b_M_difference 97 = .ok (.goto (-64), 3) := by decide +kernel
theorem d_M_difference_100 : decode b_M_difference 100 = .ok (.iinc 4 1, 3) := by decide +kernel
theorem d_M_difference_103 : decode b_M_difference 103 = .ok (.goto (-98), 3) := by decide +kernel
theorem d_M_difference_106 : decode b_M_difference 106 = .ok (.iconst (-1), 1) := by decide +kernel
theorem d_M_difference_107 : decode b_M_difference 107 = .ok (.ireturn, 1) := by decide +kernel
theorem d_M_bookedAt_0 : decode b_M_bookedAt 0 = .ok (.bipush 6, 2) := by decide +kernel
theorem d_M_bookedAt_2 : decode b_M_bookedAt 2 = .ok (.aload_n 0, 1) := by decide +kernel
theorem d_M_bookedAt_3 : decode b_M_bookedAt 3 = .ok (.getfield 53, 3) := by decide +kernel
theorem d_M_bookedAt_6 : decode b_M_bookedAt 6 = .ok (.bipush 20, 2) := by decide +kernel
theorem d_M_bookedAt_8 : decode b_M_bookedAt 8 = .ok (.iload_n 1, 1) := by decide +kernel
theorem d_M_bookedAt_9 : decode b_M_bookedAt 9 = .ok (.bipush 120, 2) := by decide +kernel
theorem d_M_bookedAt_11 : decode b_M_bookedAt 11 = .ok (.idiv, 1) := by decide +kernel
theorem d_M_bookedAt_12 : decode b_M_bookedAt 12 = .ok (.imul, 1) := by decide +kernel
theorem d_M_bookedAt_13 : decode b_M_bookedAt 13 = .ok (.iload_n 1, 1) := by decide +kernel
theorem d_M_bookedAt_14 : decode b_M_bookedAt 14 = .ok (.bipush 120, 2) := by decide +kernel
theorem d_M_bookedAt_16 : decode b_M_bookedAt 16 = .ok (.irem, 1) := by decide +kernel
theorem d_M_bookedAt_17 : decode b_M_bookedAt 17 = .ok (.bipush 6, 2) := by decide +kernel
theorem d_M_bookedAt_19 : decode b_M_bookedAt 19 = .ok (.idiv, 1) := by decide +kernel
theorem d_M_bookedAt_20 : decode b_M_bookedAt 20 = .ok (.iadd, 1) := by decide +kernel
theorem d_M_bookedAt_21 : decode b_M_bookedAt 21 = .ok (.iaload, 1) := by decide +kernel
theorem d_M_bookedAt_22 : decode b_M_bookedAt 22 = .ok (.imul, 1) := by decide +kernel
theorem d_M_bookedAt_23 : decode b_M_bookedAt 23 = .ok (.iload_n 1, 1) := by decide +kernel
theorem d_M_bookedAt_24 : decode b_M_bookedAt 24 = .ok (.bipush 6, 2) := by decide +kernel
theorem d_M_bookedAt_26 : decode b_M_bookedAt 26 = .ok (.irem, 1) := by decide +kernel
theorem d_M_bookedAt_27 : decode b_M_bookedAt 27 = .ok (.iadd, 1) := by decide +kernel
theorem d_M_bookedAt_28 : decode b_M_bookedAt 28 = .ok (.ireturn, 1) := by decide +kernel
theorem d_M_differ_0 : decode b_M_differ 0 = .ok (.aload_n 0, 1) := by decide +kernel
theorem d_M_differ_1 : decode b_M_differ 1 = .ok (.iload_n 1, 1) := by decide +kernel
theorem d_M_differ_2 : decode b_M_differ 2 = .ok (.invokevirtual 126, 3) := by decide +kernel
theorem d_M_differ_5 : decode b_M_differ 5 = .ok (.ifCond .eq 12, 3) := by decide +kernel
theorem d_M_differ_8 : decode b_M_differ 8 = .ok (.aload_n 0, 1) := by decide +kernel
theorem d_M_differ_9 : decode b_M_differ 9 = .ok (.iload_n 1, 1) := by decide +kernel
theorem d_M_differ_10 : decode b_M_differ 10 = .ok (.iload_n 2, 1) := by decide +kernel
theorem d_M_differ_11 : decode b_M_differ 11 = .ok (.invokevirtual 149, 3) := by decide +kernel
theorem d_M_differ_14 : decode b_M_differ 14 = .ok (.goto 4, 3) := by decide +kernel
theorem d_M_differ_17 : decode b_M_differ 17 = .ok (.iconst (-1), 1) := by decide +kernel
theorem d_M_differ_18 : decode b_M_differ 18 = .ok (.istore 4, 2) := by decide +kernel
theorem d_M_differ_20 : decode b_M_differ 20 = .ok (.aload_n 0, 1) := by decide +kernel
theorem d_M_differ_21 : decode b_M_differ 21 = .ok (.iload 4, 2) := by decide +kernel
theorem d_M_differ_23 : decode b_M_differ 23 = .ok (.iconst (-1), 1) := by decide +kernel
theorem d_M_differ_24 : decode b_M_differ 24 = .ok (.if_icmp .ne 7, 3) := by decide +kernel
theorem d_M_differ_27 : decode b_M_differ 27 = .ok (.iconst 1, 1) := by decide +kernel
theorem d_M_differ_28 : decode b_M_differ 28 = .ok (.goto 17, 3) := by decide +kernel
theorem d_M_differ_31 : decode b_M_differ 31 = .ok (.iload_n 3, 1) := by decide +kernel
theorem d_M_differ_32 : decode b_M_differ 32 = .ok (.iconst 0, 1) := by decide +kernel
theorem d_M_differ_33 : decode b_M_differ 33 = .ok (.iconst 5, 1) := by decide +kernel
theorem d_M_differ_34 : decode b_M_differ 34 = .ok (.invokestatic 81, 3) := by decide +kernel
theorem d_M_differ_37 : decode b_M_differ 37 = .ok (.ifCond .ne 7, 3) := by decide +kernel
theorem d_M_differ_40 : decode b_M_differ 40 = .ok (.iconst 2, 1) := by decide +kernel
theorem d_M_differ_41 : decode b_M_differ 41 = .ok (.goto 4, 3) := by decide +kernel
theorem d_M_differ_44 : decode b_M_differ 44 = .ok (.iconst 0, 1) := by decide +kernel
theorem d_M_differ_45 : decode b_M_differ 45 = .ok (.putfield 74, 3) := by decide +kernel
theorem d_M_differ_48 : decode b_M_differ 48 = .ok (.aload_n 0, 1) := by decide +kernel
theorem d_M_differ_49 : decode b_M_differ 49 = .ok (.getfield 74, 3) := by decide +kernel
theorem d_M_differ_52 : decode b_M_differ 52 = .ok (.ifCond .le 5, 3) := by decide +kernel
theorem d_M_differ_55 : decode b_M_differ 55 = .ok (.iconst 0, 1) := by decide +kernel
theorem d_M_differ_56 : decode b_M_differ 56 = .ok (.ireturn, 1) := by decide +kernel
theorem d_M_differ_57 : decode b_M_differ 57 = .ok (.iload_n 3, 1) := by decide +kernel
theorem d_M_differ_58 : decode b_M_differ 58 = .ok (.ifCond .ne 13, 3) := by decide +kernel
theorem d_M_differ_61 : decode b_M_differ 61 = .ok (.aload_n 0, 1) := by decide +kernel
theorem d_M_differ_62 : decode b_M_differ 62 = .ok (.iload 4, 2) := by decide +kernel
theorem d_M_differ_64 : decode b_M_differ 64 = .ok (.invokevirtual 164, 3) := by decide +kernel
theorem d_M_differ_67 : decode b_M_differ 67 = .ok (.bipush 6, 2) := by decide +kernel
theorem d_M_differ_69 : decode b_M_differ 69 = .ok (.idiv, 1) := by decide +kernel
theorem d_M_differ_70 : decode b_M_differ 70 = .ok (.ireturn, 1) := by decide +kernel
theorem d_M_differ_71 : decode b_M_differ 71 = .ok (.iload_n 3, 1) := by decide +kernel
theorem d_M_differ_72 : decode b_M_differ 72 = .ok (.iconst 1, 1) := by decide +kernel
theorem d_M_differ_73 : decode b_M_differ 73 = .ok (.if_icmp .ne 9, 3) := by decide +kernel
theorem d_M_differ_76 : decode b_M_differ 76 = .ok (.iload 4, 2) := by decide +kernel
theorem d_M_differ_78 : decode b_M_differ 78 = .ok (.bipush 6, 2) := by decide +kernel
theorem d_M_differ_80 : decode b_M_differ 80 = .ok (.irem, 1) := by decide +kernel
theorem d_M_differ_81 : decode b_M_differ 81 = .ok (.ireturn, 1) := by decide +kernel
theorem d_M_differ_82 : decode b_M_differ 82 = .ok (.iload_n 3, 1) := by decide +kernel
theorem d_M_differ_83 : decode b_M_differ 83 = .ok (.iconst 2, 1) := by decide +kernel
theorem d_M_differ_84 : decode b_M_differ 84 = .ok (.if_icmp .ne 18, 3) := by decide +kernel
theorem d_M_differ_87 : decode b_M_differ 87 = .ok (.aload_n 0, 1) := by decide +kernel
theorem d_M_differ_88 : decode b_M_differ 88 = .ok (.iload 4, 2) := by decide +kernel
theorem d_M_differ_90 : decode b_M_differ 90 = .ok (.invokevirtual 156, 3) := by decide +kernel
theorem d_M_differ_93 : decode b_M_differ 93 = .ok (.aload_n 0, 1) := by decide +kernel
theorem d_M_differ_94 : decode b_M_differ 94 = .ok (.getfield 56, 3) := by decide +kernel
theorem d_M_differ_97 : decode b_M_differ 97 = .ok (.iload 4, 2) := by decide +kernel
theorem d_M_differ_99 : decode b_M_differ 99 = .ok (.iaload, 1) := by decide +kernel
theorem d_M_differ_100 : decode b_M_differ 100 = .ok (.isub, 1) := by decide +kernel
theorem d_M_differ_101 : decode b_M_differ 101 = .ok (.ireturn, 1) := by decide +kernel
theorem d_M_differ_102 : decode b_M_differ 102 = .ok (.iload_n 3, 1) := by decide +kernel
theorem d_M_differ_103 : decode b_M_differ 103 = .ok (.iconst 3, 1) := by decide +kernel
theorem d_M_differ_104 : decode b_M_differ 104 = .ok (.if_icmp .ne 29, 3) := by decide +kernel
theorem d_M_differ_107 : decode b_M_differ 107 = .ok (.aload_n 0, 1) := by decide +kernel
theorem d_M_differ_108 : decode b_M_differ 108 = .ok (.iload 4, 2) := by decide +kernel
theorem d_M_differ_110 : decode b_M_differ 110 = .ok (.invokevirtual 139, 3) := by decide +kernel
theorem d_M_differ_113 : decode b_M_differ 113 = .ok (.iconst (-1), 1) := by decide +kernel
theorem d_M_differ_114 : decode b_M_differ 114 = .ok (.if_icmp .eq 12, 3) := by decide +kernel
theorem d_M_differ_117 : decode b_M_differ 117 = .ok (.aload_n 0, 1) := by decide +kernel
theorem d_M_differ_118 : decode b_M_differ 118 = .ok (.iload 4, 2) := by decide +kernel
theorem d_M_differ_120 : decode b_M_differ 120 = .ok (.invokevirtual 139, 3) := by decide +kernel
theorem d_M_differ_123 : decode b_M_differ 123 = .ok (.goto 9, 3) := by decide +kernel
theorem d_M_differ_126 : decode b_M_differ 126 = .ok (.aload_n 0, 1) := by decide +kernel
theorem d_M_differ_127 : decode b_M_differ 127 = .ok (.iload 4, 2) := by decide +kernel
theorem d_M_differ_129 : decode b_M_differ 129 = .ok (.invokevirtual 136, 3) := by decide +kernel
theorem d_M_differ_132 : decode b_M_differ 132 = .ok (.ireturn, 1) := by decide +kernel
theorem d_M_differ_133 : decode b_M_differ 133 = .ok (.iload_n 3, 1) := by decide +kernel
theorem d_M_differ_134 : decode b_M_differ 134 = .ok (.iconst 4, 1) := by decide +kernel
theorem d_M_differ_135 : decode b_M_differ 135 = .ok (.if_icmp .ne 16, 3) := by decide +kernel
theorem d_M_differ_138 : decode b_M_differ 138 = .ok (.aload_n 0, 1) := by decide +kernel
theorem d_M_differ_139 : decode b_M_differ 139 = .ok (.getfield 68, 3) := by decide +kernel
theorem d_M_differ_142 : decode b_M_differ 142 = .ok (.iload 4, 2) := by decide +kernel
theorem d_M_differ_144 : decode b_M_differ 144 = .ok (.iaload, 1) := by decide +kernel
theorem d_M_differ_145 : decode b_M_differ 145 = .ok (.bipush 10, 2) := by decide +kernel
theorem d_M_differ_147 : decode b_M_differ 147 = .ok (.idiv, 1) := by decide +kernel
theorem d_M_differ_148 : decode b_M_differ 148 = .ok (.goto 15, 3) := by decide +kernel
theorem d_M_differ_151 : decode b_M_differ 151 = .ok (.aload_n 0, 1) := by decide +kernel
theorem d_M_differ_152 : decode b_M_differ 152 = .ok (.getfield 68, 3) := by decide +kernel
theorem d_M_differ_155 : decode b_M_differ 155 = .ok (.iload 4, 2) := by decide +kernel
theorem d_M_differ_157 : decode b_M_differ 157 = .ok (.iaload, 1) := by decide +kernel
theorem d_M_differ_158 : decode b_M_differ 158 = .ok (.bipush 10, 2) := by decide +kernel
theorem d_M_differ_160 : decode b_M_differ 160 = .ok (.irem, 1) := by decide +kernel
theorem d_M_differ_161 : decode b_M_differ 161 = .ok (.iconst 1, 1) := by decide +kernel
theorem d_M_differ_162 : decode b_M_differ 162 = .ok (.isub, 1) := by decide +kernel
theorem d_M_differ_163 : decode b_M_differ 163 = .ok (.ireturn, 1) := by decide +kernel
theorem d_M_correct_0 : decode b_M_correct 0 = .ok (.aload_n 0, 1) := by decide +kernel
theorem d_M_correct_1 : decode b_M_correct 1 = .ok (.iload_n 1, 1) := by decide +kernel
theorem d_M_correct_2 : decode b_M_correct 2 = .ok (.invokevirtual 126, 3) := by decide +kernel
theorem d_M_correct_5 : decode b_M_correct 5 = .ok (.ifCond .eq 12, 3) := by decide +kernel
theorem d_M_correct_8 : decode b_M_correct 8 = .ok (.aload_n 0, 1) := by decide +kernel
theorem d_M_correct_9 : decode b_M_correct 9 = .ok (.iload_n 1, 1) := by decide +kernel
theorem d_M_correct_10 : decode b_M_correct 10 = .ok (.iload_n 2, 1) := by decide +kernel
theorem d_M_correct_11 : decode b_M_correct 11 = .ok (.invokevirtual 149, 3) := by decide +kernel
theorem d_M_correct_14 : decode b_M_correct 14 = .ok (.goto 4, 3) := by decide +kernel
theorem d_M_correct_17 : decode b_M_correct 17 = .ok (.iconst (-1), 1) := by decide +kernel
theorem d_M_correct_18 : decode b_M_correct 18 = .ok (.istore 4, 2) := by decide +kernel
theorem d_M_correct_20 : decode b_M_correct 20 = .ok (.aload_n 0, 1) := by decide +kernel
theorem d_M_correct_21 : decode b_M_correct 21 = .ok (.iload 4, 2) := by decide +kernel
theorem d_M_correct_23 : decode b_M_correct 23 = .ok (.iconst (-1), 1) := by decide +kernel
theorem d_M_correct_24 : decode b_M_correct 24 = .ok (.if_icmp .ne 7, 3) := by decide +kernel
theorem d_M_correct_27 : decode b_M_correct 27 = .ok (.iconst 1, 1) := by decide +kernel
theorem d_M_correct_28 : decode b_M_correct 28 = .ok (.goto 31, 3) := by decide +kernel
theorem d_M_correct_31 : decode b_M_correct 31 = .ok (.iload_n 3, 1) := by decide +kernel
theorem d_M_correct_32 : decode b_M_correct 32 = .ok (.invokestatic 96, 3) := by decide +kernel
theorem d_M_correct_35 : decode b_M_correct 35 = .ok (.ifCond .ne 7, 3) := by decide +kernel
theorem d_M_correct_38 : decode b_M_correct 38 = .ok (.iconst 2, 1) := by decide +kernel
theorem d_M_correct_39 : decode b_M_correct 39 = .ok (.goto 20, 3) := by decide +kernel
theorem d_M_correct_42 : decode b_M_correct 42 = .ok (.aload_n 0, 1) := by decide +kernel
theorem d_M_correct_43 : decode b_M_correct 43 = .ok (.getfield 68, 3) := by decide +kernel
theorem d_M_correct_46 : decode b_M_correct 46 = .ok (.iload 4, 2) := by decide +kernel
theorem d_M_correct_48 : decode b_M_correct 48 = .ok (.iaload, 1) := by decide +kernel
theorem d_M_correct_49 : decode b_M_correct 49 = .ok (.bipush 10, 2) := by decide +kernel
theorem d_M_correct_51 : decode b_M_correct 51 = .ok (.if_icmp .lt 7, 3) := by decide +kernel
theorem d_M_correct_54 : decode b_M_correct 54 = .ok (.iconst 3, 1) := by decide +kernel
theorem d_M_correct_55 : decode b_M_correct 55 = .ok (.goto 4, 3) := by decide +kernel
theorem d_M_correct_58 : decode b_M_correct 58 = .ok (.iconst 0, 1) := by decide +kernel
theorem d_M_correct_59 : decode b_M_correct 59 = .ok (.putfield 74, 3) := by decide +kernel
theorem d_M_correct_62 : decode b_M_correct 62 = .ok (.aload_n 0, 1) := by decide +kernel
theorem d_M_correct_63 : decode b_M_correct 63 = .ok (.getfield 74, 3) := by decide +kernel
theorem d_M_correct_66 : decode b_M_correct 66 = .ok (.ifCond .le 5, 3) := by decide +kernel
theorem d_M_correct_69 : decode b_M_correct 69 = .ok (.iconst 0, 1) := by decide +kernel
theorem d_M_correct_70 : decode b_M_correct 70 = .ok (.ireturn, 1) := by decide +kernel
theorem d_M_correct_71 : decode b_M_correct 71 = .ok (.aload_n 0, 1) := by decide +kernel
theorem d_M_correct_72 : decode b_M_correct 72 = .ok (.getfield 68, 3) := by decide +kernel
theorem d_M_correct_75 : decode b_M_correct 75 = .ok (.iload 4, 2) := by decide +kernel
theorem d_M_correct_77 : decode b_M_correct 77 = .ok (.iaload, 1) := by decide +kernel
theorem d_M_correct_78 : decode b_M_correct 78 = .ok (.bipush 10, 2) := by decide +kernel
theorem d_M_correct_80 : decode b_M_correct 80 = .ok (.irem, 1) := by decide +kernel
theorem d_M_correct_81 : decode b_M_correct 81 = .ok (.iconst 1, 1) := by decide +kernel
theorem d_M_correct_82 : decode b_M_correct 82 = .ok (.isub, 1) := by decide +kernel
theorem d_M_correct_83 : decode b_M_correct 83 = .ok (.istore 5, 2) := by decide +kernel
theorem d_M_correct_85 : decode b_M_correct 85 = .ok (.aload_n 0, 1) := by decide +kernel
theorem d_M_correct_86 : decode b_M_correct 86 = .ok (.getfield 25, 3) := by decide +kernel
theorem d_M_correct_89 : decode b_M_correct 89 = .ok (.iload_n 3, 1) := by decide +kernel
theorem d_M_correct_90 : decode b_M_correct 90 = .ok (.iaload, 1) := by decide +kernel
theorem d_M_correct_91 : decode b_M_correct 91 = .ok (.aload_n 0, 1) := by decide +kernel
theorem d_M_correct_92 : decode b_M_correct 92 = .ok (.iload 4, 2) := by decide +kernel
theorem d_M_correct_94 : decode b_M_correct 94 = .ok (.invokevirtual 156, 3) := by decide +kernel
theorem d_M_correct_97 : decode b_M_correct 97 = .ok (.aload_n 0, 1) := by decide +kernel
theorem d_M_correct_98 : decode b_M_correct 98 = .ok (.getfield 56, 3) := by decide +kernel
theorem d_M_correct_101 : decode b_M_correct 101 = .ok (.iload 4, 2) := by decide +kernel
theorem d_M_correct_103 : decode b_M_correct 103 = .ok (.iaload, 1) := by decide +kernel
theorem d_M_correct_104 : decode b_M_correct 104 = .ok (.invokestatic 142, 3) := by decide +kernel
theorem d_M_correct_107 : decode b_M_correct 107 = .ok (.if_icmp .ge 15, 3) := by decide +kernel
theorem d_M_correct_110 : decode b_M_correct 110 = .ok (.iload 5, 2) := by decide +kernel
theorem d_M_correct_112 : decode b_M_correct 112 = .ok (.iconst (-1), 1) := by decide +kernel
theorem d_M_correct_113 : decode b_M_correct 113 = .ok (.if_icmp .eq 13, 3) := by decide +kernel
theorem d_M_correct_116 : decode b_M_correct 116 = .ok (.iload 5, 2) := by decide +kernel
theorem d_M_correct_118 : decode b_M_correct 118 = .ok (.iload_n 3, 1) := by decide +kernel
theorem d_M_correct_119 : decode b_M_correct 119 = .ok (.if_icmp .eq 7, 3) := by decide +kernel
theorem d_M_correct_122 : decode b_M_correct 122 = .ok (.iconst 1, 1) := by decide +kernel
theorem d_M_correct_123 : decode b_M_correct 123 = .ok (.goto 4, 3) := by decide +kernel
theorem d_M_correct_126 : decode b_M_correct 126 = .ok (.iconst 0, 1) := by decide +kernel
theorem d_M_correct_127 : decode b_M_correct 127 = .ok (.istore 6, 2) := by decide +kernel
theorem d_M_correct_129 : decode b_M_correct 129 = .ok (.iload 6, 2) := by decide +kernel
theorem d_M_correct_131 : decode b_M_correct 131 = .ok (.ifCond .ne 15, 3) := by decide +kernel
theorem d_M_correct_134 : decode b_M_correct 134 = .ok (.aload_n 0, 1) := by decide +kernel
theorem d_M_correct_135 : decode b_M_correct 135 = .ok (.getfield 68, 3) := by decide +kernel
theorem d_M_correct_138 : decode b_M_correct 138 = .ok (.iload 4, 2) := by decide +kernel
theorem d_M_correct_140 : decode b_M_correct 140 = .ok (.iload_n 3, 1) := by decide +kernel
theorem d_M_correct_141 : decode b_M_correct 141 = .ok (.iconst 1, 1) := by decide +kernel
theorem d_M_correct_142 : decode b_M_correct 142 = .ok (.iadd, 1) := by decide +kernel
theorem d_M_correct_143 : decode b_M_correct 143 = .ok (.iastore, 1) := by decide +kernel
theorem d_M_correct_144 : decode b_M_correct 144 = .ok (.iconst 0, 1) := by decide +kernel
theorem d_M_correct_145 : decode b_M_correct 145 = .ok (.ireturn, 1) := by decide +kernel
theorem d_M_correct_146 : decode b_M_correct 146 = .ok (.aload_n 0, 1) := by decide +kernel
theorem d_M_correct_147 : decode b_M_correct 147 = .ok (.getfield 16, 3) := by decide +kernel
theorem d_M_correct_150 : decode b_M_correct 150 = .ok (.aload_n 0, 1) := by decide +kernel
theorem d_M_correct_151 : decode b_M_correct 151 = .ok (.iload 4, 2) := by decide +kernel
theorem d_M_correct_153 : decode b_M_correct 153 = .ok (.invokevirtual 164, 3) := by decide +kernel
theorem d_M_correct_156 : decode b_M_correct 156 = .ok (.iaload, 1) := by decide +kernel
theorem d_M_correct_157 : decode b_M_correct 157 = .ok (.aload_n 0, 1) := by decide +kernel
theorem d_M_correct_158 : decode b_M_correct 158 = .ok (.iload 4, 2) := by decide +kernel
theorem d_M_correct_160 : decode b_M_correct 160 = .ok (.invokevirtual 156, 3) := by decide +kernel
theorem d_M_correct_163 : decode b_M_correct 163 = .ok (.iadd, 1) := by decide +kernel
theorem d_M_correct_164 : decode b_M_correct 164 = .ok (.aload_n 0, 1) := by decide +kernel
theorem d_M_correct_165 : decode b_M_correct 165 = .ok (.getfield 56, 3) := by decide +kernel
theorem d_M_correct_168 : decode b_M_correct 168 = .ok (.iload 4, 2) := by decide +kernel
theorem d_M_correct_170 : decode b_M_correct 170 = .ok (.iaload, 1) := by decide +kernel
theorem d_M_correct_171 : decode b_M_correct 171 = .ok (.isub, 1) := by decide +kernel
theorem d_M_correct_172 : decode b_M_correct 172 = .ok (.istore 7, 2) := by decide +kernel
theorem d_M_correct_174 : decode b_M_correct 174 = .ok (.aload_n 0, 1) := by decide +kernel
theorem d_M_correct_175 : decode b_M_correct 175 = .ok (.iload 7, 2) := by decide +kernel
theorem d_M_correct_177 : decode b_M_correct 177 = .ok (.iconst 0, 1) := by decide +kernel
theorem d_M_correct_178 : decode b_M_correct 178 = .ok (.ldc 95, 2) := by decide +kernel
theorem d_M_correct_180 : decode b_M_correct 180 = .ok (.invokestatic 81, 3) := by decide +kernel
theorem d_M_correct_183 : decode b_M_correct 183 = .ok (.ifCond .eq 7, 3) := by decide +kernel
theorem d_M_correct_186 : decode b_M_correct 186 = .ok (.iconst 0, 1) := by decide +kernel
theorem d_M_correct_187 : decode b_M_correct 187 = .ok (.goto 4, 3) := by decide +kernel
theorem d_M_correct_190 : decode b_M_correct 190 = .ok (.iconst 3, 1) := by decide +kernel
theorem d_M_correct_191 : decode b_M_correct 191 = .ok (.putfield 74, 3) := by decide +kernel
theorem d_M_correct_194 : decode b_M_correct 194 = .ok (.aload_n 0, 1) := by decide +kernel
theorem d_M_correct_195 : decode b_M_correct 195 = .ok (.getfield 74, 3) := by decide +kernel
theorem d_M_correct_198 : decode b_M_correct 198 = .ok (.ifCond .le 5, 3) := by decide +kernel
theorem d_M_correct_201 : decode b_M_correct 201 = .ok (.iconst 0, 1) := by decide +kernel
theorem d_M_correct_202 : decode b_M_correct 202 = .ok (.ireturn, 1) := by decide +kernel
theorem d_M_correct_203 : decode b_M_correct 203 = .ok (.aload_n 0, 1) := by decide +kernel
theorem d_M_correct_204 : decode b_M_correct 204 = .ok (.getfield 16, 3) := by decide +kernel
theorem d_M_correct_207 : decode b_M_correct 207 = .ok (.aload_n 0, 1) := by decide +kernel
theorem d_M_correct_208 : decode b_M_correct 208 = .ok (.iload 4, 2) := by decide +kernel
theorem d_M_correct_210 : decode b_M_correct 210 = .ok (.invokevirtual 164, 3) := by decide +kernel
theorem d_M_correct_213 : decode b_M_correct 213 = .ok (.iload 7, 2) := by decide +kernel
theorem d_M_correct_215 : decode b_M_correct 215 = .ok (.iastore, 1) := by decide +kernel
theorem d_M_correct_216 : decode b_M_correct 216 = .ok (.aload_n 0, 1) := by decide +kernel
theorem d_M_correct_217 : decode b_M_correct 217 = .ok (.getfield 68, 3) := by decide +kernel
theorem d_M_correct_220 : decode b_M_correct 220 = .ok (.iload 4, 2) := by decide +kernel
theorem d_M_correct_222 : decode b_M_correct 222 = .ok (.dup2, 1) := by decide +kernel
theorem d_M_correct_223 : decode b_M_correct 223 = .ok (.iaload, 1) := by decide +kernel
theorem d_M_correct_224 : decode b_M_correct 224 = .ok (.bipush 10, 2) := by decide +kernel
theorem d_M_correct_226 : decode b_M_correct 226 = .ok (.iadd, 1) := by decide +kernel
theorem d_M_correct_227 : decode b_M_correct 227 = .ok (.iastore, 1) := by decide +kernel
theorem d_M_correct_228 : decode b_M_correct 228 = .ok (.iconst 1, 1) := by decide +kernel
theorem d_M_correct_229 : decode b_M_correct 229 = .ok (.ireturn, 1) := by decide +kernel
theorem d_M_divisor_0 : decode b_M_divisor 0 = .ok (.iload_n 0, 1) := by decide +kernel
theorem d_M_divisor_1 : decode b_M_divisor 1 = .ok (.istore_n 2, 1) := by decide +kernel
theorem d_M_divisor_2 : decode b_M_divisor 2 = .ok (.iload_n 1, 1) := by decide +kernel
theorem d_M_divisor_3 : decode b_M_divisor 3 = .ok (.istore_n 3, 1) := by decide +kernel
theorem d_M_divisor_4 : decode b_M_divisor 4 = .ok (.iload_n 3, 1) := by decide +kernel
theorem d_M_divisor_5 : decode b_M_divisor 5 = .ok (.ifCond .le 16, 3) := by decide +kernel
theorem d_M_divisor_8 : decode b_M_divisor 8 = .ok (.iload_n 2, 1) := by decide +kernel
theorem d_M_divisor_9 : decode b_M_divisor 9 = .ok (.iload_n 3, 1) := by decide +kernel
theorem d_M_divisor_10 : decode b_M_divisor 10 = .ok (.irem, 1) := by decide +kernel
theorem d_M_divisor_11 : decode b_M_divisor 11 = .ok (.istore 4, 2) := by decide +kernel
theorem d_M_divisor_13 : decode b_M_divisor 13 = .ok (.iload_n 3, 1) := by decide +kernel
theorem d_M_divisor_14 : decode b_M_divisor 14 = .ok (.istore_n 2, 1) := by decide +kernel
theorem d_M_divisor_15 : decode b_M_divisor 15 = .ok (.iload 4, 2) := by decide +kernel
theorem d_M_divisor_17 : decode b_M_divisor 17 = .ok (.istore_n 3, 1) := by decide +kernel
theorem d_M_divisor_18 : decode b_M_divisor 18 = .ok (.goto (-14), 3) := by decide +kernel
theorem d_M_divisor_21 : decode b_M_divisor 21 = .ok (.iload_n 2, 1) := by decide +kernel
theorem d_M_divisor_22 : decode b_M_divisor 22 = .ok (.ireturn, 1) := by decide +kernel
theorem d_M_share_0 : decode b_M_share 0 = .ok (.aload_n 0, 1) := by decide +kernel
theorem d_M_share_1 : decode b_M_share 1 = .ok (.iload_n 1, 1) := by decide +kernel
theorem d_M_share_2 : decode b_M_share 2 = .ok (.iconst 0, 1) := by decide +kernel
theorem d_M_share_3 : decode b_M_share 3 = .ok (.iconst 1, 1) := by decide +kernel
theorem d_M_share_4 : decode b_M_share 4 = .ok (.invokestatic 81, 3) := by decide +kernel
theorem d_M_share_7 : decode b_M_share 7 = .ok (.ifCond .ne 7, 3) := by decide +kernel
theorem d_M_share_10 : decode b_M_share 10 = .ok (.iconst 1, 1) := by decide +kernel
theorem d_M_share_11 : decode b_M_share 11 = .ok (.goto 15, 3) := by decide +kernel
theorem d_M_share_14 : decode b_M_share 14 = .ok (.aload_n 0, 1) := by decide +kernel
theorem d_M_share_15 : decode b_M_share 15 = .ok (.getfield 158, 3) := by decide +kernel
theorem d_M_share_18 : decode b_M_share 18 = .ok (.ifCond .ne 7, 3) := by decide +kernel
theorem d_M_share_21 : decode b_M_share 21 = .ok (.iconst 2, 1) := by decide +kernel
theorem d_M_share_22 : decode b_M_share 22 = .ok (.goto 4, 3) := by decide +kernel
theorem d_M_share_25 : decode b_M_share 25 = .ok (.iconst 0, 1) := by decide +kernel
theorem d_M_share_26 : decode b_M_share 26 = .ok (.putfield 74, 3) := by decide +kernel
theorem d_M_share_29 : decode b_M_share 29 = .ok (.aload_n 0, 1) := by decide +kernel
theorem d_M_share_30 : decode b_M_share 30 = .ok (.getfield 74, 3) := by decide +kernel
theorem d_M_share_33 : decode b_M_share 33 = .ok (.ifCond .le 5, 3) := by decide +kernel
theorem d_M_share_36 : decode b_M_share 36 = .ok (.iconst 0, 1) := by decide +kernel
theorem d_M_share_37 : decode b_M_share 37 = .ok (.ireturn, 1) := by decide +kernel
theorem d_M_share_38 : decode b_M_share 38 = .ok (.aload_n 0, 1) := by decide +kernel
theorem d_M_share_39 : decode b_M_share 39 = .ok (.getfield 161, 3) := by decide +kernel
theorem d_M_share_42 : decode b_M_share 42 = .ok (.aload_n 0, 1) := by decide +kernel
theorem d_M_share_43 : decode b_M_share 43 = .ok (.getfield 158, 3) := by decide +kernel
theorem d_M_share_46 : decode b_M_share 46 = .ok (.invokestatic 167, 3) := by decide +kernel
theorem d_M_share_49 : decode b_M_share 49 = .ok (.istore_n 2, 1) := by decide +kernel
theorem d_M_share_50 : decode b_M_share 50 = .ok (.iload_n 1, 1) := by decide +kernel
theorem d_M_share_51 : decode b_M_share 51 = .ok (.ifCond .ne 12, 3) := by decide +kernel
theorem d_M_share_54 : decode b_M_share 54 = .ok (.aload_n 0, 1) := by decide +kernel
theorem d_M_share_55 : decode b_M_share 55 = .ok (.getfield 161, 3) := by decide +kernel
theorem d_M_share_58 : decode b_M_share 58 = .ok (.iload_n 2, 1) := by decide +kernel
theorem d_M_share_59 : decode b_M_share 59 = .ok (.idiv, 1) := by decide +kernel
theorem d_M_share_60 : decode b_M_share 60 = .ok (.goto 9, 3) := by decide +kernel
theorem d_M_share_63 : decode b_M_share 63 = .ok (.aload_n 0, 1) := by decide +kernel
theorem d_M_share_64 : decode b_M_share 64 = .ok (.getfield 158, 3) := by decide +kernel
theorem d_M_share_67 : decode b_M_share 67 = .ok (.iload_n 2, 1) := by decide +kernel
theorem d_M_share_68 : decode b_M_share 68 = .ok (.idiv, 1) := by decide +kernel
theorem d_M_share_69 : decode b_M_share 69 = .ok (.ireturn, 1) := by decide +kernel
theorem d_M_last_0 : decode b_M_last 0 = .ok (.aload_n 0, 1) := by decide +kernel
theorem d_M_last_1 : decode b_M_last 1 = .ok (.aload_n 0, 1) := by decide +kernel
theorem d_M_last_2 : decode b_M_last 2 = .ok (.iload_n 1, 1) := by decide +kernel
theorem d_M_last_3 : decode b_M_last 3 = .ok (.invokevirtual 88, 3) := by decide +kernel
theorem d_M_last_6 : decode b_M_last 6 = .ok (.ifCond .eq 7, 3) := by decide +kernel
theorem d_M_last_9 : decode b_M_last 9 = .ok (.iconst 0, 1) := by decide +kernel
theorem d_M_last_10 : decode b_M_last 10 = .ok (.goto 4, 3) := by decide +kernel
theorem d_M_last_13 : decode b_M_last 13 = .ok (.iconst 1, 1) := by decide +kernel
theorem d_M_last_14 : decode b_M_last 14 = .ok (.putfield 74, 3) := by decide +kernel
theorem d_M_last_17 : decode b_M_last 17 = .ok (.aload_n 0, 1) := by decide +kernel
theorem d_M_last_18 : decode b_M_last 18 = .ok (.getfield 74, 3) := by decide +kernel
theorem d_M_last_21 : decode b_M_last 21 = .ok (.ifCond .le 7, 3) := by decide +kernel
theorem d_M_last_24 : decode b_M_last 24 = .ok (.iconst 0, 1) := by decide +kernel
theorem d_M_last_25 : decode b_M_last 25 = .ok (.goto 9, 3) := by decide +kernel
theorem d_M_last_28 : decode b_M_last 28 = .ok (.aload_n 0, 1) := by decide +kernel
theorem d_M_last_29 : decode b_M_last 29 = .ok (.getfield 13, 3) := by decide +kernel
theorem d_M_last_32 : decode b_M_last 32 = .ok (.iload_n 1, 1) := by decide +kernel
theorem d_M_last_33 : decode b_M_last 33 = .ok (.iaload, 1) := by decide +kernel
theorem d_M_last_34 : decode b_M_last 34 = .ok (.ireturn, 1) := by decide +kernel
theorem d_M_due_0 : decode b_M_due 0 = .ok (.aload_n 0, 1) := by decide +kernel
theorem d_M_due_1 : decode b_M_due 1 = .ok (.iload_n 1, 1) := by decide +kernel
theorem d_M_due_2 : decode b_M_due 2 = .ok (.iconst 0, 1) := by decide +kernel
theorem d_M_due_3 : decode b_M_due 3 = .ok (.sipush 10000, 3) := by decide +kernel
theorem d_M_due_6 : decode b_M_due 6 = .ok (.invokestatic 81, 3) := by decide +kernel
theorem d_M_due_9 : decode b_M_due 9 = .ok (.ifCond .eq 7, 3) := by decide +kernel
theorem d_M_due_12 : decode b_M_due 12 = .ok (.iconst 0, 1) := by decide +kernel
theorem d_M_due_13 : decode b_M_due 13 = .ok (.goto 4, 3) := by decide +kernel
theorem d_M_due_16 : decode b_M_due 16 = .ok (.iconst 1, 1) := by decide +kernel
theorem d_M_due_17 : decode b_M_due 17 = .ok (.putfield 74, 3) := by decide +kernel
theorem d_M_due_20 : decode b_M_due 20 = .ok (.iconst 0, 1) := by decide +kernel
theorem d_M_due_21 : decode b_M_due 21 = .ok (.istore_n 2, 1) := by decide +kernel
theorem d_M_due_22 : decode b_M_due 22 = .ok (.iconst 0, 1) := by decide +kernel
theorem d_M_due_23 : decode b_M_due 23 = .ok (.istore_n 3, 1) := by decide +kernel
theorem d_M_due_24 : decode b_M_due 24 = .ok (.iload_n 3, 1) := by decide +kernel
theorem d_M_due_25 : decode b_M_due 25 = .ok (.aload_n 0, 1) := by decide +kernel
theorem d_M_due_26 : decode b_M_due 26 = .ok (.getfield 78, 3) := by decide +kernel
theorem d_M_due_29 : decode b_M_due 29 = .ok (.if_icmp .ge 56, 3) := by decide +kernel
theorem d_M_due_32 : decode b_M_due 32 = .ok (.aload_n 0, 1) := by decide +kernel
theorem d_M_due_33 : decode b_M_due 33 = .ok (.getfield 74, 3) := by decide +kernel
theorem d_M_due_36 : decode b_M_due 36 = .ok (.ifCond .ne 49, 3) := by decide +kernel
theorem d_M_due_39 : decode b_M_due 39 = .ok (.iload_n 2, 1) := by decide +kernel
theorem d_M_due_40 : decode b_M_due 40 = .ok (.aload_n 0, 1) := by decide +kernel
theorem d_M_due_41 : decode b_M_due 41 = .ok (.getfield 13, 3) := by decide +kernel
theorem d_M_due_44 : decode b_M_due 44 = .ok (.iload_n 3, 1) := by decide +kernel
theorem d_M_due_45 : decode b_M_due 45 = .ok (.iaload, 1) := by decide +kernel
theorem d_M_due_46 : decode b_M_due 46 = .ok (.iconst (-1), 1) := by decide +kernel
theorem d_M_due_47 : decode b_M_due 47 = .ok (.if_icmp .eq 25, 3) := by decide +kernel
theorem d_M_due_50 : decode b_M_due 50 = .ok (.iload_n 1, 1) := by decide +kernel
theorem d_M_due_51 : decode b_M_due 51 = .ok (.aload_n 0, 1) := by decide +kernel
theorem d_M_due_52 : decode b_M_due 52 = .ok (.getfield 13, 3) := by decide +kernel
theorem d_M_due_55 : decode b_M_due 55 = .ok (.iload_n 3, 1) := by decide +kernel
theorem d_M_due_56 : decode b_M_due 56 = .ok (.iaload, 1) := by decide +kernel
theorem d_M_due_57 : decode b_M_due 57 = .ok (.isub, 1) := by decide +kernel
theorem d_M_due_58 : decode b_M_due 58 = .ok (.aload_n 0, 1) := by decide +kernel
theorem d_M_due_59 : decode b_M_due 59 = .ok (.getfield 19, 3) := by decide +kernel
theorem d_M_due_62 : decode b_M_due 62 = .ok (.aload_n 0, 1) := by decide +kernel
theorem d_M_due_63 : decode b_M_due 63 = .ok (.getfield 7, 3) := by decide +kernel
theorem d_M_due_66 : decode b_M_due 66 = .ok (.iload_n 3, 1) := by decide +kernel
theorem d_M_due_67 : decode b_M_due 67 = .ok (.iaload, 1) := by decide +kernel
theorem d_M_due_68 : decode b_M_due 68 = .ok (.iaload, 1) := by decide +kernel
theorem d_M_due_69 : decode b_M_due 69 = .ok (.if_icmp .lt 7, 3) := by decide +kernel
theorem d_M_due_72 : decode b_M_due 72 = .ok (.iconst 1, 1) := by decide +kernel
theorem d_M_due_73 : decode b_M_due 73 = .ok (.goto 4, 3) := by decide +kernel
theorem d_M_due_76 : decode b_M_due 76 = .ok (.iconst 0, 1) := by decide +kernel
theorem d_M_due_77 : decode b_M_due 77 = .ok (.iadd, 1) := by decide +kernel
theorem d_M_due_78 : decode b_M_due 78 = .ok (.istore_n 2, 1) := by decide +kernel
theorem d_M_due_79 : decode b_M_due 79 = .ok (.iinc 3 1, 3) := by decide +kernel
theorem d_M_due_82 : decode b_M_due 82 = .ok (.goto (-58), 3) := by decide +kernel
theorem d_M_due_85 : decode b_M_due 85 = .ok (.iload_n 2, 1) := by decide +kernel
theorem d_M_due_86 : decode b_M_due 86 = .ok (.ireturn, 1) := by decide +kernel
theorem d_M_booked_0 : decode b_M_booked 0 = .ok (.aload_n 0, 1) := by decide +kernel
theorem d_M_booked_1 : decode b_M_booked 1 = .ok (.aload_n 0, 1) := by decide +kernel
theorem d_M_booked_2 : decode b_M_booked 2 = .ok (.iload_n 1, 1) := by decide +kernel
theorem d_M_booked_3 : decode b_M_booked 3 = .ok (.invokevirtual 88, 3) := by decide +kernel
theorem d_M_booked_6 : decode b_M_booked 6 = .ok (.ifCond .ne 7, 3) := by decide +kernel
theorem d_M_booked_9 : decode b_M_booked 9 = .ok (.iconst 1, 1) := by decide +kernel
theorem d_M_booked_10 : decode b_M_booked 10 = .ok (.goto 15, 3) := by decide +kernel
theorem d_M_booked_13 : decode b_M_booked 13 = .ok (.iload_n 2, 1) := by decide +kernel
theorem d_M_booked_14 : decode b_M_booked 14 = .ok (.invokestatic 92, 3) := by decide +kernel
theorem d_M_booked_17 : decode b_M_booked 17 = .ok (.ifCond .ne 7, 3) := by decide +kernel
theorem d_M_booked_20 : decode b_M_booked 20 = .ok (.iconst 2, 1) := by decide +kernel
theorem d_M_booked_21 : decode b_M_booked 21 = .ok (.goto 4, 3) := by decide +kernel
theorem d_M_booked_24 : decode b_M_booked 24 = .ok (.iconst 0, 1) := by decide +kernel
theorem d_M_booked_25 : decode b_M_booked 25 = .ok (.putfield 74, 3) := by decide +kernel
theorem d_M_booked_28 : decode b_M_booked 28 = .ok (.aload_n 0, 1) := by decide +kernel
theorem d_M_booked_29 : decode b_M_booked 29 = .ok (.getfield 74, 3) := by decide +kernel
theorem d_M_booked_32 : decode b_M_booked 32 = .ok (.ifCond .le 7, 3) := by decide +kernel
theorem d_M_booked_35 : decode b_M_booked 35 = .ok (.iconst 0, 1) := by decide +kernel
theorem d_M_booked_36 : decode b_M_booked 36 = .ok (.goto 14, 3) := by decide +kernel
theorem d_M_booked_39 : decode b_M_booked 39 = .ok (.aload_n 0, 1) := by decide +kernel
theorem d_M_booked_40 : decode b_M_booked 40 = .ok (.getfield 16, 3) := by decide +kernel
theorem d_M_booked_43 : decode b_M_booked 43 = .ok (.bipush 6, 2) := by decide +kernel
theorem d_M_booked_45 : decode b_M_booked 45 = .ok (.iload_n 1, 1) := by decide +kernel
theorem d_M_booked_46 : decode b_M_booked 46 = .ok (.imul, 1) := by decide +kernel
theorem d_M_booked_47 : decode b_M_booked 47 = .ok (.iload_n 2, 1) := by decide +kernel
theorem d_M_booked_48 : decode b_M_booked 48 = .ok (.iadd, 1) := by decide +kernel
theorem d_M_booked_49 : decode b_M_booked 49 = .ok (.iaload, 1) := by decide +kernel
theorem d_M_booked_50 : decode b_M_booked 50 = .ok (.ireturn, 1) := by decide +kernel
theorem d_M_told_0 : decode b_M_told 0 = .ok (.aload_n 0, 1) := by decide +kernel
theorem d_M_told_1 : decode b_M_told 1 = .ok (.aload_n 0, 1) := by decide +kernel
theorem d_M_told_2 : decode b_M_told 2 = .ok (.iload_n 1, 1) := by decide +kernel
theorem d_M_told_3 : decode b_M_told 3 = .ok (.invokevirtual 126, 3) := by decide +kernel
theorem d_M_told_6 : decode b_M_told 6 = .ok (.ifCond .ne 7, 3) := by decide +kernel
theorem d_M_told_9 : decode b_M_told 9 = .ok (.iconst 1, 1) := by decide +kernel
theorem d_M_told_10 : decode b_M_told 10 = .ok (.goto 22, 3) := by decide +kernel
theorem d_M_told_13 : decode b_M_told 13 = .ok (.iload_n 2, 1) := by decide +kernel
theorem d_M_told_14 : decode b_M_told 14 = .ok (.ifCond .lt 13, 3) := by decide +kernel
theorem d_M_told_17 : decode b_M_told 17 = .ok (.iload_n 2, 1) := by decide +kernel
theorem d_M_told_18 : decode b_M_told 18 = .ok (.iconst 3, 1) := by decide +kernel
theorem d_M_told_19 : decode b_M_told 19 = .ok (.bipush 9, 2) := by decide +kernel
theorem d_M_told_21 : decode b_M_told 21 = .ok (.invokestatic 81, 3) := by decide +kernel
theorem d_M_told_24 : decode b_M_told 24 = .ok (.ifCond .eq 7, 3) := by decide +kernel
theorem d_M_told_27 : decode b_M_told 27 = .ok (.iconst 2, 1) := by decide +kernel
theorem d_M_told_28 : decode b_M_told 28 = .ok (.goto 4, 3) := by decide +kernel
theorem d_M_told_31 : decode b_M_told 31 = .ok (.iconst 0, 1) := by decide +kernel
theorem d_M_told_32 : decode b_M_told 32 = .ok (.putfield 74, 3) := by decide +kernel
theorem d_M_told_35 : decode b_M_told 35 = .ok (.aload_n 0, 1) := by decide +kernel
theorem d_M_told_36 : decode b_M_told 36 = .ok (.getfield 74, 3) := by decide +kernel
theorem d_M_told_39 : decode b_M_told 39 = .ok (.ifCond .le 5, 3) := by decide +kernel
theorem d_M_told_42 : decode b_M_told 42 = .ok (.iconst 0, 1) := by decide +kernel
theorem d_M_told_43 : decode b_M_told 43 = .ok (.ireturn, 1) := by decide +kernel
theorem d_M_told_44 : decode b_M_told 44 = .ok (.iload_n 2, 1) := by decide +kernel
theorem d_M_told_45 : decode b_M_told 45 = .ok (.ifCond .ne 10, 3) := by decide +kernel
theorem d_M_told_48 : decode b_M_told 48 = .ok (.aload_n 0, 1) := by decide +kernel
theorem d_M_told_49 : decode b_M_told 49 = .ok (.getfield 44, 3) := by decide +kernel
theorem d_M_told_52 : decode b_M_told 52 = .ok (.iload_n 1, 1) := by decide +kernel
theorem d_M_told_53 : decode b_M_told 53 = .ok (.iaload, 1) := by decide +kernel
theorem d_M_told_54 : decode b_M_told 54 = .ok (.ireturn, 1) := by decide +kernel
theorem d_M_told_55 : decode b_M_told 55 = .ok (.iload_n 2, 1) := by decide +kernel
theorem d_M_told_56 : decode b_M_told 56 = .ok (.iconst 1, 1) := by decide +kernel
theorem d_M_told_57 : decode b_M_told 57 = .ok (.if_icmp .ne 10, 3) := by decide +kernel
theorem d_M_told_60 : decode b_M_told 60 = .ok (.aload_n 0, 1) := by decide +kernel
theorem d_M_told_61 : decode b_M_told 61 = .ok (.getfield 47, 3) := by decide +kernel
theorem d_M_told_64 : decode b_M_told 64 = .ok (.iload_n 1, 1) := by decide +kernel
theorem d_M_told_65 : decode b_M_told 65 = .ok (.iaload, 1) := by decide +kernel
theorem d_M_told_66 : decode b_M_told 66 = .ok (.ireturn, 1) := by decide +kernel
theorem d_M_told_67 : decode b_M_told 67 = .ok (.iload_n 2, 1) := by decide +kernel
theorem d_M_told_68 : decode b_M_told 68 = .ok (.iconst 2, 1) := by decide +kernel
theorem d_M_told_69 : decode b_M_told 69 = .ok (.if_icmp .ne 10, 3) := by decide +kernel
theorem d_M_told_72 : decode b_M_told 72 = .ok (.aload_n 0, 1) := by decide +kernel
theorem d_M_told_73 : decode b_M_told 73 = .ok (.getfield 50, 3) := by decide +kernel
theorem d_M_told_76 : decode b_M_told 76 = .ok (.iload_n 1, 1) := by decide +kernel
theorem d_M_told_77 : decode b_M_told 77 = .ok (.iaload, 1) := by decide +kernel
theorem d_M_told_78 : decode b_M_told 78 = .ok (.ireturn, 1) := by decide +kernel
theorem d_M_told_79 : decode b_M_told 79 = .ok (.iload_n 2, 1) := by decide +kernel
theorem d_M_told_80 : decode b_M_told 80 = .ok (.bipush 10, 2) := by decide +kernel
theorem d_M_told_82 : decode b_M_told 82 = .ok (.isub, 1) := by decide +kernel
theorem d_M_told_83 : decode b_M_told 83 = .ok (.aload_n 0, 1) := by decide +kernel
theorem d_M_told_84 : decode b_M_told 84 = .ok (.getfield 47, 3) := by decide +kernel
theorem d_M_told_87 : decode b_M_told 87 = .ok (.iload_n 1, 1) := by decide +kernel
theorem d_M_told_88 : decode b_M_told 88 = .ok (.iaload, 1) := by decide +kernel
theorem d_M_told_89 : decode b_M_told 89 = .ok (.if_icmp .ge 20, 3) := by decide +kernel
theorem d_M_told_92 : decode b_M_told 92 = .ok (.aload_n 0, 1) := by decide +kernel
theorem d_M_told_93 : decode b_M_told 93 = .ok (.getfield 53, 3) := by decide +kernel
theorem d_M_told_96 : decode b_M_told 96 = .ok (.bipush 20, 2) := by decide +kernel
theorem d_M_told_98 : decode b_M_told 98 = .ok (.iload_n 1, 1) := by decide +kernel
theorem d_M_told_99 : decode b_M_told 99 = .ok (.imul, 1) := by decide +kernel
theorem d_M_told_100 : decode b_M_told 100 = .ok (.iload_n 2, 1) := by decide +kernel
theorem d_M_told_101 : decode b_M_told 101 = .ok (.iadd, 1) := by decide +kernel
theorem d_M_told_102 : decode b_M_told 102 = .ok (.bipush 10, 2) := by decide +kernel
theorem d_M_told_104 : decode b_M_told 104 = .ok (.isub, 1) := by decide +kernel
theorem d_M_told_105 : decode b_M_told 105 = .ok (.iaload, 1) := by decide +kernel
theorem d_M_told_106 : decode b_M_told 106 = .ok (.goto 4, 3) := by decide +kernel
theorem d_M_told_109 : decode b_M_told 109 = .ok (.iconst (-1), 1) := by decide +kernel
theorem d_M_told_110 : decode b_M_told 110 = .ok (.ireturn, 1) := by decide +kernel
theorem d_M_count_0 : decode b_M_count 0 = .ok (.aload_n 0, 1) := by decide +kernel
theorem d_M_count_1 : decode b_M_count 1 = .ok (.iconst 0, 1) := by decide +kernel
theorem d_M_count_2 : decode b_M_count 2 = .ok (.putfield 74, 3) := by decide +kernel
theorem d_M_count_5 : decode b_M_count 5 = .ok (.iload_n 1, 1) := by decide +kernel
theorem d_M_count_6 : decode b_M_count 6 = .ok (.ifCond .ne 8, 3) := by decide +kernel
theorem d_M_count_9 : decode b_M_count 9 = .ok (.aload_n 0, 1) := by decide +kernel
theorem d_M_count_10 : decode b_M_count 10 = .ok (.getfield 78, 3) := by decide +kernel
theorem d_M_count_13 : decode b_M_count 13 = .ok (.ireturn, 1) := by decide +kernel
theorem d_M_count_14 : decode b_M_count 14 = .ok (.iload_n 1, 1) := by decide +kernel
theorem d_M_count_15 : decode b_M_count 15 = .ok (.iconst 1, 1) := by decide +kernel
theorem d_M_count_16 : decode b_M_count 16 = .ok (.if_icmp .ne 8, 3) := by decide +kernel
theorem d_M_count_19 : decode b_M_count 19 = .ok (.aload_n 0, 1) := by decide +kernel
theorem d_M_count_20 : decode b_M_count 20 = .ok (.getfield 105, 3) := by decide +kernel
theorem d_M_count_23 : decode b_M_count 23 = .ok (.ireturn, 1) := by decide +kernel
theorem d_M_count_24 : decode b_M_count 24 = .ok (.iload_n 1, 1) := by decide +kernel
theorem d_M_count_25 : decode b_M_count 25 = .ok (.iconst 2, 1) := by decide +kernel
theorem d_M_count_26 : decode b_M_count 26 = .ok (.if_icmp .ne 8, 3) := by decide +kernel
theorem d_M_count_29 : decode b_M_count 29 = .ok (.aload_n 0, 1) := by decide +kernel
theorem d_M_count_30 : decode b_M_count 30 = .ok (.getfield 85, 3) := by decide +kernel
theorem d_M_count_33 : decode b_M_count 33 = .ok (.ireturn, 1) := by decide +kernel
theorem d_M_count_34 : decode b_M_count 34 = .ok (.iload_n 1, 1) := by decide +kernel
theorem d_M_count_35 : decode b_M_count 35 = .ok (.iconst 3, 1) := by decide +kernel
theorem d_M_count_36 : decode b_M_count 36 = .ok (.if_icmp .ne 8, 3) := by decide +kernel
theorem d_M_count_39 : decode b_M_count 39 = .ok (.aload_n 0, 1) := by decide +kernel
theorem d_M_count_40 : decode b_M_count 40 = .ok (.getfield 102, 3) := by decide +kernel
theorem d_M_count_43 : decode b_M_count 43 = .ok (.ireturn, 1) := by decide +kernel
theorem d_M_count_44 : decode b_M_count 44 = .ok (.iconst 0, 1) := by decide +kernel
theorem d_M_count_45 : decode b_M_count 45 = .ok (.istore_n 2, 1) := by decide +kernel
theorem d_M_count_46 : decode b_M_count 46 = .ok (.iconst 1, 1) := by decide +kernel
theorem d_M_count_47 : decode b_M_count 47 = .ok (.istore_n 3, 1) := by decide +kernel
theorem d_M_count_48 : decode b_M_count 48 = .ok (.iload_n 3, 1) := by decide +kernel
theorem d_M_count_49 : decode b_M_count 49 = .ok (.aload_n 0, 1) := by decide +kernel
theorem d_M_count_50 : decode b_M_count 50 = .ok (.getfield 105, 3) := by decide +kernel
theorem d_M_count_53 : decode b_M_count 53 = .ok (.if_icmp .gt 26, 3) := by decide +kernel
theorem d_M_count_56 : decode b_M_count 56 = .ok (.iload_n 2, 1) := by decide +kernel
theorem d_M_count_57 : decode b_M_count 57 = .ok (.aload_n 0, 1) := by decide +kernel
theorem d_M_count_58 : decode b_M_count 58 = .ok (.getfield 40, 3) := by decide +kernel
theorem d_M_count_61 : decode b_M_count 61 = .ok (.iload_n 3, 1) := by decide +kernel
theorem d_M_count_62 : decode b_M_count 62 = .ok (.baload, 1) := by decide +kernel
theorem d_M_count_63 : decode b_M_count 63 = .ok (.ifCond .eq 7, 3) := by decide +kernel
theorem d_M_count_66 : decode b_M_count 66 = .ok (.iconst 0, 1) := by decide +kernel
theorem d_M_count_67 : decode b_M_count 67 = .ok (.goto 4, 3) := by decide +kernel
theorem d_M_count_70 : decode b_M_count 70 = .ok (.iconst 1, 1) := by decide +kernel
theorem d_M_count_71 : decode b_M_count 71 = .ok (.iadd, 1) := by decide +kernel
theorem d_M_count_72 : decode b_M_count 72 = .ok (.istore_n 2, 1) := by decide +kernel
theorem d_M_count_73 : decode b_M_count 73 = .ok (.iinc 3 1, 3) := by decide +kernel
theorem d_M_count_76 : decode b_M_count 76 = .ok (.goto (-28), 3) := by decide +kernel
theorem d_M_count_79 : decode b_M_count 79 = .ok (.iload_n 1, 1) := by decide +kernel
theorem d_M_count_80 : decode b_M_count 80 = .ok (.iconst 4, 1) := by decide +kernel
theorem d_M_count_81 : decode b_M_count 81 = .ok (.if_icmp .ne 7, 3) := by decide +kernel
theorem d_M_count_84 : decode b_M_count 84 = .ok (.iload_n 2, 1) := by decide +kernel
theorem d_M_count_85 : decode b_M_count 85 = .ok (.goto 4, 3) := by decide +kernel
theorem d_M_count_88 : decode b_M_count 88 = .ok (.iconst (-1), 1) := by decide +kernel
theorem d_M_count_89 : decode b_M_count 89 = .ok (.ireturn, 1) := by decide +kernel
end
section
/-! COMMON: contexts, worlds, contracts, calls -/
def tys (tc : Nat → ClassId) : List (ClassId × FieldType) := [(tc 0, .int), (tc 1, .boolean), (tc 2, .long), (tc 3, .object "CountRounds$Place"), (tc 4, .object "CountRounds$Transfer"), (tc 5, .object "CountRounds$Sheet")]
/-- what a method's body knows of the machine: its code, its locals' number, its class, the words, the classes -/
def cX (p : Program) (s : State) (m : MethodId) (args : Array Value) (c : Code) (own : String) (cc : ByteArray) (nL : Nat) (D : va_G) (tc : Nat → ClassId) : Prop :=
  p.tables.exec = Jvm.exec ∧ c.code = cc ∧ c.maxLocals = nL ∧ s.vm.findClass own = some m.cls ∧ (∀ w ∈ gw, w.before args s = true) ∧ va_K D classes (tys tc) s
/-- the world: the cells ws lie in H, apart, in A; since H0 nothing outside A has changed -/
def wH (D : va_G) (A : Nat → Prop) (H0 : Heap) (ws : va_W) (H : Heap) (locs : List Loc) : Prop := va_P D classes ws H ∧ va_D A ws ∧ va_S A H0 H locs
def pW (D : va_G) (tc : Nat → ClassId) (ws : va_W) (sz : Nat) (U : State) : Prop := U.heap.size = sz ∧ va_P D classes ws U.heap ∧ va_K D classes (tys tc) U ∧ va_D (fun _ => True) ws
def qW (D : va_G) (tc : Nat → ClassId) (A : Nat → Prop) (ws : va_W) (t : State) : Prop := va_P D classes ws t.heap ∧ va_K D classes (tys tc) t ∧ va_D A ws
/-- an answer, and the heap as it was -/
def qP (r : Value) : Array Value → State → Outcome → State → Prop := fun _ st oc t => oc = .returned (some r) ∧ t.heap = st.heap
theorem gd_gw : GoodIn gw gw := fun _ h => ⟨h, good_of_word (List.mem_filter.mp h).2⟩
theorem gd_c {w : Cond} (h : w ∈ gw) : GoodIn gw (w :: gw) := fun v hv => (List.mem_cons.mp hv).elim (fun e => by rw [e]; exact gd_gw w h) (gd_gw v)
theorem gd_V {own C : String} {idx : Nat} {y : MethodName} {w : Cond} (h1 : Cond.methodLink own idx y ∈ gw) (h2 : Cond.instanceMethod y ∈ gw) (h3 : Cond.selects C y y ∈ gw) (h4 : Cond.initialized C ∈ gw) (h5 : w ∈ gw) : GoodIn gw (wsV own idx C y (w :: gw)) := by
  intro v hv
  rcases List.mem_append.mp hv with hv | hv
  · rcases List.mem_cons.mp hv with rfl | hv
    · exact gd_gw _ h1
    rcases List.mem_cons.mp hv with rfl | hv
    · exact gd_gw _ h2
    rcases List.mem_cons.mp hv with rfl | hv
    · exact gd_gw _ h3
    rcases List.mem_cons.mp hv with rfl | hv
    · exact gd_gw _ h4
    · cases hv
  · exact gd_c h5 v hv
theorem gd_S {own : String} {idx : Nat} {y : MethodName} {w : Cond} (h1 : Cond.methodLink own idx y ∈ gw) (h2 : Cond.static y ∈ gw) (h4 : Cond.initialized own ∈ gw) (h5 : w ∈ gw) : GoodIn gw (wsS own idx y (w :: gw)) := by
  intro v hv
  rcases List.mem_append.mp hv with hv | hv
  · rcases List.mem_cons.mp hv with rfl | hv
    · exact gd_gw _ h1
    rcases List.mem_cons.mp hv with rfl | hv
    · exact gd_gw _ h2
    rcases List.mem_cons.mp hv with rfl | hv
    · exact gd_gw _ h4
    · cases hv
  · exact gd_c h5 v hv
/-- a method's body from its entry -/
theorem en_W {l : Launch} {y : MethodName} {cc : ByteArray} {nL : Nat} {ret : Option FieldType} {rm : Room} {Qc : Array Value → State → Outcome → State → Prop} {mc ms : Nat} {free : Addr → Prop} {av : List Value} {D : va_G} {tc : Nat → ClassId} {w0 : va_W} {sz : Nat}
    (hy : plainName y.cls = true) (hlen : (lg_sl av).length ≤ nL)
    (body : ∀ (p : Program) (e : Env) (s : State) (m : MethodId) (args : Array Value) (below : List Frame) (meth : Method) (c : Code) (ls : Array Slot), cX p s m args c y.cls cc nL D tc → meth.sig.returnType = ret → meth.locks = false → meth.name = y.name → s.heap.size = sz → wH D (va_A w0 sz) s.heap w0 s.heap [] → lv_has ls nL (lv_args 0 av) →
      W p l e rm s m args below meth c s.heap [] 0 0 (MQ below Qc args s mc ms free) (F0 m 0 ls [])) : Met l y (Cond.code y cc nL ret :: gw) rm (va_Pc av (pW D tc w0 sz)) Qc mc ms free := by
  refine Met.ofW (cc := cc) (maxL := nL) (ret := ret) hy rfl ?_
  intro p e s m args below meth c s₁ B hml hv
  obtain ⟨rfl, hsz, hP, hK, hD0⟩ := hv
  have hts := atoms_spec (ws := Cond.code y cc nL ret :: gw) B.pre
  have hin : meth.name = y.name := (name_of_methodNamed B.named B.method).1
  have hD := hD0.self (sz := sz)
  have hl := lv_entry av (n := nL) hlen
  rw [lg_entry_eq]
  exact body p e s m _ below meth c _ ⟨B.exec, B.bytes, hml, findClass_of_methodNamed B.named, fun w h => hts w (List.mem_cons_of_mem _ h), hK⟩ B.returns B.notSynchronized hin hsz ⟨hP, hD, va_S.rf⟩ hl
/-- the same of a method that needs no world -/
theorem en_P {l : Launch} {y : MethodName} {cc : ByteArray} {nL : Nat} {ret : Option FieldType} {rm : Room} {Qc : Array Value → State → Outcome → State → Prop} {mc ms : Nat} {free : Addr → Prop} {av : List Value}
    (hy : plainName y.cls = true) (hlen : (lg_sl av).length ≤ nL)
    (body : ∀ (p : Program) (e : Env) (s : State) (m : MethodId) (args : Array Value) (below : List Frame) (meth : Method) (c : Code) (ls : Array Slot), p.tables.exec = Jvm.exec → c.code = cc → c.maxLocals = nL → s.vm.findClass y.cls = some m.cls → (∀ w ∈ gw, w.before args s = true) → meth.sig.returnType = ret → meth.locks = false → lv_has ls nL (lv_args 0 av) →
      W p l e rm s m args below meth c s.heap [] 0 0 (MQ below Qc args s mc ms free) (F0 m 0 ls [])) : Met l y (Cond.code y cc nL ret :: gw) rm (va_Pc av (fun _ => True)) Qc mc ms free := by
  refine Met.ofW (cc := cc) (maxL := nL) (ret := ret) hy rfl ?_
  intro p e s m args below meth c s₁ B hml hv
  obtain ⟨rfl, -⟩ := hv
  have hts := atoms_spec (ws := Cond.code y cc nL ret :: gw) B.pre
  have hl := lv_entry av (n := nL) hlen
  rw [lg_entry_eq]
  exact body p e s m _ below meth c _ B.exec B.bytes hml (findClass_of_methodNamed B.named) (fun w h => hts w (List.mem_cons_of_mem _ h)) B.returns B.notSynchronized hl
section WR
variable {p : Program} {l : Launch} {e : Env} {R : Room} {s : State} {m : MethodId} {args : Array Value} {below : List Frame} {meth : Method} {c : Code} {H : Heap} {locs : List Loc} {cells slots : Nat} {Q : State → Prop} {cc : ByteArray} {nL pc : Nat} {ls : Array Slot} {rest st0 : List Value} {D : va_G} {tc : Nat → ClassId} {A : Nat → Prop} {ws : va_W} {own : String} {mc ms : Nat}
/-- a pure method's end -/
theorem rt_p {v : Int32} {r : Value} {ty : FieldType} {mc ms : Nat} (hx : p.tables.exec = Jvm.exec) (hb : c.code = cc) (hr : meth.sig.returnType = some ty) (hlocks : meth.locks = false) (hn : narrow ty (.int v) = .int v) (hv : r = .int v) (hd : decode cc pc = .ok (.ireturn, 1)) (hc : cells ≤ mc) (hs : slots ≤ ms) : W p l e R s m args below meth c s.heap [] cells slots (MQ below (qP r) args s mc ms (fun _ => False)) (F0 m pc ls [.int v]) := by
  refine W.widen hc hs ?_
  exact W.zret hx hb hr hn (fun t ht _ => ⟨by rw [hv], ht⟩) (fun q hq => nomatch hq) hd
/-- a method's end: an int, and a world -/
theorem rt_i {S : Type} {post : Int32 → S → Prop} {wd : S → va_W} {v : Int32} {ty : FieldType} (h0 : cX p s m args c own cc nL D tc) (hw : wH D A s.heap ws H locs) (hr : meth.sig.returnType = some ty) (hlocks : meth.locks = false) (hn : narrow ty (.int v) = .int v) (u : S) (hp : post v u) (hu : wd u = ws) (hd : decode cc pc = .ok (.ireturn, 1)) (hc : cells ≤ mc) (hs : slots ≤ ms) : W p l e R s m args below meth c H locs cells slots (MQ below (va_Qi post (fun u t => qW D tc A (wd u) t) A) args s mc ms A) (F0 m pc ls [.int v]) := by
  refine W.widen hc hs ?_
  exact W.zret h0.1 h0.2.1 hr hn (fun t ht hW => ⟨⟨v, u, rfl, hp, by rw [hu, ht]; exact hw.1, va_K.moved hW.alike h0.2.2.2.2.2, by rw [hu]; exact hw.2.1⟩, hw.2.2.F ht⟩) hw.2.2.2.2 hd
theorem rt_v {S : Type} {post : S → Prop} {wd : S → va_W} (h0 : cX p s m args c own cc nL D tc) (hw : wH D A s.heap ws H locs) (hr : meth.sig.returnType = none) (hlocks : meth.locks = false) (u : S) (hp : post u) (hu : wd u = ws) (hd : decode cc pc = .ok (.return_, 1)) (hc : cells ≤ mc) (hs : slots ≤ ms) : W p l e R s m args below meth c H locs cells slots (MQ below (va_Qv post (fun u t => qW D tc A (wd u) t) A) args s mc ms A) (F0 m pc ls []) := by
  refine W.widen hc hs ?_
  exact W.vret h0.1 h0.2.1 hr (fun t ht hW => ⟨⟨u, rfl, hp, by rw [hu, ht]; exact hw.1, va_K.moved hW.alike h0.2.2.2.2.2, by rw [hu]; exact hw.2.1⟩, hw.2.2.F ht⟩) hw.2.2.2.2 hd
/-- a call that leaves the heap as it is -/
theorem ca_p {r : Value} {a : Array Value} (hr : va_Run p l e R s m args below meth c H locs cells slots 0 0 (F0 m pc ls st0) rest (qP r a) (fun _ => False)) (kk : W p l e R s m args below meth c H locs cells slots Q (F0 m (pc + 3) ls (r :: rest))) : W p l e R s m args below meth c H locs cells slots Q (F0 m pc ls st0) := by
  intro T hT X
  obtain ⟨v, st₀, t, T', L, h0, X', hL, e1, e2, ⟨hv, ht⟩, st⟩ := hr T hT X
  cases hv
  have hL0 : L = [] := by
    cases L with
    | nil => rfl
    | cons q L => exact (hL q List.mem_cons_self).elim
  subst hL0
  rw [List.append_nil] at X'
  obtain ⟨t2, a1, b1⟩ := kk T' (by rw [e1, ht, h0]) X'
  exact ⟨t2, st t2 a1, b1⟩
theorem bl_pW {D : va_G} {tc : Nat → ClassId} {ws : va_W} {sz : Nat} {av : List Value} : FrameBlind (va_Pc av (pW D tc ws sz)) := fun a U g mk q => ⟨q.1, q.2.1, q.2.2.1, va_K.moved (u := U) (U := U.calling g mk a) (Vm.Alike.refl U.vm) q.2.2.2.1, q.2.2.2.2⟩
theorem pr_S {As : List Value} (h0 : cX p s m args c own cc nL D tc) (hP : va_P D classes ws H) (hD : va_D A ws) : PreS s H (va_Pc As (pW D tc ws H.size)) As := ⟨bl_pW, fun U hU hW => ⟨rfl, by rw [hU], by rw [hU]; exact hP, va_K.moved hW.alike h0.2.2.2.2.2, hD.weaken (fun _ _ _ _ => trivial)⟩⟩
theorem pr_V {As : List Value} {C : String} {b q0 ci : Nat} {fs : List Value} {T : u_T} {N : Nat} (h0 : cX p s m args c own cc nL D tc) (hP : va_P D classes ws H) (hD : va_D A ws) (he : ws[q0]? = some (b, .inr (ci, fs))) (hc : classes[ci]? = some (C, T, N)) : PreV s H C b (va_Pc (.ref b :: As) (pW D tc ws H.size)) As :=
  ⟨bl_pW, va_recv h0.2.2.2.2.2 hP hc he, (pr_S h0 hP hD).2⟩
/-- a static call without a world -/
theorem cs_p {y : MethodName} {bytes : ByteArray} {maxL index n : Nat} {ret : Option FieldType} {rm : Room} {r : Value} {As : List Value} (hx : p.tables.exec = Jvm.exec) (hb : c.code = cc) (hml : c.maxLocals = nL) (hown : s.vm.findClass own = some m.cls) (hts : ∀ w ∈ gw, w.before args s = true)
    (hM : Met l y (Cond.code y bytes maxL ret :: gw) rm (va_Pc As (fun _ => True)) (qP r) 0 0 (fun _ => False)) (hG : GoodIn gw (wsS own index y (Cond.code y bytes maxL ret :: gw)))
    (hd : y.cls = own ∧ y.cls ≠ "java/lang/invoke/MethodHandle" ∧ y.cls ≠ "java/lang/invoke/VarHandle" ∧ (parseMethodDescriptor y.desc).map (fun d => d.parameters.length) = some n) (hR : rm.cells = 0 ∧ rm.slots = 0 ∧ rm.frames + 1 ≤ R.frames ∧ 8 + (maxL + 11) + rm.locals ≤ R.locals ∧ cells ≤ R.cells ∧ slots ≤ R.slots)
    (hn : As.length = n) (hsize : ls.size = nL) (hst : st0 = As.reverse ++ rest) (hW : (rest.map fun v => v.category).sum ≤ 8) (hdg : decode cc pc = .ok (.invokestatic index, 3))
    (kk : W p l e R s m args below meth c H locs cells slots Q (F0 m (pc + 3) ls (r :: rest))) : W p l e R s m args below meth c H locs cells slots Q (F0 m pc ls st0) :=
  ca_p (va_runS (As := As) (rest := rest) ⟨hx, hb, hml, hown, hts⟩ hM (cwS n hts hG rfl hR.1 hR.2.1 hd ⟨hR.2.2.1, hR.2.2.2.1⟩) ⟨fun a U g mk q => ⟨q.1, trivial⟩, fun U hU hW => ⟨rfl, trivial⟩⟩ rfl hn hsize hst (lv_room hW) hdg ⟨hR.2.2.2.2.1, hR.2.2.2.2.2⟩) kk
/-- a call on an object of the world that leaves the heap as it is -/
theorem cv_p {y : MethodName} {bytes : ByteArray} {maxL index n : Nat} {ret : Option FieldType} {rm : Room} {r : Value} {As : List Value} {C : String} {b q0 ci : Nat} {fs : List Value} {T : u_T} {N : Nat} {H0 : Heap} (h0 : cX p s m args c own cc nL D tc) (hw : wH D A H0 ws H locs)
    (hM : Met l y (Cond.code y bytes maxL ret :: gw) rm (va_Pc (.ref b :: As) (pW D tc ws H.size)) (qP r) 0 0 (fun _ => False)) (hG : GoodIn gw (wsV own index C y (Cond.code y bytes maxL ret :: gw)))
    (hd : y.cls = C ∧ y.cls ≠ "java/lang/invoke/MethodHandle" ∧ y.cls ≠ "java/lang/invoke/VarHandle" ∧ (parseMethodDescriptor y.desc).map (fun d => d.parameters.length) = some n) (hR : rm.cells = 0 ∧ rm.slots = 0 ∧ rm.frames + 1 ≤ R.frames ∧ 8 + (maxL + 11) + rm.locals ≤ R.locals ∧ cells ≤ R.cells ∧ slots ≤ R.slots)
    (he : ws[q0]? = some (b, .inr (ci, fs))) (hc : classes[ci]? = some (C, T, N)) (hn : As.length = n) (hsize : ls.size = nL) (hst : st0 = As.reverse ++ .ref b :: rest) (hW : (rest.map fun v => v.category).sum ≤ 8) (hdg : decode cc pc = .ok (.invokevirtual index, 3))
    (kk : W p l e R s m args below meth c H locs cells slots Q (F0 m (pc + 3) ls (r :: rest))) : W p l e R s m args below meth c H locs cells slots Q (F0 m pc ls st0) :=
  ca_p (va_runV (As := As) (rest := rest) ⟨h0.1, h0.2.1, h0.2.2.1, h0.2.2.2.1, h0.2.2.2.2.1⟩ hM (cwV n h0.2.2.2.2.1 hG rfl hR.1 hR.2.1 hd ⟨hR.2.2.1, hR.2.2.2.1⟩) (pr_V h0 hw.1 hw.2.1 he hc) rfl hn hsize hst (lv_room hW) hdg ⟨hR.2.2.2.2.1, hR.2.2.2.2.2⟩) kk
end WR
end
section
/-! THE REFERENCE: its object and its arrays as one table of numbers m: m k j, field k, place j -/
def mo (tc : Nat → ClassId) (a : Nat → Nat) (μ : Nat → Nat → Int32) : va_W := [(a 0, .inr (4, [.int (μ 0 0), .int (μ 1 0), .int (μ 2 0), .int (μ 3 0), .ref (a 4), .ref (a 5), .ref (a 6), .ref (a 7), .ref (a 8), .ref (a 9), .int (μ 10 0), .ref (a 11), .ref (a 12), .ref (a 13), .ref (a 14), .ref (a 15), .int (μ 16 0), .ref (a 17), .ref (a 18), .ref (a 19), .ref (a 20), .ref (a 21), .ref (a 22), .ref (a 23), .ref (a 24), .ref (a 25), .int (μ 26 0), .int (μ 27 0), .ref (a 28)])), (a 4, .inl (tc 0, 20, .inl (μ 4))), (a 5, .inl (tc 0, 20, .inl (μ 5))), (a 6, .inl (tc 0, 120, .inl (μ 6))), (a 7, .inl (tc 0, 3, .inl (μ 7))), (a 8, .inl (tc 0, 3, .inl (μ 8))), (a 9, .inl (tc 0, 6, .inl (μ 9))), (a 11, .inl (tc 0, 61, .inl (μ 11))), (a 12, .inl (tc 0, 61, .inl (μ 12))), (a 13, .inl (tc 0, 61, .inl (μ 13))), (a 14, .inl (tc 0, 61, .inl (μ 14))), (a 15, .inl (tc 1, 61, .inl (μ 15))), (a 17, .inl (tc 0, 21, .inl (μ 17))), (a 18, .inl (tc 0, 21, .inl (μ 18))), (a 19, .inl (tc 0, 21, .inl (μ 19))), (a 20, .inl (tc 0, 420, .inl (μ 20))), (a 21, .inl (tc 0, 2520, .inl (μ 21))), (a 22, .inl (tc 0, 2520, .inl (μ 22))), (a 23, .inl (tc 0, 2520, .inl (μ 23))), (a 24, .inl (tc 0, 2520, .inl (μ 24))), (a 25, .inl (tc 0, 2520, .inl (μ 25))), (a 28, .inl (tc 1, 20, .inl (μ 28)))]
def u2 (μ : Nat → Nat → Int32) (k j : Nat) (v : Int32) : Nat → Nat → Int32 := fun k9 => if k9 = k then upd (μ k) j v else μ k9
theorem i_M : ∀ w ∈ u_ws R_M F_M 29, w ∈ gw := by
  intro w hw
  obtain ⟨k, hk, rfl⟩ := List.mem_map.mp hw
  have hk := List.mem_range.mp hk
  rcases (show k = 0 ∨ k = 1 ∨ k = 2 ∨ k = 3 ∨ k = 4 ∨ k = 5 ∨ k = 6 ∨ k = 7 ∨ k = 8 ∨ k = 9 ∨ k = 10 ∨ k = 11 ∨ k = 12 ∨ k = 13 ∨ k = 14 ∨ k = 15 ∨ k = 16 ∨ k = 17 ∨ k = 18 ∨ k = 19 ∨ k = 20 ∨ k = 21 ∨ k = 22 ∨ k = 23 ∨ k = 24 ∨ k = 25 ∨ k = 26 ∨ k = 27 ∨ k = 28 by omega) with rfl | rfl | rfl | rfl | rfl | rfl | rfl | rfl | rfl | rfl | rfl | rfl | rfl | rfl | rfl | rfl | rfl | rfl | rfl | rfl | rfl | rfl | rfl | rfl | rfl | rfl | rfl | rfl | rfl
  · exact wd_640
  · exact wd_642
  · exact wd_644
  · exact wd_646
  · exact wd_648
  · exact wd_650
  · exact wd_652
  · exact wd_654
  · exact wd_656
  · exact wd_658
  · exact wd_660
  · exact wd_662
  · exact wd_664
  · exact wd_666
  · exact wd_668
  · exact wd_670
  · exact wd_672
  · exact wd_674
  · exact wd_676
  · exact wd_678
  · exact wd_680
  · exact wd_682
  · exact wd_684
  · exact wd_686
  · exact wd_688
  · exact wd_690
  · exact wd_692
  · exact wd_694
  · exact wd_696
section MR
variable {p : Program} {l : Launch} {e : Env} {R : Room} {s : State} {m : MethodId} {args : Array Value} {below : List Frame} {meth : Method} {c : Code} {H : Heap} {locs : List Loc} {cells slots : Nat} {Q : State → Prop} {cc : ByteArray} {nL pc : Nat} {ls : Array Slot} {rest : List Value} {D : va_G} {tc : Nat → ClassId} {A : Nat → Prop} {H0 : Heap} {a : Nat → Nat} {μ : Nat → Nat → Int32} {Y : va_W}
theorem mg_0 (h0 : cX p s m args c "CountRoundsModel" cc nL D tc) (hw : wH D A H0 (mo tc a μ ++ Y) H locs) (hd : decode cc pc = .ok (.getfield 74, 3)) (kk : W p l e R s m args below meth c H locs cells slots Q (F0 m (pc + 3) ls (.int (μ 0 0) :: rest))) : W p l e R s m args below meth c H locs cells slots Q (F0 m pc ls (.ref (a 0) :: rest)) :=
  va_get (D := D) (ci := 4) (v := .int (μ 0 0)) (C := R_M) (T := F_M) (N := 29) h0.1 h0.2.1 h0.2.2.2.2.1 i_M h0.2.2.2.1 h0.2.2.2.2.2 hw.1 0 rfl rfl 0 (by decide) (h0.2.2.2.2.1 _ wd_611) (fun _ h9 => h9) rfl hd kk
theorem mp_0 {v : Int32} (h0 : cX p s m args c "CountRoundsModel" cc nL D tc) (hw : wH D A H0 (mo tc a μ ++ Y) H locs) (hd : decode cc pc = .ok (.putfield 74, 3)) (kk : ∀ (H1 : Heap) (locs1 : List Loc), wH D A H0 (mo tc a (u2 μ 0 0 v) ++ Y) H1 locs1 → W p l e R s m args below meth c H1 locs1 cells slots Q (F0 m (pc + 3) ls rest)) : W p l e R s m args below meth c H locs cells slots Q (F0 m pc ls (.int v :: .ref (a 0) :: rest)) :=
  va_put (D := D) (ci := 4) (v := .int v) (ty := .int) (C := R_M) (T := F_M) (N := 29) h0.1 h0.2.1 h0.2.2.2.2.1 i_M ty_M ty_M_ok n_M h0.2.2.2.1 h0.2.2.2.2.2 hw.1 hw.2.1 hw.2.2 0 rfl rfl 0 (by decide) (h0.2.2.2.2.1 _ wd_611) (fun _ h9 => h9) rfl (by decide +kernel) rfl rfl (Nat.le_of_ble_eq_true rfl) hd (fun H1 locs1 hP hD hS => kk H1 locs1 ⟨hP, hD, hS⟩)
theorem mg_1 (h0 : cX p s m args c "CountRoundsModel" cc nL D tc) (hw : wH D A H0 (mo tc a μ ++ Y) H locs) (hd : decode cc pc = .ok (.getfield 102, 3)) (kk : W p l e R s m args below meth c H locs cells slots Q (F0 m (pc + 3) ls (.int (μ 1 0) :: rest))) : W p l e R s m args below meth c H locs cells slots Q (F0 m pc ls (.ref (a 0) :: rest)) :=
  va_get (D := D) (ci := 4) (v := .int (μ 1 0)) (C := R_M) (T := F_M) (N := 29) h0.1 h0.2.1 h0.2.2.2.2.1 i_M h0.2.2.2.1 h0.2.2.2.2.2 hw.1 0 rfl rfl 1 (by decide) (h0.2.2.2.2.1 _ wd_612) (fun _ h9 => h9) rfl hd kk
theorem mp_1 {v : Int32} (h0 : cX p s m args c "CountRoundsModel" cc nL D tc) (hw : wH D A H0 (mo tc a μ ++ Y) H locs) (hd : decode cc pc = .ok (.putfield 102, 3)) (kk : ∀ (H1 : Heap) (locs1 : List Loc), wH D A H0 (mo tc a (u2 μ 1 0 v) ++ Y) H1 locs1 → W p l e R s m args below meth c H1 locs1 cells slots Q (F0 m (pc + 3) ls rest)) : W p l e R s m args below meth c H locs cells slots Q (F0 m pc ls (.int v :: .ref (a 0) :: rest)) :=
  va_put (D := D) (ci := 4) (v := .int v) (ty := .int) (C := R_M) (T := F_M) (N := 29) h0.1 h0.2.1 h0.2.2.2.2.1 i_M ty_M ty_M_ok n_M h0.2.2.2.1 h0.2.2.2.2.2 hw.1 hw.2.1 hw.2.2 0 rfl rfl 1 (by decide) (h0.2.2.2.2.1 _ wd_612) (fun _ h9 => h9) rfl (by decide +kernel) rfl rfl (Nat.le_of_ble_eq_true rfl) hd (fun H1 locs1 hP hD hS => kk H1 locs1 ⟨hP, hD, hS⟩)
theorem mg_2 (h0 : cX p s m args c "CountRoundsModel" cc nL D tc) (hw : wH D A H0 (mo tc a μ ++ Y) H locs) (hd : decode cc pc = .ok (.getfield 99, 3)) (kk : W p l e R s m args below meth c H locs cells slots Q (F0 m (pc + 3) ls (.int (μ 2 0) :: rest))) : W p l e R s m args below meth c H locs cells slots Q (F0 m pc ls (.ref (a 0) :: rest)) :=
  va_get (D := D) (ci := 4) (v := .int (μ 2 0)) (C := R_M) (T := F_M) (N := 29) h0.1 h0.2.1 h0.2.2.2.2.1 i_M h0.2.2.2.1 h0.2.2.2.2.2 hw.1 0 rfl rfl 2 (by decide) (h0.2.2.2.2.1 _ wd_613) (fun _ h9 => h9) rfl hd kk
theorem mp_2 {v : Int32} (h0 : cX p s m args c "CountRoundsModel" cc nL D tc) (hw : wH D A H0 (mo tc a μ ++ Y) H locs) (hd : decode cc pc = .ok (.putfield 99, 3)) (kk : ∀ (H1 : Heap) (locs1 : List Loc), wH D A H0 (mo tc a (u2 μ 2 0 v) ++ Y) H1 locs1 → W p l e R s m args below meth c H1 locs1 cells slots Q (F0 m (pc + 3) ls rest)) : W p l e R s m args below meth c H locs cells slots Q (F0 m pc ls (.int v :: .ref (a 0) :: rest)) :=
  va_put (D := D) (ci := 4) (v := .int v) (ty := .int) (C := R_M) (T := F_M) (N := 29) h0.1 h0.2.1 h0.2.2.2.2.1 i_M ty_M ty_M_ok n_M h0.2.2.2.1 h0.2.2.2.2.2 hw.1 hw.2.1 hw.2.2 0 rfl rfl 2 (by decide) (h0.2.2.2.2.1 _ wd_613) (fun _ h9 => h9) rfl (by decide +kernel) rfl rfl (Nat.le_of_ble_eq_true rfl) hd (fun H1 locs1 hP hD hS => kk H1 locs1 ⟨hP, hD, hS⟩)
theorem mg_3 (h0 : cX p s m args c "CountRoundsModel" cc nL D tc) (hw : wH D A H0 (mo tc a μ ++ Y) H locs) (hd : decode cc pc = .ok (.getfield 78, 3)) (kk : W p l e R s m args below meth c H locs cells slots Q (F0 m (pc + 3) ls (.int (μ 3 0) :: rest))) : W p l e R s m args below meth c H locs cells slots Q (F0 m pc ls (.ref (a 0) :: rest)) :=
  va_get (D := D) (ci := 4) (v := .int (μ 3 0)) (C := R_M) (T := F_M) (N := 29) h0.1 h0.2.1 h0.2.2.2.2.1 i_M h0.2.2.2.1 h0.2.2.2.2.2 hw.1 0 rfl rfl 3 (by decide) (h0.2.2.2.2.1 _ wd_614) (fun _ h9 => h9) rfl hd kk
theorem mp_3 {v : Int32} (h0 : cX p s m args c "CountRoundsModel" cc nL D tc) (hw : wH D A H0 (mo tc a μ ++ Y) H locs) (hd : decode cc pc = .ok (.putfield 78, 3)) (kk : ∀ (H1 : Heap) (locs1 : List Loc), wH D A H0 (mo tc a (u2 μ 3 0 v) ++ Y) H1 locs1 → W p l e R s m args below meth c H1 locs1 cells slots Q (F0 m (pc + 3) ls rest)) : W p l e R s m args below meth c H locs cells slots Q (F0 m pc ls (.int v :: .ref (a 0) :: rest)) :=
  va_put (D := D) (ci := 4) (v := .int v) (ty := .int) (C := R_M) (T := F_M) (N := 29) h0.1 h0.2.1 h0.2.2.2.2.1 i_M ty_M ty_M_ok n_M h0.2.2.2.1 h0.2.2.2.2.2 hw.1 hw.2.1 hw.2.2 0 rfl rfl 3 (by decide) (h0.2.2.2.2.1 _ wd_614) (fun _ h9 => h9) rfl (by decide +kernel) rfl rfl (Nat.le_of_ble_eq_true rfl) hd (fun H1 locs1 hP hD hS => kk H1 locs1 ⟨hP, hD, hS⟩)
theorem mg_4 (h0 : cX p s m args c "CountRoundsModel" cc nL D tc) (hw : wH D A H0 (mo tc a μ ++ Y) H locs) (hd : decode cc pc = .ok (.getfield 7, 3)) (kk : W p l e R s m args below meth c H locs cells slots Q (F0 m (pc + 3) ls (.ref (a 4) :: rest))) : W p l e R s m args below meth c H locs cells slots Q (F0 m pc ls (.ref (a 0) :: rest)) :=
  va_get (D := D) (ci := 4) (v := .ref (a 4)) (C := R_M) (T := F_M) (N := 29) h0.1 h0.2.1 h0.2.2.2.2.1 i_M h0.2.2.2.1 h0.2.2.2.2.2 hw.1 0 rfl rfl 4 (by decide) (h0.2.2.2.2.1 _ wd_615) (fun _ h9 => h9) rfl hd kk
theorem ml_4 {i : Int32} (h0 : cX p s m args c "CountRoundsModel" cc nL D tc) (hw : wH D A H0 (mo tc a μ ++ Y) H locs) (hi : vp_in i 20) (hd : decode cc pc = .ok (.iaload, 1)) (kk : W p l e R s m args below meth c H locs cells slots Q (F0 m (pc + 1) ls (.int (μ 4 i.toNatClampNeg) :: rest))) : W p l e R s m args below meth c H locs cells slots Q (F0 m pc ls (.int i :: .ref (a 4) :: rest)) :=
  va_iald h0.1 h0.2.1 h0.2.2.2.2.2 hw.1 1 0 (n := 20) (f := μ 4) (cA := tc 0) rfl rfl hi hd kk
theorem ms_4 {i v : Int32} (h0 : cX p s m args c "CountRoundsModel" cc nL D tc) (hw : wH D A H0 (mo tc a μ ++ Y) H locs) (hi : vp_in i 20) (hd : decode cc pc = .ok (.iastore, 1)) (kk : ∀ (H1 : Heap) (locs1 : List Loc), wH D A H0 (mo tc a (u2 μ 4 i.toNatClampNeg v) ++ Y) H1 locs1 → W p l e R s m args below meth c H1 locs1 cells slots Q (F0 m (pc + 1) ls rest)) : W p l e R s m args below meth c H locs cells slots Q (F0 m pc ls (.int v :: .int i :: .ref (a 4) :: rest)) :=
  va_iast h0.1 h0.2.1 h0.2.2.2.2.2 hw.1 hw.2.1 hw.2.2 1 0 (n := 20) (f := μ 4) (cA := tc 0) rfl rfl hi hd (fun H1 locs1 hP hD hS => kk H1 locs1 ⟨hP, hD, hS⟩)
theorem mg_5 (h0 : cX p s m args c "CountRoundsModel" cc nL D tc) (hw : wH D A H0 (mo tc a μ ++ Y) H locs) (hd : decode cc pc = .ok (.getfield 13, 3)) (kk : W p l e R s m args below meth c H locs cells slots Q (F0 m (pc + 3) ls (.ref (a 5) :: rest))) : W p l e R s m args below meth c H locs cells slots Q (F0 m pc ls (.ref (a 0) :: rest)) :=
  va_get (D := D) (ci := 4) (v := .ref (a 5)) (C := R_M) (T := F_M) (N := 29) h0.1 h0.2.1 h0.2.2.2.2.1 i_M h0.2.2.2.1 h0.2.2.2.2.2 hw.1 0 rfl rfl 5 (by decide) (h0.2.2.2.2.1 _ wd_616) (fun _ h9 => h9) rfl hd kk
theorem ml_5 {i : Int32} (h0 : cX p s m args c "CountRoundsModel" cc nL D tc) (hw : wH D A H0 (mo tc a μ ++ Y) H locs) (hi : vp_in i 20) (hd : decode cc pc = .ok (.iaload, 1)) (kk : W p l e R s m args below meth c H locs cells slots Q (F0 m (pc + 1) ls (.int (μ 5 i.toNatClampNeg) :: rest))) : W p l e R s m args below meth c H locs cells slots Q (F0 m pc ls (.int i :: .ref (a 5) :: rest)) :=
  va_iald h0.1 h0.2.1 h0.2.2.2.2.2 hw.1 2 0 (n := 20) (f := μ 5) (cA := tc 0) rfl rfl hi hd kk
theorem ms_5 {i v : Int32} (h0 : cX p s m args c "CountRoundsModel" cc nL D tc) (hw : wH D A H0 (mo tc a μ ++ Y) H locs) (hi : vp_in i 20) (hd : decode cc pc = .ok (.iastore, 1)) (kk : ∀ (H1 : Heap) (locs1 : List Loc), wH D A H0 (mo tc a (u2 μ 5 i.toNatClampNeg v) ++ Y) H1 locs1 → W p l e R s m args below meth c H1 locs1 cells slots Q (F0 m (pc + 1) ls rest)) : W p l e R s m args below meth c H locs cells slots Q (F0 m pc ls (.int v :: .int i :: .ref (a 5) :: rest)) :=
  va_iast h0.1 h0.2.1 h0.2.2.2.2.2 hw.1 hw.2.1 hw.2.2 2 0 (n := 20) (f := μ 5) (cA := tc 0) rfl rfl hi hd (fun H1 locs1 hP hD hS => kk H1 locs1 ⟨hP, hD, hS⟩)
theorem mg_6 (h0 : cX p s m args c "CountRoundsModel" cc nL D tc) (hw : wH D A H0 (mo tc a μ ++ Y) H locs) (hd : decode cc pc = .ok (.getfield 16, 3)) (kk : W p l e R s m args below meth c H locs cells slots Q (F0 m (pc + 3) ls (.ref (a 6) :: rest))) : W p l e R s m args below meth c H locs cells slots Q (F0 m pc ls (.ref (a 0) :: rest)) :=
  va_get (D := D) (ci := 4) (v := .ref (a 6)) (C := R_M) (T := F_M) (N := 29) h0.1 h0.2.1 h0.2.2.2.2.1 i_M h0.2.2.2.1 h0.2.2.2.2.2 hw.1 0 rfl rfl 6 (by decide) (h0.2.2.2.2.1 _ wd_617) (fun _ h9 => h9) rfl hd kk
theorem ml_6 {i : Int32} (h0 : cX p s m args c "CountRoundsModel" cc nL D tc) (hw : wH D A H0 (mo tc a μ ++ Y) H locs) (hi : vp_in i 120) (hd : decode cc pc = .ok (.iaload, 1)) (kk : W p l e R s m args below meth c H locs cells slots Q (F0 m (pc + 1) ls (.int (μ 6 i.toNatClampNeg) :: rest))) : W p l e R s m args below meth c H locs cells slots Q (F0 m pc ls (.int i :: .ref (a 6) :: rest)) :=
  va_iald h0.1 h0.2.1 h0.2.2.2.2.2 hw.1 3 0 (n := 120) (f := μ 6) (cA := tc 0) rfl rfl hi hd kk
theorem ms_6 {i v : Int32} (h0 : cX p s m args c "CountRoundsModel" cc nL D tc) (hw : wH D A H0 (mo tc a μ ++ Y) H locs) (hi : vp_in i 120) (hd : decode cc pc = .ok (.iastore, 1)) (kk : ∀ (H1 : Heap) (locs1 : List Loc), wH D A H0 (mo tc a (u2 μ 6 i.toNatClampNeg v) ++ Y) H1 locs1 → W p l e R s m args below meth c H1 locs1 cells slots Q (F0 m (pc + 1) ls rest)) : W p l e R s m args below meth c H locs cells slots Q (F0 m pc ls (.int v :: .int i :: .ref (a 6) :: rest)) :=
  va_iast h0.1 h0.2.1 h0.2.2.2.2.2 hw.1 hw.2.1 hw.2.2 3 0 (n := 120) (f := μ 6) (cA := tc 0) rfl rfl hi hd (fun H1 locs1 hP hD hS => kk H1 locs1 ⟨hP, hD, hS⟩)
theorem mg_7 (h0 : cX p s m args c "CountRoundsModel" cc nL D tc) (hw : wH D A H0 (mo tc a μ ++ Y) H locs) (hd : decode cc pc = .ok (.getfield 19, 3)) (kk : W p l e R s m args below meth c H locs cells slots Q (F0 m (pc + 3) ls (.ref (a 7) :: rest))) : W p l e R s m args below meth c H locs cells slots Q (F0 m pc ls (.ref (a 0) :: rest)) :=
  va_get (D := D) (ci := 4) (v := .ref (a 7)) (C := R_M) (T := F_M) (N := 29) h0.1 h0.2.1 h0.2.2.2.2.1 i_M h0.2.2.2.1 h0.2.2.2.2.2 hw.1 0 rfl rfl 7 (by decide) (h0.2.2.2.2.1 _ wd_618) (fun _ h9 => h9) rfl hd kk
theorem ml_7 {i : Int32} (h0 : cX p s m args c "CountRoundsModel" cc nL D tc) (hw : wH D A H0 (mo tc a μ ++ Y) H locs) (hi : vp_in i 3) (hd : decode cc pc = .ok (.iaload, 1)) (kk : W p l e R s m args below meth c H locs cells slots Q (F0 m (pc + 1) ls (.int (μ 7 i.toNatClampNeg) :: rest))) : W p l e R s m args below meth c H locs cells slots Q (F0 m pc ls (.int i :: .ref (a 7) :: rest)) :=
  va_iald h0.1 h0.2.1 h0.2.2.2.2.2 hw.1 4 0 (n := 3) (f := μ 7) (cA := tc 0) rfl rfl hi hd kk
theorem ms_7 {i v : Int32} (h0 : cX p s m args c "CountRoundsModel" cc nL D tc) (hw : wH D A H0 (mo tc a μ ++ Y) H locs) (hi : vp_in i 3) (hd : decode cc pc = .ok (.iastore, 1)) (kk : ∀ (H1 : Heap) (locs1 : List Loc), wH D A H0 (mo tc a (u2 μ 7 i.toNatClampNeg v) ++ Y) H1 locs1 → W p l e R s m args below meth c H1 locs1 cells slots Q (F0 m (pc + 1) ls rest)) : W p l e R s m args below meth c H locs cells slots Q (F0 m pc ls (.int v :: .int i :: .ref (a 7) :: rest)) :=
  va_iast h0.1 h0.2.1 h0.2.2.2.2.2 hw.1 hw.2.1 hw.2.2 4 0 (n := 3) (f := μ 7) (cA := tc 0) rfl rfl hi hd (fun H1 locs1 hP hD hS => kk H1 locs1 ⟨hP, hD, hS⟩)
theorem mg_8 (h0 : cX p s m args c "CountRoundsModel" cc nL D tc) (hw : wH D A H0 (mo tc a μ ++ Y) H locs) (hd : decode cc pc = .ok (.getfield 22, 3)) (kk : W p l e R s m args below meth c H locs cells slots Q (F0 m (pc + 3) ls (.ref (a 8) :: rest))) : W p l e R s m args below meth c H locs cells slots Q (F0 m pc ls (.ref (a 0) :: rest)) :=
  va_get (D := D) (ci := 4) (v := .ref (a 8)) (C := R_M) (T := F_M) (N := 29) h0.1 h0.2.1 h0.2.2.2.2.1 i_M h0.2.2.2.1 h0.2.2.2.2.2 hw.1 0 rfl rfl 8 (by decide) (h0.2.2.2.2.1 _ wd_619) (fun _ h9 => h9) rfl hd kk
theorem ml_8 {i : Int32} (h0 : cX p s m args c "CountRoundsModel" cc nL D tc) (hw : wH D A H0 (mo tc a μ ++ Y) H locs) (hi : vp_in i 3) (hd : decode cc pc = .ok (.iaload, 1)) (kk : W p l e R s m args below meth c H locs cells slots Q (F0 m (pc + 1) ls (.int (μ 8 i.toNatClampNeg) :: rest))) : W p l e R s m args below meth c H locs cells slots Q (F0 m pc ls (.int i :: .ref (a 8) :: rest)) :=
  va_iald h0.1 h0.2.1 h0.2.2.2.2.2 hw.1 5 0 (n := 3) (f := μ 8) (cA := tc 0) rfl rfl hi hd kk
theorem ms_8 {i v : Int32} (h0 : cX p s m args c "CountRoundsModel" cc nL D tc) (hw : wH D A H0 (mo tc a μ ++ Y) H locs) (hi : vp_in i 3) (hd : decode cc pc = .ok (.iastore, 1)) (kk : ∀ (H1 : Heap) (locs1 : List Loc), wH D A H0 (mo tc a (u2 μ 8 i.toNatClampNeg v) ++ Y) H1 locs1 → W p l e R s m args below meth c H1 locs1 cells slots Q (F0 m (pc + 1) ls rest)) : W p l e R s m args below meth c H locs cells slots Q (F0 m pc ls (.int v :: .int i :: .ref (a 8) :: rest)) :=
  va_iast h0.1 h0.2.1 h0.2.2.2.2.2 hw.1 hw.2.1 hw.2.2 5 0 (n := 3) (f := μ 8) (cA := tc 0) rfl rfl hi hd (fun H1 locs1 hP hD hS => kk H1 locs1 ⟨hP, hD, hS⟩)
theorem mg_9 (h0 : cX p s m args c "CountRoundsModel" cc nL D tc) (hw : wH D A H0 (mo tc a μ ++ Y) H locs) (hd : decode cc pc = .ok (.getfield 25, 3)) (kk : W p l e R s m args below meth c H locs cells slots Q (F0 m (pc + 3) ls (.ref (a 9) :: rest))) : W p l e R s m args below meth c H locs cells slots Q (F0 m pc ls (.ref (a 0) :: rest)) :=
  va_get (D := D) (ci := 4) (v := .ref (a 9)) (C := R_M) (T := F_M) (N := 29) h0.1 h0.2.1 h0.2.2.2.2.1 i_M h0.2.2.2.1 h0.2.2.2.2.2 hw.1 0 rfl rfl 9 (by decide) (h0.2.2.2.2.1 _ wd_620) (fun _ h9 => h9) rfl hd kk
theorem ml_9 {i : Int32} (h0 : cX p s m args c "CountRoundsModel" cc nL D tc) (hw : wH D A H0 (mo tc a μ ++ Y) H locs) (hi : vp_in i 6) (hd : decode cc pc = .ok (.iaload, 1)) (kk : W p l e R s m args below meth c H locs cells slots Q (F0 m (pc + 1) ls (.int (μ 9 i.toNatClampNeg) :: rest))) : W p l e R s m args below meth c H locs cells slots Q (F0 m pc ls (.int i :: .ref (a 9) :: rest)) :=
  va_iald h0.1 h0.2.1 h0.2.2.2.2.2 hw.1 6 0 (n := 6) (f := μ 9) (cA := tc 0) rfl rfl hi hd kk
theorem ms_9 {i v : Int32} (h0 : cX p s m args c "CountRoundsModel" cc nL D tc) (hw : wH D A H0 (mo tc a μ ++ Y) H locs) (hi : vp_in i 6) (hd : decode cc pc = .ok (.iastore, 1)) (kk : ∀ (H1 : Heap) (locs1 : List Loc), wH D A H0 (mo tc a (u2 μ 9 i.toNatClampNeg v) ++ Y) H1 locs1 → W p l e R s m args below meth c H1 locs1 cells slots Q (F0 m (pc + 1) ls rest)) : W p l e R s m args below meth c H locs cells slots Q (F0 m pc ls (.int v :: .int i :: .ref (a 9) :: rest)) :=
  va_iast h0.1 h0.2.1 h0.2.2.2.2.2 hw.1 hw.2.1 hw.2.2 6 0 (n := 6) (f := μ 9) (cA := tc 0) rfl rfl hi hd (fun H1 locs1 hP hD hS => kk H1 locs1 ⟨hP, hD, hS⟩)
theorem mg_10 (h0 : cX p s m args c "CountRoundsModel" cc nL D tc) (hw : wH D A H0 (mo tc a μ ++ Y) H locs) (hd : decode cc pc = .ok (.getfield 105, 3)) (kk : W p l e R s m args below meth c H locs cells slots Q (F0 m (pc + 3) ls (.int (μ 10 0) :: rest))) : W p l e R s m args below meth c H locs cells slots Q (F0 m pc ls (.ref (a 0) :: rest)) :=
  va_get (D := D) (ci := 4) (v := .int (μ 10 0)) (C := R_M) (T := F_M) (N := 29) h0.1 h0.2.1 h0.2.2.2.2.1 i_M h0.2.2.2.1 h0.2.2.2.2.2 hw.1 0 rfl rfl 10 (by decide) (h0.2.2.2.2.1 _ wd_621) (fun _ h9 => h9) rfl hd kk
theorem mp_10 {v : Int32} (h0 : cX p s m args c "CountRoundsModel" cc nL D tc) (hw : wH D A H0 (mo tc a μ ++ Y) H locs) (hd : decode cc pc = .ok (.putfield 105, 3)) (kk : ∀ (H1 : Heap) (locs1 : List Loc), wH D A H0 (mo tc a (u2 μ 10 0 v) ++ Y) H1 locs1 → W p l e R s m args below meth c H1 locs1 cells slots Q (F0 m (pc + 3) ls rest)) : W p l e R s m args below meth c H locs cells slots Q (F0 m pc ls (.int v :: .ref (a 0) :: rest)) :=
  va_put (D := D) (ci := 4) (v := .int v) (ty := .int) (C := R_M) (T := F_M) (N := 29) h0.1 h0.2.1 h0.2.2.2.2.1 i_M ty_M ty_M_ok n_M h0.2.2.2.1 h0.2.2.2.2.2 hw.1 hw.2.1 hw.2.2 0 rfl rfl 10 (by decide) (h0.2.2.2.2.1 _ wd_621) (fun _ h9 => h9) rfl (by decide +kernel) rfl rfl (Nat.le_of_ble_eq_true rfl) hd (fun H1 locs1 hP hD hS => kk H1 locs1 ⟨hP, hD, hS⟩)
theorem mg_11 (h0 : cX p s m args c "CountRoundsModel" cc nL D tc) (hw : wH D A H0 (mo tc a μ ++ Y) H locs) (hd : decode cc pc = .ok (.getfield 28, 3)) (kk : W p l e R s m args below meth c H locs cells slots Q (F0 m (pc + 3) ls (.ref (a 11) :: rest))) : W p l e R s m args below meth c H locs cells slots Q (F0 m pc ls (.ref (a 0) :: rest)) :=
  va_get (D := D) (ci := 4) (v := .ref (a 11)) (C := R_M) (T := F_M) (N := 29) h0.1 h0.2.1 h0.2.2.2.2.1 i_M h0.2.2.2.1 h0.2.2.2.2.2 hw.1 0 rfl rfl 11 (by decide) (h0.2.2.2.2.1 _ wd_622) (fun _ h9 => h9) rfl hd kk
theorem ml_11 {i : Int32} (h0 : cX p s m args c "CountRoundsModel" cc nL D tc) (hw : wH D A H0 (mo tc a μ ++ Y) H locs) (hi : vp_in i 61) (hd : decode cc pc = .ok (.iaload, 1)) (kk : W p l e R s m args below meth c H locs cells slots Q (F0 m (pc + 1) ls (.int (μ 11 i.toNatClampNeg) :: rest))) : W p l e R s m args below meth c H locs cells slots Q (F0 m pc ls (.int i :: .ref (a 11) :: rest)) :=
  va_iald h0.1 h0.2.1 h0.2.2.2.2.2 hw.1 7 0 (n := 61) (f := μ 11) (cA := tc 0) rfl rfl hi hd kk
theorem ms_11 {i v : Int32} (h0 : cX p s m args c "CountRoundsModel" cc nL D tc) (hw : wH D A H0 (mo tc a μ ++ Y) H locs) (hi : vp_in i 61) (hd : decode cc pc = .ok (.iastore, 1)) (kk : ∀ (H1 : Heap) (locs1 : List Loc), wH D A H0 (mo tc a (u2 μ 11 i.toNatClampNeg v) ++ Y) H1 locs1 → W p l e R s m args below meth c H1 locs1 cells slots Q (F0 m (pc + 1) ls rest)) : W p l e R s m args below meth c H locs cells slots Q (F0 m pc ls (.int v :: .int i :: .ref (a 11) :: rest)) :=
  va_iast h0.1 h0.2.1 h0.2.2.2.2.2 hw.1 hw.2.1 hw.2.2 7 0 (n := 61) (f := μ 11) (cA := tc 0) rfl rfl hi hd (fun H1 locs1 hP hD hS => kk H1 locs1 ⟨hP, hD, hS⟩)
theorem mg_12 (h0 : cX p s m args c "CountRoundsModel" cc nL D tc) (hw : wH D A H0 (mo tc a μ ++ Y) H locs) (hd : decode cc pc = .ok (.getfield 31, 3)) (kk : W p l e R s m args below meth c H locs cells slots Q (F0 m (pc + 3) ls (.ref (a 12) :: rest))) : W p l e R s m args below meth c H locs cells slots Q (F0 m pc ls (.ref (a 0) :: rest)) :=
  va_get (D := D) (ci := 4) (v := .ref (a 12)) (C := R_M) (T := F_M) (N := 29) h0.1 h0.2.1 h0.2.2.2.2.1 i_M h0.2.2.2.1 h0.2.2.2.2.2 hw.1 0 rfl rfl 12 (by decide) (h0.2.2.2.2.1 _ wd_623) (fun _ h9 => h9) rfl hd kk
theorem ml_12 {i : Int32} (h0 : cX p s m args c "CountRoundsModel" cc nL D tc) (hw : wH D A H0 (mo tc a μ ++ Y) H locs) (hi : vp_in i 61) (hd : decode cc pc = .ok (.iaload, 1)) (kk : W p l e R s m args below meth c H locs cells slots Q (F0 m (pc + 1) ls (.int (μ 12 i.toNatClampNeg) :: rest))) : W p l e R s m args below meth c H locs cells slots Q (F0 m pc ls (.int i :: .ref (a 12) :: rest)) :=
  va_iald h0.1 h0.2.1 h0.2.2.2.2.2 hw.1 8 0 (n := 61) (f := μ 12) (cA := tc 0) rfl rfl hi hd kk
theorem ms_12 {i v : Int32} (h0 : cX p s m args c "CountRoundsModel" cc nL D tc) (hw : wH D A H0 (mo tc a μ ++ Y) H locs) (hi : vp_in i 61) (hd : decode cc pc = .ok (.iastore, 1)) (kk : ∀ (H1 : Heap) (locs1 : List Loc), wH D A H0 (mo tc a (u2 μ 12 i.toNatClampNeg v) ++ Y) H1 locs1 → W p l e R s m args below meth c H1 locs1 cells slots Q (F0 m (pc + 1) ls rest)) : W p l e R s m args below meth c H locs cells slots Q (F0 m pc ls (.int v :: .int i :: .ref (a 12) :: rest)) :=
  va_iast h0.1 h0.2.1 h0.2.2.2.2.2 hw.1 hw.2.1 hw.2.2 8 0 (n := 61) (f := μ 12) (cA := tc 0) rfl rfl hi hd (fun H1 locs1 hP hD hS => kk H1 locs1 ⟨hP, hD, hS⟩)
theorem mg_13 (h0 : cX p s m args c "CountRoundsModel" cc nL D tc) (hw : wH D A H0 (mo tc a μ ++ Y) H locs) (hd : decode cc pc = .ok (.getfield 34, 3)) (kk : W p l e R s m args below meth c H locs cells slots Q (F0 m (pc + 3) ls (.ref (a 13) :: rest))) : W p l e R s m args below meth c H locs cells slots Q (F0 m pc ls (.ref (a 0) :: rest)) :=
  va_get (D := D) (ci := 4) (v := .ref (a 13)) (C := R_M) (T := F_M) (N := 29) h0.1 h0.2.1 h0.2.2.2.2.1 i_M h0.2.2.2.1 h0.2.2.2.2.2 hw.1 0 rfl rfl 13 (by decide) (h0.2.2.2.2.1 _ wd_624) (fun _ h9 => h9) rfl hd kk
theorem ml_13 {i : Int32} (h0 : cX p s m args c "CountRoundsModel" cc nL D tc) (hw : wH D A H0 (mo tc a μ ++ Y) H locs) (hi : vp_in i 61) (hd : decode cc pc = .ok (.iaload, 1)) (kk : W p l e R s m args below meth c H locs cells slots Q (F0 m (pc + 1) ls (.int (μ 13 i.toNatClampNeg) :: rest))) : W p l e R s m args below meth c H locs cells slots Q (F0 m pc ls (.int i :: .ref (a 13) :: rest)) :=
  va_iald h0.1 h0.2.1 h0.2.2.2.2.2 hw.1 9 0 (n := 61) (f := μ 13) (cA := tc 0) rfl rfl hi hd kk
theorem ms_13 {i v : Int32} (h0 : cX p s m args c "CountRoundsModel" cc nL D tc) (hw : wH D A H0 (mo tc a μ ++ Y) H locs) (hi : vp_in i 61) (hd : decode cc pc = .ok (.iastore, 1)) (kk : ∀ (H1 : Heap) (locs1 : List Loc), wH D A H0 (mo tc a (u2 μ 13 i.toNatClampNeg v) ++ Y) H1 locs1 → W p l e R s m args below meth c H1 locs1 cells slots Q (F0 m (pc + 1) ls rest)) : W p l e R s m args below meth c H locs cells slots Q (F0 m pc ls (.int v :: .int i :: .ref (a 13) :: rest)) :=
  va_iast h0.1 h0.2.1 h0.2.2.2.2.2 hw.1 hw.2.1 hw.2.2 9 0 (n := 61) (f := μ 13) (cA := tc 0) rfl rfl hi hd (fun H1 locs1 hP hD hS => kk H1 locs1 ⟨hP, hD, hS⟩)
theorem mg_14 (h0 : cX p s m args c "CountRoundsModel" cc nL D tc) (hw : wH D A H0 (mo tc a μ ++ Y) H locs) (hd : decode cc pc = .ok (.getfield 37, 3)) (kk : W p l e R s m args below meth c H locs cells slots Q (F0 m (pc + 3) ls (.ref (a 14) :: rest))) : W p l e R s m args below meth c H locs cells slots Q (F0 m pc ls (.ref (a 0) :: rest)) :=
  va_get (D := D) (ci := 4) (v := .ref (a 14)) (C := R_M) (T := F_M) (N := 29) h0.1 h0.2.1 h0.2.2.2.2.1 i_M h0.2.2.2.1 h0.2.2.2.2.2 hw.1 0 rfl rfl 14 (by decide) (h0.2.2.2.2.1 _ wd_625) (fun _ h9 => h9) rfl hd kk
theorem ml_14 {i : Int32} (h0 : cX p s m args c "CountRoundsModel" cc nL D tc) (hw : wH D A H0 (mo tc a μ ++ Y) H locs) (hi : vp_in i 61) (hd : decode cc pc = .ok (.iaload, 1)) (kk : W p l e R s m args below meth c H locs cells slots Q (F0 m (pc + 1) ls (.int (μ 14 i.toNatClampNeg) :: rest))) : W p l e R s m args below meth c H locs cells slots Q (F0 m pc ls (.int i :: .ref (a 14) :: rest)) :=
  va_iald h0.1 h0.2.1 h0.2.2.2.2.2 hw.1 10 0 (n := 61) (f := μ 14) (cA := tc 0) rfl rfl hi hd kk
theorem ms_14 {i v : Int32} (h0 : cX p s m args c "CountRoundsModel" cc nL D tc) (hw : wH D A H0 (mo tc a μ ++ Y) H locs) (hi : vp_in i 61) (hd : decode cc pc = .ok (.iastore, 1)) (kk : ∀ (H1 : Heap) (locs1 : List Loc), wH D A H0 (mo tc a (u2 μ 14 i.toNatClampNeg v) ++ Y) H1 locs1 → W p l e R s m args below meth c H1 locs1 cells slots Q (F0 m (pc + 1) ls rest)) : W p l e R s m args below meth c H locs cells slots Q (F0 m pc ls (.int v :: .int i :: .ref (a 14) :: rest)) :=
  va_iast h0.1 h0.2.1 h0.2.2.2.2.2 hw.1 hw.2.1 hw.2.2 10 0 (n := 61) (f := μ 14) (cA := tc 0) rfl rfl hi hd (fun H1 locs1 hP hD hS => kk H1 locs1 ⟨hP, hD, hS⟩)
theorem mg_15 (h0 : cX p s m args c "CountRoundsModel" cc nL D tc) (hw : wH D A H0 (mo tc a μ ++ Y) H locs) (hd : decode cc pc = .ok (.getfield 40, 3)) (kk : W p l e R s m args below meth c H locs cells slots Q (F0 m (pc + 3) ls (.ref (a 15) :: rest))) : W p l e R s m args below meth c H locs cells slots Q (F0 m pc ls (.ref (a 0) :: rest)) :=
  va_get (D := D) (ci := 4) (v := .ref (a 15)) (C := R_M) (T := F_M) (N := 29) h0.1 h0.2.1 h0.2.2.2.2.1 i_M h0.2.2.2.1 h0.2.2.2.2.2 hw.1 0 rfl rfl 15 (by decide) (h0.2.2.2.2.1 _ wd_626) (fun _ h9 => h9) rfl hd kk
theorem ml_15 {i : Int32} (h0 : cX p s m args c "CountRoundsModel" cc nL D tc) (hw : wH D A H0 (mo tc a μ ++ Y) H locs) (hi : vp_in i 61) (hd : decode cc pc = .ok (.baload, 1)) (kk : W p l e R s m args below meth c H locs cells slots Q (F0 m (pc + 1) ls (.int (μ 15 i.toNatClampNeg) :: rest))) : W p l e R s m args below meth c H locs cells slots Q (F0 m pc ls (.int i :: .ref (a 15) :: rest)) :=
  va_zald h0.1 h0.2.1 h0.2.2.2.2.2 hw.1 11 1 (n := 61) (f := μ 15) (cA := tc 1) rfl rfl hi hd kk
theorem ms_15 {i v : Int32} (h0 : cX p s m args c "CountRoundsModel" cc nL D tc) (hw : wH D A H0 (mo tc a μ ++ Y) H locs) (hi : vp_in i 61) (hd : decode cc pc = .ok (.bastore, 1)) (kk : ∀ (H1 : Heap) (locs1 : List Loc), wH D A H0 (mo tc a (u2 μ 15 i.toNatClampNeg (vp_nar .boolean v)) ++ Y) H1 locs1 → W p l e R s m args below meth c H1 locs1 cells slots Q (F0 m (pc + 1) ls rest)) : W p l e R s m args below meth c H locs cells slots Q (F0 m pc ls (.int v :: .int i :: .ref (a 15) :: rest)) :=
  va_zast h0.1 h0.2.1 h0.2.2.2.2.2 hw.1 hw.2.1 hw.2.2 11 1 (n := 61) (f := μ 15) (cA := tc 1) rfl rfl hi hd (fun H1 locs1 hP hD hS => kk H1 locs1 ⟨hP, hD, hS⟩)
theorem mg_16 (h0 : cX p s m args c "CountRoundsModel" cc nL D tc) (hw : wH D A H0 (mo tc a μ ++ Y) H locs) (hd : decode cc pc = .ok (.getfield 85, 3)) (kk : W p l e R s m args below meth c H locs cells slots Q (F0 m (pc + 3) ls (.int (μ 16 0) :: rest))) : W p l e R s m args below meth c H locs cells slots Q (F0 m pc ls (.ref (a 0) :: rest)) :=
  va_get (D := D) (ci := 4) (v := .int (μ 16 0)) (C := R_M) (T := F_M) (N := 29) h0.1 h0.2.1 h0.2.2.2.2.1 i_M h0.2.2.2.1 h0.2.2.2.2.2 hw.1 0 rfl rfl 16 (by decide) (h0.2.2.2.2.1 _ wd_627) (fun _ h9 => h9) rfl hd kk
theorem mp_16 {v : Int32} (h0 : cX p s m args c "CountRoundsModel" cc nL D tc) (hw : wH D A H0 (mo tc a μ ++ Y) H locs) (hd : decode cc pc = .ok (.putfield 85, 3)) (kk : ∀ (H1 : Heap) (locs1 : List Loc), wH D A H0 (mo tc a (u2 μ 16 0 v) ++ Y) H1 locs1 → W p l e R s m args below meth c H1 locs1 cells slots Q (F0 m (pc + 3) ls rest)) : W p l e R s m args below meth c H locs cells slots Q (F0 m pc ls (.int v :: .ref (a 0) :: rest)) :=
  va_put (D := D) (ci := 4) (v := .int v) (ty := .int) (C := R_M) (T := F_M) (N := 29) h0.1 h0.2.1 h0.2.2.2.2.1 i_M ty_M ty_M_ok n_M h0.2.2.2.1 h0.2.2.2.2.2 hw.1 hw.2.1 hw.2.2 0 rfl rfl 16 (by decide) (h0.2.2.2.2.1 _ wd_627) (fun _ h9 => h9) rfl (by decide +kernel) rfl rfl (Nat.le_of_ble_eq_true rfl) hd (fun H1 locs1 hP hD hS => kk H1 locs1 ⟨hP, hD, hS⟩)
theorem mg_17 (h0 : cX p s m args c "CountRoundsModel" cc nL D tc) (hw : wH D A H0 (mo tc a μ ++ Y) H locs) (hd : decode cc pc = .ok (.getfield 44, 3)) (kk : W p l e R s m args below meth c H locs cells slots Q (F0 m (pc + 3) ls (.ref (a 17) :: rest))) : W p l e R s m args below meth c H locs cells slots Q (F0 m pc ls (.ref (a 0) :: rest)) :=
  va_get (D := D) (ci := 4) (v := .ref (a 17)) (C := R_M) (T := F_M) (N := 29) h0.1 h0.2.1 h0.2.2.2.2.1 i_M h0.2.2.2.1 h0.2.2.2.2.2 hw.1 0 rfl rfl 17 (by decide) (h0.2.2.2.2.1 _ wd_628) (fun _ h9 => h9) rfl hd kk
theorem ml_17 {i : Int32} (h0 : cX p s m args c "CountRoundsModel" cc nL D tc) (hw : wH D A H0 (mo tc a μ ++ Y) H locs) (hi : vp_in i 21) (hd : decode cc pc = .ok (.iaload, 1)) (kk : W p l e R s m args below meth c H locs cells slots Q (F0 m (pc + 1) ls (.int (μ 17 i.toNatClampNeg) :: rest))) : W p l e R s m args below meth c H locs cells slots Q (F0 m pc ls (.int i :: .ref (a 17) :: rest)) :=
  va_iald h0.1 h0.2.1 h0.2.2.2.2.2 hw.1 12 0 (n := 21) (f := μ 17) (cA := tc 0) rfl rfl hi hd kk
theorem ms_17 {i v : Int32} (h0 : cX p s m args c "CountRoundsModel" cc nL D tc) (hw : wH D A H0 (mo tc a μ ++ Y) H locs) (hi : vp_in i 21) (hd : decode cc pc = .ok (.iastore, 1)) (kk : ∀ (H1 : Heap) (locs1 : List Loc), wH D A H0 (mo tc a (u2 μ 17 i.toNatClampNeg v) ++ Y) H1 locs1 → W p l e R s m args below meth c H1 locs1 cells slots Q (F0 m (pc + 1) ls rest)) : W p l e R s m args below meth c H locs cells slots Q (F0 m pc ls (.int v :: .int i :: .ref (a 17) :: rest)) :=
  va_iast h0.1 h0.2.1 h0.2.2.2.2.2 hw.1 hw.2.1 hw.2.2 12 0 (n := 21) (f := μ 17) (cA := tc 0) rfl rfl hi hd (fun H1 locs1 hP hD hS => kk H1 locs1 ⟨hP, hD, hS⟩)
theorem mg_18 (h0 : cX p s m args c "CountRoundsModel" cc nL D tc) (hw : wH D A H0 (mo tc a μ ++ Y) H locs) (hd : decode cc pc = .ok (.getfield 47, 3)) (kk : W p l e R s m args below meth c H locs cells slots Q (F0 m (pc + 3) ls (.ref (a 18) :: rest))) : W p l e R s m args below meth c H locs cells slots Q (F0 m pc ls (.ref (a 0) :: rest)) :=
  va_get (D := D) (ci := 4) (v := .ref (a 18)) (C := R_M) (T := F_M) (N := 29) h0.1 h0.2.1 h0.2.2.2.2.1 i_M h0.2.2.2.1 h0.2.2.2.2.2 hw.1 0 rfl rfl 18 (by decide) (h0.2.2.2.2.1 _ wd_629) (fun _ h9 => h9) rfl hd kk
theorem ml_18 {i : Int32} (h0 : cX p s m args c "CountRoundsModel" cc nL D tc) (hw : wH D A H0 (mo tc a μ ++ Y) H locs) (hi : vp_in i 21) (hd : decode cc pc = .ok (.iaload, 1)) (kk : W p l e R s m args below meth c H locs cells slots Q (F0 m (pc + 1) ls (.int (μ 18 i.toNatClampNeg) :: rest))) : W p l e R s m args below meth c H locs cells slots Q (F0 m pc ls (.int i :: .ref (a 18) :: rest)) :=
  va_iald h0.1 h0.2.1 h0.2.2.2.2.2 hw.1 13 0 (n := 21) (f := μ 18) (cA := tc 0) rfl rfl hi hd kk
theorem ms_18 {i v : Int32} (h0 : cX p s m args c "CountRoundsModel" cc nL D tc) (hw : wH D A H0 (mo tc a μ ++ Y) H locs) (hi : vp_in i 21) (hd : decode cc pc = .ok (.iastore, 1)) (kk : ∀ (H1 : Heap) (locs1 : List Loc), wH D A H0 (mo tc a (u2 μ 18 i.toNatClampNeg v) ++ Y) H1 locs1 → W p l e R s m args below meth c H1 locs1 cells slots Q (F0 m (pc + 1) ls rest)) : W p l e R s m args below meth c H locs cells slots Q (F0 m pc ls (.int v :: .int i :: .ref (a 18) :: rest)) :=
  va_iast h0.1 h0.2.1 h0.2.2.2.2.2 hw.1 hw.2.1 hw.2.2 13 0 (n := 21) (f := μ 18) (cA := tc 0) rfl rfl hi hd (fun H1 locs1 hP hD hS => kk H1 locs1 ⟨hP, hD, hS⟩)
theorem mg_19 (h0 : cX p s m args c "CountRoundsModel" cc nL D tc) (hw : wH D A H0 (mo tc a μ ++ Y) H locs) (hd : decode cc pc = .ok (.getfield 50, 3)) (kk : W p l e R s m args below meth c H locs cells slots Q (F0 m (pc + 3) ls (.ref (a 19) :: rest))) : W p l e R s m args below meth c H locs cells slots Q (F0 m pc ls (.ref (a 0) :: rest)) :=
  va_get (D := D) (ci := 4) (v := .ref (a 19)) (C := R_M) (T := F_M) (N := 29) h0.1 h0.2.1 h0.2.2.2.2.1 i_M h0.2.2.2.1 h0.2.2.2.2.2 hw.1 0 rfl rfl 19 (by decide) (h0.2.2.2.2.1 _ wd_630) (fun _ h9 => h9) rfl hd kk
theorem ml_19 {i : Int32} (h0 : cX p s m args c "CountRoundsModel" cc nL D tc) (hw : wH D A H0 (mo tc a μ ++ Y) H locs) (hi : vp_in i 21) (hd : decode cc pc = .ok (.iaload, 1)) (kk : W p l e R s m args below meth c H locs cells slots Q (F0 m (pc + 1) ls (.int (μ 19 i.toNatClampNeg) :: rest))) : W p l e R s m args below meth c H locs cells slots Q (F0 m pc ls (.int i :: .ref (a 19) :: rest)) :=
  va_iald h0.1 h0.2.1 h0.2.2.2.2.2 hw.1 14 0 (n := 21) (f := μ 19) (cA := tc 0) rfl rfl hi hd kk
theorem ms_19 {i v : Int32} (h0 : cX p s m args c "CountRoundsModel" cc nL D tc) (hw : wH D A H0 (mo tc a μ ++ Y) H locs) (hi : vp_in i 21) (hd : decode cc pc = .ok (.iastore, 1)) (kk : ∀ (H1 : Heap) (locs1 : List Loc), wH D A H0 (mo tc a (u2 μ 19 i.toNatClampNeg v) ++ Y) H1 locs1 → W p l e R s m args below meth c H1 locs1 cells slots Q (F0 m (pc + 1) ls rest)) : W p l e R s m args below meth c H locs cells slots Q (F0 m pc ls (.int v :: .int i :: .ref (a 19) :: rest)) :=
  va_iast h0.1 h0.2.1 h0.2.2.2.2.2 hw.1 hw.2.1 hw.2.2 14 0 (n := 21) (f := μ 19) (cA := tc 0) rfl rfl hi hd (fun H1 locs1 hP hD hS => kk H1 locs1 ⟨hP, hD, hS⟩)
theorem mg_20 (h0 : cX p s m args c "CountRoundsModel" cc nL D tc) (hw : wH D A H0 (mo tc a μ ++ Y) H locs) (hd : decode cc pc = .ok (.getfield 53, 3)) (kk : W p l e R s m args below meth c H locs cells slots Q (F0 m (pc + 3) ls (.ref (a 20) :: rest))) : W p l e R s m args below meth c H locs cells slots Q (F0 m pc ls (.ref (a 0) :: rest)) :=
  va_get (D := D) (ci := 4) (v := .ref (a 20)) (C := R_M) (T := F_M) (N := 29) h0.1 h0.2.1 h0.2.2.2.2.1 i_M h0.2.2.2.1 h0.2.2.2.2.2 hw.1 0 rfl rfl 20 (by decide) (h0.2.2.2.2.1 _ wd_631) (fun _ h9 => h9) rfl hd kk
theorem ml_20 {i : Int32} (h0 : cX p s m args c "CountRoundsModel" cc nL D tc) (hw : wH D A H0 (mo tc a μ ++ Y) H locs) (hi : vp_in i 420) (hd : decode cc pc = .ok (.iaload, 1)) (kk : W p l e R s m args below meth c H locs cells slots Q (F0 m (pc + 1) ls (.int (μ 20 i.toNatClampNeg) :: rest))) : W p l e R s m args below meth c H locs cells slots Q (F0 m pc ls (.int i :: .ref (a 20) :: rest)) :=
  va_iald h0.1 h0.2.1 h0.2.2.2.2.2 hw.1 15 0 (n := 420) (f := μ 20) (cA := tc 0) rfl rfl hi hd kk
theorem ms_20 {i v : Int32} (h0 : cX p s m args c "CountRoundsModel" cc nL D tc) (hw : wH D A H0 (mo tc a μ ++ Y) H locs) (hi : vp_in i 420) (hd : decode cc pc = .ok (.iastore, 1)) (kk : ∀ (H1 : Heap) (locs1 : List Loc), wH D A H0 (mo tc a (u2 μ 20 i.toNatClampNeg v) ++ Y) H1 locs1 → W p l e R s m args below meth c H1 locs1 cells slots Q (F0 m (pc + 1) ls rest)) : W p l e R s m args below meth c H locs cells slots Q (F0 m pc ls (.int v :: .int i :: .ref (a 20) :: rest)) :=
  va_iast h0.1 h0.2.1 h0.2.2.2.2.2 hw.1 hw.2.1 hw.2.2 15 0 (n := 420) (f := μ 20) (cA := tc 0) rfl rfl hi hd (fun H1 locs1 hP hD hS => kk H1 locs1 ⟨hP, hD, hS⟩)
theorem mg_21 (h0 : cX p s m args c "CountRoundsModel" cc nL D tc) (hw : wH D A H0 (mo tc a μ ++ Y) H locs) (hd : decode cc pc = .ok (.getfield 56, 3)) (kk : W p l e R s m args below meth c H locs cells slots Q (F0 m (pc + 3) ls (.ref (a 21) :: rest))) : W p l e R s m args below meth c H locs cells slots Q (F0 m pc ls (.ref (a 0) :: rest)) :=
  va_get (D := D) (ci := 4) (v := .ref (a 21)) (C := R_M) (T := F_M) (N := 29) h0.1 h0.2.1 h0.2.2.2.2.1 i_M h0.2.2.2.1 h0.2.2.2.2.2 hw.1 0 rfl rfl 21 (by decide) (h0.2.2.2.2.1 _ wd_632) (fun _ h9 => h9) rfl hd kk
theorem ml_21 {i : Int32} (h0 : cX p s m args c "CountRoundsModel" cc nL D tc) (hw : wH D A H0 (mo tc a μ ++ Y) H locs) (hi : vp_in i 2520) (hd : decode cc pc = .ok (.iaload, 1)) (kk : W p l e R s m args below meth c H locs cells slots Q (F0 m (pc + 1) ls (.int (μ 21 i.toNatClampNeg) :: rest))) : W p l e R s m args below meth c H locs cells slots Q (F0 m pc ls (.int i :: .ref (a 21) :: rest)) :=
  va_iald h0.1 h0.2.1 h0.2.2.2.2.2 hw.1 16 0 (n := 2520) (f := μ 21) (cA := tc 0) rfl rfl hi hd kk
theorem ms_21 {i v : Int32} (h0 : cX p s m args c "CountRoundsModel" cc nL D tc) (hw : wH D A H0 (mo tc a μ ++ Y) H locs) (hi : vp_in i 2520) (hd : decode cc pc = .ok (.iastore, 1)) (kk : ∀ (H1 : Heap) (locs1 : List Loc), wH D A H0 (mo tc a (u2 μ 21 i.toNatClampNeg v) ++ Y) H1 locs1 → W p l e R s m args below meth c H1 locs1 cells slots Q (F0 m (pc + 1) ls rest)) : W p l e R s m args below meth c H locs cells slots Q (F0 m pc ls (.int v :: .int i :: .ref (a 21) :: rest)) :=
  va_iast h0.1 h0.2.1 h0.2.2.2.2.2 hw.1 hw.2.1 hw.2.2 16 0 (n := 2520) (f := μ 21) (cA := tc 0) rfl rfl hi hd (fun H1 locs1 hP hD hS => kk H1 locs1 ⟨hP, hD, hS⟩)
theorem mg_22 (h0 : cX p s m args c "CountRoundsModel" cc nL D tc) (hw : wH D A H0 (mo tc a μ ++ Y) H locs) (hd : decode cc pc = .ok (.getfield 59, 3)) (kk : W p l e R s m args below meth c H locs cells slots Q (F0 m (pc + 3) ls (.ref (a 22) :: rest))) : W p l e R s m args below meth c H locs cells slots Q (F0 m pc ls (.ref (a 0) :: rest)) :=
  va_get (D := D) (ci := 4) (v := .ref (a 22)) (C := R_M) (T := F_M) (N := 29) h0.1 h0.2.1 h0.2.2.2.2.1 i_M h0.2.2.2.1 h0.2.2.2.2.2 hw.1 0 rfl rfl 22 (by decide) (h0.2.2.2.2.1 _ wd_633) (fun _ h9 => h9) rfl hd kk
theorem ml_22 {i : Int32} (h0 : cX p s m args c "CountRoundsModel" cc nL D tc) (hw : wH D A H0 (mo tc a μ ++ Y) H locs) (hi : vp_in i 2520) (hd : decode cc pc = .ok (.iaload, 1)) (kk : W p l e R s m args below meth c H locs cells slots Q (F0 m (pc + 1) ls (.int (μ 22 i.toNatClampNeg) :: rest))) : W p l e R s m args below meth c H locs cells slots Q (F0 m pc ls (.int i :: .ref (a 22) :: rest)) :=
  va_iald h0.1 h0.2.1 h0.2.2.2.2.2 hw.1 17 0 (n := 2520) (f := μ 22) (cA := tc 0) rfl rfl hi hd kk
theorem ms_22 {i v : Int32} (h0 : cX p s m args c "CountRoundsModel" cc nL D tc) (hw : wH D A H0 (mo tc a μ ++ Y) H locs) (hi : vp_in i 2520) (hd : decode cc pc = .ok (.iastore, 1)) (kk : ∀ (H1 : Heap) (locs1 : List Loc), wH D A H0 (mo tc a (u2 μ 22 i.toNatClampNeg v) ++ Y) H1 locs1 → W p l e R s m args below meth c H1 locs1 cells slots Q (F0 m (pc + 1) ls rest)) : W p l e R s m args below meth c H locs cells slots Q (F0 m pc ls (.int v :: .int i :: .ref (a 22) :: rest)) :=
  va_iast h0.1 h0.2.1 h0.2.2.2.2.2 hw.1 hw.2.1 hw.2.2 17 0 (n := 2520) (f := μ 22) (cA := tc 0) rfl rfl hi hd (fun H1 locs1 hP hD hS => kk H1 locs1 ⟨hP, hD, hS⟩)
theorem mg_23 (h0 : cX p s m args c "CountRoundsModel" cc nL D tc) (hw : wH D A H0 (mo tc a μ ++ Y) H locs) (hd : decode cc pc = .ok (.getfield 62, 3)) (kk : W p l e R s m args below meth c H locs cells slots Q (F0 m (pc + 3) ls (.ref (a 23) :: rest))) : W p l e R s m args below meth c H locs cells slots Q (F0 m pc ls (.ref (a 0) :: rest)) :=
  va_get (D := D) (ci := 4) (v := .ref (a 23)) (C := R_M) (T := F_M) (N := 29) h0.1 h0.2.1 h0.2.2.2.2.1 i_M h0.2.2.2.1 h0.2.2.2.2.2 hw.1 0 rfl rfl 23 (by decide) (h0.2.2.2.2.1 _ wd_634) (fun _ h9 => h9) rfl hd kk
theorem ml_23 {i : Int32} (h0 : cX p s m args c "CountRoundsModel" cc nL D tc) (hw : wH D A H0 (mo tc a μ ++ Y) H locs) (hi : vp_in i 2520) (hd : decode cc pc = .ok (.iaload, 1)) (kk : W p l e R s m args below meth c H locs cells slots Q (F0 m (pc + 1) ls (.int (μ 23 i.toNatClampNeg) :: rest))) : W p l e R s m args below meth c H locs cells slots Q (F0 m pc ls (.int i :: .ref (a 23) :: rest)) :=
  va_iald h0.1 h0.2.1 h0.2.2.2.2.2 hw.1 18 0 (n := 2520) (f := μ 23) (cA := tc 0) rfl rfl hi hd kk
theorem ms_23 {i v : Int32} (h0 : cX p s m args c "CountRoundsModel" cc nL D tc) (hw : wH D A H0 (mo tc a μ ++ Y) H locs) (hi : vp_in i 2520) (hd : decode cc pc = .ok (.iastore, 1)) (kk : ∀ (H1 : Heap) (locs1 : List Loc), wH D A H0 (mo tc a (u2 μ 23 i.toNatClampNeg v) ++ Y) H1 locs1 → W p l e R s m args below meth c H1 locs1 cells slots Q (F0 m (pc + 1) ls rest)) : W p l e R s m args below meth c H locs cells slots Q (F0 m pc ls (.int v :: .int i :: .ref (a 23) :: rest)) :=
  va_iast h0.1 h0.2.1 h0.2.2.2.2.2 hw.1 hw.2.1 hw.2.2 18 0 (n := 2520) (f := μ 23) (cA := tc 0) rfl rfl hi hd (fun H1 locs1 hP hD hS => kk H1 locs1 ⟨hP, hD, hS⟩)
theorem mg_24 (h0 : cX p s m args c "CountRoundsModel" cc nL D tc) (hw : wH D A H0 (mo tc a μ ++ Y) H locs) (hd : decode cc pc = .ok (.getfield 65, 3)) (kk : W p l e R s m args below meth c H locs cells slots Q (F0 m (pc + 3) ls (.ref (a 24) :: rest))) : W p l e R s m args below meth c H locs cells slots Q (F0 m pc ls (.ref (a 0) :: rest)) :=
  va_get (D := D) (ci := 4) (v := .ref (a 24)) (C := R_M) (T := F_M) (N := 29) h0.1 h0.2.1 h0.2.2.2.2.1 i_M h0.2.2.2.1 h0.2.2.2.2.2 hw.1 0 rfl rfl 24 (by decide) (h0.2.2.2.2.1 _ wd_635) (fun _ h9 => h9) rfl hd kk
theorem ml_24 {i : Int32} (h0 : cX p s m args c "CountRoundsModel" cc nL D tc) (hw : wH D A H0 (mo tc a μ ++ Y) H locs) (hi : vp_in i 2520) (hd : decode cc pc = .ok (.iaload, 1)) (kk : W p l e R s m args below meth c H locs cells slots Q (F0 m (pc + 1) ls (.int (μ 24 i.toNatClampNeg) :: rest))) : W p l e R s m args below meth c H locs cells slots Q (F0 m pc ls (.int i :: .ref (a 24) :: rest)) :=
  va_iald h0.1 h0.2.1 h0.2.2.2.2.2 hw.1 19 0 (n := 2520) (f := μ 24) (cA := tc 0) rfl rfl hi hd kk
theorem ms_24 {i v : Int32} (h0 : cX p s m args c "CountRoundsModel" cc nL D tc) (hw : wH D A H0 (mo tc a μ ++ Y) H locs) (hi : vp_in i 2520) (hd : decode cc pc = .ok (.iastore, 1)) (kk : ∀ (H1 : Heap) (locs1 : List Loc), wH D A H0 (mo tc a (u2 μ 24 i.toNatClampNeg v) ++ Y) H1 locs1 → W p l e R s m args below meth c H1 locs1 cells slots Q (F0 m (pc + 1) ls rest)) : W p l e R s m args below meth c H locs cells slots Q (F0 m pc ls (.int v :: .int i :: .ref (a 24) :: rest)) :=
  va_iast h0.1 h0.2.1 h0.2.2.2.2.2 hw.1 hw.2.1 hw.2.2 19 0 (n := 2520) (f := μ 24) (cA := tc 0) rfl rfl hi hd (fun H1 locs1 hP hD hS => kk H1 locs1 ⟨hP, hD, hS⟩)
theorem mg_25 (h0 : cX p s m args c "CountRoundsModel" cc nL D tc) (hw : wH D A H0 (mo tc a μ ++ Y) H locs) (hd : decode cc pc = .ok (.getfield 68, 3)) (kk : W p l e R s m args below meth c H locs cells slots Q (F0 m (pc + 3) ls (.ref (a 25) :: rest))) : W p l e R s m args below meth c H locs cells slots Q (F0 m pc ls (.ref (a 0) :: rest)) :=
  va_get (D := D) (ci := 4) (v := .ref (a 25)) (C := R_M) (T := F_M) (N := 29) h0.1 h0.2.1 h0.2.2.2.2.1 i_M h0.2.2.2.1 h0.2.2.2.2.2 hw.1 0 rfl rfl 25 (by decide) (h0.2.2.2.2.1 _ wd_636) (fun _ h9 => h9) rfl hd kk
theorem ml_25 {i : Int32} (h0 : cX p s m args c "CountRoundsModel" cc nL D tc) (hw : wH D A H0 (mo tc a μ ++ Y) H locs) (hi : vp_in i 2520) (hd : decode cc pc = .ok (.iaload, 1)) (kk : W p l e R s m args below meth c H locs cells slots Q (F0 m (pc + 1) ls (.int (μ 25 i.toNatClampNeg) :: rest))) : W p l e R s m args below meth c H locs cells slots Q (F0 m pc ls (.int i :: .ref (a 25) :: rest)) :=
  va_iald h0.1 h0.2.1 h0.2.2.2.2.2 hw.1 20 0 (n := 2520) (f := μ 25) (cA := tc 0) rfl rfl hi hd kk
theorem ms_25 {i v : Int32} (h0 : cX p s m args c "CountRoundsModel" cc nL D tc) (hw : wH D A H0 (mo tc a μ ++ Y) H locs) (hi : vp_in i 2520) (hd : decode cc pc = .ok (.iastore, 1)) (kk : ∀ (H1 : Heap) (locs1 : List Loc), wH D A H0 (mo tc a (u2 μ 25 i.toNatClampNeg v) ++ Y) H1 locs1 → W p l e R s m args below meth c H1 locs1 cells slots Q (F0 m (pc + 1) ls rest)) : W p l e R s m args below meth c H locs cells slots Q (F0 m pc ls (.int v :: .int i :: .ref (a 25) :: rest)) :=
  va_iast h0.1 h0.2.1 h0.2.2.2.2.2 hw.1 hw.2.1 hw.2.2 20 0 (n := 2520) (f := μ 25) (cA := tc 0) rfl rfl hi hd (fun H1 locs1 hP hD hS => kk H1 locs1 ⟨hP, hD, hS⟩)
theorem mg_26 (h0 : cX p s m args c "CountRoundsModel" cc nL D tc) (hw : wH D A H0 (mo tc a μ ++ Y) H locs) (hd : decode cc pc = .ok (.getfield 158, 3)) (kk : W p l e R s m args below meth c H locs cells slots Q (F0 m (pc + 3) ls (.int (μ 26 0) :: rest))) : W p l e R s m args below meth c H locs cells slots Q (F0 m pc ls (.ref (a 0) :: rest)) :=
  va_get (D := D) (ci := 4) (v := .int (μ 26 0)) (C := R_M) (T := F_M) (N := 29) h0.1 h0.2.1 h0.2.2.2.2.1 i_M h0.2.2.2.1 h0.2.2.2.2.2 hw.1 0 rfl rfl 26 (by decide) (h0.2.2.2.2.1 _ wd_637) (fun _ h9 => h9) rfl hd kk
theorem mp_26 {v : Int32} (h0 : cX p s m args c "CountRoundsModel" cc nL D tc) (hw : wH D A H0 (mo tc a μ ++ Y) H locs) (hd : decode cc pc = .ok (.putfield 158, 3)) (kk : ∀ (H1 : Heap) (locs1 : List Loc), wH D A H0 (mo tc a (u2 μ 26 0 v) ++ Y) H1 locs1 → W p l e R s m args below meth c H1 locs1 cells slots Q (F0 m (pc + 3) ls rest)) : W p l e R s m args below meth c H locs cells slots Q (F0 m pc ls (.int v :: .ref (a 0) :: rest)) :=
  va_put (D := D) (ci := 4) (v := .int v) (ty := .int) (C := R_M) (T := F_M) (N := 29) h0.1 h0.2.1 h0.2.2.2.2.1 i_M ty_M ty_M_ok n_M h0.2.2.2.1 h0.2.2.2.2.2 hw.1 hw.2.1 hw.2.2 0 rfl rfl 26 (by decide) (h0.2.2.2.2.1 _ wd_637) (fun _ h9 => h9) rfl (by decide +kernel) rfl rfl (Nat.le_of_ble_eq_true rfl) hd (fun H1 locs1 hP hD hS => kk H1 locs1 ⟨hP, hD, hS⟩)
theorem mg_27 (h0 : cX p s m args c "CountRoundsModel" cc nL D tc) (hw : wH D A H0 (mo tc a μ ++ Y) H locs) (hd : decode cc pc = .ok (.getfield 161, 3)) (kk : W p l e R s m args below meth c H locs cells slots Q (F0 m (pc + 3) ls (.int (μ 27 0) :: rest))) : W p l e R s m args below meth c H locs cells slots Q (F0 m pc ls (.ref (a 0) :: rest)) :=
  va_get (D := D) (ci := 4) (v := .int (μ 27 0)) (C := R_M) (T := F_M) (N := 29) h0.1 h0.2.1 h0.2.2.2.2.1 i_M h0.2.2.2.1 h0.2.2.2.2.2 hw.1 0 rfl rfl 27 (by decide) (h0.2.2.2.2.1 _ wd_638) (fun _ h9 => h9) rfl hd kk
theorem mp_27 {v : Int32} (h0 : cX p s m args c "CountRoundsModel" cc nL D tc) (hw : wH D A H0 (mo tc a μ ++ Y) H locs) (hd : decode cc pc = .ok (.putfield 161, 3)) (kk : ∀ (H1 : Heap) (locs1 : List Loc), wH D A H0 (mo tc a (u2 μ 27 0 v) ++ Y) H1 locs1 → W p l e R s m args below meth c H1 locs1 cells slots Q (F0 m (pc + 3) ls rest)) : W p l e R s m args below meth c H locs cells slots Q (F0 m pc ls (.int v :: .ref (a 0) :: rest)) :=
  va_put (D := D) (ci := 4) (v := .int v) (ty := .int) (C := R_M) (T := F_M) (N := 29) h0.1 h0.2.1 h0.2.2.2.2.1 i_M ty_M ty_M_ok n_M h0.2.2.2.1 h0.2.2.2.2.2 hw.1 hw.2.1 hw.2.2 0 rfl rfl 27 (by decide) (h0.2.2.2.2.1 _ wd_638) (fun _ h9 => h9) rfl (by decide +kernel) rfl rfl (Nat.le_of_ble_eq_true rfl) hd (fun H1 locs1 hP hD hS => kk H1 locs1 ⟨hP, hD, hS⟩)
theorem mg_28 (h0 : cX p s m args c "CountRoundsModel" cc nL D tc) (hw : wH D A H0 (mo tc a μ ++ Y) H locs) (hd : decode cc pc = .ok (.getfield 71, 3)) (kk : W p l e R s m args below meth c H locs cells slots Q (F0 m (pc + 3) ls (.ref (a 28) :: rest))) : W p l e R s m args below meth c H locs cells slots Q (F0 m pc ls (.ref (a 0) :: rest)) :=
  va_get (D := D) (ci := 4) (v := .ref (a 28)) (C := R_M) (T := F_M) (N := 29) h0.1 h0.2.1 h0.2.2.2.2.1 i_M h0.2.2.2.1 h0.2.2.2.2.2 hw.1 0 rfl rfl 28 (by decide) (h0.2.2.2.2.1 _ wd_639) (fun _ h9 => h9) rfl hd kk
theorem ml_28 {i : Int32} (h0 : cX p s m args c "CountRoundsModel" cc nL D tc) (hw : wH D A H0 (mo tc a μ ++ Y) H locs) (hi : vp_in i 20) (hd : decode cc pc = .ok (.baload, 1)) (kk : W p l e R s m args below meth c H locs cells slots Q (F0 m (pc + 1) ls (.int (μ 28 i.toNatClampNeg) :: rest))) : W p l e R s m args below meth c H locs cells slots Q (F0 m pc ls (.int i :: .ref (a 28) :: rest)) :=
  va_zald h0.1 h0.2.1 h0.2.2.2.2.2 hw.1 21 1 (n := 20) (f := μ 28) (cA := tc 1) rfl rfl hi hd kk
theorem ms_28 {i v : Int32} (h0 : cX p s m args c "CountRoundsModel" cc nL D tc) (hw : wH D A H0 (mo tc a μ ++ Y) H locs) (hi : vp_in i 20) (hd : decode cc pc = .ok (.bastore, 1)) (kk : ∀ (H1 : Heap) (locs1 : List Loc), wH D A H0 (mo tc a (u2 μ 28 i.toNatClampNeg (vp_nar .boolean v)) ++ Y) H1 locs1 → W p l e R s m args below meth c H1 locs1 cells slots Q (F0 m (pc + 1) ls rest)) : W p l e R s m args below meth c H locs cells slots Q (F0 m pc ls (.int v :: .int i :: .ref (a 28) :: rest)) :=
  va_zast h0.1 h0.2.1 h0.2.2.2.2.2 hw.1 hw.2.1 hw.2.2 21 1 (n := 20) (f := μ 28) (cA := tc 1) rfl rfl hi hd (fun H1 locs1 hP hD hS => kk H1 locs1 ⟨hP, hD, hS⟩)
end MR
end
section
/-! CALLS that change the world -/
section WC
variable {p : Program} {l : Launch} {e : Env} {R : Room} {s : State} {m : MethodId} {args : Array Value} {below : List Frame} {meth : Method} {c : Code} {H H0 : Heap} {locs : List Loc} {cells slots : Nat} {Q : State → Prop} {cc : ByteArray} {nL pc : Nat} {ls : Array Slot} {rest st0 : List Value} {D : va_G} {tc : Nat → ClassId} {A : Nat → Prop} {ws : va_W} {own : String} {mc ms : Nat}
theorem fr_A (hw : wH D A H0 ws H locs) (hA : ∀ q : Nat, H0.size ≤ q → A q) : ∀ q, va_A ws H.size q → A q := by
  intro q h
  rcases h with ⟨k, e, h⟩ | h
  · exact hw.2.1.2 k (q, e) h
  · exact hA q (Nat.le_trans hw.2.2.1 h)
theorem cv_v {S : Type} {post : S → Prop} {wd : S → va_W} {y : MethodName} {bytes : ByteArray} {maxL index n : Nat} {ret : Option FieldType} {rm : Room} {As : List Value} {C : String} {b q0 ci : Nat} {fs : List Value} {T : u_T} {N : Nat} (h0 : cX p s m args c own cc nL D tc) (hw : wH D A H0 ws H locs) (hA : ∀ q : Nat, H0.size ≤ q → A q)
    (hM : Met l y (Cond.code y bytes maxL ret :: gw) rm (va_Pc (.ref b :: As) (pW D tc ws H.size)) (va_Qv post (fun u t => qW D tc (va_A ws H.size) (wd u) t) (va_A ws H.size)) mc ms (va_A ws H.size)) (hG : GoodIn gw (wsV own index C y (Cond.code y bytes maxL ret :: gw)))
    (hd : y.cls = C ∧ y.cls ≠ "java/lang/invoke/MethodHandle" ∧ y.cls ≠ "java/lang/invoke/VarHandle" ∧ (parseMethodDescriptor y.desc).map (fun d => d.parameters.length) = some n) (hR : rm.cells = mc ∧ rm.slots = ms ∧ rm.frames + 1 ≤ R.frames ∧ 8 + (maxL + 11) + rm.locals ≤ R.locals ∧ cells + mc ≤ R.cells ∧ slots + ms ≤ R.slots)
    (he : ws[q0]? = some (b, .inr (ci, fs))) (hc : classes[ci]? = some (C, T, N)) (hn : As.length = n) (hsize : ls.size = nL) (hst : st0 = As.reverse ++ .ref b :: rest) (hW : (rest.map fun v => v.category).sum ≤ 8) (hdg : decode cc pc = .ok (.invokevirtual index, 3))
    (kk : ∀ (u : S) (H1 : Heap) (locs1 : List Loc), post u → wH D A H0 (wd u) H1 locs1 → W p l e R s m args below meth c H1 locs1 (cells + mc) (slots + ms) Q (F0 m (pc + 3) ls rest)) : W p l e R s m args below meth c H locs cells slots Q (F0 m pc ls st0) := by
  have hF := fr_A hw hA
  refine va_callv (va_runV (As := As) (rest := rest) ⟨h0.1, h0.2.1, h0.2.2.1, h0.2.2.2.1, h0.2.2.2.2.1⟩ hM (cwV n h0.2.2.2.2.1 hG rfl hR.1 hR.2.1 hd ⟨hR.2.2.1, hR.2.2.2.1⟩) (pr_V h0 hw.1 hw.2.1 he hc) rfl hn hsize hst (lv_room hW) hdg ⟨hR.2.2.2.2.1, hR.2.2.2.2.2⟩) hw.2.2 (fun q _ h => hF q h) hF (fun u t H1 locs ht hvm hp hB hz1 hk1 hS => ?_)
  exact kk u H1 locs hp ⟨by rw [← ht]; exact hB.1, hB.2.2.weaken (fun k q _ h => hF q.1 h), hS⟩
theorem cv_i {S : Type} {post : Int32 → S → Prop} {wd : S → va_W} {y : MethodName} {bytes : ByteArray} {maxL index n : Nat} {ret : Option FieldType} {rm : Room} {As : List Value} {C : String} {b q0 ci : Nat} {fs : List Value} {T : u_T} {N : Nat} (h0 : cX p s m args c own cc nL D tc) (hw : wH D A H0 ws H locs) (hA : ∀ q : Nat, H0.size ≤ q → A q)
    (hM : Met l y (Cond.code y bytes maxL ret :: gw) rm (va_Pc (.ref b :: As) (pW D tc ws H.size)) (va_Qi post (fun u t => qW D tc (va_A ws H.size) (wd u) t) (va_A ws H.size)) mc ms (va_A ws H.size)) (hG : GoodIn gw (wsV own index C y (Cond.code y bytes maxL ret :: gw)))
    (hd : y.cls = C ∧ y.cls ≠ "java/lang/invoke/MethodHandle" ∧ y.cls ≠ "java/lang/invoke/VarHandle" ∧ (parseMethodDescriptor y.desc).map (fun d => d.parameters.length) = some n) (hR : rm.cells = mc ∧ rm.slots = ms ∧ rm.frames + 1 ≤ R.frames ∧ 8 + (maxL + 11) + rm.locals ≤ R.locals ∧ cells + mc ≤ R.cells ∧ slots + ms ≤ R.slots)
    (he : ws[q0]? = some (b, .inr (ci, fs))) (hc : classes[ci]? = some (C, T, N)) (hn : As.length = n) (hsize : ls.size = nL) (hst : st0 = As.reverse ++ .ref b :: rest) (hW : (rest.map fun v => v.category).sum ≤ 8) (hdg : decode cc pc = .ok (.invokevirtual index, 3))
    (kk : ∀ (r : Int32) (u : S) (H1 : Heap) (locs1 : List Loc), post r u → wH D A H0 (wd u) H1 locs1 → W p l e R s m args below meth c H1 locs1 (cells + mc) (slots + ms) Q (F0 m (pc + 3) ls (.int r :: rest))) : W p l e R s m args below meth c H locs cells slots Q (F0 m pc ls st0) := by
  have hF := fr_A hw hA
  refine va_calli (va_runV (As := As) (rest := rest) ⟨h0.1, h0.2.1, h0.2.2.1, h0.2.2.2.1, h0.2.2.2.2.1⟩ hM (cwV n h0.2.2.2.2.1 hG rfl hR.1 hR.2.1 hd ⟨hR.2.2.1, hR.2.2.2.1⟩) (pr_V h0 hw.1 hw.2.1 he hc) rfl hn hsize hst (lv_room hW) hdg ⟨hR.2.2.2.2.1, hR.2.2.2.2.2⟩) hw.2.2 (fun q _ h => hF q h) hF (fun r u t H1 locs ht hvm hp hB hz1 hk1 hS => ?_)
  exact kk r u H1 locs hp ⟨by rw [← ht]; exact hB.1, hB.2.2.weaken (fun k q _ h => hF q.1 h), hS⟩
end WC
end
section
def fM_in (x0 : Int32) (x1 : Int32) (x2 : Int32) : Int32 := if x0 < x1 then 0 else if x2 < x0 then 0 else 1
def kM_in (x0 : Int32) (x1 : Int32) (x2 : Int32) : Prop := (x0 < x1 → True) ∧ (¬ (x0 < x1) → (x2 < x0 → True) ∧ (¬ (x2 < x0) → True))
def fM_isGood (x0 : Int32) : Int32 := fM_in x0 0 5
def kM_isGood (x0 : Int32) : Prop := (kM_in x0 0 5) ∧ (narrow .boolean (.int (fM_in x0 0 5)) = .int (fM_in x0 0 5))
def fM_isPerson (x0 : Int32) : Int32 := fM_in x0 0 5
def kM_isPerson (x0 : Int32) : Prop := (kM_in x0 0 5) ∧ (narrow .boolean (.int (fM_in x0 0 5)) = .int (fM_in x0 0 5))
def fM_far (x0 : Int32) (x1 : Int32) : Int32 := if x0 ≤ x1 then x1 - x0 else x0 - x1
def kM_far (x0 : Int32) (x1 : Int32) : Prop := (x0 ≤ x1 → True) ∧ (¬ (x0 ≤ x1) → True)
def fM_divisor_4x  (x0 : Int32) (x1 : Int32) (x2 : Int32) (x3 : Int32)  : Int32 := x2
def kM_divisor_4x  (x0 : Int32) (x1 : Int32) (x2 : Int32) (x3 : Int32)  : Prop := True
def fM_divisor_4  (E4 : Int32 → Int32 → Int32 → Int32 → Int32) : Nat → Int32 → Int32 → Int32 → Int32 → Int32
  | 0, _, _, _, _ => 0
  | n + 1, x0, x1, x2, x3 => if x3 ≤ 0 then E4 x0 x1 x2 x3 else (fM_divisor_4 E4 n) x0 x1 x3 (x2 - x2 / x3 * x3)
def kM_divisor_4  (KE4 : Int32 → Int32 → Int32 → Int32 → Prop) : Nat → Int32 → Int32 → Int32 → Int32 → Prop
  | 0, _, _, _, _ => False
  | n + 1, x0, x1, x2, x3 => (x3 ≤ 0 → KE4 x0 x1 x2 x3) ∧ (¬ (x3 ≤ 0) → (¬ x3 = 0) ∧ ((kM_divisor_4 KE4 n) x0 x1 x3 (x2 - x2 / x3 * x3)))
def fM_divisor (x0 : Int32) (x1 : Int32) : Int32 := fM_divisor_4 fM_divisor_4x 200 x0 x1 x0 x1
def kM_divisor (x0 : Int32) (x1 : Int32) : Prop := kM_divisor_4 kM_divisor_4x 200 x0 x1 x0 x1
def fM_thrown  (μ : Nat → Nat → Int32) : Int32 := μ 0 0
def kM_thrown  (μ : Nat → Nat → Int32) : Prop := True
def fM_isPlace (x1 : Int32) (μ : Nat → Nat → Int32) : Int32 := fM_in x1 0 ((μ 3 0) - 1)
def kM_isPlace (x1 : Int32) (μ : Nat → Nat → Int32) : Prop := (kM_in x1 0 ((μ 3 0) - 1)) ∧ (narrow .boolean (.int (fM_in x1 0 ((μ 3 0) - 1))) = .int (fM_in x1 0 ((μ 3 0) - 1)))
def fM_isCount (x1 : Int32) (μ : Nat → Nat → Int32) : Int32 := fM_in x1 1 (μ 16 0)
def kM_isCount (x1 : Int32) (μ : Nat → Nat → Int32) : Prop := (kM_in x1 1 (μ 16 0)) ∧ (narrow .boolean (.int (fM_in x1 1 (μ 16 0))) = .int (fM_in x1 1 (μ 16 0)))
def fM_firstBy (x1 : Int32) (μ : Nat → Nat → Int32) : Int32 := ((μ 24 x1.toNatClampNeg) - (μ 24 x1.toNatClampNeg) / 10 * 10) - 1
def kM_firstBy (x1 : Int32) (μ : Nat → Nat → Int32) : Prop := (vp_in x1 2520) ∧ (True)
def fM_secondBy (x1 : Int32) (μ : Nat → Nat → Int32) : Int32 := ((μ 24 x1.toNatClampNeg) / 10) - 1
def kM_secondBy (x1 : Int32) (μ : Nat → Nat → Int32) : Prop := (vp_in x1 2520) ∧ (True)
def fM_openAt_4x  (x1 : Int32) (x2 : Int32) (x3 : Int32) (μ : Nat → Nat → Int32) : Int32 := x2
def kM_openAt_4x  (x1 : Int32) (x2 : Int32) (x3 : Int32) (μ : Nat → Nat → Int32) : Prop := True
def fM_openAt_4  (E4 : Int32 → Int32 → Int32 → (Nat → Nat → Int32) → Int32) : Nat → Int32 → Int32 → Int32 → (Nat → Nat → Int32) → Int32
  | 0, _, _, _, _ => 0
  | n + 1, x1, x2, x3, μ => if (μ 10 0) < x3 then E4 x1 x2 x3 μ else if (μ 15 x3.toNatClampNeg) = 0 then if (μ 11 x3.toNatClampNeg) = x1 then (fM_openAt_4 E4 n) x1 (x2 + 1) (x3 + 1) μ else if (μ 12 x3.toNatClampNeg) = x1 then (fM_openAt_4 E4 n) x1 (x2 + 1) (x3 + 1) μ else (fM_openAt_4 E4 n) x1 (x2 + 0) (x3 + 1) μ else (fM_openAt_4 E4 n) x1 (x2 + 0) (x3 + 1) μ
def kM_openAt_4  (KE4 : Int32 → Int32 → Int32 → (Nat → Nat → Int32) → Prop) : Nat → Int32 → Int32 → Int32 → (Nat → Nat → Int32) → Prop
  | 0, _, _, _, _ => False
  | n + 1, x1, x2, x3, μ => ((μ 10 0) < x3 → KE4 x1 x2 x3 μ) ∧ (¬ ((μ 10 0) < x3) → (vp_in x3 61) ∧ (((μ 15 x3.toNatClampNeg) = 0 → (vp_in x3 61) ∧ (((μ 11 x3.toNatClampNeg) = x1 → (kM_openAt_4 KE4 n) x1 (x2 + 1) (x3 + 1) μ) ∧ (¬ ((μ 11 x3.toNatClampNeg) = x1) → (vp_in x3 61) ∧ (((μ 12 x3.toNatClampNeg) = x1 → (kM_openAt_4 KE4 n) x1 (x2 + 1) (x3 + 1) μ) ∧ (¬ ((μ 12 x3.toNatClampNeg) = x1) → (kM_openAt_4 KE4 n) x1 (x2 + 0) (x3 + 1) μ))))) ∧ (¬ ((μ 15 x3.toNatClampNeg) = 0) → (kM_openAt_4 KE4 n) x1 (x2 + 0) (x3 + 1) μ)))
def fM_openAt (x1 : Int32) (μ : Nat → Nat → Int32) : Int32 := fM_openAt_4 fM_openAt_4x 200 x1 0 1 μ
def kM_openAt (x1 : Int32) (μ : Nat → Nat → Int32) : Prop := kM_openAt_4 kM_openAt_4x 200 x1 0 1 μ
def fM_isBusy_2x  (x1 : Int32) (x2 : Int32) (μ : Nat → Nat → Int32) : Int32 := 0
def kM_isBusy_2x  (x1 : Int32) (x2 : Int32) (μ : Nat → Nat → Int32) : Prop := True
def fM_isBusy_12x (O2 : Int32 → Int32 → (Nat → Nat → Int32) → Int32) (E2 : Int32 → Int32 → (Nat → Nat → Int32) → Int32) (x1 : Int32) (x2 : Int32) (x3 : Int32) (μ : Nat → Nat → Int32) : Int32 := O2 x1 (x2 + 1) μ
def kM_isBusy_12x (KO2 : Int32 → Int32 → (Nat → Nat → Int32) → Prop) (KE2 : Int32 → Int32 → (Nat → Nat → Int32) → Prop) (x1 : Int32) (x2 : Int32) (x3 : Int32) (μ : Nat → Nat → Int32) : Prop := KO2 x1 (x2 + 1) μ
def fM_isBusy_12 (O2 : Int32 → Int32 → (Nat → Nat → Int32) → Int32) (E2 : Int32 → Int32 → (Nat → Nat → Int32) → Int32) (E12 : Int32 → Int32 → Int32 → (Nat → Nat → Int32) → Int32) : Nat → Int32 → Int32 → Int32 → (Nat → Nat → Int32) → Int32
  | 0, _, _, _, _ => 0
  | n + 1, x1, x2, x3, μ => if (μ 18 x2.toNatClampNeg) ≤ x3 then E12 x1 x2 x3 μ else if (μ 17 x2.toNatClampNeg) = 2 then E12 x1 x2 x3 μ else if (μ 20 ((20 * x2) + x3).toNatClampNeg) = x1 then 1 else (fM_isBusy_12 O2 E2 E12 n) x1 x2 (x3 + 1) μ
def kM_isBusy_12 (KO2 : Int32 → Int32 → (Nat → Nat → Int32) → Prop) (KE2 : Int32 → Int32 → (Nat → Nat → Int32) → Prop) (KE12 : Int32 → Int32 → Int32 → (Nat → Nat → Int32) → Prop) : Nat → Int32 → Int32 → Int32 → (Nat → Nat → Int32) → Prop
  | 0, _, _, _, _ => False
  | n + 1, x1, x2, x3, μ => (vp_in x2 21) ∧ (((μ 18 x2.toNatClampNeg) ≤ x3 → KE12 x1 x2 x3 μ) ∧ (¬ ((μ 18 x2.toNatClampNeg) ≤ x3) → (vp_in x2 21) ∧ (((μ 17 x2.toNatClampNeg) = 2 → KE12 x1 x2 x3 μ) ∧ (¬ ((μ 17 x2.toNatClampNeg) = 2) → (vp_in ((20 * x2) + x3) 420) ∧ (((μ 20 ((20 * x2) + x3).toNatClampNeg) = x1 → True) ∧ (¬ ((μ 20 ((20 * x2) + x3).toNatClampNeg) = x1) → (kM_isBusy_12 KO2 KE2 KE12 n) x1 x2 (x3 + 1) μ))))))
def fM_isBusy_2  (E2 : Int32 → Int32 → (Nat → Nat → Int32) → Int32) : Nat → Int32 → Int32 → (Nat → Nat → Int32) → Int32
  | 0, _, _, _ => 0
  | n + 1, x1, x2, μ => if (μ 16 0) < x2 then E2 x1 x2 μ else fM_isBusy_12 (fM_isBusy_2 E2 n) E2 (fM_isBusy_12x (fM_isBusy_2 E2 n) E2) 200 x1 x2 0 μ
def kM_isBusy_2  (KE2 : Int32 → Int32 → (Nat → Nat → Int32) → Prop) : Nat → Int32 → Int32 → (Nat → Nat → Int32) → Prop
  | 0, _, _, _ => False
  | n + 1, x1, x2, μ => ((μ 16 0) < x2 → KE2 x1 x2 μ) ∧ (¬ ((μ 16 0) < x2) → kM_isBusy_12 (kM_isBusy_2 KE2 n) KE2 (kM_isBusy_12x (kM_isBusy_2 KE2 n) KE2) 200 x1 x2 0 μ)
def fM_isBusy (x1 : Int32) (μ : Nat → Nat → Int32) : Int32 := fM_isBusy_2 fM_isBusy_2x 200 x1 1 μ
def kM_isBusy (x1 : Int32) (μ : Nat → Nat → Int32) : Prop := kM_isBusy_2 kM_isBusy_2x 200 x1 1 μ
def fM_byRank_4x  (x1 : Int32) (x2 : Int32) (μ : Nat → Nat → Int32) : Int32 := x1
def kM_byRank_4x  (x1 : Int32) (x2 : Int32) (μ : Nat → Nat → Int32) : Prop := True
def fM_byRank_4  (E4 : Int32 → Int32 → (Nat → Nat → Int32) → Int32) : Nat → Int32 → Int32 → (Nat → Nat → Int32) → Int32
  | 0, _, _, _ => 0
  | n + 1, x1, x2, μ => if (μ 3 0) ≤ x2 then E4 x1 x2 μ else if (μ 28 x2.toNatClampNeg) = 0 then (fM_byRank_4 E4 n) x1 (x2 + 1) μ else if x1 = (-1) then (fM_byRank_4 E4 n) x2 (x2 + 1) μ else if (μ 5 x1.toNatClampNeg) ≤ (μ 5 x2.toNatClampNeg) then (fM_byRank_4 E4 n) x1 (x2 + 1) μ else (fM_byRank_4 E4 n) x2 (x2 + 1) μ
def kM_byRank_4  (KE4 : Int32 → Int32 → (Nat → Nat → Int32) → Prop) : Nat → Int32 → Int32 → (Nat → Nat → Int32) → Prop
  | 0, _, _, _ => False
  | n + 1, x1, x2, μ => ((μ 3 0) ≤ x2 → KE4 x1 x2 μ) ∧ (¬ ((μ 3 0) ≤ x2) → (vp_in x2 20) ∧ (((μ 28 x2.toNatClampNeg) = 0 → (kM_byRank_4 KE4 n) x1 (x2 + 1) μ) ∧ (¬ ((μ 28 x2.toNatClampNeg) = 0) → (x1 = (-1) → (kM_byRank_4 KE4 n) x2 (x2 + 1) μ) ∧ (¬ (x1 = (-1)) → (vp_in x2 20) ∧ ((vp_in x1 20) ∧ (((μ 5 x1.toNatClampNeg) ≤ (μ 5 x2.toNatClampNeg) → (kM_byRank_4 KE4 n) x1 (x2 + 1) μ) ∧ (¬ ((μ 5 x1.toNatClampNeg) ≤ (μ 5 x2.toNatClampNeg)) → (kM_byRank_4 KE4 n) x2 (x2 + 1) μ)))))))
def fM_byRank  (μ : Nat → Nat → Int32) : Int32 := fM_byRank_4 fM_byRank_4x 200 (-1) 0 μ
def kM_byRank  (μ : Nat → Nat → Int32) : Prop := kM_byRank_4 kM_byRank_4x 200 (-1) 0 μ
def fM_byNumber_4x  (x1 : Int32) (x2 : Int32) (x3 : Int32) (μ : Nat → Nat → Int32) : Int32 := (-1)
def kM_byNumber_4x  (x1 : Int32) (x2 : Int32) (x3 : Int32) (μ : Nat → Nat → Int32) : Prop := True
def fM_byNumber_4  (E4 : Int32 → Int32 → Int32 → (Nat → Nat → Int32) → Int32) : Nat → Int32 → Int32 → Int32 → (Nat → Nat → Int32) → Int32
  | 0, _, _, _, _ => 0
  | n + 1, x1, x2, x3, μ => if (μ 3 0) ≤ x3 then E4 x1 x2 x3 μ else if (μ 28 x3.toNatClampNeg) = 0 then (fM_byNumber_4 E4 n) x1 x2 (x3 + 1) μ else if x2 = 0 then x3 else (fM_byNumber_4 E4 n) x1 (x2 + (-1)) (x3 + 1) μ
def kM_byNumber_4  (KE4 : Int32 → Int32 → Int32 → (Nat → Nat → Int32) → Prop) : Nat → Int32 → Int32 → Int32 → (Nat → Nat → Int32) → Prop
  | 0, _, _, _, _ => False
  | n + 1, x1, x2, x3, μ => ((μ 3 0) ≤ x3 → KE4 x1 x2 x3 μ) ∧ (¬ ((μ 3 0) ≤ x3) → (vp_in x3 20) ∧ (((μ 28 x3.toNatClampNeg) = 0 → (kM_byNumber_4 KE4 n) x1 x2 (x3 + 1) μ) ∧ (¬ ((μ 28 x3.toNatClampNeg) = 0) → (x2 = 0 → True) ∧ (¬ (x2 = 0) → (kM_byNumber_4 KE4 n) x1 (x2 + (-1)) (x3 + 1) μ))))
def fM_byNumber (x1 : Int32) (μ : Nat → Nat → Int32) : Int32 := fM_byNumber_4 fM_byNumber_4x 200 x1 x1 0 μ
def kM_byNumber (x1 : Int32) (μ : Nat → Nat → Int32) : Prop := kM_byNumber_4 kM_byNumber_4x 200 x1 x1 0 μ
def fM_coming_5x  (x1 : Int32) (x2 : Int32) (x3 : Int32) (x4 : Int32) (μ : Nat → Nat → Int32) : Int32 := x3
def kM_coming_5x  (x1 : Int32) (x2 : Int32) (x3 : Int32) (x4 : Int32) (μ : Nat → Nat → Int32) : Prop := True
def fM_coming_5  (E5 : Int32 → Int32 → Int32 → Int32 → (Nat → Nat → Int32) → Int32) : Nat → Int32 → Int32 → Int32 → Int32 → (Nat → Nat → Int32) → Int32
  | 0, _, _, _, _, _ => 0
  | n + 1, x1, x2, x3, x4, μ => if (μ 10 0) < x4 then E5 x1 x2 x3 x4 μ else if (μ 15 x4.toNatClampNeg) = 0 then if (μ 12 x4.toNatClampNeg) = x1 then if (μ 13 x4.toNatClampNeg) = x2 then (fM_coming_5 E5 n) x1 x2 (x3 + (μ 14 x4.toNatClampNeg)) (x4 + 1) μ else (fM_coming_5 E5 n) x1 x2 (x3 + 0) (x4 + 1) μ else (fM_coming_5 E5 n) x1 x2 (x3 + 0) (x4 + 1) μ else (fM_coming_5 E5 n) x1 x2 (x3 + 0) (x4 + 1) μ
def kM_coming_5  (KE5 : Int32 → Int32 → Int32 → Int32 → (Nat → Nat → Int32) → Prop) : Nat → Int32 → Int32 → Int32 → Int32 → (Nat → Nat → Int32) → Prop
  | 0, _, _, _, _, _ => False
  | n + 1, x1, x2, x3, x4, μ => ((μ 10 0) < x4 → KE5 x1 x2 x3 x4 μ) ∧ (¬ ((μ 10 0) < x4) → (vp_in x4 61) ∧ (((μ 15 x4.toNatClampNeg) = 0 → (vp_in x4 61) ∧ (((μ 12 x4.toNatClampNeg) = x1 → (vp_in x4 61) ∧ (((μ 13 x4.toNatClampNeg) = x2 → (vp_in x4 61) ∧ ((kM_coming_5 KE5 n) x1 x2 (x3 + (μ 14 x4.toNatClampNeg)) (x4 + 1) μ)) ∧ (¬ ((μ 13 x4.toNatClampNeg) = x2) → (kM_coming_5 KE5 n) x1 x2 (x3 + 0) (x4 + 1) μ))) ∧ (¬ ((μ 12 x4.toNatClampNeg) = x1) → (kM_coming_5 KE5 n) x1 x2 (x3 + 0) (x4 + 1) μ))) ∧ (¬ ((μ 15 x4.toNatClampNeg) = 0) → (kM_coming_5 KE5 n) x1 x2 (x3 + 0) (x4 + 1) μ)))
def fM_coming (x1 : Int32) (x2 : Int32) (μ : Nat → Nat → Int32) : Int32 := fM_coming_5 fM_coming_5x 200 x1 x2 0 1 μ
def kM_coming (x1 : Int32) (x2 : Int32) (μ : Nat → Nat → Int32) : Prop := kM_coming_5 kM_coming_5x 200 x1 x2 0 1 μ
def fM_slot_2x  (x1 : Int32) (x2 : Int32) (x3 : Int32) (μ : Nat → Nat → Int32) : Int32 := (-1)
def kM_slot_2x  (x1 : Int32) (x2 : Int32) (x3 : Int32) (μ : Nat → Nat → Int32) : Prop := True
def fM_slot_2  (E2 : Int32 → Int32 → Int32 → (Nat → Nat → Int32) → Int32) : Nat → Int32 → Int32 → Int32 → (Nat → Nat → Int32) → Int32
  | 0, _, _, _, _ => 0
  | n + 1, x1, x2, x3, μ => if (μ 18 x1.toNatClampNeg) ≤ x3 then E2 x1 x2 x3 μ else if (μ 20 ((20 * x1) + x3).toNatClampNeg) = x2 then x3 else (fM_slot_2 E2 n) x1 x2 (x3 + 1) μ
def kM_slot_2  (KE2 : Int32 → Int32 → Int32 → (Nat → Nat → Int32) → Prop) : Nat → Int32 → Int32 → Int32 → (Nat → Nat → Int32) → Prop
  | 0, _, _, _, _ => False
  | n + 1, x1, x2, x3, μ => (vp_in x1 21) ∧ (((μ 18 x1.toNatClampNeg) ≤ x3 → KE2 x1 x2 x3 μ) ∧ (¬ ((μ 18 x1.toNatClampNeg) ≤ x3) → (vp_in ((20 * x1) + x3) 420) ∧ (((μ 20 ((20 * x1) + x3).toNatClampNeg) = x2 → True) ∧ (¬ ((μ 20 ((20 * x1) + x3).toNatClampNeg) = x2) → (kM_slot_2 KE2 n) x1 x2 (x3 + 1) μ))))
def fM_slot (x1 : Int32) (x2 : Int32) (μ : Nat → Nat → Int32) : Int32 := fM_slot_2 fM_slot_2x 200 x1 x2 0 μ
def kM_slot (x1 : Int32) (x2 : Int32) (μ : Nat → Nat → Int32) : Prop := kM_slot_2 kM_slot_2x 200 x1 x2 0 μ
def fM_counts (x1 : Int32) (μ : Nat → Nat → Int32) : Int32 := if (fM_secondBy x1 μ) = (-1) then if (fM_firstBy x1 μ) = (-1) then 0 else μ 22 x1.toNatClampNeg else μ 23 x1.toNatClampNeg
def kM_counts (x1 : Int32) (μ : Nat → Nat → Int32) : Prop := (kM_secondBy x1 μ) ∧ (((fM_secondBy x1 μ) = (-1) → (kM_firstBy x1 μ) ∧ (((fM_firstBy x1 μ) = (-1) → True) ∧ (¬ ((fM_firstBy x1 μ) = (-1)) → (vp_in x1 2520) ∧ (True)))) ∧ (¬ ((fM_secondBy x1 μ) = (-1)) → (vp_in x1 2520) ∧ (True)))
def fM_isTold_5x  (x1 : Int32) (x2 : Int32) (x3 : Int32) (x4 : Int32) (μ : Nat → Nat → Int32) : Int32 := x3
def kM_isTold_5x  (x1 : Int32) (x2 : Int32) (x3 : Int32) (x4 : Int32) (μ : Nat → Nat → Int32) : Prop := narrow .boolean (.int x3) = .int x3
def fM_isTold_5  (E5 : Int32 → Int32 → Int32 → Int32 → (Nat → Nat → Int32) → Int32) : Nat → Int32 → Int32 → Int32 → Int32 → (Nat → Nat → Int32) → Int32
  | 0, _, _, _, _, _ => 0
  | n + 1, x1, x2, x3, x4, μ => if 6 ≤ x4 then E5 x1 x2 x3 x4 μ else if x3 = 0 then if (μ 24 (((120 * x1) + (6 * x2)) + x4).toNatClampNeg) ≤ 0 then (fM_isTold_5 E5 n) x1 x2 0 (x4 + 1) μ else (fM_isTold_5 E5 n) x1 x2 1 (x4 + 1) μ else (fM_isTold_5 E5 n) x1 x2 1 (x4 + 1) μ
def kM_isTold_5  (KE5 : Int32 → Int32 → Int32 → Int32 → (Nat → Nat → Int32) → Prop) : Nat → Int32 → Int32 → Int32 → Int32 → (Nat → Nat → Int32) → Prop
  | 0, _, _, _, _, _ => False
  | n + 1, x1, x2, x3, x4, μ => (6 ≤ x4 → KE5 x1 x2 x3 x4 μ) ∧ (¬ (6 ≤ x4) → (x3 = 0 → (vp_in (((120 * x1) + (6 * x2)) + x4) 2520) ∧ (((μ 24 (((120 * x1) + (6 * x2)) + x4).toNatClampNeg) ≤ 0 → (kM_isTold_5 KE5 n) x1 x2 0 (x4 + 1) μ) ∧ (¬ ((μ 24 (((120 * x1) + (6 * x2)) + x4).toNatClampNeg) ≤ 0) → (kM_isTold_5 KE5 n) x1 x2 1 (x4 + 1) μ))) ∧ (¬ (x3 = 0) → (kM_isTold_5 KE5 n) x1 x2 1 (x4 + 1) μ))
def fM_isTold (x1 : Int32) (x2 : Int32) (μ : Nat → Nat → Int32) : Int32 := fM_isTold_5 fM_isTold_5x 200 x1 x2 0 0 μ
def kM_isTold (x1 : Int32) (x2 : Int32) (μ : Nat → Nat → Int32) : Prop := kM_isTold_5 kM_isTold_5x 200 x1 x2 0 0 μ
def fM_bookedAt (x1 : Int32) (μ : Nat → Nat → Int32) : Int32 := (6 * (μ 20 ((20 * (x1 / 120)) + ((x1 - x1 / 120 * 120) / 6)).toNatClampNeg)) + (x1 - x1 / 6 * 6)
def kM_bookedAt (x1 : Int32) (μ : Nat → Nat → Int32) : Prop := (vp_in ((20 * (x1 / 120)) + ((x1 - x1 / 120 * 120) / 6)) 420) ∧ (True)
def fM_difference_5x  (x1 : Int32) (x2 : Int32) (x3 : Int32) (x4 : Int32) (μ : Nat → Nat → Int32) : Int32 := (-1)
def kM_difference_5x  (x1 : Int32) (x2 : Int32) (x3 : Int32) (x4 : Int32) (μ : Nat → Nat → Int32) : Prop := True
def fM_difference_33x (O5 : Int32 → Int32 → Int32 → Int32 → (Nat → Nat → Int32) → Int32) (E5 : Int32 → Int32 → Int32 → Int32 → (Nat → Nat → Int32) → Int32) (x1 : Int32) (x2 : Int32) (x3 : Int32) (x4 : Int32) (x5 : Int32) (μ : Nat → Nat → Int32) : Int32 := O5 x1 x2 x3 (x4 + 1) μ
def kM_difference_33x (KO5 : Int32 → Int32 → Int32 → Int32 → (Nat → Nat → Int32) → Prop) (KE5 : Int32 → Int32 → Int32 → Int32 → (Nat → Nat → Int32) → Prop) (x1 : Int32) (x2 : Int32) (x3 : Int32) (x4 : Int32) (x5 : Int32) (μ : Nat → Nat → Int32) : Prop := KO5 x1 x2 x3 (x4 + 1) μ
def fM_difference_33 (O5 : Int32 → Int32 → Int32 → Int32 → (Nat → Nat → Int32) → Int32) (E5 : Int32 → Int32 → Int32 → Int32 → (Nat → Nat → Int32) → Int32) (E33 : Int32 → Int32 → Int32 → Int32 → Int32 → (Nat → Nat → Int32) → Int32) : Nat → Int32 → Int32 → Int32 → Int32 → Int32 → (Nat → Nat → Int32) → Int32
  | 0, _, _, _, _, _, _ => 0
  | n + 1, x1, x2, x3, x4, x5, μ => if 6 ≤ x5 then E33 x1 x2 x3 x4 x5 μ else if (fM_isTold x1 x4 μ) = 0 then E33 x1 x2 x3 x4 x5 μ else if (fM_counts (((120 * x1) + (6 * x4)) + x5) μ) = (μ 21 (((120 * x1) + (6 * x4)) + x5).toNatClampNeg) then (fM_difference_33 O5 E5 E33 n) x1 x2 x3 x4 (x5 + 1) μ else if x3 = 0 then ((120 * x1) + (6 * x4)) + x5 else (fM_difference_33 O5 E5 E33 n) x1 x2 (x3 + (-1)) x4 (x5 + 1) μ
def kM_difference_33 (KO5 : Int32 → Int32 → Int32 → Int32 → (Nat → Nat → Int32) → Prop) (KE5 : Int32 → Int32 → Int32 → Int32 → (Nat → Nat → Int32) → Prop) (KE33 : Int32 → Int32 → Int32 → Int32 → Int32 → (Nat → Nat → Int32) → Prop) : Nat → Int32 → Int32 → Int32 → Int32 → Int32 → (Nat → Nat → Int32) → Prop
  | 0, _, _, _, _, _, _ => False
  | n + 1, x1, x2, x3, x4, x5, μ => (6 ≤ x5 → KE33 x1 x2 x3 x4 x5 μ) ∧ (¬ (6 ≤ x5) → (kM_isTold x1 x4 μ) ∧ (((fM_isTold x1 x4 μ) = 0 → KE33 x1 x2 x3 x4 x5 μ) ∧ (¬ ((fM_isTold x1 x4 μ) = 0) → (kM_counts (((120 * x1) + (6 * x4)) + x5) μ) ∧ ((vp_in (((120 * x1) + (6 * x4)) + x5) 2520) ∧ (((fM_counts (((120 * x1) + (6 * x4)) + x5) μ) = (μ 21 (((120 * x1) + (6 * x4)) + x5).toNatClampNeg) → (kM_difference_33 KO5 KE5 KE33 n) x1 x2 x3 x4 (x5 + 1) μ) ∧ (¬ ((fM_counts (((120 * x1) + (6 * x4)) + x5) μ) = (μ 21 (((120 * x1) + (6 * x4)) + x5).toNatClampNeg)) → (x3 = 0 → True) ∧ (¬ (x3 = 0) → (kM_difference_33 KO5 KE5 KE33 n) x1 x2 (x3 + (-1)) x4 (x5 + 1) μ)))))))
def fM_difference_5  (E5 : Int32 → Int32 → Int32 → Int32 → (Nat → Nat → Int32) → Int32) : Nat → Int32 → Int32 → Int32 → Int32 → (Nat → Nat → Int32) → Int32
  | 0, _, _, _, _, _ => 0
  | n + 1, x1, x2, x3, x4, μ => if (μ 18 x1.toNatClampNeg) ≤ x4 then E5 x1 x2 x3 x4 μ else if x2 < 0 then E5 x1 x2 x3 x4 μ else if (μ 17 x1.toNatClampNeg) = 2 then fM_difference_33 (fM_difference_5 E5 n) E5 (fM_difference_33x (fM_difference_5 E5 n) E5) 200 x1 x2 x3 x4 0 μ else E5 x1 x2 x3 x4 μ
def kM_difference_5  (KE5 : Int32 → Int32 → Int32 → Int32 → (Nat → Nat → Int32) → Prop) : Nat → Int32 → Int32 → Int32 → Int32 → (Nat → Nat → Int32) → Prop
  | 0, _, _, _, _, _ => False
  | n + 1, x1, x2, x3, x4, μ => (vp_in x1 21) ∧ (((μ 18 x1.toNatClampNeg) ≤ x4 → KE5 x1 x2 x3 x4 μ) ∧ (¬ ((μ 18 x1.toNatClampNeg) ≤ x4) → (x2 < 0 → KE5 x1 x2 x3 x4 μ) ∧ (¬ (x2 < 0) → (vp_in x1 21) ∧ (((μ 17 x1.toNatClampNeg) = 2 → kM_difference_33 (kM_difference_5 KE5 n) KE5 (kM_difference_33x (kM_difference_5 KE5 n) KE5) 200 x1 x2 x3 x4 0 μ) ∧ (¬ ((μ 17 x1.toNatClampNeg) = 2) → KE5 x1 x2 x3 x4 μ)))))
def fM_difference (x1 : Int32) (x2 : Int32) (μ : Nat → Nat → Int32) : Int32 := fM_difference_5 fM_difference_5x 200 x1 x2 x2 0 μ
def kM_difference (x1 : Int32) (x2 : Int32) (μ : Nat → Nat → Int32) : Prop := kM_difference_5 kM_difference_5x 200 x1 x2 x2 0 μ
set_option maxHeartbeats 4000000 in
set_option maxRecDepth 100000 in
theorem cM_in (l : Launch) (x0 : Int32) (x1 : Int32) (x2 : Int32) {F : Int32} (hok : kM_in x0 x1 x2) (hF : fM_in x0 x1 x2 = F) : Met l y_M_in (Cond.code y_M_in b_M_in 3 (some .boolean) :: gw) ({ frames := 0, cells := 0, slots := 0, locals := 0 } : Room) (va_Pc [.int x0, .int x1, .int x2] (fun _ => True)) (qP (.int F)) 0 0 (fun _ => False) := by
  refine en_P (by decide) (Nat.le_of_ble_eq_true rfl) ?_
  intro p e s m args below meth c ls hx hb hml hown hts hr hlocks hl
  have hl : lv_has ls 3 [(0, .int x0), (1, .int x1), (2, .int x2)] := hl
  unfold kM_in at hok
  unfold fM_in at hF
  refine lv_iload_n hx hb d_M_in_0 rfl (lv_at hl 0 rfl) ?_
  refine lv_iload_n hx hb d_M_in_1 rfl (lv_at hl 1 rfl) ?_
  refine lv_icmp_lt (tgt := 14) hx hb d_M_in_2 (by decide) (fun c_1 => ?_) (fun c_1 => ?_)
  · have hok := hok.1 c_1
    have hF := (if_pos c_1).symm.trans hF
    refine lv_iconst (v := 0) hx hb d_M_in_14 (by decide) ?_
    exact rt_p hx hb hr hlocks rfl (by rw [hF]) d_M_in_15 (Nat.le_refl 0) (Nat.le_refl 0)
  · have hok := hok.2 c_1
    have hF := (if_neg c_1).symm.trans hF
    refine lv_iload_n hx hb d_M_in_5 rfl (lv_at hl 0 rfl) ?_
    refine lv_iload_n hx hb d_M_in_6 rfl (lv_at hl 2 rfl) ?_
    refine lv_icmp_gt (tgt := 14) hx hb d_M_in_7 (by decide) (fun c_2 => ?_) (fun c_2 => ?_)
    · have hok := hok.1 c_2
      have hF := (if_pos c_2).symm.trans hF
      refine lv_iconst (v := 0) hx hb d_M_in_14 (by decide) ?_
      exact rt_p hx hb hr hlocks rfl (by rw [hF]) d_M_in_15 (Nat.le_refl 0) (Nat.le_refl 0)
    · have hok := hok.2 c_2
      have hF := (if_neg c_2).symm.trans hF
      refine lv_iconst (v := 1) hx hb d_M_in_10 (by decide) ?_
      refine lv_goto (tgt := 15) hx hb d_M_in_11 (by decide) ?_
      exact rt_p hx hb hr hlocks rfl (by rw [hF]) d_M_in_15 (Nat.le_refl 0) (Nat.le_refl 0)
set_option maxHeartbeats 4000000 in
set_option maxRecDepth 100000 in
theorem cM_isGood (l : Launch) (x0 : Int32) {F : Int32} (hok : kM_isGood x0) (hF : fM_isGood x0 = F) : Met l y_M_isGood (Cond.code y_M_isGood b_M_isGood 1 (some .boolean) :: gw) ({ frames := 1, cells := 0, slots := 0, locals := 22 } : Room) (va_Pc [.int x0] (fun _ => True)) (qP (.int F)) 0 0 (fun _ => False) := by
  refine en_P (by decide) (Nat.le_of_ble_eq_true rfl) ?_
  intro p e s m args below meth c ls hx hb hml hown hts hr hlocks hl
  have hl : lv_has ls 1 [(0, .int x0)] := hl
  unfold kM_isGood at hok
  unfold fM_isGood at hF
  refine lv_iload_n hx hb d_M_isGood_0 rfl (lv_at hl 0 rfl) ?_
  refine lv_iconst (v := 0) hx hb d_M_isGood_1 (by decide) ?_
  refine lv_iconst (v := 5) hx hb d_M_isGood_2 (by decide) ?_
  obtain ⟨hi_1, hok⟩ := hok
  refine cs_p (n := 3) (As := [.int x0, .int 0, .int 5]) (rest := []) hx hb hml hown hts (cM_in l x0 0 5 hi_1 rfl) (gd_S wd_707 wd_708 wd_3 wd_709) (by decide +kernel) ⟨rfl, rfl, Nat.le_of_ble_eq_true rfl, Nat.le_of_ble_eq_true rfl, Nat.le_of_ble_eq_true rfl, Nat.le_of_ble_eq_true rfl⟩ rfl hl.1 rfl (Nat.le_of_ble_eq_true rfl) d_M_isGood_3 ?_
  exact rt_p hx hb hr hlocks hok (by rw [hF]) d_M_isGood_6 (Nat.le_refl 0) (Nat.le_refl 0)
set_option maxHeartbeats 4000000 in
set_option maxRecDepth 100000 in
theorem cM_isPerson (l : Launch) (x0 : Int32) {F : Int32} (hok : kM_isPerson x0) (hF : fM_isPerson x0 = F) : Met l y_M_isPerson (Cond.code y_M_isPerson b_M_isPerson 1 (some .boolean) :: gw) ({ frames := 1, cells := 0, slots := 0, locals := 22 } : Room) (va_Pc [.int x0] (fun _ => True)) (qP (.int F)) 0 0 (fun _ => False) := by
  refine en_P (by decide) (Nat.le_of_ble_eq_true rfl) ?_
  intro p e s m args below meth c ls hx hb hml hown hts hr hlocks hl
  have hl : lv_has ls 1 [(0, .int x0)] := hl
  unfold kM_isPerson at hok
  unfold fM_isPerson at hF
  refine lv_iload_n hx hb d_M_isPerson_0 rfl (lv_at hl 0 rfl) ?_
  refine lv_iconst (v := 0) hx hb d_M_isPerson_1 (by decide) ?_
  refine lv_iconst (v := 5) hx hb d_M_isPerson_2 (by decide) ?_
  obtain ⟨hi_1, hok⟩ := hok
  refine cs_p (n := 3) (As := [.int x0, .int 0, .int 5]) (rest := []) hx hb hml hown hts (cM_in l x0 0 5 hi_1 rfl) (gd_S wd_707 wd_708 wd_3 wd_709) (by decide +kernel) ⟨rfl, rfl, Nat.le_of_ble_eq_true rfl, Nat.le_of_ble_eq_true rfl, Nat.le_of_ble_eq_true rfl, Nat.le_of_ble_eq_true rfl⟩ rfl hl.1 rfl (Nat.le_of_ble_eq_true rfl) d_M_isPerson_3 ?_
  exact rt_p hx hb hr hlocks hok (by rw [hF]) d_M_isPerson_6 (Nat.le_refl 0) (Nat.le_refl 0)
set_option maxHeartbeats 4000000 in
set_option maxRecDepth 100000 in
theorem cM_far (l : Launch) (x0 : Int32) (x1 : Int32) {F : Int32} (hok : kM_far x0 x1) (hF : fM_far x0 x1 = F) : Met l y_M_far (Cond.code y_M_far b_M_far 2 (some .int) :: gw) ({ frames := 0, cells := 0, slots := 0, locals := 0 } : Room) (va_Pc [.int x0, .int x1] (fun _ => True)) (qP (.int F)) 0 0 (fun _ => False) := by
  refine en_P (by decide) (Nat.le_of_ble_eq_true rfl) ?_
  intro p e s m args below meth c ls hx hb hml hown hts hr hlocks hl
  have hl : lv_has ls 2 [(0, .int x0), (1, .int x1)] := hl
  unfold kM_far at hok
  unfold fM_far at hF
  refine lv_iload_n hx hb d_M_far_0 rfl (lv_at hl 0 rfl) ?_
  refine lv_iload_n hx hb d_M_far_1 rfl (lv_at hl 1 rfl) ?_
  refine lv_icmp_le (tgt := 11) hx hb d_M_far_2 (by decide) (fun c_1 => ?_) (fun c_1 => ?_)
  · have hok := hok.1 c_1
    have hF := (if_pos c_1).symm.trans hF
    refine lv_iload_n hx hb d_M_far_11 rfl (lv_at hl 1 rfl) ?_
    refine lv_iload_n hx hb d_M_far_12 rfl (lv_at hl 0 rfl) ?_
    refine lv_isub hx hb d_M_far_13 ?_
    exact rt_p hx hb hr hlocks rfl (by rw [hF]) d_M_far_14 (Nat.le_refl 0) (Nat.le_refl 0)
  · have hok := hok.2 c_1
    have hF := (if_neg c_1).symm.trans hF
    refine lv_iload_n hx hb d_M_far_5 rfl (lv_at hl 0 rfl) ?_
    refine lv_iload_n hx hb d_M_far_6 rfl (lv_at hl 1 rfl) ?_
    refine lv_isub hx hb d_M_far_7 ?_
    refine lv_goto (tgt := 14) hx hb d_M_far_8 (by decide) ?_
    exact rt_p hx hb hr hlocks rfl (by rw [hF]) d_M_far_14 (Nat.le_refl 0) (Nat.le_refl 0)
set_option maxHeartbeats 4000000 in
set_option maxRecDepth 100000 in
theorem cM_divisor (l : Launch) (x0 : Int32) (x1 : Int32) {F : Int32} (hok : kM_divisor x0 x1) (hF : fM_divisor x0 x1 = F) : Met l y_M_divisor (Cond.code y_M_divisor b_M_divisor 5 (some .int) :: gw) ({ frames := 0, cells := 0, slots := 0, locals := 0 } : Room) (va_Pc [.int x0, .int x1] (fun _ => True)) (qP (.int F)) 0 0 (fun _ => False) := by
  refine en_P (by decide) (Nat.le_of_ble_eq_true rfl) ?_
  intro p e s m args below meth c ls hx hb hml hown hts hr hlocks hl
  have hl : lv_has ls 5 [(0, .int x0), (1, .int x1)] := hl
  unfold kM_divisor at hok
  unfold fM_divisor at hF
  refine lv_iload_n hx hb d_M_divisor_0 rfl (lv_at hl 0 rfl) ?_
  refine lv_istore_n (lv' := [(2, .int x0), (0, .int x0), (1, .int x1)]) hx hb d_M_divisor_1 rfl hl (by decide) rfl (fun ls hl => ?_)
  refine lv_iload_n hx hb d_M_divisor_2 rfl (lv_at hl 2 rfl) ?_
  refine lv_istore_n (lv' := [(3, .int x1), (2, .int x0), (0, .int x0), (1, .int x1)]) hx hb d_M_divisor_3 rfl hl (by decide) rfl (fun ls hl => ?_)
  have hx_4 : ∀ (x0 : Int32) (x1 : Int32) (x2 : Int32) (x3 : Int32) (ls : Array Slot), lv_has ls 5 [(0, .int x0), (1, .int x1), (2, .int x2), (3, .int x3)] → kM_divisor_4x x0 x1 x2 x3 → fM_divisor_4x x0 x1 x2 x3 = F → W p l e ({ frames := 0, cells := 0, slots := 0, locals := 0 } : Room) s m args below meth c s.heap [] 0 0 (MQ below (qP (.int F)) args s 0 0 (fun _ => False)) (F0 m 21 ls []) := by
    intro x0 x1 x2 x3 ls hl hok hF
    unfold kM_divisor_4x at hok
    unfold fM_divisor_4x at hF
    refine lv_iload_n hx hb d_M_divisor_21 rfl (lv_at hl 2 rfl) ?_
    exact rt_p hx hb hr hlocks rfl (by rw [hF]) d_M_divisor_22 (Nat.le_refl 0) (Nat.le_refl 0)
  have lp_4 : ∀ (n4 : Nat) (x0 : Int32) (x1 : Int32) (x2 : Int32) (x3 : Int32) (ls : Array Slot), lv_has ls 5 [(0, .int x0), (1, .int x1), (2, .int x2), (3, .int x3)] → kM_divisor_4 kM_divisor_4x n4 x0 x1 x2 x3 → fM_divisor_4 fM_divisor_4x n4 x0 x1 x2 x3 = F → W p l e ({ frames := 0, cells := 0, slots := 0, locals := 0 } : Room) s m args below meth c s.heap [] 0 0 (MQ below (qP (.int F)) args s 0 0 (fun _ => False)) (F0 m 4 ls []) := by
    intro n4
    induction n4 with
    | zero =>
      intro x0 x1 x2 x3 ls hl hok hF
      unfold kM_divisor_4 at hok
      exact hok.elim
    | succ n4 ih_4 =>
      intro x0 x1 x2 x3 ls hl hok hF
      unfold kM_divisor_4 at hok
      unfold fM_divisor_4 at hF
      refine lv_iload_n hx hb d_M_divisor_4 rfl (lv_at hl 3 rfl) ?_
      refine lv_if_le (tgt := 21) hx hb d_M_divisor_5 (by decide) (fun c_1 => ?_) (fun c_1 => ?_)
      · have hok := hok.1 c_1
        have hF := (if_pos c_1).symm.trans hF
        exact hx_4 x0 x1 x2 x3 ls (lv_sub hl [0, 1, 2, 3] rfl) hok hF
      · have hok := hok.2 c_1
        have hF := (if_neg c_1).symm.trans hF
        refine lv_iload_n hx hb d_M_divisor_8 rfl (lv_at hl 2 rfl) ?_
        refine lv_iload_n hx hb d_M_divisor_9 rfl (lv_at hl 3 rfl) ?_
        obtain ⟨hi_2, hok⟩ := hok
        refine lv_irem hx hb d_M_divisor_10 hi_2 ?_
        refine lv_istore (lv' := [(4, .int (x2 - x2 / x3 * x3)), (0, .int x0), (1, .int x1), (2, .int x2), (3, .int x3)]) hx hb d_M_divisor_11 hl (by decide) rfl (fun ls hl => ?_)
        refine lv_iload_n hx hb d_M_divisor_13 rfl (lv_at hl 4 rfl) ?_
        refine lv_istore_n (lv' := [(2, .int x3), (4, .int (x2 - x2 / x3 * x3)), (0, .int x0), (1, .int x1), (3, .int x3)]) hx hb d_M_divisor_14 rfl hl (by decide) rfl (fun ls hl => ?_)
        refine lv_iload hx hb d_M_divisor_15 (lv_at hl 1 rfl) ?_
        refine lv_istore_n (lv' := [(3, .int (x2 - x2 / x3 * x3)), (2, .int x3), (4, .int (x2 - x2 / x3 * x3)), (0, .int x0), (1, .int x1)]) hx hb d_M_divisor_17 rfl hl (by decide) rfl (fun ls hl => ?_)
        refine lv_goto (tgt := 4) hx hb d_M_divisor_18 (by decide) ?_
        exact ih_4 x0 x1 x3 (x2 - x2 / x3 * x3) ls (lv_sub hl [3, 4, 1, 0] rfl) hok hF
  exact lp_4 200 x0 x1 x0 x1 ls (lv_sub hl [2, 3, 1, 0] rfl) hok hF
set_option maxHeartbeats 4000000 in
set_option maxRecDepth 100000 in
theorem cM_thrown (l : Launch) (D : va_G) (tc : Nat → ClassId) (a : Nat → Nat) (Y : va_W) (sz : Nat) (μ : Nat → Nat → Int32) {F : Int32} (hok : kM_thrown  μ) (hF : fM_thrown  μ = F) : Met l y_M_thrown (Cond.code y_M_thrown b_M_thrown 1 (some .int) :: gw) ({ frames := 0, cells := 0, slots := 0, locals := 0 } : Room) (va_Pc [.ref (a 0)] (pW D tc (mo tc a μ ++ Y) sz)) (qP (.int F)) 0 0 (fun _ => False) := by
  refine en_W (by decide) (Nat.le_of_ble_eq_true rfl) ?_
  intro p e s m args below meth c ls h0 hr hlocks hin hsz hw hl
  obtain ⟨hx, hb, hml, hown, hts, hK⟩ := id h0
  have hl : lv_has ls 1 [(0, .ref (a 0))] := hl
  unfold kM_thrown at hok
  unfold fM_thrown at hF
  refine lv_aload_n hx hb d_M_thrown_0 rfl (lv_at hl 0 rfl) ?_
  refine mg_0 h0 hw d_M_thrown_1 ?_
  exact rt_p hx hb hr hlocks rfl (by rw [hF]) d_M_thrown_4 (Nat.le_refl 0) (Nat.le_refl 0)
set_option maxHeartbeats 4000000 in
set_option maxRecDepth 100000 in
theorem cM_isPlace (l : Launch) (D : va_G) (tc : Nat → ClassId) (a : Nat → Nat) (Y : va_W) (sz : Nat) (x1 : Int32) (μ : Nat → Nat → Int32) {F : Int32} (hok : kM_isPlace x1 μ) (hF : fM_isPlace x1 μ = F) : Met l y_M_isPlace (Cond.code y_M_isPlace b_M_isPlace 2 (some .boolean) :: gw) ({ frames := 1, cells := 0, slots := 0, locals := 22 } : Room) (va_Pc [.ref (a 0), .int x1] (pW D tc (mo tc a μ ++ Y) sz)) (qP (.int F)) 0 0 (fun _ => False) := by
  refine en_W (by decide) (Nat.le_of_ble_eq_true rfl) ?_
  intro p e s m args below meth c ls h0 hr hlocks hin hsz hw hl
  obtain ⟨hx, hb, hml, hown, hts, hK⟩ := id h0
  have hl : lv_has ls 2 [(0, .ref (a 0)), (1, .int x1)] := hl
  unfold kM_isPlace at hok
  unfold fM_isPlace at hF
  refine lv_iload_n hx hb d_M_isPlace_0 rfl (lv_at hl 1 rfl) ?_
  refine lv_iconst (v := 0) hx hb d_M_isPlace_1 (by decide) ?_
  refine lv_aload_n hx hb d_M_isPlace_2 rfl (lv_at hl 0 rfl) ?_
  refine mg_3 h0 hw d_M_isPlace_3 ?_
  refine lv_iconst (v := 1) hx hb d_M_isPlace_6 (by decide) ?_
  refine lv_isub hx hb d_M_isPlace_7 ?_
  obtain ⟨hi_1, hok⟩ := hok
  refine cs_p (n := 3) (As := [.int x1, .int 0, .int ((μ 3 0) - 1)]) (rest := []) hx hb hml hown hts (cM_in l x1 0 ((μ 3 0) - 1) hi_1 rfl) (gd_S wd_707 wd_708 wd_3 wd_709) (by decide +kernel) ⟨rfl, rfl, Nat.le_of_ble_eq_true rfl, Nat.le_of_ble_eq_true rfl, Nat.le_of_ble_eq_true rfl, Nat.le_of_ble_eq_true rfl⟩ rfl hl.1 rfl (Nat.le_of_ble_eq_true rfl) d_M_isPlace_8 ?_
  exact rt_p hx hb hr hlocks hok (by rw [hF]) d_M_isPlace_11 (Nat.le_refl 0) (Nat.le_refl 0)
set_option maxHeartbeats 4000000 in
set_option maxRecDepth 100000 in
theorem cM_isCount (l : Launch) (D : va_G) (tc : Nat → ClassId) (a : Nat → Nat) (Y : va_W) (sz : Nat) (x1 : Int32) (μ : Nat → Nat → Int32) {F : Int32} (hok : kM_isCount x1 μ) (hF : fM_isCount x1 μ = F) : Met l y_M_isCount (Cond.code y_M_isCount b_M_isCount 2 (some .boolean) :: gw) ({ frames := 1, cells := 0, slots := 0, locals := 22 } : Room) (va_Pc [.ref (a 0), .int x1] (pW D tc (mo tc a μ ++ Y) sz)) (qP (.int F)) 0 0 (fun _ => False) := by
  refine en_W (by decide) (Nat.le_of_ble_eq_true rfl) ?_
  intro p e s m args below meth c ls h0 hr hlocks hin hsz hw hl
  obtain ⟨hx, hb, hml, hown, hts, hK⟩ := id h0
  have hl : lv_has ls 2 [(0, .ref (a 0)), (1, .int x1)] := hl
  unfold kM_isCount at hok
  unfold fM_isCount at hF
  refine lv_iload_n hx hb d_M_isCount_0 rfl (lv_at hl 1 rfl) ?_
  refine lv_iconst (v := 1) hx hb d_M_isCount_1 (by decide) ?_
  refine lv_aload_n hx hb d_M_isCount_2 rfl (lv_at hl 0 rfl) ?_
  refine mg_16 h0 hw d_M_isCount_3 ?_
  obtain ⟨hi_1, hok⟩ := hok
  refine cs_p (n := 3) (As := [.int x1, .int 1, .int (μ 16 0)]) (rest := []) hx hb hml hown hts (cM_in l x1 1 (μ 16 0) hi_1 rfl) (gd_S wd_707 wd_708 wd_3 wd_709) (by decide +kernel) ⟨rfl, rfl, Nat.le_of_ble_eq_true rfl, Nat.le_of_ble_eq_true rfl, Nat.le_of_ble_eq_true rfl, Nat.le_of_ble_eq_true rfl⟩ rfl hl.1 rfl (Nat.le_of_ble_eq_true rfl) d_M_isCount_6 ?_
  exact rt_p hx hb hr hlocks hok (by rw [hF]) d_M_isCount_9 (Nat.le_refl 0) (Nat.le_refl 0)
set_option maxHeartbeats 4000000 in
set_option maxRecDepth 100000 in
theorem cM_firstBy (l : Launch) (D : va_G) (tc : Nat → ClassId) (a : Nat → Nat) (Y : va_W) (sz : Nat) (x1 : Int32) (μ : Nat → Nat → Int32) {F : Int32} (hok : kM_firstBy x1 μ) (hF : fM_firstBy x1 μ = F) : Met l y_M_firstBy (Cond.code y_M_firstBy b_M_firstBy 2 (some .int) :: gw) ({ frames := 0, cells := 0, slots := 0, locals := 0 } : Room) (va_Pc [.ref (a 0), .int x1] (pW D tc (mo tc a μ ++ Y) sz)) (qP (.int F)) 0 0 (fun _ => False) := by
  refine en_W (by decide) (Nat.le_of_ble_eq_true rfl) ?_
  intro p e s m args below meth c ls h0 hr hlocks hin hsz hw hl
  obtain ⟨hx, hb, hml, hown, hts, hK⟩ := id h0
  have hl : lv_has ls 2 [(0, .ref (a 0)), (1, .int x1)] := hl
  unfold kM_firstBy at hok
  unfold fM_firstBy at hF
  refine lv_aload_n hx hb d_M_firstBy_0 rfl (lv_at hl 0 rfl) ?_
  refine mg_24 h0 hw d_M_firstBy_1 ?_
  refine lv_iload_n hx hb d_M_firstBy_4 rfl (lv_at hl 1 rfl) ?_
  obtain ⟨hi_1, hok⟩ := hok
  refine ml_24 h0 hw hi_1 d_M_firstBy_5 ?_
  refine lv_bipush (v := 10) hx hb d_M_firstBy_6 (by decide) ?_
  refine lv_irem hx hb d_M_firstBy_8 (by decide) ?_
  refine lv_iconst (v := 1) hx hb d_M_firstBy_9 (by decide) ?_
  refine lv_isub hx hb d_M_firstBy_10 ?_
  exact rt_p hx hb hr hlocks rfl (by rw [hF]) d_M_firstBy_11 (Nat.le_refl 0) (Nat.le_refl 0)
set_option maxHeartbeats 4000000 in
set_option maxRecDepth 100000 in
theorem cM_secondBy (l : Launch) (D : va_G) (tc : Nat → ClassId) (a : Nat → Nat) (Y : va_W) (sz : Nat) (x1 : Int32) (μ : Nat → Nat → Int32) {F : Int32} (hok : kM_secondBy x1 μ) (hF : fM_secondBy x1 μ = F) : Met l y_M_secondBy (Cond.code y_M_secondBy b_M_secondBy 2 (some .int) :: gw) ({ frames := 0, cells := 0, slots := 0, locals := 0 } : Room) (va_Pc [.ref (a 0), .int x1] (pW D tc (mo tc a μ ++ Y) sz)) (qP (.int F)) 0 0 (fun _ => False) := by
  refine en_W (by decide) (Nat.le_of_ble_eq_true rfl) ?_
  intro p e s m args below meth c ls h0 hr hlocks hin hsz hw hl
  obtain ⟨hx, hb, hml, hown, hts, hK⟩ := id h0
  have hl : lv_has ls 2 [(0, .ref (a 0)), (1, .int x1)] := hl
  unfold kM_secondBy at hok
  unfold fM_secondBy at hF
  refine lv_aload_n hx hb d_M_secondBy_0 rfl (lv_at hl 0 rfl) ?_
  refine mg_24 h0 hw d_M_secondBy_1 ?_
  refine lv_iload_n hx hb d_M_secondBy_4 rfl (lv_at hl 1 rfl) ?_
  obtain ⟨hi_1, hok⟩ := hok
  refine ml_24 h0 hw hi_1 d_M_secondBy_5 ?_
  refine lv_bipush (v := 10) hx hb d_M_secondBy_6 (by decide) ?_
  refine lv_idiv hx hb d_M_secondBy_8 (by decide) ?_
  refine lv_iconst (v := 1) hx hb d_M_secondBy_9 (by decide) ?_
  refine lv_isub hx hb d_M_secondBy_10 ?_
  exact rt_p hx hb hr hlocks rfl (by rw [hF]) d_M_secondBy_11 (Nat.le_refl 0) (Nat.le_refl 0)
set_option maxHeartbeats 4000000 in
set_option maxRecDepth 100000 in
theorem cM_openAt (l : Launch) (D : va_G) (tc : Nat → ClassId) (a : Nat → Nat) (Y : va_W) (sz : Nat) (x1 : Int32) (μ : Nat → Nat → Int32) {F : Int32} (hok : kM_openAt x1 μ) (hF : fM_openAt x1 μ = F) : Met l y_M_openAt (Cond.code y_M_openAt b_M_openAt 4 (some .int) :: gw) ({ frames := 0, cells := 0, slots := 0, locals := 0 } : Room) (va_Pc [.ref (a 0), .int x1] (pW D tc (mo tc a μ ++ Y) sz)) (qP (.int F)) 0 0 (fun _ => False) := by
  refine en_W (by decide) (Nat.le_of_ble_eq_true rfl) ?_
  intro p e s m args below meth c ls h0 hr hlocks hin hsz hw hl
  obtain ⟨hx, hb, hml, hown, hts, hK⟩ := id h0
  have hl : lv_has ls 4 [(0, .ref (a 0)), (1, .int x1)] := hl
  unfold kM_openAt at hok
  unfold fM_openAt at hF
  refine lv_iconst (v := 0) hx hb d_M_openAt_0 (by decide) ?_
  refine lv_istore_n (lv' := [(2, .int 0), (0, .ref (a 0)), (1, .int x1)]) hx hb d_M_openAt_1 rfl hl (by decide) rfl (fun ls hl => ?_)
  refine lv_iconst (v := 1) hx hb d_M_openAt_2 (by decide) ?_
  refine lv_istore_n (lv' := [(3, .int 1), (2, .int 0), (0, .ref (a 0)), (1, .int x1)]) hx hb d_M_openAt_3 rfl hl (by decide) rfl (fun ls hl => ?_)
  have hx_4 : ∀ (x1 : Int32) (x2 : Int32) (x3 : Int32) (ls : Array Slot), lv_has ls 4 [(0, .ref (a 0)), (1, .int x1), (2, .int x2), (3, .int x3)] → kM_openAt_4x x1 x2 x3 μ → fM_openAt_4x x1 x2 x3 μ = F → W p l e ({ frames := 0, cells := 0, slots := 0, locals := 0 } : Room) s m args below meth c s.heap [] 0 0 (MQ below (qP (.int F)) args s 0 0 (fun _ => False)) (F0 m 55 ls []) := by
    intro x1 x2 x3 ls hl hok hF
    unfold kM_openAt_4x at hok
    unfold fM_openAt_4x at hF
    refine lv_iload_n hx hb d_M_openAt_55 rfl (lv_at hl 2 rfl) ?_
    exact rt_p hx hb hr hlocks rfl (by rw [hF]) d_M_openAt_56 (Nat.le_refl 0) (Nat.le_refl 0)
  have lp_4 : ∀ (n4 : Nat) (x1 : Int32) (x2 : Int32) (x3 : Int32) (ls : Array Slot), lv_has ls 4 [(0, .ref (a 0)), (1, .int x1), (2, .int x2), (3, .int x3)] → kM_openAt_4 kM_openAt_4x n4 x1 x2 x3 μ → fM_openAt_4 fM_openAt_4x n4 x1 x2 x3 μ = F → W p l e ({ frames := 0, cells := 0, slots := 0, locals := 0 } : Room) s m args below meth c s.heap [] 0 0 (MQ below (qP (.int F)) args s 0 0 (fun _ => False)) (F0 m 4 ls []) := by
    intro n4
    induction n4 with
    | zero =>
      intro x1 x2 x3 ls hl hok hF
      unfold kM_openAt_4 at hok
      exact hok.elim
    | succ n4 ih_4 =>
      intro x1 x2 x3 ls hl hok hF
      unfold kM_openAt_4 at hok
      unfold fM_openAt_4 at hF
      refine lv_iload_n hx hb d_M_openAt_4 rfl (lv_at hl 3 rfl) ?_
      refine lv_aload_n hx hb d_M_openAt_5 rfl (lv_at hl 0 rfl) ?_
      refine mg_10 h0 hw d_M_openAt_6 ?_
      refine lv_icmp_gt (tgt := 55) hx hb d_M_openAt_9 (by decide) (fun c_1 => ?_) (fun c_1 => ?_)
      · have hok := hok.1 c_1
        have hF := (if_pos c_1).symm.trans hF
        exact hx_4 x1 x2 x3 ls (lv_sub hl [0, 1, 2, 3] rfl) hok hF
      · have hok := hok.2 c_1
        have hF := (if_neg c_1).symm.trans hF
        refine lv_iload_n hx hb d_M_openAt_12 rfl (lv_at hl 2 rfl) ?_
        refine lv_aload_n hx hb d_M_openAt_13 rfl (lv_at hl 0 rfl) ?_
        refine mg_15 h0 hw d_M_openAt_14 ?_
        refine lv_iload_n hx hb d_M_openAt_17 rfl (lv_at hl 3 rfl) ?_
        obtain ⟨hi_2, hok⟩ := hok
        refine ml_15 h0 hw hi_2 d_M_openAt_18 ?_
        refine lv_if_ne (tgt := 46) hx hb d_M_openAt_19 (by decide) (fun c_3 => ?_) (fun c_3 => ?_)
        · have hok := hok.2 c_3
          have hF := (if_neg c_3).symm.trans hF
          refine lv_iconst (v := 0) hx hb d_M_openAt_46 (by decide) ?_
          refine lv_iadd hx hb d_M_openAt_47 ?_
          refine lv_istore_n (lv' := [(2, .int (x2 + 0)), (0, .ref (a 0)), (1, .int x1), (3, .int x3)]) hx hb d_M_openAt_48 rfl hl (by decide) rfl (fun ls hl => ?_)
          refine lv_iinc (v := x3 + 1) (lv' := [(3, .int (x3 + 1)), (2, .int (x2 + 0)), (0, .ref (a 0)), (1, .int x1)]) hx hb d_M_openAt_49 hl (k := 3) rfl rfl (by decide) rfl (fun ls hl => ?_)
          refine lv_goto (tgt := 4) hx hb d_M_openAt_52 (by decide) ?_
          exact ih_4 x1 (x2 + 0) (x3 + 1) ls (lv_sub hl [2, 3, 1, 0] rfl) hok hF
        · have hok := hok.1 c_3
          have hF := (if_pos c_3).symm.trans hF
          refine lv_aload_n hx hb d_M_openAt_22 rfl (lv_at hl 0 rfl) ?_
          refine mg_11 h0 hw d_M_openAt_23 ?_
          refine lv_iload_n hx hb d_M_openAt_26 rfl (lv_at hl 3 rfl) ?_
          obtain ⟨hi_4, hok⟩ := hok
          refine ml_11 h0 hw hi_4 d_M_openAt_27 ?_
          refine lv_iload_n hx hb d_M_openAt_28 rfl (lv_at hl 1 rfl) ?_
          refine lv_icmp_eq (tgt := 42) hx hb d_M_openAt_29 (by decide) (fun c_5 => ?_) (fun c_5 => ?_)
          · have hok := hok.1 c_5
            have hF := (if_pos c_5).symm.trans hF
            refine lv_iconst (v := 1) hx hb d_M_openAt_42 (by decide) ?_
            refine lv_goto (tgt := 47) hx hb d_M_openAt_43 (by decide) ?_
            refine lv_iadd hx hb d_M_openAt_47 ?_
            refine lv_istore_n (lv' := [(2, .int (x2 + 1)), (0, .ref (a 0)), (1, .int x1), (3, .int x3)]) hx hb d_M_openAt_48 rfl hl (by decide) rfl (fun ls hl => ?_)
            refine lv_iinc (v := x3 + 1) (lv' := [(3, .int (x3 + 1)), (2, .int (x2 + 1)), (0, .ref (a 0)), (1, .int x1)]) hx hb d_M_openAt_49 hl (k := 3) rfl rfl (by decide) rfl (fun ls hl => ?_)
            refine lv_goto (tgt := 4) hx hb d_M_openAt_52 (by decide) ?_
            exact ih_4 x1 (x2 + 1) (x3 + 1) ls (lv_sub hl [2, 3, 1, 0] rfl) hok hF
          · have hok := hok.2 c_5
            have hF := (if_neg c_5).symm.trans hF
            refine lv_aload_n hx hb d_M_openAt_32 rfl (lv_at hl 0 rfl) ?_
            refine mg_12 h0 hw d_M_openAt_33 ?_
            refine lv_iload_n hx hb d_M_openAt_36 rfl (lv_at hl 3 rfl) ?_
            obtain ⟨hi_6, hok⟩ := hok
            refine ml_12 h0 hw hi_6 d_M_openAt_37 ?_
            refine lv_iload_n hx hb d_M_openAt_38 rfl (lv_at hl 1 rfl) ?_
            refine lv_icmp_ne (tgt := 46) hx hb d_M_openAt_39 (by decide) (fun c_7 => ?_) (fun c_7 => ?_)
            · have hok := hok.2 c_7
              have hF := (if_neg c_7).symm.trans hF
              refine lv_iconst (v := 0) hx hb d_M_openAt_46 (by decide) ?_
              refine lv_iadd hx hb d_M_openAt_47 ?_
              refine lv_istore_n (lv' := [(2, .int (x2 + 0)), (0, .ref (a 0)), (1, .int x1), (3, .int x3)]) hx hb d_M_openAt_48 rfl hl (by decide) rfl (fun ls hl => ?_)
              refine lv_iinc (v := x3 + 1) (lv' := [(3, .int (x3 + 1)), (2, .int (x2 + 0)), (0, .ref (a 0)), (1, .int x1)]) hx hb d_M_openAt_49 hl (k := 3) rfl rfl (by decide) rfl (fun ls hl => ?_)
              refine lv_goto (tgt := 4) hx hb d_M_openAt_52 (by decide) ?_
              exact ih_4 x1 (x2 + 0) (x3 + 1) ls (lv_sub hl [2, 3, 1, 0] rfl) hok hF
            · have hok := hok.1 c_7
              have hF := (if_pos c_7).symm.trans hF
              refine lv_iconst (v := 1) hx hb d_M_openAt_42 (by decide) ?_
              refine lv_goto (tgt := 47) hx hb d_M_openAt_43 (by decide) ?_
              refine lv_iadd hx hb d_M_openAt_47 ?_
              refine lv_istore_n (lv' := [(2, .int (x2 + 1)), (0, .ref (a 0)), (1, .int x1), (3, .int x3)]) hx hb d_M_openAt_48 rfl hl (by decide) rfl (fun ls hl => ?_)
              refine lv_iinc (v := x3 + 1) (lv' := [(3, .int (x3 + 1)), (2, .int (x2 + 1)), (0, .ref (a 0)), (1, .int x1)]) hx hb d_M_openAt_49 hl (k := 3) rfl rfl (by decide) rfl (fun ls hl => ?_)
              refine lv_goto (tgt := 4) hx hb d_M_openAt_52 (by decide) ?_
              exact ih_4 x1 (x2 + 1) (x3 + 1) ls (lv_sub hl [2, 3, 1, 0] rfl) hok hF
  exact lp_4 200 x1 0 1 ls (lv_sub hl [2, 3, 1, 0] rfl) hok hF
set_option maxHeartbeats 4000000 in
set_option maxRecDepth 100000 in
theorem cM_isBusy (l : Launch) (D : va_G) (tc : Nat → ClassId) (a : Nat → Nat) (Y : va_W) (sz : Nat) (x1 : Int32) (μ : Nat → Nat → Int32) {F : Int32} (hok : kM_isBusy x1 μ) (hF : fM_isBusy x1 μ = F) : Met l y_M_isBusy (Cond.code y_M_isBusy b_M_isBusy 4 (some .boolean) :: gw) ({ frames := 0, cells := 0, slots := 0, locals := 0 } : Room) (va_Pc [.ref (a 0), .int x1] (pW D tc (mo tc a μ ++ Y) sz)) (qP (.int F)) 0 0 (fun _ => False) := by
  refine en_W (by decide) (Nat.le_of_ble_eq_true rfl) ?_
  intro p e s m args below meth c ls h0 hr hlocks hin hsz hw hl
  obtain ⟨hx, hb, hml, hown, hts, hK⟩ := id h0
  have hl : lv_has ls 4 [(0, .ref (a 0)), (1, .int x1)] := hl
  unfold kM_isBusy at hok
  unfold fM_isBusy at hF
  refine lv_iconst (v := 1) hx hb d_M_isBusy_0 (by decide) ?_
  refine lv_istore_n (lv' := [(2, .int 1), (0, .ref (a 0)), (1, .int x1)]) hx hb d_M_isBusy_1 rfl hl (by decide) rfl (fun ls hl => ?_)
  have hx_2 : ∀ (x1 : Int32) (x2 : Int32) (ls : Array Slot), lv_has ls 4 [(0, .ref (a 0)), (1, .int x1), (2, .int x2)] → kM_isBusy_2x x1 x2 μ → fM_isBusy_2x x1 x2 μ = F → W p l e ({ frames := 0, cells := 0, slots := 0, locals := 0 } : Room) s m args below meth c s.heap [] 0 0 (MQ below (qP (.int F)) args s 0 0 (fun _ => False)) (F0 m 61 ls []) := by
    intro x1 x2 ls hl hok hF
    unfold kM_isBusy_2x at hok
    unfold fM_isBusy_2x at hF
    refine lv_iconst (v := 0) hx hb d_M_isBusy_61 (by decide) ?_
    exact rt_p hx hb hr hlocks rfl (by rw [hF]) d_M_isBusy_62 (Nat.le_refl 0) (Nat.le_refl 0)
  have lp_2 : ∀ (n2 : Nat) (x1 : Int32) (x2 : Int32) (ls : Array Slot), lv_has ls 4 [(0, .ref (a 0)), (1, .int x1), (2, .int x2)] → kM_isBusy_2 kM_isBusy_2x n2 x1 x2 μ → fM_isBusy_2 fM_isBusy_2x n2 x1 x2 μ = F → W p l e ({ frames := 0, cells := 0, slots := 0, locals := 0 } : Room) s m args below meth c s.heap [] 0 0 (MQ below (qP (.int F)) args s 0 0 (fun _ => False)) (F0 m 2 ls []) := by
    intro n2
    induction n2 with
    | zero =>
      intro x1 x2 ls hl hok hF
      unfold kM_isBusy_2 at hok
      exact hok.elim
    | succ n2 ih_2 =>
      intro x1 x2 ls hl hok hF
      unfold kM_isBusy_2 at hok
      unfold fM_isBusy_2 at hF
      refine lv_iload_n hx hb d_M_isBusy_2 rfl (lv_at hl 2 rfl) ?_
      refine lv_aload_n hx hb d_M_isBusy_3 rfl (lv_at hl 0 rfl) ?_
      refine mg_16 h0 hw d_M_isBusy_4 ?_
      refine lv_icmp_gt (tgt := 61) hx hb d_M_isBusy_7 (by decide) (fun c_1 => ?_) (fun c_1 => ?_)
      · have hok := hok.1 c_1
        have hF := (if_pos c_1).symm.trans hF
        exact hx_2 x1 x2 ls (lv_sub hl [0, 1, 2] rfl) hok hF
      · have hok := hok.2 c_1
        have hF := (if_neg c_1).symm.trans hF
        refine lv_iconst (v := 0) hx hb d_M_isBusy_10 (by decide) ?_
        refine lv_istore_n (lv' := [(3, .int 0), (0, .ref (a 0)), (1, .int x1), (2, .int x2)]) hx hb d_M_isBusy_11 rfl hl (by decide) rfl (fun ls hl => ?_)
        have hx_12 : ∀ (x1 : Int32) (x2 : Int32) (x3 : Int32) (ls : Array Slot), lv_has ls 4 [(0, .ref (a 0)), (1, .int x1), (2, .int x2), (3, .int x3)] → (kM_isBusy_12x (kM_isBusy_2 kM_isBusy_2x n2) kM_isBusy_2x) x1 x2 x3 μ → (fM_isBusy_12x (fM_isBusy_2 fM_isBusy_2x n2) fM_isBusy_2x) x1 x2 x3 μ = F → W p l e ({ frames := 0, cells := 0, slots := 0, locals := 0 } : Room) s m args below meth c s.heap [] 0 0 (MQ below (qP (.int F)) args s 0 0 (fun _ => False)) (F0 m 55 ls []) := by
          intro x1 x2 x3 ls hl hok hF
          unfold kM_isBusy_12x at hok
          unfold fM_isBusy_12x at hF
          refine lv_iinc (v := x2 + 1) (lv' := [(2, .int (x2 + 1)), (0, .ref (a 0)), (1, .int x1), (3, .int x3)]) hx hb d_M_isBusy_55 hl (k := 2) rfl rfl (by decide) rfl (fun ls hl => ?_)
          refine lv_goto (tgt := 2) hx hb d_M_isBusy_58 (by decide) ?_
          exact ih_2 x1 (x2 + 1) ls (lv_sub hl [1, 2, 0] rfl) hok hF
        have lp_12 : ∀ (n12 : Nat) (x1 : Int32) (x2 : Int32) (x3 : Int32) (ls : Array Slot), lv_has ls 4 [(0, .ref (a 0)), (1, .int x1), (2, .int x2), (3, .int x3)] → kM_isBusy_12 (kM_isBusy_2 kM_isBusy_2x n2) kM_isBusy_2x (kM_isBusy_12x (kM_isBusy_2 kM_isBusy_2x n2) kM_isBusy_2x) n12 x1 x2 x3 μ → fM_isBusy_12 (fM_isBusy_2 fM_isBusy_2x n2) fM_isBusy_2x (fM_isBusy_12x (fM_isBusy_2 fM_isBusy_2x n2) fM_isBusy_2x) n12 x1 x2 x3 μ = F → W p l e ({ frames := 0, cells := 0, slots := 0, locals := 0 } : Room) s m args below meth c s.heap [] 0 0 (MQ below (qP (.int F)) args s 0 0 (fun _ => False)) (F0 m 12 ls []) := by
          intro n12
          induction n12 with
          | zero =>
            intro x1 x2 x3 ls hl hok hF
            unfold kM_isBusy_12 at hok
            exact hok.elim
          | succ n12 ih_12 =>
            intro x1 x2 x3 ls hl hok hF
            unfold kM_isBusy_12 at hok
            unfold fM_isBusy_12 at hF
            refine lv_iload_n hx hb d_M_isBusy_12 rfl (lv_at hl 3 rfl) ?_
            refine lv_aload_n hx hb d_M_isBusy_13 rfl (lv_at hl 0 rfl) ?_
            refine mg_18 h0 hw d_M_isBusy_14 ?_
            refine lv_iload_n hx hb d_M_isBusy_17 rfl (lv_at hl 2 rfl) ?_
            obtain ⟨hi_2, hok⟩ := hok
            refine ml_18 h0 hw hi_2 d_M_isBusy_18 ?_
            refine lv_icmp_ge (tgt := 55) hx hb d_M_isBusy_19 (by decide) (fun c_3 => ?_) (fun c_3 => ?_)
            · have hok := hok.1 c_3
              have hF := (if_pos c_3).symm.trans hF
              exact hx_12 x1 x2 x3 ls (lv_sub hl [0, 1, 2, 3] rfl) hok hF
            · have hok := hok.2 c_3
              have hF := (if_neg c_3).symm.trans hF
              refine lv_aload_n hx hb d_M_isBusy_22 rfl (lv_at hl 0 rfl) ?_
              refine mg_17 h0 hw d_M_isBusy_23 ?_
              refine lv_iload_n hx hb d_M_isBusy_26 rfl (lv_at hl 2 rfl) ?_
              obtain ⟨hi_4, hok⟩ := hok
              refine ml_17 h0 hw hi_4 d_M_isBusy_27 ?_
              refine lv_iconst (v := 2) hx hb d_M_isBusy_28 (by decide) ?_
              refine lv_icmp_eq (tgt := 55) hx hb d_M_isBusy_29 (by decide) (fun c_5 => ?_) (fun c_5 => ?_)
              · have hok := hok.1 c_5
                have hF := (if_pos c_5).symm.trans hF
                exact hx_12 x1 x2 x3 ls (lv_sub hl [0, 1, 2, 3] rfl) hok hF
              · have hok := hok.2 c_5
                have hF := (if_neg c_5).symm.trans hF
                refine lv_aload_n hx hb d_M_isBusy_32 rfl (lv_at hl 0 rfl) ?_
                refine mg_20 h0 hw d_M_isBusy_33 ?_
                refine lv_bipush (v := 20) hx hb d_M_isBusy_36 (by decide) ?_
                refine lv_iload_n hx hb d_M_isBusy_38 rfl (lv_at hl 2 rfl) ?_
                refine lv_imul hx hb d_M_isBusy_39 ?_
                refine lv_iload_n hx hb d_M_isBusy_40 rfl (lv_at hl 3 rfl) ?_
                refine lv_iadd hx hb d_M_isBusy_41 ?_
                obtain ⟨hi_6, hok⟩ := hok
                refine ml_20 h0 hw hi_6 d_M_isBusy_42 ?_
                refine lv_iload_n hx hb d_M_isBusy_43 rfl (lv_at hl 1 rfl) ?_
                refine lv_icmp_ne (tgt := 49) hx hb d_M_isBusy_44 (by decide) (fun c_7 => ?_) (fun c_7 => ?_)
                · have hok := hok.2 c_7
                  have hF := (if_neg c_7).symm.trans hF
                  refine lv_iinc (v := x3 + 1) (lv' := [(3, .int (x3 + 1)), (0, .ref (a 0)), (1, .int x1), (2, .int x2)]) hx hb d_M_isBusy_49 hl (k := 3) rfl rfl (by decide) rfl (fun ls hl => ?_)
                  refine lv_goto (tgt := 12) hx hb d_M_isBusy_52 (by decide) ?_
                  exact ih_12 x1 x2 (x3 + 1) ls (lv_sub hl [1, 2, 3, 0] rfl) hok hF
                · have hok := hok.1 c_7
                  have hF := (if_pos c_7).symm.trans hF
                  refine lv_iconst (v := 1) hx hb d_M_isBusy_47 (by decide) ?_
                  exact rt_p hx hb hr hlocks rfl (by rw [hF]) d_M_isBusy_48 (Nat.le_refl 0) (Nat.le_refl 0)
        exact lp_12 200 x1 x2 0 ls (lv_sub hl [1, 2, 3, 0] rfl) hok hF
  exact lp_2 200 x1 1 ls (lv_sub hl [1, 2, 0] rfl) hok hF
set_option maxHeartbeats 4000000 in
set_option maxRecDepth 100000 in
theorem cM_byRank (l : Launch) (D : va_G) (tc : Nat → ClassId) (a : Nat → Nat) (Y : va_W) (sz : Nat) (μ : Nat → Nat → Int32) {F : Int32} (hok : kM_byRank  μ) (hF : fM_byRank  μ = F) : Met l y_M_byRank (Cond.code y_M_byRank b_M_byRank 3 (some .int) :: gw) ({ frames := 0, cells := 0, slots := 0, locals := 0 } : Room) (va_Pc [.ref (a 0)] (pW D tc (mo tc a μ ++ Y) sz)) (qP (.int F)) 0 0 (fun _ => False) := by
  refine en_W (by decide) (Nat.le_of_ble_eq_true rfl) ?_
  intro p e s m args below meth c ls h0 hr hlocks hin hsz hw hl
  obtain ⟨hx, hb, hml, hown, hts, hK⟩ := id h0
  have hl : lv_has ls 3 [(0, .ref (a 0))] := hl
  unfold kM_byRank at hok
  unfold fM_byRank at hF
  refine lv_iconst (v := (-1)) hx hb d_M_byRank_0 (by decide) ?_
  refine lv_istore_n (lv' := [(1, .int (-1)), (0, .ref (a 0))]) hx hb d_M_byRank_1 rfl hl (by decide) rfl (fun ls hl => ?_)
  refine lv_iconst (v := 0) hx hb d_M_byRank_2 (by decide) ?_
  refine lv_istore_n (lv' := [(2, .int 0), (1, .int (-1)), (0, .ref (a 0))]) hx hb d_M_byRank_3 rfl hl (by decide) rfl (fun ls hl => ?_)
  have hx_4 : ∀ (x1 : Int32) (x2 : Int32) (ls : Array Slot), lv_has ls 3 [(0, .ref (a 0)), (1, .int x1), (2, .int x2)] → kM_byRank_4x x1 x2 μ → fM_byRank_4x x1 x2 μ = F → W p l e ({ frames := 0, cells := 0, slots := 0, locals := 0 } : Room) s m args below meth c s.heap [] 0 0 (MQ below (qP (.int F)) args s 0 0 (fun _ => False)) (F0 m 49 ls []) := by
    intro x1 x2 ls hl hok hF
    unfold kM_byRank_4x at hok
    unfold fM_byRank_4x at hF
    refine lv_iload_n hx hb d_M_byRank_49 rfl (lv_at hl 1 rfl) ?_
    exact rt_p hx hb hr hlocks rfl (by rw [hF]) d_M_byRank_50 (Nat.le_refl 0) (Nat.le_refl 0)
  have lp_4 : ∀ (n4 : Nat) (x1 : Int32) (x2 : Int32) (ls : Array Slot), lv_has ls 3 [(0, .ref (a 0)), (1, .int x1), (2, .int x2)] → kM_byRank_4 kM_byRank_4x n4 x1 x2 μ → fM_byRank_4 fM_byRank_4x n4 x1 x2 μ = F → W p l e ({ frames := 0, cells := 0, slots := 0, locals := 0 } : Room) s m args below meth c s.heap [] 0 0 (MQ below (qP (.int F)) args s 0 0 (fun _ => False)) (F0 m 4 ls []) := by
    intro n4
    induction n4 with
    | zero =>
      intro x1 x2 ls hl hok hF
      unfold kM_byRank_4 at hok
      exact hok.elim
    | succ n4 ih_4 =>
      intro x1 x2 ls hl hok hF
      unfold kM_byRank_4 at hok
      unfold fM_byRank_4 at hF
      refine lv_iload_n hx hb d_M_byRank_4 rfl (lv_at hl 2 rfl) ?_
      refine lv_aload_n hx hb d_M_byRank_5 rfl (lv_at hl 0 rfl) ?_
      refine mg_3 h0 hw d_M_byRank_6 ?_
      refine lv_icmp_ge (tgt := 49) hx hb d_M_byRank_9 (by decide) (fun c_1 => ?_) (fun c_1 => ?_)
      · have hok := hok.1 c_1
        have hF := (if_pos c_1).symm.trans hF
        exact hx_4 x1 x2 ls (lv_sub hl [0, 1, 2] rfl) hok hF
      · have hok := hok.2 c_1
        have hF := (if_neg c_1).symm.trans hF
        refine lv_aload_n hx hb d_M_byRank_12 rfl (lv_at hl 0 rfl) ?_
        refine mg_28 h0 hw d_M_byRank_13 ?_
        refine lv_iload_n hx hb d_M_byRank_16 rfl (lv_at hl 2 rfl) ?_
        obtain ⟨hi_2, hok⟩ := hok
        refine ml_28 h0 hw hi_2 d_M_byRank_17 ?_
        refine lv_if_eq (tgt := 43) hx hb d_M_byRank_18 (by decide) (fun c_3 => ?_) (fun c_3 => ?_)
        · have hok := hok.1 c_3
          have hF := (if_pos c_3).symm.trans hF
          refine lv_iinc (v := x2 + 1) (lv' := [(2, .int (x2 + 1)), (0, .ref (a 0)), (1, .int x1)]) hx hb d_M_byRank_43 hl (k := 2) rfl rfl (by decide) rfl (fun ls hl => ?_)
          refine lv_goto (tgt := 4) hx hb d_M_byRank_46 (by decide) ?_
          exact ih_4 x1 (x2 + 1) ls (lv_sub hl [1, 2, 0] rfl) hok hF
        · have hok := hok.2 c_3
          have hF := (if_neg c_3).symm.trans hF
          refine lv_iload_n hx hb d_M_byRank_21 rfl (lv_at hl 1 rfl) ?_
          refine lv_iconst (v := (-1)) hx hb d_M_byRank_22 (by decide) ?_
          refine lv_icmp_eq (tgt := 41) hx hb d_M_byRank_23 (by decide) (fun c_4 => ?_) (fun c_4 => ?_)
          · have hok := hok.1 c_4
            have hF := (if_pos c_4).symm.trans hF
            refine lv_iload_n hx hb d_M_byRank_41 rfl (lv_at hl 2 rfl) ?_
            refine lv_istore_n (lv' := [(1, .int x2), (0, .ref (a 0)), (2, .int x2)]) hx hb d_M_byRank_42 rfl hl (by decide) rfl (fun ls hl => ?_)
            refine lv_iinc (v := x2 + 1) (lv' := [(2, .int (x2 + 1)), (1, .int x2), (0, .ref (a 0))]) hx hb d_M_byRank_43 hl (k := 2) rfl rfl (by decide) rfl (fun ls hl => ?_)
            refine lv_goto (tgt := 4) hx hb d_M_byRank_46 (by decide) ?_
            exact ih_4 x2 (x2 + 1) ls (lv_sub hl [2, 1, 0] rfl) hok hF
          · have hok := hok.2 c_4
            have hF := (if_neg c_4).symm.trans hF
            refine lv_aload_n hx hb d_M_byRank_26 rfl (lv_at hl 0 rfl) ?_
            refine mg_5 h0 hw d_M_byRank_27 ?_
            refine lv_iload_n hx hb d_M_byRank_30 rfl (lv_at hl 2 rfl) ?_
            obtain ⟨hi_5, hok⟩ := hok
            refine ml_5 h0 hw hi_5 d_M_byRank_31 ?_
            refine lv_aload_n hx hb d_M_byRank_32 rfl (lv_at hl 0 rfl) ?_
            refine mg_5 h0 hw d_M_byRank_33 ?_
            refine lv_iload_n hx hb d_M_byRank_36 rfl (lv_at hl 1 rfl) ?_
            obtain ⟨hi_6, hok⟩ := hok
            refine ml_5 h0 hw hi_6 d_M_byRank_37 ?_
            refine lv_icmp_ge (tgt := 43) hx hb d_M_byRank_38 (by decide) (fun c_7 => ?_) (fun c_7 => ?_)
            · have hok := hok.1 c_7
              have hF := (if_pos c_7).symm.trans hF
              refine lv_iinc (v := x2 + 1) (lv' := [(2, .int (x2 + 1)), (0, .ref (a 0)), (1, .int x1)]) hx hb d_M_byRank_43 hl (k := 2) rfl rfl (by decide) rfl (fun ls hl => ?_)
              refine lv_goto (tgt := 4) hx hb d_M_byRank_46 (by decide) ?_
              exact ih_4 x1 (x2 + 1) ls (lv_sub hl [1, 2, 0] rfl) hok hF
            · have hok := hok.2 c_7
              have hF := (if_neg c_7).symm.trans hF
              refine lv_iload_n hx hb d_M_byRank_41 rfl (lv_at hl 2 rfl) ?_
              refine lv_istore_n (lv' := [(1, .int x2), (0, .ref (a 0)), (2, .int x2)]) hx hb d_M_byRank_42 rfl hl (by decide) rfl (fun ls hl => ?_)
              refine lv_iinc (v := x2 + 1) (lv' := [(2, .int (x2 + 1)), (1, .int x2), (0, .ref (a 0))]) hx hb d_M_byRank_43 hl (k := 2) rfl rfl (by decide) rfl (fun ls hl => ?_)
              refine lv_goto (tgt := 4) hx hb d_M_byRank_46 (by decide) ?_
              exact ih_4 x2 (x2 + 1) ls (lv_sub hl [2, 1, 0] rfl) hok hF
  exact lp_4 200 (-1) 0 ls (lv_sub hl [2, 1, 0] rfl) hok hF
set_option maxHeartbeats 4000000 in
set_option maxRecDepth 100000 in
theorem cM_byNumber (l : Launch) (D : va_G) (tc : Nat → ClassId) (a : Nat → Nat) (Y : va_W) (sz : Nat) (x1 : Int32) (μ : Nat → Nat → Int32) {F : Int32} (hok : kM_byNumber x1 μ) (hF : fM_byNumber x1 μ = F) : Met l y_M_byNumber (Cond.code y_M_byNumber b_M_byNumber 4 (some .int) :: gw) ({ frames := 0, cells := 0, slots := 0, locals := 0 } : Room) (va_Pc [.ref (a 0), .int x1] (pW D tc (mo tc a μ ++ Y) sz)) (qP (.int F)) 0 0 (fun _ => False) := by
  refine en_W (by decide) (Nat.le_of_ble_eq_true rfl) ?_
  intro p e s m args below meth c ls h0 hr hlocks hin hsz hw hl
  obtain ⟨hx, hb, hml, hown, hts, hK⟩ := id h0
  have hl : lv_has ls 4 [(0, .ref (a 0)), (1, .int x1)] := hl
  unfold kM_byNumber at hok
  unfold fM_byNumber at hF
  refine lv_iload_n hx hb d_M_byNumber_0 rfl (lv_at hl 1 rfl) ?_
  refine lv_istore_n (lv' := [(2, .int x1), (0, .ref (a 0)), (1, .int x1)]) hx hb d_M_byNumber_1 rfl hl (by decide) rfl (fun ls hl => ?_)
  refine lv_iconst (v := 0) hx hb d_M_byNumber_2 (by decide) ?_
  refine lv_istore_n (lv' := [(3, .int 0), (2, .int x1), (0, .ref (a 0)), (1, .int x1)]) hx hb d_M_byNumber_3 rfl hl (by decide) rfl (fun ls hl => ?_)
  have hx_4 : ∀ (x1 : Int32) (x2 : Int32) (x3 : Int32) (ls : Array Slot), lv_has ls 4 [(0, .ref (a 0)), (1, .int x1), (2, .int x2), (3, .int x3)] → kM_byNumber_4x x1 x2 x3 μ → fM_byNumber_4x x1 x2 x3 μ = F → W p l e ({ frames := 0, cells := 0, slots := 0, locals := 0 } : Room) s m args below meth c s.heap [] 0 0 (MQ below (qP (.int F)) args s 0 0 (fun _ => False)) (F0 m 39 ls []) := by
    intro x1 x2 x3 ls hl hok hF
    unfold kM_byNumber_4x at hok
    unfold fM_byNumber_4x at hF
    refine lv_iconst (v := (-1)) hx hb d_M_byNumber_39 (by decide) ?_
    exact rt_p hx hb hr hlocks rfl (by rw [hF]) d_M_byNumber_40 (Nat.le_refl 0) (Nat.le_refl 0)
  have lp_4 : ∀ (n4 : Nat) (x1 : Int32) (x2 : Int32) (x3 : Int32) (ls : Array Slot), lv_has ls 4 [(0, .ref (a 0)), (1, .int x1), (2, .int x2), (3, .int x3)] → kM_byNumber_4 kM_byNumber_4x n4 x1 x2 x3 μ → fM_byNumber_4 fM_byNumber_4x n4 x1 x2 x3 μ = F → W p l e ({ frames := 0, cells := 0, slots := 0, locals := 0 } : Room) s m args below meth c s.heap [] 0 0 (MQ below (qP (.int F)) args s 0 0 (fun _ => False)) (F0 m 4 ls []) := by
    intro n4
    induction n4 with
    | zero =>
      intro x1 x2 x3 ls hl hok hF
      unfold kM_byNumber_4 at hok
      exact hok.elim
    | succ n4 ih_4 =>
      intro x1 x2 x3 ls hl hok hF
      unfold kM_byNumber_4 at hok
      unfold fM_byNumber_4 at hF
      refine lv_iload_n hx hb d_M_byNumber_4 rfl (lv_at hl 3 rfl) ?_
      refine lv_aload_n hx hb d_M_byNumber_5 rfl (lv_at hl 0 rfl) ?_
      refine mg_3 h0 hw d_M_byNumber_6 ?_
      refine lv_icmp_ge (tgt := 39) hx hb d_M_byNumber_9 (by decide) (fun c_1 => ?_) (fun c_1 => ?_)
      · have hok := hok.1 c_1
        have hF := (if_pos c_1).symm.trans hF
        exact hx_4 x1 x2 x3 ls (lv_sub hl [0, 1, 2, 3] rfl) hok hF
      · have hok := hok.2 c_1
        have hF := (if_neg c_1).symm.trans hF
        refine lv_aload_n hx hb d_M_byNumber_12 rfl (lv_at hl 0 rfl) ?_
        refine mg_28 h0 hw d_M_byNumber_13 ?_
        refine lv_iload_n hx hb d_M_byNumber_16 rfl (lv_at hl 3 rfl) ?_
        obtain ⟨hi_2, hok⟩ := hok
        refine ml_28 h0 hw hi_2 d_M_byNumber_17 ?_
        refine lv_if_ne (tgt := 24) hx hb d_M_byNumber_18 (by decide) (fun c_3 => ?_) (fun c_3 => ?_)
        · have hok := hok.2 c_3
          have hF := (if_neg c_3).symm.trans hF
          refine lv_iload_n hx hb d_M_byNumber_24 rfl (lv_at hl 2 rfl) ?_
          refine lv_if_ne (tgt := 30) hx hb d_M_byNumber_25 (by decide) (fun c_4 => ?_) (fun c_4 => ?_)
          · have hok := hok.2 c_4
            have hF := (if_neg c_4).symm.trans hF
            refine lv_iinc (v := x2 + (-1)) (lv' := [(2, .int (x2 + (-1))), (0, .ref (a 0)), (1, .int x1), (3, .int x3)]) hx hb d_M_byNumber_30 hl (k := 2) rfl rfl (by decide) rfl (fun ls hl => ?_)
            refine lv_iinc (v := x3 + 1) (lv' := [(3, .int (x3 + 1)), (2, .int (x2 + (-1))), (0, .ref (a 0)), (1, .int x1)]) hx hb d_M_byNumber_33 hl (k := 3) rfl rfl (by decide) rfl (fun ls hl => ?_)
            refine lv_goto (tgt := 4) hx hb d_M_byNumber_36 (by decide) ?_
            exact ih_4 x1 (x2 + (-1)) (x3 + 1) ls (lv_sub hl [2, 3, 1, 0] rfl) hok hF
          · have hok := hok.1 c_4
            have hF := (if_pos c_4).symm.trans hF
            refine lv_iload_n hx hb d_M_byNumber_28 rfl (lv_at hl 3 rfl) ?_
            exact rt_p hx hb hr hlocks rfl (by rw [hF]) d_M_byNumber_29 (Nat.le_refl 0) (Nat.le_refl 0)
        · have hok := hok.1 c_3
          have hF := (if_pos c_3).symm.trans hF
          refine lv_goto (tgt := 33) hx hb d_M_byNumber_21 (by decide) ?_
          refine lv_iinc (v := x3 + 1) (lv' := [(3, .int (x3 + 1)), (0, .ref (a 0)), (1, .int x1), (2, .int x2)]) hx hb d_M_byNumber_33 hl (k := 3) rfl rfl (by decide) rfl (fun ls hl => ?_)
          refine lv_goto (tgt := 4) hx hb d_M_byNumber_36 (by decide) ?_
          exact ih_4 x1 x2 (x3 + 1) ls (lv_sub hl [1, 2, 3, 0] rfl) hok hF
  exact lp_4 200 x1 x1 0 ls (lv_sub hl [2, 3, 1, 0] rfl) hok hF
set_option maxHeartbeats 4000000 in
set_option maxRecDepth 100000 in
theorem cM_coming (l : Launch) (D : va_G) (tc : Nat → ClassId) (a : Nat → Nat) (Y : va_W) (sz : Nat) (x1 : Int32) (x2 : Int32) (μ : Nat → Nat → Int32) {F : Int32} (hok : kM_coming x1 x2 μ) (hF : fM_coming x1 x2 μ = F) : Met l y_M_coming (Cond.code y_M_coming b_M_coming 5 (some .int) :: gw) ({ frames := 0, cells := 0, slots := 0, locals := 0 } : Room) (va_Pc [.ref (a 0), .int x1, .int x2] (pW D tc (mo tc a μ ++ Y) sz)) (qP (.int F)) 0 0 (fun _ => False) := by
  refine en_W (by decide) (Nat.le_of_ble_eq_true rfl) ?_
  intro p e s m args below meth c ls h0 hr hlocks hin hsz hw hl
  obtain ⟨hx, hb, hml, hown, hts, hK⟩ := id h0
  have hl : lv_has ls 5 [(0, .ref (a 0)), (1, .int x1), (2, .int x2)] := hl
  unfold kM_coming at hok
  unfold fM_coming at hF
  refine lv_iconst (v := 0) hx hb d_M_coming_0 (by decide) ?_
  refine lv_istore_n (lv' := [(3, .int 0), (0, .ref (a 0)), (1, .int x1), (2, .int x2)]) hx hb d_M_coming_1 rfl hl (by decide) rfl (fun ls hl => ?_)
  refine lv_iconst (v := 1) hx hb d_M_coming_2 (by decide) ?_
  refine lv_istore (lv' := [(4, .int 1), (3, .int 0), (0, .ref (a 0)), (1, .int x1), (2, .int x2)]) hx hb d_M_coming_3 hl (by decide) rfl (fun ls hl => ?_)
  have hx_5 : ∀ (x1 : Int32) (x2 : Int32) (x3 : Int32) (x4 : Int32) (ls : Array Slot), lv_has ls 5 [(0, .ref (a 0)), (1, .int x1), (2, .int x2), (3, .int x3), (4, .int x4)] → kM_coming_5x x1 x2 x3 x4 μ → fM_coming_5x x1 x2 x3 x4 μ = F → W p l e ({ frames := 0, cells := 0, slots := 0, locals := 0 } : Room) s m args below meth c s.heap [] 0 0 (MQ below (qP (.int F)) args s 0 0 (fun _ => False)) (F0 m 66 ls []) := by
    intro x1 x2 x3 x4 ls hl hok hF
    unfold kM_coming_5x at hok
    unfold fM_coming_5x at hF
    refine lv_iload_n hx hb d_M_coming_66 rfl (lv_at hl 3 rfl) ?_
    exact rt_p hx hb hr hlocks rfl (by rw [hF]) d_M_coming_67 (Nat.le_refl 0) (Nat.le_refl 0)
  have lp_5 : ∀ (n5 : Nat) (x1 : Int32) (x2 : Int32) (x3 : Int32) (x4 : Int32) (ls : Array Slot), lv_has ls 5 [(0, .ref (a 0)), (1, .int x1), (2, .int x2), (3, .int x3), (4, .int x4)] → kM_coming_5 kM_coming_5x n5 x1 x2 x3 x4 μ → fM_coming_5 fM_coming_5x n5 x1 x2 x3 x4 μ = F → W p l e ({ frames := 0, cells := 0, slots := 0, locals := 0 } : Room) s m args below meth c s.heap [] 0 0 (MQ below (qP (.int F)) args s 0 0 (fun _ => False)) (F0 m 5 ls []) := by
    intro n5
    induction n5 with
    | zero =>
      intro x1 x2 x3 x4 ls hl hok hF
      unfold kM_coming_5 at hok
      exact hok.elim
    | succ n5 ih_5 =>
      intro x1 x2 x3 x4 ls hl hok hF
      unfold kM_coming_5 at hok
      unfold fM_coming_5 at hF
      refine lv_iload hx hb d_M_coming_5 (lv_at hl 4 rfl) ?_
      refine lv_aload_n hx hb d_M_coming_7 rfl (lv_at hl 0 rfl) ?_
      refine mg_10 h0 hw d_M_coming_8 ?_
      refine lv_icmp_gt (tgt := 66) hx hb d_M_coming_11 (by decide) (fun c_1 => ?_) (fun c_1 => ?_)
      · have hok := hok.1 c_1
        have hF := (if_pos c_1).symm.trans hF
        exact hx_5 x1 x2 x3 x4 ls (lv_sub hl [0, 1, 2, 3, 4] rfl) hok hF
      · have hok := hok.2 c_1
        have hF := (if_neg c_1).symm.trans hF
        refine lv_iload_n hx hb d_M_coming_14 rfl (lv_at hl 3 rfl) ?_
        refine lv_aload_n hx hb d_M_coming_15 rfl (lv_at hl 0 rfl) ?_
        refine mg_15 h0 hw d_M_coming_16 ?_
        refine lv_iload hx hb d_M_coming_19 (lv_at hl 4 rfl) ?_
        obtain ⟨hi_2, hok⟩ := hok
        refine ml_15 h0 hw hi_2 d_M_coming_21 ?_
        refine lv_if_ne (tgt := 57) hx hb d_M_coming_22 (by decide) (fun c_3 => ?_) (fun c_3 => ?_)
        · have hok := hok.2 c_3
          have hF := (if_neg c_3).symm.trans hF
          refine lv_iconst (v := 0) hx hb d_M_coming_57 (by decide) ?_
          refine lv_iadd hx hb d_M_coming_58 ?_
          refine lv_istore_n (lv' := [(3, .int (x3 + 0)), (0, .ref (a 0)), (1, .int x1), (2, .int x2), (4, .int x4)]) hx hb d_M_coming_59 rfl hl (by decide) rfl (fun ls hl => ?_)
          refine lv_iinc (v := x4 + 1) (lv' := [(4, .int (x4 + 1)), (3, .int (x3 + 0)), (0, .ref (a 0)), (1, .int x1), (2, .int x2)]) hx hb d_M_coming_60 hl (k := 4) rfl rfl (by decide) rfl (fun ls hl => ?_)
          refine lv_goto (tgt := 5) hx hb d_M_coming_63 (by decide) ?_
          exact ih_5 x1 x2 (x3 + 0) (x4 + 1) ls (lv_sub hl [2, 3, 4, 1, 0] rfl) hok hF
        · have hok := hok.1 c_3
          have hF := (if_pos c_3).symm.trans hF
          refine lv_aload_n hx hb d_M_coming_25 rfl (lv_at hl 0 rfl) ?_
          refine mg_12 h0 hw d_M_coming_26 ?_
          refine lv_iload hx hb d_M_coming_29 (lv_at hl 4 rfl) ?_
          obtain ⟨hi_4, hok⟩ := hok
          refine ml_12 h0 hw hi_4 d_M_coming_31 ?_
          refine lv_iload_n hx hb d_M_coming_32 rfl (lv_at hl 1 rfl) ?_
          refine lv_icmp_ne (tgt := 57) hx hb d_M_coming_33 (by decide) (fun c_5 => ?_) (fun c_5 => ?_)
          · have hok := hok.2 c_5
            have hF := (if_neg c_5).symm.trans hF
            refine lv_iconst (v := 0) hx hb d_M_coming_57 (by decide) ?_
            refine lv_iadd hx hb d_M_coming_58 ?_
            refine lv_istore_n (lv' := [(3, .int (x3 + 0)), (0, .ref (a 0)), (1, .int x1), (2, .int x2), (4, .int x4)]) hx hb d_M_coming_59 rfl hl (by decide) rfl (fun ls hl => ?_)
            refine lv_iinc (v := x4 + 1) (lv' := [(4, .int (x4 + 1)), (3, .int (x3 + 0)), (0, .ref (a 0)), (1, .int x1), (2, .int x2)]) hx hb d_M_coming_60 hl (k := 4) rfl rfl (by decide) rfl (fun ls hl => ?_)
            refine lv_goto (tgt := 5) hx hb d_M_coming_63 (by decide) ?_
            exact ih_5 x1 x2 (x3 + 0) (x4 + 1) ls (lv_sub hl [2, 3, 4, 1, 0] rfl) hok hF
          · have hok := hok.1 c_5
            have hF := (if_pos c_5).symm.trans hF
            refine lv_aload_n hx hb d_M_coming_36 rfl (lv_at hl 0 rfl) ?_
            refine mg_13 h0 hw d_M_coming_37 ?_
            refine lv_iload hx hb d_M_coming_40 (lv_at hl 4 rfl) ?_
            obtain ⟨hi_6, hok⟩ := hok
            refine ml_13 h0 hw hi_6 d_M_coming_42 ?_
            refine lv_iload_n hx hb d_M_coming_43 rfl (lv_at hl 2 rfl) ?_
            refine lv_icmp_ne (tgt := 57) hx hb d_M_coming_44 (by decide) (fun c_7 => ?_) (fun c_7 => ?_)
            · have hok := hok.2 c_7
              have hF := (if_neg c_7).symm.trans hF
              refine lv_iconst (v := 0) hx hb d_M_coming_57 (by decide) ?_
              refine lv_iadd hx hb d_M_coming_58 ?_
              refine lv_istore_n (lv' := [(3, .int (x3 + 0)), (0, .ref (a 0)), (1, .int x1), (2, .int x2), (4, .int x4)]) hx hb d_M_coming_59 rfl hl (by decide) rfl (fun ls hl => ?_)
              refine lv_iinc (v := x4 + 1) (lv' := [(4, .int (x4 + 1)), (3, .int (x3 + 0)), (0, .ref (a 0)), (1, .int x1), (2, .int x2)]) hx hb d_M_coming_60 hl (k := 4) rfl rfl (by decide) rfl (fun ls hl => ?_)
              refine lv_goto (tgt := 5) hx hb d_M_coming_63 (by decide) ?_
              exact ih_5 x1 x2 (x3 + 0) (x4 + 1) ls (lv_sub hl [2, 3, 4, 1, 0] rfl) hok hF
            · have hok := hok.1 c_7
              have hF := (if_pos c_7).symm.trans hF
              refine lv_aload_n hx hb d_M_coming_47 rfl (lv_at hl 0 rfl) ?_
              refine mg_14 h0 hw d_M_coming_48 ?_
              refine lv_iload hx hb d_M_coming_51 (lv_at hl 4 rfl) ?_
              obtain ⟨hi_8, hok⟩ := hok
              refine ml_14 h0 hw hi_8 d_M_coming_53 ?_
              refine lv_goto (tgt := 58) hx hb d_M_coming_54 (by decide) ?_
              refine lv_iadd hx hb d_M_coming_58 ?_
              refine lv_istore_n (lv' := [(3, .int (x3 + (μ 14 x4.toNatClampNeg))), (0, .ref (a 0)), (1, .int x1), (2, .int x2), (4, .int x4)]) hx hb d_M_coming_59 rfl hl (by decide) rfl (fun ls hl => ?_)
              refine lv_iinc (v := x4 + 1) (lv' := [(4, .int (x4 + 1)), (3, .int (x3 + (μ 14 x4.toNatClampNeg))), (0, .ref (a 0)), (1, .int x1), (2, .int x2)]) hx hb d_M_coming_60 hl (k := 4) rfl rfl (by decide) rfl (fun ls hl => ?_)
              refine lv_goto (tgt := 5) hx hb d_M_coming_63 (by decide) ?_
              exact ih_5 x1 x2 (x3 + (μ 14 x4.toNatClampNeg)) (x4 + 1) ls (lv_sub hl [2, 3, 4, 1, 0] rfl) hok hF
  exact lp_5 200 x1 x2 0 1 ls (lv_sub hl [2, 3, 4, 1, 0] rfl) hok hF
set_option maxHeartbeats 4000000 in
set_option maxRecDepth 100000 in
theorem cM_slot (l : Launch) (D : va_G) (tc : Nat → ClassId) (a : Nat → Nat) (Y : va_W) (sz : Nat) (x1 : Int32) (x2 : Int32) (μ : Nat → Nat → Int32) {F : Int32} (hok : kM_slot x1 x2 μ) (hF : fM_slot x1 x2 μ = F) : Met l y_M_slot (Cond.code y_M_slot b_M_slot 4 (some .int) :: gw) ({ frames := 0, cells := 0, slots := 0, locals := 0 } : Room) (va_Pc [.ref (a 0), .int x1, .int x2] (pW D tc (mo tc a μ ++ Y) sz)) (qP (.int F)) 0 0 (fun _ => False) := by
  refine en_W (by decide) (Nat.le_of_ble_eq_true rfl) ?_
  intro p e s m args below meth c ls h0 hr hlocks hin hsz hw hl
  obtain ⟨hx, hb, hml, hown, hts, hK⟩ := id h0
  have hl : lv_has ls 4 [(0, .ref (a 0)), (1, .int x1), (2, .int x2)] := hl
  unfold kM_slot at hok
  unfold fM_slot at hF
  refine lv_iconst (v := 0) hx hb d_M_slot_0 (by decide) ?_
  refine lv_istore_n (lv' := [(3, .int 0), (0, .ref (a 0)), (1, .int x1), (2, .int x2)]) hx hb d_M_slot_1 rfl hl (by decide) rfl (fun ls hl => ?_)
  have hx_2 : ∀ (x1 : Int32) (x2 : Int32) (x3 : Int32) (ls : Array Slot), lv_has ls 4 [(0, .ref (a 0)), (1, .int x1), (2, .int x2), (3, .int x3)] → kM_slot_2x x1 x2 x3 μ → fM_slot_2x x1 x2 x3 μ = F → W p l e ({ frames := 0, cells := 0, slots := 0, locals := 0 } : Room) s m args below meth c s.heap [] 0 0 (MQ below (qP (.int F)) args s 0 0 (fun _ => False)) (F0 m 35 ls []) := by
    intro x1 x2 x3 ls hl hok hF
    unfold kM_slot_2x at hok
    unfold fM_slot_2x at hF
    refine lv_iconst (v := (-1)) hx hb d_M_slot_35 (by decide) ?_
    exact rt_p hx hb hr hlocks rfl (by rw [hF]) d_M_slot_36 (Nat.le_refl 0) (Nat.le_refl 0)
  have lp_2 : ∀ (n2 : Nat) (x1 : Int32) (x2 : Int32) (x3 : Int32) (ls : Array Slot), lv_has ls 4 [(0, .ref (a 0)), (1, .int x1), (2, .int x2), (3, .int x3)] → kM_slot_2 kM_slot_2x n2 x1 x2 x3 μ → fM_slot_2 fM_slot_2x n2 x1 x2 x3 μ = F → W p l e ({ frames := 0, cells := 0, slots := 0, locals := 0 } : Room) s m args below meth c s.heap [] 0 0 (MQ below (qP (.int F)) args s 0 0 (fun _ => False)) (F0 m 2 ls []) := by
    intro n2
    induction n2 with
    | zero =>
      intro x1 x2 x3 ls hl hok hF
      unfold kM_slot_2 at hok
      exact hok.elim
    | succ n2 ih_2 =>
      intro x1 x2 x3 ls hl hok hF
      unfold kM_slot_2 at hok
      unfold fM_slot_2 at hF
      refine lv_iload_n hx hb d_M_slot_2 rfl (lv_at hl 3 rfl) ?_
      refine lv_aload_n hx hb d_M_slot_3 rfl (lv_at hl 0 rfl) ?_
      refine mg_18 h0 hw d_M_slot_4 ?_
      refine lv_iload_n hx hb d_M_slot_7 rfl (lv_at hl 1 rfl) ?_
      obtain ⟨hi_1, hok⟩ := hok
      refine ml_18 h0 hw hi_1 d_M_slot_8 ?_
      refine lv_icmp_ge (tgt := 35) hx hb d_M_slot_9 (by decide) (fun c_2 => ?_) (fun c_2 => ?_)
      · have hok := hok.1 c_2
        have hF := (if_pos c_2).symm.trans hF
        exact hx_2 x1 x2 x3 ls (lv_sub hl [0, 1, 2, 3] rfl) hok hF
      · have hok := hok.2 c_2
        have hF := (if_neg c_2).symm.trans hF
        refine lv_aload_n hx hb d_M_slot_12 rfl (lv_at hl 0 rfl) ?_
        refine mg_20 h0 hw d_M_slot_13 ?_
        refine lv_bipush (v := 20) hx hb d_M_slot_16 (by decide) ?_
        refine lv_iload_n hx hb d_M_slot_18 rfl (lv_at hl 1 rfl) ?_
        refine lv_imul hx hb d_M_slot_19 ?_
        refine lv_iload_n hx hb d_M_slot_20 rfl (lv_at hl 3 rfl) ?_
        refine lv_iadd hx hb d_M_slot_21 ?_
        obtain ⟨hi_3, hok⟩ := hok
        refine ml_20 h0 hw hi_3 d_M_slot_22 ?_
        refine lv_iload_n hx hb d_M_slot_23 rfl (lv_at hl 2 rfl) ?_
        refine lv_icmp_ne (tgt := 29) hx hb d_M_slot_24 (by decide) (fun c_4 => ?_) (fun c_4 => ?_)
        · have hok := hok.2 c_4
          have hF := (if_neg c_4).symm.trans hF
          refine lv_iinc (v := x3 + 1) (lv' := [(3, .int (x3 + 1)), (0, .ref (a 0)), (1, .int x1), (2, .int x2)]) hx hb d_M_slot_29 hl (k := 3) rfl rfl (by decide) rfl (fun ls hl => ?_)
          refine lv_goto (tgt := 2) hx hb d_M_slot_32 (by decide) ?_
          exact ih_2 x1 x2 (x3 + 1) ls (lv_sub hl [1, 2, 3, 0] rfl) hok hF
        · have hok := hok.1 c_4
          have hF := (if_pos c_4).symm.trans hF
          refine lv_iload_n hx hb d_M_slot_27 rfl (lv_at hl 3 rfl) ?_
          exact rt_p hx hb hr hlocks rfl (by rw [hF]) d_M_slot_28 (Nat.le_refl 0) (Nat.le_refl 0)
  exact lp_2 200 x1 x2 0 ls (lv_sub hl [1, 2, 3, 0] rfl) hok hF
set_option maxHeartbeats 4000000 in
set_option maxRecDepth 100000 in
theorem cM_counts (l : Launch) (D : va_G) (tc : Nat → ClassId) (a : Nat → Nat) (Y : va_W) (sz : Nat) (x1 : Int32) (μ : Nat → Nat → Int32) {F : Int32} (hok : kM_counts x1 μ) (hF : fM_counts x1 μ = F) : Met l y_M_counts (Cond.code y_M_counts b_M_counts 2 (some .int) :: gw) ({ frames := 1, cells := 0, slots := 0, locals := 21 } : Room) (va_Pc [.ref (a 0), .int x1] (pW D tc (mo tc a μ ++ Y) sz)) (qP (.int F)) 0 0 (fun _ => False) := by
  refine en_W (by decide) (Nat.le_of_ble_eq_true rfl) ?_
  intro p e s m args below meth c ls h0 hr hlocks hin hsz hw hl
  obtain ⟨hx, hb, hml, hown, hts, hK⟩ := id h0
  have hl : lv_has ls 2 [(0, .ref (a 0)), (1, .int x1)] := hl
  unfold kM_counts at hok
  unfold fM_counts at hF
  refine lv_aload_n hx hb d_M_counts_0 rfl (lv_at hl 0 rfl) ?_
  refine lv_iload_n hx hb d_M_counts_1 rfl (lv_at hl 1 rfl) ?_
  obtain ⟨hi_1, hok⟩ := hok
  refine cv_p (n := 1) (C := "CountRoundsModel") (b := a 0) (q0 := 0) (ci := 4) (As := [.int x1]) (rest := []) h0 hw (cM_secondBy l D tc a Y s.heap.size x1 μ hi_1 rfl) (gd_V wd_799 wd_801 (gw_s 31 rfl rfl) wd_3 wd_802) (by decide +kernel) ⟨rfl, rfl, Nat.le_of_ble_eq_true rfl, Nat.le_of_ble_eq_true rfl, Nat.le_of_ble_eq_true rfl, Nat.le_of_ble_eq_true rfl⟩ rfl rfl rfl hl.1 rfl (Nat.le_of_ble_eq_true rfl) d_M_counts_2 ?_
  refine lv_iconst (v := (-1)) hx hb d_M_counts_5 (by decide) ?_
  refine lv_icmp_eq (tgt := 18) hx hb d_M_counts_6 (by decide) (fun c_2 => ?_) (fun c_2 => ?_)
  · have hok := hok.1 c_2
    have hF := (if_pos c_2).symm.trans hF
    refine lv_aload_n hx hb d_M_counts_18 rfl (lv_at hl 0 rfl) ?_
    refine lv_iload_n hx hb d_M_counts_19 rfl (lv_at hl 1 rfl) ?_
    obtain ⟨hi_3, hok⟩ := hok
    refine cv_p (n := 1) (C := "CountRoundsModel") (b := a 0) (q0 := 0) (ci := 4) (As := [.int x1]) (rest := []) h0 hw (cM_firstBy l D tc a Y s.heap.size x1 μ hi_3 rfl) (gd_V wd_795 wd_797 (gw_s 30 rfl rfl) wd_3 wd_798) (by decide +kernel) ⟨rfl, rfl, Nat.le_of_ble_eq_true rfl, Nat.le_of_ble_eq_true rfl, Nat.le_of_ble_eq_true rfl, Nat.le_of_ble_eq_true rfl⟩ rfl rfl rfl hl.1 rfl (Nat.le_of_ble_eq_true rfl) d_M_counts_20 ?_
    refine lv_iconst (v := (-1)) hx hb d_M_counts_23 (by decide) ?_
    refine lv_icmp_eq (tgt := 36) hx hb d_M_counts_24 (by decide) (fun c_4 => ?_) (fun c_4 => ?_)
    · have hok := hok.1 c_4
      have hF := (if_pos c_4).symm.trans hF
      refine lv_iconst (v := 0) hx hb d_M_counts_36 (by decide) ?_
      exact rt_p hx hb hr hlocks rfl (by rw [hF]) d_M_counts_37 (Nat.le_refl 0) (Nat.le_refl 0)
    · have hok := hok.2 c_4
      have hF := (if_neg c_4).symm.trans hF
      refine lv_aload_n hx hb d_M_counts_27 rfl (lv_at hl 0 rfl) ?_
      refine mg_22 h0 hw d_M_counts_28 ?_
      refine lv_iload_n hx hb d_M_counts_31 rfl (lv_at hl 1 rfl) ?_
      obtain ⟨hi_5, hok⟩ := hok
      refine ml_22 h0 hw hi_5 d_M_counts_32 ?_
      refine lv_goto (tgt := 37) hx hb d_M_counts_33 (by decide) ?_
      exact rt_p hx hb hr hlocks rfl (by rw [hF]) d_M_counts_37 (Nat.le_refl 0) (Nat.le_refl 0)
  · have hok := hok.2 c_2
    have hF := (if_neg c_2).symm.trans hF
    refine lv_aload_n hx hb d_M_counts_9 rfl (lv_at hl 0 rfl) ?_
    refine mg_23 h0 hw d_M_counts_10 ?_
    refine lv_iload_n hx hb d_M_counts_13 rfl (lv_at hl 1 rfl) ?_
    obtain ⟨hi_6, hok⟩ := hok
    refine ml_23 h0 hw hi_6 d_M_counts_14 ?_
    refine lv_goto (tgt := 37) hx hb d_M_counts_15 (by decide) ?_
    exact rt_p hx hb hr hlocks rfl (by rw [hF]) d_M_counts_37 (Nat.le_refl 0) (Nat.le_refl 0)
set_option maxHeartbeats 4000000 in
set_option maxRecDepth 100000 in
theorem cM_isTold (l : Launch) (D : va_G) (tc : Nat → ClassId) (a : Nat → Nat) (Y : va_W) (sz : Nat) (x1 : Int32) (x2 : Int32) (μ : Nat → Nat → Int32) {F : Int32} (hok : kM_isTold x1 x2 μ) (hF : fM_isTold x1 x2 μ = F) : Met l y_M_isTold (Cond.code y_M_isTold b_M_isTold 5 (some .boolean) :: gw) ({ frames := 0, cells := 0, slots := 0, locals := 0 } : Room) (va_Pc [.ref (a 0), .int x1, .int x2] (pW D tc (mo tc a μ ++ Y) sz)) (qP (.int F)) 0 0 (fun _ => False) := by
  refine en_W (by decide) (Nat.le_of_ble_eq_true rfl) ?_
  intro p e s m args below meth c ls h0 hr hlocks hin hsz hw hl
  obtain ⟨hx, hb, hml, hown, hts, hK⟩ := id h0
  have hl : lv_has ls 5 [(0, .ref (a 0)), (1, .int x1), (2, .int x2)] := hl
  unfold kM_isTold at hok
  unfold fM_isTold at hF
  refine lv_iconst (v := 0) hx hb d_M_isTold_0 (by decide) ?_
  refine lv_istore_n (lv' := [(3, .int 0), (0, .ref (a 0)), (1, .int x1), (2, .int x2)]) hx hb d_M_isTold_1 rfl hl (by decide) rfl (fun ls hl => ?_)
  refine lv_iconst (v := 0) hx hb d_M_isTold_2 (by decide) ?_
  refine lv_istore (lv' := [(4, .int 0), (3, .int 0), (0, .ref (a 0)), (1, .int x1), (2, .int x2)]) hx hb d_M_isTold_3 hl (by decide) rfl (fun ls hl => ?_)
  have hx_5 : ∀ (x1 : Int32) (x2 : Int32) (x3 : Int32) (x4 : Int32) (ls : Array Slot), lv_has ls 5 [(0, .ref (a 0)), (1, .int x1), (2, .int x2), (3, .int x3), (4, .int x4)] → kM_isTold_5x x1 x2 x3 x4 μ → fM_isTold_5x x1 x2 x3 x4 μ = F → W p l e ({ frames := 0, cells := 0, slots := 0, locals := 0 } : Room) s m args below meth c s.heap [] 0 0 (MQ below (qP (.int F)) args s 0 0 (fun _ => False)) (F0 m 48 ls []) := by
    intro x1 x2 x3 x4 ls hl hok hF
    unfold kM_isTold_5x at hok
    unfold fM_isTold_5x at hF
    refine lv_iload_n hx hb d_M_isTold_48 rfl (lv_at hl 3 rfl) ?_
    exact rt_p hx hb hr hlocks hok (by rw [hF]) d_M_isTold_49 (Nat.le_refl 0) (Nat.le_refl 0)
  have lp_5 : ∀ (n5 : Nat) (x1 : Int32) (x2 : Int32) (x3 : Int32) (x4 : Int32) (ls : Array Slot), lv_has ls 5 [(0, .ref (a 0)), (1, .int x1), (2, .int x2), (3, .int x3), (4, .int x4)] → kM_isTold_5 kM_isTold_5x n5 x1 x2 x3 x4 μ → fM_isTold_5 fM_isTold_5x n5 x1 x2 x3 x4 μ = F → W p l e ({ frames := 0, cells := 0, slots := 0, locals := 0 } : Room) s m args below meth c s.heap [] 0 0 (MQ below (qP (.int F)) args s 0 0 (fun _ => False)) (F0 m 5 ls []) := by
    intro n5
    induction n5 with
    | zero =>
      intro x1 x2 x3 x4 ls hl hok hF
      unfold kM_isTold_5 at hok
      exact hok.elim
    | succ n5 ih_5 =>
      intro x1 x2 x3 x4 ls hl hok hF
      unfold kM_isTold_5 at hok
      unfold fM_isTold_5 at hF
      refine lv_iload hx hb d_M_isTold_5 (lv_at hl 4 rfl) ?_
      refine lv_bipush (v := 6) hx hb d_M_isTold_7 (by decide) ?_
      refine lv_icmp_ge (tgt := 48) hx hb d_M_isTold_9 (by decide) (fun c_1 => ?_) (fun c_1 => ?_)
      · have hok := hok.1 c_1
        have hF := (if_pos c_1).symm.trans hF
        exact hx_5 x1 x2 x3 x4 ls (lv_sub hl [0, 1, 2, 3, 4] rfl) hok hF
      · have hok := hok.2 c_1
        have hF := (if_neg c_1).symm.trans hF
        refine lv_iload_n hx hb d_M_isTold_12 rfl (lv_at hl 3 rfl) ?_
        refine lv_if_ne (tgt := 36) hx hb d_M_isTold_13 (by decide) (fun c_2 => ?_) (fun c_2 => ?_)
        · have hok := hok.2 c_2
          have hF := (if_neg c_2).symm.trans hF
          refine lv_iconst (v := 1) hx hb d_M_isTold_36 (by decide) ?_
          refine lv_goto (tgt := 41) hx hb d_M_isTold_37 (by decide) ?_
          refine lv_istore_n (lv' := [(3, .int 1), (0, .ref (a 0)), (1, .int x1), (2, .int x2), (4, .int x4)]) hx hb d_M_isTold_41 rfl hl (by decide) rfl (fun ls hl => ?_)
          refine lv_iinc (v := x4 + 1) (lv' := [(4, .int (x4 + 1)), (3, .int 1), (0, .ref (a 0)), (1, .int x1), (2, .int x2)]) hx hb d_M_isTold_42 hl (k := 4) rfl rfl (by decide) rfl (fun ls hl => ?_)
          refine lv_goto (tgt := 5) hx hb d_M_isTold_45 (by decide) ?_
          exact ih_5 x1 x2 1 (x4 + 1) ls (lv_sub hl [2, 3, 4, 1, 0] rfl) hok hF
        · have hok := hok.1 c_2
          have hF := (if_pos c_2).symm.trans hF
          refine lv_aload_n hx hb d_M_isTold_16 rfl (lv_at hl 0 rfl) ?_
          refine mg_24 h0 hw d_M_isTold_17 ?_
          refine lv_bipush (v := 120) hx hb d_M_isTold_20 (by decide) ?_
          refine lv_iload_n hx hb d_M_isTold_22 rfl (lv_at hl 1 rfl) ?_
          refine lv_imul hx hb d_M_isTold_23 ?_
          refine lv_bipush (v := 6) hx hb d_M_isTold_24 (by decide) ?_
          refine lv_iload_n hx hb d_M_isTold_26 rfl (lv_at hl 2 rfl) ?_
          refine lv_imul hx hb d_M_isTold_27 ?_
          refine lv_iadd hx hb d_M_isTold_28 ?_
          refine lv_iload hx hb d_M_isTold_29 (lv_at hl 4 rfl) ?_
          refine lv_iadd hx hb d_M_isTold_31 ?_
          obtain ⟨hi_3, hok⟩ := hok
          refine ml_24 h0 hw hi_3 d_M_isTold_32 ?_
          refine lv_if_le (tgt := 40) hx hb d_M_isTold_33 (by decide) (fun c_4 => ?_) (fun c_4 => ?_)
          · have hok := hok.1 c_4
            have hF := (if_pos c_4).symm.trans hF
            refine lv_iconst (v := 0) hx hb d_M_isTold_40 (by decide) ?_
            refine lv_istore_n (lv' := [(3, .int 0), (0, .ref (a 0)), (1, .int x1), (2, .int x2), (4, .int x4)]) hx hb d_M_isTold_41 rfl hl (by decide) rfl (fun ls hl => ?_)
            refine lv_iinc (v := x4 + 1) (lv' := [(4, .int (x4 + 1)), (3, .int 0), (0, .ref (a 0)), (1, .int x1), (2, .int x2)]) hx hb d_M_isTold_42 hl (k := 4) rfl rfl (by decide) rfl (fun ls hl => ?_)
            refine lv_goto (tgt := 5) hx hb d_M_isTold_45 (by decide) ?_
            exact ih_5 x1 x2 0 (x4 + 1) ls (lv_sub hl [2, 3, 4, 1, 0] rfl) hok hF
          · have hok := hok.2 c_4
            have hF := (if_neg c_4).symm.trans hF
            refine lv_iconst (v := 1) hx hb d_M_isTold_36 (by decide) ?_
            refine lv_goto (tgt := 41) hx hb d_M_isTold_37 (by decide) ?_
            refine lv_istore_n (lv' := [(3, .int 1), (0, .ref (a 0)), (1, .int x1), (2, .int x2), (4, .int x4)]) hx hb d_M_isTold_41 rfl hl (by decide) rfl (fun ls hl => ?_)
            refine lv_iinc (v := x4 + 1) (lv' := [(4, .int (x4 + 1)), (3, .int 1), (0, .ref (a 0)), (1, .int x1), (2, .int x2)]) hx hb d_M_isTold_42 hl (k := 4) rfl rfl (by decide) rfl (fun ls hl => ?_)
            refine lv_goto (tgt := 5) hx hb d_M_isTold_45 (by decide) ?_
            exact ih_5 x1 x2 1 (x4 + 1) ls (lv_sub hl [2, 3, 4, 1, 0] rfl) hok hF
  exact lp_5 200 x1 x2 0 0 ls (lv_sub hl [2, 3, 4, 1, 0] rfl) hok hF
set_option maxHeartbeats 4000000 in
set_option maxRecDepth 100000 in
theorem cM_bookedAt (l : Launch) (D : va_G) (tc : Nat → ClassId) (a : Nat → Nat) (Y : va_W) (sz : Nat) (x1 : Int32) (μ : Nat → Nat → Int32) {F : Int32} (hok : kM_bookedAt x1 μ) (hF : fM_bookedAt x1 μ = F) : Met l y_M_bookedAt (Cond.code y_M_bookedAt b_M_bookedAt 2 (some .int) :: gw) ({ frames := 0, cells := 0, slots := 0, locals := 0 } : Room) (va_Pc [.ref (a 0), .int x1] (pW D tc (mo tc a μ ++ Y) sz)) (qP (.int F)) 0 0 (fun _ => False) := by
  refine en_W (by decide) (Nat.le_of_ble_eq_true rfl) ?_
  intro p e s m args below meth c ls h0 hr hlocks hin hsz hw hl
  obtain ⟨hx, hb, hml, hown, hts, hK⟩ := id h0
  have hl : lv_has ls 2 [(0, .ref (a 0)), (1, .int x1)] := hl
  unfold kM_bookedAt at hok
  unfold fM_bookedAt at hF
  refine lv_bipush (v := 6) hx hb d_M_bookedAt_0 (by decide) ?_
  refine lv_aload_n hx hb d_M_bookedAt_2 rfl (lv_at hl 0 rfl) ?_
  refine mg_20 h0 hw d_M_bookedAt_3 ?_
  refine lv_bipush (v := 20) hx hb d_M_bookedAt_6 (by decide) ?_
  refine lv_iload_n hx hb d_M_bookedAt_8 rfl (lv_at hl 1 rfl) ?_
  refine lv_bipush (v := 120) hx hb d_M_bookedAt_9 (by decide) ?_
  refine lv_idiv hx hb d_M_bookedAt_11 (by decide) ?_
  refine lv_imul hx hb d_M_bookedAt_12 ?_
  refine lv_iload_n hx hb d_M_bookedAt_13 rfl (lv_at hl 1 rfl) ?_
  refine lv_bipush (v := 120) hx hb d_M_bookedAt_14 (by decide) ?_
  refine lv_irem hx hb d_M_bookedAt_16 (by decide) ?_
  refine lv_bipush (v := 6) hx hb d_M_bookedAt_17 (by decide) ?_
  refine lv_idiv hx hb d_M_bookedAt_19 (by decide) ?_
  refine lv_iadd hx hb d_M_bookedAt_20 ?_
  obtain ⟨hi_1, hok⟩ := hok
  refine ml_20 h0 hw hi_1 d_M_bookedAt_21 ?_
  refine lv_imul hx hb d_M_bookedAt_22 ?_
  refine lv_iload_n hx hb d_M_bookedAt_23 rfl (lv_at hl 1 rfl) ?_
  refine lv_bipush (v := 6) hx hb d_M_bookedAt_24 (by decide) ?_
  refine lv_irem hx hb d_M_bookedAt_26 (by decide) ?_
  refine lv_iadd hx hb d_M_bookedAt_27 ?_
  exact rt_p hx hb hr hlocks rfl (by rw [hF]) d_M_bookedAt_28 (Nat.le_refl 0) (Nat.le_refl 0)
set_option maxHeartbeats 4000000 in
set_option maxRecDepth 100000 in
theorem cM_difference (l : Launch) (D : va_G) (tc : Nat → ClassId) (a : Nat → Nat) (Y : va_W) (sz : Nat) (x1 : Int32) (x2 : Int32) (μ : Nat → Nat → Int32) {F : Int32} (hok : kM_difference x1 x2 μ) (hF : fM_difference x1 x2 μ = F) : Met l y_M_difference (Cond.code y_M_difference b_M_difference 7 (some .int) :: gw) ({ frames := 2, cells := 0, slots := 0, locals := 42 } : Room) (va_Pc [.ref (a 0), .int x1, .int x2] (pW D tc (mo tc a μ ++ Y) sz)) (qP (.int F)) 0 0 (fun _ => False) := by
  refine en_W (by decide) (Nat.le_of_ble_eq_true rfl) ?_
  intro p e s m args below meth c ls h0 hr hlocks hin hsz hw hl
  obtain ⟨hx, hb, hml, hown, hts, hK⟩ := id h0
  have hl : lv_has ls 7 [(0, .ref (a 0)), (1, .int x1), (2, .int x2)] := hl
  unfold kM_difference at hok
  unfold fM_difference at hF
  refine lv_iload_n hx hb d_M_difference_0 rfl (lv_at hl 2 rfl) ?_
  refine lv_istore_n (lv' := [(3, .int x2), (0, .ref (a 0)), (1, .int x1), (2, .int x2)]) hx hb d_M_difference_1 rfl hl (by decide) rfl (fun ls hl => ?_)
  refine lv_iconst (v := 0) hx hb d_M_difference_2 (by decide) ?_
  refine lv_istore (lv' := [(4, .int 0), (3, .int x2), (0, .ref (a 0)), (1, .int x1), (2, .int x2)]) hx hb d_M_difference_3 hl (by decide) rfl (fun ls hl => ?_)
  have hx_5 : ∀ (x1 : Int32) (x2 : Int32) (x3 : Int32) (x4 : Int32) (ls : Array Slot), lv_has ls 7 [(0, .ref (a 0)), (1, .int x1), (2, .int x2), (3, .int x3), (4, .int x4)] → kM_difference_5x x1 x2 x3 x4 μ → fM_difference_5x x1 x2 x3 x4 μ = F → W p l e ({ frames := 2, cells := 0, slots := 0, locals := 42 } : Room) s m args below meth c s.heap [] 0 0 (MQ below (qP (.int F)) args s 0 0 (fun _ => False)) (F0 m 106 ls []) := by
    intro x1 x2 x3 x4 ls hl hok hF
    unfold kM_difference_5x at hok
    unfold fM_difference_5x at hF
    refine lv_iconst (v := (-1)) hx hb d_M_difference_106 (by decide) ?_
    exact rt_p hx hb hr hlocks rfl (by rw [hF]) d_M_difference_107 (Nat.le_refl 0) (Nat.le_refl 0)
  have lp_5 : ∀ (n5 : Nat) (x1 : Int32) (x2 : Int32) (x3 : Int32) (x4 : Int32) (ls : Array Slot), lv_has ls 7 [(0, .ref (a 0)), (1, .int x1), (2, .int x2), (3, .int x3), (4, .int x4)] → kM_difference_5 kM_difference_5x n5 x1 x2 x3 x4 μ → fM_difference_5 fM_difference_5x n5 x1 x2 x3 x4 μ = F → W p l e ({ frames := 2, cells := 0, slots := 0, locals := 42 } : Room) s m args below meth c s.heap [] 0 0 (MQ below (qP (.int F)) args s 0 0 (fun _ => False)) (F0 m 5 ls []) := by
    intro n5
    induction n5 with
    | zero =>
      intro x1 x2 x3 x4 ls hl hok hF
      unfold kM_difference_5 at hok
      exact hok.elim
    | succ n5 ih_5 =>
      intro x1 x2 x3 x4 ls hl hok hF
      unfold kM_difference_5 at hok
      unfold fM_difference_5 at hF
      refine lv_iload hx hb d_M_difference_5 (lv_at hl 4 rfl) ?_
      refine lv_aload_n hx hb d_M_difference_7 rfl (lv_at hl 0 rfl) ?_
      refine mg_18 h0 hw d_M_difference_8 ?_
      refine lv_iload_n hx hb d_M_difference_11 rfl (lv_at hl 1 rfl) ?_
      obtain ⟨hi_1, hok⟩ := hok
      refine ml_18 h0 hw hi_1 d_M_difference_12 ?_
      refine lv_icmp_ge (tgt := 106) hx hb d_M_difference_13 (by decide) (fun c_2 => ?_) (fun c_2 => ?_)
      · have hok := hok.1 c_2
        have hF := (if_pos c_2).symm.trans hF
        exact hx_5 x1 x2 x3 x4 ls (lv_sub hl [0, 1, 2, 3, 4] rfl) hok hF
      · have hok := hok.2 c_2
        have hF := (if_neg c_2).symm.trans hF
        refine lv_iload_n hx hb d_M_difference_16 rfl (lv_at hl 2 rfl) ?_
        refine lv_if_lt (tgt := 106) hx hb d_M_difference_17 (by decide) (fun c_3 => ?_) (fun c_3 => ?_)
        · have hok := hok.1 c_3
          have hF := (if_pos c_3).symm.trans hF
          exact hx_5 x1 x2 x3 x4 ls (lv_sub hl [0, 1, 2, 3, 4] rfl) hok hF
        · have hok := hok.2 c_3
          have hF := (if_neg c_3).symm.trans hF
          refine lv_aload_n hx hb d_M_difference_20 rfl (lv_at hl 0 rfl) ?_
          refine mg_17 h0 hw d_M_difference_21 ?_
          refine lv_iload_n hx hb d_M_difference_24 rfl (lv_at hl 1 rfl) ?_
          obtain ⟨hi_4, hok⟩ := hok
          refine ml_17 h0 hw hi_4 d_M_difference_25 ?_
          refine lv_iconst (v := 2) hx hb d_M_difference_26 (by decide) ?_
          refine lv_icmp_ne (tgt := 106) hx hb d_M_difference_27 (by decide) (fun c_5 => ?_) (fun c_5 => ?_)
          · have hok := hok.2 c_5
            have hF := (if_neg c_5).symm.trans hF
            exact hx_5 x1 x2 x3 x4 ls (lv_sub hl [0, 1, 2, 3, 4] rfl) hok hF
          · have hok := hok.1 c_5
            have hF := (if_pos c_5).symm.trans hF
            refine lv_iconst (v := 0) hx hb d_M_difference_30 (by decide) ?_
            refine lv_istore (lv' := [(5, .int 0), (0, .ref (a 0)), (1, .int x1), (2, .int x2), (3, .int x3), (4, .int x4)]) hx hb d_M_difference_31 hl (by decide) rfl (fun ls hl => ?_)
            have hx_33 : ∀ (x1 : Int32) (x2 : Int32) (x3 : Int32) (x4 : Int32) (x5 : Int32) (ls : Array Slot), lv_has ls 7 [(0, .ref (a 0)), (1, .int x1), (2, .int x2), (3, .int x3), (4, .int x4), (5, .int x5)] → (kM_difference_33x (kM_difference_5 kM_difference_5x n5) kM_difference_5x) x1 x2 x3 x4 x5 μ → (fM_difference_33x (fM_difference_5 fM_difference_5x n5) fM_difference_5x) x1 x2 x3 x4 x5 μ = F → W p l e ({ frames := 2, cells := 0, slots := 0, locals := 42 } : Room) s m args below meth c s.heap [] 0 0 (MQ below (qP (.int F)) args s 0 0 (fun _ => False)) (F0 m 100 ls []) := by
              intro x1 x2 x3 x4 x5 ls hl hok hF
              unfold kM_difference_33x at hok
              unfold fM_difference_33x at hF
              refine lv_iinc (v := x4 + 1) (lv' := [(4, .int (x4 + 1)), (0, .ref (a 0)), (1, .int x1), (2, .int x2), (3, .int x3), (5, .int x5)]) hx hb d_M_difference_100 hl (k := 4) rfl rfl (by decide) rfl (fun ls hl => ?_)
              refine lv_goto (tgt := 5) hx hb d_M_difference_103 (by decide) ?_
              exact ih_5 x1 x2 x3 (x4 + 1) ls (lv_sub hl [1, 2, 3, 4, 0] rfl) hok hF
            have lp_33 : ∀ (n33 : Nat) (x1 : Int32) (x2 : Int32) (x3 : Int32) (x4 : Int32) (x5 : Int32) (ls : Array Slot), lv_has ls 7 [(0, .ref (a 0)), (1, .int x1), (2, .int x2), (3, .int x3), (4, .int x4), (5, .int x5)] → kM_difference_33 (kM_difference_5 kM_difference_5x n5) kM_difference_5x (kM_difference_33x (kM_difference_5 kM_difference_5x n5) kM_difference_5x) n33 x1 x2 x3 x4 x5 μ → fM_difference_33 (fM_difference_5 fM_difference_5x n5) fM_difference_5x (fM_difference_33x (fM_difference_5 fM_difference_5x n5) fM_difference_5x) n33 x1 x2 x3 x4 x5 μ = F → W p l e ({ frames := 2, cells := 0, slots := 0, locals := 42 } : Room) s m args below meth c s.heap [] 0 0 (MQ below (qP (.int F)) args s 0 0 (fun _ => False)) (F0 m 33 ls []) := by
              intro n33
              induction n33 with
              | zero =>
                intro x1 x2 x3 x4 x5 ls hl hok hF
                unfold kM_difference_33 at hok
                exact hok.elim
              | succ n33 ih_33 =>
                intro x1 x2 x3 x4 x5 ls hl hok hF
                unfold kM_difference_33 at hok
                unfold fM_difference_33 at hF
                refine lv_iload hx hb d_M_difference_33 (lv_at hl 5 rfl) ?_
                refine lv_bipush (v := 6) hx hb d_M_difference_35 (by decide) ?_
                refine lv_icmp_ge (tgt := 100) hx hb d_M_difference_37 (by decide) (fun c_6 => ?_) (fun c_6 => ?_)
                · have hok := hok.1 c_6
                  have hF := (if_pos c_6).symm.trans hF
                  exact hx_33 x1 x2 x3 x4 x5 ls (lv_sub hl [0, 1, 2, 3, 4, 5] rfl) hok hF
                · have hok := hok.2 c_6
                  have hF := (if_neg c_6).symm.trans hF
                  refine lv_aload_n hx hb d_M_difference_40 rfl (lv_at hl 0 rfl) ?_
                  refine lv_iload_n hx hb d_M_difference_41 rfl (lv_at hl 1 rfl) ?_
                  refine lv_iload hx hb d_M_difference_42 (lv_at hl 4 rfl) ?_
                  obtain ⟨hi_7, hok⟩ := hok
                  refine cv_p (n := 2) (C := "CountRoundsModel") (b := a 0) (q0 := 0) (ci := 4) (As := [.int x1, .int x4]) (rest := []) h0 hw (cM_isTold l D tc a Y s.heap.size x1 x4 μ hi_7 rfl) (gd_V wd_818 wd_820 (gw_s 33 rfl rfl) wd_3 wd_821) (by decide +kernel) ⟨rfl, rfl, Nat.le_of_ble_eq_true rfl, Nat.le_of_ble_eq_true rfl, Nat.le_of_ble_eq_true rfl, Nat.le_of_ble_eq_true rfl⟩ rfl rfl rfl hl.1 rfl (Nat.le_of_ble_eq_true rfl) d_M_difference_44 ?_
                  refine lv_if_eq (tgt := 100) hx hb d_M_difference_47 (by decide) (fun c_8 => ?_) (fun c_8 => ?_)
                  · have hok := hok.1 c_8
                    have hF := (if_pos c_8).symm.trans hF
                    exact hx_33 x1 x2 x3 x4 x5 ls (lv_sub hl [0, 1, 2, 3, 4, 5] rfl) hok hF
                  · have hok := hok.2 c_8
                    have hF := (if_neg c_8).symm.trans hF
                    refine lv_bipush (v := 120) hx hb d_M_difference_50 (by decide) ?_
                    refine lv_iload_n hx hb d_M_difference_52 rfl (lv_at hl 1 rfl) ?_
                    refine lv_imul hx hb d_M_difference_53 ?_
                    refine lv_bipush (v := 6) hx hb d_M_difference_54 (by decide) ?_
                    refine lv_iload hx hb d_M_difference_56 (lv_at hl 4 rfl) ?_
                    refine lv_imul hx hb d_M_difference_58 ?_
                    refine lv_iadd hx hb d_M_difference_59 ?_
                    refine lv_iload hx hb d_M_difference_60 (lv_at hl 5 rfl) ?_
                    refine lv_iadd hx hb d_M_difference_62 ?_
                    refine lv_istore (lv' := [(6, .int (((120 * x1) + (6 * x4)) + x5)), (0, .ref (a 0)), (1, .int x1), (2, .int x2), (3, .int x3), (4, .int x4), (5, .int x5)]) hx hb d_M_difference_63 hl (by decide) rfl (fun ls hl => ?_)
                    refine lv_aload_n hx hb d_M_difference_65 rfl (lv_at hl 1 rfl) ?_
                    refine lv_iload hx hb d_M_difference_66 (lv_at hl 0 rfl) ?_
                    obtain ⟨hi_9, hok⟩ := hok
                    refine cv_p (n := 1) (C := "CountRoundsModel") (b := a 0) (q0 := 0) (ci := 4) (As := [.int (((120 * x1) + (6 * x4)) + x5)]) (rest := []) h0 hw (cM_counts l D tc a Y s.heap.size (((120 * x1) + (6 * x4)) + x5) μ hi_9 rfl) (gd_V wd_822 wd_824 (gw_s 34 rfl rfl) wd_3 wd_825) (by decide +kernel) ⟨rfl, rfl, Nat.le_of_ble_eq_true rfl, Nat.le_of_ble_eq_true rfl, Nat.le_of_ble_eq_true rfl, Nat.le_of_ble_eq_true rfl⟩ rfl rfl rfl hl.1 rfl (Nat.le_of_ble_eq_true rfl) d_M_difference_68 ?_
                    refine lv_aload_n hx hb d_M_difference_71 rfl (lv_at hl 1 rfl) ?_
                    refine mg_21 h0 hw d_M_difference_72 ?_
                    refine lv_iload hx hb d_M_difference_75 (lv_at hl 0 rfl) ?_
                    obtain ⟨hi_10, hok⟩ := hok
                    refine ml_21 h0 hw hi_10 d_M_difference_77 ?_
                    refine lv_icmp_ne (tgt := 84) hx hb d_M_difference_78 (by decide) (fun c_11 => ?_) (fun c_11 => ?_)
                    · have hok := hok.2 c_11
                      have hF := (if_neg c_11).symm.trans hF
                      refine lv_iload_n hx hb d_M_difference_84 rfl (lv_at hl 4 rfl) ?_
                      refine lv_if_ne (tgt := 91) hx hb d_M_difference_85 (by decide) (fun c_12 => ?_) (fun c_12 => ?_)
                      · have hok := hok.2 c_12
                        have hF := (if_neg c_12).symm.trans hF
                        refine lv_iinc (v := x3 + (-1)) (lv' := [(3, .int (x3 + (-1))), (6, .int (((120 * x1) + (6 * x4)) + x5)), (0, .ref (a 0)), (1, .int x1), (2, .int x2), (4, .int x4), (5, .int x5)]) hx hb d_M_difference_91 hl (k := 4) rfl rfl (by decide) rfl (fun ls hl => ?_)
                        refine lv_iinc (v := x5 + 1) (lv' := [(5, .int (x5 + 1)), (3, .int (x3 + (-1))), (6, .int (((120 * x1) + (6 * x4)) + x5)), (0, .ref (a 0)), (1, .int x1), (2, .int x2), (4, .int x4)]) hx hb d_M_difference_94 hl (k := 6) rfl rfl (by decide) rfl (fun ls hl => ?_)
                        refine lv_goto (tgt := 33) hx hb d_M_difference_97 (by decide) ?_
                        exact ih_33 x1 x2 (x3 + (-1)) x4 (x5 + 1) ls (lv_sub hl [3, 4, 5, 1, 6, 0] rfl) hok hF
                      · have hok := hok.1 c_12
                        have hF := (if_pos c_12).symm.trans hF
                        refine lv_iload hx hb d_M_difference_88 (lv_at hl 0 rfl) ?_
                        exact rt_p hx hb hr hlocks rfl (by rw [hF]) d_M_difference_90 (Nat.le_refl 0) (Nat.le_refl 0)
                    · have hok := hok.1 c_11
                      have hF := (if_pos c_11).symm.trans hF
                      refine lv_goto (tgt := 94) hx hb d_M_difference_81 (by decide) ?_
                      refine lv_iinc (v := x5 + 1) (lv' := [(5, .int (x5 + 1)), (6, .int (((120 * x1) + (6 * x4)) + x5)), (0, .ref (a 0)), (1, .int x1), (2, .int x2), (3, .int x3), (4, .int x4)]) hx hb d_M_difference_94 hl (k := 6) rfl rfl (by decide) rfl (fun ls hl => ?_)
                      refine lv_goto (tgt := 33) hx hb d_M_difference_97 (by decide) ?_
                      exact ih_33 x1 x2 x3 x4 (x5 + 1) ls (lv_sub hl [2, 3, 4, 5, 6, 0] rfl) hok hF
            exact lp_33 200 x1 x2 x3 x4 0 ls (lv_sub hl [1, 2, 3, 4, 5, 0] rfl) hok hF
  exact lp_5 200 x1 x2 x2 0 ls (lv_sub hl [2, 3, 4, 1, 0] rfl) hok hF
end
section
def fM_closePlace_28x  (x1 : Int32) (x2 : Int32) (x3 : Int32) (x4 : Int32) (x5 : Int32) (μ : Nat → Nat → Int32) : Nat → Nat → Int32 := if x4 = 0 then (u2 (u2 (u2 μ 5 x3.toNatClampNeg (μ 1 0)) 26 0 ((μ 26 0) + 1)) 27 0 ((μ 27 0) + 0)) else (u2 (u2 (u2 μ 5 x3.toNatClampNeg (μ 1 0)) 26 0 ((μ 26 0) + 1)) 27 0 ((μ 27 0) + 1))
def kM_closePlace_28x  (x1 : Int32) (x2 : Int32) (x3 : Int32) (x4 : Int32) (x5 : Int32) (μ : Nat → Nat → Int32) : Prop := (vp_in x3 20) ∧ ((x4 = 0 → True) ∧ (¬ (x4 = 0) → True))
def fM_closePlace_28  (E28 : Int32 → Int32 → Int32 → Int32 → Int32 → (Nat → Nat → Int32) → (Nat → Nat → Int32)) : Nat → Int32 → Int32 → Int32 → Int32 → Int32 → (Nat → Nat → Int32) → (Nat → Nat → Int32)
  | 0, _, _, _, _, _, _ => fun _ _ => 0
  | n + 1, x1, x2, x3, x4, x5, μ => if 6 ≤ x5 then E28 x1 x2 x3 x4 x5 μ else if x4 = 0 then (fM_closePlace_28 E28 n) x1 x2 x3 0 (x5 + 1) μ else if (μ 8 (μ 4 x3.toNatClampNeg).toNatClampNeg) < (fM_far (fM_counts (((120 * x1) + (6 * x2)) + x5) μ) (μ 21 (((120 * x1) + (6 * x2)) + x5).toNatClampNeg)) then (fM_closePlace_28 E28 n) x1 x2 x3 0 (x5 + 1) μ else (fM_closePlace_28 E28 n) x1 x2 x3 1 (x5 + 1) μ
def kM_closePlace_28  (KE28 : Int32 → Int32 → Int32 → Int32 → Int32 → (Nat → Nat → Int32) → Prop) : Nat → Int32 → Int32 → Int32 → Int32 → Int32 → (Nat → Nat → Int32) → Prop
  | 0, _, _, _, _, _, _ => False
  | n + 1, x1, x2, x3, x4, x5, μ => (6 ≤ x5 → KE28 x1 x2 x3 x4 x5 μ) ∧ (¬ (6 ≤ x5) → (x4 = 0 → (kM_closePlace_28 KE28 n) x1 x2 x3 0 (x5 + 1) μ) ∧ (¬ (x4 = 0) → (kM_counts (((120 * x1) + (6 * x2)) + x5) μ) ∧ ((vp_in (((120 * x1) + (6 * x2)) + x5) 2520) ∧ ((kM_far (fM_counts (((120 * x1) + (6 * x2)) + x5) μ) (μ 21 (((120 * x1) + (6 * x2)) + x5).toNatClampNeg)) ∧ ((vp_in x3 20) ∧ ((vp_in (μ 4 x3.toNatClampNeg) 3) ∧ (((μ 8 (μ 4 x3.toNatClampNeg).toNatClampNeg) < (fM_far (fM_counts (((120 * x1) + (6 * x2)) + x5) μ) (μ 21 (((120 * x1) + (6 * x2)) + x5).toNatClampNeg)) → (kM_closePlace_28 KE28 n) x1 x2 x3 0 (x5 + 1) μ) ∧ (¬ ((μ 8 (μ 4 x3.toNatClampNeg).toNatClampNeg) < (fM_far (fM_counts (((120 * x1) + (6 * x2)) + x5) μ) (μ 21 (((120 * x1) + (6 * x2)) + x5).toNatClampNeg))) → (kM_closePlace_28 KE28 n) x1 x2 x3 1 (x5 + 1) μ))))))))
def fM_closePlace (x1 : Int32) (x2 : Int32) (μ : Nat → Nat → Int32) : Nat → Nat → Int32 := if (fM_isTold x1 x2 μ) = 0 then μ else fM_closePlace_28 fM_closePlace_28x 200 x1 x2 (μ 20 ((20 * x1) + x2).toNatClampNeg) 1 0 μ
def kM_closePlace (x1 : Int32) (x2 : Int32) (μ : Nat → Nat → Int32) : Prop := (kM_isTold x1 x2 μ) ∧ (((fM_isTold x1 x2 μ) = 0 → True) ∧ (¬ ((fM_isTold x1 x2 μ) = 0) → (vp_in ((20 * x1) + x2) 420) ∧ (kM_closePlace_28 kM_closePlace_28x 200 x1 x2 (μ 20 ((20 * x1) + x2).toNatClampNeg) 1 0 μ)))
def fM_place (x1 : Int32) (μ : Nat → Nat → Int32) : Int32 × (Nat → Nat → Int32) := if (fM_in x1 0 2) = 0 then (0, (u2 μ 0 0 1)) else if (μ 3 0) = 20 then (0, (u2 μ 0 0 2)) else (((μ 3 0) + 1) - 1, (u2 (u2 (u2 (u2 μ 0 0 0) 4 (μ 3 0).toNatClampNeg x1) 5 (μ 3 0).toNatClampNeg (-1)) 3 0 ((μ 3 0) + 1)))
def kM_place (x1 : Int32) (μ : Nat → Nat → Int32) : Prop := (kM_in x1 0 2) ∧ (((fM_in x1 0 2) = 0 → True) ∧ (¬ ((fM_in x1 0 2) = 0) → ((μ 3 0) = 20 → True) ∧ (¬ ((μ 3 0) = 20) → (vp_in (μ 3 0) 20) ∧ ((vp_in (μ 3 0) 20) ∧ (True)))))
def fM_stock (x1 : Int32) (x2 : Int32) (x3 : Int32) (μ : Nat → Nat → Int32) : Nat → Nat → Int32 := if (fM_isPlace x1 μ) = 0 then (u2 μ 0 0 1) else if (fM_isGood x2) = 0 then (u2 μ 0 0 2) else if (fM_in x3 0 1000000) = 0 then (u2 μ 0 0 2) else (u2 (u2 μ 0 0 0) 6 ((6 * x1) + x2).toNatClampNeg x3)
def kM_stock (x1 : Int32) (x2 : Int32) (x3 : Int32) (μ : Nat → Nat → Int32) : Prop := (kM_isPlace x1 μ) ∧ (((fM_isPlace x1 μ) = 0 → True) ∧ (¬ ((fM_isPlace x1 μ) = 0) → (kM_isGood x2) ∧ (((fM_isGood x2) = 0 → True) ∧ (¬ ((fM_isGood x2) = 0) → (kM_in x3 0 1000000) ∧ (((fM_in x3 0 1000000) = 0 → True) ∧ (¬ ((fM_in x3 0 1000000) = 0) → (vp_in ((6 * x1) + x2) 120) ∧ (True)))))))
def fM_cycle (x1 : Int32) (x2 : Int32) (x3 : Int32) (μ : Nat → Nat → Int32) : Nat → Nat → Int32 := if (fM_in x1 0 2) = 0 then (u2 μ 0 0 1) else if (fM_in x2 1 1000) = 0 then (u2 μ 0 0 1) else if (fM_in x3 0 1000) = 0 then (u2 μ 0 0 1) else (u2 (u2 (u2 μ 0 0 0) 7 x1.toNatClampNeg x2) 8 x1.toNatClampNeg x3)
def kM_cycle (x1 : Int32) (x2 : Int32) (x3 : Int32) (μ : Nat → Nat → Int32) : Prop := (kM_in x1 0 2) ∧ (((fM_in x1 0 2) = 0 → True) ∧ (¬ ((fM_in x1 0 2) = 0) → (kM_in x2 1 1000) ∧ (((fM_in x2 1 1000) = 0 → True) ∧ (¬ ((fM_in x2 1 1000) = 0) → (kM_in x3 0 1000) ∧ (((fM_in x3 0 1000) = 0 → True) ∧ (¬ ((fM_in x3 0 1000) = 0) → (vp_in x1 3) ∧ ((vp_in x1 3) ∧ (True))))))))
def fM_right (x1 : Int32) (x2 : Int32) (μ : Nat → Nat → Int32) : Nat → Nat → Int32 := if (fM_isPerson x1) = 0 then (u2 μ 0 0 1) else if (fM_in x2 0 1000000) = 0 then (u2 μ 0 0 1) else (u2 (u2 μ 0 0 0) 9 x1.toNatClampNeg x2)
def kM_right (x1 : Int32) (x2 : Int32) (μ : Nat → Nat → Int32) : Prop := (kM_isPerson x1) ∧ (((fM_isPerson x1) = 0 → True) ∧ (¬ ((fM_isPerson x1) = 0) → (kM_in x2 0 1000000) ∧ (((fM_in x2 0 1000000) = 0 → True) ∧ (¬ ((fM_in x2 0 1000000) = 0) → (vp_in x1 6) ∧ (True)))))
def fM_setting (x1 : Int32) (μ : Nat → Nat → Int32) : Nat → Nat → Int32 := if (fM_in x1 0 1) = 0 then (u2 μ 0 0 1) else (u2 (u2 μ 0 0 0) 2 0 x1)
def kM_setting (x1 : Int32) (μ : Nat → Nat → Int32) : Prop := (kM_in x1 0 1) ∧ (((fM_in x1 0 1) = 0 → True) ∧ (¬ ((fM_in x1 0 1) = 0) → True))
def fM_day (x1 : Int32) (μ : Nat → Nat → Int32) : Nat → Nat → Int32 := if (fM_in x1 0 10000) = 0 then (u2 μ 0 0 1) else if (μ 1 0) ≤ x1 then (u2 (u2 μ 0 0 0) 1 0 x1) else (u2 μ 0 0 2)
def kM_day (x1 : Int32) (μ : Nat → Nat → Int32) : Prop := (kM_in x1 0 10000) ∧ (((fM_in x1 0 10000) = 0 → True) ∧ (¬ ((fM_in x1 0 10000) = 0) → ((μ 1 0) ≤ x1 → True) ∧ (¬ ((μ 1 0) ≤ x1) → True)))
def fM_move (x1 : Int32) (x2 : Int32) (x3 : Int32) (x4 : Int32) (μ : Nat → Nat → Int32) : Int32 × (Nat → Nat → Int32) := if (fM_isPlace x1 μ) = 0 then (0, (u2 μ 0 0 1)) else if (fM_isPlace x2 μ) = 0 then (0, (u2 μ 0 0 1)) else if (fM_isGood x3) = 0 then (0, (u2 μ 0 0 2)) else if (fM_in x4 1 1000000) = 0 then (0, (u2 μ 0 0 2)) else if x1 = x2 then (0, (u2 μ 0 0 2)) else if x4 ≤ (μ 6 ((6 * x1) + x3).toNatClampNeg) then if (μ 10 0) = 60 then (0, (u2 (u2 μ 0 0 0) 0 0 4)) else (((μ 10 0) + 1), (u2 (u2 (u2 (u2 (u2 (u2 (u2 (u2 μ 0 0 0) 0 0 0) 6 ((6 * x1) + x3).toNatClampNeg ((μ 6 ((6 * x1) + x3).toNatClampNeg) - x4)) 10 0 ((μ 10 0) + 1)) 11 ((μ 10 0) + 1).toNatClampNeg x1) 12 ((μ 10 0) + 1).toNatClampNeg x2) 13 ((μ 10 0) + 1).toNatClampNeg x3) 14 ((μ 10 0) + 1).toNatClampNeg x4)) else (0, (u2 (u2 μ 0 0 0) 0 0 3))
def kM_move (x1 : Int32) (x2 : Int32) (x3 : Int32) (x4 : Int32) (μ : Nat → Nat → Int32) : Prop := (kM_isPlace x1 μ) ∧ (((fM_isPlace x1 μ) = 0 → True) ∧ (¬ ((fM_isPlace x1 μ) = 0) → (kM_isPlace x2 μ) ∧ (((fM_isPlace x2 μ) = 0 → True) ∧ (¬ ((fM_isPlace x2 μ) = 0) → (kM_isGood x3) ∧ (((fM_isGood x3) = 0 → True) ∧ (¬ ((fM_isGood x3) = 0) → (kM_in x4 1 1000000) ∧ (((fM_in x4 1 1000000) = 0 → True) ∧ (¬ ((fM_in x4 1 1000000) = 0) → (x1 = x2 → True) ∧ (¬ (x1 = x2) → (vp_in ((6 * x1) + x3) 120) ∧ ((x4 ≤ (μ 6 ((6 * x1) + x3).toNatClampNeg) → ((μ 10 0) = 60 → True) ∧ (¬ ((μ 10 0) = 60) → (vp_in ((6 * x1) + x3) 120) ∧ ((vp_in ((6 * x1) + x3) 120) ∧ ((vp_in ((μ 10 0) + 1) 61) ∧ ((vp_in ((μ 10 0) + 1) 61) ∧ ((vp_in ((μ 10 0) + 1) 61) ∧ ((vp_in ((μ 10 0) + 1) 61) ∧ (True)))))))) ∧ (¬ (x4 ≤ (μ 6 ((6 * x1) + x3).toNatClampNeg)) → True)))))))))))
def fM_end (x1 : Int32) (μ : Nat → Nat → Int32) : Nat → Nat → Int32 := if (fM_in x1 1 (μ 10 0)) = 0 then (u2 μ 0 0 1) else if (μ 15 x1.toNatClampNeg) = 0 then if ((μ 6 ((6 * (μ 12 x1.toNatClampNeg)) + (μ 13 x1.toNatClampNeg)).toNatClampNeg) + (μ 14 x1.toNatClampNeg)) ≤ 1000000 then (u2 (u2 (u2 (u2 μ 0 0 0) 0 0 0) 15 x1.toNatClampNeg (vp_nar .boolean 1)) 6 ((6 * (μ 12 x1.toNatClampNeg)) + (μ 13 x1.toNatClampNeg)).toNatClampNeg ((μ 6 ((6 * (μ 12 x1.toNatClampNeg)) + (μ 13 x1.toNatClampNeg)).toNatClampNeg) + (μ 14 x1.toNatClampNeg))) else (u2 (u2 μ 0 0 0) 0 0 2) else (u2 (u2 μ 0 0 0) 0 0 2)
def kM_end (x1 : Int32) (μ : Nat → Nat → Int32) : Prop := (kM_in x1 1 (μ 10 0)) ∧ (((fM_in x1 1 (μ 10 0)) = 0 → True) ∧ (¬ ((fM_in x1 1 (μ 10 0)) = 0) → (vp_in x1 61) ∧ ((vp_in x1 61) ∧ ((vp_in x1 61) ∧ (((μ 15 x1.toNatClampNeg) = 0 → (vp_in ((6 * (μ 12 x1.toNatClampNeg)) + (μ 13 x1.toNatClampNeg)) 120) ∧ ((vp_in x1 61) ∧ ((((μ 6 ((6 * (μ 12 x1.toNatClampNeg)) + (μ 13 x1.toNatClampNeg)).toNatClampNeg) + (μ 14 x1.toNatClampNeg)) ≤ 1000000 → (vp_in x1 61) ∧ ((vp_in ((6 * (μ 12 x1.toNatClampNeg)) + (μ 13 x1.toNatClampNeg)) 120) ∧ ((vp_in x1 61) ∧ ((vp_in ((6 * (μ 12 x1.toNatClampNeg)) + (μ 13 x1.toNatClampNeg)) 120) ∧ (True))))) ∧ (¬ (((μ 6 ((6 * (μ 12 x1.toNatClampNeg)) + (μ 13 x1.toNatClampNeg)).toNatClampNeg) + (μ 14 x1.toNatClampNeg)) ≤ 1000000) → True)))) ∧ (¬ ((μ 15 x1.toNatClampNeg) = 0) → True))))))
def fM_moves (x1 : Int32) (μ : Nat → Nat → Int32) : Int32 × (Nat → Nat → Int32) := if (fM_isPlace x1 μ) = 0 then (0, (u2 μ 0 0 1)) else (fM_openAt x1 (u2 μ 0 0 0), (u2 μ 0 0 0))
def kM_moves (x1 : Int32) (μ : Nat → Nat → Int32) : Prop := (kM_isPlace x1 μ) ∧ (((fM_isPlace x1 μ) = 0 → True) ∧ (¬ ((fM_isPlace x1 μ) = 0) → (kM_openAt x1 (u2 μ 0 0 0)) ∧ (True)))
def fM_share (x1 : Int32) (μ : Nat → Nat → Int32) : Int32 × (Nat → Nat → Int32) := if (fM_in x1 0 1) = 0 then (0, (u2 μ 0 0 1)) else if (μ 26 0) = 0 then (0, (u2 μ 0 0 2)) else if x1 = 0 then ((μ 27 0) / (fM_divisor (μ 27 0) (μ 26 0)), (u2 μ 0 0 0)) else ((μ 26 0) / (fM_divisor (μ 27 0) (μ 26 0)), (u2 μ 0 0 0))
def kM_share (x1 : Int32) (μ : Nat → Nat → Int32) : Prop := (kM_in x1 0 1) ∧ (((fM_in x1 0 1) = 0 → True) ∧ (¬ ((fM_in x1 0 1) = 0) → ((μ 26 0) = 0 → True) ∧ (¬ ((μ 26 0) = 0) → (kM_divisor (μ 27 0) (μ 26 0)) ∧ ((x1 = 0 → (¬ (fM_divisor (μ 27 0) (μ 26 0)) = 0) ∧ (True)) ∧ (¬ (x1 = 0) → (¬ (fM_divisor (μ 27 0) (μ 26 0)) = 0) ∧ (True))))))
def fM_last (x1 : Int32) (μ : Nat → Nat → Int32) : Int32 × (Nat → Nat → Int32) := if (fM_isPlace x1 μ) = 0 then (0, (u2 μ 0 0 1)) else (μ 5 x1.toNatClampNeg, (u2 μ 0 0 0))
def kM_last (x1 : Int32) (μ : Nat → Nat → Int32) : Prop := (kM_isPlace x1 μ) ∧ (((fM_isPlace x1 μ) = 0 → True) ∧ (¬ ((fM_isPlace x1 μ) = 0) → (vp_in x1 20) ∧ (True)))
def fM_due_24x  (x1 : Int32) (x2 : Int32) (x3 : Int32) (μ : Nat → Nat → Int32) : Int32 × (Nat → Nat → Int32) := (x2, μ)
def kM_due_24x  (x1 : Int32) (x2 : Int32) (x3 : Int32) (μ : Nat → Nat → Int32) : Prop := True
def fM_due_24  (E24 : Int32 → Int32 → Int32 → (Nat → Nat → Int32) → (Int32 × (Nat → Nat → Int32))) : Nat → Int32 → Int32 → Int32 → (Nat → Nat → Int32) → (Int32 × (Nat → Nat → Int32))
  | 0, _, _, _, _ => (0, fun _ _ => 0)
  | n + 1, x1, x2, x3, μ => if (μ 3 0) ≤ x3 then E24 x1 x2 x3 μ else if (μ 0 0) = 0 then if (μ 5 x3.toNatClampNeg) = (-1) then (fM_due_24 E24 n) x1 (x2 + 1) (x3 + 1) μ else if (x1 - (μ 5 x3.toNatClampNeg)) < (μ 7 (μ 4 x3.toNatClampNeg).toNatClampNeg) then (fM_due_24 E24 n) x1 (x2 + 0) (x3 + 1) μ else (fM_due_24 E24 n) x1 (x2 + 1) (x3 + 1) μ else E24 x1 x2 x3 μ
def kM_due_24  (KE24 : Int32 → Int32 → Int32 → (Nat → Nat → Int32) → Prop) : Nat → Int32 → Int32 → Int32 → (Nat → Nat → Int32) → Prop
  | 0, _, _, _, _ => False
  | n + 1, x1, x2, x3, μ => ((μ 3 0) ≤ x3 → KE24 x1 x2 x3 μ) ∧ (¬ ((μ 3 0) ≤ x3) → ((μ 0 0) = 0 → (vp_in x3 20) ∧ (((μ 5 x3.toNatClampNeg) = (-1) → (kM_due_24 KE24 n) x1 (x2 + 1) (x3 + 1) μ) ∧ (¬ ((μ 5 x3.toNatClampNeg) = (-1)) → (vp_in x3 20) ∧ ((vp_in x3 20) ∧ ((vp_in (μ 4 x3.toNatClampNeg) 3) ∧ (((x1 - (μ 5 x3.toNatClampNeg)) < (μ 7 (μ 4 x3.toNatClampNeg).toNatClampNeg) → (kM_due_24 KE24 n) x1 (x2 + 0) (x3 + 1) μ) ∧ (¬ ((x1 - (μ 5 x3.toNatClampNeg)) < (μ 7 (μ 4 x3.toNatClampNeg).toNatClampNeg)) → (kM_due_24 KE24 n) x1 (x2 + 1) (x3 + 1) μ))))))) ∧ (¬ ((μ 0 0) = 0) → KE24 x1 x2 x3 μ))
def fM_due (x1 : Int32) (μ : Nat → Nat → Int32) : Int32 × (Nat → Nat → Int32) := if (fM_in x1 0 10000) = 0 then fM_due_24 fM_due_24x 200 x1 0 0 (u2 μ 0 0 1) else fM_due_24 fM_due_24x 200 x1 0 0 (u2 μ 0 0 0)
def kM_due (x1 : Int32) (μ : Nat → Nat → Int32) : Prop := (kM_in x1 0 10000) ∧ (((fM_in x1 0 10000) = 0 → kM_due_24 kM_due_24x 200 x1 0 0 (u2 μ 0 0 1)) ∧ (¬ ((fM_in x1 0 10000) = 0) → kM_due_24 kM_due_24x 200 x1 0 0 (u2 μ 0 0 0)))
def fM_booked (x1 : Int32) (x2 : Int32) (μ : Nat → Nat → Int32) : Int32 × (Nat → Nat → Int32) := if (fM_isPlace x1 μ) = 0 then (0, (u2 μ 0 0 1)) else if (fM_isGood x2) = 0 then (0, (u2 μ 0 0 2)) else (μ 6 ((6 * x1) + x2).toNatClampNeg, (u2 μ 0 0 0))
def kM_booked (x1 : Int32) (x2 : Int32) (μ : Nat → Nat → Int32) : Prop := (kM_isPlace x1 μ) ∧ (((fM_isPlace x1 μ) = 0 → True) ∧ (¬ ((fM_isPlace x1 μ) = 0) → (kM_isGood x2) ∧ (((fM_isGood x2) = 0 → True) ∧ (¬ ((fM_isGood x2) = 0) → (vp_in ((6 * x1) + x2) 120) ∧ (True)))))
def fM_told (x1 : Int32) (x2 : Int32) (μ : Nat → Nat → Int32) : Int32 × (Nat → Nat → Int32) := if (fM_isCount x1 μ) = 0 then (0, (u2 μ 0 0 1)) else if x2 < 0 then (0, (u2 μ 0 0 2)) else if (fM_in x2 3 9) = 0 then if x2 = 0 then (μ 17 x1.toNatClampNeg, (u2 μ 0 0 0)) else if x2 = 1 then (μ 18 x1.toNatClampNeg, (u2 μ 0 0 0)) else if x2 = 2 then (μ 19 x1.toNatClampNeg, (u2 μ 0 0 0)) else if (μ 18 x1.toNatClampNeg) ≤ (x2 - 10) then ((-1), (u2 μ 0 0 0)) else (μ 20 (((20 * x1) + x2) - 10).toNatClampNeg, (u2 μ 0 0 0)) else (0, (u2 μ 0 0 2))
def kM_told (x1 : Int32) (x2 : Int32) (μ : Nat → Nat → Int32) : Prop := (kM_isCount x1 μ) ∧ (((fM_isCount x1 μ) = 0 → True) ∧ (¬ ((fM_isCount x1 μ) = 0) → (x2 < 0 → True) ∧ (¬ (x2 < 0) → (kM_in x2 3 9) ∧ (((fM_in x2 3 9) = 0 → (x2 = 0 → (vp_in x1 21) ∧ (True)) ∧ (¬ (x2 = 0) → (x2 = 1 → (vp_in x1 21) ∧ (True)) ∧ (¬ (x2 = 1) → (x2 = 2 → (vp_in x1 21) ∧ (True)) ∧ (¬ (x2 = 2) → (vp_in x1 21) ∧ (((μ 18 x1.toNatClampNeg) ≤ (x2 - 10) → True) ∧ (¬ ((μ 18 x1.toNatClampNeg) ≤ (x2 - 10)) → (vp_in (((20 * x1) + x2) - 10) 420) ∧ (True))))))) ∧ (¬ ((fM_in x2 3 9) = 0) → True)))))
def fM_count_48x  (x1 : Int32) (x2 : Int32) (x3 : Int32) (μ : Nat → Nat → Int32) : Int32 × (Nat → Nat → Int32) := if x1 = 4 then (x2, μ) else ((-1), μ)
def kM_count_48x  (x1 : Int32) (x2 : Int32) (x3 : Int32) (μ : Nat → Nat → Int32) : Prop := (x1 = 4 → True) ∧ (¬ (x1 = 4) → True)
def fM_count_48  (E48 : Int32 → Int32 → Int32 → (Nat → Nat → Int32) → (Int32 × (Nat → Nat → Int32))) : Nat → Int32 → Int32 → Int32 → (Nat → Nat → Int32) → (Int32 × (Nat → Nat → Int32))
  | 0, _, _, _, _ => (0, fun _ _ => 0)
  | n + 1, x1, x2, x3, μ => if (μ 10 0) < x3 then E48 x1 x2 x3 μ else if (μ 15 x3.toNatClampNeg) = 0 then (fM_count_48 E48 n) x1 (x2 + 1) (x3 + 1) μ else (fM_count_48 E48 n) x1 (x2 + 0) (x3 + 1) μ
def kM_count_48  (KE48 : Int32 → Int32 → Int32 → (Nat → Nat → Int32) → Prop) : Nat → Int32 → Int32 → Int32 → (Nat → Nat → Int32) → Prop
  | 0, _, _, _, _ => False
  | n + 1, x1, x2, x3, μ => ((μ 10 0) < x3 → KE48 x1 x2 x3 μ) ∧ (¬ ((μ 10 0) < x3) → (vp_in x3 61) ∧ (((μ 15 x3.toNatClampNeg) = 0 → (kM_count_48 KE48 n) x1 (x2 + 1) (x3 + 1) μ) ∧ (¬ ((μ 15 x3.toNatClampNeg) = 0) → (kM_count_48 KE48 n) x1 (x2 + 0) (x3 + 1) μ)))
def fM_count (x1 : Int32) (μ : Nat → Nat → Int32) : Int32 × (Nat → Nat → Int32) := if x1 = 0 then (μ 3 0, (u2 μ 0 0 0)) else if x1 = 1 then (μ 10 0, (u2 μ 0 0 0)) else if x1 = 2 then (μ 16 0, (u2 μ 0 0 0)) else if x1 = 3 then (μ 1 0, (u2 μ 0 0 0)) else fM_count_48 fM_count_48x 200 x1 0 1 (u2 μ 0 0 0)
def kM_count (x1 : Int32) (μ : Nat → Nat → Int32) : Prop := (x1 = 0 → True) ∧ (¬ (x1 = 0) → (x1 = 1 → True) ∧ (¬ (x1 = 1) → (x1 = 2 → True) ∧ (¬ (x1 = 2) → (x1 = 3 → True) ∧ (¬ (x1 = 3) → kM_count_48 kM_count_48x 200 x1 0 1 (u2 μ 0 0 0)))))
set_option maxHeartbeats 4000000 in
set_option maxRecDepth 100000 in
theorem cM_closePlace (l : Launch) (D : va_G) (tc : Nat → ClassId) (a : Nat → Nat) (Y : va_W) (sz : Nat) (x1 : Int32) (x2 : Int32) (μ : Nat → Nat → Int32) {F : Nat → Nat → Int32} (hok : kM_closePlace x1 x2 μ) (hF : fM_closePlace x1 x2 μ = F) : Met l y_M_closePlace (Cond.code y_M_closePlace b_M_closePlace 7 none :: gw) ({ frames := 2, cells := 0, slots := 0, locals := 42 } : Room) (va_Pc [.ref (a 0), .int x1, .int x2] (pW D tc (mo tc a μ ++ Y) sz)) (va_Qv (fun u => u = F) (fun u t => qW D tc (va_A (mo tc a μ ++ Y) sz) (mo tc a u ++ Y) t) (va_A (mo tc a μ ++ Y) sz)) 0 0 (va_A (mo tc a μ ++ Y) sz) := by
  refine en_W (by decide) (Nat.le_of_ble_eq_true rfl) ?_
  intro p e s m args below meth c ls h0 hr hlocks hin hsz hw hl
  obtain ⟨hx, hb, hml, hown, hts, hK⟩ := id h0
  have hA : ∀ q : Nat, s.heap.size ≤ q → (va_A (mo tc a μ ++ Y) sz) q := fun q h => Or.inr (by rw [← hsz]; exact h)
  generalize va_A (mo tc a μ ++ Y) sz = A at hw hA ⊢
  obtain ⟨H, eH⟩ : ∃ z, z = s.heap := ⟨_, rfl⟩
  obtain ⟨locs, eL⟩ : ∃ z : List Loc, z = [] := ⟨_, rfl⟩
  have hw : wH D A s.heap (mo tc a μ ++ Y) H locs := by rw [eH, eL]; exact hw
  show W p l e _ s m _ below meth c s.heap [] 0 0 _ _
  have gl : W p l e ({ frames := 2, cells := 0, slots := 0, locals := 42 } : Room) s m args below meth c H locs 0 0 (MQ below (va_Qv (fun u => u = F) (fun u t => qW D tc A (mo tc a u ++ Y) t) A) args s 0 0 A) (F0 m 0 ls []) := ?_
  · rw [eH, eL] at gl; exact gl
  have hl : lv_has ls 7 [(0, .ref (a 0)), (1, .int x1), (2, .int x2)] := hl
  unfold kM_closePlace at hok
  unfold fM_closePlace at hF
  refine lv_aload_n hx hb d_M_closePlace_0 rfl (lv_at hl 0 rfl) ?_
  refine lv_iload_n hx hb d_M_closePlace_1 rfl (lv_at hl 1 rfl) ?_
  refine lv_iload_n hx hb d_M_closePlace_2 rfl (lv_at hl 2 rfl) ?_
  obtain ⟨hi_1, hok⟩ := hok
  refine cv_p (n := 2) (C := "CountRoundsModel") (b := a 0) (q0 := 0) (ci := 4) (As := [.int x1, .int x2]) (rest := []) h0 hw (cM_isTold l D tc a Y H.size x1 x2 μ hi_1 rfl) (gd_V wd_818 wd_820 (gw_s 33 rfl rfl) wd_3 wd_821) (by decide +kernel) ⟨rfl, rfl, Nat.le_of_ble_eq_true rfl, Nat.le_of_ble_eq_true rfl, Nat.le_of_ble_eq_true rfl, Nat.le_of_ble_eq_true rfl⟩ rfl rfl rfl hl.1 rfl (Nat.le_of_ble_eq_true rfl) d_M_closePlace_3 ?_
  refine lv_if_ne (tgt := 10) hx hb d_M_closePlace_6 (by decide) (fun c_2 => ?_) (fun c_2 => ?_)
  · have hok := hok.2 c_2
    have hF := (if_neg c_2).symm.trans hF
    refine lv_aload_n hx hb d_M_closePlace_10 rfl (lv_at hl 0 rfl) ?_
    refine mg_20 h0 hw d_M_closePlace_11 ?_
    refine lv_bipush (v := 20) hx hb d_M_closePlace_14 (by decide) ?_
    refine lv_iload_n hx hb d_M_closePlace_16 rfl (lv_at hl 1 rfl) ?_
    refine lv_imul hx hb d_M_closePlace_17 ?_
    refine lv_iload_n hx hb d_M_closePlace_18 rfl (lv_at hl 2 rfl) ?_
    refine lv_iadd hx hb d_M_closePlace_19 ?_
    obtain ⟨hi_3, hok⟩ := hok
    refine ml_20 h0 hw hi_3 d_M_closePlace_20 ?_
    refine lv_istore_n (lv' := [(3, .int (μ 20 ((20 * x1) + x2).toNatClampNeg)), (0, .ref (a 0)), (1, .int x1), (2, .int x2)]) hx hb d_M_closePlace_21 rfl hl (by decide) rfl (fun ls hl => ?_)
    refine lv_iconst (v := 1) hx hb d_M_closePlace_22 (by decide) ?_
    refine lv_istore (lv' := [(4, .int 1), (3, .int (μ 20 ((20 * x1) + x2).toNatClampNeg)), (0, .ref (a 0)), (1, .int x1), (2, .int x2)]) hx hb d_M_closePlace_23 hl (by decide) rfl (fun ls hl => ?_)
    refine lv_iconst (v := 0) hx hb d_M_closePlace_25 (by decide) ?_
    refine lv_istore (lv' := [(5, .int 0), (4, .int 1), (3, .int (μ 20 ((20 * x1) + x2).toNatClampNeg)), (0, .ref (a 0)), (1, .int x1), (2, .int x2)]) hx hb d_M_closePlace_26 hl (by decide) rfl (fun ls hl => ?_)
    have hx_28 : ∀ (x1 : Int32) (x2 : Int32) (x3 : Int32) (x4 : Int32) (x5 : Int32) (μ : Nat → Nat → Int32) (H : Heap) (locs : List Loc) (ls : Array Slot), wH D A s.heap (mo tc a μ ++ Y) H locs → lv_has ls 7 [(0, .ref (a 0)), (1, .int x1), (2, .int x2), (3, .int x3), (4, .int x4), (5, .int x5)] → kM_closePlace_28x x1 x2 x3 x4 x5 μ → fM_closePlace_28x x1 x2 x3 x4 x5 μ = F → W p l e ({ frames := 2, cells := 0, slots := 0, locals := 42 } : Room) s m args below meth c H locs 0 0 (MQ below (va_Qv (fun u => u = F) (fun u t => qW D tc A (mo tc a u ++ Y) t) A) args s 0 0 A) (F0 m 97 ls []) := by
      intro x1 x2 x3 x4 x5 μ H locs ls hw hl hok hF
      unfold kM_closePlace_28x at hok
      unfold fM_closePlace_28x at hF
      refine lv_aload_n hx hb d_M_closePlace_97 rfl (lv_at hl 0 rfl) ?_
      refine mg_5 h0 hw d_M_closePlace_98 ?_
      refine lv_iload_n hx hb d_M_closePlace_101 rfl (lv_at hl 3 rfl) ?_
      refine lv_aload_n hx hb d_M_closePlace_102 rfl (lv_at hl 0 rfl) ?_
      refine mg_1 h0 hw d_M_closePlace_103 ?_
      obtain ⟨hi_4, hok⟩ := hok
      refine ms_5 h0 hw hi_4 d_M_closePlace_106 (fun H locs hw => ?_)
      refine lv_aload_n hx hb d_M_closePlace_107 rfl (lv_at hl 0 rfl) ?_
      refine lv_dup hx hb d_M_closePlace_108 rfl ?_
      refine mg_26 h0 hw d_M_closePlace_109 ?_
      refine W.eq (g2 := F0 m 112 ls [.int (μ 26 0), .ref (a 0)]) rfl ?_
      refine lv_iconst (v := 1) hx hb d_M_closePlace_112 (by decide) ?_
      refine lv_iadd hx hb d_M_closePlace_113 ?_
      refine mp_26 h0 hw d_M_closePlace_114 (fun H locs hw => ?_)
      refine lv_aload_n hx hb d_M_closePlace_117 rfl (lv_at hl 0 rfl) ?_
      refine lv_dup hx hb d_M_closePlace_118 rfl ?_
      refine mg_27 h0 hw d_M_closePlace_119 ?_
      refine W.eq (g2 := F0 m 122 ls [.int (μ 27 0), .ref (a 0)]) rfl ?_
      refine lv_iload hx hb d_M_closePlace_122 (lv_at hl 4 rfl) ?_
      refine lv_if_eq (tgt := 131) hx hb d_M_closePlace_124 (by decide) (fun c_5 => ?_) (fun c_5 => ?_)
      · have hok := hok.1 c_5
        have hF := (if_pos c_5).symm.trans hF
        refine lv_iconst (v := 0) hx hb d_M_closePlace_131 (by decide) ?_
        refine lv_iadd hx hb d_M_closePlace_132 ?_
        refine mp_27 h0 hw d_M_closePlace_133 (fun H locs hw => ?_)
        exact rt_v h0 hw hr hlocks (u2 (u2 (u2 μ 5 x3.toNatClampNeg (μ 1 0)) 26 0 ((μ 26 0) + 1)) 27 0 ((μ 27 0) + 0)) hF rfl d_M_closePlace_136 (Nat.le_refl 0) (Nat.le_refl 0)
      · have hok := hok.2 c_5
        have hF := (if_neg c_5).symm.trans hF
        refine lv_iconst (v := 1) hx hb d_M_closePlace_127 (by decide) ?_
        refine lv_goto (tgt := 132) hx hb d_M_closePlace_128 (by decide) ?_
        refine lv_iadd hx hb d_M_closePlace_132 ?_
        refine mp_27 h0 hw d_M_closePlace_133 (fun H locs hw => ?_)
        exact rt_v h0 hw hr hlocks (u2 (u2 (u2 μ 5 x3.toNatClampNeg (μ 1 0)) 26 0 ((μ 26 0) + 1)) 27 0 ((μ 27 0) + 1)) hF rfl d_M_closePlace_136 (Nat.le_refl 0) (Nat.le_refl 0)
    have lp_28 : ∀ (n28 : Nat) (x1 : Int32) (x2 : Int32) (x3 : Int32) (x4 : Int32) (x5 : Int32) (μ : Nat → Nat → Int32) (H : Heap) (locs : List Loc) (ls : Array Slot), wH D A s.heap (mo tc a μ ++ Y) H locs → lv_has ls 7 [(0, .ref (a 0)), (1, .int x1), (2, .int x2), (3, .int x3), (4, .int x4), (5, .int x5)] → kM_closePlace_28 kM_closePlace_28x n28 x1 x2 x3 x4 x5 μ → fM_closePlace_28 fM_closePlace_28x n28 x1 x2 x3 x4 x5 μ = F → W p l e ({ frames := 2, cells := 0, slots := 0, locals := 42 } : Room) s m args below meth c H locs 0 0 (MQ below (va_Qv (fun u => u = F) (fun u t => qW D tc A (mo tc a u ++ Y) t) A) args s 0 0 A) (F0 m 28 ls []) := by
      intro n28
      induction n28 with
      | zero =>
        intro x1 x2 x3 x4 x5 μ H locs ls hw hl hok hF
        unfold kM_closePlace_28 at hok
        exact hok.elim
      | succ n28 ih_28 =>
        intro x1 x2 x3 x4 x5 μ H locs ls hw hl hok hF
        unfold kM_closePlace_28 at hok
        unfold fM_closePlace_28 at hF
        refine lv_iload hx hb d_M_closePlace_28 (lv_at hl 5 rfl) ?_
        refine lv_bipush (v := 6) hx hb d_M_closePlace_30 (by decide) ?_
        refine lv_icmp_ge (tgt := 97) hx hb d_M_closePlace_32 (by decide) (fun c_6 => ?_) (fun c_6 => ?_)
        · have hok := hok.1 c_6
          have hF := (if_pos c_6).symm.trans hF
          exact hx_28 x1 x2 x3 x4 x5 μ H locs ls hw (lv_sub hl [0, 1, 2, 3, 4, 5] rfl) hok hF
        · have hok := hok.2 c_6
          have hF := (if_neg c_6).symm.trans hF
          refine lv_bipush (v := 120) hx hb d_M_closePlace_35 (by decide) ?_
          refine lv_iload_n hx hb d_M_closePlace_37 rfl (lv_at hl 1 rfl) ?_
          refine lv_imul hx hb d_M_closePlace_38 ?_
          refine lv_bipush (v := 6) hx hb d_M_closePlace_39 (by decide) ?_
          refine lv_iload_n hx hb d_M_closePlace_41 rfl (lv_at hl 2 rfl) ?_
          refine lv_imul hx hb d_M_closePlace_42 ?_
          refine lv_iadd hx hb d_M_closePlace_43 ?_
          refine lv_iload hx hb d_M_closePlace_44 (lv_at hl 5 rfl) ?_
          refine lv_iadd hx hb d_M_closePlace_46 ?_
          refine lv_istore (lv' := [(6, .int (((120 * x1) + (6 * x2)) + x5)), (0, .ref (a 0)), (1, .int x1), (2, .int x2), (3, .int x3), (4, .int x4), (5, .int x5)]) hx hb d_M_closePlace_47 hl (by decide) rfl (fun ls hl => ?_)
          refine lv_iload hx hb d_M_closePlace_49 (lv_at hl 5 rfl) ?_
          refine lv_if_eq (tgt := 88) hx hb d_M_closePlace_51 (by decide) (fun c_7 => ?_) (fun c_7 => ?_)
          · have hok := hok.1 c_7
            have hF := (if_pos c_7).symm.trans hF
            refine lv_iconst (v := 0) hx hb d_M_closePlace_88 (by decide) ?_
            refine lv_istore (lv' := [(4, .int 0), (6, .int (((120 * x1) + (6 * x2)) + x5)), (0, .ref (a 0)), (1, .int x1), (2, .int x2), (3, .int x3), (5, .int x5)]) hx hb d_M_closePlace_89 hl (by decide) rfl (fun ls hl => ?_)
            refine lv_iinc (v := x5 + 1) (lv' := [(5, .int (x5 + 1)), (4, .int 0), (6, .int (((120 * x1) + (6 * x2)) + x5)), (0, .ref (a 0)), (1, .int x1), (2, .int x2), (3, .int x3)]) hx hb d_M_closePlace_91 hl (k := 6) rfl rfl (by decide) rfl (fun ls hl => ?_)
            refine lv_goto (tgt := 28) hx hb d_M_closePlace_94 (by decide) ?_
            exact ih_28 x1 x2 x3 0 (x5 + 1) μ H locs ls hw (lv_sub hl [3, 4, 5, 6, 1, 0] rfl) hok hF
          · have hok := hok.2 c_7
            have hF := (if_neg c_7).symm.trans hF
            refine lv_aload_n hx hb d_M_closePlace_54 rfl (lv_at hl 1 rfl) ?_
            refine lv_iload hx hb d_M_closePlace_55 (lv_at hl 0 rfl) ?_
            obtain ⟨hi_8, hok⟩ := hok
            refine cv_p (n := 1) (C := "CountRoundsModel") (b := a 0) (q0 := 0) (ci := 4) (As := [.int (((120 * x1) + (6 * x2)) + x5)]) (rest := []) h0 hw (cM_counts l D tc a Y H.size (((120 * x1) + (6 * x2)) + x5) μ hi_8 rfl) (gd_V wd_822 wd_824 (gw_s 34 rfl rfl) wd_3 wd_825) (by decide +kernel) ⟨rfl, rfl, Nat.le_of_ble_eq_true rfl, Nat.le_of_ble_eq_true rfl, Nat.le_of_ble_eq_true rfl, Nat.le_of_ble_eq_true rfl⟩ rfl rfl rfl hl.1 rfl (Nat.le_of_ble_eq_true rfl) d_M_closePlace_57 ?_
            refine lv_aload_n hx hb d_M_closePlace_60 rfl (lv_at hl 1 rfl) ?_
            refine mg_21 h0 hw d_M_closePlace_61 ?_
            refine lv_iload hx hb d_M_closePlace_64 (lv_at hl 0 rfl) ?_
            obtain ⟨hi_9, hok⟩ := hok
            refine ml_21 h0 hw hi_9 d_M_closePlace_66 ?_
            obtain ⟨hi_10, hok⟩ := hok
            refine cs_p (n := 2) (As := [.int (fM_counts (((120 * x1) + (6 * x2)) + x5) μ), .int (μ 21 (((120 * x1) + (6 * x2)) + x5).toNatClampNeg)]) (rest := []) hx hb hml hown hts (cM_far l (fM_counts (((120 * x1) + (6 * x2)) + x5) μ) (μ 21 (((120 * x1) + (6 * x2)) + x5).toNatClampNeg) hi_10 rfl) (gd_S wd_807 wd_808 wd_3 wd_809) (by decide +kernel) ⟨rfl, rfl, Nat.le_of_ble_eq_true rfl, Nat.le_of_ble_eq_true rfl, Nat.le_of_ble_eq_true rfl, Nat.le_of_ble_eq_true rfl⟩ rfl hl.1 rfl (Nat.le_of_ble_eq_true rfl) d_M_closePlace_67 ?_
            refine lv_aload_n hx hb d_M_closePlace_70 rfl (lv_at hl 1 rfl) ?_
            refine mg_8 h0 hw d_M_closePlace_71 ?_
            refine lv_aload_n hx hb d_M_closePlace_74 rfl (lv_at hl 1 rfl) ?_
            refine mg_4 h0 hw d_M_closePlace_75 ?_
            refine lv_iload_n hx hb d_M_closePlace_78 rfl (lv_at hl 4 rfl) ?_
            obtain ⟨hi_11, hok⟩ := hok
            refine ml_4 h0 hw hi_11 d_M_closePlace_79 ?_
            obtain ⟨hi_12, hok⟩ := hok
            refine ml_8 h0 hw hi_12 d_M_closePlace_80 ?_
            refine lv_icmp_gt (tgt := 88) hx hb d_M_closePlace_81 (by decide) (fun c_13 => ?_) (fun c_13 => ?_)
            · have hok := hok.1 c_13
              have hF := (if_pos c_13).symm.trans hF
              refine lv_iconst (v := 0) hx hb d_M_closePlace_88 (by decide) ?_
              refine lv_istore (lv' := [(4, .int 0), (6, .int (((120 * x1) + (6 * x2)) + x5)), (0, .ref (a 0)), (1, .int x1), (2, .int x2), (3, .int x3), (5, .int x5)]) hx hb d_M_closePlace_89 hl (by decide) rfl (fun ls hl => ?_)
              refine lv_iinc (v := x5 + 1) (lv' := [(5, .int (x5 + 1)), (4, .int 0), (6, .int (((120 * x1) + (6 * x2)) + x5)), (0, .ref (a 0)), (1, .int x1), (2, .int x2), (3, .int x3)]) hx hb d_M_closePlace_91 hl (k := 6) rfl rfl (by decide) rfl (fun ls hl => ?_)
              refine lv_goto (tgt := 28) hx hb d_M_closePlace_94 (by decide) ?_
              exact ih_28 x1 x2 x3 0 (x5 + 1) μ H locs ls hw (lv_sub hl [3, 4, 5, 6, 1, 0] rfl) hok hF
            · have hok := hok.2 c_13
              have hF := (if_neg c_13).symm.trans hF
              refine lv_iconst (v := 1) hx hb d_M_closePlace_84 (by decide) ?_
              refine lv_goto (tgt := 89) hx hb d_M_closePlace_85 (by decide) ?_
              refine lv_istore (lv' := [(4, .int 1), (6, .int (((120 * x1) + (6 * x2)) + x5)), (0, .ref (a 0)), (1, .int x1), (2, .int x2), (3, .int x3), (5, .int x5)]) hx hb d_M_closePlace_89 hl (by decide) rfl (fun ls hl => ?_)
              refine lv_iinc (v := x5 + 1) (lv' := [(5, .int (x5 + 1)), (4, .int 1), (6, .int (((120 * x1) + (6 * x2)) + x5)), (0, .ref (a 0)), (1, .int x1), (2, .int x2), (3, .int x3)]) hx hb d_M_closePlace_91 hl (k := 6) rfl rfl (by decide) rfl (fun ls hl => ?_)
              refine lv_goto (tgt := 28) hx hb d_M_closePlace_94 (by decide) ?_
              exact ih_28 x1 x2 x3 1 (x5 + 1) μ H locs ls hw (lv_sub hl [3, 4, 5, 6, 1, 0] rfl) hok hF
    exact lp_28 200 x1 x2 (μ 20 ((20 * x1) + x2).toNatClampNeg) 1 0 μ H locs ls hw (lv_sub hl [3, 4, 5, 2, 1, 0] rfl) hok hF
  · have hok := hok.1 c_2
    have hF := (if_pos c_2).symm.trans hF
    exact rt_v h0 hw hr hlocks μ hF rfl d_M_closePlace_9 (Nat.le_refl 0) (Nat.le_refl 0)
set_option maxHeartbeats 4000000 in
set_option maxRecDepth 100000 in
theorem cM_place (l : Launch) (D : va_G) (tc : Nat → ClassId) (a : Nat → Nat) (Y : va_W) (sz : Nat) (x1 : Int32) (μ : Nat → Nat → Int32) {F : Int32 × (Nat → Nat → Int32)} (hok : kM_place x1 μ) (hF : fM_place x1 μ = F) : Met l y_M_place (Cond.code y_M_place b_M_place 2 (some .int) :: gw) ({ frames := 1, cells := 0, slots := 0, locals := 22 } : Room) (va_Pc [.ref (a 0), .int x1] (pW D tc (mo tc a μ ++ Y) sz)) (va_Qi (fun r u => (r, u) = F) (fun u t => qW D tc (va_A (mo tc a μ ++ Y) sz) (mo tc a u ++ Y) t) (va_A (mo tc a μ ++ Y) sz)) 0 0 (va_A (mo tc a μ ++ Y) sz) := by
  refine en_W (by decide) (Nat.le_of_ble_eq_true rfl) ?_
  intro p e s m args below meth c ls h0 hr hlocks hin hsz hw hl
  obtain ⟨hx, hb, hml, hown, hts, hK⟩ := id h0
  have hA : ∀ q : Nat, s.heap.size ≤ q → (va_A (mo tc a μ ++ Y) sz) q := fun q h => Or.inr (by rw [← hsz]; exact h)
  generalize va_A (mo tc a μ ++ Y) sz = A at hw hA ⊢
  obtain ⟨H, eH⟩ : ∃ z, z = s.heap := ⟨_, rfl⟩
  obtain ⟨locs, eL⟩ : ∃ z : List Loc, z = [] := ⟨_, rfl⟩
  have hw : wH D A s.heap (mo tc a μ ++ Y) H locs := by rw [eH, eL]; exact hw
  show W p l e _ s m _ below meth c s.heap [] 0 0 _ _
  have gl : W p l e ({ frames := 1, cells := 0, slots := 0, locals := 22 } : Room) s m args below meth c H locs 0 0 (MQ below (va_Qi (fun r u => (r, u) = F) (fun u t => qW D tc A (mo tc a u ++ Y) t) A) args s 0 0 A) (F0 m 0 ls []) := ?_
  · rw [eH, eL] at gl; exact gl
  have hl : lv_has ls 2 [(0, .ref (a 0)), (1, .int x1)] := hl
  unfold kM_place at hok
  unfold fM_place at hF
  refine lv_aload_n hx hb d_M_place_0 rfl (lv_at hl 0 rfl) ?_
  refine lv_iload_n hx hb d_M_place_1 rfl (lv_at hl 1 rfl) ?_
  refine lv_iconst (v := 0) hx hb d_M_place_2 (by decide) ?_
  refine lv_iconst (v := 2) hx hb d_M_place_3 (by decide) ?_
  obtain ⟨hi_1, hok⟩ := hok
  refine cs_p (n := 3) (As := [.int x1, .int 0, .int 2]) (rest := [.ref (a 0)]) hx hb hml hown hts (cM_in l x1 0 2 hi_1 rfl) (gd_S wd_707 wd_708 wd_3 wd_709) (by decide +kernel) ⟨rfl, rfl, Nat.le_of_ble_eq_true rfl, Nat.le_of_ble_eq_true rfl, Nat.le_of_ble_eq_true rfl, Nat.le_of_ble_eq_true rfl⟩ rfl hl.1 rfl (Nat.le_of_ble_eq_true rfl) d_M_place_4 ?_
  refine lv_if_ne (tgt := 14) hx hb d_M_place_7 (by decide) (fun c_2 => ?_) (fun c_2 => ?_)
  · have hok := hok.2 c_2
    have hF := (if_neg c_2).symm.trans hF
    refine lv_aload_n hx hb d_M_place_14 rfl (lv_at hl 0 rfl) ?_
    refine mg_3 h0 hw d_M_place_15 ?_
    refine lv_bipush (v := 20) hx hb d_M_place_18 (by decide) ?_
    refine lv_icmp_ne (tgt := 27) hx hb d_M_place_20 (by decide) (fun c_3 => ?_) (fun c_3 => ?_)
    · have hok := hok.2 c_3
      have hF := (if_neg c_3).symm.trans hF
      refine lv_iconst (v := 0) hx hb d_M_place_27 (by decide) ?_
      refine mp_0 h0 hw d_M_place_28 (fun H locs hw => ?_)
      refine lv_aload_n hx hb d_M_place_31 rfl (lv_at hl 0 rfl) ?_
      refine mg_0 h0 hw d_M_place_32 ?_
      refine W.eq (g2 := F0 m 35 ls [.int 0]) rfl ?_
      refine lv_if_le (tgt := 40) hx hb d_M_place_35 (by decide) (fun _ => ?_) (fun c_0 => absurd c_0 (by decide))
      refine lv_aload_n hx hb d_M_place_40 rfl (lv_at hl 0 rfl) ?_
      refine mg_4 h0 hw d_M_place_41 ?_
      refine lv_aload_n hx hb d_M_place_44 rfl (lv_at hl 0 rfl) ?_
      refine mg_3 h0 hw d_M_place_45 ?_
      refine W.eq (g2 := F0 m 48 ls [.int (μ 3 0), .ref (a 4)]) rfl ?_
      refine lv_iload_n hx hb d_M_place_48 rfl (lv_at hl 1 rfl) ?_
      obtain ⟨hi_4, hok⟩ := hok
      refine ms_4 h0 hw hi_4 d_M_place_49 (fun H locs hw => ?_)
      refine lv_aload_n hx hb d_M_place_50 rfl (lv_at hl 0 rfl) ?_
      refine mg_5 h0 hw d_M_place_51 ?_
      refine lv_aload_n hx hb d_M_place_54 rfl (lv_at hl 0 rfl) ?_
      refine mg_3 h0 hw d_M_place_55 ?_
      refine W.eq (g2 := F0 m 58 ls [.int (μ 3 0), .ref (a 5)]) rfl ?_
      refine lv_iconst (v := (-1)) hx hb d_M_place_58 (by decide) ?_
      obtain ⟨hi_5, hok⟩ := hok
      refine ms_5 h0 hw hi_5 d_M_place_59 (fun H locs hw => ?_)
      refine lv_aload_n hx hb d_M_place_60 rfl (lv_at hl 0 rfl) ?_
      refine lv_dup hx hb d_M_place_61 rfl ?_
      refine mg_3 h0 hw d_M_place_62 ?_
      refine W.eq (g2 := F0 m 65 ls [.int (μ 3 0), .ref (a 0)]) rfl ?_
      refine lv_iconst (v := 1) hx hb d_M_place_65 (by decide) ?_
      refine lv_iadd hx hb d_M_place_66 ?_
      refine mp_3 h0 hw d_M_place_67 (fun H locs hw => ?_)
      refine lv_aload_n hx hb d_M_place_70 rfl (lv_at hl 0 rfl) ?_
      refine mg_3 h0 hw d_M_place_71 ?_
      refine W.eq (g2 := F0 m 74 ls [.int ((μ 3 0) + 1)]) rfl ?_
      refine lv_iconst (v := 1) hx hb d_M_place_74 (by decide) ?_
      refine lv_isub hx hb d_M_place_75 ?_
      exact rt_i h0 hw hr hlocks rfl (u2 (u2 (u2 (u2 μ 0 0 0) 4 (μ 3 0).toNatClampNeg x1) 5 (μ 3 0).toNatClampNeg (-1)) 3 0 ((μ 3 0) + 1)) hF rfl d_M_place_76 (Nat.le_refl 0) (Nat.le_refl 0)
    · have hok := hok.1 c_3
      have hF := (if_pos c_3).symm.trans hF
      refine lv_iconst (v := 2) hx hb d_M_place_23 (by decide) ?_
      refine lv_goto (tgt := 28) hx hb d_M_place_24 (by decide) ?_
      refine mp_0 h0 hw d_M_place_28 (fun H locs hw => ?_)
      refine lv_aload_n hx hb d_M_place_31 rfl (lv_at hl 0 rfl) ?_
      refine mg_0 h0 hw d_M_place_32 ?_
      refine W.eq (g2 := F0 m 35 ls [.int 2]) rfl ?_
      refine lv_if_le (tgt := 40) hx hb d_M_place_35 (by decide) (fun c_0 => absurd c_0 (by decide)) (fun _ => ?_)
      refine lv_iconst (v := 0) hx hb d_M_place_38 (by decide) ?_
      exact rt_i h0 hw hr hlocks rfl (u2 μ 0 0 2) hF rfl d_M_place_39 (Nat.le_refl 0) (Nat.le_refl 0)
  · have hok := hok.1 c_2
    have hF := (if_pos c_2).symm.trans hF
    refine lv_iconst (v := 1) hx hb d_M_place_10 (by decide) ?_
    refine lv_goto (tgt := 28) hx hb d_M_place_11 (by decide) ?_
    refine mp_0 h0 hw d_M_place_28 (fun H locs hw => ?_)
    refine lv_aload_n hx hb d_M_place_31 rfl (lv_at hl 0 rfl) ?_
    refine mg_0 h0 hw d_M_place_32 ?_
    refine W.eq (g2 := F0 m 35 ls [.int 1]) rfl ?_
    refine lv_if_le (tgt := 40) hx hb d_M_place_35 (by decide) (fun c_0 => absurd c_0 (by decide)) (fun _ => ?_)
    refine lv_iconst (v := 0) hx hb d_M_place_38 (by decide) ?_
    exact rt_i h0 hw hr hlocks rfl (u2 μ 0 0 1) hF rfl d_M_place_39 (Nat.le_refl 0) (Nat.le_refl 0)
set_option maxHeartbeats 4000000 in
set_option maxRecDepth 100000 in
theorem cM_stock (l : Launch) (D : va_G) (tc : Nat → ClassId) (a : Nat → Nat) (Y : va_W) (sz : Nat) (x1 : Int32) (x2 : Int32) (x3 : Int32) (μ : Nat → Nat → Int32) {F : Nat → Nat → Int32} (hok : kM_stock x1 x2 x3 μ) (hF : fM_stock x1 x2 x3 μ = F) : Met l y_M_stock (Cond.code y_M_stock b_M_stock 4 none :: gw) ({ frames := 2, cells := 0, slots := 0, locals := 43 } : Room) (va_Pc [.ref (a 0), .int x1, .int x2, .int x3] (pW D tc (mo tc a μ ++ Y) sz)) (va_Qv (fun u => u = F) (fun u t => qW D tc (va_A (mo tc a μ ++ Y) sz) (mo tc a u ++ Y) t) (va_A (mo tc a μ ++ Y) sz)) 0 0 (va_A (mo tc a μ ++ Y) sz) := by
  refine en_W (by decide) (Nat.le_of_ble_eq_true rfl) ?_
  intro p e s m args below meth c ls h0 hr hlocks hin hsz hw hl
  obtain ⟨hx, hb, hml, hown, hts, hK⟩ := id h0
  have hA : ∀ q : Nat, s.heap.size ≤ q → (va_A (mo tc a μ ++ Y) sz) q := fun q h => Or.inr (by rw [← hsz]; exact h)
  generalize va_A (mo tc a μ ++ Y) sz = A at hw hA ⊢
  obtain ⟨H, eH⟩ : ∃ z, z = s.heap := ⟨_, rfl⟩
  obtain ⟨locs, eL⟩ : ∃ z : List Loc, z = [] := ⟨_, rfl⟩
  have hw : wH D A s.heap (mo tc a μ ++ Y) H locs := by rw [eH, eL]; exact hw
  show W p l e _ s m _ below meth c s.heap [] 0 0 _ _
  have gl : W p l e ({ frames := 2, cells := 0, slots := 0, locals := 43 } : Room) s m args below meth c H locs 0 0 (MQ below (va_Qv (fun u => u = F) (fun u t => qW D tc A (mo tc a u ++ Y) t) A) args s 0 0 A) (F0 m 0 ls []) := ?_
  · rw [eH, eL] at gl; exact gl
  have hl : lv_has ls 4 [(0, .ref (a 0)), (1, .int x1), (2, .int x2), (3, .int x3)] := hl
  unfold kM_stock at hok
  unfold fM_stock at hF
  refine lv_aload_n hx hb d_M_stock_0 rfl (lv_at hl 0 rfl) ?_
  refine lv_aload_n hx hb d_M_stock_1 rfl (lv_at hl 0 rfl) ?_
  refine lv_iload_n hx hb d_M_stock_2 rfl (lv_at hl 1 rfl) ?_
  obtain ⟨hi_1, hok⟩ := hok
  refine cv_p (n := 1) (C := "CountRoundsModel") (b := a 0) (q0 := 0) (ci := 4) (As := [.int x1]) (rest := [.ref (a 0)]) h0 hw (cM_isPlace l D tc a Y H.size x1 μ hi_1 rfl) (gd_V wd_714 wd_716 (gw_s 22 rfl rfl) wd_3 wd_717) (by decide +kernel) ⟨rfl, rfl, Nat.le_of_ble_eq_true rfl, Nat.le_of_ble_eq_true rfl, Nat.le_of_ble_eq_true rfl, Nat.le_of_ble_eq_true rfl⟩ rfl rfl rfl hl.1 rfl (Nat.le_of_ble_eq_true rfl) d_M_stock_3 ?_
  refine lv_if_ne (tgt := 13) hx hb d_M_stock_6 (by decide) (fun c_2 => ?_) (fun c_2 => ?_)
  · have hok := hok.2 c_2
    have hF := (if_neg c_2).symm.trans hF
    refine lv_iload_n hx hb d_M_stock_13 rfl (lv_at hl 2 rfl) ?_
    obtain ⟨hi_3, hok⟩ := hok
    refine cs_p (n := 1) (As := [.int x2]) (rest := [.ref (a 0)]) hx hb hml hown hts (cM_isGood l x2 hi_3 rfl) (gd_S wd_718 wd_719 wd_3 wd_720) (by decide +kernel) ⟨rfl, rfl, Nat.le_of_ble_eq_true rfl, Nat.le_of_ble_eq_true rfl, Nat.le_of_ble_eq_true rfl, Nat.le_of_ble_eq_true rfl⟩ rfl hl.1 rfl (Nat.le_of_ble_eq_true rfl) d_M_stock_14 ?_
    refine lv_if_eq (tgt := 30) hx hb d_M_stock_17 (by decide) (fun c_4 => ?_) (fun c_4 => ?_)
    · have hok := hok.1 c_4
      have hF := (if_pos c_4).symm.trans hF
      refine lv_iconst (v := 2) hx hb d_M_stock_30 (by decide) ?_
      refine lv_goto (tgt := 35) hx hb d_M_stock_31 (by decide) ?_
      refine mp_0 h0 hw d_M_stock_35 (fun H locs hw => ?_)
      refine lv_aload_n hx hb d_M_stock_38 rfl (lv_at hl 0 rfl) ?_
      refine mg_0 h0 hw d_M_stock_39 ?_
      refine W.eq (g2 := F0 m 42 ls [.int 2]) rfl ?_
      refine lv_if_ne (tgt := 57) hx hb d_M_stock_42 (by decide) (fun _ => ?_) (fun c_0 => absurd c_0 (by decide))
      exact rt_v h0 hw hr hlocks (u2 μ 0 0 2) hF rfl d_M_stock_57 (Nat.le_refl 0) (Nat.le_refl 0)
    · have hok := hok.2 c_4
      have hF := (if_neg c_4).symm.trans hF
      refine lv_iload_n hx hb d_M_stock_20 rfl (lv_at hl 3 rfl) ?_
      refine lv_iconst (v := 0) hx hb d_M_stock_21 (by decide) ?_
      refine lv_ldc hx hb hown (hts _ wd_721) d_M_stock_22 ?_
      obtain ⟨hi_5, hok⟩ := hok
      refine cs_p (n := 3) (As := [.int x3, .int 0, .int 1000000]) (rest := [.ref (a 0)]) hx hb hml hown hts (cM_in l x3 0 1000000 hi_5 rfl) (gd_S wd_707 wd_708 wd_3 wd_709) (by decide +kernel) ⟨rfl, rfl, Nat.le_of_ble_eq_true rfl, Nat.le_of_ble_eq_true rfl, Nat.le_of_ble_eq_true rfl, Nat.le_of_ble_eq_true rfl⟩ rfl hl.1 rfl (Nat.le_of_ble_eq_true rfl) d_M_stock_24 ?_
      refine lv_if_ne (tgt := 34) hx hb d_M_stock_27 (by decide) (fun c_6 => ?_) (fun c_6 => ?_)
      · have hok := hok.2 c_6
        have hF := (if_neg c_6).symm.trans hF
        refine lv_iconst (v := 0) hx hb d_M_stock_34 (by decide) ?_
        refine mp_0 h0 hw d_M_stock_35 (fun H locs hw => ?_)
        refine lv_aload_n hx hb d_M_stock_38 rfl (lv_at hl 0 rfl) ?_
        refine mg_0 h0 hw d_M_stock_39 ?_
        refine W.eq (g2 := F0 m 42 ls [.int 0]) rfl ?_
        refine lv_if_ne (tgt := 57) hx hb d_M_stock_42 (by decide) (fun c_0 => absurd c_0 (by decide)) (fun _ => ?_)
        refine lv_aload_n hx hb d_M_stock_45 rfl (lv_at hl 0 rfl) ?_
        refine mg_6 h0 hw d_M_stock_46 ?_
        refine lv_bipush (v := 6) hx hb d_M_stock_49 (by decide) ?_
        refine lv_iload_n hx hb d_M_stock_51 rfl (lv_at hl 1 rfl) ?_
        refine lv_imul hx hb d_M_stock_52 ?_
        refine lv_iload_n hx hb d_M_stock_53 rfl (lv_at hl 2 rfl) ?_
        refine lv_iadd hx hb d_M_stock_54 ?_
        refine lv_iload_n hx hb d_M_stock_55 rfl (lv_at hl 3 rfl) ?_
        obtain ⟨hi_7, hok⟩ := hok
        refine ms_6 h0 hw hi_7 d_M_stock_56 (fun H locs hw => ?_)
        exact rt_v h0 hw hr hlocks (u2 (u2 μ 0 0 0) 6 ((6 * x1) + x2).toNatClampNeg x3) hF rfl d_M_stock_57 (Nat.le_refl 0) (Nat.le_refl 0)
      · have hok := hok.1 c_6
        have hF := (if_pos c_6).symm.trans hF
        refine lv_iconst (v := 2) hx hb d_M_stock_30 (by decide) ?_
        refine lv_goto (tgt := 35) hx hb d_M_stock_31 (by decide) ?_
        refine mp_0 h0 hw d_M_stock_35 (fun H locs hw => ?_)
        refine lv_aload_n hx hb d_M_stock_38 rfl (lv_at hl 0 rfl) ?_
        refine mg_0 h0 hw d_M_stock_39 ?_
        refine W.eq (g2 := F0 m 42 ls [.int 2]) rfl ?_
        refine lv_if_ne (tgt := 57) hx hb d_M_stock_42 (by decide) (fun _ => ?_) (fun c_0 => absurd c_0 (by decide))
        exact rt_v h0 hw hr hlocks (u2 μ 0 0 2) hF rfl d_M_stock_57 (Nat.le_refl 0) (Nat.le_refl 0)
  · have hok := hok.1 c_2
    have hF := (if_pos c_2).symm.trans hF
    refine lv_iconst (v := 1) hx hb d_M_stock_9 (by decide) ?_
    refine lv_goto (tgt := 35) hx hb d_M_stock_10 (by decide) ?_
    refine mp_0 h0 hw d_M_stock_35 (fun H locs hw => ?_)
    refine lv_aload_n hx hb d_M_stock_38 rfl (lv_at hl 0 rfl) ?_
    refine mg_0 h0 hw d_M_stock_39 ?_
    refine W.eq (g2 := F0 m 42 ls [.int 1]) rfl ?_
    refine lv_if_ne (tgt := 57) hx hb d_M_stock_42 (by decide) (fun _ => ?_) (fun c_0 => absurd c_0 (by decide))
    exact rt_v h0 hw hr hlocks (u2 μ 0 0 1) hF rfl d_M_stock_57 (Nat.le_refl 0) (Nat.le_refl 0)
set_option maxHeartbeats 4000000 in
set_option maxRecDepth 100000 in
theorem cM_cycle (l : Launch) (D : va_G) (tc : Nat → ClassId) (a : Nat → Nat) (Y : va_W) (sz : Nat) (x1 : Int32) (x2 : Int32) (x3 : Int32) (μ : Nat → Nat → Int32) {F : Nat → Nat → Int32} (hok : kM_cycle x1 x2 x3 μ) (hF : fM_cycle x1 x2 x3 μ = F) : Met l y_M_cycle (Cond.code y_M_cycle b_M_cycle 4 none :: gw) ({ frames := 1, cells := 0, slots := 0, locals := 22 } : Room) (va_Pc [.ref (a 0), .int x1, .int x2, .int x3] (pW D tc (mo tc a μ ++ Y) sz)) (va_Qv (fun u => u = F) (fun u t => qW D tc (va_A (mo tc a μ ++ Y) sz) (mo tc a u ++ Y) t) (va_A (mo tc a μ ++ Y) sz)) 0 0 (va_A (mo tc a μ ++ Y) sz) := by
  refine en_W (by decide) (Nat.le_of_ble_eq_true rfl) ?_
  intro p e s m args below meth c ls h0 hr hlocks hin hsz hw hl
  obtain ⟨hx, hb, hml, hown, hts, hK⟩ := id h0
  have hA : ∀ q : Nat, s.heap.size ≤ q → (va_A (mo tc a μ ++ Y) sz) q := fun q h => Or.inr (by rw [← hsz]; exact h)
  generalize va_A (mo tc a μ ++ Y) sz = A at hw hA ⊢
  obtain ⟨H, eH⟩ : ∃ z, z = s.heap := ⟨_, rfl⟩
  obtain ⟨locs, eL⟩ : ∃ z : List Loc, z = [] := ⟨_, rfl⟩
  have hw : wH D A s.heap (mo tc a μ ++ Y) H locs := by rw [eH, eL]; exact hw
  show W p l e _ s m _ below meth c s.heap [] 0 0 _ _
  have gl : W p l e ({ frames := 1, cells := 0, slots := 0, locals := 22 } : Room) s m args below meth c H locs 0 0 (MQ below (va_Qv (fun u => u = F) (fun u t => qW D tc A (mo tc a u ++ Y) t) A) args s 0 0 A) (F0 m 0 ls []) := ?_
  · rw [eH, eL] at gl; exact gl
  have hl : lv_has ls 4 [(0, .ref (a 0)), (1, .int x1), (2, .int x2), (3, .int x3)] := hl
  unfold kM_cycle at hok
  unfold fM_cycle at hF
  refine lv_aload_n hx hb d_M_cycle_0 rfl (lv_at hl 0 rfl) ?_
  refine lv_iload_n hx hb d_M_cycle_1 rfl (lv_at hl 1 rfl) ?_
  refine lv_iconst (v := 0) hx hb d_M_cycle_2 (by decide) ?_
  refine lv_iconst (v := 2) hx hb d_M_cycle_3 (by decide) ?_
  obtain ⟨hi_1, hok⟩ := hok
  refine cs_p (n := 3) (As := [.int x1, .int 0, .int 2]) (rest := [.ref (a 0)]) hx hb hml hown hts (cM_in l x1 0 2 hi_1 rfl) (gd_S wd_707 wd_708 wd_3 wd_709) (by decide +kernel) ⟨rfl, rfl, Nat.le_of_ble_eq_true rfl, Nat.le_of_ble_eq_true rfl, Nat.le_of_ble_eq_true rfl, Nat.le_of_ble_eq_true rfl⟩ rfl hl.1 rfl (Nat.le_of_ble_eq_true rfl) d_M_cycle_4 ?_
  refine lv_if_eq (tgt := 32) hx hb d_M_cycle_7 (by decide) (fun c_2 => ?_) (fun c_2 => ?_)
  · have hok := hok.1 c_2
    have hF := (if_pos c_2).symm.trans hF
    refine lv_iconst (v := 1) hx hb d_M_cycle_32 (by decide) ?_
    refine lv_goto (tgt := 37) hx hb d_M_cycle_33 (by decide) ?_
    refine mp_0 h0 hw d_M_cycle_37 (fun H locs hw => ?_)
    refine lv_aload_n hx hb d_M_cycle_40 rfl (lv_at hl 0 rfl) ?_
    refine mg_0 h0 hw d_M_cycle_41 ?_
    refine W.eq (g2 := F0 m 44 ls [.int 1]) rfl ?_
    refine lv_if_le (tgt := 48) hx hb d_M_cycle_44 (by decide) (fun c_0 => absurd c_0 (by decide)) (fun _ => ?_)
    exact rt_v h0 hw hr hlocks (u2 μ 0 0 1) hF rfl d_M_cycle_47 (Nat.le_refl 0) (Nat.le_refl 0)
  · have hok := hok.2 c_2
    have hF := (if_neg c_2).symm.trans hF
    refine lv_iload_n hx hb d_M_cycle_10 rfl (lv_at hl 2 rfl) ?_
    refine lv_iconst (v := 1) hx hb d_M_cycle_11 (by decide) ?_
    refine lv_sipush (v := 1000) hx hb d_M_cycle_12 (by decide) ?_
    obtain ⟨hi_3, hok⟩ := hok
    refine cs_p (n := 3) (As := [.int x2, .int 1, .int 1000]) (rest := [.ref (a 0)]) hx hb hml hown hts (cM_in l x2 1 1000 hi_3 rfl) (gd_S wd_707 wd_708 wd_3 wd_709) (by decide +kernel) ⟨rfl, rfl, Nat.le_of_ble_eq_true rfl, Nat.le_of_ble_eq_true rfl, Nat.le_of_ble_eq_true rfl, Nat.le_of_ble_eq_true rfl⟩ rfl hl.1 rfl (Nat.le_of_ble_eq_true rfl) d_M_cycle_15 ?_
    refine lv_if_eq (tgt := 32) hx hb d_M_cycle_18 (by decide) (fun c_4 => ?_) (fun c_4 => ?_)
    · have hok := hok.1 c_4
      have hF := (if_pos c_4).symm.trans hF
      refine lv_iconst (v := 1) hx hb d_M_cycle_32 (by decide) ?_
      refine lv_goto (tgt := 37) hx hb d_M_cycle_33 (by decide) ?_
      refine mp_0 h0 hw d_M_cycle_37 (fun H locs hw => ?_)
      refine lv_aload_n hx hb d_M_cycle_40 rfl (lv_at hl 0 rfl) ?_
      refine mg_0 h0 hw d_M_cycle_41 ?_
      refine W.eq (g2 := F0 m 44 ls [.int 1]) rfl ?_
      refine lv_if_le (tgt := 48) hx hb d_M_cycle_44 (by decide) (fun c_0 => absurd c_0 (by decide)) (fun _ => ?_)
      exact rt_v h0 hw hr hlocks (u2 μ 0 0 1) hF rfl d_M_cycle_47 (Nat.le_refl 0) (Nat.le_refl 0)
    · have hok := hok.2 c_4
      have hF := (if_neg c_4).symm.trans hF
      refine lv_iload_n hx hb d_M_cycle_21 rfl (lv_at hl 3 rfl) ?_
      refine lv_iconst (v := 0) hx hb d_M_cycle_22 (by decide) ?_
      refine lv_sipush (v := 1000) hx hb d_M_cycle_23 (by decide) ?_
      obtain ⟨hi_5, hok⟩ := hok
      refine cs_p (n := 3) (As := [.int x3, .int 0, .int 1000]) (rest := [.ref (a 0)]) hx hb hml hown hts (cM_in l x3 0 1000 hi_5 rfl) (gd_S wd_707 wd_708 wd_3 wd_709) (by decide +kernel) ⟨rfl, rfl, Nat.le_of_ble_eq_true rfl, Nat.le_of_ble_eq_true rfl, Nat.le_of_ble_eq_true rfl, Nat.le_of_ble_eq_true rfl⟩ rfl hl.1 rfl (Nat.le_of_ble_eq_true rfl) d_M_cycle_26 ?_
      refine lv_if_ne (tgt := 36) hx hb d_M_cycle_29 (by decide) (fun c_6 => ?_) (fun c_6 => ?_)
      · have hok := hok.2 c_6
        have hF := (if_neg c_6).symm.trans hF
        refine lv_iconst (v := 0) hx hb d_M_cycle_36 (by decide) ?_
        refine mp_0 h0 hw d_M_cycle_37 (fun H locs hw => ?_)
        refine lv_aload_n hx hb d_M_cycle_40 rfl (lv_at hl 0 rfl) ?_
        refine mg_0 h0 hw d_M_cycle_41 ?_
        refine W.eq (g2 := F0 m 44 ls [.int 0]) rfl ?_
        refine lv_if_le (tgt := 48) hx hb d_M_cycle_44 (by decide) (fun _ => ?_) (fun c_0 => absurd c_0 (by decide))
        refine lv_aload_n hx hb d_M_cycle_48 rfl (lv_at hl 0 rfl) ?_
        refine mg_7 h0 hw d_M_cycle_49 ?_
        refine lv_iload_n hx hb d_M_cycle_52 rfl (lv_at hl 1 rfl) ?_
        refine lv_iload_n hx hb d_M_cycle_53 rfl (lv_at hl 2 rfl) ?_
        obtain ⟨hi_7, hok⟩ := hok
        refine ms_7 h0 hw hi_7 d_M_cycle_54 (fun H locs hw => ?_)
        refine lv_aload_n hx hb d_M_cycle_55 rfl (lv_at hl 0 rfl) ?_
        refine mg_8 h0 hw d_M_cycle_56 ?_
        refine lv_iload_n hx hb d_M_cycle_59 rfl (lv_at hl 1 rfl) ?_
        refine lv_iload_n hx hb d_M_cycle_60 rfl (lv_at hl 3 rfl) ?_
        obtain ⟨hi_8, hok⟩ := hok
        refine ms_8 h0 hw hi_8 d_M_cycle_61 (fun H locs hw => ?_)
        exact rt_v h0 hw hr hlocks (u2 (u2 (u2 μ 0 0 0) 7 x1.toNatClampNeg x2) 8 x1.toNatClampNeg x3) hF rfl d_M_cycle_62 (Nat.le_refl 0) (Nat.le_refl 0)
      · have hok := hok.1 c_6
        have hF := (if_pos c_6).symm.trans hF
        refine lv_iconst (v := 1) hx hb d_M_cycle_32 (by decide) ?_
        refine lv_goto (tgt := 37) hx hb d_M_cycle_33 (by decide) ?_
        refine mp_0 h0 hw d_M_cycle_37 (fun H locs hw => ?_)
        refine lv_aload_n hx hb d_M_cycle_40 rfl (lv_at hl 0 rfl) ?_
        refine mg_0 h0 hw d_M_cycle_41 ?_
        refine W.eq (g2 := F0 m 44 ls [.int 1]) rfl ?_
        refine lv_if_le (tgt := 48) hx hb d_M_cycle_44 (by decide) (fun c_0 => absurd c_0 (by decide)) (fun _ => ?_)
        exact rt_v h0 hw hr hlocks (u2 μ 0 0 1) hF rfl d_M_cycle_47 (Nat.le_refl 0) (Nat.le_refl 0)
set_option maxHeartbeats 4000000 in
set_option maxRecDepth 100000 in
theorem cM_right (l : Launch) (D : va_G) (tc : Nat → ClassId) (a : Nat → Nat) (Y : va_W) (sz : Nat) (x1 : Int32) (x2 : Int32) (μ : Nat → Nat → Int32) {F : Nat → Nat → Int32} (hok : kM_right x1 x2 μ) (hF : fM_right x1 x2 μ = F) : Met l y_M_right (Cond.code y_M_right b_M_right 3 none :: gw) ({ frames := 2, cells := 0, slots := 0, locals := 42 } : Room) (va_Pc [.ref (a 0), .int x1, .int x2] (pW D tc (mo tc a μ ++ Y) sz)) (va_Qv (fun u => u = F) (fun u t => qW D tc (va_A (mo tc a μ ++ Y) sz) (mo tc a u ++ Y) t) (va_A (mo tc a μ ++ Y) sz)) 0 0 (va_A (mo tc a μ ++ Y) sz) := by
  refine en_W (by decide) (Nat.le_of_ble_eq_true rfl) ?_
  intro p e s m args below meth c ls h0 hr hlocks hin hsz hw hl
  obtain ⟨hx, hb, hml, hown, hts, hK⟩ := id h0
  have hA : ∀ q : Nat, s.heap.size ≤ q → (va_A (mo tc a μ ++ Y) sz) q := fun q h => Or.inr (by rw [← hsz]; exact h)
  generalize va_A (mo tc a μ ++ Y) sz = A at hw hA ⊢
  obtain ⟨H, eH⟩ : ∃ z, z = s.heap := ⟨_, rfl⟩
  obtain ⟨locs, eL⟩ : ∃ z : List Loc, z = [] := ⟨_, rfl⟩
  have hw : wH D A s.heap (mo tc a μ ++ Y) H locs := by rw [eH, eL]; exact hw
  show W p l e _ s m _ below meth c s.heap [] 0 0 _ _
  have gl : W p l e ({ frames := 2, cells := 0, slots := 0, locals := 42 } : Room) s m args below meth c H locs 0 0 (MQ below (va_Qv (fun u => u = F) (fun u t => qW D tc A (mo tc a u ++ Y) t) A) args s 0 0 A) (F0 m 0 ls []) := ?_
  · rw [eH, eL] at gl; exact gl
  have hl : lv_has ls 3 [(0, .ref (a 0)), (1, .int x1), (2, .int x2)] := hl
  unfold kM_right at hok
  unfold fM_right at hF
  refine lv_aload_n hx hb d_M_right_0 rfl (lv_at hl 0 rfl) ?_
  refine lv_iload_n hx hb d_M_right_1 rfl (lv_at hl 1 rfl) ?_
  obtain ⟨hi_1, hok⟩ := hok
  refine cs_p (n := 1) (As := [.int x1]) (rest := [.ref (a 0)]) hx hb hml hown hts (cM_isPerson l x1 hi_1 rfl) (gd_S wd_730 wd_731 wd_3 wd_732) (by decide +kernel) ⟨rfl, rfl, Nat.le_of_ble_eq_true rfl, Nat.le_of_ble_eq_true rfl, Nat.le_of_ble_eq_true rfl, Nat.le_of_ble_eq_true rfl⟩ rfl hl.1 rfl (Nat.le_of_ble_eq_true rfl) d_M_right_2 ?_
  refine lv_if_eq (tgt := 18) hx hb d_M_right_5 (by decide) (fun c_2 => ?_) (fun c_2 => ?_)
  · have hok := hok.1 c_2
    have hF := (if_pos c_2).symm.trans hF
    refine lv_iconst (v := 1) hx hb d_M_right_18 (by decide) ?_
    refine lv_goto (tgt := 23) hx hb d_M_right_19 (by decide) ?_
    refine mp_0 h0 hw d_M_right_23 (fun H locs hw => ?_)
    refine lv_aload_n hx hb d_M_right_26 rfl (lv_at hl 0 rfl) ?_
    refine mg_0 h0 hw d_M_right_27 ?_
    refine W.eq (g2 := F0 m 30 ls [.int 1]) rfl ?_
    refine lv_if_ne (tgt := 40) hx hb d_M_right_30 (by decide) (fun _ => ?_) (fun c_0 => absurd c_0 (by decide))
    exact rt_v h0 hw hr hlocks (u2 μ 0 0 1) hF rfl d_M_right_40 (Nat.le_refl 0) (Nat.le_refl 0)
  · have hok := hok.2 c_2
    have hF := (if_neg c_2).symm.trans hF
    refine lv_iload_n hx hb d_M_right_8 rfl (lv_at hl 2 rfl) ?_
    refine lv_iconst (v := 0) hx hb d_M_right_9 (by decide) ?_
    refine lv_ldc hx hb hown (hts _ wd_721) d_M_right_10 ?_
    obtain ⟨hi_3, hok⟩ := hok
    refine cs_p (n := 3) (As := [.int x2, .int 0, .int 1000000]) (rest := [.ref (a 0)]) hx hb hml hown hts (cM_in l x2 0 1000000 hi_3 rfl) (gd_S wd_707 wd_708 wd_3 wd_709) (by decide +kernel) ⟨rfl, rfl, Nat.le_of_ble_eq_true rfl, Nat.le_of_ble_eq_true rfl, Nat.le_of_ble_eq_true rfl, Nat.le_of_ble_eq_true rfl⟩ rfl hl.1 rfl (Nat.le_of_ble_eq_true rfl) d_M_right_12 ?_
    refine lv_if_ne (tgt := 22) hx hb d_M_right_15 (by decide) (fun c_4 => ?_) (fun c_4 => ?_)
    · have hok := hok.2 c_4
      have hF := (if_neg c_4).symm.trans hF
      refine lv_iconst (v := 0) hx hb d_M_right_22 (by decide) ?_
      refine mp_0 h0 hw d_M_right_23 (fun H locs hw => ?_)
      refine lv_aload_n hx hb d_M_right_26 rfl (lv_at hl 0 rfl) ?_
      refine mg_0 h0 hw d_M_right_27 ?_
      refine W.eq (g2 := F0 m 30 ls [.int 0]) rfl ?_
      refine lv_if_ne (tgt := 40) hx hb d_M_right_30 (by decide) (fun c_0 => absurd c_0 (by decide)) (fun _ => ?_)
      refine lv_aload_n hx hb d_M_right_33 rfl (lv_at hl 0 rfl) ?_
      refine mg_9 h0 hw d_M_right_34 ?_
      refine lv_iload_n hx hb d_M_right_37 rfl (lv_at hl 1 rfl) ?_
      refine lv_iload_n hx hb d_M_right_38 rfl (lv_at hl 2 rfl) ?_
      obtain ⟨hi_5, hok⟩ := hok
      refine ms_9 h0 hw hi_5 d_M_right_39 (fun H locs hw => ?_)
      exact rt_v h0 hw hr hlocks (u2 (u2 μ 0 0 0) 9 x1.toNatClampNeg x2) hF rfl d_M_right_40 (Nat.le_refl 0) (Nat.le_refl 0)
    · have hok := hok.1 c_4
      have hF := (if_pos c_4).symm.trans hF
      refine lv_iconst (v := 1) hx hb d_M_right_18 (by decide) ?_
      refine lv_goto (tgt := 23) hx hb d_M_right_19 (by decide) ?_
      refine mp_0 h0 hw d_M_right_23 (fun H locs hw => ?_)
      refine lv_aload_n hx hb d_M_right_26 rfl (lv_at hl 0 rfl) ?_
      refine mg_0 h0 hw d_M_right_27 ?_
      refine W.eq (g2 := F0 m 30 ls [.int 1]) rfl ?_
      refine lv_if_ne (tgt := 40) hx hb d_M_right_30 (by decide) (fun _ => ?_) (fun c_0 => absurd c_0 (by decide))
      exact rt_v h0 hw hr hlocks (u2 μ 0 0 1) hF rfl d_M_right_40 (Nat.le_refl 0) (Nat.le_refl 0)
set_option maxHeartbeats 4000000 in
set_option maxRecDepth 100000 in
theorem cM_setting (l : Launch) (D : va_G) (tc : Nat → ClassId) (a : Nat → Nat) (Y : va_W) (sz : Nat) (x1 : Int32) (μ : Nat → Nat → Int32) {F : Nat → Nat → Int32} (hok : kM_setting x1 μ) (hF : fM_setting x1 μ = F) : Met l y_M_setting (Cond.code y_M_setting b_M_setting 2 none :: gw) ({ frames := 1, cells := 0, slots := 0, locals := 22 } : Room) (va_Pc [.ref (a 0), .int x1] (pW D tc (mo tc a μ ++ Y) sz)) (va_Qv (fun u => u = F) (fun u t => qW D tc (va_A (mo tc a μ ++ Y) sz) (mo tc a u ++ Y) t) (va_A (mo tc a μ ++ Y) sz)) 0 0 (va_A (mo tc a μ ++ Y) sz) := by
  refine en_W (by decide) (Nat.le_of_ble_eq_true rfl) ?_
  intro p e s m args below meth c ls h0 hr hlocks hin hsz hw hl
  obtain ⟨hx, hb, hml, hown, hts, hK⟩ := id h0
  have hA : ∀ q : Nat, s.heap.size ≤ q → (va_A (mo tc a μ ++ Y) sz) q := fun q h => Or.inr (by rw [← hsz]; exact h)
  generalize va_A (mo tc a μ ++ Y) sz = A at hw hA ⊢
  obtain ⟨H, eH⟩ : ∃ z, z = s.heap := ⟨_, rfl⟩
  obtain ⟨locs, eL⟩ : ∃ z : List Loc, z = [] := ⟨_, rfl⟩
  have hw : wH D A s.heap (mo tc a μ ++ Y) H locs := by rw [eH, eL]; exact hw
  show W p l e _ s m _ below meth c s.heap [] 0 0 _ _
  have gl : W p l e ({ frames := 1, cells := 0, slots := 0, locals := 22 } : Room) s m args below meth c H locs 0 0 (MQ below (va_Qv (fun u => u = F) (fun u t => qW D tc A (mo tc a u ++ Y) t) A) args s 0 0 A) (F0 m 0 ls []) := ?_
  · rw [eH, eL] at gl; exact gl
  have hl : lv_has ls 2 [(0, .ref (a 0)), (1, .int x1)] := hl
  unfold kM_setting at hok
  unfold fM_setting at hF
  refine lv_aload_n hx hb d_M_setting_0 rfl (lv_at hl 0 rfl) ?_
  refine lv_iload_n hx hb d_M_setting_1 rfl (lv_at hl 1 rfl) ?_
  refine lv_iconst (v := 0) hx hb d_M_setting_2 (by decide) ?_
  refine lv_iconst (v := 1) hx hb d_M_setting_3 (by decide) ?_
  obtain ⟨hi_1, hok⟩ := hok
  refine cs_p (n := 3) (As := [.int x1, .int 0, .int 1]) (rest := [.ref (a 0)]) hx hb hml hown hts (cM_in l x1 0 1 hi_1 rfl) (gd_S wd_707 wd_708 wd_3 wd_709) (by decide +kernel) ⟨rfl, rfl, Nat.le_of_ble_eq_true rfl, Nat.le_of_ble_eq_true rfl, Nat.le_of_ble_eq_true rfl, Nat.le_of_ble_eq_true rfl⟩ rfl hl.1 rfl (Nat.le_of_ble_eq_true rfl) d_M_setting_4 ?_
  refine lv_if_eq (tgt := 14) hx hb d_M_setting_7 (by decide) (fun c_2 => ?_) (fun c_2 => ?_)
  · have hok := hok.1 c_2
    have hF := (if_pos c_2).symm.trans hF
    refine lv_iconst (v := 1) hx hb d_M_setting_14 (by decide) ?_
    refine mp_0 h0 hw d_M_setting_15 (fun H locs hw => ?_)
    refine lv_aload_n hx hb d_M_setting_18 rfl (lv_at hl 0 rfl) ?_
    refine mg_0 h0 hw d_M_setting_19 ?_
    refine W.eq (g2 := F0 m 22 ls [.int 1]) rfl ?_
    refine lv_if_ne (tgt := 30) hx hb d_M_setting_22 (by decide) (fun _ => ?_) (fun c_0 => absurd c_0 (by decide))
    exact rt_v h0 hw hr hlocks (u2 μ 0 0 1) hF rfl d_M_setting_30 (Nat.le_refl 0) (Nat.le_refl 0)
  · have hok := hok.2 c_2
    have hF := (if_neg c_2).symm.trans hF
    refine lv_iconst (v := 0) hx hb d_M_setting_10 (by decide) ?_
    refine lv_goto (tgt := 15) hx hb d_M_setting_11 (by decide) ?_
    refine mp_0 h0 hw d_M_setting_15 (fun H locs hw => ?_)
    refine lv_aload_n hx hb d_M_setting_18 rfl (lv_at hl 0 rfl) ?_
    refine mg_0 h0 hw d_M_setting_19 ?_
    refine W.eq (g2 := F0 m 22 ls [.int 0]) rfl ?_
    refine lv_if_ne (tgt := 30) hx hb d_M_setting_22 (by decide) (fun c_0 => absurd c_0 (by decide)) (fun _ => ?_)
    refine lv_aload_n hx hb d_M_setting_25 rfl (lv_at hl 0 rfl) ?_
    refine lv_iload_n hx hb d_M_setting_26 rfl (lv_at hl 1 rfl) ?_
    refine mp_2 h0 hw d_M_setting_27 (fun H locs hw => ?_)
    exact rt_v h0 hw hr hlocks (u2 (u2 μ 0 0 0) 2 0 x1) hF rfl d_M_setting_30 (Nat.le_refl 0) (Nat.le_refl 0)
set_option maxHeartbeats 4000000 in
set_option maxRecDepth 100000 in
theorem cM_day (l : Launch) (D : va_G) (tc : Nat → ClassId) (a : Nat → Nat) (Y : va_W) (sz : Nat) (x1 : Int32) (μ : Nat → Nat → Int32) {F : Nat → Nat → Int32} (hok : kM_day x1 μ) (hF : fM_day x1 μ = F) : Met l y_M_day (Cond.code y_M_day b_M_day 2 none :: gw) ({ frames := 1, cells := 0, slots := 0, locals := 22 } : Room) (va_Pc [.ref (a 0), .int x1] (pW D tc (mo tc a μ ++ Y) sz)) (va_Qv (fun u => u = F) (fun u t => qW D tc (va_A (mo tc a μ ++ Y) sz) (mo tc a u ++ Y) t) (va_A (mo tc a μ ++ Y) sz)) 0 0 (va_A (mo tc a μ ++ Y) sz) := by
  refine en_W (by decide) (Nat.le_of_ble_eq_true rfl) ?_
  intro p e s m args below meth c ls h0 hr hlocks hin hsz hw hl
  obtain ⟨hx, hb, hml, hown, hts, hK⟩ := id h0
  have hA : ∀ q : Nat, s.heap.size ≤ q → (va_A (mo tc a μ ++ Y) sz) q := fun q h => Or.inr (by rw [← hsz]; exact h)
  generalize va_A (mo tc a μ ++ Y) sz = A at hw hA ⊢
  obtain ⟨H, eH⟩ : ∃ z, z = s.heap := ⟨_, rfl⟩
  obtain ⟨locs, eL⟩ : ∃ z : List Loc, z = [] := ⟨_, rfl⟩
  have hw : wH D A s.heap (mo tc a μ ++ Y) H locs := by rw [eH, eL]; exact hw
  show W p l e _ s m _ below meth c s.heap [] 0 0 _ _
  have gl : W p l e ({ frames := 1, cells := 0, slots := 0, locals := 22 } : Room) s m args below meth c H locs 0 0 (MQ below (va_Qv (fun u => u = F) (fun u t => qW D tc A (mo tc a u ++ Y) t) A) args s 0 0 A) (F0 m 0 ls []) := ?_
  · rw [eH, eL] at gl; exact gl
  have hl : lv_has ls 2 [(0, .ref (a 0)), (1, .int x1)] := hl
  unfold kM_day at hok
  unfold fM_day at hF
  refine lv_aload_n hx hb d_M_day_0 rfl (lv_at hl 0 rfl) ?_
  refine lv_iload_n hx hb d_M_day_1 rfl (lv_at hl 1 rfl) ?_
  refine lv_iconst (v := 0) hx hb d_M_day_2 (by decide) ?_
  refine lv_sipush (v := 10000) hx hb d_M_day_3 (by decide) ?_
  obtain ⟨hi_1, hok⟩ := hok
  refine cs_p (n := 3) (As := [.int x1, .int 0, .int 10000]) (rest := [.ref (a 0)]) hx hb hml hown hts (cM_in l x1 0 10000 hi_1 rfl) (gd_S wd_707 wd_708 wd_3 wd_709) (by decide +kernel) ⟨rfl, rfl, Nat.le_of_ble_eq_true rfl, Nat.le_of_ble_eq_true rfl, Nat.le_of_ble_eq_true rfl, Nat.le_of_ble_eq_true rfl⟩ rfl hl.1 rfl (Nat.le_of_ble_eq_true rfl) d_M_day_6 ?_
  refine lv_if_ne (tgt := 16) hx hb d_M_day_9 (by decide) (fun c_2 => ?_) (fun c_2 => ?_)
  · have hok := hok.2 c_2
    have hF := (if_neg c_2).symm.trans hF
    refine lv_iload_n hx hb d_M_day_16 rfl (lv_at hl 1 rfl) ?_
    refine lv_aload_n hx hb d_M_day_17 rfl (lv_at hl 0 rfl) ?_
    refine mg_1 h0 hw d_M_day_18 ?_
    refine lv_icmp_ge (tgt := 28) hx hb d_M_day_21 (by decide) (fun c_3 => ?_) (fun c_3 => ?_)
    · have hok := hok.1 c_3
      have hF := (if_pos c_3).symm.trans hF
      refine lv_iconst (v := 0) hx hb d_M_day_28 (by decide) ?_
      refine mp_0 h0 hw d_M_day_29 (fun H locs hw => ?_)
      refine lv_aload_n hx hb d_M_day_32 rfl (lv_at hl 0 rfl) ?_
      refine mg_0 h0 hw d_M_day_33 ?_
      refine W.eq (g2 := F0 m 36 ls [.int 0]) rfl ?_
      refine lv_if_ne (tgt := 44) hx hb d_M_day_36 (by decide) (fun c_0 => absurd c_0 (by decide)) (fun _ => ?_)
      refine lv_aload_n hx hb d_M_day_39 rfl (lv_at hl 0 rfl) ?_
      refine lv_iload_n hx hb d_M_day_40 rfl (lv_at hl 1 rfl) ?_
      refine mp_1 h0 hw d_M_day_41 (fun H locs hw => ?_)
      exact rt_v h0 hw hr hlocks (u2 (u2 μ 0 0 0) 1 0 x1) hF rfl d_M_day_44 (Nat.le_refl 0) (Nat.le_refl 0)
    · have hok := hok.2 c_3
      have hF := (if_neg c_3).symm.trans hF
      refine lv_iconst (v := 2) hx hb d_M_day_24 (by decide) ?_
      refine lv_goto (tgt := 29) hx hb d_M_day_25 (by decide) ?_
      refine mp_0 h0 hw d_M_day_29 (fun H locs hw => ?_)
      refine lv_aload_n hx hb d_M_day_32 rfl (lv_at hl 0 rfl) ?_
      refine mg_0 h0 hw d_M_day_33 ?_
      refine W.eq (g2 := F0 m 36 ls [.int 2]) rfl ?_
      refine lv_if_ne (tgt := 44) hx hb d_M_day_36 (by decide) (fun _ => ?_) (fun c_0 => absurd c_0 (by decide))
      exact rt_v h0 hw hr hlocks (u2 μ 0 0 2) hF rfl d_M_day_44 (Nat.le_refl 0) (Nat.le_refl 0)
  · have hok := hok.1 c_2
    have hF := (if_pos c_2).symm.trans hF
    refine lv_iconst (v := 1) hx hb d_M_day_12 (by decide) ?_
    refine lv_goto (tgt := 29) hx hb d_M_day_13 (by decide) ?_
    refine mp_0 h0 hw d_M_day_29 (fun H locs hw => ?_)
    refine lv_aload_n hx hb d_M_day_32 rfl (lv_at hl 0 rfl) ?_
    refine mg_0 h0 hw d_M_day_33 ?_
    refine W.eq (g2 := F0 m 36 ls [.int 1]) rfl ?_
    refine lv_if_ne (tgt := 44) hx hb d_M_day_36 (by decide) (fun _ => ?_) (fun c_0 => absurd c_0 (by decide))
    exact rt_v h0 hw hr hlocks (u2 μ 0 0 1) hF rfl d_M_day_44 (Nat.le_refl 0) (Nat.le_refl 0)
set_option maxHeartbeats 4000000 in
set_option maxRecDepth 100000 in
theorem cM_move (l : Launch) (D : va_G) (tc : Nat → ClassId) (a : Nat → Nat) (Y : va_W) (sz : Nat) (x1 : Int32) (x2 : Int32) (x3 : Int32) (x4 : Int32) (μ : Nat → Nat → Int32) {F : Int32 × (Nat → Nat → Int32)} (hok : kM_move x1 x2 x3 x4 μ) (hF : fM_move x1 x2 x3 x4 μ = F) : Met l y_M_move (Cond.code y_M_move b_M_move 5 (some .int) :: gw) ({ frames := 2, cells := 0, slots := 0, locals := 43 } : Room) (va_Pc [.ref (a 0), .int x1, .int x2, .int x3, .int x4] (pW D tc (mo tc a μ ++ Y) sz)) (va_Qi (fun r u => (r, u) = F) (fun u t => qW D tc (va_A (mo tc a μ ++ Y) sz) (mo tc a u ++ Y) t) (va_A (mo tc a μ ++ Y) sz)) 0 0 (va_A (mo tc a μ ++ Y) sz) := by
  refine en_W (by decide) (Nat.le_of_ble_eq_true rfl) ?_
  intro p e s m args below meth c ls h0 hr hlocks hin hsz hw hl
  obtain ⟨hx, hb, hml, hown, hts, hK⟩ := id h0
  have hA : ∀ q : Nat, s.heap.size ≤ q → (va_A (mo tc a μ ++ Y) sz) q := fun q h => Or.inr (by rw [← hsz]; exact h)
  generalize va_A (mo tc a μ ++ Y) sz = A at hw hA ⊢
  obtain ⟨H, eH⟩ : ∃ z, z = s.heap := ⟨_, rfl⟩
  obtain ⟨locs, eL⟩ : ∃ z : List Loc, z = [] := ⟨_, rfl⟩
  have hw : wH D A s.heap (mo tc a μ ++ Y) H locs := by rw [eH, eL]; exact hw
  show W p l e _ s m _ below meth c s.heap [] 0 0 _ _
  have gl : W p l e ({ frames := 2, cells := 0, slots := 0, locals := 43 } : Room) s m args below meth c H locs 0 0 (MQ below (va_Qi (fun r u => (r, u) = F) (fun u t => qW D tc A (mo tc a u ++ Y) t) A) args s 0 0 A) (F0 m 0 ls []) := ?_
  · rw [eH, eL] at gl; exact gl
  have hl : lv_has ls 5 [(0, .ref (a 0)), (1, .int x1), (2, .int x2), (3, .int x3), (4, .int x4)] := hl
  unfold kM_move at hok
  unfold fM_move at hF
  refine lv_aload_n hx hb d_M_move_0 rfl (lv_at hl 0 rfl) ?_
  refine lv_aload_n hx hb d_M_move_1 rfl (lv_at hl 0 rfl) ?_
  refine lv_iload_n hx hb d_M_move_2 rfl (lv_at hl 1 rfl) ?_
  obtain ⟨hi_1, hok⟩ := hok
  refine cv_p (n := 1) (C := "CountRoundsModel") (b := a 0) (q0 := 0) (ci := 4) (As := [.int x1]) (rest := [.ref (a 0)]) h0 hw (cM_isPlace l D tc a Y H.size x1 μ hi_1 rfl) (gd_V wd_714 wd_716 (gw_s 22 rfl rfl) wd_3 wd_717) (by decide +kernel) ⟨rfl, rfl, Nat.le_of_ble_eq_true rfl, Nat.le_of_ble_eq_true rfl, Nat.le_of_ble_eq_true rfl, Nat.le_of_ble_eq_true rfl⟩ rfl rfl rfl hl.1 rfl (Nat.le_of_ble_eq_true rfl) d_M_move_3 ?_
  refine lv_if_eq (tgt := 17) hx hb d_M_move_6 (by decide) (fun c_2 => ?_) (fun c_2 => ?_)
  · have hok := hok.1 c_2
    have hF := (if_pos c_2).symm.trans hF
    refine lv_iconst (v := 1) hx hb d_M_move_17 (by decide) ?_
    refine lv_goto (tgt := 49) hx hb d_M_move_18 (by decide) ?_
    refine mp_0 h0 hw d_M_move_49 (fun H locs hw => ?_)
    refine lv_aload_n hx hb d_M_move_52 rfl (lv_at hl 0 rfl) ?_
    refine mg_0 h0 hw d_M_move_53 ?_
    refine W.eq (g2 := F0 m 56 ls [.int 1]) rfl ?_
    refine lv_if_ne (tgt := 97) hx hb d_M_move_56 (by decide) (fun _ => ?_) (fun c_0 => absurd c_0 (by decide))
    refine lv_aload_n hx hb d_M_move_97 rfl (lv_at hl 0 rfl) ?_
    refine mg_0 h0 hw d_M_move_98 ?_
    refine W.eq (g2 := F0 m 101 ls [.int 1]) rfl ?_
    refine lv_if_le (tgt := 106) hx hb d_M_move_101 (by decide) (fun c_0 => absurd c_0 (by decide)) (fun _ => ?_)
    refine lv_iconst (v := 0) hx hb d_M_move_104 (by decide) ?_
    exact rt_i h0 hw hr hlocks rfl (u2 μ 0 0 1) hF rfl d_M_move_105 (Nat.le_refl 0) (Nat.le_refl 0)
  · have hok := hok.2 c_2
    have hF := (if_neg c_2).symm.trans hF
    refine lv_aload_n hx hb d_M_move_9 rfl (lv_at hl 0 rfl) ?_
    refine lv_iload_n hx hb d_M_move_10 rfl (lv_at hl 2 rfl) ?_
    obtain ⟨hi_3, hok⟩ := hok
    refine cv_p (n := 1) (C := "CountRoundsModel") (b := a 0) (q0 := 0) (ci := 4) (As := [.int x2]) (rest := [.ref (a 0)]) h0 hw (cM_isPlace l D tc a Y H.size x2 μ hi_3 rfl) (gd_V wd_714 wd_716 (gw_s 22 rfl rfl) wd_3 wd_717) (by decide +kernel) ⟨rfl, rfl, Nat.le_of_ble_eq_true rfl, Nat.le_of_ble_eq_true rfl, Nat.le_of_ble_eq_true rfl, Nat.le_of_ble_eq_true rfl⟩ rfl rfl rfl hl.1 rfl (Nat.le_of_ble_eq_true rfl) d_M_move_11 ?_
    refine lv_if_ne (tgt := 21) hx hb d_M_move_14 (by decide) (fun c_4 => ?_) (fun c_4 => ?_)
    · have hok := hok.2 c_4
      have hF := (if_neg c_4).symm.trans hF
      refine lv_iload_n hx hb d_M_move_21 rfl (lv_at hl 3 rfl) ?_
      obtain ⟨hi_5, hok⟩ := hok
      refine cs_p (n := 1) (As := [.int x3]) (rest := [.ref (a 0)]) hx hb hml hown hts (cM_isGood l x3 hi_5 rfl) (gd_S wd_718 wd_719 wd_3 wd_720) (by decide +kernel) ⟨rfl, rfl, Nat.le_of_ble_eq_true rfl, Nat.le_of_ble_eq_true rfl, Nat.le_of_ble_eq_true rfl, Nat.le_of_ble_eq_true rfl⟩ rfl hl.1 rfl (Nat.le_of_ble_eq_true rfl) d_M_move_22 ?_
      refine lv_if_eq (tgt := 44) hx hb d_M_move_25 (by decide) (fun c_6 => ?_) (fun c_6 => ?_)
      · have hok := hok.1 c_6
        have hF := (if_pos c_6).symm.trans hF
        refine lv_iconst (v := 2) hx hb d_M_move_44 (by decide) ?_
        refine lv_goto (tgt := 49) hx hb d_M_move_45 (by decide) ?_
        refine mp_0 h0 hw d_M_move_49 (fun H locs hw => ?_)
        refine lv_aload_n hx hb d_M_move_52 rfl (lv_at hl 0 rfl) ?_
        refine mg_0 h0 hw d_M_move_53 ?_
        refine W.eq (g2 := F0 m 56 ls [.int 2]) rfl ?_
        refine lv_if_ne (tgt := 97) hx hb d_M_move_56 (by decide) (fun _ => ?_) (fun c_0 => absurd c_0 (by decide))
        refine lv_aload_n hx hb d_M_move_97 rfl (lv_at hl 0 rfl) ?_
        refine mg_0 h0 hw d_M_move_98 ?_
        refine W.eq (g2 := F0 m 101 ls [.int 2]) rfl ?_
        refine lv_if_le (tgt := 106) hx hb d_M_move_101 (by decide) (fun c_0 => absurd c_0 (by decide)) (fun _ => ?_)
        refine lv_iconst (v := 0) hx hb d_M_move_104 (by decide) ?_
        exact rt_i h0 hw hr hlocks rfl (u2 μ 0 0 2) hF rfl d_M_move_105 (Nat.le_refl 0) (Nat.le_refl 0)
      · have hok := hok.2 c_6
        have hF := (if_neg c_6).symm.trans hF
        refine lv_iload hx hb d_M_move_28 (lv_at hl 4 rfl) ?_
        refine lv_iconst (v := 1) hx hb d_M_move_30 (by decide) ?_
        refine lv_ldc hx hb hown (hts _ wd_721) d_M_move_31 ?_
        obtain ⟨hi_7, hok⟩ := hok
        refine cs_p (n := 3) (As := [.int x4, .int 1, .int 1000000]) (rest := [.ref (a 0)]) hx hb hml hown hts (cM_in l x4 1 1000000 hi_7 rfl) (gd_S wd_707 wd_708 wd_3 wd_709) (by decide +kernel) ⟨rfl, rfl, Nat.le_of_ble_eq_true rfl, Nat.le_of_ble_eq_true rfl, Nat.le_of_ble_eq_true rfl, Nat.le_of_ble_eq_true rfl⟩ rfl hl.1 rfl (Nat.le_of_ble_eq_true rfl) d_M_move_33 ?_
        refine lv_if_eq (tgt := 44) hx hb d_M_move_36 (by decide) (fun c_8 => ?_) (fun c_8 => ?_)
        · have hok := hok.1 c_8
          have hF := (if_pos c_8).symm.trans hF
          refine lv_iconst (v := 2) hx hb d_M_move_44 (by decide) ?_
          refine lv_goto (tgt := 49) hx hb d_M_move_45 (by decide) ?_
          refine mp_0 h0 hw d_M_move_49 (fun H locs hw => ?_)
          refine lv_aload_n hx hb d_M_move_52 rfl (lv_at hl 0 rfl) ?_
          refine mg_0 h0 hw d_M_move_53 ?_
          refine W.eq (g2 := F0 m 56 ls [.int 2]) rfl ?_
          refine lv_if_ne (tgt := 97) hx hb d_M_move_56 (by decide) (fun _ => ?_) (fun c_0 => absurd c_0 (by decide))
          refine lv_aload_n hx hb d_M_move_97 rfl (lv_at hl 0 rfl) ?_
          refine mg_0 h0 hw d_M_move_98 ?_
          refine W.eq (g2 := F0 m 101 ls [.int 2]) rfl ?_
          refine lv_if_le (tgt := 106) hx hb d_M_move_101 (by decide) (fun c_0 => absurd c_0 (by decide)) (fun _ => ?_)
          refine lv_iconst (v := 0) hx hb d_M_move_104 (by decide) ?_
          exact rt_i h0 hw hr hlocks rfl (u2 μ 0 0 2) hF rfl d_M_move_105 (Nat.le_refl 0) (Nat.le_refl 0)
        · have hok := hok.2 c_8
          have hF := (if_neg c_8).symm.trans hF
          refine lv_iload_n hx hb d_M_move_39 rfl (lv_at hl 1 rfl) ?_
          refine lv_iload_n hx hb d_M_move_40 rfl (lv_at hl 2 rfl) ?_
          refine lv_icmp_ne (tgt := 48) hx hb d_M_move_41 (by decide) (fun c_9 => ?_) (fun c_9 => ?_)
          · have hok := hok.2 c_9
            have hF := (if_neg c_9).symm.trans hF
            refine lv_iconst (v := 0) hx hb d_M_move_48 (by decide) ?_
            refine mp_0 h0 hw d_M_move_49 (fun H locs hw => ?_)
            refine lv_aload_n hx hb d_M_move_52 rfl (lv_at hl 0 rfl) ?_
            refine mg_0 h0 hw d_M_move_53 ?_
            refine W.eq (g2 := F0 m 56 ls [.int 0]) rfl ?_
            refine lv_if_ne (tgt := 97) hx hb d_M_move_56 (by decide) (fun c_0 => absurd c_0 (by decide)) (fun _ => ?_)
            refine lv_aload_n hx hb d_M_move_59 rfl (lv_at hl 0 rfl) ?_
            refine lv_aload_n hx hb d_M_move_60 rfl (lv_at hl 0 rfl) ?_
            refine mg_6 h0 hw d_M_move_61 ?_
            refine lv_bipush (v := 6) hx hb d_M_move_64 (by decide) ?_
            refine lv_iload_n hx hb d_M_move_66 rfl (lv_at hl 1 rfl) ?_
            refine lv_imul hx hb d_M_move_67 ?_
            refine lv_iload_n hx hb d_M_move_68 rfl (lv_at hl 3 rfl) ?_
            refine lv_iadd hx hb d_M_move_69 ?_
            obtain ⟨hi_10, hok⟩ := hok
            refine ml_6 h0 hw hi_10 d_M_move_70 ?_
            refine W.eq (g2 := F0 m 71 ls [.int (μ 6 ((6 * x1) + x3).toNatClampNeg), .ref (a 0)]) rfl ?_
            refine lv_iload hx hb d_M_move_71 (lv_at hl 4 rfl) ?_
            refine lv_icmp_ge (tgt := 80) hx hb d_M_move_73 (by decide) (fun c_11 => ?_) (fun c_11 => ?_)
            · have hok := hok.1 c_11
              have hF := (if_pos c_11).symm.trans hF
              refine lv_aload_n hx hb d_M_move_80 rfl (lv_at hl 0 rfl) ?_
              refine mg_10 h0 hw d_M_move_81 ?_
              refine W.eq (g2 := F0 m 84 ls [.int (μ 10 0), .ref (a 0)]) rfl ?_
              refine lv_bipush (v := 60) hx hb d_M_move_84 (by decide) ?_
              refine lv_icmp_ne (tgt := 93) hx hb d_M_move_86 (by decide) (fun c_12 => ?_) (fun c_12 => ?_)
              · have hok := hok.2 c_12
                have hF := (if_neg c_12).symm.trans hF
                refine lv_iconst (v := 0) hx hb d_M_move_93 (by decide) ?_
                refine mp_0 h0 hw d_M_move_94 (fun H locs hw => ?_)
                refine lv_aload_n hx hb d_M_move_97 rfl (lv_at hl 0 rfl) ?_
                refine mg_0 h0 hw d_M_move_98 ?_
                refine W.eq (g2 := F0 m 101 ls [.int 0]) rfl ?_
                refine lv_if_le (tgt := 106) hx hb d_M_move_101 (by decide) (fun _ => ?_) (fun c_0 => absurd c_0 (by decide))
                refine lv_aload_n hx hb d_M_move_106 rfl (lv_at hl 0 rfl) ?_
                refine mg_6 h0 hw d_M_move_107 ?_
                refine lv_bipush (v := 6) hx hb d_M_move_110 (by decide) ?_
                refine lv_iload_n hx hb d_M_move_112 rfl (lv_at hl 1 rfl) ?_
                refine lv_imul hx hb d_M_move_113 ?_
                refine lv_iload_n hx hb d_M_move_114 rfl (lv_at hl 3 rfl) ?_
                refine lv_iadd hx hb d_M_move_115 ?_
                refine lv_dup2_11 hx hb d_M_move_116 rfl rfl ?_
                obtain ⟨hi_13, hok⟩ := hok
                refine ml_6 h0 hw hi_13 d_M_move_117 ?_
                refine W.eq (g2 := F0 m 118 ls [.int (μ 6 ((6 * x1) + x3).toNatClampNeg), .int ((6 * x1) + x3), .ref (a 6)]) rfl ?_
                refine lv_iload hx hb d_M_move_118 (lv_at hl 4 rfl) ?_
                refine lv_isub hx hb d_M_move_120 ?_
                obtain ⟨hi_14, hok⟩ := hok
                refine ms_6 h0 hw hi_14 d_M_move_121 (fun H locs hw => ?_)
                refine lv_aload_n hx hb d_M_move_122 rfl (lv_at hl 0 rfl) ?_
                refine lv_dup hx hb d_M_move_123 rfl ?_
                refine mg_10 h0 hw d_M_move_124 ?_
                refine W.eq (g2 := F0 m 127 ls [.int (μ 10 0), .ref (a 0)]) rfl ?_
                refine lv_iconst (v := 1) hx hb d_M_move_127 (by decide) ?_
                refine lv_iadd hx hb d_M_move_128 ?_
                refine mp_10 h0 hw d_M_move_129 (fun H locs hw => ?_)
                refine lv_aload_n hx hb d_M_move_132 rfl (lv_at hl 0 rfl) ?_
                refine mg_11 h0 hw d_M_move_133 ?_
                refine lv_aload_n hx hb d_M_move_136 rfl (lv_at hl 0 rfl) ?_
                refine mg_10 h0 hw d_M_move_137 ?_
                refine W.eq (g2 := F0 m 140 ls [.int ((μ 10 0) + 1), .ref (a 11)]) rfl ?_
                refine lv_iload_n hx hb d_M_move_140 rfl (lv_at hl 1 rfl) ?_
                obtain ⟨hi_15, hok⟩ := hok
                refine ms_11 h0 hw hi_15 d_M_move_141 (fun H locs hw => ?_)
                refine lv_aload_n hx hb d_M_move_142 rfl (lv_at hl 0 rfl) ?_
                refine mg_12 h0 hw d_M_move_143 ?_
                refine lv_aload_n hx hb d_M_move_146 rfl (lv_at hl 0 rfl) ?_
                refine mg_10 h0 hw d_M_move_147 ?_
                refine W.eq (g2 := F0 m 150 ls [.int ((μ 10 0) + 1), .ref (a 12)]) rfl ?_
                refine lv_iload_n hx hb d_M_move_150 rfl (lv_at hl 2 rfl) ?_
                obtain ⟨hi_16, hok⟩ := hok
                refine ms_12 h0 hw hi_16 d_M_move_151 (fun H locs hw => ?_)
                refine lv_aload_n hx hb d_M_move_152 rfl (lv_at hl 0 rfl) ?_
                refine mg_13 h0 hw d_M_move_153 ?_
                refine lv_aload_n hx hb d_M_move_156 rfl (lv_at hl 0 rfl) ?_
                refine mg_10 h0 hw d_M_move_157 ?_
                refine W.eq (g2 := F0 m 160 ls [.int ((μ 10 0) + 1), .ref (a 13)]) rfl ?_
                refine lv_iload_n hx hb d_M_move_160 rfl (lv_at hl 3 rfl) ?_
                obtain ⟨hi_17, hok⟩ := hok
                refine ms_13 h0 hw hi_17 d_M_move_161 (fun H locs hw => ?_)
                refine lv_aload_n hx hb d_M_move_162 rfl (lv_at hl 0 rfl) ?_
                refine mg_14 h0 hw d_M_move_163 ?_
                refine lv_aload_n hx hb d_M_move_166 rfl (lv_at hl 0 rfl) ?_
                refine mg_10 h0 hw d_M_move_167 ?_
                refine W.eq (g2 := F0 m 170 ls [.int ((μ 10 0) + 1), .ref (a 14)]) rfl ?_
                refine lv_iload hx hb d_M_move_170 (lv_at hl 4 rfl) ?_
                obtain ⟨hi_18, hok⟩ := hok
                refine ms_14 h0 hw hi_18 d_M_move_172 (fun H locs hw => ?_)
                refine lv_aload_n hx hb d_M_move_173 rfl (lv_at hl 0 rfl) ?_
                refine mg_10 h0 hw d_M_move_174 ?_
                refine W.eq (g2 := F0 m 177 ls [.int ((μ 10 0) + 1)]) rfl ?_
                exact rt_i h0 hw hr hlocks rfl (u2 (u2 (u2 (u2 (u2 (u2 (u2 (u2 μ 0 0 0) 0 0 0) 6 ((6 * x1) + x3).toNatClampNeg ((μ 6 ((6 * x1) + x3).toNatClampNeg) - x4)) 10 0 ((μ 10 0) + 1)) 11 ((μ 10 0) + 1).toNatClampNeg x1) 12 ((μ 10 0) + 1).toNatClampNeg x2) 13 ((μ 10 0) + 1).toNatClampNeg x3) 14 ((μ 10 0) + 1).toNatClampNeg x4) hF rfl d_M_move_177 (Nat.le_refl 0) (Nat.le_refl 0)
              · have hok := hok.1 c_12
                have hF := (if_pos c_12).symm.trans hF
                refine lv_iconst (v := 4) hx hb d_M_move_89 (by decide) ?_
                refine lv_goto (tgt := 94) hx hb d_M_move_90 (by decide) ?_
                refine mp_0 h0 hw d_M_move_94 (fun H locs hw => ?_)
                refine lv_aload_n hx hb d_M_move_97 rfl (lv_at hl 0 rfl) ?_
                refine mg_0 h0 hw d_M_move_98 ?_
                refine W.eq (g2 := F0 m 101 ls [.int 4]) rfl ?_
                refine lv_if_le (tgt := 106) hx hb d_M_move_101 (by decide) (fun c_0 => absurd c_0 (by decide)) (fun _ => ?_)
                refine lv_iconst (v := 0) hx hb d_M_move_104 (by decide) ?_
                exact rt_i h0 hw hr hlocks rfl (u2 (u2 μ 0 0 0) 0 0 4) hF rfl d_M_move_105 (Nat.le_refl 0) (Nat.le_refl 0)
            · have hok := hok.2 c_11
              have hF := (if_neg c_11).symm.trans hF
              refine lv_iconst (v := 3) hx hb d_M_move_76 (by decide) ?_
              refine lv_goto (tgt := 94) hx hb d_M_move_77 (by decide) ?_
              refine mp_0 h0 hw d_M_move_94 (fun H locs hw => ?_)
              refine lv_aload_n hx hb d_M_move_97 rfl (lv_at hl 0 rfl) ?_
              refine mg_0 h0 hw d_M_move_98 ?_
              refine W.eq (g2 := F0 m 101 ls [.int 3]) rfl ?_
              refine lv_if_le (tgt := 106) hx hb d_M_move_101 (by decide) (fun c_0 => absurd c_0 (by decide)) (fun _ => ?_)
              refine lv_iconst (v := 0) hx hb d_M_move_104 (by decide) ?_
              exact rt_i h0 hw hr hlocks rfl (u2 (u2 μ 0 0 0) 0 0 3) hF rfl d_M_move_105 (Nat.le_refl 0) (Nat.le_refl 0)
          · have hok := hok.1 c_9
            have hF := (if_pos c_9).symm.trans hF
            refine lv_iconst (v := 2) hx hb d_M_move_44 (by decide) ?_
            refine lv_goto (tgt := 49) hx hb d_M_move_45 (by decide) ?_
            refine mp_0 h0 hw d_M_move_49 (fun H locs hw => ?_)
            refine lv_aload_n hx hb d_M_move_52 rfl (lv_at hl 0 rfl) ?_
            refine mg_0 h0 hw d_M_move_53 ?_
            refine W.eq (g2 := F0 m 56 ls [.int 2]) rfl ?_
            refine lv_if_ne (tgt := 97) hx hb d_M_move_56 (by decide) (fun _ => ?_) (fun c_0 => absurd c_0 (by decide))
            refine lv_aload_n hx hb d_M_move_97 rfl (lv_at hl 0 rfl) ?_
            refine mg_0 h0 hw d_M_move_98 ?_
            refine W.eq (g2 := F0 m 101 ls [.int 2]) rfl ?_
            refine lv_if_le (tgt := 106) hx hb d_M_move_101 (by decide) (fun c_0 => absurd c_0 (by decide)) (fun _ => ?_)
            refine lv_iconst (v := 0) hx hb d_M_move_104 (by decide) ?_
            exact rt_i h0 hw hr hlocks rfl (u2 μ 0 0 2) hF rfl d_M_move_105 (Nat.le_refl 0) (Nat.le_refl 0)
    · have hok := hok.1 c_4
      have hF := (if_pos c_4).symm.trans hF
      refine lv_iconst (v := 1) hx hb d_M_move_17 (by decide) ?_
      refine lv_goto (tgt := 49) hx hb d_M_move_18 (by decide) ?_
      refine mp_0 h0 hw d_M_move_49 (fun H locs hw => ?_)
      refine lv_aload_n hx hb d_M_move_52 rfl (lv_at hl 0 rfl) ?_
      refine mg_0 h0 hw d_M_move_53 ?_
      refine W.eq (g2 := F0 m 56 ls [.int 1]) rfl ?_
      refine lv_if_ne (tgt := 97) hx hb d_M_move_56 (by decide) (fun _ => ?_) (fun c_0 => absurd c_0 (by decide))
      refine lv_aload_n hx hb d_M_move_97 rfl (lv_at hl 0 rfl) ?_
      refine mg_0 h0 hw d_M_move_98 ?_
      refine W.eq (g2 := F0 m 101 ls [.int 1]) rfl ?_
      refine lv_if_le (tgt := 106) hx hb d_M_move_101 (by decide) (fun c_0 => absurd c_0 (by decide)) (fun _ => ?_)
      refine lv_iconst (v := 0) hx hb d_M_move_104 (by decide) ?_
      exact rt_i h0 hw hr hlocks rfl (u2 μ 0 0 1) hF rfl d_M_move_105 (Nat.le_refl 0) (Nat.le_refl 0)
set_option maxHeartbeats 4000000 in
set_option maxRecDepth 100000 in
theorem cM_end (l : Launch) (D : va_G) (tc : Nat → ClassId) (a : Nat → Nat) (Y : va_W) (sz : Nat) (x1 : Int32) (μ : Nat → Nat → Int32) {F : Nat → Nat → Int32} (hok : kM_end x1 μ) (hF : fM_end x1 μ = F) : Met l y_M_end (Cond.code y_M_end b_M_end 3 none :: gw) ({ frames := 1, cells := 0, slots := 0, locals := 22 } : Room) (va_Pc [.ref (a 0), .int x1] (pW D tc (mo tc a μ ++ Y) sz)) (va_Qv (fun u => u = F) (fun u t => qW D tc (va_A (mo tc a μ ++ Y) sz) (mo tc a u ++ Y) t) (va_A (mo tc a μ ++ Y) sz)) 0 0 (va_A (mo tc a μ ++ Y) sz) := by
  refine en_W (by decide) (Nat.le_of_ble_eq_true rfl) ?_
  intro p e s m args below meth c ls h0 hr hlocks hin hsz hw hl
  obtain ⟨hx, hb, hml, hown, hts, hK⟩ := id h0
  have hA : ∀ q : Nat, s.heap.size ≤ q → (va_A (mo tc a μ ++ Y) sz) q := fun q h => Or.inr (by rw [← hsz]; exact h)
  generalize va_A (mo tc a μ ++ Y) sz = A at hw hA ⊢
  obtain ⟨H, eH⟩ : ∃ z, z = s.heap := ⟨_, rfl⟩
  obtain ⟨locs, eL⟩ : ∃ z : List Loc, z = [] := ⟨_, rfl⟩
  have hw : wH D A s.heap (mo tc a μ ++ Y) H locs := by rw [eH, eL]; exact hw
  show W p l e _ s m _ below meth c s.heap [] 0 0 _ _
  have gl : W p l e ({ frames := 1, cells := 0, slots := 0, locals := 22 } : Room) s m args below meth c H locs 0 0 (MQ below (va_Qv (fun u => u = F) (fun u t => qW D tc A (mo tc a u ++ Y) t) A) args s 0 0 A) (F0 m 0 ls []) := ?_
  · rw [eH, eL] at gl; exact gl
  have hl : lv_has ls 3 [(0, .ref (a 0)), (1, .int x1)] := hl
  unfold kM_end at hok
  unfold fM_end at hF
  refine lv_aload_n hx hb d_M_end_0 rfl (lv_at hl 0 rfl) ?_
  refine lv_iload_n hx hb d_M_end_1 rfl (lv_at hl 1 rfl) ?_
  refine lv_iconst (v := 1) hx hb d_M_end_2 (by decide) ?_
  refine lv_aload_n hx hb d_M_end_3 rfl (lv_at hl 0 rfl) ?_
  refine mg_10 h0 hw d_M_end_4 ?_
  obtain ⟨hi_1, hok⟩ := hok
  refine cs_p (n := 3) (As := [.int x1, .int 1, .int (μ 10 0)]) (rest := [.ref (a 0)]) hx hb hml hown hts (cM_in l x1 1 (μ 10 0) hi_1 rfl) (gd_S wd_707 wd_708 wd_3 wd_709) (by decide +kernel) ⟨rfl, rfl, Nat.le_of_ble_eq_true rfl, Nat.le_of_ble_eq_true rfl, Nat.le_of_ble_eq_true rfl, Nat.le_of_ble_eq_true rfl⟩ rfl hl.1 rfl (Nat.le_of_ble_eq_true rfl) d_M_end_7 ?_
  refine lv_if_ne (tgt := 17) hx hb d_M_end_10 (by decide) (fun c_2 => ?_) (fun c_2 => ?_)
  · have hok := hok.2 c_2
    have hF := (if_neg c_2).symm.trans hF
    refine lv_iconst (v := 0) hx hb d_M_end_17 (by decide) ?_
    refine mp_0 h0 hw d_M_end_18 (fun H locs hw => ?_)
    refine lv_aload_n hx hb d_M_end_21 rfl (lv_at hl 0 rfl) ?_
    refine mg_0 h0 hw d_M_end_22 ?_
    refine W.eq (g2 := F0 m 25 ls [.int 0]) rfl ?_
    refine lv_if_le (tgt := 29) hx hb d_M_end_25 (by decide) (fun _ => ?_) (fun c_0 => absurd c_0 (by decide))
    refine lv_bipush (v := 6) hx hb d_M_end_29 (by decide) ?_
    refine lv_aload_n hx hb d_M_end_31 rfl (lv_at hl 0 rfl) ?_
    refine mg_12 h0 hw d_M_end_32 ?_
    refine lv_iload_n hx hb d_M_end_35 rfl (lv_at hl 1 rfl) ?_
    obtain ⟨hi_3, hok⟩ := hok
    refine ml_12 h0 hw hi_3 d_M_end_36 ?_
    refine W.eq (g2 := F0 m 37 ls [.int (μ 12 x1.toNatClampNeg), .int 6]) rfl ?_
    refine lv_imul hx hb d_M_end_37 ?_
    refine lv_aload_n hx hb d_M_end_38 rfl (lv_at hl 0 rfl) ?_
    refine mg_13 h0 hw d_M_end_39 ?_
    refine lv_iload_n hx hb d_M_end_42 rfl (lv_at hl 1 rfl) ?_
    obtain ⟨hi_4, hok⟩ := hok
    refine ml_13 h0 hw hi_4 d_M_end_43 ?_
    refine W.eq (g2 := F0 m 44 ls [.int (μ 13 x1.toNatClampNeg), .int (6 * (μ 12 x1.toNatClampNeg))]) rfl ?_
    refine lv_iadd hx hb d_M_end_44 ?_
    refine lv_istore_n (lv' := [(2, .int ((6 * (μ 12 x1.toNatClampNeg)) + (μ 13 x1.toNatClampNeg))), (0, .ref (a 0)), (1, .int x1)]) hx hb d_M_end_45 rfl hl (by decide) rfl (fun ls hl => ?_)
    refine lv_aload_n hx hb d_M_end_46 rfl (lv_at hl 1 rfl) ?_
    refine lv_aload_n hx hb d_M_end_47 rfl (lv_at hl 1 rfl) ?_
    refine mg_15 h0 hw d_M_end_48 ?_
    refine lv_iload_n hx hb d_M_end_51 rfl (lv_at hl 2 rfl) ?_
    obtain ⟨hi_5, hok⟩ := hok
    refine ml_15 h0 hw hi_5 d_M_end_52 ?_
    refine W.eq (g2 := F0 m 53 ls [.int (μ 15 x1.toNatClampNeg), .ref (a 0)]) rfl ?_
    refine lv_if_ne (tgt := 74) hx hb d_M_end_53 (by decide) (fun c_6 => ?_) (fun c_6 => ?_)
    · have hok := hok.2 c_6
      have hF := (if_neg c_6).symm.trans hF
      refine lv_iconst (v := 2) hx hb d_M_end_74 (by decide) ?_
      refine lv_goto (tgt := 79) hx hb d_M_end_75 (by decide) ?_
      refine mp_0 h0 hw d_M_end_79 (fun H locs hw => ?_)
      refine lv_aload_n hx hb d_M_end_82 rfl (lv_at hl 1 rfl) ?_
      refine mg_0 h0 hw d_M_end_83 ?_
      refine W.eq (g2 := F0 m 86 ls [.int 2]) rfl ?_
      refine lv_if_le (tgt := 90) hx hb d_M_end_86 (by decide) (fun c_0 => absurd c_0 (by decide)) (fun _ => ?_)
      exact rt_v h0 hw hr hlocks (u2 (u2 μ 0 0 0) 0 0 2) hF rfl d_M_end_89 (Nat.le_refl 0) (Nat.le_refl 0)
    · have hok := hok.1 c_6
      have hF := (if_pos c_6).symm.trans hF
      refine lv_aload_n hx hb d_M_end_56 rfl (lv_at hl 1 rfl) ?_
      refine mg_6 h0 hw d_M_end_57 ?_
      refine lv_iload_n hx hb d_M_end_60 rfl (lv_at hl 0 rfl) ?_
      obtain ⟨hi_7, hok⟩ := hok
      refine ml_6 h0 hw hi_7 d_M_end_61 ?_
      refine W.eq (g2 := F0 m 62 ls [.int (μ 6 ((6 * (μ 12 x1.toNatClampNeg)) + (μ 13 x1.toNatClampNeg)).toNatClampNeg), .ref (a 0)]) rfl ?_
      refine lv_aload_n hx hb d_M_end_62 rfl (lv_at hl 1 rfl) ?_
      refine mg_14 h0 hw d_M_end_63 ?_
      refine lv_iload_n hx hb d_M_end_66 rfl (lv_at hl 2 rfl) ?_
      obtain ⟨hi_8, hok⟩ := hok
      refine ml_14 h0 hw hi_8 d_M_end_67 ?_
      refine W.eq (g2 := F0 m 68 ls [.int (μ 14 x1.toNatClampNeg), .int (μ 6 ((6 * (μ 12 x1.toNatClampNeg)) + (μ 13 x1.toNatClampNeg)).toNatClampNeg), .ref (a 0)]) rfl ?_
      refine lv_iadd hx hb d_M_end_68 ?_
      refine lv_ldc hx hb hown (hts _ wd_721) d_M_end_69 ?_
      refine lv_icmp_le (tgt := 78) hx hb d_M_end_71 (by decide) (fun c_9 => ?_) (fun c_9 => ?_)
      · have hok := hok.1 c_9
        have hF := (if_pos c_9).symm.trans hF
        refine lv_iconst (v := 0) hx hb d_M_end_78 (by decide) ?_
        refine mp_0 h0 hw d_M_end_79 (fun H locs hw => ?_)
        refine lv_aload_n hx hb d_M_end_82 rfl (lv_at hl 1 rfl) ?_
        refine mg_0 h0 hw d_M_end_83 ?_
        refine W.eq (g2 := F0 m 86 ls [.int 0]) rfl ?_
        refine lv_if_le (tgt := 90) hx hb d_M_end_86 (by decide) (fun _ => ?_) (fun c_0 => absurd c_0 (by decide))
        refine lv_aload_n hx hb d_M_end_90 rfl (lv_at hl 1 rfl) ?_
        refine mg_15 h0 hw d_M_end_91 ?_
        refine lv_iload_n hx hb d_M_end_94 rfl (lv_at hl 2 rfl) ?_
        refine lv_iconst (v := 1) hx hb d_M_end_95 (by decide) ?_
        obtain ⟨hi_10, hok⟩ := hok
        refine ms_15 h0 hw hi_10 d_M_end_96 (fun H locs hw => ?_)
        refine lv_aload_n hx hb d_M_end_97 rfl (lv_at hl 1 rfl) ?_
        refine mg_6 h0 hw d_M_end_98 ?_
        refine lv_iload_n hx hb d_M_end_101 rfl (lv_at hl 0 rfl) ?_
        refine lv_dup2_11 hx hb d_M_end_102 rfl rfl ?_
        obtain ⟨hi_11, hok⟩ := hok
        refine ml_6 h0 hw hi_11 d_M_end_103 ?_
        refine W.eq (g2 := F0 m 104 ls [.int (μ 6 ((6 * (μ 12 x1.toNatClampNeg)) + (μ 13 x1.toNatClampNeg)).toNatClampNeg), .int ((6 * (μ 12 x1.toNatClampNeg)) + (μ 13 x1.toNatClampNeg)), .ref (a 6)]) rfl ?_
        refine lv_aload_n hx hb d_M_end_104 rfl (lv_at hl 1 rfl) ?_
        refine mg_14 h0 hw d_M_end_105 ?_
        refine lv_iload_n hx hb d_M_end_108 rfl (lv_at hl 2 rfl) ?_
        obtain ⟨hi_12, hok⟩ := hok
        refine ml_14 h0 hw hi_12 d_M_end_109 ?_
        refine W.eq (g2 := F0 m 110 ls [.int (μ 14 x1.toNatClampNeg), .int (μ 6 ((6 * (μ 12 x1.toNatClampNeg)) + (μ 13 x1.toNatClampNeg)).toNatClampNeg), .int ((6 * (μ 12 x1.toNatClampNeg)) + (μ 13 x1.toNatClampNeg)), .ref (a 6)]) rfl ?_
        refine lv_iadd hx hb d_M_end_110 ?_
        obtain ⟨hi_13, hok⟩ := hok
        refine ms_6 h0 hw hi_13 d_M_end_111 (fun H locs hw => ?_)
        exact rt_v h0 hw hr hlocks (u2 (u2 (u2 (u2 μ 0 0 0) 0 0 0) 15 x1.toNatClampNeg (vp_nar .boolean 1)) 6 ((6 * (μ 12 x1.toNatClampNeg)) + (μ 13 x1.toNatClampNeg)).toNatClampNeg ((μ 6 ((6 * (μ 12 x1.toNatClampNeg)) + (μ 13 x1.toNatClampNeg)).toNatClampNeg) + (μ 14 x1.toNatClampNeg))) hF rfl d_M_end_112 (Nat.le_refl 0) (Nat.le_refl 0)
      · have hok := hok.2 c_9
        have hF := (if_neg c_9).symm.trans hF
        refine lv_iconst (v := 2) hx hb d_M_end_74 (by decide) ?_
        refine lv_goto (tgt := 79) hx hb d_M_end_75 (by decide) ?_
        refine mp_0 h0 hw d_M_end_79 (fun H locs hw => ?_)
        refine lv_aload_n hx hb d_M_end_82 rfl (lv_at hl 1 rfl) ?_
        refine mg_0 h0 hw d_M_end_83 ?_
        refine W.eq (g2 := F0 m 86 ls [.int 2]) rfl ?_
        refine lv_if_le (tgt := 90) hx hb d_M_end_86 (by decide) (fun c_0 => absurd c_0 (by decide)) (fun _ => ?_)
        exact rt_v h0 hw hr hlocks (u2 (u2 μ 0 0 0) 0 0 2) hF rfl d_M_end_89 (Nat.le_refl 0) (Nat.le_refl 0)
  · have hok := hok.1 c_2
    have hF := (if_pos c_2).symm.trans hF
    refine lv_iconst (v := 1) hx hb d_M_end_13 (by decide) ?_
    refine lv_goto (tgt := 18) hx hb d_M_end_14 (by decide) ?_
    refine mp_0 h0 hw d_M_end_18 (fun H locs hw => ?_)
    refine lv_aload_n hx hb d_M_end_21 rfl (lv_at hl 0 rfl) ?_
    refine mg_0 h0 hw d_M_end_22 ?_
    refine W.eq (g2 := F0 m 25 ls [.int 1]) rfl ?_
    refine lv_if_le (tgt := 29) hx hb d_M_end_25 (by decide) (fun c_0 => absurd c_0 (by decide)) (fun _ => ?_)
    exact rt_v h0 hw hr hlocks (u2 μ 0 0 1) hF rfl d_M_end_28 (Nat.le_refl 0) (Nat.le_refl 0)
set_option maxHeartbeats 4000000 in
set_option maxRecDepth 100000 in
theorem cM_moves (l : Launch) (D : va_G) (tc : Nat → ClassId) (a : Nat → Nat) (Y : va_W) (sz : Nat) (x1 : Int32) (μ : Nat → Nat → Int32) {F : Int32 × (Nat → Nat → Int32)} (hok : kM_moves x1 μ) (hF : fM_moves x1 μ = F) : Met l y_M_moves (Cond.code y_M_moves b_M_moves 2 (some .int) :: gw) ({ frames := 2, cells := 0, slots := 0, locals := 43 } : Room) (va_Pc [.ref (a 0), .int x1] (pW D tc (mo tc a μ ++ Y) sz)) (va_Qi (fun r u => (r, u) = F) (fun u t => qW D tc (va_A (mo tc a μ ++ Y) sz) (mo tc a u ++ Y) t) (va_A (mo tc a μ ++ Y) sz)) 0 0 (va_A (mo tc a μ ++ Y) sz) := by
  refine en_W (by decide) (Nat.le_of_ble_eq_true rfl) ?_
  intro p e s m args below meth c ls h0 hr hlocks hin hsz hw hl
  obtain ⟨hx, hb, hml, hown, hts, hK⟩ := id h0
  have hA : ∀ q : Nat, s.heap.size ≤ q → (va_A (mo tc a μ ++ Y) sz) q := fun q h => Or.inr (by rw [← hsz]; exact h)
  generalize va_A (mo tc a μ ++ Y) sz = A at hw hA ⊢
  obtain ⟨H, eH⟩ : ∃ z, z = s.heap := ⟨_, rfl⟩
  obtain ⟨locs, eL⟩ : ∃ z : List Loc, z = [] := ⟨_, rfl⟩
  have hw : wH D A s.heap (mo tc a μ ++ Y) H locs := by rw [eH, eL]; exact hw
  show W p l e _ s m _ below meth c s.heap [] 0 0 _ _
  have gl : W p l e ({ frames := 2, cells := 0, slots := 0, locals := 43 } : Room) s m args below meth c H locs 0 0 (MQ below (va_Qi (fun r u => (r, u) = F) (fun u t => qW D tc A (mo tc a u ++ Y) t) A) args s 0 0 A) (F0 m 0 ls []) := ?_
  · rw [eH, eL] at gl; exact gl
  have hl : lv_has ls 2 [(0, .ref (a 0)), (1, .int x1)] := hl
  unfold kM_moves at hok
  unfold fM_moves at hF
  refine lv_aload_n hx hb d_M_moves_0 rfl (lv_at hl 0 rfl) ?_
  refine lv_aload_n hx hb d_M_moves_1 rfl (lv_at hl 0 rfl) ?_
  refine lv_iload_n hx hb d_M_moves_2 rfl (lv_at hl 1 rfl) ?_
  obtain ⟨hi_1, hok⟩ := hok
  refine cv_p (n := 1) (C := "CountRoundsModel") (b := a 0) (q0 := 0) (ci := 4) (As := [.int x1]) (rest := [.ref (a 0)]) h0 hw (cM_isPlace l D tc a Y H.size x1 μ hi_1 rfl) (gd_V wd_714 wd_716 (gw_s 22 rfl rfl) wd_3 wd_717) (by decide +kernel) ⟨rfl, rfl, Nat.le_of_ble_eq_true rfl, Nat.le_of_ble_eq_true rfl, Nat.le_of_ble_eq_true rfl, Nat.le_of_ble_eq_true rfl⟩ rfl rfl rfl hl.1 rfl (Nat.le_of_ble_eq_true rfl) d_M_moves_3 ?_
  refine lv_if_eq (tgt := 13) hx hb d_M_moves_6 (by decide) (fun c_2 => ?_) (fun c_2 => ?_)
  · have hok := hok.1 c_2
    have hF := (if_pos c_2).symm.trans hF
    refine lv_iconst (v := 1) hx hb d_M_moves_13 (by decide) ?_
    refine mp_0 h0 hw d_M_moves_14 (fun H locs hw => ?_)
    refine lv_aload_n hx hb d_M_moves_17 rfl (lv_at hl 0 rfl) ?_
    refine mg_0 h0 hw d_M_moves_18 ?_
    refine W.eq (g2 := F0 m 21 ls [.int 1]) rfl ?_
    refine lv_if_le (tgt := 28) hx hb d_M_moves_21 (by decide) (fun c_0 => absurd c_0 (by decide)) (fun _ => ?_)
    refine lv_iconst (v := 0) hx hb d_M_moves_24 (by decide) ?_
    refine lv_goto (tgt := 33) hx hb d_M_moves_25 (by decide) ?_
    exact rt_i h0 hw hr hlocks rfl (u2 μ 0 0 1) hF rfl d_M_moves_33 (Nat.le_refl 0) (Nat.le_refl 0)
  · have hok := hok.2 c_2
    have hF := (if_neg c_2).symm.trans hF
    refine lv_iconst (v := 0) hx hb d_M_moves_9 (by decide) ?_
    refine lv_goto (tgt := 14) hx hb d_M_moves_10 (by decide) ?_
    refine mp_0 h0 hw d_M_moves_14 (fun H locs hw => ?_)
    refine lv_aload_n hx hb d_M_moves_17 rfl (lv_at hl 0 rfl) ?_
    refine mg_0 h0 hw d_M_moves_18 ?_
    refine W.eq (g2 := F0 m 21 ls [.int 0]) rfl ?_
    refine lv_if_le (tgt := 28) hx hb d_M_moves_21 (by decide) (fun _ => ?_) (fun c_0 => absurd c_0 (by decide))
    refine lv_aload_n hx hb d_M_moves_28 rfl (lv_at hl 0 rfl) ?_
    refine lv_iload_n hx hb d_M_moves_29 rfl (lv_at hl 1 rfl) ?_
    obtain ⟨hi_3, hok⟩ := hok
    refine cv_p (n := 1) (C := "CountRoundsModel") (b := a 0) (q0 := 0) (ci := 4) (As := [.int x1]) (rest := []) h0 hw (cM_openAt l D tc a Y H.size x1 (u2 μ 0 0 0) hi_3 rfl) (gd_V wd_753 wd_755 (gw_s 23 rfl rfl) wd_3 wd_756) (by decide +kernel) ⟨rfl, rfl, Nat.le_of_ble_eq_true rfl, Nat.le_of_ble_eq_true rfl, Nat.le_of_ble_eq_true rfl, Nat.le_of_ble_eq_true rfl⟩ rfl rfl rfl hl.1 rfl (Nat.le_of_ble_eq_true rfl) d_M_moves_30 ?_
    exact rt_i h0 hw hr hlocks rfl (u2 μ 0 0 0) hF rfl d_M_moves_33 (Nat.le_refl 0) (Nat.le_refl 0)
set_option maxHeartbeats 4000000 in
set_option maxRecDepth 100000 in
theorem cM_share (l : Launch) (D : va_G) (tc : Nat → ClassId) (a : Nat → Nat) (Y : va_W) (sz : Nat) (x1 : Int32) (μ : Nat → Nat → Int32) {F : Int32 × (Nat → Nat → Int32)} (hok : kM_share x1 μ) (hF : fM_share x1 μ = F) : Met l y_M_share (Cond.code y_M_share b_M_share 3 (some .int) :: gw) ({ frames := 1, cells := 0, slots := 0, locals := 24 } : Room) (va_Pc [.ref (a 0), .int x1] (pW D tc (mo tc a μ ++ Y) sz)) (va_Qi (fun r u => (r, u) = F) (fun u t => qW D tc (va_A (mo tc a μ ++ Y) sz) (mo tc a u ++ Y) t) (va_A (mo tc a μ ++ Y) sz)) 0 0 (va_A (mo tc a μ ++ Y) sz) := by
  refine en_W (by decide) (Nat.le_of_ble_eq_true rfl) ?_
  intro p e s m args below meth c ls h0 hr hlocks hin hsz hw hl
  obtain ⟨hx, hb, hml, hown, hts, hK⟩ := id h0
  have hA : ∀ q : Nat, s.heap.size ≤ q → (va_A (mo tc a μ ++ Y) sz) q := fun q h => Or.inr (by rw [← hsz]; exact h)
  generalize va_A (mo tc a μ ++ Y) sz = A at hw hA ⊢
  obtain ⟨H, eH⟩ : ∃ z, z = s.heap := ⟨_, rfl⟩
  obtain ⟨locs, eL⟩ : ∃ z : List Loc, z = [] := ⟨_, rfl⟩
  have hw : wH D A s.heap (mo tc a μ ++ Y) H locs := by rw [eH, eL]; exact hw
  show W p l e _ s m _ below meth c s.heap [] 0 0 _ _
  have gl : W p l e ({ frames := 1, cells := 0, slots := 0, locals := 24 } : Room) s m args below meth c H locs 0 0 (MQ below (va_Qi (fun r u => (r, u) = F) (fun u t => qW D tc A (mo tc a u ++ Y) t) A) args s 0 0 A) (F0 m 0 ls []) := ?_
  · rw [eH, eL] at gl; exact gl
  have hl : lv_has ls 3 [(0, .ref (a 0)), (1, .int x1)] := hl
  unfold kM_share at hok
  unfold fM_share at hF
  refine lv_aload_n hx hb d_M_share_0 rfl (lv_at hl 0 rfl) ?_
  refine lv_iload_n hx hb d_M_share_1 rfl (lv_at hl 1 rfl) ?_
  refine lv_iconst (v := 0) hx hb d_M_share_2 (by decide) ?_
  refine lv_iconst (v := 1) hx hb d_M_share_3 (by decide) ?_
  obtain ⟨hi_1, hok⟩ := hok
  refine cs_p (n := 3) (As := [.int x1, .int 0, .int 1]) (rest := [.ref (a 0)]) hx hb hml hown hts (cM_in l x1 0 1 hi_1 rfl) (gd_S wd_707 wd_708 wd_3 wd_709) (by decide +kernel) ⟨rfl, rfl, Nat.le_of_ble_eq_true rfl, Nat.le_of_ble_eq_true rfl, Nat.le_of_ble_eq_true rfl, Nat.le_of_ble_eq_true rfl⟩ rfl hl.1 rfl (Nat.le_of_ble_eq_true rfl) d_M_share_4 ?_
  refine lv_if_ne (tgt := 14) hx hb d_M_share_7 (by decide) (fun c_2 => ?_) (fun c_2 => ?_)
  · have hok := hok.2 c_2
    have hF := (if_neg c_2).symm.trans hF
    refine lv_aload_n hx hb d_M_share_14 rfl (lv_at hl 0 rfl) ?_
    refine mg_26 h0 hw d_M_share_15 ?_
    refine lv_if_ne (tgt := 25) hx hb d_M_share_18 (by decide) (fun c_3 => ?_) (fun c_3 => ?_)
    · have hok := hok.2 c_3
      have hF := (if_neg c_3).symm.trans hF
      refine lv_iconst (v := 0) hx hb d_M_share_25 (by decide) ?_
      refine mp_0 h0 hw d_M_share_26 (fun H locs hw => ?_)
      refine lv_aload_n hx hb d_M_share_29 rfl (lv_at hl 0 rfl) ?_
      refine mg_0 h0 hw d_M_share_30 ?_
      refine W.eq (g2 := F0 m 33 ls [.int 0]) rfl ?_
      refine lv_if_le (tgt := 38) hx hb d_M_share_33 (by decide) (fun _ => ?_) (fun c_0 => absurd c_0 (by decide))
      refine lv_aload_n hx hb d_M_share_38 rfl (lv_at hl 0 rfl) ?_
      refine mg_27 h0 hw d_M_share_39 ?_
      refine W.eq (g2 := F0 m 42 ls [.int (μ 27 0)]) rfl ?_
      refine lv_aload_n hx hb d_M_share_42 rfl (lv_at hl 0 rfl) ?_
      refine mg_26 h0 hw d_M_share_43 ?_
      refine W.eq (g2 := F0 m 46 ls [.int (μ 26 0), .int (μ 27 0)]) rfl ?_
      obtain ⟨hi_4, hok⟩ := hok
      refine cs_p (n := 2) (As := [.int (μ 27 0), .int (μ 26 0)]) (rest := []) hx hb hml hown hts (cM_divisor l (μ 27 0) (μ 26 0) hi_4 rfl) (gd_S wd_846 wd_847 wd_3 wd_848) (by decide +kernel) ⟨rfl, rfl, Nat.le_of_ble_eq_true rfl, Nat.le_of_ble_eq_true rfl, Nat.le_of_ble_eq_true rfl, Nat.le_of_ble_eq_true rfl⟩ rfl hl.1 rfl (Nat.le_of_ble_eq_true rfl) d_M_share_46 ?_
      refine lv_istore_n (lv' := [(2, .int (fM_divisor (μ 27 0) (μ 26 0))), (0, .ref (a 0)), (1, .int x1)]) hx hb d_M_share_49 rfl hl (by decide) rfl (fun ls hl => ?_)
      refine lv_iload_n hx hb d_M_share_50 rfl (lv_at hl 2 rfl) ?_
      refine lv_if_ne (tgt := 63) hx hb d_M_share_51 (by decide) (fun c_5 => ?_) (fun c_5 => ?_)
      · have hok := hok.2 c_5
        have hF := (if_neg c_5).symm.trans hF
        refine lv_aload_n hx hb d_M_share_63 rfl (lv_at hl 1 rfl) ?_
        refine mg_26 h0 hw d_M_share_64 ?_
        refine W.eq (g2 := F0 m 67 ls [.int (μ 26 0)]) rfl ?_
        refine lv_iload_n hx hb d_M_share_67 rfl (lv_at hl 0 rfl) ?_
        obtain ⟨hi_6, hok⟩ := hok
        refine lv_idiv hx hb d_M_share_68 hi_6 ?_
        exact rt_i h0 hw hr hlocks rfl (u2 μ 0 0 0) hF rfl d_M_share_69 (Nat.le_refl 0) (Nat.le_refl 0)
      · have hok := hok.1 c_5
        have hF := (if_pos c_5).symm.trans hF
        refine lv_aload_n hx hb d_M_share_54 rfl (lv_at hl 1 rfl) ?_
        refine mg_27 h0 hw d_M_share_55 ?_
        refine W.eq (g2 := F0 m 58 ls [.int (μ 27 0)]) rfl ?_
        refine lv_iload_n hx hb d_M_share_58 rfl (lv_at hl 0 rfl) ?_
        obtain ⟨hi_7, hok⟩ := hok
        refine lv_idiv hx hb d_M_share_59 hi_7 ?_
        refine lv_goto (tgt := 69) hx hb d_M_share_60 (by decide) ?_
        exact rt_i h0 hw hr hlocks rfl (u2 μ 0 0 0) hF rfl d_M_share_69 (Nat.le_refl 0) (Nat.le_refl 0)
    · have hok := hok.1 c_3
      have hF := (if_pos c_3).symm.trans hF
      refine lv_iconst (v := 2) hx hb d_M_share_21 (by decide) ?_
      refine lv_goto (tgt := 26) hx hb d_M_share_22 (by decide) ?_
      refine mp_0 h0 hw d_M_share_26 (fun H locs hw => ?_)
      refine lv_aload_n hx hb d_M_share_29 rfl (lv_at hl 0 rfl) ?_
      refine mg_0 h0 hw d_M_share_30 ?_
      refine W.eq (g2 := F0 m 33 ls [.int 2]) rfl ?_
      refine lv_if_le (tgt := 38) hx hb d_M_share_33 (by decide) (fun c_0 => absurd c_0 (by decide)) (fun _ => ?_)
      refine lv_iconst (v := 0) hx hb d_M_share_36 (by decide) ?_
      exact rt_i h0 hw hr hlocks rfl (u2 μ 0 0 2) hF rfl d_M_share_37 (Nat.le_refl 0) (Nat.le_refl 0)
  · have hok := hok.1 c_2
    have hF := (if_pos c_2).symm.trans hF
    refine lv_iconst (v := 1) hx hb d_M_share_10 (by decide) ?_
    refine lv_goto (tgt := 26) hx hb d_M_share_11 (by decide) ?_
    refine mp_0 h0 hw d_M_share_26 (fun H locs hw => ?_)
    refine lv_aload_n hx hb d_M_share_29 rfl (lv_at hl 0 rfl) ?_
    refine mg_0 h0 hw d_M_share_30 ?_
    refine W.eq (g2 := F0 m 33 ls [.int 1]) rfl ?_
    refine lv_if_le (tgt := 38) hx hb d_M_share_33 (by decide) (fun c_0 => absurd c_0 (by decide)) (fun _ => ?_)
    refine lv_iconst (v := 0) hx hb d_M_share_36 (by decide) ?_
    exact rt_i h0 hw hr hlocks rfl (u2 μ 0 0 1) hF rfl d_M_share_37 (Nat.le_refl 0) (Nat.le_refl 0)
set_option maxHeartbeats 4000000 in
set_option maxRecDepth 100000 in
theorem cM_last (l : Launch) (D : va_G) (tc : Nat → ClassId) (a : Nat → Nat) (Y : va_W) (sz : Nat) (x1 : Int32) (μ : Nat → Nat → Int32) {F : Int32 × (Nat → Nat → Int32)} (hok : kM_last x1 μ) (hF : fM_last x1 μ = F) : Met l y_M_last (Cond.code y_M_last b_M_last 2 (some .int) :: gw) ({ frames := 2, cells := 0, slots := 0, locals := 43 } : Room) (va_Pc [.ref (a 0), .int x1] (pW D tc (mo tc a μ ++ Y) sz)) (va_Qi (fun r u => (r, u) = F) (fun u t => qW D tc (va_A (mo tc a μ ++ Y) sz) (mo tc a u ++ Y) t) (va_A (mo tc a μ ++ Y) sz)) 0 0 (va_A (mo tc a μ ++ Y) sz) := by
  refine en_W (by decide) (Nat.le_of_ble_eq_true rfl) ?_
  intro p e s m args below meth c ls h0 hr hlocks hin hsz hw hl
  obtain ⟨hx, hb, hml, hown, hts, hK⟩ := id h0
  have hA : ∀ q : Nat, s.heap.size ≤ q → (va_A (mo tc a μ ++ Y) sz) q := fun q h => Or.inr (by rw [← hsz]; exact h)
  generalize va_A (mo tc a μ ++ Y) sz = A at hw hA ⊢
  obtain ⟨H, eH⟩ : ∃ z, z = s.heap := ⟨_, rfl⟩
  obtain ⟨locs, eL⟩ : ∃ z : List Loc, z = [] := ⟨_, rfl⟩
  have hw : wH D A s.heap (mo tc a μ ++ Y) H locs := by rw [eH, eL]; exact hw
  show W p l e _ s m _ below meth c s.heap [] 0 0 _ _
  have gl : W p l e ({ frames := 2, cells := 0, slots := 0, locals := 43 } : Room) s m args below meth c H locs 0 0 (MQ below (va_Qi (fun r u => (r, u) = F) (fun u t => qW D tc A (mo tc a u ++ Y) t) A) args s 0 0 A) (F0 m 0 ls []) := ?_
  · rw [eH, eL] at gl; exact gl
  have hl : lv_has ls 2 [(0, .ref (a 0)), (1, .int x1)] := hl
  unfold kM_last at hok
  unfold fM_last at hF
  refine lv_aload_n hx hb d_M_last_0 rfl (lv_at hl 0 rfl) ?_
  refine lv_aload_n hx hb d_M_last_1 rfl (lv_at hl 0 rfl) ?_
  refine lv_iload_n hx hb d_M_last_2 rfl (lv_at hl 1 rfl) ?_
  obtain ⟨hi_1, hok⟩ := hok
  refine cv_p (n := 1) (C := "CountRoundsModel") (b := a 0) (q0 := 0) (ci := 4) (As := [.int x1]) (rest := [.ref (a 0)]) h0 hw (cM_isPlace l D tc a Y H.size x1 μ hi_1 rfl) (gd_V wd_714 wd_716 (gw_s 22 rfl rfl) wd_3 wd_717) (by decide +kernel) ⟨rfl, rfl, Nat.le_of_ble_eq_true rfl, Nat.le_of_ble_eq_true rfl, Nat.le_of_ble_eq_true rfl, Nat.le_of_ble_eq_true rfl⟩ rfl rfl rfl hl.1 rfl (Nat.le_of_ble_eq_true rfl) d_M_last_3 ?_
  refine lv_if_eq (tgt := 13) hx hb d_M_last_6 (by decide) (fun c_2 => ?_) (fun c_2 => ?_)
  · have hok := hok.1 c_2
    have hF := (if_pos c_2).symm.trans hF
    refine lv_iconst (v := 1) hx hb d_M_last_13 (by decide) ?_
    refine mp_0 h0 hw d_M_last_14 (fun H locs hw => ?_)
    refine lv_aload_n hx hb d_M_last_17 rfl (lv_at hl 0 rfl) ?_
    refine mg_0 h0 hw d_M_last_18 ?_
    refine W.eq (g2 := F0 m 21 ls [.int 1]) rfl ?_
    refine lv_if_le (tgt := 28) hx hb d_M_last_21 (by decide) (fun c_0 => absurd c_0 (by decide)) (fun _ => ?_)
    refine lv_iconst (v := 0) hx hb d_M_last_24 (by decide) ?_
    refine lv_goto (tgt := 34) hx hb d_M_last_25 (by decide) ?_
    exact rt_i h0 hw hr hlocks rfl (u2 μ 0 0 1) hF rfl d_M_last_34 (Nat.le_refl 0) (Nat.le_refl 0)
  · have hok := hok.2 c_2
    have hF := (if_neg c_2).symm.trans hF
    refine lv_iconst (v := 0) hx hb d_M_last_9 (by decide) ?_
    refine lv_goto (tgt := 14) hx hb d_M_last_10 (by decide) ?_
    refine mp_0 h0 hw d_M_last_14 (fun H locs hw => ?_)
    refine lv_aload_n hx hb d_M_last_17 rfl (lv_at hl 0 rfl) ?_
    refine mg_0 h0 hw d_M_last_18 ?_
    refine W.eq (g2 := F0 m 21 ls [.int 0]) rfl ?_
    refine lv_if_le (tgt := 28) hx hb d_M_last_21 (by decide) (fun _ => ?_) (fun c_0 => absurd c_0 (by decide))
    refine lv_aload_n hx hb d_M_last_28 rfl (lv_at hl 0 rfl) ?_
    refine mg_5 h0 hw d_M_last_29 ?_
    refine lv_iload_n hx hb d_M_last_32 rfl (lv_at hl 1 rfl) ?_
    obtain ⟨hi_3, hok⟩ := hok
    refine ml_5 h0 hw hi_3 d_M_last_33 ?_
    refine W.eq (g2 := F0 m 34 ls [.int (μ 5 x1.toNatClampNeg)]) rfl ?_
    exact rt_i h0 hw hr hlocks rfl (u2 μ 0 0 0) hF rfl d_M_last_34 (Nat.le_refl 0) (Nat.le_refl 0)
set_option maxHeartbeats 4000000 in
set_option maxRecDepth 100000 in
theorem cM_due (l : Launch) (D : va_G) (tc : Nat → ClassId) (a : Nat → Nat) (Y : va_W) (sz : Nat) (x1 : Int32) (μ : Nat → Nat → Int32) {F : Int32 × (Nat → Nat → Int32)} (hok : kM_due x1 μ) (hF : fM_due x1 μ = F) : Met l y_M_due (Cond.code y_M_due b_M_due 4 (some .int) :: gw) ({ frames := 1, cells := 0, slots := 0, locals := 22 } : Room) (va_Pc [.ref (a 0), .int x1] (pW D tc (mo tc a μ ++ Y) sz)) (va_Qi (fun r u => (r, u) = F) (fun u t => qW D tc (va_A (mo tc a μ ++ Y) sz) (mo tc a u ++ Y) t) (va_A (mo tc a μ ++ Y) sz)) 0 0 (va_A (mo tc a μ ++ Y) sz) := by
  refine en_W (by decide) (Nat.le_of_ble_eq_true rfl) ?_
  intro p e s m args below meth c ls h0 hr hlocks hin hsz hw hl
  obtain ⟨hx, hb, hml, hown, hts, hK⟩ := id h0
  have hA : ∀ q : Nat, s.heap.size ≤ q → (va_A (mo tc a μ ++ Y) sz) q := fun q h => Or.inr (by rw [← hsz]; exact h)
  generalize va_A (mo tc a μ ++ Y) sz = A at hw hA ⊢
  obtain ⟨H, eH⟩ : ∃ z, z = s.heap := ⟨_, rfl⟩
  obtain ⟨locs, eL⟩ : ∃ z : List Loc, z = [] := ⟨_, rfl⟩
  have hw : wH D A s.heap (mo tc a μ ++ Y) H locs := by rw [eH, eL]; exact hw
  show W p l e _ s m _ below meth c s.heap [] 0 0 _ _
  have gl : W p l e ({ frames := 1, cells := 0, slots := 0, locals := 22 } : Room) s m args below meth c H locs 0 0 (MQ below (va_Qi (fun r u => (r, u) = F) (fun u t => qW D tc A (mo tc a u ++ Y) t) A) args s 0 0 A) (F0 m 0 ls []) := ?_
  · rw [eH, eL] at gl; exact gl
  have hl : lv_has ls 4 [(0, .ref (a 0)), (1, .int x1)] := hl
  unfold kM_due at hok
  unfold fM_due at hF
  refine lv_aload_n hx hb d_M_due_0 rfl (lv_at hl 0 rfl) ?_
  refine lv_iload_n hx hb d_M_due_1 rfl (lv_at hl 1 rfl) ?_
  refine lv_iconst (v := 0) hx hb d_M_due_2 (by decide) ?_
  refine lv_sipush (v := 10000) hx hb d_M_due_3 (by decide) ?_
  obtain ⟨hi_1, hok⟩ := hok
  refine cs_p (n := 3) (As := [.int x1, .int 0, .int 10000]) (rest := [.ref (a 0)]) hx hb hml hown hts (cM_in l x1 0 10000 hi_1 rfl) (gd_S wd_707 wd_708 wd_3 wd_709) (by decide +kernel) ⟨rfl, rfl, Nat.le_of_ble_eq_true rfl, Nat.le_of_ble_eq_true rfl, Nat.le_of_ble_eq_true rfl, Nat.le_of_ble_eq_true rfl⟩ rfl hl.1 rfl (Nat.le_of_ble_eq_true rfl) d_M_due_6 ?_
  refine lv_if_eq (tgt := 16) hx hb d_M_due_9 (by decide) (fun c_2 => ?_) (fun c_2 => ?_)
  · have hok := hok.1 c_2
    have hF := (if_pos c_2).symm.trans hF
    refine lv_iconst (v := 1) hx hb d_M_due_16 (by decide) ?_
    refine mp_0 h0 hw d_M_due_17 (fun H locs hw => ?_)
    refine lv_iconst (v := 0) hx hb d_M_due_20 (by decide) ?_
    refine lv_istore_n (lv' := [(2, .int 0), (0, .ref (a 0)), (1, .int x1)]) hx hb d_M_due_21 rfl hl (by decide) rfl (fun ls hl => ?_)
    refine lv_iconst (v := 0) hx hb d_M_due_22 (by decide) ?_
    refine lv_istore_n (lv' := [(3, .int 0), (2, .int 0), (0, .ref (a 0)), (1, .int x1)]) hx hb d_M_due_23 rfl hl (by decide) rfl (fun ls hl => ?_)
    have hx_24 : ∀ (x1 : Int32) (x2 : Int32) (x3 : Int32) (μ : Nat → Nat → Int32) (H : Heap) (locs : List Loc) (ls : Array Slot), wH D A s.heap (mo tc a μ ++ Y) H locs → lv_has ls 4 [(0, .ref (a 0)), (1, .int x1), (2, .int x2), (3, .int x3)] → kM_due_24x x1 x2 x3 μ → fM_due_24x x1 x2 x3 μ = F → W p l e ({ frames := 1, cells := 0, slots := 0, locals := 22 } : Room) s m args below meth c H locs 0 0 (MQ below (va_Qi (fun r u => (r, u) = F) (fun u t => qW D tc A (mo tc a u ++ Y) t) A) args s 0 0 A) (F0 m 85 ls []) := by
      intro x1 x2 x3 μ H locs ls hw hl hok hF
      unfold kM_due_24x at hok
      unfold fM_due_24x at hF
      refine lv_iload_n hx hb d_M_due_85 rfl (lv_at hl 2 rfl) ?_
      exact rt_i h0 hw hr hlocks rfl μ hF rfl d_M_due_86 (Nat.le_refl 0) (Nat.le_refl 0)
    have lp_24 : ∀ (n24 : Nat) (x1 : Int32) (x2 : Int32) (x3 : Int32) (μ : Nat → Nat → Int32) (H : Heap) (locs : List Loc) (ls : Array Slot), wH D A s.heap (mo tc a μ ++ Y) H locs → lv_has ls 4 [(0, .ref (a 0)), (1, .int x1), (2, .int x2), (3, .int x3)] → kM_due_24 kM_due_24x n24 x1 x2 x3 μ → fM_due_24 fM_due_24x n24 x1 x2 x3 μ = F → W p l e ({ frames := 1, cells := 0, slots := 0, locals := 22 } : Room) s m args below meth c H locs 0 0 (MQ below (va_Qi (fun r u => (r, u) = F) (fun u t => qW D tc A (mo tc a u ++ Y) t) A) args s 0 0 A) (F0 m 24 ls []) := by
      intro n24
      induction n24 with
      | zero =>
        intro x1 x2 x3 μ H locs ls hw hl hok hF
        unfold kM_due_24 at hok
        exact hok.elim
      | succ n24 ih_24 =>
        intro x1 x2 x3 μ H locs ls hw hl hok hF
        unfold kM_due_24 at hok
        unfold fM_due_24 at hF
        refine lv_iload_n hx hb d_M_due_24 rfl (lv_at hl 3 rfl) ?_
        refine lv_aload_n hx hb d_M_due_25 rfl (lv_at hl 0 rfl) ?_
        refine mg_3 h0 hw d_M_due_26 ?_
        refine lv_icmp_ge (tgt := 85) hx hb d_M_due_29 (by decide) (fun c_3 => ?_) (fun c_3 => ?_)
        · have hok := hok.1 c_3
          have hF := (if_pos c_3).symm.trans hF
          exact hx_24 x1 x2 x3 μ H locs ls hw (lv_sub hl [0, 1, 2, 3] rfl) hok hF
        · have hok := hok.2 c_3
          have hF := (if_neg c_3).symm.trans hF
          refine lv_aload_n hx hb d_M_due_32 rfl (lv_at hl 0 rfl) ?_
          refine mg_0 h0 hw d_M_due_33 ?_
          refine lv_if_ne (tgt := 85) hx hb d_M_due_36 (by decide) (fun c_4 => ?_) (fun c_4 => ?_)
          · have hok := hok.2 c_4
            have hF := (if_neg c_4).symm.trans hF
            exact hx_24 x1 x2 x3 μ H locs ls hw (lv_sub hl [0, 1, 2, 3] rfl) hok hF
          · have hok := hok.1 c_4
            have hF := (if_pos c_4).symm.trans hF
            refine lv_iload_n hx hb d_M_due_39 rfl (lv_at hl 2 rfl) ?_
            refine lv_aload_n hx hb d_M_due_40 rfl (lv_at hl 0 rfl) ?_
            refine mg_5 h0 hw d_M_due_41 ?_
            refine lv_iload_n hx hb d_M_due_44 rfl (lv_at hl 3 rfl) ?_
            obtain ⟨hi_5, hok⟩ := hok
            refine ml_5 h0 hw hi_5 d_M_due_45 ?_
            refine lv_iconst (v := (-1)) hx hb d_M_due_46 (by decide) ?_
            refine lv_icmp_eq (tgt := 72) hx hb d_M_due_47 (by decide) (fun c_6 => ?_) (fun c_6 => ?_)
            · have hok := hok.1 c_6
              have hF := (if_pos c_6).symm.trans hF
              refine lv_iconst (v := 1) hx hb d_M_due_72 (by decide) ?_
              refine lv_goto (tgt := 77) hx hb d_M_due_73 (by decide) ?_
              refine lv_iadd hx hb d_M_due_77 ?_
              refine lv_istore_n (lv' := [(2, .int (x2 + 1)), (0, .ref (a 0)), (1, .int x1), (3, .int x3)]) hx hb d_M_due_78 rfl hl (by decide) rfl (fun ls hl => ?_)
              refine lv_iinc (v := x3 + 1) (lv' := [(3, .int (x3 + 1)), (2, .int (x2 + 1)), (0, .ref (a 0)), (1, .int x1)]) hx hb d_M_due_79 hl (k := 3) rfl rfl (by decide) rfl (fun ls hl => ?_)
              refine lv_goto (tgt := 24) hx hb d_M_due_82 (by decide) ?_
              exact ih_24 x1 (x2 + 1) (x3 + 1) μ H locs ls hw (lv_sub hl [2, 3, 1, 0] rfl) hok hF
            · have hok := hok.2 c_6
              have hF := (if_neg c_6).symm.trans hF
              refine lv_iload_n hx hb d_M_due_50 rfl (lv_at hl 1 rfl) ?_
              refine lv_aload_n hx hb d_M_due_51 rfl (lv_at hl 0 rfl) ?_
              refine mg_5 h0 hw d_M_due_52 ?_
              refine lv_iload_n hx hb d_M_due_55 rfl (lv_at hl 3 rfl) ?_
              obtain ⟨hi_7, hok⟩ := hok
              refine ml_5 h0 hw hi_7 d_M_due_56 ?_
              refine lv_isub hx hb d_M_due_57 ?_
              refine lv_aload_n hx hb d_M_due_58 rfl (lv_at hl 0 rfl) ?_
              refine mg_7 h0 hw d_M_due_59 ?_
              refine lv_aload_n hx hb d_M_due_62 rfl (lv_at hl 0 rfl) ?_
              refine mg_4 h0 hw d_M_due_63 ?_
              refine lv_iload_n hx hb d_M_due_66 rfl (lv_at hl 3 rfl) ?_
              obtain ⟨hi_8, hok⟩ := hok
              refine ml_4 h0 hw hi_8 d_M_due_67 ?_
              obtain ⟨hi_9, hok⟩ := hok
              refine ml_7 h0 hw hi_9 d_M_due_68 ?_
              refine lv_icmp_lt (tgt := 76) hx hb d_M_due_69 (by decide) (fun c_10 => ?_) (fun c_10 => ?_)
              · have hok := hok.1 c_10
                have hF := (if_pos c_10).symm.trans hF
                refine lv_iconst (v := 0) hx hb d_M_due_76 (by decide) ?_
                refine lv_iadd hx hb d_M_due_77 ?_
                refine lv_istore_n (lv' := [(2, .int (x2 + 0)), (0, .ref (a 0)), (1, .int x1), (3, .int x3)]) hx hb d_M_due_78 rfl hl (by decide) rfl (fun ls hl => ?_)
                refine lv_iinc (v := x3 + 1) (lv' := [(3, .int (x3 + 1)), (2, .int (x2 + 0)), (0, .ref (a 0)), (1, .int x1)]) hx hb d_M_due_79 hl (k := 3) rfl rfl (by decide) rfl (fun ls hl => ?_)
                refine lv_goto (tgt := 24) hx hb d_M_due_82 (by decide) ?_
                exact ih_24 x1 (x2 + 0) (x3 + 1) μ H locs ls hw (lv_sub hl [2, 3, 1, 0] rfl) hok hF
              · have hok := hok.2 c_10
                have hF := (if_neg c_10).symm.trans hF
                refine lv_iconst (v := 1) hx hb d_M_due_72 (by decide) ?_
                refine lv_goto (tgt := 77) hx hb d_M_due_73 (by decide) ?_
                refine lv_iadd hx hb d_M_due_77 ?_
                refine lv_istore_n (lv' := [(2, .int (x2 + 1)), (0, .ref (a 0)), (1, .int x1), (3, .int x3)]) hx hb d_M_due_78 rfl hl (by decide) rfl (fun ls hl => ?_)
                refine lv_iinc (v := x3 + 1) (lv' := [(3, .int (x3 + 1)), (2, .int (x2 + 1)), (0, .ref (a 0)), (1, .int x1)]) hx hb d_M_due_79 hl (k := 3) rfl rfl (by decide) rfl (fun ls hl => ?_)
                refine lv_goto (tgt := 24) hx hb d_M_due_82 (by decide) ?_
                exact ih_24 x1 (x2 + 1) (x3 + 1) μ H locs ls hw (lv_sub hl [2, 3, 1, 0] rfl) hok hF
    exact lp_24 200 x1 0 0 (u2 μ 0 0 1) H locs ls hw (lv_sub hl [2, 3, 1, 0] rfl) hok hF
  · have hok := hok.2 c_2
    have hF := (if_neg c_2).symm.trans hF
    refine lv_iconst (v := 0) hx hb d_M_due_12 (by decide) ?_
    refine lv_goto (tgt := 17) hx hb d_M_due_13 (by decide) ?_
    refine mp_0 h0 hw d_M_due_17 (fun H locs hw => ?_)
    refine lv_iconst (v := 0) hx hb d_M_due_20 (by decide) ?_
    refine lv_istore_n (lv' := [(2, .int 0), (0, .ref (a 0)), (1, .int x1)]) hx hb d_M_due_21 rfl hl (by decide) rfl (fun ls hl => ?_)
    refine lv_iconst (v := 0) hx hb d_M_due_22 (by decide) ?_
    refine lv_istore_n (lv' := [(3, .int 0), (2, .int 0), (0, .ref (a 0)), (1, .int x1)]) hx hb d_M_due_23 rfl hl (by decide) rfl (fun ls hl => ?_)
    have hx_24 : ∀ (x1 : Int32) (x2 : Int32) (x3 : Int32) (μ : Nat → Nat → Int32) (H : Heap) (locs : List Loc) (ls : Array Slot), wH D A s.heap (mo tc a μ ++ Y) H locs → lv_has ls 4 [(0, .ref (a 0)), (1, .int x1), (2, .int x2), (3, .int x3)] → kM_due_24x x1 x2 x3 μ → fM_due_24x x1 x2 x3 μ = F → W p l e ({ frames := 1, cells := 0, slots := 0, locals := 22 } : Room) s m args below meth c H locs 0 0 (MQ below (va_Qi (fun r u => (r, u) = F) (fun u t => qW D tc A (mo tc a u ++ Y) t) A) args s 0 0 A) (F0 m 85 ls []) := by
      intro x1 x2 x3 μ H locs ls hw hl hok hF
      unfold kM_due_24x at hok
      unfold fM_due_24x at hF
      refine lv_iload_n hx hb d_M_due_85 rfl (lv_at hl 2 rfl) ?_
      exact rt_i h0 hw hr hlocks rfl μ hF rfl d_M_due_86 (Nat.le_refl 0) (Nat.le_refl 0)
    have lp_24 : ∀ (n24 : Nat) (x1 : Int32) (x2 : Int32) (x3 : Int32) (μ : Nat → Nat → Int32) (H : Heap) (locs : List Loc) (ls : Array Slot), wH D A s.heap (mo tc a μ ++ Y) H locs → lv_has ls 4 [(0, .ref (a 0)), (1, .int x1), (2, .int x2), (3, .int x3)] → kM_due_24 kM_due_24x n24 x1 x2 x3 μ → fM_due_24 fM_due_24x n24 x1 x2 x3 μ = F → W p l e ({ frames := 1, cells := 0, slots := 0, locals := 22 } : Room) s m args below meth c H locs 0 0 (MQ below (va_Qi (fun r u => (r, u) = F) (fun u t => qW D tc A (mo tc a u ++ Y) t) A) args s 0 0 A) (F0 m 24 ls []) := by
      intro n24
      induction n24 with
      | zero =>
        intro x1 x2 x3 μ H locs ls hw hl hok hF
        unfold kM_due_24 at hok
        exact hok.elim
      | succ n24 ih_24 =>
        intro x1 x2 x3 μ H locs ls hw hl hok hF
        unfold kM_due_24 at hok
        unfold fM_due_24 at hF
        refine lv_iload_n hx hb d_M_due_24 rfl (lv_at hl 3 rfl) ?_
        refine lv_aload_n hx hb d_M_due_25 rfl (lv_at hl 0 rfl) ?_
        refine mg_3 h0 hw d_M_due_26 ?_
        refine lv_icmp_ge (tgt := 85) hx hb d_M_due_29 (by decide) (fun c_11 => ?_) (fun c_11 => ?_)
        · have hok := hok.1 c_11
          have hF := (if_pos c_11).symm.trans hF
          exact hx_24 x1 x2 x3 μ H locs ls hw (lv_sub hl [0, 1, 2, 3] rfl) hok hF
        · have hok := hok.2 c_11
          have hF := (if_neg c_11).symm.trans hF
          refine lv_aload_n hx hb d_M_due_32 rfl (lv_at hl 0 rfl) ?_
          refine mg_0 h0 hw d_M_due_33 ?_
          refine lv_if_ne (tgt := 85) hx hb d_M_due_36 (by decide) (fun c_12 => ?_) (fun c_12 => ?_)
          · have hok := hok.2 c_12
            have hF := (if_neg c_12).symm.trans hF
            exact hx_24 x1 x2 x3 μ H locs ls hw (lv_sub hl [0, 1, 2, 3] rfl) hok hF
          · have hok := hok.1 c_12
            have hF := (if_pos c_12).symm.trans hF
            refine lv_iload_n hx hb d_M_due_39 rfl (lv_at hl 2 rfl) ?_
            refine lv_aload_n hx hb d_M_due_40 rfl (lv_at hl 0 rfl) ?_
            refine mg_5 h0 hw d_M_due_41 ?_
            refine lv_iload_n hx hb d_M_due_44 rfl (lv_at hl 3 rfl) ?_
            obtain ⟨hi_13, hok⟩ := hok
            refine ml_5 h0 hw hi_13 d_M_due_45 ?_
            refine lv_iconst (v := (-1)) hx hb d_M_due_46 (by decide) ?_
            refine lv_icmp_eq (tgt := 72) hx hb d_M_due_47 (by decide) (fun c_14 => ?_) (fun c_14 => ?_)
            · have hok := hok.1 c_14
              have hF := (if_pos c_14).symm.trans hF
              refine lv_iconst (v := 1) hx hb d_M_due_72 (by decide) ?_
              refine lv_goto (tgt := 77) hx hb d_M_due_73 (by decide) ?_
              refine lv_iadd hx hb d_M_due_77 ?_
              refine lv_istore_n (lv' := [(2, .int (x2 + 1)), (0, .ref (a 0)), (1, .int x1), (3, .int x3)]) hx hb d_M_due_78 rfl hl (by decide) rfl (fun ls hl => ?_)
              refine lv_iinc (v := x3 + 1) (lv' := [(3, .int (x3 + 1)), (2, .int (x2 + 1)), (0, .ref (a 0)), (1, .int x1)]) hx hb d_M_due_79 hl (k := 3) rfl rfl (by decide) rfl (fun ls hl => ?_)
              refine lv_goto (tgt := 24) hx hb d_M_due_82 (by decide) ?_
              exact ih_24 x1 (x2 + 1) (x3 + 1) μ H locs ls hw (lv_sub hl [2, 3, 1, 0] rfl) hok hF
            · have hok := hok.2 c_14
              have hF := (if_neg c_14).symm.trans hF
              refine lv_iload_n hx hb d_M_due_50 rfl (lv_at hl 1 rfl) ?_
              refine lv_aload_n hx hb d_M_due_51 rfl (lv_at hl 0 rfl) ?_
              refine mg_5 h0 hw d_M_due_52 ?_
              refine lv_iload_n hx hb d_M_due_55 rfl (lv_at hl 3 rfl) ?_
              obtain ⟨hi_15, hok⟩ := hok
              refine ml_5 h0 hw hi_15 d_M_due_56 ?_
              refine lv_isub hx hb d_M_due_57 ?_
              refine lv_aload_n hx hb d_M_due_58 rfl (lv_at hl 0 rfl) ?_
              refine mg_7 h0 hw d_M_due_59 ?_
              refine lv_aload_n hx hb d_M_due_62 rfl (lv_at hl 0 rfl) ?_
              refine mg_4 h0 hw d_M_due_63 ?_
              refine lv_iload_n hx hb d_M_due_66 rfl (lv_at hl 3 rfl) ?_
              obtain ⟨hi_16, hok⟩ := hok
              refine ml_4 h0 hw hi_16 d_M_due_67 ?_
              obtain ⟨hi_17, hok⟩ := hok
              refine ml_7 h0 hw hi_17 d_M_due_68 ?_
              refine lv_icmp_lt (tgt := 76) hx hb d_M_due_69 (by decide) (fun c_18 => ?_) (fun c_18 => ?_)
              · have hok := hok.1 c_18
                have hF := (if_pos c_18).symm.trans hF
                refine lv_iconst (v := 0) hx hb d_M_due_76 (by decide) ?_
                refine lv_iadd hx hb d_M_due_77 ?_
                refine lv_istore_n (lv' := [(2, .int (x2 + 0)), (0, .ref (a 0)), (1, .int x1), (3, .int x3)]) hx hb d_M_due_78 rfl hl (by decide) rfl (fun ls hl => ?_)
                refine lv_iinc (v := x3 + 1) (lv' := [(3, .int (x3 + 1)), (2, .int (x2 + 0)), (0, .ref (a 0)), (1, .int x1)]) hx hb d_M_due_79 hl (k := 3) rfl rfl (by decide) rfl (fun ls hl => ?_)
                refine lv_goto (tgt := 24) hx hb d_M_due_82 (by decide) ?_
                exact ih_24 x1 (x2 + 0) (x3 + 1) μ H locs ls hw (lv_sub hl [2, 3, 1, 0] rfl) hok hF
              · have hok := hok.2 c_18
                have hF := (if_neg c_18).symm.trans hF
                refine lv_iconst (v := 1) hx hb d_M_due_72 (by decide) ?_
                refine lv_goto (tgt := 77) hx hb d_M_due_73 (by decide) ?_
                refine lv_iadd hx hb d_M_due_77 ?_
                refine lv_istore_n (lv' := [(2, .int (x2 + 1)), (0, .ref (a 0)), (1, .int x1), (3, .int x3)]) hx hb d_M_due_78 rfl hl (by decide) rfl (fun ls hl => ?_)
                refine lv_iinc (v := x3 + 1) (lv' := [(3, .int (x3 + 1)), (2, .int (x2 + 1)), (0, .ref (a 0)), (1, .int x1)]) hx hb d_M_due_79 hl (k := 3) rfl rfl (by decide) rfl (fun ls hl => ?_)
                refine lv_goto (tgt := 24) hx hb d_M_due_82 (by decide) ?_
                exact ih_24 x1 (x2 + 1) (x3 + 1) μ H locs ls hw (lv_sub hl [2, 3, 1, 0] rfl) hok hF
    exact lp_24 200 x1 0 0 (u2 μ 0 0 0) H locs ls hw (lv_sub hl [2, 3, 1, 0] rfl) hok hF
set_option maxHeartbeats 4000000 in
set_option maxRecDepth 100000 in
theorem cM_booked (l : Launch) (D : va_G) (tc : Nat → ClassId) (a : Nat → Nat) (Y : va_W) (sz : Nat) (x1 : Int32) (x2 : Int32) (μ : Nat → Nat → Int32) {F : Int32 × (Nat → Nat → Int32)} (hok : kM_booked x1 x2 μ) (hF : fM_booked x1 x2 μ = F) : Met l y_M_booked (Cond.code y_M_booked b_M_booked 3 (some .int) :: gw) ({ frames := 2, cells := 0, slots := 0, locals := 43 } : Room) (va_Pc [.ref (a 0), .int x1, .int x2] (pW D tc (mo tc a μ ++ Y) sz)) (va_Qi (fun r u => (r, u) = F) (fun u t => qW D tc (va_A (mo tc a μ ++ Y) sz) (mo tc a u ++ Y) t) (va_A (mo tc a μ ++ Y) sz)) 0 0 (va_A (mo tc a μ ++ Y) sz) := by
  refine en_W (by decide) (Nat.le_of_ble_eq_true rfl) ?_
  intro p e s m args below meth c ls h0 hr hlocks hin hsz hw hl
  obtain ⟨hx, hb, hml, hown, hts, hK⟩ := id h0
  have hA : ∀ q : Nat, s.heap.size ≤ q → (va_A (mo tc a μ ++ Y) sz) q := fun q h => Or.inr (by rw [← hsz]; exact h)
  generalize va_A (mo tc a μ ++ Y) sz = A at hw hA ⊢
  obtain ⟨H, eH⟩ : ∃ z, z = s.heap := ⟨_, rfl⟩
  obtain ⟨locs, eL⟩ : ∃ z : List Loc, z = [] := ⟨_, rfl⟩
  have hw : wH D A s.heap (mo tc a μ ++ Y) H locs := by rw [eH, eL]; exact hw
  show W p l e _ s m _ below meth c s.heap [] 0 0 _ _
  have gl : W p l e ({ frames := 2, cells := 0, slots := 0, locals := 43 } : Room) s m args below meth c H locs 0 0 (MQ below (va_Qi (fun r u => (r, u) = F) (fun u t => qW D tc A (mo tc a u ++ Y) t) A) args s 0 0 A) (F0 m 0 ls []) := ?_
  · rw [eH, eL] at gl; exact gl
  have hl : lv_has ls 3 [(0, .ref (a 0)), (1, .int x1), (2, .int x2)] := hl
  unfold kM_booked at hok
  unfold fM_booked at hF
  refine lv_aload_n hx hb d_M_booked_0 rfl (lv_at hl 0 rfl) ?_
  refine lv_aload_n hx hb d_M_booked_1 rfl (lv_at hl 0 rfl) ?_
  refine lv_iload_n hx hb d_M_booked_2 rfl (lv_at hl 1 rfl) ?_
  obtain ⟨hi_1, hok⟩ := hok
  refine cv_p (n := 1) (C := "CountRoundsModel") (b := a 0) (q0 := 0) (ci := 4) (As := [.int x1]) (rest := [.ref (a 0)]) h0 hw (cM_isPlace l D tc a Y H.size x1 μ hi_1 rfl) (gd_V wd_714 wd_716 (gw_s 22 rfl rfl) wd_3 wd_717) (by decide +kernel) ⟨rfl, rfl, Nat.le_of_ble_eq_true rfl, Nat.le_of_ble_eq_true rfl, Nat.le_of_ble_eq_true rfl, Nat.le_of_ble_eq_true rfl⟩ rfl rfl rfl hl.1 rfl (Nat.le_of_ble_eq_true rfl) d_M_booked_3 ?_
  refine lv_if_ne (tgt := 13) hx hb d_M_booked_6 (by decide) (fun c_2 => ?_) (fun c_2 => ?_)
  · have hok := hok.2 c_2
    have hF := (if_neg c_2).symm.trans hF
    refine lv_iload_n hx hb d_M_booked_13 rfl (lv_at hl 2 rfl) ?_
    obtain ⟨hi_3, hok⟩ := hok
    refine cs_p (n := 1) (As := [.int x2]) (rest := [.ref (a 0)]) hx hb hml hown hts (cM_isGood l x2 hi_3 rfl) (gd_S wd_718 wd_719 wd_3 wd_720) (by decide +kernel) ⟨rfl, rfl, Nat.le_of_ble_eq_true rfl, Nat.le_of_ble_eq_true rfl, Nat.le_of_ble_eq_true rfl, Nat.le_of_ble_eq_true rfl⟩ rfl hl.1 rfl (Nat.le_of_ble_eq_true rfl) d_M_booked_14 ?_
    refine lv_if_ne (tgt := 24) hx hb d_M_booked_17 (by decide) (fun c_4 => ?_) (fun c_4 => ?_)
    · have hok := hok.2 c_4
      have hF := (if_neg c_4).symm.trans hF
      refine lv_iconst (v := 0) hx hb d_M_booked_24 (by decide) ?_
      refine mp_0 h0 hw d_M_booked_25 (fun H locs hw => ?_)
      refine lv_aload_n hx hb d_M_booked_28 rfl (lv_at hl 0 rfl) ?_
      refine mg_0 h0 hw d_M_booked_29 ?_
      refine W.eq (g2 := F0 m 32 ls [.int 0]) rfl ?_
      refine lv_if_le (tgt := 39) hx hb d_M_booked_32 (by decide) (fun _ => ?_) (fun c_0 => absurd c_0 (by decide))
      refine lv_aload_n hx hb d_M_booked_39 rfl (lv_at hl 0 rfl) ?_
      refine mg_6 h0 hw d_M_booked_40 ?_
      refine lv_bipush (v := 6) hx hb d_M_booked_43 (by decide) ?_
      refine lv_iload_n hx hb d_M_booked_45 rfl (lv_at hl 1 rfl) ?_
      refine lv_imul hx hb d_M_booked_46 ?_
      refine lv_iload_n hx hb d_M_booked_47 rfl (lv_at hl 2 rfl) ?_
      refine lv_iadd hx hb d_M_booked_48 ?_
      obtain ⟨hi_5, hok⟩ := hok
      refine ml_6 h0 hw hi_5 d_M_booked_49 ?_
      refine W.eq (g2 := F0 m 50 ls [.int (μ 6 ((6 * x1) + x2).toNatClampNeg)]) rfl ?_
      exact rt_i h0 hw hr hlocks rfl (u2 μ 0 0 0) hF rfl d_M_booked_50 (Nat.le_refl 0) (Nat.le_refl 0)
    · have hok := hok.1 c_4
      have hF := (if_pos c_4).symm.trans hF
      refine lv_iconst (v := 2) hx hb d_M_booked_20 (by decide) ?_
      refine lv_goto (tgt := 25) hx hb d_M_booked_21 (by decide) ?_
      refine mp_0 h0 hw d_M_booked_25 (fun H locs hw => ?_)
      refine lv_aload_n hx hb d_M_booked_28 rfl (lv_at hl 0 rfl) ?_
      refine mg_0 h0 hw d_M_booked_29 ?_
      refine W.eq (g2 := F0 m 32 ls [.int 2]) rfl ?_
      refine lv_if_le (tgt := 39) hx hb d_M_booked_32 (by decide) (fun c_0 => absurd c_0 (by decide)) (fun _ => ?_)
      refine lv_iconst (v := 0) hx hb d_M_booked_35 (by decide) ?_
      refine lv_goto (tgt := 50) hx hb d_M_booked_36 (by decide) ?_
      exact rt_i h0 hw hr hlocks rfl (u2 μ 0 0 2) hF rfl d_M_booked_50 (Nat.le_refl 0) (Nat.le_refl 0)
  · have hok := hok.1 c_2
    have hF := (if_pos c_2).symm.trans hF
    refine lv_iconst (v := 1) hx hb d_M_booked_9 (by decide) ?_
    refine lv_goto (tgt := 25) hx hb d_M_booked_10 (by decide) ?_
    refine mp_0 h0 hw d_M_booked_25 (fun H locs hw => ?_)
    refine lv_aload_n hx hb d_M_booked_28 rfl (lv_at hl 0 rfl) ?_
    refine mg_0 h0 hw d_M_booked_29 ?_
    refine W.eq (g2 := F0 m 32 ls [.int 1]) rfl ?_
    refine lv_if_le (tgt := 39) hx hb d_M_booked_32 (by decide) (fun c_0 => absurd c_0 (by decide)) (fun _ => ?_)
    refine lv_iconst (v := 0) hx hb d_M_booked_35 (by decide) ?_
    refine lv_goto (tgt := 50) hx hb d_M_booked_36 (by decide) ?_
    exact rt_i h0 hw hr hlocks rfl (u2 μ 0 0 1) hF rfl d_M_booked_50 (Nat.le_refl 0) (Nat.le_refl 0)
set_option maxHeartbeats 4000000 in
set_option maxRecDepth 100000 in
theorem cM_told (l : Launch) (D : va_G) (tc : Nat → ClassId) (a : Nat → Nat) (Y : va_W) (sz : Nat) (x1 : Int32) (x2 : Int32) (μ : Nat → Nat → Int32) {F : Int32 × (Nat → Nat → Int32)} (hok : kM_told x1 x2 μ) (hF : fM_told x1 x2 μ = F) : Met l y_M_told (Cond.code y_M_told b_M_told 3 (some .int) :: gw) ({ frames := 2, cells := 0, slots := 0, locals := 43 } : Room) (va_Pc [.ref (a 0), .int x1, .int x2] (pW D tc (mo tc a μ ++ Y) sz)) (va_Qi (fun r u => (r, u) = F) (fun u t => qW D tc (va_A (mo tc a μ ++ Y) sz) (mo tc a u ++ Y) t) (va_A (mo tc a μ ++ Y) sz)) 0 0 (va_A (mo tc a μ ++ Y) sz) := by
  refine en_W (by decide) (Nat.le_of_ble_eq_true rfl) ?_
  intro p e s m args below meth c ls h0 hr hlocks hin hsz hw hl
  obtain ⟨hx, hb, hml, hown, hts, hK⟩ := id h0
  have hA : ∀ q : Nat, s.heap.size ≤ q → (va_A (mo tc a μ ++ Y) sz) q := fun q h => Or.inr (by rw [← hsz]; exact h)
  generalize va_A (mo tc a μ ++ Y) sz = A at hw hA ⊢
  obtain ⟨H, eH⟩ : ∃ z, z = s.heap := ⟨_, rfl⟩
  obtain ⟨locs, eL⟩ : ∃ z : List Loc, z = [] := ⟨_, rfl⟩
  have hw : wH D A s.heap (mo tc a μ ++ Y) H locs := by rw [eH, eL]; exact hw
  show W p l e _ s m _ below meth c s.heap [] 0 0 _ _
  have gl : W p l e ({ frames := 2, cells := 0, slots := 0, locals := 43 } : Room) s m args below meth c H locs 0 0 (MQ below (va_Qi (fun r u => (r, u) = F) (fun u t => qW D tc A (mo tc a u ++ Y) t) A) args s 0 0 A) (F0 m 0 ls []) := ?_
  · rw [eH, eL] at gl; exact gl
  have hl : lv_has ls 3 [(0, .ref (a 0)), (1, .int x1), (2, .int x2)] := hl
  unfold kM_told at hok
  unfold fM_told at hF
  refine lv_aload_n hx hb d_M_told_0 rfl (lv_at hl 0 rfl) ?_
  refine lv_aload_n hx hb d_M_told_1 rfl (lv_at hl 0 rfl) ?_
  refine lv_iload_n hx hb d_M_told_2 rfl (lv_at hl 1 rfl) ?_
  obtain ⟨hi_1, hok⟩ := hok
  refine cv_p (n := 1) (C := "CountRoundsModel") (b := a 0) (q0 := 0) (ci := 4) (As := [.int x1]) (rest := [.ref (a 0)]) h0 hw (cM_isCount l D tc a Y H.size x1 μ hi_1 rfl) (gd_V wd_779 wd_781 (gw_s 27 rfl rfl) wd_3 wd_782) (by decide +kernel) ⟨rfl, rfl, Nat.le_of_ble_eq_true rfl, Nat.le_of_ble_eq_true rfl, Nat.le_of_ble_eq_true rfl, Nat.le_of_ble_eq_true rfl⟩ rfl rfl rfl hl.1 rfl (Nat.le_of_ble_eq_true rfl) d_M_told_3 ?_
  refine lv_if_ne (tgt := 13) hx hb d_M_told_6 (by decide) (fun c_2 => ?_) (fun c_2 => ?_)
  · have hok := hok.2 c_2
    have hF := (if_neg c_2).symm.trans hF
    refine lv_iload_n hx hb d_M_told_13 rfl (lv_at hl 2 rfl) ?_
    refine lv_if_lt (tgt := 27) hx hb d_M_told_14 (by decide) (fun c_3 => ?_) (fun c_3 => ?_)
    · have hok := hok.1 c_3
      have hF := (if_pos c_3).symm.trans hF
      refine lv_iconst (v := 2) hx hb d_M_told_27 (by decide) ?_
      refine lv_goto (tgt := 32) hx hb d_M_told_28 (by decide) ?_
      refine mp_0 h0 hw d_M_told_32 (fun H locs hw => ?_)
      refine lv_aload_n hx hb d_M_told_35 rfl (lv_at hl 0 rfl) ?_
      refine mg_0 h0 hw d_M_told_36 ?_
      refine W.eq (g2 := F0 m 39 ls [.int 2]) rfl ?_
      refine lv_if_le (tgt := 44) hx hb d_M_told_39 (by decide) (fun c_0 => absurd c_0 (by decide)) (fun _ => ?_)
      refine lv_iconst (v := 0) hx hb d_M_told_42 (by decide) ?_
      exact rt_i h0 hw hr hlocks rfl (u2 μ 0 0 2) hF rfl d_M_told_43 (Nat.le_refl 0) (Nat.le_refl 0)
    · have hok := hok.2 c_3
      have hF := (if_neg c_3).symm.trans hF
      refine lv_iload_n hx hb d_M_told_17 rfl (lv_at hl 2 rfl) ?_
      refine lv_iconst (v := 3) hx hb d_M_told_18 (by decide) ?_
      refine lv_bipush (v := 9) hx hb d_M_told_19 (by decide) ?_
      obtain ⟨hi_4, hok⟩ := hok
      refine cs_p (n := 3) (As := [.int x2, .int 3, .int 9]) (rest := [.ref (a 0)]) hx hb hml hown hts (cM_in l x2 3 9 hi_4 rfl) (gd_S wd_707 wd_708 wd_3 wd_709) (by decide +kernel) ⟨rfl, rfl, Nat.le_of_ble_eq_true rfl, Nat.le_of_ble_eq_true rfl, Nat.le_of_ble_eq_true rfl, Nat.le_of_ble_eq_true rfl⟩ rfl hl.1 rfl (Nat.le_of_ble_eq_true rfl) d_M_told_21 ?_
      refine lv_if_eq (tgt := 31) hx hb d_M_told_24 (by decide) (fun c_5 => ?_) (fun c_5 => ?_)
      · have hok := hok.1 c_5
        have hF := (if_pos c_5).symm.trans hF
        refine lv_iconst (v := 0) hx hb d_M_told_31 (by decide) ?_
        refine mp_0 h0 hw d_M_told_32 (fun H locs hw => ?_)
        refine lv_aload_n hx hb d_M_told_35 rfl (lv_at hl 0 rfl) ?_
        refine mg_0 h0 hw d_M_told_36 ?_
        refine W.eq (g2 := F0 m 39 ls [.int 0]) rfl ?_
        refine lv_if_le (tgt := 44) hx hb d_M_told_39 (by decide) (fun _ => ?_) (fun c_0 => absurd c_0 (by decide))
        refine lv_iload_n hx hb d_M_told_44 rfl (lv_at hl 2 rfl) ?_
        refine lv_if_ne (tgt := 55) hx hb d_M_told_45 (by decide) (fun c_6 => ?_) (fun c_6 => ?_)
        · have hok := hok.2 c_6
          have hF := (if_neg c_6).symm.trans hF
          refine lv_iload_n hx hb d_M_told_55 rfl (lv_at hl 2 rfl) ?_
          refine lv_iconst (v := 1) hx hb d_M_told_56 (by decide) ?_
          refine lv_icmp_ne (tgt := 67) hx hb d_M_told_57 (by decide) (fun c_7 => ?_) (fun c_7 => ?_)
          · have hok := hok.2 c_7
            have hF := (if_neg c_7).symm.trans hF
            refine lv_iload_n hx hb d_M_told_67 rfl (lv_at hl 2 rfl) ?_
            refine lv_iconst (v := 2) hx hb d_M_told_68 (by decide) ?_
            refine lv_icmp_ne (tgt := 79) hx hb d_M_told_69 (by decide) (fun c_8 => ?_) (fun c_8 => ?_)
            · have hok := hok.2 c_8
              have hF := (if_neg c_8).symm.trans hF
              refine lv_iload_n hx hb d_M_told_79 rfl (lv_at hl 2 rfl) ?_
              refine lv_bipush (v := 10) hx hb d_M_told_80 (by decide) ?_
              refine lv_isub hx hb d_M_told_82 ?_
              refine lv_aload_n hx hb d_M_told_83 rfl (lv_at hl 0 rfl) ?_
              refine mg_18 h0 hw d_M_told_84 ?_
              refine lv_iload_n hx hb d_M_told_87 rfl (lv_at hl 1 rfl) ?_
              obtain ⟨hi_9, hok⟩ := hok
              refine ml_18 h0 hw hi_9 d_M_told_88 ?_
              refine W.eq (g2 := F0 m 89 ls [.int (μ 18 x1.toNatClampNeg), .int (x2 - 10)]) rfl ?_
              refine lv_icmp_ge (tgt := 109) hx hb d_M_told_89 (by decide) (fun c_10 => ?_) (fun c_10 => ?_)
              · have hok := hok.1 c_10
                have hF := (if_pos c_10).symm.trans hF
                refine lv_iconst (v := (-1)) hx hb d_M_told_109 (by decide) ?_
                exact rt_i h0 hw hr hlocks rfl (u2 μ 0 0 0) hF rfl d_M_told_110 (Nat.le_refl 0) (Nat.le_refl 0)
              · have hok := hok.2 c_10
                have hF := (if_neg c_10).symm.trans hF
                refine lv_aload_n hx hb d_M_told_92 rfl (lv_at hl 0 rfl) ?_
                refine mg_20 h0 hw d_M_told_93 ?_
                refine lv_bipush (v := 20) hx hb d_M_told_96 (by decide) ?_
                refine lv_iload_n hx hb d_M_told_98 rfl (lv_at hl 1 rfl) ?_
                refine lv_imul hx hb d_M_told_99 ?_
                refine lv_iload_n hx hb d_M_told_100 rfl (lv_at hl 2 rfl) ?_
                refine lv_iadd hx hb d_M_told_101 ?_
                refine lv_bipush (v := 10) hx hb d_M_told_102 (by decide) ?_
                refine lv_isub hx hb d_M_told_104 ?_
                obtain ⟨hi_11, hok⟩ := hok
                refine ml_20 h0 hw hi_11 d_M_told_105 ?_
                refine W.eq (g2 := F0 m 106 ls [.int (μ 20 (((20 * x1) + x2) - 10).toNatClampNeg)]) rfl ?_
                refine lv_goto (tgt := 110) hx hb d_M_told_106 (by decide) ?_
                exact rt_i h0 hw hr hlocks rfl (u2 μ 0 0 0) hF rfl d_M_told_110 (Nat.le_refl 0) (Nat.le_refl 0)
            · have hok := hok.1 c_8
              have hF := (if_pos c_8).symm.trans hF
              refine lv_aload_n hx hb d_M_told_72 rfl (lv_at hl 0 rfl) ?_
              refine mg_19 h0 hw d_M_told_73 ?_
              refine lv_iload_n hx hb d_M_told_76 rfl (lv_at hl 1 rfl) ?_
              obtain ⟨hi_12, hok⟩ := hok
              refine ml_19 h0 hw hi_12 d_M_told_77 ?_
              refine W.eq (g2 := F0 m 78 ls [.int (μ 19 x1.toNatClampNeg)]) rfl ?_
              exact rt_i h0 hw hr hlocks rfl (u2 μ 0 0 0) hF rfl d_M_told_78 (Nat.le_refl 0) (Nat.le_refl 0)
          · have hok := hok.1 c_7
            have hF := (if_pos c_7).symm.trans hF
            refine lv_aload_n hx hb d_M_told_60 rfl (lv_at hl 0 rfl) ?_
            refine mg_18 h0 hw d_M_told_61 ?_
            refine lv_iload_n hx hb d_M_told_64 rfl (lv_at hl 1 rfl) ?_
            obtain ⟨hi_13, hok⟩ := hok
            refine ml_18 h0 hw hi_13 d_M_told_65 ?_
            refine W.eq (g2 := F0 m 66 ls [.int (μ 18 x1.toNatClampNeg)]) rfl ?_
            exact rt_i h0 hw hr hlocks rfl (u2 μ 0 0 0) hF rfl d_M_told_66 (Nat.le_refl 0) (Nat.le_refl 0)
        · have hok := hok.1 c_6
          have hF := (if_pos c_6).symm.trans hF
          refine lv_aload_n hx hb d_M_told_48 rfl (lv_at hl 0 rfl) ?_
          refine mg_17 h0 hw d_M_told_49 ?_
          refine lv_iload_n hx hb d_M_told_52 rfl (lv_at hl 1 rfl) ?_
          obtain ⟨hi_14, hok⟩ := hok
          refine ml_17 h0 hw hi_14 d_M_told_53 ?_
          refine W.eq (g2 := F0 m 54 ls [.int (μ 17 x1.toNatClampNeg)]) rfl ?_
          exact rt_i h0 hw hr hlocks rfl (u2 μ 0 0 0) hF rfl d_M_told_54 (Nat.le_refl 0) (Nat.le_refl 0)
      · have hok := hok.2 c_5
        have hF := (if_neg c_5).symm.trans hF
        refine lv_iconst (v := 2) hx hb d_M_told_27 (by decide) ?_
        refine lv_goto (tgt := 32) hx hb d_M_told_28 (by decide) ?_
        refine mp_0 h0 hw d_M_told_32 (fun H locs hw => ?_)
        refine lv_aload_n hx hb d_M_told_35 rfl (lv_at hl 0 rfl) ?_
        refine mg_0 h0 hw d_M_told_36 ?_
        refine W.eq (g2 := F0 m 39 ls [.int 2]) rfl ?_
        refine lv_if_le (tgt := 44) hx hb d_M_told_39 (by decide) (fun c_0 => absurd c_0 (by decide)) (fun _ => ?_)
        refine lv_iconst (v := 0) hx hb d_M_told_42 (by decide) ?_
        exact rt_i h0 hw hr hlocks rfl (u2 μ 0 0 2) hF rfl d_M_told_43 (Nat.le_refl 0) (Nat.le_refl 0)
  · have hok := hok.1 c_2
    have hF := (if_pos c_2).symm.trans hF
    refine lv_iconst (v := 1) hx hb d_M_told_9 (by decide) ?_
    refine lv_goto (tgt := 32) hx hb d_M_told_10 (by decide) ?_
    refine mp_0 h0 hw d_M_told_32 (fun H locs hw => ?_)
    refine lv_aload_n hx hb d_M_told_35 rfl (lv_at hl 0 rfl) ?_
    refine mg_0 h0 hw d_M_told_36 ?_
    refine W.eq (g2 := F0 m 39 ls [.int 1]) rfl ?_
    refine lv_if_le (tgt := 44) hx hb d_M_told_39 (by decide) (fun c_0 => absurd c_0 (by decide)) (fun _ => ?_)
    refine lv_iconst (v := 0) hx hb d_M_told_42 (by decide) ?_
    exact rt_i h0 hw hr hlocks rfl (u2 μ 0 0 1) hF rfl d_M_told_43 (Nat.le_refl 0) (Nat.le_refl 0)
set_option maxHeartbeats 4000000 in
set_option maxRecDepth 100000 in
theorem cM_count (l : Launch) (D : va_G) (tc : Nat → ClassId) (a : Nat → Nat) (Y : va_W) (sz : Nat) (x1 : Int32) (μ : Nat → Nat → Int32) {F : Int32 × (Nat → Nat → Int32)} (hok : kM_count x1 μ) (hF : fM_count x1 μ = F) : Met l y_M_count (Cond.code y_M_count b_M_count 4 (some .int) :: gw) ({ frames := 0, cells := 0, slots := 0, locals := 0 } : Room) (va_Pc [.ref (a 0), .int x1] (pW D tc (mo tc a μ ++ Y) sz)) (va_Qi (fun r u => (r, u) = F) (fun u t => qW D tc (va_A (mo tc a μ ++ Y) sz) (mo tc a u ++ Y) t) (va_A (mo tc a μ ++ Y) sz)) 0 0 (va_A (mo tc a μ ++ Y) sz) := by
  refine en_W (by decide) (Nat.le_of_ble_eq_true rfl) ?_
  intro p e s m args below meth c ls h0 hr hlocks hin hsz hw hl
  obtain ⟨hx, hb, hml, hown, hts, hK⟩ := id h0
  have hA : ∀ q : Nat, s.heap.size ≤ q → (va_A (mo tc a μ ++ Y) sz) q := fun q h => Or.inr (by rw [← hsz]; exact h)
  generalize va_A (mo tc a μ ++ Y) sz = A at hw hA ⊢
  obtain ⟨H, eH⟩ : ∃ z, z = s.heap := ⟨_, rfl⟩
  obtain ⟨locs, eL⟩ : ∃ z : List Loc, z = [] := ⟨_, rfl⟩
  have hw : wH D A s.heap (mo tc a μ ++ Y) H locs := by rw [eH, eL]; exact hw
  show W p l e _ s m _ below meth c s.heap [] 0 0 _ _
  have gl : W p l e ({ frames := 0, cells := 0, slots := 0, locals := 0 } : Room) s m args below meth c H locs 0 0 (MQ below (va_Qi (fun r u => (r, u) = F) (fun u t => qW D tc A (mo tc a u ++ Y) t) A) args s 0 0 A) (F0 m 0 ls []) := ?_
  · rw [eH, eL] at gl; exact gl
  have hl : lv_has ls 4 [(0, .ref (a 0)), (1, .int x1)] := hl
  unfold kM_count at hok
  unfold fM_count at hF
  refine lv_aload_n hx hb d_M_count_0 rfl (lv_at hl 0 rfl) ?_
  refine lv_iconst (v := 0) hx hb d_M_count_1 (by decide) ?_
  refine mp_0 h0 hw d_M_count_2 (fun H locs hw => ?_)
  refine lv_iload_n hx hb d_M_count_5 rfl (lv_at hl 1 rfl) ?_
  refine lv_if_ne (tgt := 14) hx hb d_M_count_6 (by decide) (fun c_1 => ?_) (fun c_1 => ?_)
  · have hok := hok.2 c_1
    have hF := (if_neg c_1).symm.trans hF
    refine lv_iload_n hx hb d_M_count_14 rfl (lv_at hl 1 rfl) ?_
    refine lv_iconst (v := 1) hx hb d_M_count_15 (by decide) ?_
    refine lv_icmp_ne (tgt := 24) hx hb d_M_count_16 (by decide) (fun c_2 => ?_) (fun c_2 => ?_)
    · have hok := hok.2 c_2
      have hF := (if_neg c_2).symm.trans hF
      refine lv_iload_n hx hb d_M_count_24 rfl (lv_at hl 1 rfl) ?_
      refine lv_iconst (v := 2) hx hb d_M_count_25 (by decide) ?_
      refine lv_icmp_ne (tgt := 34) hx hb d_M_count_26 (by decide) (fun c_3 => ?_) (fun c_3 => ?_)
      · have hok := hok.2 c_3
        have hF := (if_neg c_3).symm.trans hF
        refine lv_iload_n hx hb d_M_count_34 rfl (lv_at hl 1 rfl) ?_
        refine lv_iconst (v := 3) hx hb d_M_count_35 (by decide) ?_
        refine lv_icmp_ne (tgt := 44) hx hb d_M_count_36 (by decide) (fun c_4 => ?_) (fun c_4 => ?_)
        · have hok := hok.2 c_4
          have hF := (if_neg c_4).symm.trans hF
          refine lv_iconst (v := 0) hx hb d_M_count_44 (by decide) ?_
          refine lv_istore_n (lv' := [(2, .int 0), (0, .ref (a 0)), (1, .int x1)]) hx hb d_M_count_45 rfl hl (by decide) rfl (fun ls hl => ?_)
          refine lv_iconst (v := 1) hx hb d_M_count_46 (by decide) ?_
          refine lv_istore_n (lv' := [(3, .int 1), (2, .int 0), (0, .ref (a 0)), (1, .int x1)]) hx hb d_M_count_47 rfl hl (by decide) rfl (fun ls hl => ?_)
          have hx_48 : ∀ (x1 : Int32) (x2 : Int32) (x3 : Int32) (μ : Nat → Nat → Int32) (H : Heap) (locs : List Loc) (ls : Array Slot), wH D A s.heap (mo tc a μ ++ Y) H locs → lv_has ls 4 [(0, .ref (a 0)), (1, .int x1), (2, .int x2), (3, .int x3)] → kM_count_48x x1 x2 x3 μ → fM_count_48x x1 x2 x3 μ = F → W p l e ({ frames := 0, cells := 0, slots := 0, locals := 0 } : Room) s m args below meth c H locs 0 0 (MQ below (va_Qi (fun r u => (r, u) = F) (fun u t => qW D tc A (mo tc a u ++ Y) t) A) args s 0 0 A) (F0 m 79 ls []) := by
            intro x1 x2 x3 μ H locs ls hw hl hok hF
            unfold kM_count_48x at hok
            unfold fM_count_48x at hF
            refine lv_iload_n hx hb d_M_count_79 rfl (lv_at hl 1 rfl) ?_
            refine lv_iconst (v := 4) hx hb d_M_count_80 (by decide) ?_
            refine lv_icmp_ne (tgt := 88) hx hb d_M_count_81 (by decide) (fun c_5 => ?_) (fun c_5 => ?_)
            · have hok := hok.2 c_5
              have hF := (if_neg c_5).symm.trans hF
              refine lv_iconst (v := (-1)) hx hb d_M_count_88 (by decide) ?_
              exact rt_i h0 hw hr hlocks rfl μ hF rfl d_M_count_89 (Nat.le_refl 0) (Nat.le_refl 0)
            · have hok := hok.1 c_5
              have hF := (if_pos c_5).symm.trans hF
              refine lv_iload_n hx hb d_M_count_84 rfl (lv_at hl 2 rfl) ?_
              refine lv_goto (tgt := 89) hx hb d_M_count_85 (by decide) ?_
              exact rt_i h0 hw hr hlocks rfl μ hF rfl d_M_count_89 (Nat.le_refl 0) (Nat.le_refl 0)
          have lp_48 : ∀ (n48 : Nat) (x1 : Int32) (x2 : Int32) (x3 : Int32) (μ : Nat → Nat → Int32) (H : Heap) (locs : List Loc) (ls : Array Slot), wH D A s.heap (mo tc a μ ++ Y) H locs → lv_has ls 4 [(0, .ref (a 0)), (1, .int x1), (2, .int x2), (3, .int x3)] → kM_count_48 kM_count_48x n48 x1 x2 x3 μ → fM_count_48 fM_count_48x n48 x1 x2 x3 μ = F → W p l e ({ frames := 0, cells := 0, slots := 0, locals := 0 } : Room) s m args below meth c H locs 0 0 (MQ below (va_Qi (fun r u => (r, u) = F) (fun u t => qW D tc A (mo tc a u ++ Y) t) A) args s 0 0 A) (F0 m 48 ls []) := by
            intro n48
            induction n48 with
            | zero =>
              intro x1 x2 x3 μ H locs ls hw hl hok hF
              unfold kM_count_48 at hok
              exact hok.elim
            | succ n48 ih_48 =>
              intro x1 x2 x3 μ H locs ls hw hl hok hF
              unfold kM_count_48 at hok
              unfold fM_count_48 at hF
              refine lv_iload_n hx hb d_M_count_48 rfl (lv_at hl 3 rfl) ?_
              refine lv_aload_n hx hb d_M_count_49 rfl (lv_at hl 0 rfl) ?_
              refine mg_10 h0 hw d_M_count_50 ?_
              refine lv_icmp_gt (tgt := 79) hx hb d_M_count_53 (by decide) (fun c_6 => ?_) (fun c_6 => ?_)
              · have hok := hok.1 c_6
                have hF := (if_pos c_6).symm.trans hF
                exact hx_48 x1 x2 x3 μ H locs ls hw (lv_sub hl [0, 1, 2, 3] rfl) hok hF
              · have hok := hok.2 c_6
                have hF := (if_neg c_6).symm.trans hF
                refine lv_iload_n hx hb d_M_count_56 rfl (lv_at hl 2 rfl) ?_
                refine lv_aload_n hx hb d_M_count_57 rfl (lv_at hl 0 rfl) ?_
                refine mg_15 h0 hw d_M_count_58 ?_
                refine lv_iload_n hx hb d_M_count_61 rfl (lv_at hl 3 rfl) ?_
                obtain ⟨hi_7, hok⟩ := hok
                refine ml_15 h0 hw hi_7 d_M_count_62 ?_
                refine lv_if_eq (tgt := 70) hx hb d_M_count_63 (by decide) (fun c_8 => ?_) (fun c_8 => ?_)
                · have hok := hok.1 c_8
                  have hF := (if_pos c_8).symm.trans hF
                  refine lv_iconst (v := 1) hx hb d_M_count_70 (by decide) ?_
                  refine lv_iadd hx hb d_M_count_71 ?_
                  refine lv_istore_n (lv' := [(2, .int (x2 + 1)), (0, .ref (a 0)), (1, .int x1), (3, .int x3)]) hx hb d_M_count_72 rfl hl (by decide) rfl (fun ls hl => ?_)
                  refine lv_iinc (v := x3 + 1) (lv' := [(3, .int (x3 + 1)), (2, .int (x2 + 1)), (0, .ref (a 0)), (1, .int x1)]) hx hb d_M_count_73 hl (k := 3) rfl rfl (by decide) rfl (fun ls hl => ?_)
                  refine lv_goto (tgt := 48) hx hb d_M_count_76 (by decide) ?_
                  exact ih_48 x1 (x2 + 1) (x3 + 1) μ H locs ls hw (lv_sub hl [2, 3, 1, 0] rfl) hok hF
                · have hok := hok.2 c_8
                  have hF := (if_neg c_8).symm.trans hF
                  refine lv_iconst (v := 0) hx hb d_M_count_66 (by decide) ?_
                  refine lv_goto (tgt := 71) hx hb d_M_count_67 (by decide) ?_
                  refine lv_iadd hx hb d_M_count_71 ?_
                  refine lv_istore_n (lv' := [(2, .int (x2 + 0)), (0, .ref (a 0)), (1, .int x1), (3, .int x3)]) hx hb d_M_count_72 rfl hl (by decide) rfl (fun ls hl => ?_)
                  refine lv_iinc (v := x3 + 1) (lv' := [(3, .int (x3 + 1)), (2, .int (x2 + 0)), (0, .ref (a 0)), (1, .int x1)]) hx hb d_M_count_73 hl (k := 3) rfl rfl (by decide) rfl (fun ls hl => ?_)
                  refine lv_goto (tgt := 48) hx hb d_M_count_76 (by decide) ?_
                  exact ih_48 x1 (x2 + 0) (x3 + 1) μ H locs ls hw (lv_sub hl [2, 3, 1, 0] rfl) hok hF
          exact lp_48 200 x1 0 1 (u2 μ 0 0 0) H locs ls hw (lv_sub hl [2, 3, 1, 0] rfl) hok hF
        · have hok := hok.1 c_4
          have hF := (if_pos c_4).symm.trans hF
          refine lv_aload_n hx hb d_M_count_39 rfl (lv_at hl 0 rfl) ?_
          refine mg_1 h0 hw d_M_count_40 ?_
          refine W.eq (g2 := F0 m 43 ls [.int (μ 1 0)]) rfl ?_
          exact rt_i h0 hw hr hlocks rfl (u2 μ 0 0 0) hF rfl d_M_count_43 (Nat.le_refl 0) (Nat.le_refl 0)
      · have hok := hok.1 c_3
        have hF := (if_pos c_3).symm.trans hF
        refine lv_aload_n hx hb d_M_count_29 rfl (lv_at hl 0 rfl) ?_
        refine mg_16 h0 hw d_M_count_30 ?_
        refine W.eq (g2 := F0 m 33 ls [.int (μ 16 0)]) rfl ?_
        exact rt_i h0 hw hr hlocks rfl (u2 μ 0 0 0) hF rfl d_M_count_33 (Nat.le_refl 0) (Nat.le_refl 0)
    · have hok := hok.1 c_2
      have hF := (if_pos c_2).symm.trans hF
      refine lv_aload_n hx hb d_M_count_19 rfl (lv_at hl 0 rfl) ?_
      refine mg_10 h0 hw d_M_count_20 ?_
      refine W.eq (g2 := F0 m 23 ls [.int (μ 10 0)]) rfl ?_
      exact rt_i h0 hw hr hlocks rfl (u2 μ 0 0 0) hF rfl d_M_count_23 (Nat.le_refl 0) (Nat.le_refl 0)
  · have hok := hok.1 c_1
    have hF := (if_pos c_1).symm.trans hF
    refine lv_aload_n hx hb d_M_count_9 rfl (lv_at hl 0 rfl) ?_
    refine mg_3 h0 hw d_M_count_10 ?_
    refine W.eq (g2 := F0 m 13 ls [.int (μ 3 0)]) rfl ?_
    exact rt_i h0 hw hr hlocks rfl (u2 μ 0 0 0) hF rfl d_M_count_13 (Nat.le_refl 0) (Nat.le_refl 0)
end
