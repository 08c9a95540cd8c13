section
-- ===== PART A: goes FIRST, ahead of the names: the tables' words, and 'selects' of the private methods out of them =====
/-- a private method of a class that the tables say can be made, by its rows of tables_1 -/
def lw_okq (q : MethodName × Nat) : Prop := (q.1.cls ≠ "java/lang/invoke/MethodHandle" ∧ q.1.cls ≠ "java/lang/invoke/VarHandle") ∧ Cond.instantiable q.1.cls q.2 ∈ tables_1 ∧ Cond.privateMethod q.1 ∈ tables_1 ∧ Cond.instanceMethod q.1 ∈ tables_1
theorem lw_p0 : lw_okq (⟨"RentSizes", "beginAnew", "()V"⟩, 6) := ⟨⟨by decide +kernel, by decide +kernel⟩, List.mem_of_getElem? (i := 14) (by decide +kernel), List.mem_of_getElem? (i := 79) (by decide +kernel), List.mem_of_getElem? (i := 80) (by decide +kernel)⟩
theorem lw_p1 : lw_okq (⟨"RentSizes$Editions", "holding", "(I)I"⟩, 5) := ⟨⟨by decide +kernel, by decide +kernel⟩, List.mem_of_getElem? (i := 22) (by decide +kernel), List.mem_of_getElem? (i := 144) (by decide +kernel), List.mem_of_getElem? (i := 145) (by decide +kernel)⟩
theorem lw_p2 : lw_okq (⟨"RentSizes", "capsAllow", "(II)Z"⟩, 6) := ⟨⟨by decide +kernel, by decide +kernel⟩, List.mem_of_getElem? (i := 14) (by decide +kernel), List.mem_of_getElem? (i := 171) (by decide +kernel), List.mem_of_getElem? (i := 172) (by decide +kernel)⟩
theorem lw_p3 : lw_okq (⟨"RentSizes", "liveSizes", "(I)I"⟩, 6) := ⟨⟨by decide +kernel, by decide +kernel⟩, List.mem_of_getElem? (i := 14) (by decide +kernel), List.mem_of_getElem? (i := 175) (by decide +kernel), List.mem_of_getElem? (i := 176) (by decide +kernel)⟩
theorem lw_p4 : lw_okq (⟨"RentSizes", "chargedSize", "(I)I"⟩, 6) := ⟨⟨by decide +kernel, by decide +kernel⟩, List.mem_of_getElem? (i := 14) (by decide +kernel), List.mem_of_getElem? (i := 179) (by decide +kernel), List.mem_of_getElem? (i := 180) (by decide +kernel)⟩
theorem lw_p5 : lw_okq (⟨"RentSizes", "rentOf", "(II)J"⟩, 6) := ⟨⟨by decide +kernel, by decide +kernel⟩, List.mem_of_getElem? (i := 14) (by decide +kernel), List.mem_of_getElem? (i := 186) (by decide +kernel), List.mem_of_getElem? (i := 187) (by decide +kernel)⟩
theorem lw_p6 : lw_okq (⟨"RentSizes", "freshItem", "()LRentSizes$Item;"⟩, 6) := ⟨⟨by decide +kernel, by decide +kernel⟩, List.mem_of_getElem? (i := 14) (by decide +kernel), List.mem_of_getElem? (i := 198) (by decide +kernel), List.mem_of_getElem? (i := 199) (by decide +kernel)⟩
theorem lw_p7 : lw_okq (⟨"RentSizes$Layers", "joinsNewest", "(II)Z"⟩, 4) := ⟨⟨by decide +kernel, by decide +kernel⟩, List.mem_of_getElem? (i := 207) (by decide +kernel), List.mem_of_getElem? (i := 265) (by decide +kernel), List.mem_of_getElem? (i := 266) (by decide +kernel)⟩
theorem lw_p8 : lw_okq (⟨"RentSizes", "find", "(I)LRentSizes$Item;"⟩, 6) := ⟨⟨by decide +kernel, by decide +kernel⟩, List.mem_of_getElem? (i := 14) (by decide +kernel), List.mem_of_getElem? (i := 273) (by decide +kernel), List.mem_of_getElem? (i := 274) (by decide +kernel)⟩
theorem lw_p9 : lw_okq (⟨"RentSizes", "giveBack", "(LRentSizes$Item;I)I"⟩, 6) := ⟨⟨by decide +kernel, by decide +kernel⟩, List.mem_of_getElem? (i := 14) (by decide +kernel), List.mem_of_getElem? (i := 292) (by decide +kernel), List.mem_of_getElem? (i := 293) (by decide +kernel)⟩
theorem lw_p10 : lw_okq (⟨"RentSizes", "archiveUnpaid", "()I"⟩, 6) := ⟨⟨by decide +kernel, by decide +kernel⟩, List.mem_of_getElem? (i := 14) (by decide +kernel), List.mem_of_getElem? (i := 339) (by decide +kernel), List.mem_of_getElem? (i := 340) (by decide +kernel)⟩
theorem lw_p11 : lw_okq (⟨"RentSizes$Ledger", "payNode", "(II)V"⟩, 6) := ⟨⟨by decide +kernel, by decide +kernel⟩, List.mem_of_getElem? (i := 46) (by decide +kernel), List.mem_of_getElem? (i := 350) (by decide +kernel), List.mem_of_getElem? (i := 351) (by decide +kernel)⟩
theorem lw_p12 : lw_okq (⟨"RentSizes$Ledger", "rankOf", "(I)I"⟩, 6) := ⟨⟨by decide +kernel, by decide +kernel⟩, List.mem_of_getElem? (i := 46) (by decide +kernel), List.mem_of_getElem? (i := 354) (by decide +kernel), List.mem_of_getElem? (i := 355) (by decide +kernel)⟩
theorem lw_p13 : lw_okq (⟨"RentSizes", "countOf", "(I)I"⟩, 6) := ⟨⟨by decide +kernel, by decide +kernel⟩, List.mem_of_getElem? (i := 14) (by decide +kernel), List.mem_of_getElem? (i := 398) (by decide +kernel), List.mem_of_getElem? (i := 399) (by decide +kernel)⟩
theorem lw_p14 : lw_okq (⟨"java/lang/Throwable", "fillInStackTrace", "(I)Ljava/lang/Throwable;"⟩, 6) := ⟨⟨by decide +kernel, by decide +kernel⟩, List.mem_of_getElem? (i := 456) (by decide +kernel), List.mem_of_getElem? (i := 454) (by decide +kernel), List.mem_of_getElem? (i := 455) (by decide +kernel)⟩
theorem lw_p15 : lw_okq (⟨"RentSizesModel", "begin", "()V"⟩, 23) := ⟨⟨by decide +kernel, by decide +kernel⟩, List.mem_of_getElem? (i := 486) (by decide +kernel), List.mem_of_getElem? (i := 492) (by decide +kernel), List.mem_of_getElem? (i := 493) (by decide +kernel)⟩
def lw_privs_1 : List (MethodName × Nat) := [(⟨"RentSizes", "beginAnew", "()V"⟩, 6), (⟨"RentSizes$Editions", "holding", "(I)I"⟩, 5), (⟨"RentSizes", "capsAllow", "(II)Z"⟩, 6), (⟨"RentSizes", "liveSizes", "(I)I"⟩, 6), (⟨"RentSizes", "chargedSize", "(I)I"⟩, 6), (⟨"RentSizes", "rentOf", "(II)J"⟩, 6), (⟨"RentSizes", "freshItem", "()LRentSizes$Item;"⟩, 6), (⟨"RentSizes$Layers", "joinsNewest", "(II)Z"⟩, 4), (⟨"RentSizes", "find", "(I)LRentSizes$Item;"⟩, 6), (⟨"RentSizes", "giveBack", "(LRentSizes$Item;I)I"⟩, 6), (⟨"RentSizes", "archiveUnpaid", "()I"⟩, 6), (⟨"RentSizes$Ledger", "payNode", "(II)V"⟩, 6), (⟨"RentSizes$Ledger", "rankOf", "(I)I"⟩, 6), (⟨"RentSizes", "countOf", "(I)I"⟩, 6), (⟨"java/lang/Throwable", "fillInStackTrace", "(I)Ljava/lang/Throwable;"⟩, 6), (⟨"RentSizesModel", "begin", "()V"⟩, 23)]
theorem lw_r1 : ∀ q ∈ lw_privs_1, lw_okq q := List.forall_mem_cons.mpr ⟨lw_p0, List.forall_mem_cons.mpr ⟨lw_p1, List.forall_mem_cons.mpr ⟨lw_p2, List.forall_mem_cons.mpr ⟨lw_p3, List.forall_mem_cons.mpr ⟨lw_p4, List.forall_mem_cons.mpr ⟨lw_p5, List.forall_mem_cons.mpr ⟨lw_p6, List.forall_mem_cons.mpr ⟨lw_p7, List.forall_mem_cons.mpr ⟨lw_p8, List.forall_mem_cons.mpr ⟨lw_p9, List.forall_mem_cons.mpr ⟨lw_p10, List.forall_mem_cons.mpr ⟨lw_p11, List.forall_mem_cons.mpr ⟨lw_p12, List.forall_mem_cons.mpr ⟨lw_p13, List.forall_mem_cons.mpr ⟨lw_p14, List.forall_mem_cons.mpr ⟨lw_p15, fun _ h => absurd h List.not_mem_nil⟩⟩⟩⟩⟩⟩⟩⟩⟩⟩⟩⟩⟩⟩⟩⟩
theorem lw_p16 : lw_okq (⟨"RentSizesModel", "editionAt", "(I)I"⟩, 23) := ⟨⟨by decide +kernel, by decide +kernel⟩, List.mem_of_getElem? (i := 486) (by decide +kernel), List.mem_of_getElem? (i := 583) (by decide +kernel), List.mem_of_getElem? (i := 584) (by decide +kernel)⟩
theorem lw_p17 : lw_okq (⟨"RentSizesModel", "noAccount", "(I)Z"⟩, 23) := ⟨⟨by decide +kernel, by decide +kernel⟩, List.mem_of_getElem? (i := 486) (by decide +kernel), List.mem_of_getElem? (i := 591) (by decide +kernel), List.mem_of_getElem? (i := 592) (by decide +kernel)⟩
theorem lw_p18 : lw_okq (⟨"RentSizesModel", "isCapped", "(II)Z"⟩, 23) := ⟨⟨by decide +kernel, by decide +kernel⟩, List.mem_of_getElem? (i := 486) (by decide +kernel), List.mem_of_getElem? (i := 602) (by decide +kernel), List.mem_of_getElem? (i := 603) (by decide +kernel)⟩
theorem lw_p19 : lw_okq (⟨"RentSizesModel", "liveSizes", "(I)I"⟩, 23) := ⟨⟨by decide +kernel, by decide +kernel⟩, List.mem_of_getElem? (i := 486) (by decide +kernel), List.mem_of_getElem? (i := 606) (by decide +kernel), List.mem_of_getElem? (i := 607) (by decide +kernel)⟩
theorem lw_p20 : lw_okq (⟨"RentSizesModel", "charged", "(I)I"⟩, 23) := ⟨⟨by decide +kernel, by decide +kernel⟩, List.mem_of_getElem? (i := 486) (by decide +kernel), List.mem_of_getElem? (i := 610) (by decide +kernel), List.mem_of_getElem? (i := 611) (by decide +kernel)⟩
theorem lw_p21 : lw_okq (⟨"RentSizesModel", "rent", "()I"⟩, 23) := ⟨⟨by decide +kernel, by decide +kernel⟩, List.mem_of_getElem? (i := 486) (by decide +kernel), List.mem_of_getElem? (i := 614) (by decide +kernel), List.mem_of_getElem? (i := 615) (by decide +kernel)⟩
theorem lw_p22 : lw_okq (⟨"RentSizesModel", "price", "()I"⟩, 23) := ⟨⟨by decide +kernel, by decide +kernel⟩, List.mem_of_getElem? (i := 486) (by decide +kernel), List.mem_of_getElem? (i := 618) (by decide +kernel), List.mem_of_getElem? (i := 619) (by decide +kernel)⟩
theorem lw_p23 : lw_okq (⟨"RentSizesModel", "comes", "(III)V"⟩, 23) := ⟨⟨by decide +kernel, by decide +kernel⟩, List.mem_of_getElem? (i := 486) (by decide +kernel), List.mem_of_getElem? (i := 622) (by decide +kernel), List.mem_of_getElem? (i := 623) (by decide +kernel)⟩
theorem lw_p24 : lw_okq (⟨"RentSizesModel", "needsLayer", "(II)Z"⟩, 23) := ⟨⟨by decide +kernel, by decide +kernel⟩, List.mem_of_getElem? (i := 486) (by decide +kernel), List.mem_of_getElem? (i := 626) (by decide +kernel), List.mem_of_getElem? (i := 627) (by decide +kernel)⟩
theorem lw_p25 : lw_okq (⟨"RentSizesModel", "noObject", "(I)Z"⟩, 23) := ⟨⟨by decide +kernel, by decide +kernel⟩, List.mem_of_getElem? (i := 486) (by decide +kernel), List.mem_of_getElem? (i := 634) (by decide +kernel), List.mem_of_getElem? (i := 635) (by decide +kernel)⟩
theorem lw_p26 : lw_okq (⟨"RentSizesModel", "sizeNow", "(I)I"⟩, 23) := ⟨⟨by decide +kernel, by decide +kernel⟩, List.mem_of_getElem? (i := 486) (by decide +kernel), List.mem_of_getElem? (i := 639) (by decide +kernel), List.mem_of_getElem? (i := 640) (by decide +kernel)⟩
theorem lw_p27 : lw_okq (⟨"RentSizesModel", "goes", "(II)I"⟩, 23) := ⟨⟨by decide +kernel, by decide +kernel⟩, List.mem_of_getElem? (i := 486) (by decide +kernel), List.mem_of_getElem? (i := 647) (by decide +kernel), List.mem_of_getElem? (i := 648) (by decide +kernel)⟩
theorem lw_p28 : lw_okq (⟨"RentSizesModel", "gives", "(III)I"⟩, 23) := ⟨⟨by decide +kernel, by decide +kernel⟩, List.mem_of_getElem? (i := 486) (by decide +kernel), List.mem_of_getElem? (i := 651) (by decide +kernel), List.mem_of_getElem? (i := 652) (by decide +kernel)⟩
theorem lw_p29 : lw_okq (⟨"RentSizesModel", "digestOf", "(I)I"⟩, 23) := ⟨⟨by decide +kernel, by decide +kernel⟩, List.mem_of_getElem? (i := 486) (by decide +kernel), List.mem_of_getElem? (i := 671) (by decide +kernel), List.mem_of_getElem? (i := 672) (by decide +kernel)⟩
theorem lw_p30 : lw_okq (⟨"RentSizesModel", "share", "()V"⟩, 23) := ⟨⟨by decide +kernel, by decide +kernel⟩, List.mem_of_getElem? (i := 486) (by decide +kernel), List.mem_of_getElem? (i := 683) (by decide +kernel), List.mem_of_getElem? (i := 684) (by decide +kernel)⟩
theorem lw_p31 : lw_okq (⟨"RentSizesModel", "allWeights", "()I"⟩, 23) := ⟨⟨by decide +kernel, by decide +kernel⟩, List.mem_of_getElem? (i := 486) (by decide +kernel), List.mem_of_getElem? (i := 687) (by decide +kernel), List.mem_of_getElem? (i := 688) (by decide +kernel)⟩
def lw_privs_2 : List (MethodName × Nat) := [(⟨"RentSizesModel", "editionAt", "(I)I"⟩, 23), (⟨"RentSizesModel", "noAccount", "(I)Z"⟩, 23), (⟨"RentSizesModel", "isCapped", "(II)Z"⟩, 23), (⟨"RentSizesModel", "liveSizes", "(I)I"⟩, 23), (⟨"RentSizesModel", "charged", "(I)I"⟩, 23), (⟨"RentSizesModel", "rent", "()I"⟩, 23), (⟨"RentSizesModel", "price", "()I"⟩, 23), (⟨"RentSizesModel", "comes", "(III)V"⟩, 23), (⟨"RentSizesModel", "needsLayer", "(II)Z"⟩, 23), (⟨"RentSizesModel", "noObject", "(I)Z"⟩, 23), (⟨"RentSizesModel", "sizeNow", "(I)I"⟩, 23), (⟨"RentSizesModel", "goes", "(II)I"⟩, 23), (⟨"RentSizesModel", "gives", "(III)I"⟩, 23), (⟨"RentSizesModel", "digestOf", "(I)I"⟩, 23), (⟨"RentSizesModel", "share", "()V"⟩, 23), (⟨"RentSizesModel", "allWeights", "()I"⟩, 23)]
theorem lw_r2 : ∀ q ∈ lw_privs_2, lw_okq q := List.forall_mem_cons.mpr ⟨lw_p16, List.forall_mem_cons.mpr ⟨lw_p17, List.forall_mem_cons.mpr ⟨lw_p18, List.forall_mem_cons.mpr ⟨lw_p19, List.forall_mem_cons.mpr ⟨lw_p20, List.forall_mem_cons.mpr ⟨lw_p21, List.forall_mem_cons.mpr ⟨lw_p22, List.forall_mem_cons.mpr ⟨lw_p23, List.forall_mem_cons.mpr ⟨lw_p24, List.forall_mem_cons.mpr ⟨lw_p25, List.forall_mem_cons.mpr ⟨lw_p26, List.forall_mem_cons.mpr ⟨lw_p27, List.forall_mem_cons.mpr ⟨lw_p28, List.forall_mem_cons.mpr ⟨lw_p29, List.forall_mem_cons.mpr ⟨lw_p30, List.forall_mem_cons.mpr ⟨lw_p31, fun _ h => absurd h List.not_mem_nil⟩⟩⟩⟩⟩⟩⟩⟩⟩⟩⟩⟩⟩⟩⟩⟩
theorem lw_p32 : lw_okq (⟨"RentSizesModel", "rank", "(I)I"⟩, 23) := ⟨⟨by decide +kernel, by decide +kernel⟩, List.mem_of_getElem? (i := 486) (by decide +kernel), List.mem_of_getElem? (i := 691) (by decide +kernel), List.mem_of_getElem? (i := 692) (by decide +kernel)⟩
theorem lw_p33 : lw_okq (⟨"RentSizesModel", "heldFor", "(I)I"⟩, 23) := ⟨⟨by decide +kernel, by decide +kernel⟩, List.mem_of_getElem? (i := 486) (by decide +kernel), List.mem_of_getElem? (i := 708) (by decide +kernel), List.mem_of_getElem? (i := 709) (by decide +kernel)⟩
theorem lw_p34 : lw_okq (⟨"RentSizesModel", "manyOf", "(I)I"⟩, 23) := ⟨⟨by decide +kernel, by decide +kernel⟩, List.mem_of_getElem? (i := 486) (by decide +kernel), List.mem_of_getElem? (i := 739) (by decide +kernel), List.mem_of_getElem? (i := 740) (by decide +kernel)⟩
theorem lw_p35 : lw_okq (⟨"RentSizesModel", "held", "()I"⟩, 23) := ⟨⟨by decide +kernel, by decide +kernel⟩, List.mem_of_getElem? (i := 486) (by decide +kernel), List.mem_of_getElem? (i := 743) (by decide +kernel), List.mem_of_getElem? (i := 744) (by decide +kernel)⟩
theorem lw_p36 : lw_okq (⟨"RentSizesModel", "allCoins", "()I"⟩, 23) := ⟨⟨by decide +kernel, by decide +kernel⟩, List.mem_of_getElem? (i := 486) (by decide +kernel), List.mem_of_getElem? (i := 747) (by decide +kernel), List.mem_of_getElem? (i := 748) (by decide +kernel)⟩
def lw_privs_3 : List (MethodName × Nat) := [(⟨"RentSizesModel", "rank", "(I)I"⟩, 23), (⟨"RentSizesModel", "heldFor", "(I)I"⟩, 23), (⟨"RentSizesModel", "manyOf", "(I)I"⟩, 23), (⟨"RentSizesModel", "held", "()I"⟩, 23), (⟨"RentSizesModel", "allCoins", "()I"⟩, 23)]
theorem lw_r3 : ∀ q ∈ lw_privs_3, lw_okq q := List.forall_mem_cons.mpr ⟨lw_p32, List.forall_mem_cons.mpr ⟨lw_p33, List.forall_mem_cons.mpr ⟨lw_p34, List.forall_mem_cons.mpr ⟨lw_p35, List.forall_mem_cons.mpr ⟨lw_p36, fun _ h => absurd h List.not_mem_nil⟩⟩⟩⟩⟩
def lw_privs : List (MethodName × Nat) := lw_privs_1 ++ (lw_privs_2 ++ (lw_privs_3))
def lw_tbl : List Cond := k2_sels lw_privs ++ tables_1
theorem lw_privs_ok : ∀ q ∈ lw_privs, lw_okq q := by
  show ∀ q ∈ lw_privs_1 ++ (lw_privs_2 ++ (lw_privs_3)), lw_okq q
  exact List.forall_mem_append.mpr ⟨lw_r1, List.forall_mem_append.mpr ⟨lw_r2, lw_r3⟩⟩
/-! ===== BEGIN words of one list among another's, by their places ===== -/
theorem goodIn_r {big : List Cond} (ws : List Cond) (ps : List Nat) (hp : ws = ps.filterMap (fun i => big[i]?)) (h : ws.all goodWord = true) : GoodIn big ws := by
  intro w hw
  have h1 := List.all_eq_true.mp h w hw
  rw [hp] at hw
  obtain ⟨i, -, hi⟩ := List.mem_filterMap.mp hw
  have hm : w ∈ big := by first | exact List.mem_of_getElem? hi | exact List.getElem?_mem hi
  exact ⟨hm, good_of_word h1⟩
theorem goodIn_app {big a b : List Cond} (ha : GoodIn big a) (hb : GoodIn big b) : GoodIn big (a ++ b) := fun w h => (List.mem_append.mp h).elim (ha w) (hb w)
theorem goodIn_ca {big a b : List Cond} {c : Cond} (ha : GoodIn big (c :: a)) (hb : GoodIn big b) : GoodIn big (c :: (a ++ b)) := fun w h => (List.mem_cons.mp h).elim (fun e => ha w (List.mem_cons.mpr (Or.inl e))) (fun h => (List.mem_append.mp h).elim (fun h => ha w (List.mem_cons.mpr (Or.inr h))) (hb w))
theorem goodIn_sub {big ws : List Cond} (hm : ∀ w ∈ ws, w ∈ big) (h : ws.all goodWord = true) : GoodIn big ws := fun w hw => ⟨hm w hw, good_of_word (List.all_eq_true.mp h w hw)⟩
/-! ===== END ===== -/

/-! ===== BEGIN exceptions that leave a method, and their catching by the caller (launches without stack traces) ===== -/
section VXA
/-! The laws vx_back, vx_callV, vx_callS, vx_callSW, vx_throw0, vx_throwS follow proofs of the library, with one case more: JvmDerived/Free/Laws.lean (Back.of_free), Shelf42/LK1.lean (callV, callS), Shelf/KitTraced.lean (throwNew0V, throwNewS). -/
/-- where a method has thrown q: the class by its name, the cell, what was written, the world -/
def vx_T (XC : String → State → State → Prop) (st : State) (q : Addr) (t : State) (mc ms : Nat) (free : Addr → Prop) : Prop :=
  ∃ (E : String) (ce : Cell) (L : List Loc), XC E st t ∧ t.heap[q]? = some ce ∧ ce.vm = .none ∧ st.vm.findClass E = some ce.cls ∧ st.WarmedH t.vm ∧ st.sameButNew ({ t with vm := st.vm } : State) L mc ms ∧ ∀ z ∈ L, free z.base
def vx_Q (Qc : Array Value → State → Outcome → State → Prop) (XC : String → State → State → Prop) (mc ms : Nat) (free : Addr → Prop) : Array Value → State → Outcome → State → Prop := fun a st o t =>
  (Qc a st o t ∧ ∃ L, FrameEnd st o t L mc ms ∧ ∀ q ∈ L, free q.base) ∨ ∃ q, o = .threw q ∧ vx_T XC st q t mc ms free
/-- a callee that returns or throws -/
def vx_Met (l : Launch) (y : MethodName) (ws : List Cond) (rm : Room) (Pc : Array Value → State → Prop) (Qc : Array Value → State → Outcome → State → Prop) (XC : String → State → State → Prop) (mc ms : Nat) (free : Addr → Prop) : Prop :=
  MetFree l y (headSpec ws rm) Pc (fun _ _ _ _ _ => True) (vx_Q Qc XC mc ms free)
def vx_Post (XC : String → State → State → Prop) (mc ms : Nat) (free : Addr → Prop) : Pt → Array Value → Addr → Pt → Prop := fun A a q B =>
  ∃ (g : JFrame) (mk : MethodId) (t : State) (L : List Loc) (E : String) (ce : Cell), B.U.heap = t.heap ∧ B.U.vm = t.vm ∧ XC E (A.U.calling g mk a) t ∧ t.heap[q]? = some ce ∧ ce.vm = .none ∧ A.U.vm.findClass E = some ce.cls ∧ B.locs = A.locs ++ L ∧ (∀ z ∈ L, free z.base) ∧ B.cells = A.cells + mc ∧ B.slots = A.slots + ms
def vx_Back (l : Launch) (R : Room) (p : Program) (e : Env) (below : List Frame) (s : State) (sargs : Array Value) (y : MethodName) (len W9 : Nat)
    (Pre : Pt → Array Value → Prop) (Post : Pt → Array Value → Option Value → Pt → Prop) (PostX : Pt → Array Value → Addr → Pt → Prop) : Prop :=
  ∀ (m : MethodId) (meth : Method) (c : Code) (A : Pt) (g : JFrame) (ig : Instr) (mk : MethodId) (a : Array Value),
    Stand p l e R s m sargs below meth c A.U A.locs A.cells A.slots → g.method = m → g.locals.size = c.maxLocals → decode c.code g.pc = .ok (ig, len) →
    2 * g.monitorRoom + (g.stack.map fun v => v.category).sum ≤ W9 → A.U.methodNamed? y = some mk → Pre A a →
    (∃ (v : Option Value) (B : Pt), Stand p l e R s m sargs below meth c B.U B.locs B.cells B.slots ∧ Post A a v B ∧
      Steps p.tables e below (doInvoke e (A.U.setTop g) [] mk a).1 (B.U.setTop { g with pc := g.pc + len, stack := v.toList ++ g.stack })) ∨
    (∃ (q : Addr) (B : Pt), Stand p l e R s m sargs below meth c B.U B.locs B.cells B.slots ∧ PostX A a q B ∧
      Steps p.tables e below (doInvoke e (A.U.setTop g) [] mk a).1 ((B.U.setTop g).pushFrame (.throwing q)))
section Payer
variable {l : Launch} {R : Room} {p : Program} {e : Env} {below : List Frame} {s : State} {sargs : Array Value} {y : MethodName} {len W9 : Nat}
theorem vx_back {ws : List Cond} {rm : Room} {Pc : Array Value → State → Prop} {Qc : Array Value → State → Outcome → State → Prop} {XC : String → State → State → Prop} {mc ms : Nat} {free : Addr → Prop} {bytes : ByteArray} {maxL : Nat} {ret : Option FieldType}
    (hM : vx_Met l y ws rm Pc Qc XC mc ms free) (hblind : FrameBlind Pc) (hrc : rm.cells = mc) (hrs : rm.slots = ms)
    (hframes : rm.frames + 1 ≤ R.frames) (hlocals : W9 + (maxL + 11) + rm.locals ≤ R.locals)
    (hws : ∀ w ∈ ws, ∀ a' U, s.WarmedH U.vm → w.before a' U = true) (hcode : Cond.code y bytes maxL ret ∈ ws) (hinit : ∀ a' U, s.WarmedH U.vm → (Cond.initialized y.cls).before a' U = true) :
    vx_Back l R p e below s sargs y len W9 (PreOf R mc ms Pc) (PostOf Qc mc ms free) (vx_Post XC mc ms free) := by
  intro m meth c A g ig mk a X hg hsize hdg hW hn hp
  have h1 : (headSpec ws rm).pre.before a A.U = true := atoms_intro fun w hw => hws w hw _ _ X.warmed
  have h2 : (Cond.code y bytes maxL ret).before a A.U = true := hws _ hcode _ _ X.warmed
  have h3 : (Cond.initialized y.cls).before a A.U = true := hinit _ _ X.warmed
  have h4 : A.cells + (headSpec ws rm).room.cells ≤ R.cells := by rw [show (headSpec ws rm).room.cells = mc from hrc]; exact hp.1
  have h5 : A.slots + (headSpec ws rm).room.slots ≤ R.slots := by rw [show (headSpec ws rm).room.slots = ms from hrs]; exact hp.2.1
  have hPc : Pc a (A.U.calling g mk a) := hblind _ _ _ _ hp.2.2
  obtain ⟨U, Ls, c0, s0⟩ := A
  dsimp only [Pt.U, Pt.locs, Pt.cells, Pt.slots] at h1 h2 h3 h4 h5 X hn hPc ⊢
  obtain ⟨methY, cY, hmY, hcY, -, hlY, -, -, -, -⟩ := Cond.code_spec hn h2
  obtain ⟨kY, hkY, -⟩ := className_of_methodNamed hn
  have hinitY : kY.init = .initialized := Cond.initialized_spec (findClass_of_methodNamed hn) hkY h3
  have h : At U g.method c below := by rw [hg]; exact X.here
  have hlocals9 : W9 + (maxL + 11) + (headSpec ws rm).room.locals ≤ R.locals := hlocals
  have happ : (headSpec ws rm).appliesLoose y e.platform (U.calling g mk a) = true :=
    Spec.appliesLoose_calling (g := g) h hdg hn hkY hinitY
      (X.room_calling (g := g) (R' := (headSpec ws rm).room) hsize hmY hcY hframes (by rw [hlY]; omega) h4 h5) h1
  obtain ⟨mid, hmid⟩ := h.above
  have hfr : (U.setTop g).frames = (.java g :: mid) ++ below := by rw [State.frames_setTop' g h.top, hmid]; rfl
  obtain ⟨o, s₂, hsteps, -, hend, hq⟩ := Steps.callFree hM p X.admits X.cas X.clock (acts := []) hfr happ hPc trivial
  have hq' : vx_Q Qc XC mc ms free a (U.calling g mk a) o s₂ := hq
  rw [State.frames_setTop' g h.top] at hend
  obtain ⟨g₀, hg0⟩ := Option.isSome_iff_exists.mp h.top
  obtain ⟨r, hr⟩ := State.topJava?_eq_some.mp hg0
  have hr' : (({ U with heap := s₂.heap, slotsUsed := s₂.slotsUsed } : State).setVm s₂.vm).frames = .java g₀ :: r := hr
  rcases hq' with ⟨hqc, L, hfe, hL⟩ | ⟨q, rfl, E, ce, L, hx, hce, hcv, hcl, hW₂, hsm, hL⟩
  · obtain ⟨⟨v, rfl⟩, hW₂, e2, q2, q3, q4, q5, q6⟩ := id hfe
    have e3 : s₂ = ({ (U.calling g mk a).setFrames s₂.frames with heap := s₂.heap, slotsUsed := s₂.slotsUsed } : State).setVm s₂.vm := by
      have : s₂ = ({ s₂ with vm := (U.calling g mk a).vm } : State).setVm s₂.vm := rfl
      rw [e2] at this
      exact this
    obtain ⟨c₂, i₂, len₂, hc₂, hd₂, hf₂⟩ := hend
    have hW' : U.WarmedH s₂.vm := hW₂
    have hcc : c₂ = c := by
      have h1 : s₂.code? g.method = U.code? g.method := by
        rw [State.code?_eq, State.code?_eq, hW'.alike.method?]
      exact Option.some.inj (hc₂.symm.trans (h1.trans h.code))
    subst hcc
    have hlen : len₂ = len := by rw [hdg] at hd₂; cases hd₂; rfl
    subst hlen
    have hs₂ : s₂ = (({ U with heap := s₂.heap, slotsUsed := s₂.slotsUsed } : State).setVm s₂.vm).setTop { g with pc := g.pc + len₂, stack := v.toList ++ g.stack } := by
      refine e3.trans ?_
      rw [hf₂, State.calling_eq h.top, State.setFrames_setFrames, State.setTop_of_frames _ hr', hr]
      rfl
    have hsame : U.sameButNew ({ U with heap := s₂.heap, slotsUsed := s₂.slotsUsed } : State) L mc ms := by
      refine ⟨?_, q2, q3, q4, q5, q6⟩
      obtain ⟨t, ht, -⟩ := State.frames_cons hr
      show ({ U with heap := s₂.heap, slotsUsed := s₂.slotsUsed } : State) = { U.setFrames U.frames with heap := s₂.heap, slotsUsed := s₂.slotsUsed }
      rw [State.setFrames_self ht]
    subst hg
    refine Or.inl ⟨v, ⟨(({ U with heap := s₂.heap, slotsUsed := s₂.slotsUsed } : State).setVm s₂.vm), Ls ++ L, c0 + mc, s0 + ms⟩,
      ⟨X.admits, X.cas, X.clock, X.frames, X.room, X.hears, X.method, X.code, (X.here.setHeapUsed s₂.heap s₂.slotsUsed).setVm hW'.alike, X.tail, State.WarmedH.trans X.warmed hW', X.limits, X.bytes, X.same.trans (hsame.setVm s.vm)⟩,
      ⟨g, mk, s₂, L, rfl, rfl, hqc, rfl, hL, rfl, rfl⟩, ?_⟩
    show Steps p.tables e below _ ((({ U with heap := s₂.heap, slotsUsed := s₂.slotsUsed } : State).setVm s₂.vm).setTop { g with pc := g.pc + len₂, stack := v.toList ++ g.stack })
    rw [← hs₂]
    exact hsteps
  · obtain ⟨e2, q2, q3, q4, q5, q6⟩ := id hsm
    have e3 : s₂ = ({ (U.calling g mk a).setFrames s₂.frames with heap := s₂.heap, slotsUsed := s₂.slotsUsed } : State).setVm s₂.vm := by
      have : s₂ = ({ s₂ with vm := (U.calling g mk a).vm } : State).setVm s₂.vm := rfl
      rw [e2] at this
      exact this
    have hf₂ : s₂.frames = .throwing q :: .java g :: U.frames.tail := hend
    have hW' : U.WarmedH s₂.vm := hW₂
    have hs₂ : s₂ = ((({ U with heap := s₂.heap, slotsUsed := s₂.slotsUsed } : State).setVm s₂.vm).setTop g).pushFrame (.throwing q) := by
      refine e3.trans ?_
      rw [hf₂, State.calling_eq h.top, State.setFrames_setFrames, State.pushFrame, State.frames_setTop _ hr', State.setTop_of_frames _ hr', State.setFrames_setFrames, hr]
      rfl
    have hsame : U.sameButNew ({ U with heap := s₂.heap, slotsUsed := s₂.slotsUsed } : State) L mc ms := by
      refine ⟨?_, q2, q3, q4, q5, q6⟩
      obtain ⟨t, ht, -⟩ := State.frames_cons hr
      show ({ U with heap := s₂.heap, slotsUsed := s₂.slotsUsed } : State) = { U.setFrames U.frames with heap := s₂.heap, slotsUsed := s₂.slotsUsed }
      rw [State.setFrames_self ht]
    subst hg
    refine Or.inr ⟨q, ⟨(({ U with heap := s₂.heap, slotsUsed := s₂.slotsUsed } : State).setVm s₂.vm), Ls ++ L, c0 + mc, s0 + ms⟩,
      ⟨X.admits, X.cas, X.clock, X.frames, X.room, X.hears, X.method, X.code, (X.here.setHeapUsed s₂.heap s₂.slotsUsed).setVm hW'.alike, X.tail, State.WarmedH.trans X.warmed hW', X.limits, X.bytes, X.same.trans (hsame.setVm s.vm)⟩,
      ⟨g, mk, s₂, L, E, ce, rfl, rfl, hx, hce, hcv, hcl, rfl, hL, rfl, rfl⟩, ?_⟩
    show Steps p.tables e below _ (((({ U with heap := s₂.heap, slotsUsed := s₂.slotsUsed } : State).setVm s₂.vm).setTop g).pushFrame (.throwing q))
    rw [← hs₂]
    exact hsteps
end Payer
section Calls
variable {p : Program} {l : Launch} {e : Env} {R : Room} {s : State} {m : MethodId} {args : Array Value} {below : List Frame} {meth : Method} {c : Code} {T : State} {locs : List Loc} {cells slots : Nat}
theorem vx_callV (X : Stand p l e R s m args below meth c T locs cells slots) (hexec : p.tables.exec = Jvm.exec) {own C : String} {index : Nat} {y : MethodName} {bytes : ByteArray} {maxL : Nat} {ret : Option FieldType}
    (hown : s.vm.findClass own = some m.cls) (hlink : (Cond.methodLink own index y).before args s = true) (hinst : (Cond.instanceMethod y).before args s = true) (hsel : (Cond.selects C y y).before args s = true)
    (hcode : (Cond.code y bytes maxL ret).before args s = true) (hy : y.cls ≠ "java/lang/invoke/MethodHandle" ∧ y.cls ≠ "java/lang/invoke/VarHandle")
    {W9 : Nat} {Pre : Pt → Array Value → Prop} {Post : Pt → Array Value → Option Value → Pt → Prop} {PostX : Pt → Array Value → Addr → Pt → Prop} (hK : vx_Back l R p e below s args y 3 W9 Pre Post PostX)
    {b : Addr} {cellB : Cell} (hcell : T.heap[b]? = some cellB) (hobj : cellB.vm.isStatics = false) (hcls : s.vm.findClass C = some cellB.cls)
    {g : JFrame} (hg : g.method = m) (hsize : g.locals.size = c.maxLocals) {argsL rest : List Value} (hlen : ∀ sig, parseMethodDescriptor y.desc = some sig → argsL.length = sig.parameters.length)
    (hstack : g.stack = argsL.reverse ++ .ref b :: rest) (hW : 2 * g.monitorRoom + (rest.map fun v => v.category).sum ≤ W9) (hdg : decode c.code g.pc = .ok (.invokevirtual index, 3))
    (hpre : ∀ vm₁, s.WarmedH vm₁ → Pre ⟨T.setVm vm₁, locs, cells, slots⟩ (Value.ref b :: argsL).toArray) :
    (∃ (v : Option Value) (vm₁ : Vm) (B : Pt), s.WarmedH vm₁ ∧ Stand p l e R s m args below meth c B.U B.locs B.cells B.slots ∧ Post ⟨T.setVm vm₁, locs, cells, slots⟩ (Value.ref b :: argsL).toArray v B ∧
      ∀ target, Steps p.tables e below (B.U.setTop { g with pc := g.pc + 3, stack := v.toList ++ rest }) target → Steps p.tables e below (T.setTop g) target) ∨
    (∃ (q : Addr) (vm₁ : Vm) (B : Pt), s.WarmedH vm₁ ∧ Stand p l e R s m args below meth c B.U B.locs B.cells B.slots ∧ PostX ⟨T.setVm vm₁, locs, cells, slots⟩ (Value.ref b :: argsL).toArray q B ∧
      Steps p.tables e below (T.setTop g) ((B.U.setTop { g with stack := rest }).pushFrame (.throwing q))) := by
  obtain ⟨mk, methM, hnamed, hmethM, hstM, habM⟩ := Cond.instanceMethod_spec hinst
  obtain ⟨methM', cM, hmethM', -, -, -, -, -, -, hsigM⟩ := Cond.code_spec hnamed hcode
  cases hmethM.symm.trans hmethM'
  obtain ⟨c2, r2, m2, q1, q2, q3, q4, kP, hkP, hkPi⟩ := Cond.selects_spec hsel
  cases hcls.symm.trans q1
  cases (State.methodFound?_of_named hnamed hy).symm.trans q2
  cases hnamed.symm.trans q3
  have hselP : selectMethod e.platform s.vm cellB.cls mk = .method mk := by rw [Launch.admits_selectMethod X.admits]; exact q4
  obtain ⟨vm₁, X₁, hstep₁⟩ := X.invokevirtual hexec hown hlink hnamed hmethM hstM hkP hkPi hy (a := b) (cell := cellB) hcell
    (fun z h => by rw [h] at hobj; cases hobj) hselP hmethM habM hkP hkPi (g := g) hg (argsL := argsL) (rest := rest) (hlen _ hsigM) hstack hdg
  rcases hK m meth c ⟨T.setVm vm₁, locs, cells, slots⟩ { g with stack := rest } (.invokevirtual index) mk (Value.ref b :: argsL).toArray X₁ hg hsize hdg hW (X₁.named hnamed) (hpre vm₁ X₁.warmed) with ⟨v, B, X', hpost, hsteps⟩ | ⟨q, B, X', hpost, hsteps⟩
  · exact Or.inl ⟨v, vm₁, B, X₁.warmed, X', hpost, fun target h => hstep₁ _ fun acts => by rw [doInvoke_state]; exact hsteps.trans h⟩
  · exact Or.inr ⟨q, vm₁, B, X₁.warmed, X', hpost, hstep₁ _ fun acts => by rw [doInvoke_state]; exact hsteps⟩
theorem vx_callS (X : Stand p l e R s m args below meth c T locs cells slots) (hexec : p.tables.exec = Jvm.exec) {own : String} {index : Nat} {y : MethodName} {bytes : ByteArray} {maxL : Nat} {ret : Option FieldType}
    (hown : s.vm.findClass own = some m.cls) (hlink : (Cond.methodLink own index y).before args s = true) (hstat : (Cond.static y).before args s = true) (hinit : (Cond.initialized y.cls).before args s = true)
    (hcode : (Cond.code y bytes maxL ret).before args s = true) (hy : y.cls ≠ "java/lang/invoke/MethodHandle" ∧ y.cls ≠ "java/lang/invoke/VarHandle")
    {W9 : Nat} {Pre : Pt → Array Value → Prop} {Post : Pt → Array Value → Option Value → Pt → Prop} {PostX : Pt → Array Value → Addr → Pt → Prop} (hK : vx_Back l R p e below s args y 3 W9 Pre Post PostX)
    {g : JFrame} (hg : g.method = m) (hsize : g.locals.size = c.maxLocals) {argsL rest : List Value} (hlen : ∀ sig, parseMethodDescriptor y.desc = some sig → argsL.length = sig.parameters.length)
    (hstack : g.stack = argsL.reverse ++ rest) (hW : 2 * g.monitorRoom + (rest.map fun v => v.category).sum ≤ W9) (hdg : decode c.code g.pc = .ok (.invokestatic index, 3))
    (hpre : ∀ vm₁, s.WarmedH vm₁ → Pre ⟨T.setVm vm₁, locs, cells, slots⟩ argsL.toArray) :
    (∃ (v : Option Value) (vm₁ : Vm) (B : Pt), s.WarmedH vm₁ ∧ Stand p l e R s m args below meth c B.U B.locs B.cells B.slots ∧ Post ⟨T.setVm vm₁, locs, cells, slots⟩ argsL.toArray v B ∧
      ∀ target, Steps p.tables e below (B.U.setTop { g with pc := g.pc + 3, stack := v.toList ++ rest }) target → Steps p.tables e below (T.setTop g) target) ∨
    (∃ (q : Addr) (vm₁ : Vm) (B : Pt), s.WarmedH vm₁ ∧ Stand p l e R s m args below meth c B.U B.locs B.cells B.slots ∧ PostX ⟨T.setVm vm₁, locs, cells, slots⟩ argsL.toArray q B ∧
      Steps p.tables e below (T.setTop g) ((B.U.setTop { g with stack := rest }).pushFrame (.throwing q))) := by
  obtain ⟨mk, hnamed⟩ := Cond.code_named hcode
  obtain ⟨methM, cM, hmethM, -, -, -, -, -, -, hsigM⟩ := Cond.code_spec hnamed hcode
  have hstatic : methM.isStatic = true := Cond.static_spec hnamed hmethM hstat
  obtain ⟨kP, hkP, -⟩ := className_of_methodNamed hnamed
  have hinitP : kP.init = .initialized := Cond.initialized_spec (findClass_of_methodNamed hnamed) hkP hinit
  obtain ⟨vm₁, X₁, hstep₁⟩ := X.invokestatic hexec hown hlink hnamed hmethM hstatic hkP hinitP hy (g := g) hg (argsL := argsL) (rest := rest) (hlen _ hsigM) hstack hdg
  rcases hK m meth c ⟨T.setVm vm₁, locs, cells, slots⟩ { g with stack := rest } (.invokestatic index) mk argsL.toArray X₁ hg hsize hdg hW (X₁.named hnamed) (hpre vm₁ X₁.warmed) with ⟨v, B, X', hpost, hsteps⟩ | ⟨q, B, X', hpost, hsteps⟩
  · exact Or.inl ⟨v, vm₁, B, X₁.warmed, X', hpost, fun target h => hstep₁ _ fun acts => by rw [doInvoke_state]; exact hsteps.trans h⟩
  · exact Or.inr ⟨q, vm₁, B, X₁.warmed, X', hpost, hstep₁ _ fun acts => by rw [doInvoke_state]; exact hsteps⟩
end Calls
theorem vx_cls {s : State} {T : State} {vm₁ : Vm} {E : String} {k : ClassId} (hW : s.WarmedH vm₁) (h : (T.setVm vm₁).vm.findClass E = some k) : s.vm.findClass E = some k := by
  have h1 : vm₁.findClass E = some k := h
  rw [hW.alike.findClass] at h1
  exact h1
/-- the method's frame g, with q thrown over it -/
def vx_W (p : Program) (l : Launch) (e : Env) (R : Room) (s : State) (m : MethodId) (args : Array Value) (below : List Frame) (meth : Method) (c : Code) (H : Heap) (locs : List Loc) (cells slots : Nat) (Q : State → Prop) (g : JFrame) (q : Addr) : Prop :=
  ∀ T : State, T.heap = H → Stand p l e R s m args below meth c T locs cells slots → ∃ t, Steps p.tables e below ((T.setTop g).pushFrame (.throwing q)) t ∧ Q t
def vx_Run (p : Program) (l : Launch) (e : Env) (R : Room) (s : State) (m : MethodId) (args : Array Value) (below : List Frame) (meth : Method) (c : Code) (H : Heap) (locs : List Loc) (cells slots mc ms : Nat) (g : JFrame) (rest : List Value) (Qa : State → Outcome → State → Prop) (XC : String → State → State → Prop) (free : Addr → Prop) : Prop :=
  ∀ T : State, T.heap = H → Stand p l e R s m args below meth c T locs cells slots →
    (∃ (v : Option Value) (st₀ t T' : State) (L : List Loc), st₀.heap = H ∧ Stand p l e R s m args below meth c T' (locs ++ L) (cells + mc) (slots + ms) ∧ (∀ q ∈ L, free q.base) ∧ T'.heap = t.heap ∧ T'.vm = t.vm ∧ Qa st₀ (.returned v) t ∧
      Goes p e below T g T' { g with pc := g.pc + 3, stack := v.toList ++ rest }) ∨
    (∃ (q : Addr) (st₀ t T' : State) (L : List Loc) (E : String) (ce : Cell), st₀.heap = H ∧ Stand p l e R s m args below meth c T' (locs ++ L) (cells + mc) (slots + ms) ∧ (∀ z ∈ L, free z.base) ∧ T'.heap = t.heap ∧ T'.vm = t.vm ∧ XC E st₀ t ∧ t.heap[q]? = some ce ∧ ce.vm = .none ∧ s.vm.findClass E = some ce.cls ∧
      Steps p.tables e below (T.setTop g) ((T'.setTop { g with stack := rest }).pushFrame (.throwing q)))
def vx_X {S : Type} (px : S → Prop) (B : String → S → State → Prop) (A : Nat → Prop) : String → State → State → Prop := fun E st t => ∃ u : S, px u ∧ B E u t ∧ va_F A st t
section Runs
variable {p : Program} {l : Launch} {e : Env} {R : Room} {s : State} {m : MethodId} {args : Array Value} {below : List Frame} {meth : Method} {c : Code} {H : Heap} {locs : List Loc} {cells slots : Nat}
variable {y : MethodName} {bytes cc : ByteArray} {maxL nL mc ms n index : Nat} {ret : Option FieldType} {ws : List Cond} {rm : Room} {Pc : Array Value → State → Prop} {Qc : Array Value → State → Outcome → State → Prop} {XC : String → State → State → Prop} {free : Addr → Prop} {Ts : List Cond} {own C : String} {b : Addr} {As rest : List Value} {g : JFrame}
theorem vx_callBack (cb : CallB R s args own index y bytes maxL ret ws rm mc ms n) (hM : vx_Met l y ws rm Pc Qc XC mc ms free) (hbl : FrameBlind Pc) : vx_Back l R p e below s args y 3 8 (PreOf R mc ms Pc) (PostOf Qc mc ms free) (vx_Post XC mc ms free) := by
  obtain ⟨hrc, hrs, hfr, hlo, hws, hcw, -, hini, -⟩ := cb
  exact vx_back (bytes := bytes) (maxL := maxL) (ret := ret) hM hbl hrc hrs hfr hlo hws hcw (fun a' U hW => word_at hW (Or.inl (by first | rfl | simp [Cond.onTables, Cond.keeps, Cond.steady])) hini)
theorem vx_runV (S : CallFix p m c cc nL s args Ts own) (hM : vx_Met l y ws rm Pc Qc XC mc ms free) (cw : CallW R s args own C index y bytes maxL ret ws rm mc ms n) (hp : PreV s H C b Pc As)
    (hg : g.method = m) (hn : As.length = n) (hsize : g.locals.size = nL) (hstack : g.stack = As.reverse ++ .ref b :: rest) (hW : 2 * g.monitorRoom + (rest.map fun v => v.category).sum ≤ 8) (hdg : decode cc g.pc = .ok (.invokevirtual index, 3)) (hf : cells + mc ≤ R.cells ∧ slots + ms ≤ R.slots) :
    vx_Run p l e R s m args below meth c H locs cells slots mc ms g rest (Qc (Value.ref b :: As).toArray) XC free := by
  have hK : vx_Back l R p e below s args y 3 8 (PreOf R mc ms Pc) (PostOf Qc mc ms free) (vx_Post XC mc ms free) := vx_callBack cw.1 hM hp.1
  obtain ⟨⟨-, -, -, -, -, -, hcode, -, hy, hlen, hl⟩, hin, hse⟩ := cw
  obtain ⟨hx, hb, hml, ho, -⟩ := S
  obtain ⟨-, ⟨cellB, hcB, hoB, hclB⟩, hPc⟩ := hp
  intro T hT X
  rcases vx_callV X hx (C := C) (bytes := bytes) (maxL := maxL) (ret := ret) ho hl hin hse hcode hy hK (by rw [hT]; exact hcB) hoB hclB hg (hsize.trans hml.symm) (argsL := As) (rest := rest) (fun sig h => hn.trans (hlen sig h)) hstack hW (by rw [hb]; exact hdg)
    (fun vm₁ hW₁ => ⟨hf.1, hf.2, hPc (T.setVm vm₁) hT hW₁⟩) with ⟨v, vm₁, ⟨U', l2, c2, s2⟩, hW₁, X', ⟨g', mk, t, L, e1, e2, hq, h1, hL, h2, h3⟩, st⟩ | ⟨q, vm₁, ⟨U', l2, c2, s2⟩, hW₁, X', ⟨g', mk, t, L, E, ce, e1, e2, hq, hce, hcv, hcl, h1, hL, h2, h3⟩, st⟩
  · dsimp only [Pt.U, Pt.locs, Pt.cells, Pt.slots] at X' e1 e2 h1 h2 h3 st
    subst h1; subst h2; subst h3
    exact Or.inl ⟨v, (T.setVm vm₁).calling g' mk (Value.ref b :: As).toArray, t, U', L, hT, X', hL, e1, e2, hq, st⟩
  · dsimp only [Pt.U, Pt.locs, Pt.cells, Pt.slots] at X' e1 e2 h1 h2 h3 st hcl
    subst h1; subst h2; subst h3
    exact Or.inr ⟨q, (T.setVm vm₁).calling g' mk (Value.ref b :: As).toArray, t, U', L, E, ce, hT, X', hL, e1, e2, hq, hce, hcv, vx_cls hW₁ hcl, st⟩
theorem vx_runS (S : CallFix p m c cc nL s args Ts own) (hM : vx_Met l y ws rm Pc Qc XC mc ms free) (cw : CallB R s args own index y bytes maxL ret ws rm mc ms n ∧ (Cond.static y).before args s = true) (hp : PreS s H Pc As)
    (hg : g.method = m) (hn : As.length = n) (hsize : g.locals.size = nL) (hstack : g.stack = As.reverse ++ rest) (hW : 2 * g.monitorRoom + (rest.map fun v => v.category).sum ≤ 8) (hdg : decode cc g.pc = .ok (.invokestatic index, 3)) (hf : cells + mc ≤ R.cells ∧ slots + ms ≤ R.slots) :
    vx_Run p l e R s m args below meth c H locs cells slots mc ms g rest (Qc As.toArray) XC free := by
  have hK : vx_Back l R p e below s args y 3 8 (PreOf R mc ms Pc) (PostOf Qc mc ms free) (vx_Post XC mc ms free) := vx_callBack cw.1 hM hp.1
  obtain ⟨⟨-, -, -, -, -, -, hcode, hini, hy, hlen, hl⟩, hstt⟩ := cw
  obtain ⟨hx, hb, hml, ho, -⟩ := S
  intro T hT X
  rcases vx_callS X hx (bytes := bytes) (maxL := maxL) (ret := ret) ho hl hstt hini hcode hy hK hg (hsize.trans hml.symm) (argsL := As) (rest := rest) (fun sig h => hn.trans (hlen sig h)) hstack hW (by rw [hb]; exact hdg)
    (fun vm₁ hW₁ => ⟨hf.1, hf.2, hp.2 (T.setVm vm₁) hT hW₁⟩) with ⟨v, vm₁, ⟨U', l2, c2, s2⟩, hW₁, X', ⟨g', mk, t, L, e1, e2, hq, h1, hL, h2, h3⟩, st⟩ | ⟨q, vm₁, ⟨U', l2, c2, s2⟩, hW₁, X', ⟨g', mk, t, L, E, ce, e1, e2, hq, hce, hcv, hcl, h1, hL, h2, h3⟩, st⟩
  · dsimp only [Pt.U, Pt.locs, Pt.cells, Pt.slots] at X' e1 e2 h1 h2 h3 st
    subst h1; subst h2; subst h3
    exact Or.inl ⟨v, (T.setVm vm₁).calling g' mk As.toArray, t, U', L, hT, X', hL, e1, e2, hq, st⟩
  · dsimp only [Pt.U, Pt.locs, Pt.cells, Pt.slots] at X' e1 e2 h1 h2 h3 st hcl
    subst h1; subst h2; subst h3
    exact Or.inr ⟨q, (T.setVm vm₁).calling g' mk As.toArray, t, U', L, E, ce, hT, X', hL, e1, e2, hq, hce, hcv, vx_cls hW₁ hcl, st⟩
end Runs
section Rows
variable {p : Program} {l : Launch} {e : Env} {R : Room} {s : State} {m : MethodId} {args : Array Value} {below : List Frame} {meth : Method} {c : Code} {H : Heap} {locs : List Loc} {cells slots : Nat} {Q : State → Prop}
variable {mc ms : Nat} {free : Addr → Prop} {A0 A1 : Nat → Prop} {H0 : Heap} {a : Array Value} {pc : Nat} {ls : Array Slot} {st0 rest : List Value}
theorem vx_keep {st₀ t T' : State} {L : List Loc} (h0 : st₀.heap = H) (e1 : T'.heap = t.heap) (hS : va_S A0 H0 H locs) (hA : ∀ q, q < H.size → A1 q → A0 q) (hf : ∀ q, free q → A0 q) (hL : ∀ q ∈ L, free q.base) (hF : va_F A1 st₀ t) :
    H.size ≤ T'.heap.size ∧ (∀ q : Nat, q < H.size → ¬ A1 q → T'.heap[q]? = H[q]?) ∧ va_S A0 H0 T'.heap (locs ++ L) := by
  obtain ⟨hz, hk⟩ := hF
  rw [h0] at hz hk
  exact ⟨by rw [e1]; exact hz, fun q h1 h2 => by rw [e1]; exact hk q h1 h2,
    ⟨Nat.le_trans hS.1 (by rw [e1]; exact hz), fun q h1 h2 => by rw [e1, hk q (Nat.lt_of_lt_of_le h1 hS.1) (fun z => h2 (hA q (Nat.lt_of_lt_of_le h1 hS.1) z))]; exact hS.2.1 q h1 h2, fun q hq => by
      rcases List.mem_append.mp hq with h | h
      · exact hS.2.2 q h
      · exact hf _ (hL q h)⟩⟩
theorem vx_calli {S SX : Type} {post : Int32 → S → Prop} {px : SX → Prop} {B : S → State → Prop} {BX : String → SX → State → Prop} {AX : Nat → Prop} (hr : vx_Run p l e R s m args below meth c H locs cells slots mc ms (F0 m pc ls st0) rest (va_Qi post B A1 a) (vx_X px BX AX) free) (hS : va_S A0 H0 H locs) (hA : ∀ q, q < H.size → A1 q → A0 q) (hf : ∀ q, free q → A0 q) (hAX : ∀ q, q < H.size → AX q → A0 q)
    (kx : ∀ (E : String) (ce : Cell) (q9 : Addr) (u : SX) (t : State) (H1 : Heap) (locs1 : List Loc), t.heap = H1 → s.vm.Alike t.vm → px u → BX E u t → H.size ≤ H1.size → (∀ q : Nat, q < H.size → ¬ AX q → H1[q]? = H[q]?) → va_S A0 H0 H1 locs1 → H1[q9]? = some ce → ce.vm = .none → s.vm.findClass E = some ce.cls → vx_W p l e R s m args below meth c H1 locs1 (cells + mc) (slots + ms) Q (F0 m pc ls rest) q9)
    (kk : ∀ (r : Int32) (u : S) (t : State) (H1 : Heap) (locs1 : List Loc), t.heap = H1 → s.vm.Alike t.vm → post r u → B u t → H.size ≤ H1.size → (∀ q : Nat, q < H.size → ¬ A1 q → H1[q]? = H[q]?) → va_S A0 H0 H1 locs1 → W p l e R s m args below meth c H1 locs1 (cells + mc) (slots + ms) Q (F0 m (pc + 3) ls (.int r :: rest))) : W p l e R s m args below meth c H locs cells slots Q (F0 m pc ls st0) := by
  intro T hT X
  rcases hr T hT X with ⟨v, st₀, t, T', L, h0, X', hL, e1, e2, ⟨⟨r, u, hv, hp, hb⟩, hF⟩, st⟩ | ⟨q, st₀, t, T', L, E, ce, h0, X', hL, e1, e2, ⟨u, hp, hb, hF⟩, hce, hcv, hcl, st⟩
  · cases hv
    obtain ⟨k1, k2, k3⟩ := vx_keep h0 e1 hS hA hf hL hF
    obtain ⟨t2, a1, b1⟩ := kk r u t T'.heap (locs ++ L) e1.symm (by rw [← e2]; exact X'.warmed.alike) hp hb k1 k2 k3 T' rfl X'
    exact ⟨t2, st t2 a1, b1⟩
  · obtain ⟨k1, k2, k3⟩ := vx_keep h0 e1 hS hAX hf hL hF
    obtain ⟨t2, a1, b1⟩ := kx E ce q u t T'.heap (locs ++ L) e1.symm (by rw [← e2]; exact X'.warmed.alike) hp hb k1 k2 k3 (by rw [e1]; exact hce) hcv hcl T' rfl X'
    exact ⟨t2, st.trans a1, b1⟩
theorem vx_calll {S SX : Type} {post : Int64 → S → Prop} {px : SX → Prop} {B : S → State → Prop} {BX : String → SX → State → Prop} {AX : Nat → Prop} (hr : vx_Run p l e R s m args below meth c H locs cells slots mc ms (F0 m pc ls st0) rest (va_Ql post B A1 a) (vx_X px BX AX) free) (hS : va_S A0 H0 H locs) (hA : ∀ q, q < H.size → A1 q → A0 q) (hf : ∀ q, free q → A0 q) (hAX : ∀ q, q < H.size → AX q → A0 q)
    (kx : ∀ (E : String) (ce : Cell) (q9 : Addr) (u : SX) (t : State) (H1 : Heap) (locs1 : List Loc), t.heap = H1 → s.vm.Alike t.vm → px u → BX E u t → H.size ≤ H1.size → (∀ q : Nat, q < H.size → ¬ AX q → H1[q]? = H[q]?) → va_S A0 H0 H1 locs1 → H1[q9]? = some ce → ce.vm = .none → s.vm.findClass E = some ce.cls → vx_W p l e R s m args below meth c H1 locs1 (cells + mc) (slots + ms) Q (F0 m pc ls rest) q9)
    (kk : ∀ (r : Int64) (u : S) (t : State) (H1 : Heap) (locs1 : List Loc), t.heap = H1 → s.vm.Alike t.vm → post r u → B u t → H.size ≤ H1.size → (∀ q : Nat, q < H.size → ¬ A1 q → H1[q]? = H[q]?) → va_S A0 H0 H1 locs1 → W p l e R s m args below meth c H1 locs1 (cells + mc) (slots + ms) Q (F0 m (pc + 3) ls (.long r :: rest))) : W p l e R s m args below meth c H locs cells slots Q (F0 m pc ls st0) := by
  intro T hT X
  rcases hr T hT X with ⟨v, st₀, t, T', L, h0, X', hL, e1, e2, ⟨⟨r, u, hv, hp, hb⟩, hF⟩, st⟩ | ⟨q, st₀, t, T', L, E, ce, h0, X', hL, e1, e2, ⟨u, hp, hb, hF⟩, hce, hcv, hcl, st⟩
  · cases hv
    obtain ⟨k1, k2, k3⟩ := vx_keep h0 e1 hS hA hf hL hF
    obtain ⟨t2, a1, b1⟩ := kk r u t T'.heap (locs ++ L) e1.symm (by rw [← e2]; exact X'.warmed.alike) hp hb k1 k2 k3 T' rfl X'
    exact ⟨t2, st t2 a1, b1⟩
  · obtain ⟨k1, k2, k3⟩ := vx_keep h0 e1 hS hAX hf hL hF
    obtain ⟨t2, a1, b1⟩ := kx E ce q u t T'.heap (locs ++ L) e1.symm (by rw [← e2]; exact X'.warmed.alike) hp hb k1 k2 k3 (by rw [e1]; exact hce) hcv hcl T' rfl X'
    exact ⟨t2, st.trans a1, b1⟩
theorem vx_callf {S SX : Type} {post : UInt32 → S → Prop} {px : SX → Prop} {B : S → State → Prop} {BX : String → SX → State → Prop} {AX : Nat → Prop} (hr : vx_Run p l e R s m args below meth c H locs cells slots mc ms (F0 m pc ls st0) rest (va_Qf post B A1 a) (vx_X px BX AX) free) (hS : va_S A0 H0 H locs) (hA : ∀ q, q < H.size → A1 q → A0 q) (hf : ∀ q, free q → A0 q) (hAX : ∀ q, q < H.size → AX q → A0 q)
    (kx : ∀ (E : String) (ce : Cell) (q9 : Addr) (u : SX) (t : State) (H1 : Heap) (locs1 : List Loc), t.heap = H1 → s.vm.Alike t.vm → px u → BX E u t → H.size ≤ H1.size → (∀ q : Nat, q < H.size → ¬ AX q → H1[q]? = H[q]?) → va_S A0 H0 H1 locs1 → H1[q9]? = some ce → ce.vm = .none → s.vm.findClass E = some ce.cls → vx_W p l e R s m args below meth c H1 locs1 (cells + mc) (slots + ms) Q (F0 m pc ls rest) q9)
    (kk : ∀ (r : UInt32) (u : S) (t : State) (H1 : Heap) (locs1 : List Loc), t.heap = H1 → s.vm.Alike t.vm → post r u → B u t → H.size ≤ H1.size → (∀ q : Nat, q < H.size → ¬ A1 q → H1[q]? = H[q]?) → va_S A0 H0 H1 locs1 → W p l e R s m args below meth c H1 locs1 (cells + mc) (slots + ms) Q (F0 m (pc + 3) ls (.float r :: rest))) : W p l e R s m args below meth c H locs cells slots Q (F0 m pc ls st0) := by
  intro T hT X
  rcases hr T hT X with ⟨v, st₀, t, T', L, h0, X', hL, e1, e2, ⟨⟨r, u, hv, hp, hb⟩, hF⟩, st⟩ | ⟨q, st₀, t, T', L, E, ce, h0, X', hL, e1, e2, ⟨u, hp, hb, hF⟩, hce, hcv, hcl, st⟩
  · cases hv
    obtain ⟨k1, k2, k3⟩ := vx_keep h0 e1 hS hA hf hL hF
    obtain ⟨t2, a1, b1⟩ := kk r u t T'.heap (locs ++ L) e1.symm (by rw [← e2]; exact X'.warmed.alike) hp hb k1 k2 k3 T' rfl X'
    exact ⟨t2, st t2 a1, b1⟩
  · obtain ⟨k1, k2, k3⟩ := vx_keep h0 e1 hS hAX hf hL hF
    obtain ⟨t2, a1, b1⟩ := kx E ce q u t T'.heap (locs ++ L) e1.symm (by rw [← e2]; exact X'.warmed.alike) hp hb k1 k2 k3 (by rw [e1]; exact hce) hcv hcl T' rfl X'
    exact ⟨t2, st.trans a1, b1⟩
theorem vx_calld {S SX : Type} {post : UInt64 → S → Prop} {px : SX → Prop} {B : S → State → Prop} {BX : String → SX → State → Prop} {AX : Nat → Prop} (hr : vx_Run p l e R s m args below meth c H locs cells slots mc ms (F0 m pc ls st0) rest (va_Qd post B A1 a) (vx_X px BX AX) free) (hS : va_S A0 H0 H locs) (hA : ∀ q, q < H.size → A1 q → A0 q) (hf : ∀ q, free q → A0 q) (hAX : ∀ q, q < H.size → AX q → A0 q)
    (kx : ∀ (E : String) (ce : Cell) (q9 : Addr) (u : SX) (t : State) (H1 : Heap) (locs1 : List Loc), t.heap = H1 → s.vm.Alike t.vm → px u → BX E u t → H.size ≤ H1.size → (∀ q : Nat, q < H.size → ¬ AX q → H1[q]? = H[q]?) → va_S A0 H0 H1 locs1 → H1[q9]? = some ce → ce.vm = .none → s.vm.findClass E = some ce.cls → vx_W p l e R s m args below meth c H1 locs1 (cells + mc) (slots + ms) Q (F0 m pc ls rest) q9)
    (kk : ∀ (r : UInt64) (u : S) (t : State) (H1 : Heap) (locs1 : List Loc), t.heap = H1 → s.vm.Alike t.vm → post r u → B u t → H.size ≤ H1.size → (∀ q : Nat, q < H.size → ¬ A1 q → H1[q]? = H[q]?) → va_S A0 H0 H1 locs1 → W p l e R s m args below meth c H1 locs1 (cells + mc) (slots + ms) Q (F0 m (pc + 3) ls (.double r :: rest))) : W p l e R s m args below meth c H locs cells slots Q (F0 m pc ls st0) := by
  intro T hT X
  rcases hr T hT X with ⟨v, st₀, t, T', L, h0, X', hL, e1, e2, ⟨⟨r, u, hv, hp, hb⟩, hF⟩, st⟩ | ⟨q, st₀, t, T', L, E, ce, h0, X', hL, e1, e2, ⟨u, hp, hb, hF⟩, hce, hcv, hcl, st⟩
  · cases hv
    obtain ⟨k1, k2, k3⟩ := vx_keep h0 e1 hS hA hf hL hF
    obtain ⟨t2, a1, b1⟩ := kk r u t T'.heap (locs ++ L) e1.symm (by rw [← e2]; exact X'.warmed.alike) hp hb k1 k2 k3 T' rfl X'
    exact ⟨t2, st t2 a1, b1⟩
  · obtain ⟨k1, k2, k3⟩ := vx_keep h0 e1 hS hAX hf hL hF
    obtain ⟨t2, a1, b1⟩ := kx E ce q u t T'.heap (locs ++ L) e1.symm (by rw [← e2]; exact X'.warmed.alike) hp hb k1 k2 k3 (by rw [e1]; exact hce) hcv hcl T' rfl X'
    exact ⟨t2, st.trans a1, b1⟩
theorem vx_callv {S SX : Type} {post : S → Prop} {px : SX → Prop} {B : S → State → Prop} {BX : String → SX → State → Prop} {AX : Nat → Prop} (hr : vx_Run p l e R s m args below meth c H locs cells slots mc ms (F0 m pc ls st0) rest (va_Qv post B A1 a) (vx_X px BX AX) free) (hS : va_S A0 H0 H locs) (hA : ∀ q, q < H.size → A1 q → A0 q) (hf : ∀ q, free q → A0 q) (hAX : ∀ q, q < H.size → AX q → A0 q)
    (kx : ∀ (E : String) (ce : Cell) (q9 : Addr) (u : SX) (t : State) (H1 : Heap) (locs1 : List Loc), t.heap = H1 → s.vm.Alike t.vm → px u → BX E u t → H.size ≤ H1.size → (∀ q : Nat, q < H.size → ¬ AX q → H1[q]? = H[q]?) → va_S A0 H0 H1 locs1 → H1[q9]? = some ce → ce.vm = .none → s.vm.findClass E = some ce.cls → vx_W p l e R s m args below meth c H1 locs1 (cells + mc) (slots + ms) Q (F0 m pc ls rest) q9)
    (kk : ∀ (u : S) (t : State) (H1 : Heap) (locs1 : List Loc), t.heap = H1 → s.vm.Alike t.vm → post u → B u t → H.size ≤ H1.size → (∀ q : Nat, q < H.size → ¬ A1 q → H1[q]? = H[q]?) → va_S A0 H0 H1 locs1 → W p l e R s m args below meth c H1 locs1 (cells + mc) (slots + ms) Q (F0 m (pc + 3) ls (rest))) : W p l e R s m args below meth c H locs cells slots Q (F0 m pc ls st0) := by
  intro T hT X
  rcases hr T hT X with ⟨v, st₀, t, T', L, h0, X', hL, e1, e2, ⟨⟨u, hv, hp, hb⟩, hF⟩, st⟩ | ⟨q, st₀, t, T', L, E, ce, h0, X', hL, e1, e2, ⟨u, hp, hb, hF⟩, hce, hcv, hcl, st⟩
  · cases hv
    obtain ⟨k1, k2, k3⟩ := vx_keep h0 e1 hS hA hf hL hF
    obtain ⟨t2, a1, b1⟩ := kk u t T'.heap (locs ++ L) e1.symm (by rw [← e2]; exact X'.warmed.alike) hp hb k1 k2 k3 T' rfl X'
    exact ⟨t2, st t2 a1, b1⟩
  · obtain ⟨k1, k2, k3⟩ := vx_keep h0 e1 hS hAX hf hL hF
    obtain ⟨t2, a1, b1⟩ := kx E ce q u t T'.heap (locs ++ L) e1.symm (by rw [← e2]; exact X'.warmed.alike) hp hb k1 k2 k3 (by rw [e1]; exact hce) hcv hcl T' rfl X'
    exact ⟨t2, st.trans a1, b1⟩
end Rows
section Ends
variable {p : Program} {l : Launch} {e : Env} {R : Room} {s : State} {m : MethodId} {args : Array Value} {below : List Frame} {meth : Method} {c : Code} {H : Heap} {locs : List Loc} {cells slots : Nat} {Q : State → Prop}
variable {mc ms : Nat} {free : Addr → Prop} {A0 A1 : Nat → Prop} {H0 : Heap} {a : Array Value} {ls : Array Slot} {st0 rest : List Value}
variable {Qc : Array Value → State → Outcome → State → Prop} {XC : String → State → State → Prop}
/-- what a body that may throw owes at its end -/
def vx_MQ (below : List Frame) (Qc : Array Value → State → Outcome → State → Prop) (XC : String → State → State → Prop) (a : Array Value) (s : State) (mc ms : Nat) (free : Addr → Prop) : State → Prop := fun t =>
  ∃ o, t.status = .running ∧ Ended t below o ∧ vx_Q Qc XC mc ms free a s o t
theorem vx_ret {g : JFrame} {mc ms : Nat} (k : W p l e R s m args below meth c H locs cells slots (MQ below Qc args s mc ms free) g) : W p l e R s m args below meth c H locs cells slots (vx_MQ below Qc XC args s mc ms free) g := by
  intro T hT X
  obtain ⟨t, a1, o, b1, b2, b3, b4⟩ := k T hT X
  exact ⟨t, a1, o, b1, b2, Or.inl ⟨b3, b4⟩⟩
/-- not caught here: it goes on to the caller -/
theorem vx_widen {g : JFrame} {q : Addr} {k n : Nat} (h1 : cells ≤ k) (h2 : slots ≤ n) (kk : vx_W p l e R s m args below meth c H locs k n Q g q) : vx_W p l e R s m args below meth c H locs cells slots Q g q := fun T hT X => kk T hT (stand_widen X h1 h2)
theorem vx_out {pc : Nat} {E : String} {ce : Cell} {q : Addr} {mc ms : Nat} (hout : ∀ x ∈ c.exceptionTable.toList, covers x pc = false) (hlocks : meth.locks = false) (hcell : H[q]? = some ce) (hv : ce.vm = .none) (hcl : s.vm.findClass E = some ce.cls)
    (hx : ∀ t : State, t.heap = H → s.vm.Alike t.vm → XC E s t) (hf : ∀ z ∈ locs, free z.base) (hc : cells ≤ mc) (hs : slots ≤ ms) :
    vx_W p l e R s m args below meth c H locs cells slots (vx_MQ below Qc XC args s mc ms free) (F0 m pc ls rest) q := by
  intro T hT X
  obtain ⟨st1, hrun, hend, hW, hsm⟩ := X.leaveThrown q (g := F0 m pc ls rest) rfl rfl rfl hout hlocks
  have hcell9 : (T.setFrames (.throwing q :: below)).heap[q]? = some ce := by
    show T.heap[q]? = some ce
    rw [hT]; exact hcell
  exact ⟨_, st1, .threw q, hrun, hend, Or.inr ⟨q, rfl, E, ce, locs, hx _ hT hW.alike, hcell9, hv, hcl, hW, hsm.mono hc hs, hf⟩⟩
theorem vx_frame {U : State} {k n : Nat} (h : s.sameButNew ({ U with vm := s.vm } : State) locs k n) : s.heap.size ≤ U.heap.size ∧ ∀ q : Nat, q < s.heap.size → (∀ z ∈ locs, z.base ≠ q) → U.heap[q]? = s.heap[q]? := by
  obtain ⟨-, h2, -, -, -, h6⟩ := h
  refine ⟨h2, fun q hq hz => ?_⟩
  obtain ⟨c9, e1, e2, e3, e4⟩ := h6 q _ (Array.getElem?_eq_getElem hq)
  have hs : c9.slots = (s.heap[q]).slots := Array.ext_getElem? fun i => e4 i fun hm => hz _ hm rfl
  have h9 : c9 = s.heap[q] := by
    rw [hs] at e2
    exact e2
  have e5 : U.heap[q]? = some c9 := e1
  rw [e5, h9, Array.getElem?_eq_getElem hq]
/-- the words of a throw but the four that speak of the heap -/
def vx_no (w : Cond) : Bool := decide (w ≠ .isRef (.static Bundle.tN "UNASSIGNED_STACK" Bundle.steD)) && decide (w ≠ .isRef (.static Bundle.tN "SUPPRESSED_SENTINEL" Bundle.listD)) && decide (w ≠ .laysStatic Bundle.tN "UNASSIGNED_STACK" Bundle.steD) && decide (w ≠ .laysStatic Bundle.tN "SUPPRESSED_SENTINEL" Bundle.listD)
def vx_at0 (own : String) (ic : Nat) (X : String) (names : List String) : List Cond := (Bundle.ownAtoms0 own ic X names).filter vx_no
def vx_atS (own : String) (ic : Nat) (X : String) (names : List String) : List Cond := (Bundle.ownAtoms own ic X names).filter vx_no
/-- a word that the tables alone decide, or a good one -/
def vx_ot (w : Cond) : Bool := w.onTables || goodWord w
theorem vx_ot_at {args a' : Array Value} {s U : State} {w : Cond} (hW : s.WarmedH U.vm) (hvm : s.vm = U.vm) (hg : vx_ot w = true) (h : w.before args s = true) : w.before a' U = true := by
  simp only [vx_ot, Bool.or_eq_true] at hg
  rcases hg with hg | hg
  · exact va_tabs hg hvm h
  · exact word_at hW (good_of_word hg) h
/-- a list's words: the good ones out of the method's own list, the others by premises of their own -/
theorem vx_hat {args : Array Value} {s : State} {L B : List Cond} (h1 : ∀ w ∈ L.filter goodWord, w.before args s = true) (h2 : ∀ w ∈ L.filter (fun w => !goodWord w), w ∈ B) (h3 : ∀ w ∈ B, w.before args s = true) : ∀ w ∈ L, w.before args s = true := by
  intro w hw
  by_cases g : goodWord w = true
  · exact h1 w (List.mem_filter.mpr ⟨hw, g⟩)
  · refine h3 w (h2 w (List.mem_filter.mpr ⟨hw, ?_⟩))
    show (!goodWord w) = true
    cases hgw : goodWord w
    · rfl
    · exact absurd hgw g
theorem vx_c {args : Array Value} {s : State} {w : Cond} {B : List Cond} (h : w.before args s = true) (t : ∀ w ∈ B, w.before args s = true) : ∀ w' ∈ w :: B, w'.before args s = true := fun w' h' => (List.mem_cons.mp h').elim (fun e => by rw [e]; exact h) (t w')
theorem vx_n {args : Array Value} {s : State} : ∀ w ∈ ([] : List Cond), w.before args s = true := fun _ h => nomatch h
theorem vx_own {args : Array Value} {s : State} {L : List Cond} (h1 : ∀ w ∈ L.filter vx_no, w.before args s = true)
    (hU : (Cond.isRef (.static Bundle.tN "UNASSIGNED_STACK" Bundle.steD)).before args s = true) (hN : (Cond.isRef (.static Bundle.tN "SUPPRESSED_SENTINEL" Bundle.listD)).before args s = true)
    (lU : (Cond.laysStatic Bundle.tN "UNASSIGNED_STACK" Bundle.steD).before args s = true) (lN : (Cond.laysStatic Bundle.tN "SUPPRESSED_SENTINEL" Bundle.listD).before args s = true) : ∀ w ∈ L, w.before args s = true := by
  intro w hw
  by_cases e1 : w = .isRef (.static Bundle.tN "UNASSIGNED_STACK" Bundle.steD)
  · rw [e1]; exact hU
  · by_cases e2 : w = .isRef (.static Bundle.tN "SUPPRESSED_SENTINEL" Bundle.listD)
    · rw [e2]; exact hN
    · by_cases e3 : w = .laysStatic Bundle.tN "UNASSIGNED_STACK" Bundle.steD
      · rw [e3]; exact lU
      · by_cases e4 : w = .laysStatic Bundle.tN "SUPPRESSED_SENTINEL" Bundle.listD
        · rw [e4]; exact lN
        · exact h1 w (List.mem_filter.mpr ⟨hw, by unfold vx_no; rw [decide_eq_true e1, decide_eq_true e2, decide_eq_true e3, decide_eq_true e4]; rfl⟩)
/-- where a static field lies, its class's statics cell in H -/
def vx_L (C n d : String) (A : Nat → Prop) (U : State) (H : Heap) : Prop := ∃ (c : ClassId) (k : Class) (i : Nat) (f : Field) (a : Nat) (cell : Cell), U.vm.findClass C = some c ∧ U.fieldFound? C n d = some (c, k, i, f) ∧ f.isStatic = true ∧ k.statics = some a ∧ H[a]? = some cell ∧ cell.vm.isStatics = true ∧ cell.cls = c ∧ f.slot < cell.slots.size ∧ k.staticTypes[f.slot]? = some f.type ∧ ¬ A a
theorem vx_L.moved {C n d : String} {A : Nat → Prop} {u U : State} {H : Heap} (hvm : u.vm.Alike U.vm) (h : vx_L C n d A u H) : vx_L C n d A U H := by
  obtain ⟨c, k, i, f, a, cell, h1, h2, h3, h4, h5, h6, h7, h8, h9, h10⟩ := h
  obtain ⟨k', hi', he⟩ := State.fieldFound?_setVm hvm h2
  exact ⟨c, k', i, f, a, cell, by rw [hvm.findClass]; exact h1, hi', h3, by rw [he]; exact h4, h5, h6, h7, h8, by rw [he]; exact h9, h10⟩
theorem vx_L.kept {C n d : String} {A : Nat → Prop} {U : State} {H H1 : Heap} (h : vx_L C n d A U H) (hq : ∀ a : Nat, a < H.size → ¬ A a → H1[a]? = H[a]?) : vx_L C n d A U H1 := by
  obtain ⟨c, k, i, f, a, cell, h1, h2, h3, h4, h5, h6, h7, h8, h9, h10⟩ := h
  exact ⟨c, k, i, f, a, cell, h1, h2, h3, h4, by rw [hq a (Array.getElem?_eq_some_iff.mp h5).1 h10]; exact h5, h6, h7, h8, h9, h10⟩
theorem vx_L.narrow {C n d : String} {A B : Nat → Prop} {U : State} {H : Heap} (h : vx_L C n d A U H) (hAB : ∀ q, B q → A q) : vx_L C n d B U H := by
  obtain ⟨c, k, i, f, a, cell, h1, h2, h3, h4, h5, h6, h7, h8, h9, h10⟩ := h
  exact ⟨c, k, i, f, a, cell, h1, h2, h3, h4, h5, h6, h7, h8, h9, fun z => h10 (hAB _ z)⟩
theorem vx_L.word {C n d : String} {A : Nat → Prop} {s : State} {args : Array Value} (h : vx_L C n d A s s.heap) : (Cond.laysStatic C n d).before args s = true := by
  obtain ⟨c, k, i, f, a, cell, h1, h2, h3, h4, h5, h6, h7, h8, h9, -⟩ := h
  show (Cond.laysStatic C n d).holds args s none s [] = true
  exact Cond.laysStatic_of h1 h2 h3 h4 h5 h6 h7 h8 h9
/-- .. and what it holds: null or some reference -/
def vx_Zq (C n d : String) (A : Nat → Prop) (U : State) (H : Heap) : Prop := va_Zq C n d A U H ∧ vx_L C n d A U H
theorem vx_Zq.moved {C n d : String} {A : Nat → Prop} {u U : State} {H : Heap} (hvm : u.vm.Alike U.vm) (h : vx_Zq C n d A u H) : vx_Zq C n d A U H := ⟨va_Zq.moved hvm h.1, vx_L.moved hvm h.2⟩
theorem vx_Zq.kept {C n d : String} {A : Nat → Prop} {U : State} {H H1 : Heap} (h : vx_Zq C n d A U H) (hq : ∀ a : Nat, a < H.size → ¬ A a → H1[a]? = H[a]?) : vx_Zq C n d A U H1 := ⟨va_Zq.kept h.1 hq, vx_L.kept h.2 hq⟩
theorem vx_Zq.narrow {C n d : String} {A B : Nat → Prop} {U : State} {H : Heap} (h : vx_Zq C n d A U H) (hAB : ∀ q, B q → A q) : vx_Zq C n d B U H := ⟨va_Zq.narrow h.1 hAB, vx_L.narrow h.2 hAB⟩
theorem vx_Zqof {args : Array Value} {s : State} {C n d : String} {A : Nat → Prop} (hl : (Cond.laysStatic C n d).before args s = true) (hini : (Cond.initialized C).before args s = true) (h : (Cond.isRef (.static C n d)).before args s = true) (hA : ∀ a : Nat, a < s.heap.size → ¬ A a) : vx_Zq C n d A s s.heap := by
  refine ⟨va_Zqof hl hini h hA, ?_⟩
  obtain ⟨c, k, i, f, a, cell, h1, h2, h3, h4, h5, h6, h7, h8, h9⟩ := Cond.laysStatic_spec hl
  exact ⟨c, k, i, f, a, cell, h1, h2, h3, h4, h5, h6, h7, h8, h9, hA a (Array.getElem?_eq_some_iff.mp h5).1⟩
theorem vx_isRef {C n d : String} {v : Value} {A : Nat → Prop} {s : State} {args : Array Value} (h : va_Z C n d v A s s.heap) (hv : v.isRef = true) : (Cond.isRef (.static C n d)).before args s = true := by
  obtain ⟨cf, kf, fi, f, a, cell, h1, h2, h3, h4, h5, h6, h7, -⟩ := h
  have he : (Term.static C n d).eval args s none [] s = some v := by
    simp [Term.eval, State.fieldNamed?, h1, h2, h4, h5, h6, h7]
  simp only [Cond.before, Cond.holds, Cond.value, he]
  cases v <;> simp_all [Value.isRef]
theorem vx_isRefq {C n d : String} {A : Nat → Prop} {s : State} {args : Array Value} (h : va_Zq C n d A s s.heap) : (Cond.isRef (.static C n d)).before args s = true := by
  rcases h with h | ⟨t, h⟩
  · exact vx_isRef h rfl
  · exact vx_isRef h rfl
/-- the same frame, seen from here: as if the method were called anew in this heap -/
theorem vx_rebase {T : State} (X : Stand p l e R s m args below meth c T locs cells slots) {R' : Room} (hf : R'.frames ≤ R.frames) (hl : R'.locals ≤ R.locals) (hc : cells + R'.cells ≤ R.cells) (hs : slots + R'.slots ≤ R.slots) :
    Stand p l e R' ((T.setVm s.vm).setFrames (.invoking m args :: below)) m args below meth c T [] 0 0 := by
  have htop : (T.setVm s.vm).topJava?.isSome := X.here.top
  have hF : ((T.setVm s.vm).setFrames (.invoking m args :: below)).frames = .invoking m args :: below := State.frames_setFrames _ (State.cur_lt_of_top htop)
  obtain ⟨g₀, hg0⟩ := Option.isSome_iff_exists.mp htop
  obtain ⟨r, hr⟩ := State.topJava?_eq_some.mp hg0
  have hl9 : e.platform.stackLimits (T.setVm s.vm).me = e.platform.stackLimits s.me := X.limits
  have hb9 : (T.setVm s.vm).me.stackBytes = s.me.stackBytes := X.bytes
  refine ⟨X.admits, X.cas, X.clock, hF, ?_, X.hears, X.method, X.code, X.here, X.tail, X.warmed, ?_, ?_, ?_⟩
  · have h := X.room
    have hU : ((T.setVm s.vm).setFrames (.invoking m args :: below)).localsInUse = s.localsInUse := by
      rw [State.localsInUse_invoking hF (meth := meth) (c := c) X.method X.code, State.localsInUse_invoking X.frames X.method X.code]
    simp only [State.hasRoom, Bool.and_eq_true, decide_eq_true_eq] at h ⊢
    obtain ⟨⟨⟨⟨h1, h2, h3, h4, h5, h6⟩, h7⟩, h8⟩, h9⟩ := h
    rw [X.frames, List.length_cons] at h2 h3
    have q1 := X.heapSize
    have q2 := X.used
    simp only [hF, hU, List.length_cons, State.stackLimits_setFrames, State.stackBytes_setFrames, hl9, hb9]
    refine ⟨⟨⟨⟨by omega, by omega, by omega, by omega, by omega, h6⟩, ?_⟩, ?_⟩, X.book⟩
    · show T.heap.size + R'.cells ≤ e.platform.maxCells
      omega
    · show T.slotsUsed + R'.slots ≤ e.platform.maxSlots
      omega
  · rw [State.stackLimits_setFrames]; rfl
  · rw [State.stackBytes_setFrames]; rfl
  · refine ⟨?_, Nat.le_refl _, Nat.le_refl _, ?_, ?_, fun a c9 h9 => ⟨c9, h9, rfl, rfl, fun _ _ => rfl⟩⟩
    · obtain ⟨t, ht, -⟩ := State.frames_cons hr
      show T.setVm s.vm = { ((T.setVm s.vm).setFrames (.invoking m args :: below)).setFrames (T.setVm s.vm).frames with heap := T.heap, slotsUsed := T.slotsUsed }
      rw [State.setFrames_setFrames, State.setFrames_self ht]
      rfl
    · show T.slotsUsed = T.slotsUsed + ((T.heap.toList.drop T.heap.size).map (·.slots.size)).sum
      rw [List.drop_eq_nil_of_le (Nat.le_of_eq Array.length_toList)]
      rfl
    · show ((T.heap.toList.drop T.heap.size).map (·.slots.size)).sum ≤ 0
      rw [List.drop_eq_nil_of_le (Nat.le_of_eq Array.length_toList)]
      exact Nat.le_refl _
/-- 'throw new E()': new; dup; invokespecial; athrow -/
theorem vx_throw0 {cc : ByteArray} {pc : Nat} (hexec : p.tables.exec = Jvm.exec) (hb : c.code = cc) (hl : l.stackTraces = false) {own cls : String} {names : List String} {ik ic mc ms : Nat} {A : Nat → Prop}
    (hown : s.vm.findClass own = some m.cls) (hcls : Bundle.fit cls = true) (hnames : ∀ n ∈ names, Bundle.fit n = true)
    (hk : (Cond.classLink own ik cls).before args s = true) (hini : (Cond.initialized cls).before args s = true) (hat : ∀ w ∈ vx_at0 own ic cls names, w.before args s = true)
    (hgood : ∀ w ∈ Cond.classLink own ik cls :: Cond.initialized cls :: vx_at0 own ic cls names, vx_ot w = true)
    (hU : vx_Zq Bundle.tN "UNASSIGNED_STACK" Bundle.steD A s s.heap) (hN : vx_Zq Bundle.tN "SUPPRESSED_SENTINEL" Bundle.listD A s s.heap) (hS : va_S A s.heap H locs) (hsize : ls.size = c.maxLocals)
    (d0 : decode cc pc = .ok (.new ik, 3)) (d3 : decode cc (pc + 3) = .ok (.dup, 1)) (d4 : decode cc (pc + 4) = .ok (.invokespecial ic, 3)) (d7 : decode cc (pc + 7) = .ok (.athrow, 1))
    (hout : ∀ x ∈ c.exceptionTable.toList, covers x (pc + 7) = false)
    (hRframes : names.length + 3 < R.frames) (hRlocals : (rest.map fun v => v.category).sum + (13 * (names.length + 1) + 42) ≤ R.locals) (hRcells : cells + 1 ≤ R.cells) (hRslots : slots + 6 ≤ R.slots) (hlocks : meth.locks = false)
    (hx : ∀ t : State, s.vm.Alike t.vm → H.size ≤ t.heap.size → (∀ q : Nat, q < H.size → t.heap[q]? = H[q]?) → XC cls s t)
    (hf : ∀ z ∈ locs, free z.base) (hc : cells + 1 ≤ mc) (hs : slots + 6 ≤ ms) :
    W p l e R s m args below meth c H locs cells slots (vx_MQ below Qc XC args s mc ms free) (F0 m pc ls rest) := by
  intro T hT X
  have htr : e.platform.stackTraces = false := (show e.platform.stackTraces = l.stackTraces by rw [X.admits.platform]).trans hl
  have Y := vx_rebase X (R' := { frames := R.frames, locals := R.locals, cells := 1, slots := 6 }) (Nat.le_refl _) (Nat.le_refl _) hRcells hRslots
  obtain ⟨s', hA⟩ : ∃ z, z = (T.setVm s.vm).setFrames (.invoking m args :: below) := ⟨_, rfl⟩
  rw [← hA] at Y
  have hvm : s'.vm = s.vm := by rw [hA]; rfl
  have hhp : s'.heap = H := by rw [hA]; exact hT
  have hW0 : s.WarmedH s'.vm := by rw [hvm]; exact State.WarmedH.refl s
  have hat' : ∀ w ∈ vx_at0 own ic cls names, w.before args s' = true := fun w hw => vx_ot_at hW0 hvm.symm (hgood w (List.mem_cons_of_mem _ (List.mem_cons_of_mem _ hw))) (hat w hw)
  have hk' : (Cond.classLink own ik cls).before args s' = true := vx_ot_at hW0 hvm.symm (hgood _ List.mem_cons_self) hk
  have hini' : (Cond.initialized cls).before args s' = true := vx_ot_at hW0 hvm.symm (hgood _ (List.mem_cons_of_mem _ List.mem_cons_self)) hini
  have hU' : vx_Zq Bundle.tN "UNASSIGNED_STACK" Bundle.steD A s' s'.heap := by rw [hhp]; exact vx_Zq.moved hW0.alike (hU.kept hS.2.1)
  have hN' : vx_Zq Bundle.tN "SUPPRESSED_SENTINEL" Bundle.listD A s' s'.heap := by rw [hhp]; exact vx_Zq.moved hW0.alike (hN.kept hS.2.1)
  have h : ∀ w ∈ Bundle.ownAtoms0 own ic cls names, w.before args s' = true := vx_own hat' (vx_isRefq hU'.1) (vx_isRefq hN'.1) hU'.2.word hN'.2.word
  have hown' : s'.vm.findClass own = some m.cls := by rw [hvm]; exact hown
  have hins : (Cond.instantiable cls 6).before args s' = true := h _ (by simp [Bundle.ownAtoms0])
  obtain ⟨vm₁, cX, kX, hfX, hkX, -, -, X₁, st1⟩ := Y.newCold hexec (own := own) (C := cls) (index := ik) (n := 6) hown' hk' hins hini'
    (g := F0 m pc ls rest) rfl (by rw [hb]; exact d0) (Nat.le_refl _) (Nat.le_refl _)
  generalize hT1 : (T.setVm vm₁).pushCell { cls := cX, slots := kX.instanceTypes.map defaultValue, vm := .none } = T1 at X₁ st1
  have hcat : (Value.ref T.heap.size).category = 1 := rfl
  have hcellA : T1.heap[T.heap.size]? = some (freshCell cX kX) := by rw [← hT1]; exact State.heap_pushCell_size _ _
  have d3' : decode c.code (pc + 3) = .ok (.dup, 1) := by rw [hb]; exact d3
  obtain ⟨U, hsteps, hrun, hend, hW, hsame, ce, hce, hO⟩ := X₁.ctorThrow0 hexec htr (own := own) (cls := cls) (names := names) (ic := ic) hown' hcls hnames h (fun x hx => nomatch hx) hfX hkX hcellA (by rw [hhp, hT]; exact Nat.le_refl _)
    (g := { method := m, pc := pc + 4, locals := ls, stack := .ref T.heap.size :: .ref T.heap.size :: rest, locked := none }) rfl hsize rfl rfl (rest := rest) rfl
    (by rw [hb]; exact d4) (by rw [hb]; exact d7) hout hRframes (by simp only [List.map_cons, List.sum_cons, hcat]; omega) hlocks
  obtain ⟨f1, f2⟩ := vx_frame hsame
  rw [hhp] at f1 f2
  have hWs : s.WarmedH U.vm := State.WarmedH.trans hW0 hW
  have hcl : s.vm.findClass cls = some ce.cls := by
    have h9 := hO.cls
    rw [hvm] at h9
    exact h9
  have hall : s.sameButNew ({ U with vm := s.vm } : State) locs mc ms := by
    subst hA
    obtain ⟨e1, e2⟩ := hsame
    rw [State.setFrames_setFrames] at e1
    have h2 : (T.setVm s.vm).sameButNew ({ U with vm := s.vm } : State) [] (0 + 1) (0 + 6) := ⟨e1, e2⟩
    have h3 := X.same.trans h2
    rw [List.append_nil] at h3
    exact h3.mono hc hs
  refine ⟨U, ?_, .threw T.heap.size, hrun, hend, Or.inr ⟨T.heap.size, rfl, cls, ce, locs, hx U hWs.alike f1 (fun q hq => f2 q hq (fun z hz => nomatch hz)), hce, hO.vm, hcl, hWs, hall, hf⟩⟩
  refine st1 _ ?_
  show Steps p.tables e below (T1.setTop { method := m, pc := pc + 3, locals := ls, stack := .ref T.heap.size :: rest, locked := none }) _
  jvm_step X₁.here [X₁.here.top, hexec, d3', Value.category]
  exact hsteps
/-- 'throw new E("text")': new; dup; ldc; invokespecial; athrow -/
theorem vx_throwS {cc : ByteArray} {pc : Nat} (hexec : p.tables.exec = Jvm.exec) (hb : c.code = cc) (hl : l.stackTraces = false) {own cls text : String} {names : List String} {ik is ic mc ms sa : Nat} {A : Nat → Prop}
    (hown : s.vm.findClass own = some m.cls) (hcls : Bundle.fit cls = true) (hnames : ∀ n ∈ names, Bundle.fit n = true)
    (hk : (Cond.classLink own ik cls).before args s = true) (hini : (Cond.initialized cls).before args s = true) (hstr : vk_R own is text sa s) (hat : ∀ w ∈ vx_atS own ic cls names, w.before args s = true)
    (hgood : ∀ w ∈ Cond.classLink own ik cls :: Cond.initialized cls :: vx_atS own ic cls names, vx_ot w = true)
    (hU : vx_Zq Bundle.tN "UNASSIGNED_STACK" Bundle.steD A s s.heap) (hN : vx_Zq Bundle.tN "SUPPRESSED_SENTINEL" Bundle.listD A s s.heap) (hS : va_S A s.heap H locs) (hsize : ls.size = c.maxLocals)
    (d0 : decode cc pc = .ok (.new ik, 3)) (d3 : decode cc (pc + 3) = .ok (.dup, 1)) (d4 : decode cc (pc + 4) = .ok (.ldc is, 2)) (d6 : decode cc (pc + 6) = .ok (.invokespecial ic, 3)) (d9 : decode cc (pc + 9) = .ok (.athrow, 1))
    (hout : ∀ x ∈ c.exceptionTable.toList, covers x (pc + 9) = false)
    (hRframes : names.length + 3 < R.frames) (hRlocals : (rest.map fun v => v.category).sum + (13 * (names.length + 1) + 43) ≤ R.locals) (hRcells : cells + 1 ≤ R.cells) (hRslots : slots + 6 ≤ R.slots) (hlocks : meth.locks = false)
    (hx : ∀ t : State, s.vm.Alike t.vm → H.size ≤ t.heap.size → (∀ q : Nat, q < H.size → t.heap[q]? = H[q]?) → XC cls s t)
    (hf : ∀ z ∈ locs, free z.base) (hc : cells + 1 ≤ mc) (hs : slots + 6 ≤ ms) :
    W p l e R s m args below meth c H locs cells slots (vx_MQ below Qc XC args s mc ms free) (F0 m pc ls rest) := by
  intro T hT X
  have htr : e.platform.stackTraces = false := (show e.platform.stackTraces = l.stackTraces by rw [X.admits.platform]).trans hl
  have Y := vx_rebase X (R' := { frames := R.frames, locals := R.locals, cells := 1, slots := 6 }) (Nat.le_refl _) (Nat.le_refl _) hRcells hRslots
  obtain ⟨s', hA⟩ : ∃ z, z = (T.setVm s.vm).setFrames (.invoking m args :: below) := ⟨_, rfl⟩
  rw [← hA] at Y
  have hvm : s'.vm = s.vm := by rw [hA]; rfl
  have hhp : s'.heap = H := by rw [hA]; exact hT
  have hW0 : s.WarmedH s'.vm := by rw [hvm]; exact State.WarmedH.refl s
  have hat' : ∀ w ∈ vx_atS own ic cls names, w.before args s' = true := fun w hw => vx_ot_at hW0 hvm.symm (hgood w (List.mem_cons_of_mem _ (List.mem_cons_of_mem _ hw))) (hat w hw)
  have hk' : (Cond.classLink own ik cls).before args s' = true := vx_ot_at hW0 hvm.symm (hgood _ List.mem_cons_self) hk
  have hini' : (Cond.initialized cls).before args s' = true := vx_ot_at hW0 hvm.symm (hgood _ (List.mem_cons_of_mem _ List.mem_cons_self)) hini
  have hU' : vx_Zq Bundle.tN "UNASSIGNED_STACK" Bundle.steD A s' s'.heap := by rw [hhp]; exact vx_Zq.moved hW0.alike (hU.kept hS.2.1)
  have hN' : vx_Zq Bundle.tN "SUPPRESSED_SENTINEL" Bundle.listD A s' s'.heap := by rw [hhp]; exact vx_Zq.moved hW0.alike (hN.kept hS.2.1)
  have h : ∀ w ∈ Bundle.ownAtoms own ic cls names, w.before args s' = true := vx_own hat' (vx_isRefq hU'.1) (vx_isRefq hN'.1) hU'.2.word hN'.2.word
  have hown' : s'.vm.findClass own = some m.cls := by rw [hvm]; exact hown
  have hins : (Cond.instantiable cls 6).before args s' = true := h _ (by simp [Bundle.ownAtoms])
  obtain ⟨vm₁, cX, kX, hfX, hkX, -, -, X₁, st1⟩ := Y.newCold hexec (own := own) (C := cls) (index := ik) (n := 6) hown' hk' hins hini'
    (g := F0 m pc ls rest) rfl (by rw [hb]; exact d0) (Nat.le_refl _) (Nat.le_refl _)
  generalize hT1 : (T.setVm vm₁).pushCell { cls := cX, slots := kX.instanceTypes.map defaultValue, vm := .none } = T1 at X₁ st1
  have hcat : (Value.ref T.heap.size).category = 1 := rfl
  have hcellA : T1.heap[T.heap.size]? = some (freshCell cX kX) := by rw [← hT1]; exact State.heap_pushCell_size _ _
  have d3' : decode c.code (pc + 3) = .ok (.dup, 1) := by rw [hb]; exact d3
  have d4' : decode c.code (pc + 4) = .ok (.ldc is, 2) := by rw [hb]; exact d4
  have hstr' : vk_R own is text sa s' := vk_R.warm hW0 hstr
  obtain ⟨U, hsteps, hrun, hend, hW, hsame, ce, hce, hO⟩ := X₁.ctorThrowS hexec htr (own := own) (cls := cls) (names := names) (ic := ic) hown' hcls hnames h (fun x hx => nomatch hx) hfX hkX hcellA (by rw [hhp, hT]; exact Nat.le_refl _) (msg := .ref sa) rfl
    (g := { method := m, pc := pc + 6, locals := ls, stack := .ref sa :: .ref T.heap.size :: .ref T.heap.size :: rest, locked := none }) rfl hsize rfl rfl (rest := rest) rfl
    (by rw [hb]; exact d6) (by rw [hb]; exact d9) hout hRframes (by simp only [List.map_cons, List.sum_cons, hcat]; omega) hlocks
  obtain ⟨f1, f2⟩ := vx_frame hsame
  rw [hhp] at f1 f2
  have hWs : s.WarmedH U.vm := State.WarmedH.trans hW0 hW
  have hcl : s.vm.findClass cls = some ce.cls := by
    have h9 := hO.cls
    rw [hvm] at h9
    exact h9
  have hall : s.sameButNew ({ U with vm := s.vm } : State) locs mc ms := by
    subst hA
    obtain ⟨e1, e2⟩ := hsame
    rw [State.setFrames_setFrames] at e1
    have h2 : (T.setVm s.vm).sameButNew ({ U with vm := s.vm } : State) [] (0 + 1) (0 + 6) := ⟨e1, e2⟩
    have h3 := X.same.trans h2
    rw [List.append_nil] at h3
    exact h3.mono hc hs
  refine ⟨U, ?_, .threw T.heap.size, hrun, hend, Or.inr ⟨T.heap.size, rfl, cls, ce, locs, hx U hWs.alike f1 (fun q hq => f2 q hq (fun z hz => nomatch hz)), hce, hO.vm, hcl, hWs, hall, hf⟩⟩
  refine st1 _ ?_
  show Steps p.tables e below (T1.setTop { method := m, pc := pc + 3, locals := ls, stack := .ref T.heap.size :: rest, locked := none }) _
  jvm_step X₁.here [X₁.here.top, hexec, d3', Value.category]
  exact X₁.ldcString hexec (own := own) (text := text) (index := is) (a := sa) hown' hstr'.1 hstr'.2
    (g := { method := m, pc := pc + 4, locals := ls, stack := .ref T.heap.size :: .ref T.heap.size :: rest, locked := none }) rfl d4' _ hsteps
/-- 'throw new E("text")', the text by a wide index -/
theorem vx_throwSW {cc : ByteArray} {pc : Nat} (hexec : p.tables.exec = Jvm.exec) (hb : c.code = cc) (hl : l.stackTraces = false) {own cls text : String} {names : List String} {ik is ic mc ms sa : Nat} {A : Nat → Prop}
    (hown : s.vm.findClass own = some m.cls) (hcls : Bundle.fit cls = true) (hnames : ∀ n ∈ names, Bundle.fit n = true)
    (hk : (Cond.classLink own ik cls).before args s = true) (hini : (Cond.initialized cls).before args s = true) (hstr : vk_R own is text sa s) (hat : ∀ w ∈ vx_atS own ic cls names, w.before args s = true)
    (hgood : ∀ w ∈ Cond.classLink own ik cls :: Cond.initialized cls :: vx_atS own ic cls names, vx_ot w = true)
    (hU : vx_Zq Bundle.tN "UNASSIGNED_STACK" Bundle.steD A s s.heap) (hN : vx_Zq Bundle.tN "SUPPRESSED_SENTINEL" Bundle.listD A s s.heap) (hS : va_S A s.heap H locs) (hsize : ls.size = c.maxLocals)
    (d0 : decode cc pc = .ok (.new ik, 3)) (d3 : decode cc (pc + 3) = .ok (.dup, 1)) (d4 : decode cc (pc + 4) = .ok (.ldc_w is, 3)) (d7 : decode cc (pc + 7) = .ok (.invokespecial ic, 3)) (d10 : decode cc (pc + 10) = .ok (.athrow, 1))
    (hout : ∀ x ∈ c.exceptionTable.toList, covers x (pc + 10) = false)
    (hRframes : names.length + 3 < R.frames) (hRlocals : (rest.map fun v => v.category).sum + (13 * (names.length + 1) + 43) ≤ R.locals) (hRcells : cells + 1 ≤ R.cells) (hRslots : slots + 6 ≤ R.slots) (hlocks : meth.locks = false)
    (hx : ∀ t : State, s.vm.Alike t.vm → H.size ≤ t.heap.size → (∀ q : Nat, q < H.size → t.heap[q]? = H[q]?) → XC cls s t)
    (hf : ∀ z ∈ locs, free z.base) (hc : cells + 1 ≤ mc) (hs : slots + 6 ≤ ms) :
    W p l e R s m args below meth c H locs cells slots (vx_MQ below Qc XC args s mc ms free) (F0 m pc ls rest) := by
  intro T hT X
  have htr : e.platform.stackTraces = false := (show e.platform.stackTraces = l.stackTraces by rw [X.admits.platform]).trans hl
  have Y := vx_rebase X (R' := { frames := R.frames, locals := R.locals, cells := 1, slots := 6 }) (Nat.le_refl _) (Nat.le_refl _) hRcells hRslots
  obtain ⟨s', hA⟩ : ∃ z, z = (T.setVm s.vm).setFrames (.invoking m args :: below) := ⟨_, rfl⟩
  rw [← hA] at Y
  have hvm : s'.vm = s.vm := by rw [hA]; rfl
  have hhp : s'.heap = H := by rw [hA]; exact hT
  have hW0 : s.WarmedH s'.vm := by rw [hvm]; exact State.WarmedH.refl s
  have hat' : ∀ w ∈ vx_atS own ic cls names, w.before args s' = true := fun w hw => vx_ot_at hW0 hvm.symm (hgood w (List.mem_cons_of_mem _ (List.mem_cons_of_mem _ hw))) (hat w hw)
  have hk' : (Cond.classLink own ik cls).before args s' = true := vx_ot_at hW0 hvm.symm (hgood _ List.mem_cons_self) hk
  have hini' : (Cond.initialized cls).before args s' = true := vx_ot_at hW0 hvm.symm (hgood _ (List.mem_cons_of_mem _ List.mem_cons_self)) hini
  have hU' : vx_Zq Bundle.tN "UNASSIGNED_STACK" Bundle.steD A s' s'.heap := by rw [hhp]; exact vx_Zq.moved hW0.alike (hU.kept hS.2.1)
  have hN' : vx_Zq Bundle.tN "SUPPRESSED_SENTINEL" Bundle.listD A s' s'.heap := by rw [hhp]; exact vx_Zq.moved hW0.alike (hN.kept hS.2.1)
  have h : ∀ w ∈ Bundle.ownAtoms own ic cls names, w.before args s' = true := vx_own hat' (vx_isRefq hU'.1) (vx_isRefq hN'.1) hU'.2.word hN'.2.word
  have hown' : s'.vm.findClass own = some m.cls := by rw [hvm]; exact hown
  have hins : (Cond.instantiable cls 6).before args s' = true := h _ (by simp [Bundle.ownAtoms])
  obtain ⟨vm₁, cX, kX, hfX, hkX, -, -, X₁, st1⟩ := Y.newCold hexec (own := own) (C := cls) (index := ik) (n := 6) hown' hk' hins hini'
    (g := F0 m pc ls rest) rfl (by rw [hb]; exact d0) (Nat.le_refl _) (Nat.le_refl _)
  generalize hT1 : (T.setVm vm₁).pushCell { cls := cX, slots := kX.instanceTypes.map defaultValue, vm := .none } = T1 at X₁ st1
  have hcat : (Value.ref T.heap.size).category = 1 := rfl
  have hcellA : T1.heap[T.heap.size]? = some (freshCell cX kX) := by rw [← hT1]; exact State.heap_pushCell_size _ _
  have d3' : decode c.code (pc + 3) = .ok (.dup, 1) := by rw [hb]; exact d3
  have d4' : decode c.code (pc + 4) = .ok (.ldc_w is, 3) := by rw [hb]; exact d4
  have hstr' : vk_R own is text sa s' := vk_R.warm hW0 hstr
  obtain ⟨U, hsteps, hrun, hend, hW, hsame, ce, hce, hO⟩ := X₁.ctorThrowS hexec htr (own := own) (cls := cls) (names := names) (ic := ic) hown' hcls hnames h (fun x hx => nomatch hx) hfX hkX hcellA (by rw [hhp, hT]; exact Nat.le_refl _) (msg := .ref sa) rfl
    (g := { method := m, pc := pc + 7, locals := ls, stack := .ref sa :: .ref T.heap.size :: .ref T.heap.size :: rest, locked := none }) rfl hsize rfl rfl (rest := rest) rfl
    (by rw [hb]; exact d7) (by rw [hb]; exact d10) hout hRframes (by simp only [List.map_cons, List.sum_cons, hcat]; omega) hlocks
  obtain ⟨f1, f2⟩ := vx_frame hsame
  rw [hhp] at f1 f2
  have hWs : s.WarmedH U.vm := State.WarmedH.trans hW0 hW
  have hcl : s.vm.findClass cls = some ce.cls := by
    have h9 := hO.cls
    rw [hvm] at h9
    exact h9
  have hall : s.sameButNew ({ U with vm := s.vm } : State) locs mc ms := by
    subst hA
    obtain ⟨e1, e2⟩ := hsame
    rw [State.setFrames_setFrames] at e1
    have h2 : (T.setVm s.vm).sameButNew ({ U with vm := s.vm } : State) [] (0 + 1) (0 + 6) := ⟨e1, e2⟩
    have h3 := X.same.trans h2
    rw [List.append_nil] at h3
    exact h3.mono hc hs
  refine ⟨U, ?_, .threw T.heap.size, hrun, hend, Or.inr ⟨T.heap.size, rfl, cls, ce, locs, hx U hWs.alike f1 (fun q hq => f2 q hq (fun z hz => nomatch hz)), hce, hO.vm, hcl, hWs, hall, hf⟩⟩
  refine st1 _ ?_
  show Steps p.tables e below (T1.setTop { method := m, pc := pc + 3, locals := ls, stack := .ref T.heap.size :: rest, locked := none }) _
  jvm_step X₁.here [X₁.here.top, hexec, d3', Value.category]
  exact X₁.ldcStringW hexec (own := own) (text := text) (index := is) (a := sa) hown' hstr'.1 hstr'.2
    (g := { method := m, pc := pc + 4, locals := ls, stack := .ref T.heap.size :: .ref T.heap.size :: rest, locked := none }) rfl d4' _ hsteps
end Ends
section Bodies
variable {l : Launch}
theorem vx_ofW {y : MethodName} {ws ws' : List Cond} {rm : Room} {Pc : Array Value → State → Prop} {Qc : Array Value → State → Outcome → State → Prop} {XC : String → State → State → Prop} {mc ms : Nat} {free : Addr → Prop} {cc : ByteArray} {maxL : Nat} {ret : Option FieldType}
    (hy : plainName y.cls = true) (hw : ws = Cond.code y cc maxL ret :: ws')
    (body : ∀ p e s m args below meth c s₁, BodyLoose p l y (headSpec ws rm) cc maxL ret e s m args below meth c s₁ → c.maxLocals = maxL → (∀ x ∈ c.exceptionTable.toList, False) → Pc args s →
      W p l e (headSpec ws rm).room s m args below meth c s.heap [] 0 0 (vx_MQ below Qc XC args s mc ms free) (entryFrame m args maxL)) : vx_Met l y ws rm Pc Qc XC mc ms free := by
  refine MetFree.of_bodyS (code := cc) (maxLocals := maxL) (ret := ret) hy ?_ ?_
  · intro args s m h hn
    obtain ⟨meth, c, h1, h2, h3, h4, h5, h6, -, -⟩ := Cond.code_spec hn (atoms_spec (ws := ws) h _ (by rw [hw]; exact List.mem_cons_self))
    exact ⟨meth, c, h1, h2, h3, h4, h5, h6⟩
  · intro p e s m args below meth c s₁ B hml hP _
    have hh0 : s₁.heap = s.heap := by rw [B.state]; rfl
    have ht : ∀ x ∈ c.exceptionTable.toList, False := by
      obtain ⟨meth9, c9, h1, h2, -, -, -, -, h7, -⟩ := Cond.code_spec B.named (atoms_spec (ws := ws) B.pre _ (by rw [hw]; exact List.mem_cons_self))
      cases Option.some.inj (h1.symm.trans B.method)
      cases Option.some.inj (h2.symm.trans (Stand.of_body B).code)
      intro x hx
      rw [Array.isEmpty_iff.mp h7] at hx
      cases hx
    obtain ⟨t, a1, o, b1, b2, b3⟩ := body p e s m args below meth c s₁ B hml ht hP s₁ hh0 (Stand.of_body B)
    exact ⟨t, o, a1, b1, b2, b3⟩
/-- the table of a body with handlers -/
theorem vx_table {p : Program} {x y : MethodName} {S : Spec} {cc bytes : ByteArray} {maxL maxL' : Nat} {ret ret' : Option FieldType} {e : Env} {s s₁ : State} {m : MethodId} {args : Array Value} {below : List Frame} {meth : Method} {c : Code} {hh : List (Nat × Nat × Nat × Nat)}
    (B : BodyLoose p l y S cc maxL ret e s m args below meth c s₁) (h : (Cond.codeWith y bytes maxL' ret' hh).before args s = true) : c.exceptionTable.toList = tableOf hh := by
  obtain ⟨m9, meth9, c9, hn9, h1, h2, -, -, h6, -⟩ := Cond.codeWith_spec h
  cases Option.some.inj (hn9.symm.trans B.named)
  cases Option.some.inj (h1.symm.trans B.method)
  cases Option.some.inj (h2.symm.trans (Stand.of_body B).code)
  rw [← h6, table_eq]
end Bodies
end VXA
/-! ===== END ===== -/
/-! ===== BEGIN a static call of a method with an exception table ===== -/
section VXS
variable {p : Program} {l : Launch} {e : Env} {R : Room} {s : State} {m : MethodId} {args : Array Value} {below : List Frame} {meth : Method} {c : Code} {T : State} {H : Heap} {locs : List Loc} {cells slots : Nat}
abbrev vx_CSW (R : Room) (s : State) (args : Array Value) (own : String) (index : Nat) (y : MethodName) (bytes : ByteArray) (maxL : Nat) (ret : Option FieldType) (hh : List (Nat × Nat × Nat × Nat)) (ws : List Cond) (rm : Room) (mc ms n : Nat) : Prop :=
  (rm.cells = mc ∧ rm.slots = ms ∧ rm.frames + 1 ≤ R.frames ∧ 8 + (maxL + 11) + rm.locals ≤ R.locals ∧ (∀ w ∈ ws, ∀ (a' : Array Value) (U : State), s.WarmedH U.vm → w.before a' U = true) ∧ Cond.codeWith y bytes maxL ret hh ∈ ws) ∧
  (Cond.codeWith y bytes maxL ret hh).before args s = true ∧ (Cond.initialized y.cls).before args s = true ∧ (y.cls ≠ "java/lang/invoke/MethodHandle" ∧ y.cls ≠ "java/lang/invoke/VarHandle") ∧
  (∀ sig, parseMethodDescriptor y.desc = some sig → n = sig.parameters.length) ∧ (Cond.methodLink own index y).before args s = true ∧ (Cond.static y).before args s = true
theorem vx_cwSW {own : String} {index maxL mc ms : Nat} {y : MethodName} {bytes : ByteArray} {ret : Option FieldType} {hh : List (Nat × Nat × Nat × Nat)} {Ts ws ws' : List Cond} {rm : Room} (n : Nat) (ht : ∀ w ∈ Ts, w.before args s = true) (hT : GoodIn Ts (va_wsS own index y ws)) (hw : ws = Cond.codeWith y bytes maxL ret hh :: ws') (hrc : rm.cells = mc) (hrs : rm.slots = ms)
    (hd : y.cls ≠ "java/lang/invoke/MethodHandle" ∧ y.cls ≠ "java/lang/invoke/VarHandle" ∧ (parseMethodDescriptor y.desc).map (fun d => d.parameters.length) = some n) (hR : rm.frames + 1 ≤ R.frames ∧ 8 + (maxL + 11) + rm.locals ≤ R.locals) :
    vx_CSW R s args own index y bytes maxL ret hh ws rm mc ms n := by
  have ok : ∀ w ∈ va_wsS own index y ws, w.before args s = true := fun w h => ht w (hT w h).1
  have hG : GoodIn Ts ws := fun w h => hT w (by unfold va_wsS; exact List.mem_append_right _ h)
  have hc : Cond.codeWith y bytes maxL ret hh ∈ ws := by rw [hw]; exact List.mem_cons_self
  refine ⟨⟨hrc, hrs, hR.1, hR.2, pay_in ht hG, hc⟩, ht _ (hG _ hc).1, ok _ (by simp [va_wsS]), ⟨hd.1, hd.2.1⟩, fun sig h => ?_, ok _ (by simp [va_wsS]), ok _ (by simp [va_wsS])⟩
  have h2 := hd.2.2
  rw [h] at h2
  exact (Option.some.inj h2).symm
theorem vx_callSW (X : Stand p l e R s m args below meth c T locs cells slots) (hexec : p.tables.exec = Jvm.exec) {own : String} {index : Nat} {y : MethodName} {bytes : ByteArray} {maxL : Nat} {ret : Option FieldType} {hh : List (Nat × Nat × Nat × Nat)}
    (hown : s.vm.findClass own = some m.cls) (hlink : (Cond.methodLink own index y).before args s = true) (hstat : (Cond.static y).before args s = true) (hinit : (Cond.initialized y.cls).before args s = true)
    (hcode : (Cond.codeWith y bytes maxL ret hh).before args s = true) (hy : y.cls ≠ "java/lang/invoke/MethodHandle" ∧ y.cls ≠ "java/lang/invoke/VarHandle")
    {W9 : Nat} {Pre : Pt → Array Value → Prop} {Post : Pt → Array Value → Option Value → Pt → Prop} (hK : Back l R p e below s args y 3 W9 Pre Post)
    {g : JFrame} (hg : g.method = m) (hsize : g.locals.size = c.maxLocals) {argsL rest : List Value} (hlen : ∀ sig, parseMethodDescriptor y.desc = some sig → argsL.length = sig.parameters.length)
    (hstack : g.stack = argsL.reverse ++ rest) (hW : 2 * g.monitorRoom + (rest.map fun v => v.category).sum ≤ W9) (hdg : decode c.code g.pc = .ok (.invokestatic index, 3))
    (hpre : ∀ vm₁, s.WarmedH vm₁ → Pre ⟨T.setVm vm₁, locs, cells, slots⟩ argsL.toArray) :
    ∃ (v : Option Value) (vm₁ : Vm) (B : Pt), s.WarmedH vm₁ ∧ Stand p l e R s m args below meth c B.U B.locs B.cells B.slots ∧ Post ⟨T.setVm vm₁, locs, cells, slots⟩ argsL.toArray v B ∧
      ∀ target, Steps p.tables e below (B.U.setTop { g with pc := g.pc + 3, stack := v.toList ++ rest }) target → Steps p.tables e below (T.setTop g) target := by
  obtain ⟨mk, methM, cM, hnamed, hmethM, -, -, -, -, -, -, hsigM⟩ := Cond.codeWith_spec hcode
  have hstatic : methM.isStatic = true := Cond.static_spec hnamed hmethM hstat
  obtain ⟨kP, hkP, -⟩ := className_of_methodNamed hnamed
  have hinitP : kP.init = .initialized := Cond.initialized_spec (findClass_of_methodNamed hnamed) hkP hinit
  obtain ⟨vm₁, X₁, hstep₁⟩ := X.invokestatic hexec hown hlink hnamed hmethM hstatic hkP hinitP hy (g := g) hg (argsL := argsL) (rest := rest) (hlen _ hsigM) hstack hdg
  obtain ⟨v, B, X', hpost, hsteps⟩ := hK m meth c ⟨T.setVm vm₁, locs, cells, slots⟩ { g with stack := rest } (.invokestatic index) mk argsL.toArray X₁ hg hsize hdg hW (X₁.named hnamed) (hpre vm₁ X₁.warmed)
  exact ⟨v, vm₁, B, X₁.warmed, X', hpost, fun target h => hstep₁ _ fun acts => by rw [doInvoke_state]; exact hsteps.trans h⟩
theorem vx_runSW {y : MethodName} {bytes cc : ByteArray} {maxL nL mc ms n index : Nat} {ret : Option FieldType} {hh : List (Nat × Nat × Nat × Nat)} {ws : List Cond} {rm : Room} {Pc : Array Value → State → Prop} {Qc : Array Value → State → Outcome → State → Prop} {free : Addr → Prop} {Ts : List Cond} {own : String} {As rest : List Value} {g : JFrame}
    (S : CallFix p m c cc nL s args Ts own) (hM : Met l y ws rm Pc Qc mc ms free) (cw : vx_CSW R s args own index y bytes maxL ret hh ws rm mc ms n) (hp : PreS s H Pc As)
    (hg : g.method = m) (hn : As.length = n) (hsize : g.locals.size = nL) (hstack : g.stack = As.reverse ++ rest) (hW : 2 * g.monitorRoom + (rest.map fun v => v.category).sum ≤ 8) (hdg : decode cc g.pc = .ok (.invokestatic index, 3)) (hf : cells + mc ≤ R.cells ∧ slots + ms ≤ R.slots) :
    va_Run p l e R s m args below meth c H locs cells slots mc ms g rest (Qc As.toArray) (free) := by
  obtain ⟨⟨hrc, hrs, hfr, hlo, hws, hcw⟩, hcode, hini, hy, hlen, hl, hstt⟩ := cw
  have hK : Back l R p e below s args y 3 8 (PreOf R mc ms Pc) (PostOf Qc mc ms free) := va_backW (hh := hh) (bytes := bytes) (maxL := maxL) (ret := ret) hM hp.1 hrc hrs hfr hlo hws hcw (fun a' U hW => word_at hW (Or.inl (by first | rfl | simp [Cond.onTables, Cond.keeps, Cond.steady])) hini)
  obtain ⟨hx, hb, hml, ho, -⟩ := S
  intro T hT X
  obtain ⟨v, vm₁, ⟨U', l2, c2, s2⟩, hW₁, X', ⟨g', mk, t, L, e1, e2, hq, h1, hL, h2, h3⟩, st⟩ := vx_callSW X hx (hh := hh) (bytes := bytes) (maxL := maxL) (ret := ret) ho hl hstt hini hcode hy hK hg (hsize.trans hml.symm) (argsL := As) (rest := rest) (fun sig h => hn.trans (hlen sig h)) hstack hW (by rw [hb]; exact hdg)
    (fun vm₁ hW₁ => ⟨hf.1, hf.2, hp.2 (T.setVm vm₁) hT hW₁⟩)
  dsimp only [Pt.U, Pt.locs, Pt.cells, Pt.slots] at X' e1 e2 h1 h2 h3 st
  subst h1; subst h2; subst h3
  exact ⟨v, (T.setVm vm₁).calling g' mk As.toArray, t, U', L, hT, X', hL, e1, e2, hq, st⟩
/-- a thing of a world lies in the heap -/
theorem vx_lt {D : va_G} {cl : List vw_C} {ws : va_W} {H1 : Heap} (h : va_P D cl ws H1) {k : Nat} {q : Nat × va_E} (hk : ws[k]? = some q) : q.1 < H1.size := (h k q hk).lt
end VXS
/-! ===== END ===== -/
/-! ===== BEGIN methods with a table of their own: called by a name, returning or throwing ===== -/
section VXH
/-! vx_backW, vx_callVX, vx_callSX, vx_callVW, vx_runVW, vx_runVX, vx_runSX, vx_ofWH follow the same proofs as their sisters above (Free/Laws.lean, Shelf42/LK1.lean); vx_outP calls Shelf42/NT130.lean (outThrough). -/
section
variable {l : Launch} {R : Room} {p : Program} {e : Env} {below : List Frame} {s : State} {sargs : Array Value} {y : MethodName} {len W9 : Nat}
theorem vx_backW {ws : List Cond} {rm : Room} {Pc : Array Value → State → Prop} {Qc : Array Value → State → Outcome → State → Prop} {XC : String → State → State → Prop} {mc ms : Nat} {free : Addr → Prop} {bytes : ByteArray} {maxL : Nat} {ret : Option FieldType} {hh : List (Nat × Nat × Nat × Nat)}
    (hM : vx_Met l y ws rm Pc Qc XC mc ms free) (hblind : FrameBlind Pc) (hrc : rm.cells = mc) (hrs : rm.slots = ms)
    (hframes : rm.frames + 1 ≤ R.frames) (hlocals : W9 + (maxL + 11) + rm.locals ≤ R.locals)
    (hws : ∀ w ∈ ws, ∀ a' U, s.WarmedH U.vm → w.before a' U = true) (hcode : Cond.codeWith y bytes maxL ret hh ∈ ws) (hinit : ∀ a' U, s.WarmedH U.vm → (Cond.initialized y.cls).before a' U = true) :
    vx_Back l R p e below s sargs y len W9 (PreOf R mc ms Pc) (PostOf Qc mc ms free) (vx_Post XC mc ms free) := by
  intro m meth c A g ig mk a X hg hsize hdg hW hn hp
  have h1 : (headSpec ws rm).pre.before a A.U = true := atoms_intro fun w hw => hws w hw _ _ X.warmed
  have h2 : (Cond.codeWith y bytes maxL ret hh).before a A.U = true := hws _ hcode _ _ X.warmed
  have h3 : (Cond.initialized y.cls).before a A.U = true := hinit _ _ X.warmed
  have h4 : A.cells + (headSpec ws rm).room.cells ≤ R.cells := by rw [show (headSpec ws rm).room.cells = mc from hrc]; exact hp.1
  have h5 : A.slots + (headSpec ws rm).room.slots ≤ R.slots := by rw [show (headSpec ws rm).room.slots = ms from hrs]; exact hp.2.1
  have hPc : Pc a (A.U.calling g mk a) := hblind _ _ _ _ hp.2.2
  obtain ⟨U, Ls, c0, s0⟩ := A
  dsimp only [Pt.U, Pt.locs, Pt.cells, Pt.slots] at h1 h2 h3 h4 h5 X hn hPc ⊢
  obtain ⟨m9, methY, cY, hn9, hmY, hcY, -, hlY, -⟩ := Cond.codeWith_spec h2
  cases Option.some.inj (hn9.symm.trans hn)
  obtain ⟨kY, hkY, -⟩ := className_of_methodNamed hn
  have hinitY : kY.init = .initialized := Cond.initialized_spec (findClass_of_methodNamed hn) hkY h3
  have h : At U g.method c below := by rw [hg]; exact X.here
  have hlocals9 : W9 + (maxL + 11) + (headSpec ws rm).room.locals ≤ R.locals := hlocals
  have happ : (headSpec ws rm).appliesLoose y e.platform (U.calling g mk a) = true :=
    Spec.appliesLoose_calling (g := g) h hdg hn hkY hinitY
      (X.room_calling (g := g) (R' := (headSpec ws rm).room) hsize hmY hcY hframes (by rw [hlY]; omega) h4 h5) h1
  obtain ⟨mid, hmid⟩ := h.above
  have hfr : (U.setTop g).frames = (.java g :: mid) ++ below := by rw [State.frames_setTop' g h.top, hmid]; rfl
  obtain ⟨o, s₂, hsteps, -, hend, hq⟩ := Steps.callFree hM p X.admits X.cas X.clock (acts := []) hfr happ hPc trivial
  have hq' : vx_Q Qc XC mc ms free a (U.calling g mk a) o s₂ := hq
  rw [State.frames_setTop' g h.top] at hend
  obtain ⟨g₀, hg0⟩ := Option.isSome_iff_exists.mp h.top
  obtain ⟨r, hr⟩ := State.topJava?_eq_some.mp hg0
  have hr' : (({ U with heap := s₂.heap, slotsUsed := s₂.slotsUsed } : State).setVm s₂.vm).frames = .java g₀ :: r := hr
  rcases hq' with ⟨hqc, L, hfe, hL⟩ | ⟨q, rfl, E, ce, L, hx, hce, hcv, hcl, hW₂, hsm, hL⟩
  · obtain ⟨⟨v, rfl⟩, hW₂, e2, q2, q3, q4, q5, q6⟩ := id hfe
    have e3 : s₂ = ({ (U.calling g mk a).setFrames s₂.frames with heap := s₂.heap, slotsUsed := s₂.slotsUsed } : State).setVm s₂.vm := by
      have : s₂ = ({ s₂ with vm := (U.calling g mk a).vm } : State).setVm s₂.vm := rfl
      rw [e2] at this
      exact this
    obtain ⟨c₂, i₂, len₂, hc₂, hd₂, hf₂⟩ := hend
    have hW' : U.WarmedH s₂.vm := hW₂
    have hcc : c₂ = c := by
      have h1 : s₂.code? g.method = U.code? g.method := by
        rw [State.code?_eq, State.code?_eq, hW'.alike.method?]
      exact Option.some.inj (hc₂.symm.trans (h1.trans h.code))
    subst hcc
    have hlen : len₂ = len := by rw [hdg] at hd₂; cases hd₂; rfl
    subst hlen
    have hs₂ : s₂ = (({ U with heap := s₂.heap, slotsUsed := s₂.slotsUsed } : State).setVm s₂.vm).setTop { g with pc := g.pc + len₂, stack := v.toList ++ g.stack } := by
      refine e3.trans ?_
      rw [hf₂, State.calling_eq h.top, State.setFrames_setFrames, State.setTop_of_frames _ hr', hr]
      rfl
    have hsame : U.sameButNew ({ U with heap := s₂.heap, slotsUsed := s₂.slotsUsed } : State) L mc ms := by
      refine ⟨?_, q2, q3, q4, q5, q6⟩
      obtain ⟨t, ht, -⟩ := State.frames_cons hr
      show ({ U with heap := s₂.heap, slotsUsed := s₂.slotsUsed } : State) = { U.setFrames U.frames with heap := s₂.heap, slotsUsed := s₂.slotsUsed }
      rw [State.setFrames_self ht]
    subst hg
    refine Or.inl ⟨v, ⟨(({ U with heap := s₂.heap, slotsUsed := s₂.slotsUsed } : State).setVm s₂.vm), Ls ++ L, c0 + mc, s0 + ms⟩,
      ⟨X.admits, X.cas, X.clock, X.frames, X.room, X.hears, X.method, X.code, (X.here.setHeapUsed s₂.heap s₂.slotsUsed).setVm hW'.alike, X.tail, State.WarmedH.trans X.warmed hW', X.limits, X.bytes, X.same.trans (hsame.setVm s.vm)⟩,
      ⟨g, mk, s₂, L, rfl, rfl, hqc, rfl, hL, rfl, rfl⟩, ?_⟩
    show Steps p.tables e below _ ((({ U with heap := s₂.heap, slotsUsed := s₂.slotsUsed } : State).setVm s₂.vm).setTop { g with pc := g.pc + len₂, stack := v.toList ++ g.stack })
    rw [← hs₂]
    exact hsteps
  · obtain ⟨e2, q2, q3, q4, q5, q6⟩ := id hsm
    have e3 : s₂ = ({ (U.calling g mk a).setFrames s₂.frames with heap := s₂.heap, slotsUsed := s₂.slotsUsed } : State).setVm s₂.vm := by
      have : s₂ = ({ s₂ with vm := (U.calling g mk a).vm } : State).setVm s₂.vm := rfl
      rw [e2] at this
      exact this
    have hf₂ : s₂.frames = .throwing q :: .java g :: U.frames.tail := hend
    have hW' : U.WarmedH s₂.vm := hW₂
    have hs₂ : s₂ = ((({ U with heap := s₂.heap, slotsUsed := s₂.slotsUsed } : State).setVm s₂.vm).setTop g).pushFrame (.throwing q) := by
      refine e3.trans ?_
      rw [hf₂, State.calling_eq h.top, State.setFrames_setFrames, State.pushFrame, State.frames_setTop _ hr', State.setTop_of_frames _ hr', State.setFrames_setFrames, hr]
      rfl
    have hsame : U.sameButNew ({ U with heap := s₂.heap, slotsUsed := s₂.slotsUsed } : State) L mc ms := by
      refine ⟨?_, q2, q3, q4, q5, q6⟩
      obtain ⟨t, ht, -⟩ := State.frames_cons hr
      show ({ U with heap := s₂.heap, slotsUsed := s₂.slotsUsed } : State) = { U.setFrames U.frames with heap := s₂.heap, slotsUsed := s₂.slotsUsed }
      rw [State.setFrames_self ht]
    subst hg
    refine Or.inr ⟨q, ⟨(({ U with heap := s₂.heap, slotsUsed := s₂.slotsUsed } : State).setVm s₂.vm), Ls ++ L, c0 + mc, s0 + ms⟩,
      ⟨X.admits, X.cas, X.clock, X.frames, X.room, X.hears, X.method, X.code, (X.here.setHeapUsed s₂.heap s₂.slotsUsed).setVm hW'.alike, X.tail, State.WarmedH.trans X.warmed hW', X.limits, X.bytes, X.same.trans (hsame.setVm s.vm)⟩,
      ⟨g, mk, s₂, L, E, ce, rfl, rfl, hx, hce, hcv, hcl, rfl, hL, rfl, rfl⟩, ?_⟩
    show Steps p.tables e below _ (((({ U with heap := s₂.heap, slotsUsed := s₂.slotsUsed } : State).setVm s₂.vm).setTop g).pushFrame (.throwing q))
    rw [← hs₂]
    exact hsteps
end
variable {p : Program} {l : Launch} {e : Env} {R : Room} {s : State} {m : MethodId} {args : Array Value} {below : List Frame} {meth : Method} {c : Code} {T : State} {H : Heap} {locs : List Loc} {cells slots : Nat}
theorem vx_callVX (X : Stand p l e R s m args below meth c T locs cells slots) (hexec : p.tables.exec = Jvm.exec) {own C : String} {index : Nat} {y : MethodName} {bytes : ByteArray} {maxL : Nat} {ret : Option FieldType} {hh : List (Nat × Nat × Nat × Nat)}
    (hown : s.vm.findClass own = some m.cls) (hlink : (Cond.methodLink own index y).before args s = true) (hinst : (Cond.instanceMethod y).before args s = true) (hsel : (Cond.selects C y y).before args s = true)
    (hcode : (Cond.codeWith y bytes maxL ret hh).before args s = true) (hy : y.cls ≠ "java/lang/invoke/MethodHandle" ∧ y.cls ≠ "java/lang/invoke/VarHandle")
    {W9 : Nat} {Pre : Pt → Array Value → Prop} {Post : Pt → Array Value → Option Value → Pt → Prop} {PostX : Pt → Array Value → Addr → Pt → Prop} (hK : vx_Back l R p e below s args y 3 W9 Pre Post PostX)
    {b : Addr} {cellB : Cell} (hcell : T.heap[b]? = some cellB) (hobj : cellB.vm.isStatics = false) (hcls : s.vm.findClass C = some cellB.cls)
    {g : JFrame} (hg : g.method = m) (hsize : g.locals.size = c.maxLocals) {argsL rest : List Value} (hlen : ∀ sig, parseMethodDescriptor y.desc = some sig → argsL.length = sig.parameters.length)
    (hstack : g.stack = argsL.reverse ++ .ref b :: rest) (hW : 2 * g.monitorRoom + (rest.map fun v => v.category).sum ≤ W9) (hdg : decode c.code g.pc = .ok (.invokevirtual index, 3))
    (hpre : ∀ vm₁, s.WarmedH vm₁ → Pre ⟨T.setVm vm₁, locs, cells, slots⟩ (Value.ref b :: argsL).toArray) :
    (∃ (v : Option Value) (vm₁ : Vm) (B : Pt), s.WarmedH vm₁ ∧ Stand p l e R s m args below meth c B.U B.locs B.cells B.slots ∧ Post ⟨T.setVm vm₁, locs, cells, slots⟩ (Value.ref b :: argsL).toArray v B ∧
      ∀ target, Steps p.tables e below (B.U.setTop { g with pc := g.pc + 3, stack := v.toList ++ rest }) target → Steps p.tables e below (T.setTop g) target) ∨
    (∃ (q : Addr) (vm₁ : Vm) (B : Pt), s.WarmedH vm₁ ∧ Stand p l e R s m args below meth c B.U B.locs B.cells B.slots ∧ PostX ⟨T.setVm vm₁, locs, cells, slots⟩ (Value.ref b :: argsL).toArray q B ∧
      Steps p.tables e below (T.setTop g) ((B.U.setTop { g with stack := rest }).pushFrame (.throwing q))) := by
  obtain ⟨mk, methM, hnamed, hmethM, hstM, habM⟩ := Cond.instanceMethod_spec hinst
  obtain ⟨m8, methM', cM, hn8, hmethM', -, -, -, -, -, -, hsigM⟩ := Cond.codeWith_spec hcode
  cases Option.some.inj (hn8.symm.trans hnamed)
  cases hmethM.symm.trans hmethM'
  obtain ⟨c2, r2, m2, q1, q2, q3, q4, kP, hkP, hkPi⟩ := Cond.selects_spec hsel
  cases hcls.symm.trans q1
  cases (State.methodFound?_of_named hnamed hy).symm.trans q2
  cases hnamed.symm.trans q3
  have hselP : selectMethod e.platform s.vm cellB.cls mk = .method mk := by rw [Launch.admits_selectMethod X.admits]; exact q4
  obtain ⟨vm₁, X₁, hstep₁⟩ := X.invokevirtual hexec hown hlink hnamed hmethM hstM hkP hkPi hy (a := b) (cell := cellB) hcell
    (fun z h => by rw [h] at hobj; cases hobj) hselP hmethM habM hkP hkPi (g := g) hg (argsL := argsL) (rest := rest) (hlen _ hsigM) hstack hdg
  rcases hK m meth c ⟨T.setVm vm₁, locs, cells, slots⟩ { g with stack := rest } (.invokevirtual index) mk (Value.ref b :: argsL).toArray X₁ hg hsize hdg hW (X₁.named hnamed) (hpre vm₁ X₁.warmed) with ⟨v, B, X', hpost, hsteps⟩ | ⟨q, B, X', hpost, hsteps⟩
  · exact Or.inl ⟨v, vm₁, B, X₁.warmed, X', hpost, fun target h => hstep₁ _ fun acts => by rw [doInvoke_state]; exact hsteps.trans h⟩
  · exact Or.inr ⟨q, vm₁, B, X₁.warmed, X', hpost, hstep₁ _ fun acts => by rw [doInvoke_state]; exact hsteps⟩
theorem vx_callSX (X : Stand p l e R s m args below meth c T locs cells slots) (hexec : p.tables.exec = Jvm.exec) {own : String} {index : Nat} {y : MethodName} {bytes : ByteArray} {maxL : Nat} {ret : Option FieldType} {hh : List (Nat × Nat × Nat × Nat)}
    (hown : s.vm.findClass own = some m.cls) (hlink : (Cond.methodLink own index y).before args s = true) (hstat : (Cond.static y).before args s = true) (hinit : (Cond.initialized y.cls).before args s = true)
    (hcode : (Cond.codeWith y bytes maxL ret hh).before args s = true) (hy : y.cls ≠ "java/lang/invoke/MethodHandle" ∧ y.cls ≠ "java/lang/invoke/VarHandle")
    {W9 : Nat} {Pre : Pt → Array Value → Prop} {Post : Pt → Array Value → Option Value → Pt → Prop} {PostX : Pt → Array Value → Addr → Pt → Prop} (hK : vx_Back l R p e below s args y 3 W9 Pre Post PostX)
    {g : JFrame} (hg : g.method = m) (hsize : g.locals.size = c.maxLocals) {argsL rest : List Value} (hlen : ∀ sig, parseMethodDescriptor y.desc = some sig → argsL.length = sig.parameters.length)
    (hstack : g.stack = argsL.reverse ++ rest) (hW : 2 * g.monitorRoom + (rest.map fun v => v.category).sum ≤ W9) (hdg : decode c.code g.pc = .ok (.invokestatic index, 3))
    (hpre : ∀ vm₁, s.WarmedH vm₁ → Pre ⟨T.setVm vm₁, locs, cells, slots⟩ argsL.toArray) :
    (∃ (v : Option Value) (vm₁ : Vm) (B : Pt), s.WarmedH vm₁ ∧ Stand p l e R s m args below meth c B.U B.locs B.cells B.slots ∧ Post ⟨T.setVm vm₁, locs, cells, slots⟩ argsL.toArray v B ∧
      ∀ target, Steps p.tables e below (B.U.setTop { g with pc := g.pc + 3, stack := v.toList ++ rest }) target → Steps p.tables e below (T.setTop g) target) ∨
    (∃ (q : Addr) (vm₁ : Vm) (B : Pt), s.WarmedH vm₁ ∧ Stand p l e R s m args below meth c B.U B.locs B.cells B.slots ∧ PostX ⟨T.setVm vm₁, locs, cells, slots⟩ argsL.toArray q B ∧
      Steps p.tables e below (T.setTop g) ((B.U.setTop { g with stack := rest }).pushFrame (.throwing q))) := by
  obtain ⟨mk, methM, cM, hnamed, hmethM, -, -, -, -, -, -, hsigM⟩ := Cond.codeWith_spec hcode
  have hstatic : methM.isStatic = true := Cond.static_spec hnamed hmethM hstat
  obtain ⟨kP, hkP, -⟩ := className_of_methodNamed hnamed
  have hinitP : kP.init = .initialized := Cond.initialized_spec (findClass_of_methodNamed hnamed) hkP hinit
  obtain ⟨vm₁, X₁, hstep₁⟩ := X.invokestatic hexec hown hlink hnamed hmethM hstatic hkP hinitP hy (g := g) hg (argsL := argsL) (rest := rest) (hlen _ hsigM) hstack hdg
  rcases hK m meth c ⟨T.setVm vm₁, locs, cells, slots⟩ { g with stack := rest } (.invokestatic index) mk argsL.toArray X₁ hg hsize hdg hW (X₁.named hnamed) (hpre vm₁ X₁.warmed) with ⟨v, B, X', hpost, hsteps⟩ | ⟨q, B, X', hpost, hsteps⟩
  · exact Or.inl ⟨v, vm₁, B, X₁.warmed, X', hpost, fun target h => hstep₁ _ fun acts => by rw [doInvoke_state]; exact hsteps.trans h⟩
  · exact Or.inr ⟨q, vm₁, B, X₁.warmed, X', hpost, hstep₁ _ fun acts => by rw [doInvoke_state]; exact hsteps⟩
theorem vx_callVW (X : Stand p l e R s m args below meth c T locs cells slots) (hexec : p.tables.exec = Jvm.exec) {own C : String} {index : Nat} {y : MethodName} {bytes : ByteArray} {maxL : Nat} {ret : Option FieldType} {hh : List (Nat × Nat × Nat × Nat)}
    (hown : s.vm.findClass own = some m.cls) (hlink : (Cond.methodLink own index y).before args s = true) (hinst : (Cond.instanceMethod y).before args s = true) (hsel : (Cond.selects C y y).before args s = true)
    (hcode : (Cond.codeWith y bytes maxL ret hh).before args s = true) (hy : y.cls ≠ "java/lang/invoke/MethodHandle" ∧ y.cls ≠ "java/lang/invoke/VarHandle")
    {W9 : Nat} {Pre : Pt → Array Value → Prop} {Post : Pt → Array Value → Option Value → Pt → Prop} (hK : Back l R p e below s args y 3 W9 Pre Post)
    {b : Addr} {cellB : Cell} (hcell : T.heap[b]? = some cellB) (hobj : cellB.vm.isStatics = false) (hcls : s.vm.findClass C = some cellB.cls)
    {g : JFrame} (hg : g.method = m) (hsize : g.locals.size = c.maxLocals) {argsL rest : List Value} (hlen : ∀ sig, parseMethodDescriptor y.desc = some sig → argsL.length = sig.parameters.length)
    (hstack : g.stack = argsL.reverse ++ .ref b :: rest) (hW : 2 * g.monitorRoom + (rest.map fun v => v.category).sum ≤ W9) (hdg : decode c.code g.pc = .ok (.invokevirtual index, 3))
    (hpre : ∀ vm₁, s.WarmedH vm₁ → Pre ⟨T.setVm vm₁, locs, cells, slots⟩ (Value.ref b :: argsL).toArray) :
    ∃ (v : Option Value) (vm₁ : Vm) (B : Pt), s.WarmedH vm₁ ∧ Stand p l e R s m args below meth c B.U B.locs B.cells B.slots ∧ Post ⟨T.setVm vm₁, locs, cells, slots⟩ (Value.ref b :: argsL).toArray v B ∧
      ∀ target, Steps p.tables e below (B.U.setTop { g with pc := g.pc + 3, stack := v.toList ++ rest }) target → Steps p.tables e below (T.setTop g) target := by
  obtain ⟨mk, methM, hnamed, hmethM, hstM, habM⟩ := Cond.instanceMethod_spec hinst
  obtain ⟨m8, methM', cM, hn8, hmethM', -, -, -, -, -, -, hsigM⟩ := Cond.codeWith_spec hcode
  cases Option.some.inj (hn8.symm.trans hnamed)
  cases hmethM.symm.trans hmethM'
  obtain ⟨c2, r2, m2, q1, q2, q3, q4, kP, hkP, hkPi⟩ := Cond.selects_spec hsel
  cases hcls.symm.trans q1
  cases (State.methodFound?_of_named hnamed hy).symm.trans q2
  cases hnamed.symm.trans q3
  have hselP : selectMethod e.platform s.vm cellB.cls mk = .method mk := by rw [Launch.admits_selectMethod X.admits]; exact q4
  obtain ⟨vm₁, X₁, hstep₁⟩ := X.invokevirtual hexec hown hlink hnamed hmethM hstM hkP hkPi hy (a := b) (cell := cellB) hcell
    (fun z h => by rw [h] at hobj; cases hobj) hselP hmethM habM hkP hkPi (g := g) hg (argsL := argsL) (rest := rest) (hlen _ hsigM) hstack hdg
  obtain ⟨v, B, X', hpost, hsteps⟩ := hK m meth c ⟨T.setVm vm₁, locs, cells, slots⟩ { g with stack := rest } (.invokevirtual index) mk (Value.ref b :: argsL).toArray X₁ hg hsize hdg hW (X₁.named hnamed) (hpre vm₁ X₁.warmed)
  exact ⟨v, vm₁, B, X₁.warmed, X', hpost, fun target h => hstep₁ _ fun acts => by rw [doInvoke_state]; exact hsteps.trans h⟩
abbrev vx_CVW (R : Room) (s : State) (args : Array Value) (own C : String) (index : Nat) (y : MethodName) (bytes : ByteArray) (maxL : Nat) (ret : Option FieldType) (hh : List (Nat × Nat × Nat × Nat)) (ws : List Cond) (rm : Room) (mc ms n : Nat) : Prop :=
  (rm.cells = mc ∧ rm.slots = ms ∧ rm.frames + 1 ≤ R.frames ∧ 8 + (maxL + 11) + rm.locals ≤ R.locals ∧ (∀ w ∈ ws, ∀ (a' : Array Value) (U : State), s.WarmedH U.vm → w.before a' U = true) ∧ Cond.codeWith y bytes maxL ret hh ∈ ws) ∧
  (Cond.codeWith y bytes maxL ret hh).before args s = true ∧ (Cond.initialized y.cls).before args s = true ∧ (y.cls ≠ "java/lang/invoke/MethodHandle" ∧ y.cls ≠ "java/lang/invoke/VarHandle") ∧
  (∀ sig, parseMethodDescriptor y.desc = some sig → n = sig.parameters.length) ∧ (Cond.methodLink own index y).before args s = true ∧ (Cond.instanceMethod y).before args s = true ∧ (Cond.selects C y y).before args s = true
theorem vx_cwVW {own C : String} {index maxL mc ms : Nat} {y : MethodName} {bytes : ByteArray} {ret : Option FieldType} {hh : List (Nat × Nat × Nat × Nat)} {Ts ws ws' : List Cond} {rm : Room} (n : Nat) (ht : ∀ w ∈ Ts, w.before args s = true) (hT : GoodIn Ts (wsV own index C y ws)) (hw : ws = Cond.codeWith y bytes maxL ret hh :: ws') (hrc : rm.cells = mc) (hrs : rm.slots = ms)
    (hd : y.cls = C ∧ y.cls ≠ "java/lang/invoke/MethodHandle" ∧ y.cls ≠ "java/lang/invoke/VarHandle" ∧ (parseMethodDescriptor y.desc).map (fun d => d.parameters.length) = some n) (hR : rm.frames + 1 ≤ R.frames ∧ 8 + (maxL + 11) + rm.locals ≤ R.locals) :
    vx_CVW R s args own C index y bytes maxL ret hh ws rm mc ms n := by
  obtain ⟨hC, hd⟩ := hd
  subst hC
  have ok : ∀ w ∈ wsV own index y.cls y ws, w.before args s = true := fun w h => ht w (hT w h).1
  have hG : GoodIn Ts ws := fun w h => hT w (by unfold wsV; exact List.mem_append_right _ h)
  have hc : Cond.codeWith y bytes maxL ret hh ∈ ws := by rw [hw]; exact List.mem_cons_self
  refine ⟨⟨hrc, hrs, hR.1, hR.2, pay_in ht hG, hc⟩, ht _ (hG _ hc).1, ok _ (by simp [wsV]), ⟨hd.1, hd.2.1⟩, fun sig h => ?_, ok _ (by simp [wsV]), ok _ (by simp [wsV]), ok _ (by simp [wsV])⟩
  have h2 := hd.2.2
  rw [h] at h2
  exact (Option.some.inj h2).symm
theorem vx_runVW {y : MethodName} {bytes cc : ByteArray} {maxL nL mc ms n index : Nat} {ret : Option FieldType} {hh : List (Nat × Nat × Nat × Nat)} {ws : List Cond} {rm : Room} {Pc : Array Value → State → Prop} {Qc : Array Value → State → Outcome → State → Prop} {free : Addr → Prop} {Ts : List Cond} {own C : String} {b : Addr} {As rest : List Value} {g : JFrame}
    (S : CallFix p m c cc nL s args Ts own) (hM : Met l y ws rm Pc Qc mc ms free) (cw : vx_CVW R s args own C index y bytes maxL ret hh ws rm mc ms n) (hp : PreV s H C b Pc As)
    (hg : g.method = m) (hn : As.length = n) (hsize : g.locals.size = nL) (hstack : g.stack = As.reverse ++ .ref b :: rest) (hW : 2 * g.monitorRoom + (rest.map fun v => v.category).sum ≤ 8) (hdg : decode cc g.pc = .ok (.invokevirtual index, 3)) (hf : cells + mc ≤ R.cells ∧ slots + ms ≤ R.slots) :
    va_Run p l e R s m args below meth c H locs cells slots mc ms g rest (Qc (Value.ref b :: As).toArray) free := by
  obtain ⟨⟨hrc, hrs, hfr, hlo, hws, hcw⟩, hcode, hini, hy, hlen, hl, hin, hse⟩ := cw
  have hK : Back l R p e below s args y 3 8 (PreOf R mc ms Pc) (PostOf Qc mc ms free) := va_backW (hh := hh) (bytes := bytes) (maxL := maxL) (ret := ret) hM hp.1 hrc hrs hfr hlo hws hcw (fun a' U hW => word_at hW (Or.inl (by first | rfl | simp [Cond.onTables, Cond.keeps, Cond.steady])) hini)
  obtain ⟨hx, hb, hml, ho, -⟩ := S
  obtain ⟨-, ⟨cellB, hcB, hoB, hclB⟩, hPc⟩ := hp
  intro T hT X
  obtain ⟨v, vm₁, ⟨U', l2, c2, s2⟩, hW₁, X', ⟨g', mk, t, L, e1, e2, hq, h1, hL, h2, h3⟩, st⟩ := vx_callVW X hx (C := C) (hh := hh) (bytes := bytes) (maxL := maxL) (ret := ret) ho hl hin hse hcode hy hK (by rw [hT]; exact hcB) hoB hclB hg (hsize.trans hml.symm) (argsL := As) (rest := rest) (fun sig h => hn.trans (hlen sig h)) hstack hW (by rw [hb]; exact hdg)
    (fun vm₁ hW₁ => ⟨hf.1, hf.2, hPc (T.setVm vm₁) hT hW₁⟩)
  dsimp only [Pt.U, Pt.locs, Pt.cells, Pt.slots] at X' e1 e2 h1 h2 h3 st
  subst h1; subst h2; subst h3
  exact ⟨v, (T.setVm vm₁).calling g' mk (Value.ref b :: As).toArray, t, U', L, hT, X', hL, e1, e2, hq, st⟩
section
variable {y : MethodName} {bytes cc : ByteArray} {maxL nL mc ms n index : Nat} {ret : Option FieldType} {ws : List Cond} {rm : Room} {Pc : Array Value → State → Prop} {Qc : Array Value → State → Outcome → State → Prop} {XC : String → State → State → Prop} {free : Addr → Prop} {Ts : List Cond} {own C : String} {b : Addr} {As rest : List Value} {g : JFrame}
theorem vx_runVX {hh : List (Nat × Nat × Nat × Nat)} (S : CallFix p m c cc nL s args Ts own) (hM : vx_Met l y ws rm Pc Qc XC mc ms free) (cw : vx_CVW R s args own C index y bytes maxL ret hh ws rm mc ms n) (hp : PreV s H C b Pc As)
    (hg : g.method = m) (hn : As.length = n) (hsize : g.locals.size = nL) (hstack : g.stack = As.reverse ++ .ref b :: rest) (hW : 2 * g.monitorRoom + (rest.map fun v => v.category).sum ≤ 8) (hdg : decode cc g.pc = .ok (.invokevirtual index, 3)) (hf : cells + mc ≤ R.cells ∧ slots + ms ≤ R.slots) :
    vx_Run p l e R s m args below meth c H locs cells slots mc ms g rest (Qc (Value.ref b :: As).toArray) XC free := by
  obtain ⟨⟨hrc, hrs, hfr, hlo, hws, hcw⟩, hcode, hini, hy, hlen, hl, hin, hse⟩ := cw
  have hK : vx_Back l R p e below s args y 3 8 (PreOf R mc ms Pc) (PostOf Qc mc ms free) (vx_Post XC mc ms free) := vx_backW (hh := hh) (bytes := bytes) (maxL := maxL) (ret := ret) hM hp.1 hrc hrs hfr hlo hws hcw (fun a' U hW => word_at hW (Or.inl (by first | rfl | simp [Cond.onTables, Cond.keeps, Cond.steady])) hini)
  obtain ⟨hx, hb, hml, ho, -⟩ := S
  obtain ⟨-, ⟨cellB, hcB, hoB, hclB⟩, hPc⟩ := hp
  intro T hT X
  rcases vx_callVX X hx (C := C) (hh := hh) (bytes := bytes) (maxL := maxL) (ret := ret) ho hl hin hse hcode hy hK (by rw [hT]; exact hcB) hoB hclB hg (hsize.trans hml.symm) (argsL := As) (rest := rest) (fun sig h => hn.trans (hlen sig h)) hstack hW (by rw [hb]; exact hdg)
    (fun vm₁ hW₁ => ⟨hf.1, hf.2, hPc (T.setVm vm₁) hT hW₁⟩) with ⟨v, vm₁, ⟨U', l2, c2, s2⟩, hW₁, X', ⟨g', mk, t, L, e1, e2, hq, h1, hL, h2, h3⟩, st⟩ | ⟨q, vm₁, ⟨U', l2, c2, s2⟩, hW₁, X', ⟨g', mk, t, L, E, ce, e1, e2, hq, hce, hcv, hcl, h1, hL, h2, h3⟩, st⟩
  · dsimp only [Pt.U, Pt.locs, Pt.cells, Pt.slots] at X' e1 e2 h1 h2 h3 st
    subst h1; subst h2; subst h3
    exact Or.inl ⟨v, (T.setVm vm₁).calling g' mk (Value.ref b :: As).toArray, t, U', L, hT, X', hL, e1, e2, hq, st⟩
  · dsimp only [Pt.U, Pt.locs, Pt.cells, Pt.slots] at X' e1 e2 h1 h2 h3 st hcl
    subst h1; subst h2; subst h3
    exact Or.inr ⟨q, (T.setVm vm₁).calling g' mk (Value.ref b :: As).toArray, t, U', L, E, ce, hT, X', hL, e1, e2, hq, hce, hcv, vx_cls hW₁ hcl, st⟩
theorem vx_runSX {hh : List (Nat × Nat × Nat × Nat)} (S : CallFix p m c cc nL s args Ts own) (hM : vx_Met l y ws rm Pc Qc XC mc ms free) (cw : vx_CSW R s args own index y bytes maxL ret hh ws rm mc ms n) (hp : PreS s H Pc As)
    (hg : g.method = m) (hn : As.length = n) (hsize : g.locals.size = nL) (hstack : g.stack = As.reverse ++ rest) (hW : 2 * g.monitorRoom + (rest.map fun v => v.category).sum ≤ 8) (hdg : decode cc g.pc = .ok (.invokestatic index, 3)) (hf : cells + mc ≤ R.cells ∧ slots + ms ≤ R.slots) :
    vx_Run p l e R s m args below meth c H locs cells slots mc ms g rest (Qc As.toArray) XC free := by
  obtain ⟨⟨hrc, hrs, hfr, hlo, hws, hcw⟩, hcode, hini, hy, hlen, hl, hstt⟩ := cw
  have hK : vx_Back l R p e below s args y 3 8 (PreOf R mc ms Pc) (PostOf Qc mc ms free) (vx_Post XC mc ms free) := vx_backW (hh := hh) (bytes := bytes) (maxL := maxL) (ret := ret) hM hp.1 hrc hrs hfr hlo hws hcw (fun a' U hW => word_at hW (Or.inl (by first | rfl | simp [Cond.onTables, Cond.keeps, Cond.steady])) hini)
  obtain ⟨hx, hb, hml, ho, -⟩ := S
  intro T hT X
  rcases vx_callSX X hx (hh := hh) (bytes := bytes) (maxL := maxL) (ret := ret) ho hl hstt hini hcode hy hK hg (hsize.trans hml.symm) (argsL := As) (rest := rest) (fun sig h => hn.trans (hlen sig h)) hstack hW (by rw [hb]; exact hdg)
    (fun vm₁ hW₁ => ⟨hf.1, hf.2, hp.2 (T.setVm vm₁) hT hW₁⟩) with ⟨v, vm₁, ⟨U', l2, c2, s2⟩, hW₁, X', ⟨g', mk, t, L, e1, e2, hq, h1, hL, h2, h3⟩, st⟩ | ⟨q, vm₁, ⟨U', l2, c2, s2⟩, hW₁, X', ⟨g', mk, t, L, E, ce, e1, e2, hq, hce, hcv, hcl, h1, hL, h2, h3⟩, st⟩
  · dsimp only [Pt.U, Pt.locs, Pt.cells, Pt.slots] at X' e1 e2 h1 h2 h3 st
    subst h1; subst h2; subst h3
    exact Or.inl ⟨v, (T.setVm vm₁).calling g' mk As.toArray, t, U', L, hT, X', hL, e1, e2, hq, st⟩
  · dsimp only [Pt.U, Pt.locs, Pt.cells, Pt.slots] at X' e1 e2 h1 h2 h3 st hcl
    subst h1; subst h2; subst h3
    exact Or.inr ⟨q, (T.setVm vm₁).calling g' mk As.toArray, t, U', L, E, ce, hT, X', hL, e1, e2, hq, hce, hcv, vx_cls hW₁ hcl, st⟩
end
end VXH
theorem vx_ofWH {l : Launch} {y : MethodName} {ws ws' : List Cond} {rm : Room} {Pc : Array Value → State → Prop} {Qc : Array Value → State → Outcome → State → Prop} {XC : String → State → State → Prop} {mc ms : Nat} {free : Addr → Prop} {cc : ByteArray} {maxL : Nat} {ret : Option FieldType} {hh : List (Nat × Nat × Nat × Nat)}
    (hy : plainName y.cls = true) (hw : ws = Cond.codeWith y cc maxL ret hh :: ws')
    (body : ∀ p e s m args below meth c s₁, BodyLoose p l y (headSpec ws rm) cc maxL ret e s m args below meth c s₁ → c.maxLocals = maxL → Pc args s →
      W p l e (headSpec ws rm).room s m args below meth c s.heap [] 0 0 (vx_MQ below Qc XC args s mc ms free) (entryFrame m args maxL)) : vx_Met l y ws rm Pc Qc XC mc ms free := by
  refine MetFree.of_bodyS (code := cc) (maxLocals := maxL) (ret := ret) hy ?_ ?_
  · intro args s m h hn
    obtain ⟨m9, meth, c, hn9, h1, h2, h3, h4, -, h5, h6, -⟩ := Cond.codeWith_spec (atoms_spec (ws := ws) h _ (by rw [hw]; exact List.mem_cons_self))
    cases hn.symm.trans hn9
    exact ⟨meth, c, h1, h2, h3, h4, h5, h6⟩
  · intro p e s m args below meth c s₁ B hml hP _
    have hh0 : s₁.heap = s.heap := by rw [B.state]; rfl
    obtain ⟨t, a1, o, b1, b2, b3⟩ := body p e s m args below meth c s₁ B hml hP s₁ hh0 (Stand.of_body B)
    exact ⟨t, o, a1, b1, b2, b3⟩
/-! ===== END ===== -/
end
section
/-! ===== BEGIN printed: names, fields, word lists, decode rows ===== -/
def RX0 : String := "RentSizes$Editions"
def TX0 : u_T := fun k => match k with
  | 0 => ("RentSizes$Editions", "froms", "[I", true)
  | 1 => ("RentSizes$Editions", "prices", "[I", true)
  | 2 => ("RentSizes$Editions", "rents", "[I", true)
  | 3 => ("RentSizes$Editions", "leasts", "[I", true)
  | _ => ("RentSizes$Editions", "count", "I", false)
def tyX0 : Nat → FieldType := fun k => match k with
  | 0 => .array .int
  | 1 => .array .int
  | 2 => .array .int
  | 3 => .array .int
  | _ => .int
abbrev wsX00 : List Cond := u_ws RX0 TX0 5
theorem nmX0 : ∀ a, a < 5 → ∀ b, b < 5 → a ≠ b → (TX0 a).2.1 ≠ (TX0 b).2.1 := by decide +kernel
theorem tyX0_ok : ∀ k, k < 5 → parseFieldDescriptor (TX0 k).2.2.1 = some (tyX0 k) := by decide +kernel
abbrev cX0_init : ByteArray := prog_2_method_1_code
def yX0_init : MethodName := ⟨RX0, "<init>", "()V"⟩
abbrev cX0_reset : ByteArray := prog_2_method_2_code
def yX0_reset : MethodName := ⟨RX0, "reset", "()V"⟩
abbrev cX0_hasRoom : ByteArray := prog_2_method_3_code
def yX0_hasRoom : MethodName := ⟨RX0, "hasRoom", "()Z"⟩
abbrev cX0_append : ByteArray := prog_2_method_4_code
def yX0_append : MethodName := ⟨RX0, "append", "(IIII)V"⟩
abbrev cX0_lastFrom : ByteArray := prog_2_method_5_code
def yX0_lastFrom : MethodName := ⟨RX0, "lastFrom", "()I"⟩
abbrev cX0_priceOn : ByteArray := prog_2_method_6_code
def yX0_priceOn : MethodName := ⟨RX0, "priceOn", "(I)I"⟩
abbrev cX0_rentOn : ByteArray := prog_2_method_7_code
def yX0_rentOn : MethodName := ⟨RX0, "rentOn", "(I)I"⟩
abbrev cX0_leastOn : ByteArray := prog_2_method_8_code
def yX0_leastOn : MethodName := ⟨RX0, "leastOn", "(I)I"⟩
abbrev cX0_fromOn : ByteArray := prog_2_method_9_code
def yX0_fromOn : MethodName := ⟨RX0, "fromOn", "(I)I"⟩
abbrev cX0_holding : ByteArray := prog_2_method_10_code
def yX0_holding : MethodName := ⟨RX0, "holding", "(I)I"⟩
def RX1 : String := "RentSizes$Item"
def TX1 : u_T := fun k => match k with
  | 0 => ("RentSizes$Item", "words", "[I", true)
  | 1 => ("RentSizes$Item", "layers", "LRentSizes$Layers;", true)
  | 2 => ("RentSizes$Item", "owner", "I", false)
  | 3 => ("RentSizes$Item", "size", "I", false)
  | 4 => ("RentSizes$Item", "paid", "I", false)
  | _ => ("RentSizes$Item", "state", "I", false)
def tyX1 : Nat → FieldType := fun k => match k with
  | 0 => .array .int
  | 1 => .object "RentSizes$Layers"
  | 2 => .int
  | 3 => .int
  | 4 => .int
  | _ => .int
abbrev wsX10 : List Cond := u_ws RX1 TX1 6
theorem nmX1 : ∀ a, a < 6 → ∀ b, b < 6 → a ≠ b → (TX1 a).2.1 ≠ (TX1 b).2.1 := by decide +kernel
theorem tyX1_ok : ∀ k, k < 6 → parseFieldDescriptor (TX1 k).2.2.1 = some (tyX1 k) := by decide +kernel
abbrev cX1_init : ByteArray := prog_3_method_1_code
def yX1_init : MethodName := ⟨RX1, "<init>", "()V"⟩
abbrev cX1_begin : ByteArray := prog_3_method_2_code
def yX1_begin : MethodName := ⟨RX1, "begin", "(III)V"⟩
abbrev cX1_sizeNow : ByteArray := prog_3_method_3_code
def yX1_sizeNow : MethodName := ⟨RX1, "sizeNow", "()I"⟩
abbrev cX1_sumUp : ByteArray := prog_3_method_4_code
def yX1_sumUp : MethodName := ⟨RX1, "sumUp", "()I"⟩
def RX2 : String := "RentSizes$Layers"
def TX2 : u_T := fun k => match k with
  | 0 => ("RentSizes$Layers", "bytes", "[I", true)
  | 1 => ("RentSizes$Layers", "prices", "[I", true)
  | 2 => ("RentSizes$Layers", "payers", "[I", true)
  | _ => ("RentSizes$Layers", "count", "I", false)
def tyX2 : Nat → FieldType := fun k => match k with
  | 0 => .array .int
  | 1 => .array .int
  | 2 => .array .int
  | _ => .int
abbrev wsX20 : List Cond := u_ws RX2 TX2 4
theorem nmX2 : ∀ a, a < 4 → ∀ b, b < 4 → a ≠ b → (TX2 a).2.1 ≠ (TX2 b).2.1 := by decide +kernel
theorem tyX2_ok : ∀ k, k < 4 → parseFieldDescriptor (TX2 k).2.2.1 = some (tyX2 k) := by decide +kernel
abbrev cX2_init : ByteArray := prog_4_method_1_code
def yX2_init : MethodName := ⟨RX2, "<init>", "()V"⟩
abbrev cX2_has : ByteArray := prog_4_method_2_code
def yX2_has : MethodName := ⟨RX2, "has", "(I)Z"⟩
abbrev cX2_hasRoomFor : ByteArray := prog_4_method_3_code
def yX2_hasRoomFor : MethodName := ⟨RX2, "hasRoomFor", "(II)Z"⟩
abbrev cX2_put : ByteArray := prog_4_method_4_code
def yX2_put : MethodName := ⟨RX2, "put", "(III)V"⟩
abbrev cX2_remove : ByteArray := prog_4_method_5_code
def yX2_remove : MethodName := ⟨RX2, "remove", "(I)V"⟩
abbrev cX2_worthTo : ByteArray := prog_4_method_6_code
def yX2_worthTo : MethodName := ⟨RX2, "worthTo", "(II)I"⟩
abbrev cX2_worth : ByteArray := prog_4_method_7_code
def yX2_worth : MethodName := ⟨RX2, "worth", "()I"⟩
abbrev cX2_joinsNewest : ByteArray := prog_4_method_8_code
def yX2_joinsNewest : MethodName := ⟨RX2, "joinsNewest", "(II)Z"⟩
def RX3 : String := "RentSizes$Ledger"
def TX3 : u_T := fun k => match k with
  | 0 => ("RentSizes$Ledger", "accounts", "[I", true)
  | 1 => ("RentSizes$Ledger", "nodes", "[I", true)
  | 2 => ("RentSizes$Ledger", "weights", "[I", true)
  | 3 => ("RentSizes$Ledger", "held", "I", false)
  | 4 => ("RentSizes$Ledger", "pool", "I", false)
  | _ => ("RentSizes$Ledger", "paidToNodes", "I", false)
def tyX3 : Nat → FieldType := fun k => match k with
  | 0 => .array .int
  | 1 => .array .int
  | 2 => .array .int
  | 3 => .int
  | 4 => .int
  | _ => .int
abbrev wsX30 : List Cond := u_ws RX3 TX3 6
theorem nmX3 : ∀ a, a < 6 → ∀ b, b < 6 → a ≠ b → (TX3 a).2.1 ≠ (TX3 b).2.1 := by decide +kernel
theorem tyX3_ok : ∀ k, k < 6 → parseFieldDescriptor (TX3 k).2.2.1 = some (tyX3 k) := by decide +kernel
abbrev cX3_init : ByteArray := prog_5_method_1_code
def yX3_init : MethodName := ⟨RX3, "<init>", "()V"⟩
abbrev cX3_reset : ByteArray := prog_5_method_2_code
def yX3_reset : MethodName := ⟨RX3, "reset", "()V"⟩
abbrev cX3_canPay : ByteArray := prog_5_method_3_code
def yX3_canPay : MethodName := ⟨RX3, "canPay", "(IJ)Z"⟩
abbrev cX3_takeFrom : ByteArray := prog_5_method_4_code
def yX3_takeFrom : MethodName := ⟨RX3, "takeFrom", "(IJJ)I"⟩
abbrev cX3_giveTo : ByteArray := prog_5_method_5_code
def yX3_giveTo : MethodName := ⟨RX3, "giveTo", "(II)I"⟩
abbrev cX3_sharePool : ByteArray := prog_5_method_6_code
def yX3_sharePool : MethodName := ⟨RX3, "sharePool", "()V"⟩
abbrev cX3_allCoins : ByteArray := prog_5_method_7_code
def yX3_allCoins : MethodName := ⟨RX3, "allCoins", "()I"⟩
abbrev cX3_payNode : ByteArray := prog_5_method_8_code
def yX3_payNode : MethodName := ⟨RX3, "payNode", "(II)V"⟩
abbrev cX3_rankOf : ByteArray := prog_5_method_9_code
def yX3_rankOf : MethodName := ⟨RX3, "rankOf", "(I)I"⟩
abbrev cX3_sumOf : ByteArray := prog_5_method_10_code
def yX3_sumOf : MethodName := ⟨RX3, "sumOf", "([I)I"⟩
def RX4 : String := "RentSizes"
def TX4 : u_T := fun k => match k with
  | 0 => ("RentSizes", "editions", "LRentSizes$Editions;", true)
  | 1 => ("RentSizes", "ledger", "LRentSizes$Ledger;", true)
  | 2 => ("RentSizes", "caps", "[I", true)
  | 3 => ("RentSizes", "items", "[LRentSizes$Item;", true)
  | 4 => ("RentSizes", "made", "I", false)
  | _ => ("RentSizes", "height", "I", false)
def tyX4 : Nat → FieldType := fun k => match k with
  | 0 => .object "RentSizes$Editions"
  | 1 => .object "RentSizes$Ledger"
  | 2 => .array .int
  | 3 => .array (.object "RentSizes$Item")
  | 4 => .int
  | _ => .int
abbrev wsX40 : List Cond := u_ws RX4 TX4 6
theorem nmX4 : ∀ a, a < 6 → ∀ b, b < 6 → a ≠ b → (TX4 a).2.1 ≠ (TX4 b).2.1 := by decide +kernel
theorem tyX4_ok : ∀ k, k < 6 → parseFieldDescriptor (TX4 k).2.2.1 = some (tyX4 k) := by decide +kernel
abbrev cX4_init : ByteArray := prog_1_method_1_code
def yX4_init : MethodName := ⟨RX4, "<init>", "()V"⟩
abbrev cX4_edition : ByteArray := prog_1_method_2_code
def yX4_edition : MethodName := ⟨RX4, "edition", "(IIII)I"⟩
abbrev cX4_priceAt : ByteArray := prog_1_method_3_code
def yX4_priceAt : MethodName := ⟨RX4, "priceAt", "(II)I"⟩
abbrev cX4_cap : ByteArray := prog_1_method_4_code
def yX4_cap : MethodName := ⟨RX4, "cap", "(II)I"⟩
abbrev cX4_make : ByteArray := prog_1_method_5_code
def yX4_make : MethodName := ⟨RX4, "make", "(IIII)I"⟩
abbrev cX4_grow : ByteArray := prog_1_method_6_code
def yX4_grow : MethodName := ⟨RX4, "grow", "(III)I"⟩
abbrev cX4_shrink : ByteArray := prog_1_method_7_code
def yX4_shrink : MethodName := ⟨RX4, "shrink", "(II)I"⟩
abbrev cX4_pay : ByteArray := prog_1_method_8_code
def yX4_pay : MethodName := ⟨RX4, "pay", "(III)I"⟩
abbrev cX4_write : ByteArray := prog_1_method_9_code
def yX4_write : MethodName := ⟨RX4, "write", "(III)I"⟩
abbrev cX4_drop : ByteArray := prog_1_method_10_code
def yX4_drop : MethodName := ⟨RX4, "drop", "(I)I"⟩
abbrev cX4_back : ByteArray := prog_1_method_11_code
def yX4_back : MethodName := ⟨RX4, "back", "(IIII)I"⟩
abbrev cX4_digest : ByteArray := prog_1_method_12_code
def yX4_digest : MethodName := ⟨RX4, "digest", "(I)I"⟩
abbrev cX4_tick : ByteArray := prog_1_method_13_code
def yX4_tick : MethodName := ⟨RX4, "tick", "(I)I"⟩
abbrev cX4_weight : ByteArray := prog_1_method_14_code
def yX4_weight : MethodName := ⟨RX4, "weight", "(II)I"⟩
abbrev cX4_coins : ByteArray := prog_1_method_15_code
def yX4_coins : MethodName := ⟨RX4, "coins", "(II)I"⟩
abbrev cX4_object : ByteArray := prog_1_method_16_code
def yX4_object : MethodName := ⟨RX4, "object", "(II)I"⟩
abbrev cX4_layer : ByteArray := prog_1_method_17_code
def yX4_layer : MethodName := ⟨RX4, "layer", "(III)I"⟩
abbrev cX4_word : ByteArray := prog_1_method_18_code
def yX4_word : MethodName := ⟨RX4, "word", "(II)I"⟩
abbrev cX4_wouldGive : ByteArray := prog_1_method_19_code
def yX4_wouldGive : MethodName := ⟨RX4, "wouldGive", "(III)I"⟩
abbrev cX4_exact : ByteArray := prog_1_method_20_code
def yX4_exact : MethodName := ⟨RX4, "exact", "(JJ)J"⟩
abbrev cX4_told : ByteArray := prog_1_method_21_code
def yX4_told : MethodName := ⟨RX4, "told", "(I)I"⟩
abbrev cX4_clear : ByteArray := prog_1_method_22_code
def yX4_clear : MethodName := ⟨RX4, "clear", "()I"⟩
abbrev cX4_beginAnew : ByteArray := prog_1_method_23_code
def yX4_beginAnew : MethodName := ⟨RX4, "beginAnew", "()V"⟩
abbrev cX4_within : ByteArray := prog_1_method_24_code
def yX4_within : MethodName := ⟨RX4, "within", "(III)Z"⟩
abbrev cX4_isAccount : ByteArray := prog_1_method_25_code
def yX4_isAccount : MethodName := ⟨RX4, "isAccount", "(I)Z"⟩
abbrev cX4_isNode : ByteArray := prog_1_method_26_code
def yX4_isNode : MethodName := ⟨RX4, "isNode", "(I)Z"⟩
abbrev cX4_find : ByteArray := prog_1_method_27_code
def yX4_find : MethodName := ⟨RX4, "find", "(I)LRentSizes$Item;"⟩
abbrev cX4_freshItem : ByteArray := prog_1_method_28_code
def yX4_freshItem : MethodName := ⟨RX4, "freshItem", "()LRentSizes$Item;"⟩
abbrev cX4_chargedSize : ByteArray := prog_1_method_29_code
def yX4_chargedSize : MethodName := ⟨RX4, "chargedSize", "(I)I"⟩
abbrev cX4_rentOf : ByteArray := prog_1_method_30_code
def yX4_rentOf : MethodName := ⟨RX4, "rentOf", "(II)J"⟩
abbrev cX4_capsAllow : ByteArray := prog_1_method_31_code
def yX4_capsAllow : MethodName := ⟨RX4, "capsAllow", "(II)Z"⟩
abbrev cX4_liveSizes : ByteArray := prog_1_method_32_code
def yX4_liveSizes : MethodName := ⟨RX4, "liveSizes", "(I)I"⟩
abbrev cX4_countOf : ByteArray := prog_1_method_33_code
def yX4_countOf : MethodName := ⟨RX4, "countOf", "(I)I"⟩
abbrev cX4_archiveUnpaid : ByteArray := prog_1_method_34_code
def yX4_archiveUnpaid : MethodName := ⟨RX4, "archiveUnpaid", "()I"⟩
abbrev cX4_refusalToShrink : ByteArray := prog_1_method_35_code
def yX4_refusalToShrink : MethodName := ⟨RX4, "refusalToShrink", "(LRentSizes$Item;I)I"⟩
abbrev cX4_giveBack : ByteArray := prog_1_method_36_code
def yX4_giveBack : MethodName := ⟨RX4, "giveBack", "(LRentSizes$Item;I)I"⟩
def RX5 : String := "RentSizesModel"
def TX5 : u_T := fun k => match k with
  | 0 => ("RentSizesModel", "height", "I", false)
  | 1 => ("RentSizesModel", "editions", "I", false)
  | 2 => ("RentSizesModel", "eFrom", "[I", true)
  | 3 => ("RentSizesModel", "ePrice", "[I", true)
  | 4 => ("RentSizesModel", "eRent", "[I", true)
  | 5 => ("RentSizesModel", "eLeast", "[I", true)
  | 6 => ("RentSizesModel", "accountCoins", "[I", true)
  | 7 => ("RentSizesModel", "caps", "[I", true)
  | 8 => ("RentSizesModel", "nodeCoins", "[I", true)
  | 9 => ("RentSizesModel", "weights", "[I", true)
  | 10 => ("RentSizesModel", "pool", "I", false)
  | 11 => ("RentSizesModel", "paidOut", "I", false)
  | 12 => ("RentSizesModel", "objects", "I", false)
  | 13 => ("RentSizesModel", "owner", "[I", true)
  | 14 => ("RentSizesModel", "size", "[I", true)
  | 15 => ("RentSizesModel", "words", "[I", true)
  | 16 => ("RentSizesModel", "paid", "[I", true)
  | 17 => ("RentSizesModel", "state", "[I", true)
  | 18 => ("RentSizesModel", "layers", "[I", true)
  | 19 => ("RentSizesModel", "layerBytes", "[I", true)
  | 20 => ("RentSizesModel", "layerPrice", "[I", true)
  | 21 => ("RentSizesModel", "layerFrom", "[I", true)
  | _ => ("RentSizesModel", "thrownNow", "I", false)
def tyX5 : Nat → FieldType := fun k => match k with
  | 0 => .int
  | 1 => .int
  | 2 => .array .int
  | 3 => .array .int
  | 4 => .array .int
  | 5 => .array .int
  | 6 => .array .int
  | 7 => .array .int
  | 8 => .array .int
  | 9 => .array .int
  | 10 => .int
  | 11 => .int
  | 12 => .int
  | 13 => .array .int
  | 14 => .array .int
  | 15 => .array .int
  | 16 => .array .int
  | 17 => .array .int
  | 18 => .array .int
  | 19 => .array .int
  | 20 => .array .int
  | 21 => .array .int
  | _ => .int
abbrev wsX50 : List Cond := u_ws RX5 TX5 23
theorem nmX5 : ∀ a, a < 23 → ∀ b, b < 23 → a ≠ b → (TX5 a).2.1 ≠ (TX5 b).2.1 := by decide +kernel
theorem tyX5_ok : ∀ k, k < 23 → parseFieldDescriptor (TX5 k).2.2.1 = some (tyX5 k) := by decide +kernel
abbrev cX5_init : ByteArray := prog_7_method_1_code
def yX5_init : MethodName := ⟨RX5, "<init>", "()V"⟩
abbrev cX5_in : ByteArray := prog_7_method_2_code
def yX5_in : MethodName := ⟨RX5, "in", "(JJJ)Z"⟩
abbrev cX5_begin : ByteArray := prog_7_method_3_code
def yX5_begin : MethodName := ⟨RX5, "begin", "()V"⟩
abbrev cX5_noAccount : ByteArray := prog_7_method_4_code
def yX5_noAccount : MethodName := ⟨RX5, "noAccount", "(I)Z"⟩
abbrev cX5_noObject : ByteArray := prog_7_method_5_code
def yX5_noObject : MethodName := ⟨RX5, "noObject", "(I)Z"⟩
abbrev cX5_edition : ByteArray := prog_7_method_6_code
def yX5_edition : MethodName := ⟨RX5, "edition", "(IIII)I"⟩
abbrev cX5_editionAt : ByteArray := prog_7_method_7_code
def yX5_editionAt : MethodName := ⟨RX5, "editionAt", "(I)I"⟩
abbrev cX5_priceAt : ByteArray := prog_7_method_8_code
def yX5_priceAt : MethodName := ⟨RX5, "priceAt", "(II)I"⟩
abbrev cX5_price : ByteArray := prog_7_method_9_code
def yX5_price : MethodName := ⟨RX5, "price", "()I"⟩
abbrev cX5_rent : ByteArray := prog_7_method_10_code
def yX5_rent : MethodName := ⟨RX5, "rent", "()I"⟩
abbrev cX5_charged : ByteArray := prog_7_method_11_code
def yX5_charged : MethodName := ⟨RX5, "charged", "(I)I"⟩
abbrev cX5_cap : ByteArray := prog_7_method_12_code
def yX5_cap : MethodName := ⟨RX5, "cap", "(II)I"⟩
abbrev cX5_liveSizes : ByteArray := prog_7_method_13_code
def yX5_liveSizes : MethodName := ⟨RX5, "liveSizes", "(I)I"⟩
abbrev cX5_isCapped : ByteArray := prog_7_method_14_code
def yX5_isCapped : MethodName := ⟨RX5, "isCapped", "(II)Z"⟩
abbrev cX5_needsLayer : ByteArray := prog_7_method_15_code
def yX5_needsLayer : MethodName := ⟨RX5, "needsLayer", "(II)Z"⟩
abbrev cX5_comes : ByteArray := prog_7_method_16_code
def yX5_comes : MethodName := ⟨RX5, "comes", "(III)V"⟩
abbrev cX5_gives : ByteArray := prog_7_method_17_code
def yX5_gives : MethodName := ⟨RX5, "gives", "(III)I"⟩
abbrev cX5_goes : ByteArray := prog_7_method_18_code
def yX5_goes : MethodName := ⟨RX5, "goes", "(II)I"⟩
abbrev cX5_heldFor : ByteArray := prog_7_method_19_code
def yX5_heldFor : MethodName := ⟨RX5, "heldFor", "(I)I"⟩
abbrev cX5_make : ByteArray := prog_7_method_20_code
def yX5_make : MethodName := ⟨RX5, "make", "(IIII)I"⟩
abbrev cX5_sizeNow : ByteArray := prog_7_method_21_code
def yX5_sizeNow : MethodName := ⟨RX5, "sizeNow", "(I)I"⟩
abbrev cX5_grow : ByteArray := prog_7_method_22_code
def yX5_grow : MethodName := ⟨RX5, "grow", "(III)I"⟩
abbrev cX5_shrink : ByteArray := prog_7_method_23_code
def yX5_shrink : MethodName := ⟨RX5, "shrink", "(II)I"⟩
abbrev cX5_pay : ByteArray := prog_7_method_24_code
def yX5_pay : MethodName := ⟨RX5, "pay", "(III)I"⟩
abbrev cX5_write : ByteArray := prog_7_method_25_code
def yX5_write : MethodName := ⟨RX5, "write", "(III)I"⟩
abbrev cX5_drop : ByteArray := prog_7_method_26_code
def yX5_drop : MethodName := ⟨RX5, "drop", "(I)I"⟩
abbrev cX5_digestOf : ByteArray := prog_7_method_27_code
def yX5_digestOf : MethodName := ⟨RX5, "digestOf", "(I)I"⟩
abbrev cX5_back : ByteArray := prog_7_method_28_code
def yX5_back : MethodName := ⟨RX5, "back", "(IIII)I"⟩
abbrev cX5_digest : ByteArray := prog_7_method_29_code
def yX5_digest : MethodName := ⟨RX5, "digest", "(I)I"⟩
abbrev cX5_allWeights : ByteArray := prog_7_method_30_code
def yX5_allWeights : MethodName := ⟨RX5, "allWeights", "()I"⟩
abbrev cX5_rank : ByteArray := prog_7_method_31_code
def yX5_rank : MethodName := ⟨RX5, "rank", "(I)I"⟩
abbrev cX5_share : ByteArray := prog_7_method_32_code
def yX5_share : MethodName := ⟨RX5, "share", "()V"⟩
abbrev cX5_tick : ByteArray := prog_7_method_33_code
def yX5_tick : MethodName := ⟨RX5, "tick", "(I)I"⟩
abbrev cX5_weight : ByteArray := prog_7_method_34_code
def yX5_weight : MethodName := ⟨RX5, "weight", "(II)I"⟩
abbrev cX5_coins : ByteArray := prog_7_method_35_code
def yX5_coins : MethodName := ⟨RX5, "coins", "(II)I"⟩
abbrev cX5_object : ByteArray := prog_7_method_36_code
def yX5_object : MethodName := ⟨RX5, "object", "(II)I"⟩
abbrev cX5_layer : ByteArray := prog_7_method_37_code
def yX5_layer : MethodName := ⟨RX5, "layer", "(III)I"⟩
abbrev cX5_word : ByteArray := prog_7_method_38_code
def yX5_word : MethodName := ⟨RX5, "word", "(II)I"⟩
abbrev cX5_wouldGive : ByteArray := prog_7_method_39_code
def yX5_wouldGive : MethodName := ⟨RX5, "wouldGive", "(III)I"⟩
abbrev cX5_exact : ByteArray := prog_7_method_40_code
def yX5_exact : MethodName := ⟨RX5, "exact", "(JJ)J"⟩
abbrev cX5_thrown : ByteArray := prog_7_method_41_code
def yX5_thrown : MethodName := ⟨RX5, "thrown", "()I"⟩
abbrev cX5_held : ByteArray := prog_7_method_42_code
def yX5_held : MethodName := ⟨RX5, "held", "()I"⟩
abbrev cX5_manyOf : ByteArray := prog_7_method_43_code
def yX5_manyOf : MethodName := ⟨RX5, "manyOf", "(I)I"⟩
abbrev cX5_allCoins : ByteArray := prog_7_method_44_code
def yX5_allCoins : MethodName := ⟨RX5, "allCoins", "()I"⟩
abbrev cX5_told : ByteArray := prog_7_method_45_code
def yX5_told : MethodName := ⟨RX5, "told", "(I)I"⟩
abbrev cX5_clear : ByteArray := prog_7_method_46_code
def yX5_clear : MethodName := ⟨RX5, "clear", "()I"⟩
def RJ9 : String := "java/lang/Math"
def TJ9 : u_T := fun k => match k with
  | _ => ("", "", "", false)
def tyJ9 : Nat → FieldType := fun k => match k with
  | _ => .int
abbrev wsJ90 : List Cond := u_ws RJ9 TJ9 0
theorem nmJ9 : ∀ a, a < 0 → ∀ b, b < 0 → a ≠ b → (TJ9 a).2.1 ≠ (TJ9 b).2.1 := by decide +kernel
theorem tyJ9_ok : ∀ k, k < 0 → parseFieldDescriptor (TJ9 k).2.2.1 = some (tyJ9 k) := by decide +kernel
abbrev cJ9_max_7cf53 : ByteArray := prog_10_method_65_code
def yJ9_max_7cf53 : MethodName := ⟨RJ9, "max", "(II)I"⟩
abbrev cJ9_min_7cf53 : ByteArray := prog_10_method_69_code
def yJ9_min_7cf53 : MethodName := ⟨RJ9, "min", "(II)I"⟩
def RJ0 : String := "java/lang/String"
def TJ0 : u_T := fun k => match k with
  | _ => ("", "", "", false)
def tyJ0 : Nat → FieldType := fun k => match k with
  | _ => .int
abbrev wsJ00 : List Cond := u_ws RJ0 TJ0 0
theorem nmJ0 : ∀ a, a < 0 → ∀ b, b < 0 → a ≠ b → (TJ0 a).2.1 ≠ (TJ0 b).2.1 := by decide +kernel
theorem tyJ0_ok : ∀ k, k < 0 → parseFieldDescriptor (TJ0 k).2.2.1 = some (tyJ0 k) := by decide +kernel
def RJ7 : String := "java/util/Arrays"
def TJ7 : u_T := fun k => match k with
  | _ => ("", "", "", false)
def tyJ7 : Nat → FieldType := fun k => match k with
  | _ => .int
abbrev wsJ70 : List Cond := u_ws RJ7 TJ7 0
theorem nmJ7 : ∀ a, a < 0 → ∀ b, b < 0 → a ≠ b → (TJ7 a).2.1 ≠ (TJ7 b).2.1 := by decide +kernel
theorem tyJ7_ok : ∀ k, k < 0 → parseFieldDescriptor (TJ7 k).2.2.1 = some (tyJ7 k) := by decide +kernel
abbrev cJ7_fill_53178 : ByteArray := prog_14_method_103_code
def yJ7_fill_53178 : MethodName := ⟨RJ7, "fill", "([II)V"⟩
def RL : String := "RentSizesLaw"
abbrev cL_exact : ByteArray := method_3_code
def yL_exact : MethodName := ⟨RL, "exact", "(LRentSizes;JJ[J)I"⟩
abbrev cL_law : ByteArray := code
def yL_law : MethodName := ⟨RL, "law", "([I)Z"⟩
def wsX0_init : List Cond := .code yX0_init cX0_init 1 none :: ([.methodLink RX0 3 objectInit, .instanceMethod objectInit, .code objectInit ⟨#[0xb1]⟩ 1 none, .arrayClass .int, .fieldLink RX0 9 "RentSizes$Editions" "froms" "[I", .fieldLink RX0 15 "RentSizes$Editions" "prices" "[I", .fieldLink RX0 18 "RentSizes$Editions" "rents" "[I", .fieldLink RX0 21 "RentSizes$Editions" "leasts" "[I"] ++ wsX00)
def wsX0_append : List Cond := .code yX0_append cX0_append 5 none :: ([.fieldLink RX0 24 "RentSizes$Editions" "count" "I", .fieldLink RX0 9 "RentSizes$Editions" "froms" "[I", .fieldLink RX0 15 "RentSizes$Editions" "prices" "[I", .fieldLink RX0 18 "RentSizes$Editions" "rents" "[I", .fieldLink RX0 21 "RentSizes$Editions" "leasts" "[I"] ++ wsX00)
def wsX0_reset : List Cond := .code yX0_reset cX0_reset 1 none :: ([.fieldLink RX0 24 "RentSizes$Editions" "count" "I", .methodLink RX0 28 yX0_append, .instanceMethod yX0_append, .selects RX0 yX0_append yX0_append, .initialized RX0, .code yX0_append cX0_append 5 none, .fieldLink RX0 9 "RentSizes$Editions" "froms" "[I", .fieldLink RX0 15 "RentSizes$Editions" "prices" "[I", .fieldLink RX0 18 "RentSizes$Editions" "rents" "[I", .fieldLink RX0 21 "RentSizes$Editions" "leasts" "[I"] ++ wsX00)
def wsX0_hasRoom : List Cond := .code yX0_hasRoom cX0_hasRoom 1 (some .boolean) :: ([.fieldLink RX0 24 "RentSizes$Editions" "count" "I"] ++ wsX00)
def wsX0_lastFrom : List Cond := .code yX0_lastFrom cX0_lastFrom 1 (some .int) :: ([.fieldLink RX0 24 "RentSizes$Editions" "count" "I", .fieldLink RX0 9 "RentSizes$Editions" "froms" "[I"] ++ wsX00)
def wsX0_holding : List Cond := .code yX0_holding cX0_holding 3 (some .int) :: ([.fieldLink RX0 24 "RentSizes$Editions" "count" "I", .fieldLink RX0 9 "RentSizes$Editions" "froms" "[I"] ++ wsX00)
def wsX0_priceOn : List Cond := .code yX0_priceOn cX0_priceOn 2 (some .int) :: ([.fieldLink RX0 15 "RentSizes$Editions" "prices" "[I", .methodLink RX0 32 yX0_holding, .instanceMethod yX0_holding, .selects RX0 yX0_holding yX0_holding, .initialized RX0, .code yX0_holding cX0_holding 3 (some .int), .fieldLink RX0 24 "RentSizes$Editions" "count" "I", .fieldLink RX0 9 "RentSizes$Editions" "froms" "[I"] ++ wsX00)
def wsX0_rentOn : List Cond := .code yX0_rentOn cX0_rentOn 2 (some .int) :: ([.fieldLink RX0 18 "RentSizes$Editions" "rents" "[I", .methodLink RX0 32 yX0_holding, .instanceMethod yX0_holding, .selects RX0 yX0_holding yX0_holding, .initialized RX0, .code yX0_holding cX0_holding 3 (some .int), .fieldLink RX0 24 "RentSizes$Editions" "count" "I", .fieldLink RX0 9 "RentSizes$Editions" "froms" "[I"] ++ wsX00)
def wsX0_leastOn : List Cond := .code yX0_leastOn cX0_leastOn 2 (some .int) :: ([.fieldLink RX0 21 "RentSizes$Editions" "leasts" "[I", .methodLink RX0 32 yX0_holding, .instanceMethod yX0_holding, .selects RX0 yX0_holding yX0_holding, .initialized RX0, .code yX0_holding cX0_holding 3 (some .int), .fieldLink RX0 24 "RentSizes$Editions" "count" "I", .fieldLink RX0 9 "RentSizes$Editions" "froms" "[I"] ++ wsX00)
def wsX0_fromOn : List Cond := .code yX0_fromOn cX0_fromOn 2 (some .int) :: ([.fieldLink RX0 9 "RentSizes$Editions" "froms" "[I", .methodLink RX0 32 yX0_holding, .instanceMethod yX0_holding, .selects RX0 yX0_holding yX0_holding, .initialized RX0, .code yX0_holding cX0_holding 3 (some .int), .fieldLink RX0 24 "RentSizes$Editions" "count" "I"] ++ wsX00)
def wsX2_init : List Cond := .code yX2_init cX2_init 1 none :: ([.methodLink RX2 3 objectInit, .instanceMethod objectInit, .code objectInit ⟨#[0xb1]⟩ 1 none, .arrayClass .int, .fieldLink RX2 9 "RentSizes$Layers" "bytes" "[I", .fieldLink RX2 15 "RentSizes$Layers" "prices" "[I", .fieldLink RX2 18 "RentSizes$Layers" "payers" "[I"] ++ wsX20)
def wsX1_init : List Cond := .code yX1_init cX1_init 1 none :: ([.methodLink RX1 3 objectInit, .instanceMethod objectInit, .code objectInit ⟨#[0xb1]⟩ 1 none, .arrayClass .int, .fieldLink RX1 9 "RentSizes$Item" "words" "[I", .classLink RX1 15 RX2, .instantiable RX2 4, .initialized RX2, .fieldLink RX1 18 "RentSizes$Item" "layers" "LRentSizes$Layers;", .instanceMethod yX2_init, .code yX2_init cX2_init 1 none, .methodLink RX2 3 objectInit, .fieldLink RX2 9 "RentSizes$Layers" "bytes" "[I", .fieldLink RX2 15 "RentSizes$Layers" "prices" "[I", .fieldLink RX2 18 "RentSizes$Layers" "payers" "[I"] ++ wsX10 ++ wsX20)
def wsJ7_fill_53178 : List Cond := .code yJ7_fill_53178 cJ7_fill_53178 4 none :: ([])
def wsX1_begin : List Cond := .code yX1_begin cX1_begin 4 none :: ([.fieldLink RX1 22 "RentSizes$Item" "owner" "I", .fieldLink RX1 26 "RentSizes$Item" "size" "I", .fieldLink RX1 29 "RentSizes$Item" "paid" "I", .fieldLink RX1 32 "RentSizes$Item" "state" "I", .fieldLink RX1 9 "RentSizes$Item" "words" "[I", .fieldLink RX1 18 "RentSizes$Item" "layers" "LRentSizes$Layers;", .methodLink RX1 35 yJ7_fill_53178, .static yJ7_fill_53178, .initialized RJ7, .code yJ7_fill_53178 cJ7_fill_53178 4 none] ++ wsX10 ++ wsX20)
def wsX1_sizeNow : List Cond := .code yX1_sizeNow cX1_sizeNow 1 (some .int) :: ([.fieldLink RX1 32 "RentSizes$Item" "state" "I", .fieldLink RX1 26 "RentSizes$Item" "size" "I"] ++ wsX10)
def wsX1_sumUp : List Cond := .code yX1_sumUp cX1_sumUp 3 (some .int) :: ([.fieldLink RX1 26 "RentSizes$Item" "size" "I", .fieldLink RX1 9 "RentSizes$Item" "words" "[I"] ++ wsX10)
def wsX4_within : List Cond := .code yX4_within cX4_within 3 (some .boolean) :: ([])
def wsX2_has : List Cond := .code yX2_has cX2_has 2 (some .boolean) :: ([.fieldLink RX2 21 "RentSizes$Layers" "count" "I", .static yX4_within, .initialized RX4, .code yX4_within cX4_within 3 (some .boolean)] ++ wsX20)
def wsX2_joinsNewest : List Cond := .code yX2_joinsNewest cX2_joinsNewest 3 (some .boolean) :: ([.fieldLink RX2 21 "RentSizes$Layers" "count" "I", .fieldLink RX2 15 "RentSizes$Layers" "prices" "[I", .fieldLink RX2 18 "RentSizes$Layers" "payers" "[I"] ++ wsX20)
def wsX2_hasRoomFor : List Cond := .code yX2_hasRoomFor cX2_hasRoomFor 3 (some .boolean) :: ([.fieldLink RX2 21 "RentSizes$Layers" "count" "I", .methodLink RX2 29 yX2_joinsNewest, .instanceMethod yX2_joinsNewest, .selects RX2 yX2_joinsNewest yX2_joinsNewest, .initialized RX2, .code yX2_joinsNewest cX2_joinsNewest 3 (some .boolean), .fieldLink RX2 15 "RentSizes$Layers" "prices" "[I", .fieldLink RX2 18 "RentSizes$Layers" "payers" "[I"] ++ wsX20)
def wsX2_put : List Cond := .code yX2_put cX2_put 4 none :: ([.fieldLink RX2 9 "RentSizes$Layers" "bytes" "[I", .fieldLink RX2 21 "RentSizes$Layers" "count" "I", .fieldLink RX2 15 "RentSizes$Layers" "prices" "[I", .fieldLink RX2 18 "RentSizes$Layers" "payers" "[I", .methodLink RX2 29 yX2_joinsNewest, .instanceMethod yX2_joinsNewest, .selects RX2 yX2_joinsNewest yX2_joinsNewest, .initialized RX2, .code yX2_joinsNewest cX2_joinsNewest 3 (some .boolean)] ++ wsX20)
def wsX2_remove : List Cond := .code yX2_remove cX2_remove 5 none :: ([.fieldLink RX2 21 "RentSizes$Layers" "count" "I", .fieldLink RX2 9 "RentSizes$Layers" "bytes" "[I", .methodLink RX2 33 Lib.Math.min.name, .static Lib.Math.min.name, .initialized "java/lang/Math", .code Lib.Math.min.name Lib.Math.min.code 2 (some .int)] ++ wsX20)
def wsX2_worthTo : List Cond := .code yX2_worthTo cX2_worthTo 7 (some .int) :: ([.fieldLink RX2 21 "RentSizes$Layers" "count" "I", .fieldLink RX2 9 "RentSizes$Layers" "bytes" "[I", .methodLink RX2 33 Lib.Math.min.name, .static Lib.Math.min.name, .initialized "java/lang/Math", .code Lib.Math.min.name Lib.Math.min.code 2 (some .int), .fieldLink RX2 18 "RentSizes$Layers" "payers" "[I", .fieldLink RX2 15 "RentSizes$Layers" "prices" "[I"] ++ wsX20)
def wsX2_worth : List Cond := .code yX2_worth cX2_worth 3 (some .int) :: ([.fieldLink RX2 21 "RentSizes$Layers" "count" "I", .fieldLink RX2 9 "RentSizes$Layers" "bytes" "[I", .fieldLink RX2 15 "RentSizes$Layers" "prices" "[I"] ++ wsX20)
def wsX3_init : List Cond := .code yX3_init cX3_init 1 none :: ([.methodLink RX3 3 objectInit, .instanceMethod objectInit, .code objectInit ⟨#[0xb1]⟩ 1 none, .arrayClass .int, .fieldLink RX3 9 "RentSizes$Ledger" "accounts" "[I", .fieldLink RX3 15 "RentSizes$Ledger" "nodes" "[I", .fieldLink RX3 18 "RentSizes$Ledger" "weights" "[I"] ++ wsX30)
def wsX3_reset : List Cond := .code yX3_reset cX3_reset 1 none :: ([.fieldLink RX3 9 "RentSizes$Ledger" "accounts" "[I", .constant RX3 21 (100000), .fieldLink RX3 15 "RentSizes$Ledger" "nodes" "[I", .fieldLink RX3 18 "RentSizes$Ledger" "weights" "[I", .fieldLink RX3 28 "RentSizes$Ledger" "held" "I", .fieldLink RX3 32 "RentSizes$Ledger" "pool" "I", .fieldLink RX3 35 "RentSizes$Ledger" "paidToNodes" "I", .methodLink RX3 22 yJ7_fill_53178, .static yJ7_fill_53178, .initialized RJ7, .code yJ7_fill_53178 cJ7_fill_53178 4 none] ++ wsX30)
def wsX3_canPay : List Cond := .code yX3_canPay cX3_canPay 4 (some .boolean) :: ([.fieldLink RX3 9 "RentSizes$Ledger" "accounts" "[I"] ++ wsX30)
def wsX3_takeFrom : List Cond := .code yX3_takeFrom cX3_takeFrom 7 (some .int) :: ([.fieldLink RX3 9 "RentSizes$Ledger" "accounts" "[I", .fieldLink RX3 28 "RentSizes$Ledger" "held" "I", .fieldLink RX3 32 "RentSizes$Ledger" "pool" "I"] ++ wsX30)
def wsX3_giveTo : List Cond := .code yX3_giveTo cX3_giveTo 3 (some .int) :: ([.fieldLink RX3 28 "RentSizes$Ledger" "held" "I", .fieldLink RX3 9 "RentSizes$Ledger" "accounts" "[I"] ++ wsX30)
def wsX3_sumOf : List Cond := .code yX3_sumOf cX3_sumOf 3 (some .int) :: ([])
def wsX3_payNode : List Cond := .code yX3_payNode cX3_payNode 3 none :: ([.fieldLink RX3 32 "RentSizes$Ledger" "pool" "I", .fieldLink RX3 15 "RentSizes$Ledger" "nodes" "[I", .fieldLink RX3 35 "RentSizes$Ledger" "paidToNodes" "I"] ++ wsX30)
def wsX3_rankOf : List Cond := .code yX3_rankOf cX3_rankOf 4 (some .int) :: ([.fieldLink RX3 18 "RentSizes$Ledger" "weights" "[I"] ++ wsX30)
def wsX3_sharePool : List Cond := .code yX3_sharePool cX3_sharePool 5 none :: ([.fieldLink RX3 18 "RentSizes$Ledger" "weights" "[I", .fieldLink RX3 32 "RentSizes$Ledger" "pool" "I", .methodLink RX3 38 yX3_sumOf, .static yX3_sumOf, .initialized RX3, .code yX3_sumOf cX3_sumOf 3 (some .int), .methodLink RX3 42 yX3_payNode, .instanceMethod yX3_payNode, .selects RX3 yX3_payNode yX3_payNode, .code yX3_payNode cX3_payNode 3 none, .fieldLink RX3 15 "RentSizes$Ledger" "nodes" "[I", .fieldLink RX3 35 "RentSizes$Ledger" "paidToNodes" "I", .methodLink RX3 46 yX3_rankOf, .instanceMethod yX3_rankOf, .selects RX3 yX3_rankOf yX3_rankOf, .code yX3_rankOf cX3_rankOf 4 (some .int)] ++ wsX30)
def wsX3_allCoins : List Cond := .code yX3_allCoins cX3_allCoins 1 (some .int) :: ([.fieldLink RX3 9 "RentSizes$Ledger" "accounts" "[I", .fieldLink RX3 15 "RentSizes$Ledger" "nodes" "[I", .fieldLink RX3 28 "RentSizes$Ledger" "held" "I", .fieldLink RX3 32 "RentSizes$Ledger" "pool" "I", .methodLink RX3 38 yX3_sumOf, .static yX3_sumOf, .initialized RX3, .code yX3_sumOf cX3_sumOf 3 (some .int)] ++ wsX30)
def wsX4_beginAnew_r1 : List Cond := [Cond.fieldLink RX4 10 "RentSizes" "editions" "LRentSizes$Editions;", Cond.fieldLink RX4 19 "RentSizes" "ledger" "LRentSizes$Ledger;", Cond.fieldLink RX4 23 "RentSizes" "caps" "[I", Cond.fieldLink RX4 92 "RentSizes" "made" "I", Cond.fieldLink RX4 41 "RentSizes" "height" "I", Cond.methodLink RX4 220 yX0_reset, Cond.instanceMethod yX0_reset, Cond.selects RX0 yX0_reset yX0_reset, Cond.initialized RX0, Cond.code yX0_reset cX0_reset 1 none, Cond.fieldLink RX0 24 "RentSizes$Editions" "count" "I", Cond.methodLink RX0 28 yX0_append, Cond.instanceMethod yX0_append, Cond.selects RX0 yX0_append yX0_append, Cond.code yX0_append cX0_append 5 none, Cond.fieldLink RX0 9 "RentSizes$Editions" "froms" "[I", Cond.fieldLink RX0 15 "RentSizes$Editions" "prices" "[I", Cond.fieldLink RX0 18 "RentSizes$Editions" "rents" "[I", Cond.fieldLink RX0 21 "RentSizes$Editions" "leasts" "[I", Cond.methodLink RX4 223 yX3_reset, Cond.instanceMethod yX3_reset, Cond.selects RX3 yX3_reset yX3_reset, Cond.initialized RX3, Cond.code yX3_reset cX3_reset 1 none]
def wsX4_beginAnew_r2 : List Cond := [Cond.fieldLink RX3 9 "RentSizes$Ledger" "accounts" "[I", Cond.constant RX3 21 (100000), Cond.fieldLink RX3 15 "RentSizes$Ledger" "nodes" "[I", Cond.fieldLink RX3 18 "RentSizes$Ledger" "weights" "[I", Cond.fieldLink RX3 28 "RentSizes$Ledger" "held" "I", Cond.fieldLink RX3 32 "RentSizes$Ledger" "pool" "I", Cond.fieldLink RX3 35 "RentSizes$Ledger" "paidToNodes" "I", Cond.methodLink RX3 22 yJ7_fill_53178, Cond.static yJ7_fill_53178, Cond.initialized RJ7, Cond.code yJ7_fill_53178 cJ7_fill_53178 4 none, Cond.methodLink RX4 224 yJ7_fill_53178]
def wsX4_beginAnew : List Cond := .code yX4_beginAnew cX4_beginAnew 1 none :: ((wsX4_beginAnew_r1 ++ wsX4_beginAnew_r2) ++ wsX40 ++ wsX00 ++ wsX30)
def wsX4_init_r1 : List Cond := [Cond.methodLink RX4 1 objectInit, Cond.instanceMethod objectInit, Cond.code objectInit ⟨#[0xb1]⟩ 1 none, Cond.classLink RX4 7 RX0, Cond.instantiable RX0 5, Cond.initialized RX0, Cond.fieldLink RX4 10 "RentSizes" "editions" "LRentSizes$Editions;", Cond.classLink RX4 16 RX3, Cond.instantiable RX3 6, Cond.initialized RX3, Cond.fieldLink RX4 19 "RentSizes" "ledger" "LRentSizes$Ledger;", Cond.arrayClass .int, Cond.fieldLink RX4 23 "RentSizes" "caps" "[I", Cond.classLink RX4 27 RX1, Cond.fieldLink RX4 29 "RentSizes" "items" "[LRentSizes$Item;", Cond.instanceMethod yX0_init, Cond.code yX0_init cX0_init 1 none, Cond.methodLink RX0 3 objectInit, Cond.fieldLink RX0 9 "RentSizes$Editions" "froms" "[I", Cond.fieldLink RX0 15 "RentSizes$Editions" "prices" "[I", Cond.fieldLink RX0 18 "RentSizes$Editions" "rents" "[I", Cond.fieldLink RX0 21 "RentSizes$Editions" "leasts" "[I", Cond.instanceMethod yX3_init, Cond.code yX3_init cX3_init 1 none]
def wsX4_init_r2 : List Cond := [Cond.methodLink RX3 3 objectInit, Cond.fieldLink RX3 9 "RentSizes$Ledger" "accounts" "[I", Cond.fieldLink RX3 15 "RentSizes$Ledger" "nodes" "[I", Cond.fieldLink RX3 18 "RentSizes$Ledger" "weights" "[I", Cond.methodLink RX4 33 yX4_beginAnew, Cond.instanceMethod yX4_beginAnew, Cond.selects RX4 yX4_beginAnew yX4_beginAnew, Cond.initialized RX4, Cond.code yX4_beginAnew cX4_beginAnew 1 none, Cond.fieldLink RX4 92 "RentSizes" "made" "I", Cond.fieldLink RX4 41 "RentSizes" "height" "I", Cond.methodLink RX4 220 yX0_reset, Cond.instanceMethod yX0_reset, Cond.selects RX0 yX0_reset yX0_reset, Cond.code yX0_reset cX0_reset 1 none, Cond.fieldLink RX0 24 "RentSizes$Editions" "count" "I", Cond.methodLink RX0 28 yX0_append, Cond.instanceMethod yX0_append, Cond.selects RX0 yX0_append yX0_append, Cond.code yX0_append cX0_append 5 none, Cond.methodLink RX4 223 yX3_reset, Cond.instanceMethod yX3_reset, Cond.selects RX3 yX3_reset yX3_reset, Cond.code yX3_reset cX3_reset 1 none]
def wsX4_init_r3 : List Cond := [Cond.constant RX3 21 (100000), Cond.fieldLink RX3 28 "RentSizes$Ledger" "held" "I", Cond.fieldLink RX3 32 "RentSizes$Ledger" "pool" "I", Cond.fieldLink RX3 35 "RentSizes$Ledger" "paidToNodes" "I", Cond.methodLink RX3 22 yJ7_fill_53178, Cond.static yJ7_fill_53178, Cond.initialized RJ7, Cond.code yJ7_fill_53178 cJ7_fill_53178 4 none, Cond.methodLink RX4 224 yJ7_fill_53178]
def wsX4_init : List Cond := .code yX4_init cX4_init 1 none :: ((wsX4_init_r1 ++ (wsX4_init_r2 ++ wsX4_init_r3)) ++ wsX00 ++ wsX40 ++ wsX30)
def wsX4_edition_r1 : List Cond := [Cond.constant RX4 36 (100000), Cond.fieldLink RX4 41 "RentSizes" "height" "I", Cond.fieldLink RX4 10 "RentSizes" "editions" "LRentSizes$Editions;", Cond.methodLink RX4 37 yX4_within, Cond.static yX4_within, Cond.initialized RX4, Cond.code yX4_within cX4_within 3 (some .boolean), Cond.methodLink RX4 45 yX0_lastFrom, Cond.instanceMethod yX0_lastFrom, Cond.selects RX0 yX0_lastFrom yX0_lastFrom, Cond.initialized RX0, Cond.code yX0_lastFrom cX0_lastFrom 1 (some .int), Cond.fieldLink RX0 24 "RentSizes$Editions" "count" "I", Cond.fieldLink RX0 9 "RentSizes$Editions" "froms" "[I", Cond.methodLink RX4 49 yX0_hasRoom, Cond.instanceMethod yX0_hasRoom, Cond.selects RX0 yX0_hasRoom yX0_hasRoom, Cond.code yX0_hasRoom cX0_hasRoom 1 (some .boolean), Cond.methodLink RX4 53 yX0_append, Cond.instanceMethod yX0_append, Cond.selects RX0 yX0_append yX0_append, Cond.code yX0_append cX0_append 5 none, Cond.fieldLink RX0 15 "RentSizes$Editions" "prices" "[I", Cond.fieldLink RX0 18 "RentSizes$Editions" "rents" "[I"]
def wsX4_edition_r2 : List Cond := [Cond.fieldLink RX0 21 "RentSizes$Editions" "leasts" "[I"]
def wsX4_edition : List Cond := .code yX4_edition cX4_edition 5 (some .int) :: ((wsX4_edition_r1 ++ wsX4_edition_r2) ++ wsX40 ++ wsX00)
def wsX4_priceAt_r1 : List Cond := [Cond.constant RX4 36 (100000), Cond.fieldLink RX4 10 "RentSizes" "editions" "LRentSizes$Editions;", Cond.methodLink RX4 37 yX4_within, Cond.static yX4_within, Cond.initialized RX4, Cond.code yX4_within cX4_within 3 (some .boolean), Cond.methodLink RX4 60 yX0_priceOn, Cond.instanceMethod yX0_priceOn, Cond.selects RX0 yX0_priceOn yX0_priceOn, Cond.initialized RX0, Cond.code yX0_priceOn cX0_priceOn 2 (some .int), Cond.fieldLink RX0 15 "RentSizes$Editions" "prices" "[I", Cond.methodLink RX0 32 yX0_holding, Cond.instanceMethod yX0_holding, Cond.selects RX0 yX0_holding yX0_holding, Cond.code yX0_holding cX0_holding 3 (some .int), Cond.fieldLink RX0 24 "RentSizes$Editions" "count" "I", Cond.fieldLink RX0 9 "RentSizes$Editions" "froms" "[I", Cond.methodLink RX4 64 yX0_rentOn, Cond.instanceMethod yX0_rentOn, Cond.selects RX0 yX0_rentOn yX0_rentOn, Cond.code yX0_rentOn cX0_rentOn 2 (some .int), Cond.fieldLink RX0 18 "RentSizes$Editions" "rents" "[I", Cond.methodLink RX4 67 yX0_leastOn]
def wsX4_priceAt_r2 : List Cond := [Cond.instanceMethod yX0_leastOn, Cond.selects RX0 yX0_leastOn yX0_leastOn, Cond.code yX0_leastOn cX0_leastOn 2 (some .int), Cond.fieldLink RX0 21 "RentSizes$Editions" "leasts" "[I", Cond.methodLink RX4 70 yX0_fromOn, Cond.instanceMethod yX0_fromOn, Cond.selects RX0 yX0_fromOn yX0_fromOn, Cond.code yX0_fromOn cX0_fromOn 2 (some .int)]
def wsX4_priceAt : List Cond := .code yX4_priceAt cX4_priceAt 3 (some .int) :: ((wsX4_priceAt_r1 ++ wsX4_priceAt_r2) ++ wsX40 ++ wsX00)
def wsX4_isAccount : List Cond := .code yX4_isAccount cX4_isAccount 1 (some .boolean) :: ([.methodLink RX4 37 yX4_within, .static yX4_within, .initialized RX4, .code yX4_within cX4_within 3 (some .boolean)])
def wsX4_cap : List Cond := .code yX4_cap cX4_cap 4 (some .int) :: ([.fieldLink RX4 23 "RentSizes" "caps" "[I", .methodLink RX4 73 yX4_isAccount, .static yX4_isAccount, .initialized RX4, .code yX4_isAccount cX4_isAccount 1 (some .boolean), .methodLink RX4 37 yX4_within, .static yX4_within, .code yX4_within cX4_within 3 (some .boolean)] ++ wsX40)
def wsX4_liveSizes : List Cond := .code yX4_liveSizes cX4_liveSizes 5 (some .int) :: ([.fieldLink RX4 92 "RentSizes" "made" "I", .fieldLink RX4 29 "RentSizes" "items" "[LRentSizes$Item;"] ++ wsX40 ++ wsX10)
def wsX4_capsAllow : List Cond := .code yX4_capsAllow cX4_capsAllow 3 (some .boolean) :: ([.fieldLink RX4 23 "RentSizes" "caps" "[I", .methodLink RX4 205 yX4_liveSizes, .instanceMethod yX4_liveSizes, .selects RX4 yX4_liveSizes yX4_liveSizes, .initialized RX4, .code yX4_liveSizes cX4_liveSizes 5 (some .int), .fieldLink RX4 92 "RentSizes" "made" "I", .fieldLink RX4 29 "RentSizes" "items" "[LRentSizes$Item;"] ++ wsX40 ++ wsX10)
def wsX4_chargedSize : List Cond := .code yX4_chargedSize cX4_chargedSize 2 (some .int) :: ([.fieldLink RX4 10 "RentSizes" "editions" "LRentSizes$Editions;", .fieldLink RX4 41 "RentSizes" "height" "I", .methodLink RX4 231 Lib.Math.max.name, .static Lib.Math.max.name, .initialized "java/lang/Math", .code Lib.Math.max.name Lib.Math.max.code 2 (some .int), .methodLink RX4 67 yX0_leastOn, .instanceMethod yX0_leastOn, .selects RX0 yX0_leastOn yX0_leastOn, .initialized RX0, .code yX0_leastOn cX0_leastOn 2 (some .int), .fieldLink RX0 21 "RentSizes$Editions" "leasts" "[I", .methodLink RX0 32 yX0_holding, .instanceMethod yX0_holding, .selects RX0 yX0_holding yX0_holding, .code yX0_holding cX0_holding 3 (some .int), .fieldLink RX0 24 "RentSizes$Editions" "count" "I", .fieldLink RX0 9 "RentSizes$Editions" "froms" "[I"] ++ wsX40 ++ wsX00)
def wsX4_rentOf : List Cond := .code yX4_rentOf cX4_rentOf 3 (some .long) :: ([.fieldLink RX4 10 "RentSizes" "editions" "LRentSizes$Editions;", .fieldLink RX4 41 "RentSizes" "height" "I", .methodLink RX4 64 yX0_rentOn, .instanceMethod yX0_rentOn, .selects RX0 yX0_rentOn yX0_rentOn, .initialized RX0, .code yX0_rentOn cX0_rentOn 2 (some .int), .fieldLink RX0 18 "RentSizes$Editions" "rents" "[I", .methodLink RX0 32 yX0_holding, .instanceMethod yX0_holding, .selects RX0 yX0_holding yX0_holding, .code yX0_holding cX0_holding 3 (some .int), .fieldLink RX0 24 "RentSizes$Editions" "count" "I", .fieldLink RX0 9 "RentSizes$Editions" "froms" "[I"] ++ wsX40 ++ wsX00)
def wsX4_freshItem : List Cond := .code yX4_freshItem cX4_freshItem 1 (some (.object "RentSizes$Item")) :: ([.fieldLink RX4 29 "RentSizes" "items" "[LRentSizes$Item;", .fieldLink RX4 92 "RentSizes" "made" "I", .classLink RX4 27 RX1, .instantiable RX1 6, .initialized RX1, .instanceMethod yX1_init, .code yX1_init cX1_init 1 none, .methodLink RX1 3 objectInit, .instanceMethod objectInit, .code objectInit ⟨#[0xb1]⟩ 1 none, .arrayClass .int, .fieldLink RX1 9 "RentSizes$Item" "words" "[I", .classLink RX1 15 RX2, .instantiable RX2 4, .initialized RX2, .fieldLink RX1 18 "RentSizes$Item" "layers" "LRentSizes$Layers;", .instanceMethod yX2_init, .code yX2_init cX2_init 1 none, .methodLink RX2 3 objectInit, .fieldLink RX2 9 "RentSizes$Layers" "bytes" "[I", .fieldLink RX2 15 "RentSizes$Layers" "prices" "[I", .fieldLink RX2 18 "RentSizes$Layers" "payers" "[I"] ++ wsX40 ++ wsX10 ++ wsX20)
def wsX4_make_r1 : List Cond := [Cond.fieldLink RX4 10 "RentSizes" "editions" "LRentSizes$Editions;", Cond.fieldLink RX4 41 "RentSizes" "height" "I", Cond.fieldLink RX4 19 "RentSizes" "ledger" "LRentSizes$Ledger;", Cond.fieldLink RX4 92 "RentSizes" "made" "I", Cond.methodLink RX4 73 yX4_isAccount, Cond.static yX4_isAccount, Cond.initialized RX4, Cond.code yX4_isAccount cX4_isAccount 1 (some .boolean), Cond.methodLink RX4 37 yX4_within, Cond.static yX4_within, Cond.code yX4_within cX4_within 3 (some .boolean), Cond.methodLink RX4 77 yX4_capsAllow, Cond.instanceMethod yX4_capsAllow, Cond.selects RX4 yX4_capsAllow yX4_capsAllow, Cond.code yX4_capsAllow cX4_capsAllow 3 (some .boolean), Cond.fieldLink RX4 23 "RentSizes" "caps" "[I", Cond.methodLink RX4 205 yX4_liveSizes, Cond.instanceMethod yX4_liveSizes, Cond.selects RX4 yX4_liveSizes yX4_liveSizes, Cond.code yX4_liveSizes cX4_liveSizes 5 (some .int), Cond.fieldLink RX4 29 "RentSizes" "items" "[LRentSizes$Item;", Cond.methodLink RX4 60 yX0_priceOn, Cond.instanceMethod yX0_priceOn, Cond.selects RX0 yX0_priceOn yX0_priceOn]
def wsX4_make_r2 : List Cond := [Cond.initialized RX0, Cond.code yX0_priceOn cX0_priceOn 2 (some .int), Cond.fieldLink RX0 15 "RentSizes$Editions" "prices" "[I", Cond.methodLink RX0 32 yX0_holding, Cond.instanceMethod yX0_holding, Cond.selects RX0 yX0_holding yX0_holding, Cond.code yX0_holding cX0_holding 3 (some .int), Cond.fieldLink RX0 24 "RentSizes$Editions" "count" "I", Cond.fieldLink RX0 9 "RentSizes$Editions" "froms" "[I", Cond.methodLink RX4 81 yX4_chargedSize, Cond.instanceMethod yX4_chargedSize, Cond.selects RX4 yX4_chargedSize yX4_chargedSize, Cond.code yX4_chargedSize cX4_chargedSize 2 (some .int), Cond.methodLink RX4 231 Lib.Math.max.name, Cond.static Lib.Math.max.name, Cond.initialized "java/lang/Math", Cond.code Lib.Math.max.name Lib.Math.max.code 2 (some .int), Cond.methodLink RX4 67 yX0_leastOn, Cond.instanceMethod yX0_leastOn, Cond.selects RX0 yX0_leastOn yX0_leastOn, Cond.code yX0_leastOn cX0_leastOn 2 (some .int), Cond.fieldLink RX0 21 "RentSizes$Editions" "leasts" "[I", Cond.methodLink RX4 84 yX4_rentOf, Cond.instanceMethod yX4_rentOf]
def wsX4_make_r3 : List Cond := [Cond.selects RX4 yX4_rentOf yX4_rentOf, Cond.code yX4_rentOf cX4_rentOf 3 (some .long), Cond.methodLink RX4 64 yX0_rentOn, Cond.instanceMethod yX0_rentOn, Cond.selects RX0 yX0_rentOn yX0_rentOn, Cond.code yX0_rentOn cX0_rentOn 2 (some .int), Cond.fieldLink RX0 18 "RentSizes$Editions" "rents" "[I", Cond.methodLink RX4 88 yX3_canPay, Cond.instanceMethod yX3_canPay, Cond.selects RX3 yX3_canPay yX3_canPay, Cond.initialized RX3, Cond.code yX3_canPay cX3_canPay 4 (some .boolean), Cond.fieldLink RX3 9 "RentSizes$Ledger" "accounts" "[I", Cond.methodLink RX4 95 yX3_takeFrom, Cond.instanceMethod yX3_takeFrom, Cond.selects RX3 yX3_takeFrom yX3_takeFrom, Cond.code yX3_takeFrom cX3_takeFrom 7 (some .int), Cond.fieldLink RX3 28 "RentSizes$Ledger" "held" "I", Cond.fieldLink RX3 32 "RentSizes$Ledger" "pool" "I", Cond.methodLink RX4 99 yX4_freshItem, Cond.instanceMethod yX4_freshItem, Cond.selects RX4 yX4_freshItem yX4_freshItem, Cond.code yX4_freshItem cX4_freshItem 1 (some (.object "RentSizes$Item")), Cond.classLink RX4 27 RX1]
def wsX4_make_r4 : List Cond := [Cond.instantiable RX1 6, Cond.initialized RX1, Cond.instanceMethod yX1_init, Cond.code yX1_init cX1_init 1 none, Cond.methodLink RX1 3 objectInit, Cond.instanceMethod objectInit, Cond.code objectInit ⟨#[0xb1]⟩ 1 none, Cond.arrayClass .int, Cond.fieldLink RX1 9 "RentSizes$Item" "words" "[I", Cond.classLink RX1 15 RX2, Cond.instantiable RX2 4, Cond.initialized RX2, Cond.fieldLink RX1 18 "RentSizes$Item" "layers" "LRentSizes$Layers;", Cond.instanceMethod yX2_init, Cond.code yX2_init cX2_init 1 none, Cond.methodLink RX2 3 objectInit, Cond.fieldLink RX2 9 "RentSizes$Layers" "bytes" "[I", Cond.fieldLink RX2 15 "RentSizes$Layers" "prices" "[I", Cond.fieldLink RX2 18 "RentSizes$Layers" "payers" "[I", Cond.methodLink RX4 103 yX1_begin, Cond.instanceMethod yX1_begin, Cond.selects RX1 yX1_begin yX1_begin, Cond.code yX1_begin cX1_begin 4 none, Cond.fieldLink RX1 22 "RentSizes$Item" "owner" "I"]
def wsX4_make_r5 : List Cond := [Cond.fieldLink RX1 26 "RentSizes$Item" "size" "I", Cond.fieldLink RX1 29 "RentSizes$Item" "paid" "I", Cond.fieldLink RX1 32 "RentSizes$Item" "state" "I", Cond.methodLink RX1 35 yJ7_fill_53178, Cond.static yJ7_fill_53178, Cond.initialized RJ7, Cond.code yJ7_fill_53178 cJ7_fill_53178 4 none, Cond.methodLink RX4 111 yX2_put, Cond.instanceMethod yX2_put, Cond.selects RX2 yX2_put yX2_put, Cond.code yX2_put cX2_put 4 none, Cond.fieldLink RX2 21 "RentSizes$Layers" "count" "I", Cond.methodLink RX2 29 yX2_joinsNewest, Cond.instanceMethod yX2_joinsNewest, Cond.selects RX2 yX2_joinsNewest yX2_joinsNewest, Cond.code yX2_joinsNewest cX2_joinsNewest 3 (some .boolean)]
def wsX4_make : List Cond := .code yX4_make cX4_make 11 (some .int) :: ((wsX4_make_r1 ++ (wsX4_make_r2 ++ (wsX4_make_r3 ++ (wsX4_make_r4 ++ wsX4_make_r5)))) ++ wsX40 ++ wsX10 ++ wsX00 ++ wsX30 ++ wsX20)
def wsX4_find : List Cond := .code yX4_find cX4_find 2 (some (.object "RentSizes$Item")) :: ([.fieldLink RX4 92 "RentSizes" "made" "I", .fieldLink RX4 29 "RentSizes" "items" "[LRentSizes$Item;", .methodLink RX4 37 yX4_within, .static yX4_within, .initialized RX4, .code yX4_within cX4_within 3 (some .boolean)] ++ wsX40)
def wsX4_grow_r1 : List Cond := [Cond.fieldLink RX4 10 "RentSizes" "editions" "LRentSizes$Editions;", Cond.fieldLink RX4 41 "RentSizes" "height" "I", Cond.fieldLink RX4 19 "RentSizes" "ledger" "LRentSizes$Ledger;", Cond.methodLink RX4 116 yX4_find, Cond.instanceMethod yX4_find, Cond.selects RX4 yX4_find yX4_find, Cond.initialized RX4, Cond.code yX4_find cX4_find 2 (some (.object "RentSizes$Item")), Cond.fieldLink RX4 92 "RentSizes" "made" "I", Cond.fieldLink RX4 29 "RentSizes" "items" "[LRentSizes$Item;", Cond.methodLink RX4 37 yX4_within, Cond.static yX4_within, Cond.code yX4_within cX4_within 3 (some .boolean), Cond.methodLink RX4 73 yX4_isAccount, Cond.static yX4_isAccount, Cond.code yX4_isAccount cX4_isAccount 1 (some .boolean), Cond.methodLink RX4 120 yX1_sizeNow, Cond.instanceMethod yX1_sizeNow, Cond.selects RX1 yX1_sizeNow yX1_sizeNow, Cond.initialized RX1, Cond.code yX1_sizeNow cX1_sizeNow 1 (some .int), Cond.fieldLink RX1 32 "RentSizes$Item" "state" "I", Cond.fieldLink RX1 26 "RentSizes$Item" "size" "I", Cond.methodLink RX4 77 yX4_capsAllow]
def wsX4_grow_r2 : List Cond := [Cond.instanceMethod yX4_capsAllow, Cond.selects RX4 yX4_capsAllow yX4_capsAllow, Cond.code yX4_capsAllow cX4_capsAllow 3 (some .boolean), Cond.fieldLink RX4 23 "RentSizes" "caps" "[I", Cond.methodLink RX4 205 yX4_liveSizes, Cond.instanceMethod yX4_liveSizes, Cond.selects RX4 yX4_liveSizes yX4_liveSizes, Cond.code yX4_liveSizes cX4_liveSizes 5 (some .int), Cond.methodLink RX4 60 yX0_priceOn, Cond.instanceMethod yX0_priceOn, Cond.selects RX0 yX0_priceOn yX0_priceOn, Cond.initialized RX0, Cond.code yX0_priceOn cX0_priceOn 2 (some .int), Cond.fieldLink RX0 15 "RentSizes$Editions" "prices" "[I", Cond.methodLink RX0 32 yX0_holding, Cond.instanceMethod yX0_holding, Cond.selects RX0 yX0_holding yX0_holding, Cond.code yX0_holding cX0_holding 3 (some .int), Cond.fieldLink RX0 24 "RentSizes$Editions" "count" "I", Cond.fieldLink RX0 9 "RentSizes$Editions" "froms" "[I", Cond.methodLink RX4 81 yX4_chargedSize, Cond.instanceMethod yX4_chargedSize, Cond.selects RX4 yX4_chargedSize yX4_chargedSize, Cond.code yX4_chargedSize cX4_chargedSize 2 (some .int)]
def wsX4_grow_r3 : List Cond := [Cond.methodLink RX4 231 Lib.Math.max.name, Cond.static Lib.Math.max.name, Cond.initialized "java/lang/Math", Cond.code Lib.Math.max.name Lib.Math.max.code 2 (some .int), Cond.methodLink RX4 67 yX0_leastOn, Cond.instanceMethod yX0_leastOn, Cond.selects RX0 yX0_leastOn yX0_leastOn, Cond.code yX0_leastOn cX0_leastOn 2 (some .int), Cond.fieldLink RX0 21 "RentSizes$Editions" "leasts" "[I", Cond.methodLink RX4 84 yX4_rentOf, Cond.instanceMethod yX4_rentOf, Cond.selects RX4 yX4_rentOf yX4_rentOf, Cond.code yX4_rentOf cX4_rentOf 3 (some .long), Cond.methodLink RX4 64 yX0_rentOn, Cond.instanceMethod yX0_rentOn, Cond.selects RX0 yX0_rentOn yX0_rentOn, Cond.code yX0_rentOn cX0_rentOn 2 (some .int), Cond.fieldLink RX0 18 "RentSizes$Editions" "rents" "[I", Cond.methodLink RX4 88 yX3_canPay, Cond.instanceMethod yX3_canPay, Cond.selects RX3 yX3_canPay yX3_canPay, Cond.initialized RX3, Cond.code yX3_canPay cX3_canPay 4 (some .boolean), Cond.fieldLink RX3 9 "RentSizes$Ledger" "accounts" "[I"]
def wsX4_grow_r4 : List Cond := [Cond.methodLink RX4 135 yX2_hasRoomFor, Cond.instanceMethod yX2_hasRoomFor, Cond.selects RX2 yX2_hasRoomFor yX2_hasRoomFor, Cond.initialized RX2, Cond.code yX2_hasRoomFor cX2_hasRoomFor 3 (some .boolean), Cond.fieldLink RX2 21 "RentSizes$Layers" "count" "I", Cond.methodLink RX2 29 yX2_joinsNewest, Cond.instanceMethod yX2_joinsNewest, Cond.selects RX2 yX2_joinsNewest yX2_joinsNewest, Cond.code yX2_joinsNewest cX2_joinsNewest 3 (some .boolean), Cond.fieldLink RX2 15 "RentSizes$Layers" "prices" "[I", Cond.fieldLink RX2 18 "RentSizes$Layers" "payers" "[I", Cond.methodLink RX4 111 yX2_put, Cond.instanceMethod yX2_put, Cond.selects RX2 yX2_put yX2_put, Cond.code yX2_put cX2_put 4 none, Cond.fieldLink RX2 9 "RentSizes$Layers" "bytes" "[I", Cond.methodLink RX4 95 yX3_takeFrom, Cond.instanceMethod yX3_takeFrom, Cond.selects RX3 yX3_takeFrom yX3_takeFrom, Cond.code yX3_takeFrom cX3_takeFrom 7 (some .int), Cond.fieldLink RX3 28 "RentSizes$Ledger" "held" "I", Cond.fieldLink RX3 32 "RentSizes$Ledger" "pool" "I"]
def wsX4_grow : List Cond := .code yX4_grow cX4_grow 11 (some .int) :: ((wsX4_grow_r1 ++ (wsX4_grow_r2 ++ (wsX4_grow_r3 ++ wsX4_grow_r4))) ++ wsX10 ++ wsX40 ++ wsX00 ++ wsX30 ++ wsX20)
def wsX4_refusalToShrink : List Cond := .code yX4_refusalToShrink cX4_refusalToShrink 2 (some .int) :: ([.methodLink RX4 37 yX4_within, .static yX4_within, .initialized RX4, .code yX4_within cX4_within 3 (some .boolean)] ++ wsX10)
def wsX4_giveBack_r1 : List Cond := [Cond.fieldLink RX4 19 "RentSizes" "ledger" "LRentSizes$Ledger;", Cond.methodLink RX4 185 yX2_worthTo, Cond.instanceMethod yX2_worthTo, Cond.selects RX2 yX2_worthTo yX2_worthTo, Cond.initialized RX2, Cond.code yX2_worthTo cX2_worthTo 7 (some .int), Cond.fieldLink RX2 21 "RentSizes$Layers" "count" "I", Cond.fieldLink RX2 9 "RentSizes$Layers" "bytes" "[I", Cond.methodLink RX2 33 Lib.Math.min.name, Cond.static Lib.Math.min.name, Cond.initialized "java/lang/Math", Cond.code Lib.Math.min.name Lib.Math.min.code 2 (some .int), Cond.fieldLink RX2 18 "RentSizes$Layers" "payers" "[I", Cond.fieldLink RX2 15 "RentSizes$Layers" "prices" "[I", Cond.methodLink RX4 236 yX3_giveTo, Cond.instanceMethod yX3_giveTo, Cond.selects RX3 yX3_giveTo yX3_giveTo, Cond.initialized RX3, Cond.code yX3_giveTo cX3_giveTo 3 (some .int), Cond.fieldLink RX3 28 "RentSizes$Ledger" "held" "I", Cond.fieldLink RX3 9 "RentSizes$Ledger" "accounts" "[I", Cond.methodLink RX4 239 yX2_remove, Cond.instanceMethod yX2_remove, Cond.selects RX2 yX2_remove yX2_remove]
def wsX4_giveBack_r2 : List Cond := [Cond.code yX2_remove cX2_remove 5 none]
def wsX4_giveBack : List Cond := .code yX4_giveBack cX4_giveBack 5 (some .int) :: ((wsX4_giveBack_r1 ++ wsX4_giveBack_r2) ++ wsX40 ++ wsX10 ++ wsX20 ++ wsX30)
def wsX4_shrink_r1 : List Cond := [Cond.methodLink RX4 116 yX4_find, Cond.instanceMethod yX4_find, Cond.selects RX4 yX4_find yX4_find, Cond.initialized RX4, Cond.code yX4_find cX4_find 2 (some (.object "RentSizes$Item")), Cond.fieldLink RX4 92 "RentSizes" "made" "I", Cond.fieldLink RX4 29 "RentSizes" "items" "[LRentSizes$Item;", Cond.methodLink RX4 37 yX4_within, Cond.static yX4_within, Cond.code yX4_within cX4_within 3 (some .boolean), Cond.methodLink RX4 138 yX4_refusalToShrink, Cond.static yX4_refusalToShrink, Cond.code yX4_refusalToShrink cX4_refusalToShrink 2 (some .int), Cond.methodLink RX4 142 yX4_giveBack, Cond.instanceMethod yX4_giveBack, Cond.selects RX4 yX4_giveBack yX4_giveBack, Cond.code yX4_giveBack cX4_giveBack 5 (some .int), Cond.fieldLink RX4 19 "RentSizes" "ledger" "LRentSizes$Ledger;", Cond.methodLink RX4 185 yX2_worthTo, Cond.instanceMethod yX2_worthTo, Cond.selects RX2 yX2_worthTo yX2_worthTo, Cond.initialized RX2, Cond.code yX2_worthTo cX2_worthTo 7 (some .int), Cond.fieldLink RX2 21 "RentSizes$Layers" "count" "I"]
def wsX4_shrink_r2 : List Cond := [Cond.fieldLink RX2 9 "RentSizes$Layers" "bytes" "[I", Cond.methodLink RX2 33 Lib.Math.min.name, Cond.static Lib.Math.min.name, Cond.initialized "java/lang/Math", Cond.code Lib.Math.min.name Lib.Math.min.code 2 (some .int), Cond.fieldLink RX2 18 "RentSizes$Layers" "payers" "[I", Cond.fieldLink RX2 15 "RentSizes$Layers" "prices" "[I", Cond.methodLink RX4 236 yX3_giveTo, Cond.instanceMethod yX3_giveTo, Cond.selects RX3 yX3_giveTo yX3_giveTo, Cond.initialized RX3, Cond.code yX3_giveTo cX3_giveTo 3 (some .int), Cond.fieldLink RX3 28 "RentSizes$Ledger" "held" "I", Cond.fieldLink RX3 9 "RentSizes$Ledger" "accounts" "[I", Cond.methodLink RX4 239 yX2_remove, Cond.instanceMethod yX2_remove, Cond.selects RX2 yX2_remove yX2_remove, Cond.code yX2_remove cX2_remove 5 none]
def wsX4_shrink : List Cond := .code yX4_shrink cX4_shrink 6 (some .int) :: ((wsX4_shrink_r1 ++ wsX4_shrink_r2) ++ wsX10 ++ wsX40 ++ wsX20 ++ wsX30)
def wsX4_pay_r1 : List Cond := [Cond.fieldLink RX4 41 "RentSizes" "height" "I", Cond.fieldLink RX4 19 "RentSizes" "ledger" "LRentSizes$Ledger;", Cond.methodLink RX4 116 yX4_find, Cond.instanceMethod yX4_find, Cond.selects RX4 yX4_find yX4_find, Cond.initialized RX4, Cond.code yX4_find cX4_find 2 (some (.object "RentSizes$Item")), Cond.fieldLink RX4 92 "RentSizes" "made" "I", Cond.fieldLink RX4 29 "RentSizes" "items" "[LRentSizes$Item;", Cond.methodLink RX4 37 yX4_within, Cond.static yX4_within, Cond.code yX4_within cX4_within 3 (some .boolean), Cond.methodLink RX4 73 yX4_isAccount, Cond.static yX4_isAccount, Cond.code yX4_isAccount cX4_isAccount 1 (some .boolean), Cond.methodLink RX4 81 yX4_chargedSize, Cond.instanceMethod yX4_chargedSize, Cond.selects RX4 yX4_chargedSize yX4_chargedSize, Cond.code yX4_chargedSize cX4_chargedSize 2 (some .int), Cond.fieldLink RX4 10 "RentSizes" "editions" "LRentSizes$Editions;", Cond.methodLink RX4 231 Lib.Math.max.name, Cond.static Lib.Math.max.name, Cond.initialized "java/lang/Math", Cond.code Lib.Math.max.name Lib.Math.max.code 2 (some .int)]
def wsX4_pay_r2 : List Cond := [Cond.methodLink RX4 67 yX0_leastOn, Cond.instanceMethod yX0_leastOn, Cond.selects RX0 yX0_leastOn yX0_leastOn, Cond.initialized RX0, Cond.code yX0_leastOn cX0_leastOn 2 (some .int), Cond.fieldLink RX0 21 "RentSizes$Editions" "leasts" "[I", Cond.methodLink RX0 32 yX0_holding, Cond.instanceMethod yX0_holding, Cond.selects RX0 yX0_holding yX0_holding, Cond.code yX0_holding cX0_holding 3 (some .int), Cond.fieldLink RX0 24 "RentSizes$Editions" "count" "I", Cond.fieldLink RX0 9 "RentSizes$Editions" "froms" "[I", Cond.methodLink RX4 84 yX4_rentOf, Cond.instanceMethod yX4_rentOf, Cond.selects RX4 yX4_rentOf yX4_rentOf, Cond.code yX4_rentOf cX4_rentOf 3 (some .long), Cond.methodLink RX4 64 yX0_rentOn, Cond.instanceMethod yX0_rentOn, Cond.selects RX0 yX0_rentOn yX0_rentOn, Cond.code yX0_rentOn cX0_rentOn 2 (some .int), Cond.fieldLink RX0 18 "RentSizes$Editions" "rents" "[I", Cond.methodLink RX4 88 yX3_canPay, Cond.instanceMethod yX3_canPay, Cond.selects RX3 yX3_canPay yX3_canPay]
def wsX4_pay_r3 : List Cond := [Cond.initialized RX3, Cond.code yX3_canPay cX3_canPay 4 (some .boolean), Cond.fieldLink RX3 9 "RentSizes$Ledger" "accounts" "[I", Cond.methodLink RX4 95 yX3_takeFrom, Cond.instanceMethod yX3_takeFrom, Cond.selects RX3 yX3_takeFrom yX3_takeFrom, Cond.code yX3_takeFrom cX3_takeFrom 7 (some .int), Cond.fieldLink RX3 28 "RentSizes$Ledger" "held" "I", Cond.fieldLink RX3 32 "RentSizes$Ledger" "pool" "I"]
def wsX4_pay : List Cond := .code yX4_pay cX4_pay 7 (some .int) :: ((wsX4_pay_r1 ++ (wsX4_pay_r2 ++ wsX4_pay_r3)) ++ wsX10 ++ wsX40 ++ wsX00 ++ wsX30)
def wsX4_write : List Cond := .code yX4_write cX4_write 5 (some .int) :: ([.methodLink RX4 116 yX4_find, .instanceMethod yX4_find, .selects RX4 yX4_find yX4_find, .initialized RX4, .code yX4_find cX4_find 2 (some (.object "RentSizes$Item")), .fieldLink RX4 92 "RentSizes" "made" "I", .fieldLink RX4 29 "RentSizes" "items" "[LRentSizes$Item;", .methodLink RX4 37 yX4_within, .static yX4_within, .code yX4_within cX4_within 3 (some .boolean)] ++ wsX10 ++ wsX40)
def wsX4_drop_r1 : List Cond := [Cond.methodLink RX4 116 yX4_find, Cond.instanceMethod yX4_find, Cond.selects RX4 yX4_find yX4_find, Cond.initialized RX4, Cond.code yX4_find cX4_find 2 (some (.object "RentSizes$Item")), Cond.fieldLink RX4 92 "RentSizes" "made" "I", Cond.fieldLink RX4 29 "RentSizes" "items" "[LRentSizes$Item;", Cond.methodLink RX4 37 yX4_within, Cond.static yX4_within, Cond.code yX4_within cX4_within 3 (some .boolean), Cond.methodLink RX4 142 yX4_giveBack, Cond.instanceMethod yX4_giveBack, Cond.selects RX4 yX4_giveBack yX4_giveBack, Cond.code yX4_giveBack cX4_giveBack 5 (some .int), Cond.fieldLink RX4 19 "RentSizes" "ledger" "LRentSizes$Ledger;", Cond.methodLink RX4 185 yX2_worthTo, Cond.instanceMethod yX2_worthTo, Cond.selects RX2 yX2_worthTo yX2_worthTo, Cond.initialized RX2, Cond.code yX2_worthTo cX2_worthTo 7 (some .int), Cond.fieldLink RX2 21 "RentSizes$Layers" "count" "I", Cond.fieldLink RX2 9 "RentSizes$Layers" "bytes" "[I", Cond.methodLink RX2 33 Lib.Math.min.name, Cond.static Lib.Math.min.name]
def wsX4_drop_r2 : List Cond := [Cond.initialized "java/lang/Math", Cond.code Lib.Math.min.name Lib.Math.min.code 2 (some .int), Cond.fieldLink RX2 18 "RentSizes$Layers" "payers" "[I", Cond.fieldLink RX2 15 "RentSizes$Layers" "prices" "[I", Cond.methodLink RX4 236 yX3_giveTo, Cond.instanceMethod yX3_giveTo, Cond.selects RX3 yX3_giveTo yX3_giveTo, Cond.initialized RX3, Cond.code yX3_giveTo cX3_giveTo 3 (some .int), Cond.fieldLink RX3 28 "RentSizes$Ledger" "held" "I", Cond.fieldLink RX3 9 "RentSizes$Ledger" "accounts" "[I", Cond.methodLink RX4 239 yX2_remove, Cond.instanceMethod yX2_remove, Cond.selects RX2 yX2_remove yX2_remove, Cond.code yX2_remove cX2_remove 5 none]
def wsX4_drop : List Cond := .code yX4_drop cX4_drop 4 (some .int) :: ((wsX4_drop_r1 ++ wsX4_drop_r2) ++ wsX10 ++ wsX40 ++ wsX20 ++ wsX30)
def wsX4_back_r1 : List Cond := [Cond.fieldLink RX4 41 "RentSizes" "height" "I", Cond.fieldLink RX4 19 "RentSizes" "ledger" "LRentSizes$Ledger;", Cond.methodLink RX4 116 yX4_find, Cond.instanceMethod yX4_find, Cond.selects RX4 yX4_find yX4_find, Cond.initialized RX4, Cond.code yX4_find cX4_find 2 (some (.object "RentSizes$Item")), Cond.fieldLink RX4 92 "RentSizes" "made" "I", Cond.fieldLink RX4 29 "RentSizes" "items" "[LRentSizes$Item;", Cond.methodLink RX4 37 yX4_within, Cond.static yX4_within, Cond.code yX4_within cX4_within 3 (some .boolean), Cond.methodLink RX4 73 yX4_isAccount, Cond.static yX4_isAccount, Cond.code yX4_isAccount cX4_isAccount 1 (some .boolean), Cond.methodLink RX4 148 yX1_sumUp, Cond.instanceMethod yX1_sumUp, Cond.selects RX1 yX1_sumUp yX1_sumUp, Cond.initialized RX1, Cond.code yX1_sumUp cX1_sumUp 3 (some .int), Cond.fieldLink RX1 26 "RentSizes$Item" "size" "I", Cond.fieldLink RX1 9 "RentSizes$Item" "words" "[I", Cond.methodLink RX4 77 yX4_capsAllow, Cond.instanceMethod yX4_capsAllow]
def wsX4_back_r2 : List Cond := [Cond.selects RX4 yX4_capsAllow yX4_capsAllow, Cond.code yX4_capsAllow cX4_capsAllow 3 (some .boolean), Cond.fieldLink RX4 23 "RentSizes" "caps" "[I", Cond.methodLink RX4 205 yX4_liveSizes, Cond.instanceMethod yX4_liveSizes, Cond.selects RX4 yX4_liveSizes yX4_liveSizes, Cond.code yX4_liveSizes cX4_liveSizes 5 (some .int), Cond.methodLink RX4 81 yX4_chargedSize, Cond.instanceMethod yX4_chargedSize, Cond.selects RX4 yX4_chargedSize yX4_chargedSize, Cond.code yX4_chargedSize cX4_chargedSize 2 (some .int), Cond.fieldLink RX4 10 "RentSizes" "editions" "LRentSizes$Editions;", Cond.methodLink RX4 231 Lib.Math.max.name, Cond.static Lib.Math.max.name, Cond.initialized "java/lang/Math", Cond.code Lib.Math.max.name Lib.Math.max.code 2 (some .int), Cond.methodLink RX4 67 yX0_leastOn, Cond.instanceMethod yX0_leastOn, Cond.selects RX0 yX0_leastOn yX0_leastOn, Cond.initialized RX0, Cond.code yX0_leastOn cX0_leastOn 2 (some .int), Cond.fieldLink RX0 21 "RentSizes$Editions" "leasts" "[I", Cond.methodLink RX0 32 yX0_holding, Cond.instanceMethod yX0_holding]
def wsX4_back_r3 : List Cond := [Cond.selects RX0 yX0_holding yX0_holding, Cond.code yX0_holding cX0_holding 3 (some .int), Cond.fieldLink RX0 24 "RentSizes$Editions" "count" "I", Cond.fieldLink RX0 9 "RentSizes$Editions" "froms" "[I", Cond.methodLink RX4 84 yX4_rentOf, Cond.instanceMethod yX4_rentOf, Cond.selects RX4 yX4_rentOf yX4_rentOf, Cond.code yX4_rentOf cX4_rentOf 3 (some .long), Cond.methodLink RX4 64 yX0_rentOn, Cond.instanceMethod yX0_rentOn, Cond.selects RX0 yX0_rentOn yX0_rentOn, Cond.code yX0_rentOn cX0_rentOn 2 (some .int), Cond.fieldLink RX0 18 "RentSizes$Editions" "rents" "[I", Cond.methodLink RX4 88 yX3_canPay, Cond.instanceMethod yX3_canPay, Cond.selects RX3 yX3_canPay yX3_canPay, Cond.initialized RX3, Cond.code yX3_canPay cX3_canPay 4 (some .boolean), Cond.fieldLink RX3 9 "RentSizes$Ledger" "accounts" "[I", Cond.methodLink RX4 95 yX3_takeFrom, Cond.instanceMethod yX3_takeFrom, Cond.selects RX3 yX3_takeFrom yX3_takeFrom, Cond.code yX3_takeFrom cX3_takeFrom 7 (some .int), Cond.fieldLink RX3 28 "RentSizes$Ledger" "held" "I"]
def wsX4_back_r4 : List Cond := [Cond.fieldLink RX3 32 "RentSizes$Ledger" "pool" "I"]
def wsX4_back : List Cond := .code yX4_back cX4_back 8 (some .int) :: ((wsX4_back_r1 ++ (wsX4_back_r2 ++ (wsX4_back_r3 ++ wsX4_back_r4))) ++ wsX10 ++ wsX40 ++ wsX00 ++ wsX30)
def wsX4_digest : List Cond := .code yX4_digest cX4_digest 3 (some .int) :: ([.methodLink RX4 116 yX4_find, .instanceMethod yX4_find, .selects RX4 yX4_find yX4_find, .initialized RX4, .code yX4_find cX4_find 2 (some (.object "RentSizes$Item")), .fieldLink RX4 92 "RentSizes" "made" "I", .fieldLink RX4 29 "RentSizes" "items" "[LRentSizes$Item;", .methodLink RX4 37 yX4_within, .static yX4_within, .code yX4_within cX4_within 3 (some .boolean), .methodLink RX4 148 yX1_sumUp, .instanceMethod yX1_sumUp, .selects RX1 yX1_sumUp yX1_sumUp, .initialized RX1, .code yX1_sumUp cX1_sumUp 3 (some .int), .fieldLink RX1 26 "RentSizes$Item" "size" "I", .fieldLink RX1 9 "RentSizes$Item" "words" "[I"] ++ wsX40 ++ wsX10)
def wsX4_archiveUnpaid : List Cond := .code yX4_archiveUnpaid cX4_archiveUnpaid 4 (some .int) :: ([.fieldLink RX4 92 "RentSizes" "made" "I", .fieldLink RX4 29 "RentSizes" "items" "[LRentSizes$Item;", .fieldLink RX4 41 "RentSizes" "height" "I"] ++ wsX40 ++ wsX10)
def wsX4_tick_r1 : List Cond := [Cond.fieldLink RX4 41 "RentSizes" "height" "I", Cond.constant RX4 36 (100000), Cond.fieldLink RX4 19 "RentSizes" "ledger" "LRentSizes$Ledger;", Cond.methodLink RX4 37 yX4_within, Cond.static yX4_within, Cond.initialized RX4, Cond.code yX4_within cX4_within 3 (some .boolean), Cond.methodLink RX4 151 yX4_archiveUnpaid, Cond.instanceMethod yX4_archiveUnpaid, Cond.selects RX4 yX4_archiveUnpaid yX4_archiveUnpaid, Cond.code yX4_archiveUnpaid cX4_archiveUnpaid 4 (some .int), Cond.fieldLink RX4 92 "RentSizes" "made" "I", Cond.fieldLink RX4 29 "RentSizes" "items" "[LRentSizes$Item;", Cond.methodLink RX4 154 yX3_sharePool, Cond.instanceMethod yX3_sharePool, Cond.selects RX3 yX3_sharePool yX3_sharePool, Cond.initialized RX3, Cond.code yX3_sharePool cX3_sharePool 5 none, Cond.fieldLink RX3 18 "RentSizes$Ledger" "weights" "[I", Cond.fieldLink RX3 32 "RentSizes$Ledger" "pool" "I", Cond.methodLink RX3 38 yX3_sumOf, Cond.static yX3_sumOf, Cond.code yX3_sumOf cX3_sumOf 3 (some .int), Cond.methodLink RX3 42 yX3_payNode]
def wsX4_tick_r2 : List Cond := [Cond.instanceMethod yX3_payNode, Cond.selects RX3 yX3_payNode yX3_payNode, Cond.code yX3_payNode cX3_payNode 3 none, Cond.fieldLink RX3 15 "RentSizes$Ledger" "nodes" "[I", Cond.fieldLink RX3 35 "RentSizes$Ledger" "paidToNodes" "I", Cond.methodLink RX3 46 yX3_rankOf, Cond.instanceMethod yX3_rankOf, Cond.selects RX3 yX3_rankOf yX3_rankOf, Cond.code yX3_rankOf cX3_rankOf 4 (some .int)]
def wsX4_tick : List Cond := .code yX4_tick cX4_tick 4 (some .int) :: ((wsX4_tick_r1 ++ wsX4_tick_r2) ++ wsX40 ++ wsX10 ++ wsX30)
def wsX4_isNode : List Cond := .code yX4_isNode cX4_isNode 1 (some .boolean) :: ([.methodLink RX4 37 yX4_within, .static yX4_within, .initialized RX4, .code yX4_within cX4_within 3 (some .boolean)])
def wsX4_weight : List Cond := .code yX4_weight cX4_weight 4 (some .int) :: ([.fieldLink RX4 19 "RentSizes" "ledger" "LRentSizes$Ledger;", .methodLink RX4 157 yX4_isNode, .static yX4_isNode, .initialized RX4, .code yX4_isNode cX4_isNode 1 (some .boolean), .methodLink RX4 37 yX4_within, .static yX4_within, .code yX4_within cX4_within 3 (some .boolean)] ++ wsX40 ++ wsX30)
def wsX4_coins : List Cond := .code yX4_coins cX4_coins 3 (some .int) :: ([.fieldLink RX4 19 "RentSizes" "ledger" "LRentSizes$Ledger;", .methodLink RX4 73 yX4_isAccount, .static yX4_isAccount, .initialized RX4, .code yX4_isAccount cX4_isAccount 1 (some .boolean), .methodLink RX4 37 yX4_within, .static yX4_within, .code yX4_within cX4_within 3 (some .boolean), .methodLink RX4 157 yX4_isNode, .static yX4_isNode, .code yX4_isNode cX4_isNode 1 (some .boolean)] ++ wsX40 ++ wsX30)
def wsX4_object_r1 : List Cond := [Cond.methodLink RX4 116 yX4_find, Cond.instanceMethod yX4_find, Cond.selects RX4 yX4_find yX4_find, Cond.initialized RX4, Cond.code yX4_find cX4_find 2 (some (.object "RentSizes$Item")), Cond.fieldLink RX4 92 "RentSizes" "made" "I", Cond.fieldLink RX4 29 "RentSizes" "items" "[LRentSizes$Item;", Cond.methodLink RX4 37 yX4_within, Cond.static yX4_within, Cond.code yX4_within cX4_within 3 (some .boolean), Cond.methodLink RX4 120 yX1_sizeNow, Cond.instanceMethod yX1_sizeNow, Cond.selects RX1 yX1_sizeNow yX1_sizeNow, Cond.initialized RX1, Cond.code yX1_sizeNow cX1_sizeNow 1 (some .int), Cond.fieldLink RX1 32 "RentSizes$Item" "state" "I", Cond.fieldLink RX1 26 "RentSizes$Item" "size" "I", Cond.methodLink RX4 170 yX2_worth, Cond.instanceMethod yX2_worth, Cond.selects RX2 yX2_worth yX2_worth, Cond.initialized RX2, Cond.code yX2_worth cX2_worth 3 (some .int), Cond.fieldLink RX2 21 "RentSizes$Layers" "count" "I", Cond.fieldLink RX2 9 "RentSizes$Layers" "bytes" "[I"]
def wsX4_object_r2 : List Cond := [Cond.fieldLink RX2 15 "RentSizes$Layers" "prices" "[I", Cond.methodLink RX4 81 yX4_chargedSize, Cond.instanceMethod yX4_chargedSize, Cond.selects RX4 yX4_chargedSize yX4_chargedSize, Cond.code yX4_chargedSize cX4_chargedSize 2 (some .int), Cond.fieldLink RX4 10 "RentSizes" "editions" "LRentSizes$Editions;", Cond.fieldLink RX4 41 "RentSizes" "height" "I", Cond.methodLink RX4 231 Lib.Math.max.name, Cond.static Lib.Math.max.name, Cond.initialized "java/lang/Math", Cond.code Lib.Math.max.name Lib.Math.max.code 2 (some .int), Cond.methodLink RX4 67 yX0_leastOn, Cond.instanceMethod yX0_leastOn, Cond.selects RX0 yX0_leastOn yX0_leastOn, Cond.initialized RX0, Cond.code yX0_leastOn cX0_leastOn 2 (some .int), Cond.fieldLink RX0 21 "RentSizes$Editions" "leasts" "[I", Cond.methodLink RX0 32 yX0_holding, Cond.instanceMethod yX0_holding, Cond.selects RX0 yX0_holding yX0_holding, Cond.code yX0_holding cX0_holding 3 (some .int), Cond.fieldLink RX0 24 "RentSizes$Editions" "count" "I", Cond.fieldLink RX0 9 "RentSizes$Editions" "froms" "[I"]
def wsX4_object : List Cond := .code yX4_object cX4_object 4 (some .int) :: ((wsX4_object_r1 ++ wsX4_object_r2) ++ wsX10 ++ wsX20 ++ wsX40 ++ wsX00)
def wsX4_layer : List Cond := .code yX4_layer cX4_layer 5 (some .int) :: ([.methodLink RX4 116 yX4_find, .instanceMethod yX4_find, .selects RX4 yX4_find yX4_find, .initialized RX4, .code yX4_find cX4_find 2 (some (.object "RentSizes$Item")), .fieldLink RX4 92 "RentSizes" "made" "I", .fieldLink RX4 29 "RentSizes" "items" "[LRentSizes$Item;", .methodLink RX4 37 yX4_within, .static yX4_within, .code yX4_within cX4_within 3 (some .boolean), .methodLink RX4 173 yX2_has, .instanceMethod yX2_has, .selects RX2 yX2_has yX2_has, .initialized RX2, .code yX2_has cX2_has 2 (some .boolean), .fieldLink RX2 21 "RentSizes$Layers" "count" "I"] ++ wsX10 ++ wsX20 ++ wsX40)
def wsX4_word : List Cond := .code yX4_word cX4_word 4 (some .int) :: ([.methodLink RX4 116 yX4_find, .instanceMethod yX4_find, .selects RX4 yX4_find yX4_find, .initialized RX4, .code yX4_find cX4_find 2 (some (.object "RentSizes$Item")), .fieldLink RX4 92 "RentSizes" "made" "I", .fieldLink RX4 29 "RentSizes" "items" "[LRentSizes$Item;", .methodLink RX4 37 yX4_within, .static yX4_within, .code yX4_within cX4_within 3 (some .boolean)] ++ wsX10 ++ wsX40)
def wsX4_wouldGive_r1 : List Cond := [Cond.methodLink RX4 116 yX4_find, Cond.instanceMethod yX4_find, Cond.selects RX4 yX4_find yX4_find, Cond.initialized RX4, Cond.code yX4_find cX4_find 2 (some (.object "RentSizes$Item")), Cond.fieldLink RX4 92 "RentSizes" "made" "I", Cond.fieldLink RX4 29 "RentSizes" "items" "[LRentSizes$Item;", Cond.methodLink RX4 37 yX4_within, Cond.static yX4_within, Cond.code yX4_within cX4_within 3 (some .boolean), Cond.methodLink RX4 73 yX4_isAccount, Cond.static yX4_isAccount, Cond.code yX4_isAccount cX4_isAccount 1 (some .boolean), Cond.methodLink RX4 138 yX4_refusalToShrink, Cond.static yX4_refusalToShrink, Cond.code yX4_refusalToShrink cX4_refusalToShrink 2 (some .int), Cond.methodLink RX4 185 yX2_worthTo, Cond.instanceMethod yX2_worthTo, Cond.selects RX2 yX2_worthTo yX2_worthTo, Cond.initialized RX2, Cond.code yX2_worthTo cX2_worthTo 7 (some .int), Cond.fieldLink RX2 21 "RentSizes$Layers" "count" "I", Cond.fieldLink RX2 9 "RentSizes$Layers" "bytes" "[I", Cond.methodLink RX2 33 Lib.Math.min.name]
def wsX4_wouldGive_r2 : List Cond := [Cond.static Lib.Math.min.name, Cond.initialized "java/lang/Math", Cond.code Lib.Math.min.name Lib.Math.min.code 2 (some .int), Cond.fieldLink RX2 18 "RentSizes$Layers" "payers" "[I", Cond.fieldLink RX2 15 "RentSizes$Layers" "prices" "[I"]
def wsX4_wouldGive : List Cond := .code yX4_wouldGive cX4_wouldGive 6 (some .int) :: ((wsX4_wouldGive_r1 ++ wsX4_wouldGive_r2) ++ wsX10 ++ wsX40 ++ wsX20)
def wsX4_exact : List Cond := .code yX4_exact cX4_exact 8 (some .long) :: ([.classLink RX4 195 "java/lang/ArithmeticException", .initialized "java/lang/ArithmeticException", .constantLong RX4 191 (-9223372036854775808), .constantLong RX4 193 (-1)] ++ (vx_atS RX4 199 "java/lang/ArithmeticException" ["java/lang/RuntimeException", "java/lang/Exception"]).filter goodWord)
def wsX4_countOf : List Cond := .code yX4_countOf cX4_countOf 4 (some .int) :: ([.fieldLink RX4 92 "RentSizes" "made" "I", .fieldLink RX4 29 "RentSizes" "items" "[LRentSizes$Item;"] ++ wsX40 ++ wsX10)
def wsX4_told_r1 : List Cond := [Cond.fieldLink RX4 41 "RentSizes" "height" "I", Cond.fieldLink RX4 92 "RentSizes" "made" "I", Cond.fieldLink RX4 19 "RentSizes" "ledger" "LRentSizes$Ledger;", Cond.fieldLink RX4 10 "RentSizes" "editions" "LRentSizes$Editions;", Cond.methodLink RX4 202 yX4_countOf, Cond.instanceMethod yX4_countOf, Cond.selects RX4 yX4_countOf yX4_countOf, Cond.initialized RX4, Cond.code yX4_countOf cX4_countOf 4 (some .int), Cond.fieldLink RX4 29 "RentSizes" "items" "[LRentSizes$Item;", Cond.methodLink RX4 205 yX4_liveSizes, Cond.instanceMethod yX4_liveSizes, Cond.selects RX4 yX4_liveSizes yX4_liveSizes, Cond.code yX4_liveSizes cX4_liveSizes 5 (some .int), Cond.methodLink RX4 214 yX3_allCoins, Cond.instanceMethod yX3_allCoins, Cond.selects RX3 yX3_allCoins yX3_allCoins, Cond.initialized RX3, Cond.code yX3_allCoins cX3_allCoins 1 (some .int), Cond.fieldLink RX3 9 "RentSizes$Ledger" "accounts" "[I", Cond.fieldLink RX3 15 "RentSizes$Ledger" "nodes" "[I", Cond.fieldLink RX3 28 "RentSizes$Ledger" "held" "I", Cond.fieldLink RX3 32 "RentSizes$Ledger" "pool" "I", Cond.methodLink RX3 38 yX3_sumOf]
def wsX4_told_r2 : List Cond := [Cond.static yX3_sumOf, Cond.code yX3_sumOf cX3_sumOf 3 (some .int)]
def wsX4_told : List Cond := .code yX4_told cX4_told 2 (some .int) :: ((wsX4_told_r1 ++ wsX4_told_r2) ++ wsX40 ++ wsX30 ++ wsX00 ++ wsX10)
def wsX4_clear_r1 : List Cond := [Cond.fieldLink RX4 92 "RentSizes" "made" "I", Cond.methodLink RX4 33 yX4_beginAnew, Cond.instanceMethod yX4_beginAnew, Cond.selects RX4 yX4_beginAnew yX4_beginAnew, Cond.initialized RX4, Cond.code yX4_beginAnew cX4_beginAnew 1 none, Cond.fieldLink RX4 10 "RentSizes" "editions" "LRentSizes$Editions;", Cond.fieldLink RX4 19 "RentSizes" "ledger" "LRentSizes$Ledger;", Cond.fieldLink RX4 23 "RentSizes" "caps" "[I", Cond.fieldLink RX4 41 "RentSizes" "height" "I", Cond.methodLink RX4 220 yX0_reset, Cond.instanceMethod yX0_reset, Cond.selects RX0 yX0_reset yX0_reset, Cond.initialized RX0, Cond.code yX0_reset cX0_reset 1 none, Cond.fieldLink RX0 24 "RentSizes$Editions" "count" "I", Cond.methodLink RX0 28 yX0_append, Cond.instanceMethod yX0_append, Cond.selects RX0 yX0_append yX0_append, Cond.code yX0_append cX0_append 5 none, Cond.fieldLink RX0 9 "RentSizes$Editions" "froms" "[I", Cond.fieldLink RX0 15 "RentSizes$Editions" "prices" "[I", Cond.fieldLink RX0 18 "RentSizes$Editions" "rents" "[I", Cond.fieldLink RX0 21 "RentSizes$Editions" "leasts" "[I"]
def wsX4_clear_r2 : List Cond := [Cond.methodLink RX4 223 yX3_reset, Cond.instanceMethod yX3_reset, Cond.selects RX3 yX3_reset yX3_reset, Cond.initialized RX3, Cond.code yX3_reset cX3_reset 1 none, Cond.fieldLink RX3 9 "RentSizes$Ledger" "accounts" "[I", Cond.constant RX3 21 (100000), Cond.fieldLink RX3 15 "RentSizes$Ledger" "nodes" "[I", Cond.fieldLink RX3 18 "RentSizes$Ledger" "weights" "[I", Cond.fieldLink RX3 28 "RentSizes$Ledger" "held" "I", Cond.fieldLink RX3 32 "RentSizes$Ledger" "pool" "I", Cond.fieldLink RX3 35 "RentSizes$Ledger" "paidToNodes" "I", Cond.methodLink RX3 22 yJ7_fill_53178, Cond.static yJ7_fill_53178, Cond.initialized RJ7, Cond.code yJ7_fill_53178 cJ7_fill_53178 4 none, Cond.methodLink RX4 224 yJ7_fill_53178]
def wsX4_clear : List Cond := .code yX4_clear cX4_clear 2 (some .int) :: ((wsX4_clear_r1 ++ wsX4_clear_r2) ++ wsX40 ++ wsX00 ++ wsX30)
def wsX5_begin : List Cond := .code yX5_begin cX5_begin 2 none :: ([.fieldLink RX5 64 "RentSizesModel" "height" "I", .fieldLink RX5 68 "RentSizesModel" "editions" "I", .fieldLink RX5 7 "RentSizesModel" "eFrom" "[I", .fieldLink RX5 13 "RentSizesModel" "ePrice" "[I", .fieldLink RX5 16 "RentSizesModel" "eRent" "[I", .fieldLink RX5 19 "RentSizesModel" "eLeast" "[I", .fieldLink RX5 22 "RentSizesModel" "accountCoins" "[I", .constant RX5 71 (100000), .fieldLink RX5 25 "RentSizesModel" "caps" "[I", .fieldLink RX5 28 "RentSizesModel" "nodeCoins" "[I", .fieldLink RX5 31 "RentSizesModel" "weights" "[I", .fieldLink RX5 72 "RentSizesModel" "pool" "I", .fieldLink RX5 75 "RentSizesModel" "paidOut" "I", .fieldLink RX5 78 "RentSizesModel" "objects" "I"] ++ wsX50)
def wsX5_init_r1 : List Cond := [Cond.methodLink RX5 1 objectInit, Cond.instanceMethod objectInit, Cond.code objectInit ⟨#[0xb1]⟩ 1 none, Cond.arrayClass .int, Cond.fieldLink RX5 7 "RentSizesModel" "eFrom" "[I", Cond.fieldLink RX5 13 "RentSizesModel" "ePrice" "[I", Cond.fieldLink RX5 16 "RentSizesModel" "eRent" "[I", Cond.fieldLink RX5 19 "RentSizesModel" "eLeast" "[I", Cond.fieldLink RX5 22 "RentSizesModel" "accountCoins" "[I", Cond.fieldLink RX5 25 "RentSizesModel" "caps" "[I", Cond.fieldLink RX5 28 "RentSizesModel" "nodeCoins" "[I", Cond.fieldLink RX5 31 "RentSizesModel" "weights" "[I", Cond.fieldLink RX5 34 "RentSizesModel" "owner" "[I", Cond.fieldLink RX5 37 "RentSizesModel" "size" "[I", Cond.fieldLink RX5 40 "RentSizesModel" "words" "[I", Cond.fieldLink RX5 43 "RentSizesModel" "paid" "[I", Cond.fieldLink RX5 46 "RentSizesModel" "state" "[I", Cond.fieldLink RX5 49 "RentSizesModel" "layers" "[I", Cond.fieldLink RX5 52 "RentSizesModel" "layerBytes" "[I", Cond.fieldLink RX5 55 "RentSizesModel" "layerPrice" "[I", Cond.fieldLink RX5 58 "RentSizesModel" "layerFrom" "[I", Cond.methodLink RX5 61 yX5_begin, Cond.instanceMethod yX5_begin, Cond.selects RX5 yX5_begin yX5_begin]
def wsX5_init_r2 : List Cond := [Cond.initialized RX5, Cond.code yX5_begin cX5_begin 2 none, Cond.fieldLink RX5 64 "RentSizesModel" "height" "I", Cond.fieldLink RX5 68 "RentSizesModel" "editions" "I", Cond.constant RX5 71 (100000), Cond.fieldLink RX5 72 "RentSizesModel" "pool" "I", Cond.fieldLink RX5 75 "RentSizesModel" "paidOut" "I", Cond.fieldLink RX5 78 "RentSizesModel" "objects" "I"]
def wsX5_init : List Cond := .code yX5_init cX5_init 1 none :: ((wsX5_init_r1 ++ wsX5_init_r2) ++ wsX50)
def wsX5_in : List Cond := .code yX5_in cX5_in 6 (some .boolean) :: ([])
def wsX5_noAccount : List Cond := .code yX5_noAccount cX5_noAccount 2 (some .boolean) :: ([.constantLong RX5 81 (5), .methodLink RX5 83 yX5_in, .static yX5_in, .initialized RX5, .code yX5_in cX5_in 6 (some .boolean)])
def wsX5_noObject : List Cond := .code yX5_noObject cX5_noObject 2 (some .boolean) :: ([.fieldLink RX5 78 "RentSizesModel" "objects" "I", .methodLink RX5 83 yX5_in, .static yX5_in, .initialized RX5, .code yX5_in cX5_in 6 (some .boolean)] ++ wsX50)
def wsX5_edition : List Cond := .code yX5_edition cX5_edition 5 (some .int) :: ([.constantLong RX5 87 (100000), .constantLong RX5 89 (100), .constantLong RX5 91 (20), .constantLong RX5 93 (64), .fieldLink RX5 64 "RentSizesModel" "height" "I", .fieldLink RX5 7 "RentSizesModel" "eFrom" "[I", .fieldLink RX5 68 "RentSizesModel" "editions" "I", .fieldLink RX5 13 "RentSizesModel" "ePrice" "[I", .fieldLink RX5 16 "RentSizesModel" "eRent" "[I", .fieldLink RX5 19 "RentSizesModel" "eLeast" "[I", .methodLink RX5 83 yX5_in, .static yX5_in, .initialized RX5, .code yX5_in cX5_in 6 (some .boolean)] ++ wsX50)
def wsX5_editionAt : List Cond := .code yX5_editionAt cX5_editionAt 4 (some .int) :: ([.fieldLink RX5 68 "RentSizesModel" "editions" "I", .fieldLink RX5 7 "RentSizesModel" "eFrom" "[I"] ++ wsX50)
def wsX5_priceAt : List Cond := .code yX5_priceAt cX5_priceAt 4 (some .int) :: ([.constantLong RX5 87 (100000), .constantLong RX5 95 (3), .fieldLink RX5 13 "RentSizesModel" "ePrice" "[I", .fieldLink RX5 16 "RentSizesModel" "eRent" "[I", .fieldLink RX5 19 "RentSizesModel" "eLeast" "[I", .fieldLink RX5 7 "RentSizesModel" "eFrom" "[I", .methodLink RX5 83 yX5_in, .static yX5_in, .initialized RX5, .code yX5_in cX5_in 6 (some .boolean), .methodLink RX5 97 yX5_editionAt, .instanceMethod yX5_editionAt, .selects RX5 yX5_editionAt yX5_editionAt, .code yX5_editionAt cX5_editionAt 4 (some .int), .fieldLink RX5 68 "RentSizesModel" "editions" "I"] ++ wsX50)
def wsX5_price : List Cond := .code yX5_price cX5_price 1 (some .int) :: ([.fieldLink RX5 13 "RentSizesModel" "ePrice" "[I", .fieldLink RX5 64 "RentSizesModel" "height" "I", .methodLink RX5 97 yX5_editionAt, .instanceMethod yX5_editionAt, .selects RX5 yX5_editionAt yX5_editionAt, .initialized RX5, .code yX5_editionAt cX5_editionAt 4 (some .int), .fieldLink RX5 68 "RentSizesModel" "editions" "I", .fieldLink RX5 7 "RentSizesModel" "eFrom" "[I"] ++ wsX50)
def wsX5_rent : List Cond := .code yX5_rent cX5_rent 1 (some .int) :: ([.fieldLink RX5 16 "RentSizesModel" "eRent" "[I", .fieldLink RX5 64 "RentSizesModel" "height" "I", .methodLink RX5 97 yX5_editionAt, .instanceMethod yX5_editionAt, .selects RX5 yX5_editionAt yX5_editionAt, .initialized RX5, .code yX5_editionAt cX5_editionAt 4 (some .int), .fieldLink RX5 68 "RentSizesModel" "editions" "I", .fieldLink RX5 7 "RentSizesModel" "eFrom" "[I"] ++ wsX50)
def wsX5_charged : List Cond := .code yX5_charged cX5_charged 3 (some .int) :: ([.fieldLink RX5 19 "RentSizesModel" "eLeast" "[I", .fieldLink RX5 64 "RentSizesModel" "height" "I", .methodLink RX5 97 yX5_editionAt, .instanceMethod yX5_editionAt, .selects RX5 yX5_editionAt yX5_editionAt, .initialized RX5, .code yX5_editionAt cX5_editionAt 4 (some .int), .fieldLink RX5 68 "RentSizesModel" "editions" "I", .fieldLink RX5 7 "RentSizesModel" "eFrom" "[I"] ++ wsX50)
def wsX5_cap : List Cond := .code yX5_cap cX5_cap 4 (some .int) :: ([.constantLong RX5 105 (5000), .fieldLink RX5 25 "RentSizesModel" "caps" "[I", .methodLink RX5 101 yX5_noAccount, .instanceMethod yX5_noAccount, .selects RX5 yX5_noAccount yX5_noAccount, .initialized RX5, .code yX5_noAccount cX5_noAccount 2 (some .boolean), .constantLong RX5 81 (5), .methodLink RX5 83 yX5_in, .static yX5_in, .code yX5_in cX5_in 6 (some .boolean)] ++ wsX50)
def wsX5_liveSizes : List Cond := .code yX5_liveSizes cX5_liveSizes 4 (some .int) :: ([.fieldLink RX5 78 "RentSizesModel" "objects" "I", .fieldLink RX5 46 "RentSizesModel" "state" "[I", .fieldLink RX5 34 "RentSizesModel" "owner" "[I", .fieldLink RX5 37 "RentSizesModel" "size" "[I"] ++ wsX50)
def wsX5_isCapped : List Cond := .code yX5_isCapped cX5_isCapped 3 (some .boolean) :: ([.fieldLink RX5 25 "RentSizesModel" "caps" "[I", .methodLink RX5 107 yX5_liveSizes, .instanceMethod yX5_liveSizes, .selects RX5 yX5_liveSizes yX5_liveSizes, .initialized RX5, .code yX5_liveSizes cX5_liveSizes 4 (some .int), .fieldLink RX5 78 "RentSizesModel" "objects" "I", .fieldLink RX5 46 "RentSizesModel" "state" "[I", .fieldLink RX5 34 "RentSizesModel" "owner" "[I", .fieldLink RX5 37 "RentSizesModel" "size" "[I"] ++ wsX50)
def wsX5_needsLayer : List Cond := .code yX5_needsLayer cX5_needsLayer 4 (some .boolean) :: ([.fieldLink RX5 49 "RentSizesModel" "layers" "[I", .fieldLink RX5 55 "RentSizesModel" "layerPrice" "[I", .fieldLink RX5 58 "RentSizesModel" "layerFrom" "[I", .methodLink RX5 110 yX5_price, .instanceMethod yX5_price, .selects RX5 yX5_price yX5_price, .initialized RX5, .code yX5_price cX5_price 1 (some .int), .fieldLink RX5 13 "RentSizesModel" "ePrice" "[I", .fieldLink RX5 64 "RentSizesModel" "height" "I", .methodLink RX5 97 yX5_editionAt, .instanceMethod yX5_editionAt, .selects RX5 yX5_editionAt yX5_editionAt, .code yX5_editionAt cX5_editionAt 4 (some .int), .fieldLink RX5 68 "RentSizesModel" "editions" "I", .fieldLink RX5 7 "RentSizesModel" "eFrom" "[I"] ++ wsX50)
def wsX5_comes : List Cond := .code yX5_comes cX5_comes 5 none :: ([.fieldLink RX5 49 "RentSizesModel" "layers" "[I", .fieldLink RX5 52 "RentSizesModel" "layerBytes" "[I", .fieldLink RX5 55 "RentSizesModel" "layerPrice" "[I", .fieldLink RX5 58 "RentSizesModel" "layerFrom" "[I", .methodLink RX5 114 yX5_needsLayer, .instanceMethod yX5_needsLayer, .selects RX5 yX5_needsLayer yX5_needsLayer, .initialized RX5, .code yX5_needsLayer cX5_needsLayer 4 (some .boolean), .methodLink RX5 110 yX5_price, .instanceMethod yX5_price, .selects RX5 yX5_price yX5_price, .code yX5_price cX5_price 1 (some .int), .fieldLink RX5 13 "RentSizesModel" "ePrice" "[I", .fieldLink RX5 64 "RentSizesModel" "height" "I", .methodLink RX5 97 yX5_editionAt, .instanceMethod yX5_editionAt, .selects RX5 yX5_editionAt yX5_editionAt, .code yX5_editionAt cX5_editionAt 4 (some .int), .fieldLink RX5 68 "RentSizesModel" "editions" "I", .fieldLink RX5 7 "RentSizesModel" "eFrom" "[I"] ++ wsX50)
def wsX5_gives : List Cond := .code yX5_gives cX5_gives 9 (some .int) :: ([.fieldLink RX5 49 "RentSizesModel" "layers" "[I", .fieldLink RX5 52 "RentSizesModel" "layerBytes" "[I", .fieldLink RX5 58 "RentSizesModel" "layerFrom" "[I", .fieldLink RX5 55 "RentSizesModel" "layerPrice" "[I"] ++ wsX50)
def wsX5_goes : List Cond := .code yX5_goes cX5_goes 7 (some .int) :: ([.fieldLink RX5 22 "RentSizesModel" "accountCoins" "[I", .fieldLink RX5 49 "RentSizesModel" "layers" "[I", .fieldLink RX5 52 "RentSizesModel" "layerBytes" "[I", .methodLink RX5 118 yX5_gives, .instanceMethod yX5_gives, .selects RX5 yX5_gives yX5_gives, .initialized RX5, .code yX5_gives cX5_gives 9 (some .int), .fieldLink RX5 58 "RentSizesModel" "layerFrom" "[I", .fieldLink RX5 55 "RentSizesModel" "layerPrice" "[I"] ++ wsX50)
def wsX5_heldFor : List Cond := .code yX5_heldFor cX5_heldFor 4 (some .int) :: ([.fieldLink RX5 49 "RentSizesModel" "layers" "[I", .fieldLink RX5 52 "RentSizesModel" "layerBytes" "[I", .fieldLink RX5 55 "RentSizesModel" "layerPrice" "[I"] ++ wsX50)
def wsX5_make_r1 : List Cond := [Cond.constantLong RX5 122 (1000), Cond.constantLong RX5 89 (100), Cond.fieldLink RX5 22 "RentSizesModel" "accountCoins" "[I", Cond.fieldLink RX5 78 "RentSizesModel" "objects" "I", Cond.fieldLink RX5 34 "RentSizesModel" "owner" "[I", Cond.fieldLink RX5 37 "RentSizesModel" "size" "[I", Cond.fieldLink RX5 40 "RentSizesModel" "words" "[I", Cond.fieldLink RX5 43 "RentSizesModel" "paid" "[I", Cond.fieldLink RX5 64 "RentSizesModel" "height" "I", Cond.fieldLink RX5 46 "RentSizesModel" "state" "[I", Cond.fieldLink RX5 49 "RentSizesModel" "layers" "[I", Cond.fieldLink RX5 72 "RentSizesModel" "pool" "I", Cond.methodLink RX5 101 yX5_noAccount, Cond.instanceMethod yX5_noAccount, Cond.selects RX5 yX5_noAccount yX5_noAccount, Cond.initialized RX5, Cond.code yX5_noAccount cX5_noAccount 2 (some .boolean), Cond.constantLong RX5 81 (5), Cond.methodLink RX5 83 yX5_in, Cond.static yX5_in, Cond.code yX5_in cX5_in 6 (some .boolean), Cond.methodLink RX5 124 yX5_isCapped, Cond.instanceMethod yX5_isCapped, Cond.selects RX5 yX5_isCapped yX5_isCapped]
def wsX5_make_r2 : List Cond := [Cond.code yX5_isCapped cX5_isCapped 3 (some .boolean), Cond.fieldLink RX5 25 "RentSizesModel" "caps" "[I", Cond.methodLink RX5 107 yX5_liveSizes, Cond.instanceMethod yX5_liveSizes, Cond.selects RX5 yX5_liveSizes yX5_liveSizes, Cond.code yX5_liveSizes cX5_liveSizes 4 (some .int), Cond.methodLink RX5 127 yX5_charged, Cond.instanceMethod yX5_charged, Cond.selects RX5 yX5_charged yX5_charged, Cond.code yX5_charged cX5_charged 3 (some .int), Cond.fieldLink RX5 19 "RentSizesModel" "eLeast" "[I", Cond.methodLink RX5 97 yX5_editionAt, Cond.instanceMethod yX5_editionAt, Cond.selects RX5 yX5_editionAt yX5_editionAt, Cond.code yX5_editionAt cX5_editionAt 4 (some .int), Cond.fieldLink RX5 68 "RentSizesModel" "editions" "I", Cond.fieldLink RX5 7 "RentSizesModel" "eFrom" "[I", Cond.methodLink RX5 130 yX5_rent, Cond.instanceMethod yX5_rent, Cond.selects RX5 yX5_rent yX5_rent, Cond.code yX5_rent cX5_rent 1 (some .int), Cond.fieldLink RX5 16 "RentSizesModel" "eRent" "[I", Cond.methodLink RX5 110 yX5_price, Cond.instanceMethod yX5_price]
def wsX5_make_r3 : List Cond := [Cond.selects RX5 yX5_price yX5_price, Cond.code yX5_price cX5_price 1 (some .int), Cond.fieldLink RX5 13 "RentSizesModel" "ePrice" "[I", Cond.methodLink RX5 133 yX5_comes, Cond.instanceMethod yX5_comes, Cond.selects RX5 yX5_comes yX5_comes, Cond.code yX5_comes cX5_comes 5 none, Cond.fieldLink RX5 52 "RentSizesModel" "layerBytes" "[I", Cond.fieldLink RX5 55 "RentSizesModel" "layerPrice" "[I", Cond.fieldLink RX5 58 "RentSizesModel" "layerFrom" "[I", Cond.methodLink RX5 114 yX5_needsLayer, Cond.instanceMethod yX5_needsLayer, Cond.selects RX5 yX5_needsLayer yX5_needsLayer, Cond.code yX5_needsLayer cX5_needsLayer 4 (some .boolean)]
def wsX5_make : List Cond := .code yX5_make cX5_make 8 (some .int) :: ((wsX5_make_r1 ++ (wsX5_make_r2 ++ wsX5_make_r3)) ++ wsX50)
def wsX5_sizeNow : List Cond := .code yX5_sizeNow cX5_sizeNow 2 (some .int) :: ([.fieldLink RX5 46 "RentSizesModel" "state" "[I", .fieldLink RX5 37 "RentSizesModel" "size" "[I"] ++ wsX50)
def wsX5_grow_r1 : List Cond := [Cond.constantLong RX5 140 (999), Cond.fieldLink RX5 46 "RentSizesModel" "state" "[I", Cond.fieldLink RX5 34 "RentSizesModel" "owner" "[I", Cond.fieldLink RX5 37 "RentSizesModel" "size" "[I", Cond.fieldLink RX5 43 "RentSizesModel" "paid" "[I", Cond.fieldLink RX5 64 "RentSizesModel" "height" "I", Cond.fieldLink RX5 22 "RentSizesModel" "accountCoins" "[I", Cond.fieldLink RX5 49 "RentSizesModel" "layers" "[I", Cond.fieldLink RX5 72 "RentSizesModel" "pool" "I", Cond.methodLink RX5 137 yX5_noObject, Cond.instanceMethod yX5_noObject, Cond.selects RX5 yX5_noObject yX5_noObject, Cond.initialized RX5, Cond.code yX5_noObject cX5_noObject 2 (some .boolean), Cond.fieldLink RX5 78 "RentSizesModel" "objects" "I", Cond.methodLink RX5 83 yX5_in, Cond.static yX5_in, Cond.code yX5_in cX5_in 6 (some .boolean), Cond.methodLink RX5 101 yX5_noAccount, Cond.instanceMethod yX5_noAccount, Cond.selects RX5 yX5_noAccount yX5_noAccount, Cond.code yX5_noAccount cX5_noAccount 2 (some .boolean), Cond.constantLong RX5 81 (5), Cond.methodLink RX5 142 yX5_sizeNow]
def wsX5_grow_r2 : List Cond := [Cond.instanceMethod yX5_sizeNow, Cond.selects RX5 yX5_sizeNow yX5_sizeNow, Cond.code yX5_sizeNow cX5_sizeNow 2 (some .int), Cond.methodLink RX5 124 yX5_isCapped, Cond.instanceMethod yX5_isCapped, Cond.selects RX5 yX5_isCapped yX5_isCapped, Cond.code yX5_isCapped cX5_isCapped 3 (some .boolean), Cond.fieldLink RX5 25 "RentSizesModel" "caps" "[I", Cond.methodLink RX5 107 yX5_liveSizes, Cond.instanceMethod yX5_liveSizes, Cond.selects RX5 yX5_liveSizes yX5_liveSizes, Cond.code yX5_liveSizes cX5_liveSizes 4 (some .int), Cond.methodLink RX5 127 yX5_charged, Cond.instanceMethod yX5_charged, Cond.selects RX5 yX5_charged yX5_charged, Cond.code yX5_charged cX5_charged 3 (some .int), Cond.fieldLink RX5 19 "RentSizesModel" "eLeast" "[I", Cond.methodLink RX5 97 yX5_editionAt, Cond.instanceMethod yX5_editionAt, Cond.selects RX5 yX5_editionAt yX5_editionAt, Cond.code yX5_editionAt cX5_editionAt 4 (some .int), Cond.fieldLink RX5 68 "RentSizesModel" "editions" "I", Cond.fieldLink RX5 7 "RentSizesModel" "eFrom" "[I", Cond.methodLink RX5 130 yX5_rent]
def wsX5_grow_r3 : List Cond := [Cond.instanceMethod yX5_rent, Cond.selects RX5 yX5_rent yX5_rent, Cond.code yX5_rent cX5_rent 1 (some .int), Cond.fieldLink RX5 16 "RentSizesModel" "eRent" "[I", Cond.methodLink RX5 110 yX5_price, Cond.instanceMethod yX5_price, Cond.selects RX5 yX5_price yX5_price, Cond.code yX5_price cX5_price 1 (some .int), Cond.fieldLink RX5 13 "RentSizesModel" "ePrice" "[I", Cond.methodLink RX5 114 yX5_needsLayer, Cond.instanceMethod yX5_needsLayer, Cond.selects RX5 yX5_needsLayer yX5_needsLayer, Cond.code yX5_needsLayer cX5_needsLayer 4 (some .boolean), Cond.fieldLink RX5 55 "RentSizesModel" "layerPrice" "[I", Cond.fieldLink RX5 58 "RentSizesModel" "layerFrom" "[I", Cond.methodLink RX5 133 yX5_comes, Cond.instanceMethod yX5_comes, Cond.selects RX5 yX5_comes yX5_comes, Cond.code yX5_comes cX5_comes 5 none, Cond.fieldLink RX5 52 "RentSizesModel" "layerBytes" "[I"]
def wsX5_grow : List Cond := .code yX5_grow cX5_grow 6 (some .int) :: ((wsX5_grow_r1 ++ (wsX5_grow_r2 ++ wsX5_grow_r3)) ++ wsX50)
def wsX5_shrink : List Cond := .code yX5_shrink cX5_shrink 3 (some .int) :: ([.fieldLink RX5 46 "RentSizesModel" "state" "[I", .fieldLink RX5 37 "RentSizesModel" "size" "[I", .methodLink RX5 137 yX5_noObject, .instanceMethod yX5_noObject, .selects RX5 yX5_noObject yX5_noObject, .initialized RX5, .code yX5_noObject cX5_noObject 2 (some .boolean), .fieldLink RX5 78 "RentSizesModel" "objects" "I", .methodLink RX5 83 yX5_in, .static yX5_in, .code yX5_in cX5_in 6 (some .boolean), .methodLink RX5 145 yX5_goes, .instanceMethod yX5_goes, .selects RX5 yX5_goes yX5_goes, .code yX5_goes cX5_goes 7 (some .int), .fieldLink RX5 22 "RentSizesModel" "accountCoins" "[I", .fieldLink RX5 49 "RentSizesModel" "layers" "[I", .fieldLink RX5 52 "RentSizesModel" "layerBytes" "[I", .methodLink RX5 118 yX5_gives, .instanceMethod yX5_gives, .selects RX5 yX5_gives yX5_gives, .code yX5_gives cX5_gives 9 (some .int), .fieldLink RX5 58 "RentSizesModel" "layerFrom" "[I", .fieldLink RX5 55 "RentSizesModel" "layerPrice" "[I"] ++ wsX50)
def wsX5_pay_r1 : List Cond := [Cond.constantLong RX5 89 (100), Cond.fieldLink RX5 46 "RentSizesModel" "state" "[I", Cond.fieldLink RX5 43 "RentSizesModel" "paid" "[I", Cond.fieldLink RX5 64 "RentSizesModel" "height" "I", Cond.fieldLink RX5 37 "RentSizesModel" "size" "[I", Cond.fieldLink RX5 22 "RentSizesModel" "accountCoins" "[I", Cond.fieldLink RX5 72 "RentSizesModel" "pool" "I", Cond.methodLink RX5 137 yX5_noObject, Cond.instanceMethod yX5_noObject, Cond.selects RX5 yX5_noObject yX5_noObject, Cond.initialized RX5, Cond.code yX5_noObject cX5_noObject 2 (some .boolean), Cond.fieldLink RX5 78 "RentSizesModel" "objects" "I", Cond.methodLink RX5 83 yX5_in, Cond.static yX5_in, Cond.code yX5_in cX5_in 6 (some .boolean), Cond.methodLink RX5 101 yX5_noAccount, Cond.instanceMethod yX5_noAccount, Cond.selects RX5 yX5_noAccount yX5_noAccount, Cond.code yX5_noAccount cX5_noAccount 2 (some .boolean), Cond.constantLong RX5 81 (5), Cond.methodLink RX5 127 yX5_charged, Cond.instanceMethod yX5_charged, Cond.selects RX5 yX5_charged yX5_charged]
def wsX5_pay_r2 : List Cond := [Cond.code yX5_charged cX5_charged 3 (some .int), Cond.fieldLink RX5 19 "RentSizesModel" "eLeast" "[I", Cond.methodLink RX5 97 yX5_editionAt, Cond.instanceMethod yX5_editionAt, Cond.selects RX5 yX5_editionAt yX5_editionAt, Cond.code yX5_editionAt cX5_editionAt 4 (some .int), Cond.fieldLink RX5 68 "RentSizesModel" "editions" "I", Cond.fieldLink RX5 7 "RentSizesModel" "eFrom" "[I", Cond.methodLink RX5 130 yX5_rent, Cond.instanceMethod yX5_rent, Cond.selects RX5 yX5_rent yX5_rent, Cond.code yX5_rent cX5_rent 1 (some .int), Cond.fieldLink RX5 16 "RentSizesModel" "eRent" "[I"]
def wsX5_pay : List Cond := .code yX5_pay cX5_pay 5 (some .int) :: ((wsX5_pay_r1 ++ wsX5_pay_r2) ++ wsX50)
def wsX5_write : List Cond := .code yX5_write cX5_write 4 (some .int) :: ([.constantLong RX5 95 (3), .fieldLink RX5 46 "RentSizesModel" "state" "[I", .fieldLink RX5 40 "RentSizesModel" "words" "[I", .methodLink RX5 137 yX5_noObject, .instanceMethod yX5_noObject, .selects RX5 yX5_noObject yX5_noObject, .initialized RX5, .code yX5_noObject cX5_noObject 2 (some .boolean), .fieldLink RX5 78 "RentSizesModel" "objects" "I", .methodLink RX5 83 yX5_in, .static yX5_in, .code yX5_in cX5_in 6 (some .boolean)] ++ wsX50)
def wsX5_drop : List Cond := .code yX5_drop cX5_drop 2 (some .int) :: ([.fieldLink RX5 46 "RentSizesModel" "state" "[I", .fieldLink RX5 37 "RentSizesModel" "size" "[I", .methodLink RX5 137 yX5_noObject, .instanceMethod yX5_noObject, .selects RX5 yX5_noObject yX5_noObject, .initialized RX5, .code yX5_noObject cX5_noObject 2 (some .boolean), .fieldLink RX5 78 "RentSizesModel" "objects" "I", .methodLink RX5 83 yX5_in, .static yX5_in, .code yX5_in cX5_in 6 (some .boolean), .methodLink RX5 145 yX5_goes, .instanceMethod yX5_goes, .selects RX5 yX5_goes yX5_goes, .code yX5_goes cX5_goes 7 (some .int), .fieldLink RX5 22 "RentSizesModel" "accountCoins" "[I", .fieldLink RX5 49 "RentSizesModel" "layers" "[I", .fieldLink RX5 52 "RentSizesModel" "layerBytes" "[I", .methodLink RX5 118 yX5_gives, .instanceMethod yX5_gives, .selects RX5 yX5_gives yX5_gives, .code yX5_gives cX5_gives 9 (some .int), .fieldLink RX5 58 "RentSizesModel" "layerFrom" "[I", .fieldLink RX5 55 "RentSizesModel" "layerPrice" "[I"] ++ wsX50)
def wsX5_digestOf : List Cond := .code yX5_digestOf cX5_digestOf 4 (some .int) :: ([.fieldLink RX5 37 "RentSizesModel" "size" "[I", .fieldLink RX5 40 "RentSizesModel" "words" "[I"] ++ wsX50)
def wsX5_back_r1 : List Cond := [Cond.constantLong RX5 89 (100), Cond.fieldLink RX5 46 "RentSizesModel" "state" "[I", Cond.fieldLink RX5 34 "RentSizesModel" "owner" "[I", Cond.fieldLink RX5 37 "RentSizesModel" "size" "[I", Cond.fieldLink RX5 64 "RentSizesModel" "height" "I", Cond.fieldLink RX5 43 "RentSizesModel" "paid" "[I", Cond.fieldLink RX5 22 "RentSizesModel" "accountCoins" "[I", Cond.fieldLink RX5 72 "RentSizesModel" "pool" "I", Cond.methodLink RX5 137 yX5_noObject, Cond.instanceMethod yX5_noObject, Cond.selects RX5 yX5_noObject yX5_noObject, Cond.initialized RX5, Cond.code yX5_noObject cX5_noObject 2 (some .boolean), Cond.fieldLink RX5 78 "RentSizesModel" "objects" "I", Cond.methodLink RX5 83 yX5_in, Cond.static yX5_in, Cond.code yX5_in cX5_in 6 (some .boolean), Cond.methodLink RX5 101 yX5_noAccount, Cond.instanceMethod yX5_noAccount, Cond.selects RX5 yX5_noAccount yX5_noAccount, Cond.code yX5_noAccount cX5_noAccount 2 (some .boolean), Cond.constantLong RX5 81 (5), Cond.methodLink RX5 149 yX5_digestOf, Cond.instanceMethod yX5_digestOf]
def wsX5_back_r2 : List Cond := [Cond.selects RX5 yX5_digestOf yX5_digestOf, Cond.code yX5_digestOf cX5_digestOf 4 (some .int), Cond.fieldLink RX5 40 "RentSizesModel" "words" "[I", Cond.methodLink RX5 124 yX5_isCapped, Cond.instanceMethod yX5_isCapped, Cond.selects RX5 yX5_isCapped yX5_isCapped, Cond.code yX5_isCapped cX5_isCapped 3 (some .boolean), Cond.fieldLink RX5 25 "RentSizesModel" "caps" "[I", Cond.methodLink RX5 107 yX5_liveSizes, Cond.instanceMethod yX5_liveSizes, Cond.selects RX5 yX5_liveSizes yX5_liveSizes, Cond.code yX5_liveSizes cX5_liveSizes 4 (some .int), Cond.methodLink RX5 127 yX5_charged, Cond.instanceMethod yX5_charged, Cond.selects RX5 yX5_charged yX5_charged, Cond.code yX5_charged cX5_charged 3 (some .int), Cond.fieldLink RX5 19 "RentSizesModel" "eLeast" "[I", Cond.methodLink RX5 97 yX5_editionAt, Cond.instanceMethod yX5_editionAt, Cond.selects RX5 yX5_editionAt yX5_editionAt, Cond.code yX5_editionAt cX5_editionAt 4 (some .int), Cond.fieldLink RX5 68 "RentSizesModel" "editions" "I", Cond.fieldLink RX5 7 "RentSizesModel" "eFrom" "[I", Cond.methodLink RX5 130 yX5_rent]
def wsX5_back_r3 : List Cond := [Cond.instanceMethod yX5_rent, Cond.selects RX5 yX5_rent yX5_rent, Cond.code yX5_rent cX5_rent 1 (some .int), Cond.fieldLink RX5 16 "RentSizesModel" "eRent" "[I"]
def wsX5_back : List Cond := .code yX5_back cX5_back 7 (some .int) :: ((wsX5_back_r1 ++ (wsX5_back_r2 ++ wsX5_back_r3)) ++ wsX50)
def wsX5_digest : List Cond := .code yX5_digest cX5_digest 2 (some .int) :: ([.methodLink RX5 137 yX5_noObject, .instanceMethod yX5_noObject, .selects RX5 yX5_noObject yX5_noObject, .initialized RX5, .code yX5_noObject cX5_noObject 2 (some .boolean), .fieldLink RX5 78 "RentSizesModel" "objects" "I", .methodLink RX5 83 yX5_in, .static yX5_in, .code yX5_in cX5_in 6 (some .boolean), .methodLink RX5 149 yX5_digestOf, .instanceMethod yX5_digestOf, .selects RX5 yX5_digestOf yX5_digestOf, .code yX5_digestOf cX5_digestOf 4 (some .int), .fieldLink RX5 37 "RentSizesModel" "size" "[I", .fieldLink RX5 40 "RentSizesModel" "words" "[I"] ++ wsX50)
def wsX5_allWeights : List Cond := .code yX5_allWeights cX5_allWeights 3 (some .int) :: ([.fieldLink RX5 31 "RentSizesModel" "weights" "[I"] ++ wsX50)
def wsX5_rank : List Cond := .code yX5_rank cX5_rank 4 (some .int) :: ([.fieldLink RX5 31 "RentSizesModel" "weights" "[I"] ++ wsX50)
def wsX5_share : List Cond := .code yX5_share cX5_share 6 none :: ([.fieldLink RX5 72 "RentSizesModel" "pool" "I", .fieldLink RX5 31 "RentSizesModel" "weights" "[I", .fieldLink RX5 28 "RentSizesModel" "nodeCoins" "[I", .fieldLink RX5 75 "RentSizesModel" "paidOut" "I", .methodLink RX5 152 yX5_allWeights, .instanceMethod yX5_allWeights, .selects RX5 yX5_allWeights yX5_allWeights, .initialized RX5, .code yX5_allWeights cX5_allWeights 3 (some .int), .methodLink RX5 155 yX5_rank, .instanceMethod yX5_rank, .selects RX5 yX5_rank yX5_rank, .code yX5_rank cX5_rank 4 (some .int)] ++ wsX50)
def wsX5_tick_r1 : List Cond := [Cond.constantLong RX5 89 (100), Cond.fieldLink RX5 64 "RentSizesModel" "height" "I", Cond.constant RX5 71 (100000), Cond.fieldLink RX5 78 "RentSizesModel" "objects" "I", Cond.fieldLink RX5 46 "RentSizesModel" "state" "[I", Cond.fieldLink RX5 43 "RentSizesModel" "paid" "[I", Cond.methodLink RX5 83 yX5_in, Cond.static yX5_in, Cond.initialized RX5, Cond.code yX5_in cX5_in 6 (some .boolean), Cond.methodLink RX5 158 yX5_share, Cond.instanceMethod yX5_share, Cond.selects RX5 yX5_share yX5_share, Cond.code yX5_share cX5_share 6 none, Cond.fieldLink RX5 72 "RentSizesModel" "pool" "I", Cond.fieldLink RX5 31 "RentSizesModel" "weights" "[I", Cond.fieldLink RX5 28 "RentSizesModel" "nodeCoins" "[I", Cond.fieldLink RX5 75 "RentSizesModel" "paidOut" "I", Cond.methodLink RX5 152 yX5_allWeights, Cond.instanceMethod yX5_allWeights, Cond.selects RX5 yX5_allWeights yX5_allWeights, Cond.code yX5_allWeights cX5_allWeights 3 (some .int), Cond.methodLink RX5 155 yX5_rank, Cond.instanceMethod yX5_rank]
def wsX5_tick_r2 : List Cond := [Cond.selects RX5 yX5_rank yX5_rank, Cond.code yX5_rank cX5_rank 4 (some .int)]
def wsX5_tick : List Cond := .code yX5_tick cX5_tick 5 (some .int) :: ((wsX5_tick_r1 ++ wsX5_tick_r2) ++ wsX50)
def wsX5_weight : List Cond := .code yX5_weight cX5_weight 4 (some .int) :: ([.constantLong RX5 161 (4), .constantLong RX5 122 (1000), .fieldLink RX5 31 "RentSizesModel" "weights" "[I", .methodLink RX5 83 yX5_in, .static yX5_in, .initialized RX5, .code yX5_in cX5_in 6 (some .boolean)] ++ wsX50)
def wsX5_coins : List Cond := .code yX5_coins cX5_coins 3 (some .int) :: ([.fieldLink RX5 22 "RentSizesModel" "accountCoins" "[I", .constantLong RX5 161 (4), .fieldLink RX5 28 "RentSizesModel" "nodeCoins" "[I", .methodLink RX5 83 yX5_in, .static yX5_in, .initialized RX5, .code yX5_in cX5_in 6 (some .boolean), .methodLink RX5 101 yX5_noAccount, .instanceMethod yX5_noAccount, .selects RX5 yX5_noAccount yX5_noAccount, .code yX5_noAccount cX5_noAccount 2 (some .boolean), .constantLong RX5 81 (5)] ++ wsX50)
def wsX5_object_r1 : List Cond := [Cond.fieldLink RX5 34 "RentSizesModel" "owner" "[I", Cond.fieldLink RX5 43 "RentSizesModel" "paid" "[I", Cond.fieldLink RX5 46 "RentSizesModel" "state" "[I", Cond.fieldLink RX5 49 "RentSizesModel" "layers" "[I", Cond.fieldLink RX5 37 "RentSizesModel" "size" "[I", Cond.methodLink RX5 137 yX5_noObject, Cond.instanceMethod yX5_noObject, Cond.selects RX5 yX5_noObject yX5_noObject, Cond.initialized RX5, Cond.code yX5_noObject cX5_noObject 2 (some .boolean), Cond.fieldLink RX5 78 "RentSizesModel" "objects" "I", Cond.methodLink RX5 83 yX5_in, Cond.static yX5_in, Cond.code yX5_in cX5_in 6 (some .boolean), Cond.methodLink RX5 142 yX5_sizeNow, Cond.instanceMethod yX5_sizeNow, Cond.selects RX5 yX5_sizeNow yX5_sizeNow, Cond.code yX5_sizeNow cX5_sizeNow 2 (some .int), Cond.methodLink RX5 163 yX5_heldFor, Cond.instanceMethod yX5_heldFor, Cond.selects RX5 yX5_heldFor yX5_heldFor, Cond.code yX5_heldFor cX5_heldFor 4 (some .int), Cond.fieldLink RX5 52 "RentSizesModel" "layerBytes" "[I", Cond.fieldLink RX5 55 "RentSizesModel" "layerPrice" "[I"]
def wsX5_object_r2 : List Cond := [Cond.methodLink RX5 127 yX5_charged, Cond.instanceMethod yX5_charged, Cond.selects RX5 yX5_charged yX5_charged, Cond.code yX5_charged cX5_charged 3 (some .int), Cond.fieldLink RX5 19 "RentSizesModel" "eLeast" "[I", Cond.fieldLink RX5 64 "RentSizesModel" "height" "I", Cond.methodLink RX5 97 yX5_editionAt, Cond.instanceMethod yX5_editionAt, Cond.selects RX5 yX5_editionAt yX5_editionAt, Cond.code yX5_editionAt cX5_editionAt 4 (some .int), Cond.fieldLink RX5 68 "RentSizesModel" "editions" "I", Cond.fieldLink RX5 7 "RentSizesModel" "eFrom" "[I"]
def wsX5_object : List Cond := .code yX5_object cX5_object 3 (some .int) :: ((wsX5_object_r1 ++ wsX5_object_r2) ++ wsX50)
def wsX5_layer : List Cond := .code yX5_layer cX5_layer 5 (some .int) :: ([.constantLong RX5 166 (2), .fieldLink RX5 49 "RentSizesModel" "layers" "[I", .fieldLink RX5 52 "RentSizesModel" "layerBytes" "[I", .fieldLink RX5 55 "RentSizesModel" "layerPrice" "[I", .fieldLink RX5 58 "RentSizesModel" "layerFrom" "[I", .methodLink RX5 137 yX5_noObject, .instanceMethod yX5_noObject, .selects RX5 yX5_noObject yX5_noObject, .initialized RX5, .code yX5_noObject cX5_noObject 2 (some .boolean), .fieldLink RX5 78 "RentSizesModel" "objects" "I", .methodLink RX5 83 yX5_in, .static yX5_in, .code yX5_in cX5_in 6 (some .boolean)] ++ wsX50)
def wsX5_word : List Cond := .code yX5_word cX5_word 3 (some .int) :: ([.constantLong RX5 95 (3), .fieldLink RX5 46 "RentSizesModel" "state" "[I", .fieldLink RX5 40 "RentSizesModel" "words" "[I", .methodLink RX5 137 yX5_noObject, .instanceMethod yX5_noObject, .selects RX5 yX5_noObject yX5_noObject, .initialized RX5, .code yX5_noObject cX5_noObject 2 (some .boolean), .fieldLink RX5 78 "RentSizesModel" "objects" "I", .methodLink RX5 83 yX5_in, .static yX5_in, .code yX5_in cX5_in 6 (some .boolean)] ++ wsX50)
def wsX5_wouldGive : List Cond := .code yX5_wouldGive cX5_wouldGive 4 (some .int) :: ([.fieldLink RX5 46 "RentSizesModel" "state" "[I", .fieldLink RX5 37 "RentSizesModel" "size" "[I", .methodLink RX5 137 yX5_noObject, .instanceMethod yX5_noObject, .selects RX5 yX5_noObject yX5_noObject, .initialized RX5, .code yX5_noObject cX5_noObject 2 (some .boolean), .fieldLink RX5 78 "RentSizesModel" "objects" "I", .methodLink RX5 83 yX5_in, .static yX5_in, .code yX5_in cX5_in 6 (some .boolean), .methodLink RX5 101 yX5_noAccount, .instanceMethod yX5_noAccount, .selects RX5 yX5_noAccount yX5_noAccount, .code yX5_noAccount cX5_noAccount 2 (some .boolean), .constantLong RX5 81 (5), .methodLink RX5 118 yX5_gives, .instanceMethod yX5_gives, .selects RX5 yX5_gives yX5_gives, .code yX5_gives cX5_gives 9 (some .int), .fieldLink RX5 49 "RentSizesModel" "layers" "[I", .fieldLink RX5 52 "RentSizesModel" "layerBytes" "[I", .fieldLink RX5 58 "RentSizesModel" "layerFrom" "[I", .fieldLink RX5 55 "RentSizesModel" "layerPrice" "[I"] ++ wsX50)
def wsX5_exact : List Cond := .code yX5_exact cX5_exact 8 (some .long) :: ([.fieldLink RX5 168 "RentSizesModel" "thrownNow" "I", .constantLong RX5 171 (-1), .constantLong RX5 173 (-9223372036854775808)] ++ wsX50)
def wsX5_thrown : List Cond := .code yX5_thrown cX5_thrown 1 (some .int) :: ([.fieldLink RX5 168 "RentSizesModel" "thrownNow" "I"] ++ wsX50)
def wsX5_held : List Cond := .code yX5_held cX5_held 3 (some .int) :: ([.fieldLink RX5 78 "RentSizesModel" "objects" "I", .methodLink RX5 163 yX5_heldFor, .instanceMethod yX5_heldFor, .selects RX5 yX5_heldFor yX5_heldFor, .initialized RX5, .code yX5_heldFor cX5_heldFor 4 (some .int), .fieldLink RX5 49 "RentSizesModel" "layers" "[I", .fieldLink RX5 52 "RentSizesModel" "layerBytes" "[I", .fieldLink RX5 55 "RentSizesModel" "layerPrice" "[I"] ++ wsX50)
def wsX5_manyOf : List Cond := .code yX5_manyOf cX5_manyOf 4 (some .int) :: ([.fieldLink RX5 78 "RentSizesModel" "objects" "I", .fieldLink RX5 46 "RentSizesModel" "state" "[I"] ++ wsX50)
def wsX5_allCoins : List Cond := .code yX5_allCoins cX5_allCoins 3 (some .int) :: ([.fieldLink RX5 72 "RentSizesModel" "pool" "I", .fieldLink RX5 22 "RentSizesModel" "accountCoins" "[I", .fieldLink RX5 28 "RentSizesModel" "nodeCoins" "[I", .methodLink RX5 175 yX5_held, .instanceMethod yX5_held, .selects RX5 yX5_held yX5_held, .initialized RX5, .code yX5_held cX5_held 3 (some .int), .fieldLink RX5 78 "RentSizesModel" "objects" "I", .methodLink RX5 163 yX5_heldFor, .instanceMethod yX5_heldFor, .selects RX5 yX5_heldFor yX5_heldFor, .code yX5_heldFor cX5_heldFor 4 (some .int), .fieldLink RX5 49 "RentSizesModel" "layers" "[I", .fieldLink RX5 52 "RentSizesModel" "layerBytes" "[I", .fieldLink RX5 55 "RentSizesModel" "layerPrice" "[I"] ++ wsX50)
def wsX5_told_r1 : List Cond := [Cond.fieldLink RX5 64 "RentSizesModel" "height" "I", Cond.fieldLink RX5 78 "RentSizesModel" "objects" "I", Cond.fieldLink RX5 72 "RentSizesModel" "pool" "I", Cond.fieldLink RX5 68 "RentSizesModel" "editions" "I", Cond.fieldLink RX5 75 "RentSizesModel" "paidOut" "I", Cond.methodLink RX5 178 yX5_manyOf, Cond.instanceMethod yX5_manyOf, Cond.selects RX5 yX5_manyOf yX5_manyOf, Cond.initialized RX5, Cond.code yX5_manyOf cX5_manyOf 4 (some .int), Cond.fieldLink RX5 46 "RentSizesModel" "state" "[I", Cond.methodLink RX5 107 yX5_liveSizes, Cond.instanceMethod yX5_liveSizes, Cond.selects RX5 yX5_liveSizes yX5_liveSizes, Cond.code yX5_liveSizes cX5_liveSizes 4 (some .int), Cond.fieldLink RX5 34 "RentSizesModel" "owner" "[I", Cond.fieldLink RX5 37 "RentSizesModel" "size" "[I", Cond.methodLink RX5 175 yX5_held, Cond.instanceMethod yX5_held, Cond.selects RX5 yX5_held yX5_held, Cond.code yX5_held cX5_held 3 (some .int), Cond.methodLink RX5 163 yX5_heldFor, Cond.instanceMethod yX5_heldFor, Cond.selects RX5 yX5_heldFor yX5_heldFor]
def wsX5_told_r2 : List Cond := [Cond.code yX5_heldFor cX5_heldFor 4 (some .int), Cond.fieldLink RX5 49 "RentSizesModel" "layers" "[I", Cond.fieldLink RX5 52 "RentSizesModel" "layerBytes" "[I", Cond.fieldLink RX5 55 "RentSizesModel" "layerPrice" "[I", Cond.methodLink RX5 181 yX5_allCoins, Cond.instanceMethod yX5_allCoins, Cond.selects RX5 yX5_allCoins yX5_allCoins, Cond.code yX5_allCoins cX5_allCoins 3 (some .int), Cond.fieldLink RX5 22 "RentSizesModel" "accountCoins" "[I", Cond.fieldLink RX5 28 "RentSizesModel" "nodeCoins" "[I"]
def wsX5_told : List Cond := .code yX5_told cX5_told 2 (some .int) :: ((wsX5_told_r1 ++ wsX5_told_r2) ++ wsX50)
def wsX5_clear : List Cond := .code yX5_clear cX5_clear 2 (some .int) :: ([.fieldLink RX5 78 "RentSizesModel" "objects" "I", .methodLink RX5 61 yX5_begin, .instanceMethod yX5_begin, .selects RX5 yX5_begin yX5_begin, .initialized RX5, .code yX5_begin cX5_begin 2 none, .fieldLink RX5 64 "RentSizesModel" "height" "I", .fieldLink RX5 68 "RentSizesModel" "editions" "I", .fieldLink RX5 7 "RentSizesModel" "eFrom" "[I", .fieldLink RX5 13 "RentSizesModel" "ePrice" "[I", .fieldLink RX5 16 "RentSizesModel" "eRent" "[I", .fieldLink RX5 19 "RentSizesModel" "eLeast" "[I", .fieldLink RX5 22 "RentSizesModel" "accountCoins" "[I", .constant RX5 71 (100000), .fieldLink RX5 25 "RentSizesModel" "caps" "[I", .fieldLink RX5 28 "RentSizesModel" "nodeCoins" "[I", .fieldLink RX5 31 "RentSizesModel" "weights" "[I", .fieldLink RX5 72 "RentSizesModel" "pool" "I", .fieldLink RX5 75 "RentSizesModel" "paidOut" "I"] ++ wsX50)
def wsJ9_max_7cf53 : List Cond := .code yJ9_max_7cf53 cJ9_max_7cf53 2 (some .int) :: ([])
def wsJ9_min_7cf53 : List Cond := .code yJ9_min_7cf53 cJ9_min_7cf53 2 (some .int) :: ([])
abbrev vwCl : List vw_C := [(RX0, TX0, 5), (RX1, TX1, 6), (RX2, TX2, 4), (RX3, TX3, 6), (RX4, TX4, 6), (RX5, TX5, 23)]
end
section
theorem dJ7_fill_53178_0 : decode cJ7_fill_53178 0 = .ok (.iconst 0, 1) := by decide +kernel
theorem dJ7_fill_53178_1 : decode cJ7_fill_53178 1 = .ok (.istore_n 2, 1) := by decide +kernel
theorem dJ7_fill_53178_2 : decode cJ7_fill_53178 2 = .ok (.aload_n 0, 1) := by decide +kernel
theorem dJ7_fill_53178_3 : decode cJ7_fill_53178 3 = .ok (.arraylength, 1) := by decide +kernel
theorem dJ7_fill_53178_4 : decode cJ7_fill_53178 4 = .ok (.istore_n 3, 1) := by decide +kernel
theorem dJ7_fill_53178_5 : decode cJ7_fill_53178 5 = .ok (.iload_n 2, 1) := by decide +kernel
theorem dJ7_fill_53178_6 : decode cJ7_fill_53178 6 = .ok (.iload_n 3, 1) := by decide +kernel
theorem dJ7_fill_53178_7 : decode cJ7_fill_53178 7 = .ok (.if_icmp .ge 13, 3) := by decide +kernel
theorem dJ7_fill_53178_10 : decode cJ7_fill_53178 10 = .ok (.aload_n 0, 1) := by decide +kernel
theorem dJ7_fill_53178_11 : decode cJ7_fill_53178 11 = .ok (.iload_n 2, 1) := by decide +kernel
theorem dJ7_fill_53178_12 : decode cJ7_fill_53178 12 = .ok (.iload_n 1, 1) := by decide +kernel
theorem dJ7_fill_53178_13 : decode cJ7_fill_53178 13 = .ok (.iastore, 1) := by decide +kernel
theorem dJ7_fill_53178_14 : decode cJ7_fill_53178 14 = .ok (.iinc 2 1, 3) := by decide +kernel
theorem dJ7_fill_53178_17 : decode cJ7_fill_53178 17 = .ok (.goto (-12), 3) := by decide +kernel
theorem dJ7_fill_53178_20 : decode cJ7_fill_53178 20 = .ok (.return_, 1) := by decide +kernel
theorem dJ9_max_7cf53_0 : decode cJ9_max_7cf53 0 = .ok (.iload_n 0, 1) := by decide +kernel
theorem dJ9_max_7cf53_1 : decode cJ9_max_7cf53 1 = .ok (.iload_n 1, 1) := by decide +kernel
theorem dJ9_max_7cf53_2 : decode cJ9_max_7cf53 2 = .ok (.if_icmp .lt 7, 3) := by decide +kernel
theorem dJ9_max_7cf53_5 : decode cJ9_max_7cf53 5 = .ok (.iload_n 0, 1) := by decide +kernel
theorem dJ9_max_7cf53_6 : decode cJ9_max_7cf53 6 = .ok (.goto 4, 3) := by decide +kernel
theorem dJ9_max_7cf53_9 : decode cJ9_max_7cf53 9 = .ok (.iload_n 1, 1) := by decide +kernel
theorem dJ9_max_7cf53_10 : decode cJ9_max_7cf53 10 = .ok (.ireturn, 1) := by decide +kernel
theorem dJ9_min_7cf53_0 : decode cJ9_min_7cf53 0 = .ok (.iload_n 0, 1) := by decide +kernel
theorem dJ9_min_7cf53_1 : decode cJ9_min_7cf53 1 = .ok (.iload_n 1, 1) := by decide +kernel
theorem dJ9_min_7cf53_2 : decode cJ9_min_7cf53 2 = .ok (.if_icmp .gt 7, 3) := by decide +kernel
theorem dJ9_min_7cf53_5 : decode cJ9_min_7cf53 5 = .ok (.iload_n 0, 1) := by decide +kernel
theorem dJ9_min_7cf53_6 : decode cJ9_min_7cf53 6 = .ok (.goto 4, 3) := by decide +kernel
theorem dJ9_min_7cf53_9 : decode cJ9_min_7cf53 9 = .ok (.iload_n 1, 1) := by decide +kernel
theorem dJ9_min_7cf53_10 : decode cJ9_min_7cf53 10 = .ok (.ireturn, 1) := by decide +kernel
end
section
set_option maxRecDepth 20000 in
theorem ggX0_reset_X0_append : GoodIn wsX0_reset wsX0_append := goodIn_r _ [6, 1, 7, 8, 9, 10, 11, 12, 13, 14, 15] (by decide +kernel) (by decide +kernel)
set_option maxRecDepth 20000 in
theorem gX0_reset_X0_append : GoodIn wsX0_reset (wsV RX0 28 RX0 yX0_append wsX0_append) := goodIn_app (goodIn_of _ (by decide +kernel)) ggX0_reset_X0_append
set_option maxRecDepth 20000 in
theorem ggX0_priceOn_X0_holding : GoodIn wsX0_priceOn wsX0_holding := goodIn_r _ [6, 7, 8, 9, 10, 11, 12, 13] (by decide +kernel) (by decide +kernel)
set_option maxRecDepth 20000 in
theorem gX0_priceOn_X0_holding : GoodIn wsX0_priceOn (wsV RX0 32 RX0 yX0_holding wsX0_holding) := goodIn_app (goodIn_of _ (by decide +kernel)) ggX0_priceOn_X0_holding
set_option maxRecDepth 20000 in
theorem ggX0_rentOn_X0_holding : GoodIn wsX0_rentOn wsX0_holding := goodIn_r _ [6, 7, 8, 9, 10, 11, 12, 13] (by decide +kernel) (by decide +kernel)
set_option maxRecDepth 20000 in
theorem gX0_rentOn_X0_holding : GoodIn wsX0_rentOn (wsV RX0 32 RX0 yX0_holding wsX0_holding) := goodIn_app (goodIn_of _ (by decide +kernel)) ggX0_rentOn_X0_holding
set_option maxRecDepth 20000 in
theorem ggX0_leastOn_X0_holding : GoodIn wsX0_leastOn wsX0_holding := goodIn_r _ [6, 7, 8, 9, 10, 11, 12, 13] (by decide +kernel) (by decide +kernel)
set_option maxRecDepth 20000 in
theorem gX0_leastOn_X0_holding : GoodIn wsX0_leastOn (wsV RX0 32 RX0 yX0_holding wsX0_holding) := goodIn_app (goodIn_of _ (by decide +kernel)) ggX0_leastOn_X0_holding
set_option maxRecDepth 20000 in
theorem ggX0_fromOn_X0_holding : GoodIn wsX0_fromOn wsX0_holding := goodIn_r _ [6, 7, 1, 8, 9, 10, 11, 12] (by decide +kernel) (by decide +kernel)
set_option maxRecDepth 20000 in
theorem gX0_fromOn_X0_holding : GoodIn wsX0_fromOn (wsV RX0 32 RX0 yX0_holding wsX0_holding) := goodIn_app (goodIn_of _ (by decide +kernel)) ggX0_fromOn_X0_holding
theorem dX0_init_0 : decode cX0_init 0 = .ok (.aload_n 0, 1) := by decide +kernel
theorem dX0_init_1 : decode cX0_init 1 = .ok (.invokespecial 3, 3) := by decide +kernel
theorem dX0_init_4 : decode cX0_init 4 = .ok (.aload_n 0, 1) := by decide +kernel
theorem dX0_init_5 : decode cX0_init 5 = .ok (.bipush 10, 2) := by decide +kernel
theorem dX0_init_7 : decode cX0_init 7 = .ok (.newarray .int, 2) := by decide +kernel
theorem dX0_init_9 : decode cX0_init 9 = .ok (.putfield 9, 3) := by decide +kernel
theorem dX0_init_12 : decode cX0_init 12 = .ok (.aload_n 0, 1) := by decide +kernel
theorem dX0_init_13 : decode cX0_init 13 = .ok (.bipush 10, 2) := by decide +kernel
theorem dX0_init_15 : decode cX0_init 15 = .ok (.newarray .int, 2) := by decide +kernel
theorem dX0_init_17 : decode cX0_init 17 = .ok (.putfield 15, 3) := by decide +kernel
theorem dX0_init_20 : decode cX0_init 20 = .ok (.aload_n 0, 1) := by decide +kernel
theorem dX0_init_21 : decode cX0_init 21 = .ok (.bipush 10, 2) := by decide +kernel
theorem dX0_init_23 : decode cX0_init 23 = .ok (.newarray .int, 2) := by decide +kernel
theorem dX0_init_25 : decode cX0_init 25 = .ok (.putfield 18, 3) := by decide +kernel
theorem dX0_init_28 : decode cX0_init 28 = .ok (.aload_n 0, 1) := by decide +kernel
theorem dX0_init_29 : decode cX0_init 29 = .ok (.bipush 10, 2) := by decide +kernel
theorem dX0_init_31 : decode cX0_init 31 = .ok (.newarray .int, 2) := by decide +kernel
theorem dX0_init_33 : decode cX0_init 33 = .ok (.putfield 21, 3) := by decide +kernel
theorem dX0_init_36 : decode cX0_init 36 = .ok (.return_, 1) := by decide +kernel
theorem dX0_reset_0 : decode cX0_reset 0 = .ok (.aload_n 0, 1) := by decide +kernel
theorem dX0_reset_1 : decode cX0_reset 1 = .ok (.iconst 0, 1) := by decide +kernel
theorem dX0_reset_2 : decode cX0_reset 2 = .ok (.putfield 24, 3) := by decide +kernel
theorem dX0_reset_5 : decode cX0_reset 5 = .ok (.aload_n 0, 1) := by decide +kernel
theorem dX0_reset_6 : decode cX0_reset 6 = .ok (.iconst 0, 1) := by decide +kernel
theorem dX0_reset_7 : decode cX0_reset 7 = .ok (.bipush 10, 2) := by decide +kernel
theorem dX0_reset_9 : decode cX0_reset 9 = .ok (.iconst 1, 1) := by decide +kernel
theorem dX0_reset_10 : decode cX0_reset 10 = .ok (.bipush 8, 2) := by decide +kernel
theorem dX0_reset_12 : decode cX0_reset 12 = .ok (.invokevirtual 28, 3) := by decide +kernel
theorem dX0_reset_15 : decode cX0_reset 15 = .ok (.return_, 1) := by decide +kernel
theorem dX0_hasRoom_0 : decode cX0_hasRoom 0 = .ok (.aload_n 0, 1) := by decide +kernel
theorem dX0_hasRoom_1 : decode cX0_hasRoom 1 = .ok (.getfield 24, 3) := by decide +kernel
theorem dX0_hasRoom_4 : decode cX0_hasRoom 4 = .ok (.bipush 10, 2) := by decide +kernel
theorem dX0_hasRoom_6 : decode cX0_hasRoom 6 = .ok (.if_icmp .ge 7, 3) := by decide +kernel
theorem dX0_hasRoom_9 : decode cX0_hasRoom 9 = .ok (.iconst 1, 1) := by decide +kernel
theorem dX0_hasRoom_10 : decode cX0_hasRoom 10 = .ok (.goto 4, 3) := by decide +kernel
theorem dX0_hasRoom_13 : decode cX0_hasRoom 13 = .ok (.iconst 0, 1) := by decide +kernel
theorem dX0_hasRoom_14 : decode cX0_hasRoom 14 = .ok (.ireturn, 1) := by decide +kernel
theorem dX0_append_0 : decode cX0_append 0 = .ok (.aload_n 0, 1) := by decide +kernel
theorem dX0_append_1 : decode cX0_append 1 = .ok (.getfield 24, 3) := by decide +kernel
theorem dX0_append_4 : decode cX0_append 4 = .ok (.bipush 10, 2) := by decide +kernel
theorem dX0_append_6 : decode cX0_append 6 = .ok (.if_icmp .ge 54, 3) := by decide +kernel
theorem dX0_append_9 : decode cX0_append 9 = .ok (.aload_n 0, 1) := by decide +kernel
theorem dX0_append_10 : decode cX0_append 10 = .ok (.getfield 9, 3) := by decide +kernel
theorem dX0_append_13 : decode cX0_append 13 = .ok (.aload_n 0, 1) := by decide +kernel
theorem dX0_append_14 : decode cX0_append 14 = .ok (.getfield 24, 3) := by decide +kernel
theorem dX0_append_17 : decode cX0_append 17 = .ok (.iload_n 1, 1) := by decide +kernel
theorem dX0_append_18 : decode cX0_append 18 = .ok (.iastore, 1) := by decide +kernel
theorem dX0_append_19 : decode cX0_append 19 = .ok (.aload_n 0, 1) := by decide +kernel
theorem dX0_append_20 : decode cX0_append 20 = .ok (.getfield 15, 3) := by decide +kernel
theorem dX0_append_23 : decode cX0_append 23 = .ok (.aload_n 0, 1) := by decide +kernel
theorem dX0_append_24 : decode cX0_append 24 = .ok (.getfield 24, 3) := by decide +kernel
theorem dX0_append_27 : decode cX0_append 27 = .ok (.iload_n 2, 1) := by decide +kernel
theorem dX0_append_28 : decode cX0_append 28 = .ok (.iastore, 1) := by decide +kernel
theorem dX0_append_29 : decode cX0_append 29 = .ok (.aload_n 0, 1) := by decide +kernel
theorem dX0_append_30 : decode cX0_append 30 = .ok (.getfield 18, 3) := by decide +kernel
theorem dX0_append_33 : decode cX0_append 33 = .ok (.aload_n 0, 1) := by decide +kernel
theorem dX0_append_34 : decode cX0_append 34 = .ok (.getfield 24, 3) := by decide +kernel
theorem dX0_append_37 : decode cX0_append 37 = .ok (.iload_n 3, 1) := by decide +kernel
theorem dX0_append_38 : decode cX0_append 38 = .ok (.iastore, 1) := by decide +kernel
theorem dX0_append_39 : decode cX0_append 39 = .ok (.aload_n 0, 1) := by decide +kernel
theorem dX0_append_40 : decode cX0_append 40 = .ok (.getfield 21, 3) := by decide +kernel
theorem dX0_append_43 : decode cX0_append 43 = .ok (.aload_n 0, 1) := by decide +kernel
theorem dX0_append_44 : decode cX0_append 44 = .ok (.getfield 24, 3) := by decide +kernel
theorem dX0_append_47 : decode cX0_append 47 = .ok (.iload 4, 2) := by decide +kernel
theorem dX0_append_49 : decode cX0_append 49 = .ok (.iastore, 1) := by decide +kernel
theorem dX0_append_50 : decode cX0_append 50 = .ok (.aload_n 0, 1) := by decide +kernel
theorem dX0_append_51 : decode cX0_append 51 = .ok (.dup, 1) := by decide +kernel
theorem dX0_append_52 : decode cX0_append 52 = .ok (.getfield 24, 3) := by decide +kernel
theorem dX0_append_55 : decode cX0_append 55 = .ok (.iconst 1, 1) := by decide +kernel
theorem dX0_append_56 : decode cX0_append 56 = .ok (.iadd, 1) := by decide +kernel
theorem dX0_append_57 : decode cX0_append 57 = .ok (.putfield 24, 3) := by decide +kernel
theorem dX0_append_60 : decode cX0_append 60 = .ok (.return_, 1) := by decide +kernel
theorem dX0_lastFrom_0 : decode cX0_lastFrom 0 = .ok (.aload_n 0, 1) := by decide +kernel
theorem dX0_lastFrom_1 : decode cX0_lastFrom 1 = .ok (.getfield 24, 3) := by decide +kernel
theorem dX0_lastFrom_4 : decode cX0_lastFrom 4 = .ok (.ifCond .le 17, 3) := by decide +kernel
theorem dX0_lastFrom_7 : decode cX0_lastFrom 7 = .ok (.aload_n 0, 1) := by decide +kernel
theorem dX0_lastFrom_8 : decode cX0_lastFrom 8 = .ok (.getfield 9, 3) := by decide +kernel
theorem dX0_lastFrom_11 : decode cX0_lastFrom 11 = .ok (.aload_n 0, 1) := by decide +kernel
theorem dX0_lastFrom_12 : decode cX0_lastFrom 12 = .ok (.getfield 24, 3) := by decide +kernel
theorem dX0_lastFrom_15 : decode cX0_lastFrom 15 = .ok (.iconst 1, 1) := by decide +kernel
theorem dX0_lastFrom_16 : decode cX0_lastFrom 16 = .ok (.isub, 1) := by decide +kernel
theorem dX0_lastFrom_17 : decode cX0_lastFrom 17 = .ok (.iaload, 1) := by decide +kernel
theorem dX0_lastFrom_18 : decode cX0_lastFrom 18 = .ok (.goto 4, 3) := by decide +kernel
theorem dX0_lastFrom_21 : decode cX0_lastFrom 21 = .ok (.iconst 0, 1) := by decide +kernel
theorem dX0_lastFrom_22 : decode cX0_lastFrom 22 = .ok (.ireturn, 1) := by decide +kernel
theorem dX0_priceOn_0 : decode cX0_priceOn 0 = .ok (.aload_n 0, 1) := by decide +kernel
theorem dX0_priceOn_1 : decode cX0_priceOn 1 = .ok (.getfield 15, 3) := by decide +kernel
theorem dX0_priceOn_4 : decode cX0_priceOn 4 = .ok (.aload_n 0, 1) := by decide +kernel
theorem dX0_priceOn_5 : decode cX0_priceOn 5 = .ok (.iload_n 1, 1) := by decide +kernel
theorem dX0_priceOn_6 : decode cX0_priceOn 6 = .ok (.invokevirtual 32, 3) := by decide +kernel
theorem dX0_priceOn_9 : decode cX0_priceOn 9 = .ok (.iaload, 1) := by decide +kernel
theorem dX0_priceOn_10 : decode cX0_priceOn 10 = .ok (.ireturn, 1) := by decide +kernel
theorem dX0_rentOn_0 : decode cX0_rentOn 0 = .ok (.aload_n 0, 1) := by decide +kernel
theorem dX0_rentOn_1 : decode cX0_rentOn 1 = .ok (.getfield 18, 3) := by decide +kernel
theorem dX0_rentOn_4 : decode cX0_rentOn 4 = .ok (.aload_n 0, 1) := by decide +kernel
theorem dX0_rentOn_5 : decode cX0_rentOn 5 = .ok (.iload_n 1, 1) := by decide +kernel
theorem dX0_rentOn_6 : decode cX0_rentOn 6 = .ok (.invokevirtual 32, 3) := by decide +kernel
theorem dX0_rentOn_9 : decode cX0_rentOn 9 = .ok (.iaload, 1) := by decide +kernel
theorem dX0_rentOn_10 : decode cX0_rentOn 10 = .ok (.ireturn, 1) := by decide +kernel
theorem dX0_leastOn_0 : decode cX0_leastOn 0 = .ok (.aload_n 0, 1) := by decide +kernel
theorem dX0_leastOn_1 : decode cX0_leastOn 1 = .ok (.getfield 21, 3) := by decide +kernel
theorem dX0_leastOn_4 : decode cX0_leastOn 4 = .ok (.aload_n 0, 1) := by decide +kernel
theorem dX0_leastOn_5 : decode cX0_leastOn 5 = .ok (.iload_n 1, 1) := by decide +kernel
theorem dX0_leastOn_6 : decode cX0_leastOn 6 = .ok (.invokevirtual 32, 3) := by decide +kernel
theorem dX0_leastOn_9 : decode cX0_leastOn 9 = .ok (.iaload, 1) := by decide +kernel
theorem dX0_leastOn_10 : decode cX0_leastOn 10 = .ok (.ireturn, 1) := by decide +kernel
theorem dX0_fromOn_0 : decode cX0_fromOn 0 = .ok (.aload_n 0, 1) := by decide +kernel
theorem dX0_fromOn_1 : decode cX0_fromOn 1 = .ok (.getfield 9, 3) := by decide +kernel
theorem dX0_fromOn_4 : decode cX0_fromOn 4 = .ok (.aload_n 0, 1) := by decide +kernel
theorem dX0_fromOn_5 : decode cX0_fromOn 5 = .ok (.iload_n 1, 1) := by decide +kernel
theorem dX0_fromOn_6 : decode cX0_fromOn 6 = .ok (.invokevirtual 32, 3) := by decide +kernel
theorem dX0_fromOn_9 : decode cX0_fromOn 9 = .ok (.iaload, 1) := by decide +kernel
theorem dX0_fromOn_10 : decode cX0_fromOn 10 = .ok (.ireturn, 1) := by decide +kernel
theorem dX0_holding_0 : decode cX0_holding 0 = .ok (.aload_n 0, 1) := by decide +kernel
theorem dX0_holding_1 : decode cX0_holding 1 = .ok (.getfield 24, 3) := by decide +kernel
theorem dX0_holding_4 : decode cX0_holding 4 = .ok (.iconst 1, 1) := by decide +kernel
theorem dX0_holding_5 : decode cX0_holding 5 = .ok (.isub, 1) := by decide +kernel
theorem dX0_holding_6 : decode cX0_holding 6 = .ok (.istore_n 2, 1) := by decide +kernel
theorem dX0_holding_7 : decode cX0_holding 7 = .ok (.iload_n 2, 1) := by decide +kernel
theorem dX0_holding_8 : decode cX0_holding 8 = .ok (.ifCond .le 21, 3) := by decide +kernel
theorem dX0_holding_11 : decode cX0_holding 11 = .ok (.aload_n 0, 1) := by decide +kernel
theorem dX0_holding_12 : decode cX0_holding 12 = .ok (.getfield 9, 3) := by decide +kernel
theorem dX0_holding_15 : decode cX0_holding 15 = .ok (.iload_n 2, 1) := by decide +kernel
theorem dX0_holding_16 : decode cX0_holding 16 = .ok (.iaload, 1) := by decide +kernel
theorem dX0_holding_17 : decode cX0_holding 17 = .ok (.iload_n 1, 1) := by decide +kernel
theorem dX0_holding_18 : decode cX0_holding 18 = .ok (.if_icmp .gt 5, 3) := by decide +kernel
theorem dX0_holding_21 : decode cX0_holding 21 = .ok (.iload_n 2, 1) := by decide +kernel
theorem dX0_holding_22 : decode cX0_holding 22 = .ok (.ireturn, 1) := by decide +kernel
theorem dX0_holding_23 : decode cX0_holding 23 = .ok (.iinc 2 (-1), 3) := by decide +kernel
theorem dX0_holding_26 : decode cX0_holding 26 = .ok (.goto (-19), 3) := by decide +kernel
theorem dX0_holding_29 : decode cX0_holding 29 = .ok (.iconst 0, 1) := by decide +kernel
theorem dX0_holding_30 : decode cX0_holding 30 = .ok (.ireturn, 1) := by decide +kernel
end
section
set_option maxRecDepth 20000 in
theorem ggX1_init_X2_init : GoodIn wsX1_init wsX2_init := goodIn_r _ [11, 12, 2, 3, 4, 13, 14, 15, 22, 23, 24, 25] (by decide +kernel) (by decide +kernel)
set_option maxRecDepth 20000 in
theorem gX1_init_X2_init_n17 : GoodIn wsX1_init (wsX2_init) := ggX1_init_X2_init
set_option maxRecDepth 20000 in
theorem ggX1_begin_J7_fill_53178 : GoodIn wsX1_begin wsJ7_fill_53178 := goodIn_r _ [10] (by decide +kernel) (by decide +kernel)
set_option maxRecDepth 20000 in
theorem gX1_begin_J7_fill_53178 : GoodIn wsX1_begin (va_wsS RX1 35 yJ7_fill_53178 wsJ7_fill_53178) := goodIn_app (goodIn_of _ (by decide +kernel)) ggX1_begin_J7_fill_53178
theorem dX1_init_0 : decode cX1_init 0 = .ok (.aload_n 0, 1) := by decide +kernel
theorem dX1_init_1 : decode cX1_init 1 = .ok (.invokespecial 3, 3) := by decide +kernel
theorem dX1_init_4 : decode cX1_init 4 = .ok (.aload_n 0, 1) := by decide +kernel
theorem dX1_init_5 : decode cX1_init 5 = .ok (.iconst 4, 1) := by decide +kernel
theorem dX1_init_6 : decode cX1_init 6 = .ok (.newarray .int, 2) := by decide +kernel
theorem dX1_init_8 : decode cX1_init 8 = .ok (.putfield 9, 3) := by decide +kernel
theorem dX1_init_11 : decode cX1_init 11 = .ok (.aload_n 0, 1) := by decide +kernel
theorem dX1_init_12 : decode cX1_init 12 = .ok (.new 15, 3) := by decide +kernel
theorem dX1_init_15 : decode cX1_init 15 = .ok (.dup, 1) := by decide +kernel
theorem dX1_init_16 : decode cX1_init 16 = .ok (.invokespecial 17, 3) := by decide +kernel
theorem dX1_init_19 : decode cX1_init 19 = .ok (.putfield 18, 3) := by decide +kernel
theorem dX1_init_22 : decode cX1_init 22 = .ok (.return_, 1) := by decide +kernel
theorem dX1_begin_0 : decode cX1_begin 0 = .ok (.aload_n 0, 1) := by decide +kernel
theorem dX1_begin_1 : decode cX1_begin 1 = .ok (.iload_n 1, 1) := by decide +kernel
theorem dX1_begin_2 : decode cX1_begin 2 = .ok (.putfield 22, 3) := by decide +kernel
theorem dX1_begin_5 : decode cX1_begin 5 = .ok (.aload_n 0, 1) := by decide +kernel
theorem dX1_begin_6 : decode cX1_begin 6 = .ok (.iload_n 2, 1) := by decide +kernel
theorem dX1_begin_7 : decode cX1_begin 7 = .ok (.putfield 26, 3) := by decide +kernel
theorem dX1_begin_10 : decode cX1_begin 10 = .ok (.aload_n 0, 1) := by decide +kernel
theorem dX1_begin_11 : decode cX1_begin 11 = .ok (.iload_n 3, 1) := by decide +kernel
theorem dX1_begin_12 : decode cX1_begin 12 = .ok (.putfield 29, 3) := by decide +kernel
theorem dX1_begin_15 : decode cX1_begin 15 = .ok (.aload_n 0, 1) := by decide +kernel
theorem dX1_begin_16 : decode cX1_begin 16 = .ok (.iconst 0, 1) := by decide +kernel
theorem dX1_begin_17 : decode cX1_begin 17 = .ok (.putfield 32, 3) := by decide +kernel
theorem dX1_begin_20 : decode cX1_begin 20 = .ok (.aload_n 0, 1) := by decide +kernel
theorem dX1_begin_21 : decode cX1_begin 21 = .ok (.getfield 9, 3) := by decide +kernel
theorem dX1_begin_24 : decode cX1_begin 24 = .ok (.iconst 0, 1) := by decide +kernel
theorem dX1_begin_25 : decode cX1_begin 25 = .ok (.invokestatic 35, 3) := by decide +kernel
theorem dX1_begin_28 : decode cX1_begin 28 = .ok (.aload_n 0, 1) := by decide +kernel
theorem dX1_begin_29 : decode cX1_begin 29 = .ok (.getfield 18, 3) := by decide +kernel
theorem dX1_begin_32 : decode cX1_begin 32 = .ok (.iconst 0, 1) := by decide +kernel
theorem dX1_begin_33 : decode cX1_begin 33 = .ok (.putfield 41, 3) := by decide +kernel
theorem dX1_begin_36 : decode cX1_begin 36 = .ok (.return_, 1) := by decide +kernel
theorem dX1_sizeNow_0 : decode cX1_sizeNow 0 = .ok (.aload_n 0, 1) := by decide +kernel
theorem dX1_sizeNow_1 : decode cX1_sizeNow 1 = .ok (.getfield 32, 3) := by decide +kernel
theorem dX1_sizeNow_4 : decode cX1_sizeNow 4 = .ok (.iconst 2, 1) := by decide +kernel
theorem dX1_sizeNow_5 : decode cX1_sizeNow 5 = .ok (.if_icmp .ne 7, 3) := by decide +kernel
theorem dX1_sizeNow_8 : decode cX1_sizeNow 8 = .ok (.iconst 0, 1) := by decide +kernel
theorem dX1_sizeNow_9 : decode cX1_sizeNow 9 = .ok (.goto 7, 3) := by decide +kernel
theorem dX1_sizeNow_12 : decode cX1_sizeNow 12 = .ok (.aload_n 0, 1) := by decide +kernel
theorem dX1_sizeNow_13 : decode cX1_sizeNow 13 = .ok (.getfield 26, 3) := by decide +kernel
theorem dX1_sizeNow_16 : decode cX1_sizeNow 16 = .ok (.ireturn, 1) := by decide +kernel
theorem dX1_sumUp_0 : decode cX1_sumUp 0 = .ok (.aload_n 0, 1) := by decide +kernel
theorem dX1_sumUp_1 : decode cX1_sumUp 1 = .ok (.getfield 26, 3) := by decide +kernel
theorem dX1_sumUp_4 : decode cX1_sumUp 4 = .ok (.istore_n 1, 1) := by decide +kernel
theorem dX1_sumUp_5 : decode cX1_sumUp 5 = .ok (.iconst 0, 1) := by decide +kernel
theorem dX1_sumUp_6 : decode cX1_sumUp 6 = .ok (.istore_n 2, 1) := by decide +kernel
theorem dX1_sumUp_7 : decode cX1_sumUp 7 = .ok (.iload_n 2, 1) := by decide +kernel
theorem dX1_sumUp_8 : decode cX1_sumUp 8 = .ok (.iconst 4, 1) := by decide +kernel
theorem dX1_sumUp_9 : decode cX1_sumUp 9 = .ok (.if_icmp .ge 21, 3) := by decide +kernel
theorem dX1_sumUp_12 : decode cX1_sumUp 12 = .ok (.bipush 31, 2) := by decide +kernel
theorem dX1_sumUp_14 : decode cX1_sumUp 14 = .ok (.iload_n 1, 1) := by decide +kernel
theorem dX1_sumUp_15 : decode cX1_sumUp 15 = .ok (.imul, 1) := by decide +kernel
theorem dX1_sumUp_16 : decode cX1_sumUp 16 = .ok (.aload_n 0, 1) := by decide +kernel
theorem dX1_sumUp_17 : decode cX1_sumUp 17 = .ok (.getfield 9, 3) := by decide +kernel
theorem dX1_sumUp_20 : decode cX1_sumUp 20 = .ok (.iload_n 2, 1) := by decide +kernel
theorem dX1_sumUp_21 : decode cX1_sumUp 21 = .ok (.iaload, 1) := by decide +kernel
theorem dX1_sumUp_22 : decode cX1_sumUp 22 = .ok (.iadd, 1) := by decide +kernel
theorem dX1_sumUp_23 : decode cX1_sumUp 23 = .ok (.istore_n 1, 1) := by decide +kernel
theorem dX1_sumUp_24 : decode cX1_sumUp 24 = .ok (.iinc 2 1, 3) := by decide +kernel
theorem dX1_sumUp_27 : decode cX1_sumUp 27 = .ok (.goto (-20), 3) := by decide +kernel
theorem dX1_sumUp_30 : decode cX1_sumUp 30 = .ok (.iload_n 1, 1) := by decide +kernel
theorem dX1_sumUp_31 : decode cX1_sumUp 31 = .ok (.iload_n 1, 1) := by decide +kernel
theorem dX1_sumUp_32 : decode cX1_sumUp 32 = .ok (.bipush 13, 2) := by decide +kernel
theorem dX1_sumUp_34 : decode cX1_sumUp 34 = .ok (.iushr, 1) := by decide +kernel
theorem dX1_sumUp_35 : decode cX1_sumUp 35 = .ok (.ixor, 1) := by decide +kernel
theorem dX1_sumUp_36 : decode cX1_sumUp 36 = .ok (.ireturn, 1) := by decide +kernel
end
section
set_option maxRecDepth 20000 in
theorem ggX2_has_X4_within : GoodIn wsX2_has wsX4_within := goodIn_r _ [4] (by decide +kernel) (by decide +kernel)
set_option maxRecDepth 20000 in
theorem gX2_has_X4_within_n25 : GoodIn wsX2_has (wsX4_within) := ggX2_has_X4_within
set_option maxRecDepth 20000 in
theorem ggX2_hasRoomFor_X2_joinsNewest : GoodIn wsX2_hasRoomFor wsX2_joinsNewest := goodIn_r _ [6, 1, 7, 8, 9, 10, 11, 12] (by decide +kernel) (by decide +kernel)
set_option maxRecDepth 20000 in
theorem gX2_hasRoomFor_X2_joinsNewest : GoodIn wsX2_hasRoomFor (wsV RX2 29 RX2 yX2_joinsNewest wsX2_joinsNewest) := goodIn_app (goodIn_of _ (by decide +kernel)) ggX2_hasRoomFor_X2_joinsNewest
set_option maxRecDepth 20000 in
theorem ggX2_put_X2_joinsNewest : GoodIn wsX2_put wsX2_joinsNewest := goodIn_r _ [9, 2, 3, 4, 10, 11, 12, 13] (by decide +kernel) (by decide +kernel)
set_option maxRecDepth 20000 in
theorem gX2_put_X2_joinsNewest : GoodIn wsX2_put (wsV RX2 29 RX2 yX2_joinsNewest wsX2_joinsNewest) := goodIn_app (goodIn_of _ (by decide +kernel)) ggX2_put_X2_joinsNewest
theorem dX2_init_0 : decode cX2_init 0 = .ok (.aload_n 0, 1) := by decide +kernel
theorem dX2_init_1 : decode cX2_init 1 = .ok (.invokespecial 3, 3) := by decide +kernel
theorem dX2_init_4 : decode cX2_init 4 = .ok (.aload_n 0, 1) := by decide +kernel
theorem dX2_init_5 : decode cX2_init 5 = .ok (.bipush 16, 2) := by decide +kernel
theorem dX2_init_7 : decode cX2_init 7 = .ok (.newarray .int, 2) := by decide +kernel
theorem dX2_init_9 : decode cX2_init 9 = .ok (.putfield 9, 3) := by decide +kernel
theorem dX2_init_12 : decode cX2_init 12 = .ok (.aload_n 0, 1) := by decide +kernel
theorem dX2_init_13 : decode cX2_init 13 = .ok (.bipush 16, 2) := by decide +kernel
theorem dX2_init_15 : decode cX2_init 15 = .ok (.newarray .int, 2) := by decide +kernel
theorem dX2_init_17 : decode cX2_init 17 = .ok (.putfield 15, 3) := by decide +kernel
theorem dX2_init_20 : decode cX2_init 20 = .ok (.aload_n 0, 1) := by decide +kernel
theorem dX2_init_21 : decode cX2_init 21 = .ok (.bipush 16, 2) := by decide +kernel
theorem dX2_init_23 : decode cX2_init 23 = .ok (.newarray .int, 2) := by decide +kernel
theorem dX2_init_25 : decode cX2_init 25 = .ok (.putfield 18, 3) := by decide +kernel
theorem dX2_init_28 : decode cX2_init 28 = .ok (.return_, 1) := by decide +kernel
theorem dX2_has_0 : decode cX2_has 0 = .ok (.iload_n 1, 1) := by decide +kernel
theorem dX2_has_1 : decode cX2_has 1 = .ok (.iconst 0, 1) := by decide +kernel
theorem dX2_has_2 : decode cX2_has 2 = .ok (.aload_n 0, 1) := by decide +kernel
theorem dX2_has_3 : decode cX2_has 3 = .ok (.getfield 21, 3) := by decide +kernel
theorem dX2_has_6 : decode cX2_has 6 = .ok (.iconst 1, 1) := by decide +kernel
theorem dX2_has_7 : decode cX2_has 7 = .ok (.isub, 1) := by decide +kernel
theorem dX2_has_8 : decode cX2_has 8 = .ok (.invokestatic 25, 3) := by decide +kernel
theorem dX2_has_11 : decode cX2_has 11 = .ok (.ireturn, 1) := by decide +kernel
theorem dX2_hasRoomFor_0 : decode cX2_hasRoomFor 0 = .ok (.aload_n 0, 1) := by decide +kernel
theorem dX2_hasRoomFor_1 : decode cX2_hasRoomFor 1 = .ok (.getfield 21, 3) := by decide +kernel
theorem dX2_hasRoomFor_4 : decode cX2_hasRoomFor 4 = .ok (.bipush 16, 2) := by decide +kernel
theorem dX2_hasRoomFor_6 : decode cX2_hasRoomFor 6 = .ok (.if_icmp .lt 12, 3) := by decide +kernel
theorem dX2_hasRoomFor_9 : decode cX2_hasRoomFor 9 = .ok (.aload_n 0, 1) := by decide +kernel
theorem dX2_hasRoomFor_10 : decode cX2_hasRoomFor 10 = .ok (.iload_n 1, 1) := by decide +kernel
theorem dX2_hasRoomFor_11 : decode cX2_hasRoomFor 11 = .ok (.iload_n 2, 1) := by decide +kernel
theorem dX2_hasRoomFor_12 : decode cX2_hasRoomFor 12 = .ok (.invokevirtual 29, 3) := by decide +kernel
theorem dX2_hasRoomFor_15 : decode cX2_hasRoomFor 15 = .ok (.ifCond .eq 7, 3) := by decide +kernel
theorem dX2_hasRoomFor_18 : decode cX2_hasRoomFor 18 = .ok (.iconst 1, 1) := by decide +kernel
theorem dX2_hasRoomFor_19 : decode cX2_hasRoomFor 19 = .ok (.goto 4, 3) := by decide +kernel
theorem dX2_hasRoomFor_22 : decode cX2_hasRoomFor 22 = .ok (.iconst 0, 1) := by decide +kernel
theorem dX2_hasRoomFor_23 : decode cX2_hasRoomFor 23 = .ok (.ireturn, 1) := by decide +kernel
theorem dX2_put_0 : decode cX2_put 0 = .ok (.aload_n 0, 1) := by decide +kernel
theorem dX2_put_1 : decode cX2_put 1 = .ok (.iload_n 2, 1) := by decide +kernel
theorem dX2_put_2 : decode cX2_put 2 = .ok (.iload_n 3, 1) := by decide +kernel
theorem dX2_put_3 : decode cX2_put 3 = .ok (.invokevirtual 29, 3) := by decide +kernel
theorem dX2_put_6 : decode cX2_put 6 = .ok (.ifCond .eq 21, 3) := by decide +kernel
theorem dX2_put_9 : decode cX2_put 9 = .ok (.aload_n 0, 1) := by decide +kernel
theorem dX2_put_10 : decode cX2_put 10 = .ok (.getfield 9, 3) := by decide +kernel
theorem dX2_put_13 : decode cX2_put 13 = .ok (.aload_n 0, 1) := by decide +kernel
theorem dX2_put_14 : decode cX2_put 14 = .ok (.getfield 21, 3) := by decide +kernel
theorem dX2_put_17 : decode cX2_put 17 = .ok (.iconst 1, 1) := by decide +kernel
theorem dX2_put_18 : decode cX2_put 18 = .ok (.isub, 1) := by decide +kernel
theorem dX2_put_19 : decode cX2_put 19 = .ok (.dup2, 1) := by decide +kernel
theorem dX2_put_20 : decode cX2_put 20 = .ok (.iaload, 1) := by decide +kernel
theorem dX2_put_21 : decode cX2_put 21 = .ok (.iload_n 1, 1) := by decide +kernel
theorem dX2_put_22 : decode cX2_put 22 = .ok (.iadd, 1) := by decide +kernel
theorem dX2_put_23 : decode cX2_put 23 = .ok (.iastore, 1) := by decide +kernel
theorem dX2_put_24 : decode cX2_put 24 = .ok (.goto 52, 3) := by decide +kernel
theorem dX2_put_27 : decode cX2_put 27 = .ok (.aload_n 0, 1) := by decide +kernel
theorem dX2_put_28 : decode cX2_put 28 = .ok (.getfield 21, 3) := by decide +kernel
theorem dX2_put_31 : decode cX2_put 31 = .ok (.bipush 16, 2) := by decide +kernel
theorem dX2_put_33 : decode cX2_put 33 = .ok (.if_icmp .ge 43, 3) := by decide +kernel
theorem dX2_put_36 : decode cX2_put 36 = .ok (.aload_n 0, 1) := by decide +kernel
theorem dX2_put_37 : decode cX2_put 37 = .ok (.getfield 9, 3) := by decide +kernel
theorem dX2_put_40 : decode cX2_put 40 = .ok (.aload_n 0, 1) := by decide +kernel
theorem dX2_put_41 : decode cX2_put 41 = .ok (.getfield 21, 3) := by decide +kernel
theorem dX2_put_44 : decode cX2_put 44 = .ok (.iload_n 1, 1) := by decide +kernel
theorem dX2_put_45 : decode cX2_put 45 = .ok (.iastore, 1) := by decide +kernel
theorem dX2_put_46 : decode cX2_put 46 = .ok (.aload_n 0, 1) := by decide +kernel
theorem dX2_put_47 : decode cX2_put 47 = .ok (.getfield 15, 3) := by decide +kernel
theorem dX2_put_50 : decode cX2_put 50 = .ok (.aload_n 0, 1) := by decide +kernel
theorem dX2_put_51 : decode cX2_put 51 = .ok (.getfield 21, 3) := by decide +kernel
theorem dX2_put_54 : decode cX2_put 54 = .ok (.iload_n 2, 1) := by decide +kernel
theorem dX2_put_55 : decode cX2_put 55 = .ok (.iastore, 1) := by decide +kernel
theorem dX2_put_56 : decode cX2_put 56 = .ok (.aload_n 0, 1) := by decide +kernel
theorem dX2_put_57 : decode cX2_put 57 = .ok (.getfield 18, 3) := by decide +kernel
theorem dX2_put_60 : decode cX2_put 60 = .ok (.aload_n 0, 1) := by decide +kernel
theorem dX2_put_61 : decode cX2_put 61 = .ok (.getfield 21, 3) := by decide +kernel
theorem dX2_put_64 : decode cX2_put 64 = .ok (.iload_n 3, 1) := by decide +kernel
theorem dX2_put_65 : decode cX2_put 65 = .ok (.iastore, 1) := by decide +kernel
theorem dX2_put_66 : decode cX2_put 66 = .ok (.aload_n 0, 1) := by decide +kernel
theorem dX2_put_67 : decode cX2_put 67 = .ok (.dup, 1) := by decide +kernel
theorem dX2_put_68 : decode cX2_put 68 = .ok (.getfield 21, 3) := by decide +kernel
theorem dX2_put_71 : decode cX2_put 71 = .ok (.iconst 1, 1) := by decide +kernel
theorem dX2_put_72 : decode cX2_put 72 = .ok (.iadd, 1) := by decide +kernel
theorem dX2_put_73 : decode cX2_put 73 = .ok (.putfield 21, 3) := by decide +kernel
theorem dX2_put_76 : decode cX2_put 76 = .ok (.return_, 1) := by decide +kernel
theorem dX2_remove_0 : decode cX2_remove 0 = .ok (.iload_n 1, 1) := by decide +kernel
theorem dX2_remove_1 : decode cX2_remove 1 = .ok (.istore_n 2, 1) := by decide +kernel
theorem dX2_remove_2 : decode cX2_remove 2 = .ok (.aload_n 0, 1) := by decide +kernel
theorem dX2_remove_3 : decode cX2_remove 3 = .ok (.getfield 21, 3) := by decide +kernel
theorem dX2_remove_6 : decode cX2_remove 6 = .ok (.iconst 1, 1) := by decide +kernel
theorem dX2_remove_7 : decode cX2_remove 7 = .ok (.isub, 1) := by decide +kernel
theorem dX2_remove_8 : decode cX2_remove 8 = .ok (.istore_n 3, 1) := by decide +kernel
theorem dX2_remove_9 : decode cX2_remove 9 = .ok (.iload_n 3, 1) := by decide +kernel
theorem dX2_remove_10 : decode cX2_remove 10 = .ok (.ifCond .lt 55, 3) := by decide +kernel
theorem dX2_remove_13 : decode cX2_remove 13 = .ok (.iload_n 2, 1) := by decide +kernel
theorem dX2_remove_14 : decode cX2_remove 14 = .ok (.ifCond .le 51, 3) := by decide +kernel
theorem dX2_remove_17 : decode cX2_remove 17 = .ok (.iload_n 2, 1) := by decide +kernel
theorem dX2_remove_18 : decode cX2_remove 18 = .ok (.aload_n 0, 1) := by decide +kernel
theorem dX2_remove_19 : decode cX2_remove 19 = .ok (.getfield 9, 3) := by decide +kernel
theorem dX2_remove_22 : decode cX2_remove 22 = .ok (.iload_n 3, 1) := by decide +kernel
theorem dX2_remove_23 : decode cX2_remove 23 = .ok (.iaload, 1) := by decide +kernel
theorem dX2_remove_24 : decode cX2_remove 24 = .ok (.invokestatic 33, 3) := by decide +kernel
theorem dX2_remove_27 : decode cX2_remove 27 = .ok (.istore 4, 2) := by decide +kernel
theorem dX2_remove_29 : decode cX2_remove 29 = .ok (.aload_n 0, 1) := by decide +kernel
theorem dX2_remove_30 : decode cX2_remove 30 = .ok (.getfield 9, 3) := by decide +kernel
theorem dX2_remove_33 : decode cX2_remove 33 = .ok (.iload_n 3, 1) := by decide +kernel
theorem dX2_remove_34 : decode cX2_remove 34 = .ok (.dup2, 1) := by decide +kernel
theorem dX2_remove_35 : decode cX2_remove 35 = .ok (.iaload, 1) := by decide +kernel
theorem dX2_remove_36 : decode cX2_remove 36 = .ok (.iload 4, 2) := by decide +kernel
theorem dX2_remove_38 : decode cX2_remove 38 = .ok (.isub, 1) := by decide +kernel
theorem dX2_remove_39 : decode cX2_remove 39 = .ok (.iastore, 1) := by decide +kernel
theorem dX2_remove_40 : decode cX2_remove 40 = .ok (.iload_n 2, 1) := by decide +kernel
theorem dX2_remove_41 : decode cX2_remove 41 = .ok (.iload 4, 2) := by decide +kernel
theorem dX2_remove_43 : decode cX2_remove 43 = .ok (.isub, 1) := by decide +kernel
theorem dX2_remove_44 : decode cX2_remove 44 = .ok (.istore_n 2, 1) := by decide +kernel
theorem dX2_remove_45 : decode cX2_remove 45 = .ok (.aload_n 0, 1) := by decide +kernel
theorem dX2_remove_46 : decode cX2_remove 46 = .ok (.getfield 9, 3) := by decide +kernel
theorem dX2_remove_49 : decode cX2_remove 49 = .ok (.iload_n 3, 1) := by decide +kernel
theorem dX2_remove_50 : decode cX2_remove 50 = .ok (.iaload, 1) := by decide +kernel
theorem dX2_remove_51 : decode cX2_remove 51 = .ok (.ifCond .ne 8, 3) := by decide +kernel
theorem dX2_remove_54 : decode cX2_remove 54 = .ok (.aload_n 0, 1) := by decide +kernel
theorem dX2_remove_55 : decode cX2_remove 55 = .ok (.iload_n 3, 1) := by decide +kernel
theorem dX2_remove_56 : decode cX2_remove 56 = .ok (.putfield 21, 3) := by decide +kernel
theorem dX2_remove_59 : decode cX2_remove 59 = .ok (.iinc 3 (-1), 3) := by decide +kernel
theorem dX2_remove_62 : decode cX2_remove 62 = .ok (.goto (-53), 3) := by decide +kernel
theorem dX2_remove_65 : decode cX2_remove 65 = .ok (.return_, 1) := by decide +kernel
theorem dX2_worthTo_0 : decode cX2_worthTo 0 = .ok (.iconst 0, 1) := by decide +kernel
theorem dX2_worthTo_1 : decode cX2_worthTo 1 = .ok (.istore_n 3, 1) := by decide +kernel
theorem dX2_worthTo_2 : decode cX2_worthTo 2 = .ok (.iload_n 2, 1) := by decide +kernel
theorem dX2_worthTo_3 : decode cX2_worthTo 3 = .ok (.istore 4, 2) := by decide +kernel
theorem dX2_worthTo_5 : decode cX2_worthTo 5 = .ok (.aload_n 0, 1) := by decide +kernel
theorem dX2_worthTo_6 : decode cX2_worthTo 6 = .ok (.getfield 21, 3) := by decide +kernel
theorem dX2_worthTo_9 : decode cX2_worthTo 9 = .ok (.iconst 1, 1) := by decide +kernel
theorem dX2_worthTo_10 : decode cX2_worthTo 10 = .ok (.isub, 1) := by decide +kernel
theorem dX2_worthTo_11 : decode cX2_worthTo 11 = .ok (.istore 5, 2) := by decide +kernel
theorem dX2_worthTo_13 : decode cX2_worthTo 13 = .ok (.iload 5, 2) := by decide +kernel
theorem dX2_worthTo_15 : decode cX2_worthTo 15 = .ok (.ifCond .lt 59, 3) := by decide +kernel
theorem dX2_worthTo_18 : decode cX2_worthTo 18 = .ok (.iload 4, 2) := by decide +kernel
theorem dX2_worthTo_20 : decode cX2_worthTo 20 = .ok (.ifCond .le 54, 3) := by decide +kernel
theorem dX2_worthTo_23 : decode cX2_worthTo 23 = .ok (.iload 4, 2) := by decide +kernel
theorem dX2_worthTo_25 : decode cX2_worthTo 25 = .ok (.aload_n 0, 1) := by decide +kernel
theorem dX2_worthTo_26 : decode cX2_worthTo 26 = .ok (.getfield 9, 3) := by decide +kernel
theorem dX2_worthTo_29 : decode cX2_worthTo 29 = .ok (.iload 5, 2) := by decide +kernel
theorem dX2_worthTo_31 : decode cX2_worthTo 31 = .ok (.iaload, 1) := by decide +kernel
theorem dX2_worthTo_32 : decode cX2_worthTo 32 = .ok (.invokestatic 33, 3) := by decide +kernel
theorem dX2_worthTo_35 : decode cX2_worthTo 35 = .ok (.istore 6, 2) := by decide +kernel
theorem dX2_worthTo_37 : decode cX2_worthTo 37 = .ok (.iload 4, 2) := by decide +kernel
theorem dX2_worthTo_39 : decode cX2_worthTo 39 = .ok (.iload 6, 2) := by decide +kernel
theorem dX2_worthTo_41 : decode cX2_worthTo 41 = .ok (.isub, 1) := by decide +kernel
theorem dX2_worthTo_42 : decode cX2_worthTo 42 = .ok (.istore 4, 2) := by decide +kernel
theorem dX2_worthTo_44 : decode cX2_worthTo 44 = .ok (.aload_n 0, 1) := by decide +kernel
theorem dX2_worthTo_45 : decode cX2_worthTo 45 = .ok (.getfield 18, 3) := by decide +kernel
theorem dX2_worthTo_48 : decode cX2_worthTo 48 = .ok (.iload 5, 2) := by decide +kernel
theorem dX2_worthTo_50 : decode cX2_worthTo 50 = .ok (.iaload, 1) := by decide +kernel
theorem dX2_worthTo_51 : decode cX2_worthTo 51 = .ok (.iload_n 1, 1) := by decide +kernel
theorem dX2_worthTo_52 : decode cX2_worthTo 52 = .ok (.if_icmp .ne 16, 3) := by decide +kernel
theorem dX2_worthTo_55 : decode cX2_worthTo 55 = .ok (.iload_n 3, 1) := by decide +kernel
theorem dX2_worthTo_56 : decode cX2_worthTo 56 = .ok (.iload 6, 2) := by decide +kernel
theorem dX2_worthTo_58 : decode cX2_worthTo 58 = .ok (.aload_n 0, 1) := by decide +kernel
theorem dX2_worthTo_59 : decode cX2_worthTo 59 = .ok (.getfield 15, 3) := by decide +kernel
theorem dX2_worthTo_62 : decode cX2_worthTo 62 = .ok (.iload 5, 2) := by decide +kernel
theorem dX2_worthTo_64 : decode cX2_worthTo 64 = .ok (.iaload, 1) := by decide +kernel
theorem dX2_worthTo_65 : decode cX2_worthTo 65 = .ok (.imul, 1) := by decide +kernel
theorem dX2_worthTo_66 : decode cX2_worthTo 66 = .ok (.iadd, 1) := by decide +kernel
theorem dX2_worthTo_67 : decode cX2_worthTo 67 = .ok (.istore_n 3, 1) := by decide +kernel
theorem dX2_worthTo_68 : decode cX2_worthTo 68 = .ok (.iinc 5 (-1), 3) := by decide +kernel
theorem dX2_worthTo_71 : decode cX2_worthTo 71 = .ok (.goto (-58), 3) := by decide +kernel
theorem dX2_worthTo_74 : decode cX2_worthTo 74 = .ok (.iload_n 3, 1) := by decide +kernel
theorem dX2_worthTo_75 : decode cX2_worthTo 75 = .ok (.ireturn, 1) := by decide +kernel
theorem dX2_worth_0 : decode cX2_worth 0 = .ok (.iconst 0, 1) := by decide +kernel
theorem dX2_worth_1 : decode cX2_worth 1 = .ok (.istore_n 1, 1) := by decide +kernel
theorem dX2_worth_2 : decode cX2_worth 2 = .ok (.iconst 0, 1) := by decide +kernel
theorem dX2_worth_3 : decode cX2_worth 3 = .ok (.istore_n 2, 1) := by decide +kernel
theorem dX2_worth_4 : decode cX2_worth 4 = .ok (.iload_n 2, 1) := by decide +kernel
theorem dX2_worth_5 : decode cX2_worth 5 = .ok (.aload_n 0, 1) := by decide +kernel
theorem dX2_worth_6 : decode cX2_worth 6 = .ok (.getfield 21, 3) := by decide +kernel
theorem dX2_worth_9 : decode cX2_worth 9 = .ok (.if_icmp .ge 25, 3) := by decide +kernel
theorem dX2_worth_12 : decode cX2_worth 12 = .ok (.iload_n 1, 1) := by decide +kernel
theorem dX2_worth_13 : decode cX2_worth 13 = .ok (.aload_n 0, 1) := by decide +kernel
theorem dX2_worth_14 : decode cX2_worth 14 = .ok (.getfield 9, 3) := by decide +kernel
theorem dX2_worth_17 : decode cX2_worth 17 = .ok (.iload_n 2, 1) := by decide +kernel
theorem dX2_worth_18 : decode cX2_worth 18 = .ok (.iaload, 1) := by decide +kernel
theorem dX2_worth_19 : decode cX2_worth 19 = .ok (.aload_n 0, 1) := by decide +kernel
theorem dX2_worth_20 : decode cX2_worth 20 = .ok (.getfield 15, 3) := by decide +kernel
theorem dX2_worth_23 : decode cX2_worth 23 = .ok (.iload_n 2, 1) := by decide +kernel
theorem dX2_worth_24 : decode cX2_worth 24 = .ok (.iaload, 1) := by decide +kernel
theorem dX2_worth_25 : decode cX2_worth 25 = .ok (.imul, 1) := by decide +kernel
theorem dX2_worth_26 : decode cX2_worth 26 = .ok (.iadd, 1) := by decide +kernel
theorem dX2_worth_27 : decode cX2_worth 27 = .ok (.istore_n 1, 1) := by decide +kernel
theorem dX2_worth_28 : decode cX2_worth 28 = .ok (.iinc 2 1, 3) := by decide +kernel
theorem dX2_worth_31 : decode cX2_worth 31 = .ok (.goto (-27), 3) := by decide +kernel
theorem dX2_worth_34 : decode cX2_worth 34 = .ok (.iload_n 1, 1) := by decide +kernel
theorem dX2_worth_35 : decode cX2_worth 35 = .ok (.ireturn, 1) := by decide +kernel
theorem dX2_joinsNewest_0 : decode cX2_joinsNewest 0 = .ok (.aload_n 0, 1) := by decide +kernel
theorem dX2_joinsNewest_1 : decode cX2_joinsNewest 1 = .ok (.getfield 21, 3) := by decide +kernel
theorem dX2_joinsNewest_4 : decode cX2_joinsNewest 4 = .ok (.ifCond .le 37, 3) := by decide +kernel
theorem dX2_joinsNewest_7 : decode cX2_joinsNewest 7 = .ok (.aload_n 0, 1) := by decide +kernel
theorem dX2_joinsNewest_8 : decode cX2_joinsNewest 8 = .ok (.getfield 15, 3) := by decide +kernel
theorem dX2_joinsNewest_11 : decode cX2_joinsNewest 11 = .ok (.aload_n 0, 1) := by decide +kernel
theorem dX2_joinsNewest_12 : decode cX2_joinsNewest 12 = .ok (.getfield 21, 3) := by decide +kernel
theorem dX2_joinsNewest_15 : decode cX2_joinsNewest 15 = .ok (.iconst 1, 1) := by decide +kernel
theorem dX2_joinsNewest_16 : decode cX2_joinsNewest 16 = .ok (.isub, 1) := by decide +kernel
theorem dX2_joinsNewest_17 : decode cX2_joinsNewest 17 = .ok (.iaload, 1) := by decide +kernel
theorem dX2_joinsNewest_18 : decode cX2_joinsNewest 18 = .ok (.iload_n 1, 1) := by decide +kernel
theorem dX2_joinsNewest_19 : decode cX2_joinsNewest 19 = .ok (.if_icmp .ne 22, 3) := by decide +kernel
theorem dX2_joinsNewest_22 : decode cX2_joinsNewest 22 = .ok (.aload_n 0, 1) := by decide +kernel
theorem dX2_joinsNewest_23 : decode cX2_joinsNewest 23 = .ok (.getfield 18, 3) := by decide +kernel
theorem dX2_joinsNewest_26 : decode cX2_joinsNewest 26 = .ok (.aload_n 0, 1) := by decide +kernel
theorem dX2_joinsNewest_27 : decode cX2_joinsNewest 27 = .ok (.getfield 21, 3) := by decide +kernel
theorem dX2_joinsNewest_30 : decode cX2_joinsNewest 30 = .ok (.iconst 1, 1) := by decide +kernel
theorem dX2_joinsNewest_31 : decode cX2_joinsNewest 31 = .ok (.isub, 1) := by decide +kernel
theorem dX2_joinsNewest_32 : decode cX2_joinsNewest 32 = .ok (.iaload, 1) := by decide +kernel
theorem dX2_joinsNewest_33 : decode cX2_joinsNewest 33 = .ok (.iload_n 2, 1) := by decide +kernel
theorem dX2_joinsNewest_34 : decode cX2_joinsNewest 34 = .ok (.if_icmp .ne 7, 3) := by decide +kernel
theorem dX2_joinsNewest_37 : decode cX2_joinsNewest 37 = .ok (.iconst 1, 1) := by decide +kernel
theorem dX2_joinsNewest_38 : decode cX2_joinsNewest 38 = .ok (.goto 4, 3) := by decide +kernel
theorem dX2_joinsNewest_41 : decode cX2_joinsNewest 41 = .ok (.iconst 0, 1) := by decide +kernel
theorem dX2_joinsNewest_42 : decode cX2_joinsNewest 42 = .ok (.ireturn, 1) := by decide +kernel
end
section
set_option maxRecDepth 20000 in
theorem ggX3_reset_J7_fill_53178 : GoodIn wsX3_reset wsJ7_fill_53178 := goodIn_r _ [11] (by decide +kernel) (by decide +kernel)
set_option maxRecDepth 20000 in
theorem gX3_reset_J7_fill_53178 : GoodIn wsX3_reset (va_wsS RX3 22 yJ7_fill_53178 wsJ7_fill_53178) := goodIn_app (goodIn_of _ (by decide +kernel)) ggX3_reset_J7_fill_53178
set_option maxRecDepth 20000 in
theorem ggX3_sharePool_X3_sumOf : GoodIn wsX3_sharePool wsX3_sumOf := goodIn_r _ [6] (by decide +kernel) (by decide +kernel)
set_option maxRecDepth 20000 in
theorem gX3_sharePool_X3_sumOf : GoodIn wsX3_sharePool (va_wsS RX3 38 yX3_sumOf wsX3_sumOf) := goodIn_app (goodIn_of _ (by decide +kernel)) ggX3_sharePool_X3_sumOf
set_option maxRecDepth 20000 in
theorem ggX3_sharePool_X3_payNode : GoodIn wsX3_sharePool wsX3_payNode := goodIn_r _ [10, 2, 11, 12, 17, 18, 19, 20, 21, 22] (by decide +kernel) (by decide +kernel)
set_option maxRecDepth 20000 in
theorem gX3_sharePool_X3_payNode : GoodIn wsX3_sharePool (wsV RX3 42 RX3 yX3_payNode wsX3_payNode) := goodIn_app (goodIn_of _ (by decide +kernel)) ggX3_sharePool_X3_payNode
set_option maxRecDepth 20000 in
theorem ggX3_sharePool_X3_rankOf : GoodIn wsX3_sharePool wsX3_rankOf := goodIn_r _ [16, 1, 17, 18, 19, 20, 21, 22] (by decide +kernel) (by decide +kernel)
set_option maxRecDepth 20000 in
theorem gX3_sharePool_X3_rankOf : GoodIn wsX3_sharePool (wsV RX3 46 RX3 yX3_rankOf wsX3_rankOf) := goodIn_app (goodIn_of _ (by decide +kernel)) ggX3_sharePool_X3_rankOf
set_option maxRecDepth 20000 in
theorem ggX3_allCoins_X3_sumOf : GoodIn wsX3_allCoins wsX3_sumOf := goodIn_r _ [8] (by decide +kernel) (by decide +kernel)
set_option maxRecDepth 20000 in
theorem gX3_allCoins_X3_sumOf : GoodIn wsX3_allCoins (va_wsS RX3 38 yX3_sumOf wsX3_sumOf) := goodIn_app (goodIn_of _ (by decide +kernel)) ggX3_allCoins_X3_sumOf
theorem dX3_init_0 : decode cX3_init 0 = .ok (.aload_n 0, 1) := by decide +kernel
theorem dX3_init_1 : decode cX3_init 1 = .ok (.invokespecial 3, 3) := by decide +kernel
theorem dX3_init_4 : decode cX3_init 4 = .ok (.aload_n 0, 1) := by decide +kernel
theorem dX3_init_5 : decode cX3_init 5 = .ok (.bipush 6, 2) := by decide +kernel
theorem dX3_init_7 : decode cX3_init 7 = .ok (.newarray .int, 2) := by decide +kernel
theorem dX3_init_9 : decode cX3_init 9 = .ok (.putfield 9, 3) := by decide +kernel
theorem dX3_init_12 : decode cX3_init 12 = .ok (.aload_n 0, 1) := by decide +kernel
theorem dX3_init_13 : decode cX3_init 13 = .ok (.iconst 5, 1) := by decide +kernel
theorem dX3_init_14 : decode cX3_init 14 = .ok (.newarray .int, 2) := by decide +kernel
theorem dX3_init_16 : decode cX3_init 16 = .ok (.putfield 15, 3) := by decide +kernel
theorem dX3_init_19 : decode cX3_init 19 = .ok (.aload_n 0, 1) := by decide +kernel
theorem dX3_init_20 : decode cX3_init 20 = .ok (.iconst 5, 1) := by decide +kernel
theorem dX3_init_21 : decode cX3_init 21 = .ok (.newarray .int, 2) := by decide +kernel
theorem dX3_init_23 : decode cX3_init 23 = .ok (.putfield 18, 3) := by decide +kernel
theorem dX3_init_26 : decode cX3_init 26 = .ok (.return_, 1) := by decide +kernel
theorem dX3_reset_0 : decode cX3_reset 0 = .ok (.aload_n 0, 1) := by decide +kernel
theorem dX3_reset_1 : decode cX3_reset 1 = .ok (.getfield 9, 3) := by decide +kernel
theorem dX3_reset_4 : decode cX3_reset 4 = .ok (.ldc 21, 2) := by decide +kernel
theorem dX3_reset_6 : decode cX3_reset 6 = .ok (.invokestatic 22, 3) := by decide +kernel
theorem dX3_reset_9 : decode cX3_reset 9 = .ok (.aload_n 0, 1) := by decide +kernel
theorem dX3_reset_10 : decode cX3_reset 10 = .ok (.getfield 15, 3) := by decide +kernel
theorem dX3_reset_13 : decode cX3_reset 13 = .ok (.iconst 0, 1) := by decide +kernel
theorem dX3_reset_14 : decode cX3_reset 14 = .ok (.invokestatic 22, 3) := by decide +kernel
theorem dX3_reset_17 : decode cX3_reset 17 = .ok (.aload_n 0, 1) := by decide +kernel
theorem dX3_reset_18 : decode cX3_reset 18 = .ok (.getfield 18, 3) := by decide +kernel
theorem dX3_reset_21 : decode cX3_reset 21 = .ok (.iconst 0, 1) := by decide +kernel
theorem dX3_reset_22 : decode cX3_reset 22 = .ok (.invokestatic 22, 3) := by decide +kernel
theorem dX3_reset_25 : decode cX3_reset 25 = .ok (.aload_n 0, 1) := by decide +kernel
theorem dX3_reset_26 : decode cX3_reset 26 = .ok (.iconst 0, 1) := by decide +kernel
theorem dX3_reset_27 : decode cX3_reset 27 = .ok (.putfield 28, 3) := by decide +kernel
theorem dX3_reset_30 : decode cX3_reset 30 = .ok (.aload_n 0, 1) := by decide +kernel
theorem dX3_reset_31 : decode cX3_reset 31 = .ok (.iconst 0, 1) := by decide +kernel
theorem dX3_reset_32 : decode cX3_reset 32 = .ok (.putfield 32, 3) := by decide +kernel
theorem dX3_reset_35 : decode cX3_reset 35 = .ok (.aload_n 0, 1) := by decide +kernel
theorem dX3_reset_36 : decode cX3_reset 36 = .ok (.iconst 0, 1) := by decide +kernel
theorem dX3_reset_37 : decode cX3_reset 37 = .ok (.putfield 35, 3) := by decide +kernel
theorem dX3_reset_40 : decode cX3_reset 40 = .ok (.return_, 1) := by decide +kernel
theorem dX3_canPay_0 : decode cX3_canPay 0 = .ok (.lload_n 2, 1) := by decide +kernel
theorem dX3_canPay_1 : decode cX3_canPay 1 = .ok (.aload_n 0, 1) := by decide +kernel
theorem dX3_canPay_2 : decode cX3_canPay 2 = .ok (.getfield 9, 3) := by decide +kernel
theorem dX3_canPay_5 : decode cX3_canPay 5 = .ok (.iload_n 1, 1) := by decide +kernel
theorem dX3_canPay_6 : decode cX3_canPay 6 = .ok (.iaload, 1) := by decide +kernel
theorem dX3_canPay_7 : decode cX3_canPay 7 = .ok (.i2l, 1) := by decide +kernel
theorem dX3_canPay_8 : decode cX3_canPay 8 = .ok (.lcmp, 1) := by decide +kernel
theorem dX3_canPay_9 : decode cX3_canPay 9 = .ok (.ifCond .gt 7, 3) := by decide +kernel
theorem dX3_canPay_12 : decode cX3_canPay 12 = .ok (.iconst 1, 1) := by decide +kernel
theorem dX3_canPay_13 : decode cX3_canPay 13 = .ok (.goto 4, 3) := by decide +kernel
theorem dX3_canPay_16 : decode cX3_canPay 16 = .ok (.iconst 0, 1) := by decide +kernel
theorem dX3_canPay_17 : decode cX3_canPay 17 = .ok (.ireturn, 1) := by decide +kernel
theorem dX3_takeFrom_0 : decode cX3_takeFrom 0 = .ok (.lload_n 2, 1) := by decide +kernel
theorem dX3_takeFrom_1 : decode cX3_takeFrom 1 = .ok (.lload 4, 2) := by decide +kernel
theorem dX3_takeFrom_3 : decode cX3_takeFrom 3 = .ok (.ladd, 1) := by decide +kernel
theorem dX3_takeFrom_4 : decode cX3_takeFrom 4 = .ok (.l2i, 1) := by decide +kernel
theorem dX3_takeFrom_5 : decode cX3_takeFrom 5 = .ok (.istore 6, 2) := by decide +kernel
theorem dX3_takeFrom_7 : decode cX3_takeFrom 7 = .ok (.aload_n 0, 1) := by decide +kernel
theorem dX3_takeFrom_8 : decode cX3_takeFrom 8 = .ok (.getfield 9, 3) := by decide +kernel
theorem dX3_takeFrom_11 : decode cX3_takeFrom 11 = .ok (.iload_n 1, 1) := by decide +kernel
theorem dX3_takeFrom_12 : decode cX3_takeFrom 12 = .ok (.dup2, 1) := by decide +kernel
theorem dX3_takeFrom_13 : decode cX3_takeFrom 13 = .ok (.iaload, 1) := by decide +kernel
theorem dX3_takeFrom_14 : decode cX3_takeFrom 14 = .ok (.iload 6, 2) := by decide +kernel
theorem dX3_takeFrom_16 : decode cX3_takeFrom 16 = .ok (.isub, 1) := by decide +kernel
theorem dX3_takeFrom_17 : decode cX3_takeFrom 17 = .ok (.iastore, 1) := by decide +kernel
theorem dX3_takeFrom_18 : decode cX3_takeFrom 18 = .ok (.aload_n 0, 1) := by decide +kernel
theorem dX3_takeFrom_19 : decode cX3_takeFrom 19 = .ok (.dup, 1) := by decide +kernel
theorem dX3_takeFrom_20 : decode cX3_takeFrom 20 = .ok (.getfield 28, 3) := by decide +kernel
theorem dX3_takeFrom_23 : decode cX3_takeFrom 23 = .ok (.lload_n 2, 1) := by decide +kernel
theorem dX3_takeFrom_24 : decode cX3_takeFrom 24 = .ok (.l2i, 1) := by decide +kernel
theorem dX3_takeFrom_25 : decode cX3_takeFrom 25 = .ok (.iadd, 1) := by decide +kernel
theorem dX3_takeFrom_26 : decode cX3_takeFrom 26 = .ok (.putfield 28, 3) := by decide +kernel
theorem dX3_takeFrom_29 : decode cX3_takeFrom 29 = .ok (.aload_n 0, 1) := by decide +kernel
theorem dX3_takeFrom_30 : decode cX3_takeFrom 30 = .ok (.dup, 1) := by decide +kernel
theorem dX3_takeFrom_31 : decode cX3_takeFrom 31 = .ok (.getfield 32, 3) := by decide +kernel
theorem dX3_takeFrom_34 : decode cX3_takeFrom 34 = .ok (.lload 4, 2) := by decide +kernel
theorem dX3_takeFrom_36 : decode cX3_takeFrom 36 = .ok (.l2i, 1) := by decide +kernel
theorem dX3_takeFrom_37 : decode cX3_takeFrom 37 = .ok (.iadd, 1) := by decide +kernel
theorem dX3_takeFrom_38 : decode cX3_takeFrom 38 = .ok (.putfield 32, 3) := by decide +kernel
theorem dX3_takeFrom_41 : decode cX3_takeFrom 41 = .ok (.iload 6, 2) := by decide +kernel
theorem dX3_takeFrom_43 : decode cX3_takeFrom 43 = .ok (.ireturn, 1) := by decide +kernel
theorem dX3_giveTo_0 : decode cX3_giveTo 0 = .ok (.aload_n 0, 1) := by decide +kernel
theorem dX3_giveTo_1 : decode cX3_giveTo 1 = .ok (.dup, 1) := by decide +kernel
theorem dX3_giveTo_2 : decode cX3_giveTo 2 = .ok (.getfield 28, 3) := by decide +kernel
theorem dX3_giveTo_5 : decode cX3_giveTo 5 = .ok (.iload_n 2, 1) := by decide +kernel
theorem dX3_giveTo_6 : decode cX3_giveTo 6 = .ok (.isub, 1) := by decide +kernel
theorem dX3_giveTo_7 : decode cX3_giveTo 7 = .ok (.putfield 28, 3) := by decide +kernel
theorem dX3_giveTo_10 : decode cX3_giveTo 10 = .ok (.aload_n 0, 1) := by decide +kernel
theorem dX3_giveTo_11 : decode cX3_giveTo 11 = .ok (.getfield 9, 3) := by decide +kernel
theorem dX3_giveTo_14 : decode cX3_giveTo 14 = .ok (.iload_n 1, 1) := by decide +kernel
theorem dX3_giveTo_15 : decode cX3_giveTo 15 = .ok (.dup2, 1) := by decide +kernel
theorem dX3_giveTo_16 : decode cX3_giveTo 16 = .ok (.iaload, 1) := by decide +kernel
theorem dX3_giveTo_17 : decode cX3_giveTo 17 = .ok (.iload_n 2, 1) := by decide +kernel
theorem dX3_giveTo_18 : decode cX3_giveTo 18 = .ok (.iadd, 1) := by decide +kernel
theorem dX3_giveTo_19 : decode cX3_giveTo 19 = .ok (.iastore, 1) := by decide +kernel
theorem dX3_giveTo_20 : decode cX3_giveTo 20 = .ok (.iload_n 2, 1) := by decide +kernel
theorem dX3_giveTo_21 : decode cX3_giveTo 21 = .ok (.ireturn, 1) := by decide +kernel
theorem dX3_sharePool_0 : decode cX3_sharePool 0 = .ok (.aload_n 0, 1) := by decide +kernel
theorem dX3_sharePool_1 : decode cX3_sharePool 1 = .ok (.getfield 18, 3) := by decide +kernel
theorem dX3_sharePool_4 : decode cX3_sharePool 4 = .ok (.invokestatic 38, 3) := by decide +kernel
theorem dX3_sharePool_7 : decode cX3_sharePool 7 = .ok (.istore_n 1, 1) := by decide +kernel
theorem dX3_sharePool_8 : decode cX3_sharePool 8 = .ok (.iload_n 1, 1) := by decide +kernel
theorem dX3_sharePool_9 : decode cX3_sharePool 9 = .ok (.ifCond .gt 4, 3) := by decide +kernel
theorem dX3_sharePool_12 : decode cX3_sharePool 12 = .ok (.return_, 1) := by decide +kernel
theorem dX3_sharePool_13 : decode cX3_sharePool 13 = .ok (.aload_n 0, 1) := by decide +kernel
theorem dX3_sharePool_14 : decode cX3_sharePool 14 = .ok (.getfield 32, 3) := by decide +kernel
theorem dX3_sharePool_17 : decode cX3_sharePool 17 = .ok (.istore_n 2, 1) := by decide +kernel
theorem dX3_sharePool_18 : decode cX3_sharePool 18 = .ok (.iconst 0, 1) := by decide +kernel
theorem dX3_sharePool_19 : decode cX3_sharePool 19 = .ok (.istore_n 3, 1) := by decide +kernel
theorem dX3_sharePool_20 : decode cX3_sharePool 20 = .ok (.iload_n 3, 1) := by decide +kernel
theorem dX3_sharePool_21 : decode cX3_sharePool 21 = .ok (.iconst 5, 1) := by decide +kernel
theorem dX3_sharePool_22 : decode cX3_sharePool 22 = .ok (.if_icmp .ge 28, 3) := by decide +kernel
theorem dX3_sharePool_25 : decode cX3_sharePool 25 = .ok (.aload_n 0, 1) := by decide +kernel
theorem dX3_sharePool_26 : decode cX3_sharePool 26 = .ok (.iload_n 3, 1) := by decide +kernel
theorem dX3_sharePool_27 : decode cX3_sharePool 27 = .ok (.iload_n 2, 1) := by decide +kernel
theorem dX3_sharePool_28 : decode cX3_sharePool 28 = .ok (.i2l, 1) := by decide +kernel
theorem dX3_sharePool_29 : decode cX3_sharePool 29 = .ok (.aload_n 0, 1) := by decide +kernel
theorem dX3_sharePool_30 : decode cX3_sharePool 30 = .ok (.getfield 18, 3) := by decide +kernel
theorem dX3_sharePool_33 : decode cX3_sharePool 33 = .ok (.iload_n 3, 1) := by decide +kernel
theorem dX3_sharePool_34 : decode cX3_sharePool 34 = .ok (.iaload, 1) := by decide +kernel
theorem dX3_sharePool_35 : decode cX3_sharePool 35 = .ok (.i2l, 1) := by decide +kernel
theorem dX3_sharePool_36 : decode cX3_sharePool 36 = .ok (.lmul, 1) := by decide +kernel
theorem dX3_sharePool_37 : decode cX3_sharePool 37 = .ok (.iload_n 1, 1) := by decide +kernel
theorem dX3_sharePool_38 : decode cX3_sharePool 38 = .ok (.i2l, 1) := by decide +kernel
theorem dX3_sharePool_39 : decode cX3_sharePool 39 = .ok (.ldiv, 1) := by decide +kernel
theorem dX3_sharePool_40 : decode cX3_sharePool 40 = .ok (.l2i, 1) := by decide +kernel
theorem dX3_sharePool_41 : decode cX3_sharePool 41 = .ok (.invokevirtual 42, 3) := by decide +kernel
theorem dX3_sharePool_44 : decode cX3_sharePool 44 = .ok (.iinc 3 1, 3) := by decide +kernel
theorem dX3_sharePool_47 : decode cX3_sharePool 47 = .ok (.goto (-27), 3) := by decide +kernel
theorem dX3_sharePool_50 : decode cX3_sharePool 50 = .ok (.aload_n 0, 1) := by decide +kernel
theorem dX3_sharePool_51 : decode cX3_sharePool 51 = .ok (.getfield 32, 3) := by decide +kernel
theorem dX3_sharePool_54 : decode cX3_sharePool 54 = .ok (.istore_n 3, 1) := by decide +kernel
theorem dX3_sharePool_55 : decode cX3_sharePool 55 = .ok (.iconst 0, 1) := by decide +kernel
theorem dX3_sharePool_56 : decode cX3_sharePool 56 = .ok (.istore 4, 2) := by decide +kernel
theorem dX3_sharePool_58 : decode cX3_sharePool 58 = .ok (.iload 4, 2) := by decide +kernel
theorem dX3_sharePool_60 : decode cX3_sharePool 60 = .ok (.iconst 5, 1) := by decide +kernel
theorem dX3_sharePool_61 : decode cX3_sharePool 61 = .ok (.if_icmp .ge 36, 3) := by decide +kernel
theorem dX3_sharePool_64 : decode cX3_sharePool 64 = .ok (.aload_n 0, 1) := by decide +kernel
theorem dX3_sharePool_65 : decode cX3_sharePool 65 = .ok (.getfield 18, 3) := by decide +kernel
theorem dX3_sharePool_68 : decode cX3_sharePool 68 = .ok (.iload 4, 2) := by decide +kernel
theorem dX3_sharePool_70 : decode cX3_sharePool 70 = .ok (.iaload, 1) := by decide +kernel
theorem dX3_sharePool_71 : decode cX3_sharePool 71 = .ok (.ifCond .le 20, 3) := by decide +kernel
theorem dX3_sharePool_74 : decode cX3_sharePool 74 = .ok (.aload_n 0, 1) := by decide +kernel
theorem dX3_sharePool_75 : decode cX3_sharePool 75 = .ok (.iload 4, 2) := by decide +kernel
theorem dX3_sharePool_77 : decode cX3_sharePool 77 = .ok (.invokevirtual 46, 3) := by decide +kernel
theorem dX3_sharePool_80 : decode cX3_sharePool 80 = .ok (.iload_n 3, 1) := by decide +kernel
theorem dX3_sharePool_81 : decode cX3_sharePool 81 = .ok (.if_icmp .ge 10, 3) := by decide +kernel
theorem dX3_sharePool_84 : decode cX3_sharePool 84 = .ok (.aload_n 0, 1) := by decide +kernel
theorem dX3_sharePool_85 : decode cX3_sharePool 85 = .ok (.iload 4, 2) := by decide +kernel
theorem dX3_sharePool_87 : decode cX3_sharePool 87 = .ok (.iconst 1, 1) := by decide +kernel
theorem dX3_sharePool_88 : decode cX3_sharePool 88 = .ok (.invokevirtual 42, 3) := by decide +kernel
theorem dX3_sharePool_91 : decode cX3_sharePool 91 = .ok (.iinc 4 1, 3) := by decide +kernel
theorem dX3_sharePool_94 : decode cX3_sharePool 94 = .ok (.goto (-36), 3) := by decide +kernel
theorem dX3_sharePool_97 : decode cX3_sharePool 97 = .ok (.return_, 1) := by decide +kernel
theorem dX3_allCoins_0 : decode cX3_allCoins 0 = .ok (.aload_n 0, 1) := by decide +kernel
theorem dX3_allCoins_1 : decode cX3_allCoins 1 = .ok (.getfield 9, 3) := by decide +kernel
theorem dX3_allCoins_4 : decode cX3_allCoins 4 = .ok (.invokestatic 38, 3) := by decide +kernel
theorem dX3_allCoins_7 : decode cX3_allCoins 7 = .ok (.aload_n 0, 1) := by decide +kernel
theorem dX3_allCoins_8 : decode cX3_allCoins 8 = .ok (.getfield 15, 3) := by decide +kernel
theorem dX3_allCoins_11 : decode cX3_allCoins 11 = .ok (.invokestatic 38, 3) := by decide +kernel
theorem dX3_allCoins_14 : decode cX3_allCoins 14 = .ok (.iadd, 1) := by decide +kernel
theorem dX3_allCoins_15 : decode cX3_allCoins 15 = .ok (.aload_n 0, 1) := by decide +kernel
theorem dX3_allCoins_16 : decode cX3_allCoins 16 = .ok (.getfield 28, 3) := by decide +kernel
theorem dX3_allCoins_19 : decode cX3_allCoins 19 = .ok (.iadd, 1) := by decide +kernel
theorem dX3_allCoins_20 : decode cX3_allCoins 20 = .ok (.aload_n 0, 1) := by decide +kernel
theorem dX3_allCoins_21 : decode cX3_allCoins 21 = .ok (.getfield 32, 3) := by decide +kernel
theorem dX3_allCoins_24 : decode cX3_allCoins 24 = .ok (.iadd, 1) := by decide +kernel
theorem dX3_allCoins_25 : decode cX3_allCoins 25 = .ok (.ireturn, 1) := by decide +kernel
theorem dX3_payNode_0 : decode cX3_payNode 0 = .ok (.aload_n 0, 1) := by decide +kernel
theorem dX3_payNode_1 : decode cX3_payNode 1 = .ok (.dup, 1) := by decide +kernel
theorem dX3_payNode_2 : decode cX3_payNode 2 = .ok (.getfield 32, 3) := by decide +kernel
theorem dX3_payNode_5 : decode cX3_payNode 5 = .ok (.iload_n 2, 1) := by decide +kernel
theorem dX3_payNode_6 : decode cX3_payNode 6 = .ok (.isub, 1) := by decide +kernel
theorem dX3_payNode_7 : decode cX3_payNode 7 = .ok (.putfield 32, 3) := by decide +kernel
theorem dX3_payNode_10 : decode cX3_payNode 10 = .ok (.aload_n 0, 1) := by decide +kernel
theorem dX3_payNode_11 : decode cX3_payNode 11 = .ok (.getfield 15, 3) := by decide +kernel
theorem dX3_payNode_14 : decode cX3_payNode 14 = .ok (.iload_n 1, 1) := by decide +kernel
theorem dX3_payNode_15 : decode cX3_payNode 15 = .ok (.dup2, 1) := by decide +kernel
theorem dX3_payNode_16 : decode cX3_payNode 16 = .ok (.iaload, 1) := by decide +kernel
theorem dX3_payNode_17 : decode cX3_payNode 17 = .ok (.iload_n 2, 1) := by decide +kernel
theorem dX3_payNode_18 : decode cX3_payNode 18 = .ok (.iadd, 1) := by decide +kernel
theorem dX3_payNode_19 : decode cX3_payNode 19 = .ok (.iastore, 1) := by decide +kernel
theorem dX3_payNode_20 : decode cX3_payNode 20 = .ok (.aload_n 0, 1) := by decide +kernel
theorem dX3_payNode_21 : decode cX3_payNode 21 = .ok (.dup, 1) := by decide +kernel
theorem dX3_payNode_22 : decode cX3_payNode 22 = .ok (.getfield 35, 3) := by decide +kernel
theorem dX3_payNode_25 : decode cX3_payNode 25 = .ok (.iload_n 2, 1) := by decide +kernel
theorem dX3_payNode_26 : decode cX3_payNode 26 = .ok (.iadd, 1) := by decide +kernel
theorem dX3_payNode_27 : decode cX3_payNode 27 = .ok (.putfield 35, 3) := by decide +kernel
theorem dX3_payNode_30 : decode cX3_payNode 30 = .ok (.return_, 1) := by decide +kernel
theorem dX3_rankOf_0 : decode cX3_rankOf 0 = .ok (.iconst 0, 1) := by decide +kernel
theorem dX3_rankOf_1 : decode cX3_rankOf 1 = .ok (.istore_n 2, 1) := by decide +kernel
theorem dX3_rankOf_2 : decode cX3_rankOf 2 = .ok (.iconst 0, 1) := by decide +kernel
theorem dX3_rankOf_3 : decode cX3_rankOf 3 = .ok (.istore_n 3, 1) := by decide +kernel
theorem dX3_rankOf_4 : decode cX3_rankOf 4 = .ok (.iload_n 3, 1) := by decide +kernel
theorem dX3_rankOf_5 : decode cX3_rankOf 5 = .ok (.iconst 5, 1) := by decide +kernel
theorem dX3_rankOf_6 : decode cX3_rankOf 6 = .ok (.if_icmp .ge 47, 3) := by decide +kernel
theorem dX3_rankOf_9 : decode cX3_rankOf 9 = .ok (.aload_n 0, 1) := by decide +kernel
theorem dX3_rankOf_10 : decode cX3_rankOf 10 = .ok (.getfield 18, 3) := by decide +kernel
theorem dX3_rankOf_13 : decode cX3_rankOf 13 = .ok (.iload_n 3, 1) := by decide +kernel
theorem dX3_rankOf_14 : decode cX3_rankOf 14 = .ok (.iaload, 1) := by decide +kernel
theorem dX3_rankOf_15 : decode cX3_rankOf 15 = .ok (.aload_n 0, 1) := by decide +kernel
theorem dX3_rankOf_16 : decode cX3_rankOf 16 = .ok (.getfield 18, 3) := by decide +kernel
theorem dX3_rankOf_19 : decode cX3_rankOf 19 = .ok (.iload_n 1, 1) := by decide +kernel
theorem dX3_rankOf_20 : decode cX3_rankOf 20 = .ok (.iaload, 1) := by decide +kernel
theorem dX3_rankOf_21 : decode cX3_rankOf 21 = .ok (.if_icmp .gt 23, 3) := by decide +kernel
theorem dX3_rankOf_24 : decode cX3_rankOf 24 = .ok (.aload_n 0, 1) := by decide +kernel
theorem dX3_rankOf_25 : decode cX3_rankOf 25 = .ok (.getfield 18, 3) := by decide +kernel
theorem dX3_rankOf_28 : decode cX3_rankOf 28 = .ok (.iload_n 3, 1) := by decide +kernel
theorem dX3_rankOf_29 : decode cX3_rankOf 29 = .ok (.iaload, 1) := by decide +kernel
theorem dX3_rankOf_30 : decode cX3_rankOf 30 = .ok (.aload_n 0, 1) := by decide +kernel
theorem dX3_rankOf_31 : decode cX3_rankOf 31 = .ok (.getfield 18, 3) := by decide +kernel
theorem dX3_rankOf_34 : decode cX3_rankOf 34 = .ok (.iload_n 1, 1) := by decide +kernel
theorem dX3_rankOf_35 : decode cX3_rankOf 35 = .ok (.iaload, 1) := by decide +kernel
theorem dX3_rankOf_36 : decode cX3_rankOf 36 = .ok (.if_icmp .ne 11, 3) := by decide +kernel
theorem dX3_rankOf_39 : decode cX3_rankOf 39 = .ok (.iload_n 3, 1) := by decide +kernel
theorem dX3_rankOf_40 : decode cX3_rankOf 40 = .ok (.iload_n 1, 1) := by decide +kernel
theorem dX3_rankOf_41 : decode cX3_rankOf 41 = .ok (.if_icmp .ge 6, 3) := by decide +kernel
theorem dX3_rankOf_44 : decode cX3_rankOf 44 = .ok (.iinc 2 1, 3) := by decide +kernel
theorem dX3_rankOf_47 : decode cX3_rankOf 47 = .ok (.iinc 3 1, 3) := by decide +kernel
theorem dX3_rankOf_50 : decode cX3_rankOf 50 = .ok (.goto (-46), 3) := by decide +kernel
theorem dX3_rankOf_53 : decode cX3_rankOf 53 = .ok (.iload_n 2, 1) := by decide +kernel
theorem dX3_rankOf_54 : decode cX3_rankOf 54 = .ok (.ireturn, 1) := by decide +kernel
theorem dX3_sumOf_0 : decode cX3_sumOf 0 = .ok (.iconst 0, 1) := by decide +kernel
theorem dX3_sumOf_1 : decode cX3_sumOf 1 = .ok (.istore_n 1, 1) := by decide +kernel
theorem dX3_sumOf_2 : decode cX3_sumOf 2 = .ok (.iconst 0, 1) := by decide +kernel
theorem dX3_sumOf_3 : decode cX3_sumOf 3 = .ok (.istore_n 2, 1) := by decide +kernel
theorem dX3_sumOf_4 : decode cX3_sumOf 4 = .ok (.iload_n 2, 1) := by decide +kernel
theorem dX3_sumOf_5 : decode cX3_sumOf 5 = .ok (.aload_n 0, 1) := by decide +kernel
theorem dX3_sumOf_6 : decode cX3_sumOf 6 = .ok (.arraylength, 1) := by decide +kernel
theorem dX3_sumOf_7 : decode cX3_sumOf 7 = .ok (.if_icmp .ge 15, 3) := by decide +kernel
theorem dX3_sumOf_10 : decode cX3_sumOf 10 = .ok (.iload_n 1, 1) := by decide +kernel
theorem dX3_sumOf_11 : decode cX3_sumOf 11 = .ok (.aload_n 0, 1) := by decide +kernel
theorem dX3_sumOf_12 : decode cX3_sumOf 12 = .ok (.iload_n 2, 1) := by decide +kernel
theorem dX3_sumOf_13 : decode cX3_sumOf 13 = .ok (.iaload, 1) := by decide +kernel
theorem dX3_sumOf_14 : decode cX3_sumOf 14 = .ok (.iadd, 1) := by decide +kernel
theorem dX3_sumOf_15 : decode cX3_sumOf 15 = .ok (.istore_n 1, 1) := by decide +kernel
theorem dX3_sumOf_16 : decode cX3_sumOf 16 = .ok (.iinc 2 1, 3) := by decide +kernel
theorem dX3_sumOf_19 : decode cX3_sumOf 19 = .ok (.goto (-15), 3) := by decide +kernel
theorem dX3_sumOf_22 : decode cX3_sumOf 22 = .ok (.iload_n 1, 1) := by decide +kernel
theorem dX3_sumOf_23 : decode cX3_sumOf 23 = .ok (.ireturn, 1) := by decide +kernel
end
section
theorem dX4_init_0 : decode cX4_init 0 = .ok (.aload_n 0, 1) := by decide +kernel
theorem dX4_init_1 : decode cX4_init 1 = .ok (.invokespecial 1, 3) := by decide +kernel
theorem dX4_init_4 : decode cX4_init 4 = .ok (.aload_n 0, 1) := by decide +kernel
theorem dX4_init_5 : decode cX4_init 5 = .ok (.new 7, 3) := by decide +kernel
theorem dX4_init_8 : decode cX4_init 8 = .ok (.dup, 1) := by decide +kernel
theorem dX4_init_9 : decode cX4_init 9 = .ok (.invokespecial 9, 3) := by decide +kernel
theorem dX4_init_12 : decode cX4_init 12 = .ok (.putfield 10, 3) := by decide +kernel
theorem dX4_init_15 : decode cX4_init 15 = .ok (.aload_n 0, 1) := by decide +kernel
theorem dX4_init_16 : decode cX4_init 16 = .ok (.new 16, 3) := by decide +kernel
theorem dX4_init_19 : decode cX4_init 19 = .ok (.dup, 1) := by decide +kernel
theorem dX4_init_20 : decode cX4_init 20 = .ok (.invokespecial 18, 3) := by decide +kernel
theorem dX4_init_23 : decode cX4_init 23 = .ok (.putfield 19, 3) := by decide +kernel
theorem dX4_init_26 : decode cX4_init 26 = .ok (.aload_n 0, 1) := by decide +kernel
theorem dX4_init_27 : decode cX4_init 27 = .ok (.bipush 6, 2) := by decide +kernel
theorem dX4_init_29 : decode cX4_init 29 = .ok (.newarray .int, 2) := by decide +kernel
theorem dX4_init_31 : decode cX4_init 31 = .ok (.putfield 23, 3) := by decide +kernel
theorem dX4_init_34 : decode cX4_init 34 = .ok (.aload_n 0, 1) := by decide +kernel
theorem dX4_init_35 : decode cX4_init 35 = .ok (.bipush 60, 2) := by decide +kernel
theorem dX4_init_37 : decode cX4_init 37 = .ok (.anewarray 27, 3) := by decide +kernel
theorem dX4_init_40 : decode cX4_init 40 = .ok (.putfield 29, 3) := by decide +kernel
theorem dX4_init_43 : decode cX4_init 43 = .ok (.aload_n 0, 1) := by decide +kernel
theorem dX4_init_44 : decode cX4_init 44 = .ok (.invokevirtual 33, 3) := by decide +kernel
theorem dX4_init_47 : decode cX4_init 47 = .ok (.return_, 1) := by decide +kernel
theorem dX4_edition_0 : decode cX4_edition 0 = .ok (.iload_n 1, 1) := by decide +kernel
theorem dX4_edition_1 : decode cX4_edition 1 = .ok (.iconst 0, 1) := by decide +kernel
theorem dX4_edition_2 : decode cX4_edition 2 = .ok (.ldc 36, 2) := by decide +kernel
theorem dX4_edition_4 : decode cX4_edition 4 = .ok (.invokestatic 37, 3) := by decide +kernel
theorem dX4_edition_7 : decode cX4_edition 7 = .ok (.ifCond .eq 34, 3) := by decide +kernel
theorem dX4_edition_10 : decode cX4_edition 10 = .ok (.iload_n 2, 1) := by decide +kernel
theorem dX4_edition_11 : decode cX4_edition 11 = .ok (.iconst 0, 1) := by decide +kernel
theorem dX4_edition_12 : decode cX4_edition 12 = .ok (.bipush 100, 2) := by decide +kernel
theorem dX4_edition_14 : decode cX4_edition 14 = .ok (.invokestatic 37, 3) := by decide +kernel
theorem dX4_edition_17 : decode cX4_edition 17 = .ok (.ifCond .eq 24, 3) := by decide +kernel
theorem dX4_edition_20 : decode cX4_edition 20 = .ok (.iload_n 3, 1) := by decide +kernel
theorem dX4_edition_21 : decode cX4_edition 21 = .ok (.iconst 0, 1) := by decide +kernel
theorem dX4_edition_22 : decode cX4_edition 22 = .ok (.bipush 20, 2) := by decide +kernel
theorem dX4_edition_24 : decode cX4_edition 24 = .ok (.invokestatic 37, 3) := by decide +kernel
theorem dX4_edition_27 : decode cX4_edition 27 = .ok (.ifCond .eq 14, 3) := by decide +kernel
theorem dX4_edition_30 : decode cX4_edition 30 = .ok (.iload 4, 2) := by decide +kernel
theorem dX4_edition_32 : decode cX4_edition 32 = .ok (.iconst 1, 1) := by decide +kernel
theorem dX4_edition_33 : decode cX4_edition 33 = .ok (.bipush 64, 2) := by decide +kernel
theorem dX4_edition_35 : decode cX4_edition 35 = .ok (.invokestatic 37, 3) := by decide +kernel
theorem dX4_edition_38 : decode cX4_edition 38 = .ok (.ifCond .ne 6, 3) := by decide +kernel
theorem dX4_edition_41 : decode cX4_edition 41 = .ok (.bipush (-102), 2) := by decide +kernel
theorem dX4_edition_43 : decode cX4_edition 43 = .ok (.ireturn, 1) := by decide +kernel
theorem dX4_edition_44 : decode cX4_edition 44 = .ok (.iload_n 1, 1) := by decide +kernel
theorem dX4_edition_45 : decode cX4_edition 45 = .ok (.aload_n 0, 1) := by decide +kernel
theorem dX4_edition_46 : decode cX4_edition 46 = .ok (.getfield 41, 3) := by decide +kernel
theorem dX4_edition_49 : decode cX4_edition 49 = .ok (.iconst 5, 1) := by decide +kernel
theorem dX4_edition_50 : decode cX4_edition 50 = .ok (.iadd, 1) := by decide +kernel
theorem dX4_edition_51 : decode cX4_edition 51 = .ok (.if_icmp .lt 14, 3) := by decide +kernel
theorem dX4_edition_54 : decode cX4_edition 54 = .ok (.iload_n 1, 1) := by decide +kernel
theorem dX4_edition_55 : decode cX4_edition 55 = .ok (.aload_n 0, 1) := by decide +kernel
theorem dX4_edition_56 : decode cX4_edition 56 = .ok (.getfield 10, 3) := by decide +kernel
theorem dX4_edition_59 : decode cX4_edition 59 = .ok (.invokevirtual 45, 3) := by decide +kernel
theorem dX4_edition_62 : decode cX4_edition 62 = .ok (.if_icmp .gt 6, 3) := by decide +kernel
theorem dX4_edition_65 : decode cX4_edition 65 = .ok (.bipush (-103), 2) := by decide +kernel
theorem dX4_edition_67 : decode cX4_edition 67 = .ok (.ireturn, 1) := by decide +kernel
theorem dX4_edition_68 : decode cX4_edition 68 = .ok (.aload_n 0, 1) := by decide +kernel
theorem dX4_edition_69 : decode cX4_edition 69 = .ok (.getfield 10, 3) := by decide +kernel
theorem dX4_edition_72 : decode cX4_edition 72 = .ok (.invokevirtual 49, 3) := by decide +kernel
theorem dX4_edition_75 : decode cX4_edition 75 = .ok (.ifCond .ne 6, 3) := by decide +kernel
theorem dX4_edition_78 : decode cX4_edition 78 = .ok (.bipush (-107), 2) := by decide +kernel
theorem dX4_edition_80 : decode cX4_edition 80 = .ok (.ireturn, 1) := by decide +kernel
theorem dX4_edition_81 : decode cX4_edition 81 = .ok (.aload_n 0, 1) := by decide +kernel
theorem dX4_edition_82 : decode cX4_edition 82 = .ok (.getfield 10, 3) := by decide +kernel
theorem dX4_edition_85 : decode cX4_edition 85 = .ok (.iload_n 1, 1) := by decide +kernel
theorem dX4_edition_86 : decode cX4_edition 86 = .ok (.iload_n 2, 1) := by decide +kernel
theorem dX4_edition_87 : decode cX4_edition 87 = .ok (.iload_n 3, 1) := by decide +kernel
theorem dX4_edition_88 : decode cX4_edition 88 = .ok (.iload 4, 2) := by decide +kernel
theorem dX4_edition_90 : decode cX4_edition 90 = .ok (.invokevirtual 53, 3) := by decide +kernel
theorem dX4_edition_93 : decode cX4_edition 93 = .ok (.aload_n 0, 1) := by decide +kernel
theorem dX4_edition_94 : decode cX4_edition 94 = .ok (.getfield 10, 3) := by decide +kernel
theorem dX4_edition_97 : decode cX4_edition 97 = .ok (.getfield 57, 3) := by decide +kernel
theorem dX4_edition_100 : decode cX4_edition 100 = .ok (.ireturn, 1) := by decide +kernel
theorem dX4_priceAt_0 : decode cX4_priceAt 0 = .ok (.iload_n 1, 1) := by decide +kernel
theorem dX4_priceAt_1 : decode cX4_priceAt 1 = .ok (.iconst 0, 1) := by decide +kernel
theorem dX4_priceAt_2 : decode cX4_priceAt 2 = .ok (.ldc 36, 2) := by decide +kernel
theorem dX4_priceAt_4 : decode cX4_priceAt 4 = .ok (.invokestatic 37, 3) := by decide +kernel
theorem dX4_priceAt_7 : decode cX4_priceAt 7 = .ok (.ifCond .ne 6, 3) := by decide +kernel
theorem dX4_priceAt_10 : decode cX4_priceAt 10 = .ok (.bipush (-102), 2) := by decide +kernel
theorem dX4_priceAt_12 : decode cX4_priceAt 12 = .ok (.ireturn, 1) := by decide +kernel
theorem dX4_priceAt_13 : decode cX4_priceAt 13 = .ok (.iload_n 2, 1) := by decide +kernel
theorem dX4_priceAt_14 : decode cX4_priceAt 14 = .ok (.tableswitch 66 0 3 #[30, 39, 48, 57], 30) := by decide +kernel
theorem dX4_priceAt_44 : decode cX4_priceAt 44 = .ok (.aload_n 0, 1) := by decide +kernel
theorem dX4_priceAt_45 : decode cX4_priceAt 45 = .ok (.getfield 10, 3) := by decide +kernel
theorem dX4_priceAt_48 : decode cX4_priceAt 48 = .ok (.iload_n 1, 1) := by decide +kernel
theorem dX4_priceAt_49 : decode cX4_priceAt 49 = .ok (.invokevirtual 60, 3) := by decide +kernel
theorem dX4_priceAt_52 : decode cX4_priceAt 52 = .ok (.ireturn, 1) := by decide +kernel
theorem dX4_priceAt_53 : decode cX4_priceAt 53 = .ok (.aload_n 0, 1) := by decide +kernel
theorem dX4_priceAt_54 : decode cX4_priceAt 54 = .ok (.getfield 10, 3) := by decide +kernel
theorem dX4_priceAt_57 : decode cX4_priceAt 57 = .ok (.iload_n 1, 1) := by decide +kernel
theorem dX4_priceAt_58 : decode cX4_priceAt 58 = .ok (.invokevirtual 64, 3) := by decide +kernel
theorem dX4_priceAt_61 : decode cX4_priceAt 61 = .ok (.ireturn, 1) := by decide +kernel
theorem dX4_priceAt_62 : decode cX4_priceAt 62 = .ok (.aload_n 0, 1) := by decide +kernel
theorem dX4_priceAt_63 : decode cX4_priceAt 63 = .ok (.getfield 10, 3) := by decide +kernel
theorem dX4_priceAt_66 : decode cX4_priceAt 66 = .ok (.iload_n 1, 1) := by decide +kernel
theorem dX4_priceAt_67 : decode cX4_priceAt 67 = .ok (.invokevirtual 67, 3) := by decide +kernel
theorem dX4_priceAt_70 : decode cX4_priceAt 70 = .ok (.ireturn, 1) := by decide +kernel
theorem dX4_priceAt_71 : decode cX4_priceAt 71 = .ok (.aload_n 0, 1) := by decide +kernel
theorem dX4_priceAt_72 : decode cX4_priceAt 72 = .ok (.getfield 10, 3) := by decide +kernel
theorem dX4_priceAt_75 : decode cX4_priceAt 75 = .ok (.iload_n 1, 1) := by decide +kernel
theorem dX4_priceAt_76 : decode cX4_priceAt 76 = .ok (.invokevirtual 70, 3) := by decide +kernel
theorem dX4_priceAt_79 : decode cX4_priceAt 79 = .ok (.ireturn, 1) := by decide +kernel
theorem dX4_priceAt_80 : decode cX4_priceAt 80 = .ok (.bipush (-102), 2) := by decide +kernel
theorem dX4_priceAt_82 : decode cX4_priceAt 82 = .ok (.ireturn, 1) := by decide +kernel
theorem dX4_cap_0 : decode cX4_cap 0 = .ok (.iload_n 1, 1) := by decide +kernel
theorem dX4_cap_1 : decode cX4_cap 1 = .ok (.invokestatic 73, 3) := by decide +kernel
theorem dX4_cap_4 : decode cX4_cap 4 = .ok (.ifCond .ne 6, 3) := by decide +kernel
theorem dX4_cap_7 : decode cX4_cap 7 = .ok (.bipush (-101), 2) := by decide +kernel
theorem dX4_cap_9 : decode cX4_cap 9 = .ok (.ireturn, 1) := by decide +kernel
theorem dX4_cap_10 : decode cX4_cap 10 = .ok (.iload_n 2, 1) := by decide +kernel
theorem dX4_cap_11 : decode cX4_cap 11 = .ok (.iconst 0, 1) := by decide +kernel
theorem dX4_cap_12 : decode cX4_cap 12 = .ok (.sipush 5000, 3) := by decide +kernel
theorem dX4_cap_15 : decode cX4_cap 15 = .ok (.invokestatic 37, 3) := by decide +kernel
theorem dX4_cap_18 : decode cX4_cap 18 = .ok (.ifCond .ne 6, 3) := by decide +kernel
theorem dX4_cap_21 : decode cX4_cap 21 = .ok (.bipush (-102), 2) := by decide +kernel
theorem dX4_cap_23 : decode cX4_cap 23 = .ok (.ireturn, 1) := by decide +kernel
theorem dX4_cap_24 : decode cX4_cap 24 = .ok (.aload_n 0, 1) := by decide +kernel
theorem dX4_cap_25 : decode cX4_cap 25 = .ok (.getfield 23, 3) := by decide +kernel
theorem dX4_cap_28 : decode cX4_cap 28 = .ok (.iload_n 1, 1) := by decide +kernel
theorem dX4_cap_29 : decode cX4_cap 29 = .ok (.iaload, 1) := by decide +kernel
theorem dX4_cap_30 : decode cX4_cap 30 = .ok (.istore_n 3, 1) := by decide +kernel
theorem dX4_cap_31 : decode cX4_cap 31 = .ok (.aload_n 0, 1) := by decide +kernel
theorem dX4_cap_32 : decode cX4_cap 32 = .ok (.getfield 23, 3) := by decide +kernel
theorem dX4_cap_35 : decode cX4_cap 35 = .ok (.iload_n 1, 1) := by decide +kernel
theorem dX4_cap_36 : decode cX4_cap 36 = .ok (.iload_n 2, 1) := by decide +kernel
theorem dX4_cap_37 : decode cX4_cap 37 = .ok (.iastore, 1) := by decide +kernel
theorem dX4_cap_38 : decode cX4_cap 38 = .ok (.iload_n 3, 1) := by decide +kernel
theorem dX4_cap_39 : decode cX4_cap 39 = .ok (.ireturn, 1) := by decide +kernel
theorem dX4_make_0 : decode cX4_make 0 = .ok (.iload_n 1, 1) := by decide +kernel
theorem dX4_make_1 : decode cX4_make 1 = .ok (.invokestatic 73, 3) := by decide +kernel
theorem dX4_make_4 : decode cX4_make 4 = .ok (.ifCond .eq 10, 3) := by decide +kernel
theorem dX4_make_7 : decode cX4_make 7 = .ok (.iload_n 2, 1) := by decide +kernel
theorem dX4_make_8 : decode cX4_make 8 = .ok (.invokestatic 73, 3) := by decide +kernel
theorem dX4_make_11 : decode cX4_make 11 = .ok (.ifCond .ne 6, 3) := by decide +kernel
theorem dX4_make_14 : decode cX4_make 14 = .ok (.bipush (-101), 2) := by decide +kernel
theorem dX4_make_16 : decode cX4_make 16 = .ok (.ireturn, 1) := by decide +kernel
theorem dX4_make_17 : decode cX4_make 17 = .ok (.iload_n 3, 1) := by decide +kernel
theorem dX4_make_18 : decode cX4_make 18 = .ok (.iconst 1, 1) := by decide +kernel
theorem dX4_make_19 : decode cX4_make 19 = .ok (.sipush 1000, 3) := by decide +kernel
theorem dX4_make_22 : decode cX4_make 22 = .ok (.invokestatic 37, 3) := by decide +kernel
theorem dX4_make_25 : decode cX4_make 25 = .ok (.ifCond .eq 14, 3) := by decide +kernel
theorem dX4_make_28 : decode cX4_make 28 = .ok (.iload 4, 2) := by decide +kernel
theorem dX4_make_30 : decode cX4_make 30 = .ok (.iconst 1, 1) := by decide +kernel
theorem dX4_make_31 : decode cX4_make 31 = .ok (.bipush 100, 2) := by decide +kernel
theorem dX4_make_33 : decode cX4_make 33 = .ok (.invokestatic 37, 3) := by decide +kernel
theorem dX4_make_36 : decode cX4_make 36 = .ok (.ifCond .ne 6, 3) := by decide +kernel
theorem dX4_make_39 : decode cX4_make 39 = .ok (.bipush (-102), 2) := by decide +kernel
theorem dX4_make_41 : decode cX4_make 41 = .ok (.ireturn, 1) := by decide +kernel
theorem dX4_make_42 : decode cX4_make 42 = .ok (.aload_n 0, 1) := by decide +kernel
theorem dX4_make_43 : decode cX4_make 43 = .ok (.iload_n 2, 1) := by decide +kernel
theorem dX4_make_44 : decode cX4_make 44 = .ok (.iload_n 3, 1) := by decide +kernel
theorem dX4_make_45 : decode cX4_make 45 = .ok (.invokevirtual 77, 3) := by decide +kernel
theorem dX4_make_48 : decode cX4_make 48 = .ok (.ifCond .ne 6, 3) := by decide +kernel
theorem dX4_make_51 : decode cX4_make 51 = .ok (.bipush (-105), 2) := by decide +kernel
theorem dX4_make_53 : decode cX4_make 53 = .ok (.ireturn, 1) := by decide +kernel
theorem dX4_make_54 : decode cX4_make 54 = .ok (.aload_n 0, 1) := by decide +kernel
theorem dX4_make_55 : decode cX4_make 55 = .ok (.getfield 10, 3) := by decide +kernel
theorem dX4_make_58 : decode cX4_make 58 = .ok (.aload_n 0, 1) := by decide +kernel
theorem dX4_make_59 : decode cX4_make 59 = .ok (.getfield 41, 3) := by decide +kernel
theorem dX4_make_62 : decode cX4_make 62 = .ok (.invokevirtual 60, 3) := by decide +kernel
theorem dX4_make_65 : decode cX4_make 65 = .ok (.istore 5, 2) := by decide +kernel
theorem dX4_make_67 : decode cX4_make 67 = .ok (.iload_n 3, 1) := by decide +kernel
theorem dX4_make_68 : decode cX4_make 68 = .ok (.i2l, 1) := by decide +kernel
theorem dX4_make_69 : decode cX4_make 69 = .ok (.iload 5, 2) := by decide +kernel
theorem dX4_make_71 : decode cX4_make 71 = .ok (.i2l, 1) := by decide +kernel
theorem dX4_make_72 : decode cX4_make 72 = .ok (.lmul, 1) := by decide +kernel
theorem dX4_make_73 : decode cX4_make 73 = .ok (.lstore 6, 2) := by decide +kernel
theorem dX4_make_75 : decode cX4_make 75 = .ok (.aload_n 0, 1) := by decide +kernel
theorem dX4_make_76 : decode cX4_make 76 = .ok (.aload_n 0, 1) := by decide +kernel
theorem dX4_make_77 : decode cX4_make 77 = .ok (.iload_n 3, 1) := by decide +kernel
theorem dX4_make_78 : decode cX4_make 78 = .ok (.invokevirtual 81, 3) := by decide +kernel
theorem dX4_make_81 : decode cX4_make 81 = .ok (.iload 4, 2) := by decide +kernel
theorem dX4_make_83 : decode cX4_make 83 = .ok (.invokevirtual 84, 3) := by decide +kernel
theorem dX4_make_86 : decode cX4_make 86 = .ok (.lstore 8, 2) := by decide +kernel
theorem dX4_make_88 : decode cX4_make 88 = .ok (.aload_n 0, 1) := by decide +kernel
theorem dX4_make_89 : decode cX4_make 89 = .ok (.getfield 19, 3) := by decide +kernel
theorem dX4_make_92 : decode cX4_make 92 = .ok (.iload_n 1, 1) := by decide +kernel
theorem dX4_make_93 : decode cX4_make 93 = .ok (.lload 6, 2) := by decide +kernel
theorem dX4_make_95 : decode cX4_make 95 = .ok (.lload 8, 2) := by decide +kernel
theorem dX4_make_97 : decode cX4_make 97 = .ok (.ladd, 1) := by decide +kernel
theorem dX4_make_98 : decode cX4_make 98 = .ok (.invokevirtual 88, 3) := by decide +kernel
theorem dX4_make_101 : decode cX4_make 101 = .ok (.ifCond .ne 6, 3) := by decide +kernel
theorem dX4_make_104 : decode cX4_make 104 = .ok (.bipush (-106), 2) := by decide +kernel
theorem dX4_make_106 : decode cX4_make 106 = .ok (.ireturn, 1) := by decide +kernel
theorem dX4_make_107 : decode cX4_make 107 = .ok (.aload_n 0, 1) := by decide +kernel
theorem dX4_make_108 : decode cX4_make 108 = .ok (.getfield 92, 3) := by decide +kernel
theorem dX4_make_111 : decode cX4_make 111 = .ok (.bipush 60, 2) := by decide +kernel
theorem dX4_make_113 : decode cX4_make 113 = .ok (.if_icmp .lt 6, 3) := by decide +kernel
theorem dX4_make_116 : decode cX4_make 116 = .ok (.bipush (-107), 2) := by decide +kernel
theorem dX4_make_118 : decode cX4_make 118 = .ok (.ireturn, 1) := by decide +kernel
theorem dX4_make_119 : decode cX4_make 119 = .ok (.aload_n 0, 1) := by decide +kernel
theorem dX4_make_120 : decode cX4_make 120 = .ok (.getfield 19, 3) := by decide +kernel
theorem dX4_make_123 : decode cX4_make 123 = .ok (.iload_n 1, 1) := by decide +kernel
theorem dX4_make_124 : decode cX4_make 124 = .ok (.lload 6, 2) := by decide +kernel
theorem dX4_make_126 : decode cX4_make 126 = .ok (.lload 8, 2) := by decide +kernel
theorem dX4_make_128 : decode cX4_make 128 = .ok (.invokevirtual 95, 3) := by decide +kernel
theorem dX4_make_131 : decode cX4_make 131 = .ok (.pop, 1) := by decide +kernel
theorem dX4_make_132 : decode cX4_make 132 = .ok (.aload_n 0, 1) := by decide +kernel
theorem dX4_make_133 : decode cX4_make 133 = .ok (.invokevirtual 99, 3) := by decide +kernel
theorem dX4_make_136 : decode cX4_make 136 = .ok (.astore 10, 2) := by decide +kernel
theorem dX4_make_138 : decode cX4_make 138 = .ok (.aload 10, 2) := by decide +kernel
theorem dX4_make_140 : decode cX4_make 140 = .ok (.iload_n 2, 1) := by decide +kernel
theorem dX4_make_141 : decode cX4_make 141 = .ok (.iload_n 3, 1) := by decide +kernel
theorem dX4_make_142 : decode cX4_make 142 = .ok (.aload_n 0, 1) := by decide +kernel
theorem dX4_make_143 : decode cX4_make 143 = .ok (.getfield 41, 3) := by decide +kernel
theorem dX4_make_146 : decode cX4_make 146 = .ok (.iload 4, 2) := by decide +kernel
theorem dX4_make_148 : decode cX4_make 148 = .ok (.iadd, 1) := by decide +kernel
theorem dX4_make_149 : decode cX4_make 149 = .ok (.invokevirtual 103, 3) := by decide +kernel
theorem dX4_make_152 : decode cX4_make 152 = .ok (.aload 10, 2) := by decide +kernel
theorem dX4_make_154 : decode cX4_make 154 = .ok (.getfield 107, 3) := by decide +kernel
theorem dX4_make_157 : decode cX4_make 157 = .ok (.iload_n 3, 1) := by decide +kernel
theorem dX4_make_158 : decode cX4_make 158 = .ok (.iload 5, 2) := by decide +kernel
theorem dX4_make_160 : decode cX4_make 160 = .ok (.iload_n 1, 1) := by decide +kernel
theorem dX4_make_161 : decode cX4_make 161 = .ok (.invokevirtual 111, 3) := by decide +kernel
theorem dX4_make_164 : decode cX4_make 164 = .ok (.aload_n 0, 1) := by decide +kernel
theorem dX4_make_165 : decode cX4_make 165 = .ok (.getfield 92, 3) := by decide +kernel
theorem dX4_make_168 : decode cX4_make 168 = .ok (.iconst 1, 1) := by decide +kernel
theorem dX4_make_169 : decode cX4_make 169 = .ok (.isub, 1) := by decide +kernel
theorem dX4_make_170 : decode cX4_make 170 = .ok (.ireturn, 1) := by decide +kernel
theorem dX4_grow_0 : decode cX4_grow 0 = .ok (.aload_n 0, 1) := by decide +kernel
theorem dX4_grow_1 : decode cX4_grow 1 = .ok (.iload_n 1, 1) := by decide +kernel
theorem dX4_grow_2 : decode cX4_grow 2 = .ok (.invokevirtual 116, 3) := by decide +kernel
theorem dX4_grow_5 : decode cX4_grow 5 = .ok (.astore 4, 2) := by decide +kernel
theorem dX4_grow_7 : decode cX4_grow 7 = .ok (.aload 4, 2) := by decide +kernel
theorem dX4_grow_9 : decode cX4_grow 9 = .ok (.ifnull 10, 3) := by decide +kernel
theorem dX4_grow_12 : decode cX4_grow 12 = .ok (.iload_n 2, 1) := by decide +kernel
theorem dX4_grow_13 : decode cX4_grow 13 = .ok (.invokestatic 73, 3) := by decide +kernel
theorem dX4_grow_16 : decode cX4_grow 16 = .ok (.ifCond .ne 6, 3) := by decide +kernel
theorem dX4_grow_19 : decode cX4_grow 19 = .ok (.bipush (-101), 2) := by decide +kernel
theorem dX4_grow_21 : decode cX4_grow 21 = .ok (.ireturn, 1) := by decide +kernel
theorem dX4_grow_22 : decode cX4_grow 22 = .ok (.iload_n 3, 1) := by decide +kernel
theorem dX4_grow_23 : decode cX4_grow 23 = .ok (.iconst 1, 1) := by decide +kernel
theorem dX4_grow_24 : decode cX4_grow 24 = .ok (.sipush 999, 3) := by decide +kernel
theorem dX4_grow_27 : decode cX4_grow 27 = .ok (.invokestatic 37, 3) := by decide +kernel
theorem dX4_grow_30 : decode cX4_grow 30 = .ok (.ifCond .eq 16, 3) := by decide +kernel
theorem dX4_grow_33 : decode cX4_grow 33 = .ok (.aload 4, 2) := by decide +kernel
theorem dX4_grow_35 : decode cX4_grow 35 = .ok (.invokevirtual 120, 3) := by decide +kernel
theorem dX4_grow_38 : decode cX4_grow 38 = .ok (.iload_n 3, 1) := by decide +kernel
theorem dX4_grow_39 : decode cX4_grow 39 = .ok (.iadd, 1) := by decide +kernel
theorem dX4_grow_40 : decode cX4_grow 40 = .ok (.sipush 1000, 3) := by decide +kernel
theorem dX4_grow_43 : decode cX4_grow 43 = .ok (.if_icmp .le 6, 3) := by decide +kernel
theorem dX4_grow_46 : decode cX4_grow 46 = .ok (.bipush (-102), 2) := by decide +kernel
theorem dX4_grow_48 : decode cX4_grow 48 = .ok (.ireturn, 1) := by decide +kernel
theorem dX4_grow_49 : decode cX4_grow 49 = .ok (.aload 4, 2) := by decide +kernel
theorem dX4_grow_51 : decode cX4_grow 51 = .ok (.getfield 123, 3) := by decide +kernel
theorem dX4_grow_54 : decode cX4_grow 54 = .ok (.ifCond .eq 6, 3) := by decide +kernel
theorem dX4_grow_57 : decode cX4_grow 57 = .ok (.bipush (-103), 2) := by decide +kernel
theorem dX4_grow_59 : decode cX4_grow 59 = .ok (.ireturn, 1) := by decide +kernel
theorem dX4_grow_60 : decode cX4_grow 60 = .ok (.aload_n 0, 1) := by decide +kernel
theorem dX4_grow_61 : decode cX4_grow 61 = .ok (.aload 4, 2) := by decide +kernel
theorem dX4_grow_63 : decode cX4_grow 63 = .ok (.getfield 126, 3) := by decide +kernel
theorem dX4_grow_66 : decode cX4_grow 66 = .ok (.iload_n 3, 1) := by decide +kernel
theorem dX4_grow_67 : decode cX4_grow 67 = .ok (.invokevirtual 77, 3) := by decide +kernel
theorem dX4_grow_70 : decode cX4_grow 70 = .ok (.ifCond .ne 6, 3) := by decide +kernel
theorem dX4_grow_73 : decode cX4_grow 73 = .ok (.bipush (-105), 2) := by decide +kernel
theorem dX4_grow_75 : decode cX4_grow 75 = .ok (.ireturn, 1) := by decide +kernel
theorem dX4_grow_76 : decode cX4_grow 76 = .ok (.aload_n 0, 1) := by decide +kernel
theorem dX4_grow_77 : decode cX4_grow 77 = .ok (.getfield 10, 3) := by decide +kernel
theorem dX4_grow_80 : decode cX4_grow 80 = .ok (.aload_n 0, 1) := by decide +kernel
theorem dX4_grow_81 : decode cX4_grow 81 = .ok (.getfield 41, 3) := by decide +kernel
theorem dX4_grow_84 : decode cX4_grow 84 = .ok (.invokevirtual 60, 3) := by decide +kernel
theorem dX4_grow_87 : decode cX4_grow 87 = .ok (.istore 5, 2) := by decide +kernel
theorem dX4_grow_89 : decode cX4_grow 89 = .ok (.iload_n 3, 1) := by decide +kernel
theorem dX4_grow_90 : decode cX4_grow 90 = .ok (.i2l, 1) := by decide +kernel
theorem dX4_grow_91 : decode cX4_grow 91 = .ok (.iload 5, 2) := by decide +kernel
theorem dX4_grow_93 : decode cX4_grow 93 = .ok (.i2l, 1) := by decide +kernel
theorem dX4_grow_94 : decode cX4_grow 94 = .ok (.lmul, 1) := by decide +kernel
theorem dX4_grow_95 : decode cX4_grow 95 = .ok (.lstore 6, 2) := by decide +kernel
theorem dX4_grow_97 : decode cX4_grow 97 = .ok (.aload_n 0, 1) := by decide +kernel
theorem dX4_grow_98 : decode cX4_grow 98 = .ok (.aload 4, 2) := by decide +kernel
theorem dX4_grow_100 : decode cX4_grow 100 = .ok (.getfield 129, 3) := by decide +kernel
theorem dX4_grow_103 : decode cX4_grow 103 = .ok (.iload_n 3, 1) := by decide +kernel
theorem dX4_grow_104 : decode cX4_grow 104 = .ok (.iadd, 1) := by decide +kernel
theorem dX4_grow_105 : decode cX4_grow 105 = .ok (.invokevirtual 81, 3) := by decide +kernel
theorem dX4_grow_108 : decode cX4_grow 108 = .ok (.aload_n 0, 1) := by decide +kernel
theorem dX4_grow_109 : decode cX4_grow 109 = .ok (.aload 4, 2) := by decide +kernel
theorem dX4_grow_111 : decode cX4_grow 111 = .ok (.getfield 129, 3) := by decide +kernel
theorem dX4_grow_114 : decode cX4_grow 114 = .ok (.invokevirtual 81, 3) := by decide +kernel
theorem dX4_grow_117 : decode cX4_grow 117 = .ok (.isub, 1) := by decide +kernel
theorem dX4_grow_118 : decode cX4_grow 118 = .ok (.istore 8, 2) := by decide +kernel
theorem dX4_grow_120 : decode cX4_grow 120 = .ok (.aload_n 0, 1) := by decide +kernel
theorem dX4_grow_121 : decode cX4_grow 121 = .ok (.iload 8, 2) := by decide +kernel
theorem dX4_grow_123 : decode cX4_grow 123 = .ok (.aload 4, 2) := by decide +kernel
theorem dX4_grow_125 : decode cX4_grow 125 = .ok (.getfield 132, 3) := by decide +kernel
theorem dX4_grow_128 : decode cX4_grow 128 = .ok (.aload_n 0, 1) := by decide +kernel
theorem dX4_grow_129 : decode cX4_grow 129 = .ok (.getfield 41, 3) := by decide +kernel
theorem dX4_grow_132 : decode cX4_grow 132 = .ok (.isub, 1) := by decide +kernel
theorem dX4_grow_133 : decode cX4_grow 133 = .ok (.invokevirtual 84, 3) := by decide +kernel
theorem dX4_grow_136 : decode cX4_grow 136 = .ok (.lstore 9, 2) := by decide +kernel
theorem dX4_grow_138 : decode cX4_grow 138 = .ok (.aload_n 0, 1) := by decide +kernel
theorem dX4_grow_139 : decode cX4_grow 139 = .ok (.getfield 19, 3) := by decide +kernel
theorem dX4_grow_142 : decode cX4_grow 142 = .ok (.iload_n 2, 1) := by decide +kernel
theorem dX4_grow_143 : decode cX4_grow 143 = .ok (.lload 6, 2) := by decide +kernel
theorem dX4_grow_145 : decode cX4_grow 145 = .ok (.lload 9, 2) := by decide +kernel
theorem dX4_grow_147 : decode cX4_grow 147 = .ok (.ladd, 1) := by decide +kernel
theorem dX4_grow_148 : decode cX4_grow 148 = .ok (.invokevirtual 88, 3) := by decide +kernel
theorem dX4_grow_151 : decode cX4_grow 151 = .ok (.ifCond .ne 6, 3) := by decide +kernel
theorem dX4_grow_154 : decode cX4_grow 154 = .ok (.bipush (-106), 2) := by decide +kernel
theorem dX4_grow_156 : decode cX4_grow 156 = .ok (.ireturn, 1) := by decide +kernel
theorem dX4_grow_157 : decode cX4_grow 157 = .ok (.aload 4, 2) := by decide +kernel
theorem dX4_grow_159 : decode cX4_grow 159 = .ok (.getfield 107, 3) := by decide +kernel
theorem dX4_grow_162 : decode cX4_grow 162 = .ok (.iload 5, 2) := by decide +kernel
theorem dX4_grow_164 : decode cX4_grow 164 = .ok (.iload_n 2, 1) := by decide +kernel
theorem dX4_grow_165 : decode cX4_grow 165 = .ok (.invokevirtual 135, 3) := by decide +kernel
theorem dX4_grow_168 : decode cX4_grow 168 = .ok (.ifCond .ne 6, 3) := by decide +kernel
theorem dX4_grow_171 : decode cX4_grow 171 = .ok (.bipush (-107), 2) := by decide +kernel
theorem dX4_grow_173 : decode cX4_grow 173 = .ok (.ireturn, 1) := by decide +kernel
theorem dX4_grow_174 : decode cX4_grow 174 = .ok (.aload 4, 2) := by decide +kernel
theorem dX4_grow_176 : decode cX4_grow 176 = .ok (.getfield 107, 3) := by decide +kernel
theorem dX4_grow_179 : decode cX4_grow 179 = .ok (.iload_n 3, 1) := by decide +kernel
theorem dX4_grow_180 : decode cX4_grow 180 = .ok (.iload 5, 2) := by decide +kernel
theorem dX4_grow_182 : decode cX4_grow 182 = .ok (.iload_n 2, 1) := by decide +kernel
theorem dX4_grow_183 : decode cX4_grow 183 = .ok (.invokevirtual 111, 3) := by decide +kernel
theorem dX4_grow_186 : decode cX4_grow 186 = .ok (.aload 4, 2) := by decide +kernel
theorem dX4_grow_188 : decode cX4_grow 188 = .ok (.dup, 1) := by decide +kernel
theorem dX4_grow_189 : decode cX4_grow 189 = .ok (.getfield 129, 3) := by decide +kernel
theorem dX4_grow_192 : decode cX4_grow 192 = .ok (.iload_n 3, 1) := by decide +kernel
theorem dX4_grow_193 : decode cX4_grow 193 = .ok (.iadd, 1) := by decide +kernel
theorem dX4_grow_194 : decode cX4_grow 194 = .ok (.putfield 129, 3) := by decide +kernel
theorem dX4_grow_197 : decode cX4_grow 197 = .ok (.aload_n 0, 1) := by decide +kernel
theorem dX4_grow_198 : decode cX4_grow 198 = .ok (.getfield 19, 3) := by decide +kernel
theorem dX4_grow_201 : decode cX4_grow 201 = .ok (.iload_n 2, 1) := by decide +kernel
theorem dX4_grow_202 : decode cX4_grow 202 = .ok (.lload 6, 2) := by decide +kernel
theorem dX4_grow_204 : decode cX4_grow 204 = .ok (.lload 9, 2) := by decide +kernel
theorem dX4_grow_206 : decode cX4_grow 206 = .ok (.invokevirtual 95, 3) := by decide +kernel
theorem dX4_grow_209 : decode cX4_grow 209 = .ok (.ireturn, 1) := by decide +kernel
theorem dX4_shrink_0 : decode cX4_shrink 0 = .ok (.aload_n 0, 1) := by decide +kernel
theorem dX4_shrink_1 : decode cX4_shrink 1 = .ok (.iload_n 1, 1) := by decide +kernel
theorem dX4_shrink_2 : decode cX4_shrink 2 = .ok (.invokevirtual 116, 3) := by decide +kernel
theorem dX4_shrink_5 : decode cX4_shrink 5 = .ok (.astore_n 3, 1) := by decide +kernel
theorem dX4_shrink_6 : decode cX4_shrink 6 = .ok (.aload_n 3, 1) := by decide +kernel
theorem dX4_shrink_7 : decode cX4_shrink 7 = .ok (.ifnonnull 6, 3) := by decide +kernel
theorem dX4_shrink_10 : decode cX4_shrink 10 = .ok (.bipush (-101), 2) := by decide +kernel
theorem dX4_shrink_12 : decode cX4_shrink 12 = .ok (.ireturn, 1) := by decide +kernel
theorem dX4_shrink_13 : decode cX4_shrink 13 = .ok (.aload_n 3, 1) := by decide +kernel
theorem dX4_shrink_14 : decode cX4_shrink 14 = .ok (.iload_n 2, 1) := by decide +kernel
theorem dX4_shrink_15 : decode cX4_shrink 15 = .ok (.invokestatic 138, 3) := by decide +kernel
theorem dX4_shrink_18 : decode cX4_shrink 18 = .ok (.istore 4, 2) := by decide +kernel
theorem dX4_shrink_20 : decode cX4_shrink 20 = .ok (.iload 4, 2) := by decide +kernel
theorem dX4_shrink_22 : decode cX4_shrink 22 = .ok (.ifCond .eq 6, 3) := by decide +kernel
theorem dX4_shrink_25 : decode cX4_shrink 25 = .ok (.iload 4, 2) := by decide +kernel
theorem dX4_shrink_27 : decode cX4_shrink 27 = .ok (.ireturn, 1) := by decide +kernel
theorem dX4_shrink_28 : decode cX4_shrink 28 = .ok (.aload_n 0, 1) := by decide +kernel
theorem dX4_shrink_29 : decode cX4_shrink 29 = .ok (.aload_n 3, 1) := by decide +kernel
theorem dX4_shrink_30 : decode cX4_shrink 30 = .ok (.iload_n 2, 1) := by decide +kernel
theorem dX4_shrink_31 : decode cX4_shrink 31 = .ok (.invokevirtual 142, 3) := by decide +kernel
theorem dX4_shrink_34 : decode cX4_shrink 34 = .ok (.istore 5, 2) := by decide +kernel
theorem dX4_shrink_36 : decode cX4_shrink 36 = .ok (.aload_n 3, 1) := by decide +kernel
theorem dX4_shrink_37 : decode cX4_shrink 37 = .ok (.dup, 1) := by decide +kernel
theorem dX4_shrink_38 : decode cX4_shrink 38 = .ok (.getfield 129, 3) := by decide +kernel
theorem dX4_shrink_41 : decode cX4_shrink 41 = .ok (.iload_n 2, 1) := by decide +kernel
theorem dX4_shrink_42 : decode cX4_shrink 42 = .ok (.isub, 1) := by decide +kernel
theorem dX4_shrink_43 : decode cX4_shrink 43 = .ok (.putfield 129, 3) := by decide +kernel
theorem dX4_shrink_46 : decode cX4_shrink 46 = .ok (.iload 5, 2) := by decide +kernel
theorem dX4_shrink_48 : decode cX4_shrink 48 = .ok (.ireturn, 1) := by decide +kernel
theorem dX4_pay_0 : decode cX4_pay 0 = .ok (.aload_n 0, 1) := by decide +kernel
theorem dX4_pay_1 : decode cX4_pay 1 = .ok (.iload_n 1, 1) := by decide +kernel
theorem dX4_pay_2 : decode cX4_pay 2 = .ok (.invokevirtual 116, 3) := by decide +kernel
theorem dX4_pay_5 : decode cX4_pay 5 = .ok (.astore 4, 2) := by decide +kernel
theorem dX4_pay_7 : decode cX4_pay 7 = .ok (.aload 4, 2) := by decide +kernel
theorem dX4_pay_9 : decode cX4_pay 9 = .ok (.ifnull 10, 3) := by decide +kernel
theorem dX4_pay_12 : decode cX4_pay 12 = .ok (.iload_n 2, 1) := by decide +kernel
theorem dX4_pay_13 : decode cX4_pay 13 = .ok (.invokestatic 73, 3) := by decide +kernel
theorem dX4_pay_16 : decode cX4_pay 16 = .ok (.ifCond .ne 6, 3) := by decide +kernel
theorem dX4_pay_19 : decode cX4_pay 19 = .ok (.bipush (-101), 2) := by decide +kernel
theorem dX4_pay_21 : decode cX4_pay 21 = .ok (.ireturn, 1) := by decide +kernel
theorem dX4_pay_22 : decode cX4_pay 22 = .ok (.iload_n 3, 1) := by decide +kernel
theorem dX4_pay_23 : decode cX4_pay 23 = .ok (.iconst 1, 1) := by decide +kernel
theorem dX4_pay_24 : decode cX4_pay 24 = .ok (.bipush 100, 2) := by decide +kernel
theorem dX4_pay_26 : decode cX4_pay 26 = .ok (.invokestatic 37, 3) := by decide +kernel
theorem dX4_pay_29 : decode cX4_pay 29 = .ok (.ifCond .ne 6, 3) := by decide +kernel
theorem dX4_pay_32 : decode cX4_pay 32 = .ok (.bipush (-102), 2) := by decide +kernel
theorem dX4_pay_34 : decode cX4_pay 34 = .ok (.ireturn, 1) := by decide +kernel
theorem dX4_pay_35 : decode cX4_pay 35 = .ok (.aload 4, 2) := by decide +kernel
theorem dX4_pay_37 : decode cX4_pay 37 = .ok (.getfield 123, 3) := by decide +kernel
theorem dX4_pay_40 : decode cX4_pay 40 = .ok (.ifCond .ne 21, 3) := by decide +kernel
theorem dX4_pay_43 : decode cX4_pay 43 = .ok (.aload 4, 2) := by decide +kernel
theorem dX4_pay_45 : decode cX4_pay 45 = .ok (.getfield 132, 3) := by decide +kernel
theorem dX4_pay_48 : decode cX4_pay 48 = .ok (.iload_n 3, 1) := by decide +kernel
theorem dX4_pay_49 : decode cX4_pay 49 = .ok (.iadd, 1) := by decide +kernel
theorem dX4_pay_50 : decode cX4_pay 50 = .ok (.aload_n 0, 1) := by decide +kernel
theorem dX4_pay_51 : decode cX4_pay 51 = .ok (.getfield 41, 3) := by decide +kernel
theorem dX4_pay_54 : decode cX4_pay 54 = .ok (.sipush 400, 3) := by decide +kernel
theorem dX4_pay_57 : decode cX4_pay 57 = .ok (.iadd, 1) := by decide +kernel
theorem dX4_pay_58 : decode cX4_pay 58 = .ok (.if_icmp .le 6, 3) := by decide +kernel
theorem dX4_pay_61 : decode cX4_pay 61 = .ok (.bipush (-103), 2) := by decide +kernel
theorem dX4_pay_63 : decode cX4_pay 63 = .ok (.ireturn, 1) := by decide +kernel
theorem dX4_pay_64 : decode cX4_pay 64 = .ok (.aload_n 0, 1) := by decide +kernel
theorem dX4_pay_65 : decode cX4_pay 65 = .ok (.aload_n 0, 1) := by decide +kernel
theorem dX4_pay_66 : decode cX4_pay 66 = .ok (.aload 4, 2) := by decide +kernel
theorem dX4_pay_68 : decode cX4_pay 68 = .ok (.getfield 129, 3) := by decide +kernel
theorem dX4_pay_71 : decode cX4_pay 71 = .ok (.invokevirtual 81, 3) := by decide +kernel
theorem dX4_pay_74 : decode cX4_pay 74 = .ok (.iload_n 3, 1) := by decide +kernel
theorem dX4_pay_75 : decode cX4_pay 75 = .ok (.invokevirtual 84, 3) := by decide +kernel
theorem dX4_pay_78 : decode cX4_pay 78 = .ok (.lstore 5, 2) := by decide +kernel
theorem dX4_pay_80 : decode cX4_pay 80 = .ok (.aload_n 0, 1) := by decide +kernel
theorem dX4_pay_81 : decode cX4_pay 81 = .ok (.getfield 19, 3) := by decide +kernel
theorem dX4_pay_84 : decode cX4_pay 84 = .ok (.iload_n 2, 1) := by decide +kernel
theorem dX4_pay_85 : decode cX4_pay 85 = .ok (.lload 5, 2) := by decide +kernel
theorem dX4_pay_87 : decode cX4_pay 87 = .ok (.invokevirtual 88, 3) := by decide +kernel
theorem dX4_pay_90 : decode cX4_pay 90 = .ok (.ifCond .ne 6, 3) := by decide +kernel
theorem dX4_pay_93 : decode cX4_pay 93 = .ok (.bipush (-106), 2) := by decide +kernel
theorem dX4_pay_95 : decode cX4_pay 95 = .ok (.ireturn, 1) := by decide +kernel
theorem dX4_pay_96 : decode cX4_pay 96 = .ok (.aload 4, 2) := by decide +kernel
theorem dX4_pay_98 : decode cX4_pay 98 = .ok (.dup, 1) := by decide +kernel
theorem dX4_pay_99 : decode cX4_pay 99 = .ok (.getfield 132, 3) := by decide +kernel
theorem dX4_pay_102 : decode cX4_pay 102 = .ok (.iload_n 3, 1) := by decide +kernel
theorem dX4_pay_103 : decode cX4_pay 103 = .ok (.iadd, 1) := by decide +kernel
theorem dX4_pay_104 : decode cX4_pay 104 = .ok (.putfield 132, 3) := by decide +kernel
theorem dX4_pay_107 : decode cX4_pay 107 = .ok (.aload_n 0, 1) := by decide +kernel
theorem dX4_pay_108 : decode cX4_pay 108 = .ok (.getfield 19, 3) := by decide +kernel
theorem dX4_pay_111 : decode cX4_pay 111 = .ok (.iload_n 2, 1) := by decide +kernel
theorem dX4_pay_112 : decode cX4_pay 112 = .ok (.lconst 0, 1) := by decide +kernel
theorem dX4_pay_113 : decode cX4_pay 113 = .ok (.lload 5, 2) := by decide +kernel
theorem dX4_pay_115 : decode cX4_pay 115 = .ok (.invokevirtual 95, 3) := by decide +kernel
theorem dX4_pay_118 : decode cX4_pay 118 = .ok (.ireturn, 1) := by decide +kernel
theorem dX4_write_0 : decode cX4_write 0 = .ok (.aload_n 0, 1) := by decide +kernel
theorem dX4_write_1 : decode cX4_write 1 = .ok (.iload_n 1, 1) := by decide +kernel
theorem dX4_write_2 : decode cX4_write 2 = .ok (.invokevirtual 116, 3) := by decide +kernel
theorem dX4_write_5 : decode cX4_write 5 = .ok (.astore 4, 2) := by decide +kernel
theorem dX4_write_7 : decode cX4_write 7 = .ok (.aload 4, 2) := by decide +kernel
theorem dX4_write_9 : decode cX4_write 9 = .ok (.ifnonnull 6, 3) := by decide +kernel
theorem dX4_write_12 : decode cX4_write 12 = .ok (.bipush (-101), 2) := by decide +kernel
theorem dX4_write_14 : decode cX4_write 14 = .ok (.ireturn, 1) := by decide +kernel
theorem dX4_write_15 : decode cX4_write 15 = .ok (.iload_n 2, 1) := by decide +kernel
theorem dX4_write_16 : decode cX4_write 16 = .ok (.iconst 0, 1) := by decide +kernel
theorem dX4_write_17 : decode cX4_write 17 = .ok (.iconst 3, 1) := by decide +kernel
theorem dX4_write_18 : decode cX4_write 18 = .ok (.invokestatic 37, 3) := by decide +kernel
theorem dX4_write_21 : decode cX4_write 21 = .ok (.ifCond .ne 6, 3) := by decide +kernel
theorem dX4_write_24 : decode cX4_write 24 = .ok (.bipush (-102), 2) := by decide +kernel
theorem dX4_write_26 : decode cX4_write 26 = .ok (.ireturn, 1) := by decide +kernel
theorem dX4_write_27 : decode cX4_write 27 = .ok (.aload 4, 2) := by decide +kernel
theorem dX4_write_29 : decode cX4_write 29 = .ok (.getfield 123, 3) := by decide +kernel
theorem dX4_write_32 : decode cX4_write 32 = .ok (.ifCond .eq 6, 3) := by decide +kernel
theorem dX4_write_35 : decode cX4_write 35 = .ok (.bipush (-103), 2) := by decide +kernel
theorem dX4_write_37 : decode cX4_write 37 = .ok (.ireturn, 1) := by decide +kernel
theorem dX4_write_38 : decode cX4_write 38 = .ok (.aload 4, 2) := by decide +kernel
theorem dX4_write_40 : decode cX4_write 40 = .ok (.getfield 145, 3) := by decide +kernel
theorem dX4_write_43 : decode cX4_write 43 = .ok (.iload_n 2, 1) := by decide +kernel
theorem dX4_write_44 : decode cX4_write 44 = .ok (.iload_n 3, 1) := by decide +kernel
theorem dX4_write_45 : decode cX4_write 45 = .ok (.iastore, 1) := by decide +kernel
theorem dX4_write_46 : decode cX4_write 46 = .ok (.iconst 1, 1) := by decide +kernel
theorem dX4_write_47 : decode cX4_write 47 = .ok (.ireturn, 1) := by decide +kernel
theorem dX4_drop_0 : decode cX4_drop 0 = .ok (.aload_n 0, 1) := by decide +kernel
theorem dX4_drop_1 : decode cX4_drop 1 = .ok (.iload_n 1, 1) := by decide +kernel
theorem dX4_drop_2 : decode cX4_drop 2 = .ok (.invokevirtual 116, 3) := by decide +kernel
theorem dX4_drop_5 : decode cX4_drop 5 = .ok (.astore_n 2, 1) := by decide +kernel
theorem dX4_drop_6 : decode cX4_drop 6 = .ok (.aload_n 2, 1) := by decide +kernel
theorem dX4_drop_7 : decode cX4_drop 7 = .ok (.ifnonnull 6, 3) := by decide +kernel
theorem dX4_drop_10 : decode cX4_drop 10 = .ok (.bipush (-101), 2) := by decide +kernel
theorem dX4_drop_12 : decode cX4_drop 12 = .ok (.ireturn, 1) := by decide +kernel
theorem dX4_drop_13 : decode cX4_drop 13 = .ok (.aload_n 2, 1) := by decide +kernel
theorem dX4_drop_14 : decode cX4_drop 14 = .ok (.getfield 123, 3) := by decide +kernel
theorem dX4_drop_17 : decode cX4_drop 17 = .ok (.iconst 2, 1) := by decide +kernel
theorem dX4_drop_18 : decode cX4_drop 18 = .ok (.if_icmp .ne 6, 3) := by decide +kernel
theorem dX4_drop_21 : decode cX4_drop 21 = .ok (.bipush (-103), 2) := by decide +kernel
theorem dX4_drop_23 : decode cX4_drop 23 = .ok (.ireturn, 1) := by decide +kernel
theorem dX4_drop_24 : decode cX4_drop 24 = .ok (.aload_n 0, 1) := by decide +kernel
theorem dX4_drop_25 : decode cX4_drop 25 = .ok (.aload_n 2, 1) := by decide +kernel
theorem dX4_drop_26 : decode cX4_drop 26 = .ok (.aload_n 2, 1) := by decide +kernel
theorem dX4_drop_27 : decode cX4_drop 27 = .ok (.getfield 129, 3) := by decide +kernel
theorem dX4_drop_30 : decode cX4_drop 30 = .ok (.invokevirtual 142, 3) := by decide +kernel
theorem dX4_drop_33 : decode cX4_drop 33 = .ok (.istore_n 3, 1) := by decide +kernel
theorem dX4_drop_34 : decode cX4_drop 34 = .ok (.aload_n 2, 1) := by decide +kernel
theorem dX4_drop_35 : decode cX4_drop 35 = .ok (.iconst 2, 1) := by decide +kernel
theorem dX4_drop_36 : decode cX4_drop 36 = .ok (.putfield 123, 3) := by decide +kernel
theorem dX4_drop_39 : decode cX4_drop 39 = .ok (.iload_n 3, 1) := by decide +kernel
theorem dX4_drop_40 : decode cX4_drop 40 = .ok (.ireturn, 1) := by decide +kernel
theorem dX4_back_0 : decode cX4_back 0 = .ok (.aload_n 0, 1) := by decide +kernel
theorem dX4_back_1 : decode cX4_back 1 = .ok (.iload_n 1, 1) := by decide +kernel
theorem dX4_back_2 : decode cX4_back 2 = .ok (.invokevirtual 116, 3) := by decide +kernel
theorem dX4_back_5 : decode cX4_back 5 = .ok (.astore 5, 2) := by decide +kernel
theorem dX4_back_7 : decode cX4_back 7 = .ok (.aload 5, 2) := by decide +kernel
theorem dX4_back_9 : decode cX4_back 9 = .ok (.ifnull 10, 3) := by decide +kernel
theorem dX4_back_12 : decode cX4_back 12 = .ok (.iload_n 2, 1) := by decide +kernel
theorem dX4_back_13 : decode cX4_back 13 = .ok (.invokestatic 73, 3) := by decide +kernel
theorem dX4_back_16 : decode cX4_back 16 = .ok (.ifCond .ne 6, 3) := by decide +kernel
theorem dX4_back_19 : decode cX4_back 19 = .ok (.bipush (-101), 2) := by decide +kernel
theorem dX4_back_21 : decode cX4_back 21 = .ok (.ireturn, 1) := by decide +kernel
theorem dX4_back_22 : decode cX4_back 22 = .ok (.iload 4, 2) := by decide +kernel
theorem dX4_back_24 : decode cX4_back 24 = .ok (.iconst 1, 1) := by decide +kernel
theorem dX4_back_25 : decode cX4_back 25 = .ok (.bipush 100, 2) := by decide +kernel
theorem dX4_back_27 : decode cX4_back 27 = .ok (.invokestatic 37, 3) := by decide +kernel
theorem dX4_back_30 : decode cX4_back 30 = .ok (.ifCond .ne 6, 3) := by decide +kernel
theorem dX4_back_33 : decode cX4_back 33 = .ok (.bipush (-102), 2) := by decide +kernel
theorem dX4_back_35 : decode cX4_back 35 = .ok (.ireturn, 1) := by decide +kernel
theorem dX4_back_36 : decode cX4_back 36 = .ok (.aload 5, 2) := by decide +kernel
theorem dX4_back_38 : decode cX4_back 38 = .ok (.getfield 123, 3) := by decide +kernel
theorem dX4_back_41 : decode cX4_back 41 = .ok (.iconst 1, 1) := by decide +kernel
theorem dX4_back_42 : decode cX4_back 42 = .ok (.if_icmp .eq 6, 3) := by decide +kernel
theorem dX4_back_45 : decode cX4_back 45 = .ok (.bipush (-103), 2) := by decide +kernel
theorem dX4_back_47 : decode cX4_back 47 = .ok (.ireturn, 1) := by decide +kernel
theorem dX4_back_48 : decode cX4_back 48 = .ok (.iload_n 3, 1) := by decide +kernel
theorem dX4_back_49 : decode cX4_back 49 = .ok (.aload 5, 2) := by decide +kernel
theorem dX4_back_51 : decode cX4_back 51 = .ok (.invokevirtual 148, 3) := by decide +kernel
theorem dX4_back_54 : decode cX4_back 54 = .ok (.if_icmp .eq 6, 3) := by decide +kernel
theorem dX4_back_57 : decode cX4_back 57 = .ok (.bipush (-104), 2) := by decide +kernel
theorem dX4_back_59 : decode cX4_back 59 = .ok (.ireturn, 1) := by decide +kernel
theorem dX4_back_60 : decode cX4_back 60 = .ok (.aload_n 0, 1) := by decide +kernel
theorem dX4_back_61 : decode cX4_back 61 = .ok (.aload 5, 2) := by decide +kernel
theorem dX4_back_63 : decode cX4_back 63 = .ok (.getfield 126, 3) := by decide +kernel
theorem dX4_back_66 : decode cX4_back 66 = .ok (.aload 5, 2) := by decide +kernel
theorem dX4_back_68 : decode cX4_back 68 = .ok (.getfield 129, 3) := by decide +kernel
theorem dX4_back_71 : decode cX4_back 71 = .ok (.invokevirtual 77, 3) := by decide +kernel
theorem dX4_back_74 : decode cX4_back 74 = .ok (.ifCond .ne 6, 3) := by decide +kernel
theorem dX4_back_77 : decode cX4_back 77 = .ok (.bipush (-105), 2) := by decide +kernel
theorem dX4_back_79 : decode cX4_back 79 = .ok (.ireturn, 1) := by decide +kernel
theorem dX4_back_80 : decode cX4_back 80 = .ok (.aload_n 0, 1) := by decide +kernel
theorem dX4_back_81 : decode cX4_back 81 = .ok (.aload_n 0, 1) := by decide +kernel
theorem dX4_back_82 : decode cX4_back 82 = .ok (.aload 5, 2) := by decide +kernel
theorem dX4_back_84 : decode cX4_back 84 = .ok (.getfield 129, 3) := by decide +kernel
theorem dX4_back_87 : decode cX4_back 87 = .ok (.invokevirtual 81, 3) := by decide +kernel
theorem dX4_back_90 : decode cX4_back 90 = .ok (.aload_n 0, 1) := by decide +kernel
theorem dX4_back_91 : decode cX4_back 91 = .ok (.getfield 41, 3) := by decide +kernel
theorem dX4_back_94 : decode cX4_back 94 = .ok (.aload 5, 2) := by decide +kernel
theorem dX4_back_96 : decode cX4_back 96 = .ok (.getfield 132, 3) := by decide +kernel
theorem dX4_back_99 : decode cX4_back 99 = .ok (.isub, 1) := by decide +kernel
theorem dX4_back_100 : decode cX4_back 100 = .ok (.iload 4, 2) := by decide +kernel
theorem dX4_back_102 : decode cX4_back 102 = .ok (.iadd, 1) := by decide +kernel
theorem dX4_back_103 : decode cX4_back 103 = .ok (.invokevirtual 84, 3) := by decide +kernel
theorem dX4_back_106 : decode cX4_back 106 = .ok (.lstore 6, 2) := by decide +kernel
theorem dX4_back_108 : decode cX4_back 108 = .ok (.aload_n 0, 1) := by decide +kernel
theorem dX4_back_109 : decode cX4_back 109 = .ok (.getfield 19, 3) := by decide +kernel
theorem dX4_back_112 : decode cX4_back 112 = .ok (.iload_n 2, 1) := by decide +kernel
theorem dX4_back_113 : decode cX4_back 113 = .ok (.lload 6, 2) := by decide +kernel
theorem dX4_back_115 : decode cX4_back 115 = .ok (.invokevirtual 88, 3) := by decide +kernel
theorem dX4_back_118 : decode cX4_back 118 = .ok (.ifCond .ne 6, 3) := by decide +kernel
theorem dX4_back_121 : decode cX4_back 121 = .ok (.bipush (-106), 2) := by decide +kernel
theorem dX4_back_123 : decode cX4_back 123 = .ok (.ireturn, 1) := by decide +kernel
theorem dX4_back_124 : decode cX4_back 124 = .ok (.aload 5, 2) := by decide +kernel
theorem dX4_back_126 : decode cX4_back 126 = .ok (.iconst 0, 1) := by decide +kernel
theorem dX4_back_127 : decode cX4_back 127 = .ok (.putfield 123, 3) := by decide +kernel
theorem dX4_back_130 : decode cX4_back 130 = .ok (.aload 5, 2) := by decide +kernel
theorem dX4_back_132 : decode cX4_back 132 = .ok (.aload_n 0, 1) := by decide +kernel
theorem dX4_back_133 : decode cX4_back 133 = .ok (.getfield 41, 3) := by decide +kernel
theorem dX4_back_136 : decode cX4_back 136 = .ok (.iload 4, 2) := by decide +kernel
theorem dX4_back_138 : decode cX4_back 138 = .ok (.iadd, 1) := by decide +kernel
theorem dX4_back_139 : decode cX4_back 139 = .ok (.putfield 132, 3) := by decide +kernel
theorem dX4_back_142 : decode cX4_back 142 = .ok (.aload_n 0, 1) := by decide +kernel
theorem dX4_back_143 : decode cX4_back 143 = .ok (.getfield 19, 3) := by decide +kernel
theorem dX4_back_146 : decode cX4_back 146 = .ok (.iload_n 2, 1) := by decide +kernel
theorem dX4_back_147 : decode cX4_back 147 = .ok (.lconst 0, 1) := by decide +kernel
theorem dX4_back_148 : decode cX4_back 148 = .ok (.lload 6, 2) := by decide +kernel
theorem dX4_back_150 : decode cX4_back 150 = .ok (.invokevirtual 95, 3) := by decide +kernel
theorem dX4_back_153 : decode cX4_back 153 = .ok (.ireturn, 1) := by decide +kernel
theorem dX4_digest_0 : decode cX4_digest 0 = .ok (.aload_n 0, 1) := by decide +kernel
theorem dX4_digest_1 : decode cX4_digest 1 = .ok (.iload_n 1, 1) := by decide +kernel
theorem dX4_digest_2 : decode cX4_digest 2 = .ok (.invokevirtual 116, 3) := by decide +kernel
theorem dX4_digest_5 : decode cX4_digest 5 = .ok (.astore_n 2, 1) := by decide +kernel
theorem dX4_digest_6 : decode cX4_digest 6 = .ok (.aload_n 2, 1) := by decide +kernel
theorem dX4_digest_7 : decode cX4_digest 7 = .ok (.ifnonnull 8, 3) := by decide +kernel
theorem dX4_digest_10 : decode cX4_digest 10 = .ok (.bipush (-109), 2) := by decide +kernel
theorem dX4_digest_12 : decode cX4_digest 12 = .ok (.goto 7, 3) := by decide +kernel
theorem dX4_digest_15 : decode cX4_digest 15 = .ok (.aload_n 2, 1) := by decide +kernel
theorem dX4_digest_16 : decode cX4_digest 16 = .ok (.invokevirtual 148, 3) := by decide +kernel
theorem dX4_digest_19 : decode cX4_digest 19 = .ok (.ireturn, 1) := by decide +kernel
theorem dX4_tick_0 : decode cX4_tick 0 = .ok (.iload_n 1, 1) := by decide +kernel
theorem dX4_tick_1 : decode cX4_tick 1 = .ok (.iconst 1, 1) := by decide +kernel
theorem dX4_tick_2 : decode cX4_tick 2 = .ok (.bipush 100, 2) := by decide +kernel
theorem dX4_tick_4 : decode cX4_tick 4 = .ok (.invokestatic 37, 3) := by decide +kernel
theorem dX4_tick_7 : decode cX4_tick 7 = .ok (.ifCond .eq 14, 3) := by decide +kernel
theorem dX4_tick_10 : decode cX4_tick 10 = .ok (.aload_n 0, 1) := by decide +kernel
theorem dX4_tick_11 : decode cX4_tick 11 = .ok (.getfield 41, 3) := by decide +kernel
theorem dX4_tick_14 : decode cX4_tick 14 = .ok (.iload_n 1, 1) := by decide +kernel
theorem dX4_tick_15 : decode cX4_tick 15 = .ok (.iadd, 1) := by decide +kernel
theorem dX4_tick_16 : decode cX4_tick 16 = .ok (.ldc 36, 2) := by decide +kernel
theorem dX4_tick_18 : decode cX4_tick 18 = .ok (.if_icmp .le 6, 3) := by decide +kernel
theorem dX4_tick_21 : decode cX4_tick 21 = .ok (.bipush (-102), 2) := by decide +kernel
theorem dX4_tick_23 : decode cX4_tick 23 = .ok (.ireturn, 1) := by decide +kernel
theorem dX4_tick_24 : decode cX4_tick 24 = .ok (.iconst 0, 1) := by decide +kernel
theorem dX4_tick_25 : decode cX4_tick 25 = .ok (.istore_n 2, 1) := by decide +kernel
theorem dX4_tick_26 : decode cX4_tick 26 = .ok (.iconst 0, 1) := by decide +kernel
theorem dX4_tick_27 : decode cX4_tick 27 = .ok (.istore_n 3, 1) := by decide +kernel
theorem dX4_tick_28 : decode cX4_tick 28 = .ok (.iload_n 3, 1) := by decide +kernel
theorem dX4_tick_29 : decode cX4_tick 29 = .ok (.iload_n 1, 1) := by decide +kernel
theorem dX4_tick_30 : decode cX4_tick 30 = .ok (.if_icmp .ge 33, 3) := by decide +kernel
theorem dX4_tick_33 : decode cX4_tick 33 = .ok (.aload_n 0, 1) := by decide +kernel
theorem dX4_tick_34 : decode cX4_tick 34 = .ok (.dup, 1) := by decide +kernel
theorem dX4_tick_35 : decode cX4_tick 35 = .ok (.getfield 41, 3) := by decide +kernel
theorem dX4_tick_38 : decode cX4_tick 38 = .ok (.iconst 1, 1) := by decide +kernel
theorem dX4_tick_39 : decode cX4_tick 39 = .ok (.iadd, 1) := by decide +kernel
theorem dX4_tick_40 : decode cX4_tick 40 = .ok (.putfield 41, 3) := by decide +kernel
theorem dX4_tick_43 : decode cX4_tick 43 = .ok (.iload_n 2, 1) := by decide +kernel
theorem dX4_tick_44 : decode cX4_tick 44 = .ok (.aload_n 0, 1) := by decide +kernel
theorem dX4_tick_45 : decode cX4_tick 45 = .ok (.invokevirtual 151, 3) := by decide +kernel
theorem dX4_tick_48 : decode cX4_tick 48 = .ok (.iadd, 1) := by decide +kernel
theorem dX4_tick_49 : decode cX4_tick 49 = .ok (.istore_n 2, 1) := by decide +kernel
theorem dX4_tick_50 : decode cX4_tick 50 = .ok (.aload_n 0, 1) := by decide +kernel
theorem dX4_tick_51 : decode cX4_tick 51 = .ok (.getfield 19, 3) := by decide +kernel
theorem dX4_tick_54 : decode cX4_tick 54 = .ok (.invokevirtual 154, 3) := by decide +kernel
theorem dX4_tick_57 : decode cX4_tick 57 = .ok (.iinc 3 1, 3) := by decide +kernel
theorem dX4_tick_60 : decode cX4_tick 60 = .ok (.goto (-32), 3) := by decide +kernel
theorem dX4_tick_63 : decode cX4_tick 63 = .ok (.iload_n 2, 1) := by decide +kernel
theorem dX4_tick_64 : decode cX4_tick 64 = .ok (.ireturn, 1) := by decide +kernel
theorem dX4_weight_0 : decode cX4_weight 0 = .ok (.iload_n 1, 1) := by decide +kernel
theorem dX4_weight_1 : decode cX4_weight 1 = .ok (.invokestatic 157, 3) := by decide +kernel
theorem dX4_weight_4 : decode cX4_weight 4 = .ok (.ifCond .ne 6, 3) := by decide +kernel
theorem dX4_weight_7 : decode cX4_weight 7 = .ok (.bipush (-101), 2) := by decide +kernel
theorem dX4_weight_9 : decode cX4_weight 9 = .ok (.ireturn, 1) := by decide +kernel
theorem dX4_weight_10 : decode cX4_weight 10 = .ok (.iload_n 2, 1) := by decide +kernel
theorem dX4_weight_11 : decode cX4_weight 11 = .ok (.iconst 0, 1) := by decide +kernel
theorem dX4_weight_12 : decode cX4_weight 12 = .ok (.sipush 1000, 3) := by decide +kernel
theorem dX4_weight_15 : decode cX4_weight 15 = .ok (.invokestatic 37, 3) := by decide +kernel
theorem dX4_weight_18 : decode cX4_weight 18 = .ok (.ifCond .ne 6, 3) := by decide +kernel
theorem dX4_weight_21 : decode cX4_weight 21 = .ok (.bipush (-102), 2) := by decide +kernel
theorem dX4_weight_23 : decode cX4_weight 23 = .ok (.ireturn, 1) := by decide +kernel
theorem dX4_weight_24 : decode cX4_weight 24 = .ok (.aload_n 0, 1) := by decide +kernel
theorem dX4_weight_25 : decode cX4_weight 25 = .ok (.getfield 19, 3) := by decide +kernel
theorem dX4_weight_28 : decode cX4_weight 28 = .ok (.getfield 160, 3) := by decide +kernel
theorem dX4_weight_31 : decode cX4_weight 31 = .ok (.iload_n 1, 1) := by decide +kernel
theorem dX4_weight_32 : decode cX4_weight 32 = .ok (.iaload, 1) := by decide +kernel
theorem dX4_weight_33 : decode cX4_weight 33 = .ok (.istore_n 3, 1) := by decide +kernel
theorem dX4_weight_34 : decode cX4_weight 34 = .ok (.aload_n 0, 1) := by decide +kernel
theorem dX4_weight_35 : decode cX4_weight 35 = .ok (.getfield 19, 3) := by decide +kernel
theorem dX4_weight_38 : decode cX4_weight 38 = .ok (.getfield 160, 3) := by decide +kernel
theorem dX4_weight_41 : decode cX4_weight 41 = .ok (.iload_n 1, 1) := by decide +kernel
theorem dX4_weight_42 : decode cX4_weight 42 = .ok (.iload_n 2, 1) := by decide +kernel
theorem dX4_weight_43 : decode cX4_weight 43 = .ok (.iastore, 1) := by decide +kernel
theorem dX4_weight_44 : decode cX4_weight 44 = .ok (.iload_n 3, 1) := by decide +kernel
theorem dX4_weight_45 : decode cX4_weight 45 = .ok (.ireturn, 1) := by decide +kernel
theorem dX4_coins_0 : decode cX4_coins 0 = .ok (.iload_n 1, 1) := by decide +kernel
theorem dX4_coins_1 : decode cX4_coins 1 = .ok (.lookupswitch 71 #[(0, 27), (1, 49)], 27) := by decide +kernel
theorem dX4_coins_28 : decode cX4_coins 28 = .ok (.iload_n 2, 1) := by decide +kernel
theorem dX4_coins_29 : decode cX4_coins 29 = .ok (.invokestatic 73, 3) := by decide +kernel
theorem dX4_coins_32 : decode cX4_coins 32 = .ok (.ifCond .eq 15, 3) := by decide +kernel
theorem dX4_coins_35 : decode cX4_coins 35 = .ok (.aload_n 0, 1) := by decide +kernel
theorem dX4_coins_36 : decode cX4_coins 36 = .ok (.getfield 19, 3) := by decide +kernel
theorem dX4_coins_39 : decode cX4_coins 39 = .ok (.getfield 163, 3) := by decide +kernel
theorem dX4_coins_42 : decode cX4_coins 42 = .ok (.iload_n 2, 1) := by decide +kernel
theorem dX4_coins_43 : decode cX4_coins 43 = .ok (.iaload, 1) := by decide +kernel
theorem dX4_coins_44 : decode cX4_coins 44 = .ok (.goto 5, 3) := by decide +kernel
theorem dX4_coins_47 : decode cX4_coins 47 = .ok (.bipush (-101), 2) := by decide +kernel
theorem dX4_coins_49 : decode cX4_coins 49 = .ok (.ireturn, 1) := by decide +kernel
theorem dX4_coins_50 : decode cX4_coins 50 = .ok (.iload_n 2, 1) := by decide +kernel
theorem dX4_coins_51 : decode cX4_coins 51 = .ok (.invokestatic 157, 3) := by decide +kernel
theorem dX4_coins_54 : decode cX4_coins 54 = .ok (.ifCond .eq 15, 3) := by decide +kernel
theorem dX4_coins_57 : decode cX4_coins 57 = .ok (.aload_n 0, 1) := by decide +kernel
theorem dX4_coins_58 : decode cX4_coins 58 = .ok (.getfield 19, 3) := by decide +kernel
theorem dX4_coins_61 : decode cX4_coins 61 = .ok (.getfield 166, 3) := by decide +kernel
theorem dX4_coins_64 : decode cX4_coins 64 = .ok (.iload_n 2, 1) := by decide +kernel
theorem dX4_coins_65 : decode cX4_coins 65 = .ok (.iaload, 1) := by decide +kernel
theorem dX4_coins_66 : decode cX4_coins 66 = .ok (.goto 5, 3) := by decide +kernel
theorem dX4_coins_69 : decode cX4_coins 69 = .ok (.bipush (-101), 2) := by decide +kernel
theorem dX4_coins_71 : decode cX4_coins 71 = .ok (.ireturn, 1) := by decide +kernel
theorem dX4_coins_72 : decode cX4_coins 72 = .ok (.bipush (-102), 2) := by decide +kernel
theorem dX4_coins_74 : decode cX4_coins 74 = .ok (.ireturn, 1) := by decide +kernel
theorem dX4_object_0 : decode cX4_object 0 = .ok (.aload_n 0, 1) := by decide +kernel
theorem dX4_object_1 : decode cX4_object 1 = .ok (.iload_n 1, 1) := by decide +kernel
theorem dX4_object_2 : decode cX4_object 2 = .ok (.invokevirtual 116, 3) := by decide +kernel
theorem dX4_object_5 : decode cX4_object 5 = .ok (.astore_n 3, 1) := by decide +kernel
theorem dX4_object_6 : decode cX4_object 6 = .ok (.aload_n 3, 1) := by decide +kernel
theorem dX4_object_7 : decode cX4_object 7 = .ok (.ifnonnull 6, 3) := by decide +kernel
theorem dX4_object_10 : decode cX4_object 10 = .ok (.bipush (-101), 2) := by decide +kernel
theorem dX4_object_12 : decode cX4_object 12 = .ok (.ireturn, 1) := by decide +kernel
theorem dX4_object_13 : decode cX4_object 13 = .ok (.iload_n 2, 1) := by decide +kernel
theorem dX4_object_14 : decode cX4_object 14 = .ok (.tableswitch 99 0 6 #[42, 47, 52, 57, 62, 70, 78], 42) := by decide +kernel
theorem dX4_object_56 : decode cX4_object 56 = .ok (.aload_n 3, 1) := by decide +kernel
theorem dX4_object_57 : decode cX4_object 57 = .ok (.getfield 126, 3) := by decide +kernel
theorem dX4_object_60 : decode cX4_object 60 = .ok (.ireturn, 1) := by decide +kernel
theorem dX4_object_61 : decode cX4_object 61 = .ok (.aload_n 3, 1) := by decide +kernel
theorem dX4_object_62 : decode cX4_object 62 = .ok (.invokevirtual 120, 3) := by decide +kernel
theorem dX4_object_65 : decode cX4_object 65 = .ok (.ireturn, 1) := by decide +kernel
theorem dX4_object_66 : decode cX4_object 66 = .ok (.aload_n 3, 1) := by decide +kernel
theorem dX4_object_67 : decode cX4_object 67 = .ok (.getfield 132, 3) := by decide +kernel
theorem dX4_object_70 : decode cX4_object 70 = .ok (.ireturn, 1) := by decide +kernel
theorem dX4_object_71 : decode cX4_object 71 = .ok (.aload_n 3, 1) := by decide +kernel
theorem dX4_object_72 : decode cX4_object 72 = .ok (.getfield 123, 3) := by decide +kernel
theorem dX4_object_75 : decode cX4_object 75 = .ok (.ireturn, 1) := by decide +kernel
theorem dX4_object_76 : decode cX4_object 76 = .ok (.aload_n 3, 1) := by decide +kernel
theorem dX4_object_77 : decode cX4_object 77 = .ok (.getfield 107, 3) := by decide +kernel
theorem dX4_object_80 : decode cX4_object 80 = .ok (.getfield 169, 3) := by decide +kernel
theorem dX4_object_83 : decode cX4_object 83 = .ok (.ireturn, 1) := by decide +kernel
theorem dX4_object_84 : decode cX4_object 84 = .ok (.aload_n 3, 1) := by decide +kernel
theorem dX4_object_85 : decode cX4_object 85 = .ok (.getfield 107, 3) := by decide +kernel
theorem dX4_object_88 : decode cX4_object 88 = .ok (.invokevirtual 170, 3) := by decide +kernel
theorem dX4_object_91 : decode cX4_object 91 = .ok (.ireturn, 1) := by decide +kernel
theorem dX4_object_92 : decode cX4_object 92 = .ok (.aload_n 3, 1) := by decide +kernel
theorem dX4_object_93 : decode cX4_object 93 = .ok (.getfield 123, 3) := by decide +kernel
theorem dX4_object_96 : decode cX4_object 96 = .ok (.iconst 2, 1) := by decide +kernel
theorem dX4_object_97 : decode cX4_object 97 = .ok (.if_icmp .ne 7, 3) := by decide +kernel
theorem dX4_object_100 : decode cX4_object 100 = .ok (.iconst 0, 1) := by decide +kernel
theorem dX4_object_101 : decode cX4_object 101 = .ok (.goto 11, 3) := by decide +kernel
theorem dX4_object_104 : decode cX4_object 104 = .ok (.aload_n 0, 1) := by decide +kernel
theorem dX4_object_105 : decode cX4_object 105 = .ok (.aload_n 3, 1) := by decide +kernel
theorem dX4_object_106 : decode cX4_object 106 = .ok (.getfield 129, 3) := by decide +kernel
theorem dX4_object_109 : decode cX4_object 109 = .ok (.invokevirtual 81, 3) := by decide +kernel
theorem dX4_object_112 : decode cX4_object 112 = .ok (.ireturn, 1) := by decide +kernel
theorem dX4_object_113 : decode cX4_object 113 = .ok (.bipush (-102), 2) := by decide +kernel
theorem dX4_object_115 : decode cX4_object 115 = .ok (.ireturn, 1) := by decide +kernel
theorem dX4_layer_0 : decode cX4_layer 0 = .ok (.aload_n 0, 1) := by decide +kernel
theorem dX4_layer_1 : decode cX4_layer 1 = .ok (.iload_n 1, 1) := by decide +kernel
theorem dX4_layer_2 : decode cX4_layer 2 = .ok (.invokevirtual 116, 3) := by decide +kernel
theorem dX4_layer_5 : decode cX4_layer 5 = .ok (.astore 4, 2) := by decide +kernel
theorem dX4_layer_7 : decode cX4_layer 7 = .ok (.aload 4, 2) := by decide +kernel
theorem dX4_layer_9 : decode cX4_layer 9 = .ok (.ifnonnull 6, 3) := by decide +kernel
theorem dX4_layer_12 : decode cX4_layer 12 = .ok (.bipush (-101), 2) := by decide +kernel
theorem dX4_layer_14 : decode cX4_layer 14 = .ok (.ireturn, 1) := by decide +kernel
theorem dX4_layer_15 : decode cX4_layer 15 = .ok (.iload_n 3, 1) := by decide +kernel
theorem dX4_layer_16 : decode cX4_layer 16 = .ok (.iconst 0, 1) := by decide +kernel
theorem dX4_layer_17 : decode cX4_layer 17 = .ok (.iconst 2, 1) := by decide +kernel
theorem dX4_layer_18 : decode cX4_layer 18 = .ok (.invokestatic 37, 3) := by decide +kernel
theorem dX4_layer_21 : decode cX4_layer 21 = .ok (.ifCond .ne 6, 3) := by decide +kernel
theorem dX4_layer_24 : decode cX4_layer 24 = .ok (.bipush (-102), 2) := by decide +kernel
theorem dX4_layer_26 : decode cX4_layer 26 = .ok (.ireturn, 1) := by decide +kernel
theorem dX4_layer_27 : decode cX4_layer 27 = .ok (.aload 4, 2) := by decide +kernel
theorem dX4_layer_29 : decode cX4_layer 29 = .ok (.getfield 107, 3) := by decide +kernel
theorem dX4_layer_32 : decode cX4_layer 32 = .ok (.iload_n 2, 1) := by decide +kernel
theorem dX4_layer_33 : decode cX4_layer 33 = .ok (.invokevirtual 173, 3) := by decide +kernel
theorem dX4_layer_36 : decode cX4_layer 36 = .ok (.ifCond .ne 6, 3) := by decide +kernel
theorem dX4_layer_39 : decode cX4_layer 39 = .ok (.bipush (-109), 2) := by decide +kernel
theorem dX4_layer_41 : decode cX4_layer 41 = .ok (.ireturn, 1) := by decide +kernel
theorem dX4_layer_42 : decode cX4_layer 42 = .ok (.iload_n 3, 1) := by decide +kernel
theorem dX4_layer_43 : decode cX4_layer 43 = .ok (.lookupswitch 47 #[(0, 25), (1, 36)], 25) := by decide +kernel
theorem dX4_layer_68 : decode cX4_layer 68 = .ok (.aload 4, 2) := by decide +kernel
theorem dX4_layer_70 : decode cX4_layer 70 = .ok (.getfield 107, 3) := by decide +kernel
theorem dX4_layer_73 : decode cX4_layer 73 = .ok (.getfield 176, 3) := by decide +kernel
theorem dX4_layer_76 : decode cX4_layer 76 = .ok (.iload_n 2, 1) := by decide +kernel
theorem dX4_layer_77 : decode cX4_layer 77 = .ok (.iaload, 1) := by decide +kernel
theorem dX4_layer_78 : decode cX4_layer 78 = .ok (.ireturn, 1) := by decide +kernel
theorem dX4_layer_79 : decode cX4_layer 79 = .ok (.aload 4, 2) := by decide +kernel
theorem dX4_layer_81 : decode cX4_layer 81 = .ok (.getfield 107, 3) := by decide +kernel
theorem dX4_layer_84 : decode cX4_layer 84 = .ok (.getfield 179, 3) := by decide +kernel
theorem dX4_layer_87 : decode cX4_layer 87 = .ok (.iload_n 2, 1) := by decide +kernel
theorem dX4_layer_88 : decode cX4_layer 88 = .ok (.iaload, 1) := by decide +kernel
theorem dX4_layer_89 : decode cX4_layer 89 = .ok (.ireturn, 1) := by decide +kernel
theorem dX4_layer_90 : decode cX4_layer 90 = .ok (.aload 4, 2) := by decide +kernel
theorem dX4_layer_92 : decode cX4_layer 92 = .ok (.getfield 107, 3) := by decide +kernel
theorem dX4_layer_95 : decode cX4_layer 95 = .ok (.getfield 182, 3) := by decide +kernel
theorem dX4_layer_98 : decode cX4_layer 98 = .ok (.iload_n 2, 1) := by decide +kernel
theorem dX4_layer_99 : decode cX4_layer 99 = .ok (.iaload, 1) := by decide +kernel
theorem dX4_layer_100 : decode cX4_layer 100 = .ok (.ireturn, 1) := by decide +kernel
theorem dX4_word_0 : decode cX4_word 0 = .ok (.aload_n 0, 1) := by decide +kernel
theorem dX4_word_1 : decode cX4_word 1 = .ok (.iload_n 1, 1) := by decide +kernel
theorem dX4_word_2 : decode cX4_word 2 = .ok (.invokevirtual 116, 3) := by decide +kernel
theorem dX4_word_5 : decode cX4_word 5 = .ok (.astore_n 3, 1) := by decide +kernel
theorem dX4_word_6 : decode cX4_word 6 = .ok (.aload_n 3, 1) := by decide +kernel
theorem dX4_word_7 : decode cX4_word 7 = .ok (.ifnonnull 6, 3) := by decide +kernel
theorem dX4_word_10 : decode cX4_word 10 = .ok (.bipush (-101), 2) := by decide +kernel
theorem dX4_word_12 : decode cX4_word 12 = .ok (.ireturn, 1) := by decide +kernel
theorem dX4_word_13 : decode cX4_word 13 = .ok (.iload_n 2, 1) := by decide +kernel
theorem dX4_word_14 : decode cX4_word 14 = .ok (.iconst 0, 1) := by decide +kernel
theorem dX4_word_15 : decode cX4_word 15 = .ok (.iconst 3, 1) := by decide +kernel
theorem dX4_word_16 : decode cX4_word 16 = .ok (.invokestatic 37, 3) := by decide +kernel
theorem dX4_word_19 : decode cX4_word 19 = .ok (.ifCond .ne 6, 3) := by decide +kernel
theorem dX4_word_22 : decode cX4_word 22 = .ok (.bipush (-102), 2) := by decide +kernel
theorem dX4_word_24 : decode cX4_word 24 = .ok (.ireturn, 1) := by decide +kernel
theorem dX4_word_25 : decode cX4_word 25 = .ok (.aload_n 3, 1) := by decide +kernel
theorem dX4_word_26 : decode cX4_word 26 = .ok (.getfield 123, 3) := by decide +kernel
theorem dX4_word_29 : decode cX4_word 29 = .ok (.ifCond .ne 12, 3) := by decide +kernel
theorem dX4_word_32 : decode cX4_word 32 = .ok (.aload_n 3, 1) := by decide +kernel
theorem dX4_word_33 : decode cX4_word 33 = .ok (.getfield 145, 3) := by decide +kernel
theorem dX4_word_36 : decode cX4_word 36 = .ok (.iload_n 2, 1) := by decide +kernel
theorem dX4_word_37 : decode cX4_word 37 = .ok (.iaload, 1) := by decide +kernel
theorem dX4_word_38 : decode cX4_word 38 = .ok (.goto 5, 3) := by decide +kernel
theorem dX4_word_41 : decode cX4_word 41 = .ok (.bipush (-103), 2) := by decide +kernel
theorem dX4_word_43 : decode cX4_word 43 = .ok (.ireturn, 1) := by decide +kernel
theorem dX4_wouldGive_0 : decode cX4_wouldGive 0 = .ok (.aload_n 0, 1) := by decide +kernel
theorem dX4_wouldGive_1 : decode cX4_wouldGive 1 = .ok (.iload_n 1, 1) := by decide +kernel
theorem dX4_wouldGive_2 : decode cX4_wouldGive 2 = .ok (.invokevirtual 116, 3) := by decide +kernel
theorem dX4_wouldGive_5 : decode cX4_wouldGive 5 = .ok (.astore 4, 2) := by decide +kernel
theorem dX4_wouldGive_7 : decode cX4_wouldGive 7 = .ok (.aload 4, 2) := by decide +kernel
theorem dX4_wouldGive_9 : decode cX4_wouldGive 9 = .ok (.ifnull 10, 3) := by decide +kernel
theorem dX4_wouldGive_12 : decode cX4_wouldGive 12 = .ok (.iload_n 3, 1) := by decide +kernel
theorem dX4_wouldGive_13 : decode cX4_wouldGive 13 = .ok (.invokestatic 73, 3) := by decide +kernel
theorem dX4_wouldGive_16 : decode cX4_wouldGive 16 = .ok (.ifCond .ne 6, 3) := by decide +kernel
theorem dX4_wouldGive_19 : decode cX4_wouldGive 19 = .ok (.bipush (-101), 2) := by decide +kernel
theorem dX4_wouldGive_21 : decode cX4_wouldGive 21 = .ok (.ireturn, 1) := by decide +kernel
theorem dX4_wouldGive_22 : decode cX4_wouldGive 22 = .ok (.aload 4, 2) := by decide +kernel
theorem dX4_wouldGive_24 : decode cX4_wouldGive 24 = .ok (.iload_n 2, 1) := by decide +kernel
theorem dX4_wouldGive_25 : decode cX4_wouldGive 25 = .ok (.invokestatic 138, 3) := by decide +kernel
theorem dX4_wouldGive_28 : decode cX4_wouldGive 28 = .ok (.istore 5, 2) := by decide +kernel
theorem dX4_wouldGive_30 : decode cX4_wouldGive 30 = .ok (.iload 5, 2) := by decide +kernel
theorem dX4_wouldGive_32 : decode cX4_wouldGive 32 = .ok (.ifCond .eq 8, 3) := by decide +kernel
theorem dX4_wouldGive_35 : decode cX4_wouldGive 35 = .ok (.iload 5, 2) := by decide +kernel
theorem dX4_wouldGive_37 : decode cX4_wouldGive 37 = .ok (.goto 13, 3) := by decide +kernel
theorem dX4_wouldGive_40 : decode cX4_wouldGive 40 = .ok (.aload 4, 2) := by decide +kernel
theorem dX4_wouldGive_42 : decode cX4_wouldGive 42 = .ok (.getfield 107, 3) := by decide +kernel
theorem dX4_wouldGive_45 : decode cX4_wouldGive 45 = .ok (.iload_n 3, 1) := by decide +kernel
theorem dX4_wouldGive_46 : decode cX4_wouldGive 46 = .ok (.iload_n 2, 1) := by decide +kernel
theorem dX4_wouldGive_47 : decode cX4_wouldGive 47 = .ok (.invokevirtual 185, 3) := by decide +kernel
theorem dX4_wouldGive_50 : decode cX4_wouldGive 50 = .ok (.ireturn, 1) := by decide +kernel
theorem dX4_exact_0 : decode cX4_exact 0 = .ok (.lload_n 1, 1) := by decide +kernel
theorem dX4_exact_1 : decode cX4_exact 1 = .ok (.lconst 0, 1) := by decide +kernel
theorem dX4_exact_2 : decode cX4_exact 2 = .ok (.lcmp, 1) := by decide +kernel
theorem dX4_exact_3 : decode cX4_exact 3 = .ok (.ifCond .eq 9, 3) := by decide +kernel
theorem dX4_exact_6 : decode cX4_exact 6 = .ok (.lload_n 3, 1) := by decide +kernel
theorem dX4_exact_7 : decode cX4_exact 7 = .ok (.lconst 0, 1) := by decide +kernel
theorem dX4_exact_8 : decode cX4_exact 8 = .ok (.lcmp, 1) := by decide +kernel
theorem dX4_exact_9 : decode cX4_exact 9 = .ok (.ifCond .ne 5, 3) := by decide +kernel
theorem dX4_exact_12 : decode cX4_exact 12 = .ok (.lconst 0, 1) := by decide +kernel
theorem dX4_exact_13 : decode cX4_exact 13 = .ok (.lreturn, 1) := by decide +kernel
theorem dX4_exact_14 : decode cX4_exact 14 = .ok (.lload_n 1, 1) := by decide +kernel
theorem dX4_exact_15 : decode cX4_exact 15 = .ok (.ldc2_w 191, 3) := by decide +kernel
theorem dX4_exact_18 : decode cX4_exact 18 = .ok (.lcmp, 1) := by decide +kernel
theorem dX4_exact_19 : decode cX4_exact 19 = .ok (.ifCond .ne 15, 3) := by decide +kernel
theorem dX4_exact_22 : decode cX4_exact 22 = .ok (.lload_n 3, 1) := by decide +kernel
theorem dX4_exact_23 : decode cX4_exact 23 = .ok (.ldc2_w 193, 3) := by decide +kernel
theorem dX4_exact_26 : decode cX4_exact 26 = .ok (.lcmp, 1) := by decide +kernel
theorem dX4_exact_27 : decode cX4_exact 27 = .ok (.ifCond .ne 7, 3) := by decide +kernel
theorem dX4_exact_30 : decode cX4_exact 30 = .ok (.iconst 1, 1) := by decide +kernel
theorem dX4_exact_31 : decode cX4_exact 31 = .ok (.goto 4, 3) := by decide +kernel
theorem dX4_exact_34 : decode cX4_exact 34 = .ok (.iconst 0, 1) := by decide +kernel
theorem dX4_exact_35 : decode cX4_exact 35 = .ok (.istore 5, 2) := by decide +kernel
theorem dX4_exact_37 : decode cX4_exact 37 = .ok (.lload_n 1, 1) := by decide +kernel
theorem dX4_exact_38 : decode cX4_exact 38 = .ok (.lload_n 3, 1) := by decide +kernel
theorem dX4_exact_39 : decode cX4_exact 39 = .ok (.lmul, 1) := by decide +kernel
theorem dX4_exact_40 : decode cX4_exact 40 = .ok (.lstore 6, 2) := by decide +kernel
theorem dX4_exact_42 : decode cX4_exact 42 = .ok (.iload 5, 2) := by decide +kernel
theorem dX4_exact_44 : decode cX4_exact 44 = .ok (.ifCond .ne 12, 3) := by decide +kernel
theorem dX4_exact_47 : decode cX4_exact 47 = .ok (.lload 6, 2) := by decide +kernel
theorem dX4_exact_49 : decode cX4_exact 49 = .ok (.lload_n 3, 1) := by decide +kernel
theorem dX4_exact_50 : decode cX4_exact 50 = .ok (.ldiv, 1) := by decide +kernel
theorem dX4_exact_51 : decode cX4_exact 51 = .ok (.lload_n 1, 1) := by decide +kernel
theorem dX4_exact_52 : decode cX4_exact 52 = .ok (.lcmp, 1) := by decide +kernel
theorem dX4_exact_53 : decode cX4_exact 53 = .ok (.ifCond .eq 13, 3) := by decide +kernel
theorem dX4_exact_56 : decode cX4_exact 56 = .ok (.new 195, 3) := by decide +kernel
theorem dX4_exact_59 : decode cX4_exact 59 = .ok (.dup, 1) := by decide +kernel
theorem dX4_exact_60 : decode cX4_exact 60 = .ok (.ldc 197, 2) := by decide +kernel
theorem dX4_exact_62 : decode cX4_exact 62 = .ok (.invokespecial 199, 3) := by decide +kernel
theorem dX4_exact_65 : decode cX4_exact 65 = .ok (.athrow, 1) := by decide +kernel
theorem dX4_exact_66 : decode cX4_exact 66 = .ok (.lload 6, 2) := by decide +kernel
theorem dX4_exact_68 : decode cX4_exact 68 = .ok (.lreturn, 1) := by decide +kernel
theorem dX4_told_0 : decode cX4_told 0 = .ok (.iload_n 1, 1) := by decide +kernel
theorem dX4_told_1 : decode cX4_told 1 = .ok (.tableswitch 123 0 9 #[55, 60, 65, 71, 77, 83, 91, 99, 107, 115], 55) := by decide +kernel
theorem dX4_told_56 : decode cX4_told 56 = .ok (.aload_n 0, 1) := by decide +kernel
theorem dX4_told_57 : decode cX4_told 57 = .ok (.getfield 41, 3) := by decide +kernel
theorem dX4_told_60 : decode cX4_told 60 = .ok (.ireturn, 1) := by decide +kernel
theorem dX4_told_61 : decode cX4_told 61 = .ok (.aload_n 0, 1) := by decide +kernel
theorem dX4_told_62 : decode cX4_told 62 = .ok (.getfield 92, 3) := by decide +kernel
theorem dX4_told_65 : decode cX4_told 65 = .ok (.ireturn, 1) := by decide +kernel
theorem dX4_told_66 : decode cX4_told 66 = .ok (.aload_n 0, 1) := by decide +kernel
theorem dX4_told_67 : decode cX4_told 67 = .ok (.iconst 0, 1) := by decide +kernel
theorem dX4_told_68 : decode cX4_told 68 = .ok (.invokevirtual 202, 3) := by decide +kernel
theorem dX4_told_71 : decode cX4_told 71 = .ok (.ireturn, 1) := by decide +kernel
theorem dX4_told_72 : decode cX4_told 72 = .ok (.aload_n 0, 1) := by decide +kernel
theorem dX4_told_73 : decode cX4_told 73 = .ok (.iconst 1, 1) := by decide +kernel
theorem dX4_told_74 : decode cX4_told 74 = .ok (.invokevirtual 202, 3) := by decide +kernel
theorem dX4_told_77 : decode cX4_told 77 = .ok (.ireturn, 1) := by decide +kernel
theorem dX4_told_78 : decode cX4_told 78 = .ok (.aload_n 0, 1) := by decide +kernel
theorem dX4_told_79 : decode cX4_told 79 = .ok (.iconst (-1), 1) := by decide +kernel
theorem dX4_told_80 : decode cX4_told 80 = .ok (.invokevirtual 205, 3) := by decide +kernel
theorem dX4_told_83 : decode cX4_told 83 = .ok (.ireturn, 1) := by decide +kernel
theorem dX4_told_84 : decode cX4_told 84 = .ok (.aload_n 0, 1) := by decide +kernel
theorem dX4_told_85 : decode cX4_told 85 = .ok (.getfield 19, 3) := by decide +kernel
theorem dX4_told_88 : decode cX4_told 88 = .ok (.getfield 208, 3) := by decide +kernel
theorem dX4_told_91 : decode cX4_told 91 = .ok (.ireturn, 1) := by decide +kernel
theorem dX4_told_92 : decode cX4_told 92 = .ok (.aload_n 0, 1) := by decide +kernel
theorem dX4_told_93 : decode cX4_told 93 = .ok (.getfield 19, 3) := by decide +kernel
theorem dX4_told_96 : decode cX4_told 96 = .ok (.getfield 211, 3) := by decide +kernel
theorem dX4_told_99 : decode cX4_told 99 = .ok (.ireturn, 1) := by decide +kernel
theorem dX4_told_100 : decode cX4_told 100 = .ok (.aload_n 0, 1) := by decide +kernel
theorem dX4_told_101 : decode cX4_told 101 = .ok (.getfield 19, 3) := by decide +kernel
theorem dX4_told_104 : decode cX4_told 104 = .ok (.invokevirtual 214, 3) := by decide +kernel
theorem dX4_told_107 : decode cX4_told 107 = .ok (.ireturn, 1) := by decide +kernel
theorem dX4_told_108 : decode cX4_told 108 = .ok (.aload_n 0, 1) := by decide +kernel
theorem dX4_told_109 : decode cX4_told 109 = .ok (.getfield 10, 3) := by decide +kernel
theorem dX4_told_112 : decode cX4_told 112 = .ok (.getfield 57, 3) := by decide +kernel
theorem dX4_told_115 : decode cX4_told 115 = .ok (.ireturn, 1) := by decide +kernel
theorem dX4_told_116 : decode cX4_told 116 = .ok (.aload_n 0, 1) := by decide +kernel
theorem dX4_told_117 : decode cX4_told 117 = .ok (.getfield 19, 3) := by decide +kernel
theorem dX4_told_120 : decode cX4_told 120 = .ok (.getfield 217, 3) := by decide +kernel
theorem dX4_told_123 : decode cX4_told 123 = .ok (.ireturn, 1) := by decide +kernel
theorem dX4_told_124 : decode cX4_told 124 = .ok (.bipush (-102), 2) := by decide +kernel
theorem dX4_told_126 : decode cX4_told 126 = .ok (.ireturn, 1) := by decide +kernel
theorem dX4_clear_0 : decode cX4_clear 0 = .ok (.aload_n 0, 1) := by decide +kernel
theorem dX4_clear_1 : decode cX4_clear 1 = .ok (.getfield 92, 3) := by decide +kernel
theorem dX4_clear_4 : decode cX4_clear 4 = .ok (.istore_n 1, 1) := by decide +kernel
theorem dX4_clear_5 : decode cX4_clear 5 = .ok (.aload_n 0, 1) := by decide +kernel
theorem dX4_clear_6 : decode cX4_clear 6 = .ok (.invokevirtual 33, 3) := by decide +kernel
theorem dX4_clear_9 : decode cX4_clear 9 = .ok (.iload_n 1, 1) := by decide +kernel
theorem dX4_clear_10 : decode cX4_clear 10 = .ok (.ireturn, 1) := by decide +kernel
theorem dX4_beginAnew_0 : decode cX4_beginAnew 0 = .ok (.aload_n 0, 1) := by decide +kernel
theorem dX4_beginAnew_1 : decode cX4_beginAnew 1 = .ok (.getfield 10, 3) := by decide +kernel
theorem dX4_beginAnew_4 : decode cX4_beginAnew 4 = .ok (.invokevirtual 220, 3) := by decide +kernel
theorem dX4_beginAnew_7 : decode cX4_beginAnew 7 = .ok (.aload_n 0, 1) := by decide +kernel
theorem dX4_beginAnew_8 : decode cX4_beginAnew 8 = .ok (.getfield 19, 3) := by decide +kernel
theorem dX4_beginAnew_11 : decode cX4_beginAnew 11 = .ok (.invokevirtual 223, 3) := by decide +kernel
theorem dX4_beginAnew_14 : decode cX4_beginAnew 14 = .ok (.aload_n 0, 1) := by decide +kernel
theorem dX4_beginAnew_15 : decode cX4_beginAnew 15 = .ok (.getfield 23, 3) := by decide +kernel
theorem dX4_beginAnew_18 : decode cX4_beginAnew 18 = .ok (.sipush 1000, 3) := by decide +kernel
theorem dX4_beginAnew_21 : decode cX4_beginAnew 21 = .ok (.invokestatic 224, 3) := by decide +kernel
theorem dX4_beginAnew_24 : decode cX4_beginAnew 24 = .ok (.aload_n 0, 1) := by decide +kernel
theorem dX4_beginAnew_25 : decode cX4_beginAnew 25 = .ok (.iconst 0, 1) := by decide +kernel
theorem dX4_beginAnew_26 : decode cX4_beginAnew 26 = .ok (.putfield 92, 3) := by decide +kernel
theorem dX4_beginAnew_29 : decode cX4_beginAnew 29 = .ok (.aload_n 0, 1) := by decide +kernel
theorem dX4_beginAnew_30 : decode cX4_beginAnew 30 = .ok (.iconst 0, 1) := by decide +kernel
theorem dX4_beginAnew_31 : decode cX4_beginAnew 31 = .ok (.putfield 41, 3) := by decide +kernel
theorem dX4_beginAnew_34 : decode cX4_beginAnew 34 = .ok (.return_, 1) := by decide +kernel
theorem dX4_within_0 : decode cX4_within 0 = .ok (.iload_n 0, 1) := by decide +kernel
theorem dX4_within_1 : decode cX4_within 1 = .ok (.iload_n 1, 1) := by decide +kernel
theorem dX4_within_2 : decode cX4_within 2 = .ok (.if_icmp .lt 12, 3) := by decide +kernel
theorem dX4_within_5 : decode cX4_within 5 = .ok (.iload_n 0, 1) := by decide +kernel
theorem dX4_within_6 : decode cX4_within 6 = .ok (.iload_n 2, 1) := by decide +kernel
theorem dX4_within_7 : decode cX4_within 7 = .ok (.if_icmp .gt 7, 3) := by decide +kernel
theorem dX4_within_10 : decode cX4_within 10 = .ok (.iconst 1, 1) := by decide +kernel
theorem dX4_within_11 : decode cX4_within 11 = .ok (.goto 4, 3) := by decide +kernel
theorem dX4_within_14 : decode cX4_within 14 = .ok (.iconst 0, 1) := by decide +kernel
theorem dX4_within_15 : decode cX4_within 15 = .ok (.ireturn, 1) := by decide +kernel
theorem dX4_isAccount_0 : decode cX4_isAccount 0 = .ok (.iload_n 0, 1) := by decide +kernel
theorem dX4_isAccount_1 : decode cX4_isAccount 1 = .ok (.iconst 0, 1) := by decide +kernel
theorem dX4_isAccount_2 : decode cX4_isAccount 2 = .ok (.iconst 5, 1) := by decide +kernel
theorem dX4_isAccount_3 : decode cX4_isAccount 3 = .ok (.invokestatic 37, 3) := by decide +kernel
theorem dX4_isAccount_6 : decode cX4_isAccount 6 = .ok (.ireturn, 1) := by decide +kernel
theorem dX4_isNode_0 : decode cX4_isNode 0 = .ok (.iload_n 0, 1) := by decide +kernel
theorem dX4_isNode_1 : decode cX4_isNode 1 = .ok (.iconst 0, 1) := by decide +kernel
theorem dX4_isNode_2 : decode cX4_isNode 2 = .ok (.iconst 4, 1) := by decide +kernel
theorem dX4_isNode_3 : decode cX4_isNode 3 = .ok (.invokestatic 37, 3) := by decide +kernel
theorem dX4_isNode_6 : decode cX4_isNode 6 = .ok (.ireturn, 1) := by decide +kernel
theorem dX4_find_0 : decode cX4_find 0 = .ok (.iload_n 1, 1) := by decide +kernel
theorem dX4_find_1 : decode cX4_find 1 = .ok (.iconst 0, 1) := by decide +kernel
theorem dX4_find_2 : decode cX4_find 2 = .ok (.aload_n 0, 1) := by decide +kernel
theorem dX4_find_3 : decode cX4_find 3 = .ok (.getfield 92, 3) := by decide +kernel
theorem dX4_find_6 : decode cX4_find 6 = .ok (.iconst 1, 1) := by decide +kernel
theorem dX4_find_7 : decode cX4_find 7 = .ok (.isub, 1) := by decide +kernel
theorem dX4_find_8 : decode cX4_find 8 = .ok (.invokestatic 37, 3) := by decide +kernel
theorem dX4_find_11 : decode cX4_find 11 = .ok (.ifCond .eq 12, 3) := by decide +kernel
theorem dX4_find_14 : decode cX4_find 14 = .ok (.aload_n 0, 1) := by decide +kernel
theorem dX4_find_15 : decode cX4_find 15 = .ok (.getfield 29, 3) := by decide +kernel
theorem dX4_find_18 : decode cX4_find 18 = .ok (.iload_n 1, 1) := by decide +kernel
theorem dX4_find_19 : decode cX4_find 19 = .ok (.aaload, 1) := by decide +kernel
theorem dX4_find_20 : decode cX4_find 20 = .ok (.goto 4, 3) := by decide +kernel
theorem dX4_find_23 : decode cX4_find 23 = .ok (.aconst_null, 1) := by decide +kernel
theorem dX4_find_24 : decode cX4_find 24 = .ok (.areturn, 1) := by decide +kernel
theorem dX4_freshItem_0 : decode cX4_freshItem 0 = .ok (.aload_n 0, 1) := by decide +kernel
theorem dX4_freshItem_1 : decode cX4_freshItem 1 = .ok (.getfield 29, 3) := by decide +kernel
theorem dX4_freshItem_4 : decode cX4_freshItem 4 = .ok (.aload_n 0, 1) := by decide +kernel
theorem dX4_freshItem_5 : decode cX4_freshItem 5 = .ok (.getfield 92, 3) := by decide +kernel
theorem dX4_freshItem_8 : decode cX4_freshItem 8 = .ok (.aaload, 1) := by decide +kernel
theorem dX4_freshItem_9 : decode cX4_freshItem 9 = .ok (.ifnonnull 19, 3) := by decide +kernel
theorem dX4_freshItem_12 : decode cX4_freshItem 12 = .ok (.aload_n 0, 1) := by decide +kernel
theorem dX4_freshItem_13 : decode cX4_freshItem 13 = .ok (.getfield 29, 3) := by decide +kernel
theorem dX4_freshItem_16 : decode cX4_freshItem 16 = .ok (.aload_n 0, 1) := by decide +kernel
theorem dX4_freshItem_17 : decode cX4_freshItem 17 = .ok (.getfield 92, 3) := by decide +kernel
theorem dX4_freshItem_20 : decode cX4_freshItem 20 = .ok (.new 27, 3) := by decide +kernel
theorem dX4_freshItem_23 : decode cX4_freshItem 23 = .ok (.dup, 1) := by decide +kernel
theorem dX4_freshItem_24 : decode cX4_freshItem 24 = .ok (.invokespecial 230, 3) := by decide +kernel
theorem dX4_freshItem_27 : decode cX4_freshItem 27 = .ok (.aastore, 1) := by decide +kernel
theorem dX4_freshItem_28 : decode cX4_freshItem 28 = .ok (.aload_n 0, 1) := by decide +kernel
theorem dX4_freshItem_29 : decode cX4_freshItem 29 = .ok (.getfield 29, 3) := by decide +kernel
theorem dX4_freshItem_32 : decode cX4_freshItem 32 = .ok (.aload_n 0, 1) := by decide +kernel
theorem dX4_freshItem_33 : decode cX4_freshItem 33 = .ok (.dup, 1) := by decide +kernel
theorem dX4_freshItem_34 : decode cX4_freshItem 34 = .ok (.getfield 92, 3) := by decide +kernel
theorem dX4_freshItem_37 : decode cX4_freshItem 37 = .ok (.dup_x1, 1) := by decide +kernel
theorem dX4_freshItem_38 : decode cX4_freshItem 38 = .ok (.iconst 1, 1) := by decide +kernel
theorem dX4_freshItem_39 : decode cX4_freshItem 39 = .ok (.iadd, 1) := by decide +kernel
theorem dX4_freshItem_40 : decode cX4_freshItem 40 = .ok (.putfield 92, 3) := by decide +kernel
theorem dX4_freshItem_43 : decode cX4_freshItem 43 = .ok (.aaload, 1) := by decide +kernel
theorem dX4_freshItem_44 : decode cX4_freshItem 44 = .ok (.areturn, 1) := by decide +kernel
theorem dX4_chargedSize_0 : decode cX4_chargedSize 0 = .ok (.iload_n 1, 1) := by decide +kernel
theorem dX4_chargedSize_1 : decode cX4_chargedSize 1 = .ok (.aload_n 0, 1) := by decide +kernel
theorem dX4_chargedSize_2 : decode cX4_chargedSize 2 = .ok (.getfield 10, 3) := by decide +kernel
theorem dX4_chargedSize_5 : decode cX4_chargedSize 5 = .ok (.aload_n 0, 1) := by decide +kernel
theorem dX4_chargedSize_6 : decode cX4_chargedSize 6 = .ok (.getfield 41, 3) := by decide +kernel
theorem dX4_chargedSize_9 : decode cX4_chargedSize 9 = .ok (.invokevirtual 67, 3) := by decide +kernel
theorem dX4_chargedSize_12 : decode cX4_chargedSize 12 = .ok (.invokestatic 231, 3) := by decide +kernel
theorem dX4_chargedSize_15 : decode cX4_chargedSize 15 = .ok (.ireturn, 1) := by decide +kernel
theorem dX4_rentOf_0 : decode cX4_rentOf 0 = .ok (.iload_n 1, 1) := by decide +kernel
theorem dX4_rentOf_1 : decode cX4_rentOf 1 = .ok (.i2l, 1) := by decide +kernel
theorem dX4_rentOf_2 : decode cX4_rentOf 2 = .ok (.aload_n 0, 1) := by decide +kernel
theorem dX4_rentOf_3 : decode cX4_rentOf 3 = .ok (.getfield 10, 3) := by decide +kernel
theorem dX4_rentOf_6 : decode cX4_rentOf 6 = .ok (.aload_n 0, 1) := by decide +kernel
theorem dX4_rentOf_7 : decode cX4_rentOf 7 = .ok (.getfield 41, 3) := by decide +kernel
theorem dX4_rentOf_10 : decode cX4_rentOf 10 = .ok (.invokevirtual 64, 3) := by decide +kernel
theorem dX4_rentOf_13 : decode cX4_rentOf 13 = .ok (.i2l, 1) := by decide +kernel
theorem dX4_rentOf_14 : decode cX4_rentOf 14 = .ok (.lmul, 1) := by decide +kernel
theorem dX4_rentOf_15 : decode cX4_rentOf 15 = .ok (.iload_n 2, 1) := by decide +kernel
theorem dX4_rentOf_16 : decode cX4_rentOf 16 = .ok (.i2l, 1) := by decide +kernel
theorem dX4_rentOf_17 : decode cX4_rentOf 17 = .ok (.lmul, 1) := by decide +kernel
theorem dX4_rentOf_18 : decode cX4_rentOf 18 = .ok (.lreturn, 1) := by decide +kernel
theorem dX4_capsAllow_0 : decode cX4_capsAllow 0 = .ok (.aload_n 0, 1) := by decide +kernel
theorem dX4_capsAllow_1 : decode cX4_capsAllow 1 = .ok (.iconst (-1), 1) := by decide +kernel
theorem dX4_capsAllow_2 : decode cX4_capsAllow 2 = .ok (.invokevirtual 205, 3) := by decide +kernel
theorem dX4_capsAllow_5 : decode cX4_capsAllow 5 = .ok (.iload_n 2, 1) := by decide +kernel
theorem dX4_capsAllow_6 : decode cX4_capsAllow 6 = .ok (.iadd, 1) := by decide +kernel
theorem dX4_capsAllow_7 : decode cX4_capsAllow 7 = .ok (.sipush 5000, 3) := by decide +kernel
theorem dX4_capsAllow_10 : decode cX4_capsAllow 10 = .ok (.if_icmp .gt 23, 3) := by decide +kernel
theorem dX4_capsAllow_13 : decode cX4_capsAllow 13 = .ok (.aload_n 0, 1) := by decide +kernel
theorem dX4_capsAllow_14 : decode cX4_capsAllow 14 = .ok (.iload_n 1, 1) := by decide +kernel
theorem dX4_capsAllow_15 : decode cX4_capsAllow 15 = .ok (.invokevirtual 205, 3) := by decide +kernel
theorem dX4_capsAllow_18 : decode cX4_capsAllow 18 = .ok (.iload_n 2, 1) := by decide +kernel
theorem dX4_capsAllow_19 : decode cX4_capsAllow 19 = .ok (.iadd, 1) := by decide +kernel
theorem dX4_capsAllow_20 : decode cX4_capsAllow 20 = .ok (.aload_n 0, 1) := by decide +kernel
theorem dX4_capsAllow_21 : decode cX4_capsAllow 21 = .ok (.getfield 23, 3) := by decide +kernel
theorem dX4_capsAllow_24 : decode cX4_capsAllow 24 = .ok (.iload_n 1, 1) := by decide +kernel
theorem dX4_capsAllow_25 : decode cX4_capsAllow 25 = .ok (.iaload, 1) := by decide +kernel
theorem dX4_capsAllow_26 : decode cX4_capsAllow 26 = .ok (.if_icmp .gt 7, 3) := by decide +kernel
theorem dX4_capsAllow_29 : decode cX4_capsAllow 29 = .ok (.iconst 1, 1) := by decide +kernel
theorem dX4_capsAllow_30 : decode cX4_capsAllow 30 = .ok (.goto 4, 3) := by decide +kernel
theorem dX4_capsAllow_33 : decode cX4_capsAllow 33 = .ok (.iconst 0, 1) := by decide +kernel
theorem dX4_capsAllow_34 : decode cX4_capsAllow 34 = .ok (.ireturn, 1) := by decide +kernel
theorem dX4_liveSizes_0 : decode cX4_liveSizes 0 = .ok (.iconst 0, 1) := by decide +kernel
theorem dX4_liveSizes_1 : decode cX4_liveSizes 1 = .ok (.istore_n 2, 1) := by decide +kernel
theorem dX4_liveSizes_2 : decode cX4_liveSizes 2 = .ok (.iconst 0, 1) := by decide +kernel
theorem dX4_liveSizes_3 : decode cX4_liveSizes 3 = .ok (.istore_n 3, 1) := by decide +kernel
theorem dX4_liveSizes_4 : decode cX4_liveSizes 4 = .ok (.iload_n 3, 1) := by decide +kernel
theorem dX4_liveSizes_5 : decode cX4_liveSizes 5 = .ok (.aload_n 0, 1) := by decide +kernel
theorem dX4_liveSizes_6 : decode cX4_liveSizes 6 = .ok (.getfield 92, 3) := by decide +kernel
theorem dX4_liveSizes_9 : decode cX4_liveSizes 9 = .ok (.if_icmp .ge 47, 3) := by decide +kernel
theorem dX4_liveSizes_12 : decode cX4_liveSizes 12 = .ok (.aload_n 0, 1) := by decide +kernel
theorem dX4_liveSizes_13 : decode cX4_liveSizes 13 = .ok (.getfield 29, 3) := by decide +kernel
theorem dX4_liveSizes_16 : decode cX4_liveSizes 16 = .ok (.iload_n 3, 1) := by decide +kernel
theorem dX4_liveSizes_17 : decode cX4_liveSizes 17 = .ok (.aaload, 1) := by decide +kernel
theorem dX4_liveSizes_18 : decode cX4_liveSizes 18 = .ok (.astore 4, 2) := by decide +kernel
theorem dX4_liveSizes_20 : decode cX4_liveSizes 20 = .ok (.aload 4, 2) := by decide +kernel
theorem dX4_liveSizes_22 : decode cX4_liveSizes 22 = .ok (.getfield 123, 3) := by decide +kernel
theorem dX4_liveSizes_25 : decode cX4_liveSizes 25 = .ok (.ifCond .ne 25, 3) := by decide +kernel
theorem dX4_liveSizes_28 : decode cX4_liveSizes 28 = .ok (.iload_n 1, 1) := by decide +kernel
theorem dX4_liveSizes_29 : decode cX4_liveSizes 29 = .ok (.iconst (-1), 1) := by decide +kernel
theorem dX4_liveSizes_30 : decode cX4_liveSizes 30 = .ok (.if_icmp .eq 12, 3) := by decide +kernel
theorem dX4_liveSizes_33 : decode cX4_liveSizes 33 = .ok (.iload_n 1, 1) := by decide +kernel
theorem dX4_liveSizes_34 : decode cX4_liveSizes 34 = .ok (.aload 4, 2) := by decide +kernel
theorem dX4_liveSizes_36 : decode cX4_liveSizes 36 = .ok (.getfield 126, 3) := by decide +kernel
theorem dX4_liveSizes_39 : decode cX4_liveSizes 39 = .ok (.if_icmp .ne 11, 3) := by decide +kernel
theorem dX4_liveSizes_42 : decode cX4_liveSizes 42 = .ok (.iload_n 2, 1) := by decide +kernel
theorem dX4_liveSizes_43 : decode cX4_liveSizes 43 = .ok (.aload 4, 2) := by decide +kernel
theorem dX4_liveSizes_45 : decode cX4_liveSizes 45 = .ok (.getfield 129, 3) := by decide +kernel
theorem dX4_liveSizes_48 : decode cX4_liveSizes 48 = .ok (.iadd, 1) := by decide +kernel
theorem dX4_liveSizes_49 : decode cX4_liveSizes 49 = .ok (.istore_n 2, 1) := by decide +kernel
theorem dX4_liveSizes_50 : decode cX4_liveSizes 50 = .ok (.iinc 3 1, 3) := by decide +kernel
theorem dX4_liveSizes_53 : decode cX4_liveSizes 53 = .ok (.goto (-49), 3) := by decide +kernel
theorem dX4_liveSizes_56 : decode cX4_liveSizes 56 = .ok (.iload_n 2, 1) := by decide +kernel
theorem dX4_liveSizes_57 : decode cX4_liveSizes 57 = .ok (.ireturn, 1) := by decide +kernel
theorem dX4_countOf_0 : decode cX4_countOf 0 = .ok (.iconst 0, 1) := by decide +kernel
theorem dX4_countOf_1 : decode cX4_countOf 1 = .ok (.istore_n 2, 1) := by decide +kernel
theorem dX4_countOf_2 : decode cX4_countOf 2 = .ok (.iconst 0, 1) := by decide +kernel
theorem dX4_countOf_3 : decode cX4_countOf 3 = .ok (.istore_n 3, 1) := by decide +kernel
theorem dX4_countOf_4 : decode cX4_countOf 4 = .ok (.iload_n 3, 1) := by decide +kernel
theorem dX4_countOf_5 : decode cX4_countOf 5 = .ok (.aload_n 0, 1) := by decide +kernel
theorem dX4_countOf_6 : decode cX4_countOf 6 = .ok (.getfield 92, 3) := by decide +kernel
theorem dX4_countOf_9 : decode cX4_countOf 9 = .ok (.if_icmp .ge 25, 3) := by decide +kernel
theorem dX4_countOf_12 : decode cX4_countOf 12 = .ok (.aload_n 0, 1) := by decide +kernel
theorem dX4_countOf_13 : decode cX4_countOf 13 = .ok (.getfield 29, 3) := by decide +kernel
theorem dX4_countOf_16 : decode cX4_countOf 16 = .ok (.iload_n 3, 1) := by decide +kernel
theorem dX4_countOf_17 : decode cX4_countOf 17 = .ok (.aaload, 1) := by decide +kernel
theorem dX4_countOf_18 : decode cX4_countOf 18 = .ok (.getfield 123, 3) := by decide +kernel
theorem dX4_countOf_21 : decode cX4_countOf 21 = .ok (.iload_n 1, 1) := by decide +kernel
theorem dX4_countOf_22 : decode cX4_countOf 22 = .ok (.if_icmp .ne 6, 3) := by decide +kernel
theorem dX4_countOf_25 : decode cX4_countOf 25 = .ok (.iinc 2 1, 3) := by decide +kernel
theorem dX4_countOf_28 : decode cX4_countOf 28 = .ok (.iinc 3 1, 3) := by decide +kernel
theorem dX4_countOf_31 : decode cX4_countOf 31 = .ok (.goto (-27), 3) := by decide +kernel
theorem dX4_countOf_34 : decode cX4_countOf 34 = .ok (.iload_n 2, 1) := by decide +kernel
theorem dX4_countOf_35 : decode cX4_countOf 35 = .ok (.ireturn, 1) := by decide +kernel
theorem dX4_archiveUnpaid_0 : decode cX4_archiveUnpaid 0 = .ok (.iconst 0, 1) := by decide +kernel
theorem dX4_archiveUnpaid_1 : decode cX4_archiveUnpaid 1 = .ok (.istore_n 1, 1) := by decide +kernel
theorem dX4_archiveUnpaid_2 : decode cX4_archiveUnpaid 2 = .ok (.iconst 0, 1) := by decide +kernel
theorem dX4_archiveUnpaid_3 : decode cX4_archiveUnpaid 3 = .ok (.istore_n 2, 1) := by decide +kernel
theorem dX4_archiveUnpaid_4 : decode cX4_archiveUnpaid 4 = .ok (.iload_n 2, 1) := by decide +kernel
theorem dX4_archiveUnpaid_5 : decode cX4_archiveUnpaid 5 = .ok (.aload_n 0, 1) := by decide +kernel
theorem dX4_archiveUnpaid_6 : decode cX4_archiveUnpaid 6 = .ok (.getfield 92, 3) := by decide +kernel
theorem dX4_archiveUnpaid_9 : decode cX4_archiveUnpaid 9 = .ok (.if_icmp .ge 42, 3) := by decide +kernel
theorem dX4_archiveUnpaid_12 : decode cX4_archiveUnpaid 12 = .ok (.aload_n 0, 1) := by decide +kernel
theorem dX4_archiveUnpaid_13 : decode cX4_archiveUnpaid 13 = .ok (.getfield 29, 3) := by decide +kernel
theorem dX4_archiveUnpaid_16 : decode cX4_archiveUnpaid 16 = .ok (.iload_n 2, 1) := by decide +kernel
theorem dX4_archiveUnpaid_17 : decode cX4_archiveUnpaid 17 = .ok (.aaload, 1) := by decide +kernel
theorem dX4_archiveUnpaid_18 : decode cX4_archiveUnpaid 18 = .ok (.astore_n 3, 1) := by decide +kernel
theorem dX4_archiveUnpaid_19 : decode cX4_archiveUnpaid 19 = .ok (.aload_n 3, 1) := by decide +kernel
theorem dX4_archiveUnpaid_20 : decode cX4_archiveUnpaid 20 = .ok (.getfield 123, 3) := by decide +kernel
theorem dX4_archiveUnpaid_23 : decode cX4_archiveUnpaid 23 = .ok (.ifCond .ne 22, 3) := by decide +kernel
theorem dX4_archiveUnpaid_26 : decode cX4_archiveUnpaid 26 = .ok (.aload_n 3, 1) := by decide +kernel
theorem dX4_archiveUnpaid_27 : decode cX4_archiveUnpaid 27 = .ok (.getfield 132, 3) := by decide +kernel
theorem dX4_archiveUnpaid_30 : decode cX4_archiveUnpaid 30 = .ok (.aload_n 0, 1) := by decide +kernel
theorem dX4_archiveUnpaid_31 : decode cX4_archiveUnpaid 31 = .ok (.getfield 41, 3) := by decide +kernel
theorem dX4_archiveUnpaid_34 : decode cX4_archiveUnpaid 34 = .ok (.if_icmp .ge 11, 3) := by decide +kernel
theorem dX4_archiveUnpaid_37 : decode cX4_archiveUnpaid 37 = .ok (.aload_n 3, 1) := by decide +kernel
theorem dX4_archiveUnpaid_38 : decode cX4_archiveUnpaid 38 = .ok (.iconst 1, 1) := by decide +kernel
theorem dX4_archiveUnpaid_39 : decode cX4_archiveUnpaid 39 = .ok (.putfield 123, 3) := by decide +kernel
theorem dX4_archiveUnpaid_42 : decode cX4_archiveUnpaid 42 = .ok (.iinc 1 1, 3) := by decide +kernel
theorem dX4_archiveUnpaid_45 : decode cX4_archiveUnpaid 45 = .ok (.iinc 2 1, 3) := by decide +kernel
theorem dX4_archiveUnpaid_48 : decode cX4_archiveUnpaid 48 = .ok (.goto (-44), 3) := by decide +kernel
theorem dX4_archiveUnpaid_51 : decode cX4_archiveUnpaid 51 = .ok (.iload_n 1, 1) := by decide +kernel
theorem dX4_archiveUnpaid_52 : decode cX4_archiveUnpaid 52 = .ok (.ireturn, 1) := by decide +kernel
theorem dX4_refusalToShrink_0 : decode cX4_refusalToShrink 0 = .ok (.aload_n 0, 1) := by decide +kernel
theorem dX4_refusalToShrink_1 : decode cX4_refusalToShrink 1 = .ok (.getfield 123, 3) := by decide +kernel
theorem dX4_refusalToShrink_4 : decode cX4_refusalToShrink 4 = .ok (.ifCond .eq 6, 3) := by decide +kernel
theorem dX4_refusalToShrink_7 : decode cX4_refusalToShrink 7 = .ok (.bipush (-103), 2) := by decide +kernel
theorem dX4_refusalToShrink_9 : decode cX4_refusalToShrink 9 = .ok (.ireturn, 1) := by decide +kernel
theorem dX4_refusalToShrink_10 : decode cX4_refusalToShrink 10 = .ok (.iload_n 1, 1) := by decide +kernel
theorem dX4_refusalToShrink_11 : decode cX4_refusalToShrink 11 = .ok (.iconst 1, 1) := by decide +kernel
theorem dX4_refusalToShrink_12 : decode cX4_refusalToShrink 12 = .ok (.aload_n 0, 1) := by decide +kernel
theorem dX4_refusalToShrink_13 : decode cX4_refusalToShrink 13 = .ok (.getfield 129, 3) := by decide +kernel
theorem dX4_refusalToShrink_16 : decode cX4_refusalToShrink 16 = .ok (.iconst 1, 1) := by decide +kernel
theorem dX4_refusalToShrink_17 : decode cX4_refusalToShrink 17 = .ok (.isub, 1) := by decide +kernel
theorem dX4_refusalToShrink_18 : decode cX4_refusalToShrink 18 = .ok (.invokestatic 37, 3) := by decide +kernel
theorem dX4_refusalToShrink_21 : decode cX4_refusalToShrink 21 = .ok (.ifCond .eq 7, 3) := by decide +kernel
theorem dX4_refusalToShrink_24 : decode cX4_refusalToShrink 24 = .ok (.iconst 0, 1) := by decide +kernel
theorem dX4_refusalToShrink_25 : decode cX4_refusalToShrink 25 = .ok (.goto 5, 3) := by decide +kernel
theorem dX4_refusalToShrink_28 : decode cX4_refusalToShrink 28 = .ok (.bipush (-102), 2) := by decide +kernel
theorem dX4_refusalToShrink_30 : decode cX4_refusalToShrink 30 = .ok (.ireturn, 1) := by decide +kernel
theorem dX4_giveBack_0 : decode cX4_giveBack 0 = .ok (.iconst 0, 1) := by decide +kernel
theorem dX4_giveBack_1 : decode cX4_giveBack 1 = .ok (.istore_n 3, 1) := by decide +kernel
theorem dX4_giveBack_2 : decode cX4_giveBack 2 = .ok (.iconst 0, 1) := by decide +kernel
theorem dX4_giveBack_3 : decode cX4_giveBack 3 = .ok (.istore 4, 2) := by decide +kernel
theorem dX4_giveBack_5 : decode cX4_giveBack 5 = .ok (.iload 4, 2) := by decide +kernel
theorem dX4_giveBack_7 : decode cX4_giveBack 7 = .ok (.bipush 6, 2) := by decide +kernel
theorem dX4_giveBack_9 : decode cX4_giveBack 9 = .ok (.if_icmp .ge 31, 3) := by decide +kernel
theorem dX4_giveBack_12 : decode cX4_giveBack 12 = .ok (.iload_n 3, 1) := by decide +kernel
theorem dX4_giveBack_13 : decode cX4_giveBack 13 = .ok (.aload_n 0, 1) := by decide +kernel
theorem dX4_giveBack_14 : decode cX4_giveBack 14 = .ok (.getfield 19, 3) := by decide +kernel
theorem dX4_giveBack_17 : decode cX4_giveBack 17 = .ok (.iload 4, 2) := by decide +kernel
theorem dX4_giveBack_19 : decode cX4_giveBack 19 = .ok (.aload_n 1, 1) := by decide +kernel
theorem dX4_giveBack_20 : decode cX4_giveBack 20 = .ok (.getfield 107, 3) := by decide +kernel
theorem dX4_giveBack_23 : decode cX4_giveBack 23 = .ok (.iload 4, 2) := by decide +kernel
theorem dX4_giveBack_25 : decode cX4_giveBack 25 = .ok (.iload_n 2, 1) := by decide +kernel
theorem dX4_giveBack_26 : decode cX4_giveBack 26 = .ok (.invokevirtual 185, 3) := by decide +kernel
theorem dX4_giveBack_29 : decode cX4_giveBack 29 = .ok (.invokevirtual 236, 3) := by decide +kernel
theorem dX4_giveBack_32 : decode cX4_giveBack 32 = .ok (.iadd, 1) := by decide +kernel
theorem dX4_giveBack_33 : decode cX4_giveBack 33 = .ok (.istore_n 3, 1) := by decide +kernel
theorem dX4_giveBack_34 : decode cX4_giveBack 34 = .ok (.iinc 4 1, 3) := by decide +kernel
theorem dX4_giveBack_37 : decode cX4_giveBack 37 = .ok (.goto (-32), 3) := by decide +kernel
theorem dX4_giveBack_40 : decode cX4_giveBack 40 = .ok (.aload_n 1, 1) := by decide +kernel
theorem dX4_giveBack_41 : decode cX4_giveBack 41 = .ok (.getfield 107, 3) := by decide +kernel
theorem dX4_giveBack_44 : decode cX4_giveBack 44 = .ok (.iload_n 2, 1) := by decide +kernel
theorem dX4_giveBack_45 : decode cX4_giveBack 45 = .ok (.invokevirtual 239, 3) := by decide +kernel
theorem dX4_giveBack_48 : decode cX4_giveBack 48 = .ok (.iload_n 3, 1) := by decide +kernel
theorem dX4_giveBack_49 : decode cX4_giveBack 49 = .ok (.ireturn, 1) := by decide +kernel
end
section
set_option maxRecDepth 20000 in
theorem ggX4_init_X0_init : GoodIn wsX4_init wsX0_init := goodIn_r _ [17, 18, 2, 3, 12, 19, 20, 21, 22, 58, 59, 60, 61, 62] (by decide +kernel) (by decide +kernel)
set_option maxRecDepth 20000 in
theorem gX4_init_X0_init_n9 : GoodIn wsX4_init (wsX0_init) := ggX4_init_X0_init
set_option maxRecDepth 20000 in
theorem ggX4_init_X3_init : GoodIn wsX4_init wsX3_init := goodIn_r _ [24, 25, 2, 3, 12, 26, 27, 28, 69, 70, 71, 72, 73, 74] (by decide +kernel) (by decide +kernel)
set_option maxRecDepth 20000 in
theorem gX4_init_X3_init_n18 : GoodIn wsX4_init (wsX3_init) := ggX4_init_X3_init
set_option maxRecDepth 20000 in
theorem ggX4_init_X4_beginAnew : GoodIn wsX4_init wsX4_beginAnew := goodIn_r _ [33, 7, 11, 13, 34, 35, 36, 37, 38, 6, 39, 40, 41, 42, 43, 44, 19, 20, 21, 22, 45, 46, 47, 10, 48, 26, 49, 27, 28, 50, 51, 52, 53, 54, 55, 56, 57, 63, 64, 65, 66, 67, 68, 58, 59, 60, 61, 62, 69, 70, 71, 72, 73, 74] (by decide +kernel) (by decide +kernel)
set_option maxRecDepth 20000 in
theorem gX4_init_X4_beginAnew : GoodIn wsX4_init (wsV RX4 33 RX4 yX4_beginAnew wsX4_beginAnew) := goodIn_app (goodIn_of _ (by decide +kernel)) ggX4_init_X4_beginAnew
set_option maxRecDepth 20000 in
theorem ggX4_edition_X4_within : GoodIn wsX4_edition wsX4_within := goodIn_r _ [7] (by decide +kernel) (by decide +kernel)
set_option maxRecDepth 20000 in
theorem gX4_edition_X4_within : GoodIn wsX4_edition (va_wsS RX4 37 yX4_within wsX4_within) := goodIn_app (goodIn_of _ (by decide +kernel)) ggX4_edition_X4_within
set_option maxRecDepth 20000 in
theorem ggX4_edition_X0_lastFrom : GoodIn wsX4_edition wsX0_lastFrom := goodIn_r _ [12, 13, 14, 32, 33, 34, 35, 36] (by decide +kernel) (by decide +kernel)
set_option maxRecDepth 20000 in
theorem gX4_edition_X0_lastFrom : GoodIn wsX4_edition (wsV RX4 45 RX0 yX0_lastFrom wsX0_lastFrom) := goodIn_app (goodIn_of _ (by decide +kernel)) ggX4_edition_X0_lastFrom
set_option maxRecDepth 20000 in
theorem ggX4_edition_X0_hasRoom : GoodIn wsX4_edition wsX0_hasRoom := goodIn_r _ [18, 13, 32, 33, 34, 35, 36] (by decide +kernel) (by decide +kernel)
set_option maxRecDepth 20000 in
theorem gX4_edition_X0_hasRoom : GoodIn wsX4_edition (wsV RX4 49 RX0 yX0_hasRoom wsX0_hasRoom) := goodIn_app (goodIn_of _ (by decide +kernel)) ggX4_edition_X0_hasRoom
set_option maxRecDepth 20000 in
theorem ggX4_edition_X0_append : GoodIn wsX4_edition wsX0_append := goodIn_r _ [22, 13, 14, 23, 24, 25, 32, 33, 34, 35, 36] (by decide +kernel) (by decide +kernel)
set_option maxRecDepth 20000 in
theorem gX4_edition_X0_append : GoodIn wsX4_edition (wsV RX4 53 RX0 yX0_append wsX0_append) := goodIn_app (goodIn_of _ (by decide +kernel)) ggX4_edition_X0_append
set_option maxRecDepth 20000 in
theorem ggX4_priceAt_X4_within : GoodIn wsX4_priceAt wsX4_within := goodIn_r _ [6] (by decide +kernel) (by decide +kernel)
set_option maxRecDepth 20000 in
theorem gX4_priceAt_X4_within : GoodIn wsX4_priceAt (va_wsS RX4 37 yX4_within wsX4_within) := goodIn_app (goodIn_of _ (by decide +kernel)) ggX4_priceAt_X4_within
set_option maxRecDepth 20000 in
theorem ggX4_priceAt_X0_priceOn : GoodIn wsX4_priceAt wsX0_priceOn := goodIn_r _ [11, 12, 13, 14, 15, 10, 16, 17, 18, 39, 40, 41, 42, 43] (by decide +kernel) (by decide +kernel)
set_option maxRecDepth 20000 in
theorem gX4_priceAt_X0_priceOn : GoodIn wsX4_priceAt (wsV RX4 60 RX0 yX0_priceOn wsX0_priceOn) := goodIn_app (goodIn_of _ (by decide +kernel)) ggX4_priceAt_X0_priceOn
set_option maxRecDepth 20000 in
theorem ggX4_priceAt_X0_rentOn : GoodIn wsX4_priceAt wsX0_rentOn := goodIn_r _ [22, 23, 13, 14, 15, 10, 16, 17, 18, 39, 40, 41, 42, 43] (by decide +kernel) (by decide +kernel)
set_option maxRecDepth 20000 in
theorem gX4_priceAt_X0_rentOn : GoodIn wsX4_priceAt (wsV RX4 64 RX0 yX0_rentOn wsX0_rentOn) := goodIn_app (goodIn_of _ (by decide +kernel)) ggX4_priceAt_X0_rentOn
set_option maxRecDepth 20000 in
theorem ggX4_priceAt_X0_leastOn : GoodIn wsX4_priceAt wsX0_leastOn := goodIn_r _ [27, 28, 13, 14, 15, 10, 16, 17, 18, 39, 40, 41, 42, 43] (by decide +kernel) (by decide +kernel)
set_option maxRecDepth 20000 in
theorem gX4_priceAt_X0_leastOn : GoodIn wsX4_priceAt (wsV RX4 67 RX0 yX0_leastOn wsX0_leastOn) := goodIn_app (goodIn_of _ (by decide +kernel)) ggX4_priceAt_X0_leastOn
set_option maxRecDepth 20000 in
theorem ggX4_priceAt_X0_fromOn : GoodIn wsX4_priceAt wsX0_fromOn := goodIn_r _ [32, 18, 13, 14, 15, 10, 16, 17, 39, 40, 41, 42, 43] (by decide +kernel) (by decide +kernel)
set_option maxRecDepth 20000 in
theorem gX4_priceAt_X0_fromOn : GoodIn wsX4_priceAt (wsV RX4 70 RX0 yX0_fromOn wsX0_fromOn) := goodIn_app (goodIn_of _ (by decide +kernel)) ggX4_priceAt_X0_fromOn
set_option maxRecDepth 20000 in
theorem ggX4_cap_X4_isAccount : GoodIn wsX4_cap wsX4_isAccount := goodIn_r _ [5, 6, 7, 4, 8] (by decide +kernel) (by decide +kernel)
set_option maxRecDepth 20000 in
theorem gX4_cap_X4_isAccount : GoodIn wsX4_cap (va_wsS RX4 73 yX4_isAccount wsX4_isAccount) := goodIn_app (goodIn_of _ (by decide +kernel)) ggX4_cap_X4_isAccount
set_option maxRecDepth 20000 in
theorem ggX4_cap_X4_within : GoodIn wsX4_cap wsX4_within := goodIn_r _ [8] (by decide +kernel) (by decide +kernel)
set_option maxRecDepth 20000 in
theorem gX4_cap_X4_within : GoodIn wsX4_cap (va_wsS RX4 37 yX4_within wsX4_within) := goodIn_app (goodIn_of _ (by decide +kernel)) ggX4_cap_X4_within
set_option maxRecDepth 20000 in
theorem ggX4_make_X4_isAccount : GoodIn wsX4_make wsX4_isAccount := goodIn_r _ [8, 9, 10, 7, 11] (by decide +kernel) (by decide +kernel)
set_option maxRecDepth 20000 in
theorem gX4_make_X4_isAccount : GoodIn wsX4_make (va_wsS RX4 73 yX4_isAccount wsX4_isAccount) := goodIn_app (goodIn_of _ (by decide +kernel)) ggX4_make_X4_isAccount
set_option maxRecDepth 20000 in
theorem ggX4_make_X4_within : GoodIn wsX4_make wsX4_within := goodIn_r _ [11] (by decide +kernel) (by decide +kernel)
set_option maxRecDepth 20000 in
theorem gX4_make_X4_within : GoodIn wsX4_make (va_wsS RX4 37 yX4_within wsX4_within) := goodIn_app (goodIn_of _ (by decide +kernel)) ggX4_make_X4_within
set_option maxRecDepth 20000 in
theorem ggX4_make_X4_capsAllow : GoodIn wsX4_make wsX4_capsAllow := goodIn_r _ [15, 16, 17, 18, 19, 7, 20, 4, 21, 113, 114, 115, 116, 117, 118, 119, 120, 121, 122, 123, 124] (by decide +kernel) (by decide +kernel)
set_option maxRecDepth 20000 in
theorem gX4_make_X4_capsAllow : GoodIn wsX4_make (wsV RX4 77 RX4 yX4_capsAllow wsX4_capsAllow) := goodIn_app (goodIn_of _ (by decide +kernel)) ggX4_make_X4_capsAllow
set_option maxRecDepth 20000 in
theorem ggX4_make_X0_priceOn : GoodIn wsX4_make wsX0_priceOn := goodIn_r _ [26, 27, 28, 29, 30, 25, 31, 32, 33, 125, 126, 127, 128, 129] (by decide +kernel) (by decide +kernel)
set_option maxRecDepth 20000 in
theorem gX4_make_X0_priceOn : GoodIn wsX4_make (wsV RX4 60 RX0 yX0_priceOn wsX0_priceOn) := goodIn_app (goodIn_of _ (by decide +kernel)) ggX4_make_X0_priceOn
set_option maxRecDepth 20000 in
theorem ggX4_make_X4_chargedSize : GoodIn wsX4_make wsX4_chargedSize := goodIn_r _ [37, 1, 2, 38, 39, 40, 41, 42, 43, 44, 25, 45, 46, 28, 29, 30, 31, 32, 33, 113, 114, 115, 116, 117, 118, 125, 126, 127, 128, 129] (by decide +kernel) (by decide +kernel)
set_option maxRecDepth 20000 in
theorem gX4_make_X4_chargedSize : GoodIn wsX4_make (wsV RX4 81 RX4 yX4_chargedSize wsX4_chargedSize) := goodIn_app (goodIn_of _ (by decide +kernel)) ggX4_make_X4_chargedSize
set_option maxRecDepth 20000 in
theorem ggX4_make_X4_rentOf : GoodIn wsX4_make wsX4_rentOf := goodIn_r _ [50, 1, 2, 51, 52, 53, 25, 54, 55, 28, 29, 30, 31, 32, 33, 113, 114, 115, 116, 117, 118, 125, 126, 127, 128, 129] (by decide +kernel) (by decide +kernel)
set_option maxRecDepth 20000 in
theorem gX4_make_X4_rentOf : GoodIn wsX4_make (wsV RX4 84 RX4 yX4_rentOf wsX4_rentOf) := goodIn_app (goodIn_of _ (by decide +kernel)) ggX4_make_X4_rentOf
set_option maxRecDepth 20000 in
theorem ggX4_make_X3_canPay : GoodIn wsX4_make wsX3_canPay := goodIn_r _ [60, 61, 130, 131, 132, 133, 134, 135] (by decide +kernel) (by decide +kernel)
set_option maxRecDepth 20000 in
theorem gX4_make_X3_canPay : GoodIn wsX4_make (wsV RX4 88 RX3 yX3_canPay wsX3_canPay) := goodIn_app (goodIn_of _ (by decide +kernel)) ggX4_make_X3_canPay
set_option maxRecDepth 20000 in
theorem ggX4_make_X3_takeFrom : GoodIn wsX4_make wsX3_takeFrom := goodIn_r _ [65, 61, 66, 67, 130, 131, 132, 133, 134, 135] (by decide +kernel) (by decide +kernel)
set_option maxRecDepth 20000 in
theorem gX4_make_X3_takeFrom : GoodIn wsX4_make (wsV RX4 95 RX3 yX3_takeFrom wsX3_takeFrom) := goodIn_app (goodIn_of _ (by decide +kernel)) ggX4_make_X3_takeFrom
set_option maxRecDepth 20000 in
theorem ggX4_make_X4_freshItem : GoodIn wsX4_make wsX4_freshItem := goodIn_r _ [71, 21, 4, 72, 73, 74, 75, 76, 77, 78, 79, 80, 81, 82, 83, 84, 85, 86, 87, 88, 89, 90, 91, 113, 114, 115, 116, 117, 118, 119, 120, 121, 122, 123, 124, 136, 137, 138, 139] (by decide +kernel) (by decide +kernel)
set_option maxRecDepth 20000 in
theorem gX4_make_X4_freshItem : GoodIn wsX4_make (wsV RX4 99 RX4 yX4_freshItem wsX4_freshItem) := goodIn_app (goodIn_of _ (by decide +kernel)) ggX4_make_X4_freshItem
set_option maxRecDepth 20000 in
theorem ggX4_make_X1_begin : GoodIn wsX4_make wsX1_begin := goodIn_r _ [95, 96, 97, 98, 99, 81, 85, 100, 101, 102, 103, 119, 120, 121, 122, 123, 124, 136, 137, 138, 139] (by decide +kernel) (by decide +kernel)
set_option maxRecDepth 20000 in
theorem gX4_make_X1_begin : GoodIn wsX4_make (wsV RX4 103 RX1 yX1_begin wsX1_begin) := goodIn_app (goodIn_of _ (by decide +kernel)) ggX4_make_X1_begin
set_option maxRecDepth 20000 in
theorem ggX4_make_X2_put : GoodIn wsX4_make wsX2_put := goodIn_r _ [107, 89, 108, 90, 91, 109, 110, 111, 84, 112, 136, 137, 138, 139] (by decide +kernel) (by decide +kernel)
set_option maxRecDepth 20000 in
theorem gX4_make_X2_put : GoodIn wsX4_make (wsV RX4 111 RX2 yX2_put wsX2_put) := goodIn_app (goodIn_of _ (by decide +kernel)) ggX4_make_X2_put
set_option maxRecDepth 20000 in
theorem ggX4_grow_X4_find : GoodIn wsX4_grow wsX4_find := goodIn_r _ [8, 9, 10, 11, 12, 7, 13, 102, 103, 104, 105, 106, 107] (by decide +kernel) (by decide +kernel)
set_option maxRecDepth 20000 in
theorem gX4_grow_X4_find : GoodIn wsX4_grow (wsV RX4 116 RX4 yX4_find wsX4_find) := goodIn_app (goodIn_of _ (by decide +kernel)) ggX4_grow_X4_find
set_option maxRecDepth 20000 in
theorem ggX4_grow_X4_isAccount : GoodIn wsX4_grow wsX4_isAccount := goodIn_r _ [16, 11, 12, 7, 13] (by decide +kernel) (by decide +kernel)
set_option maxRecDepth 20000 in
theorem gX4_grow_X4_isAccount : GoodIn wsX4_grow (va_wsS RX4 73 yX4_isAccount wsX4_isAccount) := goodIn_app (goodIn_of _ (by decide +kernel)) ggX4_grow_X4_isAccount
set_option maxRecDepth 20000 in
theorem ggX4_grow_X4_within : GoodIn wsX4_grow wsX4_within := goodIn_r _ [13] (by decide +kernel) (by decide +kernel)
set_option maxRecDepth 20000 in
theorem gX4_grow_X4_within : GoodIn wsX4_grow (va_wsS RX4 37 yX4_within wsX4_within) := goodIn_app (goodIn_of _ (by decide +kernel)) ggX4_grow_X4_within
set_option maxRecDepth 20000 in
theorem ggX4_grow_X1_sizeNow : GoodIn wsX4_grow wsX1_sizeNow := goodIn_r _ [21, 22, 23, 96, 97, 98, 99, 100, 101] (by decide +kernel) (by decide +kernel)
set_option maxRecDepth 20000 in
theorem gX4_grow_X1_sizeNow : GoodIn wsX4_grow (wsV RX4 120 RX1 yX1_sizeNow wsX1_sizeNow) := goodIn_app (goodIn_of _ (by decide +kernel)) ggX4_grow_X1_sizeNow
set_option maxRecDepth 20000 in
theorem ggX4_grow_X4_capsAllow : GoodIn wsX4_grow wsX4_capsAllow := goodIn_r _ [27, 28, 29, 30, 31, 7, 32, 9, 10, 102, 103, 104, 105, 106, 107, 96, 97, 98, 99, 100, 101] (by decide +kernel) (by decide +kernel)
set_option maxRecDepth 20000 in
theorem gX4_grow_X4_capsAllow : GoodIn wsX4_grow (wsV RX4 77 RX4 yX4_capsAllow wsX4_capsAllow) := goodIn_app (goodIn_of _ (by decide +kernel)) ggX4_grow_X4_capsAllow
set_option maxRecDepth 20000 in
theorem ggX4_grow_X0_priceOn : GoodIn wsX4_grow wsX0_priceOn := goodIn_r _ [37, 38, 39, 40, 41, 36, 42, 43, 44, 108, 109, 110, 111, 112] (by decide +kernel) (by decide +kernel)
set_option maxRecDepth 20000 in
theorem gX4_grow_X0_priceOn : GoodIn wsX4_grow (wsV RX4 60 RX0 yX0_priceOn wsX0_priceOn) := goodIn_app (goodIn_of _ (by decide +kernel)) ggX4_grow_X0_priceOn
set_option maxRecDepth 20000 in
theorem ggX4_grow_X4_chargedSize : GoodIn wsX4_grow wsX4_chargedSize := goodIn_r _ [48, 1, 2, 49, 50, 51, 52, 53, 54, 55, 36, 56, 57, 39, 40, 41, 42, 43, 44, 102, 103, 104, 105, 106, 107, 108, 109, 110, 111, 112] (by decide +kernel) (by decide +kernel)
set_option maxRecDepth 20000 in
theorem gX4_grow_X4_chargedSize : GoodIn wsX4_grow (wsV RX4 81 RX4 yX4_chargedSize wsX4_chargedSize) := goodIn_app (goodIn_of _ (by decide +kernel)) ggX4_grow_X4_chargedSize
set_option maxRecDepth 20000 in
theorem ggX4_grow_X4_rentOf : GoodIn wsX4_grow wsX4_rentOf := goodIn_r _ [61, 1, 2, 62, 63, 64, 36, 65, 66, 39, 40, 41, 42, 43, 44, 102, 103, 104, 105, 106, 107, 108, 109, 110, 111, 112] (by decide +kernel) (by decide +kernel)
set_option maxRecDepth 20000 in
theorem gX4_grow_X4_rentOf : GoodIn wsX4_grow (wsV RX4 84 RX4 yX4_rentOf wsX4_rentOf) := goodIn_app (goodIn_of _ (by decide +kernel)) ggX4_grow_X4_rentOf
set_option maxRecDepth 20000 in
theorem ggX4_grow_X3_canPay : GoodIn wsX4_grow wsX3_canPay := goodIn_r _ [71, 72, 113, 114, 115, 116, 117, 118] (by decide +kernel) (by decide +kernel)
set_option maxRecDepth 20000 in
theorem gX4_grow_X3_canPay : GoodIn wsX4_grow (wsV RX4 88 RX3 yX3_canPay wsX3_canPay) := goodIn_app (goodIn_of _ (by decide +kernel)) ggX4_grow_X3_canPay
set_option maxRecDepth 20000 in
theorem ggX4_grow_X2_hasRoomFor : GoodIn wsX4_grow wsX2_hasRoomFor := goodIn_r _ [77, 78, 79, 80, 81, 76, 82, 83, 84, 119, 120, 121, 122] (by decide +kernel) (by decide +kernel)
set_option maxRecDepth 20000 in
theorem gX4_grow_X2_hasRoomFor : GoodIn wsX4_grow (wsV RX4 135 RX2 yX2_hasRoomFor wsX2_hasRoomFor) := goodIn_app (goodIn_of _ (by decide +kernel)) ggX4_grow_X2_hasRoomFor
set_option maxRecDepth 20000 in
theorem ggX4_grow_X2_put : GoodIn wsX4_grow wsX2_put := goodIn_r _ [88, 89, 78, 83, 84, 79, 80, 81, 76, 82, 119, 120, 121, 122] (by decide +kernel) (by decide +kernel)
set_option maxRecDepth 20000 in
theorem gX4_grow_X2_put : GoodIn wsX4_grow (wsV RX4 111 RX2 yX2_put wsX2_put) := goodIn_app (goodIn_of _ (by decide +kernel)) ggX4_grow_X2_put
set_option maxRecDepth 20000 in
theorem ggX4_grow_X3_takeFrom : GoodIn wsX4_grow wsX3_takeFrom := goodIn_r _ [93, 72, 94, 95, 113, 114, 115, 116, 117, 118] (by decide +kernel) (by decide +kernel)
set_option maxRecDepth 20000 in
theorem gX4_grow_X3_takeFrom : GoodIn wsX4_grow (wsV RX4 95 RX3 yX3_takeFrom wsX3_takeFrom) := goodIn_app (goodIn_of _ (by decide +kernel)) ggX4_grow_X3_takeFrom
set_option maxRecDepth 20000 in
theorem ggX4_shrink_X4_find : GoodIn wsX4_shrink wsX4_find := goodIn_r _ [5, 6, 7, 8, 9, 4, 10, 49, 50, 51, 52, 53, 54] (by decide +kernel) (by decide +kernel)
set_option maxRecDepth 20000 in
theorem gX4_shrink_X4_find : GoodIn wsX4_shrink (wsV RX4 116 RX4 yX4_find wsX4_find) := goodIn_app (goodIn_of _ (by decide +kernel)) ggX4_shrink_X4_find
set_option maxRecDepth 20000 in
theorem ggX4_shrink_X4_refusalToShrink : GoodIn wsX4_shrink wsX4_refusalToShrink := goodIn_r _ [13, 8, 9, 4, 10, 43, 44, 45, 46, 47, 48] (by decide +kernel) (by decide +kernel)
set_option maxRecDepth 20000 in
theorem gX4_shrink_X4_refusalToShrink : GoodIn wsX4_shrink (va_wsS RX4 138 yX4_refusalToShrink wsX4_refusalToShrink) := goodIn_app (goodIn_of _ (by decide +kernel)) ggX4_shrink_X4_refusalToShrink
set_option maxRecDepth 20000 in
theorem ggX4_shrink_X4_giveBack : GoodIn wsX4_shrink wsX4_giveBack := goodIn_r _ [17, 18, 19, 20, 21, 22, 23, 24, 25, 26, 27, 28, 29, 30, 31, 32, 33, 34, 35, 36, 37, 38, 39, 40, 41, 42, 49, 50, 51, 52, 53, 54, 43, 44, 45, 46, 47, 48, 55, 56, 57, 58, 59, 60, 61, 62, 63, 64] (by decide +kernel) (by decide +kernel)
set_option maxRecDepth 20000 in
theorem gX4_shrink_X4_giveBack : GoodIn wsX4_shrink (wsV RX4 142 RX4 yX4_giveBack wsX4_giveBack) := goodIn_app (goodIn_of _ (by decide +kernel)) ggX4_shrink_X4_giveBack
set_option maxRecDepth 20000 in
theorem ggX4_pay_X4_find : GoodIn wsX4_pay wsX4_find := goodIn_r _ [7, 8, 9, 10, 11, 6, 12, 64, 65, 66, 67, 68, 69] (by decide +kernel) (by decide +kernel)
set_option maxRecDepth 20000 in
theorem gX4_pay_X4_find : GoodIn wsX4_pay (wsV RX4 116 RX4 yX4_find wsX4_find) := goodIn_app (goodIn_of _ (by decide +kernel)) ggX4_pay_X4_find
set_option maxRecDepth 20000 in
theorem ggX4_pay_X4_isAccount : GoodIn wsX4_pay wsX4_isAccount := goodIn_r _ [15, 10, 11, 6, 12] (by decide +kernel) (by decide +kernel)
set_option maxRecDepth 20000 in
theorem gX4_pay_X4_isAccount : GoodIn wsX4_pay (va_wsS RX4 73 yX4_isAccount wsX4_isAccount) := goodIn_app (goodIn_of _ (by decide +kernel)) ggX4_pay_X4_isAccount
set_option maxRecDepth 20000 in
theorem ggX4_pay_X4_within : GoodIn wsX4_pay wsX4_within := goodIn_r _ [12] (by decide +kernel) (by decide +kernel)
set_option maxRecDepth 20000 in
theorem gX4_pay_X4_within : GoodIn wsX4_pay (va_wsS RX4 37 yX4_within wsX4_within) := goodIn_app (goodIn_of _ (by decide +kernel)) ggX4_pay_X4_within
set_option maxRecDepth 20000 in
theorem ggX4_pay_X4_chargedSize : GoodIn wsX4_pay wsX4_chargedSize := goodIn_r _ [19, 20, 1, 21, 22, 23, 24, 25, 26, 27, 28, 29, 30, 31, 32, 33, 34, 35, 36, 64, 65, 66, 67, 68, 69, 70, 71, 72, 73, 74] (by decide +kernel) (by decide +kernel)
set_option maxRecDepth 20000 in
theorem gX4_pay_X4_chargedSize : GoodIn wsX4_pay (wsV RX4 81 RX4 yX4_chargedSize wsX4_chargedSize) := goodIn_app (goodIn_of _ (by decide +kernel)) ggX4_pay_X4_chargedSize
set_option maxRecDepth 20000 in
theorem ggX4_pay_X4_rentOf : GoodIn wsX4_pay wsX4_rentOf := goodIn_r _ [40, 20, 1, 41, 42, 43, 28, 44, 45, 31, 32, 33, 34, 35, 36, 64, 65, 66, 67, 68, 69, 70, 71, 72, 73, 74] (by decide +kernel) (by decide +kernel)
set_option maxRecDepth 20000 in
theorem gX4_pay_X4_rentOf : GoodIn wsX4_pay (wsV RX4 84 RX4 yX4_rentOf wsX4_rentOf) := goodIn_app (goodIn_of _ (by decide +kernel)) ggX4_pay_X4_rentOf
set_option maxRecDepth 20000 in
theorem ggX4_pay_X3_canPay : GoodIn wsX4_pay wsX3_canPay := goodIn_r _ [50, 51, 75, 76, 77, 78, 79, 80] (by decide +kernel) (by decide +kernel)
set_option maxRecDepth 20000 in
theorem gX4_pay_X3_canPay : GoodIn wsX4_pay (wsV RX4 88 RX3 yX3_canPay wsX3_canPay) := goodIn_app (goodIn_of _ (by decide +kernel)) ggX4_pay_X3_canPay
set_option maxRecDepth 20000 in
theorem ggX4_pay_X3_takeFrom : GoodIn wsX4_pay wsX3_takeFrom := goodIn_r _ [55, 51, 56, 57, 75, 76, 77, 78, 79, 80] (by decide +kernel) (by decide +kernel)
set_option maxRecDepth 20000 in
theorem gX4_pay_X3_takeFrom : GoodIn wsX4_pay (wsV RX4 95 RX3 yX3_takeFrom wsX3_takeFrom) := goodIn_app (goodIn_of _ (by decide +kernel)) ggX4_pay_X3_takeFrom
set_option maxRecDepth 20000 in
theorem ggX4_write_X4_find : GoodIn wsX4_write wsX4_find := goodIn_r _ [5, 6, 7, 8, 9, 4, 10, 17, 18, 19, 20, 21, 22] (by decide +kernel) (by decide +kernel)
set_option maxRecDepth 20000 in
theorem gX4_write_X4_find : GoodIn wsX4_write (wsV RX4 116 RX4 yX4_find wsX4_find) := goodIn_app (goodIn_of _ (by decide +kernel)) ggX4_write_X4_find
set_option maxRecDepth 20000 in
theorem ggX4_write_X4_within : GoodIn wsX4_write wsX4_within := goodIn_r _ [10] (by decide +kernel) (by decide +kernel)
set_option maxRecDepth 20000 in
theorem gX4_write_X4_within : GoodIn wsX4_write (va_wsS RX4 37 yX4_within wsX4_within) := goodIn_app (goodIn_of _ (by decide +kernel)) ggX4_write_X4_within
set_option maxRecDepth 20000 in
theorem ggX4_drop_X4_find : GoodIn wsX4_drop wsX4_find := goodIn_r _ [5, 6, 7, 8, 9, 4, 10, 46, 47, 48, 49, 50, 51] (by decide +kernel) (by decide +kernel)
set_option maxRecDepth 20000 in
theorem gX4_drop_X4_find : GoodIn wsX4_drop (wsV RX4 116 RX4 yX4_find wsX4_find) := goodIn_app (goodIn_of _ (by decide +kernel)) ggX4_drop_X4_find
set_option maxRecDepth 20000 in
theorem ggX4_drop_X4_giveBack : GoodIn wsX4_drop wsX4_giveBack := goodIn_r _ [14, 15, 16, 17, 18, 19, 20, 21, 22, 23, 24, 25, 26, 27, 28, 29, 30, 31, 32, 33, 34, 35, 36, 37, 38, 39, 46, 47, 48, 49, 50, 51, 40, 41, 42, 43, 44, 45, 52, 53, 54, 55, 56, 57, 58, 59, 60, 61] (by decide +kernel) (by decide +kernel)
set_option maxRecDepth 20000 in
theorem gX4_drop_X4_giveBack : GoodIn wsX4_drop (wsV RX4 142 RX4 yX4_giveBack wsX4_giveBack) := goodIn_app (goodIn_of _ (by decide +kernel)) ggX4_drop_X4_giveBack
set_option maxRecDepth 20000 in
theorem ggX4_back_X4_find : GoodIn wsX4_back wsX4_find := goodIn_r _ [7, 8, 9, 10, 11, 6, 12, 80, 81, 82, 83, 84, 85] (by decide +kernel) (by decide +kernel)
set_option maxRecDepth 20000 in
theorem gX4_back_X4_find : GoodIn wsX4_back (wsV RX4 116 RX4 yX4_find wsX4_find) := goodIn_app (goodIn_of _ (by decide +kernel)) ggX4_back_X4_find
set_option maxRecDepth 20000 in
theorem ggX4_back_X4_isAccount : GoodIn wsX4_back wsX4_isAccount := goodIn_r _ [15, 10, 11, 6, 12] (by decide +kernel) (by decide +kernel)
set_option maxRecDepth 20000 in
theorem gX4_back_X4_isAccount : GoodIn wsX4_back (va_wsS RX4 73 yX4_isAccount wsX4_isAccount) := goodIn_app (goodIn_of _ (by decide +kernel)) ggX4_back_X4_isAccount
set_option maxRecDepth 20000 in
theorem ggX4_back_X4_within : GoodIn wsX4_back wsX4_within := goodIn_r _ [12] (by decide +kernel) (by decide +kernel)
set_option maxRecDepth 20000 in
theorem gX4_back_X4_within : GoodIn wsX4_back (va_wsS RX4 37 yX4_within wsX4_within) := goodIn_app (goodIn_of _ (by decide +kernel)) ggX4_back_X4_within
set_option maxRecDepth 20000 in
theorem ggX4_back_X1_sumUp : GoodIn wsX4_back wsX1_sumUp := goodIn_r _ [20, 21, 22, 74, 75, 76, 77, 78, 79] (by decide +kernel) (by decide +kernel)
set_option maxRecDepth 20000 in
theorem gX4_back_X1_sumUp : GoodIn wsX4_back (wsV RX4 148 RX1 yX1_sumUp wsX1_sumUp) := goodIn_app (goodIn_of _ (by decide +kernel)) ggX4_back_X1_sumUp
set_option maxRecDepth 20000 in
theorem ggX4_back_X4_capsAllow : GoodIn wsX4_back wsX4_capsAllow := goodIn_r _ [26, 27, 28, 29, 30, 6, 31, 8, 9, 80, 81, 82, 83, 84, 85, 74, 75, 76, 77, 78, 79] (by decide +kernel) (by decide +kernel)
set_option maxRecDepth 20000 in
theorem gX4_back_X4_capsAllow : GoodIn wsX4_back (wsV RX4 77 RX4 yX4_capsAllow wsX4_capsAllow) := goodIn_app (goodIn_of _ (by decide +kernel)) ggX4_back_X4_capsAllow
set_option maxRecDepth 20000 in
theorem ggX4_back_X4_chargedSize : GoodIn wsX4_back wsX4_chargedSize := goodIn_r _ [35, 36, 1, 37, 38, 39, 40, 41, 42, 43, 44, 45, 46, 47, 48, 49, 50, 51, 52, 80, 81, 82, 83, 84, 85, 86, 87, 88, 89, 90] (by decide +kernel) (by decide +kernel)
set_option maxRecDepth 20000 in
theorem gX4_back_X4_chargedSize : GoodIn wsX4_back (wsV RX4 81 RX4 yX4_chargedSize wsX4_chargedSize) := goodIn_app (goodIn_of _ (by decide +kernel)) ggX4_back_X4_chargedSize
set_option maxRecDepth 20000 in
theorem ggX4_back_X4_rentOf : GoodIn wsX4_back wsX4_rentOf := goodIn_r _ [56, 36, 1, 57, 58, 59, 44, 60, 61, 47, 48, 49, 50, 51, 52, 80, 81, 82, 83, 84, 85, 86, 87, 88, 89, 90] (by decide +kernel) (by decide +kernel)
set_option maxRecDepth 20000 in
theorem gX4_back_X4_rentOf : GoodIn wsX4_back (wsV RX4 84 RX4 yX4_rentOf wsX4_rentOf) := goodIn_app (goodIn_of _ (by decide +kernel)) ggX4_back_X4_rentOf
set_option maxRecDepth 20000 in
theorem ggX4_back_X3_canPay : GoodIn wsX4_back wsX3_canPay := goodIn_r _ [66, 67, 91, 92, 93, 94, 95, 96] (by decide +kernel) (by decide +kernel)
set_option maxRecDepth 20000 in
theorem gX4_back_X3_canPay : GoodIn wsX4_back (wsV RX4 88 RX3 yX3_canPay wsX3_canPay) := goodIn_app (goodIn_of _ (by decide +kernel)) ggX4_back_X3_canPay
set_option maxRecDepth 20000 in
theorem ggX4_back_X3_takeFrom : GoodIn wsX4_back wsX3_takeFrom := goodIn_r _ [71, 67, 72, 73, 91, 92, 93, 94, 95, 96] (by decide +kernel) (by decide +kernel)
set_option maxRecDepth 20000 in
theorem gX4_back_X3_takeFrom : GoodIn wsX4_back (wsV RX4 95 RX3 yX3_takeFrom wsX3_takeFrom) := goodIn_app (goodIn_of _ (by decide +kernel)) ggX4_back_X3_takeFrom
set_option maxRecDepth 20000 in
theorem ggX4_digest_X4_find : GoodIn wsX4_digest wsX4_find := goodIn_r _ [5, 6, 7, 8, 9, 4, 10, 18, 19, 20, 21, 22, 23] (by decide +kernel) (by decide +kernel)
set_option maxRecDepth 20000 in
theorem gX4_digest_X4_find : GoodIn wsX4_digest (wsV RX4 116 RX4 yX4_find wsX4_find) := goodIn_app (goodIn_of _ (by decide +kernel)) ggX4_digest_X4_find
set_option maxRecDepth 20000 in
theorem ggX4_digest_X1_sumUp : GoodIn wsX4_digest wsX1_sumUp := goodIn_r _ [15, 16, 17, 24, 25, 26, 27, 28, 29] (by decide +kernel) (by decide +kernel)
set_option maxRecDepth 20000 in
theorem gX4_digest_X1_sumUp : GoodIn wsX4_digest (wsV RX4 148 RX1 yX1_sumUp wsX1_sumUp) := goodIn_app (goodIn_of _ (by decide +kernel)) ggX4_digest_X1_sumUp
set_option maxRecDepth 20000 in
theorem ggX4_tick_X4_within : GoodIn wsX4_tick wsX4_within := goodIn_r _ [7] (by decide +kernel) (by decide +kernel)
set_option maxRecDepth 20000 in
theorem gX4_tick_X4_within : GoodIn wsX4_tick (va_wsS RX4 37 yX4_within wsX4_within) := goodIn_app (goodIn_of _ (by decide +kernel)) ggX4_tick_X4_within
set_option maxRecDepth 20000 in
theorem ggX4_tick_X4_archiveUnpaid : GoodIn wsX4_tick wsX4_archiveUnpaid := goodIn_r _ [11, 12, 13, 1, 34, 35, 36, 37, 38, 39, 40, 41, 42, 43, 44, 45] (by decide +kernel) (by decide +kernel)
set_option maxRecDepth 20000 in
theorem gX4_tick_X4_archiveUnpaid : GoodIn wsX4_tick (wsV RX4 151 RX4 yX4_archiveUnpaid wsX4_archiveUnpaid) := goodIn_app (goodIn_of _ (by decide +kernel)) ggX4_tick_X4_archiveUnpaid
set_option maxRecDepth 20000 in
theorem ggX4_tick_X3_sharePool : GoodIn wsX4_tick wsX3_sharePool := goodIn_r _ [18, 19, 20, 21, 22, 17, 23, 24, 25, 26, 27, 28, 29, 30, 31, 32, 33, 46, 47, 48, 49, 50, 51] (by decide +kernel) (by decide +kernel)
set_option maxRecDepth 20000 in
theorem gX4_tick_X3_sharePool : GoodIn wsX4_tick (wsV RX4 154 RX3 yX3_sharePool wsX3_sharePool) := goodIn_app (goodIn_of _ (by decide +kernel)) ggX4_tick_X3_sharePool
set_option maxRecDepth 20000 in
theorem ggX4_weight_X4_isNode : GoodIn wsX4_weight wsX4_isNode := goodIn_r _ [5, 6, 7, 4, 8] (by decide +kernel) (by decide +kernel)
set_option maxRecDepth 20000 in
theorem gX4_weight_X4_isNode : GoodIn wsX4_weight (va_wsS RX4 157 yX4_isNode wsX4_isNode) := goodIn_app (goodIn_of _ (by decide +kernel)) ggX4_weight_X4_isNode
set_option maxRecDepth 20000 in
theorem ggX4_weight_X4_within : GoodIn wsX4_weight wsX4_within := goodIn_r _ [8] (by decide +kernel) (by decide +kernel)
set_option maxRecDepth 20000 in
theorem gX4_weight_X4_within : GoodIn wsX4_weight (va_wsS RX4 37 yX4_within wsX4_within) := goodIn_app (goodIn_of _ (by decide +kernel)) ggX4_weight_X4_within
set_option maxRecDepth 20000 in
theorem ggX4_coins_X4_isAccount : GoodIn wsX4_coins wsX4_isAccount := goodIn_r _ [5, 6, 7, 4, 8] (by decide +kernel) (by decide +kernel)
set_option maxRecDepth 20000 in
theorem gX4_coins_X4_isAccount : GoodIn wsX4_coins (va_wsS RX4 73 yX4_isAccount wsX4_isAccount) := goodIn_app (goodIn_of _ (by decide +kernel)) ggX4_coins_X4_isAccount
set_option maxRecDepth 20000 in
theorem ggX4_coins_X4_isNode : GoodIn wsX4_coins wsX4_isNode := goodIn_r _ [11, 6, 7, 4, 8] (by decide +kernel) (by decide +kernel)
set_option maxRecDepth 20000 in
theorem gX4_coins_X4_isNode : GoodIn wsX4_coins (va_wsS RX4 157 yX4_isNode wsX4_isNode) := goodIn_app (goodIn_of _ (by decide +kernel)) ggX4_coins_X4_isNode
set_option maxRecDepth 20000 in
theorem ggX4_object_X4_find : GoodIn wsX4_object wsX4_find := goodIn_r _ [5, 6, 7, 8, 9, 4, 10, 58, 59, 60, 61, 62, 63] (by decide +kernel) (by decide +kernel)
set_option maxRecDepth 20000 in
theorem gX4_object_X4_find : GoodIn wsX4_object (wsV RX4 116 RX4 yX4_find wsX4_find) := goodIn_app (goodIn_of _ (by decide +kernel)) ggX4_object_X4_find
set_option maxRecDepth 20000 in
theorem ggX4_object_X1_sizeNow : GoodIn wsX4_object wsX1_sizeNow := goodIn_r _ [15, 16, 17, 48, 49, 50, 51, 52, 53] (by decide +kernel) (by decide +kernel)
set_option maxRecDepth 20000 in
theorem gX4_object_X1_sizeNow : GoodIn wsX4_object (wsV RX4 120 RX1 yX1_sizeNow wsX1_sizeNow) := goodIn_app (goodIn_of _ (by decide +kernel)) ggX4_object_X1_sizeNow
set_option maxRecDepth 20000 in
theorem ggX4_object_X2_worth : GoodIn wsX4_object wsX2_worth := goodIn_r _ [22, 23, 24, 25, 54, 55, 56, 57] (by decide +kernel) (by decide +kernel)
set_option maxRecDepth 20000 in
theorem gX4_object_X2_worth : GoodIn wsX4_object (wsV RX4 170 RX2 yX2_worth wsX2_worth) := goodIn_app (goodIn_of _ (by decide +kernel)) ggX4_object_X2_worth
set_option maxRecDepth 20000 in
theorem ggX4_object_X4_chargedSize : GoodIn wsX4_object wsX4_chargedSize := goodIn_r _ [29, 30, 31, 32, 33, 34, 35, 36, 37, 38, 39, 40, 41, 42, 43, 44, 45, 46, 47, 58, 59, 60, 61, 62, 63, 64, 65, 66, 67, 68] (by decide +kernel) (by decide +kernel)
set_option maxRecDepth 20000 in
theorem gX4_object_X4_chargedSize : GoodIn wsX4_object (wsV RX4 81 RX4 yX4_chargedSize wsX4_chargedSize) := goodIn_app (goodIn_of _ (by decide +kernel)) ggX4_object_X4_chargedSize
set_option maxRecDepth 20000 in
theorem ggX4_layer_X4_find : GoodIn wsX4_layer wsX4_find := goodIn_r _ [5, 6, 7, 8, 9, 4, 10, 27, 28, 29, 30, 31, 32] (by decide +kernel) (by decide +kernel)
set_option maxRecDepth 20000 in
theorem gX4_layer_X4_find : GoodIn wsX4_layer (wsV RX4 116 RX4 yX4_find wsX4_find) := goodIn_app (goodIn_of _ (by decide +kernel)) ggX4_layer_X4_find
set_option maxRecDepth 20000 in
theorem ggX4_layer_X4_within : GoodIn wsX4_layer wsX4_within := goodIn_r _ [10] (by decide +kernel) (by decide +kernel)
set_option maxRecDepth 20000 in
theorem gX4_layer_X4_within : GoodIn wsX4_layer (va_wsS RX4 37 yX4_within wsX4_within) := goodIn_app (goodIn_of _ (by decide +kernel)) ggX4_layer_X4_within
set_option maxRecDepth 20000 in
theorem ggX4_layer_X2_has : GoodIn wsX4_layer wsX2_has := goodIn_r _ [15, 16, 9, 4, 10, 23, 24, 25, 26] (by decide +kernel) (by decide +kernel)
set_option maxRecDepth 20000 in
theorem gX4_layer_X2_has : GoodIn wsX4_layer (wsV RX4 173 RX2 yX2_has wsX2_has) := goodIn_app (goodIn_of _ (by decide +kernel)) ggX4_layer_X2_has
set_option maxRecDepth 20000 in
theorem ggX4_word_X4_find : GoodIn wsX4_word wsX4_find := goodIn_r _ [5, 6, 7, 8, 9, 4, 10, 17, 18, 19, 20, 21, 22] (by decide +kernel) (by decide +kernel)
set_option maxRecDepth 20000 in
theorem gX4_word_X4_find : GoodIn wsX4_word (wsV RX4 116 RX4 yX4_find wsX4_find) := goodIn_app (goodIn_of _ (by decide +kernel)) ggX4_word_X4_find
set_option maxRecDepth 20000 in
theorem ggX4_word_X4_within : GoodIn wsX4_word wsX4_within := goodIn_r _ [10] (by decide +kernel) (by decide +kernel)
set_option maxRecDepth 20000 in
theorem gX4_word_X4_within : GoodIn wsX4_word (va_wsS RX4 37 yX4_within wsX4_within) := goodIn_app (goodIn_of _ (by decide +kernel)) ggX4_word_X4_within
set_option maxRecDepth 20000 in
theorem ggX4_wouldGive_X4_find : GoodIn wsX4_wouldGive wsX4_find := goodIn_r _ [5, 6, 7, 8, 9, 4, 10, 36, 37, 38, 39, 40, 41] (by decide +kernel) (by decide +kernel)
set_option maxRecDepth 20000 in
theorem gX4_wouldGive_X4_find : GoodIn wsX4_wouldGive (wsV RX4 116 RX4 yX4_find wsX4_find) := goodIn_app (goodIn_of _ (by decide +kernel)) ggX4_wouldGive_X4_find
set_option maxRecDepth 20000 in
theorem ggX4_wouldGive_X4_isAccount : GoodIn wsX4_wouldGive wsX4_isAccount := goodIn_r _ [13, 8, 9, 4, 10] (by decide +kernel) (by decide +kernel)
set_option maxRecDepth 20000 in
theorem gX4_wouldGive_X4_isAccount : GoodIn wsX4_wouldGive (va_wsS RX4 73 yX4_isAccount wsX4_isAccount) := goodIn_app (goodIn_of _ (by decide +kernel)) ggX4_wouldGive_X4_isAccount
set_option maxRecDepth 20000 in
theorem ggX4_wouldGive_X4_refusalToShrink : GoodIn wsX4_wouldGive wsX4_refusalToShrink := goodIn_r _ [16, 8, 9, 4, 10, 30, 31, 32, 33, 34, 35] (by decide +kernel) (by decide +kernel)
set_option maxRecDepth 20000 in
theorem gX4_wouldGive_X4_refusalToShrink : GoodIn wsX4_wouldGive (va_wsS RX4 138 yX4_refusalToShrink wsX4_refusalToShrink) := goodIn_app (goodIn_of _ (by decide +kernel)) ggX4_wouldGive_X4_refusalToShrink
set_option maxRecDepth 20000 in
theorem ggX4_wouldGive_X2_worthTo : GoodIn wsX4_wouldGive wsX2_worthTo := goodIn_r _ [21, 22, 23, 24, 25, 26, 27, 28, 29, 42, 43, 44, 45] (by decide +kernel) (by decide +kernel)
set_option maxRecDepth 20000 in
theorem gX4_wouldGive_X2_worthTo : GoodIn wsX4_wouldGive (wsV RX4 185 RX2 yX2_worthTo wsX2_worthTo) := goodIn_app (goodIn_of _ (by decide +kernel)) ggX4_wouldGive_X2_worthTo
set_option maxRecDepth 20000 in
theorem ggX4_told_X4_countOf : GoodIn wsX4_told wsX4_countOf := goodIn_r _ [9, 2, 10, 27, 28, 29, 30, 31, 32, 44, 45, 46, 47, 48, 49] (by decide +kernel) (by decide +kernel)
set_option maxRecDepth 20000 in
theorem gX4_told_X4_countOf : GoodIn wsX4_told (wsV RX4 202 RX4 yX4_countOf wsX4_countOf) := goodIn_app (goodIn_of _ (by decide +kernel)) ggX4_told_X4_countOf
set_option maxRecDepth 20000 in
theorem ggX4_told_X4_liveSizes : GoodIn wsX4_told wsX4_liveSizes := goodIn_r _ [14, 2, 10, 27, 28, 29, 30, 31, 32, 44, 45, 46, 47, 48, 49] (by decide +kernel) (by decide +kernel)
set_option maxRecDepth 20000 in
theorem gX4_told_X4_liveSizes : GoodIn wsX4_told (wsV RX4 205 RX4 yX4_liveSizes wsX4_liveSizes) := goodIn_app (goodIn_of _ (by decide +kernel)) ggX4_told_X4_liveSizes
set_option maxRecDepth 20000 in
theorem ggX4_told_X3_allCoins : GoodIn wsX4_told wsX3_allCoins := goodIn_r _ [19, 20, 21, 22, 23, 24, 25, 18, 26, 33, 34, 35, 36, 37, 38] (by decide +kernel) (by decide +kernel)
set_option maxRecDepth 20000 in
theorem gX4_told_X3_allCoins : GoodIn wsX4_told (wsV RX4 214 RX3 yX3_allCoins wsX3_allCoins) := goodIn_app (goodIn_of _ (by decide +kernel)) ggX4_told_X3_allCoins
set_option maxRecDepth 20000 in
theorem ggX4_clear_X4_beginAnew : GoodIn wsX4_clear wsX4_beginAnew := goodIn_r _ [6, 7, 8, 9, 1, 10, 11, 12, 13, 14, 15, 16, 17, 18, 19, 20, 21, 22, 23, 24, 25, 26, 27, 28, 29, 30, 31, 32, 33, 34, 35, 36, 37, 38, 39, 40, 41, 42, 43, 44, 45, 46, 47, 48, 49, 50, 51, 52, 53, 54, 55, 56, 57, 58] (by decide +kernel) (by decide +kernel)
set_option maxRecDepth 20000 in
theorem gX4_clear_X4_beginAnew : GoodIn wsX4_clear (wsV RX4 33 RX4 yX4_beginAnew wsX4_beginAnew) := goodIn_app (goodIn_of _ (by decide +kernel)) ggX4_clear_X4_beginAnew
set_option maxRecDepth 20000 in
theorem ggX4_beginAnew_X0_reset : GoodIn wsX4_beginAnew wsX0_reset := goodIn_r _ [10, 11, 12, 13, 14, 9, 15, 16, 17, 18, 19, 43, 44, 45, 46, 47] (by decide +kernel) (by decide +kernel)
set_option maxRecDepth 20000 in
theorem gX4_beginAnew_X0_reset : GoodIn wsX4_beginAnew (wsV RX4 220 RX0 yX0_reset wsX0_reset) := goodIn_app (goodIn_of _ (by decide +kernel)) ggX4_beginAnew_X0_reset
set_option maxRecDepth 20000 in
theorem ggX4_beginAnew_X3_reset : GoodIn wsX4_beginAnew wsX3_reset := goodIn_r _ [24, 25, 26, 27, 28, 29, 30, 31, 32, 33, 34, 35, 48, 49, 50, 51, 52, 53] (by decide +kernel) (by decide +kernel)
set_option maxRecDepth 20000 in
theorem gX4_beginAnew_X3_reset : GoodIn wsX4_beginAnew (wsV RX4 223 RX3 yX3_reset wsX3_reset) := goodIn_app (goodIn_of _ (by decide +kernel)) ggX4_beginAnew_X3_reset
set_option maxRecDepth 20000 in
theorem ggX4_beginAnew_J7_fill_53178 : GoodIn wsX4_beginAnew wsJ7_fill_53178 := goodIn_r _ [35] (by decide +kernel) (by decide +kernel)
set_option maxRecDepth 20000 in
theorem gX4_beginAnew_J7_fill_53178 : GoodIn wsX4_beginAnew (va_wsS RX4 224 yJ7_fill_53178 wsJ7_fill_53178) := goodIn_app (goodIn_of _ (by decide +kernel)) ggX4_beginAnew_J7_fill_53178
set_option maxRecDepth 20000 in
theorem ggX4_isAccount_X4_within : GoodIn wsX4_isAccount wsX4_within := goodIn_r _ [4] (by decide +kernel) (by decide +kernel)
set_option maxRecDepth 20000 in
theorem gX4_isAccount_X4_within : GoodIn wsX4_isAccount (va_wsS RX4 37 yX4_within wsX4_within) := goodIn_app (goodIn_of _ (by decide +kernel)) ggX4_isAccount_X4_within
set_option maxRecDepth 20000 in
theorem ggX4_isNode_X4_within : GoodIn wsX4_isNode wsX4_within := goodIn_r _ [4] (by decide +kernel) (by decide +kernel)
set_option maxRecDepth 20000 in
theorem gX4_isNode_X4_within : GoodIn wsX4_isNode (va_wsS RX4 37 yX4_within wsX4_within) := goodIn_app (goodIn_of _ (by decide +kernel)) ggX4_isNode_X4_within
set_option maxRecDepth 20000 in
theorem ggX4_find_X4_within : GoodIn wsX4_find wsX4_within := goodIn_r _ [6] (by decide +kernel) (by decide +kernel)
set_option maxRecDepth 20000 in
theorem gX4_find_X4_within : GoodIn wsX4_find (va_wsS RX4 37 yX4_within wsX4_within) := goodIn_app (goodIn_of _ (by decide +kernel)) ggX4_find_X4_within
set_option maxRecDepth 20000 in
theorem ggX4_freshItem_X1_init : GoodIn wsX4_freshItem wsX1_init := goodIn_r _ [7, 8, 9, 10, 11, 12, 13, 14, 15, 16, 17, 18, 19, 20, 21, 22, 29, 30, 31, 32, 33, 34, 35, 36, 37, 38] (by decide +kernel) (by decide +kernel)
set_option maxRecDepth 20000 in
theorem gX4_freshItem_X1_init_n230 : GoodIn wsX4_freshItem (wsX1_init) := ggX4_freshItem_X1_init
set_option maxRecDepth 20000 in
theorem ggX4_chargedSize_X0_leastOn : GoodIn wsX4_chargedSize wsX0_leastOn := goodIn_r _ [11, 12, 13, 14, 15, 10, 16, 17, 18, 25, 26, 27, 28, 29] (by decide +kernel) (by decide +kernel)
set_option maxRecDepth 20000 in
theorem gX4_chargedSize_X0_leastOn : GoodIn wsX4_chargedSize (wsV RX4 67 RX0 yX0_leastOn wsX0_leastOn) := goodIn_app (goodIn_of _ (by decide +kernel)) ggX4_chargedSize_X0_leastOn
set_option maxRecDepth 20000 in
theorem ggX4_rentOf_X0_rentOn : GoodIn wsX4_rentOf wsX0_rentOn := goodIn_r _ [7, 8, 9, 10, 11, 6, 12, 13, 14, 21, 22, 23, 24, 25] (by decide +kernel) (by decide +kernel)
set_option maxRecDepth 20000 in
theorem gX4_rentOf_X0_rentOn : GoodIn wsX4_rentOf (wsV RX4 64 RX0 yX0_rentOn wsX0_rentOn) := goodIn_app (goodIn_of _ (by decide +kernel)) ggX4_rentOf_X0_rentOn
set_option maxRecDepth 20000 in
theorem ggX4_capsAllow_X4_liveSizes : GoodIn wsX4_capsAllow wsX4_liveSizes := goodIn_r _ [6, 7, 8, 9, 10, 11, 12, 13, 14, 15, 16, 17, 18, 19, 20] (by decide +kernel) (by decide +kernel)
set_option maxRecDepth 20000 in
theorem gX4_capsAllow_X4_liveSizes : GoodIn wsX4_capsAllow (wsV RX4 205 RX4 yX4_liveSizes wsX4_liveSizes) := goodIn_app (goodIn_of _ (by decide +kernel)) ggX4_capsAllow_X4_liveSizes
set_option maxRecDepth 20000 in
theorem ggX4_refusalToShrink_X4_within : GoodIn wsX4_refusalToShrink wsX4_within := goodIn_r _ [4] (by decide +kernel) (by decide +kernel)
set_option maxRecDepth 20000 in
theorem gX4_refusalToShrink_X4_within : GoodIn wsX4_refusalToShrink (va_wsS RX4 37 yX4_within wsX4_within) := goodIn_app (goodIn_of _ (by decide +kernel)) ggX4_refusalToShrink_X4_within
set_option maxRecDepth 20000 in
theorem ggX4_giveBack_X2_worthTo : GoodIn wsX4_giveBack wsX2_worthTo := goodIn_r _ [6, 7, 8, 9, 10, 11, 12, 13, 14, 38, 39, 40, 41] (by decide +kernel) (by decide +kernel)
set_option maxRecDepth 20000 in
theorem gX4_giveBack_X2_worthTo : GoodIn wsX4_giveBack (wsV RX4 185 RX2 yX2_worthTo wsX2_worthTo) := goodIn_app (goodIn_of _ (by decide +kernel)) ggX4_giveBack_X2_worthTo
set_option maxRecDepth 20000 in
theorem ggX4_giveBack_X3_giveTo : GoodIn wsX4_giveBack wsX3_giveTo := goodIn_r _ [19, 20, 21, 42, 43, 44, 45, 46, 47] (by decide +kernel) (by decide +kernel)
set_option maxRecDepth 20000 in
theorem gX4_giveBack_X3_giveTo : GoodIn wsX4_giveBack (wsV RX4 236 RX3 yX3_giveTo wsX3_giveTo) := goodIn_app (goodIn_of _ (by decide +kernel)) ggX4_giveBack_X3_giveTo
set_option maxRecDepth 20000 in
theorem ggX4_giveBack_X2_remove : GoodIn wsX4_giveBack wsX2_remove := goodIn_r _ [25, 7, 8, 9, 10, 11, 12, 38, 39, 40, 41] (by decide +kernel) (by decide +kernel)
set_option maxRecDepth 20000 in
theorem gX4_giveBack_X2_remove : GoodIn wsX4_giveBack (wsV RX4 239 RX2 yX2_remove wsX2_remove) := goodIn_app (goodIn_of _ (by decide +kernel)) ggX4_giveBack_X2_remove
end
section
theorem dX5_init_0 : decode cX5_init 0 = .ok (.aload_n 0, 1) := by decide +kernel
theorem dX5_init_1 : decode cX5_init 1 = .ok (.invokespecial 1, 3) := by decide +kernel
theorem dX5_init_4 : decode cX5_init 4 = .ok (.aload_n 0, 1) := by decide +kernel
theorem dX5_init_5 : decode cX5_init 5 = .ok (.bipush 10, 2) := by decide +kernel
theorem dX5_init_7 : decode cX5_init 7 = .ok (.newarray .int, 2) := by decide +kernel
theorem dX5_init_9 : decode cX5_init 9 = .ok (.putfield 7, 3) := by decide +kernel
theorem dX5_init_12 : decode cX5_init 12 = .ok (.aload_n 0, 1) := by decide +kernel
theorem dX5_init_13 : decode cX5_init 13 = .ok (.bipush 10, 2) := by decide +kernel
theorem dX5_init_15 : decode cX5_init 15 = .ok (.newarray .int, 2) := by decide +kernel
theorem dX5_init_17 : decode cX5_init 17 = .ok (.putfield 13, 3) := by decide +kernel
theorem dX5_init_20 : decode cX5_init 20 = .ok (.aload_n 0, 1) := by decide +kernel
theorem dX5_init_21 : decode cX5_init 21 = .ok (.bipush 10, 2) := by decide +kernel
theorem dX5_init_23 : decode cX5_init 23 = .ok (.newarray .int, 2) := by decide +kernel
theorem dX5_init_25 : decode cX5_init 25 = .ok (.putfield 16, 3) := by decide +kernel
theorem dX5_init_28 : decode cX5_init 28 = .ok (.aload_n 0, 1) := by decide +kernel
theorem dX5_init_29 : decode cX5_init 29 = .ok (.bipush 10, 2) := by decide +kernel
theorem dX5_init_31 : decode cX5_init 31 = .ok (.newarray .int, 2) := by decide +kernel
theorem dX5_init_33 : decode cX5_init 33 = .ok (.putfield 19, 3) := by decide +kernel
theorem dX5_init_36 : decode cX5_init 36 = .ok (.aload_n 0, 1) := by decide +kernel
theorem dX5_init_37 : decode cX5_init 37 = .ok (.bipush 6, 2) := by decide +kernel
theorem dX5_init_39 : decode cX5_init 39 = .ok (.newarray .int, 2) := by decide +kernel
theorem dX5_init_41 : decode cX5_init 41 = .ok (.putfield 22, 3) := by decide +kernel
theorem dX5_init_44 : decode cX5_init 44 = .ok (.aload_n 0, 1) := by decide +kernel
theorem dX5_init_45 : decode cX5_init 45 = .ok (.bipush 6, 2) := by decide +kernel
theorem dX5_init_47 : decode cX5_init 47 = .ok (.newarray .int, 2) := by decide +kernel
theorem dX5_init_49 : decode cX5_init 49 = .ok (.putfield 25, 3) := by decide +kernel
theorem dX5_init_52 : decode cX5_init 52 = .ok (.aload_n 0, 1) := by decide +kernel
theorem dX5_init_53 : decode cX5_init 53 = .ok (.iconst 5, 1) := by decide +kernel
theorem dX5_init_54 : decode cX5_init 54 = .ok (.newarray .int, 2) := by decide +kernel
theorem dX5_init_56 : decode cX5_init 56 = .ok (.putfield 28, 3) := by decide +kernel
theorem dX5_init_59 : decode cX5_init 59 = .ok (.aload_n 0, 1) := by decide +kernel
theorem dX5_init_60 : decode cX5_init 60 = .ok (.iconst 5, 1) := by decide +kernel
theorem dX5_init_61 : decode cX5_init 61 = .ok (.newarray .int, 2) := by decide +kernel
theorem dX5_init_63 : decode cX5_init 63 = .ok (.putfield 31, 3) := by decide +kernel
theorem dX5_init_66 : decode cX5_init 66 = .ok (.aload_n 0, 1) := by decide +kernel
theorem dX5_init_67 : decode cX5_init 67 = .ok (.bipush 60, 2) := by decide +kernel
theorem dX5_init_69 : decode cX5_init 69 = .ok (.newarray .int, 2) := by decide +kernel
theorem dX5_init_71 : decode cX5_init 71 = .ok (.putfield 34, 3) := by decide +kernel
theorem dX5_init_74 : decode cX5_init 74 = .ok (.aload_n 0, 1) := by decide +kernel
theorem dX5_init_75 : decode cX5_init 75 = .ok (.bipush 60, 2) := by decide +kernel
theorem dX5_init_77 : decode cX5_init 77 = .ok (.newarray .int, 2) := by decide +kernel
theorem dX5_init_79 : decode cX5_init 79 = .ok (.putfield 37, 3) := by decide +kernel
theorem dX5_init_82 : decode cX5_init 82 = .ok (.aload_n 0, 1) := by decide +kernel
theorem dX5_init_83 : decode cX5_init 83 = .ok (.sipush 240, 3) := by decide +kernel
theorem dX5_init_86 : decode cX5_init 86 = .ok (.newarray .int, 2) := by decide +kernel
theorem dX5_init_88 : decode cX5_init 88 = .ok (.putfield 40, 3) := by decide +kernel
theorem dX5_init_91 : decode cX5_init 91 = .ok (.aload_n 0, 1) := by decide +kernel
theorem dX5_init_92 : decode cX5_init 92 = .ok (.bipush 60, 2) := by decide +kernel
theorem dX5_init_94 : decode cX5_init 94 = .ok (.newarray .int, 2) := by decide +kernel
theorem dX5_init_96 : decode cX5_init 96 = .ok (.putfield 43, 3) := by decide +kernel
theorem dX5_init_99 : decode cX5_init 99 = .ok (.aload_n 0, 1) := by decide +kernel
theorem dX5_init_100 : decode cX5_init 100 = .ok (.bipush 60, 2) := by decide +kernel
theorem dX5_init_102 : decode cX5_init 102 = .ok (.newarray .int, 2) := by decide +kernel
theorem dX5_init_104 : decode cX5_init 104 = .ok (.putfield 46, 3) := by decide +kernel
theorem dX5_init_107 : decode cX5_init 107 = .ok (.aload_n 0, 1) := by decide +kernel
theorem dX5_init_108 : decode cX5_init 108 = .ok (.bipush 60, 2) := by decide +kernel
theorem dX5_init_110 : decode cX5_init 110 = .ok (.newarray .int, 2) := by decide +kernel
theorem dX5_init_112 : decode cX5_init 112 = .ok (.putfield 49, 3) := by decide +kernel
theorem dX5_init_115 : decode cX5_init 115 = .ok (.aload_n 0, 1) := by decide +kernel
theorem dX5_init_116 : decode cX5_init 116 = .ok (.sipush 960, 3) := by decide +kernel
theorem dX5_init_119 : decode cX5_init 119 = .ok (.newarray .int, 2) := by decide +kernel
theorem dX5_init_121 : decode cX5_init 121 = .ok (.putfield 52, 3) := by decide +kernel
theorem dX5_init_124 : decode cX5_init 124 = .ok (.aload_n 0, 1) := by decide +kernel
theorem dX5_init_125 : decode cX5_init 125 = .ok (.sipush 960, 3) := by decide +kernel
theorem dX5_init_128 : decode cX5_init 128 = .ok (.newarray .int, 2) := by decide +kernel
theorem dX5_init_130 : decode cX5_init 130 = .ok (.putfield 55, 3) := by decide +kernel
theorem dX5_init_133 : decode cX5_init 133 = .ok (.aload_n 0, 1) := by decide +kernel
theorem dX5_init_134 : decode cX5_init 134 = .ok (.sipush 960, 3) := by decide +kernel
theorem dX5_init_137 : decode cX5_init 137 = .ok (.newarray .int, 2) := by decide +kernel
theorem dX5_init_139 : decode cX5_init 139 = .ok (.putfield 58, 3) := by decide +kernel
theorem dX5_init_142 : decode cX5_init 142 = .ok (.aload_n 0, 1) := by decide +kernel
theorem dX5_init_143 : decode cX5_init 143 = .ok (.invokevirtual 61, 3) := by decide +kernel
theorem dX5_init_146 : decode cX5_init 146 = .ok (.return_, 1) := by decide +kernel
theorem dX5_in_0 : decode cX5_in 0 = .ok (.lload_n 0, 1) := by decide +kernel
theorem dX5_in_1 : decode cX5_in 1 = .ok (.lload_n 2, 1) := by decide +kernel
theorem dX5_in_2 : decode cX5_in 2 = .ok (.lcmp, 1) := by decide +kernel
theorem dX5_in_3 : decode cX5_in 3 = .ok (.ifCond .lt 14, 3) := by decide +kernel
theorem dX5_in_6 : decode cX5_in 6 = .ok (.lload_n 0, 1) := by decide +kernel
theorem dX5_in_7 : decode cX5_in 7 = .ok (.lload 4, 2) := by decide +kernel
theorem dX5_in_9 : decode cX5_in 9 = .ok (.lcmp, 1) := by decide +kernel
theorem dX5_in_10 : decode cX5_in 10 = .ok (.ifCond .gt 7, 3) := by decide +kernel
theorem dX5_in_13 : decode cX5_in 13 = .ok (.iconst 1, 1) := by decide +kernel
theorem dX5_in_14 : decode cX5_in 14 = .ok (.goto 4, 3) := by decide +kernel
theorem dX5_in_17 : decode cX5_in 17 = .ok (.iconst 0, 1) := by decide +kernel
theorem dX5_in_18 : decode cX5_in 18 = .ok (.ireturn, 1) := by decide +kernel
theorem dX5_begin_0 : decode cX5_begin 0 = .ok (.aload_n 0, 1) := by decide +kernel
theorem dX5_begin_1 : decode cX5_begin 1 = .ok (.iconst 0, 1) := by decide +kernel
theorem dX5_begin_2 : decode cX5_begin 2 = .ok (.putfield 64, 3) := by decide +kernel
theorem dX5_begin_5 : decode cX5_begin 5 = .ok (.aload_n 0, 1) := by decide +kernel
theorem dX5_begin_6 : decode cX5_begin 6 = .ok (.iconst 1, 1) := by decide +kernel
theorem dX5_begin_7 : decode cX5_begin 7 = .ok (.putfield 68, 3) := by decide +kernel
theorem dX5_begin_10 : decode cX5_begin 10 = .ok (.aload_n 0, 1) := by decide +kernel
theorem dX5_begin_11 : decode cX5_begin 11 = .ok (.getfield 7, 3) := by decide +kernel
theorem dX5_begin_14 : decode cX5_begin 14 = .ok (.iconst 0, 1) := by decide +kernel
theorem dX5_begin_15 : decode cX5_begin 15 = .ok (.iconst 0, 1) := by decide +kernel
theorem dX5_begin_16 : decode cX5_begin 16 = .ok (.iastore, 1) := by decide +kernel
theorem dX5_begin_17 : decode cX5_begin 17 = .ok (.aload_n 0, 1) := by decide +kernel
theorem dX5_begin_18 : decode cX5_begin 18 = .ok (.getfield 13, 3) := by decide +kernel
theorem dX5_begin_21 : decode cX5_begin 21 = .ok (.iconst 0, 1) := by decide +kernel
theorem dX5_begin_22 : decode cX5_begin 22 = .ok (.bipush 10, 2) := by decide +kernel
theorem dX5_begin_24 : decode cX5_begin 24 = .ok (.iastore, 1) := by decide +kernel
theorem dX5_begin_25 : decode cX5_begin 25 = .ok (.aload_n 0, 1) := by decide +kernel
theorem dX5_begin_26 : decode cX5_begin 26 = .ok (.getfield 16, 3) := by decide +kernel
theorem dX5_begin_29 : decode cX5_begin 29 = .ok (.iconst 0, 1) := by decide +kernel
theorem dX5_begin_30 : decode cX5_begin 30 = .ok (.iconst 1, 1) := by decide +kernel
theorem dX5_begin_31 : decode cX5_begin 31 = .ok (.iastore, 1) := by decide +kernel
theorem dX5_begin_32 : decode cX5_begin 32 = .ok (.aload_n 0, 1) := by decide +kernel
theorem dX5_begin_33 : decode cX5_begin 33 = .ok (.getfield 19, 3) := by decide +kernel
theorem dX5_begin_36 : decode cX5_begin 36 = .ok (.iconst 0, 1) := by decide +kernel
theorem dX5_begin_37 : decode cX5_begin 37 = .ok (.bipush 8, 2) := by decide +kernel
theorem dX5_begin_39 : decode cX5_begin 39 = .ok (.iastore, 1) := by decide +kernel
theorem dX5_begin_40 : decode cX5_begin 40 = .ok (.iconst 0, 1) := by decide +kernel
theorem dX5_begin_41 : decode cX5_begin 41 = .ok (.istore_n 1, 1) := by decide +kernel
theorem dX5_begin_42 : decode cX5_begin 42 = .ok (.iload_n 1, 1) := by decide +kernel
theorem dX5_begin_43 : decode cX5_begin 43 = .ok (.bipush 6, 2) := by decide +kernel
theorem dX5_begin_45 : decode cX5_begin 45 = .ok (.if_icmp .ge 26, 3) := by decide +kernel
theorem dX5_begin_48 : decode cX5_begin 48 = .ok (.aload_n 0, 1) := by decide +kernel
theorem dX5_begin_49 : decode cX5_begin 49 = .ok (.getfield 22, 3) := by decide +kernel
theorem dX5_begin_52 : decode cX5_begin 52 = .ok (.iload_n 1, 1) := by decide +kernel
theorem dX5_begin_53 : decode cX5_begin 53 = .ok (.ldc 71, 2) := by decide +kernel
theorem dX5_begin_55 : decode cX5_begin 55 = .ok (.iastore, 1) := by decide +kernel
theorem dX5_begin_56 : decode cX5_begin 56 = .ok (.aload_n 0, 1) := by decide +kernel
theorem dX5_begin_57 : decode cX5_begin 57 = .ok (.getfield 25, 3) := by decide +kernel
theorem dX5_begin_60 : decode cX5_begin 60 = .ok (.iload_n 1, 1) := by decide +kernel
theorem dX5_begin_61 : decode cX5_begin 61 = .ok (.sipush 1000, 3) := by decide +kernel
theorem dX5_begin_64 : decode cX5_begin 64 = .ok (.iastore, 1) := by decide +kernel
theorem dX5_begin_65 : decode cX5_begin 65 = .ok (.iinc 1 1, 3) := by decide +kernel
theorem dX5_begin_68 : decode cX5_begin 68 = .ok (.goto (-26), 3) := by decide +kernel
theorem dX5_begin_71 : decode cX5_begin 71 = .ok (.iconst 0, 1) := by decide +kernel
theorem dX5_begin_72 : decode cX5_begin 72 = .ok (.istore_n 1, 1) := by decide +kernel
theorem dX5_begin_73 : decode cX5_begin 73 = .ok (.iload_n 1, 1) := by decide +kernel
theorem dX5_begin_74 : decode cX5_begin 74 = .ok (.iconst 5, 1) := by decide +kernel
theorem dX5_begin_75 : decode cX5_begin 75 = .ok (.if_icmp .ge 23, 3) := by decide +kernel
theorem dX5_begin_78 : decode cX5_begin 78 = .ok (.aload_n 0, 1) := by decide +kernel
theorem dX5_begin_79 : decode cX5_begin 79 = .ok (.getfield 28, 3) := by decide +kernel
theorem dX5_begin_82 : decode cX5_begin 82 = .ok (.iload_n 1, 1) := by decide +kernel
theorem dX5_begin_83 : decode cX5_begin 83 = .ok (.iconst 0, 1) := by decide +kernel
theorem dX5_begin_84 : decode cX5_begin 84 = .ok (.iastore, 1) := by decide +kernel
theorem dX5_begin_85 : decode cX5_begin 85 = .ok (.aload_n 0, 1) := by decide +kernel
theorem dX5_begin_86 : decode cX5_begin 86 = .ok (.getfield 31, 3) := by decide +kernel
theorem dX5_begin_89 : decode cX5_begin 89 = .ok (.iload_n 1, 1) := by decide +kernel
theorem dX5_begin_90 : decode cX5_begin 90 = .ok (.iconst 0, 1) := by decide +kernel
theorem dX5_begin_91 : decode cX5_begin 91 = .ok (.iastore, 1) := by decide +kernel
theorem dX5_begin_92 : decode cX5_begin 92 = .ok (.iinc 1 1, 3) := by decide +kernel
theorem dX5_begin_95 : decode cX5_begin 95 = .ok (.goto (-22), 3) := by decide +kernel
theorem dX5_begin_98 : decode cX5_begin 98 = .ok (.aload_n 0, 1) := by decide +kernel
theorem dX5_begin_99 : decode cX5_begin 99 = .ok (.iconst 0, 1) := by decide +kernel
theorem dX5_begin_100 : decode cX5_begin 100 = .ok (.putfield 72, 3) := by decide +kernel
theorem dX5_begin_103 : decode cX5_begin 103 = .ok (.aload_n 0, 1) := by decide +kernel
theorem dX5_begin_104 : decode cX5_begin 104 = .ok (.iconst 0, 1) := by decide +kernel
theorem dX5_begin_105 : decode cX5_begin 105 = .ok (.putfield 75, 3) := by decide +kernel
theorem dX5_begin_108 : decode cX5_begin 108 = .ok (.aload_n 0, 1) := by decide +kernel
theorem dX5_begin_109 : decode cX5_begin 109 = .ok (.iconst 0, 1) := by decide +kernel
theorem dX5_begin_110 : decode cX5_begin 110 = .ok (.putfield 78, 3) := by decide +kernel
theorem dX5_begin_113 : decode cX5_begin 113 = .ok (.return_, 1) := by decide +kernel
theorem dX5_noAccount_0 : decode cX5_noAccount 0 = .ok (.iload_n 1, 1) := by decide +kernel
theorem dX5_noAccount_1 : decode cX5_noAccount 1 = .ok (.i2l, 1) := by decide +kernel
theorem dX5_noAccount_2 : decode cX5_noAccount 2 = .ok (.lconst 0, 1) := by decide +kernel
theorem dX5_noAccount_3 : decode cX5_noAccount 3 = .ok (.ldc2_w 81, 3) := by decide +kernel
theorem dX5_noAccount_6 : decode cX5_noAccount 6 = .ok (.invokestatic 83, 3) := by decide +kernel
theorem dX5_noAccount_9 : decode cX5_noAccount 9 = .ok (.ifCond .ne 7, 3) := by decide +kernel
theorem dX5_noAccount_12 : decode cX5_noAccount 12 = .ok (.iconst 1, 1) := by decide +kernel
theorem dX5_noAccount_13 : decode cX5_noAccount 13 = .ok (.goto 4, 3) := by decide +kernel
theorem dX5_noAccount_16 : decode cX5_noAccount 16 = .ok (.iconst 0, 1) := by decide +kernel
theorem dX5_noAccount_17 : decode cX5_noAccount 17 = .ok (.ireturn, 1) := by decide +kernel
theorem dX5_noObject_0 : decode cX5_noObject 0 = .ok (.iload_n 1, 1) := by decide +kernel
theorem dX5_noObject_1 : decode cX5_noObject 1 = .ok (.i2l, 1) := by decide +kernel
theorem dX5_noObject_2 : decode cX5_noObject 2 = .ok (.lconst 0, 1) := by decide +kernel
theorem dX5_noObject_3 : decode cX5_noObject 3 = .ok (.aload_n 0, 1) := by decide +kernel
theorem dX5_noObject_4 : decode cX5_noObject 4 = .ok (.getfield 78, 3) := by decide +kernel
theorem dX5_noObject_7 : decode cX5_noObject 7 = .ok (.iconst 1, 1) := by decide +kernel
theorem dX5_noObject_8 : decode cX5_noObject 8 = .ok (.isub, 1) := by decide +kernel
theorem dX5_noObject_9 : decode cX5_noObject 9 = .ok (.i2l, 1) := by decide +kernel
theorem dX5_noObject_10 : decode cX5_noObject 10 = .ok (.invokestatic 83, 3) := by decide +kernel
theorem dX5_noObject_13 : decode cX5_noObject 13 = .ok (.ifCond .ne 7, 3) := by decide +kernel
theorem dX5_noObject_16 : decode cX5_noObject 16 = .ok (.iconst 1, 1) := by decide +kernel
theorem dX5_noObject_17 : decode cX5_noObject 17 = .ok (.goto 4, 3) := by decide +kernel
theorem dX5_noObject_20 : decode cX5_noObject 20 = .ok (.iconst 0, 1) := by decide +kernel
theorem dX5_noObject_21 : decode cX5_noObject 21 = .ok (.ireturn, 1) := by decide +kernel
theorem dX5_edition_0 : decode cX5_edition 0 = .ok (.iload_n 1, 1) := by decide +kernel
theorem dX5_edition_1 : decode cX5_edition 1 = .ok (.i2l, 1) := by decide +kernel
theorem dX5_edition_2 : decode cX5_edition 2 = .ok (.lconst 0, 1) := by decide +kernel
theorem dX5_edition_3 : decode cX5_edition 3 = .ok (.ldc2_w 87, 3) := by decide +kernel
theorem dX5_edition_6 : decode cX5_edition 6 = .ok (.invokestatic 83, 3) := by decide +kernel
theorem dX5_edition_9 : decode cX5_edition 9 = .ok (.ifCond .eq 40, 3) := by decide +kernel
theorem dX5_edition_12 : decode cX5_edition 12 = .ok (.iload_n 2, 1) := by decide +kernel
theorem dX5_edition_13 : decode cX5_edition 13 = .ok (.i2l, 1) := by decide +kernel
theorem dX5_edition_14 : decode cX5_edition 14 = .ok (.lconst 0, 1) := by decide +kernel
theorem dX5_edition_15 : decode cX5_edition 15 = .ok (.ldc2_w 89, 3) := by decide +kernel
theorem dX5_edition_18 : decode cX5_edition 18 = .ok (.invokestatic 83, 3) := by decide +kernel
theorem dX5_edition_21 : decode cX5_edition 21 = .ok (.ifCond .eq 28, 3) := by decide +kernel
theorem dX5_edition_24 : decode cX5_edition 24 = .ok (.iload_n 3, 1) := by decide +kernel
theorem dX5_edition_25 : decode cX5_edition 25 = .ok (.i2l, 1) := by decide +kernel
theorem dX5_edition_26 : decode cX5_edition 26 = .ok (.lconst 0, 1) := by decide +kernel
theorem dX5_edition_27 : decode cX5_edition 27 = .ok (.ldc2_w 91, 3) := by decide +kernel
theorem dX5_edition_30 : decode cX5_edition 30 = .ok (.invokestatic 83, 3) := by decide +kernel
theorem dX5_edition_33 : decode cX5_edition 33 = .ok (.ifCond .eq 16, 3) := by decide +kernel
theorem dX5_edition_36 : decode cX5_edition 36 = .ok (.iload 4, 2) := by decide +kernel
theorem dX5_edition_38 : decode cX5_edition 38 = .ok (.i2l, 1) := by decide +kernel
theorem dX5_edition_39 : decode cX5_edition 39 = .ok (.lconst 1, 1) := by decide +kernel
theorem dX5_edition_40 : decode cX5_edition 40 = .ok (.ldc2_w 93, 3) := by decide +kernel
theorem dX5_edition_43 : decode cX5_edition 43 = .ok (.invokestatic 83, 3) := by decide +kernel
theorem dX5_edition_46 : decode cX5_edition 46 = .ok (.ifCond .ne 6, 3) := by decide +kernel
theorem dX5_edition_49 : decode cX5_edition 49 = .ok (.bipush (-102), 2) := by decide +kernel
theorem dX5_edition_51 : decode cX5_edition 51 = .ok (.ireturn, 1) := by decide +kernel
theorem dX5_edition_52 : decode cX5_edition 52 = .ok (.iload_n 1, 1) := by decide +kernel
theorem dX5_edition_53 : decode cX5_edition 53 = .ok (.aload_n 0, 1) := by decide +kernel
theorem dX5_edition_54 : decode cX5_edition 54 = .ok (.getfield 64, 3) := by decide +kernel
theorem dX5_edition_57 : decode cX5_edition 57 = .ok (.iconst 5, 1) := by decide +kernel
theorem dX5_edition_58 : decode cX5_edition 58 = .ok (.iadd, 1) := by decide +kernel
theorem dX5_edition_59 : decode cX5_edition 59 = .ok (.if_icmp .lt 18, 3) := by decide +kernel
theorem dX5_edition_62 : decode cX5_edition 62 = .ok (.iload_n 1, 1) := by decide +kernel
theorem dX5_edition_63 : decode cX5_edition 63 = .ok (.aload_n 0, 1) := by decide +kernel
theorem dX5_edition_64 : decode cX5_edition 64 = .ok (.getfield 7, 3) := by decide +kernel
theorem dX5_edition_67 : decode cX5_edition 67 = .ok (.aload_n 0, 1) := by decide +kernel
theorem dX5_edition_68 : decode cX5_edition 68 = .ok (.getfield 68, 3) := by decide +kernel
theorem dX5_edition_71 : decode cX5_edition 71 = .ok (.iconst 1, 1) := by decide +kernel
theorem dX5_edition_72 : decode cX5_edition 72 = .ok (.isub, 1) := by decide +kernel
theorem dX5_edition_73 : decode cX5_edition 73 = .ok (.iaload, 1) := by decide +kernel
theorem dX5_edition_74 : decode cX5_edition 74 = .ok (.if_icmp .gt 6, 3) := by decide +kernel
theorem dX5_edition_77 : decode cX5_edition 77 = .ok (.bipush (-103), 2) := by decide +kernel
theorem dX5_edition_79 : decode cX5_edition 79 = .ok (.ireturn, 1) := by decide +kernel
theorem dX5_edition_80 : decode cX5_edition 80 = .ok (.aload_n 0, 1) := by decide +kernel
theorem dX5_edition_81 : decode cX5_edition 81 = .ok (.getfield 68, 3) := by decide +kernel
theorem dX5_edition_84 : decode cX5_edition 84 = .ok (.bipush 10, 2) := by decide +kernel
theorem dX5_edition_86 : decode cX5_edition 86 = .ok (.if_icmp .ne 6, 3) := by decide +kernel
theorem dX5_edition_89 : decode cX5_edition 89 = .ok (.bipush (-107), 2) := by decide +kernel
theorem dX5_edition_91 : decode cX5_edition 91 = .ok (.ireturn, 1) := by decide +kernel
theorem dX5_edition_92 : decode cX5_edition 92 = .ok (.aload_n 0, 1) := by decide +kernel
theorem dX5_edition_93 : decode cX5_edition 93 = .ok (.getfield 7, 3) := by decide +kernel
theorem dX5_edition_96 : decode cX5_edition 96 = .ok (.aload_n 0, 1) := by decide +kernel
theorem dX5_edition_97 : decode cX5_edition 97 = .ok (.getfield 68, 3) := by decide +kernel
theorem dX5_edition_100 : decode cX5_edition 100 = .ok (.iload_n 1, 1) := by decide +kernel
theorem dX5_edition_101 : decode cX5_edition 101 = .ok (.iastore, 1) := by decide +kernel
theorem dX5_edition_102 : decode cX5_edition 102 = .ok (.aload_n 0, 1) := by decide +kernel
theorem dX5_edition_103 : decode cX5_edition 103 = .ok (.getfield 13, 3) := by decide +kernel
theorem dX5_edition_106 : decode cX5_edition 106 = .ok (.aload_n 0, 1) := by decide +kernel
theorem dX5_edition_107 : decode cX5_edition 107 = .ok (.getfield 68, 3) := by decide +kernel
theorem dX5_edition_110 : decode cX5_edition 110 = .ok (.iload_n 2, 1) := by decide +kernel
theorem dX5_edition_111 : decode cX5_edition 111 = .ok (.iastore, 1) := by decide +kernel
theorem dX5_edition_112 : decode cX5_edition 112 = .ok (.aload_n 0, 1) := by decide +kernel
theorem dX5_edition_113 : decode cX5_edition 113 = .ok (.getfield 16, 3) := by decide +kernel
theorem dX5_edition_116 : decode cX5_edition 116 = .ok (.aload_n 0, 1) := by decide +kernel
theorem dX5_edition_117 : decode cX5_edition 117 = .ok (.getfield 68, 3) := by decide +kernel
theorem dX5_edition_120 : decode cX5_edition 120 = .ok (.iload_n 3, 1) := by decide +kernel
theorem dX5_edition_121 : decode cX5_edition 121 = .ok (.iastore, 1) := by decide +kernel
theorem dX5_edition_122 : decode cX5_edition 122 = .ok (.aload_n 0, 1) := by decide +kernel
theorem dX5_edition_123 : decode cX5_edition 123 = .ok (.getfield 19, 3) := by decide +kernel
theorem dX5_edition_126 : decode cX5_edition 126 = .ok (.aload_n 0, 1) := by decide +kernel
theorem dX5_edition_127 : decode cX5_edition 127 = .ok (.getfield 68, 3) := by decide +kernel
theorem dX5_edition_130 : decode cX5_edition 130 = .ok (.iload 4, 2) := by decide +kernel
theorem dX5_edition_132 : decode cX5_edition 132 = .ok (.iastore, 1) := by decide +kernel
theorem dX5_edition_133 : decode cX5_edition 133 = .ok (.aload_n 0, 1) := by decide +kernel
theorem dX5_edition_134 : decode cX5_edition 134 = .ok (.dup, 1) := by decide +kernel
theorem dX5_edition_135 : decode cX5_edition 135 = .ok (.getfield 68, 3) := by decide +kernel
theorem dX5_edition_138 : decode cX5_edition 138 = .ok (.iconst 1, 1) := by decide +kernel
theorem dX5_edition_139 : decode cX5_edition 139 = .ok (.iadd, 1) := by decide +kernel
theorem dX5_edition_140 : decode cX5_edition 140 = .ok (.putfield 68, 3) := by decide +kernel
theorem dX5_edition_143 : decode cX5_edition 143 = .ok (.aload_n 0, 1) := by decide +kernel
theorem dX5_edition_144 : decode cX5_edition 144 = .ok (.getfield 68, 3) := by decide +kernel
theorem dX5_edition_147 : decode cX5_edition 147 = .ok (.ireturn, 1) := by decide +kernel
theorem dX5_editionAt_0 : decode cX5_editionAt 0 = .ok (.iconst 0, 1) := by decide +kernel
theorem dX5_editionAt_1 : decode cX5_editionAt 1 = .ok (.istore_n 2, 1) := by decide +kernel
theorem dX5_editionAt_2 : decode cX5_editionAt 2 = .ok (.iconst 0, 1) := by decide +kernel
theorem dX5_editionAt_3 : decode cX5_editionAt 3 = .ok (.istore_n 3, 1) := by decide +kernel
theorem dX5_editionAt_4 : decode cX5_editionAt 4 = .ok (.iload_n 3, 1) := by decide +kernel
theorem dX5_editionAt_5 : decode cX5_editionAt 5 = .ok (.aload_n 0, 1) := by decide +kernel
theorem dX5_editionAt_6 : decode cX5_editionAt 6 = .ok (.getfield 68, 3) := by decide +kernel
theorem dX5_editionAt_9 : decode cX5_editionAt 9 = .ok (.if_icmp .ge 25, 3) := by decide +kernel
theorem dX5_editionAt_12 : decode cX5_editionAt 12 = .ok (.aload_n 0, 1) := by decide +kernel
theorem dX5_editionAt_13 : decode cX5_editionAt 13 = .ok (.getfield 7, 3) := by decide +kernel
theorem dX5_editionAt_16 : decode cX5_editionAt 16 = .ok (.iload_n 3, 1) := by decide +kernel
theorem dX5_editionAt_17 : decode cX5_editionAt 17 = .ok (.iaload, 1) := by decide +kernel
theorem dX5_editionAt_18 : decode cX5_editionAt 18 = .ok (.iload_n 1, 1) := by decide +kernel
theorem dX5_editionAt_19 : decode cX5_editionAt 19 = .ok (.if_icmp .gt 7, 3) := by decide +kernel
theorem dX5_editionAt_22 : decode cX5_editionAt 22 = .ok (.iload_n 3, 1) := by decide +kernel
theorem dX5_editionAt_23 : decode cX5_editionAt 23 = .ok (.goto 4, 3) := by decide +kernel
theorem dX5_editionAt_26 : decode cX5_editionAt 26 = .ok (.iload_n 2, 1) := by decide +kernel
theorem dX5_editionAt_27 : decode cX5_editionAt 27 = .ok (.istore_n 2, 1) := by decide +kernel
theorem dX5_editionAt_28 : decode cX5_editionAt 28 = .ok (.iinc 3 1, 3) := by decide +kernel
theorem dX5_editionAt_31 : decode cX5_editionAt 31 = .ok (.goto (-27), 3) := by decide +kernel
theorem dX5_editionAt_34 : decode cX5_editionAt 34 = .ok (.iload_n 2, 1) := by decide +kernel
theorem dX5_editionAt_35 : decode cX5_editionAt 35 = .ok (.ireturn, 1) := by decide +kernel
theorem dX5_priceAt_0 : decode cX5_priceAt 0 = .ok (.iload_n 1, 1) := by decide +kernel
theorem dX5_priceAt_1 : decode cX5_priceAt 1 = .ok (.i2l, 1) := by decide +kernel
theorem dX5_priceAt_2 : decode cX5_priceAt 2 = .ok (.lconst 0, 1) := by decide +kernel
theorem dX5_priceAt_3 : decode cX5_priceAt 3 = .ok (.ldc2_w 87, 3) := by decide +kernel
theorem dX5_priceAt_6 : decode cX5_priceAt 6 = .ok (.invokestatic 83, 3) := by decide +kernel
theorem dX5_priceAt_9 : decode cX5_priceAt 9 = .ok (.ifCond .eq 15, 3) := by decide +kernel
theorem dX5_priceAt_12 : decode cX5_priceAt 12 = .ok (.iload_n 2, 1) := by decide +kernel
theorem dX5_priceAt_13 : decode cX5_priceAt 13 = .ok (.i2l, 1) := by decide +kernel
theorem dX5_priceAt_14 : decode cX5_priceAt 14 = .ok (.lconst 0, 1) := by decide +kernel
theorem dX5_priceAt_15 : decode cX5_priceAt 15 = .ok (.ldc2_w 95, 3) := by decide +kernel
theorem dX5_priceAt_18 : decode cX5_priceAt 18 = .ok (.invokestatic 83, 3) := by decide +kernel
theorem dX5_priceAt_21 : decode cX5_priceAt 21 = .ok (.ifCond .ne 6, 3) := by decide +kernel
theorem dX5_priceAt_24 : decode cX5_priceAt 24 = .ok (.bipush (-102), 2) := by decide +kernel
theorem dX5_priceAt_26 : decode cX5_priceAt 26 = .ok (.ireturn, 1) := by decide +kernel
theorem dX5_priceAt_27 : decode cX5_priceAt 27 = .ok (.aload_n 0, 1) := by decide +kernel
theorem dX5_priceAt_28 : decode cX5_priceAt 28 = .ok (.iload_n 1, 1) := by decide +kernel
theorem dX5_priceAt_29 : decode cX5_priceAt 29 = .ok (.invokevirtual 97, 3) := by decide +kernel
theorem dX5_priceAt_32 : decode cX5_priceAt 32 = .ok (.istore_n 3, 1) := by decide +kernel
theorem dX5_priceAt_33 : decode cX5_priceAt 33 = .ok (.iload_n 2, 1) := by decide +kernel
theorem dX5_priceAt_34 : decode cX5_priceAt 34 = .ok (.ifCond .ne 12, 3) := by decide +kernel
theorem dX5_priceAt_37 : decode cX5_priceAt 37 = .ok (.aload_n 0, 1) := by decide +kernel
theorem dX5_priceAt_38 : decode cX5_priceAt 38 = .ok (.getfield 13, 3) := by decide +kernel
theorem dX5_priceAt_41 : decode cX5_priceAt 41 = .ok (.iload_n 3, 1) := by decide +kernel
theorem dX5_priceAt_42 : decode cX5_priceAt 42 = .ok (.iaload, 1) := by decide +kernel
theorem dX5_priceAt_43 : decode cX5_priceAt 43 = .ok (.goto 37, 3) := by decide +kernel
theorem dX5_priceAt_46 : decode cX5_priceAt 46 = .ok (.iload_n 2, 1) := by decide +kernel
theorem dX5_priceAt_47 : decode cX5_priceAt 47 = .ok (.iconst 1, 1) := by decide +kernel
theorem dX5_priceAt_48 : decode cX5_priceAt 48 = .ok (.if_icmp .ne 12, 3) := by decide +kernel
theorem dX5_priceAt_51 : decode cX5_priceAt 51 = .ok (.aload_n 0, 1) := by decide +kernel
theorem dX5_priceAt_52 : decode cX5_priceAt 52 = .ok (.getfield 16, 3) := by decide +kernel
theorem dX5_priceAt_55 : decode cX5_priceAt 55 = .ok (.iload_n 3, 1) := by decide +kernel
theorem dX5_priceAt_56 : decode cX5_priceAt 56 = .ok (.iaload, 1) := by decide +kernel
theorem dX5_priceAt_57 : decode cX5_priceAt 57 = .ok (.goto 23, 3) := by decide +kernel
theorem dX5_priceAt_60 : decode cX5_priceAt 60 = .ok (.iload_n 2, 1) := by decide +kernel
theorem dX5_priceAt_61 : decode cX5_priceAt 61 = .ok (.iconst 2, 1) := by decide +kernel
theorem dX5_priceAt_62 : decode cX5_priceAt 62 = .ok (.if_icmp .ne 12, 3) := by decide +kernel
theorem dX5_priceAt_65 : decode cX5_priceAt 65 = .ok (.aload_n 0, 1) := by decide +kernel
theorem dX5_priceAt_66 : decode cX5_priceAt 66 = .ok (.getfield 19, 3) := by decide +kernel
theorem dX5_priceAt_69 : decode cX5_priceAt 69 = .ok (.iload_n 3, 1) := by decide +kernel
theorem dX5_priceAt_70 : decode cX5_priceAt 70 = .ok (.iaload, 1) := by decide +kernel
theorem dX5_priceAt_71 : decode cX5_priceAt 71 = .ok (.goto 9, 3) := by decide +kernel
theorem dX5_priceAt_74 : decode cX5_priceAt 74 = .ok (.aload_n 0, 1) := by decide +kernel
theorem dX5_priceAt_75 : decode cX5_priceAt 75 = .ok (.getfield 7, 3) := by decide +kernel
theorem dX5_priceAt_78 : decode cX5_priceAt 78 = .ok (.iload_n 3, 1) := by decide +kernel
theorem dX5_priceAt_79 : decode cX5_priceAt 79 = .ok (.iaload, 1) := by decide +kernel
theorem dX5_priceAt_80 : decode cX5_priceAt 80 = .ok (.ireturn, 1) := by decide +kernel
theorem dX5_price_0 : decode cX5_price 0 = .ok (.aload_n 0, 1) := by decide +kernel
theorem dX5_price_1 : decode cX5_price 1 = .ok (.getfield 13, 3) := by decide +kernel
theorem dX5_price_4 : decode cX5_price 4 = .ok (.aload_n 0, 1) := by decide +kernel
theorem dX5_price_5 : decode cX5_price 5 = .ok (.aload_n 0, 1) := by decide +kernel
theorem dX5_price_6 : decode cX5_price 6 = .ok (.getfield 64, 3) := by decide +kernel
theorem dX5_price_9 : decode cX5_price 9 = .ok (.invokevirtual 97, 3) := by decide +kernel
theorem dX5_price_12 : decode cX5_price 12 = .ok (.iaload, 1) := by decide +kernel
theorem dX5_price_13 : decode cX5_price 13 = .ok (.ireturn, 1) := by decide +kernel
theorem dX5_rent_0 : decode cX5_rent 0 = .ok (.aload_n 0, 1) := by decide +kernel
theorem dX5_rent_1 : decode cX5_rent 1 = .ok (.getfield 16, 3) := by decide +kernel
theorem dX5_rent_4 : decode cX5_rent 4 = .ok (.aload_n 0, 1) := by decide +kernel
theorem dX5_rent_5 : decode cX5_rent 5 = .ok (.aload_n 0, 1) := by decide +kernel
theorem dX5_rent_6 : decode cX5_rent 6 = .ok (.getfield 64, 3) := by decide +kernel
theorem dX5_rent_9 : decode cX5_rent 9 = .ok (.invokevirtual 97, 3) := by decide +kernel
theorem dX5_rent_12 : decode cX5_rent 12 = .ok (.iaload, 1) := by decide +kernel
theorem dX5_rent_13 : decode cX5_rent 13 = .ok (.ireturn, 1) := by decide +kernel
theorem dX5_charged_0 : decode cX5_charged 0 = .ok (.aload_n 0, 1) := by decide +kernel
theorem dX5_charged_1 : decode cX5_charged 1 = .ok (.getfield 19, 3) := by decide +kernel
theorem dX5_charged_4 : decode cX5_charged 4 = .ok (.aload_n 0, 1) := by decide +kernel
theorem dX5_charged_5 : decode cX5_charged 5 = .ok (.aload_n 0, 1) := by decide +kernel
theorem dX5_charged_6 : decode cX5_charged 6 = .ok (.getfield 64, 3) := by decide +kernel
theorem dX5_charged_9 : decode cX5_charged 9 = .ok (.invokevirtual 97, 3) := by decide +kernel
theorem dX5_charged_12 : decode cX5_charged 12 = .ok (.iaload, 1) := by decide +kernel
theorem dX5_charged_13 : decode cX5_charged 13 = .ok (.istore_n 2, 1) := by decide +kernel
theorem dX5_charged_14 : decode cX5_charged 14 = .ok (.iload_n 1, 1) := by decide +kernel
theorem dX5_charged_15 : decode cX5_charged 15 = .ok (.iload_n 2, 1) := by decide +kernel
theorem dX5_charged_16 : decode cX5_charged 16 = .ok (.if_icmp .le 7, 3) := by decide +kernel
theorem dX5_charged_19 : decode cX5_charged 19 = .ok (.iload_n 1, 1) := by decide +kernel
theorem dX5_charged_20 : decode cX5_charged 20 = .ok (.goto 4, 3) := by decide +kernel
theorem dX5_charged_23 : decode cX5_charged 23 = .ok (.iload_n 2, 1) := by decide +kernel
theorem dX5_charged_24 : decode cX5_charged 24 = .ok (.ireturn, 1) := by decide +kernel
theorem dX5_cap_0 : decode cX5_cap 0 = .ok (.aload_n 0, 1) := by decide +kernel
theorem dX5_cap_1 : decode cX5_cap 1 = .ok (.iload_n 1, 1) := by decide +kernel
theorem dX5_cap_2 : decode cX5_cap 2 = .ok (.invokevirtual 101, 3) := by decide +kernel
theorem dX5_cap_5 : decode cX5_cap 5 = .ok (.ifCond .eq 6, 3) := by decide +kernel
theorem dX5_cap_8 : decode cX5_cap 8 = .ok (.bipush (-101), 2) := by decide +kernel
theorem dX5_cap_10 : decode cX5_cap 10 = .ok (.ireturn, 1) := by decide +kernel
theorem dX5_cap_11 : decode cX5_cap 11 = .ok (.iload_n 2, 1) := by decide +kernel
theorem dX5_cap_12 : decode cX5_cap 12 = .ok (.i2l, 1) := by decide +kernel
theorem dX5_cap_13 : decode cX5_cap 13 = .ok (.lconst 0, 1) := by decide +kernel
theorem dX5_cap_14 : decode cX5_cap 14 = .ok (.ldc2_w 105, 3) := by decide +kernel
theorem dX5_cap_17 : decode cX5_cap 17 = .ok (.invokestatic 83, 3) := by decide +kernel
theorem dX5_cap_20 : decode cX5_cap 20 = .ok (.ifCond .ne 6, 3) := by decide +kernel
theorem dX5_cap_23 : decode cX5_cap 23 = .ok (.bipush (-102), 2) := by decide +kernel
theorem dX5_cap_25 : decode cX5_cap 25 = .ok (.ireturn, 1) := by decide +kernel
theorem dX5_cap_26 : decode cX5_cap 26 = .ok (.aload_n 0, 1) := by decide +kernel
theorem dX5_cap_27 : decode cX5_cap 27 = .ok (.getfield 25, 3) := by decide +kernel
theorem dX5_cap_30 : decode cX5_cap 30 = .ok (.iload_n 1, 1) := by decide +kernel
theorem dX5_cap_31 : decode cX5_cap 31 = .ok (.iaload, 1) := by decide +kernel
theorem dX5_cap_32 : decode cX5_cap 32 = .ok (.istore_n 3, 1) := by decide +kernel
theorem dX5_cap_33 : decode cX5_cap 33 = .ok (.aload_n 0, 1) := by decide +kernel
theorem dX5_cap_34 : decode cX5_cap 34 = .ok (.getfield 25, 3) := by decide +kernel
theorem dX5_cap_37 : decode cX5_cap 37 = .ok (.iload_n 1, 1) := by decide +kernel
theorem dX5_cap_38 : decode cX5_cap 38 = .ok (.iload_n 2, 1) := by decide +kernel
theorem dX5_cap_39 : decode cX5_cap 39 = .ok (.iastore, 1) := by decide +kernel
theorem dX5_cap_40 : decode cX5_cap 40 = .ok (.iload_n 3, 1) := by decide +kernel
theorem dX5_cap_41 : decode cX5_cap 41 = .ok (.ireturn, 1) := by decide +kernel
theorem dX5_liveSizes_0 : decode cX5_liveSizes 0 = .ok (.iconst 0, 1) := by decide +kernel
theorem dX5_liveSizes_1 : decode cX5_liveSizes 1 = .ok (.istore_n 2, 1) := by decide +kernel
theorem dX5_liveSizes_2 : decode cX5_liveSizes 2 = .ok (.iconst 0, 1) := by decide +kernel
theorem dX5_liveSizes_3 : decode cX5_liveSizes 3 = .ok (.istore_n 3, 1) := by decide +kernel
theorem dX5_liveSizes_4 : decode cX5_liveSizes 4 = .ok (.iload_n 3, 1) := by decide +kernel
theorem dX5_liveSizes_5 : decode cX5_liveSizes 5 = .ok (.aload_n 0, 1) := by decide +kernel
theorem dX5_liveSizes_6 : decode cX5_liveSizes 6 = .ok (.getfield 78, 3) := by decide +kernel
theorem dX5_liveSizes_9 : decode cX5_liveSizes 9 = .ok (.if_icmp .ge 47, 3) := by decide +kernel
theorem dX5_liveSizes_12 : decode cX5_liveSizes 12 = .ok (.iload_n 2, 1) := by decide +kernel
theorem dX5_liveSizes_13 : decode cX5_liveSizes 13 = .ok (.aload_n 0, 1) := by decide +kernel
theorem dX5_liveSizes_14 : decode cX5_liveSizes 14 = .ok (.getfield 46, 3) := by decide +kernel
theorem dX5_liveSizes_17 : decode cX5_liveSizes 17 = .ok (.iload_n 3, 1) := by decide +kernel
theorem dX5_liveSizes_18 : decode cX5_liveSizes 18 = .ok (.iaload, 1) := by decide +kernel
theorem dX5_liveSizes_19 : decode cX5_liveSizes 19 = .ok (.ifCond .ne 28, 3) := by decide +kernel
theorem dX5_liveSizes_22 : decode cX5_liveSizes 22 = .ok (.iload_n 1, 1) := by decide +kernel
theorem dX5_liveSizes_23 : decode cX5_liveSizes 23 = .ok (.bipush (-109), 2) := by decide +kernel
theorem dX5_liveSizes_25 : decode cX5_liveSizes 25 = .ok (.if_icmp .eq 13, 3) := by decide +kernel
theorem dX5_liveSizes_28 : decode cX5_liveSizes 28 = .ok (.aload_n 0, 1) := by decide +kernel
theorem dX5_liveSizes_29 : decode cX5_liveSizes 29 = .ok (.getfield 34, 3) := by decide +kernel
theorem dX5_liveSizes_32 : decode cX5_liveSizes 32 = .ok (.iload_n 3, 1) := by decide +kernel
theorem dX5_liveSizes_33 : decode cX5_liveSizes 33 = .ok (.iaload, 1) := by decide +kernel
theorem dX5_liveSizes_34 : decode cX5_liveSizes 34 = .ok (.iload_n 1, 1) := by decide +kernel
theorem dX5_liveSizes_35 : decode cX5_liveSizes 35 = .ok (.if_icmp .ne 12, 3) := by decide +kernel
theorem dX5_liveSizes_38 : decode cX5_liveSizes 38 = .ok (.aload_n 0, 1) := by decide +kernel
theorem dX5_liveSizes_39 : decode cX5_liveSizes 39 = .ok (.getfield 37, 3) := by decide +kernel
theorem dX5_liveSizes_42 : decode cX5_liveSizes 42 = .ok (.iload_n 3, 1) := by decide +kernel
theorem dX5_liveSizes_43 : decode cX5_liveSizes 43 = .ok (.iaload, 1) := by decide +kernel
theorem dX5_liveSizes_44 : decode cX5_liveSizes 44 = .ok (.goto 4, 3) := by decide +kernel
theorem dX5_liveSizes_47 : decode cX5_liveSizes 47 = .ok (.iconst 0, 1) := by decide +kernel
theorem dX5_liveSizes_48 : decode cX5_liveSizes 48 = .ok (.iadd, 1) := by decide +kernel
theorem dX5_liveSizes_49 : decode cX5_liveSizes 49 = .ok (.istore_n 2, 1) := by decide +kernel
theorem dX5_liveSizes_50 : decode cX5_liveSizes 50 = .ok (.iinc 3 1, 3) := by decide +kernel
theorem dX5_liveSizes_53 : decode cX5_liveSizes 53 = .ok (.goto (-49), 3) := by decide +kernel
theorem dX5_liveSizes_56 : decode cX5_liveSizes 56 = .ok (.iload_n 2, 1) := by decide +kernel
theorem dX5_liveSizes_57 : decode cX5_liveSizes 57 = .ok (.ireturn, 1) := by decide +kernel
theorem dX5_isCapped_0 : decode cX5_isCapped 0 = .ok (.aload_n 0, 1) := by decide +kernel
theorem dX5_isCapped_1 : decode cX5_isCapped 1 = .ok (.bipush (-109), 2) := by decide +kernel
theorem dX5_isCapped_3 : decode cX5_isCapped 3 = .ok (.invokevirtual 107, 3) := by decide +kernel
theorem dX5_isCapped_6 : decode cX5_isCapped 6 = .ok (.iload_n 2, 1) := by decide +kernel
theorem dX5_isCapped_7 : decode cX5_isCapped 7 = .ok (.iadd, 1) := by decide +kernel
theorem dX5_isCapped_8 : decode cX5_isCapped 8 = .ok (.sipush 5000, 3) := by decide +kernel
theorem dX5_isCapped_11 : decode cX5_isCapped 11 = .ok (.if_icmp .gt 19, 3) := by decide +kernel
theorem dX5_isCapped_14 : decode cX5_isCapped 14 = .ok (.aload_n 0, 1) := by decide +kernel
theorem dX5_isCapped_15 : decode cX5_isCapped 15 = .ok (.iload_n 1, 1) := by decide +kernel
theorem dX5_isCapped_16 : decode cX5_isCapped 16 = .ok (.invokevirtual 107, 3) := by decide +kernel
theorem dX5_isCapped_19 : decode cX5_isCapped 19 = .ok (.iload_n 2, 1) := by decide +kernel
theorem dX5_isCapped_20 : decode cX5_isCapped 20 = .ok (.iadd, 1) := by decide +kernel
theorem dX5_isCapped_21 : decode cX5_isCapped 21 = .ok (.aload_n 0, 1) := by decide +kernel
theorem dX5_isCapped_22 : decode cX5_isCapped 22 = .ok (.getfield 25, 3) := by decide +kernel
theorem dX5_isCapped_25 : decode cX5_isCapped 25 = .ok (.iload_n 1, 1) := by decide +kernel
theorem dX5_isCapped_26 : decode cX5_isCapped 26 = .ok (.iaload, 1) := by decide +kernel
theorem dX5_isCapped_27 : decode cX5_isCapped 27 = .ok (.if_icmp .le 7, 3) := by decide +kernel
theorem dX5_isCapped_30 : decode cX5_isCapped 30 = .ok (.iconst 1, 1) := by decide +kernel
theorem dX5_isCapped_31 : decode cX5_isCapped 31 = .ok (.goto 4, 3) := by decide +kernel
theorem dX5_isCapped_34 : decode cX5_isCapped 34 = .ok (.iconst 0, 1) := by decide +kernel
theorem dX5_isCapped_35 : decode cX5_isCapped 35 = .ok (.ireturn, 1) := by decide +kernel
theorem dX5_needsLayer_0 : decode cX5_needsLayer 0 = .ok (.bipush 16, 2) := by decide +kernel
theorem dX5_needsLayer_2 : decode cX5_needsLayer 2 = .ok (.iload_n 1, 1) := by decide +kernel
theorem dX5_needsLayer_3 : decode cX5_needsLayer 3 = .ok (.imul, 1) := by decide +kernel
theorem dX5_needsLayer_4 : decode cX5_needsLayer 4 = .ok (.aload_n 0, 1) := by decide +kernel
theorem dX5_needsLayer_5 : decode cX5_needsLayer 5 = .ok (.getfield 49, 3) := by decide +kernel
theorem dX5_needsLayer_8 : decode cX5_needsLayer 8 = .ok (.iload_n 1, 1) := by decide +kernel
theorem dX5_needsLayer_9 : decode cX5_needsLayer 9 = .ok (.iaload, 1) := by decide +kernel
theorem dX5_needsLayer_10 : decode cX5_needsLayer 10 = .ok (.iadd, 1) := by decide +kernel
theorem dX5_needsLayer_11 : decode cX5_needsLayer 11 = .ok (.iconst 1, 1) := by decide +kernel
theorem dX5_needsLayer_12 : decode cX5_needsLayer 12 = .ok (.isub, 1) := by decide +kernel
theorem dX5_needsLayer_13 : decode cX5_needsLayer 13 = .ok (.istore_n 3, 1) := by decide +kernel
theorem dX5_needsLayer_14 : decode cX5_needsLayer 14 = .ok (.aload_n 0, 1) := by decide +kernel
theorem dX5_needsLayer_15 : decode cX5_needsLayer 15 = .ok (.getfield 49, 3) := by decide +kernel
theorem dX5_needsLayer_18 : decode cX5_needsLayer 18 = .ok (.iload_n 1, 1) := by decide +kernel
theorem dX5_needsLayer_19 : decode cX5_needsLayer 19 = .ok (.iaload, 1) := by decide +kernel
theorem dX5_needsLayer_20 : decode cX5_needsLayer 20 = .ok (.ifCond .eq 26, 3) := by decide +kernel
theorem dX5_needsLayer_23 : decode cX5_needsLayer 23 = .ok (.aload_n 0, 1) := by decide +kernel
theorem dX5_needsLayer_24 : decode cX5_needsLayer 24 = .ok (.getfield 55, 3) := by decide +kernel
theorem dX5_needsLayer_27 : decode cX5_needsLayer 27 = .ok (.iload_n 3, 1) := by decide +kernel
theorem dX5_needsLayer_28 : decode cX5_needsLayer 28 = .ok (.iaload, 1) := by decide +kernel
theorem dX5_needsLayer_29 : decode cX5_needsLayer 29 = .ok (.aload_n 0, 1) := by decide +kernel
theorem dX5_needsLayer_30 : decode cX5_needsLayer 30 = .ok (.invokevirtual 110, 3) := by decide +kernel
theorem dX5_needsLayer_33 : decode cX5_needsLayer 33 = .ok (.if_icmp .ne 13, 3) := by decide +kernel
theorem dX5_needsLayer_36 : decode cX5_needsLayer 36 = .ok (.aload_n 0, 1) := by decide +kernel
theorem dX5_needsLayer_37 : decode cX5_needsLayer 37 = .ok (.getfield 58, 3) := by decide +kernel
theorem dX5_needsLayer_40 : decode cX5_needsLayer 40 = .ok (.iload_n 3, 1) := by decide +kernel
theorem dX5_needsLayer_41 : decode cX5_needsLayer 41 = .ok (.iaload, 1) := by decide +kernel
theorem dX5_needsLayer_42 : decode cX5_needsLayer 42 = .ok (.iload_n 2, 1) := by decide +kernel
theorem dX5_needsLayer_43 : decode cX5_needsLayer 43 = .ok (.if_icmp .eq 7, 3) := by decide +kernel
theorem dX5_needsLayer_46 : decode cX5_needsLayer 46 = .ok (.iconst 1, 1) := by decide +kernel
theorem dX5_needsLayer_47 : decode cX5_needsLayer 47 = .ok (.goto 4, 3) := by decide +kernel
theorem dX5_needsLayer_50 : decode cX5_needsLayer 50 = .ok (.iconst 0, 1) := by decide +kernel
theorem dX5_needsLayer_51 : decode cX5_needsLayer 51 = .ok (.ireturn, 1) := by decide +kernel
theorem dX5_comes_0 : decode cX5_comes 0 = .ok (.aload_n 0, 1) := by decide +kernel
theorem dX5_comes_1 : decode cX5_comes 1 = .ok (.iload_n 1, 1) := by decide +kernel
theorem dX5_comes_2 : decode cX5_comes 2 = .ok (.iload_n 2, 1) := by decide +kernel
theorem dX5_comes_3 : decode cX5_comes 3 = .ok (.invokevirtual 114, 3) := by decide +kernel
theorem dX5_comes_6 : decode cX5_comes 6 = .ok (.ifCond .eq 53, 3) := by decide +kernel
theorem dX5_comes_9 : decode cX5_comes 9 = .ok (.bipush 16, 2) := by decide +kernel
theorem dX5_comes_11 : decode cX5_comes 11 = .ok (.iload_n 1, 1) := by decide +kernel
theorem dX5_comes_12 : decode cX5_comes 12 = .ok (.imul, 1) := by decide +kernel
theorem dX5_comes_13 : decode cX5_comes 13 = .ok (.aload_n 0, 1) := by decide +kernel
theorem dX5_comes_14 : decode cX5_comes 14 = .ok (.getfield 49, 3) := by decide +kernel
theorem dX5_comes_17 : decode cX5_comes 17 = .ok (.iload_n 1, 1) := by decide +kernel
theorem dX5_comes_18 : decode cX5_comes 18 = .ok (.iaload, 1) := by decide +kernel
theorem dX5_comes_19 : decode cX5_comes 19 = .ok (.iadd, 1) := by decide +kernel
theorem dX5_comes_20 : decode cX5_comes 20 = .ok (.istore 4, 2) := by decide +kernel
theorem dX5_comes_22 : decode cX5_comes 22 = .ok (.aload_n 0, 1) := by decide +kernel
theorem dX5_comes_23 : decode cX5_comes 23 = .ok (.getfield 52, 3) := by decide +kernel
theorem dX5_comes_26 : decode cX5_comes 26 = .ok (.iload 4, 2) := by decide +kernel
theorem dX5_comes_28 : decode cX5_comes 28 = .ok (.iconst 0, 1) := by decide +kernel
theorem dX5_comes_29 : decode cX5_comes 29 = .ok (.iastore, 1) := by decide +kernel
theorem dX5_comes_30 : decode cX5_comes 30 = .ok (.aload_n 0, 1) := by decide +kernel
theorem dX5_comes_31 : decode cX5_comes 31 = .ok (.getfield 55, 3) := by decide +kernel
theorem dX5_comes_34 : decode cX5_comes 34 = .ok (.iload 4, 2) := by decide +kernel
theorem dX5_comes_36 : decode cX5_comes 36 = .ok (.aload_n 0, 1) := by decide +kernel
theorem dX5_comes_37 : decode cX5_comes 37 = .ok (.invokevirtual 110, 3) := by decide +kernel
theorem dX5_comes_40 : decode cX5_comes 40 = .ok (.iastore, 1) := by decide +kernel
theorem dX5_comes_41 : decode cX5_comes 41 = .ok (.aload_n 0, 1) := by decide +kernel
theorem dX5_comes_42 : decode cX5_comes 42 = .ok (.getfield 58, 3) := by decide +kernel
theorem dX5_comes_45 : decode cX5_comes 45 = .ok (.iload 4, 2) := by decide +kernel
theorem dX5_comes_47 : decode cX5_comes 47 = .ok (.iload_n 2, 1) := by decide +kernel
theorem dX5_comes_48 : decode cX5_comes 48 = .ok (.iastore, 1) := by decide +kernel
theorem dX5_comes_49 : decode cX5_comes 49 = .ok (.aload_n 0, 1) := by decide +kernel
theorem dX5_comes_50 : decode cX5_comes 50 = .ok (.getfield 49, 3) := by decide +kernel
theorem dX5_comes_53 : decode cX5_comes 53 = .ok (.iload_n 1, 1) := by decide +kernel
theorem dX5_comes_54 : decode cX5_comes 54 = .ok (.dup2, 1) := by decide +kernel
theorem dX5_comes_55 : decode cX5_comes 55 = .ok (.iaload, 1) := by decide +kernel
theorem dX5_comes_56 : decode cX5_comes 56 = .ok (.iconst 1, 1) := by decide +kernel
theorem dX5_comes_57 : decode cX5_comes 57 = .ok (.iadd, 1) := by decide +kernel
theorem dX5_comes_58 : decode cX5_comes 58 = .ok (.iastore, 1) := by decide +kernel
theorem dX5_comes_59 : decode cX5_comes 59 = .ok (.aload_n 0, 1) := by decide +kernel
theorem dX5_comes_60 : decode cX5_comes 60 = .ok (.getfield 52, 3) := by decide +kernel
theorem dX5_comes_63 : decode cX5_comes 63 = .ok (.bipush 16, 2) := by decide +kernel
theorem dX5_comes_65 : decode cX5_comes 65 = .ok (.iload_n 1, 1) := by decide +kernel
theorem dX5_comes_66 : decode cX5_comes 66 = .ok (.imul, 1) := by decide +kernel
theorem dX5_comes_67 : decode cX5_comes 67 = .ok (.aload_n 0, 1) := by decide +kernel
theorem dX5_comes_68 : decode cX5_comes 68 = .ok (.getfield 49, 3) := by decide +kernel
theorem dX5_comes_71 : decode cX5_comes 71 = .ok (.iload_n 1, 1) := by decide +kernel
theorem dX5_comes_72 : decode cX5_comes 72 = .ok (.iaload, 1) := by decide +kernel
theorem dX5_comes_73 : decode cX5_comes 73 = .ok (.iadd, 1) := by decide +kernel
theorem dX5_comes_74 : decode cX5_comes 74 = .ok (.iconst 1, 1) := by decide +kernel
theorem dX5_comes_75 : decode cX5_comes 75 = .ok (.isub, 1) := by decide +kernel
theorem dX5_comes_76 : decode cX5_comes 76 = .ok (.dup2, 1) := by decide +kernel
theorem dX5_comes_77 : decode cX5_comes 77 = .ok (.iaload, 1) := by decide +kernel
theorem dX5_comes_78 : decode cX5_comes 78 = .ok (.iload_n 3, 1) := by decide +kernel
theorem dX5_comes_79 : decode cX5_comes 79 = .ok (.iadd, 1) := by decide +kernel
theorem dX5_comes_80 : decode cX5_comes 80 = .ok (.iastore, 1) := by decide +kernel
theorem dX5_comes_81 : decode cX5_comes 81 = .ok (.return_, 1) := by decide +kernel
theorem dX5_gives_0 : decode cX5_gives 0 = .ok (.iload_n 2, 1) := by decide +kernel
theorem dX5_gives_1 : decode cX5_gives 1 = .ok (.istore 4, 2) := by decide +kernel
theorem dX5_gives_3 : decode cX5_gives 3 = .ok (.iconst 0, 1) := by decide +kernel
theorem dX5_gives_4 : decode cX5_gives 4 = .ok (.istore 5, 2) := by decide +kernel
theorem dX5_gives_6 : decode cX5_gives 6 = .ok (.aload_n 0, 1) := by decide +kernel
theorem dX5_gives_7 : decode cX5_gives 7 = .ok (.getfield 49, 3) := by decide +kernel
theorem dX5_gives_10 : decode cX5_gives 10 = .ok (.iload_n 1, 1) := by decide +kernel
theorem dX5_gives_11 : decode cX5_gives 11 = .ok (.iaload, 1) := by decide +kernel
theorem dX5_gives_12 : decode cX5_gives 12 = .ok (.iconst 1, 1) := by decide +kernel
theorem dX5_gives_13 : decode cX5_gives 13 = .ok (.isub, 1) := by decide +kernel
theorem dX5_gives_14 : decode cX5_gives 14 = .ok (.istore 6, 2) := by decide +kernel
theorem dX5_gives_16 : decode cX5_gives 16 = .ok (.iload 6, 2) := by decide +kernel
theorem dX5_gives_18 : decode cX5_gives 18 = .ok (.ifCond .lt 87, 3) := by decide +kernel
theorem dX5_gives_21 : decode cX5_gives 21 = .ok (.bipush 16, 2) := by decide +kernel
theorem dX5_gives_23 : decode cX5_gives 23 = .ok (.iload_n 1, 1) := by decide +kernel
theorem dX5_gives_24 : decode cX5_gives 24 = .ok (.imul, 1) := by decide +kernel
theorem dX5_gives_25 : decode cX5_gives 25 = .ok (.iload 6, 2) := by decide +kernel
theorem dX5_gives_27 : decode cX5_gives 27 = .ok (.iadd, 1) := by decide +kernel
theorem dX5_gives_28 : decode cX5_gives 28 = .ok (.istore 7, 2) := by decide +kernel
theorem dX5_gives_30 : decode cX5_gives 30 = .ok (.aload_n 0, 1) := by decide +kernel
theorem dX5_gives_31 : decode cX5_gives 31 = .ok (.getfield 52, 3) := by decide +kernel
theorem dX5_gives_34 : decode cX5_gives 34 = .ok (.iload 7, 2) := by decide +kernel
theorem dX5_gives_36 : decode cX5_gives 36 = .ok (.iaload, 1) := by decide +kernel
theorem dX5_gives_37 : decode cX5_gives 37 = .ok (.iload 4, 2) := by decide +kernel
theorem dX5_gives_39 : decode cX5_gives 39 = .ok (.if_icmp .ge 13, 3) := by decide +kernel
theorem dX5_gives_42 : decode cX5_gives 42 = .ok (.aload_n 0, 1) := by decide +kernel
theorem dX5_gives_43 : decode cX5_gives 43 = .ok (.getfield 52, 3) := by decide +kernel
theorem dX5_gives_46 : decode cX5_gives 46 = .ok (.iload 7, 2) := by decide +kernel
theorem dX5_gives_48 : decode cX5_gives 48 = .ok (.iaload, 1) := by decide +kernel
theorem dX5_gives_49 : decode cX5_gives 49 = .ok (.goto 5, 3) := by decide +kernel
theorem dX5_gives_52 : decode cX5_gives 52 = .ok (.iload 4, 2) := by decide +kernel
theorem dX5_gives_54 : decode cX5_gives 54 = .ok (.istore 8, 2) := by decide +kernel
theorem dX5_gives_56 : decode cX5_gives 56 = .ok (.iload 5, 2) := by decide +kernel
theorem dX5_gives_58 : decode cX5_gives 58 = .ok (.iload_n 3, 1) := by decide +kernel
theorem dX5_gives_59 : decode cX5_gives 59 = .ok (.bipush (-109), 2) := by decide +kernel
theorem dX5_gives_61 : decode cX5_gives 61 = .ok (.if_icmp .eq 14, 3) := by decide +kernel
theorem dX5_gives_64 : decode cX5_gives 64 = .ok (.aload_n 0, 1) := by decide +kernel
theorem dX5_gives_65 : decode cX5_gives 65 = .ok (.getfield 58, 3) := by decide +kernel
theorem dX5_gives_68 : decode cX5_gives 68 = .ok (.iload 7, 2) := by decide +kernel
theorem dX5_gives_70 : decode cX5_gives 70 = .ok (.iaload, 1) := by decide +kernel
theorem dX5_gives_71 : decode cX5_gives 71 = .ok (.iload_n 3, 1) := by decide +kernel
theorem dX5_gives_72 : decode cX5_gives 72 = .ok (.if_icmp .ne 16, 3) := by decide +kernel
theorem dX5_gives_75 : decode cX5_gives 75 = .ok (.iload 8, 2) := by decide +kernel
theorem dX5_gives_77 : decode cX5_gives 77 = .ok (.aload_n 0, 1) := by decide +kernel
theorem dX5_gives_78 : decode cX5_gives 78 = .ok (.getfield 55, 3) := by decide +kernel
theorem dX5_gives_81 : decode cX5_gives 81 = .ok (.iload 7, 2) := by decide +kernel
theorem dX5_gives_83 : decode cX5_gives 83 = .ok (.iaload, 1) := by decide +kernel
theorem dX5_gives_84 : decode cX5_gives 84 = .ok (.imul, 1) := by decide +kernel
theorem dX5_gives_85 : decode cX5_gives 85 = .ok (.goto 4, 3) := by decide +kernel
theorem dX5_gives_88 : decode cX5_gives 88 = .ok (.iconst 0, 1) := by decide +kernel
theorem dX5_gives_89 : decode cX5_gives 89 = .ok (.iadd, 1) := by decide +kernel
theorem dX5_gives_90 : decode cX5_gives 90 = .ok (.istore 5, 2) := by decide +kernel
theorem dX5_gives_92 : decode cX5_gives 92 = .ok (.iload 4, 2) := by decide +kernel
theorem dX5_gives_94 : decode cX5_gives 94 = .ok (.iload 8, 2) := by decide +kernel
theorem dX5_gives_96 : decode cX5_gives 96 = .ok (.isub, 1) := by decide +kernel
theorem dX5_gives_97 : decode cX5_gives 97 = .ok (.istore 4, 2) := by decide +kernel
theorem dX5_gives_99 : decode cX5_gives 99 = .ok (.iinc 6 (-1), 3) := by decide +kernel
theorem dX5_gives_102 : decode cX5_gives 102 = .ok (.goto (-86), 3) := by decide +kernel
theorem dX5_gives_105 : decode cX5_gives 105 = .ok (.iload 5, 2) := by decide +kernel
theorem dX5_gives_107 : decode cX5_gives 107 = .ok (.ireturn, 1) := by decide +kernel
theorem dX5_goes_0 : decode cX5_goes 0 = .ok (.aload_n 0, 1) := by decide +kernel
theorem dX5_goes_1 : decode cX5_goes 1 = .ok (.iload_n 1, 1) := by decide +kernel
theorem dX5_goes_2 : decode cX5_goes 2 = .ok (.iload_n 2, 1) := by decide +kernel
theorem dX5_goes_3 : decode cX5_goes 3 = .ok (.bipush (-109), 2) := by decide +kernel
theorem dX5_goes_5 : decode cX5_goes 5 = .ok (.invokevirtual 118, 3) := by decide +kernel
theorem dX5_goes_8 : decode cX5_goes 8 = .ok (.istore_n 3, 1) := by decide +kernel
theorem dX5_goes_9 : decode cX5_goes 9 = .ok (.iconst 0, 1) := by decide +kernel
theorem dX5_goes_10 : decode cX5_goes 10 = .ok (.istore 4, 2) := by decide +kernel
theorem dX5_goes_12 : decode cX5_goes 12 = .ok (.iload 4, 2) := by decide +kernel
theorem dX5_goes_14 : decode cX5_goes 14 = .ok (.bipush 6, 2) := by decide +kernel
theorem dX5_goes_16 : decode cX5_goes 16 = .ok (.if_icmp .ge 27, 3) := by decide +kernel
theorem dX5_goes_19 : decode cX5_goes 19 = .ok (.aload_n 0, 1) := by decide +kernel
theorem dX5_goes_20 : decode cX5_goes 20 = .ok (.getfield 22, 3) := by decide +kernel
theorem dX5_goes_23 : decode cX5_goes 23 = .ok (.iload 4, 2) := by decide +kernel
theorem dX5_goes_25 : decode cX5_goes 25 = .ok (.dup2, 1) := by decide +kernel
theorem dX5_goes_26 : decode cX5_goes 26 = .ok (.iaload, 1) := by decide +kernel
theorem dX5_goes_27 : decode cX5_goes 27 = .ok (.aload_n 0, 1) := by decide +kernel
theorem dX5_goes_28 : decode cX5_goes 28 = .ok (.iload_n 1, 1) := by decide +kernel
theorem dX5_goes_29 : decode cX5_goes 29 = .ok (.iload_n 2, 1) := by decide +kernel
theorem dX5_goes_30 : decode cX5_goes 30 = .ok (.iload 4, 2) := by decide +kernel
theorem dX5_goes_32 : decode cX5_goes 32 = .ok (.invokevirtual 118, 3) := by decide +kernel
theorem dX5_goes_35 : decode cX5_goes 35 = .ok (.iadd, 1) := by decide +kernel
theorem dX5_goes_36 : decode cX5_goes 36 = .ok (.iastore, 1) := by decide +kernel
theorem dX5_goes_37 : decode cX5_goes 37 = .ok (.iinc 4 1, 3) := by decide +kernel
theorem dX5_goes_40 : decode cX5_goes 40 = .ok (.goto (-28), 3) := by decide +kernel
theorem dX5_goes_43 : decode cX5_goes 43 = .ok (.iload_n 2, 1) := by decide +kernel
theorem dX5_goes_44 : decode cX5_goes 44 = .ok (.istore 4, 2) := by decide +kernel
theorem dX5_goes_46 : decode cX5_goes 46 = .ok (.iload 4, 2) := by decide +kernel
theorem dX5_goes_48 : decode cX5_goes 48 = .ok (.ifCond .le 90, 3) := by decide +kernel
theorem dX5_goes_51 : decode cX5_goes 51 = .ok (.bipush 16, 2) := by decide +kernel
theorem dX5_goes_53 : decode cX5_goes 53 = .ok (.iload_n 1, 1) := by decide +kernel
theorem dX5_goes_54 : decode cX5_goes 54 = .ok (.imul, 1) := by decide +kernel
theorem dX5_goes_55 : decode cX5_goes 55 = .ok (.aload_n 0, 1) := by decide +kernel
theorem dX5_goes_56 : decode cX5_goes 56 = .ok (.getfield 49, 3) := by decide +kernel
theorem dX5_goes_59 : decode cX5_goes 59 = .ok (.iload_n 1, 1) := by decide +kernel
theorem dX5_goes_60 : decode cX5_goes 60 = .ok (.iaload, 1) := by decide +kernel
theorem dX5_goes_61 : decode cX5_goes 61 = .ok (.iadd, 1) := by decide +kernel
theorem dX5_goes_62 : decode cX5_goes 62 = .ok (.iconst 1, 1) := by decide +kernel
theorem dX5_goes_63 : decode cX5_goes 63 = .ok (.isub, 1) := by decide +kernel
theorem dX5_goes_64 : decode cX5_goes 64 = .ok (.istore 5, 2) := by decide +kernel
theorem dX5_goes_66 : decode cX5_goes 66 = .ok (.aload_n 0, 1) := by decide +kernel
theorem dX5_goes_67 : decode cX5_goes 67 = .ok (.getfield 52, 3) := by decide +kernel
theorem dX5_goes_70 : decode cX5_goes 70 = .ok (.iload 5, 2) := by decide +kernel
theorem dX5_goes_72 : decode cX5_goes 72 = .ok (.iaload, 1) := by decide +kernel
theorem dX5_goes_73 : decode cX5_goes 73 = .ok (.iload 4, 2) := by decide +kernel
theorem dX5_goes_75 : decode cX5_goes 75 = .ok (.if_icmp .ge 13, 3) := by decide +kernel
theorem dX5_goes_78 : decode cX5_goes 78 = .ok (.aload_n 0, 1) := by decide +kernel
theorem dX5_goes_79 : decode cX5_goes 79 = .ok (.getfield 52, 3) := by decide +kernel
theorem dX5_goes_82 : decode cX5_goes 82 = .ok (.iload 5, 2) := by decide +kernel
theorem dX5_goes_84 : decode cX5_goes 84 = .ok (.iaload, 1) := by decide +kernel
theorem dX5_goes_85 : decode cX5_goes 85 = .ok (.goto 5, 3) := by decide +kernel
theorem dX5_goes_88 : decode cX5_goes 88 = .ok (.iload 4, 2) := by decide +kernel
theorem dX5_goes_90 : decode cX5_goes 90 = .ok (.istore 6, 2) := by decide +kernel
theorem dX5_goes_92 : decode cX5_goes 92 = .ok (.aload_n 0, 1) := by decide +kernel
theorem dX5_goes_93 : decode cX5_goes 93 = .ok (.getfield 52, 3) := by decide +kernel
theorem dX5_goes_96 : decode cX5_goes 96 = .ok (.iload 5, 2) := by decide +kernel
theorem dX5_goes_98 : decode cX5_goes 98 = .ok (.dup2, 1) := by decide +kernel
theorem dX5_goes_99 : decode cX5_goes 99 = .ok (.iaload, 1) := by decide +kernel
theorem dX5_goes_100 : decode cX5_goes 100 = .ok (.iload 6, 2) := by decide +kernel
theorem dX5_goes_102 : decode cX5_goes 102 = .ok (.isub, 1) := by decide +kernel
theorem dX5_goes_103 : decode cX5_goes 103 = .ok (.iastore, 1) := by decide +kernel
theorem dX5_goes_104 : decode cX5_goes 104 = .ok (.iload 4, 2) := by decide +kernel
theorem dX5_goes_106 : decode cX5_goes 106 = .ok (.iload 6, 2) := by decide +kernel
theorem dX5_goes_108 : decode cX5_goes 108 = .ok (.isub, 1) := by decide +kernel
theorem dX5_goes_109 : decode cX5_goes 109 = .ok (.istore 4, 2) := by decide +kernel
theorem dX5_goes_111 : decode cX5_goes 111 = .ok (.aload_n 0, 1) := by decide +kernel
theorem dX5_goes_112 : decode cX5_goes 112 = .ok (.getfield 49, 3) := by decide +kernel
theorem dX5_goes_115 : decode cX5_goes 115 = .ok (.iload_n 1, 1) := by decide +kernel
theorem dX5_goes_116 : decode cX5_goes 116 = .ok (.dup2, 1) := by decide +kernel
theorem dX5_goes_117 : decode cX5_goes 117 = .ok (.iaload, 1) := by decide +kernel
theorem dX5_goes_118 : decode cX5_goes 118 = .ok (.aload_n 0, 1) := by decide +kernel
theorem dX5_goes_119 : decode cX5_goes 119 = .ok (.getfield 52, 3) := by decide +kernel
theorem dX5_goes_122 : decode cX5_goes 122 = .ok (.iload 5, 2) := by decide +kernel
theorem dX5_goes_124 : decode cX5_goes 124 = .ok (.iaload, 1) := by decide +kernel
theorem dX5_goes_125 : decode cX5_goes 125 = .ok (.ifCond .ne 7, 3) := by decide +kernel
theorem dX5_goes_128 : decode cX5_goes 128 = .ok (.iconst 1, 1) := by decide +kernel
theorem dX5_goes_129 : decode cX5_goes 129 = .ok (.goto 4, 3) := by decide +kernel
theorem dX5_goes_132 : decode cX5_goes 132 = .ok (.iconst 0, 1) := by decide +kernel
theorem dX5_goes_133 : decode cX5_goes 133 = .ok (.isub, 1) := by decide +kernel
theorem dX5_goes_134 : decode cX5_goes 134 = .ok (.iastore, 1) := by decide +kernel
theorem dX5_goes_135 : decode cX5_goes 135 = .ok (.goto (-89), 3) := by decide +kernel
theorem dX5_goes_138 : decode cX5_goes 138 = .ok (.iload_n 3, 1) := by decide +kernel
theorem dX5_goes_139 : decode cX5_goes 139 = .ok (.ireturn, 1) := by decide +kernel
theorem dX5_heldFor_0 : decode cX5_heldFor 0 = .ok (.iconst 0, 1) := by decide +kernel
theorem dX5_heldFor_1 : decode cX5_heldFor 1 = .ok (.istore_n 2, 1) := by decide +kernel
theorem dX5_heldFor_2 : decode cX5_heldFor 2 = .ok (.iconst 0, 1) := by decide +kernel
theorem dX5_heldFor_3 : decode cX5_heldFor 3 = .ok (.istore_n 3, 1) := by decide +kernel
theorem dX5_heldFor_4 : decode cX5_heldFor 4 = .ok (.iload_n 3, 1) := by decide +kernel
theorem dX5_heldFor_5 : decode cX5_heldFor 5 = .ok (.aload_n 0, 1) := by decide +kernel
theorem dX5_heldFor_6 : decode cX5_heldFor 6 = .ok (.getfield 49, 3) := by decide +kernel
theorem dX5_heldFor_9 : decode cX5_heldFor 9 = .ok (.iload_n 1, 1) := by decide +kernel
theorem dX5_heldFor_10 : decode cX5_heldFor 10 = .ok (.iaload, 1) := by decide +kernel
theorem dX5_heldFor_11 : decode cX5_heldFor 11 = .ok (.if_icmp .ge 35, 3) := by decide +kernel
theorem dX5_heldFor_14 : decode cX5_heldFor 14 = .ok (.iload_n 2, 1) := by decide +kernel
theorem dX5_heldFor_15 : decode cX5_heldFor 15 = .ok (.aload_n 0, 1) := by decide +kernel
theorem dX5_heldFor_16 : decode cX5_heldFor 16 = .ok (.getfield 52, 3) := by decide +kernel
theorem dX5_heldFor_19 : decode cX5_heldFor 19 = .ok (.bipush 16, 2) := by decide +kernel
theorem dX5_heldFor_21 : decode cX5_heldFor 21 = .ok (.iload_n 1, 1) := by decide +kernel
theorem dX5_heldFor_22 : decode cX5_heldFor 22 = .ok (.imul, 1) := by decide +kernel
theorem dX5_heldFor_23 : decode cX5_heldFor 23 = .ok (.iload_n 3, 1) := by decide +kernel
theorem dX5_heldFor_24 : decode cX5_heldFor 24 = .ok (.iadd, 1) := by decide +kernel
theorem dX5_heldFor_25 : decode cX5_heldFor 25 = .ok (.iaload, 1) := by decide +kernel
theorem dX5_heldFor_26 : decode cX5_heldFor 26 = .ok (.aload_n 0, 1) := by decide +kernel
theorem dX5_heldFor_27 : decode cX5_heldFor 27 = .ok (.getfield 55, 3) := by decide +kernel
theorem dX5_heldFor_30 : decode cX5_heldFor 30 = .ok (.bipush 16, 2) := by decide +kernel
theorem dX5_heldFor_32 : decode cX5_heldFor 32 = .ok (.iload_n 1, 1) := by decide +kernel
theorem dX5_heldFor_33 : decode cX5_heldFor 33 = .ok (.imul, 1) := by decide +kernel
theorem dX5_heldFor_34 : decode cX5_heldFor 34 = .ok (.iload_n 3, 1) := by decide +kernel
theorem dX5_heldFor_35 : decode cX5_heldFor 35 = .ok (.iadd, 1) := by decide +kernel
theorem dX5_heldFor_36 : decode cX5_heldFor 36 = .ok (.iaload, 1) := by decide +kernel
theorem dX5_heldFor_37 : decode cX5_heldFor 37 = .ok (.imul, 1) := by decide +kernel
theorem dX5_heldFor_38 : decode cX5_heldFor 38 = .ok (.iadd, 1) := by decide +kernel
theorem dX5_heldFor_39 : decode cX5_heldFor 39 = .ok (.istore_n 2, 1) := by decide +kernel
theorem dX5_heldFor_40 : decode cX5_heldFor 40 = .ok (.iinc 3 1, 3) := by decide +kernel
theorem dX5_heldFor_43 : decode cX5_heldFor 43 = .ok (.goto (-39), 3) := by decide +kernel
theorem dX5_heldFor_46 : decode cX5_heldFor 46 = .ok (.iload_n 2, 1) := by decide +kernel
theorem dX5_heldFor_47 : decode cX5_heldFor 47 = .ok (.ireturn, 1) := by decide +kernel
theorem dX5_make_0 : decode cX5_make 0 = .ok (.aload_n 0, 1) := by decide +kernel
theorem dX5_make_1 : decode cX5_make 1 = .ok (.iload_n 1, 1) := by decide +kernel
theorem dX5_make_2 : decode cX5_make 2 = .ok (.invokevirtual 101, 3) := by decide +kernel
theorem dX5_make_5 : decode cX5_make 5 = .ok (.ifCond .ne 11, 3) := by decide +kernel
theorem dX5_make_8 : decode cX5_make 8 = .ok (.aload_n 0, 1) := by decide +kernel
theorem dX5_make_9 : decode cX5_make 9 = .ok (.iload_n 2, 1) := by decide +kernel
theorem dX5_make_10 : decode cX5_make 10 = .ok (.invokevirtual 101, 3) := by decide +kernel
theorem dX5_make_13 : decode cX5_make 13 = .ok (.ifCond .eq 6, 3) := by decide +kernel
theorem dX5_make_16 : decode cX5_make 16 = .ok (.bipush (-101), 2) := by decide +kernel
theorem dX5_make_18 : decode cX5_make 18 = .ok (.ireturn, 1) := by decide +kernel
theorem dX5_make_19 : decode cX5_make 19 = .ok (.iload_n 3, 1) := by decide +kernel
theorem dX5_make_20 : decode cX5_make 20 = .ok (.i2l, 1) := by decide +kernel
theorem dX5_make_21 : decode cX5_make 21 = .ok (.lconst 1, 1) := by decide +kernel
theorem dX5_make_22 : decode cX5_make 22 = .ok (.ldc2_w 122, 3) := by decide +kernel
theorem dX5_make_25 : decode cX5_make 25 = .ok (.invokestatic 83, 3) := by decide +kernel
theorem dX5_make_28 : decode cX5_make 28 = .ok (.ifCond .eq 16, 3) := by decide +kernel
theorem dX5_make_31 : decode cX5_make 31 = .ok (.iload 4, 2) := by decide +kernel
theorem dX5_make_33 : decode cX5_make 33 = .ok (.i2l, 1) := by decide +kernel
theorem dX5_make_34 : decode cX5_make 34 = .ok (.lconst 1, 1) := by decide +kernel
theorem dX5_make_35 : decode cX5_make 35 = .ok (.ldc2_w 89, 3) := by decide +kernel
theorem dX5_make_38 : decode cX5_make 38 = .ok (.invokestatic 83, 3) := by decide +kernel
theorem dX5_make_41 : decode cX5_make 41 = .ok (.ifCond .ne 6, 3) := by decide +kernel
theorem dX5_make_44 : decode cX5_make 44 = .ok (.bipush (-102), 2) := by decide +kernel
theorem dX5_make_46 : decode cX5_make 46 = .ok (.ireturn, 1) := by decide +kernel
theorem dX5_make_47 : decode cX5_make 47 = .ok (.aload_n 0, 1) := by decide +kernel
theorem dX5_make_48 : decode cX5_make 48 = .ok (.iload_n 2, 1) := by decide +kernel
theorem dX5_make_49 : decode cX5_make 49 = .ok (.iload_n 3, 1) := by decide +kernel
theorem dX5_make_50 : decode cX5_make 50 = .ok (.invokevirtual 124, 3) := by decide +kernel
theorem dX5_make_53 : decode cX5_make 53 = .ok (.ifCond .eq 6, 3) := by decide +kernel
theorem dX5_make_56 : decode cX5_make 56 = .ok (.bipush (-105), 2) := by decide +kernel
theorem dX5_make_58 : decode cX5_make 58 = .ok (.ireturn, 1) := by decide +kernel
theorem dX5_make_59 : decode cX5_make 59 = .ok (.aload_n 0, 1) := by decide +kernel
theorem dX5_make_60 : decode cX5_make 60 = .ok (.iload_n 3, 1) := by decide +kernel
theorem dX5_make_61 : decode cX5_make 61 = .ok (.invokevirtual 127, 3) := by decide +kernel
theorem dX5_make_64 : decode cX5_make 64 = .ok (.aload_n 0, 1) := by decide +kernel
theorem dX5_make_65 : decode cX5_make 65 = .ok (.invokevirtual 130, 3) := by decide +kernel
theorem dX5_make_68 : decode cX5_make 68 = .ok (.imul, 1) := by decide +kernel
theorem dX5_make_69 : decode cX5_make 69 = .ok (.iload 4, 2) := by decide +kernel
theorem dX5_make_71 : decode cX5_make 71 = .ok (.imul, 1) := by decide +kernel
theorem dX5_make_72 : decode cX5_make 72 = .ok (.istore 5, 2) := by decide +kernel
theorem dX5_make_74 : decode cX5_make 74 = .ok (.aload_n 0, 1) := by decide +kernel
theorem dX5_make_75 : decode cX5_make 75 = .ok (.getfield 22, 3) := by decide +kernel
theorem dX5_make_78 : decode cX5_make 78 = .ok (.iload_n 1, 1) := by decide +kernel
theorem dX5_make_79 : decode cX5_make 79 = .ok (.iaload, 1) := by decide +kernel
theorem dX5_make_80 : decode cX5_make 80 = .ok (.iload_n 3, 1) := by decide +kernel
theorem dX5_make_81 : decode cX5_make 81 = .ok (.aload_n 0, 1) := by decide +kernel
theorem dX5_make_82 : decode cX5_make 82 = .ok (.invokevirtual 110, 3) := by decide +kernel
theorem dX5_make_85 : decode cX5_make 85 = .ok (.imul, 1) := by decide +kernel
theorem dX5_make_86 : decode cX5_make 86 = .ok (.iload 5, 2) := by decide +kernel
theorem dX5_make_88 : decode cX5_make 88 = .ok (.iadd, 1) := by decide +kernel
theorem dX5_make_89 : decode cX5_make 89 = .ok (.if_icmp .ge 6, 3) := by decide +kernel
theorem dX5_make_92 : decode cX5_make 92 = .ok (.bipush (-106), 2) := by decide +kernel
theorem dX5_make_94 : decode cX5_make 94 = .ok (.ireturn, 1) := by decide +kernel
theorem dX5_make_95 : decode cX5_make 95 = .ok (.aload_n 0, 1) := by decide +kernel
theorem dX5_make_96 : decode cX5_make 96 = .ok (.getfield 78, 3) := by decide +kernel
theorem dX5_make_99 : decode cX5_make 99 = .ok (.bipush 60, 2) := by decide +kernel
theorem dX5_make_101 : decode cX5_make 101 = .ok (.if_icmp .ne 6, 3) := by decide +kernel
theorem dX5_make_104 : decode cX5_make 104 = .ok (.bipush (-107), 2) := by decide +kernel
theorem dX5_make_106 : decode cX5_make 106 = .ok (.ireturn, 1) := by decide +kernel
theorem dX5_make_107 : decode cX5_make 107 = .ok (.aload_n 0, 1) := by decide +kernel
theorem dX5_make_108 : decode cX5_make 108 = .ok (.getfield 78, 3) := by decide +kernel
theorem dX5_make_111 : decode cX5_make 111 = .ok (.istore 6, 2) := by decide +kernel
theorem dX5_make_113 : decode cX5_make 113 = .ok (.aload_n 0, 1) := by decide +kernel
theorem dX5_make_114 : decode cX5_make 114 = .ok (.getfield 34, 3) := by decide +kernel
theorem dX5_make_117 : decode cX5_make 117 = .ok (.iload 6, 2) := by decide +kernel
theorem dX5_make_119 : decode cX5_make 119 = .ok (.iload_n 2, 1) := by decide +kernel
theorem dX5_make_120 : decode cX5_make 120 = .ok (.iastore, 1) := by decide +kernel
theorem dX5_make_121 : decode cX5_make 121 = .ok (.aload_n 0, 1) := by decide +kernel
theorem dX5_make_122 : decode cX5_make 122 = .ok (.getfield 37, 3) := by decide +kernel
theorem dX5_make_125 : decode cX5_make 125 = .ok (.iload 6, 2) := by decide +kernel
theorem dX5_make_127 : decode cX5_make 127 = .ok (.iload_n 3, 1) := by decide +kernel
theorem dX5_make_128 : decode cX5_make 128 = .ok (.iastore, 1) := by decide +kernel
theorem dX5_make_129 : decode cX5_make 129 = .ok (.iconst 0, 1) := by decide +kernel
theorem dX5_make_130 : decode cX5_make 130 = .ok (.istore 7, 2) := by decide +kernel
theorem dX5_make_132 : decode cX5_make 132 = .ok (.iload 7, 2) := by decide +kernel
theorem dX5_make_134 : decode cX5_make 134 = .ok (.iconst 4, 1) := by decide +kernel
theorem dX5_make_135 : decode cX5_make 135 = .ok (.if_icmp .ge 22, 3) := by decide +kernel
theorem dX5_make_138 : decode cX5_make 138 = .ok (.aload_n 0, 1) := by decide +kernel
theorem dX5_make_139 : decode cX5_make 139 = .ok (.getfield 40, 3) := by decide +kernel
theorem dX5_make_142 : decode cX5_make 142 = .ok (.iconst 4, 1) := by decide +kernel
theorem dX5_make_143 : decode cX5_make 143 = .ok (.iload 6, 2) := by decide +kernel
theorem dX5_make_145 : decode cX5_make 145 = .ok (.imul, 1) := by decide +kernel
theorem dX5_make_146 : decode cX5_make 146 = .ok (.iload 7, 2) := by decide +kernel
theorem dX5_make_148 : decode cX5_make 148 = .ok (.iadd, 1) := by decide +kernel
theorem dX5_make_149 : decode cX5_make 149 = .ok (.iconst 0, 1) := by decide +kernel
theorem dX5_make_150 : decode cX5_make 150 = .ok (.iastore, 1) := by decide +kernel
theorem dX5_make_151 : decode cX5_make 151 = .ok (.iinc 7 1, 3) := by decide +kernel
theorem dX5_make_154 : decode cX5_make 154 = .ok (.goto (-22), 3) := by decide +kernel
theorem dX5_make_157 : decode cX5_make 157 = .ok (.aload_n 0, 1) := by decide +kernel
theorem dX5_make_158 : decode cX5_make 158 = .ok (.getfield 43, 3) := by decide +kernel
theorem dX5_make_161 : decode cX5_make 161 = .ok (.iload 6, 2) := by decide +kernel
theorem dX5_make_163 : decode cX5_make 163 = .ok (.aload_n 0, 1) := by decide +kernel
theorem dX5_make_164 : decode cX5_make 164 = .ok (.getfield 64, 3) := by decide +kernel
theorem dX5_make_167 : decode cX5_make 167 = .ok (.iload 4, 2) := by decide +kernel
theorem dX5_make_169 : decode cX5_make 169 = .ok (.iadd, 1) := by decide +kernel
theorem dX5_make_170 : decode cX5_make 170 = .ok (.iastore, 1) := by decide +kernel
theorem dX5_make_171 : decode cX5_make 171 = .ok (.aload_n 0, 1) := by decide +kernel
theorem dX5_make_172 : decode cX5_make 172 = .ok (.getfield 46, 3) := by decide +kernel
theorem dX5_make_175 : decode cX5_make 175 = .ok (.iload 6, 2) := by decide +kernel
theorem dX5_make_177 : decode cX5_make 177 = .ok (.iconst 0, 1) := by decide +kernel
theorem dX5_make_178 : decode cX5_make 178 = .ok (.iastore, 1) := by decide +kernel
theorem dX5_make_179 : decode cX5_make 179 = .ok (.aload_n 0, 1) := by decide +kernel
theorem dX5_make_180 : decode cX5_make 180 = .ok (.getfield 49, 3) := by decide +kernel
theorem dX5_make_183 : decode cX5_make 183 = .ok (.iload 6, 2) := by decide +kernel
theorem dX5_make_185 : decode cX5_make 185 = .ok (.iconst 0, 1) := by decide +kernel
theorem dX5_make_186 : decode cX5_make 186 = .ok (.iastore, 1) := by decide +kernel
theorem dX5_make_187 : decode cX5_make 187 = .ok (.aload_n 0, 1) := by decide +kernel
theorem dX5_make_188 : decode cX5_make 188 = .ok (.iload 6, 2) := by decide +kernel
theorem dX5_make_190 : decode cX5_make 190 = .ok (.iload_n 1, 1) := by decide +kernel
theorem dX5_make_191 : decode cX5_make 191 = .ok (.iload_n 3, 1) := by decide +kernel
theorem dX5_make_192 : decode cX5_make 192 = .ok (.invokevirtual 133, 3) := by decide +kernel
theorem dX5_make_195 : decode cX5_make 195 = .ok (.aload_n 0, 1) := by decide +kernel
theorem dX5_make_196 : decode cX5_make 196 = .ok (.getfield 22, 3) := by decide +kernel
theorem dX5_make_199 : decode cX5_make 199 = .ok (.iload_n 1, 1) := by decide +kernel
theorem dX5_make_200 : decode cX5_make 200 = .ok (.dup2, 1) := by decide +kernel
theorem dX5_make_201 : decode cX5_make 201 = .ok (.iaload, 1) := by decide +kernel
theorem dX5_make_202 : decode cX5_make 202 = .ok (.iload_n 3, 1) := by decide +kernel
theorem dX5_make_203 : decode cX5_make 203 = .ok (.aload_n 0, 1) := by decide +kernel
theorem dX5_make_204 : decode cX5_make 204 = .ok (.invokevirtual 110, 3) := by decide +kernel
theorem dX5_make_207 : decode cX5_make 207 = .ok (.imul, 1) := by decide +kernel
theorem dX5_make_208 : decode cX5_make 208 = .ok (.iload 5, 2) := by decide +kernel
theorem dX5_make_210 : decode cX5_make 210 = .ok (.iadd, 1) := by decide +kernel
theorem dX5_make_211 : decode cX5_make 211 = .ok (.isub, 1) := by decide +kernel
theorem dX5_make_212 : decode cX5_make 212 = .ok (.iastore, 1) := by decide +kernel
theorem dX5_make_213 : decode cX5_make 213 = .ok (.aload_n 0, 1) := by decide +kernel
theorem dX5_make_214 : decode cX5_make 214 = .ok (.dup, 1) := by decide +kernel
theorem dX5_make_215 : decode cX5_make 215 = .ok (.getfield 72, 3) := by decide +kernel
theorem dX5_make_218 : decode cX5_make 218 = .ok (.iload 5, 2) := by decide +kernel
theorem dX5_make_220 : decode cX5_make 220 = .ok (.iadd, 1) := by decide +kernel
theorem dX5_make_221 : decode cX5_make 221 = .ok (.putfield 72, 3) := by decide +kernel
theorem dX5_make_224 : decode cX5_make 224 = .ok (.aload_n 0, 1) := by decide +kernel
theorem dX5_make_225 : decode cX5_make 225 = .ok (.dup, 1) := by decide +kernel
theorem dX5_make_226 : decode cX5_make 226 = .ok (.getfield 78, 3) := by decide +kernel
theorem dX5_make_229 : decode cX5_make 229 = .ok (.iconst 1, 1) := by decide +kernel
theorem dX5_make_230 : decode cX5_make 230 = .ok (.iadd, 1) := by decide +kernel
theorem dX5_make_231 : decode cX5_make 231 = .ok (.putfield 78, 3) := by decide +kernel
theorem dX5_make_234 : decode cX5_make 234 = .ok (.iload 6, 2) := by decide +kernel
theorem dX5_make_236 : decode cX5_make 236 = .ok (.ireturn, 1) := by decide +kernel
theorem dX5_sizeNow_0 : decode cX5_sizeNow 0 = .ok (.aload_n 0, 1) := by decide +kernel
theorem dX5_sizeNow_1 : decode cX5_sizeNow 1 = .ok (.getfield 46, 3) := by decide +kernel
theorem dX5_sizeNow_4 : decode cX5_sizeNow 4 = .ok (.iload_n 1, 1) := by decide +kernel
theorem dX5_sizeNow_5 : decode cX5_sizeNow 5 = .ok (.iaload, 1) := by decide +kernel
theorem dX5_sizeNow_6 : decode cX5_sizeNow 6 = .ok (.iconst 2, 1) := by decide +kernel
theorem dX5_sizeNow_7 : decode cX5_sizeNow 7 = .ok (.if_icmp .ne 7, 3) := by decide +kernel
theorem dX5_sizeNow_10 : decode cX5_sizeNow 10 = .ok (.iconst 0, 1) := by decide +kernel
theorem dX5_sizeNow_11 : decode cX5_sizeNow 11 = .ok (.goto 9, 3) := by decide +kernel
theorem dX5_sizeNow_14 : decode cX5_sizeNow 14 = .ok (.aload_n 0, 1) := by decide +kernel
theorem dX5_sizeNow_15 : decode cX5_sizeNow 15 = .ok (.getfield 37, 3) := by decide +kernel
theorem dX5_sizeNow_18 : decode cX5_sizeNow 18 = .ok (.iload_n 1, 1) := by decide +kernel
theorem dX5_sizeNow_19 : decode cX5_sizeNow 19 = .ok (.iaload, 1) := by decide +kernel
theorem dX5_sizeNow_20 : decode cX5_sizeNow 20 = .ok (.ireturn, 1) := by decide +kernel
theorem dX5_grow_0 : decode cX5_grow 0 = .ok (.aload_n 0, 1) := by decide +kernel
theorem dX5_grow_1 : decode cX5_grow 1 = .ok (.iload_n 1, 1) := by decide +kernel
theorem dX5_grow_2 : decode cX5_grow 2 = .ok (.invokevirtual 137, 3) := by decide +kernel
theorem dX5_grow_5 : decode cX5_grow 5 = .ok (.ifCond .ne 11, 3) := by decide +kernel
theorem dX5_grow_8 : decode cX5_grow 8 = .ok (.aload_n 0, 1) := by decide +kernel
theorem dX5_grow_9 : decode cX5_grow 9 = .ok (.iload_n 2, 1) := by decide +kernel
theorem dX5_grow_10 : decode cX5_grow 10 = .ok (.invokevirtual 101, 3) := by decide +kernel
theorem dX5_grow_13 : decode cX5_grow 13 = .ok (.ifCond .eq 6, 3) := by decide +kernel
theorem dX5_grow_16 : decode cX5_grow 16 = .ok (.bipush (-101), 2) := by decide +kernel
theorem dX5_grow_18 : decode cX5_grow 18 = .ok (.ireturn, 1) := by decide +kernel
theorem dX5_grow_19 : decode cX5_grow 19 = .ok (.iload_n 3, 1) := by decide +kernel
theorem dX5_grow_20 : decode cX5_grow 20 = .ok (.i2l, 1) := by decide +kernel
theorem dX5_grow_21 : decode cX5_grow 21 = .ok (.lconst 1, 1) := by decide +kernel
theorem dX5_grow_22 : decode cX5_grow 22 = .ok (.ldc2_w 140, 3) := by decide +kernel
theorem dX5_grow_25 : decode cX5_grow 25 = .ok (.invokestatic 83, 3) := by decide +kernel
theorem dX5_grow_28 : decode cX5_grow 28 = .ok (.ifCond .eq 16, 3) := by decide +kernel
theorem dX5_grow_31 : decode cX5_grow 31 = .ok (.aload_n 0, 1) := by decide +kernel
theorem dX5_grow_32 : decode cX5_grow 32 = .ok (.iload_n 1, 1) := by decide +kernel
theorem dX5_grow_33 : decode cX5_grow 33 = .ok (.invokevirtual 142, 3) := by decide +kernel
theorem dX5_grow_36 : decode cX5_grow 36 = .ok (.iload_n 3, 1) := by decide +kernel
theorem dX5_grow_37 : decode cX5_grow 37 = .ok (.iadd, 1) := by decide +kernel
theorem dX5_grow_38 : decode cX5_grow 38 = .ok (.sipush 1000, 3) := by decide +kernel
theorem dX5_grow_41 : decode cX5_grow 41 = .ok (.if_icmp .le 6, 3) := by decide +kernel
theorem dX5_grow_44 : decode cX5_grow 44 = .ok (.bipush (-102), 2) := by decide +kernel
theorem dX5_grow_46 : decode cX5_grow 46 = .ok (.ireturn, 1) := by decide +kernel
theorem dX5_grow_47 : decode cX5_grow 47 = .ok (.aload_n 0, 1) := by decide +kernel
theorem dX5_grow_48 : decode cX5_grow 48 = .ok (.getfield 46, 3) := by decide +kernel
theorem dX5_grow_51 : decode cX5_grow 51 = .ok (.iload_n 1, 1) := by decide +kernel
theorem dX5_grow_52 : decode cX5_grow 52 = .ok (.iaload, 1) := by decide +kernel
theorem dX5_grow_53 : decode cX5_grow 53 = .ok (.ifCond .eq 6, 3) := by decide +kernel
theorem dX5_grow_56 : decode cX5_grow 56 = .ok (.bipush (-103), 2) := by decide +kernel
theorem dX5_grow_58 : decode cX5_grow 58 = .ok (.ireturn, 1) := by decide +kernel
theorem dX5_grow_59 : decode cX5_grow 59 = .ok (.aload_n 0, 1) := by decide +kernel
theorem dX5_grow_60 : decode cX5_grow 60 = .ok (.aload_n 0, 1) := by decide +kernel
theorem dX5_grow_61 : decode cX5_grow 61 = .ok (.getfield 34, 3) := by decide +kernel
theorem dX5_grow_64 : decode cX5_grow 64 = .ok (.iload_n 1, 1) := by decide +kernel
theorem dX5_grow_65 : decode cX5_grow 65 = .ok (.iaload, 1) := by decide +kernel
theorem dX5_grow_66 : decode cX5_grow 66 = .ok (.iload_n 3, 1) := by decide +kernel
theorem dX5_grow_67 : decode cX5_grow 67 = .ok (.invokevirtual 124, 3) := by decide +kernel
theorem dX5_grow_70 : decode cX5_grow 70 = .ok (.ifCond .eq 6, 3) := by decide +kernel
theorem dX5_grow_73 : decode cX5_grow 73 = .ok (.bipush (-105), 2) := by decide +kernel
theorem dX5_grow_75 : decode cX5_grow 75 = .ok (.ireturn, 1) := by decide +kernel
theorem dX5_grow_76 : decode cX5_grow 76 = .ok (.aload_n 0, 1) := by decide +kernel
theorem dX5_grow_77 : decode cX5_grow 77 = .ok (.aload_n 0, 1) := by decide +kernel
theorem dX5_grow_78 : decode cX5_grow 78 = .ok (.getfield 37, 3) := by decide +kernel
theorem dX5_grow_81 : decode cX5_grow 81 = .ok (.iload_n 1, 1) := by decide +kernel
theorem dX5_grow_82 : decode cX5_grow 82 = .ok (.iaload, 1) := by decide +kernel
theorem dX5_grow_83 : decode cX5_grow 83 = .ok (.iload_n 3, 1) := by decide +kernel
theorem dX5_grow_84 : decode cX5_grow 84 = .ok (.iadd, 1) := by decide +kernel
theorem dX5_grow_85 : decode cX5_grow 85 = .ok (.invokevirtual 127, 3) := by decide +kernel
theorem dX5_grow_88 : decode cX5_grow 88 = .ok (.aload_n 0, 1) := by decide +kernel
theorem dX5_grow_89 : decode cX5_grow 89 = .ok (.aload_n 0, 1) := by decide +kernel
theorem dX5_grow_90 : decode cX5_grow 90 = .ok (.getfield 37, 3) := by decide +kernel
theorem dX5_grow_93 : decode cX5_grow 93 = .ok (.iload_n 1, 1) := by decide +kernel
theorem dX5_grow_94 : decode cX5_grow 94 = .ok (.iaload, 1) := by decide +kernel
theorem dX5_grow_95 : decode cX5_grow 95 = .ok (.invokevirtual 127, 3) := by decide +kernel
theorem dX5_grow_98 : decode cX5_grow 98 = .ok (.isub, 1) := by decide +kernel
theorem dX5_grow_99 : decode cX5_grow 99 = .ok (.aload_n 0, 1) := by decide +kernel
theorem dX5_grow_100 : decode cX5_grow 100 = .ok (.invokevirtual 130, 3) := by decide +kernel
theorem dX5_grow_103 : decode cX5_grow 103 = .ok (.imul, 1) := by decide +kernel
theorem dX5_grow_104 : decode cX5_grow 104 = .ok (.aload_n 0, 1) := by decide +kernel
theorem dX5_grow_105 : decode cX5_grow 105 = .ok (.getfield 43, 3) := by decide +kernel
theorem dX5_grow_108 : decode cX5_grow 108 = .ok (.iload_n 1, 1) := by decide +kernel
theorem dX5_grow_109 : decode cX5_grow 109 = .ok (.iaload, 1) := by decide +kernel
theorem dX5_grow_110 : decode cX5_grow 110 = .ok (.aload_n 0, 1) := by decide +kernel
theorem dX5_grow_111 : decode cX5_grow 111 = .ok (.getfield 64, 3) := by decide +kernel
theorem dX5_grow_114 : decode cX5_grow 114 = .ok (.isub, 1) := by decide +kernel
theorem dX5_grow_115 : decode cX5_grow 115 = .ok (.imul, 1) := by decide +kernel
theorem dX5_grow_116 : decode cX5_grow 116 = .ok (.istore 4, 2) := by decide +kernel
theorem dX5_grow_118 : decode cX5_grow 118 = .ok (.iload_n 3, 1) := by decide +kernel
theorem dX5_grow_119 : decode cX5_grow 119 = .ok (.aload_n 0, 1) := by decide +kernel
theorem dX5_grow_120 : decode cX5_grow 120 = .ok (.invokevirtual 110, 3) := by decide +kernel
theorem dX5_grow_123 : decode cX5_grow 123 = .ok (.imul, 1) := by decide +kernel
theorem dX5_grow_124 : decode cX5_grow 124 = .ok (.iload 4, 2) := by decide +kernel
theorem dX5_grow_126 : decode cX5_grow 126 = .ok (.iadd, 1) := by decide +kernel
theorem dX5_grow_127 : decode cX5_grow 127 = .ok (.istore 5, 2) := by decide +kernel
theorem dX5_grow_129 : decode cX5_grow 129 = .ok (.aload_n 0, 1) := by decide +kernel
theorem dX5_grow_130 : decode cX5_grow 130 = .ok (.getfield 22, 3) := by decide +kernel
theorem dX5_grow_133 : decode cX5_grow 133 = .ok (.iload_n 2, 1) := by decide +kernel
theorem dX5_grow_134 : decode cX5_grow 134 = .ok (.iaload, 1) := by decide +kernel
theorem dX5_grow_135 : decode cX5_grow 135 = .ok (.iload 5, 2) := by decide +kernel
theorem dX5_grow_137 : decode cX5_grow 137 = .ok (.if_icmp .ge 6, 3) := by decide +kernel
theorem dX5_grow_140 : decode cX5_grow 140 = .ok (.bipush (-106), 2) := by decide +kernel
theorem dX5_grow_142 : decode cX5_grow 142 = .ok (.ireturn, 1) := by decide +kernel
theorem dX5_grow_143 : decode cX5_grow 143 = .ok (.aload_n 0, 1) := by decide +kernel
theorem dX5_grow_144 : decode cX5_grow 144 = .ok (.iload_n 1, 1) := by decide +kernel
theorem dX5_grow_145 : decode cX5_grow 145 = .ok (.iload_n 2, 1) := by decide +kernel
theorem dX5_grow_146 : decode cX5_grow 146 = .ok (.invokevirtual 114, 3) := by decide +kernel
theorem dX5_grow_149 : decode cX5_grow 149 = .ok (.ifCond .eq 17, 3) := by decide +kernel
theorem dX5_grow_152 : decode cX5_grow 152 = .ok (.aload_n 0, 1) := by decide +kernel
theorem dX5_grow_153 : decode cX5_grow 153 = .ok (.getfield 49, 3) := by decide +kernel
theorem dX5_grow_156 : decode cX5_grow 156 = .ok (.iload_n 1, 1) := by decide +kernel
theorem dX5_grow_157 : decode cX5_grow 157 = .ok (.iaload, 1) := by decide +kernel
theorem dX5_grow_158 : decode cX5_grow 158 = .ok (.bipush 16, 2) := by decide +kernel
theorem dX5_grow_160 : decode cX5_grow 160 = .ok (.if_icmp .ne 6, 3) := by decide +kernel
theorem dX5_grow_163 : decode cX5_grow 163 = .ok (.bipush (-107), 2) := by decide +kernel
theorem dX5_grow_165 : decode cX5_grow 165 = .ok (.ireturn, 1) := by decide +kernel
theorem dX5_grow_166 : decode cX5_grow 166 = .ok (.aload_n 0, 1) := by decide +kernel
theorem dX5_grow_167 : decode cX5_grow 167 = .ok (.iload_n 1, 1) := by decide +kernel
theorem dX5_grow_168 : decode cX5_grow 168 = .ok (.iload_n 2, 1) := by decide +kernel
theorem dX5_grow_169 : decode cX5_grow 169 = .ok (.iload_n 3, 1) := by decide +kernel
theorem dX5_grow_170 : decode cX5_grow 170 = .ok (.invokevirtual 133, 3) := by decide +kernel
theorem dX5_grow_173 : decode cX5_grow 173 = .ok (.aload_n 0, 1) := by decide +kernel
theorem dX5_grow_174 : decode cX5_grow 174 = .ok (.getfield 37, 3) := by decide +kernel
theorem dX5_grow_177 : decode cX5_grow 177 = .ok (.iload_n 1, 1) := by decide +kernel
theorem dX5_grow_178 : decode cX5_grow 178 = .ok (.dup2, 1) := by decide +kernel
theorem dX5_grow_179 : decode cX5_grow 179 = .ok (.iaload, 1) := by decide +kernel
theorem dX5_grow_180 : decode cX5_grow 180 = .ok (.iload_n 3, 1) := by decide +kernel
theorem dX5_grow_181 : decode cX5_grow 181 = .ok (.iadd, 1) := by decide +kernel
theorem dX5_grow_182 : decode cX5_grow 182 = .ok (.iastore, 1) := by decide +kernel
theorem dX5_grow_183 : decode cX5_grow 183 = .ok (.aload_n 0, 1) := by decide +kernel
theorem dX5_grow_184 : decode cX5_grow 184 = .ok (.getfield 22, 3) := by decide +kernel
theorem dX5_grow_187 : decode cX5_grow 187 = .ok (.iload_n 2, 1) := by decide +kernel
theorem dX5_grow_188 : decode cX5_grow 188 = .ok (.dup2, 1) := by decide +kernel
theorem dX5_grow_189 : decode cX5_grow 189 = .ok (.iaload, 1) := by decide +kernel
theorem dX5_grow_190 : decode cX5_grow 190 = .ok (.iload 5, 2) := by decide +kernel
end
section
theorem dX5_grow_192 : decode cX5_grow 192 = .ok (.isub, 1) := by decide +kernel
theorem dX5_grow_193 : decode cX5_grow 193 = .ok (.iastore, 1) := by decide +kernel
theorem dX5_grow_194 : decode cX5_grow 194 = .ok (.aload_n 0, 1) := by decide +kernel
theorem dX5_grow_195 : decode cX5_grow 195 = .ok (.dup, 1) := by decide +kernel
theorem dX5_grow_196 : decode cX5_grow 196 = .ok (.getfield 72, 3) := by decide +kernel
theorem dX5_grow_199 : decode cX5_grow 199 = .ok (.iload 4, 2) := by decide +kernel
theorem dX5_grow_201 : decode cX5_grow 201 = .ok (.iadd, 1) := by decide +kernel
theorem dX5_grow_202 : decode cX5_grow 202 = .ok (.putfield 72, 3) := by decide +kernel
theorem dX5_grow_205 : decode cX5_grow 205 = .ok (.iload 5, 2) := by decide +kernel
theorem dX5_grow_207 : decode cX5_grow 207 = .ok (.ireturn, 1) := by decide +kernel
theorem dX5_shrink_0 : decode cX5_shrink 0 = .ok (.aload_n 0, 1) := by decide +kernel
theorem dX5_shrink_1 : decode cX5_shrink 1 = .ok (.iload_n 1, 1) := by decide +kernel
theorem dX5_shrink_2 : decode cX5_shrink 2 = .ok (.invokevirtual 137, 3) := by decide +kernel
theorem dX5_shrink_5 : decode cX5_shrink 5 = .ok (.ifCond .eq 6, 3) := by decide +kernel
theorem dX5_shrink_8 : decode cX5_shrink 8 = .ok (.bipush (-101), 2) := by decide +kernel
theorem dX5_shrink_10 : decode cX5_shrink 10 = .ok (.ireturn, 1) := by decide +kernel
theorem dX5_shrink_11 : decode cX5_shrink 11 = .ok (.aload_n 0, 1) := by decide +kernel
theorem dX5_shrink_12 : decode cX5_shrink 12 = .ok (.getfield 46, 3) := by decide +kernel
theorem dX5_shrink_15 : decode cX5_shrink 15 = .ok (.iload_n 1, 1) := by decide +kernel
theorem dX5_shrink_16 : decode cX5_shrink 16 = .ok (.iaload, 1) := by decide +kernel
theorem dX5_shrink_17 : decode cX5_shrink 17 = .ok (.ifCond .eq 6, 3) := by decide +kernel
theorem dX5_shrink_20 : decode cX5_shrink 20 = .ok (.bipush (-103), 2) := by decide +kernel
theorem dX5_shrink_22 : decode cX5_shrink 22 = .ok (.ireturn, 1) := by decide +kernel
theorem dX5_shrink_23 : decode cX5_shrink 23 = .ok (.iload_n 2, 1) := by decide +kernel
theorem dX5_shrink_24 : decode cX5_shrink 24 = .ok (.i2l, 1) := by decide +kernel
theorem dX5_shrink_25 : decode cX5_shrink 25 = .ok (.lconst 1, 1) := by decide +kernel
theorem dX5_shrink_26 : decode cX5_shrink 26 = .ok (.aload_n 0, 1) := by decide +kernel
theorem dX5_shrink_27 : decode cX5_shrink 27 = .ok (.getfield 37, 3) := by decide +kernel
theorem dX5_shrink_30 : decode cX5_shrink 30 = .ok (.iload_n 1, 1) := by decide +kernel
theorem dX5_shrink_31 : decode cX5_shrink 31 = .ok (.iaload, 1) := by decide +kernel
theorem dX5_shrink_32 : decode cX5_shrink 32 = .ok (.iconst 1, 1) := by decide +kernel
theorem dX5_shrink_33 : decode cX5_shrink 33 = .ok (.isub, 1) := by decide +kernel
theorem dX5_shrink_34 : decode cX5_shrink 34 = .ok (.i2l, 1) := by decide +kernel
theorem dX5_shrink_35 : decode cX5_shrink 35 = .ok (.invokestatic 83, 3) := by decide +kernel
theorem dX5_shrink_38 : decode cX5_shrink 38 = .ok (.ifCond .ne 6, 3) := by decide +kernel
theorem dX5_shrink_41 : decode cX5_shrink 41 = .ok (.bipush (-102), 2) := by decide +kernel
theorem dX5_shrink_43 : decode cX5_shrink 43 = .ok (.ireturn, 1) := by decide +kernel
theorem dX5_shrink_44 : decode cX5_shrink 44 = .ok (.aload_n 0, 1) := by decide +kernel
theorem dX5_shrink_45 : decode cX5_shrink 45 = .ok (.getfield 37, 3) := by decide +kernel
theorem dX5_shrink_48 : decode cX5_shrink 48 = .ok (.iload_n 1, 1) := by decide +kernel
theorem dX5_shrink_49 : decode cX5_shrink 49 = .ok (.dup2, 1) := by decide +kernel
theorem dX5_shrink_50 : decode cX5_shrink 50 = .ok (.iaload, 1) := by decide +kernel
theorem dX5_shrink_51 : decode cX5_shrink 51 = .ok (.iload_n 2, 1) := by decide +kernel
theorem dX5_shrink_52 : decode cX5_shrink 52 = .ok (.isub, 1) := by decide +kernel
theorem dX5_shrink_53 : decode cX5_shrink 53 = .ok (.iastore, 1) := by decide +kernel
theorem dX5_shrink_54 : decode cX5_shrink 54 = .ok (.aload_n 0, 1) := by decide +kernel
theorem dX5_shrink_55 : decode cX5_shrink 55 = .ok (.iload_n 1, 1) := by decide +kernel
theorem dX5_shrink_56 : decode cX5_shrink 56 = .ok (.iload_n 2, 1) := by decide +kernel
theorem dX5_shrink_57 : decode cX5_shrink 57 = .ok (.invokevirtual 145, 3) := by decide +kernel
theorem dX5_shrink_60 : decode cX5_shrink 60 = .ok (.ireturn, 1) := by decide +kernel
theorem dX5_pay_0 : decode cX5_pay 0 = .ok (.aload_n 0, 1) := by decide +kernel
theorem dX5_pay_1 : decode cX5_pay 1 = .ok (.iload_n 1, 1) := by decide +kernel
theorem dX5_pay_2 : decode cX5_pay 2 = .ok (.invokevirtual 137, 3) := by decide +kernel
theorem dX5_pay_5 : decode cX5_pay 5 = .ok (.ifCond .ne 11, 3) := by decide +kernel
theorem dX5_pay_8 : decode cX5_pay 8 = .ok (.aload_n 0, 1) := by decide +kernel
theorem dX5_pay_9 : decode cX5_pay 9 = .ok (.iload_n 2, 1) := by decide +kernel
theorem dX5_pay_10 : decode cX5_pay 10 = .ok (.invokevirtual 101, 3) := by decide +kernel
theorem dX5_pay_13 : decode cX5_pay 13 = .ok (.ifCond .eq 6, 3) := by decide +kernel
theorem dX5_pay_16 : decode cX5_pay 16 = .ok (.bipush (-101), 2) := by decide +kernel
theorem dX5_pay_18 : decode cX5_pay 18 = .ok (.ireturn, 1) := by decide +kernel
theorem dX5_pay_19 : decode cX5_pay 19 = .ok (.iload_n 3, 1) := by decide +kernel
theorem dX5_pay_20 : decode cX5_pay 20 = .ok (.i2l, 1) := by decide +kernel
theorem dX5_pay_21 : decode cX5_pay 21 = .ok (.lconst 1, 1) := by decide +kernel
theorem dX5_pay_22 : decode cX5_pay 22 = .ok (.ldc2_w 89, 3) := by decide +kernel
theorem dX5_pay_25 : decode cX5_pay 25 = .ok (.invokestatic 83, 3) := by decide +kernel
theorem dX5_pay_28 : decode cX5_pay 28 = .ok (.ifCond .ne 6, 3) := by decide +kernel
theorem dX5_pay_31 : decode cX5_pay 31 = .ok (.bipush (-102), 2) := by decide +kernel
theorem dX5_pay_33 : decode cX5_pay 33 = .ok (.ireturn, 1) := by decide +kernel
theorem dX5_pay_34 : decode cX5_pay 34 = .ok (.aload_n 0, 1) := by decide +kernel
theorem dX5_pay_35 : decode cX5_pay 35 = .ok (.getfield 46, 3) := by decide +kernel
theorem dX5_pay_38 : decode cX5_pay 38 = .ok (.iload_n 1, 1) := by decide +kernel
theorem dX5_pay_39 : decode cX5_pay 39 = .ok (.iaload, 1) := by decide +kernel
theorem dX5_pay_40 : decode cX5_pay 40 = .ok (.ifCond .ne 22, 3) := by decide +kernel
theorem dX5_pay_43 : decode cX5_pay 43 = .ok (.aload_n 0, 1) := by decide +kernel
theorem dX5_pay_44 : decode cX5_pay 44 = .ok (.getfield 43, 3) := by decide +kernel
theorem dX5_pay_47 : decode cX5_pay 47 = .ok (.iload_n 1, 1) := by decide +kernel
theorem dX5_pay_48 : decode cX5_pay 48 = .ok (.iaload, 1) := by decide +kernel
theorem dX5_pay_49 : decode cX5_pay 49 = .ok (.iload_n 3, 1) := by decide +kernel
theorem dX5_pay_50 : decode cX5_pay 50 = .ok (.iadd, 1) := by decide +kernel
theorem dX5_pay_51 : decode cX5_pay 51 = .ok (.aload_n 0, 1) := by decide +kernel
theorem dX5_pay_52 : decode cX5_pay 52 = .ok (.getfield 64, 3) := by decide +kernel
theorem dX5_pay_55 : decode cX5_pay 55 = .ok (.sipush 400, 3) := by decide +kernel
theorem dX5_pay_58 : decode cX5_pay 58 = .ok (.iadd, 1) := by decide +kernel
theorem dX5_pay_59 : decode cX5_pay 59 = .ok (.if_icmp .le 6, 3) := by decide +kernel
theorem dX5_pay_62 : decode cX5_pay 62 = .ok (.bipush (-103), 2) := by decide +kernel
theorem dX5_pay_64 : decode cX5_pay 64 = .ok (.ireturn, 1) := by decide +kernel
theorem dX5_pay_65 : decode cX5_pay 65 = .ok (.aload_n 0, 1) := by decide +kernel
theorem dX5_pay_66 : decode cX5_pay 66 = .ok (.aload_n 0, 1) := by decide +kernel
theorem dX5_pay_67 : decode cX5_pay 67 = .ok (.getfield 37, 3) := by decide +kernel
theorem dX5_pay_70 : decode cX5_pay 70 = .ok (.iload_n 1, 1) := by decide +kernel
theorem dX5_pay_71 : decode cX5_pay 71 = .ok (.iaload, 1) := by decide +kernel
theorem dX5_pay_72 : decode cX5_pay 72 = .ok (.invokevirtual 127, 3) := by decide +kernel
theorem dX5_pay_75 : decode cX5_pay 75 = .ok (.aload_n 0, 1) := by decide +kernel
theorem dX5_pay_76 : decode cX5_pay 76 = .ok (.invokevirtual 130, 3) := by decide +kernel
theorem dX5_pay_79 : decode cX5_pay 79 = .ok (.imul, 1) := by decide +kernel
theorem dX5_pay_80 : decode cX5_pay 80 = .ok (.iload_n 3, 1) := by decide +kernel
theorem dX5_pay_81 : decode cX5_pay 81 = .ok (.imul, 1) := by decide +kernel
theorem dX5_pay_82 : decode cX5_pay 82 = .ok (.istore 4, 2) := by decide +kernel
theorem dX5_pay_84 : decode cX5_pay 84 = .ok (.aload_n 0, 1) := by decide +kernel
theorem dX5_pay_85 : decode cX5_pay 85 = .ok (.getfield 22, 3) := by decide +kernel
theorem dX5_pay_88 : decode cX5_pay 88 = .ok (.iload_n 2, 1) := by decide +kernel
theorem dX5_pay_89 : decode cX5_pay 89 = .ok (.iaload, 1) := by decide +kernel
theorem dX5_pay_90 : decode cX5_pay 90 = .ok (.iload 4, 2) := by decide +kernel
theorem dX5_pay_92 : decode cX5_pay 92 = .ok (.if_icmp .ge 6, 3) := by decide +kernel
theorem dX5_pay_95 : decode cX5_pay 95 = .ok (.bipush (-106), 2) := by decide +kernel
theorem dX5_pay_97 : decode cX5_pay 97 = .ok (.ireturn, 1) := by decide +kernel
theorem dX5_pay_98 : decode cX5_pay 98 = .ok (.aload_n 0, 1) := by decide +kernel
theorem dX5_pay_99 : decode cX5_pay 99 = .ok (.getfield 22, 3) := by decide +kernel
theorem dX5_pay_102 : decode cX5_pay 102 = .ok (.iload_n 2, 1) := by decide +kernel
theorem dX5_pay_103 : decode cX5_pay 103 = .ok (.dup2, 1) := by decide +kernel
theorem dX5_pay_104 : decode cX5_pay 104 = .ok (.iaload, 1) := by decide +kernel
theorem dX5_pay_105 : decode cX5_pay 105 = .ok (.iload 4, 2) := by decide +kernel
theorem dX5_pay_107 : decode cX5_pay 107 = .ok (.isub, 1) := by decide +kernel
theorem dX5_pay_108 : decode cX5_pay 108 = .ok (.iastore, 1) := by decide +kernel
theorem dX5_pay_109 : decode cX5_pay 109 = .ok (.aload_n 0, 1) := by decide +kernel
theorem dX5_pay_110 : decode cX5_pay 110 = .ok (.dup, 1) := by decide +kernel
theorem dX5_pay_111 : decode cX5_pay 111 = .ok (.getfield 72, 3) := by decide +kernel
theorem dX5_pay_114 : decode cX5_pay 114 = .ok (.iload 4, 2) := by decide +kernel
theorem dX5_pay_116 : decode cX5_pay 116 = .ok (.iadd, 1) := by decide +kernel
theorem dX5_pay_117 : decode cX5_pay 117 = .ok (.putfield 72, 3) := by decide +kernel
theorem dX5_pay_120 : decode cX5_pay 120 = .ok (.aload_n 0, 1) := by decide +kernel
theorem dX5_pay_121 : decode cX5_pay 121 = .ok (.getfield 43, 3) := by decide +kernel
theorem dX5_pay_124 : decode cX5_pay 124 = .ok (.iload_n 1, 1) := by decide +kernel
theorem dX5_pay_125 : decode cX5_pay 125 = .ok (.dup2, 1) := by decide +kernel
theorem dX5_pay_126 : decode cX5_pay 126 = .ok (.iaload, 1) := by decide +kernel
theorem dX5_pay_127 : decode cX5_pay 127 = .ok (.iload_n 3, 1) := by decide +kernel
theorem dX5_pay_128 : decode cX5_pay 128 = .ok (.iadd, 1) := by decide +kernel
theorem dX5_pay_129 : decode cX5_pay 129 = .ok (.iastore, 1) := by decide +kernel
theorem dX5_pay_130 : decode cX5_pay 130 = .ok (.iload 4, 2) := by decide +kernel
theorem dX5_pay_132 : decode cX5_pay 132 = .ok (.ireturn, 1) := by decide +kernel
theorem dX5_write_0 : decode cX5_write 0 = .ok (.aload_n 0, 1) := by decide +kernel
theorem dX5_write_1 : decode cX5_write 1 = .ok (.iload_n 1, 1) := by decide +kernel
theorem dX5_write_2 : decode cX5_write 2 = .ok (.invokevirtual 137, 3) := by decide +kernel
theorem dX5_write_5 : decode cX5_write 5 = .ok (.ifCond .eq 6, 3) := by decide +kernel
theorem dX5_write_8 : decode cX5_write 8 = .ok (.bipush (-101), 2) := by decide +kernel
theorem dX5_write_10 : decode cX5_write 10 = .ok (.ireturn, 1) := by decide +kernel
theorem dX5_write_11 : decode cX5_write 11 = .ok (.iload_n 2, 1) := by decide +kernel
theorem dX5_write_12 : decode cX5_write 12 = .ok (.i2l, 1) := by decide +kernel
theorem dX5_write_13 : decode cX5_write 13 = .ok (.lconst 0, 1) := by decide +kernel
theorem dX5_write_14 : decode cX5_write 14 = .ok (.ldc2_w 95, 3) := by decide +kernel
theorem dX5_write_17 : decode cX5_write 17 = .ok (.invokestatic 83, 3) := by decide +kernel
theorem dX5_write_20 : decode cX5_write 20 = .ok (.ifCond .ne 6, 3) := by decide +kernel
theorem dX5_write_23 : decode cX5_write 23 = .ok (.bipush (-102), 2) := by decide +kernel
theorem dX5_write_25 : decode cX5_write 25 = .ok (.ireturn, 1) := by decide +kernel
theorem dX5_write_26 : decode cX5_write 26 = .ok (.aload_n 0, 1) := by decide +kernel
theorem dX5_write_27 : decode cX5_write 27 = .ok (.getfield 46, 3) := by decide +kernel
theorem dX5_write_30 : decode cX5_write 30 = .ok (.iload_n 1, 1) := by decide +kernel
theorem dX5_write_31 : decode cX5_write 31 = .ok (.iaload, 1) := by decide +kernel
theorem dX5_write_32 : decode cX5_write 32 = .ok (.ifCond .eq 6, 3) := by decide +kernel
theorem dX5_write_35 : decode cX5_write 35 = .ok (.bipush (-103), 2) := by decide +kernel
theorem dX5_write_37 : decode cX5_write 37 = .ok (.ireturn, 1) := by decide +kernel
theorem dX5_write_38 : decode cX5_write 38 = .ok (.aload_n 0, 1) := by decide +kernel
theorem dX5_write_39 : decode cX5_write 39 = .ok (.getfield 40, 3) := by decide +kernel
theorem dX5_write_42 : decode cX5_write 42 = .ok (.iconst 4, 1) := by decide +kernel
theorem dX5_write_43 : decode cX5_write 43 = .ok (.iload_n 1, 1) := by decide +kernel
theorem dX5_write_44 : decode cX5_write 44 = .ok (.imul, 1) := by decide +kernel
theorem dX5_write_45 : decode cX5_write 45 = .ok (.iload_n 2, 1) := by decide +kernel
theorem dX5_write_46 : decode cX5_write 46 = .ok (.iadd, 1) := by decide +kernel
theorem dX5_write_47 : decode cX5_write 47 = .ok (.iload_n 3, 1) := by decide +kernel
theorem dX5_write_48 : decode cX5_write 48 = .ok (.iastore, 1) := by decide +kernel
theorem dX5_write_49 : decode cX5_write 49 = .ok (.iconst 1, 1) := by decide +kernel
theorem dX5_write_50 : decode cX5_write 50 = .ok (.ireturn, 1) := by decide +kernel
theorem dX5_drop_0 : decode cX5_drop 0 = .ok (.aload_n 0, 1) := by decide +kernel
theorem dX5_drop_1 : decode cX5_drop 1 = .ok (.iload_n 1, 1) := by decide +kernel
theorem dX5_drop_2 : decode cX5_drop 2 = .ok (.invokevirtual 137, 3) := by decide +kernel
theorem dX5_drop_5 : decode cX5_drop 5 = .ok (.ifCond .eq 6, 3) := by decide +kernel
theorem dX5_drop_8 : decode cX5_drop 8 = .ok (.bipush (-101), 2) := by decide +kernel
theorem dX5_drop_10 : decode cX5_drop 10 = .ok (.ireturn, 1) := by decide +kernel
theorem dX5_drop_11 : decode cX5_drop 11 = .ok (.aload_n 0, 1) := by decide +kernel
theorem dX5_drop_12 : decode cX5_drop 12 = .ok (.getfield 46, 3) := by decide +kernel
theorem dX5_drop_15 : decode cX5_drop 15 = .ok (.iload_n 1, 1) := by decide +kernel
theorem dX5_drop_16 : decode cX5_drop 16 = .ok (.iaload, 1) := by decide +kernel
theorem dX5_drop_17 : decode cX5_drop 17 = .ok (.iconst 2, 1) := by decide +kernel
theorem dX5_drop_18 : decode cX5_drop 18 = .ok (.if_icmp .ne 6, 3) := by decide +kernel
theorem dX5_drop_21 : decode cX5_drop 21 = .ok (.bipush (-103), 2) := by decide +kernel
theorem dX5_drop_23 : decode cX5_drop 23 = .ok (.ireturn, 1) := by decide +kernel
theorem dX5_drop_24 : decode cX5_drop 24 = .ok (.aload_n 0, 1) := by decide +kernel
theorem dX5_drop_25 : decode cX5_drop 25 = .ok (.getfield 46, 3) := by decide +kernel
theorem dX5_drop_28 : decode cX5_drop 28 = .ok (.iload_n 1, 1) := by decide +kernel
theorem dX5_drop_29 : decode cX5_drop 29 = .ok (.iconst 2, 1) := by decide +kernel
theorem dX5_drop_30 : decode cX5_drop 30 = .ok (.iastore, 1) := by decide +kernel
theorem dX5_drop_31 : decode cX5_drop 31 = .ok (.aload_n 0, 1) := by decide +kernel
theorem dX5_drop_32 : decode cX5_drop 32 = .ok (.iload_n 1, 1) := by decide +kernel
theorem dX5_drop_33 : decode cX5_drop 33 = .ok (.aload_n 0, 1) := by decide +kernel
theorem dX5_drop_34 : decode cX5_drop 34 = .ok (.getfield 37, 3) := by decide +kernel
theorem dX5_drop_37 : decode cX5_drop 37 = .ok (.iload_n 1, 1) := by decide +kernel
theorem dX5_drop_38 : decode cX5_drop 38 = .ok (.iaload, 1) := by decide +kernel
theorem dX5_drop_39 : decode cX5_drop 39 = .ok (.invokevirtual 145, 3) := by decide +kernel
theorem dX5_drop_42 : decode cX5_drop 42 = .ok (.ireturn, 1) := by decide +kernel
theorem dX5_digestOf_0 : decode cX5_digestOf 0 = .ok (.aload_n 0, 1) := by decide +kernel
theorem dX5_digestOf_1 : decode cX5_digestOf 1 = .ok (.getfield 37, 3) := by decide +kernel
theorem dX5_digestOf_4 : decode cX5_digestOf 4 = .ok (.iload_n 1, 1) := by decide +kernel
theorem dX5_digestOf_5 : decode cX5_digestOf 5 = .ok (.iaload, 1) := by decide +kernel
theorem dX5_digestOf_6 : decode cX5_digestOf 6 = .ok (.istore_n 2, 1) := by decide +kernel
theorem dX5_digestOf_7 : decode cX5_digestOf 7 = .ok (.iconst 0, 1) := by decide +kernel
theorem dX5_digestOf_8 : decode cX5_digestOf 8 = .ok (.istore_n 3, 1) := by decide +kernel
theorem dX5_digestOf_9 : decode cX5_digestOf 9 = .ok (.iload_n 3, 1) := by decide +kernel
theorem dX5_digestOf_10 : decode cX5_digestOf 10 = .ok (.iconst 4, 1) := by decide +kernel
theorem dX5_digestOf_11 : decode cX5_digestOf 11 = .ok (.if_icmp .ge 25, 3) := by decide +kernel
theorem dX5_digestOf_14 : decode cX5_digestOf 14 = .ok (.bipush 31, 2) := by decide +kernel
theorem dX5_digestOf_16 : decode cX5_digestOf 16 = .ok (.iload_n 2, 1) := by decide +kernel
theorem dX5_digestOf_17 : decode cX5_digestOf 17 = .ok (.imul, 1) := by decide +kernel
theorem dX5_digestOf_18 : decode cX5_digestOf 18 = .ok (.aload_n 0, 1) := by decide +kernel
theorem dX5_digestOf_19 : decode cX5_digestOf 19 = .ok (.getfield 40, 3) := by decide +kernel
theorem dX5_digestOf_22 : decode cX5_digestOf 22 = .ok (.iconst 4, 1) := by decide +kernel
theorem dX5_digestOf_23 : decode cX5_digestOf 23 = .ok (.iload_n 1, 1) := by decide +kernel
theorem dX5_digestOf_24 : decode cX5_digestOf 24 = .ok (.imul, 1) := by decide +kernel
theorem dX5_digestOf_25 : decode cX5_digestOf 25 = .ok (.iload_n 3, 1) := by decide +kernel
theorem dX5_digestOf_26 : decode cX5_digestOf 26 = .ok (.iadd, 1) := by decide +kernel
theorem dX5_digestOf_27 : decode cX5_digestOf 27 = .ok (.iaload, 1) := by decide +kernel
theorem dX5_digestOf_28 : decode cX5_digestOf 28 = .ok (.iadd, 1) := by decide +kernel
theorem dX5_digestOf_29 : decode cX5_digestOf 29 = .ok (.istore_n 2, 1) := by decide +kernel
theorem dX5_digestOf_30 : decode cX5_digestOf 30 = .ok (.iinc 3 1, 3) := by decide +kernel
theorem dX5_digestOf_33 : decode cX5_digestOf 33 = .ok (.goto (-24), 3) := by decide +kernel
theorem dX5_digestOf_36 : decode cX5_digestOf 36 = .ok (.iload_n 2, 1) := by decide +kernel
theorem dX5_digestOf_37 : decode cX5_digestOf 37 = .ok (.iload_n 2, 1) := by decide +kernel
theorem dX5_digestOf_38 : decode cX5_digestOf 38 = .ok (.bipush 13, 2) := by decide +kernel
theorem dX5_digestOf_40 : decode cX5_digestOf 40 = .ok (.iushr, 1) := by decide +kernel
theorem dX5_digestOf_41 : decode cX5_digestOf 41 = .ok (.ixor, 1) := by decide +kernel
theorem dX5_digestOf_42 : decode cX5_digestOf 42 = .ok (.ireturn, 1) := by decide +kernel
theorem dX5_back_0 : decode cX5_back 0 = .ok (.aload_n 0, 1) := by decide +kernel
theorem dX5_back_1 : decode cX5_back 1 = .ok (.iload_n 1, 1) := by decide +kernel
theorem dX5_back_2 : decode cX5_back 2 = .ok (.invokevirtual 137, 3) := by decide +kernel
theorem dX5_back_5 : decode cX5_back 5 = .ok (.ifCond .ne 11, 3) := by decide +kernel
theorem dX5_back_8 : decode cX5_back 8 = .ok (.aload_n 0, 1) := by decide +kernel
theorem dX5_back_9 : decode cX5_back 9 = .ok (.iload_n 2, 1) := by decide +kernel
theorem dX5_back_10 : decode cX5_back 10 = .ok (.invokevirtual 101, 3) := by decide +kernel
theorem dX5_back_13 : decode cX5_back 13 = .ok (.ifCond .eq 6, 3) := by decide +kernel
theorem dX5_back_16 : decode cX5_back 16 = .ok (.bipush (-101), 2) := by decide +kernel
theorem dX5_back_18 : decode cX5_back 18 = .ok (.ireturn, 1) := by decide +kernel
theorem dX5_back_19 : decode cX5_back 19 = .ok (.iload 4, 2) := by decide +kernel
theorem dX5_back_21 : decode cX5_back 21 = .ok (.i2l, 1) := by decide +kernel
theorem dX5_back_22 : decode cX5_back 22 = .ok (.lconst 1, 1) := by decide +kernel
theorem dX5_back_23 : decode cX5_back 23 = .ok (.ldc2_w 89, 3) := by decide +kernel
theorem dX5_back_26 : decode cX5_back 26 = .ok (.invokestatic 83, 3) := by decide +kernel
theorem dX5_back_29 : decode cX5_back 29 = .ok (.ifCond .ne 6, 3) := by decide +kernel
theorem dX5_back_32 : decode cX5_back 32 = .ok (.bipush (-102), 2) := by decide +kernel
theorem dX5_back_34 : decode cX5_back 34 = .ok (.ireturn, 1) := by decide +kernel
theorem dX5_back_35 : decode cX5_back 35 = .ok (.aload_n 0, 1) := by decide +kernel
theorem dX5_back_36 : decode cX5_back 36 = .ok (.getfield 46, 3) := by decide +kernel
theorem dX5_back_39 : decode cX5_back 39 = .ok (.iload_n 1, 1) := by decide +kernel
theorem dX5_back_40 : decode cX5_back 40 = .ok (.iaload, 1) := by decide +kernel
theorem dX5_back_41 : decode cX5_back 41 = .ok (.iconst 1, 1) := by decide +kernel
theorem dX5_back_42 : decode cX5_back 42 = .ok (.if_icmp .eq 6, 3) := by decide +kernel
theorem dX5_back_45 : decode cX5_back 45 = .ok (.bipush (-103), 2) := by decide +kernel
theorem dX5_back_47 : decode cX5_back 47 = .ok (.ireturn, 1) := by decide +kernel
theorem dX5_back_48 : decode cX5_back 48 = .ok (.iload_n 3, 1) := by decide +kernel
theorem dX5_back_49 : decode cX5_back 49 = .ok (.aload_n 0, 1) := by decide +kernel
theorem dX5_back_50 : decode cX5_back 50 = .ok (.iload_n 1, 1) := by decide +kernel
theorem dX5_back_51 : decode cX5_back 51 = .ok (.invokevirtual 149, 3) := by decide +kernel
theorem dX5_back_54 : decode cX5_back 54 = .ok (.if_icmp .eq 6, 3) := by decide +kernel
theorem dX5_back_57 : decode cX5_back 57 = .ok (.bipush (-104), 2) := by decide +kernel
theorem dX5_back_59 : decode cX5_back 59 = .ok (.ireturn, 1) := by decide +kernel
theorem dX5_back_60 : decode cX5_back 60 = .ok (.aload_n 0, 1) := by decide +kernel
theorem dX5_back_61 : decode cX5_back 61 = .ok (.aload_n 0, 1) := by decide +kernel
theorem dX5_back_62 : decode cX5_back 62 = .ok (.getfield 34, 3) := by decide +kernel
theorem dX5_back_65 : decode cX5_back 65 = .ok (.iload_n 1, 1) := by decide +kernel
theorem dX5_back_66 : decode cX5_back 66 = .ok (.iaload, 1) := by decide +kernel
theorem dX5_back_67 : decode cX5_back 67 = .ok (.aload_n 0, 1) := by decide +kernel
theorem dX5_back_68 : decode cX5_back 68 = .ok (.getfield 37, 3) := by decide +kernel
theorem dX5_back_71 : decode cX5_back 71 = .ok (.iload_n 1, 1) := by decide +kernel
theorem dX5_back_72 : decode cX5_back 72 = .ok (.iaload, 1) := by decide +kernel
theorem dX5_back_73 : decode cX5_back 73 = .ok (.invokevirtual 124, 3) := by decide +kernel
theorem dX5_back_76 : decode cX5_back 76 = .ok (.ifCond .eq 6, 3) := by decide +kernel
theorem dX5_back_79 : decode cX5_back 79 = .ok (.bipush (-105), 2) := by decide +kernel
theorem dX5_back_81 : decode cX5_back 81 = .ok (.ireturn, 1) := by decide +kernel
theorem dX5_back_82 : decode cX5_back 82 = .ok (.aload_n 0, 1) := by decide +kernel
theorem dX5_back_83 : decode cX5_back 83 = .ok (.aload_n 0, 1) := by decide +kernel
theorem dX5_back_84 : decode cX5_back 84 = .ok (.getfield 37, 3) := by decide +kernel
theorem dX5_back_87 : decode cX5_back 87 = .ok (.iload_n 1, 1) := by decide +kernel
theorem dX5_back_88 : decode cX5_back 88 = .ok (.iaload, 1) := by decide +kernel
theorem dX5_back_89 : decode cX5_back 89 = .ok (.invokevirtual 127, 3) := by decide +kernel
theorem dX5_back_92 : decode cX5_back 92 = .ok (.i2l, 1) := by decide +kernel
theorem dX5_back_93 : decode cX5_back 93 = .ok (.aload_n 0, 1) := by decide +kernel
theorem dX5_back_94 : decode cX5_back 94 = .ok (.invokevirtual 130, 3) := by decide +kernel
theorem dX5_back_97 : decode cX5_back 97 = .ok (.i2l, 1) := by decide +kernel
theorem dX5_back_98 : decode cX5_back 98 = .ok (.lmul, 1) := by decide +kernel
theorem dX5_back_99 : decode cX5_back 99 = .ok (.iload 4, 2) := by decide +kernel
theorem dX5_back_101 : decode cX5_back 101 = .ok (.aload_n 0, 1) := by decide +kernel
theorem dX5_back_102 : decode cX5_back 102 = .ok (.getfield 64, 3) := by decide +kernel
theorem dX5_back_105 : decode cX5_back 105 = .ok (.iadd, 1) := by decide +kernel
theorem dX5_back_106 : decode cX5_back 106 = .ok (.aload_n 0, 1) := by decide +kernel
theorem dX5_back_107 : decode cX5_back 107 = .ok (.getfield 43, 3) := by decide +kernel
theorem dX5_back_110 : decode cX5_back 110 = .ok (.iload_n 1, 1) := by decide +kernel
theorem dX5_back_111 : decode cX5_back 111 = .ok (.iaload, 1) := by decide +kernel
theorem dX5_back_112 : decode cX5_back 112 = .ok (.isub, 1) := by decide +kernel
theorem dX5_back_113 : decode cX5_back 113 = .ok (.i2l, 1) := by decide +kernel
theorem dX5_back_114 : decode cX5_back 114 = .ok (.lmul, 1) := by decide +kernel
theorem dX5_back_115 : decode cX5_back 115 = .ok (.lstore 5, 2) := by decide +kernel
theorem dX5_back_117 : decode cX5_back 117 = .ok (.aload_n 0, 1) := by decide +kernel
theorem dX5_back_118 : decode cX5_back 118 = .ok (.getfield 22, 3) := by decide +kernel
theorem dX5_back_121 : decode cX5_back 121 = .ok (.iload_n 2, 1) := by decide +kernel
theorem dX5_back_122 : decode cX5_back 122 = .ok (.iaload, 1) := by decide +kernel
theorem dX5_back_123 : decode cX5_back 123 = .ok (.i2l, 1) := by decide +kernel
theorem dX5_back_124 : decode cX5_back 124 = .ok (.lload 5, 2) := by decide +kernel
theorem dX5_back_126 : decode cX5_back 126 = .ok (.lcmp, 1) := by decide +kernel
theorem dX5_back_127 : decode cX5_back 127 = .ok (.ifCond .ge 6, 3) := by decide +kernel
theorem dX5_back_130 : decode cX5_back 130 = .ok (.bipush (-106), 2) := by decide +kernel
theorem dX5_back_132 : decode cX5_back 132 = .ok (.ireturn, 1) := by decide +kernel
theorem dX5_back_133 : decode cX5_back 133 = .ok (.aload_n 0, 1) := by decide +kernel
theorem dX5_back_134 : decode cX5_back 134 = .ok (.getfield 22, 3) := by decide +kernel
theorem dX5_back_137 : decode cX5_back 137 = .ok (.iload_n 2, 1) := by decide +kernel
theorem dX5_back_138 : decode cX5_back 138 = .ok (.dup2, 1) := by decide +kernel
theorem dX5_back_139 : decode cX5_back 139 = .ok (.iaload, 1) := by decide +kernel
theorem dX5_back_140 : decode cX5_back 140 = .ok (.lload 5, 2) := by decide +kernel
theorem dX5_back_142 : decode cX5_back 142 = .ok (.l2i, 1) := by decide +kernel
theorem dX5_back_143 : decode cX5_back 143 = .ok (.isub, 1) := by decide +kernel
theorem dX5_back_144 : decode cX5_back 144 = .ok (.iastore, 1) := by decide +kernel
theorem dX5_back_145 : decode cX5_back 145 = .ok (.aload_n 0, 1) := by decide +kernel
theorem dX5_back_146 : decode cX5_back 146 = .ok (.dup, 1) := by decide +kernel
theorem dX5_back_147 : decode cX5_back 147 = .ok (.getfield 72, 3) := by decide +kernel
theorem dX5_back_150 : decode cX5_back 150 = .ok (.lload 5, 2) := by decide +kernel
theorem dX5_back_152 : decode cX5_back 152 = .ok (.l2i, 1) := by decide +kernel
theorem dX5_back_153 : decode cX5_back 153 = .ok (.iadd, 1) := by decide +kernel
theorem dX5_back_154 : decode cX5_back 154 = .ok (.putfield 72, 3) := by decide +kernel
theorem dX5_back_157 : decode cX5_back 157 = .ok (.aload_n 0, 1) := by decide +kernel
theorem dX5_back_158 : decode cX5_back 158 = .ok (.getfield 43, 3) := by decide +kernel
theorem dX5_back_161 : decode cX5_back 161 = .ok (.iload_n 1, 1) := by decide +kernel
theorem dX5_back_162 : decode cX5_back 162 = .ok (.aload_n 0, 1) := by decide +kernel
theorem dX5_back_163 : decode cX5_back 163 = .ok (.getfield 64, 3) := by decide +kernel
theorem dX5_back_166 : decode cX5_back 166 = .ok (.iload 4, 2) := by decide +kernel
theorem dX5_back_168 : decode cX5_back 168 = .ok (.iadd, 1) := by decide +kernel
theorem dX5_back_169 : decode cX5_back 169 = .ok (.iastore, 1) := by decide +kernel
theorem dX5_back_170 : decode cX5_back 170 = .ok (.aload_n 0, 1) := by decide +kernel
theorem dX5_back_171 : decode cX5_back 171 = .ok (.getfield 46, 3) := by decide +kernel
theorem dX5_back_174 : decode cX5_back 174 = .ok (.iload_n 1, 1) := by decide +kernel
theorem dX5_back_175 : decode cX5_back 175 = .ok (.iconst 0, 1) := by decide +kernel
theorem dX5_back_176 : decode cX5_back 176 = .ok (.iastore, 1) := by decide +kernel
theorem dX5_back_177 : decode cX5_back 177 = .ok (.lload 5, 2) := by decide +kernel
theorem dX5_back_179 : decode cX5_back 179 = .ok (.l2i, 1) := by decide +kernel
theorem dX5_back_180 : decode cX5_back 180 = .ok (.ireturn, 1) := by decide +kernel
theorem dX5_digest_0 : decode cX5_digest 0 = .ok (.aload_n 0, 1) := by decide +kernel
theorem dX5_digest_1 : decode cX5_digest 1 = .ok (.iload_n 1, 1) := by decide +kernel
theorem dX5_digest_2 : decode cX5_digest 2 = .ok (.invokevirtual 137, 3) := by decide +kernel
theorem dX5_digest_5 : decode cX5_digest 5 = .ok (.ifCond .eq 8, 3) := by decide +kernel
theorem dX5_digest_8 : decode cX5_digest 8 = .ok (.bipush (-109), 2) := by decide +kernel
theorem dX5_digest_10 : decode cX5_digest 10 = .ok (.goto 8, 3) := by decide +kernel
theorem dX5_digest_13 : decode cX5_digest 13 = .ok (.aload_n 0, 1) := by decide +kernel
theorem dX5_digest_14 : decode cX5_digest 14 = .ok (.iload_n 1, 1) := by decide +kernel
theorem dX5_digest_15 : decode cX5_digest 15 = .ok (.invokevirtual 149, 3) := by decide +kernel
theorem dX5_digest_18 : decode cX5_digest 18 = .ok (.ireturn, 1) := by decide +kernel
theorem dX5_allWeights_0 : decode cX5_allWeights 0 = .ok (.iconst 0, 1) := by decide +kernel
theorem dX5_allWeights_1 : decode cX5_allWeights 1 = .ok (.istore_n 1, 1) := by decide +kernel
theorem dX5_allWeights_2 : decode cX5_allWeights 2 = .ok (.iconst 0, 1) := by decide +kernel
theorem dX5_allWeights_3 : decode cX5_allWeights 3 = .ok (.istore_n 2, 1) := by decide +kernel
theorem dX5_allWeights_4 : decode cX5_allWeights 4 = .ok (.iload_n 2, 1) := by decide +kernel
theorem dX5_allWeights_5 : decode cX5_allWeights 5 = .ok (.iconst 5, 1) := by decide +kernel
theorem dX5_allWeights_6 : decode cX5_allWeights 6 = .ok (.if_icmp .ge 18, 3) := by decide +kernel
theorem dX5_allWeights_9 : decode cX5_allWeights 9 = .ok (.iload_n 1, 1) := by decide +kernel
theorem dX5_allWeights_10 : decode cX5_allWeights 10 = .ok (.aload_n 0, 1) := by decide +kernel
theorem dX5_allWeights_11 : decode cX5_allWeights 11 = .ok (.getfield 31, 3) := by decide +kernel
theorem dX5_allWeights_14 : decode cX5_allWeights 14 = .ok (.iload_n 2, 1) := by decide +kernel
theorem dX5_allWeights_15 : decode cX5_allWeights 15 = .ok (.iaload, 1) := by decide +kernel
theorem dX5_allWeights_16 : decode cX5_allWeights 16 = .ok (.iadd, 1) := by decide +kernel
theorem dX5_allWeights_17 : decode cX5_allWeights 17 = .ok (.istore_n 1, 1) := by decide +kernel
theorem dX5_allWeights_18 : decode cX5_allWeights 18 = .ok (.iinc 2 1, 3) := by decide +kernel
theorem dX5_allWeights_21 : decode cX5_allWeights 21 = .ok (.goto (-17), 3) := by decide +kernel
theorem dX5_allWeights_24 : decode cX5_allWeights 24 = .ok (.iload_n 1, 1) := by decide +kernel
theorem dX5_allWeights_25 : decode cX5_allWeights 25 = .ok (.ireturn, 1) := by decide +kernel
theorem dX5_rank_0 : decode cX5_rank 0 = .ok (.iconst 0, 1) := by decide +kernel
theorem dX5_rank_1 : decode cX5_rank 1 = .ok (.istore_n 2, 1) := by decide +kernel
theorem dX5_rank_2 : decode cX5_rank 2 = .ok (.iconst 0, 1) := by decide +kernel
theorem dX5_rank_3 : decode cX5_rank 3 = .ok (.istore_n 3, 1) := by decide +kernel
theorem dX5_rank_4 : decode cX5_rank 4 = .ok (.iload_n 3, 1) := by decide +kernel
theorem dX5_rank_5 : decode cX5_rank 5 = .ok (.iconst 5, 1) := by decide +kernel
theorem dX5_rank_6 : decode cX5_rank 6 = .ok (.if_icmp .ge 52, 3) := by decide +kernel
theorem dX5_rank_9 : decode cX5_rank 9 = .ok (.iload_n 2, 1) := by decide +kernel
theorem dX5_rank_10 : decode cX5_rank 10 = .ok (.aload_n 0, 1) := by decide +kernel
theorem dX5_rank_11 : decode cX5_rank 11 = .ok (.getfield 31, 3) := by decide +kernel
theorem dX5_rank_14 : decode cX5_rank 14 = .ok (.iload_n 3, 1) := by decide +kernel
theorem dX5_rank_15 : decode cX5_rank 15 = .ok (.iaload, 1) := by decide +kernel
theorem dX5_rank_16 : decode cX5_rank 16 = .ok (.aload_n 0, 1) := by decide +kernel
theorem dX5_rank_17 : decode cX5_rank 17 = .ok (.getfield 31, 3) := by decide +kernel
theorem dX5_rank_20 : decode cX5_rank 20 = .ok (.iload_n 1, 1) := by decide +kernel
theorem dX5_rank_21 : decode cX5_rank 21 = .ok (.iaload, 1) := by decide +kernel
theorem dX5_rank_22 : decode cX5_rank 22 = .ok (.if_icmp .gt 23, 3) := by decide +kernel
theorem dX5_rank_25 : decode cX5_rank 25 = .ok (.aload_n 0, 1) := by decide +kernel
theorem dX5_rank_26 : decode cX5_rank 26 = .ok (.getfield 31, 3) := by decide +kernel
theorem dX5_rank_29 : decode cX5_rank 29 = .ok (.iload_n 3, 1) := by decide +kernel
theorem dX5_rank_30 : decode cX5_rank 30 = .ok (.iaload, 1) := by decide +kernel
theorem dX5_rank_31 : decode cX5_rank 31 = .ok (.aload_n 0, 1) := by decide +kernel
theorem dX5_rank_32 : decode cX5_rank 32 = .ok (.getfield 31, 3) := by decide +kernel
theorem dX5_rank_35 : decode cX5_rank 35 = .ok (.iload_n 1, 1) := by decide +kernel
theorem dX5_rank_36 : decode cX5_rank 36 = .ok (.iaload, 1) := by decide +kernel
theorem dX5_rank_37 : decode cX5_rank 37 = .ok (.if_icmp .ne 12, 3) := by decide +kernel
theorem dX5_rank_40 : decode cX5_rank 40 = .ok (.iload_n 3, 1) := by decide +kernel
theorem dX5_rank_41 : decode cX5_rank 41 = .ok (.iload_n 1, 1) := by decide +kernel
theorem dX5_rank_42 : decode cX5_rank 42 = .ok (.if_icmp .ge 7, 3) := by decide +kernel
theorem dX5_rank_45 : decode cX5_rank 45 = .ok (.iconst 1, 1) := by decide +kernel
theorem dX5_rank_46 : decode cX5_rank 46 = .ok (.goto 4, 3) := by decide +kernel
theorem dX5_rank_49 : decode cX5_rank 49 = .ok (.iconst 0, 1) := by decide +kernel
theorem dX5_rank_50 : decode cX5_rank 50 = .ok (.iadd, 1) := by decide +kernel
theorem dX5_rank_51 : decode cX5_rank 51 = .ok (.istore_n 2, 1) := by decide +kernel
theorem dX5_rank_52 : decode cX5_rank 52 = .ok (.iinc 3 1, 3) := by decide +kernel
theorem dX5_rank_55 : decode cX5_rank 55 = .ok (.goto (-51), 3) := by decide +kernel
theorem dX5_rank_58 : decode cX5_rank 58 = .ok (.iload_n 2, 1) := by decide +kernel
theorem dX5_rank_59 : decode cX5_rank 59 = .ok (.ireturn, 1) := by decide +kernel
theorem dX5_share_0 : decode cX5_share 0 = .ok (.aload_n 0, 1) := by decide +kernel
theorem dX5_share_1 : decode cX5_share 1 = .ok (.invokevirtual 152, 3) := by decide +kernel
theorem dX5_share_4 : decode cX5_share 4 = .ok (.istore_n 1, 1) := by decide +kernel
theorem dX5_share_5 : decode cX5_share 5 = .ok (.iload_n 1, 1) := by decide +kernel
theorem dX5_share_6 : decode cX5_share 6 = .ok (.ifCond .ne 4, 3) := by decide +kernel
theorem dX5_share_9 : decode cX5_share 9 = .ok (.return_, 1) := by decide +kernel
theorem dX5_share_10 : decode cX5_share 10 = .ok (.aload_n 0, 1) := by decide +kernel
theorem dX5_share_11 : decode cX5_share 11 = .ok (.getfield 72, 3) := by decide +kernel
theorem dX5_share_14 : decode cX5_share 14 = .ok (.istore_n 2, 1) := by decide +kernel
theorem dX5_share_15 : decode cX5_share 15 = .ok (.iconst 0, 1) := by decide +kernel
theorem dX5_share_16 : decode cX5_share 16 = .ok (.istore_n 3, 1) := by decide +kernel
theorem dX5_share_17 : decode cX5_share 17 = .ok (.iconst 0, 1) := by decide +kernel
theorem dX5_share_18 : decode cX5_share 18 = .ok (.istore 4, 2) := by decide +kernel
theorem dX5_share_20 : decode cX5_share 20 = .ok (.iload 4, 2) := by decide +kernel
theorem dX5_share_22 : decode cX5_share 22 = .ok (.iconst 5, 1) := by decide +kernel
theorem dX5_share_23 : decode cX5_share 23 = .ok (.if_icmp .ge 64, 3) := by decide +kernel
theorem dX5_share_26 : decode cX5_share 26 = .ok (.aload_n 0, 1) := by decide +kernel
theorem dX5_share_27 : decode cX5_share 27 = .ok (.getfield 72, 3) := by decide +kernel
theorem dX5_share_30 : decode cX5_share 30 = .ok (.i2l, 1) := by decide +kernel
theorem dX5_share_31 : decode cX5_share 31 = .ok (.aload_n 0, 1) := by decide +kernel
theorem dX5_share_32 : decode cX5_share 32 = .ok (.getfield 31, 3) := by decide +kernel
theorem dX5_share_35 : decode cX5_share 35 = .ok (.iload 4, 2) := by decide +kernel
theorem dX5_share_37 : decode cX5_share 37 = .ok (.iaload, 1) := by decide +kernel
theorem dX5_share_38 : decode cX5_share 38 = .ok (.i2l, 1) := by decide +kernel
theorem dX5_share_39 : decode cX5_share 39 = .ok (.lmul, 1) := by decide +kernel
theorem dX5_share_40 : decode cX5_share 40 = .ok (.iload_n 1, 1) := by decide +kernel
theorem dX5_share_41 : decode cX5_share 41 = .ok (.i2l, 1) := by decide +kernel
theorem dX5_share_42 : decode cX5_share 42 = .ok (.ldiv, 1) := by decide +kernel
theorem dX5_share_43 : decode cX5_share 43 = .ok (.l2i, 1) := by decide +kernel
theorem dX5_share_44 : decode cX5_share 44 = .ok (.istore 5, 2) := by decide +kernel
theorem dX5_share_46 : decode cX5_share 46 = .ok (.aload_n 0, 1) := by decide +kernel
theorem dX5_share_47 : decode cX5_share 47 = .ok (.getfield 28, 3) := by decide +kernel
theorem dX5_share_50 : decode cX5_share 50 = .ok (.iload 4, 2) := by decide +kernel
theorem dX5_share_52 : decode cX5_share 52 = .ok (.dup2, 1) := by decide +kernel
theorem dX5_share_53 : decode cX5_share 53 = .ok (.iaload, 1) := by decide +kernel
theorem dX5_share_54 : decode cX5_share 54 = .ok (.iload 5, 2) := by decide +kernel
theorem dX5_share_56 : decode cX5_share 56 = .ok (.iadd, 1) := by decide +kernel
theorem dX5_share_57 : decode cX5_share 57 = .ok (.iastore, 1) := by decide +kernel
theorem dX5_share_58 : decode cX5_share 58 = .ok (.iload_n 2, 1) := by decide +kernel
theorem dX5_share_59 : decode cX5_share 59 = .ok (.iload 5, 2) := by decide +kernel
theorem dX5_share_61 : decode cX5_share 61 = .ok (.isub, 1) := by decide +kernel
theorem dX5_share_62 : decode cX5_share 62 = .ok (.istore_n 2, 1) := by decide +kernel
theorem dX5_share_63 : decode cX5_share 63 = .ok (.iload_n 3, 1) := by decide +kernel
theorem dX5_share_64 : decode cX5_share 64 = .ok (.aload_n 0, 1) := by decide +kernel
theorem dX5_share_65 : decode cX5_share 65 = .ok (.getfield 31, 3) := by decide +kernel
theorem dX5_share_68 : decode cX5_share 68 = .ok (.iload 4, 2) := by decide +kernel
theorem dX5_share_70 : decode cX5_share 70 = .ok (.iaload, 1) := by decide +kernel
theorem dX5_share_71 : decode cX5_share 71 = .ok (.ifCond .le 7, 3) := by decide +kernel
theorem dX5_share_74 : decode cX5_share 74 = .ok (.iconst 1, 1) := by decide +kernel
theorem dX5_share_75 : decode cX5_share 75 = .ok (.goto 4, 3) := by decide +kernel
theorem dX5_share_78 : decode cX5_share 78 = .ok (.iconst 0, 1) := by decide +kernel
theorem dX5_share_79 : decode cX5_share 79 = .ok (.iadd, 1) := by decide +kernel
theorem dX5_share_80 : decode cX5_share 80 = .ok (.istore_n 3, 1) := by decide +kernel
theorem dX5_share_81 : decode cX5_share 81 = .ok (.iinc 4 1, 3) := by decide +kernel
theorem dX5_share_84 : decode cX5_share 84 = .ok (.goto (-64), 3) := by decide +kernel
theorem dX5_share_87 : decode cX5_share 87 = .ok (.iconst 0, 1) := by decide +kernel
theorem dX5_share_88 : decode cX5_share 88 = .ok (.istore 4, 2) := by decide +kernel
theorem dX5_share_90 : decode cX5_share 90 = .ok (.iload 4, 2) := by decide +kernel
theorem dX5_share_92 : decode cX5_share 92 = .ok (.iconst 5, 1) := by decide +kernel
theorem dX5_share_93 : decode cX5_share 93 = .ok (.if_icmp .ge 57, 3) := by decide +kernel
theorem dX5_share_96 : decode cX5_share 96 = .ok (.aload_n 0, 1) := by decide +kernel
theorem dX5_share_97 : decode cX5_share 97 = .ok (.iload 4, 2) := by decide +kernel
theorem dX5_share_99 : decode cX5_share 99 = .ok (.invokevirtual 155, 3) := by decide +kernel
theorem dX5_share_102 : decode cX5_share 102 = .ok (.istore 5, 2) := by decide +kernel
theorem dX5_share_104 : decode cX5_share 104 = .ok (.aload_n 0, 1) := by decide +kernel
theorem dX5_share_105 : decode cX5_share 105 = .ok (.getfield 28, 3) := by decide +kernel
theorem dX5_share_108 : decode cX5_share 108 = .ok (.iload 4, 2) := by decide +kernel
theorem dX5_share_110 : decode cX5_share 110 = .ok (.dup2, 1) := by decide +kernel
theorem dX5_share_111 : decode cX5_share 111 = .ok (.iaload, 1) := by decide +kernel
theorem dX5_share_112 : decode cX5_share 112 = .ok (.aload_n 0, 1) := by decide +kernel
theorem dX5_share_113 : decode cX5_share 113 = .ok (.getfield 31, 3) := by decide +kernel
theorem dX5_share_116 : decode cX5_share 116 = .ok (.iload 4, 2) := by decide +kernel
theorem dX5_share_118 : decode cX5_share 118 = .ok (.iaload, 1) := by decide +kernel
theorem dX5_share_119 : decode cX5_share 119 = .ok (.ifCond .le 22, 3) := by decide +kernel
theorem dX5_share_122 : decode cX5_share 122 = .ok (.iload_n 2, 1) := by decide +kernel
theorem dX5_share_123 : decode cX5_share 123 = .ok (.iload 5, 2) := by decide +kernel
theorem dX5_share_125 : decode cX5_share 125 = .ok (.if_icmp .le 16, 3) := by decide +kernel
theorem dX5_share_128 : decode cX5_share 128 = .ok (.iload_n 2, 1) := by decide +kernel
theorem dX5_share_129 : decode cX5_share 129 = .ok (.iload 5, 2) := by decide +kernel
theorem dX5_share_131 : decode cX5_share 131 = .ok (.isub, 1) := by decide +kernel
theorem dX5_share_132 : decode cX5_share 132 = .ok (.iconst 1, 1) := by decide +kernel
theorem dX5_share_133 : decode cX5_share 133 = .ok (.isub, 1) := by decide +kernel
theorem dX5_share_134 : decode cX5_share 134 = .ok (.iload_n 3, 1) := by decide +kernel
theorem dX5_share_135 : decode cX5_share 135 = .ok (.idiv, 1) := by decide +kernel
theorem dX5_share_136 : decode cX5_share 136 = .ok (.iconst 1, 1) := by decide +kernel
theorem dX5_share_137 : decode cX5_share 137 = .ok (.iadd, 1) := by decide +kernel
theorem dX5_share_138 : decode cX5_share 138 = .ok (.goto 4, 3) := by decide +kernel
theorem dX5_share_141 : decode cX5_share 141 = .ok (.iconst 0, 1) := by decide +kernel
theorem dX5_share_142 : decode cX5_share 142 = .ok (.iadd, 1) := by decide +kernel
theorem dX5_share_143 : decode cX5_share 143 = .ok (.iastore, 1) := by decide +kernel
theorem dX5_share_144 : decode cX5_share 144 = .ok (.iinc 4 1, 3) := by decide +kernel
theorem dX5_share_147 : decode cX5_share 147 = .ok (.goto (-57), 3) := by decide +kernel
theorem dX5_share_150 : decode cX5_share 150 = .ok (.aload_n 0, 1) := by decide +kernel
theorem dX5_share_151 : decode cX5_share 151 = .ok (.dup, 1) := by decide +kernel
theorem dX5_share_152 : decode cX5_share 152 = .ok (.getfield 75, 3) := by decide +kernel
theorem dX5_share_155 : decode cX5_share 155 = .ok (.aload_n 0, 1) := by decide +kernel
theorem dX5_share_156 : decode cX5_share 156 = .ok (.getfield 72, 3) := by decide +kernel
theorem dX5_share_159 : decode cX5_share 159 = .ok (.iadd, 1) := by decide +kernel
theorem dX5_share_160 : decode cX5_share 160 = .ok (.putfield 75, 3) := by decide +kernel
theorem dX5_share_163 : decode cX5_share 163 = .ok (.aload_n 0, 1) := by decide +kernel
theorem dX5_share_164 : decode cX5_share 164 = .ok (.iconst 0, 1) := by decide +kernel
theorem dX5_share_165 : decode cX5_share 165 = .ok (.putfield 72, 3) := by decide +kernel
theorem dX5_share_168 : decode cX5_share 168 = .ok (.return_, 1) := by decide +kernel
theorem dX5_tick_0 : decode cX5_tick 0 = .ok (.iload_n 1, 1) := by decide +kernel
theorem dX5_tick_1 : decode cX5_tick 1 = .ok (.i2l, 1) := by decide +kernel
theorem dX5_tick_2 : decode cX5_tick 2 = .ok (.lconst 1, 1) := by decide +kernel
theorem dX5_tick_3 : decode cX5_tick 3 = .ok (.ldc2_w 89, 3) := by decide +kernel
theorem dX5_tick_6 : decode cX5_tick 6 = .ok (.invokestatic 83, 3) := by decide +kernel
theorem dX5_tick_9 : decode cX5_tick 9 = .ok (.ifCond .eq 14, 3) := by decide +kernel
theorem dX5_tick_12 : decode cX5_tick 12 = .ok (.aload_n 0, 1) := by decide +kernel
theorem dX5_tick_13 : decode cX5_tick 13 = .ok (.getfield 64, 3) := by decide +kernel
theorem dX5_tick_16 : decode cX5_tick 16 = .ok (.iload_n 1, 1) := by decide +kernel
theorem dX5_tick_17 : decode cX5_tick 17 = .ok (.iadd, 1) := by decide +kernel
theorem dX5_tick_18 : decode cX5_tick 18 = .ok (.ldc 71, 2) := by decide +kernel
theorem dX5_tick_20 : decode cX5_tick 20 = .ok (.if_icmp .le 6, 3) := by decide +kernel
theorem dX5_tick_23 : decode cX5_tick 23 = .ok (.bipush (-102), 2) := by decide +kernel
theorem dX5_tick_25 : decode cX5_tick 25 = .ok (.ireturn, 1) := by decide +kernel
theorem dX5_tick_26 : decode cX5_tick 26 = .ok (.iconst 0, 1) := by decide +kernel
theorem dX5_tick_27 : decode cX5_tick 27 = .ok (.istore_n 2, 1) := by decide +kernel
theorem dX5_tick_28 : decode cX5_tick 28 = .ok (.iconst 0, 1) := by decide +kernel
theorem dX5_tick_29 : decode cX5_tick 29 = .ok (.istore_n 3, 1) := by decide +kernel
theorem dX5_tick_30 : decode cX5_tick 30 = .ok (.iload_n 3, 1) := by decide +kernel
theorem dX5_tick_31 : decode cX5_tick 31 = .ok (.iload_n 1, 1) := by decide +kernel
theorem dX5_tick_32 : decode cX5_tick 32 = .ok (.if_icmp .ge 76, 3) := by decide +kernel
theorem dX5_tick_35 : decode cX5_tick 35 = .ok (.aload_n 0, 1) := by decide +kernel
theorem dX5_tick_36 : decode cX5_tick 36 = .ok (.dup, 1) := by decide +kernel
theorem dX5_tick_37 : decode cX5_tick 37 = .ok (.getfield 64, 3) := by decide +kernel
theorem dX5_tick_40 : decode cX5_tick 40 = .ok (.iconst 1, 1) := by decide +kernel
theorem dX5_tick_41 : decode cX5_tick 41 = .ok (.iadd, 1) := by decide +kernel
theorem dX5_tick_42 : decode cX5_tick 42 = .ok (.putfield 64, 3) := by decide +kernel
theorem dX5_tick_45 : decode cX5_tick 45 = .ok (.iconst 0, 1) := by decide +kernel
theorem dX5_tick_46 : decode cX5_tick 46 = .ok (.istore 4, 2) := by decide +kernel
theorem dX5_tick_48 : decode cX5_tick 48 = .ok (.iload 4, 2) := by decide +kernel
theorem dX5_tick_50 : decode cX5_tick 50 = .ok (.aload_n 0, 1) := by decide +kernel
theorem dX5_tick_51 : decode cX5_tick 51 = .ok (.getfield 78, 3) := by decide +kernel
theorem dX5_tick_54 : decode cX5_tick 54 = .ok (.if_icmp .ge 44, 3) := by decide +kernel
theorem dX5_tick_57 : decode cX5_tick 57 = .ok (.aload_n 0, 1) := by decide +kernel
theorem dX5_tick_58 : decode cX5_tick 58 = .ok (.getfield 46, 3) := by decide +kernel
theorem dX5_tick_61 : decode cX5_tick 61 = .ok (.iload 4, 2) := by decide +kernel
theorem dX5_tick_63 : decode cX5_tick 63 = .ok (.iaload, 1) := by decide +kernel
theorem dX5_tick_64 : decode cX5_tick 64 = .ok (.ifCond .ne 28, 3) := by decide +kernel
theorem dX5_tick_67 : decode cX5_tick 67 = .ok (.aload_n 0, 1) := by decide +kernel
theorem dX5_tick_68 : decode cX5_tick 68 = .ok (.getfield 43, 3) := by decide +kernel
theorem dX5_tick_71 : decode cX5_tick 71 = .ok (.iload 4, 2) := by decide +kernel
theorem dX5_tick_73 : decode cX5_tick 73 = .ok (.iaload, 1) := by decide +kernel
theorem dX5_tick_74 : decode cX5_tick 74 = .ok (.aload_n 0, 1) := by decide +kernel
theorem dX5_tick_75 : decode cX5_tick 75 = .ok (.getfield 64, 3) := by decide +kernel
theorem dX5_tick_78 : decode cX5_tick 78 = .ok (.if_icmp .ge 14, 3) := by decide +kernel
theorem dX5_tick_81 : decode cX5_tick 81 = .ok (.aload_n 0, 1) := by decide +kernel
theorem dX5_tick_82 : decode cX5_tick 82 = .ok (.getfield 46, 3) := by decide +kernel
theorem dX5_tick_85 : decode cX5_tick 85 = .ok (.iload 4, 2) := by decide +kernel
theorem dX5_tick_87 : decode cX5_tick 87 = .ok (.iconst 1, 1) := by decide +kernel
theorem dX5_tick_88 : decode cX5_tick 88 = .ok (.iastore, 1) := by decide +kernel
theorem dX5_tick_89 : decode cX5_tick 89 = .ok (.iinc 2 1, 3) := by decide +kernel
theorem dX5_tick_92 : decode cX5_tick 92 = .ok (.iinc 4 1, 3) := by decide +kernel
theorem dX5_tick_95 : decode cX5_tick 95 = .ok (.goto (-47), 3) := by decide +kernel
theorem dX5_tick_98 : decode cX5_tick 98 = .ok (.aload_n 0, 1) := by decide +kernel
theorem dX5_tick_99 : decode cX5_tick 99 = .ok (.invokevirtual 158, 3) := by decide +kernel
theorem dX5_tick_102 : decode cX5_tick 102 = .ok (.iinc 3 1, 3) := by decide +kernel
theorem dX5_tick_105 : decode cX5_tick 105 = .ok (.goto (-75), 3) := by decide +kernel
theorem dX5_tick_108 : decode cX5_tick 108 = .ok (.iload_n 2, 1) := by decide +kernel
theorem dX5_tick_109 : decode cX5_tick 109 = .ok (.ireturn, 1) := by decide +kernel
theorem dX5_weight_0 : decode cX5_weight 0 = .ok (.iload_n 1, 1) := by decide +kernel
theorem dX5_weight_1 : decode cX5_weight 1 = .ok (.i2l, 1) := by decide +kernel
theorem dX5_weight_2 : decode cX5_weight 2 = .ok (.lconst 0, 1) := by decide +kernel
theorem dX5_weight_3 : decode cX5_weight 3 = .ok (.ldc2_w 161, 3) := by decide +kernel
theorem dX5_weight_6 : decode cX5_weight 6 = .ok (.invokestatic 83, 3) := by decide +kernel
theorem dX5_weight_9 : decode cX5_weight 9 = .ok (.ifCond .ne 6, 3) := by decide +kernel
theorem dX5_weight_12 : decode cX5_weight 12 = .ok (.bipush (-101), 2) := by decide +kernel
theorem dX5_weight_14 : decode cX5_weight 14 = .ok (.ireturn, 1) := by decide +kernel
theorem dX5_weight_15 : decode cX5_weight 15 = .ok (.iload_n 2, 1) := by decide +kernel
theorem dX5_weight_16 : decode cX5_weight 16 = .ok (.i2l, 1) := by decide +kernel
theorem dX5_weight_17 : decode cX5_weight 17 = .ok (.lconst 0, 1) := by decide +kernel
theorem dX5_weight_18 : decode cX5_weight 18 = .ok (.ldc2_w 122, 3) := by decide +kernel
theorem dX5_weight_21 : decode cX5_weight 21 = .ok (.invokestatic 83, 3) := by decide +kernel
theorem dX5_weight_24 : decode cX5_weight 24 = .ok (.ifCond .ne 6, 3) := by decide +kernel
theorem dX5_weight_27 : decode cX5_weight 27 = .ok (.bipush (-102), 2) := by decide +kernel
theorem dX5_weight_29 : decode cX5_weight 29 = .ok (.ireturn, 1) := by decide +kernel
theorem dX5_weight_30 : decode cX5_weight 30 = .ok (.aload_n 0, 1) := by decide +kernel
theorem dX5_weight_31 : decode cX5_weight 31 = .ok (.getfield 31, 3) := by decide +kernel
theorem dX5_weight_34 : decode cX5_weight 34 = .ok (.iload_n 1, 1) := by decide +kernel
theorem dX5_weight_35 : decode cX5_weight 35 = .ok (.iaload, 1) := by decide +kernel
theorem dX5_weight_36 : decode cX5_weight 36 = .ok (.istore_n 3, 1) := by decide +kernel
theorem dX5_weight_37 : decode cX5_weight 37 = .ok (.aload_n 0, 1) := by decide +kernel
theorem dX5_weight_38 : decode cX5_weight 38 = .ok (.getfield 31, 3) := by decide +kernel
theorem dX5_weight_41 : decode cX5_weight 41 = .ok (.iload_n 1, 1) := by decide +kernel
theorem dX5_weight_42 : decode cX5_weight 42 = .ok (.iload_n 2, 1) := by decide +kernel
theorem dX5_weight_43 : decode cX5_weight 43 = .ok (.iastore, 1) := by decide +kernel
theorem dX5_weight_44 : decode cX5_weight 44 = .ok (.iload_n 3, 1) := by decide +kernel
theorem dX5_weight_45 : decode cX5_weight 45 = .ok (.ireturn, 1) := by decide +kernel
theorem dX5_coins_0 : decode cX5_coins 0 = .ok (.iload_n 1, 1) := by decide +kernel
theorem dX5_coins_1 : decode cX5_coins 1 = .ok (.i2l, 1) := by decide +kernel
theorem dX5_coins_2 : decode cX5_coins 2 = .ok (.lconst 0, 1) := by decide +kernel
theorem dX5_coins_3 : decode cX5_coins 3 = .ok (.lconst 1, 1) := by decide +kernel
theorem dX5_coins_4 : decode cX5_coins 4 = .ok (.invokestatic 83, 3) := by decide +kernel
theorem dX5_coins_7 : decode cX5_coins 7 = .ok (.ifCond .ne 6, 3) := by decide +kernel
theorem dX5_coins_10 : decode cX5_coins 10 = .ok (.bipush (-102), 2) := by decide +kernel
theorem dX5_coins_12 : decode cX5_coins 12 = .ok (.ireturn, 1) := by decide +kernel
theorem dX5_coins_13 : decode cX5_coins 13 = .ok (.iload_n 1, 1) := by decide +kernel
theorem dX5_coins_14 : decode cX5_coins 14 = .ok (.ifCond .ne 23, 3) := by decide +kernel
theorem dX5_coins_17 : decode cX5_coins 17 = .ok (.aload_n 0, 1) := by decide +kernel
theorem dX5_coins_18 : decode cX5_coins 18 = .ok (.iload_n 2, 1) := by decide +kernel
theorem dX5_coins_19 : decode cX5_coins 19 = .ok (.invokevirtual 101, 3) := by decide +kernel
theorem dX5_coins_22 : decode cX5_coins 22 = .ok (.ifCond .eq 8, 3) := by decide +kernel
theorem dX5_coins_25 : decode cX5_coins 25 = .ok (.bipush (-101), 2) := by decide +kernel
theorem dX5_coins_27 : decode cX5_coins 27 = .ok (.goto 9, 3) := by decide +kernel
theorem dX5_coins_30 : decode cX5_coins 30 = .ok (.aload_n 0, 1) := by decide +kernel
theorem dX5_coins_31 : decode cX5_coins 31 = .ok (.getfield 22, 3) := by decide +kernel
theorem dX5_coins_34 : decode cX5_coins 34 = .ok (.iload_n 2, 1) := by decide +kernel
theorem dX5_coins_35 : decode cX5_coins 35 = .ok (.iaload, 1) := by decide +kernel
theorem dX5_coins_36 : decode cX5_coins 36 = .ok (.ireturn, 1) := by decide +kernel
theorem dX5_coins_37 : decode cX5_coins 37 = .ok (.iload_n 2, 1) := by decide +kernel
theorem dX5_coins_38 : decode cX5_coins 38 = .ok (.i2l, 1) := by decide +kernel
theorem dX5_coins_39 : decode cX5_coins 39 = .ok (.lconst 0, 1) := by decide +kernel
theorem dX5_coins_40 : decode cX5_coins 40 = .ok (.ldc2_w 161, 3) := by decide +kernel
theorem dX5_coins_43 : decode cX5_coins 43 = .ok (.invokestatic 83, 3) := by decide +kernel
theorem dX5_coins_46 : decode cX5_coins 46 = .ok (.ifCond .eq 12, 3) := by decide +kernel
theorem dX5_coins_49 : decode cX5_coins 49 = .ok (.aload_n 0, 1) := by decide +kernel
theorem dX5_coins_50 : decode cX5_coins 50 = .ok (.getfield 28, 3) := by decide +kernel
theorem dX5_coins_53 : decode cX5_coins 53 = .ok (.iload_n 2, 1) := by decide +kernel
theorem dX5_coins_54 : decode cX5_coins 54 = .ok (.iaload, 1) := by decide +kernel
theorem dX5_coins_55 : decode cX5_coins 55 = .ok (.goto 5, 3) := by decide +kernel
theorem dX5_coins_58 : decode cX5_coins 58 = .ok (.bipush (-101), 2) := by decide +kernel
theorem dX5_coins_60 : decode cX5_coins 60 = .ok (.ireturn, 1) := by decide +kernel
theorem dX5_object_0 : decode cX5_object 0 = .ok (.aload_n 0, 1) := by decide +kernel
theorem dX5_object_1 : decode cX5_object 1 = .ok (.iload_n 1, 1) := by decide +kernel
theorem dX5_object_2 : decode cX5_object 2 = .ok (.invokevirtual 137, 3) := by decide +kernel
theorem dX5_object_5 : decode cX5_object 5 = .ok (.ifCond .eq 6, 3) := by decide +kernel
theorem dX5_object_8 : decode cX5_object 8 = .ok (.bipush (-101), 2) := by decide +kernel
theorem dX5_object_10 : decode cX5_object 10 = .ok (.ireturn, 1) := by decide +kernel
theorem dX5_object_11 : decode cX5_object 11 = .ok (.iload_n 2, 1) := by decide +kernel
theorem dX5_object_12 : decode cX5_object 12 = .ok (.tableswitch 109 0 6 #[44, 51, 57, 64, 71, 78, 84], 44) := by decide +kernel
theorem dX5_object_56 : decode cX5_object 56 = .ok (.aload_n 0, 1) := by decide +kernel
theorem dX5_object_57 : decode cX5_object 57 = .ok (.getfield 34, 3) := by decide +kernel
theorem dX5_object_60 : decode cX5_object 60 = .ok (.iload_n 1, 1) := by decide +kernel
theorem dX5_object_61 : decode cX5_object 61 = .ok (.iaload, 1) := by decide +kernel
theorem dX5_object_62 : decode cX5_object 62 = .ok (.ireturn, 1) := by decide +kernel
theorem dX5_object_63 : decode cX5_object 63 = .ok (.aload_n 0, 1) := by decide +kernel
theorem dX5_object_64 : decode cX5_object 64 = .ok (.iload_n 1, 1) := by decide +kernel
theorem dX5_object_65 : decode cX5_object 65 = .ok (.invokevirtual 142, 3) := by decide +kernel
theorem dX5_object_68 : decode cX5_object 68 = .ok (.ireturn, 1) := by decide +kernel
theorem dX5_object_69 : decode cX5_object 69 = .ok (.aload_n 0, 1) := by decide +kernel
theorem dX5_object_70 : decode cX5_object 70 = .ok (.getfield 43, 3) := by decide +kernel
theorem dX5_object_73 : decode cX5_object 73 = .ok (.iload_n 1, 1) := by decide +kernel
theorem dX5_object_74 : decode cX5_object 74 = .ok (.iaload, 1) := by decide +kernel
theorem dX5_object_75 : decode cX5_object 75 = .ok (.ireturn, 1) := by decide +kernel
theorem dX5_object_76 : decode cX5_object 76 = .ok (.aload_n 0, 1) := by decide +kernel
theorem dX5_object_77 : decode cX5_object 77 = .ok (.getfield 46, 3) := by decide +kernel
theorem dX5_object_80 : decode cX5_object 80 = .ok (.iload_n 1, 1) := by decide +kernel
theorem dX5_object_81 : decode cX5_object 81 = .ok (.iaload, 1) := by decide +kernel
theorem dX5_object_82 : decode cX5_object 82 = .ok (.ireturn, 1) := by decide +kernel
theorem dX5_object_83 : decode cX5_object 83 = .ok (.aload_n 0, 1) := by decide +kernel
theorem dX5_object_84 : decode cX5_object 84 = .ok (.getfield 49, 3) := by decide +kernel
theorem dX5_object_87 : decode cX5_object 87 = .ok (.iload_n 1, 1) := by decide +kernel
theorem dX5_object_88 : decode cX5_object 88 = .ok (.iaload, 1) := by decide +kernel
theorem dX5_object_89 : decode cX5_object 89 = .ok (.ireturn, 1) := by decide +kernel
theorem dX5_object_90 : decode cX5_object 90 = .ok (.aload_n 0, 1) := by decide +kernel
theorem dX5_object_91 : decode cX5_object 91 = .ok (.iload_n 1, 1) := by decide +kernel
theorem dX5_object_92 : decode cX5_object 92 = .ok (.invokevirtual 163, 3) := by decide +kernel
theorem dX5_object_95 : decode cX5_object 95 = .ok (.ireturn, 1) := by decide +kernel
theorem dX5_object_96 : decode cX5_object 96 = .ok (.aload_n 0, 1) := by decide +kernel
theorem dX5_object_97 : decode cX5_object 97 = .ok (.getfield 46, 3) := by decide +kernel
theorem dX5_object_100 : decode cX5_object 100 = .ok (.iload_n 1, 1) := by decide +kernel
theorem dX5_object_101 : decode cX5_object 101 = .ok (.iaload, 1) := by decide +kernel
theorem dX5_object_102 : decode cX5_object 102 = .ok (.iconst 2, 1) := by decide +kernel
theorem dX5_object_103 : decode cX5_object 103 = .ok (.if_icmp .ne 7, 3) := by decide +kernel
theorem dX5_object_106 : decode cX5_object 106 = .ok (.iconst 0, 1) := by decide +kernel
theorem dX5_object_107 : decode cX5_object 107 = .ok (.goto 13, 3) := by decide +kernel
theorem dX5_object_110 : decode cX5_object 110 = .ok (.aload_n 0, 1) := by decide +kernel
theorem dX5_object_111 : decode cX5_object 111 = .ok (.aload_n 0, 1) := by decide +kernel
theorem dX5_object_112 : decode cX5_object 112 = .ok (.getfield 37, 3) := by decide +kernel
theorem dX5_object_115 : decode cX5_object 115 = .ok (.iload_n 1, 1) := by decide +kernel
theorem dX5_object_116 : decode cX5_object 116 = .ok (.iaload, 1) := by decide +kernel
theorem dX5_object_117 : decode cX5_object 117 = .ok (.invokevirtual 127, 3) := by decide +kernel
theorem dX5_object_120 : decode cX5_object 120 = .ok (.ireturn, 1) := by decide +kernel
theorem dX5_object_121 : decode cX5_object 121 = .ok (.bipush (-102), 2) := by decide +kernel
theorem dX5_object_123 : decode cX5_object 123 = .ok (.ireturn, 1) := by decide +kernel
theorem dX5_layer_0 : decode cX5_layer 0 = .ok (.aload_n 0, 1) := by decide +kernel
theorem dX5_layer_1 : decode cX5_layer 1 = .ok (.iload_n 1, 1) := by decide +kernel
theorem dX5_layer_2 : decode cX5_layer 2 = .ok (.invokevirtual 137, 3) := by decide +kernel
theorem dX5_layer_5 : decode cX5_layer 5 = .ok (.ifCond .eq 6, 3) := by decide +kernel
theorem dX5_layer_8 : decode cX5_layer 8 = .ok (.bipush (-101), 2) := by decide +kernel
theorem dX5_layer_10 : decode cX5_layer 10 = .ok (.ireturn, 1) := by decide +kernel
theorem dX5_layer_11 : decode cX5_layer 11 = .ok (.iload_n 3, 1) := by decide +kernel
theorem dX5_layer_12 : decode cX5_layer 12 = .ok (.i2l, 1) := by decide +kernel
theorem dX5_layer_13 : decode cX5_layer 13 = .ok (.lconst 0, 1) := by decide +kernel
theorem dX5_layer_14 : decode cX5_layer 14 = .ok (.ldc2_w 166, 3) := by decide +kernel
theorem dX5_layer_17 : decode cX5_layer 17 = .ok (.invokestatic 83, 3) := by decide +kernel
theorem dX5_layer_20 : decode cX5_layer 20 = .ok (.ifCond .ne 6, 3) := by decide +kernel
theorem dX5_layer_23 : decode cX5_layer 23 = .ok (.bipush (-102), 2) := by decide +kernel
theorem dX5_layer_25 : decode cX5_layer 25 = .ok (.ireturn, 1) := by decide +kernel
theorem dX5_layer_26 : decode cX5_layer 26 = .ok (.iload_n 2, 1) := by decide +kernel
theorem dX5_layer_27 : decode cX5_layer 27 = .ok (.i2l, 1) := by decide +kernel
theorem dX5_layer_28 : decode cX5_layer 28 = .ok (.lconst 0, 1) := by decide +kernel
theorem dX5_layer_29 : decode cX5_layer 29 = .ok (.aload_n 0, 1) := by decide +kernel
theorem dX5_layer_30 : decode cX5_layer 30 = .ok (.getfield 49, 3) := by decide +kernel
theorem dX5_layer_33 : decode cX5_layer 33 = .ok (.iload_n 1, 1) := by decide +kernel
theorem dX5_layer_34 : decode cX5_layer 34 = .ok (.iaload, 1) := by decide +kernel
theorem dX5_layer_35 : decode cX5_layer 35 = .ok (.iconst 1, 1) := by decide +kernel
theorem dX5_layer_36 : decode cX5_layer 36 = .ok (.isub, 1) := by decide +kernel
theorem dX5_layer_37 : decode cX5_layer 37 = .ok (.i2l, 1) := by decide +kernel
theorem dX5_layer_38 : decode cX5_layer 38 = .ok (.invokestatic 83, 3) := by decide +kernel
theorem dX5_layer_41 : decode cX5_layer 41 = .ok (.ifCond .ne 6, 3) := by decide +kernel
theorem dX5_layer_44 : decode cX5_layer 44 = .ok (.bipush (-109), 2) := by decide +kernel
theorem dX5_layer_46 : decode cX5_layer 46 = .ok (.ireturn, 1) := by decide +kernel
theorem dX5_layer_47 : decode cX5_layer 47 = .ok (.bipush 16, 2) := by decide +kernel
theorem dX5_layer_49 : decode cX5_layer 49 = .ok (.iload_n 1, 1) := by decide +kernel
theorem dX5_layer_50 : decode cX5_layer 50 = .ok (.imul, 1) := by decide +kernel
theorem dX5_layer_51 : decode cX5_layer 51 = .ok (.iload_n 2, 1) := by decide +kernel
theorem dX5_layer_52 : decode cX5_layer 52 = .ok (.iadd, 1) := by decide +kernel
theorem dX5_layer_53 : decode cX5_layer 53 = .ok (.istore 4, 2) := by decide +kernel
theorem dX5_layer_55 : decode cX5_layer 55 = .ok (.iload_n 3, 1) := by decide +kernel
theorem dX5_layer_56 : decode cX5_layer 56 = .ok (.ifCond .ne 13, 3) := by decide +kernel
theorem dX5_layer_59 : decode cX5_layer 59 = .ok (.aload_n 0, 1) := by decide +kernel
theorem dX5_layer_60 : decode cX5_layer 60 = .ok (.getfield 52, 3) := by decide +kernel
theorem dX5_layer_63 : decode cX5_layer 63 = .ok (.iload 4, 2) := by decide +kernel
theorem dX5_layer_65 : decode cX5_layer 65 = .ok (.iaload, 1) := by decide +kernel
theorem dX5_layer_66 : decode cX5_layer 66 = .ok (.goto 25, 3) := by decide +kernel
theorem dX5_layer_69 : decode cX5_layer 69 = .ok (.iload_n 3, 1) := by decide +kernel
theorem dX5_layer_70 : decode cX5_layer 70 = .ok (.iconst 1, 1) := by decide +kernel
theorem dX5_layer_71 : decode cX5_layer 71 = .ok (.if_icmp .ne 13, 3) := by decide +kernel
theorem dX5_layer_74 : decode cX5_layer 74 = .ok (.aload_n 0, 1) := by decide +kernel
theorem dX5_layer_75 : decode cX5_layer 75 = .ok (.getfield 55, 3) := by decide +kernel
theorem dX5_layer_78 : decode cX5_layer 78 = .ok (.iload 4, 2) := by decide +kernel
theorem dX5_layer_80 : decode cX5_layer 80 = .ok (.iaload, 1) := by decide +kernel
theorem dX5_layer_81 : decode cX5_layer 81 = .ok (.goto 10, 3) := by decide +kernel
theorem dX5_layer_84 : decode cX5_layer 84 = .ok (.aload_n 0, 1) := by decide +kernel
theorem dX5_layer_85 : decode cX5_layer 85 = .ok (.getfield 58, 3) := by decide +kernel
theorem dX5_layer_88 : decode cX5_layer 88 = .ok (.iload 4, 2) := by decide +kernel
theorem dX5_layer_90 : decode cX5_layer 90 = .ok (.iaload, 1) := by decide +kernel
theorem dX5_layer_91 : decode cX5_layer 91 = .ok (.ireturn, 1) := by decide +kernel
theorem dX5_word_0 : decode cX5_word 0 = .ok (.aload_n 0, 1) := by decide +kernel
theorem dX5_word_1 : decode cX5_word 1 = .ok (.iload_n 1, 1) := by decide +kernel
theorem dX5_word_2 : decode cX5_word 2 = .ok (.invokevirtual 137, 3) := by decide +kernel
theorem dX5_word_5 : decode cX5_word 5 = .ok (.ifCond .eq 6, 3) := by decide +kernel
theorem dX5_word_8 : decode cX5_word 8 = .ok (.bipush (-101), 2) := by decide +kernel
theorem dX5_word_10 : decode cX5_word 10 = .ok (.ireturn, 1) := by decide +kernel
theorem dX5_word_11 : decode cX5_word 11 = .ok (.iload_n 2, 1) := by decide +kernel
theorem dX5_word_12 : decode cX5_word 12 = .ok (.i2l, 1) := by decide +kernel
theorem dX5_word_13 : decode cX5_word 13 = .ok (.lconst 0, 1) := by decide +kernel
theorem dX5_word_14 : decode cX5_word 14 = .ok (.ldc2_w 95, 3) := by decide +kernel
theorem dX5_word_17 : decode cX5_word 17 = .ok (.invokestatic 83, 3) := by decide +kernel
theorem dX5_word_20 : decode cX5_word 20 = .ok (.ifCond .ne 6, 3) := by decide +kernel
theorem dX5_word_23 : decode cX5_word 23 = .ok (.bipush (-102), 2) := by decide +kernel
theorem dX5_word_25 : decode cX5_word 25 = .ok (.ireturn, 1) := by decide +kernel
theorem dX5_word_26 : decode cX5_word 26 = .ok (.aload_n 0, 1) := by decide +kernel
theorem dX5_word_27 : decode cX5_word 27 = .ok (.getfield 46, 3) := by decide +kernel
theorem dX5_word_30 : decode cX5_word 30 = .ok (.iload_n 1, 1) := by decide +kernel
theorem dX5_word_31 : decode cX5_word 31 = .ok (.iaload, 1) := by decide +kernel
theorem dX5_word_32 : decode cX5_word 32 = .ok (.ifCond .ne 16, 3) := by decide +kernel
theorem dX5_word_35 : decode cX5_word 35 = .ok (.aload_n 0, 1) := by decide +kernel
theorem dX5_word_36 : decode cX5_word 36 = .ok (.getfield 40, 3) := by decide +kernel
theorem dX5_word_39 : decode cX5_word 39 = .ok (.iconst 4, 1) := by decide +kernel
theorem dX5_word_40 : decode cX5_word 40 = .ok (.iload_n 1, 1) := by decide +kernel
theorem dX5_word_41 : decode cX5_word 41 = .ok (.imul, 1) := by decide +kernel
theorem dX5_word_42 : decode cX5_word 42 = .ok (.iload_n 2, 1) := by decide +kernel
theorem dX5_word_43 : decode cX5_word 43 = .ok (.iadd, 1) := by decide +kernel
theorem dX5_word_44 : decode cX5_word 44 = .ok (.iaload, 1) := by decide +kernel
theorem dX5_word_45 : decode cX5_word 45 = .ok (.goto 5, 3) := by decide +kernel
theorem dX5_word_48 : decode cX5_word 48 = .ok (.bipush (-103), 2) := by decide +kernel
theorem dX5_word_50 : decode cX5_word 50 = .ok (.ireturn, 1) := by decide +kernel
theorem dX5_wouldGive_0 : decode cX5_wouldGive 0 = .ok (.aload_n 0, 1) := by decide +kernel
theorem dX5_wouldGive_1 : decode cX5_wouldGive 1 = .ok (.iload_n 1, 1) := by decide +kernel
theorem dX5_wouldGive_2 : decode cX5_wouldGive 2 = .ok (.invokevirtual 137, 3) := by decide +kernel
theorem dX5_wouldGive_5 : decode cX5_wouldGive 5 = .ok (.ifCond .ne 11, 3) := by decide +kernel
theorem dX5_wouldGive_8 : decode cX5_wouldGive 8 = .ok (.aload_n 0, 1) := by decide +kernel
theorem dX5_wouldGive_9 : decode cX5_wouldGive 9 = .ok (.iload_n 3, 1) := by decide +kernel
theorem dX5_wouldGive_10 : decode cX5_wouldGive 10 = .ok (.invokevirtual 101, 3) := by decide +kernel
theorem dX5_wouldGive_13 : decode cX5_wouldGive 13 = .ok (.ifCond .eq 6, 3) := by decide +kernel
theorem dX5_wouldGive_16 : decode cX5_wouldGive 16 = .ok (.bipush (-101), 2) := by decide +kernel
theorem dX5_wouldGive_18 : decode cX5_wouldGive 18 = .ok (.ireturn, 1) := by decide +kernel
theorem dX5_wouldGive_19 : decode cX5_wouldGive 19 = .ok (.aload_n 0, 1) := by decide +kernel
theorem dX5_wouldGive_20 : decode cX5_wouldGive 20 = .ok (.getfield 46, 3) := by decide +kernel
theorem dX5_wouldGive_23 : decode cX5_wouldGive 23 = .ok (.iload_n 1, 1) := by decide +kernel
theorem dX5_wouldGive_24 : decode cX5_wouldGive 24 = .ok (.iaload, 1) := by decide +kernel
theorem dX5_wouldGive_25 : decode cX5_wouldGive 25 = .ok (.ifCond .eq 6, 3) := by decide +kernel
theorem dX5_wouldGive_28 : decode cX5_wouldGive 28 = .ok (.bipush (-103), 2) := by decide +kernel
theorem dX5_wouldGive_30 : decode cX5_wouldGive 30 = .ok (.ireturn, 1) := by decide +kernel
theorem dX5_wouldGive_31 : decode cX5_wouldGive 31 = .ok (.iload_n 2, 1) := by decide +kernel
theorem dX5_wouldGive_32 : decode cX5_wouldGive 32 = .ok (.i2l, 1) := by decide +kernel
theorem dX5_wouldGive_33 : decode cX5_wouldGive 33 = .ok (.lconst 1, 1) := by decide +kernel
theorem dX5_wouldGive_34 : decode cX5_wouldGive 34 = .ok (.aload_n 0, 1) := by decide +kernel
theorem dX5_wouldGive_35 : decode cX5_wouldGive 35 = .ok (.getfield 37, 3) := by decide +kernel
theorem dX5_wouldGive_38 : decode cX5_wouldGive 38 = .ok (.iload_n 1, 1) := by decide +kernel
theorem dX5_wouldGive_39 : decode cX5_wouldGive 39 = .ok (.iaload, 1) := by decide +kernel
theorem dX5_wouldGive_40 : decode cX5_wouldGive 40 = .ok (.iconst 1, 1) := by decide +kernel
theorem dX5_wouldGive_41 : decode cX5_wouldGive 41 = .ok (.isub, 1) := by decide +kernel
theorem dX5_wouldGive_42 : decode cX5_wouldGive 42 = .ok (.i2l, 1) := by decide +kernel
theorem dX5_wouldGive_43 : decode cX5_wouldGive 43 = .ok (.invokestatic 83, 3) := by decide +kernel
theorem dX5_wouldGive_46 : decode cX5_wouldGive 46 = .ok (.ifCond .eq 13, 3) := by decide +kernel
theorem dX5_wouldGive_49 : decode cX5_wouldGive 49 = .ok (.aload_n 0, 1) := by decide +kernel
theorem dX5_wouldGive_50 : decode cX5_wouldGive 50 = .ok (.iload_n 1, 1) := by decide +kernel
theorem dX5_wouldGive_51 : decode cX5_wouldGive 51 = .ok (.iload_n 2, 1) := by decide +kernel
theorem dX5_wouldGive_52 : decode cX5_wouldGive 52 = .ok (.iload_n 3, 1) := by decide +kernel
theorem dX5_wouldGive_53 : decode cX5_wouldGive 53 = .ok (.invokevirtual 118, 3) := by decide +kernel
theorem dX5_wouldGive_56 : decode cX5_wouldGive 56 = .ok (.goto 5, 3) := by decide +kernel
theorem dX5_wouldGive_59 : decode cX5_wouldGive 59 = .ok (.bipush (-102), 2) := by decide +kernel
theorem dX5_wouldGive_61 : decode cX5_wouldGive 61 = .ok (.ireturn, 1) := by decide +kernel
theorem dX5_exact_0 : decode cX5_exact 0 = .ok (.aload_n 0, 1) := by decide +kernel
theorem dX5_exact_1 : decode cX5_exact 1 = .ok (.iconst 0, 1) := by decide +kernel
theorem dX5_exact_2 : decode cX5_exact 2 = .ok (.putfield 168, 3) := by decide +kernel
theorem dX5_exact_5 : decode cX5_exact 5 = .ok (.lload_n 1, 1) := by decide +kernel
theorem dX5_exact_6 : decode cX5_exact 6 = .ok (.lconst 0, 1) := by decide +kernel
theorem dX5_exact_7 : decode cX5_exact 7 = .ok (.lcmp, 1) := by decide +kernel
theorem dX5_exact_8 : decode cX5_exact 8 = .ok (.ifCond .eq 9, 3) := by decide +kernel
theorem dX5_exact_11 : decode cX5_exact 11 = .ok (.lload_n 3, 1) := by decide +kernel
theorem dX5_exact_12 : decode cX5_exact 12 = .ok (.lconst 0, 1) := by decide +kernel
theorem dX5_exact_13 : decode cX5_exact 13 = .ok (.lcmp, 1) := by decide +kernel
theorem dX5_exact_14 : decode cX5_exact 14 = .ok (.ifCond .ne 5, 3) := by decide +kernel
theorem dX5_exact_17 : decode cX5_exact 17 = .ok (.lconst 0, 1) := by decide +kernel
theorem dX5_exact_18 : decode cX5_exact 18 = .ok (.lreturn, 1) := by decide +kernel
theorem dX5_exact_19 : decode cX5_exact 19 = .ok (.lload_n 1, 1) := by decide +kernel
theorem dX5_exact_20 : decode cX5_exact 20 = .ok (.lload_n 3, 1) := by decide +kernel
theorem dX5_exact_21 : decode cX5_exact 21 = .ok (.lmul, 1) := by decide +kernel
theorem dX5_exact_22 : decode cX5_exact 22 = .ok (.lstore 5, 2) := by decide +kernel
theorem dX5_exact_24 : decode cX5_exact 24 = .ok (.lload 5, 2) := by decide +kernel
theorem dX5_exact_26 : decode cX5_exact 26 = .ok (.lload_n 3, 1) := by decide +kernel
theorem dX5_exact_27 : decode cX5_exact 27 = .ok (.ldiv, 1) := by decide +kernel
theorem dX5_exact_28 : decode cX5_exact 28 = .ok (.lload_n 1, 1) := by decide +kernel
theorem dX5_exact_29 : decode cX5_exact 29 = .ok (.lcmp, 1) := by decide +kernel
theorem dX5_exact_30 : decode cX5_exact 30 = .ok (.ifCond .ne 35, 3) := by decide +kernel
theorem dX5_exact_33 : decode cX5_exact 33 = .ok (.lload_n 1, 1) := by decide +kernel
theorem dX5_exact_34 : decode cX5_exact 34 = .ok (.ldc2_w 171, 3) := by decide +kernel
theorem dX5_exact_37 : decode cX5_exact 37 = .ok (.lcmp, 1) := by decide +kernel
theorem dX5_exact_38 : decode cX5_exact 38 = .ok (.ifCond .ne 11, 3) := by decide +kernel
theorem dX5_exact_41 : decode cX5_exact 41 = .ok (.lload_n 3, 1) := by decide +kernel
theorem dX5_exact_42 : decode cX5_exact 42 = .ok (.ldc2_w 173, 3) := by decide +kernel
theorem dX5_exact_45 : decode cX5_exact 45 = .ok (.lcmp, 1) := by decide +kernel
theorem dX5_exact_46 : decode cX5_exact 46 = .ok (.ifCond .eq 19, 3) := by decide +kernel
theorem dX5_exact_49 : decode cX5_exact 49 = .ok (.lload_n 3, 1) := by decide +kernel
theorem dX5_exact_50 : decode cX5_exact 50 = .ok (.ldc2_w 171, 3) := by decide +kernel
theorem dX5_exact_53 : decode cX5_exact 53 = .ok (.lcmp, 1) := by decide +kernel
theorem dX5_exact_54 : decode cX5_exact 54 = .ok (.ifCond .ne 15, 3) := by decide +kernel
theorem dX5_exact_57 : decode cX5_exact 57 = .ok (.lload_n 1, 1) := by decide +kernel
theorem dX5_exact_58 : decode cX5_exact 58 = .ok (.ldc2_w 173, 3) := by decide +kernel
theorem dX5_exact_61 : decode cX5_exact 61 = .ok (.lcmp, 1) := by decide +kernel
theorem dX5_exact_62 : decode cX5_exact 62 = .ok (.ifCond .ne 7, 3) := by decide +kernel
theorem dX5_exact_65 : decode cX5_exact 65 = .ok (.iconst 1, 1) := by decide +kernel
theorem dX5_exact_66 : decode cX5_exact 66 = .ok (.goto 4, 3) := by decide +kernel
theorem dX5_exact_69 : decode cX5_exact 69 = .ok (.iconst 0, 1) := by decide +kernel
theorem dX5_exact_70 : decode cX5_exact 70 = .ok (.istore 7, 2) := by decide +kernel
theorem dX5_exact_72 : decode cX5_exact 72 = .ok (.aload_n 0, 1) := by decide +kernel
theorem dX5_exact_73 : decode cX5_exact 73 = .ok (.iload 7, 2) := by decide +kernel
theorem dX5_exact_75 : decode cX5_exact 75 = .ok (.ifCond .eq 7, 3) := by decide +kernel
theorem dX5_exact_78 : decode cX5_exact 78 = .ok (.iconst 1, 1) := by decide +kernel
theorem dX5_exact_79 : decode cX5_exact 79 = .ok (.goto 4, 3) := by decide +kernel
theorem dX5_exact_82 : decode cX5_exact 82 = .ok (.iconst 0, 1) := by decide +kernel
theorem dX5_exact_83 : decode cX5_exact 83 = .ok (.putfield 168, 3) := by decide +kernel
theorem dX5_exact_86 : decode cX5_exact 86 = .ok (.iload 7, 2) := by decide +kernel
theorem dX5_exact_88 : decode cX5_exact 88 = .ok (.ifCond .eq 7, 3) := by decide +kernel
theorem dX5_exact_91 : decode cX5_exact 91 = .ok (.lconst 0, 1) := by decide +kernel
theorem dX5_exact_92 : decode cX5_exact 92 = .ok (.goto 5, 3) := by decide +kernel
theorem dX5_exact_95 : decode cX5_exact 95 = .ok (.lload 5, 2) := by decide +kernel
theorem dX5_exact_97 : decode cX5_exact 97 = .ok (.lreturn, 1) := by decide +kernel
theorem dX5_thrown_0 : decode cX5_thrown 0 = .ok (.aload_n 0, 1) := by decide +kernel
theorem dX5_thrown_1 : decode cX5_thrown 1 = .ok (.getfield 168, 3) := by decide +kernel
theorem dX5_thrown_4 : decode cX5_thrown 4 = .ok (.ireturn, 1) := by decide +kernel
theorem dX5_held_0 : decode cX5_held 0 = .ok (.iconst 0, 1) := by decide +kernel
theorem dX5_held_1 : decode cX5_held 1 = .ok (.istore_n 1, 1) := by decide +kernel
theorem dX5_held_2 : decode cX5_held 2 = .ok (.iconst 0, 1) := by decide +kernel
theorem dX5_held_3 : decode cX5_held 3 = .ok (.istore_n 2, 1) := by decide +kernel
theorem dX5_held_4 : decode cX5_held 4 = .ok (.iload_n 2, 1) := by decide +kernel
theorem dX5_held_5 : decode cX5_held 5 = .ok (.aload_n 0, 1) := by decide +kernel
theorem dX5_held_6 : decode cX5_held 6 = .ok (.getfield 78, 3) := by decide +kernel
theorem dX5_held_9 : decode cX5_held 9 = .ok (.if_icmp .ge 17, 3) := by decide +kernel
theorem dX5_held_12 : decode cX5_held 12 = .ok (.iload_n 1, 1) := by decide +kernel
theorem dX5_held_13 : decode cX5_held 13 = .ok (.aload_n 0, 1) := by decide +kernel
theorem dX5_held_14 : decode cX5_held 14 = .ok (.iload_n 2, 1) := by decide +kernel
theorem dX5_held_15 : decode cX5_held 15 = .ok (.invokevirtual 163, 3) := by decide +kernel
theorem dX5_held_18 : decode cX5_held 18 = .ok (.iadd, 1) := by decide +kernel
theorem dX5_held_19 : decode cX5_held 19 = .ok (.istore_n 1, 1) := by decide +kernel
theorem dX5_held_20 : decode cX5_held 20 = .ok (.iinc 2 1, 3) := by decide +kernel
theorem dX5_held_23 : decode cX5_held 23 = .ok (.goto (-19), 3) := by decide +kernel
theorem dX5_held_26 : decode cX5_held 26 = .ok (.iload_n 1, 1) := by decide +kernel
theorem dX5_held_27 : decode cX5_held 27 = .ok (.ireturn, 1) := by decide +kernel
theorem dX5_manyOf_0 : decode cX5_manyOf 0 = .ok (.iconst 0, 1) := by decide +kernel
theorem dX5_manyOf_1 : decode cX5_manyOf 1 = .ok (.istore_n 2, 1) := by decide +kernel
theorem dX5_manyOf_2 : decode cX5_manyOf 2 = .ok (.iconst 0, 1) := by decide +kernel
theorem dX5_manyOf_3 : decode cX5_manyOf 3 = .ok (.istore_n 3, 1) := by decide +kernel
theorem dX5_manyOf_4 : decode cX5_manyOf 4 = .ok (.iload_n 3, 1) := by decide +kernel
theorem dX5_manyOf_5 : decode cX5_manyOf 5 = .ok (.aload_n 0, 1) := by decide +kernel
theorem dX5_manyOf_6 : decode cX5_manyOf 6 = .ok (.getfield 78, 3) := by decide +kernel
theorem dX5_manyOf_9 : decode cX5_manyOf 9 = .ok (.if_icmp .ge 27, 3) := by decide +kernel
theorem dX5_manyOf_12 : decode cX5_manyOf 12 = .ok (.iload_n 2, 1) := by decide +kernel
theorem dX5_manyOf_13 : decode cX5_manyOf 13 = .ok (.aload_n 0, 1) := by decide +kernel
theorem dX5_manyOf_14 : decode cX5_manyOf 14 = .ok (.getfield 46, 3) := by decide +kernel
theorem dX5_manyOf_17 : decode cX5_manyOf 17 = .ok (.iload_n 3, 1) := by decide +kernel
theorem dX5_manyOf_18 : decode cX5_manyOf 18 = .ok (.iaload, 1) := by decide +kernel
theorem dX5_manyOf_19 : decode cX5_manyOf 19 = .ok (.iload_n 1, 1) := by decide +kernel
theorem dX5_manyOf_20 : decode cX5_manyOf 20 = .ok (.if_icmp .ne 7, 3) := by decide +kernel
theorem dX5_manyOf_23 : decode cX5_manyOf 23 = .ok (.iconst 1, 1) := by decide +kernel
theorem dX5_manyOf_24 : decode cX5_manyOf 24 = .ok (.goto 4, 3) := by decide +kernel
theorem dX5_manyOf_27 : decode cX5_manyOf 27 = .ok (.iconst 0, 1) := by decide +kernel
theorem dX5_manyOf_28 : decode cX5_manyOf 28 = .ok (.iadd, 1) := by decide +kernel
theorem dX5_manyOf_29 : decode cX5_manyOf 29 = .ok (.istore_n 2, 1) := by decide +kernel
theorem dX5_manyOf_30 : decode cX5_manyOf 30 = .ok (.iinc 3 1, 3) := by decide +kernel
theorem dX5_manyOf_33 : decode cX5_manyOf 33 = .ok (.goto (-29), 3) := by decide +kernel
theorem dX5_manyOf_36 : decode cX5_manyOf 36 = .ok (.iload_n 2, 1) := by decide +kernel
theorem dX5_manyOf_37 : decode cX5_manyOf 37 = .ok (.ireturn, 1) := by decide +kernel
theorem dX5_allCoins_0 : decode cX5_allCoins 0 = .ok (.aload_n 0, 1) := by decide +kernel
theorem dX5_allCoins_1 : decode cX5_allCoins 1 = .ok (.invokevirtual 175, 3) := by decide +kernel
theorem dX5_allCoins_4 : decode cX5_allCoins 4 = .ok (.aload_n 0, 1) := by decide +kernel
theorem dX5_allCoins_5 : decode cX5_allCoins 5 = .ok (.getfield 72, 3) := by decide +kernel
theorem dX5_allCoins_8 : decode cX5_allCoins 8 = .ok (.iadd, 1) := by decide +kernel
theorem dX5_allCoins_9 : decode cX5_allCoins 9 = .ok (.istore_n 1, 1) := by decide +kernel
theorem dX5_allCoins_10 : decode cX5_allCoins 10 = .ok (.iconst 0, 1) := by decide +kernel
theorem dX5_allCoins_11 : decode cX5_allCoins 11 = .ok (.istore_n 2, 1) := by decide +kernel
theorem dX5_allCoins_12 : decode cX5_allCoins 12 = .ok (.iload_n 2, 1) := by decide +kernel
theorem dX5_allCoins_13 : decode cX5_allCoins 13 = .ok (.bipush 6, 2) := by decide +kernel
theorem dX5_allCoins_15 : decode cX5_allCoins 15 = .ok (.if_icmp .ge 18, 3) := by decide +kernel
theorem dX5_allCoins_18 : decode cX5_allCoins 18 = .ok (.iload_n 1, 1) := by decide +kernel
theorem dX5_allCoins_19 : decode cX5_allCoins 19 = .ok (.aload_n 0, 1) := by decide +kernel
theorem dX5_allCoins_20 : decode cX5_allCoins 20 = .ok (.getfield 22, 3) := by decide +kernel
theorem dX5_allCoins_23 : decode cX5_allCoins 23 = .ok (.iload_n 2, 1) := by decide +kernel
theorem dX5_allCoins_24 : decode cX5_allCoins 24 = .ok (.iaload, 1) := by decide +kernel
theorem dX5_allCoins_25 : decode cX5_allCoins 25 = .ok (.iadd, 1) := by decide +kernel
theorem dX5_allCoins_26 : decode cX5_allCoins 26 = .ok (.istore_n 1, 1) := by decide +kernel
theorem dX5_allCoins_27 : decode cX5_allCoins 27 = .ok (.iinc 2 1, 3) := by decide +kernel
theorem dX5_allCoins_30 : decode cX5_allCoins 30 = .ok (.goto (-18), 3) := by decide +kernel
theorem dX5_allCoins_33 : decode cX5_allCoins 33 = .ok (.iconst 0, 1) := by decide +kernel
theorem dX5_allCoins_34 : decode cX5_allCoins 34 = .ok (.istore_n 2, 1) := by decide +kernel
theorem dX5_allCoins_35 : decode cX5_allCoins 35 = .ok (.iload_n 2, 1) := by decide +kernel
theorem dX5_allCoins_36 : decode cX5_allCoins 36 = .ok (.iconst 5, 1) := by decide +kernel
theorem dX5_allCoins_37 : decode cX5_allCoins 37 = .ok (.if_icmp .ge 18, 3) := by decide +kernel
theorem dX5_allCoins_40 : decode cX5_allCoins 40 = .ok (.iload_n 1, 1) := by decide +kernel
theorem dX5_allCoins_41 : decode cX5_allCoins 41 = .ok (.aload_n 0, 1) := by decide +kernel
theorem dX5_allCoins_42 : decode cX5_allCoins 42 = .ok (.getfield 28, 3) := by decide +kernel
theorem dX5_allCoins_45 : decode cX5_allCoins 45 = .ok (.iload_n 2, 1) := by decide +kernel
theorem dX5_allCoins_46 : decode cX5_allCoins 46 = .ok (.iaload, 1) := by decide +kernel
theorem dX5_allCoins_47 : decode cX5_allCoins 47 = .ok (.iadd, 1) := by decide +kernel
theorem dX5_allCoins_48 : decode cX5_allCoins 48 = .ok (.istore_n 1, 1) := by decide +kernel
theorem dX5_allCoins_49 : decode cX5_allCoins 49 = .ok (.iinc 2 1, 3) := by decide +kernel
theorem dX5_allCoins_52 : decode cX5_allCoins 52 = .ok (.goto (-17), 3) := by decide +kernel
theorem dX5_allCoins_55 : decode cX5_allCoins 55 = .ok (.iload_n 1, 1) := by decide +kernel
theorem dX5_allCoins_56 : decode cX5_allCoins 56 = .ok (.ireturn, 1) := by decide +kernel
theorem dX5_told_0 : decode cX5_told 0 = .ok (.iload_n 1, 1) := by decide +kernel
theorem dX5_told_1 : decode cX5_told 1 = .ok (.tableswitch 109 0 9 #[55, 60, 65, 71, 77, 84, 89, 94, 99, 104], 55) := by decide +kernel
theorem dX5_told_56 : decode cX5_told 56 = .ok (.aload_n 0, 1) := by decide +kernel
theorem dX5_told_57 : decode cX5_told 57 = .ok (.getfield 64, 3) := by decide +kernel
theorem dX5_told_60 : decode cX5_told 60 = .ok (.ireturn, 1) := by decide +kernel
theorem dX5_told_61 : decode cX5_told 61 = .ok (.aload_n 0, 1) := by decide +kernel
theorem dX5_told_62 : decode cX5_told 62 = .ok (.getfield 78, 3) := by decide +kernel
theorem dX5_told_65 : decode cX5_told 65 = .ok (.ireturn, 1) := by decide +kernel
theorem dX5_told_66 : decode cX5_told 66 = .ok (.aload_n 0, 1) := by decide +kernel
theorem dX5_told_67 : decode cX5_told 67 = .ok (.iconst 0, 1) := by decide +kernel
theorem dX5_told_68 : decode cX5_told 68 = .ok (.invokevirtual 178, 3) := by decide +kernel
theorem dX5_told_71 : decode cX5_told 71 = .ok (.ireturn, 1) := by decide +kernel
theorem dX5_told_72 : decode cX5_told 72 = .ok (.aload_n 0, 1) := by decide +kernel
theorem dX5_told_73 : decode cX5_told 73 = .ok (.iconst 1, 1) := by decide +kernel
theorem dX5_told_74 : decode cX5_told 74 = .ok (.invokevirtual 178, 3) := by decide +kernel
theorem dX5_told_77 : decode cX5_told 77 = .ok (.ireturn, 1) := by decide +kernel
theorem dX5_told_78 : decode cX5_told 78 = .ok (.aload_n 0, 1) := by decide +kernel
theorem dX5_told_79 : decode cX5_told 79 = .ok (.bipush (-109), 2) := by decide +kernel
theorem dX5_told_81 : decode cX5_told 81 = .ok (.invokevirtual 107, 3) := by decide +kernel
theorem dX5_told_84 : decode cX5_told 84 = .ok (.ireturn, 1) := by decide +kernel
theorem dX5_told_85 : decode cX5_told 85 = .ok (.aload_n 0, 1) := by decide +kernel
theorem dX5_told_86 : decode cX5_told 86 = .ok (.invokevirtual 175, 3) := by decide +kernel
theorem dX5_told_89 : decode cX5_told 89 = .ok (.ireturn, 1) := by decide +kernel
theorem dX5_told_90 : decode cX5_told 90 = .ok (.aload_n 0, 1) := by decide +kernel
theorem dX5_told_91 : decode cX5_told 91 = .ok (.getfield 72, 3) := by decide +kernel
theorem dX5_told_94 : decode cX5_told 94 = .ok (.ireturn, 1) := by decide +kernel
theorem dX5_told_95 : decode cX5_told 95 = .ok (.aload_n 0, 1) := by decide +kernel
theorem dX5_told_96 : decode cX5_told 96 = .ok (.invokevirtual 181, 3) := by decide +kernel
theorem dX5_told_99 : decode cX5_told 99 = .ok (.ireturn, 1) := by decide +kernel
theorem dX5_told_100 : decode cX5_told 100 = .ok (.aload_n 0, 1) := by decide +kernel
theorem dX5_told_101 : decode cX5_told 101 = .ok (.getfield 68, 3) := by decide +kernel
theorem dX5_told_104 : decode cX5_told 104 = .ok (.ireturn, 1) := by decide +kernel
theorem dX5_told_105 : decode cX5_told 105 = .ok (.aload_n 0, 1) := by decide +kernel
theorem dX5_told_106 : decode cX5_told 106 = .ok (.getfield 75, 3) := by decide +kernel
theorem dX5_told_109 : decode cX5_told 109 = .ok (.ireturn, 1) := by decide +kernel
theorem dX5_told_110 : decode cX5_told 110 = .ok (.bipush (-102), 2) := by decide +kernel
theorem dX5_told_112 : decode cX5_told 112 = .ok (.ireturn, 1) := by decide +kernel
theorem dX5_clear_0 : decode cX5_clear 0 = .ok (.aload_n 0, 1) := by decide +kernel
theorem dX5_clear_1 : decode cX5_clear 1 = .ok (.getfield 78, 3) := by decide +kernel
theorem dX5_clear_4 : decode cX5_clear 4 = .ok (.istore_n 1, 1) := by decide +kernel
theorem dX5_clear_5 : decode cX5_clear 5 = .ok (.aload_n 0, 1) := by decide +kernel
theorem dX5_clear_6 : decode cX5_clear 6 = .ok (.invokevirtual 61, 3) := by decide +kernel
theorem dX5_clear_9 : decode cX5_clear 9 = .ok (.iload_n 1, 1) := by decide +kernel
theorem dX5_clear_10 : decode cX5_clear 10 = .ok (.ireturn, 1) := by decide +kernel
end
section
set_option maxRecDepth 20000 in
theorem ggX5_init_X5_begin : GoodIn wsX5_init wsX5_begin := goodIn_r _ [26, 27, 28, 5, 6, 7, 8, 9, 29, 10, 11, 12, 30, 31, 32, 33, 34, 35, 36, 37, 38, 39, 40, 41, 42, 43, 44, 45, 46, 47, 48, 49, 50, 51, 52, 53, 54, 55] (by decide +kernel) (by decide +kernel)
set_option maxRecDepth 20000 in
theorem gX5_init_X5_begin : GoodIn wsX5_init (wsV RX5 61 RX5 yX5_begin wsX5_begin) := goodIn_app (goodIn_of _ (by decide +kernel)) ggX5_init_X5_begin
set_option maxRecDepth 20000 in
theorem ggX5_noAccount_X5_in : GoodIn wsX5_noAccount wsX5_in := goodIn_r _ [5] (by decide +kernel) (by decide +kernel)
set_option maxRecDepth 20000 in
theorem gX5_noAccount_X5_in : GoodIn wsX5_noAccount (va_wsS RX5 83 yX5_in wsX5_in) := goodIn_app (goodIn_of _ (by decide +kernel)) ggX5_noAccount_X5_in
set_option maxRecDepth 20000 in
theorem ggX5_noObject_X5_in : GoodIn wsX5_noObject wsX5_in := goodIn_r _ [5] (by decide +kernel) (by decide +kernel)
set_option maxRecDepth 20000 in
theorem gX5_noObject_X5_in : GoodIn wsX5_noObject (va_wsS RX5 83 yX5_in wsX5_in) := goodIn_app (goodIn_of _ (by decide +kernel)) ggX5_noObject_X5_in
set_option maxRecDepth 20000 in
theorem ggX5_edition_X5_in : GoodIn wsX5_edition wsX5_in := goodIn_r _ [14] (by decide +kernel) (by decide +kernel)
set_option maxRecDepth 20000 in
theorem gX5_edition_X5_in : GoodIn wsX5_edition (va_wsS RX5 83 yX5_in wsX5_in) := goodIn_app (goodIn_of _ (by decide +kernel)) ggX5_edition_X5_in
set_option maxRecDepth 20000 in
theorem ggX5_priceAt_X5_in : GoodIn wsX5_priceAt wsX5_in := goodIn_r _ [10] (by decide +kernel) (by decide +kernel)
set_option maxRecDepth 20000 in
theorem gX5_priceAt_X5_in : GoodIn wsX5_priceAt (va_wsS RX5 83 yX5_in wsX5_in) := goodIn_app (goodIn_of _ (by decide +kernel)) ggX5_priceAt_X5_in
set_option maxRecDepth 20000 in
theorem ggX5_priceAt_X5_editionAt : GoodIn wsX5_priceAt wsX5_editionAt := goodIn_r _ [14, 15, 6, 16, 17, 18, 19, 20, 21, 22, 23, 24, 25, 26, 27, 28, 29, 30, 31, 32, 33, 34, 35, 36, 37, 38] (by decide +kernel) (by decide +kernel)
set_option maxRecDepth 20000 in
theorem gX5_priceAt_X5_editionAt : GoodIn wsX5_priceAt (wsV RX5 97 RX5 yX5_editionAt wsX5_editionAt) := goodIn_app (goodIn_of _ (by decide +kernel)) ggX5_priceAt_X5_editionAt
set_option maxRecDepth 20000 in
theorem ggX5_price_X5_editionAt : GoodIn wsX5_price wsX5_editionAt := goodIn_r _ [7, 8, 9, 10, 11, 12, 13, 14, 15, 16, 17, 18, 19, 20, 21, 22, 23, 24, 25, 26, 27, 28, 29, 30, 31, 32] (by decide +kernel) (by decide +kernel)
set_option maxRecDepth 20000 in
theorem gX5_price_X5_editionAt : GoodIn wsX5_price (wsV RX5 97 RX5 yX5_editionAt wsX5_editionAt) := goodIn_app (goodIn_of _ (by decide +kernel)) ggX5_price_X5_editionAt
set_option maxRecDepth 20000 in
theorem ggX5_rent_X5_editionAt : GoodIn wsX5_rent wsX5_editionAt := goodIn_r _ [7, 8, 9, 10, 11, 12, 13, 14, 15, 16, 17, 18, 19, 20, 21, 22, 23, 24, 25, 26, 27, 28, 29, 30, 31, 32] (by decide +kernel) (by decide +kernel)
set_option maxRecDepth 20000 in
theorem gX5_rent_X5_editionAt : GoodIn wsX5_rent (wsV RX5 97 RX5 yX5_editionAt wsX5_editionAt) := goodIn_app (goodIn_of _ (by decide +kernel)) ggX5_rent_X5_editionAt
set_option maxRecDepth 20000 in
theorem ggX5_charged_X5_editionAt : GoodIn wsX5_charged wsX5_editionAt := goodIn_r _ [7, 8, 9, 10, 11, 12, 13, 14, 15, 16, 17, 18, 19, 20, 21, 22, 23, 24, 25, 26, 27, 28, 29, 30, 31, 32] (by decide +kernel) (by decide +kernel)
set_option maxRecDepth 20000 in
theorem gX5_charged_X5_editionAt : GoodIn wsX5_charged (wsV RX5 97 RX5 yX5_editionAt wsX5_editionAt) := goodIn_app (goodIn_of _ (by decide +kernel)) ggX5_charged_X5_editionAt
set_option maxRecDepth 20000 in
theorem ggX5_cap_X5_noAccount : GoodIn wsX5_cap wsX5_noAccount := goodIn_r _ [7, 8, 9, 10, 6, 11] (by decide +kernel) (by decide +kernel)
set_option maxRecDepth 20000 in
theorem gX5_cap_X5_noAccount : GoodIn wsX5_cap (wsV RX5 101 RX5 yX5_noAccount wsX5_noAccount) := goodIn_app (goodIn_of _ (by decide +kernel)) ggX5_cap_X5_noAccount
set_option maxRecDepth 20000 in
theorem ggX5_cap_X5_in : GoodIn wsX5_cap wsX5_in := goodIn_r _ [11] (by decide +kernel) (by decide +kernel)
set_option maxRecDepth 20000 in
theorem gX5_cap_X5_in : GoodIn wsX5_cap (va_wsS RX5 83 yX5_in wsX5_in) := goodIn_app (goodIn_of _ (by decide +kernel)) ggX5_cap_X5_in
set_option maxRecDepth 20000 in
theorem ggX5_isCapped_X5_liveSizes : GoodIn wsX5_isCapped wsX5_liveSizes := goodIn_r _ [6, 7, 8, 9, 10, 11, 12, 13, 14, 15, 16, 17, 18, 19, 20, 21, 22, 23, 24, 25, 26, 27, 28, 29, 30, 31, 32, 33] (by decide +kernel) (by decide +kernel)
set_option maxRecDepth 20000 in
theorem gX5_isCapped_X5_liveSizes : GoodIn wsX5_isCapped (wsV RX5 107 RX5 yX5_liveSizes wsX5_liveSizes) := goodIn_app (goodIn_of _ (by decide +kernel)) ggX5_isCapped_X5_liveSizes
set_option maxRecDepth 20000 in
theorem ggX5_needsLayer_X5_price : GoodIn wsX5_needsLayer wsX5_price := goodIn_r _ [8, 9, 10, 11, 12, 13, 7, 14, 15, 16, 17, 18, 19, 20, 21, 22, 23, 24, 25, 26, 27, 28, 29, 30, 31, 32, 33, 34, 35, 36, 37, 38, 39] (by decide +kernel) (by decide +kernel)
set_option maxRecDepth 20000 in
theorem gX5_needsLayer_X5_price : GoodIn wsX5_needsLayer (wsV RX5 110 RX5 yX5_price wsX5_price) := goodIn_app (goodIn_of _ (by decide +kernel)) ggX5_needsLayer_X5_price
set_option maxRecDepth 20000 in
theorem ggX5_comes_X5_needsLayer : GoodIn wsX5_comes wsX5_needsLayer := goodIn_r _ [9, 1, 3, 4, 10, 11, 12, 8, 13, 14, 15, 16, 17, 18, 19, 20, 21, 22, 23, 24, 25, 26, 27, 28, 29, 30, 31, 32, 33, 34, 35, 36, 37, 38, 39, 40, 41, 42, 43, 44] (by decide +kernel) (by decide +kernel)
set_option maxRecDepth 20000 in
theorem gX5_comes_X5_needsLayer : GoodIn wsX5_comes (wsV RX5 114 RX5 yX5_needsLayer wsX5_needsLayer) := goodIn_app (goodIn_of _ (by decide +kernel)) ggX5_comes_X5_needsLayer
set_option maxRecDepth 20000 in
theorem ggX5_comes_X5_price : GoodIn wsX5_comes wsX5_price := goodIn_r _ [13, 14, 15, 16, 17, 18, 8, 19, 20, 21, 22, 23, 24, 25, 26, 27, 28, 29, 30, 31, 32, 33, 34, 35, 36, 37, 38, 39, 40, 41, 42, 43, 44] (by decide +kernel) (by decide +kernel)
set_option maxRecDepth 20000 in
theorem gX5_comes_X5_price : GoodIn wsX5_comes (wsV RX5 110 RX5 yX5_price wsX5_price) := goodIn_app (goodIn_of _ (by decide +kernel)) ggX5_comes_X5_price
set_option maxRecDepth 20000 in
theorem ggX5_goes_X5_gives : GoodIn wsX5_goes wsX5_gives := goodIn_r _ [8, 2, 3, 9, 10, 11, 12, 13, 14, 15, 16, 17, 18, 19, 20, 21, 22, 23, 24, 25, 26, 27, 28, 29, 30, 31, 32, 33] (by decide +kernel) (by decide +kernel)
set_option maxRecDepth 20000 in
theorem gX5_goes_X5_gives : GoodIn wsX5_goes (wsV RX5 118 RX5 yX5_gives wsX5_gives) := goodIn_app (goodIn_of _ (by decide +kernel)) ggX5_goes_X5_gives
set_option maxRecDepth 20000 in
theorem ggX5_make_X5_noAccount : GoodIn wsX5_make wsX5_noAccount := goodIn_r _ [17, 18, 19, 20, 16, 21] (by decide +kernel) (by decide +kernel)
set_option maxRecDepth 20000 in
theorem gX5_make_X5_noAccount : GoodIn wsX5_make (wsV RX5 101 RX5 yX5_noAccount wsX5_noAccount) := goodIn_app (goodIn_of _ (by decide +kernel)) ggX5_make_X5_noAccount
set_option maxRecDepth 20000 in
theorem ggX5_make_X5_in : GoodIn wsX5_make wsX5_in := goodIn_r _ [21] (by decide +kernel) (by decide +kernel)
set_option maxRecDepth 20000 in
theorem gX5_make_X5_in : GoodIn wsX5_make (va_wsS RX5 83 yX5_in wsX5_in) := goodIn_app (goodIn_of _ (by decide +kernel)) ggX5_make_X5_in
set_option maxRecDepth 20000 in
theorem ggX5_make_X5_isCapped : GoodIn wsX5_make wsX5_isCapped := goodIn_r _ [25, 26, 27, 28, 29, 16, 30, 4, 10, 5, 6, 63, 64, 65, 66, 67, 68, 69, 70, 71, 72, 73, 74, 75, 76, 77, 78, 79, 80, 81, 82, 83, 84, 85] (by decide +kernel) (by decide +kernel)
set_option maxRecDepth 20000 in
theorem gX5_make_X5_isCapped : GoodIn wsX5_make (wsV RX5 124 RX5 yX5_isCapped wsX5_isCapped) := goodIn_app (goodIn_of _ (by decide +kernel)) ggX5_make_X5_isCapped
set_option maxRecDepth 20000 in
theorem ggX5_make_X5_charged : GoodIn wsX5_make wsX5_charged := goodIn_r _ [34, 35, 9, 36, 37, 38, 16, 39, 40, 41, 63, 64, 65, 66, 67, 68, 69, 70, 71, 72, 73, 74, 75, 76, 77, 78, 79, 80, 81, 82, 83, 84, 85] (by decide +kernel) (by decide +kernel)
set_option maxRecDepth 20000 in
theorem gX5_make_X5_charged : GoodIn wsX5_make (wsV RX5 127 RX5 yX5_charged wsX5_charged) := goodIn_app (goodIn_of _ (by decide +kernel)) ggX5_make_X5_charged
set_option maxRecDepth 20000 in
theorem ggX5_make_X5_rent : GoodIn wsX5_make wsX5_rent := goodIn_r _ [45, 46, 9, 36, 37, 38, 16, 39, 40, 41, 63, 64, 65, 66, 67, 68, 69, 70, 71, 72, 73, 74, 75, 76, 77, 78, 79, 80, 81, 82, 83, 84, 85] (by decide +kernel) (by decide +kernel)
set_option maxRecDepth 20000 in
theorem gX5_make_X5_rent : GoodIn wsX5_make (wsV RX5 130 RX5 yX5_rent wsX5_rent) := goodIn_app (goodIn_of _ (by decide +kernel)) ggX5_make_X5_rent
set_option maxRecDepth 20000 in
theorem ggX5_make_X5_price : GoodIn wsX5_make wsX5_price := goodIn_r _ [50, 51, 9, 36, 37, 38, 16, 39, 40, 41, 63, 64, 65, 66, 67, 68, 69, 70, 71, 72, 73, 74, 75, 76, 77, 78, 79, 80, 81, 82, 83, 84, 85] (by decide +kernel) (by decide +kernel)
set_option maxRecDepth 20000 in
theorem gX5_make_X5_price : GoodIn wsX5_make (wsV RX5 110 RX5 yX5_price wsX5_price) := goodIn_app (goodIn_of _ (by decide +kernel)) ggX5_make_X5_price
set_option maxRecDepth 20000 in
theorem ggX5_make_X5_comes : GoodIn wsX5_make wsX5_comes := goodIn_r _ [55, 11, 56, 57, 58, 59, 60, 61, 16, 62, 47, 48, 49, 50, 51, 9, 36, 37, 38, 39, 40, 41, 63, 64, 65, 66, 67, 68, 69, 70, 71, 72, 73, 74, 75, 76, 77, 78, 79, 80, 81, 82, 83, 84, 85] (by decide +kernel) (by decide +kernel)
set_option maxRecDepth 20000 in
theorem gX5_make_X5_comes : GoodIn wsX5_make (wsV RX5 133 RX5 yX5_comes wsX5_comes) := goodIn_app (goodIn_of _ (by decide +kernel)) ggX5_make_X5_comes
set_option maxRecDepth 20000 in
theorem ggX5_grow_X5_noObject : GoodIn wsX5_grow wsX5_noObject := goodIn_r _ [14, 15, 16, 17, 13, 18, 69, 70, 71, 72, 73, 74, 75, 76, 77, 78, 79, 80, 81, 82, 83, 84, 85, 86, 87, 88, 89, 90, 91] (by decide +kernel) (by decide +kernel)
set_option maxRecDepth 20000 in
theorem gX5_grow_X5_noObject : GoodIn wsX5_grow (wsV RX5 137 RX5 yX5_noObject wsX5_noObject) := goodIn_app (goodIn_of _ (by decide +kernel)) ggX5_grow_X5_noObject
set_option maxRecDepth 20000 in
theorem ggX5_grow_X5_noAccount : GoodIn wsX5_grow wsX5_noAccount := goodIn_r _ [22, 23, 16, 17, 13, 18] (by decide +kernel) (by decide +kernel)
set_option maxRecDepth 20000 in
theorem gX5_grow_X5_noAccount : GoodIn wsX5_grow (wsV RX5 101 RX5 yX5_noAccount wsX5_noAccount) := goodIn_app (goodIn_of _ (by decide +kernel)) ggX5_grow_X5_noAccount
set_option maxRecDepth 20000 in
theorem ggX5_grow_X5_in : GoodIn wsX5_grow wsX5_in := goodIn_r _ [18] (by decide +kernel) (by decide +kernel)
set_option maxRecDepth 20000 in
theorem gX5_grow_X5_in : GoodIn wsX5_grow (va_wsS RX5 83 yX5_in wsX5_in) := goodIn_app (goodIn_of _ (by decide +kernel)) ggX5_grow_X5_in
set_option maxRecDepth 20000 in
theorem ggX5_grow_X5_sizeNow : GoodIn wsX5_grow wsX5_sizeNow := goodIn_r _ [27, 2, 4, 69, 70, 71, 72, 73, 74, 75, 76, 77, 78, 79, 80, 81, 82, 83, 84, 85, 86, 87, 88, 89, 90, 91] (by decide +kernel) (by decide +kernel)
set_option maxRecDepth 20000 in
theorem gX5_grow_X5_sizeNow : GoodIn wsX5_grow (wsV RX5 142 RX5 yX5_sizeNow wsX5_sizeNow) := goodIn_app (goodIn_of _ (by decide +kernel)) ggX5_grow_X5_sizeNow
set_option maxRecDepth 20000 in
theorem ggX5_grow_X5_isCapped : GoodIn wsX5_grow wsX5_isCapped := goodIn_r _ [31, 32, 33, 34, 35, 13, 36, 15, 2, 3, 4, 69, 70, 71, 72, 73, 74, 75, 76, 77, 78, 79, 80, 81, 82, 83, 84, 85, 86, 87, 88, 89, 90, 91] (by decide +kernel) (by decide +kernel)
set_option maxRecDepth 20000 in
theorem gX5_grow_X5_isCapped : GoodIn wsX5_grow (wsV RX5 124 RX5 yX5_isCapped wsX5_isCapped) := goodIn_app (goodIn_of _ (by decide +kernel)) ggX5_grow_X5_isCapped
set_option maxRecDepth 20000 in
theorem ggX5_grow_X5_charged : GoodIn wsX5_grow wsX5_charged := goodIn_r _ [40, 41, 6, 42, 43, 44, 13, 45, 46, 47, 69, 70, 71, 72, 73, 74, 75, 76, 77, 78, 79, 80, 81, 82, 83, 84, 85, 86, 87, 88, 89, 90, 91] (by decide +kernel) (by decide +kernel)
set_option maxRecDepth 20000 in
theorem gX5_grow_X5_charged : GoodIn wsX5_grow (wsV RX5 127 RX5 yX5_charged wsX5_charged) := goodIn_app (goodIn_of _ (by decide +kernel)) ggX5_grow_X5_charged
set_option maxRecDepth 20000 in
theorem ggX5_grow_X5_rent : GoodIn wsX5_grow wsX5_rent := goodIn_r _ [51, 52, 6, 42, 43, 44, 13, 45, 46, 47, 69, 70, 71, 72, 73, 74, 75, 76, 77, 78, 79, 80, 81, 82, 83, 84, 85, 86, 87, 88, 89, 90, 91] (by decide +kernel) (by decide +kernel)
set_option maxRecDepth 20000 in
theorem gX5_grow_X5_rent : GoodIn wsX5_grow (wsV RX5 130 RX5 yX5_rent wsX5_rent) := goodIn_app (goodIn_of _ (by decide +kernel)) ggX5_grow_X5_rent
set_option maxRecDepth 20000 in
theorem ggX5_grow_X5_price : GoodIn wsX5_grow wsX5_price := goodIn_r _ [56, 57, 6, 42, 43, 44, 13, 45, 46, 47, 69, 70, 71, 72, 73, 74, 75, 76, 77, 78, 79, 80, 81, 82, 83, 84, 85, 86, 87, 88, 89, 90, 91] (by decide +kernel) (by decide +kernel)
set_option maxRecDepth 20000 in
theorem gX5_grow_X5_price : GoodIn wsX5_grow (wsV RX5 110 RX5 yX5_price wsX5_price) := goodIn_app (goodIn_of _ (by decide +kernel)) ggX5_grow_X5_price
set_option maxRecDepth 20000 in
theorem ggX5_grow_X5_needsLayer : GoodIn wsX5_grow wsX5_needsLayer := goodIn_r _ [61, 8, 62, 63, 53, 54, 55, 13, 56, 57, 6, 42, 43, 44, 45, 46, 47, 69, 70, 71, 72, 73, 74, 75, 76, 77, 78, 79, 80, 81, 82, 83, 84, 85, 86, 87, 88, 89, 90, 91] (by decide +kernel) (by decide +kernel)
set_option maxRecDepth 20000 in
theorem gX5_grow_X5_needsLayer : GoodIn wsX5_grow (wsV RX5 114 RX5 yX5_needsLayer wsX5_needsLayer) := goodIn_app (goodIn_of _ (by decide +kernel)) ggX5_grow_X5_needsLayer
set_option maxRecDepth 20000 in
theorem ggX5_grow_X5_comes : GoodIn wsX5_grow wsX5_comes := goodIn_r _ [67, 8, 68, 62, 63, 58, 59, 60, 13, 61, 53, 54, 55, 56, 57, 6, 42, 43, 44, 45, 46, 47, 69, 70, 71, 72, 73, 74, 75, 76, 77, 78, 79, 80, 81, 82, 83, 84, 85, 86, 87, 88, 89, 90, 91] (by decide +kernel) (by decide +kernel)
set_option maxRecDepth 20000 in
theorem gX5_grow_X5_comes : GoodIn wsX5_grow (wsV RX5 133 RX5 yX5_comes wsX5_comes) := goodIn_app (goodIn_of _ (by decide +kernel)) ggX5_grow_X5_comes
set_option maxRecDepth 20000 in
theorem ggX5_shrink_X5_noObject : GoodIn wsX5_shrink wsX5_noObject := goodIn_r _ [7, 8, 9, 10, 6, 11, 25, 26, 27, 28, 29, 30, 31, 32, 33, 34, 35, 36, 37, 38, 39, 40, 41, 42, 43, 44, 45, 46, 47] (by decide +kernel) (by decide +kernel)
set_option maxRecDepth 20000 in
theorem gX5_shrink_X5_noObject : GoodIn wsX5_shrink (wsV RX5 137 RX5 yX5_noObject wsX5_noObject) := goodIn_app (goodIn_of _ (by decide +kernel)) ggX5_shrink_X5_noObject
set_option maxRecDepth 20000 in
theorem ggX5_shrink_X5_in : GoodIn wsX5_shrink wsX5_in := goodIn_r _ [11] (by decide +kernel) (by decide +kernel)
set_option maxRecDepth 20000 in
theorem gX5_shrink_X5_in : GoodIn wsX5_shrink (va_wsS RX5 83 yX5_in wsX5_in) := goodIn_app (goodIn_of _ (by decide +kernel)) ggX5_shrink_X5_in
set_option maxRecDepth 20000 in
theorem ggX5_shrink_X5_goes : GoodIn wsX5_shrink wsX5_goes := goodIn_r _ [15, 16, 17, 18, 19, 20, 21, 6, 22, 23, 24, 25, 26, 27, 28, 29, 30, 31, 32, 33, 34, 35, 36, 37, 38, 39, 40, 41, 42, 43, 44, 45, 46, 47] (by decide +kernel) (by decide +kernel)
set_option maxRecDepth 20000 in
theorem gX5_shrink_X5_goes : GoodIn wsX5_shrink (wsV RX5 145 RX5 yX5_goes wsX5_goes) := goodIn_app (goodIn_of _ (by decide +kernel)) ggX5_shrink_X5_goes
set_option maxRecDepth 20000 in
theorem ggX5_pay_X5_noObject : GoodIn wsX5_pay wsX5_noObject := goodIn_r _ [12, 13, 14, 15, 11, 16, 38, 39, 40, 41, 42, 43, 44, 45, 46, 47, 48, 49, 50, 51, 52, 53, 54, 55, 56, 57, 58, 59, 60] (by decide +kernel) (by decide +kernel)
set_option maxRecDepth 20000 in
theorem gX5_pay_X5_noObject : GoodIn wsX5_pay (wsV RX5 137 RX5 yX5_noObject wsX5_noObject) := goodIn_app (goodIn_of _ (by decide +kernel)) ggX5_pay_X5_noObject
set_option maxRecDepth 20000 in
theorem ggX5_pay_X5_noAccount : GoodIn wsX5_pay wsX5_noAccount := goodIn_r _ [20, 21, 14, 15, 11, 16] (by decide +kernel) (by decide +kernel)
set_option maxRecDepth 20000 in
theorem gX5_pay_X5_noAccount : GoodIn wsX5_pay (wsV RX5 101 RX5 yX5_noAccount wsX5_noAccount) := goodIn_app (goodIn_of _ (by decide +kernel)) ggX5_pay_X5_noAccount
set_option maxRecDepth 20000 in
theorem ggX5_pay_X5_in : GoodIn wsX5_pay wsX5_in := goodIn_r _ [16] (by decide +kernel) (by decide +kernel)
set_option maxRecDepth 20000 in
theorem gX5_pay_X5_in : GoodIn wsX5_pay (va_wsS RX5 83 yX5_in wsX5_in) := goodIn_app (goodIn_of _ (by decide +kernel)) ggX5_pay_X5_in
set_option maxRecDepth 20000 in
theorem ggX5_pay_X5_charged : GoodIn wsX5_pay wsX5_charged := goodIn_r _ [25, 26, 4, 27, 28, 29, 11, 30, 31, 32, 38, 39, 40, 41, 42, 43, 44, 45, 46, 47, 48, 49, 50, 51, 52, 53, 54, 55, 56, 57, 58, 59, 60] (by decide +kernel) (by decide +kernel)
set_option maxRecDepth 20000 in
theorem gX5_pay_X5_charged : GoodIn wsX5_pay (wsV RX5 127 RX5 yX5_charged wsX5_charged) := goodIn_app (goodIn_of _ (by decide +kernel)) ggX5_pay_X5_charged
set_option maxRecDepth 20000 in
theorem ggX5_pay_X5_rent : GoodIn wsX5_pay wsX5_rent := goodIn_r _ [36, 37, 4, 27, 28, 29, 11, 30, 31, 32, 38, 39, 40, 41, 42, 43, 44, 45, 46, 47, 48, 49, 50, 51, 52, 53, 54, 55, 56, 57, 58, 59, 60] (by decide +kernel) (by decide +kernel)
set_option maxRecDepth 20000 in
theorem gX5_pay_X5_rent : GoodIn wsX5_pay (wsV RX5 130 RX5 yX5_rent wsX5_rent) := goodIn_app (goodIn_of _ (by decide +kernel)) ggX5_pay_X5_rent
set_option maxRecDepth 20000 in
theorem ggX5_write_X5_noObject : GoodIn wsX5_write wsX5_noObject := goodIn_r _ [8, 9, 10, 11, 7, 12, 13, 14, 15, 16, 17, 18, 19, 20, 21, 22, 23, 24, 25, 26, 27, 28, 29, 30, 31, 32, 33, 34, 35] (by decide +kernel) (by decide +kernel)
set_option maxRecDepth 20000 in
theorem gX5_write_X5_noObject : GoodIn wsX5_write (wsV RX5 137 RX5 yX5_noObject wsX5_noObject) := goodIn_app (goodIn_of _ (by decide +kernel)) ggX5_write_X5_noObject
set_option maxRecDepth 20000 in
theorem ggX5_write_X5_in : GoodIn wsX5_write wsX5_in := goodIn_r _ [12] (by decide +kernel) (by decide +kernel)
set_option maxRecDepth 20000 in
theorem gX5_write_X5_in : GoodIn wsX5_write (va_wsS RX5 83 yX5_in wsX5_in) := goodIn_app (goodIn_of _ (by decide +kernel)) ggX5_write_X5_in
set_option maxRecDepth 20000 in
theorem ggX5_drop_X5_noObject : GoodIn wsX5_drop wsX5_noObject := goodIn_r _ [7, 8, 9, 10, 6, 11, 25, 26, 27, 28, 29, 30, 31, 32, 33, 34, 35, 36, 37, 38, 39, 40, 41, 42, 43, 44, 45, 46, 47] (by decide +kernel) (by decide +kernel)
set_option maxRecDepth 20000 in
theorem gX5_drop_X5_noObject : GoodIn wsX5_drop (wsV RX5 137 RX5 yX5_noObject wsX5_noObject) := goodIn_app (goodIn_of _ (by decide +kernel)) ggX5_drop_X5_noObject
set_option maxRecDepth 20000 in
theorem ggX5_drop_X5_goes : GoodIn wsX5_drop wsX5_goes := goodIn_r _ [15, 16, 17, 18, 19, 20, 21, 6, 22, 23, 24, 25, 26, 27, 28, 29, 30, 31, 32, 33, 34, 35, 36, 37, 38, 39, 40, 41, 42, 43, 44, 45, 46, 47] (by decide +kernel) (by decide +kernel)
set_option maxRecDepth 20000 in
theorem gX5_drop_X5_goes : GoodIn wsX5_drop (wsV RX5 145 RX5 yX5_goes wsX5_goes) := goodIn_app (goodIn_of _ (by decide +kernel)) ggX5_drop_X5_goes
set_option maxRecDepth 20000 in
theorem ggX5_back_X5_noObject : GoodIn wsX5_back wsX5_noObject := goodIn_r _ [13, 14, 15, 16, 12, 17, 53, 54, 55, 56, 57, 58, 59, 60, 61, 62, 63, 64, 65, 66, 67, 68, 69, 70, 71, 72, 73, 74, 75] (by decide +kernel) (by decide +kernel)
set_option maxRecDepth 20000 in
theorem gX5_back_X5_noObject : GoodIn wsX5_back (wsV RX5 137 RX5 yX5_noObject wsX5_noObject) := goodIn_app (goodIn_of _ (by decide +kernel)) ggX5_back_X5_noObject
set_option maxRecDepth 20000 in
theorem ggX5_back_X5_noAccount : GoodIn wsX5_back wsX5_noAccount := goodIn_r _ [21, 22, 15, 16, 12, 17] (by decide +kernel) (by decide +kernel)
set_option maxRecDepth 20000 in
theorem gX5_back_X5_noAccount : GoodIn wsX5_back (wsV RX5 101 RX5 yX5_noAccount wsX5_noAccount) := goodIn_app (goodIn_of _ (by decide +kernel)) ggX5_back_X5_noAccount
set_option maxRecDepth 20000 in
theorem ggX5_back_X5_in : GoodIn wsX5_back wsX5_in := goodIn_r _ [17] (by decide +kernel) (by decide +kernel)
set_option maxRecDepth 20000 in
theorem gX5_back_X5_in : GoodIn wsX5_back (va_wsS RX5 83 yX5_in wsX5_in) := goodIn_app (goodIn_of _ (by decide +kernel)) ggX5_back_X5_in
set_option maxRecDepth 20000 in
theorem ggX5_back_X5_digestOf : GoodIn wsX5_back wsX5_digestOf := goodIn_r _ [26, 4, 27, 53, 54, 55, 56, 57, 58, 59, 60, 61, 62, 63, 64, 65, 66, 67, 68, 69, 70, 71, 72, 73, 74, 75] (by decide +kernel) (by decide +kernel)
set_option maxRecDepth 20000 in
theorem gX5_back_X5_digestOf : GoodIn wsX5_back (wsV RX5 149 RX5 yX5_digestOf wsX5_digestOf) := goodIn_app (goodIn_of _ (by decide +kernel)) ggX5_back_X5_digestOf
set_option maxRecDepth 20000 in
theorem ggX5_back_X5_isCapped : GoodIn wsX5_back wsX5_isCapped := goodIn_r _ [31, 32, 33, 34, 35, 12, 36, 14, 2, 3, 4, 53, 54, 55, 56, 57, 58, 59, 60, 61, 62, 63, 64, 65, 66, 67, 68, 69, 70, 71, 72, 73, 74, 75] (by decide +kernel) (by decide +kernel)
set_option maxRecDepth 20000 in
theorem gX5_back_X5_isCapped : GoodIn wsX5_back (wsV RX5 124 RX5 yX5_isCapped wsX5_isCapped) := goodIn_app (goodIn_of _ (by decide +kernel)) ggX5_back_X5_isCapped
set_option maxRecDepth 20000 in
theorem ggX5_back_X5_charged : GoodIn wsX5_back wsX5_charged := goodIn_r _ [40, 41, 5, 42, 43, 44, 12, 45, 46, 47, 53, 54, 55, 56, 57, 58, 59, 60, 61, 62, 63, 64, 65, 66, 67, 68, 69, 70, 71, 72, 73, 74, 75] (by decide +kernel) (by decide +kernel)
set_option maxRecDepth 20000 in
theorem gX5_back_X5_charged : GoodIn wsX5_back (wsV RX5 127 RX5 yX5_charged wsX5_charged) := goodIn_app (goodIn_of _ (by decide +kernel)) ggX5_back_X5_charged
set_option maxRecDepth 20000 in
theorem ggX5_back_X5_rent : GoodIn wsX5_back wsX5_rent := goodIn_r _ [51, 52, 5, 42, 43, 44, 12, 45, 46, 47, 53, 54, 55, 56, 57, 58, 59, 60, 61, 62, 63, 64, 65, 66, 67, 68, 69, 70, 71, 72, 73, 74, 75] (by decide +kernel) (by decide +kernel)
set_option maxRecDepth 20000 in
theorem gX5_back_X5_rent : GoodIn wsX5_back (wsV RX5 130 RX5 yX5_rent wsX5_rent) := goodIn_app (goodIn_of _ (by decide +kernel)) ggX5_back_X5_rent
set_option maxRecDepth 20000 in
theorem ggX5_digest_X5_noObject : GoodIn wsX5_digest wsX5_noObject := goodIn_r _ [5, 6, 7, 8, 4, 9, 16, 17, 18, 19, 20, 21, 22, 23, 24, 25, 26, 27, 28, 29, 30, 31, 32, 33, 34, 35, 36, 37, 38] (by decide +kernel) (by decide +kernel)
set_option maxRecDepth 20000 in
theorem gX5_digest_X5_noObject : GoodIn wsX5_digest (wsV RX5 137 RX5 yX5_noObject wsX5_noObject) := goodIn_app (goodIn_of _ (by decide +kernel)) ggX5_digest_X5_noObject
set_option maxRecDepth 20000 in
theorem ggX5_digest_X5_digestOf : GoodIn wsX5_digest wsX5_digestOf := goodIn_r _ [13, 14, 15, 16, 17, 18, 19, 20, 21, 22, 23, 24, 25, 26, 27, 28, 29, 30, 31, 32, 33, 34, 35, 36, 37, 38] (by decide +kernel) (by decide +kernel)
set_option maxRecDepth 20000 in
theorem gX5_digest_X5_digestOf : GoodIn wsX5_digest (wsV RX5 149 RX5 yX5_digestOf wsX5_digestOf) := goodIn_app (goodIn_of _ (by decide +kernel)) ggX5_digest_X5_digestOf
set_option maxRecDepth 20000 in
theorem ggX5_share_X5_allWeights : GoodIn wsX5_share wsX5_allWeights := goodIn_r _ [9, 2, 14, 15, 16, 17, 18, 19, 20, 21, 22, 23, 24, 25, 26, 27, 28, 29, 30, 31, 32, 33, 34, 35, 36] (by decide +kernel) (by decide +kernel)
set_option maxRecDepth 20000 in
theorem gX5_share_X5_allWeights : GoodIn wsX5_share (wsV RX5 152 RX5 yX5_allWeights wsX5_allWeights) := goodIn_app (goodIn_of _ (by decide +kernel)) ggX5_share_X5_allWeights
set_option maxRecDepth 20000 in
theorem ggX5_share_X5_rank : GoodIn wsX5_share wsX5_rank := goodIn_r _ [13, 2, 14, 15, 16, 17, 18, 19, 20, 21, 22, 23, 24, 25, 26, 27, 28, 29, 30, 31, 32, 33, 34, 35, 36] (by decide +kernel) (by decide +kernel)
set_option maxRecDepth 20000 in
theorem gX5_share_X5_rank : GoodIn wsX5_share (wsV RX5 155 RX5 yX5_rank wsX5_rank) := goodIn_app (goodIn_of _ (by decide +kernel)) ggX5_share_X5_rank
set_option maxRecDepth 20000 in
theorem ggX5_tick_X5_in : GoodIn wsX5_tick wsX5_in := goodIn_r _ [10] (by decide +kernel) (by decide +kernel)
set_option maxRecDepth 20000 in
theorem gX5_tick_X5_in : GoodIn wsX5_tick (va_wsS RX5 83 yX5_in wsX5_in) := goodIn_app (goodIn_of _ (by decide +kernel)) ggX5_tick_X5_in
set_option maxRecDepth 20000 in
theorem ggX5_tick_X5_share : GoodIn wsX5_tick wsX5_share := goodIn_r _ [14, 15, 16, 17, 18, 19, 20, 21, 9, 22, 23, 24, 25, 26, 27, 28, 29, 30, 31, 32, 33, 34, 35, 36, 37, 38, 39, 40, 41, 42, 43, 44, 45, 46, 47, 48, 49] (by decide +kernel) (by decide +kernel)
set_option maxRecDepth 20000 in
theorem gX5_tick_X5_share : GoodIn wsX5_tick (wsV RX5 158 RX5 yX5_share wsX5_share) := goodIn_app (goodIn_of _ (by decide +kernel)) ggX5_tick_X5_share
set_option maxRecDepth 20000 in
theorem ggX5_weight_X5_in : GoodIn wsX5_weight wsX5_in := goodIn_r _ [7] (by decide +kernel) (by decide +kernel)
set_option maxRecDepth 20000 in
theorem gX5_weight_X5_in : GoodIn wsX5_weight (va_wsS RX5 83 yX5_in wsX5_in) := goodIn_app (goodIn_of _ (by decide +kernel)) ggX5_weight_X5_in
set_option maxRecDepth 20000 in
theorem ggX5_coins_X5_in : GoodIn wsX5_coins wsX5_in := goodIn_r _ [7] (by decide +kernel) (by decide +kernel)
set_option maxRecDepth 20000 in
theorem gX5_coins_X5_in : GoodIn wsX5_coins (va_wsS RX5 83 yX5_in wsX5_in) := goodIn_app (goodIn_of _ (by decide +kernel)) ggX5_coins_X5_in
set_option maxRecDepth 20000 in
theorem ggX5_coins_X5_noAccount : GoodIn wsX5_coins wsX5_noAccount := goodIn_r _ [11, 12, 4, 5, 6, 7] (by decide +kernel) (by decide +kernel)
set_option maxRecDepth 20000 in
theorem gX5_coins_X5_noAccount : GoodIn wsX5_coins (wsV RX5 101 RX5 yX5_noAccount wsX5_noAccount) := goodIn_app (goodIn_of _ (by decide +kernel)) ggX5_coins_X5_noAccount
set_option maxRecDepth 20000 in
theorem ggX5_object_X5_noObject : GoodIn wsX5_object wsX5_noObject := goodIn_r _ [10, 11, 12, 13, 9, 14, 37, 38, 39, 40, 41, 42, 43, 44, 45, 46, 47, 48, 49, 50, 51, 52, 53, 54, 55, 56, 57, 58, 59] (by decide +kernel) (by decide +kernel)
set_option maxRecDepth 20000 in
theorem gX5_object_X5_noObject : GoodIn wsX5_object (wsV RX5 137 RX5 yX5_noObject wsX5_noObject) := goodIn_app (goodIn_of _ (by decide +kernel)) ggX5_object_X5_noObject
set_option maxRecDepth 20000 in
theorem ggX5_object_X5_sizeNow : GoodIn wsX5_object wsX5_sizeNow := goodIn_r _ [18, 3, 5, 37, 38, 39, 40, 41, 42, 43, 44, 45, 46, 47, 48, 49, 50, 51, 52, 53, 54, 55, 56, 57, 58, 59] (by decide +kernel) (by decide +kernel)
set_option maxRecDepth 20000 in
theorem gX5_object_X5_sizeNow : GoodIn wsX5_object (wsV RX5 142 RX5 yX5_sizeNow wsX5_sizeNow) := goodIn_app (goodIn_of _ (by decide +kernel)) ggX5_object_X5_sizeNow
set_option maxRecDepth 20000 in
theorem ggX5_object_X5_heldFor : GoodIn wsX5_object wsX5_heldFor := goodIn_r _ [22, 4, 23, 24, 37, 38, 39, 40, 41, 42, 43, 44, 45, 46, 47, 48, 49, 50, 51, 52, 53, 54, 55, 56, 57, 58, 59] (by decide +kernel) (by decide +kernel)
set_option maxRecDepth 20000 in
theorem gX5_object_X5_heldFor : GoodIn wsX5_object (wsV RX5 163 RX5 yX5_heldFor wsX5_heldFor) := goodIn_app (goodIn_of _ (by decide +kernel)) ggX5_object_X5_heldFor
set_option maxRecDepth 20000 in
theorem ggX5_object_X5_charged : GoodIn wsX5_object wsX5_charged := goodIn_r _ [28, 29, 30, 31, 32, 33, 9, 34, 35, 36, 37, 38, 39, 40, 41, 42, 43, 44, 45, 46, 47, 48, 49, 50, 51, 52, 53, 54, 55, 56, 57, 58, 59] (by decide +kernel) (by decide +kernel)
set_option maxRecDepth 20000 in
theorem gX5_object_X5_charged : GoodIn wsX5_object (wsV RX5 127 RX5 yX5_charged wsX5_charged) := goodIn_app (goodIn_of _ (by decide +kernel)) ggX5_object_X5_charged
set_option maxRecDepth 20000 in
theorem ggX5_layer_X5_noObject : GoodIn wsX5_layer wsX5_noObject := goodIn_r _ [10, 11, 12, 13, 9, 14, 15, 16, 17, 18, 19, 20, 21, 22, 23, 24, 25, 26, 27, 28, 29, 30, 31, 32, 33, 34, 35, 36, 37] (by decide +kernel) (by decide +kernel)
set_option maxRecDepth 20000 in
theorem gX5_layer_X5_noObject : GoodIn wsX5_layer (wsV RX5 137 RX5 yX5_noObject wsX5_noObject) := goodIn_app (goodIn_of _ (by decide +kernel)) ggX5_layer_X5_noObject
set_option maxRecDepth 20000 in
theorem ggX5_layer_X5_in : GoodIn wsX5_layer wsX5_in := goodIn_r _ [14] (by decide +kernel) (by decide +kernel)
set_option maxRecDepth 20000 in
theorem gX5_layer_X5_in : GoodIn wsX5_layer (va_wsS RX5 83 yX5_in wsX5_in) := goodIn_app (goodIn_of _ (by decide +kernel)) ggX5_layer_X5_in
set_option maxRecDepth 20000 in
theorem ggX5_word_X5_noObject : GoodIn wsX5_word wsX5_noObject := goodIn_r _ [8, 9, 10, 11, 7, 12, 13, 14, 15, 16, 17, 18, 19, 20, 21, 22, 23, 24, 25, 26, 27, 28, 29, 30, 31, 32, 33, 34, 35] (by decide +kernel) (by decide +kernel)
set_option maxRecDepth 20000 in
theorem gX5_word_X5_noObject : GoodIn wsX5_word (wsV RX5 137 RX5 yX5_noObject wsX5_noObject) := goodIn_app (goodIn_of _ (by decide +kernel)) ggX5_word_X5_noObject
set_option maxRecDepth 20000 in
theorem ggX5_word_X5_in : GoodIn wsX5_word wsX5_in := goodIn_r _ [12] (by decide +kernel) (by decide +kernel)
set_option maxRecDepth 20000 in
theorem gX5_word_X5_in : GoodIn wsX5_word (va_wsS RX5 83 yX5_in wsX5_in) := goodIn_app (goodIn_of _ (by decide +kernel)) ggX5_word_X5_in
set_option maxRecDepth 20000 in
theorem ggX5_wouldGive_X5_noObject : GoodIn wsX5_wouldGive wsX5_noObject := goodIn_r _ [7, 8, 9, 10, 6, 11, 25, 26, 27, 28, 29, 30, 31, 32, 33, 34, 35, 36, 37, 38, 39, 40, 41, 42, 43, 44, 45, 46, 47] (by decide +kernel) (by decide +kernel)
set_option maxRecDepth 20000 in
theorem gX5_wouldGive_X5_noObject : GoodIn wsX5_wouldGive (wsV RX5 137 RX5 yX5_noObject wsX5_noObject) := goodIn_app (goodIn_of _ (by decide +kernel)) ggX5_wouldGive_X5_noObject
set_option maxRecDepth 20000 in
theorem ggX5_wouldGive_X5_noAccount : GoodIn wsX5_wouldGive wsX5_noAccount := goodIn_r _ [15, 16, 9, 10, 6, 11] (by decide +kernel) (by decide +kernel)
set_option maxRecDepth 20000 in
theorem gX5_wouldGive_X5_noAccount : GoodIn wsX5_wouldGive (wsV RX5 101 RX5 yX5_noAccount wsX5_noAccount) := goodIn_app (goodIn_of _ (by decide +kernel)) ggX5_wouldGive_X5_noAccount
set_option maxRecDepth 20000 in
theorem ggX5_wouldGive_X5_in : GoodIn wsX5_wouldGive wsX5_in := goodIn_r _ [11] (by decide +kernel) (by decide +kernel)
set_option maxRecDepth 20000 in
theorem gX5_wouldGive_X5_in : GoodIn wsX5_wouldGive (va_wsS RX5 83 yX5_in wsX5_in) := goodIn_app (goodIn_of _ (by decide +kernel)) ggX5_wouldGive_X5_in
set_option maxRecDepth 20000 in
theorem ggX5_wouldGive_X5_gives : GoodIn wsX5_wouldGive wsX5_gives := goodIn_r _ [20, 21, 22, 23, 24, 25, 26, 27, 28, 29, 30, 31, 32, 33, 34, 35, 36, 37, 38, 39, 40, 41, 42, 43, 44, 45, 46, 47] (by decide +kernel) (by decide +kernel)
set_option maxRecDepth 20000 in
theorem gX5_wouldGive_X5_gives : GoodIn wsX5_wouldGive (wsV RX5 118 RX5 yX5_gives wsX5_gives) := goodIn_app (goodIn_of _ (by decide +kernel)) ggX5_wouldGive_X5_gives
set_option maxRecDepth 20000 in
theorem ggX5_held_X5_heldFor : GoodIn wsX5_held wsX5_heldFor := goodIn_r _ [6, 7, 8, 9, 10, 11, 12, 13, 14, 15, 16, 17, 18, 19, 20, 21, 22, 23, 24, 25, 26, 27, 28, 29, 30, 31, 32] (by decide +kernel) (by decide +kernel)
set_option maxRecDepth 20000 in
theorem gX5_held_X5_heldFor : GoodIn wsX5_held (wsV RX5 163 RX5 yX5_heldFor wsX5_heldFor) := goodIn_app (goodIn_of _ (by decide +kernel)) ggX5_held_X5_heldFor
set_option maxRecDepth 20000 in
theorem ggX5_allCoins_X5_held : GoodIn wsX5_allCoins wsX5_held := goodIn_r _ [8, 9, 10, 11, 12, 7, 13, 14, 15, 16, 17, 18, 19, 20, 21, 22, 23, 24, 25, 26, 27, 28, 29, 30, 31, 32, 33, 34, 35, 36, 37, 38, 39] (by decide +kernel) (by decide +kernel)
set_option maxRecDepth 20000 in
theorem gX5_allCoins_X5_held : GoodIn wsX5_allCoins (wsV RX5 175 RX5 yX5_held wsX5_held) := goodIn_app (goodIn_of _ (by decide +kernel)) ggX5_allCoins_X5_held
set_option maxRecDepth 20000 in
theorem ggX5_told_X5_manyOf : GoodIn wsX5_told wsX5_manyOf := goodIn_r _ [10, 2, 11, 35, 36, 37, 38, 39, 40, 41, 42, 43, 44, 45, 46, 47, 48, 49, 50, 51, 52, 53, 54, 55, 56, 57] (by decide +kernel) (by decide +kernel)
set_option maxRecDepth 20000 in
theorem gX5_told_X5_manyOf : GoodIn wsX5_told (wsV RX5 178 RX5 yX5_manyOf wsX5_manyOf) := goodIn_app (goodIn_of _ (by decide +kernel)) ggX5_told_X5_manyOf
set_option maxRecDepth 20000 in
theorem ggX5_told_X5_liveSizes : GoodIn wsX5_told wsX5_liveSizes := goodIn_r _ [15, 2, 11, 16, 17, 35, 36, 37, 38, 39, 40, 41, 42, 43, 44, 45, 46, 47, 48, 49, 50, 51, 52, 53, 54, 55, 56, 57] (by decide +kernel) (by decide +kernel)
set_option maxRecDepth 20000 in
theorem gX5_told_X5_liveSizes : GoodIn wsX5_told (wsV RX5 107 RX5 yX5_liveSizes wsX5_liveSizes) := goodIn_app (goodIn_of _ (by decide +kernel)) ggX5_told_X5_liveSizes
set_option maxRecDepth 20000 in
theorem ggX5_told_X5_held : GoodIn wsX5_told wsX5_held := goodIn_r _ [21, 2, 22, 23, 24, 9, 25, 26, 27, 28, 35, 36, 37, 38, 39, 40, 41, 42, 43, 44, 45, 46, 47, 48, 49, 50, 51, 52, 53, 54, 55, 56, 57] (by decide +kernel) (by decide +kernel)
set_option maxRecDepth 20000 in
theorem gX5_told_X5_held : GoodIn wsX5_told (wsV RX5 175 RX5 yX5_held wsX5_held) := goodIn_app (goodIn_of _ (by decide +kernel)) ggX5_told_X5_held
set_option maxRecDepth 20000 in
theorem ggX5_told_X5_allCoins : GoodIn wsX5_told wsX5_allCoins := goodIn_r _ [32, 3, 33, 34, 18, 19, 20, 9, 21, 2, 22, 23, 24, 25, 26, 27, 28, 35, 36, 37, 38, 39, 40, 41, 42, 43, 44, 45, 46, 47, 48, 49, 50, 51, 52, 53, 54, 55, 56, 57] (by decide +kernel) (by decide +kernel)
set_option maxRecDepth 20000 in
theorem gX5_told_X5_allCoins : GoodIn wsX5_told (wsV RX5 181 RX5 yX5_allCoins wsX5_allCoins) := goodIn_app (goodIn_of _ (by decide +kernel)) ggX5_told_X5_allCoins
set_option maxRecDepth 20000 in
theorem ggX5_clear_X5_begin : GoodIn wsX5_clear wsX5_begin := goodIn_r _ [6, 7, 8, 9, 10, 11, 12, 13, 14, 15, 16, 17, 18, 19, 1, 20, 21, 22, 23, 24, 25, 26, 27, 28, 29, 30, 31, 32, 33, 34, 35, 36, 37, 38, 39, 40, 41, 42] (by decide +kernel) (by decide +kernel)
set_option maxRecDepth 20000 in
theorem gX5_clear_X5_begin : GoodIn wsX5_clear (wsV RX5 61 RX5 yX5_begin wsX5_begin) := goodIn_app (goodIn_of _ (by decide +kernel)) ggX5_clear_X5_begin
end
section
def nwF : List (String × Nat × String × String × String × String) := [("RentSizes", 57, "RentSizes$Editions", "count", "I", "RentSizes"), ("RentSizes", 107, "RentSizes$Item", "layers", "LRentSizes$Layers;", "RentSizes"), ("RentSizes", 123, "RentSizes$Item", "state", "I", "RentSizes"), ("RentSizes", 126, "RentSizes$Item", "owner", "I", "RentSizes"), ("RentSizes", 129, "RentSizes$Item", "size", "I", "RentSizes"), ("RentSizes", 132, "RentSizes$Item", "paid", "I", "RentSizes"), ("RentSizes", 145, "RentSizes$Item", "words", "[I", "RentSizes"), ("RentSizes", 160, "RentSizes$Ledger", "weights", "[I", "RentSizes"), ("RentSizes", 163, "RentSizes$Ledger", "accounts", "[I", "RentSizes"), ("RentSizes", 166, "RentSizes$Ledger", "nodes", "[I", "RentSizes"), ("RentSizes", 169, "RentSizes$Layers", "count", "I", "RentSizes"), ("RentSizes", 176, "RentSizes$Layers", "bytes", "[I", "RentSizes"), ("RentSizes", 179, "RentSizes$Layers", "prices", "[I", "RentSizes"), ("RentSizes", 182, "RentSizes$Layers", "payers", "[I", "RentSizes"), ("RentSizes", 208, "RentSizes$Ledger", "held", "I", "RentSizes"), ("RentSizes", 211, "RentSizes$Ledger", "pool", "I", "RentSizes"), ("RentSizes", 217, "RentSizes$Ledger", "paidToNodes", "I", "RentSizes"), ("RentSizes$Item", 41, "RentSizes$Layers", "count", "I", "RentSizes")]
def nwM : List (String × Nat × MethodName × String) := [("RentSizes", 9, yX0_init, "RentSizes"), ("RentSizes", 18, yX3_init, "RentSizes"), ("RentSizes", 230, yX1_init, "RentSizes"), ("RentSizes$Item", 17, yX2_init, "RentSizes"), ("RentSizes$Layers", 25, yX4_within, "RentSizes")]
/-- what the tables say of the nest, and of arrays of items -/
def En (U : State) : Prop := (∀ q ∈ nwF, va_Nw (.fieldLinkNest q.1 q.2.1 q.2.2.1 q.2.2.2.1 q.2.2.2.2.1 q.2.2.2.2.2) U) ∧ (∀ q ∈ nwM, va_Nw (.methodLinkNest q.1 q.2.1 q.2.2.1 q.2.2.2) U) ∧ va_AO "RentSizes$Item" U
theorem En.warm {s U : State} (hW : s.WarmedH U.vm) (h : En s) : En U := ⟨fun q hq => va_Nw.warmF hW (h.1 q hq), fun q hq => va_Nw.warmM hW (h.2.1 q hq), va_AO.moved hW.alike h.2.2⟩
theorem En.call {U : State} (g : JFrame) (mk : MethodId) (a : Array Value) (h : En U) : En (U.calling g mk a) := ⟨fun q hq => va_Nw.same rfl rfl (h.1 q hq), fun q hq => va_Nw.same rfl rfl (h.2.1 q hq), va_AO.moved (u := U) (U := U.calling g mk a) (Vm.Alike.refl U.vm) h.2.2⟩
/-- the world at a point of a walk -/
def Wd (D : va_G) (ty : List (ClassId × FieldType)) (A : Nat → Prop) (H0 : Heap) (s : State) (ws : va_W) (H : Heap) (locs : List Loc) : Prop := va_K D vwCl ty s ∧ va_P D vwCl ws H ∧ va_D A ws ∧ va_S A H0 H locs ∧ (∀ q, H0.size ≤ q → A q) ∧ En s
def cP (D : va_G) (ty : List (ClassId × FieldType)) (av : List Value) (ws : va_W) (sz : Nat) : Array Value → State → Prop := va_Pc av (fun U => U.heap.size = sz ∧ va_P D vwCl ws U.heap ∧ va_K D vwCl ty U ∧ va_D (fun _ => True) ws ∧ En U)
theorem cP_blind {D : va_G} {ty : List (ClassId × FieldType)} {av : List Value} {ws : va_W} {sz : Nat} : FrameBlind (cP D ty av ws sz) := by
  intro a U g mk h
  obtain ⟨q0, q1, qP, qK, qD, qE⟩ := h
  exact ⟨q0, q1, qP, va_K.moved (u := U) (U := U.calling g mk a) (Vm.Alike.refl U.vm) qK, qD, qE.call g mk a⟩
def cB (D : va_G) (ty : List (ClassId × FieldType)) (A : Nat → Prop) (ws' : va_W) (t : State) : Prop := va_P D vwCl ws' t.heap ∧ va_K D vwCl ty t ∧ va_D A ws'
/-- a contract: from the world ws, with these arguments; Qf tells the kind of answer and its post -/
def MetG (l : Launch) (y : MethodName) (wy : List Cond) (rm : Room) (D : va_G) (ty : List (ClassId × FieldType)) (av : List Value) (ws : va_W) (Qf : (va_W → State → Prop) → (Nat → Prop) → Array Value → State → Outcome → State → Prop) (mc ms : Nat) : Prop :=
  ∀ sz : Nat, Met l y wy rm (cP D ty av ws sz) (Qf (cB D ty (va_A ws sz)) (va_A ws sz)) mc ms (va_A ws sz)
theorem Met_start {l : Launch} {y : MethodName} {wy wy' : List Cond} {rm : Room} {D : va_G} {ty : List (ClassId × FieldType)} {av : List Value} {ws : va_W} {Qf : (va_W → State → Prop) → (Nat → Prop) → Array Value → State → Outcome → State → Prop} {mc ms : Nat} (cc : ByteArray) (maxL : Nat) (ret : Option FieldType)
    (hy : plainName y.cls = true) (hw : wy = Cond.code y cc maxL ret :: wy') (hn : (lg_sl av).length ≤ maxL)
    (body : ∀ (p : Program) (e : Env) (s : State) (m : MethodId) (below : List Frame) (meth : Method) (c : Code) (A : Nat → Prop) (ls : Array Slot), p.tables.exec = Jvm.exec → c.code = cc → meth.sig.returnType = ret → meth.locks = false → c.maxLocals = maxL → meth.name = y.name → (∀ w ∈ wy, w.before av.toArray s = true) → s.vm.findClass y.cls = some m.cls → Wd D ty A s.heap s ws s.heap [] → lv_has ls maxL (lv_args 0 av) →
      W p l e rm s m av.toArray below meth c s.heap [] 0 0 (MQ below (Qf (cB D ty A) A) av.toArray s mc ms A) (F0 m 0 ls [])) : MetG l y wy rm D ty av ws Qf mc ms := by
  intro sz
  refine Met.ofW (cc := cc) (maxL := maxL) (ret := ret) hy hw ?_
  intro p e s m args below meth c s₁ B hml hv
  obtain ⟨rfl, hsz, hP, hK, hD0, hE⟩ := hv
  subst hsz
  have hD := hD0.self (sz := s.heap.size)
  rw [lg_entry_eq]
  exact body p e s m below meth c (va_A ws s.heap.size) _ B.exec B.bytes B.returns B.notSynchronized hml (name_of_methodNamed B.named B.method).1 (atoms_spec (ws := wy) B.pre) (findClass_of_methodNamed B.named) ⟨hK, hP, hD, va_S.rf, fun q h => Or.inr h, hE⟩ (lv_entry av hn)
section BASE
variable {p : Program} {l : Launch} {e : Env} {R : Room} {s : State} {m : MethodId} {args : Array Value} {below : List Frame} {meth : Method} {c : Code} {H : Heap} {locs : List Loc} {cells slots : Nat} {Q : State → Prop}
variable {cc : ByteArray} {pc : Nat} {ls : Array Slot} {rest st0 : List Value} {D : va_G} {A : Nat → Prop} {a : Nat} {ty : List (ClassId × FieldType)} {ws ws' : va_W} {H0 : Heap}
theorem Wd.free (hw : Wd D ty A H0 s ws H locs) : ∀ q, va_A ws H.size q → A q := by
  obtain ⟨hK, hP, hD, hS, hA, hE⟩ := hw
  rintro q (⟨k, e, hk⟩ | h)
  · exact hD.2 k _ hk
  · exact hA q (Nat.le_trans hS.1 h)
theorem Wd.pre (hw : Wd D ty A H0 s ws H locs) {av : List Value} : ∀ U : State, U.heap = H → s.WarmedH U.vm → cP D ty av ws H.size av.toArray U := by
  obtain ⟨hK, hP, hD, hS, hA, hE⟩ := hw
  exact fun U hU hW => ⟨rfl, by rw [hU], by rw [hU]; exact hP, va_K.moved hW.alike hK, hD.weaken (fun _ _ _ _ => trivial), hE.warm hW⟩
theorem Wd.after (hw : Wd D ty A H0 s ws H locs) {t : State} {H1 : Heap} {locs1 : List Loc} (ht : t.heap = H1) (hB : cB D ty (va_A ws H.size) ws' t) (hS1 : va_S A H0 H1 locs1) : Wd D ty A H0 s ws' H1 locs1 := by
  have hF := hw.free
  obtain ⟨hK, hP, hD, hS, hA, hE⟩ := hw
  obtain ⟨hP1, hK1, hD1⟩ := hB
  rw [ht] at hP1
  exact ⟨hK, hP1, hD1.weaken (fun _ q _ h => hF _ h), hS1, hA, hE⟩
theorem r_get (hexec : p.tables.exec = Jvm.exec) (hb : c.code = cc) {own C : String} {T : u_T} {N ci index : Nat} {Ts : List Cond} (hts : ∀ w ∈ Ts, w.before args s = true) (hin : ∀ w ∈ u_ws C T N, w ∈ Ts) (hown : s.vm.findClass own = some m.cls) (hw : Wd D ty A H0 s ws H locs) (q0 : Nat) {fs : List Value} (he : ws[q0]? = some (a, .inr (ci, fs))) (hc : vwCl[ci]? = some (C, T, N)) (k : Nat) (hk : k < N) (hlink : (Cond.fieldLink own index (T k).1 (T k).2.1 (T k).2.2.1).before args s = true) {v : Value} (hv : fs[k]? = some v) (hdg : decode cc pc = .ok (.getfield index, 3))
    (kk : W p l e R s m args below meth c H locs cells slots Q (F0 m (pc + 3) ls (v :: rest))) : W p l e R s m args below meth c H locs cells slots Q (F0 m pc ls (.ref a :: rest)) :=
  va_get (D := D) hexec hb hts hin hown hw.1 hw.2.1 q0 he hc k hk hlink (fun _ h => h) hv hdg kk
theorem r_getN (hexec : p.tables.exec = Jvm.exec) (hb : c.code = cc) {own C host : String} {T : u_T} {N ci index : Nat} {Ts : List Cond} (hts : ∀ w ∈ Ts, w.before args s = true) (hin : ∀ w ∈ u_ws C T N, w ∈ Ts) (hown : s.vm.findClass own = some m.cls) (hw : Wd D ty A H0 s ws H locs) (q0 : Nat) {fs : List Value} (he : ws[q0]? = some (a, .inr (ci, fs))) (hc : vwCl[ci]? = some (C, T, N)) (k : Nat) (hk : k < N) (hlink : (own, index, (T k).1, (T k).2.1, (T k).2.2.1, host) ∈ nwF) {v : Value} (hv : fs[k]? = some v) (hdg : decode cc pc = .ok (.getfield index, 3))
    (kk : W p l e R s m args below meth c H locs cells slots Q (F0 m (pc + 3) ls (v :: rest))) : W p l e R s m args below meth c H locs cells slots Q (F0 m pc ls (.ref a :: rest)) :=
  va_getN (D := D) hexec hb hts hin hown hw.1 hw.2.1 q0 he hc k hk (va_Nw.use rfl (hw.2.2.2.2.2.1 _ hlink)) (fun _ h => h) hv hdg kk
theorem r_put (hexec : p.tables.exec = Jvm.exec) (hb : c.code = cc) {own C : String} {T : u_T} {N ci index : Nat} {Ts : List Cond} (hts : ∀ w ∈ Ts, w.before args s = true) (hin : ∀ w ∈ u_ws C T N, w ∈ Ts) (ty0 : Nat → FieldType) (hty : ∀ k, k < N → parseFieldDescriptor (T k).2.2.1 = some (ty0 k)) (hnm : ∀ a, a < N → ∀ b, b < N → a ≠ b → (T a).2.1 ≠ (T b).2.1) (hown : s.vm.findClass own = some m.cls) (hw : Wd D ty A H0 s ws H locs) (q0 : Nat) {fs : List Value} (he : ws[q0]? = some (a, .inr (ci, fs))) (hc : vwCl[ci]? = some (C, T, N)) (k : Nat) (hk : k < N) (hlink : (Cond.fieldLink own index (T k).1 (T k).2.1 (T k).2.2.1).before args s = true) (hfin : (T k).2.2.2 = false) {v : Int32} (hd : parseFieldDescriptor (T k).2.2.1 = some .int) (hl : k < fs.length)
    (hset : ws.set q0 (a, .inr (ci, fs.set k (.int v))) = ws') (hdg : decode cc pc = .ok (.putfield index, 3)) (kk : ∀ (H1 : Heap) (locs1 : List Loc), Wd D ty A H0 s ws' H1 locs1 → W p l e R s m args below meth c H1 locs1 cells slots Q (F0 m (pc + 3) ls rest)) : W p l e R s m args below meth c H locs cells slots Q (F0 m pc ls (.int v :: .ref a :: rest)) := by
  obtain ⟨hK, hP, hD, hS, hA, hE⟩ := hw
  subst hset
  exact va_put (D := D) (ty := .int) hexec hb hts hin ty0 hty hnm hown hK hP hD hS q0 he hc k hk hlink (fun _ h => h) hfin hd rfl rfl hl hdg (fun H1 locs1 h1 h2 h3 => kk H1 locs1 ⟨hK, h1, h2, h3, hA, hE⟩)
theorem r_putN (hexec : p.tables.exec = Jvm.exec) (hb : c.code = cc) {own C host : String} {T : u_T} {N ci index : Nat} {Ts : List Cond} (hts : ∀ w ∈ Ts, w.before args s = true) (hin : ∀ w ∈ u_ws C T N, w ∈ Ts) (ty0 : Nat → FieldType) (hty : ∀ k, k < N → parseFieldDescriptor (T k).2.2.1 = some (ty0 k)) (hnm : ∀ a, a < N → ∀ b, b < N → a ≠ b → (T a).2.1 ≠ (T b).2.1) (hown : s.vm.findClass own = some m.cls) (hw : Wd D ty A H0 s ws H locs) (q0 : Nat) {fs : List Value} (he : ws[q0]? = some (a, .inr (ci, fs))) (hc : vwCl[ci]? = some (C, T, N)) (k : Nat) (hk : k < N) (hlink : (own, index, (T k).1, (T k).2.1, (T k).2.2.1, host) ∈ nwF) (hfin : (T k).2.2.2 = false) {v : Int32} (hd : parseFieldDescriptor (T k).2.2.1 = some .int) (hl : k < fs.length)
    (hset : ws.set q0 (a, .inr (ci, fs.set k (.int v))) = ws') (hdg : decode cc pc = .ok (.putfield index, 3)) (kk : ∀ (H1 : Heap) (locs1 : List Loc), Wd D ty A H0 s ws' H1 locs1 → W p l e R s m args below meth c H1 locs1 cells slots Q (F0 m (pc + 3) ls rest)) : W p l e R s m args below meth c H locs cells slots Q (F0 m pc ls (.int v :: .ref a :: rest)) := by
  obtain ⟨hK, hP, hD, hS, hA, hE⟩ := hw
  subst hset
  exact va_putN (D := D) (ty := .int) hexec hb hts hin ty0 hty hnm hown hK hP hD hS q0 he hc k hk (va_Nw.use rfl (hE.1 _ hlink)) (fun _ h => h) hfin hd rfl rfl hl hdg (fun H1 locs1 h1 h2 h3 => kk H1 locs1 ⟨hK, h1, h2, h3, hA, hE⟩)
/-- a reference into a final field of the object that is being made -/
theorem r_putF (hexec : p.tables.exec = Jvm.exec) (hb : c.code = cc) {own C : String} {T : u_T} {N ci index : Nat} {Ts : List Cond} (hts : ∀ w ∈ Ts, w.before args s = true) (hin : ∀ w ∈ u_ws C T N, w ∈ Ts) (ty0 : Nat → FieldType) (hty : ∀ k, k < N → parseFieldDescriptor (T k).2.2.1 = some (ty0 k)) (hnm : ∀ a, a < N → ∀ b, b < N → a ≠ b → (T a).2.1 ≠ (T b).2.1) (hown : s.vm.findClass own = some m.cls) (hw : Wd D ty A H0 s ws H locs) (q0 : Nat) {fs : List Value} (he : ws[q0]? = some (a, .inr (ci, fs))) (hc : vwCl[ci]? = some (C, T, N)) (k : Nat) (hk : k < N) (hlink : (Cond.fieldLink own index (T k).1 (T k).2.1 (T k).2.2.1).before args s = true) (hfin : (T k).2.2.2 = true) (hin2 : meth.name = "<init>") (hdecl : (T k).1 = own) {ty1 : FieldType} {v : Value} (hd : parseFieldDescriptor (T k).2.2.1 = some ty1) (hn : narrow ty1 v = v) (hfit : fits ty1 v = true) (hl : k < fs.length)
    (hset : ws.set q0 (a, .inr (ci, fs.set k v)) = ws') (hdg : decode cc pc = .ok (.putfield index, 3)) (kk : ∀ (H1 : Heap) (locs1 : List Loc), Wd D ty A H0 s ws' H1 locs1 → W p l e R s m args below meth c H1 locs1 cells slots Q (F0 m (pc + 3) ls rest)) : W p l e R s m args below meth c H locs cells slots Q (F0 m pc ls (v :: .ref a :: rest)) := by
  obtain ⟨hK, hP, hD, hS, hA, hE⟩ := hw
  subst hset
  exact va_putF (D := D) (ty := ty1) hexec hb hts hin ty0 hty hnm hown hK hP hD hS q0 he hc k hk hlink (fun _ h => h) hfin hin2 hdecl hd hn hfit hl hdg (fun H1 locs1 h1 h2 h3 => kk H1 locs1 ⟨hK, h1, h2, h3, hA, hE⟩)
theorem r_iald (hexec : p.tables.exec = Jvm.exec) (hb : c.code = cc) (hw : Wd D ty A H0 s ws H locs) (q0 : Nat) {cA : ClassId} {n : Nat} {f : Nat → Int32} (ha : ws[q0]? = some (a, .inl (cA, n, .inl f))) (ht : ty[0]? = some (cA, .int)) {i : Int32} (hin : vp_in i n) (hdg : decode cc pc = .ok (.iaload, 1)) {v : Int32} (hv : f i.toNatClampNeg = v)
    (kk : W p l e R s m args below meth c H locs cells slots Q (F0 m (pc + 1) ls (.int v :: rest))) : W p l e R s m args below meth c H locs cells slots Q (F0 m pc ls (.int i :: .ref a :: rest)) := by
  subst hv
  exact va_iald hexec hb hw.1 hw.2.1 q0 0 ha ht hin hdg kk
/-- the same by a natural index -/
theorem r_ialdN (hexec : p.tables.exec = Jvm.exec) (hb : c.code = cc) (hw : Wd D ty A H0 s ws H locs) (q0 : Nat) {cA : ClassId} {n : Nat} {f : Nat → Int32} (ha : ws[q0]? = some (a, .inl (cA, n, .inl f))) (ht : ty[0]? = some (cA, .int)) (i : Nat) (hi : i < n) (hn : n < 2 ^ 31) (hdg : decode cc pc = .ok (.iaload, 1)) {v : Int32} (hv : f i = v)
    (kk : W p l e R s m args below meth c H locs cells slots Q (F0 m (pc + 1) ls (.int v :: rest))) : W p l e R s m args below meth c H locs cells slots Q (F0 m pc ls (.int (nI i) :: .ref a :: rest)) :=
  r_iald hexec hb hw q0 ha ht (vp_in_nI hi hn) hdg (by rw [nI_clamp (Nat.lt_trans hi hn)]; exact hv) kk
theorem r_iast (hexec : p.tables.exec = Jvm.exec) (hb : c.code = cc) (hw : Wd D ty A H0 s ws H locs) (q0 : Nat) {cA : ClassId} {n : Nat} {f : Nat → Int32} (ha : ws[q0]? = some (a, .inl (cA, n, .inl f))) (ht : ty[0]? = some (cA, .int)) {i x : Int32} (hin : vp_in i n) (hset : ws.set q0 (a, .inl (cA, n, .inl (upd f i.toNatClampNeg x))) = ws') (hdg : decode cc pc = .ok (.iastore, 1))
    (kk : ∀ (H1 : Heap) (locs1 : List Loc), Wd D ty A H0 s ws' H1 locs1 → W p l e R s m args below meth c H1 locs1 cells slots Q (F0 m (pc + 1) ls rest)) : W p l e R s m args below meth c H locs cells slots Q (F0 m pc ls (.int x :: .int i :: .ref a :: rest)) := by
  obtain ⟨hK, hP, hD, hS, hA, hE⟩ := hw
  subst hset
  exact va_iast hexec hb hK hP hD hS q0 0 ha ht hin hdg (fun H1 locs1 h1 h2 h3 => kk H1 locs1 ⟨hK, h1, h2, h3, hA, hE⟩)
theorem r_iastN (hexec : p.tables.exec = Jvm.exec) (hb : c.code = cc) (hw : Wd D ty A H0 s ws H locs) (q0 : Nat) {cA : ClassId} {n : Nat} {f : Nat → Int32} (ha : ws[q0]? = some (a, .inl (cA, n, .inl f))) (ht : ty[0]? = some (cA, .int)) (i : Nat) {x : Int32} (hi : i < n) (hn : n < 2 ^ 31) (hset : ws.set q0 (a, .inl (cA, n, .inl (upd f i x))) = ws') (hdg : decode cc pc = .ok (.iastore, 1))
    (kk : ∀ (H1 : Heap) (locs1 : List Loc), Wd D ty A H0 s ws' H1 locs1 → W p l e R s m args below meth c H1 locs1 cells slots Q (F0 m (pc + 1) ls rest)) : W p l e R s m args below meth c H locs cells slots Q (F0 m pc ls (.int x :: .int (nI i) :: .ref a :: rest)) :=
  r_iast hexec hb hw q0 ha ht (vp_in_nI hi hn) (by rw [nI_clamp (Nat.lt_trans hi hn)]; exact hset) hdg kk
theorem r_alen (hexec : p.tables.exec = Jvm.exec) (hb : c.code = cc) (hw : Wd D ty A H0 s ws H locs) (q0 : Nat) {cA : ClassId} {n : Nat} {f : Nat → Int32} (ha : ws[q0]? = some (a, .inl (cA, n, .inl f))) (ht : ty[0]? = some (cA, .int)) (hdg : decode cc pc = .ok (.arraylength, 1))
    (kk : W p l e R s m args below meth c H locs cells slots Q (F0 m (pc + 1) ls (.int (nI n) :: rest))) : W p l e R s m args below meth c H locs cells slots Q (F0 m pc ls (.ref a :: rest)) :=
  va_alen hexec hb hw.1 hw.2.1 q0 0 ha ht rfl hdg kk
/-- a new array of ints: its class is the one that is known -/
theorem r_newa (hexec : p.tables.exec = Jvm.exec) (hb : c.code = cc) (harr : (Cond.arrayClass .int).before args s = true) (hw : Wd D ty A H0 s ws H locs) {cA : ClassId} (ht : ty[0]? = some (cA, .int)) {n : Int32} (N' : Nat) (hn : ¬ n < 0) (hN : n.toNatClampNeg = N') (hbytes : N' * 4 ≤ 536870912) (hcells : cells + 1 ≤ R.cells) (hslots : slots + N' ≤ R.slots) (hdg : decode cc pc = .ok (.newarray .int, 2))
    (kk : ∀ (q : Nat) (H1 : Heap), Wd D ty A H0 s (ws ++ [(q, .inl (cA, N', .inl (fun _ => 0)))]) H1 locs → W p l e R s m args below meth c H1 locs (cells + 1) (slots + N') Q (F0 m (pc + 2) ls (.ref q :: rest))) : W p l e R s m args below meth c H locs cells slots Q (F0 m pc ls (.int n :: rest)) := by
  obtain ⟨hK, hP, hD, hS, hA, hE⟩ := hw
  have hb2 : N' * componentBytes FieldType.int ≤ 536870912 := by rw [show componentBytes FieldType.int = 4 from rfl]; exact hbytes
  have ha2 : ∀ cA : ClassId, vp_cell cA (N', .inl (fun _ => 0)) = arrV cA N' (fun _ => defaultValue FieldType.int) := fun cA => vp_cell_i cA N' _
  refine va_newa (atype := .int) (ty := .int) (N' := N') (a0 := (N', .inl (fun _ => 0))) hexec hb harr rfl hK hP hD hS hA ha2 hn hN hb2 hcells hslots hdg (fun q cB H1 h1 h2 h3 h4 => ?_)
  have e1 := va_nm_int (hK.2 0 _ ht).2
  have e2 := va_nm_int (h1.2 ty.length (cB, .int) (by simp)).2
  have e3 : cB = cA := Option.some.inj (e2.symm.trans e1)
  subst e3
  exact kk q H1 ⟨hK, h2, h3, h4, hA, hE⟩
theorem r_new (hexec : p.tables.exec = Jvm.exec) (hb : c.code = cc) {own C : String} {T : u_T} {N ci index : Nat} {Ts : List Cond} (hts : ∀ w ∈ Ts, w.before args s = true) (hin : ∀ w ∈ u_ws C T N, w ∈ Ts) (ty0 : Nat → FieldType) (hty : ∀ k, k < N → parseFieldDescriptor (T k).2.2.1 = some (ty0 k)) (hown : s.vm.findClass own = some m.cls) (hcl : (Cond.classLink own index C).before args s = true) (hinst : (Cond.instantiable C N).before args s = true) (hini : (Cond.initialized C).before args s = true)
    (hw : Wd D ty A H0 s ws H locs) (hc : vwCl[ci]? = some (C, T, N)) {fs : List Value} (hfs : ∀ j, j < N → defaultValue (ty0 j) = vp_V fs j) (hcells : cells + 1 ≤ R.cells) (hslots : slots + N ≤ R.slots) (hdg : decode cc pc = .ok (.new index, 3))
    (kk : ∀ (q : Nat) (H1 : Heap), Wd D ty A H0 s (ws ++ [(q, .inr (ci, fs))]) H1 locs → W p l e R s m args below meth c H1 locs (cells + 1) (slots + N) Q (F0 m (pc + 3) ls (.ref q :: rest))) : W p l e R s m args below meth c H locs cells slots Q (F0 m pc ls rest) := by
  obtain ⟨hK, hP, hD, hS, hA, hE⟩ := hw
  exact va_new hexec hb hts hin ty0 hty hown hcl hinst hini hK hP hD hS hA hc hfs hcells hslots hdg (fun q H1 h1 h2 h3 => kk q H1 ⟨hK, h1, h2, h3, hA, hE⟩)
theorem r_top {x : Int32} (y : Int32) (h : x = y) (k : W p l e R s m args below meth c H locs cells slots Q (F0 m pc ls (.int y :: rest))) : W p l e R s m args below meth c H locs cells slots Q (F0 m pc ls (.int x :: rest)) := by rw [h]; exact k
theorem r_topl {x : Int64} (y : Int64) (h : x = y) (k : W p l e R s m args below meth c H locs cells slots Q (F0 m pc ls (.long y :: rest))) : W p l e R s m args below meth c H locs cells slots Q (F0 m pc ls (.long x :: rest)) := by rw [h]; exact k
theorem r_iret (hexec : p.tables.exec = Jvm.exec) (hb : c.code = cc) (hr : meth.sig.returnType = some .int) (hlocks : meth.locks = false) {post : Int32 → va_W → Prop} {v : Int32} (hw : Wd D ty A s.heap s ws H locs) (hp : post v ws) (hdg : decode cc pc = .ok (.ireturn, 1)) : W p l e R s m args below meth c H locs cells slots (MQ below (va_Qi post (cB D ty A) A) args s cells slots A) (F0 m pc ls [.int v]) := by
  obtain ⟨hK, hP, hD, hS, hA, hE⟩ := hw
  exact W.iret hexec hb hr (fun t ht hW => ⟨⟨v, ws, rfl, hp, by rw [ht]; exact hP, va_K.moved hW.alike hK, hD⟩, hS.F ht⟩) hS.2.2 hdg hlocks
theorem r_zret (hexec : p.tables.exec = Jvm.exec) (hb : c.code = cc) (hr : meth.sig.returnType = some .boolean) (hlocks : meth.locks = false) {post : Int32 → va_W → Prop} {v : Int32} (hz : v = 0 ∨ v = 1) (hw : Wd D ty A s.heap s ws H locs) (hp : post v ws) (hdg : decode cc pc = .ok (.ireturn, 1)) : W p l e R s m args below meth c H locs cells slots (MQ below (va_Qi post (cB D ty A) A) args s cells slots A) (F0 m pc ls [.int v]) := by
  obtain ⟨hK, hP, hD, hS, hA, hE⟩ := hw
  exact W.zret hexec hb hr (by rcases hz with rfl | rfl <;> rfl) (fun t ht hW => ⟨⟨v, ws, rfl, hp, by rw [ht]; exact hP, va_K.moved hW.alike hK, hD⟩, hS.F ht⟩) hS.2.2 hdg hlocks
theorem r_lret (hexec : p.tables.exec = Jvm.exec) (hb : c.code = cc) (hr : meth.sig.returnType = some .long) (hlocks : meth.locks = false) {post : Int64 → va_W → Prop} {v : Int64} (hw : Wd D ty A s.heap s ws H locs) (hp : post v ws) (hdg : decode cc pc = .ok (.lreturn, 1)) : W p l e R s m args below meth c H locs cells slots (MQ below (va_Ql post (cB D ty A) A) args s cells slots A) (F0 m pc ls [.long v]) := by
  obtain ⟨hK, hP, hD, hS, hA, hE⟩ := hw
  exact W.lret hexec hb hr (fun t ht hW => ⟨⟨v, ws, rfl, hp, by rw [ht]; exact hP, va_K.moved hW.alike hK, hD⟩, hS.F ht⟩) hS.2.2 hdg hlocks
theorem r_vret (hexec : p.tables.exec = Jvm.exec) (hb : c.code = cc) (hr : meth.sig.returnType = none) (hlocks : meth.locks = false) {post : va_W → Prop} (hw : Wd D ty A s.heap s ws H locs) (hp : post ws) (hdg : decode cc pc = .ok (.return_, 1)) : W p l e R s m args below meth c H locs cells slots (MQ below (va_Qv post (cB D ty A) A) args s cells slots A) (F0 m pc ls []) := by
  obtain ⟨hK, hP, hD, hS, hA, hE⟩ := hw
  exact W.vret hexec hb hr (fun t ht hW => ⟨⟨ws, rfl, hp, by rw [ht]; exact hP, va_K.moved hW.alike hK, hD⟩, hS.F ht⟩) hS.2.2 hdg hlocks
theorem r_aret (hexec : p.tables.exec = Jvm.exec) (hb : c.code = cc) {C : String} (hr : meth.sig.returnType = some (.object C)) (hlocks : meth.locks = false) {post : Option Nat → va_W → Prop} {v : Option Nat} (hw : Wd D ty A s.heap s ws H locs) (hp : post v ws) (hdg : decode cc pc = .ok (.areturn, 1)) : W p l e R s m args below meth c H locs cells slots (MQ below (va_Qq post (cB D ty A) A) args s cells slots A) (F0 m pc ls [va_rf v]) := by
  obtain ⟨hK, hP, hD, hS, hA, hE⟩ := hw
  exact W.aret hexec hb hr (Or.inl ⟨C, rfl⟩) (va_rf_or v) (fun t ht hW => ⟨⟨v, ws, rfl, hp, by rw [ht]; exact hP, va_K.moved hW.alike hK, hD⟩, hS.F ht⟩) hS.2.2 hdg hlocks
theorem r_callVi {nL index maxL mc ms n : Nat} {own : String} {Ts wy : List Cond} {rm : Room} {y : MethodName} {bytes : ByteArray} {ret : Option FieldType} {post : Int32 → va_W → Prop} {C : String} {b ci : Nat} {fs : List Value} {T0 : u_T} {N0 : Nat} (q0 : Nat) (he : ws[q0]? = some (b, .inr (ci, fs))) (hc : vwCl[ci]? = some (C, T0, N0)) (S : CallFix p m c cc nL s args Ts own) (hw : Wd D ty A H0 s ws H locs) (As : List Value) (hM : MetG l y wy rm D ty (.ref b :: As) ws (va_Qi post) mc ms) (cw : CallW R s args own C index y bytes maxL ret wy rm mc ms n) (hn : As.length = n) (hsize : ls.size = nL) (hst : st0 = As.reverse ++ .ref b :: rest) (hroom : (rest.map fun v => v.category).sum ≤ 8) (hdg : decode cc pc = .ok (.invokevirtual index, 3)) (hf : cells + mc ≤ R.cells ∧ slots + ms ≤ R.slots)
    (kk : ∀ (r : Int32) (ws' : va_W) (H1 : Heap) (locs1 : List Loc), post r ws' → Wd D ty A H0 s ws' H1 locs1 → W p l e R s m args below meth c H1 locs1 (cells + mc) (slots + ms) Q (F0 m (pc + 3) ls (.int r :: rest))) : W p l e R s m args below meth c H locs cells slots Q (F0 m pc ls st0) :=
  va_calli (va_runV (As := As) (rest := rest) S (hM H.size) cw ⟨cP_blind, va_recv hw.1 hw.2.1 hc he, hw.pre⟩ rfl hn hsize hst (lv_room hroom) hdg hf) hw.2.2.2.1 (fun q _ h => hw.free q h) hw.free (fun r u t H1 locs1 ht hvm hp hB hz1 hk1 hS1 => kk r u H1 locs1 hp (hw.after ht hB hS1))
theorem r_callSi {nL index maxL mc ms n : Nat} {own : String} {Ts wy : List Cond} {rm : Room} {y : MethodName} {bytes : ByteArray} {ret : Option FieldType} {post : Int32 → va_W → Prop} (S : CallFix p m c cc nL s args Ts own) (hw : Wd D ty A H0 s ws H locs) (As : List Value) (hM : MetG l y wy rm D ty As ws (va_Qi post) mc ms) (cw : CallB R s args own index y bytes maxL ret wy rm mc ms n ∧ (Cond.static y).before args s = true) (hn : As.length = n) (hsize : ls.size = nL) (hst : st0 = As.reverse ++ rest) (hroom : (rest.map fun v => v.category).sum ≤ 8) (hdg : decode cc pc = .ok (.invokestatic index, 3)) (hf : cells + mc ≤ R.cells ∧ slots + ms ≤ R.slots)
    (kk : ∀ (r : Int32) (ws' : va_W) (H1 : Heap) (locs1 : List Loc), post r ws' → Wd D ty A H0 s ws' H1 locs1 → W p l e R s m args below meth c H1 locs1 (cells + mc) (slots + ms) Q (F0 m (pc + 3) ls (.int r :: rest))) : W p l e R s m args below meth c H locs cells slots Q (F0 m pc ls st0) :=
  va_calli (va_runS (As := As) (rest := rest) S (hM H.size) cw ⟨cP_blind, hw.pre⟩ rfl hn hsize hst (lv_room hroom) hdg hf) hw.2.2.2.1 (fun q _ h => hw.free q h) hw.free (fun r u t H1 locs1 ht hvm hp hB hz1 hk1 hS1 => kk r u H1 locs1 hp (hw.after ht hB hS1))
theorem r_callVNi {nL index maxL mc ms n : Nat} {own host : String} {Ts wy : List Cond} {rm : Room} {y : MethodName} {bytes : ByteArray} {ret : Option FieldType} {post : Int32 → va_W → Prop} {C : String} {b ci : Nat} {fs : List Value} {T0 : u_T} {N0 : Nat} (q0 : Nat) (he : ws[q0]? = some (b, .inr (ci, fs))) (hc : vwCl[ci]? = some (C, T0, N0)) (S : CallFix p m c cc nL s args Ts own) (hw : Wd D ty A H0 s ws H locs) (As : List Value) (hM : MetG l y wy rm D ty (.ref b :: As) ws (va_Qi post) mc ms) (cw : va_CN R s args own index y host bytes maxL ret wy rm mc ms n ∧ (Cond.instanceMethod y).before args s = true ∧ (Cond.selects C y y).before args s = true) (hn : As.length = n) (hsize : ls.size = nL) (hst : st0 = As.reverse ++ .ref b :: rest) (hroom : (rest.map fun v => v.category).sum ≤ 8) (hdg : decode cc pc = .ok (.invokevirtual index, 3)) (hf : cells + mc ≤ R.cells ∧ slots + ms ≤ R.slots)
    (kk : ∀ (r : Int32) (ws' : va_W) (H1 : Heap) (locs1 : List Loc), post r ws' → Wd D ty A H0 s ws' H1 locs1 → W p l e R s m args below meth c H1 locs1 (cells + mc) (slots + ms) Q (F0 m (pc + 3) ls (.int r :: rest))) : W p l e R s m args below meth c H locs cells slots Q (F0 m pc ls st0) :=
  va_calli (va_runVN (As := As) (rest := rest) S (hM H.size) cw ⟨cP_blind, va_recv hw.1 hw.2.1 hc he, hw.pre⟩ rfl hn hsize hst (lv_room hroom) hdg hf) hw.2.2.2.1 (fun q _ h => hw.free q h) hw.free (fun r u t H1 locs1 ht hvm hp hB hz1 hk1 hS1 => kk r u H1 locs1 hp (hw.after ht hB hS1))
theorem r_callSNi {nL index maxL mc ms n : Nat} {own host : String} {Ts wy : List Cond} {rm : Room} {y : MethodName} {bytes : ByteArray} {ret : Option FieldType} {post : Int32 → va_W → Prop} (S : CallFix p m c cc nL s args Ts own) (hw : Wd D ty A H0 s ws H locs) (As : List Value) (hM : MetG l y wy rm D ty As ws (va_Qi post) mc ms) (cw : va_CN R s args own index y host bytes maxL ret wy rm mc ms n ∧ (Cond.static y).before args s = true ∧ True) (hn : As.length = n) (hsize : ls.size = nL) (hst : st0 = As.reverse ++ rest) (hroom : (rest.map fun v => v.category).sum ≤ 8) (hdg : decode cc pc = .ok (.invokestatic index, 3)) (hf : cells + mc ≤ R.cells ∧ slots + ms ≤ R.slots)
    (kk : ∀ (r : Int32) (ws' : va_W) (H1 : Heap) (locs1 : List Loc), post r ws' → Wd D ty A H0 s ws' H1 locs1 → W p l e R s m args below meth c H1 locs1 (cells + mc) (slots + ms) Q (F0 m (pc + 3) ls (.int r :: rest))) : W p l e R s m args below meth c H locs cells slots Q (F0 m pc ls st0) :=
  va_calli (va_runSN (As := As) (rest := rest) S (hM H.size) cw ⟨cP_blind, hw.pre⟩ rfl hn hsize hst (lv_room hroom) hdg hf) hw.2.2.2.1 (fun q _ h => hw.free q h) hw.free (fun r u t H1 locs1 ht hvm hp hB hz1 hk1 hS1 => kk r u H1 locs1 hp (hw.after ht hB hS1))
theorem r_callVl {nL index maxL mc ms n : Nat} {own : String} {Ts wy : List Cond} {rm : Room} {y : MethodName} {bytes : ByteArray} {ret : Option FieldType} {post : Int64 → va_W → Prop} {C : String} {b ci : Nat} {fs : List Value} {T0 : u_T} {N0 : Nat} (q0 : Nat) (he : ws[q0]? = some (b, .inr (ci, fs))) (hc : vwCl[ci]? = some (C, T0, N0)) (S : CallFix p m c cc nL s args Ts own) (hw : Wd D ty A H0 s ws H locs) (As : List Value) (hM : MetG l y wy rm D ty (.ref b :: As) ws (va_Ql post) mc ms) (cw : CallW R s args own C index y bytes maxL ret wy rm mc ms n) (hn : As.length = n) (hsize : ls.size = nL) (hst : st0 = As.reverse ++ .ref b :: rest) (hroom : (rest.map fun v => v.category).sum ≤ 8) (hdg : decode cc pc = .ok (.invokevirtual index, 3)) (hf : cells + mc ≤ R.cells ∧ slots + ms ≤ R.slots)
    (kk : ∀ (r : Int64) (ws' : va_W) (H1 : Heap) (locs1 : List Loc), post r ws' → Wd D ty A H0 s ws' H1 locs1 → W p l e R s m args below meth c H1 locs1 (cells + mc) (slots + ms) Q (F0 m (pc + 3) ls (.long r :: rest))) : W p l e R s m args below meth c H locs cells slots Q (F0 m pc ls st0) :=
  va_calll (va_runV (As := As) (rest := rest) S (hM H.size) cw ⟨cP_blind, va_recv hw.1 hw.2.1 hc he, hw.pre⟩ rfl hn hsize hst (lv_room hroom) hdg hf) hw.2.2.2.1 (fun q _ h => hw.free q h) hw.free (fun r u t H1 locs1 ht hvm hp hB hz1 hk1 hS1 => kk r u H1 locs1 hp (hw.after ht hB hS1))
theorem r_callSl {nL index maxL mc ms n : Nat} {own : String} {Ts wy : List Cond} {rm : Room} {y : MethodName} {bytes : ByteArray} {ret : Option FieldType} {post : Int64 → va_W → Prop} (S : CallFix p m c cc nL s args Ts own) (hw : Wd D ty A H0 s ws H locs) (As : List Value) (hM : MetG l y wy rm D ty As ws (va_Ql post) mc ms) (cw : CallB R s args own index y bytes maxL ret wy rm mc ms n ∧ (Cond.static y).before args s = true) (hn : As.length = n) (hsize : ls.size = nL) (hst : st0 = As.reverse ++ rest) (hroom : (rest.map fun v => v.category).sum ≤ 8) (hdg : decode cc pc = .ok (.invokestatic index, 3)) (hf : cells + mc ≤ R.cells ∧ slots + ms ≤ R.slots)
    (kk : ∀ (r : Int64) (ws' : va_W) (H1 : Heap) (locs1 : List Loc), post r ws' → Wd D ty A H0 s ws' H1 locs1 → W p l e R s m args below meth c H1 locs1 (cells + mc) (slots + ms) Q (F0 m (pc + 3) ls (.long r :: rest))) : W p l e R s m args below meth c H locs cells slots Q (F0 m pc ls st0) :=
  va_calll (va_runS (As := As) (rest := rest) S (hM H.size) cw ⟨cP_blind, hw.pre⟩ rfl hn hsize hst (lv_room hroom) hdg hf) hw.2.2.2.1 (fun q _ h => hw.free q h) hw.free (fun r u t H1 locs1 ht hvm hp hB hz1 hk1 hS1 => kk r u H1 locs1 hp (hw.after ht hB hS1))
theorem r_callVNl {nL index maxL mc ms n : Nat} {own host : String} {Ts wy : List Cond} {rm : Room} {y : MethodName} {bytes : ByteArray} {ret : Option FieldType} {post : Int64 → va_W → Prop} {C : String} {b ci : Nat} {fs : List Value} {T0 : u_T} {N0 : Nat} (q0 : Nat) (he : ws[q0]? = some (b, .inr (ci, fs))) (hc : vwCl[ci]? = some (C, T0, N0)) (S : CallFix p m c cc nL s args Ts own) (hw : Wd D ty A H0 s ws H locs) (As : List Value) (hM : MetG l y wy rm D ty (.ref b :: As) ws (va_Ql post) mc ms) (cw : va_CN R s args own index y host bytes maxL ret wy rm mc ms n ∧ (Cond.instanceMethod y).before args s = true ∧ (Cond.selects C y y).before args s = true) (hn : As.length = n) (hsize : ls.size = nL) (hst : st0 = As.reverse ++ .ref b :: rest) (hroom : (rest.map fun v => v.category).sum ≤ 8) (hdg : decode cc pc = .ok (.invokevirtual index, 3)) (hf : cells + mc ≤ R.cells ∧ slots + ms ≤ R.slots)
    (kk : ∀ (r : Int64) (ws' : va_W) (H1 : Heap) (locs1 : List Loc), post r ws' → Wd D ty A H0 s ws' H1 locs1 → W p l e R s m args below meth c H1 locs1 (cells + mc) (slots + ms) Q (F0 m (pc + 3) ls (.long r :: rest))) : W p l e R s m args below meth c H locs cells slots Q (F0 m pc ls st0) :=
  va_calll (va_runVN (As := As) (rest := rest) S (hM H.size) cw ⟨cP_blind, va_recv hw.1 hw.2.1 hc he, hw.pre⟩ rfl hn hsize hst (lv_room hroom) hdg hf) hw.2.2.2.1 (fun q _ h => hw.free q h) hw.free (fun r u t H1 locs1 ht hvm hp hB hz1 hk1 hS1 => kk r u H1 locs1 hp (hw.after ht hB hS1))
theorem r_callSNl {nL index maxL mc ms n : Nat} {own host : String} {Ts wy : List Cond} {rm : Room} {y : MethodName} {bytes : ByteArray} {ret : Option FieldType} {post : Int64 → va_W → Prop} (S : CallFix p m c cc nL s args Ts own) (hw : Wd D ty A H0 s ws H locs) (As : List Value) (hM : MetG l y wy rm D ty As ws (va_Ql post) mc ms) (cw : va_CN R s args own index y host bytes maxL ret wy rm mc ms n ∧ (Cond.static y).before args s = true ∧ True) (hn : As.length = n) (hsize : ls.size = nL) (hst : st0 = As.reverse ++ rest) (hroom : (rest.map fun v => v.category).sum ≤ 8) (hdg : decode cc pc = .ok (.invokestatic index, 3)) (hf : cells + mc ≤ R.cells ∧ slots + ms ≤ R.slots)
    (kk : ∀ (r : Int64) (ws' : va_W) (H1 : Heap) (locs1 : List Loc), post r ws' → Wd D ty A H0 s ws' H1 locs1 → W p l e R s m args below meth c H1 locs1 (cells + mc) (slots + ms) Q (F0 m (pc + 3) ls (.long r :: rest))) : W p l e R s m args below meth c H locs cells slots Q (F0 m pc ls st0) :=
  va_calll (va_runSN (As := As) (rest := rest) S (hM H.size) cw ⟨cP_blind, hw.pre⟩ rfl hn hsize hst (lv_room hroom) hdg hf) hw.2.2.2.1 (fun q _ h => hw.free q h) hw.free (fun r u t H1 locs1 ht hvm hp hB hz1 hk1 hS1 => kk r u H1 locs1 hp (hw.after ht hB hS1))
theorem r_callVv {nL index maxL mc ms n : Nat} {own : String} {Ts wy : List Cond} {rm : Room} {y : MethodName} {bytes : ByteArray} {ret : Option FieldType} {post : va_W → Prop} {C : String} {b ci : Nat} {fs : List Value} {T0 : u_T} {N0 : Nat} (q0 : Nat) (he : ws[q0]? = some (b, .inr (ci, fs))) (hc : vwCl[ci]? = some (C, T0, N0)) (S : CallFix p m c cc nL s args Ts own) (hw : Wd D ty A H0 s ws H locs) (As : List Value) (hM : MetG l y wy rm D ty (.ref b :: As) ws (va_Qv post) mc ms) (cw : CallW R s args own C index y bytes maxL ret wy rm mc ms n) (hn : As.length = n) (hsize : ls.size = nL) (hst : st0 = As.reverse ++ .ref b :: rest) (hroom : (rest.map fun v => v.category).sum ≤ 8) (hdg : decode cc pc = .ok (.invokevirtual index, 3)) (hf : cells + mc ≤ R.cells ∧ slots + ms ≤ R.slots)
    (kk : ∀ (ws' : va_W) (H1 : Heap) (locs1 : List Loc), post ws' → Wd D ty A H0 s ws' H1 locs1 → W p l e R s m args below meth c H1 locs1 (cells + mc) (slots + ms) Q (F0 m (pc + 3) ls (rest))) : W p l e R s m args below meth c H locs cells slots Q (F0 m pc ls st0) :=
  va_callv (va_runV (As := As) (rest := rest) S (hM H.size) cw ⟨cP_blind, va_recv hw.1 hw.2.1 hc he, hw.pre⟩ rfl hn hsize hst (lv_room hroom) hdg hf) hw.2.2.2.1 (fun q _ h => hw.free q h) hw.free (fun u t H1 locs1 ht hvm hp hB hz1 hk1 hS1 => kk u H1 locs1 hp (hw.after ht hB hS1))
theorem r_callSv {nL index maxL mc ms n : Nat} {own : String} {Ts wy : List Cond} {rm : Room} {y : MethodName} {bytes : ByteArray} {ret : Option FieldType} {post : va_W → Prop} (S : CallFix p m c cc nL s args Ts own) (hw : Wd D ty A H0 s ws H locs) (As : List Value) (hM : MetG l y wy rm D ty As ws (va_Qv post) mc ms) (cw : CallB R s args own index y bytes maxL ret wy rm mc ms n ∧ (Cond.static y).before args s = true) (hn : As.length = n) (hsize : ls.size = nL) (hst : st0 = As.reverse ++ rest) (hroom : (rest.map fun v => v.category).sum ≤ 8) (hdg : decode cc pc = .ok (.invokestatic index, 3)) (hf : cells + mc ≤ R.cells ∧ slots + ms ≤ R.slots)
    (kk : ∀ (ws' : va_W) (H1 : Heap) (locs1 : List Loc), post ws' → Wd D ty A H0 s ws' H1 locs1 → W p l e R s m args below meth c H1 locs1 (cells + mc) (slots + ms) Q (F0 m (pc + 3) ls (rest))) : W p l e R s m args below meth c H locs cells slots Q (F0 m pc ls st0) :=
  va_callv (va_runS (As := As) (rest := rest) S (hM H.size) cw ⟨cP_blind, hw.pre⟩ rfl hn hsize hst (lv_room hroom) hdg hf) hw.2.2.2.1 (fun q _ h => hw.free q h) hw.free (fun u t H1 locs1 ht hvm hp hB hz1 hk1 hS1 => kk u H1 locs1 hp (hw.after ht hB hS1))
theorem r_callVNv {nL index maxL mc ms n : Nat} {own host : String} {Ts wy : List Cond} {rm : Room} {y : MethodName} {bytes : ByteArray} {ret : Option FieldType} {post : va_W → Prop} {C : String} {b ci : Nat} {fs : List Value} {T0 : u_T} {N0 : Nat} (q0 : Nat) (he : ws[q0]? = some (b, .inr (ci, fs))) (hc : vwCl[ci]? = some (C, T0, N0)) (S : CallFix p m c cc nL s args Ts own) (hw : Wd D ty A H0 s ws H locs) (As : List Value) (hM : MetG l y wy rm D ty (.ref b :: As) ws (va_Qv post) mc ms) (cw : va_CN R s args own index y host bytes maxL ret wy rm mc ms n ∧ (Cond.instanceMethod y).before args s = true ∧ (Cond.selects C y y).before args s = true) (hn : As.length = n) (hsize : ls.size = nL) (hst : st0 = As.reverse ++ .ref b :: rest) (hroom : (rest.map fun v => v.category).sum ≤ 8) (hdg : decode cc pc = .ok (.invokevirtual index, 3)) (hf : cells + mc ≤ R.cells ∧ slots + ms ≤ R.slots)
    (kk : ∀ (ws' : va_W) (H1 : Heap) (locs1 : List Loc), post ws' → Wd D ty A H0 s ws' H1 locs1 → W p l e R s m args below meth c H1 locs1 (cells + mc) (slots + ms) Q (F0 m (pc + 3) ls (rest))) : W p l e R s m args below meth c H locs cells slots Q (F0 m pc ls st0) :=
  va_callv (va_runVN (As := As) (rest := rest) S (hM H.size) cw ⟨cP_blind, va_recv hw.1 hw.2.1 hc he, hw.pre⟩ rfl hn hsize hst (lv_room hroom) hdg hf) hw.2.2.2.1 (fun q _ h => hw.free q h) hw.free (fun u t H1 locs1 ht hvm hp hB hz1 hk1 hS1 => kk u H1 locs1 hp (hw.after ht hB hS1))
theorem r_callSNv {nL index maxL mc ms n : Nat} {own host : String} {Ts wy : List Cond} {rm : Room} {y : MethodName} {bytes : ByteArray} {ret : Option FieldType} {post : va_W → Prop} (S : CallFix p m c cc nL s args Ts own) (hw : Wd D ty A H0 s ws H locs) (As : List Value) (hM : MetG l y wy rm D ty As ws (va_Qv post) mc ms) (cw : va_CN R s args own index y host bytes maxL ret wy rm mc ms n ∧ (Cond.static y).before args s = true ∧ True) (hn : As.length = n) (hsize : ls.size = nL) (hst : st0 = As.reverse ++ rest) (hroom : (rest.map fun v => v.category).sum ≤ 8) (hdg : decode cc pc = .ok (.invokestatic index, 3)) (hf : cells + mc ≤ R.cells ∧ slots + ms ≤ R.slots)
    (kk : ∀ (ws' : va_W) (H1 : Heap) (locs1 : List Loc), post ws' → Wd D ty A H0 s ws' H1 locs1 → W p l e R s m args below meth c H1 locs1 (cells + mc) (slots + ms) Q (F0 m (pc + 3) ls (rest))) : W p l e R s m args below meth c H locs cells slots Q (F0 m pc ls st0) :=
  va_callv (va_runSN (As := As) (rest := rest) S (hM H.size) cw ⟨cP_blind, hw.pre⟩ rfl hn hsize hst (lv_room hroom) hdg hf) hw.2.2.2.1 (fun q _ h => hw.free q h) hw.free (fun u t H1 locs1 ht hvm hp hB hz1 hk1 hS1 => kk u H1 locs1 hp (hw.after ht hB hS1))
theorem r_callI {nL index maxL mc ms n : Nat} {own : String} {Ts wy : List Cond} {rm : Room} {y : MethodName} {bytes : ByteArray} {post : va_W → Prop} {b : Nat} (S : CallFix p m c cc nL s args Ts own) (hw : Wd D ty A H0 s ws H locs) (As : List Value) (hM : MetG l y wy rm D ty (.ref b :: As) ws (va_Qv post) mc ms) (cw : CallB R s args own index y bytes maxL none wy rm mc ms n ∧ y.name = "<init>" ∧ (Cond.instanceMethod y).before args s = true) (hn : As.length = n) (hsize : ls.size = nL) (hst : st0 = As.reverse ++ .ref b :: rest) (hroom : (rest.map fun v => v.category).sum ≤ 8) (hdg : decode cc pc = .ok (.invokespecial index, 3)) (hf : cells + mc ≤ R.cells ∧ slots + ms ≤ R.slots)
    (kk : ∀ (ws' : va_W) (H1 : Heap) (locs1 : List Loc), post ws' → Wd D ty A H0 s ws' H1 locs1 → W p l e R s m args below meth c H1 locs1 (cells + mc) (slots + ms) Q (F0 m (pc + 3) ls rest)) : W p l e R s m args below meth c H locs cells slots Q (F0 m pc ls st0) :=
  va_callv (va_runI (As := As) (rest := rest) S (hM H.size) cw ⟨cP_blind, hw.pre⟩ rfl hn hsize hst (lv_room hroom) hdg hf) hw.2.2.2.1 (fun q _ h => hw.free q h) hw.free (fun u t H1 locs1 ht hvm hp hB hz1 hk1 hS1 => kk u H1 locs1 hp (hw.after ht hB hS1))
theorem r_callIN {nL index maxL mc ms n : Nat} {own host : String} {Ts wy : List Cond} {rm : Room} {y : MethodName} {bytes : ByteArray} {post : va_W → Prop} {b : Nat} (S : CallFix p m c cc nL s args Ts own) (hw : Wd D ty A H0 s ws H locs) (As : List Value) (hM : MetG l y wy rm D ty (.ref b :: As) ws (va_Qv post) mc ms) (cw : va_CN R s args own index y host bytes maxL none wy rm mc ms n ∧ y.name = "<init>" ∧ (Cond.instanceMethod y).before args s = true) (hn : As.length = n) (hsize : ls.size = nL) (hst : st0 = As.reverse ++ .ref b :: rest) (hroom : (rest.map fun v => v.category).sum ≤ 8) (hdg : decode cc pc = .ok (.invokespecial index, 3)) (hf : cells + mc ≤ R.cells ∧ slots + ms ≤ R.slots)
    (kk : ∀ (ws' : va_W) (H1 : Heap) (locs1 : List Loc), post ws' → Wd D ty A H0 s ws' H1 locs1 → W p l e R s m args below meth c H1 locs1 (cells + mc) (slots + ms) Q (F0 m (pc + 3) ls rest)) : W p l e R s m args below meth c H locs cells slots Q (F0 m pc ls st0) :=
  va_callv (va_runIN (As := As) (rest := rest) S (hM H.size) cw ⟨cP_blind, hw.pre⟩ rfl hn hsize hst (lv_room hroom) hdg hf) hw.2.2.2.1 (fun q _ h => hw.free q h) hw.free (fun u t H1 locs1 ht hvm hp hB hz1 hk1 hS1 => kk u H1 locs1 hp (hw.after ht hB hS1))
theorem r_callVq {nL index maxL mc ms n : Nat} {own : String} {Ts wy : List Cond} {rm : Room} {y : MethodName} {bytes : ByteArray} {ret : Option FieldType} {post : Option Nat → va_W → Prop} {C : String} {b ci : Nat} {fs : List Value} {T0 : u_T} {N0 : Nat} (q0 : Nat) (he : ws[q0]? = some (b, .inr (ci, fs))) (hc : vwCl[ci]? = some (C, T0, N0)) (S : CallFix p m c cc nL s args Ts own) (hw : Wd D ty A H0 s ws H locs) (As : List Value) (hM : MetG l y wy rm D ty (.ref b :: As) ws (va_Qq post) mc ms) (cw : CallW R s args own C index y bytes maxL ret wy rm mc ms n) (hn : As.length = n) (hsize : ls.size = nL) (hst : st0 = As.reverse ++ .ref b :: rest) (hroom : (rest.map fun v => v.category).sum ≤ 8) (hdg : decode cc pc = .ok (.invokevirtual index, 3)) (hf : cells + mc ≤ R.cells ∧ slots + ms ≤ R.slots)
    (kk : ∀ (r : Option Nat) (ws' : va_W) (H1 : Heap) (locs1 : List Loc), post r ws' → Wd D ty A H0 s ws' H1 locs1 → W p l e R s m args below meth c H1 locs1 (cells + mc) (slots + ms) Q (F0 m (pc + 3) ls (va_rf r :: rest))) : W p l e R s m args below meth c H locs cells slots Q (F0 m pc ls st0) :=
  va_callq (va_runV (As := As) (rest := rest) S (hM H.size) cw ⟨cP_blind, va_recv hw.1 hw.2.1 hc he, hw.pre⟩ rfl hn hsize hst (lv_room hroom) hdg hf) hw.2.2.2.1 (fun q _ h => hw.free q h) hw.free (fun r u t H1 locs1 ht hvm hp hB hz1 hk1 hS1 => kk r u H1 locs1 hp (hw.after ht hB hS1))
theorem r_callSq {nL index maxL mc ms n : Nat} {own : String} {Ts wy : List Cond} {rm : Room} {y : MethodName} {bytes : ByteArray} {ret : Option FieldType} {post : Option Nat → va_W → Prop} (S : CallFix p m c cc nL s args Ts own) (hw : Wd D ty A H0 s ws H locs) (As : List Value) (hM : MetG l y wy rm D ty As ws (va_Qq post) mc ms) (cw : CallB R s args own index y bytes maxL ret wy rm mc ms n ∧ (Cond.static y).before args s = true) (hn : As.length = n) (hsize : ls.size = nL) (hst : st0 = As.reverse ++ rest) (hroom : (rest.map fun v => v.category).sum ≤ 8) (hdg : decode cc pc = .ok (.invokestatic index, 3)) (hf : cells + mc ≤ R.cells ∧ slots + ms ≤ R.slots)
    (kk : ∀ (r : Option Nat) (ws' : va_W) (H1 : Heap) (locs1 : List Loc), post r ws' → Wd D ty A H0 s ws' H1 locs1 → W p l e R s m args below meth c H1 locs1 (cells + mc) (slots + ms) Q (F0 m (pc + 3) ls (va_rf r :: rest))) : W p l e R s m args below meth c H locs cells slots Q (F0 m pc ls st0) :=
  va_callq (va_runS (As := As) (rest := rest) S (hM H.size) cw ⟨cP_blind, hw.pre⟩ rfl hn hsize hst (lv_room hroom) hdg hf) hw.2.2.2.1 (fun q _ h => hw.free q h) hw.free (fun r u t H1 locs1 ht hvm hp hB hz1 hk1 hS1 => kk r u H1 locs1 hp (hw.after ht hB hS1))
theorem r_callVNq {nL index maxL mc ms n : Nat} {own host : String} {Ts wy : List Cond} {rm : Room} {y : MethodName} {bytes : ByteArray} {ret : Option FieldType} {post : Option Nat → va_W → Prop} {C : String} {b ci : Nat} {fs : List Value} {T0 : u_T} {N0 : Nat} (q0 : Nat) (he : ws[q0]? = some (b, .inr (ci, fs))) (hc : vwCl[ci]? = some (C, T0, N0)) (S : CallFix p m c cc nL s args Ts own) (hw : Wd D ty A H0 s ws H locs) (As : List Value) (hM : MetG l y wy rm D ty (.ref b :: As) ws (va_Qq post) mc ms) (cw : va_CN R s args own index y host bytes maxL ret wy rm mc ms n ∧ (Cond.instanceMethod y).before args s = true ∧ (Cond.selects C y y).before args s = true) (hn : As.length = n) (hsize : ls.size = nL) (hst : st0 = As.reverse ++ .ref b :: rest) (hroom : (rest.map fun v => v.category).sum ≤ 8) (hdg : decode cc pc = .ok (.invokevirtual index, 3)) (hf : cells + mc ≤ R.cells ∧ slots + ms ≤ R.slots)
    (kk : ∀ (r : Option Nat) (ws' : va_W) (H1 : Heap) (locs1 : List Loc), post r ws' → Wd D ty A H0 s ws' H1 locs1 → W p l e R s m args below meth c H1 locs1 (cells + mc) (slots + ms) Q (F0 m (pc + 3) ls (va_rf r :: rest))) : W p l e R s m args below meth c H locs cells slots Q (F0 m pc ls st0) :=
  va_callq (va_runVN (As := As) (rest := rest) S (hM H.size) cw ⟨cP_blind, va_recv hw.1 hw.2.1 hc he, hw.pre⟩ rfl hn hsize hst (lv_room hroom) hdg hf) hw.2.2.2.1 (fun q _ h => hw.free q h) hw.free (fun r u t H1 locs1 ht hvm hp hB hz1 hk1 hS1 => kk r u H1 locs1 hp (hw.after ht hB hS1))
theorem r_callSNq {nL index maxL mc ms n : Nat} {own host : String} {Ts wy : List Cond} {rm : Room} {y : MethodName} {bytes : ByteArray} {ret : Option FieldType} {post : Option Nat → va_W → Prop} (S : CallFix p m c cc nL s args Ts own) (hw : Wd D ty A H0 s ws H locs) (As : List Value) (hM : MetG l y wy rm D ty As ws (va_Qq post) mc ms) (cw : va_CN R s args own index y host bytes maxL ret wy rm mc ms n ∧ (Cond.static y).before args s = true ∧ True) (hn : As.length = n) (hsize : ls.size = nL) (hst : st0 = As.reverse ++ rest) (hroom : (rest.map fun v => v.category).sum ≤ 8) (hdg : decode cc pc = .ok (.invokestatic index, 3)) (hf : cells + mc ≤ R.cells ∧ slots + ms ≤ R.slots)
    (kk : ∀ (r : Option Nat) (ws' : va_W) (H1 : Heap) (locs1 : List Loc), post r ws' → Wd D ty A H0 s ws' H1 locs1 → W p l e R s m args below meth c H1 locs1 (cells + mc) (slots + ms) Q (F0 m (pc + 3) ls (va_rf r :: rest))) : W p l e R s m args below meth c H locs cells slots Q (F0 m pc ls st0) :=
  va_callq (va_runSN (As := As) (rest := rest) S (hM H.size) cw ⟨cP_blind, hw.pre⟩ rfl hn hsize hst (lv_room hroom) hdg hf) hw.2.2.2.1 (fun q _ h => hw.free q h) hw.free (fun r u t H1 locs1 ht hvm hp hB hz1 hk1 hS1 => kk r u H1 locs1 hp (hw.after ht hB hS1))
end BASE
end
section
/-- the fields of the reference -/
def MF (a : Nat → Nat) (s0 s1 s10 s11 s12 s22 : Int32) : List Value := [.int s0, .int s1, .ref (a 2), .ref (a 3), .ref (a 4), .ref (a 5), .ref (a 6), .ref (a 7), .ref (a 8), .ref (a 9), .int s10, .int s11, .int s12, .ref (a 13), .ref (a 14), .ref (a 15), .ref (a 16), .ref (a 17), .ref (a 18), .ref (a 19), .ref (a 20), .ref (a 21), .int s22]
/-- the cells of the reference: a 0 is the object, a j its array of slot j -/
def MW (a : Nat → Nat) (cI : ClassId) (s0 : Int32) (s1 : Int32) (a2 : Nat → Int32) (a3 : Nat → Int32) (a4 : Nat → Int32) (a5 : Nat → Int32) (a6 : Nat → Int32) (a7 : Nat → Int32) (a8 : Nat → Int32) (a9 : Nat → Int32) (s10 : Int32) (s11 : Int32) (s12 : Int32) (a13 : Nat → Int32) (a14 : Nat → Int32) (a15 : Nat → Int32) (a16 : Nat → Int32) (a17 : Nat → Int32) (a18 : Nat → Int32) (a19 : Nat → Int32) (a20 : Nat → Int32) (a21 : Nat → Int32) (s22 : Int32) : va_W := [(a 0, .inr (5, MF a s0 s1 s10 s11 s12 s22)), (a 2, .inl (cI, 10, .inl a2)), (a 3, .inl (cI, 10, .inl a3)), (a 4, .inl (cI, 10, .inl a4)), (a 5, .inl (cI, 10, .inl a5)), (a 6, .inl (cI, 6, .inl a6)), (a 7, .inl (cI, 6, .inl a7)), (a 8, .inl (cI, 5, .inl a8)), (a 9, .inl (cI, 5, .inl a9)), (a 13, .inl (cI, 60, .inl a13)), (a 14, .inl (cI, 60, .inl a14)), (a 15, .inl (cI, 240, .inl a15)), (a 16, .inl (cI, 60, .inl a16)), (a 17, .inl (cI, 60, .inl a17)), (a 18, .inl (cI, 60, .inl a18)), (a 19, .inl (cI, 960, .inl a19)), (a 20, .inl (cI, 960, .inl a20)), (a 21, .inl (cI, 960, .inl a21))]
theorem MW_s0 {a : Nat → Nat} {cI : ClassId} {s0 : Int32} {s1 : Int32} {a2 : Nat → Int32} {a3 : Nat → Int32} {a4 : Nat → Int32} {a5 : Nat → Int32} {a6 : Nat → Int32} {a7 : Nat → Int32} {a8 : Nat → Int32} {a9 : Nat → Int32} {s10 : Int32} {s11 : Int32} {s12 : Int32} {a13 : Nat → Int32} {a14 : Nat → Int32} {a15 : Nat → Int32} {a16 : Nat → Int32} {a17 : Nat → Int32} {a18 : Nat → Int32} {a19 : Nat → Int32} {a20 : Nat → Int32} {a21 : Nat → Int32} {s22 : Int32} (v : Int32) : (MW a cI s0 s1 a2 a3 a4 a5 a6 a7 a8 a9 s10 s11 s12 a13 a14 a15 a16 a17 a18 a19 a20 a21 s22).set 0 (a 0, .inr (5, (MF a s0 s1 s10 s11 s12 s22).set 0 (.int v))) = MW a cI v s1 a2 a3 a4 a5 a6 a7 a8 a9 s10 s11 s12 a13 a14 a15 a16 a17 a18 a19 a20 a21 s22 := rfl
theorem MW_s1 {a : Nat → Nat} {cI : ClassId} {s0 : Int32} {s1 : Int32} {a2 : Nat → Int32} {a3 : Nat → Int32} {a4 : Nat → Int32} {a5 : Nat → Int32} {a6 : Nat → Int32} {a7 : Nat → Int32} {a8 : Nat → Int32} {a9 : Nat → Int32} {s10 : Int32} {s11 : Int32} {s12 : Int32} {a13 : Nat → Int32} {a14 : Nat → Int32} {a15 : Nat → Int32} {a16 : Nat → Int32} {a17 : Nat → Int32} {a18 : Nat → Int32} {a19 : Nat → Int32} {a20 : Nat → Int32} {a21 : Nat → Int32} {s22 : Int32} (v : Int32) : (MW a cI s0 s1 a2 a3 a4 a5 a6 a7 a8 a9 s10 s11 s12 a13 a14 a15 a16 a17 a18 a19 a20 a21 s22).set 0 (a 0, .inr (5, (MF a s0 s1 s10 s11 s12 s22).set 1 (.int v))) = MW a cI s0 v a2 a3 a4 a5 a6 a7 a8 a9 s10 s11 s12 a13 a14 a15 a16 a17 a18 a19 a20 a21 s22 := rfl
theorem MW_s10 {a : Nat → Nat} {cI : ClassId} {s0 : Int32} {s1 : Int32} {a2 : Nat → Int32} {a3 : Nat → Int32} {a4 : Nat → Int32} {a5 : Nat → Int32} {a6 : Nat → Int32} {a7 : Nat → Int32} {a8 : Nat → Int32} {a9 : Nat → Int32} {s10 : Int32} {s11 : Int32} {s12 : Int32} {a13 : Nat → Int32} {a14 : Nat → Int32} {a15 : Nat → Int32} {a16 : Nat → Int32} {a17 : Nat → Int32} {a18 : Nat → Int32} {a19 : Nat → Int32} {a20 : Nat → Int32} {a21 : Nat → Int32} {s22 : Int32} (v : Int32) : (MW a cI s0 s1 a2 a3 a4 a5 a6 a7 a8 a9 s10 s11 s12 a13 a14 a15 a16 a17 a18 a19 a20 a21 s22).set 0 (a 0, .inr (5, (MF a s0 s1 s10 s11 s12 s22).set 10 (.int v))) = MW a cI s0 s1 a2 a3 a4 a5 a6 a7 a8 a9 v s11 s12 a13 a14 a15 a16 a17 a18 a19 a20 a21 s22 := rfl
theorem MW_s11 {a : Nat → Nat} {cI : ClassId} {s0 : Int32} {s1 : Int32} {a2 : Nat → Int32} {a3 : Nat → Int32} {a4 : Nat → Int32} {a5 : Nat → Int32} {a6 : Nat → Int32} {a7 : Nat → Int32} {a8 : Nat → Int32} {a9 : Nat → Int32} {s10 : Int32} {s11 : Int32} {s12 : Int32} {a13 : Nat → Int32} {a14 : Nat → Int32} {a15 : Nat → Int32} {a16 : Nat → Int32} {a17 : Nat → Int32} {a18 : Nat → Int32} {a19 : Nat → Int32} {a20 : Nat → Int32} {a21 : Nat → Int32} {s22 : Int32} (v : Int32) : (MW a cI s0 s1 a2 a3 a4 a5 a6 a7 a8 a9 s10 s11 s12 a13 a14 a15 a16 a17 a18 a19 a20 a21 s22).set 0 (a 0, .inr (5, (MF a s0 s1 s10 s11 s12 s22).set 11 (.int v))) = MW a cI s0 s1 a2 a3 a4 a5 a6 a7 a8 a9 s10 v s12 a13 a14 a15 a16 a17 a18 a19 a20 a21 s22 := rfl
theorem MW_s12 {a : Nat → Nat} {cI : ClassId} {s0 : Int32} {s1 : Int32} {a2 : Nat → Int32} {a3 : Nat → Int32} {a4 : Nat → Int32} {a5 : Nat → Int32} {a6 : Nat → Int32} {a7 : Nat → Int32} {a8 : Nat → Int32} {a9 : Nat → Int32} {s10 : Int32} {s11 : Int32} {s12 : Int32} {a13 : Nat → Int32} {a14 : Nat → Int32} {a15 : Nat → Int32} {a16 : Nat → Int32} {a17 : Nat → Int32} {a18 : Nat → Int32} {a19 : Nat → Int32} {a20 : Nat → Int32} {a21 : Nat → Int32} {s22 : Int32} (v : Int32) : (MW a cI s0 s1 a2 a3 a4 a5 a6 a7 a8 a9 s10 s11 s12 a13 a14 a15 a16 a17 a18 a19 a20 a21 s22).set 0 (a 0, .inr (5, (MF a s0 s1 s10 s11 s12 s22).set 12 (.int v))) = MW a cI s0 s1 a2 a3 a4 a5 a6 a7 a8 a9 s10 s11 v a13 a14 a15 a16 a17 a18 a19 a20 a21 s22 := rfl
theorem MW_s22 {a : Nat → Nat} {cI : ClassId} {s0 : Int32} {s1 : Int32} {a2 : Nat → Int32} {a3 : Nat → Int32} {a4 : Nat → Int32} {a5 : Nat → Int32} {a6 : Nat → Int32} {a7 : Nat → Int32} {a8 : Nat → Int32} {a9 : Nat → Int32} {s10 : Int32} {s11 : Int32} {s12 : Int32} {a13 : Nat → Int32} {a14 : Nat → Int32} {a15 : Nat → Int32} {a16 : Nat → Int32} {a17 : Nat → Int32} {a18 : Nat → Int32} {a19 : Nat → Int32} {a20 : Nat → Int32} {a21 : Nat → Int32} {s22 : Int32} (v : Int32) : (MW a cI s0 s1 a2 a3 a4 a5 a6 a7 a8 a9 s10 s11 s12 a13 a14 a15 a16 a17 a18 a19 a20 a21 s22).set 0 (a 0, .inr (5, (MF a s0 s1 s10 s11 s12 s22).set 22 (.int v))) = MW a cI s0 s1 a2 a3 a4 a5 a6 a7 a8 a9 s10 s11 s12 a13 a14 a15 a16 a17 a18 a19 a20 a21 v := rfl
theorem MW_u2 {a : Nat → Nat} {cI : ClassId} {s0 : Int32} {s1 : Int32} {a2 : Nat → Int32} {a3 : Nat → Int32} {a4 : Nat → Int32} {a5 : Nat → Int32} {a6 : Nat → Int32} {a7 : Nat → Int32} {a8 : Nat → Int32} {a9 : Nat → Int32} {s10 : Int32} {s11 : Int32} {s12 : Int32} {a13 : Nat → Int32} {a14 : Nat → Int32} {a15 : Nat → Int32} {a16 : Nat → Int32} {a17 : Nat → Int32} {a18 : Nat → Int32} {a19 : Nat → Int32} {a20 : Nat → Int32} {a21 : Nat → Int32} {s22 : Int32} (f : Nat → Int32) : (MW a cI s0 s1 a2 a3 a4 a5 a6 a7 a8 a9 s10 s11 s12 a13 a14 a15 a16 a17 a18 a19 a20 a21 s22).set 1 (a 2, .inl (cI, 10, .inl f)) = MW a cI s0 s1 f a3 a4 a5 a6 a7 a8 a9 s10 s11 s12 a13 a14 a15 a16 a17 a18 a19 a20 a21 s22 := rfl
theorem MW_u3 {a : Nat → Nat} {cI : ClassId} {s0 : Int32} {s1 : Int32} {a2 : Nat → Int32} {a3 : Nat → Int32} {a4 : Nat → Int32} {a5 : Nat → Int32} {a6 : Nat → Int32} {a7 : Nat → Int32} {a8 : Nat → Int32} {a9 : Nat → Int32} {s10 : Int32} {s11 : Int32} {s12 : Int32} {a13 : Nat → Int32} {a14 : Nat → Int32} {a15 : Nat → Int32} {a16 : Nat → Int32} {a17 : Nat → Int32} {a18 : Nat → Int32} {a19 : Nat → Int32} {a20 : Nat → Int32} {a21 : Nat → Int32} {s22 : Int32} (f : Nat → Int32) : (MW a cI s0 s1 a2 a3 a4 a5 a6 a7 a8 a9 s10 s11 s12 a13 a14 a15 a16 a17 a18 a19 a20 a21 s22).set 2 (a 3, .inl (cI, 10, .inl f)) = MW a cI s0 s1 a2 f a4 a5 a6 a7 a8 a9 s10 s11 s12 a13 a14 a15 a16 a17 a18 a19 a20 a21 s22 := rfl
theorem MW_u4 {a : Nat → Nat} {cI : ClassId} {s0 : Int32} {s1 : Int32} {a2 : Nat → Int32} {a3 : Nat → Int32} {a4 : Nat → Int32} {a5 : Nat → Int32} {a6 : Nat → Int32} {a7 : Nat → Int32} {a8 : Nat → Int32} {a9 : Nat → Int32} {s10 : Int32} {s11 : Int32} {s12 : Int32} {a13 : Nat → Int32} {a14 : Nat → Int32} {a15 : Nat → Int32} {a16 : Nat → Int32} {a17 : Nat → Int32} {a18 : Nat → Int32} {a19 : Nat → Int32} {a20 : Nat → Int32} {a21 : Nat → Int32} {s22 : Int32} (f : Nat → Int32) : (MW a cI s0 s1 a2 a3 a4 a5 a6 a7 a8 a9 s10 s11 s12 a13 a14 a15 a16 a17 a18 a19 a20 a21 s22).set 3 (a 4, .inl (cI, 10, .inl f)) = MW a cI s0 s1 a2 a3 f a5 a6 a7 a8 a9 s10 s11 s12 a13 a14 a15 a16 a17 a18 a19 a20 a21 s22 := rfl
theorem MW_u5 {a : Nat → Nat} {cI : ClassId} {s0 : Int32} {s1 : Int32} {a2 : Nat → Int32} {a3 : Nat → Int32} {a4 : Nat → Int32} {a5 : Nat → Int32} {a6 : Nat → Int32} {a7 : Nat → Int32} {a8 : Nat → Int32} {a9 : Nat → Int32} {s10 : Int32} {s11 : Int32} {s12 : Int32} {a13 : Nat → Int32} {a14 : Nat → Int32} {a15 : Nat → Int32} {a16 : Nat → Int32} {a17 : Nat → Int32} {a18 : Nat → Int32} {a19 : Nat → Int32} {a20 : Nat → Int32} {a21 : Nat → Int32} {s22 : Int32} (f : Nat → Int32) : (MW a cI s0 s1 a2 a3 a4 a5 a6 a7 a8 a9 s10 s11 s12 a13 a14 a15 a16 a17 a18 a19 a20 a21 s22).set 4 (a 5, .inl (cI, 10, .inl f)) = MW a cI s0 s1 a2 a3 a4 f a6 a7 a8 a9 s10 s11 s12 a13 a14 a15 a16 a17 a18 a19 a20 a21 s22 := rfl
theorem MW_u6 {a : Nat → Nat} {cI : ClassId} {s0 : Int32} {s1 : Int32} {a2 : Nat → Int32} {a3 : Nat → Int32} {a4 : Nat → Int32} {a5 : Nat → Int32} {a6 : Nat → Int32} {a7 : Nat → Int32} {a8 : Nat → Int32} {a9 : Nat → Int32} {s10 : Int32} {s11 : Int32} {s12 : Int32} {a13 : Nat → Int32} {a14 : Nat → Int32} {a15 : Nat → Int32} {a16 : Nat → Int32} {a17 : Nat → Int32} {a18 : Nat → Int32} {a19 : Nat → Int32} {a20 : Nat → Int32} {a21 : Nat → Int32} {s22 : Int32} (f : Nat → Int32) : (MW a cI s0 s1 a2 a3 a4 a5 a6 a7 a8 a9 s10 s11 s12 a13 a14 a15 a16 a17 a18 a19 a20 a21 s22).set 5 (a 6, .inl (cI, 6, .inl f)) = MW a cI s0 s1 a2 a3 a4 a5 f a7 a8 a9 s10 s11 s12 a13 a14 a15 a16 a17 a18 a19 a20 a21 s22 := rfl
theorem MW_u7 {a : Nat → Nat} {cI : ClassId} {s0 : Int32} {s1 : Int32} {a2 : Nat → Int32} {a3 : Nat → Int32} {a4 : Nat → Int32} {a5 : Nat → Int32} {a6 : Nat → Int32} {a7 : Nat → Int32} {a8 : Nat → Int32} {a9 : Nat → Int32} {s10 : Int32} {s11 : Int32} {s12 : Int32} {a13 : Nat → Int32} {a14 : Nat → Int32} {a15 : Nat → Int32} {a16 : Nat → Int32} {a17 : Nat → Int32} {a18 : Nat → Int32} {a19 : Nat → Int32} {a20 : Nat → Int32} {a21 : Nat → Int32} {s22 : Int32} (f : Nat → Int32) : (MW a cI s0 s1 a2 a3 a4 a5 a6 a7 a8 a9 s10 s11 s12 a13 a14 a15 a16 a17 a18 a19 a20 a21 s22).set 6 (a 7, .inl (cI, 6, .inl f)) = MW a cI s0 s1 a2 a3 a4 a5 a6 f a8 a9 s10 s11 s12 a13 a14 a15 a16 a17 a18 a19 a20 a21 s22 := rfl
theorem MW_u8 {a : Nat → Nat} {cI : ClassId} {s0 : Int32} {s1 : Int32} {a2 : Nat → Int32} {a3 : Nat → Int32} {a4 : Nat → Int32} {a5 : Nat → Int32} {a6 : Nat → Int32} {a7 : Nat → Int32} {a8 : Nat → Int32} {a9 : Nat → Int32} {s10 : Int32} {s11 : Int32} {s12 : Int32} {a13 : Nat → Int32} {a14 : Nat → Int32} {a15 : Nat → Int32} {a16 : Nat → Int32} {a17 : Nat → Int32} {a18 : Nat → Int32} {a19 : Nat → Int32} {a20 : Nat → Int32} {a21 : Nat → Int32} {s22 : Int32} (f : Nat → Int32) : (MW a cI s0 s1 a2 a3 a4 a5 a6 a7 a8 a9 s10 s11 s12 a13 a14 a15 a16 a17 a18 a19 a20 a21 s22).set 7 (a 8, .inl (cI, 5, .inl f)) = MW a cI s0 s1 a2 a3 a4 a5 a6 a7 f a9 s10 s11 s12 a13 a14 a15 a16 a17 a18 a19 a20 a21 s22 := rfl
theorem MW_u9 {a : Nat → Nat} {cI : ClassId} {s0 : Int32} {s1 : Int32} {a2 : Nat → Int32} {a3 : Nat → Int32} {a4 : Nat → Int32} {a5 : Nat → Int32} {a6 : Nat → Int32} {a7 : Nat → Int32} {a8 : Nat → Int32} {a9 : Nat → Int32} {s10 : Int32} {s11 : Int32} {s12 : Int32} {a13 : Nat → Int32} {a14 : Nat → Int32} {a15 : Nat → Int32} {a16 : Nat → Int32} {a17 : Nat → Int32} {a18 : Nat → Int32} {a19 : Nat → Int32} {a20 : Nat → Int32} {a21 : Nat → Int32} {s22 : Int32} (f : Nat → Int32) : (MW a cI s0 s1 a2 a3 a4 a5 a6 a7 a8 a9 s10 s11 s12 a13 a14 a15 a16 a17 a18 a19 a20 a21 s22).set 8 (a 9, .inl (cI, 5, .inl f)) = MW a cI s0 s1 a2 a3 a4 a5 a6 a7 a8 f s10 s11 s12 a13 a14 a15 a16 a17 a18 a19 a20 a21 s22 := rfl
theorem MW_u13 {a : Nat → Nat} {cI : ClassId} {s0 : Int32} {s1 : Int32} {a2 : Nat → Int32} {a3 : Nat → Int32} {a4 : Nat → Int32} {a5 : Nat → Int32} {a6 : Nat → Int32} {a7 : Nat → Int32} {a8 : Nat → Int32} {a9 : Nat → Int32} {s10 : Int32} {s11 : Int32} {s12 : Int32} {a13 : Nat → Int32} {a14 : Nat → Int32} {a15 : Nat → Int32} {a16 : Nat → Int32} {a17 : Nat → Int32} {a18 : Nat → Int32} {a19 : Nat → Int32} {a20 : Nat → Int32} {a21 : Nat → Int32} {s22 : Int32} (f : Nat → Int32) : (MW a cI s0 s1 a2 a3 a4 a5 a6 a7 a8 a9 s10 s11 s12 a13 a14 a15 a16 a17 a18 a19 a20 a21 s22).set 9 (a 13, .inl (cI, 60, .inl f)) = MW a cI s0 s1 a2 a3 a4 a5 a6 a7 a8 a9 s10 s11 s12 f a14 a15 a16 a17 a18 a19 a20 a21 s22 := rfl
theorem MW_u14 {a : Nat → Nat} {cI : ClassId} {s0 : Int32} {s1 : Int32} {a2 : Nat → Int32} {a3 : Nat → Int32} {a4 : Nat → Int32} {a5 : Nat → Int32} {a6 : Nat → Int32} {a7 : Nat → Int32} {a8 : Nat → Int32} {a9 : Nat → Int32} {s10 : Int32} {s11 : Int32} {s12 : Int32} {a13 : Nat → Int32} {a14 : Nat → Int32} {a15 : Nat → Int32} {a16 : Nat → Int32} {a17 : Nat → Int32} {a18 : Nat → Int32} {a19 : Nat → Int32} {a20 : Nat → Int32} {a21 : Nat → Int32} {s22 : Int32} (f : Nat → Int32) : (MW a cI s0 s1 a2 a3 a4 a5 a6 a7 a8 a9 s10 s11 s12 a13 a14 a15 a16 a17 a18 a19 a20 a21 s22).set 10 (a 14, .inl (cI, 60, .inl f)) = MW a cI s0 s1 a2 a3 a4 a5 a6 a7 a8 a9 s10 s11 s12 a13 f a15 a16 a17 a18 a19 a20 a21 s22 := rfl
theorem MW_u15 {a : Nat → Nat} {cI : ClassId} {s0 : Int32} {s1 : Int32} {a2 : Nat → Int32} {a3 : Nat → Int32} {a4 : Nat → Int32} {a5 : Nat → Int32} {a6 : Nat → Int32} {a7 : Nat → Int32} {a8 : Nat → Int32} {a9 : Nat → Int32} {s10 : Int32} {s11 : Int32} {s12 : Int32} {a13 : Nat → Int32} {a14 : Nat → Int32} {a15 : Nat → Int32} {a16 : Nat → Int32} {a17 : Nat → Int32} {a18 : Nat → Int32} {a19 : Nat → Int32} {a20 : Nat → Int32} {a21 : Nat → Int32} {s22 : Int32} (f : Nat → Int32) : (MW a cI s0 s1 a2 a3 a4 a5 a6 a7 a8 a9 s10 s11 s12 a13 a14 a15 a16 a17 a18 a19 a20 a21 s22).set 11 (a 15, .inl (cI, 240, .inl f)) = MW a cI s0 s1 a2 a3 a4 a5 a6 a7 a8 a9 s10 s11 s12 a13 a14 f a16 a17 a18 a19 a20 a21 s22 := rfl
theorem MW_u16 {a : Nat → Nat} {cI : ClassId} {s0 : Int32} {s1 : Int32} {a2 : Nat → Int32} {a3 : Nat → Int32} {a4 : Nat → Int32} {a5 : Nat → Int32} {a6 : Nat → Int32} {a7 : Nat → Int32} {a8 : Nat → Int32} {a9 : Nat → Int32} {s10 : Int32} {s11 : Int32} {s12 : Int32} {a13 : Nat → Int32} {a14 : Nat → Int32} {a15 : Nat → Int32} {a16 : Nat → Int32} {a17 : Nat → Int32} {a18 : Nat → Int32} {a19 : Nat → Int32} {a20 : Nat → Int32} {a21 : Nat → Int32} {s22 : Int32} (f : Nat → Int32) : (MW a cI s0 s1 a2 a3 a4 a5 a6 a7 a8 a9 s10 s11 s12 a13 a14 a15 a16 a17 a18 a19 a20 a21 s22).set 12 (a 16, .inl (cI, 60, .inl f)) = MW a cI s0 s1 a2 a3 a4 a5 a6 a7 a8 a9 s10 s11 s12 a13 a14 a15 f a17 a18 a19 a20 a21 s22 := rfl
theorem MW_u17 {a : Nat → Nat} {cI : ClassId} {s0 : Int32} {s1 : Int32} {a2 : Nat → Int32} {a3 : Nat → Int32} {a4 : Nat → Int32} {a5 : Nat → Int32} {a6 : Nat → Int32} {a7 : Nat → Int32} {a8 : Nat → Int32} {a9 : Nat → Int32} {s10 : Int32} {s11 : Int32} {s12 : Int32} {a13 : Nat → Int32} {a14 : Nat → Int32} {a15 : Nat → Int32} {a16 : Nat → Int32} {a17 : Nat → Int32} {a18 : Nat → Int32} {a19 : Nat → Int32} {a20 : Nat → Int32} {a21 : Nat → Int32} {s22 : Int32} (f : Nat → Int32) : (MW a cI s0 s1 a2 a3 a4 a5 a6 a7 a8 a9 s10 s11 s12 a13 a14 a15 a16 a17 a18 a19 a20 a21 s22).set 13 (a 17, .inl (cI, 60, .inl f)) = MW a cI s0 s1 a2 a3 a4 a5 a6 a7 a8 a9 s10 s11 s12 a13 a14 a15 a16 f a18 a19 a20 a21 s22 := rfl
theorem MW_u18 {a : Nat → Nat} {cI : ClassId} {s0 : Int32} {s1 : Int32} {a2 : Nat → Int32} {a3 : Nat → Int32} {a4 : Nat → Int32} {a5 : Nat → Int32} {a6 : Nat → Int32} {a7 : Nat → Int32} {a8 : Nat → Int32} {a9 : Nat → Int32} {s10 : Int32} {s11 : Int32} {s12 : Int32} {a13 : Nat → Int32} {a14 : Nat → Int32} {a15 : Nat → Int32} {a16 : Nat → Int32} {a17 : Nat → Int32} {a18 : Nat → Int32} {a19 : Nat → Int32} {a20 : Nat → Int32} {a21 : Nat → Int32} {s22 : Int32} (f : Nat → Int32) : (MW a cI s0 s1 a2 a3 a4 a5 a6 a7 a8 a9 s10 s11 s12 a13 a14 a15 a16 a17 a18 a19 a20 a21 s22).set 14 (a 18, .inl (cI, 60, .inl f)) = MW a cI s0 s1 a2 a3 a4 a5 a6 a7 a8 a9 s10 s11 s12 a13 a14 a15 a16 a17 f a19 a20 a21 s22 := rfl
theorem MW_u19 {a : Nat → Nat} {cI : ClassId} {s0 : Int32} {s1 : Int32} {a2 : Nat → Int32} {a3 : Nat → Int32} {a4 : Nat → Int32} {a5 : Nat → Int32} {a6 : Nat → Int32} {a7 : Nat → Int32} {a8 : Nat → Int32} {a9 : Nat → Int32} {s10 : Int32} {s11 : Int32} {s12 : Int32} {a13 : Nat → Int32} {a14 : Nat → Int32} {a15 : Nat → Int32} {a16 : Nat → Int32} {a17 : Nat → Int32} {a18 : Nat → Int32} {a19 : Nat → Int32} {a20 : Nat → Int32} {a21 : Nat → Int32} {s22 : Int32} (f : Nat → Int32) : (MW a cI s0 s1 a2 a3 a4 a5 a6 a7 a8 a9 s10 s11 s12 a13 a14 a15 a16 a17 a18 a19 a20 a21 s22).set 15 (a 19, .inl (cI, 960, .inl f)) = MW a cI s0 s1 a2 a3 a4 a5 a6 a7 a8 a9 s10 s11 s12 a13 a14 a15 a16 a17 a18 f a20 a21 s22 := rfl
theorem MW_u20 {a : Nat → Nat} {cI : ClassId} {s0 : Int32} {s1 : Int32} {a2 : Nat → Int32} {a3 : Nat → Int32} {a4 : Nat → Int32} {a5 : Nat → Int32} {a6 : Nat → Int32} {a7 : Nat → Int32} {a8 : Nat → Int32} {a9 : Nat → Int32} {s10 : Int32} {s11 : Int32} {s12 : Int32} {a13 : Nat → Int32} {a14 : Nat → Int32} {a15 : Nat → Int32} {a16 : Nat → Int32} {a17 : Nat → Int32} {a18 : Nat → Int32} {a19 : Nat → Int32} {a20 : Nat → Int32} {a21 : Nat → Int32} {s22 : Int32} (f : Nat → Int32) : (MW a cI s0 s1 a2 a3 a4 a5 a6 a7 a8 a9 s10 s11 s12 a13 a14 a15 a16 a17 a18 a19 a20 a21 s22).set 16 (a 20, .inl (cI, 960, .inl f)) = MW a cI s0 s1 a2 a3 a4 a5 a6 a7 a8 a9 s10 s11 s12 a13 a14 a15 a16 a17 a18 a19 f a21 s22 := rfl
theorem MW_u21 {a : Nat → Nat} {cI : ClassId} {s0 : Int32} {s1 : Int32} {a2 : Nat → Int32} {a3 : Nat → Int32} {a4 : Nat → Int32} {a5 : Nat → Int32} {a6 : Nat → Int32} {a7 : Nat → Int32} {a8 : Nat → Int32} {a9 : Nat → Int32} {s10 : Int32} {s11 : Int32} {s12 : Int32} {a13 : Nat → Int32} {a14 : Nat → Int32} {a15 : Nat → Int32} {a16 : Nat → Int32} {a17 : Nat → Int32} {a18 : Nat → Int32} {a19 : Nat → Int32} {a20 : Nat → Int32} {a21 : Nat → Int32} {s22 : Int32} (f : Nat → Int32) : (MW a cI s0 s1 a2 a3 a4 a5 a6 a7 a8 a9 s10 s11 s12 a13 a14 a15 a16 a17 a18 a19 a20 a21 s22).set 17 (a 21, .inl (cI, 960, .inl f)) = MW a cI s0 s1 a2 a3 a4 a5 a6 a7 a8 a9 s10 s11 s12 a13 a14 a15 a16 a17 a18 a19 a20 f s22 := rfl
def CF4 (a : Nat → Nat) (u12 u13 : Int32) : List Value := [.ref (a 1), .ref (a 6), .ref (a 10), .ref (a 11), .int u12, .int u13]
def CF0 (a : Nat → Nat) (u4 : Int32) : List Value := [.ref (a 2), .ref (a 3), .ref (a 4), .ref (a 5), .int u4]
def CF3 (a : Nat → Nat) (u8 u9 u10 : Int32) : List Value := [.ref (a 7), .ref (a 8), .ref (a 9), .int u8, .int u9, .int u10]
def CF1 (b : Nat → Nat) (t1 t2 t3 t4 : Int32) : List Value := [.ref (b 1), .ref (b 2), .int t1, .int t2, .int t3, .int t4]
def CF2 (b : Nat → Nat) (t8 : Int32) : List Value := [.ref (b 3), .ref (b 4), .ref (b 5), .int t8]
/-- the row of items: those that were made once -/
def CR (b : Nat → Nat → Nat) (n : Nat) : Nat → Option Nat := fun i => if i < n then some (b i 0) else none
def cX (a : Nat → Nat) (b : Nat → Nat → Nat) (n : Nat) (cI cO : ClassId) (c0 : Nat → Int32) (c1 : Nat → Int32) (c2 : Nat → Int32) (c3 : Nat → Int32) (u4 : Int32) (c5 : Nat → Int32) (c6 : Nat → Int32) (c7 : Nat → Int32) (u8 : Int32) (u9 : Int32) (u10 : Int32) (c11 : Nat → Int32) (u12 : Int32) (u13 : Int32) : va_W := [(a 0, .inr (4, CF4 a u12 u13)), (a 1, .inr (0, CF0 a u4)), (a 2, .inl (cI, 10, .inl c0)), (a 3, .inl (cI, 10, .inl c1)), (a 4, .inl (cI, 10, .inl c2)), (a 5, .inl (cI, 10, .inl c3)), (a 6, .inr (3, CF3 a u8 u9 u10)), (a 7, .inl (cI, 6, .inl c5)), (a 8, .inl (cI, 5, .inl c6)), (a 9, .inl (cI, 5, .inl c7)), (a 10, .inl (cI, 6, .inl c11)), (a 11, .inl (cO, 60, .inr (.inr (.inr (.inr (CR b n))))))]
/-- the six cells of an item -/
def it1 (cI : ClassId) (b : Nat → Nat) (J : Nat → Nat → Int32) : va_W := [(b 0, .inr (1, CF1 b (J 1 0) (J 2 0) (J 3 0) (J 4 0))), (b 1, .inl (cI, 4, .inl (J 0))), (b 2, .inr (2, CF2 b (J 8 0))), (b 3, .inl (cI, 16, .inl (J 5))), (b 4, .inl (cI, 16, .inl (J 6))), (b 5, .inl (cI, 16, .inl (J 7)))]
/-- an item's slots -/
def JX (b0 : Nat → Int32) (t1 t2 t3 t4 : Int32) (b5 b6 b7 : Nat → Int32) (t8 : Int32) : Nat → Nat → Int32
  | 0 => b0
  | 1 => fun _ => t1
  | 2 => fun _ => t2
  | 3 => fun _ => t3
  | 4 => fun _ => t4
  | 5 => b5
  | 6 => b6
  | 7 => b7
  | _ => fun _ => t8
def cIs (cI : ClassId) (b : Nat → Nat → Nat) (I : Nat → Nat → Nat → Int32) : Nat → va_W
  | 0 => []
  | n + 1 => cIs cI b I n ++ it1 cI (b n) (I n)
/-- the cells of the class: twelve, then six for each item -/
def CW (a : Nat → Nat) (b : Nat → Nat → Nat) (n : Nat) (cI cO : ClassId) (c0 : Nat → Int32) (c1 : Nat → Int32) (c2 : Nat → Int32) (c3 : Nat → Int32) (u4 : Int32) (c5 : Nat → Int32) (c6 : Nat → Int32) (c7 : Nat → Int32) (u8 : Int32) (u9 : Int32) (u10 : Int32) (c11 : Nat → Int32) (u12 : Int32) (u13 : Int32) (I : Nat → Nat → Nat → Int32) : va_W := cX a b n cI cO c0 c1 c2 c3 u4 c5 c6 c7 u8 u9 u10 c11 u12 u13 ++ cIs cI b I n
theorem cIs_len (cI : ClassId) (b : Nat → Nat → Nat) (I : Nat → Nat → Nat → Int32) : ∀ n, (cIs cI b I n).length = 6 * n
  | 0 => rfl
  | n + 1 => by simp only [cIs, List.length_append, cIs_len cI b I n]; simp [it1]; omega
theorem cIs_get (cI : ClassId) (b : Nat → Nat → Nat) (I : Nat → Nat → Nat → Int32) {i j : Nat} (hj : j < 6) : ∀ n, i < n → (cIs cI b I n)[6 * i + j]? = (it1 cI (b i) (I i))[j]?
  | 0, h => absurd h (Nat.not_lt_zero _)
  | n + 1, h => by
    show (cIs cI b I n ++ it1 cI (b n) (I n))[6 * i + j]? = _
    by_cases e : i = n
    · subst e
      rw [List.getElem?_append_right (by rw [cIs_len]; omega), cIs_len]
      congr 1; omega
    · rw [List.getElem?_append_left (by rw [cIs_len]; omega)]
      exact cIs_get cI b I hj n (by omega)
theorem cIs_eq (cI : ClassId) (b : Nat → Nat → Nat) {I I2 : Nat → Nat → Nat → Int32} : ∀ n, (∀ i, i < n → it1 cI (b i) (I i) = it1 cI (b i) (I2 i)) → cIs cI b I n = cIs cI b I2 n
  | 0, _ => rfl
  | n + 1, h => by simp only [cIs]; rw [cIs_eq cI b n (fun i hi => h i (by omega)), h n (by omega)]
theorem cIs_set (cI : ClassId) (b : Nat → Nat → Nat) (I : Nat → Nat → Nat → Int32) {i j : Nat} (hj : j < 6) (x : Nat × va_E) (J : Nat → Nat → Int32) (hx : (it1 cI (b i) (I i)).set j x = it1 cI (b i) J) : ∀ n, i < n → (cIs cI b I n).set (6 * i + j) x = cIs cI b (va_up I i J) n
  | 0, h => absurd h (Nat.not_lt_zero _)
  | n + 1, h => by
    show (cIs cI b I n ++ it1 cI (b n) (I n)).set (6 * i + j) x = cIs cI b (va_up I i J) n ++ it1 cI (b n) (va_up I i J n)
    by_cases e : i = n
    · subst e
      rw [List.set_append_right _ _ (by rw [cIs_len]; omega), cIs_len, show 6 * i + j - 6 * i = j by omega, hx, va_up_self, cIs_eq cI b (I2 := va_up I i J) i (fun k hk => by rw [va_up_ne _ _ (by omega)])]
    · rw [List.set_append_left _ _ (by rw [cIs_len]; omega), cIs_set cI b I hj x J hx n (by omega), va_up_ne _ _ (fun q => e q.symm)]
theorem CW_get {a : Nat → Nat} {b : Nat → Nat → Nat} {n : Nat} {cI cO : ClassId} {c0 : Nat → Int32} {c1 : Nat → Int32} {c2 : Nat → Int32} {c3 : Nat → Int32} {u4 : Int32} {c5 : Nat → Int32} {c6 : Nat → Int32} {c7 : Nat → Int32} {u8 : Int32} {u9 : Int32} {u10 : Int32} {c11 : Nat → Int32} {u12 : Int32} {u13 : Int32} (I : Nat → Nat → Nat → Int32) {i j : Nat} (hi : i < n) (hj : j < 6) {x : Nat × va_E} (hx : (it1 cI (b i) (I i))[j]? = some x) : (CW a b n cI cO c0 c1 c2 c3 u4 c5 c6 c7 u8 u9 u10 c11 u12 u13 I)[12 + (6 * i + j)]? = some x := by
  unfold CW
  rw [List.getElem?_append_right (by simp [cX]), ← hx, ← cIs_get cI b I hj n hi]
  congr 1; simp [cX]
theorem CW_set {a : Nat → Nat} {b : Nat → Nat → Nat} {n : Nat} {cI cO : ClassId} {c0 : Nat → Int32} {c1 : Nat → Int32} {c2 : Nat → Int32} {c3 : Nat → Int32} {u4 : Int32} {c5 : Nat → Int32} {c6 : Nat → Int32} {c7 : Nat → Int32} {u8 : Int32} {u9 : Int32} {u10 : Int32} {c11 : Nat → Int32} {u12 : Int32} {u13 : Int32} (I : Nat → Nat → Nat → Int32) {i j : Nat} (hi : i < n) (hj : j < 6) {x : Nat × va_E} {J : Nat → Nat → Int32} (hx : (it1 cI (b i) (I i)).set j x = it1 cI (b i) J) : (CW a b n cI cO c0 c1 c2 c3 u4 c5 c6 c7 u8 u9 u10 c11 u12 u13 I).set (12 + (6 * i + j)) x = CW a b n cI cO c0 c1 c2 c3 u4 c5 c6 c7 u8 u9 u10 c11 u12 u13 (va_up I i J) := by
  unfold CW
  rw [List.set_append_right _ _ (by simp [cX]), show 12 + (6 * i + j) - (cX a b n cI cO c0 c1 c2 c3 u4 c5 c6 c7 u8 u9 u10 c11 u12 u13).length = 6 * i + j by simp [cX], cIs_set cI b I hj x J hx n hi]
theorem CW_getF {a : Nat → Nat} {b : Nat → Nat → Nat} {n : Nat} {cI cO : ClassId} {c0 : Nat → Int32} {c1 : Nat → Int32} {c2 : Nat → Int32} {c3 : Nat → Int32} {u4 : Int32} {c5 : Nat → Int32} {c6 : Nat → Int32} {c7 : Nat → Int32} {u8 : Int32} {u9 : Int32} {u10 : Int32} {c11 : Nat → Int32} {u12 : Int32} {u13 : Int32} (I : Nat → Nat → Nat → Int32) (i : Nat) (J : Nat → Nat → Int32) (hi : i < n) {j : Nat} (hj : j < 6) {x : Nat × va_E} (hx : (it1 cI (b i) J)[j]? = some x) : (CW a b n cI cO c0 c1 c2 c3 u4 c5 c6 c7 u8 u9 u10 c11 u12 u13 (va_up I i J))[12 + (6 * i + j)]? = some x :=
  CW_get (va_up I i J) hi hj (by rw [va_up_self]; exact hx)
theorem CW_setF {a : Nat → Nat} {b : Nat → Nat → Nat} {n : Nat} {cI cO : ClassId} {c0 : Nat → Int32} {c1 : Nat → Int32} {c2 : Nat → Int32} {c3 : Nat → Int32} {u4 : Int32} {c5 : Nat → Int32} {c6 : Nat → Int32} {c7 : Nat → Int32} {u8 : Int32} {u9 : Int32} {u10 : Int32} {c11 : Nat → Int32} {u12 : Int32} {u13 : Int32} (I : Nat → Nat → Nat → Int32) (i : Nat) (J : Nat → Nat → Int32) (hi : i < n) {j : Nat} (hj : j < 6) {x : Nat × va_E} {J' : Nat → Nat → Int32} (hx : (it1 cI (b i) J).set j x = it1 cI (b i) J') : (CW a b n cI cO c0 c1 c2 c3 u4 c5 c6 c7 u8 u9 u10 c11 u12 u13 (va_up I i J)).set (12 + (6 * i + j)) x = CW a b n cI cO c0 c1 c2 c3 u4 c5 c6 c7 u8 u9 u10 c11 u12 u13 (va_up I i J') := by
  rw [CW_set (va_up I i J) hi hj (J := J') (by rw [va_up_self]; exact hx), bx_uu]
/-- one item looked at -/
theorem CW_foc {a : Nat → Nat} {b : Nat → Nat → Nat} {n : Nat} {cI cO : ClassId} {c0 : Nat → Int32} {c1 : Nat → Int32} {c2 : Nat → Int32} {c3 : Nat → Int32} {u4 : Int32} {c5 : Nat → Int32} {c6 : Nat → Int32} {c7 : Nat → Int32} {u8 : Int32} {u9 : Int32} {u10 : Int32} {c11 : Nat → Int32} {u12 : Int32} {u13 : Int32} (I : Nat → Nat → Nat → Int32) (i : Nat) : CW a b n cI cO c0 c1 c2 c3 u4 c5 c6 c7 u8 u9 u10 c11 u12 u13 I = CW a b n cI cO c0 c1 c2 c3 u4 c5 c6 c7 u8 u9 u10 c11 u12 u13 (va_up I i (JX (I i 0) (I i 1 0) (I i 2 0) (I i 3 0) (I i 4 0) (I i 5) (I i 6) (I i 7) (I i 8 0))) := by
  unfold CW
  congr 1
  exact cIs_eq cI b n (fun k _ => by
    by_cases e : k = i
    · subst e; rw [va_up_self]; rfl
    · rw [va_up_ne _ _ e])
theorem CW_s12 {a : Nat → Nat} {b : Nat → Nat → Nat} {n : Nat} {cI cO : ClassId} {c0 : Nat → Int32} {c1 : Nat → Int32} {c2 : Nat → Int32} {c3 : Nat → Int32} {u4 : Int32} {c5 : Nat → Int32} {c6 : Nat → Int32} {c7 : Nat → Int32} {u8 : Int32} {u9 : Int32} {u10 : Int32} {c11 : Nat → Int32} {u12 : Int32} {u13 : Int32} {I : Nat → Nat → Nat → Int32} (v : Int32) : (CW a b n cI cO c0 c1 c2 c3 u4 c5 c6 c7 u8 u9 u10 c11 u12 u13 I).set 0 (a 0, .inr (4, (CF4 a u12 u13).set 4 (.int v))) = CW a b n cI cO c0 c1 c2 c3 u4 c5 c6 c7 u8 u9 u10 c11 v u13 I := rfl
theorem CW_s13 {a : Nat → Nat} {b : Nat → Nat → Nat} {n : Nat} {cI cO : ClassId} {c0 : Nat → Int32} {c1 : Nat → Int32} {c2 : Nat → Int32} {c3 : Nat → Int32} {u4 : Int32} {c5 : Nat → Int32} {c6 : Nat → Int32} {c7 : Nat → Int32} {u8 : Int32} {u9 : Int32} {u10 : Int32} {c11 : Nat → Int32} {u12 : Int32} {u13 : Int32} {I : Nat → Nat → Nat → Int32} (v : Int32) : (CW a b n cI cO c0 c1 c2 c3 u4 c5 c6 c7 u8 u9 u10 c11 u12 u13 I).set 0 (a 0, .inr (4, (CF4 a u12 u13).set 5 (.int v))) = CW a b n cI cO c0 c1 c2 c3 u4 c5 c6 c7 u8 u9 u10 c11 u12 v I := rfl
theorem CW_s4 {a : Nat → Nat} {b : Nat → Nat → Nat} {n : Nat} {cI cO : ClassId} {c0 : Nat → Int32} {c1 : Nat → Int32} {c2 : Nat → Int32} {c3 : Nat → Int32} {u4 : Int32} {c5 : Nat → Int32} {c6 : Nat → Int32} {c7 : Nat → Int32} {u8 : Int32} {u9 : Int32} {u10 : Int32} {c11 : Nat → Int32} {u12 : Int32} {u13 : Int32} {I : Nat → Nat → Nat → Int32} (v : Int32) : (CW a b n cI cO c0 c1 c2 c3 u4 c5 c6 c7 u8 u9 u10 c11 u12 u13 I).set 1 (a 1, .inr (0, (CF0 a u4).set 4 (.int v))) = CW a b n cI cO c0 c1 c2 c3 v c5 c6 c7 u8 u9 u10 c11 u12 u13 I := rfl
theorem CW_s8 {a : Nat → Nat} {b : Nat → Nat → Nat} {n : Nat} {cI cO : ClassId} {c0 : Nat → Int32} {c1 : Nat → Int32} {c2 : Nat → Int32} {c3 : Nat → Int32} {u4 : Int32} {c5 : Nat → Int32} {c6 : Nat → Int32} {c7 : Nat → Int32} {u8 : Int32} {u9 : Int32} {u10 : Int32} {c11 : Nat → Int32} {u12 : Int32} {u13 : Int32} {I : Nat → Nat → Nat → Int32} (v : Int32) : (CW a b n cI cO c0 c1 c2 c3 u4 c5 c6 c7 u8 u9 u10 c11 u12 u13 I).set 6 (a 6, .inr (3, (CF3 a u8 u9 u10).set 3 (.int v))) = CW a b n cI cO c0 c1 c2 c3 u4 c5 c6 c7 v u9 u10 c11 u12 u13 I := rfl
theorem CW_s9 {a : Nat → Nat} {b : Nat → Nat → Nat} {n : Nat} {cI cO : ClassId} {c0 : Nat → Int32} {c1 : Nat → Int32} {c2 : Nat → Int32} {c3 : Nat → Int32} {u4 : Int32} {c5 : Nat → Int32} {c6 : Nat → Int32} {c7 : Nat → Int32} {u8 : Int32} {u9 : Int32} {u10 : Int32} {c11 : Nat → Int32} {u12 : Int32} {u13 : Int32} {I : Nat → Nat → Nat → Int32} (v : Int32) : (CW a b n cI cO c0 c1 c2 c3 u4 c5 c6 c7 u8 u9 u10 c11 u12 u13 I).set 6 (a 6, .inr (3, (CF3 a u8 u9 u10).set 4 (.int v))) = CW a b n cI cO c0 c1 c2 c3 u4 c5 c6 c7 u8 v u10 c11 u12 u13 I := rfl
theorem CW_s10 {a : Nat → Nat} {b : Nat → Nat → Nat} {n : Nat} {cI cO : ClassId} {c0 : Nat → Int32} {c1 : Nat → Int32} {c2 : Nat → Int32} {c3 : Nat → Int32} {u4 : Int32} {c5 : Nat → Int32} {c6 : Nat → Int32} {c7 : Nat → Int32} {u8 : Int32} {u9 : Int32} {u10 : Int32} {c11 : Nat → Int32} {u12 : Int32} {u13 : Int32} {I : Nat → Nat → Nat → Int32} (v : Int32) : (CW a b n cI cO c0 c1 c2 c3 u4 c5 c6 c7 u8 u9 u10 c11 u12 u13 I).set 6 (a 6, .inr (3, (CF3 a u8 u9 u10).set 5 (.int v))) = CW a b n cI cO c0 c1 c2 c3 u4 c5 c6 c7 u8 u9 v c11 u12 u13 I := rfl
theorem CW_u0 {a : Nat → Nat} {b : Nat → Nat → Nat} {n : Nat} {cI cO : ClassId} {c0 : Nat → Int32} {c1 : Nat → Int32} {c2 : Nat → Int32} {c3 : Nat → Int32} {u4 : Int32} {c5 : Nat → Int32} {c6 : Nat → Int32} {c7 : Nat → Int32} {u8 : Int32} {u9 : Int32} {u10 : Int32} {c11 : Nat → Int32} {u12 : Int32} {u13 : Int32} {I : Nat → Nat → Nat → Int32} (f : Nat → Int32) : (CW a b n cI cO c0 c1 c2 c3 u4 c5 c6 c7 u8 u9 u10 c11 u12 u13 I).set 2 (a 2, .inl (cI, 10, .inl f)) = CW a b n cI cO f c1 c2 c3 u4 c5 c6 c7 u8 u9 u10 c11 u12 u13 I := rfl
theorem CW_u1 {a : Nat → Nat} {b : Nat → Nat → Nat} {n : Nat} {cI cO : ClassId} {c0 : Nat → Int32} {c1 : Nat → Int32} {c2 : Nat → Int32} {c3 : Nat → Int32} {u4 : Int32} {c5 : Nat → Int32} {c6 : Nat → Int32} {c7 : Nat → Int32} {u8 : Int32} {u9 : Int32} {u10 : Int32} {c11 : Nat → Int32} {u12 : Int32} {u13 : Int32} {I : Nat → Nat → Nat → Int32} (f : Nat → Int32) : (CW a b n cI cO c0 c1 c2 c3 u4 c5 c6 c7 u8 u9 u10 c11 u12 u13 I).set 3 (a 3, .inl (cI, 10, .inl f)) = CW a b n cI cO c0 f c2 c3 u4 c5 c6 c7 u8 u9 u10 c11 u12 u13 I := rfl
theorem CW_u2 {a : Nat → Nat} {b : Nat → Nat → Nat} {n : Nat} {cI cO : ClassId} {c0 : Nat → Int32} {c1 : Nat → Int32} {c2 : Nat → Int32} {c3 : Nat → Int32} {u4 : Int32} {c5 : Nat → Int32} {c6 : Nat → Int32} {c7 : Nat → Int32} {u8 : Int32} {u9 : Int32} {u10 : Int32} {c11 : Nat → Int32} {u12 : Int32} {u13 : Int32} {I : Nat → Nat → Nat → Int32} (f : Nat → Int32) : (CW a b n cI cO c0 c1 c2 c3 u4 c5 c6 c7 u8 u9 u10 c11 u12 u13 I).set 4 (a 4, .inl (cI, 10, .inl f)) = CW a b n cI cO c0 c1 f c3 u4 c5 c6 c7 u8 u9 u10 c11 u12 u13 I := rfl
theorem CW_u3 {a : Nat → Nat} {b : Nat → Nat → Nat} {n : Nat} {cI cO : ClassId} {c0 : Nat → Int32} {c1 : Nat → Int32} {c2 : Nat → Int32} {c3 : Nat → Int32} {u4 : Int32} {c5 : Nat → Int32} {c6 : Nat → Int32} {c7 : Nat → Int32} {u8 : Int32} {u9 : Int32} {u10 : Int32} {c11 : Nat → Int32} {u12 : Int32} {u13 : Int32} {I : Nat → Nat → Nat → Int32} (f : Nat → Int32) : (CW a b n cI cO c0 c1 c2 c3 u4 c5 c6 c7 u8 u9 u10 c11 u12 u13 I).set 5 (a 5, .inl (cI, 10, .inl f)) = CW a b n cI cO c0 c1 c2 f u4 c5 c6 c7 u8 u9 u10 c11 u12 u13 I := rfl
theorem CW_u5 {a : Nat → Nat} {b : Nat → Nat → Nat} {n : Nat} {cI cO : ClassId} {c0 : Nat → Int32} {c1 : Nat → Int32} {c2 : Nat → Int32} {c3 : Nat → Int32} {u4 : Int32} {c5 : Nat → Int32} {c6 : Nat → Int32} {c7 : Nat → Int32} {u8 : Int32} {u9 : Int32} {u10 : Int32} {c11 : Nat → Int32} {u12 : Int32} {u13 : Int32} {I : Nat → Nat → Nat → Int32} (f : Nat → Int32) : (CW a b n cI cO c0 c1 c2 c3 u4 c5 c6 c7 u8 u9 u10 c11 u12 u13 I).set 7 (a 7, .inl (cI, 6, .inl f)) = CW a b n cI cO c0 c1 c2 c3 u4 f c6 c7 u8 u9 u10 c11 u12 u13 I := rfl
theorem CW_u6 {a : Nat → Nat} {b : Nat → Nat → Nat} {n : Nat} {cI cO : ClassId} {c0 : Nat → Int32} {c1 : Nat → Int32} {c2 : Nat → Int32} {c3 : Nat → Int32} {u4 : Int32} {c5 : Nat → Int32} {c6 : Nat → Int32} {c7 : Nat → Int32} {u8 : Int32} {u9 : Int32} {u10 : Int32} {c11 : Nat → Int32} {u12 : Int32} {u13 : Int32} {I : Nat → Nat → Nat → Int32} (f : Nat → Int32) : (CW a b n cI cO c0 c1 c2 c3 u4 c5 c6 c7 u8 u9 u10 c11 u12 u13 I).set 8 (a 8, .inl (cI, 5, .inl f)) = CW a b n cI cO c0 c1 c2 c3 u4 c5 f c7 u8 u9 u10 c11 u12 u13 I := rfl
theorem CW_u7 {a : Nat → Nat} {b : Nat → Nat → Nat} {n : Nat} {cI cO : ClassId} {c0 : Nat → Int32} {c1 : Nat → Int32} {c2 : Nat → Int32} {c3 : Nat → Int32} {u4 : Int32} {c5 : Nat → Int32} {c6 : Nat → Int32} {c7 : Nat → Int32} {u8 : Int32} {u9 : Int32} {u10 : Int32} {c11 : Nat → Int32} {u12 : Int32} {u13 : Int32} {I : Nat → Nat → Nat → Int32} (f : Nat → Int32) : (CW a b n cI cO c0 c1 c2 c3 u4 c5 c6 c7 u8 u9 u10 c11 u12 u13 I).set 9 (a 9, .inl (cI, 5, .inl f)) = CW a b n cI cO c0 c1 c2 c3 u4 c5 c6 f u8 u9 u10 c11 u12 u13 I := rfl
theorem CW_u11 {a : Nat → Nat} {b : Nat → Nat → Nat} {n : Nat} {cI cO : ClassId} {c0 : Nat → Int32} {c1 : Nat → Int32} {c2 : Nat → Int32} {c3 : Nat → Int32} {u4 : Int32} {c5 : Nat → Int32} {c6 : Nat → Int32} {c7 : Nat → Int32} {u8 : Int32} {u9 : Int32} {u10 : Int32} {c11 : Nat → Int32} {u12 : Int32} {u13 : Int32} {I : Nat → Nat → Nat → Int32} (f : Nat → Int32) : (CW a b n cI cO c0 c1 c2 c3 u4 c5 c6 c7 u8 u9 u10 c11 u12 u13 I).set 10 (a 10, .inl (cI, 6, .inl f)) = CW a b n cI cO c0 c1 c2 c3 u4 c5 c6 c7 u8 u9 u10 f u12 u13 I := rfl
theorem CW_t1 {a : Nat → Nat} {b : Nat → Nat → Nat} {n : Nat} {cI cO : ClassId} {c0 : Nat → Int32} {c1 : Nat → Int32} {c2 : Nat → Int32} {c3 : Nat → Int32} {u4 : Int32} {c5 : Nat → Int32} {c6 : Nat → Int32} {c7 : Nat → Int32} {u8 : Int32} {u9 : Int32} {u10 : Int32} {c11 : Nat → Int32} {u12 : Int32} {u13 : Int32} {I : Nat → Nat → Nat → Int32} {i : Nat} {b0 : Nat → Int32} {t1 t2 t3 t4 : Int32} {b5 b6 b7 : Nat → Int32} {t8 : Int32} (hi : i < n) (v : Int32) : (CW a b n cI cO c0 c1 c2 c3 u4 c5 c6 c7 u8 u9 u10 c11 u12 u13 (va_up I i (JX b0 t1 t2 t3 t4 b5 b6 b7 t8))).set (12 + (6 * i + 0)) (b i 0, .inr (1, (CF1 (b i) t1 t2 t3 t4).set 2 (.int v))) = CW a b n cI cO c0 c1 c2 c3 u4 c5 c6 c7 u8 u9 u10 c11 u12 u13 (va_up I i (JX b0 v t2 t3 t4 b5 b6 b7 t8)) := CW_setF I i _ hi (by decide) rfl
theorem CW_t2 {a : Nat → Nat} {b : Nat → Nat → Nat} {n : Nat} {cI cO : ClassId} {c0 : Nat → Int32} {c1 : Nat → Int32} {c2 : Nat → Int32} {c3 : Nat → Int32} {u4 : Int32} {c5 : Nat → Int32} {c6 : Nat → Int32} {c7 : Nat → Int32} {u8 : Int32} {u9 : Int32} {u10 : Int32} {c11 : Nat → Int32} {u12 : Int32} {u13 : Int32} {I : Nat → Nat → Nat → Int32} {i : Nat} {b0 : Nat → Int32} {t1 t2 t3 t4 : Int32} {b5 b6 b7 : Nat → Int32} {t8 : Int32} (hi : i < n) (v : Int32) : (CW a b n cI cO c0 c1 c2 c3 u4 c5 c6 c7 u8 u9 u10 c11 u12 u13 (va_up I i (JX b0 t1 t2 t3 t4 b5 b6 b7 t8))).set (12 + (6 * i + 0)) (b i 0, .inr (1, (CF1 (b i) t1 t2 t3 t4).set 3 (.int v))) = CW a b n cI cO c0 c1 c2 c3 u4 c5 c6 c7 u8 u9 u10 c11 u12 u13 (va_up I i (JX b0 t1 v t3 t4 b5 b6 b7 t8)) := CW_setF I i _ hi (by decide) rfl
theorem CW_t3 {a : Nat → Nat} {b : Nat → Nat → Nat} {n : Nat} {cI cO : ClassId} {c0 : Nat → Int32} {c1 : Nat → Int32} {c2 : Nat → Int32} {c3 : Nat → Int32} {u4 : Int32} {c5 : Nat → Int32} {c6 : Nat → Int32} {c7 : Nat → Int32} {u8 : Int32} {u9 : Int32} {u10 : Int32} {c11 : Nat → Int32} {u12 : Int32} {u13 : Int32} {I : Nat → Nat → Nat → Int32} {i : Nat} {b0 : Nat → Int32} {t1 t2 t3 t4 : Int32} {b5 b6 b7 : Nat → Int32} {t8 : Int32} (hi : i < n) (v : Int32) : (CW a b n cI cO c0 c1 c2 c3 u4 c5 c6 c7 u8 u9 u10 c11 u12 u13 (va_up I i (JX b0 t1 t2 t3 t4 b5 b6 b7 t8))).set (12 + (6 * i + 0)) (b i 0, .inr (1, (CF1 (b i) t1 t2 t3 t4).set 4 (.int v))) = CW a b n cI cO c0 c1 c2 c3 u4 c5 c6 c7 u8 u9 u10 c11 u12 u13 (va_up I i (JX b0 t1 t2 v t4 b5 b6 b7 t8)) := CW_setF I i _ hi (by decide) rfl
theorem CW_t4 {a : Nat → Nat} {b : Nat → Nat → Nat} {n : Nat} {cI cO : ClassId} {c0 : Nat → Int32} {c1 : Nat → Int32} {c2 : Nat → Int32} {c3 : Nat → Int32} {u4 : Int32} {c5 : Nat → Int32} {c6 : Nat → Int32} {c7 : Nat → Int32} {u8 : Int32} {u9 : Int32} {u10 : Int32} {c11 : Nat → Int32} {u12 : Int32} {u13 : Int32} {I : Nat → Nat → Nat → Int32} {i : Nat} {b0 : Nat → Int32} {t1 t2 t3 t4 : Int32} {b5 b6 b7 : Nat → Int32} {t8 : Int32} (hi : i < n) (v : Int32) : (CW a b n cI cO c0 c1 c2 c3 u4 c5 c6 c7 u8 u9 u10 c11 u12 u13 (va_up I i (JX b0 t1 t2 t3 t4 b5 b6 b7 t8))).set (12 + (6 * i + 0)) (b i 0, .inr (1, (CF1 (b i) t1 t2 t3 t4).set 5 (.int v))) = CW a b n cI cO c0 c1 c2 c3 u4 c5 c6 c7 u8 u9 u10 c11 u12 u13 (va_up I i (JX b0 t1 t2 t3 v b5 b6 b7 t8)) := CW_setF I i _ hi (by decide) rfl
theorem CW_t8 {a : Nat → Nat} {b : Nat → Nat → Nat} {n : Nat} {cI cO : ClassId} {c0 : Nat → Int32} {c1 : Nat → Int32} {c2 : Nat → Int32} {c3 : Nat → Int32} {u4 : Int32} {c5 : Nat → Int32} {c6 : Nat → Int32} {c7 : Nat → Int32} {u8 : Int32} {u9 : Int32} {u10 : Int32} {c11 : Nat → Int32} {u12 : Int32} {u13 : Int32} {I : Nat → Nat → Nat → Int32} {i : Nat} {b0 : Nat → Int32} {t1 t2 t3 t4 : Int32} {b5 b6 b7 : Nat → Int32} {t8 : Int32} (hi : i < n) (v : Int32) : (CW a b n cI cO c0 c1 c2 c3 u4 c5 c6 c7 u8 u9 u10 c11 u12 u13 (va_up I i (JX b0 t1 t2 t3 t4 b5 b6 b7 t8))).set (12 + (6 * i + 2)) (b i 2, .inr (2, (CF2 (b i) t8).set 3 (.int v))) = CW a b n cI cO c0 c1 c2 c3 u4 c5 c6 c7 u8 u9 u10 c11 u12 u13 (va_up I i (JX b0 t1 t2 t3 t4 b5 b6 b7 v)) := CW_setF I i _ hi (by decide) rfl
theorem CW_t0 {a : Nat → Nat} {b : Nat → Nat → Nat} {n : Nat} {cI cO : ClassId} {c0 : Nat → Int32} {c1 : Nat → Int32} {c2 : Nat → Int32} {c3 : Nat → Int32} {u4 : Int32} {c5 : Nat → Int32} {c6 : Nat → Int32} {c7 : Nat → Int32} {u8 : Int32} {u9 : Int32} {u10 : Int32} {c11 : Nat → Int32} {u12 : Int32} {u13 : Int32} {I : Nat → Nat → Nat → Int32} {i : Nat} {b0 : Nat → Int32} {t1 t2 t3 t4 : Int32} {b5 b6 b7 : Nat → Int32} {t8 : Int32} (hi : i < n) (f : Nat → Int32) : (CW a b n cI cO c0 c1 c2 c3 u4 c5 c6 c7 u8 u9 u10 c11 u12 u13 (va_up I i (JX b0 t1 t2 t3 t4 b5 b6 b7 t8))).set (12 + (6 * i + 1)) (b i 1, .inl (cI, 4, .inl f)) = CW a b n cI cO c0 c1 c2 c3 u4 c5 c6 c7 u8 u9 u10 c11 u12 u13 (va_up I i (JX f t1 t2 t3 t4 b5 b6 b7 t8)) := CW_setF I i _ hi (by decide) rfl
theorem CW_t5 {a : Nat → Nat} {b : Nat → Nat → Nat} {n : Nat} {cI cO : ClassId} {c0 : Nat → Int32} {c1 : Nat → Int32} {c2 : Nat → Int32} {c3 : Nat → Int32} {u4 : Int32} {c5 : Nat → Int32} {c6 : Nat → Int32} {c7 : Nat → Int32} {u8 : Int32} {u9 : Int32} {u10 : Int32} {c11 : Nat → Int32} {u12 : Int32} {u13 : Int32} {I : Nat → Nat → Nat → Int32} {i : Nat} {b0 : Nat → Int32} {t1 t2 t3 t4 : Int32} {b5 b6 b7 : Nat → Int32} {t8 : Int32} (hi : i < n) (f : Nat → Int32) : (CW a b n cI cO c0 c1 c2 c3 u4 c5 c6 c7 u8 u9 u10 c11 u12 u13 (va_up I i (JX b0 t1 t2 t3 t4 b5 b6 b7 t8))).set (12 + (6 * i + 3)) (b i 3, .inl (cI, 16, .inl f)) = CW a b n cI cO c0 c1 c2 c3 u4 c5 c6 c7 u8 u9 u10 c11 u12 u13 (va_up I i (JX b0 t1 t2 t3 t4 f b6 b7 t8)) := CW_setF I i _ hi (by decide) rfl
theorem CW_t6 {a : Nat → Nat} {b : Nat → Nat → Nat} {n : Nat} {cI cO : ClassId} {c0 : Nat → Int32} {c1 : Nat → Int32} {c2 : Nat → Int32} {c3 : Nat → Int32} {u4 : Int32} {c5 : Nat → Int32} {c6 : Nat → Int32} {c7 : Nat → Int32} {u8 : Int32} {u9 : Int32} {u10 : Int32} {c11 : Nat → Int32} {u12 : Int32} {u13 : Int32} {I : Nat → Nat → Nat → Int32} {i : Nat} {b0 : Nat → Int32} {t1 t2 t3 t4 : Int32} {b5 b6 b7 : Nat → Int32} {t8 : Int32} (hi : i < n) (f : Nat → Int32) : (CW a b n cI cO c0 c1 c2 c3 u4 c5 c6 c7 u8 u9 u10 c11 u12 u13 (va_up I i (JX b0 t1 t2 t3 t4 b5 b6 b7 t8))).set (12 + (6 * i + 4)) (b i 4, .inl (cI, 16, .inl f)) = CW a b n cI cO c0 c1 c2 c3 u4 c5 c6 c7 u8 u9 u10 c11 u12 u13 (va_up I i (JX b0 t1 t2 t3 t4 b5 f b7 t8)) := CW_setF I i _ hi (by decide) rfl
theorem CW_t7 {a : Nat → Nat} {b : Nat → Nat → Nat} {n : Nat} {cI cO : ClassId} {c0 : Nat → Int32} {c1 : Nat → Int32} {c2 : Nat → Int32} {c3 : Nat → Int32} {u4 : Int32} {c5 : Nat → Int32} {c6 : Nat → Int32} {c7 : Nat → Int32} {u8 : Int32} {u9 : Int32} {u10 : Int32} {c11 : Nat → Int32} {u12 : Int32} {u13 : Int32} {I : Nat → Nat → Nat → Int32} {i : Nat} {b0 : Nat → Int32} {t1 t2 t3 t4 : Int32} {b5 b6 b7 : Nat → Int32} {t8 : Int32} (hi : i < n) (f : Nat → Int32) : (CW a b n cI cO c0 c1 c2 c3 u4 c5 c6 c7 u8 u9 u10 c11 u12 u13 (va_up I i (JX b0 t1 t2 t3 t4 b5 b6 b7 t8))).set (12 + (6 * i + 5)) (b i 5, .inl (cI, 16, .inl f)) = CW a b n cI cO c0 c1 c2 c3 u4 c5 c6 c7 u8 u9 u10 c11 u12 u13 (va_up I i (JX b0 t1 t2 t3 t4 b5 b6 f t8)) := CW_setF I i _ hi (by decide) rfl
theorem Wd.cast {D : va_G} {ty : List (ClassId × FieldType)} {A : Nat → Prop} {H0 : Heap} {s : State} {ws ws' : va_W} {H : Heap} {locs : List Loc} (hw : Wd D ty A H0 s ws H locs) (h : ws = ws') : Wd D ty A H0 s ws' H locs := h ▸ hw
end
section
abbrev tn (x : Int32) : Nat := x.toNatClampNeg
theorem am1 (x : Int32) : x + Int32.ofInt (-1) = x - 1 := by rw [Int32.sub_eq_add_neg]; rfl
theorem va_up_id {α : Type} (f : Nat → α) (k : Nat) : va_up f k (f k) = f := by
  funext j
  by_cases h : j = k
  · subst h; exact va_up_self _ _ _
  · exact va_up_ne _ _ h
theorem tn_nI {n : Nat} (h : n < 2 ^ 31) : tn (nI n) = n := nI_clamp h
theorem nI_sub1 {n : Nat} (h : 1 ≤ n) : nI n - 1 = nI (n - 1) := pk_sub (b := 1) h
theorem nI_sub1_toInt {n : Nat} (h : n < 2 ^ 30) : (nI n - 1).toInt = (n : Int) - 1 := pk_sub_toInt (b := 1) h (by decide)
theorem i64ne {x : Int32} (h : ¬ x = 0) : ¬ x.toInt64 = 0 := by
  intro e
  have := congrArg Int64.toInt e
  rw [Int32.toInt_toInt64] at this
  exact h (Int32.toInt_inj.mp this)
theorem nat_of_in {p : Int32} {a b : Int} (h1 : a ≤ p.toInt) (h2 : p.toInt ≤ b) (ha : 0 ≤ a) : ∃ t : Nat, (a ≤ (t : Int) ∧ (t : Int) ≤ b) ∧ p = nI t := by
  obtain ⟨j, hj, e⟩ := nI_of (x := p) (by rw [Int32.lt_iff_toInt_lt]; show ¬ p.toInt < 0; omega)
  have := nI_toInt hj
  rw [← e] at this
  exact ⟨j, ⟨by omega, by omega⟩, e⟩
def f5_in (p1 : Int64) (p2 : Int64) (p3 : Int64) : Int32 :=
  if (lg_cmp p1 p2) < 0 then 0
  else if 0 < (lg_cmp p1 p3) then 0
  else 1
set_option maxHeartbeats 4000000 in
set_option maxRecDepth 100000 in
theorem k5_in (l : Launch) (D : va_G) (ty : List (ClassId × FieldType)) (a : Nat → Nat) (cI : ClassId) (ht0 : ty[0]? = some (cI, .int)) (s0 : Int32) (s1 : Int32) (a2 : Nat → Int32) (a3 : Nat → Int32) (a4 : Nat → Int32) (a5 : Nat → Int32) (a6 : Nat → Int32) (a7 : Nat → Int32) (a8 : Nat → Int32) (a9 : Nat → Int32) (s10 : Int32) (s11 : Int32) (s12 : Int32) (a13 : Nat → Int32) (a14 : Nat → Int32) (a15 : Nat → Int32) (a16 : Nat → Int32) (a17 : Nat → Int32) (a18 : Nat → Int32) (a19 : Nat → Int32) (a20 : Nat → Int32) (a21 : Nat → Int32) (s22 : Int32) (p1 : Int64) (p2 : Int64) (p3 : Int64) : MetG l yX5_in wsX5_in { frames := 0, cells := 0, slots := 0, locals := 0 } D ty [.long (p1), .long (p2), .long (p3)] (MW a cI s0 s1 a2 a3 a4 a5 a6 a7 a8 a9 s10 s11 s12 a13 a14 a15 a16 a17 a18 a19 a20 a21 s22) (va_Qi (fun r w => r = f5_in p1 p2 p3 ∧ w = MW a cI s0 s1 a2 a3 a4 a5 a6 a7 a8 a9 s10 s11 s12 a13 a14 a15 a16 a17 a18 a19 a20 a21 s22)) 0 0 := by
  refine Met_start cX5_in 6 (some .boolean) (by decide) rfl (Nat.le_of_ble_eq_true rfl) ?_
  intro p e s m below meth c A ls hx hb hr hlocks hml hnm hts hown hw hl
  have hl : lv_has ls 6 [(0, .long (p1)), (2, .long (p2)), (4, .long (p3))] := hl
  refine lv_lload_n hx hb dX5_in_0 rfl (lv_at hl 0 rfl) ?_
  refine lv_lload_n hx hb dX5_in_1 rfl (lv_at hl 1 rfl) ?_
  refine W.lcmp hx hb dX5_in_2 ?_
  refine lv_if_lt (tgt := 17) hx hb dX5_in_3 (by decide) (fun c_3 => ?_) (fun c_3 => ?_)
  · refine lv_iconst (v := 0) hx hb dX5_in_17 (by decide) ?_
    have e9 : f5_in p1 p2 p3 = 0 := by unfold f5_in; rw [if_pos c_3]
    exact r_zret hx hb hr hlocks (Or.inl rfl) hw ⟨by rw [e9] <;> rfl, rfl⟩ dX5_in_18
  · refine lv_lload_n hx hb dX5_in_6 rfl (lv_at hl 0 rfl) ?_
    refine lv_lload hx hb dX5_in_7 (lv_at hl 2 rfl) ?_
    refine W.lcmp hx hb dX5_in_9 ?_
    refine lv_if_gt (tgt := 17) hx hb dX5_in_10 (by decide) (fun c_10 => ?_) (fun c_10 => ?_)
    · refine lv_iconst (v := 0) hx hb dX5_in_17 (by decide) ?_
      have e9 : f5_in p1 p2 p3 = 0 := by unfold f5_in; rw [if_neg c_3, if_pos c_10]
      exact r_zret hx hb hr hlocks (Or.inl rfl) hw ⟨by rw [e9] <;> rfl, rfl⟩ dX5_in_18
    · refine lv_iconst (v := 1) hx hb dX5_in_13 (by decide) ?_
      refine lv_goto (tgt := 18) hx hb dX5_in_14 (by decide) ?_
      have e9 : f5_in p1 p2 p3 = 1 := by unfold f5_in; rw [if_neg c_3, if_neg c_10]
      exact r_zret hx hb hr hlocks (Or.inr rfl) hw ⟨by rw [e9] <;> rfl, rfl⟩ dX5_in_18
theorem in_iff {x lo hi : Int64} : ¬ f5_in x lo hi = 0 ↔ lo.toInt ≤ x.toInt ∧ x.toInt ≤ hi.toInt := by
  unfold f5_in
  simp only [lg_cmp_lt, lg_cmp_gt, Int64.lt_iff_toInt_lt]
  by_cases h1 : x.toInt < lo.toInt
  · rw [if_pos h1]; constructor
    · intro h; exact absurd rfl h
    · intro h; omega
  · rw [if_neg h1]
    by_cases h2 : hi.toInt < x.toInt
    · rw [if_pos h2]; constructor
      · intro h; exact absurd rfl h
      · intro h; omega
    · rw [if_neg h2]; constructor
      · intro _; omega
      · intro _; decide
theorem in_b {x lo hi : Int64} : f5_in x lo hi = 0 ∨ f5_in x lo hi = 1 := by
  unfold f5_in
  split
  · exact Or.inl rfl
  · split
    · exact Or.inl rfl
    · exact Or.inr rfl
theorem in_i {p : Int32} {lo hi : Int64} (h : ¬ f5_in p.toInt64 lo hi = 0) : lo.toInt ≤ p.toInt ∧ p.toInt ≤ hi.toInt := by
  have := in_iff.mp h
  rw [Int32.toInt_toInt64] at this
  exact this
theorem in_nat {p : Int32} {lo hi : Int64} (a b : Nat) (h : ¬ f5_in p.toInt64 lo hi = 0) (hlo : lo.toInt = a) (hhi : hi.toInt = b) : ∃ t : Nat, (a ≤ t ∧ t ≤ b) ∧ p = nI t := by
  have := in_i h
  obtain ⟨t, ht, e⟩ := nat_of_in (p := p) (a := a) (b := b) (by omega) (by omega) (by omega)
  exact ⟨t, ⟨by omega, by omega⟩, e⟩
theorem in_vp {p : Int32} {hi : Int64} (n : Nat) (h : ¬ f5_in p.toInt64 0 hi = 0) (hhi : hi.toInt + 1 = n) : vp_in p n := by
  have := in_i h
  have e : (0 : Int64).toInt = 0 := rfl
  rw [vp_in_iff]; omega
def f5_noAccount (p1 : Int32) : Int32 :=
  if (f5_in p1.toInt64 0 5) = 0 then 1
  else 0
set_option maxHeartbeats 4000000 in
set_option maxRecDepth 100000 in
theorem k5_noAccount (l : Launch) (D : va_G) (ty : List (ClassId × FieldType)) (a : Nat → Nat) (cI : ClassId) (ht0 : ty[0]? = some (cI, .int)) (s0 : Int32) (s1 : Int32) (a2 : Nat → Int32) (a3 : Nat → Int32) (a4 : Nat → Int32) (a5 : Nat → Int32) (a6 : Nat → Int32) (a7 : Nat → Int32) (a8 : Nat → Int32) (a9 : Nat → Int32) (s10 : Int32) (s11 : Int32) (s12 : Int32) (a13 : Nat → Int32) (a14 : Nat → Int32) (a15 : Nat → Int32) (a16 : Nat → Int32) (a17 : Nat → Int32) (a18 : Nat → Int32) (a19 : Nat → Int32) (a20 : Nat → Int32) (a21 : Nat → Int32) (s22 : Int32) (p1 : Int32) : MetG l yX5_noAccount wsX5_noAccount { frames := 1, cells := 0, slots := 0, locals := 25 } D ty [.ref (a 0), .int (p1)] (MW a cI s0 s1 a2 a3 a4 a5 a6 a7 a8 a9 s10 s11 s12 a13 a14 a15 a16 a17 a18 a19 a20 a21 s22) (va_Qi (fun r w => r = f5_noAccount p1 ∧ w = MW a cI s0 s1 a2 a3 a4 a5 a6 a7 a8 a9 s10 s11 s12 a13 a14 a15 a16 a17 a18 a19 a20 a21 s22)) 0 0 := by
  refine Met_start cX5_noAccount 2 (some .boolean) (by decide) rfl (Nat.le_of_ble_eq_true rfl) ?_
  intro p e s m below meth c A ls hx hb hr hlocks hml hnm hts hown hw hl
  have hl : lv_has ls 2 [(0, .ref (a 0)), (1, .int (p1))] := hl
  have ci81 := hts (.constantLong RX5 81 (5)) (by decide +kernel)
  refine lv_iload_n hx hb dX5_noAccount_0 rfl (lv_at hl 1 rfl) ?_
  refine lv_i2l (v := p1.toInt64) hx hb dX5_noAccount_1 rfl ?_
  refine lv_lconst (v := 0) hx hb dX5_noAccount_2 (by decide) ?_
  refine lv_ldc2 (v := 5) hx hb hown ci81 dX5_noAccount_3 ?_
  refine r_callSi (rest := []) ⟨hx, hb, hml, hown, hts⟩ hw [.long (p1.toInt64), .long (0), .long (5)] (k5_in l D ty a cI ht0 s0 s1 a2 a3 a4 a5 a6 a7 a8 a9 s10 s11 s12 a13 a14 a15 a16 a17 a18 a19 a20 a21 s22 p1.toInt64 0 5) (va_cwS 3 hts gX5_noAccount_X5_in rfl rfl rfl (by decide +kernel) ⟨Nat.le_of_ble_eq_true rfl, Nat.le_of_ble_eq_true rfl⟩) rfl hl.1 rfl (Nat.le_of_ble_eq_true rfl) dX5_noAccount_6 ⟨Nat.le_of_ble_eq_true rfl, Nat.le_of_ble_eq_true rfl⟩ (fun r w H locs hp hw => ?_)
  obtain ⟨rfl, rfl⟩ := hp
  refine lv_if_ne (tgt := 16) hx hb dX5_noAccount_9 (by decide) (fun c_9 => ?_) (fun c_9 => ?_)
  · refine lv_iconst (v := 0) hx hb dX5_noAccount_16 (by decide) ?_
    have e9 : f5_noAccount p1 = 0 := by unfold f5_noAccount; rw [if_neg c_9]
    exact r_zret hx hb hr hlocks (Or.inl rfl) hw ⟨by rw [e9] <;> rfl, rfl⟩ dX5_noAccount_17
  · refine lv_iconst (v := 1) hx hb dX5_noAccount_12 (by decide) ?_
    refine lv_goto (tgt := 17) hx hb dX5_noAccount_13 (by decide) ?_
    have e9 : f5_noAccount p1 = 1 := by unfold f5_noAccount; rw [if_pos c_9]
    exact r_zret hx hb hr hlocks (Or.inr rfl) hw ⟨by rw [e9] <;> rfl, rfl⟩ dX5_noAccount_17
def f5_noObject (s12 : Int32) (p1 : Int32) : Int32 :=
  if (f5_in p1.toInt64 0 ((s12 - 1).toInt64)) = 0 then 1
  else 0
set_option maxHeartbeats 4000000 in
set_option maxRecDepth 100000 in
theorem k5_noObject (l : Launch) (D : va_G) (ty : List (ClassId × FieldType)) (a : Nat → Nat) (cI : ClassId) (ht0 : ty[0]? = some (cI, .int)) (s0 : Int32) (s1 : Int32) (a2 : Nat → Int32) (a3 : Nat → Int32) (a4 : Nat → Int32) (a5 : Nat → Int32) (a6 : Nat → Int32) (a7 : Nat → Int32) (a8 : Nat → Int32) (a9 : Nat → Int32) (s10 : Int32) (s11 : Int32) (s12 : Int32) (a13 : Nat → Int32) (a14 : Nat → Int32) (a15 : Nat → Int32) (a16 : Nat → Int32) (a17 : Nat → Int32) (a18 : Nat → Int32) (a19 : Nat → Int32) (a20 : Nat → Int32) (a21 : Nat → Int32) (s22 : Int32) (p1 : Int32) : MetG l yX5_noObject wsX5_noObject { frames := 1, cells := 0, slots := 0, locals := 25 } D ty [.ref (a 0), .int (p1)] (MW a cI s0 s1 a2 a3 a4 a5 a6 a7 a8 a9 s10 s11 s12 a13 a14 a15 a16 a17 a18 a19 a20 a21 s22) (va_Qi (fun r w => r = f5_noObject s12 p1 ∧ w = MW a cI s0 s1 a2 a3 a4 a5 a6 a7 a8 a9 s10 s11 s12 a13 a14 a15 a16 a17 a18 a19 a20 a21 s22)) 0 0 := by
  refine Met_start cX5_noObject 2 (some .boolean) (by decide) rfl (Nat.le_of_ble_eq_true rfl) ?_
  intro p e s m below meth c A ls hx hb hr hlocks hml hnm hts hown hw hl
  have hl : lv_has ls 2 [(0, .ref (a 0)), (1, .int (p1))] := hl
  have i5 : ∀ w ∈ wsX50, w ∈ wsX5_noObject := fun _ h => List.mem_cons_of_mem _ (List.mem_append_right _ h)
  have lk78 := hts (.fieldLink RX5 78 "RentSizesModel" "objects" "I") (by decide +kernel)
  refine lv_iload_n hx hb dX5_noObject_0 rfl (lv_at hl 1 rfl) ?_
  refine lv_i2l (v := p1.toInt64) hx hb dX5_noObject_1 rfl ?_
  refine lv_lconst (v := 0) hx hb dX5_noObject_2 (by decide) ?_
  refine lv_aload_n hx hb dX5_noObject_3 rfl (lv_at hl 0 rfl) ?_
  refine r_get (C := RX5) (T := TX5) (v := .int (s12)) hx hb hts i5 hown hw 0 rfl rfl 12 (by decide) lk78 rfl dX5_noObject_4 ?_
  refine lv_iconst (v := 1) hx hb dX5_noObject_7 (by decide) ?_
  refine lv_isub hx hb dX5_noObject_8 ?_
  refine lv_i2l (v := (s12 - 1).toInt64) hx hb dX5_noObject_9 rfl ?_
  refine r_callSi (rest := []) ⟨hx, hb, hml, hown, hts⟩ hw [.long (p1.toInt64), .long (0), .long ((s12 - 1).toInt64)] (k5_in l D ty a cI ht0 s0 s1 a2 a3 a4 a5 a6 a7 a8 a9 s10 s11 s12 a13 a14 a15 a16 a17 a18 a19 a20 a21 s22 p1.toInt64 0 ((s12 - 1).toInt64)) (va_cwS 3 hts gX5_noObject_X5_in rfl rfl rfl (by decide +kernel) ⟨Nat.le_of_ble_eq_true rfl, Nat.le_of_ble_eq_true rfl⟩) rfl hl.1 rfl (Nat.le_of_ble_eq_true rfl) dX5_noObject_10 ⟨Nat.le_of_ble_eq_true rfl, Nat.le_of_ble_eq_true rfl⟩ (fun r w H locs hp hw => ?_)
  obtain ⟨rfl, rfl⟩ := hp
  refine lv_if_ne (tgt := 20) hx hb dX5_noObject_13 (by decide) (fun c_13 => ?_) (fun c_13 => ?_)
  · refine lv_iconst (v := 0) hx hb dX5_noObject_20 (by decide) ?_
    have e9 : f5_noObject s12 p1 = 0 := by unfold f5_noObject; rw [if_neg c_13]
    exact r_zret hx hb hr hlocks (Or.inl rfl) hw ⟨by rw [e9] <;> rfl, rfl⟩ dX5_noObject_21
  · refine lv_iconst (v := 1) hx hb dX5_noObject_16 (by decide) ?_
    refine lv_goto (tgt := 21) hx hb dX5_noObject_17 (by decide) ?_
    have e9 : f5_noObject s12 p1 = 1 := by unfold f5_noObject; rw [if_pos c_13]
    exact r_zret hx hb hr hlocks (Or.inr rfl) hw ⟨by rw [e9] <;> rfl, rfl⟩ dX5_noObject_21
theorem na_in {p1 : Int32} (h : f5_noAccount p1 = 0) : vp_in p1 6 := by
  unfold f5_noAccount at h
  by_cases c : f5_in p1.toInt64 0 5 = 0
  · rw [if_pos c] at h; exact absurd h (by decide)
  · exact in_vp 6 c rfl
theorem no_in {s12 p1 : Int32} (h : f5_noObject s12 p1 = 0) (hob : s12 = nI (tn s12)) (hob2 : tn s12 ≤ 60) : ∃ x : Nat, x < tn s12 ∧ p1 = nI x := by
  unfold f5_noObject at h
  by_cases c : f5_in p1.toInt64 0 ((s12 - 1).toInt64) = 0
  · rw [if_pos c] at h; exact absurd h (by decide)
  · have q := in_i c
    have e2 := nI_sub1_toInt (n := tn s12) (by omega)
    rw [← hob] at e2
    rw [Int32.toInt_toInt64, e2] at q
    have e : (0 : Int64).toInt = 0 := rfl
    obtain ⟨t, ht, e⟩ := nat_of_in (p := p1) (a := 0) (b := (tn s12 : Int) - 1) (by omega) (by omega) (by omega)
    exact ⟨t, by omega, e⟩
def f5_cap (a7 : Nat → Int32) (p1 : Int32) (p2 : Int32) : Int32 × (Nat → Int32) :=
  if (f5_noAccount p1) = 0 then (if (f5_in p2.toInt64 0 5000) = 0 then ((-102), a7)
    else (a7 (tn (p1)), upd a7 (tn (p1)) p2))
  else ((-101), a7)
set_option maxHeartbeats 4000000 in
set_option maxRecDepth 100000 in
theorem k5_cap (l : Launch) (D : va_G) (ty : List (ClassId × FieldType)) (a : Nat → Nat) (cI : ClassId) (ht0 : ty[0]? = some (cI, .int)) (s0 : Int32) (s1 : Int32) (a2 : Nat → Int32) (a3 : Nat → Int32) (a4 : Nat → Int32) (a5 : Nat → Int32) (a6 : Nat → Int32) (a7 : Nat → Int32) (a8 : Nat → Int32) (a9 : Nat → Int32) (s10 : Int32) (s11 : Int32) (s12 : Int32) (a13 : Nat → Int32) (a14 : Nat → Int32) (a15 : Nat → Int32) (a16 : Nat → Int32) (a17 : Nat → Int32) (a18 : Nat → Int32) (a19 : Nat → Int32) (a20 : Nat → Int32) (a21 : Nat → Int32) (s22 : Int32) (p1 : Int32) (p2 : Int32) : MetG l yX5_cap wsX5_cap { frames := 2, cells := 0, slots := 0, locals := 46 } D ty [.ref (a 0), .int (p1), .int (p2)] (MW a cI s0 s1 a2 a3 a4 a5 a6 a7 a8 a9 s10 s11 s12 a13 a14 a15 a16 a17 a18 a19 a20 a21 s22) (va_Qi (fun r w => r = (f5_cap a7 p1 p2).1 ∧ w = MW a cI s0 s1 a2 a3 a4 a5 a6 ((f5_cap a7 p1 p2).2) a8 a9 s10 s11 s12 a13 a14 a15 a16 a17 a18 a19 a20 a21 s22)) 0 0 := by
  refine Met_start cX5_cap 4 (some .int) (by decide) rfl (Nat.le_of_ble_eq_true rfl) ?_
  intro p e s m below meth c A ls hx hb hr hlocks hml hnm hts hown hw hl
  have hl : lv_has ls 4 [(0, .ref (a 0)), (1, .int (p1)), (2, .int (p2))] := hl
  have ci105 := hts (.constantLong RX5 105 (5000)) (by decide +kernel)
  have i5 : ∀ w ∈ wsX50, w ∈ wsX5_cap := fun _ h => List.mem_cons_of_mem _ (List.mem_append_right _ h)
  have lk25 := hts (.fieldLink RX5 25 "RentSizesModel" "caps" "[I") (by decide +kernel)
  refine lv_aload_n hx hb dX5_cap_0 rfl (lv_at hl 0 rfl) ?_
  refine lv_iload_n hx hb dX5_cap_1 rfl (lv_at hl 1 rfl) ?_
  refine r_callVi 0 rfl rfl (rest := []) ⟨hx, hb, hml, hown, hts⟩ hw [.int (p1)] (k5_noAccount l D ty a cI ht0 s0 s1 a2 a3 a4 a5 a6 a7 a8 a9 s10 s11 s12 a13 a14 a15 a16 a17 a18 a19 a20 a21 s22 p1) (cwV 1 hts gX5_cap_X5_noAccount rfl rfl rfl (by decide +kernel) ⟨Nat.le_of_ble_eq_true rfl, Nat.le_of_ble_eq_true rfl⟩) rfl hl.1 rfl (Nat.le_of_ble_eq_true rfl) dX5_cap_2 ⟨Nat.le_of_ble_eq_true rfl, Nat.le_of_ble_eq_true rfl⟩ (fun r w H locs hp hw => ?_)
  obtain ⟨rfl, rfl⟩ := hp
  refine lv_if_eq (tgt := 11) hx hb dX5_cap_5 (by decide) (fun c_5 => ?_) (fun c_5 => ?_)
  · refine lv_iload_n hx hb dX5_cap_11 rfl (lv_at hl 2 rfl) ?_
    refine lv_i2l (v := p2.toInt64) hx hb dX5_cap_12 rfl ?_
    refine lv_lconst (v := 0) hx hb dX5_cap_13 (by decide) ?_
    refine lv_ldc2 (v := 5000) hx hb hown ci105 dX5_cap_14 ?_
    refine r_callSi (rest := []) ⟨hx, hb, hml, hown, hts⟩ hw [.long (p2.toInt64), .long (0), .long (5000)] (k5_in l D ty a cI ht0 s0 s1 a2 a3 a4 a5 a6 a7 a8 a9 s10 s11 s12 a13 a14 a15 a16 a17 a18 a19 a20 a21 s22 p2.toInt64 0 5000) (va_cwS 3 hts gX5_cap_X5_in rfl rfl rfl (by decide +kernel) ⟨Nat.le_of_ble_eq_true rfl, Nat.le_of_ble_eq_true rfl⟩) rfl hl.1 rfl (Nat.le_of_ble_eq_true rfl) dX5_cap_17 ⟨Nat.le_of_ble_eq_true rfl, Nat.le_of_ble_eq_true rfl⟩ (fun r w H locs hp hw => ?_)
    obtain ⟨rfl, rfl⟩ := hp
    refine lv_if_ne (tgt := 26) hx hb dX5_cap_20 (by decide) (fun c_20 => ?_) (fun c_20 => ?_)
    · refine lv_aload_n hx hb dX5_cap_26 rfl (lv_at hl 0 rfl) ?_
      refine r_get (C := RX5) (T := TX5) (v := .ref (a 7)) hx hb hts i5 hown hw 0 rfl rfl 7 (by decide) lk25 rfl dX5_cap_27 ?_
      have hv := na_in c_5
      refine lv_iload_n hx hb dX5_cap_30 rfl (lv_at hl 1 rfl) ?_
      refine r_iald (v := a7 (tn (p1))) hx hb hw 6 rfl ht0 (by first | assumption | exact vp_in_nI (by omega) (by omega)) dX5_cap_31 rfl ?_
      refine lv_istore_n (lv' := [(3, .int (a7 (tn (p1)))), (0, .ref (a 0)), (1, .int (p1)), (2, .int (p2))]) hx hb dX5_cap_32 rfl hl (by decide) rfl (fun ls hl => ?_)
      refine lv_aload_n hx hb dX5_cap_33 rfl (lv_at hl 1 rfl) ?_
      refine r_get (C := RX5) (T := TX5) (v := .ref (a 7)) hx hb hts i5 hown hw 0 rfl rfl 7 (by decide) lk25 rfl dX5_cap_34 ?_
      refine lv_iload_n hx hb dX5_cap_37 rfl (lv_at hl 2 rfl) ?_
      refine lv_iload_n hx hb dX5_cap_38 rfl (lv_at hl 3 rfl) ?_
      refine r_iast (ws' := MW a cI s0 s1 a2 a3 a4 a5 a6 (upd a7 (tn (p1)) p2) a8 a9 s10 s11 s12 a13 a14 a15 a16 a17 a18 a19 a20 a21 s22) hx hb hw 6 rfl ht0 (by first | assumption | exact vp_in_nI (by omega) (by omega)) (MW_u7 _) dX5_cap_39 (fun H locs hw => ?_)
      refine lv_iload_n hx hb dX5_cap_40 rfl (lv_at hl 0 rfl) ?_
      have e9 : f5_cap a7 p1 p2 = (a7 (tn (p1)), upd a7 (tn (p1)) p2) := by unfold f5_cap; rw [if_pos c_5, if_neg c_20]
      exact r_iret hx hb hr hlocks hw ⟨by rw [e9] <;> rfl, by rw [e9] <;> rfl⟩ dX5_cap_41
    · refine lv_bipush (v := (-102)) hx hb dX5_cap_23 (by decide) ?_
      have e9 : f5_cap a7 p1 p2 = ((-102), a7) := by unfold f5_cap; rw [if_pos c_5, if_pos c_20]
      exact r_iret hx hb hr hlocks hw ⟨by rw [e9] <;> rfl, by rw [e9] <;> rfl⟩ dX5_cap_25
  · refine lv_bipush (v := (-101)) hx hb dX5_cap_8 (by decide) ?_
    have e9 : f5_cap a7 p1 p2 = ((-101), a7) := by unfold f5_cap; rw [if_neg c_5]
    exact r_iret hx hb hr hlocks hw ⟨by rw [e9] <;> rfl, by rw [e9] <;> rfl⟩ dX5_cap_10
def lf5_editionAt_4 (a2 : Nat → Int32) (p1 : Int32) : Nat → Nat → Int32 → Int32
  | 0, _, v2 => v2
  | k + 1, j, v2 => if p1 < (a2 j) then lf5_editionAt_4 a2 p1 k (j + 1) v2
    else lf5_editionAt_4 a2 p1 k (j + 1) (nI (j))
set_option maxHeartbeats 4000000 in
set_option maxRecDepth 100000 in
theorem lt5_editionAt_4 (l : Launch) (D : va_G) (ty : List (ClassId × FieldType)) (a : Nat → Nat) (cI : ClassId) (ht0 : ty[0]? = some (cI, .int)) (s0 : Int32) (s1 : Int32) (a2 : Nat → Int32) (a3 : Nat → Int32) (a4 : Nat → Int32) (a5 : Nat → Int32) (a6 : Nat → Int32) (a7 : Nat → Int32) (a8 : Nat → Int32) (a9 : Nat → Int32) (s10 : Int32) (s11 : Int32) (s12 : Int32) (a13 : Nat → Int32) (a14 : Nat → Int32) (a15 : Nat → Int32) (a16 : Nat → Int32) (a17 : Nat → Int32) (a18 : Nat → Int32) (a19 : Nat → Int32) (a20 : Nat → Int32) (a21 : Nat → Int32) (s22 : Int32) (p1 : Int32) (he0 : s1 = nI (tn s1)) (he1 : tn s1 ≤ 10)  {p : Program} {e : Env} {s : State} {m : MethodId} {args : Array Value} {below : List Frame} {meth : Method} {c : Code} {A : Nat → Prop} {H0 : Heap} {Q : State → Prop} (hx : p.tables.exec = Jvm.exec) (hb : c.code = cX5_editionAt) (hml : c.maxLocals = 4) (hts : ∀ w ∈ wsX5_editionAt, w.before args s = true) (hown : s.vm.findClass RX5 = some m.cls) : ∀ (k j : Nat) (v2 : Int32) (hj : j + k = tn s1) (H : Heap) (locs : List Loc) (ls : Array Slot) (hw : Wd D ty A H0 s (MW a cI s0 s1 a2 a3 a4 a5 a6 a7 a8 a9 s10 s11 s12 a13 a14 a15 a16 a17 a18 a19 a20 a21 s22) H locs) (hl : lv_has ls 4 [(3, .int (nI (j))), (2, .int (v2)), (0, .ref (a 0)), (1, .int (p1))]) (kk : ∀ (H1 : Heap) (locs1 : List Loc) (ls1 : Array Slot), Wd D ty A H0 s (MW a cI s0 s1 a2 a3 a4 a5 a6 a7 a8 a9 s10 s11 s12 a13 a14 a15 a16 a17 a18 a19 a20 a21 s22) H1 locs1 → lv_has ls1 4 [(3, .int (nI (tn s1))), (2, .int ((lf5_editionAt_4 a2 p1 k j v2))), (0, .ref (a 0)), (1, .int (p1))] → W p l e ({ frames := 0, cells := 0, slots := 0, locals := 0 } : Room) s m args below meth c H1 locs1 0 0 Q (F0 m 34 ls1 [])), W p l e ({ frames := 0, cells := 0, slots := 0, locals := 0 } : Room) s m args below meth c H locs 0 0 Q (F0 m 4 ls []) := by
  have i5 : ∀ w ∈ wsX50, w ∈ wsX5_editionAt := fun _ h => List.mem_cons_of_mem _ (List.mem_append_right _ h)
  have lk68 := hts (.fieldLink RX5 68 "RentSizesModel" "editions" "I") (by decide +kernel)
  have lk7 := hts (.fieldLink RX5 7 "RentSizesModel" "eFrom" "[I") (by decide +kernel)
  intro k
  induction k with
  | zero =>
    intro j v2 hj H locs ls hw hl kk
    have hj0 : j = tn s1 := by omega
    refine lv_iload_n hx hb dX5_editionAt_4 rfl (lv_at hl 0 rfl) ?_
    refine lv_aload_n hx hb dX5_editionAt_5 rfl (lv_at hl 2 rfl) ?_
    refine r_get (C := RX5) (T := TX5) (v := .int (s1)) hx hb hts i5 hown hw 0 rfl rfl 1 (by decide) lk68 rfl dX5_editionAt_6 ?_
    refine r_top (nI (tn s1)) he0 ?_
    refine lv_icmp_ge (tgt := 34) hx hb dX5_editionAt_9 (by decide) (fun c_9 => ?_) (fun c_9 => ?_)
    · rw [hj0] at hl
      exact kk _ _ _ hw (lv_sub hl [0, 1, 2, 3] rfl)
    · exact absurd (nI_le (by omega) (by omega)) c_9
  | succ k ih =>
    intro j v2 hj H locs ls hw hl kk
    have hjb : j < tn s1 := by omega
    refine lv_iload_n hx hb dX5_editionAt_4 rfl (lv_at hl 0 rfl) ?_
    refine lv_aload_n hx hb dX5_editionAt_5 rfl (lv_at hl 2 rfl) ?_
    refine r_get (C := RX5) (T := TX5) (v := .int (s1)) hx hb hts i5 hown hw 0 rfl rfl 1 (by decide) lk68 rfl dX5_editionAt_6 ?_
    refine r_top (nI (tn s1)) he0 ?_
    refine lv_icmp_ge (tgt := 34) hx hb dX5_editionAt_9 (by decide) (fun c_9 => ?_) (fun c_9 => ?_)
    · exact absurd c_9 (nI_ge (by omega) (by omega))
    · refine lv_aload_n hx hb dX5_editionAt_12 rfl (lv_at hl 2 rfl) ?_
      refine r_get (C := RX5) (T := TX5) (v := .ref (a 2)) hx hb hts i5 hown hw 0 rfl rfl 2 (by decide) lk7 rfl dX5_editionAt_13 ?_
      refine lv_iload_n hx hb dX5_editionAt_16 rfl (lv_at hl 0 rfl) ?_
      refine r_ialdN (v := a2 j) hx hb hw 1 rfl ht0 j (by omega) (by decide) dX5_editionAt_17 rfl ?_
      refine lv_iload_n hx hb dX5_editionAt_18 rfl (lv_at hl 3 rfl) ?_
      refine lv_icmp_gt (tgt := 26) hx hb dX5_editionAt_19 (by decide) (fun c_19 => ?_) (fun c_19 => ?_)
      · refine lv_iload_n hx hb dX5_editionAt_26 rfl (lv_at hl 1 rfl) ?_
        refine lv_istore_n (lv' := [(2, .int (v2)), (3, .int (nI (j))), (0, .ref (a 0)), (1, .int (p1))]) hx hb dX5_editionAt_27 rfl hl (by decide) rfl (fun ls hl => ?_)
        refine lv_iinc (v := nI (j + 1)) (lv' := [(3, .int (nI (j + 1))), (2, .int (v2)), (0, .ref (a 0)), (1, .int (p1))]) hx hb dX5_editionAt_28 hl (k := 1) rfl (by show nI (j) + 1 = _; exact nI_1 _) (by decide) rfl (fun ls hl => ?_)
        refine lv_goto (tgt := 4) hx hb dX5_editionAt_31 (by decide) ?_
        have e9 : lf5_editionAt_4 a2 p1 (k + 1) j v2 = lf5_editionAt_4 a2 p1 k (j + 1) v2 := by rw [lf5_editionAt_4]; rw [if_pos c_19]
        rw [e9] at kk
        exact ih (j + 1) v2 (by omega)  _ _ _ hw (lv_sub hl [0, 1, 2, 3] rfl) kk
      · refine lv_iload_n hx hb dX5_editionAt_22 rfl (lv_at hl 0 rfl) ?_
        refine lv_goto (tgt := 27) hx hb dX5_editionAt_23 (by decide) ?_
        refine lv_istore_n (lv' := [(2, .int (nI (j))), (3, .int (nI (j))), (0, .ref (a 0)), (1, .int (p1))]) hx hb dX5_editionAt_27 rfl hl (by decide) rfl (fun ls hl => ?_)
        refine lv_iinc (v := nI (j + 1)) (lv' := [(3, .int (nI (j + 1))), (2, .int (nI (j))), (0, .ref (a 0)), (1, .int (p1))]) hx hb dX5_editionAt_28 hl (k := 1) rfl (by show nI (j) + 1 = _; exact nI_1 _) (by decide) rfl (fun ls hl => ?_)
        refine lv_goto (tgt := 4) hx hb dX5_editionAt_31 (by decide) ?_
        have e9 : lf5_editionAt_4 a2 p1 (k + 1) j v2 = lf5_editionAt_4 a2 p1 k (j + 1) (nI (j)) := by rw [lf5_editionAt_4]; rw [if_neg c_19]
        rw [e9] at kk
        exact ih (j + 1) (nI (j)) (by omega)  _ _ _ hw (lv_sub hl [0, 1, 2, 3] rfl) kk
def f5_editionAt (s1 : Int32) (a2 : Nat → Int32) (p1 : Int32) : Int32 :=
  (lf5_editionAt_4 a2 p1 (tn s1) 0 0)
set_option maxHeartbeats 4000000 in
set_option maxRecDepth 100000 in
theorem k5_editionAt (l : Launch) (D : va_G) (ty : List (ClassId × FieldType)) (a : Nat → Nat) (cI : ClassId) (ht0 : ty[0]? = some (cI, .int)) (s0 : Int32) (s1 : Int32) (a2 : Nat → Int32) (a3 : Nat → Int32) (a4 : Nat → Int32) (a5 : Nat → Int32) (a6 : Nat → Int32) (a7 : Nat → Int32) (a8 : Nat → Int32) (a9 : Nat → Int32) (s10 : Int32) (s11 : Int32) (s12 : Int32) (a13 : Nat → Int32) (a14 : Nat → Int32) (a15 : Nat → Int32) (a16 : Nat → Int32) (a17 : Nat → Int32) (a18 : Nat → Int32) (a19 : Nat → Int32) (a20 : Nat → Int32) (a21 : Nat → Int32) (s22 : Int32) (p1 : Int32) (he0 : s1 = nI (tn s1)) (he1 : tn s1 ≤ 10) : MetG l yX5_editionAt wsX5_editionAt { frames := 0, cells := 0, slots := 0, locals := 0 } D ty [.ref (a 0), .int (p1)] (MW a cI s0 s1 a2 a3 a4 a5 a6 a7 a8 a9 s10 s11 s12 a13 a14 a15 a16 a17 a18 a19 a20 a21 s22) (va_Qi (fun r w => r = f5_editionAt s1 a2 p1 ∧ w = MW a cI s0 s1 a2 a3 a4 a5 a6 a7 a8 a9 s10 s11 s12 a13 a14 a15 a16 a17 a18 a19 a20 a21 s22)) 0 0 := by
  refine Met_start cX5_editionAt 4 (some .int) (by decide) rfl (Nat.le_of_ble_eq_true rfl) ?_
  intro p e s m below meth c A ls hx hb hr hlocks hml hnm hts hown hw hl
  have hl : lv_has ls 4 [(0, .ref (a 0)), (1, .int (p1))] := hl
  refine lv_iconst (v := 0) hx hb dX5_editionAt_0 (by decide) ?_
  refine lv_istore_n (lv' := [(2, .int (0)), (0, .ref (a 0)), (1, .int (p1))]) hx hb dX5_editionAt_1 rfl hl (by decide) rfl (fun ls hl => ?_)
  refine lv_iconst (v := 0) hx hb dX5_editionAt_2 (by decide) ?_
  refine lv_istore_n (lv' := [(3, .int (0)), (2, .int (0)), (0, .ref (a 0)), (1, .int (p1))]) hx hb dX5_editionAt_3 rfl hl (by decide) rfl (fun ls hl => ?_)
  refine lt5_editionAt_4 l D ty a cI ht0 s0 s1 a2 a3 a4 a5 a6 a7 a8 a9 s10 s11 s12 a13 a14 a15 a16 a17 a18 a19 a20 a21 s22 p1 he0 he1  hx hb hml hts hown (tn s1) 0 0 (by omega)  _ _ _ hw hl (fun H locs ls hw hl => ?_)
  refine lv_iload_n hx hb dX5_editionAt_34 rfl (lv_at hl 1 rfl) ?_
  have e9 : f5_editionAt s1 a2 p1 = (lf5_editionAt_4 a2 p1 (tn s1) 0 0) := by unfold f5_editionAt; rfl
  exact r_iret hx hb hr hlocks hw ⟨by rw [e9] <;> rfl, rfl⟩ dX5_editionAt_35
theorem ea_lf (a2 : Nat → Int32) (p1 : Int32) : ∀ (k j : Nat) (v2 : Int32), (∃ e, e < 10 ∧ v2 = nI e) → j + k ≤ 10 → ∃ e, e < 10 ∧ lf5_editionAt_4 a2 p1 k j v2 = nI e
  | 0, _, _, h, _ => h
  | k + 1, j, v2, h, hj => by
    rw [lf5_editionAt_4]
    split
    · exact ea_lf a2 p1 k (j + 1) _ h (by omega)
    · exact ea_lf a2 p1 k (j + 1) _ ⟨j, by omega, rfl⟩ (by omega)
theorem ea_nat {s1 : Int32} {a2 : Nat → Int32} (p1 : Int32) (h : tn s1 ≤ 10) : ∃ e, e < 10 ∧ f5_editionAt s1 a2 p1 = nI e := ea_lf a2 p1 _ 0 0 ⟨0, by omega, rfl⟩ (by omega)
theorem ea_in {s1 : Int32} {a2 : Nat → Int32} (p1 : Int32) (h : tn s1 ≤ 10) : vp_in (f5_editionAt s1 a2 p1) 10 := by
  obtain ⟨e, he, q⟩ := ea_nat (a2 := a2) p1 h
  rw [q]; exact vp_in_nI he (by decide)
def f5_price (s0 : Int32) (s1 : Int32) (a2 : Nat → Int32) (a3 : Nat → Int32) : Int32 :=
  a3 (tn (f5_editionAt s1 a2 s0))
set_option maxHeartbeats 4000000 in
set_option maxRecDepth 100000 in
theorem k5_price (l : Launch) (D : va_G) (ty : List (ClassId × FieldType)) (a : Nat → Nat) (cI : ClassId) (ht0 : ty[0]? = some (cI, .int)) (s0 : Int32) (s1 : Int32) (a2 : Nat → Int32) (a3 : Nat → Int32) (a4 : Nat → Int32) (a5 : Nat → Int32) (a6 : Nat → Int32) (a7 : Nat → Int32) (a8 : Nat → Int32) (a9 : Nat → Int32) (s10 : Int32) (s11 : Int32) (s12 : Int32) (a13 : Nat → Int32) (a14 : Nat → Int32) (a15 : Nat → Int32) (a16 : Nat → Int32) (a17 : Nat → Int32) (a18 : Nat → Int32) (a19 : Nat → Int32) (a20 : Nat → Int32) (a21 : Nat → Int32) (s22 : Int32) (he0 : s1 = nI (tn s1)) (he1 : tn s1 ≤ 10) : MetG l yX5_price wsX5_price { frames := 1, cells := 0, slots := 0, locals := 23 } D ty [.ref (a 0)] (MW a cI s0 s1 a2 a3 a4 a5 a6 a7 a8 a9 s10 s11 s12 a13 a14 a15 a16 a17 a18 a19 a20 a21 s22) (va_Qi (fun r w => r = f5_price s0 s1 a2 a3 ∧ w = MW a cI s0 s1 a2 a3 a4 a5 a6 a7 a8 a9 s10 s11 s12 a13 a14 a15 a16 a17 a18 a19 a20 a21 s22)) 0 0 := by
  refine Met_start cX5_price 1 (some .int) (by decide) rfl (Nat.le_of_ble_eq_true rfl) ?_
  intro p e s m below meth c A ls hx hb hr hlocks hml hnm hts hown hw hl
  have hl : lv_has ls 1 [(0, .ref (a 0))] := hl
  have i5 : ∀ w ∈ wsX50, w ∈ wsX5_price := fun _ h => List.mem_cons_of_mem _ (List.mem_append_right _ h)
  have lk13 := hts (.fieldLink RX5 13 "RentSizesModel" "ePrice" "[I") (by decide +kernel)
  have lk64 := hts (.fieldLink RX5 64 "RentSizesModel" "height" "I") (by decide +kernel)
  refine lv_aload_n hx hb dX5_price_0 rfl (lv_at hl 0 rfl) ?_
  refine r_get (C := RX5) (T := TX5) (v := .ref (a 3)) hx hb hts i5 hown hw 0 rfl rfl 3 (by decide) lk13 rfl dX5_price_1 ?_
  refine lv_aload_n hx hb dX5_price_4 rfl (lv_at hl 0 rfl) ?_
  refine lv_aload_n hx hb dX5_price_5 rfl (lv_at hl 0 rfl) ?_
  refine r_get (C := RX5) (T := TX5) (v := .int (s0)) hx hb hts i5 hown hw 0 rfl rfl 0 (by decide) lk64 rfl dX5_price_6 ?_
  refine r_callVi 0 rfl rfl (rest := [.ref (a 3)]) ⟨hx, hb, hml, hown, hts⟩ hw [.int (s0)] (k5_editionAt l D ty a cI ht0 s0 s1 a2 a3 a4 a5 a6 a7 a8 a9 s10 s11 s12 a13 a14 a15 a16 a17 a18 a19 a20 a21 s22 s0 (by first | assumption | omega) (by first | assumption | omega)) (cwV 1 hts gX5_price_X5_editionAt rfl rfl rfl (by decide +kernel) ⟨Nat.le_of_ble_eq_true rfl, Nat.le_of_ble_eq_true rfl⟩) rfl hl.1 rfl (Nat.le_of_ble_eq_true rfl) dX5_price_9 ⟨Nat.le_of_ble_eq_true rfl, Nat.le_of_ble_eq_true rfl⟩ (fun r w H locs hp hw => ?_)
  obtain ⟨rfl, rfl⟩ := hp
  refine r_iald (v := a3 (tn (f5_editionAt s1 a2 s0))) hx hb hw 2 rfl ht0 (ea_in _ he1) dX5_price_12 rfl ?_
  have e9 : f5_price s0 s1 a2 a3 = a3 (tn (f5_editionAt s1 a2 s0)) := by unfold f5_price; rfl
  exact r_iret hx hb hr hlocks hw ⟨by rw [e9] <;> rfl, rfl⟩ dX5_price_13
def f5_rent (s0 : Int32) (s1 : Int32) (a2 : Nat → Int32) (a4 : Nat → Int32) : Int32 :=
  a4 (tn (f5_editionAt s1 a2 s0))
set_option maxHeartbeats 4000000 in
set_option maxRecDepth 100000 in
theorem k5_rent (l : Launch) (D : va_G) (ty : List (ClassId × FieldType)) (a : Nat → Nat) (cI : ClassId) (ht0 : ty[0]? = some (cI, .int)) (s0 : Int32) (s1 : Int32) (a2 : Nat → Int32) (a3 : Nat → Int32) (a4 : Nat → Int32) (a5 : Nat → Int32) (a6 : Nat → Int32) (a7 : Nat → Int32) (a8 : Nat → Int32) (a9 : Nat → Int32) (s10 : Int32) (s11 : Int32) (s12 : Int32) (a13 : Nat → Int32) (a14 : Nat → Int32) (a15 : Nat → Int32) (a16 : Nat → Int32) (a17 : Nat → Int32) (a18 : Nat → Int32) (a19 : Nat → Int32) (a20 : Nat → Int32) (a21 : Nat → Int32) (s22 : Int32) (he0 : s1 = nI (tn s1)) (he1 : tn s1 ≤ 10) : MetG l yX5_rent wsX5_rent { frames := 1, cells := 0, slots := 0, locals := 23 } D ty [.ref (a 0)] (MW a cI s0 s1 a2 a3 a4 a5 a6 a7 a8 a9 s10 s11 s12 a13 a14 a15 a16 a17 a18 a19 a20 a21 s22) (va_Qi (fun r w => r = f5_rent s0 s1 a2 a4 ∧ w = MW a cI s0 s1 a2 a3 a4 a5 a6 a7 a8 a9 s10 s11 s12 a13 a14 a15 a16 a17 a18 a19 a20 a21 s22)) 0 0 := by
  refine Met_start cX5_rent 1 (some .int) (by decide) rfl (Nat.le_of_ble_eq_true rfl) ?_
  intro p e s m below meth c A ls hx hb hr hlocks hml hnm hts hown hw hl
  have hl : lv_has ls 1 [(0, .ref (a 0))] := hl
  have i5 : ∀ w ∈ wsX50, w ∈ wsX5_rent := fun _ h => List.mem_cons_of_mem _ (List.mem_append_right _ h)
  have lk16 := hts (.fieldLink RX5 16 "RentSizesModel" "eRent" "[I") (by decide +kernel)
  have lk64 := hts (.fieldLink RX5 64 "RentSizesModel" "height" "I") (by decide +kernel)
  refine lv_aload_n hx hb dX5_rent_0 rfl (lv_at hl 0 rfl) ?_
  refine r_get (C := RX5) (T := TX5) (v := .ref (a 4)) hx hb hts i5 hown hw 0 rfl rfl 4 (by decide) lk16 rfl dX5_rent_1 ?_
  refine lv_aload_n hx hb dX5_rent_4 rfl (lv_at hl 0 rfl) ?_
  refine lv_aload_n hx hb dX5_rent_5 rfl (lv_at hl 0 rfl) ?_
  refine r_get (C := RX5) (T := TX5) (v := .int (s0)) hx hb hts i5 hown hw 0 rfl rfl 0 (by decide) lk64 rfl dX5_rent_6 ?_
  refine r_callVi 0 rfl rfl (rest := [.ref (a 4)]) ⟨hx, hb, hml, hown, hts⟩ hw [.int (s0)] (k5_editionAt l D ty a cI ht0 s0 s1 a2 a3 a4 a5 a6 a7 a8 a9 s10 s11 s12 a13 a14 a15 a16 a17 a18 a19 a20 a21 s22 s0 (by first | assumption | omega) (by first | assumption | omega)) (cwV 1 hts gX5_rent_X5_editionAt rfl rfl rfl (by decide +kernel) ⟨Nat.le_of_ble_eq_true rfl, Nat.le_of_ble_eq_true rfl⟩) rfl hl.1 rfl (Nat.le_of_ble_eq_true rfl) dX5_rent_9 ⟨Nat.le_of_ble_eq_true rfl, Nat.le_of_ble_eq_true rfl⟩ (fun r w H locs hp hw => ?_)
  obtain ⟨rfl, rfl⟩ := hp
  refine r_iald (v := a4 (tn (f5_editionAt s1 a2 s0))) hx hb hw 3 rfl ht0 (ea_in _ he1) dX5_rent_12 rfl ?_
  have e9 : f5_rent s0 s1 a2 a4 = a4 (tn (f5_editionAt s1 a2 s0)) := by unfold f5_rent; rfl
  exact r_iret hx hb hr hlocks hw ⟨by rw [e9] <;> rfl, rfl⟩ dX5_rent_13
def f5_charged (s0 : Int32) (s1 : Int32) (a2 : Nat → Int32) (a5 : Nat → Int32) (p1 : Int32) : Int32 :=
  if p1 ≤ (a5 (tn (f5_editionAt s1 a2 s0))) then a5 (tn (f5_editionAt s1 a2 s0))
  else p1
set_option maxHeartbeats 4000000 in
set_option maxRecDepth 100000 in
theorem k5_charged (l : Launch) (D : va_G) (ty : List (ClassId × FieldType)) (a : Nat → Nat) (cI : ClassId) (ht0 : ty[0]? = some (cI, .int)) (s0 : Int32) (s1 : Int32) (a2 : Nat → Int32) (a3 : Nat → Int32) (a4 : Nat → Int32) (a5 : Nat → Int32) (a6 : Nat → Int32) (a7 : Nat → Int32) (a8 : Nat → Int32) (a9 : Nat → Int32) (s10 : Int32) (s11 : Int32) (s12 : Int32) (a13 : Nat → Int32) (a14 : Nat → Int32) (a15 : Nat → Int32) (a16 : Nat → Int32) (a17 : Nat → Int32) (a18 : Nat → Int32) (a19 : Nat → Int32) (a20 : Nat → Int32) (a21 : Nat → Int32) (s22 : Int32) (p1 : Int32) (he0 : s1 = nI (tn s1)) (he1 : tn s1 ≤ 10) : MetG l yX5_charged wsX5_charged { frames := 1, cells := 0, slots := 0, locals := 23 } D ty [.ref (a 0), .int (p1)] (MW a cI s0 s1 a2 a3 a4 a5 a6 a7 a8 a9 s10 s11 s12 a13 a14 a15 a16 a17 a18 a19 a20 a21 s22) (va_Qi (fun r w => r = f5_charged s0 s1 a2 a5 p1 ∧ w = MW a cI s0 s1 a2 a3 a4 a5 a6 a7 a8 a9 s10 s11 s12 a13 a14 a15 a16 a17 a18 a19 a20 a21 s22)) 0 0 := by
  refine Met_start cX5_charged 3 (some .int) (by decide) rfl (Nat.le_of_ble_eq_true rfl) ?_
  intro p e s m below meth c A ls hx hb hr hlocks hml hnm hts hown hw hl
  have hl : lv_has ls 3 [(0, .ref (a 0)), (1, .int (p1))] := hl
  have i5 : ∀ w ∈ wsX50, w ∈ wsX5_charged := fun _ h => List.mem_cons_of_mem _ (List.mem_append_right _ h)
  have lk19 := hts (.fieldLink RX5 19 "RentSizesModel" "eLeast" "[I") (by decide +kernel)
  have lk64 := hts (.fieldLink RX5 64 "RentSizesModel" "height" "I") (by decide +kernel)
  refine lv_aload_n hx hb dX5_charged_0 rfl (lv_at hl 0 rfl) ?_
  refine r_get (C := RX5) (T := TX5) (v := .ref (a 5)) hx hb hts i5 hown hw 0 rfl rfl 5 (by decide) lk19 rfl dX5_charged_1 ?_
  refine lv_aload_n hx hb dX5_charged_4 rfl (lv_at hl 0 rfl) ?_
  refine lv_aload_n hx hb dX5_charged_5 rfl (lv_at hl 0 rfl) ?_
  refine r_get (C := RX5) (T := TX5) (v := .int (s0)) hx hb hts i5 hown hw 0 rfl rfl 0 (by decide) lk64 rfl dX5_charged_6 ?_
  refine r_callVi 0 rfl rfl (rest := [.ref (a 5)]) ⟨hx, hb, hml, hown, hts⟩ hw [.int (s0)] (k5_editionAt l D ty a cI ht0 s0 s1 a2 a3 a4 a5 a6 a7 a8 a9 s10 s11 s12 a13 a14 a15 a16 a17 a18 a19 a20 a21 s22 s0 (by first | assumption | omega) (by first | assumption | omega)) (cwV 1 hts gX5_charged_X5_editionAt rfl rfl rfl (by decide +kernel) ⟨Nat.le_of_ble_eq_true rfl, Nat.le_of_ble_eq_true rfl⟩) rfl hl.1 rfl (Nat.le_of_ble_eq_true rfl) dX5_charged_9 ⟨Nat.le_of_ble_eq_true rfl, Nat.le_of_ble_eq_true rfl⟩ (fun r w H locs hp hw => ?_)
  obtain ⟨rfl, rfl⟩ := hp
  refine r_iald (v := a5 (tn (f5_editionAt s1 a2 s0))) hx hb hw 4 rfl ht0 (ea_in _ he1) dX5_charged_12 rfl ?_
  refine lv_istore_n (lv' := [(2, .int (a5 (tn (f5_editionAt s1 a2 s0)))), (0, .ref (a 0)), (1, .int (p1))]) hx hb dX5_charged_13 rfl hl (by decide) rfl (fun ls hl => ?_)
  refine lv_iload_n hx hb dX5_charged_14 rfl (lv_at hl 2 rfl) ?_
  refine lv_iload_n hx hb dX5_charged_15 rfl (lv_at hl 0 rfl) ?_
  refine lv_icmp_le (tgt := 23) hx hb dX5_charged_16 (by decide) (fun c_16 => ?_) (fun c_16 => ?_)
  · refine lv_iload_n hx hb dX5_charged_23 rfl (lv_at hl 0 rfl) ?_
    have e9 : f5_charged s0 s1 a2 a5 p1 = a5 (tn (f5_editionAt s1 a2 s0)) := by unfold f5_charged; rw [if_pos c_16]
    exact r_iret hx hb hr hlocks hw ⟨by rw [e9] <;> rfl, rfl⟩ dX5_charged_24
  · refine lv_iload_n hx hb dX5_charged_19 rfl (lv_at hl 2 rfl) ?_
    refine lv_goto (tgt := 24) hx hb dX5_charged_20 (by decide) ?_
    have e9 : f5_charged s0 s1 a2 a5 p1 = p1 := by unfold f5_charged; rw [if_neg c_16]
    exact r_iret hx hb hr hlocks hw ⟨by rw [e9] <;> rfl, rfl⟩ dX5_charged_24
def f5_priceAt (s1 : Int32) (a2 : Nat → Int32) (a3 : Nat → Int32) (a4 : Nat → Int32) (a5 : Nat → Int32) (p1 : Int32) (p2 : Int32) : Int32 :=
  if (f5_in p1.toInt64 0 100000) = 0 then (-102)
  else if (f5_in p2.toInt64 0 3) = 0 then (-102)
  else if p2 = 0 then a3 (tn (f5_editionAt s1 a2 p1))
  else if p2 = 1 then a4 (tn (f5_editionAt s1 a2 p1))
  else if p2 = 2 then a5 (tn (f5_editionAt s1 a2 p1))
  else a2 (tn (f5_editionAt s1 a2 p1))
set_option maxHeartbeats 4000000 in
set_option maxRecDepth 100000 in
theorem k5_priceAt (l : Launch) (D : va_G) (ty : List (ClassId × FieldType)) (a : Nat → Nat) (cI : ClassId) (ht0 : ty[0]? = some (cI, .int)) (s0 : Int32) (s1 : Int32) (a2 : Nat → Int32) (a3 : Nat → Int32) (a4 : Nat → Int32) (a5 : Nat → Int32) (a6 : Nat → Int32) (a7 : Nat → Int32) (a8 : Nat → Int32) (a9 : Nat → Int32) (s10 : Int32) (s11 : Int32) (s12 : Int32) (a13 : Nat → Int32) (a14 : Nat → Int32) (a15 : Nat → Int32) (a16 : Nat → Int32) (a17 : Nat → Int32) (a18 : Nat → Int32) (a19 : Nat → Int32) (a20 : Nat → Int32) (a21 : Nat → Int32) (s22 : Int32) (p1 : Int32) (p2 : Int32) (he0 : s1 = nI (tn s1)) (he1 : tn s1 ≤ 10) : MetG l yX5_priceAt wsX5_priceAt { frames := 1, cells := 0, slots := 0, locals := 25 } D ty [.ref (a 0), .int (p1), .int (p2)] (MW a cI s0 s1 a2 a3 a4 a5 a6 a7 a8 a9 s10 s11 s12 a13 a14 a15 a16 a17 a18 a19 a20 a21 s22) (va_Qi (fun r w => r = f5_priceAt s1 a2 a3 a4 a5 p1 p2 ∧ w = MW a cI s0 s1 a2 a3 a4 a5 a6 a7 a8 a9 s10 s11 s12 a13 a14 a15 a16 a17 a18 a19 a20 a21 s22)) 0 0 := by
  refine Met_start cX5_priceAt 4 (some .int) (by decide) rfl (Nat.le_of_ble_eq_true rfl) ?_
  intro p e s m below meth c A ls hx hb hr hlocks hml hnm hts hown hw hl
  have hl : lv_has ls 4 [(0, .ref (a 0)), (1, .int (p1)), (2, .int (p2))] := hl
  have ci87 := hts (.constantLong RX5 87 (100000)) (by decide +kernel)
  have ci95 := hts (.constantLong RX5 95 (3)) (by decide +kernel)
  have i5 : ∀ w ∈ wsX50, w ∈ wsX5_priceAt := fun _ h => List.mem_cons_of_mem _ (List.mem_append_right _ h)
  have lk7 := hts (.fieldLink RX5 7 "RentSizesModel" "eFrom" "[I") (by decide +kernel)
  have lk19 := hts (.fieldLink RX5 19 "RentSizesModel" "eLeast" "[I") (by decide +kernel)
  have lk16 := hts (.fieldLink RX5 16 "RentSizesModel" "eRent" "[I") (by decide +kernel)
  have lk13 := hts (.fieldLink RX5 13 "RentSizesModel" "ePrice" "[I") (by decide +kernel)
  refine lv_iload_n hx hb dX5_priceAt_0 rfl (lv_at hl 1 rfl) ?_
  refine lv_i2l (v := p1.toInt64) hx hb dX5_priceAt_1 rfl ?_
  refine lv_lconst (v := 0) hx hb dX5_priceAt_2 (by decide) ?_
  refine lv_ldc2 (v := 100000) hx hb hown ci87 dX5_priceAt_3 ?_
  refine r_callSi (rest := []) ⟨hx, hb, hml, hown, hts⟩ hw [.long (p1.toInt64), .long (0), .long (100000)] (k5_in l D ty a cI ht0 s0 s1 a2 a3 a4 a5 a6 a7 a8 a9 s10 s11 s12 a13 a14 a15 a16 a17 a18 a19 a20 a21 s22 p1.toInt64 0 100000) (va_cwS 3 hts gX5_priceAt_X5_in rfl rfl rfl (by decide +kernel) ⟨Nat.le_of_ble_eq_true rfl, Nat.le_of_ble_eq_true rfl⟩) rfl hl.1 rfl (Nat.le_of_ble_eq_true rfl) dX5_priceAt_6 ⟨Nat.le_of_ble_eq_true rfl, Nat.le_of_ble_eq_true rfl⟩ (fun r w H locs hp hw => ?_)
  obtain ⟨rfl, rfl⟩ := hp
  refine lv_if_eq (tgt := 24) hx hb dX5_priceAt_9 (by decide) (fun c_9 => ?_) (fun c_9 => ?_)
  · refine lv_bipush (v := (-102)) hx hb dX5_priceAt_24 (by decide) ?_
    have e9 : f5_priceAt s1 a2 a3 a4 a5 p1 p2 = (-102) := by unfold f5_priceAt; rw [if_pos c_9]
    exact r_iret hx hb hr hlocks hw ⟨by rw [e9] <;> rfl, rfl⟩ dX5_priceAt_26
  · refine lv_iload_n hx hb dX5_priceAt_12 rfl (lv_at hl 2 rfl) ?_
    refine lv_i2l (v := p2.toInt64) hx hb dX5_priceAt_13 rfl ?_
    refine lv_lconst (v := 0) hx hb dX5_priceAt_14 (by decide) ?_
    refine lv_ldc2 (v := 3) hx hb hown ci95 dX5_priceAt_15 ?_
    refine r_callSi (rest := []) ⟨hx, hb, hml, hown, hts⟩ hw [.long (p2.toInt64), .long (0), .long (3)] (k5_in l D ty a cI ht0 s0 s1 a2 a3 a4 a5 a6 a7 a8 a9 s10 s11 s12 a13 a14 a15 a16 a17 a18 a19 a20 a21 s22 p2.toInt64 0 3) (va_cwS 3 hts gX5_priceAt_X5_in rfl rfl rfl (by decide +kernel) ⟨Nat.le_of_ble_eq_true rfl, Nat.le_of_ble_eq_true rfl⟩) rfl hl.1 rfl (Nat.le_of_ble_eq_true rfl) dX5_priceAt_18 ⟨Nat.le_of_ble_eq_true rfl, Nat.le_of_ble_eq_true rfl⟩ (fun r w H locs hp hw => ?_)
    obtain ⟨rfl, rfl⟩ := hp
    refine lv_if_ne (tgt := 27) hx hb dX5_priceAt_21 (by decide) (fun c_21 => ?_) (fun c_21 => ?_)
    · refine lv_aload_n hx hb dX5_priceAt_27 rfl (lv_at hl 0 rfl) ?_
      refine lv_iload_n hx hb dX5_priceAt_28 rfl (lv_at hl 1 rfl) ?_
      refine r_callVi 0 rfl rfl (rest := []) ⟨hx, hb, hml, hown, hts⟩ hw [.int (p1)] (k5_editionAt l D ty a cI ht0 s0 s1 a2 a3 a4 a5 a6 a7 a8 a9 s10 s11 s12 a13 a14 a15 a16 a17 a18 a19 a20 a21 s22 p1 (by first | assumption | omega) (by first | assumption | omega)) (cwV 1 hts gX5_priceAt_X5_editionAt rfl rfl rfl (by decide +kernel) ⟨Nat.le_of_ble_eq_true rfl, Nat.le_of_ble_eq_true rfl⟩) rfl hl.1 rfl (Nat.le_of_ble_eq_true rfl) dX5_priceAt_29 ⟨Nat.le_of_ble_eq_true rfl, Nat.le_of_ble_eq_true rfl⟩ (fun r w H locs hp hw => ?_)
      obtain ⟨rfl, rfl⟩ := hp
      refine lv_istore_n (lv' := [(3, .int (f5_editionAt s1 a2 p1)), (0, .ref (a 0)), (1, .int (p1)), (2, .int (p2))]) hx hb dX5_priceAt_32 rfl hl (by decide) rfl (fun ls hl => ?_)
      refine lv_iload_n hx hb dX5_priceAt_33 rfl (lv_at hl 3 rfl) ?_
      refine lv_if_ne (tgt := 46) hx hb dX5_priceAt_34 (by decide) (fun c_34 => ?_) (fun c_34 => ?_)
      · refine lv_iload_n hx hb dX5_priceAt_46 rfl (lv_at hl 3 rfl) ?_
        refine lv_iconst (v := 1) hx hb dX5_priceAt_47 (by decide) ?_
        refine lv_icmp_ne (tgt := 60) hx hb dX5_priceAt_48 (by decide) (fun c_48 => ?_) (fun c_48 => ?_)
        · refine lv_iload_n hx hb dX5_priceAt_60 rfl (lv_at hl 3 rfl) ?_
          refine lv_iconst (v := 2) hx hb dX5_priceAt_61 (by decide) ?_
          refine lv_icmp_ne (tgt := 74) hx hb dX5_priceAt_62 (by decide) (fun c_62 => ?_) (fun c_62 => ?_)
          · refine lv_aload_n hx hb dX5_priceAt_74 rfl (lv_at hl 1 rfl) ?_
            refine r_get (C := RX5) (T := TX5) (v := .ref (a 2)) hx hb hts i5 hown hw 0 rfl rfl 2 (by decide) lk7 rfl dX5_priceAt_75 ?_
            refine lv_iload_n hx hb dX5_priceAt_78 rfl (lv_at hl 0 rfl) ?_
            refine r_iald (v := a2 (tn (f5_editionAt s1 a2 p1))) hx hb hw 1 rfl ht0 (ea_in _ he1) dX5_priceAt_79 rfl ?_
            have e9 : f5_priceAt s1 a2 a3 a4 a5 p1 p2 = a2 (tn (f5_editionAt s1 a2 p1)) := by unfold f5_priceAt; rw [if_neg c_9, if_neg c_21, if_neg c_34, if_neg c_48, if_neg c_62]
            exact r_iret hx hb hr hlocks hw ⟨by rw [e9] <;> rfl, rfl⟩ dX5_priceAt_80
          · refine lv_aload_n hx hb dX5_priceAt_65 rfl (lv_at hl 1 rfl) ?_
            refine r_get (C := RX5) (T := TX5) (v := .ref (a 5)) hx hb hts i5 hown hw 0 rfl rfl 5 (by decide) lk19 rfl dX5_priceAt_66 ?_
            refine lv_iload_n hx hb dX5_priceAt_69 rfl (lv_at hl 0 rfl) ?_
            refine r_iald (v := a5 (tn (f5_editionAt s1 a2 p1))) hx hb hw 4 rfl ht0 (ea_in _ he1) dX5_priceAt_70 rfl ?_
            refine lv_goto (tgt := 80) hx hb dX5_priceAt_71 (by decide) ?_
            have e9 : f5_priceAt s1 a2 a3 a4 a5 p1 p2 = a5 (tn (f5_editionAt s1 a2 p1)) := by unfold f5_priceAt; rw [if_neg c_9, if_neg c_21, if_neg c_34, if_neg c_48, if_pos c_62]
            exact r_iret hx hb hr hlocks hw ⟨by rw [e9] <;> rfl, rfl⟩ dX5_priceAt_80
        · refine lv_aload_n hx hb dX5_priceAt_51 rfl (lv_at hl 1 rfl) ?_
          refine r_get (C := RX5) (T := TX5) (v := .ref (a 4)) hx hb hts i5 hown hw 0 rfl rfl 4 (by decide) lk16 rfl dX5_priceAt_52 ?_
          refine lv_iload_n hx hb dX5_priceAt_55 rfl (lv_at hl 0 rfl) ?_
          refine r_iald (v := a4 (tn (f5_editionAt s1 a2 p1))) hx hb hw 3 rfl ht0 (ea_in _ he1) dX5_priceAt_56 rfl ?_
          refine lv_goto (tgt := 80) hx hb dX5_priceAt_57 (by decide) ?_
          have e9 : f5_priceAt s1 a2 a3 a4 a5 p1 p2 = a4 (tn (f5_editionAt s1 a2 p1)) := by unfold f5_priceAt; rw [if_neg c_9, if_neg c_21, if_neg c_34, if_pos c_48]
          exact r_iret hx hb hr hlocks hw ⟨by rw [e9] <;> rfl, rfl⟩ dX5_priceAt_80
      · refine lv_aload_n hx hb dX5_priceAt_37 rfl (lv_at hl 1 rfl) ?_
        refine r_get (C := RX5) (T := TX5) (v := .ref (a 3)) hx hb hts i5 hown hw 0 rfl rfl 3 (by decide) lk13 rfl dX5_priceAt_38 ?_
        refine lv_iload_n hx hb dX5_priceAt_41 rfl (lv_at hl 0 rfl) ?_
        refine r_iald (v := a3 (tn (f5_editionAt s1 a2 p1))) hx hb hw 2 rfl ht0 (ea_in _ he1) dX5_priceAt_42 rfl ?_
        refine lv_goto (tgt := 80) hx hb dX5_priceAt_43 (by decide) ?_
        have e9 : f5_priceAt s1 a2 a3 a4 a5 p1 p2 = a3 (tn (f5_editionAt s1 a2 p1)) := by unfold f5_priceAt; rw [if_neg c_9, if_neg c_21, if_pos c_34]
        exact r_iret hx hb hr hlocks hw ⟨by rw [e9] <;> rfl, rfl⟩ dX5_priceAt_80
    · refine lv_bipush (v := (-102)) hx hb dX5_priceAt_24 (by decide) ?_
      have e9 : f5_priceAt s1 a2 a3 a4 a5 p1 p2 = (-102) := by unfold f5_priceAt; rw [if_neg c_9, if_pos c_21]
      exact r_iret hx hb hr hlocks hw ⟨by rw [e9] <;> rfl, rfl⟩ dX5_priceAt_26
def lf5_liveSizes_4 (a13 : Nat → Int32) (a14 : Nat → Int32) (a17 : Nat → Int32) (p1 : Int32) : Nat → Nat → Int32 → Int32
  | 0, _, v2 => v2
  | k + 1, j, v2 => if (a17 j) = 0 then (if p1 = (-109) then lf5_liveSizes_4 a13 a14 a17 p1 k (j + 1) (v2 + (a14 j))
      else if (a13 j) = p1 then lf5_liveSizes_4 a13 a14 a17 p1 k (j + 1) (v2 + (a14 j))
      else lf5_liveSizes_4 a13 a14 a17 p1 k (j + 1) (v2 + 0))
    else lf5_liveSizes_4 a13 a14 a17 p1 k (j + 1) (v2 + 0)
set_option maxHeartbeats 4000000 in
set_option maxRecDepth 100000 in
theorem lt5_liveSizes_4 (l : Launch) (D : va_G) (ty : List (ClassId × FieldType)) (a : Nat → Nat) (cI : ClassId) (ht0 : ty[0]? = some (cI, .int)) (s0 : Int32) (s1 : Int32) (a2 : Nat → Int32) (a3 : Nat → Int32) (a4 : Nat → Int32) (a5 : Nat → Int32) (a6 : Nat → Int32) (a7 : Nat → Int32) (a8 : Nat → Int32) (a9 : Nat → Int32) (s10 : Int32) (s11 : Int32) (s12 : Int32) (a13 : Nat → Int32) (a14 : Nat → Int32) (a15 : Nat → Int32) (a16 : Nat → Int32) (a17 : Nat → Int32) (a18 : Nat → Int32) (a19 : Nat → Int32) (a20 : Nat → Int32) (a21 : Nat → Int32) (s22 : Int32) (p1 : Int32) (hob : s12 = nI (tn s12)) (hob2 : tn s12 ≤ 60)  {p : Program} {e : Env} {s : State} {m : MethodId} {args : Array Value} {below : List Frame} {meth : Method} {c : Code} {A : Nat → Prop} {H0 : Heap} {Q : State → Prop} (hx : p.tables.exec = Jvm.exec) (hb : c.code = cX5_liveSizes) (hml : c.maxLocals = 4) (hts : ∀ w ∈ wsX5_liveSizes, w.before args s = true) (hown : s.vm.findClass RX5 = some m.cls) : ∀ (k j : Nat) (v2 : Int32) (hj : j + k = tn s12) (H : Heap) (locs : List Loc) (ls : Array Slot) (hw : Wd D ty A H0 s (MW a cI s0 s1 a2 a3 a4 a5 a6 a7 a8 a9 s10 s11 s12 a13 a14 a15 a16 a17 a18 a19 a20 a21 s22) H locs) (hl : lv_has ls 4 [(3, .int (nI (j))), (2, .int (v2)), (0, .ref (a 0)), (1, .int (p1))]) (kk : ∀ (H1 : Heap) (locs1 : List Loc) (ls1 : Array Slot), Wd D ty A H0 s (MW a cI s0 s1 a2 a3 a4 a5 a6 a7 a8 a9 s10 s11 s12 a13 a14 a15 a16 a17 a18 a19 a20 a21 s22) H1 locs1 → lv_has ls1 4 [(3, .int (nI (tn s12))), (2, .int ((lf5_liveSizes_4 a13 a14 a17 p1 k j v2))), (0, .ref (a 0)), (1, .int (p1))] → W p l e ({ frames := 0, cells := 0, slots := 0, locals := 0 } : Room) s m args below meth c H1 locs1 0 0 Q (F0 m 56 ls1 [])), W p l e ({ frames := 0, cells := 0, slots := 0, locals := 0 } : Room) s m args below meth c H locs 0 0 Q (F0 m 4 ls []) := by
  have i5 : ∀ w ∈ wsX50, w ∈ wsX5_liveSizes := fun _ h => List.mem_cons_of_mem _ (List.mem_append_right _ h)
  have lk78 := hts (.fieldLink RX5 78 "RentSizesModel" "objects" "I") (by decide +kernel)
  have lk46 := hts (.fieldLink RX5 46 "RentSizesModel" "state" "[I") (by decide +kernel)
  have lk37 := hts (.fieldLink RX5 37 "RentSizesModel" "size" "[I") (by decide +kernel)
  have lk34 := hts (.fieldLink RX5 34 "RentSizesModel" "owner" "[I") (by decide +kernel)
  intro k
  induction k with
  | zero =>
    intro j v2 hj H locs ls hw hl kk
    have hj0 : j = tn s12 := by omega
    refine lv_iload_n hx hb dX5_liveSizes_4 rfl (lv_at hl 0 rfl) ?_
    refine lv_aload_n hx hb dX5_liveSizes_5 rfl (lv_at hl 2 rfl) ?_
    refine r_get (C := RX5) (T := TX5) (v := .int (s12)) hx hb hts i5 hown hw 0 rfl rfl 12 (by decide) lk78 rfl dX5_liveSizes_6 ?_
    refine r_top (nI (tn s12)) hob ?_
    refine lv_icmp_ge (tgt := 56) hx hb dX5_liveSizes_9 (by decide) (fun c_9 => ?_) (fun c_9 => ?_)
    · rw [hj0] at hl
      exact kk _ _ _ hw (lv_sub hl [0, 1, 2, 3] rfl)
    · exact absurd (nI_le (by omega) (by omega)) c_9
  | succ k ih =>
    intro j v2 hj H locs ls hw hl kk
    have hjb : j < tn s12 := by omega
    refine lv_iload_n hx hb dX5_liveSizes_4 rfl (lv_at hl 0 rfl) ?_
    refine lv_aload_n hx hb dX5_liveSizes_5 rfl (lv_at hl 2 rfl) ?_
    refine r_get (C := RX5) (T := TX5) (v := .int (s12)) hx hb hts i5 hown hw 0 rfl rfl 12 (by decide) lk78 rfl dX5_liveSizes_6 ?_
    refine r_top (nI (tn s12)) hob ?_
    refine lv_icmp_ge (tgt := 56) hx hb dX5_liveSizes_9 (by decide) (fun c_9 => ?_) (fun c_9 => ?_)
    · exact absurd c_9 (nI_ge (by omega) (by omega))
    · refine lv_iload_n hx hb dX5_liveSizes_12 rfl (lv_at hl 1 rfl) ?_
      refine lv_aload_n hx hb dX5_liveSizes_13 rfl (lv_at hl 2 rfl) ?_
      refine r_get (C := RX5) (T := TX5) (v := .ref (a 17)) hx hb hts i5 hown hw 0 rfl rfl 17 (by decide) lk46 rfl dX5_liveSizes_14 ?_
      refine lv_iload_n hx hb dX5_liveSizes_17 rfl (lv_at hl 0 rfl) ?_
      refine r_ialdN (v := a17 j) hx hb hw 13 rfl ht0 j (by omega) (by decide) dX5_liveSizes_18 rfl ?_
      refine lv_if_ne (tgt := 47) hx hb dX5_liveSizes_19 (by decide) (fun c_19 => ?_) (fun c_19 => ?_)
      · refine lv_iconst (v := 0) hx hb dX5_liveSizes_47 (by decide) ?_
        refine lv_iadd hx hb dX5_liveSizes_48 ?_
        refine lv_istore_n (lv' := [(2, .int (v2 + 0)), (3, .int (nI (j))), (0, .ref (a 0)), (1, .int (p1))]) hx hb dX5_liveSizes_49 rfl hl (by decide) rfl (fun ls hl => ?_)
        refine lv_iinc (v := nI (j + 1)) (lv' := [(3, .int (nI (j + 1))), (2, .int (v2 + 0)), (0, .ref (a 0)), (1, .int (p1))]) hx hb dX5_liveSizes_50 hl (k := 1) rfl (by show nI (j) + 1 = _; exact nI_1 _) (by decide) rfl (fun ls hl => ?_)
        refine lv_goto (tgt := 4) hx hb dX5_liveSizes_53 (by decide) ?_
        have e9 : lf5_liveSizes_4 a13 a14 a17 p1 (k + 1) j v2 = lf5_liveSizes_4 a13 a14 a17 p1 k (j + 1) (v2 + 0) := by rw [lf5_liveSizes_4]; rw [if_neg c_19]
        rw [e9] at kk
        exact ih (j + 1) (v2 + 0) (by omega)  _ _ _ hw (lv_sub hl [0, 1, 2, 3] rfl) kk
      · refine lv_iload_n hx hb dX5_liveSizes_22 rfl (lv_at hl 3 rfl) ?_
        refine lv_bipush (v := (-109)) hx hb dX5_liveSizes_23 (by decide) ?_
        refine lv_icmp_eq (tgt := 38) hx hb dX5_liveSizes_25 (by decide) (fun c_25 => ?_) (fun c_25 => ?_)
        · refine lv_aload_n hx hb dX5_liveSizes_38 rfl (lv_at hl 2 rfl) ?_
          refine r_get (C := RX5) (T := TX5) (v := .ref (a 14)) hx hb hts i5 hown hw 0 rfl rfl 14 (by decide) lk37 rfl dX5_liveSizes_39 ?_
          refine lv_iload_n hx hb dX5_liveSizes_42 rfl (lv_at hl 0 rfl) ?_
          refine r_ialdN (v := a14 j) hx hb hw 10 rfl ht0 j (by omega) (by decide) dX5_liveSizes_43 rfl ?_
          refine lv_goto (tgt := 48) hx hb dX5_liveSizes_44 (by decide) ?_
          refine lv_iadd hx hb dX5_liveSizes_48 ?_
          refine lv_istore_n (lv' := [(2, .int (v2 + (a14 j))), (3, .int (nI (j))), (0, .ref (a 0)), (1, .int (p1))]) hx hb dX5_liveSizes_49 rfl hl (by decide) rfl (fun ls hl => ?_)
          refine lv_iinc (v := nI (j + 1)) (lv' := [(3, .int (nI (j + 1))), (2, .int (v2 + (a14 j))), (0, .ref (a 0)), (1, .int (p1))]) hx hb dX5_liveSizes_50 hl (k := 1) rfl (by show nI (j) + 1 = _; exact nI_1 _) (by decide) rfl (fun ls hl => ?_)
          refine lv_goto (tgt := 4) hx hb dX5_liveSizes_53 (by decide) ?_
          have e9 : lf5_liveSizes_4 a13 a14 a17 p1 (k + 1) j v2 = lf5_liveSizes_4 a13 a14 a17 p1 k (j + 1) (v2 + (a14 j)) := by rw [lf5_liveSizes_4]; rw [if_pos c_19, if_pos c_25]
          rw [e9] at kk
          exact ih (j + 1) (v2 + (a14 j)) (by omega)  _ _ _ hw (lv_sub hl [0, 1, 2, 3] rfl) kk
        · refine lv_aload_n hx hb dX5_liveSizes_28 rfl (lv_at hl 2 rfl) ?_
          refine r_get (C := RX5) (T := TX5) (v := .ref (a 13)) hx hb hts i5 hown hw 0 rfl rfl 13 (by decide) lk34 rfl dX5_liveSizes_29 ?_
          refine lv_iload_n hx hb dX5_liveSizes_32 rfl (lv_at hl 0 rfl) ?_
          refine r_ialdN (v := a13 j) hx hb hw 9 rfl ht0 j (by omega) (by decide) dX5_liveSizes_33 rfl ?_
          refine lv_iload_n hx hb dX5_liveSizes_34 rfl (lv_at hl 3 rfl) ?_
          refine lv_icmp_ne (tgt := 47) hx hb dX5_liveSizes_35 (by decide) (fun c_35 => ?_) (fun c_35 => ?_)
          · refine lv_iconst (v := 0) hx hb dX5_liveSizes_47 (by decide) ?_
            refine lv_iadd hx hb dX5_liveSizes_48 ?_
            refine lv_istore_n (lv' := [(2, .int (v2 + 0)), (3, .int (nI (j))), (0, .ref (a 0)), (1, .int (p1))]) hx hb dX5_liveSizes_49 rfl hl (by decide) rfl (fun ls hl => ?_)
            refine lv_iinc (v := nI (j + 1)) (lv' := [(3, .int (nI (j + 1))), (2, .int (v2 + 0)), (0, .ref (a 0)), (1, .int (p1))]) hx hb dX5_liveSizes_50 hl (k := 1) rfl (by show nI (j) + 1 = _; exact nI_1 _) (by decide) rfl (fun ls hl => ?_)
            refine lv_goto (tgt := 4) hx hb dX5_liveSizes_53 (by decide) ?_
            have e9 : lf5_liveSizes_4 a13 a14 a17 p1 (k + 1) j v2 = lf5_liveSizes_4 a13 a14 a17 p1 k (j + 1) (v2 + 0) := by rw [lf5_liveSizes_4]; rw [if_pos c_19, if_neg c_25, if_neg c_35]
            rw [e9] at kk
            exact ih (j + 1) (v2 + 0) (by omega)  _ _ _ hw (lv_sub hl [0, 1, 2, 3] rfl) kk
          · refine lv_aload_n hx hb dX5_liveSizes_38 rfl (lv_at hl 2 rfl) ?_
            refine r_get (C := RX5) (T := TX5) (v := .ref (a 14)) hx hb hts i5 hown hw 0 rfl rfl 14 (by decide) lk37 rfl dX5_liveSizes_39 ?_
            refine lv_iload_n hx hb dX5_liveSizes_42 rfl (lv_at hl 0 rfl) ?_
            refine r_ialdN (v := a14 j) hx hb hw 10 rfl ht0 j (by omega) (by decide) dX5_liveSizes_43 rfl ?_
            refine lv_goto (tgt := 48) hx hb dX5_liveSizes_44 (by decide) ?_
            refine lv_iadd hx hb dX5_liveSizes_48 ?_
            refine lv_istore_n (lv' := [(2, .int (v2 + (a14 j))), (3, .int (nI (j))), (0, .ref (a 0)), (1, .int (p1))]) hx hb dX5_liveSizes_49 rfl hl (by decide) rfl (fun ls hl => ?_)
            refine lv_iinc (v := nI (j + 1)) (lv' := [(3, .int (nI (j + 1))), (2, .int (v2 + (a14 j))), (0, .ref (a 0)), (1, .int (p1))]) hx hb dX5_liveSizes_50 hl (k := 1) rfl (by show nI (j) + 1 = _; exact nI_1 _) (by decide) rfl (fun ls hl => ?_)
            refine lv_goto (tgt := 4) hx hb dX5_liveSizes_53 (by decide) ?_
            have e9 : lf5_liveSizes_4 a13 a14 a17 p1 (k + 1) j v2 = lf5_liveSizes_4 a13 a14 a17 p1 k (j + 1) (v2 + (a14 j)) := by rw [lf5_liveSizes_4]; rw [if_pos c_19, if_neg c_25, if_pos c_35]
            rw [e9] at kk
            exact ih (j + 1) (v2 + (a14 j)) (by omega)  _ _ _ hw (lv_sub hl [0, 1, 2, 3] rfl) kk
def f5_liveSizes (s12 : Int32) (a13 : Nat → Int32) (a14 : Nat → Int32) (a17 : Nat → Int32) (p1 : Int32) : Int32 :=
  (lf5_liveSizes_4 a13 a14 a17 p1 (tn s12) 0 0)
set_option maxHeartbeats 4000000 in
set_option maxRecDepth 100000 in
theorem k5_liveSizes (l : Launch) (D : va_G) (ty : List (ClassId × FieldType)) (a : Nat → Nat) (cI : ClassId) (ht0 : ty[0]? = some (cI, .int)) (s0 : Int32) (s1 : Int32) (a2 : Nat → Int32) (a3 : Nat → Int32) (a4 : Nat → Int32) (a5 : Nat → Int32) (a6 : Nat → Int32) (a7 : Nat → Int32) (a8 : Nat → Int32) (a9 : Nat → Int32) (s10 : Int32) (s11 : Int32) (s12 : Int32) (a13 : Nat → Int32) (a14 : Nat → Int32) (a15 : Nat → Int32) (a16 : Nat → Int32) (a17 : Nat → Int32) (a18 : Nat → Int32) (a19 : Nat → Int32) (a20 : Nat → Int32) (a21 : Nat → Int32) (s22 : Int32) (p1 : Int32) (hob : s12 = nI (tn s12)) (hob2 : tn s12 ≤ 60) : MetG l yX5_liveSizes wsX5_liveSizes { frames := 0, cells := 0, slots := 0, locals := 0 } D ty [.ref (a 0), .int (p1)] (MW a cI s0 s1 a2 a3 a4 a5 a6 a7 a8 a9 s10 s11 s12 a13 a14 a15 a16 a17 a18 a19 a20 a21 s22) (va_Qi (fun r w => r = f5_liveSizes s12 a13 a14 a17 p1 ∧ w = MW a cI s0 s1 a2 a3 a4 a5 a6 a7 a8 a9 s10 s11 s12 a13 a14 a15 a16 a17 a18 a19 a20 a21 s22)) 0 0 := by
  refine Met_start cX5_liveSizes 4 (some .int) (by decide) rfl (Nat.le_of_ble_eq_true rfl) ?_
  intro p e s m below meth c A ls hx hb hr hlocks hml hnm hts hown hw hl
  have hl : lv_has ls 4 [(0, .ref (a 0)), (1, .int (p1))] := hl
  refine lv_iconst (v := 0) hx hb dX5_liveSizes_0 (by decide) ?_
  refine lv_istore_n (lv' := [(2, .int (0)), (0, .ref (a 0)), (1, .int (p1))]) hx hb dX5_liveSizes_1 rfl hl (by decide) rfl (fun ls hl => ?_)
  refine lv_iconst (v := 0) hx hb dX5_liveSizes_2 (by decide) ?_
  refine lv_istore_n (lv' := [(3, .int (0)), (2, .int (0)), (0, .ref (a 0)), (1, .int (p1))]) hx hb dX5_liveSizes_3 rfl hl (by decide) rfl (fun ls hl => ?_)
  refine lt5_liveSizes_4 l D ty a cI ht0 s0 s1 a2 a3 a4 a5 a6 a7 a8 a9 s10 s11 s12 a13 a14 a15 a16 a17 a18 a19 a20 a21 s22 p1 hob hob2  hx hb hml hts hown (tn s12) 0 0 (by omega)  _ _ _ hw hl (fun H locs ls hw hl => ?_)
  refine lv_iload_n hx hb dX5_liveSizes_56 rfl (lv_at hl 1 rfl) ?_
  have e9 : f5_liveSizes s12 a13 a14 a17 p1 = (lf5_liveSizes_4 a13 a14 a17 p1 (tn s12) 0 0) := by unfold f5_liveSizes; rfl
  exact r_iret hx hb hr hlocks hw ⟨by rw [e9] <;> rfl, rfl⟩ dX5_liveSizes_57
def f5_isCapped (a7 : Nat → Int32) (s12 : Int32) (a13 : Nat → Int32) (a14 : Nat → Int32) (a17 : Nat → Int32) (p1 : Int32) (p2 : Int32) : Int32 :=
  if 5000 < ((f5_liveSizes s12 a13 a14 a17 (-109)) + p2) then 1
  else if ((f5_liveSizes s12 a13 a14 a17 p1) + p2) ≤ (a7 (tn (p1))) then 0
  else 1
set_option maxHeartbeats 4000000 in
set_option maxRecDepth 100000 in
theorem k5_isCapped (l : Launch) (D : va_G) (ty : List (ClassId × FieldType)) (a : Nat → Nat) (cI : ClassId) (ht0 : ty[0]? = some (cI, .int)) (s0 : Int32) (s1 : Int32) (a2 : Nat → Int32) (a3 : Nat → Int32) (a4 : Nat → Int32) (a5 : Nat → Int32) (a6 : Nat → Int32) (a7 : Nat → Int32) (a8 : Nat → Int32) (a9 : Nat → Int32) (s10 : Int32) (s11 : Int32) (s12 : Int32) (a13 : Nat → Int32) (a14 : Nat → Int32) (a15 : Nat → Int32) (a16 : Nat → Int32) (a17 : Nat → Int32) (a18 : Nat → Int32) (a19 : Nat → Int32) (a20 : Nat → Int32) (a21 : Nat → Int32) (s22 : Int32) (p1 : Int32) (p2 : Int32) (hob : s12 = nI (tn s12)) (hob2 : tn s12 ≤ 60) (hof : vp_in p1 6) : MetG l yX5_isCapped wsX5_isCapped { frames := 1, cells := 0, slots := 0, locals := 23 } D ty [.ref (a 0), .int (p1), .int (p2)] (MW a cI s0 s1 a2 a3 a4 a5 a6 a7 a8 a9 s10 s11 s12 a13 a14 a15 a16 a17 a18 a19 a20 a21 s22) (va_Qi (fun r w => r = f5_isCapped a7 s12 a13 a14 a17 p1 p2 ∧ w = MW a cI s0 s1 a2 a3 a4 a5 a6 a7 a8 a9 s10 s11 s12 a13 a14 a15 a16 a17 a18 a19 a20 a21 s22)) 0 0 := by
  refine Met_start cX5_isCapped 3 (some .boolean) (by decide) rfl (Nat.le_of_ble_eq_true rfl) ?_
  intro p e s m below meth c A ls hx hb hr hlocks hml hnm hts hown hw hl
  have hl : lv_has ls 3 [(0, .ref (a 0)), (1, .int (p1)), (2, .int (p2))] := hl
  have i5 : ∀ w ∈ wsX50, w ∈ wsX5_isCapped := fun _ h => List.mem_cons_of_mem _ (List.mem_append_right _ h)
  have lk25 := hts (.fieldLink RX5 25 "RentSizesModel" "caps" "[I") (by decide +kernel)
  refine lv_aload_n hx hb dX5_isCapped_0 rfl (lv_at hl 0 rfl) ?_
  refine lv_bipush (v := (-109)) hx hb dX5_isCapped_1 (by decide) ?_
  refine r_callVi 0 rfl rfl (rest := []) ⟨hx, hb, hml, hown, hts⟩ hw [.int ((-109))] (k5_liveSizes l D ty a cI ht0 s0 s1 a2 a3 a4 a5 a6 a7 a8 a9 s10 s11 s12 a13 a14 a15 a16 a17 a18 a19 a20 a21 s22 (-109) (by first | assumption | omega) (by first | assumption | omega)) (cwV 1 hts gX5_isCapped_X5_liveSizes rfl rfl rfl (by decide +kernel) ⟨Nat.le_of_ble_eq_true rfl, Nat.le_of_ble_eq_true rfl⟩) rfl hl.1 rfl (Nat.le_of_ble_eq_true rfl) dX5_isCapped_3 ⟨Nat.le_of_ble_eq_true rfl, Nat.le_of_ble_eq_true rfl⟩ (fun r w H locs hp hw => ?_)
  obtain ⟨rfl, rfl⟩ := hp
  refine lv_iload_n hx hb dX5_isCapped_6 rfl (lv_at hl 2 rfl) ?_
  refine lv_iadd hx hb dX5_isCapped_7 ?_
  refine lv_sipush (v := 5000) hx hb dX5_isCapped_8 (by decide) ?_
  refine lv_icmp_gt (tgt := 30) hx hb dX5_isCapped_11 (by decide) (fun c_11 => ?_) (fun c_11 => ?_)
  · refine lv_iconst (v := 1) hx hb dX5_isCapped_30 (by decide) ?_
    refine lv_goto (tgt := 35) hx hb dX5_isCapped_31 (by decide) ?_
    have e9 : f5_isCapped a7 s12 a13 a14 a17 p1 p2 = 1 := by unfold f5_isCapped; rw [if_pos c_11]
    exact r_zret hx hb hr hlocks (Or.inr rfl) hw ⟨by rw [e9] <;> rfl, rfl⟩ dX5_isCapped_35
  · refine lv_aload_n hx hb dX5_isCapped_14 rfl (lv_at hl 0 rfl) ?_
    refine lv_iload_n hx hb dX5_isCapped_15 rfl (lv_at hl 1 rfl) ?_
    refine r_callVi 0 rfl rfl (rest := []) ⟨hx, hb, hml, hown, hts⟩ hw [.int (p1)] (k5_liveSizes l D ty a cI ht0 s0 s1 a2 a3 a4 a5 a6 a7 a8 a9 s10 s11 s12 a13 a14 a15 a16 a17 a18 a19 a20 a21 s22 p1 (by first | assumption | omega) (by first | assumption | omega)) (cwV 1 hts gX5_isCapped_X5_liveSizes rfl rfl rfl (by decide +kernel) ⟨Nat.le_of_ble_eq_true rfl, Nat.le_of_ble_eq_true rfl⟩) rfl hl.1 rfl (Nat.le_of_ble_eq_true rfl) dX5_isCapped_16 ⟨Nat.le_of_ble_eq_true rfl, Nat.le_of_ble_eq_true rfl⟩ (fun r w H locs hp hw => ?_)
    obtain ⟨rfl, rfl⟩ := hp
    refine lv_iload_n hx hb dX5_isCapped_19 rfl (lv_at hl 2 rfl) ?_
    refine lv_iadd hx hb dX5_isCapped_20 ?_
    refine lv_aload_n hx hb dX5_isCapped_21 rfl (lv_at hl 0 rfl) ?_
    refine r_get (C := RX5) (T := TX5) (v := .ref (a 7)) hx hb hts i5 hown hw 0 rfl rfl 7 (by decide) lk25 rfl dX5_isCapped_22 ?_
    refine lv_iload_n hx hb dX5_isCapped_25 rfl (lv_at hl 1 rfl) ?_
    refine r_iald (v := a7 (tn (p1))) hx hb hw 6 rfl ht0 (by first | assumption | exact vp_in_nI (by omega) (by omega)) dX5_isCapped_26 rfl ?_
    refine lv_icmp_le (tgt := 34) hx hb dX5_isCapped_27 (by decide) (fun c_27 => ?_) (fun c_27 => ?_)
    · refine lv_iconst (v := 0) hx hb dX5_isCapped_34 (by decide) ?_
      have e9 : f5_isCapped a7 s12 a13 a14 a17 p1 p2 = 0 := by unfold f5_isCapped; rw [if_neg c_11, if_pos c_27]
      exact r_zret hx hb hr hlocks (Or.inl rfl) hw ⟨by rw [e9] <;> rfl, rfl⟩ dX5_isCapped_35
    · refine lv_iconst (v := 1) hx hb dX5_isCapped_30 (by decide) ?_
      refine lv_goto (tgt := 35) hx hb dX5_isCapped_31 (by decide) ?_
      have e9 : f5_isCapped a7 s12 a13 a14 a17 p1 p2 = 1 := by unfold f5_isCapped; rw [if_neg c_11, if_neg c_27]
      exact r_zret hx hb hr hlocks (Or.inr rfl) hw ⟨by rw [e9] <;> rfl, rfl⟩ dX5_isCapped_35
def lf5_allWeights_4 (a9 : Nat → Int32) : Nat → Nat → Int32 → Int32
  | 0, _, v1 => v1
  | k + 1, j, v1 => lf5_allWeights_4 a9 k (j + 1) (v1 + (a9 j))
set_option maxHeartbeats 4000000 in
set_option maxRecDepth 100000 in
theorem lt5_allWeights_4 (l : Launch) (D : va_G) (ty : List (ClassId × FieldType)) (a : Nat → Nat) (cI : ClassId) (ht0 : ty[0]? = some (cI, .int)) (s0 : Int32) (s1 : Int32) (a2 : Nat → Int32) (a3 : Nat → Int32) (a4 : Nat → Int32) (a5 : Nat → Int32) (a6 : Nat → Int32) (a7 : Nat → Int32) (a8 : Nat → Int32) (a9 : Nat → Int32) (s10 : Int32) (s11 : Int32) (s12 : Int32) (a13 : Nat → Int32) (a14 : Nat → Int32) (a15 : Nat → Int32) (a16 : Nat → Int32) (a17 : Nat → Int32) (a18 : Nat → Int32) (a19 : Nat → Int32) (a20 : Nat → Int32) (a21 : Nat → Int32) (s22 : Int32)  {p : Program} {e : Env} {s : State} {m : MethodId} {args : Array Value} {below : List Frame} {meth : Method} {c : Code} {A : Nat → Prop} {H0 : Heap} {Q : State → Prop} (hx : p.tables.exec = Jvm.exec) (hb : c.code = cX5_allWeights) (hml : c.maxLocals = 3) (hts : ∀ w ∈ wsX5_allWeights, w.before args s = true) (hown : s.vm.findClass RX5 = some m.cls) : ∀ (k j : Nat) (v1 : Int32) (hj : j + k = 5) (H : Heap) (locs : List Loc) (ls : Array Slot) (hw : Wd D ty A H0 s (MW a cI s0 s1 a2 a3 a4 a5 a6 a7 a8 a9 s10 s11 s12 a13 a14 a15 a16 a17 a18 a19 a20 a21 s22) H locs) (hl : lv_has ls 3 [(2, .int (nI (j))), (1, .int (v1)), (0, .ref (a 0))]) (kk : ∀ (H1 : Heap) (locs1 : List Loc) (ls1 : Array Slot), Wd D ty A H0 s (MW a cI s0 s1 a2 a3 a4 a5 a6 a7 a8 a9 s10 s11 s12 a13 a14 a15 a16 a17 a18 a19 a20 a21 s22) H1 locs1 → lv_has ls1 3 [(2, .int (nI (5))), (1, .int ((lf5_allWeights_4 a9 k j v1))), (0, .ref (a 0))] → W p l e ({ frames := 0, cells := 0, slots := 0, locals := 0 } : Room) s m args below meth c H1 locs1 0 0 Q (F0 m 24 ls1 [])), W p l e ({ frames := 0, cells := 0, slots := 0, locals := 0 } : Room) s m args below meth c H locs 0 0 Q (F0 m 4 ls []) := by
  have i5 : ∀ w ∈ wsX50, w ∈ wsX5_allWeights := fun _ h => List.mem_cons_of_mem _ (List.mem_append_right _ h)
  have lk31 := hts (.fieldLink RX5 31 "RentSizesModel" "weights" "[I") (by decide +kernel)
  intro k
  induction k with
  | zero =>
    intro j v1 hj H locs ls hw hl kk
    have hj0 : j = 5 := by omega
    refine lv_iload_n hx hb dX5_allWeights_4 rfl (lv_at hl 0 rfl) ?_
    refine lv_iconst (v := 5) hx hb dX5_allWeights_5 (by decide) ?_
    refine r_top (nI 5) rfl ?_
    refine lv_icmp_ge (tgt := 24) hx hb dX5_allWeights_6 (by decide) (fun c_6 => ?_) (fun c_6 => ?_)
    · subst hj0
      exact kk _ _ _ hw (lv_sub hl [0, 1, 2] rfl)
    · exact absurd (nI_le (by omega) (by omega)) c_6
  | succ k ih =>
    intro j v1 hj H locs ls hw hl kk
    have hjb : j < 5 := by omega
    refine lv_iload_n hx hb dX5_allWeights_4 rfl (lv_at hl 0 rfl) ?_
    refine lv_iconst (v := 5) hx hb dX5_allWeights_5 (by decide) ?_
    refine r_top (nI 5) rfl ?_
    refine lv_icmp_ge (tgt := 24) hx hb dX5_allWeights_6 (by decide) (fun c_6 => ?_) (fun c_6 => ?_)
    · exact absurd c_6 (nI_ge (by omega) (by omega))
    · refine lv_iload_n hx hb dX5_allWeights_9 rfl (lv_at hl 1 rfl) ?_
      refine lv_aload_n hx hb dX5_allWeights_10 rfl (lv_at hl 2 rfl) ?_
      refine r_get (C := RX5) (T := TX5) (v := .ref (a 9)) hx hb hts i5 hown hw 0 rfl rfl 9 (by decide) lk31 rfl dX5_allWeights_11 ?_
      refine lv_iload_n hx hb dX5_allWeights_14 rfl (lv_at hl 0 rfl) ?_
      refine r_ialdN (v := a9 j) hx hb hw 8 rfl ht0 j (by omega) (by decide) dX5_allWeights_15 rfl ?_
      refine lv_iadd hx hb dX5_allWeights_16 ?_
      refine lv_istore_n (lv' := [(1, .int (v1 + (a9 j))), (2, .int (nI (j))), (0, .ref (a 0))]) hx hb dX5_allWeights_17 rfl hl (by decide) rfl (fun ls hl => ?_)
      refine lv_iinc (v := nI (j + 1)) (lv' := [(2, .int (nI (j + 1))), (1, .int (v1 + (a9 j))), (0, .ref (a 0))]) hx hb dX5_allWeights_18 hl (k := 1) rfl (by show nI (j) + 1 = _; exact nI_1 _) (by decide) rfl (fun ls hl => ?_)
      refine lv_goto (tgt := 4) hx hb dX5_allWeights_21 (by decide) ?_
      have e9 : lf5_allWeights_4 a9 (k + 1) j v1 = lf5_allWeights_4 a9 k (j + 1) (v1 + (a9 j)) := rfl
      rw [e9] at kk
      exact ih (j + 1) (v1 + (a9 j)) (by omega)  _ _ _ hw (lv_sub hl [0, 1, 2] rfl) kk
def f5_allWeights (a9 : Nat → Int32) : Int32 :=
  (lf5_allWeights_4 a9 5 0 0)
set_option maxHeartbeats 4000000 in
set_option maxRecDepth 100000 in
theorem k5_allWeights (l : Launch) (D : va_G) (ty : List (ClassId × FieldType)) (a : Nat → Nat) (cI : ClassId) (ht0 : ty[0]? = some (cI, .int)) (s0 : Int32) (s1 : Int32) (a2 : Nat → Int32) (a3 : Nat → Int32) (a4 : Nat → Int32) (a5 : Nat → Int32) (a6 : Nat → Int32) (a7 : Nat → Int32) (a8 : Nat → Int32) (a9 : Nat → Int32) (s10 : Int32) (s11 : Int32) (s12 : Int32) (a13 : Nat → Int32) (a14 : Nat → Int32) (a15 : Nat → Int32) (a16 : Nat → Int32) (a17 : Nat → Int32) (a18 : Nat → Int32) (a19 : Nat → Int32) (a20 : Nat → Int32) (a21 : Nat → Int32) (s22 : Int32) : MetG l yX5_allWeights wsX5_allWeights { frames := 0, cells := 0, slots := 0, locals := 0 } D ty [.ref (a 0)] (MW a cI s0 s1 a2 a3 a4 a5 a6 a7 a8 a9 s10 s11 s12 a13 a14 a15 a16 a17 a18 a19 a20 a21 s22) (va_Qi (fun r w => r = f5_allWeights a9 ∧ w = MW a cI s0 s1 a2 a3 a4 a5 a6 a7 a8 a9 s10 s11 s12 a13 a14 a15 a16 a17 a18 a19 a20 a21 s22)) 0 0 := by
  refine Met_start cX5_allWeights 3 (some .int) (by decide) rfl (Nat.le_of_ble_eq_true rfl) ?_
  intro p e s m below meth c A ls hx hb hr hlocks hml hnm hts hown hw hl
  have hl : lv_has ls 3 [(0, .ref (a 0))] := hl
  refine lv_iconst (v := 0) hx hb dX5_allWeights_0 (by decide) ?_
  refine lv_istore_n (lv' := [(1, .int (0)), (0, .ref (a 0))]) hx hb dX5_allWeights_1 rfl hl (by decide) rfl (fun ls hl => ?_)
  refine lv_iconst (v := 0) hx hb dX5_allWeights_2 (by decide) ?_
  refine lv_istore_n (lv' := [(2, .int (0)), (1, .int (0)), (0, .ref (a 0))]) hx hb dX5_allWeights_3 rfl hl (by decide) rfl (fun ls hl => ?_)
  refine lt5_allWeights_4 l D ty a cI ht0 s0 s1 a2 a3 a4 a5 a6 a7 a8 a9 s10 s11 s12 a13 a14 a15 a16 a17 a18 a19 a20 a21 s22  hx hb hml hts hown 5 0 0 (by omega)  _ _ _ hw hl (fun H locs ls hw hl => ?_)
  refine lv_iload_n hx hb dX5_allWeights_24 rfl (lv_at hl 1 rfl) ?_
  have e9 : f5_allWeights a9 = (lf5_allWeights_4 a9 5 0 0) := by unfold f5_allWeights; rfl
  exact r_iret hx hb hr hlocks hw ⟨by rw [e9] <;> rfl, rfl⟩ dX5_allWeights_25
def lf5_rank_4 (a9 : Nat → Int32) (x : Nat) : Nat → Nat → Int32 → Int32
  | 0, _, v2 => v2
  | k + 1, j, v2 => if (a9 x) < (a9 j) then lf5_rank_4 a9 x k (j + 1) (v2 + 1)
    else if (a9 j) = (a9 x) then (if (nI (x)) ≤ (nI (j)) then lf5_rank_4 a9 x k (j + 1) (v2 + 0)
      else lf5_rank_4 a9 x k (j + 1) (v2 + 1))
    else lf5_rank_4 a9 x k (j + 1) (v2 + 0)
set_option maxHeartbeats 4000000 in
set_option maxRecDepth 100000 in
theorem lt5_rank_4 (l : Launch) (D : va_G) (ty : List (ClassId × FieldType)) (a : Nat → Nat) (cI : ClassId) (ht0 : ty[0]? = some (cI, .int)) (s0 : Int32) (s1 : Int32) (a2 : Nat → Int32) (a3 : Nat → Int32) (a4 : Nat → Int32) (a5 : Nat → Int32) (a6 : Nat → Int32) (a7 : Nat → Int32) (a8 : Nat → Int32) (a9 : Nat → Int32) (s10 : Int32) (s11 : Int32) (s12 : Int32) (a13 : Nat → Int32) (a14 : Nat → Int32) (a15 : Nat → Int32) (a16 : Nat → Int32) (a17 : Nat → Int32) (a18 : Nat → Int32) (a19 : Nat → Int32) (a20 : Nat → Int32) (a21 : Nat → Int32) (s22 : Int32) (x : Nat) (hx5 : x < 5)  {p : Program} {e : Env} {s : State} {m : MethodId} {args : Array Value} {below : List Frame} {meth : Method} {c : Code} {A : Nat → Prop} {H0 : Heap} {Q : State → Prop} (hx : p.tables.exec = Jvm.exec) (hb : c.code = cX5_rank) (hml : c.maxLocals = 4) (hts : ∀ w ∈ wsX5_rank, w.before args s = true) (hown : s.vm.findClass RX5 = some m.cls) : ∀ (k j : Nat) (v2 : Int32) (hj : j + k = 5) (H : Heap) (locs : List Loc) (ls : Array Slot) (hw : Wd D ty A H0 s (MW a cI s0 s1 a2 a3 a4 a5 a6 a7 a8 a9 s10 s11 s12 a13 a14 a15 a16 a17 a18 a19 a20 a21 s22) H locs) (hl : lv_has ls 4 [(3, .int (nI (j))), (2, .int (v2)), (0, .ref (a 0)), (1, .int (nI (x)))]) (kk : ∀ (H1 : Heap) (locs1 : List Loc) (ls1 : Array Slot), Wd D ty A H0 s (MW a cI s0 s1 a2 a3 a4 a5 a6 a7 a8 a9 s10 s11 s12 a13 a14 a15 a16 a17 a18 a19 a20 a21 s22) H1 locs1 → lv_has ls1 4 [(3, .int (nI (5))), (2, .int ((lf5_rank_4 a9 x k j v2))), (0, .ref (a 0)), (1, .int (nI (x)))] → W p l e ({ frames := 0, cells := 0, slots := 0, locals := 0 } : Room) s m args below meth c H1 locs1 0 0 Q (F0 m 58 ls1 [])), W p l e ({ frames := 0, cells := 0, slots := 0, locals := 0 } : Room) s m args below meth c H locs 0 0 Q (F0 m 4 ls []) := by
  have i5 : ∀ w ∈ wsX50, w ∈ wsX5_rank := fun _ h => List.mem_cons_of_mem _ (List.mem_append_right _ h)
  have lk31 := hts (.fieldLink RX5 31 "RentSizesModel" "weights" "[I") (by decide +kernel)
  intro k
  induction k with
  | zero =>
    intro j v2 hj H locs ls hw hl kk
    have hj0 : j = 5 := by omega
    refine lv_iload_n hx hb dX5_rank_4 rfl (lv_at hl 0 rfl) ?_
    refine lv_iconst (v := 5) hx hb dX5_rank_5 (by decide) ?_
    refine r_top (nI 5) rfl ?_
    refine lv_icmp_ge (tgt := 58) hx hb dX5_rank_6 (by decide) (fun c_6 => ?_) (fun c_6 => ?_)
    · subst hj0
      exact kk _ _ _ hw (lv_sub hl [0, 1, 2, 3] rfl)
    · exact absurd (nI_le (by omega) (by omega)) c_6
  | succ k ih =>
    intro j v2 hj H locs ls hw hl kk
    have hjb : j < 5 := by omega
    refine lv_iload_n hx hb dX5_rank_4 rfl (lv_at hl 0 rfl) ?_
    refine lv_iconst (v := 5) hx hb dX5_rank_5 (by decide) ?_
    refine r_top (nI 5) rfl ?_
    refine lv_icmp_ge (tgt := 58) hx hb dX5_rank_6 (by decide) (fun c_6 => ?_) (fun c_6 => ?_)
    · exact absurd c_6 (nI_ge (by omega) (by omega))
    · refine lv_iload_n hx hb dX5_rank_9 rfl (lv_at hl 1 rfl) ?_
      refine lv_aload_n hx hb dX5_rank_10 rfl (lv_at hl 2 rfl) ?_
      refine r_get (C := RX5) (T := TX5) (v := .ref (a 9)) hx hb hts i5 hown hw 0 rfl rfl 9 (by decide) lk31 rfl dX5_rank_11 ?_
      refine lv_iload_n hx hb dX5_rank_14 rfl (lv_at hl 0 rfl) ?_
      refine r_ialdN (v := a9 j) hx hb hw 8 rfl ht0 j (by omega) (by decide) dX5_rank_15 rfl ?_
      refine lv_aload_n hx hb dX5_rank_16 rfl (lv_at hl 2 rfl) ?_
      refine r_get (C := RX5) (T := TX5) (v := .ref (a 9)) hx hb hts i5 hown hw 0 rfl rfl 9 (by decide) lk31 rfl dX5_rank_17 ?_
      refine lv_iload_n hx hb dX5_rank_20 rfl (lv_at hl 3 rfl) ?_
      refine r_ialdN (v := a9 x) hx hb hw 8 rfl ht0 x (by omega) (by decide) dX5_rank_21 rfl ?_
      refine lv_icmp_gt (tgt := 45) hx hb dX5_rank_22 (by decide) (fun c_22 => ?_) (fun c_22 => ?_)
      · refine lv_iconst (v := 1) hx hb dX5_rank_45 (by decide) ?_
        refine lv_goto (tgt := 50) hx hb dX5_rank_46 (by decide) ?_
        refine lv_iadd hx hb dX5_rank_50 ?_
        refine lv_istore_n (lv' := [(2, .int (v2 + 1)), (3, .int (nI (j))), (0, .ref (a 0)), (1, .int (nI (x)))]) hx hb dX5_rank_51 rfl hl (by decide) rfl (fun ls hl => ?_)
        refine lv_iinc (v := nI (j + 1)) (lv' := [(3, .int (nI (j + 1))), (2, .int (v2 + 1)), (0, .ref (a 0)), (1, .int (nI (x)))]) hx hb dX5_rank_52 hl (k := 1) rfl (by show nI (j) + 1 = _; exact nI_1 _) (by decide) rfl (fun ls hl => ?_)
        refine lv_goto (tgt := 4) hx hb dX5_rank_55 (by decide) ?_
        have e9 : lf5_rank_4 a9 x (k + 1) j v2 = lf5_rank_4 a9 x k (j + 1) (v2 + 1) := by rw [lf5_rank_4]; rw [if_pos c_22]
        rw [e9] at kk
        exact ih (j + 1) (v2 + 1) (by omega)  _ _ _ hw (lv_sub hl [0, 1, 2, 3] rfl) kk
      · refine lv_aload_n hx hb dX5_rank_25 rfl (lv_at hl 2 rfl) ?_
        refine r_get (C := RX5) (T := TX5) (v := .ref (a 9)) hx hb hts i5 hown hw 0 rfl rfl 9 (by decide) lk31 rfl dX5_rank_26 ?_
        refine lv_iload_n hx hb dX5_rank_29 rfl (lv_at hl 0 rfl) ?_
        refine r_ialdN (v := a9 j) hx hb hw 8 rfl ht0 j (by omega) (by decide) dX5_rank_30 rfl ?_
        refine lv_aload_n hx hb dX5_rank_31 rfl (lv_at hl 2 rfl) ?_
        refine r_get (C := RX5) (T := TX5) (v := .ref (a 9)) hx hb hts i5 hown hw 0 rfl rfl 9 (by decide) lk31 rfl dX5_rank_32 ?_
        refine lv_iload_n hx hb dX5_rank_35 rfl (lv_at hl 3 rfl) ?_
        refine r_ialdN (v := a9 x) hx hb hw 8 rfl ht0 x (by omega) (by decide) dX5_rank_36 rfl ?_
        refine lv_icmp_ne (tgt := 49) hx hb dX5_rank_37 (by decide) (fun c_37 => ?_) (fun c_37 => ?_)
        · refine lv_iconst (v := 0) hx hb dX5_rank_49 (by decide) ?_
          refine lv_iadd hx hb dX5_rank_50 ?_
          refine lv_istore_n (lv' := [(2, .int (v2 + 0)), (3, .int (nI (j))), (0, .ref (a 0)), (1, .int (nI (x)))]) hx hb dX5_rank_51 rfl hl (by decide) rfl (fun ls hl => ?_)
          refine lv_iinc (v := nI (j + 1)) (lv' := [(3, .int (nI (j + 1))), (2, .int (v2 + 0)), (0, .ref (a 0)), (1, .int (nI (x)))]) hx hb dX5_rank_52 hl (k := 1) rfl (by show nI (j) + 1 = _; exact nI_1 _) (by decide) rfl (fun ls hl => ?_)
          refine lv_goto (tgt := 4) hx hb dX5_rank_55 (by decide) ?_
          have e9 : lf5_rank_4 a9 x (k + 1) j v2 = lf5_rank_4 a9 x k (j + 1) (v2 + 0) := by rw [lf5_rank_4]; rw [if_neg c_22, if_neg c_37]
          rw [e9] at kk
          exact ih (j + 1) (v2 + 0) (by omega)  _ _ _ hw (lv_sub hl [0, 1, 2, 3] rfl) kk
        · refine lv_iload_n hx hb dX5_rank_40 rfl (lv_at hl 0 rfl) ?_
          refine lv_iload_n hx hb dX5_rank_41 rfl (lv_at hl 3 rfl) ?_
          refine lv_icmp_ge (tgt := 49) hx hb dX5_rank_42 (by decide) (fun c_42 => ?_) (fun c_42 => ?_)
          · refine lv_iconst (v := 0) hx hb dX5_rank_49 (by decide) ?_
            refine lv_iadd hx hb dX5_rank_50 ?_
            refine lv_istore_n (lv' := [(2, .int (v2 + 0)), (3, .int (nI (j))), (0, .ref (a 0)), (1, .int (nI (x)))]) hx hb dX5_rank_51 rfl hl (by decide) rfl (fun ls hl => ?_)
            refine lv_iinc (v := nI (j + 1)) (lv' := [(3, .int (nI (j + 1))), (2, .int (v2 + 0)), (0, .ref (a 0)), (1, .int (nI (x)))]) hx hb dX5_rank_52 hl (k := 1) rfl (by show nI (j) + 1 = _; exact nI_1 _) (by decide) rfl (fun ls hl => ?_)
            refine lv_goto (tgt := 4) hx hb dX5_rank_55 (by decide) ?_
            have e9 : lf5_rank_4 a9 x (k + 1) j v2 = lf5_rank_4 a9 x k (j + 1) (v2 + 0) := by rw [lf5_rank_4]; rw [if_neg c_22, if_pos c_37, if_pos c_42]
            rw [e9] at kk
            exact ih (j + 1) (v2 + 0) (by omega)  _ _ _ hw (lv_sub hl [0, 1, 2, 3] rfl) kk
          · refine lv_iconst (v := 1) hx hb dX5_rank_45 (by decide) ?_
            refine lv_goto (tgt := 50) hx hb dX5_rank_46 (by decide) ?_
            refine lv_iadd hx hb dX5_rank_50 ?_
            refine lv_istore_n (lv' := [(2, .int (v2 + 1)), (3, .int (nI (j))), (0, .ref (a 0)), (1, .int (nI (x)))]) hx hb dX5_rank_51 rfl hl (by decide) rfl (fun ls hl => ?_)
            refine lv_iinc (v := nI (j + 1)) (lv' := [(3, .int (nI (j + 1))), (2, .int (v2 + 1)), (0, .ref (a 0)), (1, .int (nI (x)))]) hx hb dX5_rank_52 hl (k := 1) rfl (by show nI (j) + 1 = _; exact nI_1 _) (by decide) rfl (fun ls hl => ?_)
            refine lv_goto (tgt := 4) hx hb dX5_rank_55 (by decide) ?_
            have e9 : lf5_rank_4 a9 x (k + 1) j v2 = lf5_rank_4 a9 x k (j + 1) (v2 + 1) := by rw [lf5_rank_4]; rw [if_neg c_22, if_pos c_37, if_neg c_42]
            rw [e9] at kk
            exact ih (j + 1) (v2 + 1) (by omega)  _ _ _ hw (lv_sub hl [0, 1, 2, 3] rfl) kk
def f5_rank (a9 : Nat → Int32) (x : Nat) : Int32 :=
  (lf5_rank_4 a9 x 5 0 0)
set_option maxHeartbeats 4000000 in
set_option maxRecDepth 100000 in
theorem k5_rank (l : Launch) (D : va_G) (ty : List (ClassId × FieldType)) (a : Nat → Nat) (cI : ClassId) (ht0 : ty[0]? = some (cI, .int)) (s0 : Int32) (s1 : Int32) (a2 : Nat → Int32) (a3 : Nat → Int32) (a4 : Nat → Int32) (a5 : Nat → Int32) (a6 : Nat → Int32) (a7 : Nat → Int32) (a8 : Nat → Int32) (a9 : Nat → Int32) (s10 : Int32) (s11 : Int32) (s12 : Int32) (a13 : Nat → Int32) (a14 : Nat → Int32) (a15 : Nat → Int32) (a16 : Nat → Int32) (a17 : Nat → Int32) (a18 : Nat → Int32) (a19 : Nat → Int32) (a20 : Nat → Int32) (a21 : Nat → Int32) (s22 : Int32) (x : Nat) (hx5 : x < 5) : MetG l yX5_rank wsX5_rank { frames := 0, cells := 0, slots := 0, locals := 0 } D ty [.ref (a 0), .int (nI (x))] (MW a cI s0 s1 a2 a3 a4 a5 a6 a7 a8 a9 s10 s11 s12 a13 a14 a15 a16 a17 a18 a19 a20 a21 s22) (va_Qi (fun r w => r = f5_rank a9 x ∧ w = MW a cI s0 s1 a2 a3 a4 a5 a6 a7 a8 a9 s10 s11 s12 a13 a14 a15 a16 a17 a18 a19 a20 a21 s22)) 0 0 := by
  refine Met_start cX5_rank 4 (some .int) (by decide) rfl (Nat.le_of_ble_eq_true rfl) ?_
  intro p e s m below meth c A ls hx hb hr hlocks hml hnm hts hown hw hl
  have hl : lv_has ls 4 [(0, .ref (a 0)), (1, .int (nI (x)))] := hl
  refine lv_iconst (v := 0) hx hb dX5_rank_0 (by decide) ?_
  refine lv_istore_n (lv' := [(2, .int (0)), (0, .ref (a 0)), (1, .int (nI (x)))]) hx hb dX5_rank_1 rfl hl (by decide) rfl (fun ls hl => ?_)
  refine lv_iconst (v := 0) hx hb dX5_rank_2 (by decide) ?_
  refine lv_istore_n (lv' := [(3, .int (0)), (2, .int (0)), (0, .ref (a 0)), (1, .int (nI (x)))]) hx hb dX5_rank_3 rfl hl (by decide) rfl (fun ls hl => ?_)
  refine lt5_rank_4 l D ty a cI ht0 s0 s1 a2 a3 a4 a5 a6 a7 a8 a9 s10 s11 s12 a13 a14 a15 a16 a17 a18 a19 a20 a21 s22 x hx5  hx hb hml hts hown 5 0 0 (by omega)  _ _ _ hw hl (fun H locs ls hw hl => ?_)
  refine lv_iload_n hx hb dX5_rank_58 rfl (lv_at hl 1 rfl) ?_
  have e9 : f5_rank a9 x = (lf5_rank_4 a9 x 5 0 0) := by unfold f5_rank; rfl
  exact r_iret hx hb hr hlocks hw ⟨by rw [e9] <;> rfl, rfl⟩ dX5_rank_59
def f5_weight (a9 : Nat → Int32) (p1 : Int32) (p2 : Int32) : Int32 × (Nat → Int32) :=
  if (f5_in p1.toInt64 0 4) = 0 then ((-101), a9)
  else if (f5_in p2.toInt64 0 1000) = 0 then ((-102), a9)
  else (a9 (tn (p1)), upd a9 (tn (p1)) p2)
set_option maxHeartbeats 4000000 in
set_option maxRecDepth 100000 in
theorem k5_weight (l : Launch) (D : va_G) (ty : List (ClassId × FieldType)) (a : Nat → Nat) (cI : ClassId) (ht0 : ty[0]? = some (cI, .int)) (s0 : Int32) (s1 : Int32) (a2 : Nat → Int32) (a3 : Nat → Int32) (a4 : Nat → Int32) (a5 : Nat → Int32) (a6 : Nat → Int32) (a7 : Nat → Int32) (a8 : Nat → Int32) (a9 : Nat → Int32) (s10 : Int32) (s11 : Int32) (s12 : Int32) (a13 : Nat → Int32) (a14 : Nat → Int32) (a15 : Nat → Int32) (a16 : Nat → Int32) (a17 : Nat → Int32) (a18 : Nat → Int32) (a19 : Nat → Int32) (a20 : Nat → Int32) (a21 : Nat → Int32) (s22 : Int32) (p1 : Int32) (p2 : Int32) : MetG l yX5_weight wsX5_weight { frames := 1, cells := 0, slots := 0, locals := 25 } D ty [.ref (a 0), .int (p1), .int (p2)] (MW a cI s0 s1 a2 a3 a4 a5 a6 a7 a8 a9 s10 s11 s12 a13 a14 a15 a16 a17 a18 a19 a20 a21 s22) (va_Qi (fun r w => r = (f5_weight a9 p1 p2).1 ∧ w = MW a cI s0 s1 a2 a3 a4 a5 a6 a7 a8 ((f5_weight a9 p1 p2).2) s10 s11 s12 a13 a14 a15 a16 a17 a18 a19 a20 a21 s22)) 0 0 := by
  refine Met_start cX5_weight 4 (some .int) (by decide) rfl (Nat.le_of_ble_eq_true rfl) ?_
  intro p e s m below meth c A ls hx hb hr hlocks hml hnm hts hown hw hl
  have hl : lv_has ls 4 [(0, .ref (a 0)), (1, .int (p1)), (2, .int (p2))] := hl
  have ci161 := hts (.constantLong RX5 161 (4)) (by decide +kernel)
  have ci122 := hts (.constantLong RX5 122 (1000)) (by decide +kernel)
  have i5 : ∀ w ∈ wsX50, w ∈ wsX5_weight := fun _ h => List.mem_cons_of_mem _ (List.mem_append_right _ h)
  have lk31 := hts (.fieldLink RX5 31 "RentSizesModel" "weights" "[I") (by decide +kernel)
  refine lv_iload_n hx hb dX5_weight_0 rfl (lv_at hl 1 rfl) ?_
  refine lv_i2l (v := p1.toInt64) hx hb dX5_weight_1 rfl ?_
  refine lv_lconst (v := 0) hx hb dX5_weight_2 (by decide) ?_
  refine lv_ldc2 (v := 4) hx hb hown ci161 dX5_weight_3 ?_
  refine r_callSi (rest := []) ⟨hx, hb, hml, hown, hts⟩ hw [.long (p1.toInt64), .long (0), .long (4)] (k5_in l D ty a cI ht0 s0 s1 a2 a3 a4 a5 a6 a7 a8 a9 s10 s11 s12 a13 a14 a15 a16 a17 a18 a19 a20 a21 s22 p1.toInt64 0 4) (va_cwS 3 hts gX5_weight_X5_in rfl rfl rfl (by decide +kernel) ⟨Nat.le_of_ble_eq_true rfl, Nat.le_of_ble_eq_true rfl⟩) rfl hl.1 rfl (Nat.le_of_ble_eq_true rfl) dX5_weight_6 ⟨Nat.le_of_ble_eq_true rfl, Nat.le_of_ble_eq_true rfl⟩ (fun r w H locs hp hw => ?_)
  obtain ⟨rfl, rfl⟩ := hp
  refine lv_if_ne (tgt := 15) hx hb dX5_weight_9 (by decide) (fun c_9 => ?_) (fun c_9 => ?_)
  · refine lv_iload_n hx hb dX5_weight_15 rfl (lv_at hl 2 rfl) ?_
    refine lv_i2l (v := p2.toInt64) hx hb dX5_weight_16 rfl ?_
    refine lv_lconst (v := 0) hx hb dX5_weight_17 (by decide) ?_
    refine lv_ldc2 (v := 1000) hx hb hown ci122 dX5_weight_18 ?_
    refine r_callSi (rest := []) ⟨hx, hb, hml, hown, hts⟩ hw [.long (p2.toInt64), .long (0), .long (1000)] (k5_in l D ty a cI ht0 s0 s1 a2 a3 a4 a5 a6 a7 a8 a9 s10 s11 s12 a13 a14 a15 a16 a17 a18 a19 a20 a21 s22 p2.toInt64 0 1000) (va_cwS 3 hts gX5_weight_X5_in rfl rfl rfl (by decide +kernel) ⟨Nat.le_of_ble_eq_true rfl, Nat.le_of_ble_eq_true rfl⟩) rfl hl.1 rfl (Nat.le_of_ble_eq_true rfl) dX5_weight_21 ⟨Nat.le_of_ble_eq_true rfl, Nat.le_of_ble_eq_true rfl⟩ (fun r w H locs hp hw => ?_)
    obtain ⟨rfl, rfl⟩ := hp
    refine lv_if_ne (tgt := 30) hx hb dX5_weight_24 (by decide) (fun c_24 => ?_) (fun c_24 => ?_)
    · have hv := in_vp 5 c_9 rfl
      refine lv_aload_n hx hb dX5_weight_30 rfl (lv_at hl 0 rfl) ?_
      refine r_get (C := RX5) (T := TX5) (v := .ref (a 9)) hx hb hts i5 hown hw 0 rfl rfl 9 (by decide) lk31 rfl dX5_weight_31 ?_
      refine lv_iload_n hx hb dX5_weight_34 rfl (lv_at hl 1 rfl) ?_
      refine r_iald (v := a9 (tn (p1))) hx hb hw 8 rfl ht0 (by first | assumption | exact vp_in_nI (by omega) (by omega)) dX5_weight_35 rfl ?_
      refine lv_istore_n (lv' := [(3, .int (a9 (tn (p1)))), (0, .ref (a 0)), (1, .int (p1)), (2, .int (p2))]) hx hb dX5_weight_36 rfl hl (by decide) rfl (fun ls hl => ?_)
      refine lv_aload_n hx hb dX5_weight_37 rfl (lv_at hl 1 rfl) ?_
      refine r_get (C := RX5) (T := TX5) (v := .ref (a 9)) hx hb hts i5 hown hw 0 rfl rfl 9 (by decide) lk31 rfl dX5_weight_38 ?_
      refine lv_iload_n hx hb dX5_weight_41 rfl (lv_at hl 2 rfl) ?_
      refine lv_iload_n hx hb dX5_weight_42 rfl (lv_at hl 3 rfl) ?_
      refine r_iast (ws' := MW a cI s0 s1 a2 a3 a4 a5 a6 a7 a8 (upd a9 (tn (p1)) p2) s10 s11 s12 a13 a14 a15 a16 a17 a18 a19 a20 a21 s22) hx hb hw 8 rfl ht0 (by first | assumption | exact vp_in_nI (by omega) (by omega)) (MW_u9 _) dX5_weight_43 (fun H locs hw => ?_)
      refine lv_iload_n hx hb dX5_weight_44 rfl (lv_at hl 0 rfl) ?_
      have e9 : f5_weight a9 p1 p2 = (a9 (tn (p1)), upd a9 (tn (p1)) p2) := by unfold f5_weight; rw [if_neg c_9, if_neg c_24]
      exact r_iret hx hb hr hlocks hw ⟨by rw [e9] <;> rfl, by rw [e9] <;> rfl⟩ dX5_weight_45
    · refine lv_bipush (v := (-102)) hx hb dX5_weight_27 (by decide) ?_
      have e9 : f5_weight a9 p1 p2 = ((-102), a9) := by unfold f5_weight; rw [if_neg c_9, if_pos c_24]
      exact r_iret hx hb hr hlocks hw ⟨by rw [e9] <;> rfl, by rw [e9] <;> rfl⟩ dX5_weight_29
  · refine lv_bipush (v := (-101)) hx hb dX5_weight_12 (by decide) ?_
    have e9 : f5_weight a9 p1 p2 = ((-101), a9) := by unfold f5_weight; rw [if_pos c_9]
    exact r_iret hx hb hr hlocks hw ⟨by rw [e9] <;> rfl, by rw [e9] <;> rfl⟩ dX5_weight_14
def f5_coins (a6 : Nat → Int32) (a8 : Nat → Int32) (p1 : Int32) (p2 : Int32) : Int32 :=
  if (f5_in p1.toInt64 0 1) = 0 then (-102)
  else if p1 = 0 then (if (f5_noAccount p2) = 0 then a6 (tn (p2))
    else (-101))
  else if (f5_in p2.toInt64 0 4) = 0 then (-101)
  else a8 (tn (p2))
set_option maxHeartbeats 4000000 in
set_option maxRecDepth 100000 in
theorem k5_coins (l : Launch) (D : va_G) (ty : List (ClassId × FieldType)) (a : Nat → Nat) (cI : ClassId) (ht0 : ty[0]? = some (cI, .int)) (s0 : Int32) (s1 : Int32) (a2 : Nat → Int32) (a3 : Nat → Int32) (a4 : Nat → Int32) (a5 : Nat → Int32) (a6 : Nat → Int32) (a7 : Nat → Int32) (a8 : Nat → Int32) (a9 : Nat → Int32) (s10 : Int32) (s11 : Int32) (s12 : Int32) (a13 : Nat → Int32) (a14 : Nat → Int32) (a15 : Nat → Int32) (a16 : Nat → Int32) (a17 : Nat → Int32) (a18 : Nat → Int32) (a19 : Nat → Int32) (a20 : Nat → Int32) (a21 : Nat → Int32) (s22 : Int32) (p1 : Int32) (p2 : Int32) : MetG l yX5_coins wsX5_coins { frames := 2, cells := 0, slots := 0, locals := 46 } D ty [.ref (a 0), .int (p1), .int (p2)] (MW a cI s0 s1 a2 a3 a4 a5 a6 a7 a8 a9 s10 s11 s12 a13 a14 a15 a16 a17 a18 a19 a20 a21 s22) (va_Qi (fun r w => r = f5_coins a6 a8 p1 p2 ∧ w = MW a cI s0 s1 a2 a3 a4 a5 a6 a7 a8 a9 s10 s11 s12 a13 a14 a15 a16 a17 a18 a19 a20 a21 s22)) 0 0 := by
  refine Met_start cX5_coins 3 (some .int) (by decide) rfl (Nat.le_of_ble_eq_true rfl) ?_
  intro p e s m below meth c A ls hx hb hr hlocks hml hnm hts hown hw hl
  have hl : lv_has ls 3 [(0, .ref (a 0)), (1, .int (p1)), (2, .int (p2))] := hl
  have ci161 := hts (.constantLong RX5 161 (4)) (by decide +kernel)
  have i5 : ∀ w ∈ wsX50, w ∈ wsX5_coins := fun _ h => List.mem_cons_of_mem _ (List.mem_append_right _ h)
  have lk28 := hts (.fieldLink RX5 28 "RentSizesModel" "nodeCoins" "[I") (by decide +kernel)
  have lk22 := hts (.fieldLink RX5 22 "RentSizesModel" "accountCoins" "[I") (by decide +kernel)
  refine lv_iload_n hx hb dX5_coins_0 rfl (lv_at hl 1 rfl) ?_
  refine lv_i2l (v := p1.toInt64) hx hb dX5_coins_1 rfl ?_
  refine lv_lconst (v := 0) hx hb dX5_coins_2 (by decide) ?_
  refine lv_lconst (v := 1) hx hb dX5_coins_3 (by decide) ?_
  refine r_callSi (rest := []) ⟨hx, hb, hml, hown, hts⟩ hw [.long (p1.toInt64), .long (0), .long (1)] (k5_in l D ty a cI ht0 s0 s1 a2 a3 a4 a5 a6 a7 a8 a9 s10 s11 s12 a13 a14 a15 a16 a17 a18 a19 a20 a21 s22 p1.toInt64 0 1) (va_cwS 3 hts gX5_coins_X5_in rfl rfl rfl (by decide +kernel) ⟨Nat.le_of_ble_eq_true rfl, Nat.le_of_ble_eq_true rfl⟩) rfl hl.1 rfl (Nat.le_of_ble_eq_true rfl) dX5_coins_4 ⟨Nat.le_of_ble_eq_true rfl, Nat.le_of_ble_eq_true rfl⟩ (fun r w H locs hp hw => ?_)
  obtain ⟨rfl, rfl⟩ := hp
  refine lv_if_ne (tgt := 13) hx hb dX5_coins_7 (by decide) (fun c_7 => ?_) (fun c_7 => ?_)
  · refine lv_iload_n hx hb dX5_coins_13 rfl (lv_at hl 1 rfl) ?_
    refine lv_if_ne (tgt := 37) hx hb dX5_coins_14 (by decide) (fun c_14 => ?_) (fun c_14 => ?_)
    · refine lv_iload_n hx hb dX5_coins_37 rfl (lv_at hl 2 rfl) ?_
      refine lv_i2l (v := p2.toInt64) hx hb dX5_coins_38 rfl ?_
      refine lv_lconst (v := 0) hx hb dX5_coins_39 (by decide) ?_
      refine lv_ldc2 (v := 4) hx hb hown ci161 dX5_coins_40 ?_
      refine r_callSi (rest := []) ⟨hx, hb, hml, hown, hts⟩ hw [.long (p2.toInt64), .long (0), .long (4)] (k5_in l D ty a cI ht0 s0 s1 a2 a3 a4 a5 a6 a7 a8 a9 s10 s11 s12 a13 a14 a15 a16 a17 a18 a19 a20 a21 s22 p2.toInt64 0 4) (va_cwS 3 hts gX5_coins_X5_in rfl rfl rfl (by decide +kernel) ⟨Nat.le_of_ble_eq_true rfl, Nat.le_of_ble_eq_true rfl⟩) rfl hl.1 rfl (Nat.le_of_ble_eq_true rfl) dX5_coins_43 ⟨Nat.le_of_ble_eq_true rfl, Nat.le_of_ble_eq_true rfl⟩ (fun r w H locs hp hw => ?_)
      obtain ⟨rfl, rfl⟩ := hp
      refine lv_if_eq (tgt := 58) hx hb dX5_coins_46 (by decide) (fun c_46 => ?_) (fun c_46 => ?_)
      · refine lv_bipush (v := (-101)) hx hb dX5_coins_58 (by decide) ?_
        have e9 : f5_coins a6 a8 p1 p2 = (-101) := by unfold f5_coins; rw [if_neg c_7, if_neg c_14, if_pos c_46]
        exact r_iret hx hb hr hlocks hw ⟨by rw [e9] <;> rfl, rfl⟩ dX5_coins_60
      · have hv := in_vp 5 c_46 rfl
        refine lv_aload_n hx hb dX5_coins_49 rfl (lv_at hl 0 rfl) ?_
        refine r_get (C := RX5) (T := TX5) (v := .ref (a 8)) hx hb hts i5 hown hw 0 rfl rfl 8 (by decide) lk28 rfl dX5_coins_50 ?_
        refine lv_iload_n hx hb dX5_coins_53 rfl (lv_at hl 2 rfl) ?_
        refine r_iald (v := a8 (tn (p2))) hx hb hw 7 rfl ht0 (by first | assumption | exact vp_in_nI (by omega) (by omega)) dX5_coins_54 rfl ?_
        refine lv_goto (tgt := 60) hx hb dX5_coins_55 (by decide) ?_
        have e9 : f5_coins a6 a8 p1 p2 = a8 (tn (p2)) := by unfold f5_coins; rw [if_neg c_7, if_neg c_14, if_neg c_46]
        exact r_iret hx hb hr hlocks hw ⟨by rw [e9] <;> rfl, rfl⟩ dX5_coins_60
    · refine lv_aload_n hx hb dX5_coins_17 rfl (lv_at hl 0 rfl) ?_
      refine lv_iload_n hx hb dX5_coins_18 rfl (lv_at hl 2 rfl) ?_
      refine r_callVi 0 rfl rfl (rest := []) ⟨hx, hb, hml, hown, hts⟩ hw [.int (p2)] (k5_noAccount l D ty a cI ht0 s0 s1 a2 a3 a4 a5 a6 a7 a8 a9 s10 s11 s12 a13 a14 a15 a16 a17 a18 a19 a20 a21 s22 p2) (cwV 1 hts gX5_coins_X5_noAccount rfl rfl rfl (by decide +kernel) ⟨Nat.le_of_ble_eq_true rfl, Nat.le_of_ble_eq_true rfl⟩) rfl hl.1 rfl (Nat.le_of_ble_eq_true rfl) dX5_coins_19 ⟨Nat.le_of_ble_eq_true rfl, Nat.le_of_ble_eq_true rfl⟩ (fun r w H locs hp hw => ?_)
      obtain ⟨rfl, rfl⟩ := hp
      refine lv_if_eq (tgt := 30) hx hb dX5_coins_22 (by decide) (fun c_22 => ?_) (fun c_22 => ?_)
      · have hv := na_in c_22
        refine lv_aload_n hx hb dX5_coins_30 rfl (lv_at hl 0 rfl) ?_
        refine r_get (C := RX5) (T := TX5) (v := .ref (a 6)) hx hb hts i5 hown hw 0 rfl rfl 6 (by decide) lk22 rfl dX5_coins_31 ?_
        refine lv_iload_n hx hb dX5_coins_34 rfl (lv_at hl 2 rfl) ?_
        refine r_iald (v := a6 (tn (p2))) hx hb hw 5 rfl ht0 (by first | assumption | exact vp_in_nI (by omega) (by omega)) dX5_coins_35 rfl ?_
        have e9 : f5_coins a6 a8 p1 p2 = a6 (tn (p2)) := by unfold f5_coins; rw [if_neg c_7, if_pos c_14, if_pos c_22]
        exact r_iret hx hb hr hlocks hw ⟨by rw [e9] <;> rfl, rfl⟩ dX5_coins_36
      · refine lv_bipush (v := (-101)) hx hb dX5_coins_25 (by decide) ?_
        refine lv_goto (tgt := 36) hx hb dX5_coins_27 (by decide) ?_
        have e9 : f5_coins a6 a8 p1 p2 = (-101) := by unfold f5_coins; rw [if_neg c_7, if_pos c_14, if_neg c_22]
        exact r_iret hx hb hr hlocks hw ⟨by rw [e9] <;> rfl, rfl⟩ dX5_coins_36
  · refine lv_bipush (v := (-102)) hx hb dX5_coins_10 (by decide) ?_
    have e9 : f5_coins a6 a8 p1 p2 = (-102) := by unfold f5_coins; rw [if_pos c_7]
    exact r_iret hx hb hr hlocks hw ⟨by rw [e9] <;> rfl, rfl⟩ dX5_coins_12
def f5_sizeNow (a14 : Nat → Int32) (a17 : Nat → Int32) (x : Nat) : Int32 :=
  if (a17 x) = 2 then 0
  else a14 x
set_option maxHeartbeats 4000000 in
set_option maxRecDepth 100000 in
theorem k5_sizeNow (l : Launch) (D : va_G) (ty : List (ClassId × FieldType)) (a : Nat → Nat) (cI : ClassId) (ht0 : ty[0]? = some (cI, .int)) (s0 : Int32) (s1 : Int32) (a2 : Nat → Int32) (a3 : Nat → Int32) (a4 : Nat → Int32) (a5 : Nat → Int32) (a6 : Nat → Int32) (a7 : Nat → Int32) (a8 : Nat → Int32) (a9 : Nat → Int32) (s10 : Int32) (s11 : Int32) (s12 : Int32) (a13 : Nat → Int32) (a14 : Nat → Int32) (a15 : Nat → Int32) (a16 : Nat → Int32) (a17 : Nat → Int32) (a18 : Nat → Int32) (a19 : Nat → Int32) (a20 : Nat → Int32) (a21 : Nat → Int32) (s22 : Int32) (x : Nat) (hx60 : x < 60) : MetG l yX5_sizeNow wsX5_sizeNow { frames := 0, cells := 0, slots := 0, locals := 0 } D ty [.ref (a 0), .int (nI (x))] (MW a cI s0 s1 a2 a3 a4 a5 a6 a7 a8 a9 s10 s11 s12 a13 a14 a15 a16 a17 a18 a19 a20 a21 s22) (va_Qi (fun r w => r = f5_sizeNow a14 a17 x ∧ w = MW a cI s0 s1 a2 a3 a4 a5 a6 a7 a8 a9 s10 s11 s12 a13 a14 a15 a16 a17 a18 a19 a20 a21 s22)) 0 0 := by
  refine Met_start cX5_sizeNow 2 (some .int) (by decide) rfl (Nat.le_of_ble_eq_true rfl) ?_
  intro p e s m below meth c A ls hx hb hr hlocks hml hnm hts hown hw hl
  have hl : lv_has ls 2 [(0, .ref (a 0)), (1, .int (nI (x)))] := hl
  have i5 : ∀ w ∈ wsX50, w ∈ wsX5_sizeNow := fun _ h => List.mem_cons_of_mem _ (List.mem_append_right _ h)
  have lk46 := hts (.fieldLink RX5 46 "RentSizesModel" "state" "[I") (by decide +kernel)
  have lk37 := hts (.fieldLink RX5 37 "RentSizesModel" "size" "[I") (by decide +kernel)
  refine lv_aload_n hx hb dX5_sizeNow_0 rfl (lv_at hl 0 rfl) ?_
  refine r_get (C := RX5) (T := TX5) (v := .ref (a 17)) hx hb hts i5 hown hw 0 rfl rfl 17 (by decide) lk46 rfl dX5_sizeNow_1 ?_
  refine lv_iload_n hx hb dX5_sizeNow_4 rfl (lv_at hl 1 rfl) ?_
  refine r_ialdN (v := a17 x) hx hb hw 13 rfl ht0 x (by omega) (by decide) dX5_sizeNow_5 rfl ?_
  refine lv_iconst (v := 2) hx hb dX5_sizeNow_6 (by decide) ?_
  refine lv_icmp_ne (tgt := 14) hx hb dX5_sizeNow_7 (by decide) (fun c_7 => ?_) (fun c_7 => ?_)
  · refine lv_aload_n hx hb dX5_sizeNow_14 rfl (lv_at hl 0 rfl) ?_
    refine r_get (C := RX5) (T := TX5) (v := .ref (a 14)) hx hb hts i5 hown hw 0 rfl rfl 14 (by decide) lk37 rfl dX5_sizeNow_15 ?_
    refine lv_iload_n hx hb dX5_sizeNow_18 rfl (lv_at hl 1 rfl) ?_
    refine r_ialdN (v := a14 x) hx hb hw 10 rfl ht0 x (by omega) (by decide) dX5_sizeNow_19 rfl ?_
    have e9 : f5_sizeNow a14 a17 x = a14 x := by unfold f5_sizeNow; rw [if_neg c_7]
    exact r_iret hx hb hr hlocks hw ⟨by rw [e9] <;> rfl, rfl⟩ dX5_sizeNow_20
  · refine lv_iconst (v := 0) hx hb dX5_sizeNow_10 (by decide) ?_
    refine lv_goto (tgt := 20) hx hb dX5_sizeNow_11 (by decide) ?_
    have e9 : f5_sizeNow a14 a17 x = 0 := by unfold f5_sizeNow; rw [if_pos c_7]
    exact r_iret hx hb hr hlocks hw ⟨by rw [e9] <;> rfl, rfl⟩ dX5_sizeNow_20
def lf5_heldFor_4 (a19 : Nat → Int32) (a20 : Nat → Int32) (x : Nat) : Nat → Nat → Int32 → Int32
  | 0, _, v2 => v2
  | k + 1, j, v2 => lf5_heldFor_4 a19 a20 x k (j + 1) (v2 + ((a19 ((16 * x) + j)) * (a20 ((16 * x) + j))))
set_option maxHeartbeats 4000000 in
set_option maxRecDepth 100000 in
theorem lt5_heldFor_4 (l : Launch) (D : va_G) (ty : List (ClassId × FieldType)) (a : Nat → Nat) (cI : ClassId) (ht0 : ty[0]? = some (cI, .int)) (s0 : Int32) (s1 : Int32) (a2 : Nat → Int32) (a3 : Nat → Int32) (a4 : Nat → Int32) (a5 : Nat → Int32) (a6 : Nat → Int32) (a7 : Nat → Int32) (a8 : Nat → Int32) (a9 : Nat → Int32) (s10 : Int32) (s11 : Int32) (s12 : Int32) (a13 : Nat → Int32) (a14 : Nat → Int32) (a15 : Nat → Int32) (a16 : Nat → Int32) (a17 : Nat → Int32) (a18 : Nat → Int32) (a19 : Nat → Int32) (a20 : Nat → Int32) (a21 : Nat → Int32) (s22 : Int32) (x : Nat) (hx60 : x < 60) (hl0 : a18 x = nI (tn (a18 x))) (hl1 : tn (a18 x) ≤ 16)  {p : Program} {e : Env} {s : State} {m : MethodId} {args : Array Value} {below : List Frame} {meth : Method} {c : Code} {A : Nat → Prop} {H0 : Heap} {Q : State → Prop} (hx : p.tables.exec = Jvm.exec) (hb : c.code = cX5_heldFor) (hml : c.maxLocals = 4) (hts : ∀ w ∈ wsX5_heldFor, w.before args s = true) (hown : s.vm.findClass RX5 = some m.cls) : ∀ (k j : Nat) (v2 : Int32) (hj : j + k = tn (a18 x)) (H : Heap) (locs : List Loc) (ls : Array Slot) (hw : Wd D ty A H0 s (MW a cI s0 s1 a2 a3 a4 a5 a6 a7 a8 a9 s10 s11 s12 a13 a14 a15 a16 a17 a18 a19 a20 a21 s22) H locs) (hl : lv_has ls 4 [(3, .int (nI (j))), (2, .int (v2)), (0, .ref (a 0)), (1, .int (nI (x)))]) (kk : ∀ (H1 : Heap) (locs1 : List Loc) (ls1 : Array Slot), Wd D ty A H0 s (MW a cI s0 s1 a2 a3 a4 a5 a6 a7 a8 a9 s10 s11 s12 a13 a14 a15 a16 a17 a18 a19 a20 a21 s22) H1 locs1 → lv_has ls1 4 [(3, .int (nI (tn (a18 x)))), (2, .int ((lf5_heldFor_4 a19 a20 x k j v2))), (0, .ref (a 0)), (1, .int (nI (x)))] → W p l e ({ frames := 0, cells := 0, slots := 0, locals := 0 } : Room) s m args below meth c H1 locs1 0 0 Q (F0 m 46 ls1 [])), W p l e ({ frames := 0, cells := 0, slots := 0, locals := 0 } : Room) s m args below meth c H locs 0 0 Q (F0 m 4 ls []) := by
  have i5 : ∀ w ∈ wsX50, w ∈ wsX5_heldFor := fun _ h => List.mem_cons_of_mem _ (List.mem_append_right _ h)
  have lk49 := hts (.fieldLink RX5 49 "RentSizesModel" "layers" "[I") (by decide +kernel)
  have lk52 := hts (.fieldLink RX5 52 "RentSizesModel" "layerBytes" "[I") (by decide +kernel)
  have lk55 := hts (.fieldLink RX5 55 "RentSizesModel" "layerPrice" "[I") (by decide +kernel)
  intro k
  induction k with
  | zero =>
    intro j v2 hj H locs ls hw hl kk
    have hj0 : j = tn (a18 x) := by omega
    refine lv_iload_n hx hb dX5_heldFor_4 rfl (lv_at hl 0 rfl) ?_
    refine lv_aload_n hx hb dX5_heldFor_5 rfl (lv_at hl 2 rfl) ?_
    refine r_get (C := RX5) (T := TX5) (v := .ref (a 18)) hx hb hts i5 hown hw 0 rfl rfl 18 (by decide) lk49 rfl dX5_heldFor_6 ?_
    refine lv_iload_n hx hb dX5_heldFor_9 rfl (lv_at hl 3 rfl) ?_
    refine r_ialdN (v := a18 x) hx hb hw 14 rfl ht0 x (by omega) (by decide) dX5_heldFor_10 rfl ?_
    refine r_top (nI (tn (a18 x))) hl0 ?_
    refine lv_icmp_ge (tgt := 46) hx hb dX5_heldFor_11 (by decide) (fun c_11 => ?_) (fun c_11 => ?_)
    · rw [hj0] at hl
      exact kk _ _ _ hw (lv_sub hl [0, 1, 2, 3] rfl)
    · exact absurd (nI_le (by omega) (by omega)) c_11
  | succ k ih =>
    intro j v2 hj H locs ls hw hl kk
    have hjb : j < tn (a18 x) := by omega
    refine lv_iload_n hx hb dX5_heldFor_4 rfl (lv_at hl 0 rfl) ?_
    refine lv_aload_n hx hb dX5_heldFor_5 rfl (lv_at hl 2 rfl) ?_
    refine r_get (C := RX5) (T := TX5) (v := .ref (a 18)) hx hb hts i5 hown hw 0 rfl rfl 18 (by decide) lk49 rfl dX5_heldFor_6 ?_
    refine lv_iload_n hx hb dX5_heldFor_9 rfl (lv_at hl 3 rfl) ?_
    refine r_ialdN (v := a18 x) hx hb hw 14 rfl ht0 x (by omega) (by decide) dX5_heldFor_10 rfl ?_
    refine r_top (nI (tn (a18 x))) hl0 ?_
    refine lv_icmp_ge (tgt := 46) hx hb dX5_heldFor_11 (by decide) (fun c_11 => ?_) (fun c_11 => ?_)
    · exact absurd c_11 (nI_ge (by omega) (by omega))
    · refine lv_iload_n hx hb dX5_heldFor_14 rfl (lv_at hl 1 rfl) ?_
      refine lv_aload_n hx hb dX5_heldFor_15 rfl (lv_at hl 2 rfl) ?_
      refine r_get (C := RX5) (T := TX5) (v := .ref (a 19)) hx hb hts i5 hown hw 0 rfl rfl 19 (by decide) lk52 rfl dX5_heldFor_16 ?_
      refine lv_bipush (v := 16) hx hb dX5_heldFor_19 (by decide) ?_
      refine lv_iload_n hx hb dX5_heldFor_21 rfl (lv_at hl 3 rfl) ?_
      refine lv_imul hx hb dX5_heldFor_22 ?_
      refine r_top (nI (16 * x)) (show nI (16) * nI (x) = nI (16 * x) from pk_mul _ _) ?_
      refine lv_iload_n hx hb dX5_heldFor_23 rfl (lv_at hl 0 rfl) ?_
      refine lv_iadd hx hb dX5_heldFor_24 ?_
      refine r_top (nI ((16 * x) + j)) (show nI (16 * x) + nI (j) = nI ((16 * x) + j) from nI_add _ _) ?_
      refine r_ialdN (v := a19 ((16 * x) + j)) hx hb hw 15 rfl ht0 ((16 * x) + j) (by omega) (by decide) dX5_heldFor_25 rfl ?_
      refine lv_aload_n hx hb dX5_heldFor_26 rfl (lv_at hl 2 rfl) ?_
      refine r_get (C := RX5) (T := TX5) (v := .ref (a 20)) hx hb hts i5 hown hw 0 rfl rfl 20 (by decide) lk55 rfl dX5_heldFor_27 ?_
      refine lv_bipush (v := 16) hx hb dX5_heldFor_30 (by decide) ?_
      refine lv_iload_n hx hb dX5_heldFor_32 rfl (lv_at hl 3 rfl) ?_
      refine lv_imul hx hb dX5_heldFor_33 ?_
      refine r_top (nI (16 * x)) (show nI (16) * nI (x) = nI (16 * x) from pk_mul _ _) ?_
      refine lv_iload_n hx hb dX5_heldFor_34 rfl (lv_at hl 0 rfl) ?_
      refine lv_iadd hx hb dX5_heldFor_35 ?_
      refine r_top (nI ((16 * x) + j)) (show nI (16 * x) + nI (j) = nI ((16 * x) + j) from nI_add _ _) ?_
      refine r_ialdN (v := a20 ((16 * x) + j)) hx hb hw 16 rfl ht0 ((16 * x) + j) (by omega) (by decide) dX5_heldFor_36 rfl ?_
      refine lv_imul hx hb dX5_heldFor_37 ?_
      refine lv_iadd hx hb dX5_heldFor_38 ?_
      refine lv_istore_n (lv' := [(2, .int (v2 + ((a19 ((16 * x) + j)) * (a20 ((16 * x) + j))))), (3, .int (nI (j))), (0, .ref (a 0)), (1, .int (nI (x)))]) hx hb dX5_heldFor_39 rfl hl (by decide) rfl (fun ls hl => ?_)
      refine lv_iinc (v := nI (j + 1)) (lv' := [(3, .int (nI (j + 1))), (2, .int (v2 + ((a19 ((16 * x) + j)) * (a20 ((16 * x) + j))))), (0, .ref (a 0)), (1, .int (nI (x)))]) hx hb dX5_heldFor_40 hl (k := 1) rfl (by show nI (j) + 1 = _; exact nI_1 _) (by decide) rfl (fun ls hl => ?_)
      refine lv_goto (tgt := 4) hx hb dX5_heldFor_43 (by decide) ?_
      have e9 : lf5_heldFor_4 a19 a20 x (k + 1) j v2 = lf5_heldFor_4 a19 a20 x k (j + 1) (v2 + ((a19 ((16 * x) + j)) * (a20 ((16 * x) + j)))) := rfl
      rw [e9] at kk
      exact ih (j + 1) (v2 + ((a19 ((16 * x) + j)) * (a20 ((16 * x) + j)))) (by omega)  _ _ _ hw (lv_sub hl [0, 1, 2, 3] rfl) kk
def f5_heldFor (a18 : Nat → Int32) (a19 : Nat → Int32) (a20 : Nat → Int32) (x : Nat) : Int32 :=
  (lf5_heldFor_4 a19 a20 x (tn (a18 x)) 0 0)
set_option maxHeartbeats 4000000 in
set_option maxRecDepth 100000 in
theorem k5_heldFor (l : Launch) (D : va_G) (ty : List (ClassId × FieldType)) (a : Nat → Nat) (cI : ClassId) (ht0 : ty[0]? = some (cI, .int)) (s0 : Int32) (s1 : Int32) (a2 : Nat → Int32) (a3 : Nat → Int32) (a4 : Nat → Int32) (a5 : Nat → Int32) (a6 : Nat → Int32) (a7 : Nat → Int32) (a8 : Nat → Int32) (a9 : Nat → Int32) (s10 : Int32) (s11 : Int32) (s12 : Int32) (a13 : Nat → Int32) (a14 : Nat → Int32) (a15 : Nat → Int32) (a16 : Nat → Int32) (a17 : Nat → Int32) (a18 : Nat → Int32) (a19 : Nat → Int32) (a20 : Nat → Int32) (a21 : Nat → Int32) (s22 : Int32) (x : Nat) (hx60 : x < 60) (hl0 : a18 x = nI (tn (a18 x))) (hl1 : tn (a18 x) ≤ 16) : MetG l yX5_heldFor wsX5_heldFor { frames := 0, cells := 0, slots := 0, locals := 0 } D ty [.ref (a 0), .int (nI (x))] (MW a cI s0 s1 a2 a3 a4 a5 a6 a7 a8 a9 s10 s11 s12 a13 a14 a15 a16 a17 a18 a19 a20 a21 s22) (va_Qi (fun r w => r = f5_heldFor a18 a19 a20 x ∧ w = MW a cI s0 s1 a2 a3 a4 a5 a6 a7 a8 a9 s10 s11 s12 a13 a14 a15 a16 a17 a18 a19 a20 a21 s22)) 0 0 := by
  refine Met_start cX5_heldFor 4 (some .int) (by decide) rfl (Nat.le_of_ble_eq_true rfl) ?_
  intro p e s m below meth c A ls hx hb hr hlocks hml hnm hts hown hw hl
  have hl : lv_has ls 4 [(0, .ref (a 0)), (1, .int (nI (x)))] := hl
  refine lv_iconst (v := 0) hx hb dX5_heldFor_0 (by decide) ?_
  refine lv_istore_n (lv' := [(2, .int (0)), (0, .ref (a 0)), (1, .int (nI (x)))]) hx hb dX5_heldFor_1 rfl hl (by decide) rfl (fun ls hl => ?_)
  refine lv_iconst (v := 0) hx hb dX5_heldFor_2 (by decide) ?_
  refine lv_istore_n (lv' := [(3, .int (0)), (2, .int (0)), (0, .ref (a 0)), (1, .int (nI (x)))]) hx hb dX5_heldFor_3 rfl hl (by decide) rfl (fun ls hl => ?_)
  refine lt5_heldFor_4 l D ty a cI ht0 s0 s1 a2 a3 a4 a5 a6 a7 a8 a9 s10 s11 s12 a13 a14 a15 a16 a17 a18 a19 a20 a21 s22 x hx60 hl0 hl1  hx hb hml hts hown (tn (a18 x)) 0 0 (by omega)  _ _ _ hw hl (fun H locs ls hw hl => ?_)
  refine lv_iload_n hx hb dX5_heldFor_46 rfl (lv_at hl 1 rfl) ?_
  have e9 : f5_heldFor a18 a19 a20 x = (lf5_heldFor_4 a19 a20 x (tn (a18 x)) 0 0) := by unfold f5_heldFor; rfl
  exact r_iret hx hb hr hlocks hw ⟨by rw [e9] <;> rfl, rfl⟩ dX5_heldFor_47
def lf5_held_4 (a18 : Nat → Int32) (a19 : Nat → Int32) (a20 : Nat → Int32) : Nat → Nat → Int32 → Int32
  | 0, _, v1 => v1
  | k + 1, j, v1 => lf5_held_4 a18 a19 a20 k (j + 1) (v1 + (f5_heldFor a18 a19 a20 j))
set_option maxHeartbeats 4000000 in
set_option maxRecDepth 100000 in
theorem lt5_held_4 (l : Launch) (D : va_G) (ty : List (ClassId × FieldType)) (a : Nat → Nat) (cI : ClassId) (ht0 : ty[0]? = some (cI, .int)) (s0 : Int32) (s1 : Int32) (a2 : Nat → Int32) (a3 : Nat → Int32) (a4 : Nat → Int32) (a5 : Nat → Int32) (a6 : Nat → Int32) (a7 : Nat → Int32) (a8 : Nat → Int32) (a9 : Nat → Int32) (s10 : Int32) (s11 : Int32) (s12 : Int32) (a13 : Nat → Int32) (a14 : Nat → Int32) (a15 : Nat → Int32) (a16 : Nat → Int32) (a17 : Nat → Int32) (a18 : Nat → Int32) (a19 : Nat → Int32) (a20 : Nat → Int32) (a21 : Nat → Int32) (s22 : Int32) (hob : s12 = nI (tn s12)) (hob2 : tn s12 ≤ 60) (hlk : ∀ x, x < tn s12 → a18 x = nI (tn (a18 x)) ∧ tn (a18 x) ≤ 16)  {p : Program} {e : Env} {s : State} {m : MethodId} {args : Array Value} {below : List Frame} {meth : Method} {c : Code} {A : Nat → Prop} {H0 : Heap} {Q : State → Prop} (hx : p.tables.exec = Jvm.exec) (hb : c.code = cX5_held) (hml : c.maxLocals = 3) (hts : ∀ w ∈ wsX5_held, w.before args s = true) (hown : s.vm.findClass RX5 = some m.cls) : ∀ (k j : Nat) (v1 : Int32) (hj : j + k = tn s12) (H : Heap) (locs : List Loc) (ls : Array Slot) (hw : Wd D ty A H0 s (MW a cI s0 s1 a2 a3 a4 a5 a6 a7 a8 a9 s10 s11 s12 a13 a14 a15 a16 a17 a18 a19 a20 a21 s22) H locs) (hl : lv_has ls 3 [(2, .int (nI (j))), (1, .int (v1)), (0, .ref (a 0))]) (kk : ∀ (H1 : Heap) (locs1 : List Loc) (ls1 : Array Slot), Wd D ty A H0 s (MW a cI s0 s1 a2 a3 a4 a5 a6 a7 a8 a9 s10 s11 s12 a13 a14 a15 a16 a17 a18 a19 a20 a21 s22) H1 locs1 → lv_has ls1 3 [(2, .int (nI (tn s12))), (1, .int ((lf5_held_4 a18 a19 a20 k j v1))), (0, .ref (a 0))] → W p l e ({ frames := 1, cells := 0, slots := 0, locals := 23 } : Room) s m args below meth c H1 locs1 0 0 Q (F0 m 26 ls1 [])), W p l e ({ frames := 1, cells := 0, slots := 0, locals := 23 } : Room) s m args below meth c H locs 0 0 Q (F0 m 4 ls []) := by
  have i5 : ∀ w ∈ wsX50, w ∈ wsX5_held := fun _ h => List.mem_cons_of_mem _ (List.mem_append_right _ h)
  have lk78 := hts (.fieldLink RX5 78 "RentSizesModel" "objects" "I") (by decide +kernel)
  intro k
  induction k with
  | zero =>
    intro j v1 hj H locs ls hw hl kk
    have hj0 : j = tn s12 := by omega
    refine lv_iload_n hx hb dX5_held_4 rfl (lv_at hl 0 rfl) ?_
    refine lv_aload_n hx hb dX5_held_5 rfl (lv_at hl 2 rfl) ?_
    refine r_get (C := RX5) (T := TX5) (v := .int (s12)) hx hb hts i5 hown hw 0 rfl rfl 12 (by decide) lk78 rfl dX5_held_6 ?_
    refine r_top (nI (tn s12)) hob ?_
    refine lv_icmp_ge (tgt := 26) hx hb dX5_held_9 (by decide) (fun c_9 => ?_) (fun c_9 => ?_)
    · rw [hj0] at hl
      exact kk _ _ _ hw (lv_sub hl [0, 1, 2] rfl)
    · exact absurd (nI_le (by omega) (by omega)) c_9
  | succ k ih =>
    intro j v1 hj H locs ls hw hl kk
    have hjb : j < tn s12 := by omega
    refine lv_iload_n hx hb dX5_held_4 rfl (lv_at hl 0 rfl) ?_
    refine lv_aload_n hx hb dX5_held_5 rfl (lv_at hl 2 rfl) ?_
    refine r_get (C := RX5) (T := TX5) (v := .int (s12)) hx hb hts i5 hown hw 0 rfl rfl 12 (by decide) lk78 rfl dX5_held_6 ?_
    refine r_top (nI (tn s12)) hob ?_
    refine lv_icmp_ge (tgt := 26) hx hb dX5_held_9 (by decide) (fun c_9 => ?_) (fun c_9 => ?_)
    · exact absurd c_9 (nI_ge (by omega) (by omega))
    · refine lv_iload_n hx hb dX5_held_12 rfl (lv_at hl 1 rfl) ?_
      refine lv_aload_n hx hb dX5_held_13 rfl (lv_at hl 2 rfl) ?_
      refine lv_iload_n hx hb dX5_held_14 rfl (lv_at hl 0 rfl) ?_
      refine r_callVi 0 rfl rfl (rest := [.int (v1)]) ⟨hx, hb, hml, hown, hts⟩ hw [.int (nI (j))] (k5_heldFor l D ty a cI ht0 s0 s1 a2 a3 a4 a5 a6 a7 a8 a9 s10 s11 s12 a13 a14 a15 a16 a17 a18 a19 a20 a21 s22 j (by omega) (hlk j (by omega)).1 (hlk j (by omega)).2) (cwV 1 hts gX5_held_X5_heldFor rfl rfl rfl (by decide +kernel) ⟨Nat.le_of_ble_eq_true rfl, Nat.le_of_ble_eq_true rfl⟩) rfl hl.1 rfl (Nat.le_of_ble_eq_true rfl) dX5_held_15 ⟨Nat.le_of_ble_eq_true rfl, Nat.le_of_ble_eq_true rfl⟩ (fun r w H locs hp hw => ?_)
      obtain ⟨rfl, rfl⟩ := hp
      refine lv_iadd hx hb dX5_held_18 ?_
      refine lv_istore_n (lv' := [(1, .int (v1 + (f5_heldFor a18 a19 a20 j))), (2, .int (nI (j))), (0, .ref (a 0))]) hx hb dX5_held_19 rfl hl (by decide) rfl (fun ls hl => ?_)
      refine lv_iinc (v := nI (j + 1)) (lv' := [(2, .int (nI (j + 1))), (1, .int (v1 + (f5_heldFor a18 a19 a20 j))), (0, .ref (a 0))]) hx hb dX5_held_20 hl (k := 1) rfl (by show nI (j) + 1 = _; exact nI_1 _) (by decide) rfl (fun ls hl => ?_)
      refine lv_goto (tgt := 4) hx hb dX5_held_23 (by decide) ?_
      have e9 : lf5_held_4 a18 a19 a20 (k + 1) j v1 = lf5_held_4 a18 a19 a20 k (j + 1) (v1 + (f5_heldFor a18 a19 a20 j)) := rfl
      rw [e9] at kk
      exact ih (j + 1) (v1 + (f5_heldFor a18 a19 a20 j)) (by omega)  _ _ _ hw (lv_sub hl [0, 1, 2] rfl) kk
def f5_held (s12 : Int32) (a18 : Nat → Int32) (a19 : Nat → Int32) (a20 : Nat → Int32) : Int32 :=
  (lf5_held_4 a18 a19 a20 (tn s12) 0 0)
set_option maxHeartbeats 4000000 in
set_option maxRecDepth 100000 in
theorem k5_held (l : Launch) (D : va_G) (ty : List (ClassId × FieldType)) (a : Nat → Nat) (cI : ClassId) (ht0 : ty[0]? = some (cI, .int)) (s0 : Int32) (s1 : Int32) (a2 : Nat → Int32) (a3 : Nat → Int32) (a4 : Nat → Int32) (a5 : Nat → Int32) (a6 : Nat → Int32) (a7 : Nat → Int32) (a8 : Nat → Int32) (a9 : Nat → Int32) (s10 : Int32) (s11 : Int32) (s12 : Int32) (a13 : Nat → Int32) (a14 : Nat → Int32) (a15 : Nat → Int32) (a16 : Nat → Int32) (a17 : Nat → Int32) (a18 : Nat → Int32) (a19 : Nat → Int32) (a20 : Nat → Int32) (a21 : Nat → Int32) (s22 : Int32) (hob : s12 = nI (tn s12)) (hob2 : tn s12 ≤ 60) (hlk : ∀ x, x < tn s12 → a18 x = nI (tn (a18 x)) ∧ tn (a18 x) ≤ 16) : MetG l yX5_held wsX5_held { frames := 1, cells := 0, slots := 0, locals := 23 } D ty [.ref (a 0)] (MW a cI s0 s1 a2 a3 a4 a5 a6 a7 a8 a9 s10 s11 s12 a13 a14 a15 a16 a17 a18 a19 a20 a21 s22) (va_Qi (fun r w => r = f5_held s12 a18 a19 a20 ∧ w = MW a cI s0 s1 a2 a3 a4 a5 a6 a7 a8 a9 s10 s11 s12 a13 a14 a15 a16 a17 a18 a19 a20 a21 s22)) 0 0 := by
  refine Met_start cX5_held 3 (some .int) (by decide) rfl (Nat.le_of_ble_eq_true rfl) ?_
  intro p e s m below meth c A ls hx hb hr hlocks hml hnm hts hown hw hl
  have hl : lv_has ls 3 [(0, .ref (a 0))] := hl
  refine lv_iconst (v := 0) hx hb dX5_held_0 (by decide) ?_
  refine lv_istore_n (lv' := [(1, .int (0)), (0, .ref (a 0))]) hx hb dX5_held_1 rfl hl (by decide) rfl (fun ls hl => ?_)
  refine lv_iconst (v := 0) hx hb dX5_held_2 (by decide) ?_
  refine lv_istore_n (lv' := [(2, .int (0)), (1, .int (0)), (0, .ref (a 0))]) hx hb dX5_held_3 rfl hl (by decide) rfl (fun ls hl => ?_)
  refine lt5_held_4 l D ty a cI ht0 s0 s1 a2 a3 a4 a5 a6 a7 a8 a9 s10 s11 s12 a13 a14 a15 a16 a17 a18 a19 a20 a21 s22 hob hob2 hlk  hx hb hml hts hown (tn s12) 0 0 (by omega)  _ _ _ hw hl (fun H locs ls hw hl => ?_)
  refine lv_iload_n hx hb dX5_held_26 rfl (lv_at hl 1 rfl) ?_
  have e9 : f5_held s12 a18 a19 a20 = (lf5_held_4 a18 a19 a20 (tn s12) 0 0) := by unfold f5_held; rfl
  exact r_iret hx hb hr hlocks hw ⟨by rw [e9] <;> rfl, rfl⟩ dX5_held_27
def lf5_manyOf_4 (a17 : Nat → Int32) (p1 : Int32) : Nat → Nat → Int32 → Int32
  | 0, _, v2 => v2
  | k + 1, j, v2 => if (a17 j) = p1 then lf5_manyOf_4 a17 p1 k (j + 1) (v2 + 1)
    else lf5_manyOf_4 a17 p1 k (j + 1) (v2 + 0)
set_option maxHeartbeats 4000000 in
set_option maxRecDepth 100000 in
theorem lt5_manyOf_4 (l : Launch) (D : va_G) (ty : List (ClassId × FieldType)) (a : Nat → Nat) (cI : ClassId) (ht0 : ty[0]? = some (cI, .int)) (s0 : Int32) (s1 : Int32) (a2 : Nat → Int32) (a3 : Nat → Int32) (a4 : Nat → Int32) (a5 : Nat → Int32) (a6 : Nat → Int32) (a7 : Nat → Int32) (a8 : Nat → Int32) (a9 : Nat → Int32) (s10 : Int32) (s11 : Int32) (s12 : Int32) (a13 : Nat → Int32) (a14 : Nat → Int32) (a15 : Nat → Int32) (a16 : Nat → Int32) (a17 : Nat → Int32) (a18 : Nat → Int32) (a19 : Nat → Int32) (a20 : Nat → Int32) (a21 : Nat → Int32) (s22 : Int32) (p1 : Int32) (hob : s12 = nI (tn s12)) (hob2 : tn s12 ≤ 60)  {p : Program} {e : Env} {s : State} {m : MethodId} {args : Array Value} {below : List Frame} {meth : Method} {c : Code} {A : Nat → Prop} {H0 : Heap} {Q : State → Prop} (hx : p.tables.exec = Jvm.exec) (hb : c.code = cX5_manyOf) (hml : c.maxLocals = 4) (hts : ∀ w ∈ wsX5_manyOf, w.before args s = true) (hown : s.vm.findClass RX5 = some m.cls) : ∀ (k j : Nat) (v2 : Int32) (hj : j + k = tn s12) (H : Heap) (locs : List Loc) (ls : Array Slot) (hw : Wd D ty A H0 s (MW a cI s0 s1 a2 a3 a4 a5 a6 a7 a8 a9 s10 s11 s12 a13 a14 a15 a16 a17 a18 a19 a20 a21 s22) H locs) (hl : lv_has ls 4 [(3, .int (nI (j))), (2, .int (v2)), (0, .ref (a 0)), (1, .int (p1))]) (kk : ∀ (H1 : Heap) (locs1 : List Loc) (ls1 : Array Slot), Wd D ty A H0 s (MW a cI s0 s1 a2 a3 a4 a5 a6 a7 a8 a9 s10 s11 s12 a13 a14 a15 a16 a17 a18 a19 a20 a21 s22) H1 locs1 → lv_has ls1 4 [(3, .int (nI (tn s12))), (2, .int ((lf5_manyOf_4 a17 p1 k j v2))), (0, .ref (a 0)), (1, .int (p1))] → W p l e ({ frames := 0, cells := 0, slots := 0, locals := 0 } : Room) s m args below meth c H1 locs1 0 0 Q (F0 m 36 ls1 [])), W p l e ({ frames := 0, cells := 0, slots := 0, locals := 0 } : Room) s m args below meth c H locs 0 0 Q (F0 m 4 ls []) := by
  have i5 : ∀ w ∈ wsX50, w ∈ wsX5_manyOf := fun _ h => List.mem_cons_of_mem _ (List.mem_append_right _ h)
  have lk78 := hts (.fieldLink RX5 78 "RentSizesModel" "objects" "I") (by decide +kernel)
  have lk46 := hts (.fieldLink RX5 46 "RentSizesModel" "state" "[I") (by decide +kernel)
  intro k
  induction k with
  | zero =>
    intro j v2 hj H locs ls hw hl kk
    have hj0 : j = tn s12 := by omega
    refine lv_iload_n hx hb dX5_manyOf_4 rfl (lv_at hl 0 rfl) ?_
    refine lv_aload_n hx hb dX5_manyOf_5 rfl (lv_at hl 2 rfl) ?_
    refine r_get (C := RX5) (T := TX5) (v := .int (s12)) hx hb hts i5 hown hw 0 rfl rfl 12 (by decide) lk78 rfl dX5_manyOf_6 ?_
    refine r_top (nI (tn s12)) hob ?_
    refine lv_icmp_ge (tgt := 36) hx hb dX5_manyOf_9 (by decide) (fun c_9 => ?_) (fun c_9 => ?_)
    · rw [hj0] at hl
      exact kk _ _ _ hw (lv_sub hl [0, 1, 2, 3] rfl)
    · exact absurd (nI_le (by omega) (by omega)) c_9
  | succ k ih =>
    intro j v2 hj H locs ls hw hl kk
    have hjb : j < tn s12 := by omega
    refine lv_iload_n hx hb dX5_manyOf_4 rfl (lv_at hl 0 rfl) ?_
    refine lv_aload_n hx hb dX5_manyOf_5 rfl (lv_at hl 2 rfl) ?_
    refine r_get (C := RX5) (T := TX5) (v := .int (s12)) hx hb hts i5 hown hw 0 rfl rfl 12 (by decide) lk78 rfl dX5_manyOf_6 ?_
    refine r_top (nI (tn s12)) hob ?_
    refine lv_icmp_ge (tgt := 36) hx hb dX5_manyOf_9 (by decide) (fun c_9 => ?_) (fun c_9 => ?_)
    · exact absurd c_9 (nI_ge (by omega) (by omega))
    · refine lv_iload_n hx hb dX5_manyOf_12 rfl (lv_at hl 1 rfl) ?_
      refine lv_aload_n hx hb dX5_manyOf_13 rfl (lv_at hl 2 rfl) ?_
      refine r_get (C := RX5) (T := TX5) (v := .ref (a 17)) hx hb hts i5 hown hw 0 rfl rfl 17 (by decide) lk46 rfl dX5_manyOf_14 ?_
      refine lv_iload_n hx hb dX5_manyOf_17 rfl (lv_at hl 0 rfl) ?_
      refine r_ialdN (v := a17 j) hx hb hw 13 rfl ht0 j (by omega) (by decide) dX5_manyOf_18 rfl ?_
      refine lv_iload_n hx hb dX5_manyOf_19 rfl (lv_at hl 3 rfl) ?_
      refine lv_icmp_ne (tgt := 27) hx hb dX5_manyOf_20 (by decide) (fun c_20 => ?_) (fun c_20 => ?_)
      · refine lv_iconst (v := 0) hx hb dX5_manyOf_27 (by decide) ?_
        refine lv_iadd hx hb dX5_manyOf_28 ?_
        refine lv_istore_n (lv' := [(2, .int (v2 + 0)), (3, .int (nI (j))), (0, .ref (a 0)), (1, .int (p1))]) hx hb dX5_manyOf_29 rfl hl (by decide) rfl (fun ls hl => ?_)
        refine lv_iinc (v := nI (j + 1)) (lv' := [(3, .int (nI (j + 1))), (2, .int (v2 + 0)), (0, .ref (a 0)), (1, .int (p1))]) hx hb dX5_manyOf_30 hl (k := 1) rfl (by show nI (j) + 1 = _; exact nI_1 _) (by decide) rfl (fun ls hl => ?_)
        refine lv_goto (tgt := 4) hx hb dX5_manyOf_33 (by decide) ?_
        have e9 : lf5_manyOf_4 a17 p1 (k + 1) j v2 = lf5_manyOf_4 a17 p1 k (j + 1) (v2 + 0) := by rw [lf5_manyOf_4]; rw [if_neg c_20]
        rw [e9] at kk
        exact ih (j + 1) (v2 + 0) (by omega)  _ _ _ hw (lv_sub hl [0, 1, 2, 3] rfl) kk
      · refine lv_iconst (v := 1) hx hb dX5_manyOf_23 (by decide) ?_
        refine lv_goto (tgt := 28) hx hb dX5_manyOf_24 (by decide) ?_
        refine lv_iadd hx hb dX5_manyOf_28 ?_
        refine lv_istore_n (lv' := [(2, .int (v2 + 1)), (3, .int (nI (j))), (0, .ref (a 0)), (1, .int (p1))]) hx hb dX5_manyOf_29 rfl hl (by decide) rfl (fun ls hl => ?_)
        refine lv_iinc (v := nI (j + 1)) (lv' := [(3, .int (nI (j + 1))), (2, .int (v2 + 1)), (0, .ref (a 0)), (1, .int (p1))]) hx hb dX5_manyOf_30 hl (k := 1) rfl (by show nI (j) + 1 = _; exact nI_1 _) (by decide) rfl (fun ls hl => ?_)
        refine lv_goto (tgt := 4) hx hb dX5_manyOf_33 (by decide) ?_
        have e9 : lf5_manyOf_4 a17 p1 (k + 1) j v2 = lf5_manyOf_4 a17 p1 k (j + 1) (v2 + 1) := by rw [lf5_manyOf_4]; rw [if_pos c_20]
        rw [e9] at kk
        exact ih (j + 1) (v2 + 1) (by omega)  _ _ _ hw (lv_sub hl [0, 1, 2, 3] rfl) kk
def f5_manyOf (s12 : Int32) (a17 : Nat → Int32) (p1 : Int32) : Int32 :=
  (lf5_manyOf_4 a17 p1 (tn s12) 0 0)
set_option maxHeartbeats 4000000 in
set_option maxRecDepth 100000 in
theorem k5_manyOf (l : Launch) (D : va_G) (ty : List (ClassId × FieldType)) (a : Nat → Nat) (cI : ClassId) (ht0 : ty[0]? = some (cI, .int)) (s0 : Int32) (s1 : Int32) (a2 : Nat → Int32) (a3 : Nat → Int32) (a4 : Nat → Int32) (a5 : Nat → Int32) (a6 : Nat → Int32) (a7 : Nat → Int32) (a8 : Nat → Int32) (a9 : Nat → Int32) (s10 : Int32) (s11 : Int32) (s12 : Int32) (a13 : Nat → Int32) (a14 : Nat → Int32) (a15 : Nat → Int32) (a16 : Nat → Int32) (a17 : Nat → Int32) (a18 : Nat → Int32) (a19 : Nat → Int32) (a20 : Nat → Int32) (a21 : Nat → Int32) (s22 : Int32) (p1 : Int32) (hob : s12 = nI (tn s12)) (hob2 : tn s12 ≤ 60) : MetG l yX5_manyOf wsX5_manyOf { frames := 0, cells := 0, slots := 0, locals := 0 } D ty [.ref (a 0), .int (p1)] (MW a cI s0 s1 a2 a3 a4 a5 a6 a7 a8 a9 s10 s11 s12 a13 a14 a15 a16 a17 a18 a19 a20 a21 s22) (va_Qi (fun r w => r = f5_manyOf s12 a17 p1 ∧ w = MW a cI s0 s1 a2 a3 a4 a5 a6 a7 a8 a9 s10 s11 s12 a13 a14 a15 a16 a17 a18 a19 a20 a21 s22)) 0 0 := by
  refine Met_start cX5_manyOf 4 (some .int) (by decide) rfl (Nat.le_of_ble_eq_true rfl) ?_
  intro p e s m below meth c A ls hx hb hr hlocks hml hnm hts hown hw hl
  have hl : lv_has ls 4 [(0, .ref (a 0)), (1, .int (p1))] := hl
  refine lv_iconst (v := 0) hx hb dX5_manyOf_0 (by decide) ?_
  refine lv_istore_n (lv' := [(2, .int (0)), (0, .ref (a 0)), (1, .int (p1))]) hx hb dX5_manyOf_1 rfl hl (by decide) rfl (fun ls hl => ?_)
  refine lv_iconst (v := 0) hx hb dX5_manyOf_2 (by decide) ?_
  refine lv_istore_n (lv' := [(3, .int (0)), (2, .int (0)), (0, .ref (a 0)), (1, .int (p1))]) hx hb dX5_manyOf_3 rfl hl (by decide) rfl (fun ls hl => ?_)
  refine lt5_manyOf_4 l D ty a cI ht0 s0 s1 a2 a3 a4 a5 a6 a7 a8 a9 s10 s11 s12 a13 a14 a15 a16 a17 a18 a19 a20 a21 s22 p1 hob hob2  hx hb hml hts hown (tn s12) 0 0 (by omega)  _ _ _ hw hl (fun H locs ls hw hl => ?_)
  refine lv_iload_n hx hb dX5_manyOf_36 rfl (lv_at hl 1 rfl) ?_
  have e9 : f5_manyOf s12 a17 p1 = (lf5_manyOf_4 a17 p1 (tn s12) 0 0) := by unfold f5_manyOf; rfl
  exact r_iret hx hb hr hlocks hw ⟨by rw [e9] <;> rfl, rfl⟩ dX5_manyOf_37
def lf5_allCoins_12 (a6 : Nat → Int32) : Nat → Nat → Int32 → Int32
  | 0, _, v1 => v1
  | k + 1, j, v1 => lf5_allCoins_12 a6 k (j + 1) (v1 + (a6 j))
set_option maxHeartbeats 4000000 in
set_option maxRecDepth 100000 in
theorem lt5_allCoins_12 (l : Launch) (D : va_G) (ty : List (ClassId × FieldType)) (a : Nat → Nat) (cI : ClassId) (ht0 : ty[0]? = some (cI, .int)) (s0 : Int32) (s1 : Int32) (a2 : Nat → Int32) (a3 : Nat → Int32) (a4 : Nat → Int32) (a5 : Nat → Int32) (a6 : Nat → Int32) (a7 : Nat → Int32) (a8 : Nat → Int32) (a9 : Nat → Int32) (s10 : Int32) (s11 : Int32) (s12 : Int32) (a13 : Nat → Int32) (a14 : Nat → Int32) (a15 : Nat → Int32) (a16 : Nat → Int32) (a17 : Nat → Int32) (a18 : Nat → Int32) (a19 : Nat → Int32) (a20 : Nat → Int32) (a21 : Nat → Int32) (s22 : Int32) (hob : s12 = nI (tn s12)) (hob2 : tn s12 ≤ 60) (hlk : ∀ x, x < tn s12 → a18 x = nI (tn (a18 x)) ∧ tn (a18 x) ≤ 16)  {p : Program} {e : Env} {s : State} {m : MethodId} {args : Array Value} {below : List Frame} {meth : Method} {c : Code} {A : Nat → Prop} {H0 : Heap} {Q : State → Prop} (hx : p.tables.exec = Jvm.exec) (hb : c.code = cX5_allCoins) (hml : c.maxLocals = 3) (hts : ∀ w ∈ wsX5_allCoins, w.before args s = true) (hown : s.vm.findClass RX5 = some m.cls) : ∀ (k j : Nat) (v1 : Int32) (hj : j + k = 6) (H : Heap) (locs : List Loc) (ls : Array Slot) (hw : Wd D ty A H0 s (MW a cI s0 s1 a2 a3 a4 a5 a6 a7 a8 a9 s10 s11 s12 a13 a14 a15 a16 a17 a18 a19 a20 a21 s22) H locs) (hl : lv_has ls 3 [(2, .int (nI (j))), (1, .int (v1)), (0, .ref (a 0))]) (kk : ∀ (H1 : Heap) (locs1 : List Loc) (ls1 : Array Slot), Wd D ty A H0 s (MW a cI s0 s1 a2 a3 a4 a5 a6 a7 a8 a9 s10 s11 s12 a13 a14 a15 a16 a17 a18 a19 a20 a21 s22) H1 locs1 → lv_has ls1 3 [(2, .int (nI (6))), (1, .int ((lf5_allCoins_12 a6 k j v1))), (0, .ref (a 0))] → W p l e ({ frames := 2, cells := 0, slots := 0, locals := 45 } : Room) s m args below meth c H1 locs1 0 0 Q (F0 m 33 ls1 [])), W p l e ({ frames := 2, cells := 0, slots := 0, locals := 45 } : Room) s m args below meth c H locs 0 0 Q (F0 m 12 ls []) := by
  have i5 : ∀ w ∈ wsX50, w ∈ wsX5_allCoins := fun _ h => List.mem_cons_of_mem _ (List.mem_append_right _ h)
  have lk22 := hts (.fieldLink RX5 22 "RentSizesModel" "accountCoins" "[I") (by decide +kernel)
  intro k
  induction k with
  | zero =>
    intro j v1 hj H locs ls hw hl kk
    have hj0 : j = 6 := by omega
    refine lv_iload_n hx hb dX5_allCoins_12 rfl (lv_at hl 0 rfl) ?_
    refine lv_bipush (v := 6) hx hb dX5_allCoins_13 (by decide) ?_
    refine r_top (nI 6) rfl ?_
    refine lv_icmp_ge (tgt := 33) hx hb dX5_allCoins_15 (by decide) (fun c_15 => ?_) (fun c_15 => ?_)
    · subst hj0
      exact kk _ _ _ hw (lv_sub hl [0, 1, 2] rfl)
    · exact absurd (nI_le (by omega) (by omega)) c_15
  | succ k ih =>
    intro j v1 hj H locs ls hw hl kk
    have hjb : j < 6 := by omega
    refine lv_iload_n hx hb dX5_allCoins_12 rfl (lv_at hl 0 rfl) ?_
    refine lv_bipush (v := 6) hx hb dX5_allCoins_13 (by decide) ?_
    refine r_top (nI 6) rfl ?_
    refine lv_icmp_ge (tgt := 33) hx hb dX5_allCoins_15 (by decide) (fun c_15 => ?_) (fun c_15 => ?_)
    · exact absurd c_15 (nI_ge (by omega) (by omega))
    · refine lv_iload_n hx hb dX5_allCoins_18 rfl (lv_at hl 1 rfl) ?_
      refine lv_aload_n hx hb dX5_allCoins_19 rfl (lv_at hl 2 rfl) ?_
      refine r_get (C := RX5) (T := TX5) (v := .ref (a 6)) hx hb hts i5 hown hw 0 rfl rfl 6 (by decide) lk22 rfl dX5_allCoins_20 ?_
      refine lv_iload_n hx hb dX5_allCoins_23 rfl (lv_at hl 0 rfl) ?_
      refine r_ialdN (v := a6 j) hx hb hw 5 rfl ht0 j (by omega) (by decide) dX5_allCoins_24 rfl ?_
      refine lv_iadd hx hb dX5_allCoins_25 ?_
      refine lv_istore_n (lv' := [(1, .int (v1 + (a6 j))), (2, .int (nI (j))), (0, .ref (a 0))]) hx hb dX5_allCoins_26 rfl hl (by decide) rfl (fun ls hl => ?_)
      refine lv_iinc (v := nI (j + 1)) (lv' := [(2, .int (nI (j + 1))), (1, .int (v1 + (a6 j))), (0, .ref (a 0))]) hx hb dX5_allCoins_27 hl (k := 1) rfl (by show nI (j) + 1 = _; exact nI_1 _) (by decide) rfl (fun ls hl => ?_)
      refine lv_goto (tgt := 12) hx hb dX5_allCoins_30 (by decide) ?_
      have e9 : lf5_allCoins_12 a6 (k + 1) j v1 = lf5_allCoins_12 a6 k (j + 1) (v1 + (a6 j)) := rfl
      rw [e9] at kk
      exact ih (j + 1) (v1 + (a6 j)) (by omega)  _ _ _ hw (lv_sub hl [0, 1, 2] rfl) kk
def lf5_allCoins_35 (a8 : Nat → Int32) : Nat → Nat → Int32 → Int32
  | 0, _, v1 => v1
  | k + 1, j, v1 => lf5_allCoins_35 a8 k (j + 1) (v1 + (a8 j))
set_option maxHeartbeats 4000000 in
set_option maxRecDepth 100000 in
theorem lt5_allCoins_35 (l : Launch) (D : va_G) (ty : List (ClassId × FieldType)) (a : Nat → Nat) (cI : ClassId) (ht0 : ty[0]? = some (cI, .int)) (s0 : Int32) (s1 : Int32) (a2 : Nat → Int32) (a3 : Nat → Int32) (a4 : Nat → Int32) (a5 : Nat → Int32) (a6 : Nat → Int32) (a7 : Nat → Int32) (a8 : Nat → Int32) (a9 : Nat → Int32) (s10 : Int32) (s11 : Int32) (s12 : Int32) (a13 : Nat → Int32) (a14 : Nat → Int32) (a15 : Nat → Int32) (a16 : Nat → Int32) (a17 : Nat → Int32) (a18 : Nat → Int32) (a19 : Nat → Int32) (a20 : Nat → Int32) (a21 : Nat → Int32) (s22 : Int32) (hob : s12 = nI (tn s12)) (hob2 : tn s12 ≤ 60) (hlk : ∀ x, x < tn s12 → a18 x = nI (tn (a18 x)) ∧ tn (a18 x) ≤ 16)  {p : Program} {e : Env} {s : State} {m : MethodId} {args : Array Value} {below : List Frame} {meth : Method} {c : Code} {A : Nat → Prop} {H0 : Heap} {Q : State → Prop} (hx : p.tables.exec = Jvm.exec) (hb : c.code = cX5_allCoins) (hml : c.maxLocals = 3) (hts : ∀ w ∈ wsX5_allCoins, w.before args s = true) (hown : s.vm.findClass RX5 = some m.cls) : ∀ (k j : Nat) (v1 : Int32) (hj : j + k = 5) (H : Heap) (locs : List Loc) (ls : Array Slot) (hw : Wd D ty A H0 s (MW a cI s0 s1 a2 a3 a4 a5 a6 a7 a8 a9 s10 s11 s12 a13 a14 a15 a16 a17 a18 a19 a20 a21 s22) H locs) (hl : lv_has ls 3 [(2, .int (nI (j))), (1, .int (v1)), (0, .ref (a 0))]) (kk : ∀ (H1 : Heap) (locs1 : List Loc) (ls1 : Array Slot), Wd D ty A H0 s (MW a cI s0 s1 a2 a3 a4 a5 a6 a7 a8 a9 s10 s11 s12 a13 a14 a15 a16 a17 a18 a19 a20 a21 s22) H1 locs1 → lv_has ls1 3 [(2, .int (nI (5))), (1, .int ((lf5_allCoins_35 a8 k j v1))), (0, .ref (a 0))] → W p l e ({ frames := 2, cells := 0, slots := 0, locals := 45 } : Room) s m args below meth c H1 locs1 0 0 Q (F0 m 55 ls1 [])), W p l e ({ frames := 2, cells := 0, slots := 0, locals := 45 } : Room) s m args below meth c H locs 0 0 Q (F0 m 35 ls []) := by
  have i5 : ∀ w ∈ wsX50, w ∈ wsX5_allCoins := fun _ h => List.mem_cons_of_mem _ (List.mem_append_right _ h)
  have lk28 := hts (.fieldLink RX5 28 "RentSizesModel" "nodeCoins" "[I") (by decide +kernel)
  intro k
  induction k with
  | zero =>
    intro j v1 hj H locs ls hw hl kk
    have hj0 : j = 5 := by omega
    refine lv_iload_n hx hb dX5_allCoins_35 rfl (lv_at hl 0 rfl) ?_
    refine lv_iconst (v := 5) hx hb dX5_allCoins_36 (by decide) ?_
    refine r_top (nI 5) rfl ?_
    refine lv_icmp_ge (tgt := 55) hx hb dX5_allCoins_37 (by decide) (fun c_37 => ?_) (fun c_37 => ?_)
    · subst hj0
      exact kk _ _ _ hw (lv_sub hl [0, 1, 2] rfl)
    · exact absurd (nI_le (by omega) (by omega)) c_37
  | succ k ih =>
    intro j v1 hj H locs ls hw hl kk
    have hjb : j < 5 := by omega
    refine lv_iload_n hx hb dX5_allCoins_35 rfl (lv_at hl 0 rfl) ?_
    refine lv_iconst (v := 5) hx hb dX5_allCoins_36 (by decide) ?_
    refine r_top (nI 5) rfl ?_
    refine lv_icmp_ge (tgt := 55) hx hb dX5_allCoins_37 (by decide) (fun c_37 => ?_) (fun c_37 => ?_)
    · exact absurd c_37 (nI_ge (by omega) (by omega))
    · refine lv_iload_n hx hb dX5_allCoins_40 rfl (lv_at hl 1 rfl) ?_
      refine lv_aload_n hx hb dX5_allCoins_41 rfl (lv_at hl 2 rfl) ?_
      refine r_get (C := RX5) (T := TX5) (v := .ref (a 8)) hx hb hts i5 hown hw 0 rfl rfl 8 (by decide) lk28 rfl dX5_allCoins_42 ?_
      refine lv_iload_n hx hb dX5_allCoins_45 rfl (lv_at hl 0 rfl) ?_
      refine r_ialdN (v := a8 j) hx hb hw 7 rfl ht0 j (by omega) (by decide) dX5_allCoins_46 rfl ?_
      refine lv_iadd hx hb dX5_allCoins_47 ?_
      refine lv_istore_n (lv' := [(1, .int (v1 + (a8 j))), (2, .int (nI (j))), (0, .ref (a 0))]) hx hb dX5_allCoins_48 rfl hl (by decide) rfl (fun ls hl => ?_)
      refine lv_iinc (v := nI (j + 1)) (lv' := [(2, .int (nI (j + 1))), (1, .int (v1 + (a8 j))), (0, .ref (a 0))]) hx hb dX5_allCoins_49 hl (k := 1) rfl (by show nI (j) + 1 = _; exact nI_1 _) (by decide) rfl (fun ls hl => ?_)
      refine lv_goto (tgt := 35) hx hb dX5_allCoins_52 (by decide) ?_
      have e9 : lf5_allCoins_35 a8 (k + 1) j v1 = lf5_allCoins_35 a8 k (j + 1) (v1 + (a8 j)) := rfl
      rw [e9] at kk
      exact ih (j + 1) (v1 + (a8 j)) (by omega)  _ _ _ hw (lv_sub hl [0, 1, 2] rfl) kk
def f5_allCoins (a6 : Nat → Int32) (a8 : Nat → Int32) (s10 : Int32) (s12 : Int32) (a18 : Nat → Int32) (a19 : Nat → Int32) (a20 : Nat → Int32) : Int32 :=
  (lf5_allCoins_35 a8 5 0 (lf5_allCoins_12 a6 6 0 ((f5_held s12 a18 a19 a20) + s10)))
set_option maxHeartbeats 4000000 in
set_option maxRecDepth 100000 in
theorem k5_allCoins (l : Launch) (D : va_G) (ty : List (ClassId × FieldType)) (a : Nat → Nat) (cI : ClassId) (ht0 : ty[0]? = some (cI, .int)) (s0 : Int32) (s1 : Int32) (a2 : Nat → Int32) (a3 : Nat → Int32) (a4 : Nat → Int32) (a5 : Nat → Int32) (a6 : Nat → Int32) (a7 : Nat → Int32) (a8 : Nat → Int32) (a9 : Nat → Int32) (s10 : Int32) (s11 : Int32) (s12 : Int32) (a13 : Nat → Int32) (a14 : Nat → Int32) (a15 : Nat → Int32) (a16 : Nat → Int32) (a17 : Nat → Int32) (a18 : Nat → Int32) (a19 : Nat → Int32) (a20 : Nat → Int32) (a21 : Nat → Int32) (s22 : Int32) (hob : s12 = nI (tn s12)) (hob2 : tn s12 ≤ 60) (hlk : ∀ x, x < tn s12 → a18 x = nI (tn (a18 x)) ∧ tn (a18 x) ≤ 16) : MetG l yX5_allCoins wsX5_allCoins { frames := 2, cells := 0, slots := 0, locals := 45 } D ty [.ref (a 0)] (MW a cI s0 s1 a2 a3 a4 a5 a6 a7 a8 a9 s10 s11 s12 a13 a14 a15 a16 a17 a18 a19 a20 a21 s22) (va_Qi (fun r w => r = f5_allCoins a6 a8 s10 s12 a18 a19 a20 ∧ w = MW a cI s0 s1 a2 a3 a4 a5 a6 a7 a8 a9 s10 s11 s12 a13 a14 a15 a16 a17 a18 a19 a20 a21 s22)) 0 0 := by
  refine Met_start cX5_allCoins 3 (some .int) (by decide) rfl (Nat.le_of_ble_eq_true rfl) ?_
  intro p e s m below meth c A ls hx hb hr hlocks hml hnm hts hown hw hl
  have hl : lv_has ls 3 [(0, .ref (a 0))] := hl
  have i5 : ∀ w ∈ wsX50, w ∈ wsX5_allCoins := fun _ h => List.mem_cons_of_mem _ (List.mem_append_right _ h)
  have lk72 := hts (.fieldLink RX5 72 "RentSizesModel" "pool" "I") (by decide +kernel)
  refine lv_aload_n hx hb dX5_allCoins_0 rfl (lv_at hl 0 rfl) ?_
  refine r_callVi 0 rfl rfl (rest := []) ⟨hx, hb, hml, hown, hts⟩ hw [] (k5_held l D ty a cI ht0 s0 s1 a2 a3 a4 a5 a6 a7 a8 a9 s10 s11 s12 a13 a14 a15 a16 a17 a18 a19 a20 a21 s22 (by first | assumption | omega) (by first | assumption | omega) (by first | assumption | omega)) (cwV 0 hts gX5_allCoins_X5_held rfl rfl rfl (by decide +kernel) ⟨Nat.le_of_ble_eq_true rfl, Nat.le_of_ble_eq_true rfl⟩) rfl hl.1 rfl (Nat.le_of_ble_eq_true rfl) dX5_allCoins_1 ⟨Nat.le_of_ble_eq_true rfl, Nat.le_of_ble_eq_true rfl⟩ (fun r w H locs hp hw => ?_)
  obtain ⟨rfl, rfl⟩ := hp
  refine lv_aload_n hx hb dX5_allCoins_4 rfl (lv_at hl 0 rfl) ?_
  refine r_get (C := RX5) (T := TX5) (v := .int (s10)) hx hb hts i5 hown hw 0 rfl rfl 10 (by decide) lk72 rfl dX5_allCoins_5 ?_
  refine lv_iadd hx hb dX5_allCoins_8 ?_
  refine lv_istore_n (lv' := [(1, .int ((f5_held s12 a18 a19 a20) + s10)), (0, .ref (a 0))]) hx hb dX5_allCoins_9 rfl hl (by decide) rfl (fun ls hl => ?_)
  refine lv_iconst (v := 0) hx hb dX5_allCoins_10 (by decide) ?_
  refine lv_istore_n (lv' := [(2, .int (0)), (1, .int ((f5_held s12 a18 a19 a20) + s10)), (0, .ref (a 0))]) hx hb dX5_allCoins_11 rfl hl (by decide) rfl (fun ls hl => ?_)
  refine lt5_allCoins_12 l D ty a cI ht0 s0 s1 a2 a3 a4 a5 a6 a7 a8 a9 s10 s11 s12 a13 a14 a15 a16 a17 a18 a19 a20 a21 s22 hob hob2 hlk  hx hb hml hts hown 6 0 ((f5_held s12 a18 a19 a20) + s10) (by omega)  _ _ _ hw hl (fun H locs ls hw hl => ?_)
  refine lv_iconst (v := 0) hx hb dX5_allCoins_33 (by decide) ?_
  refine lv_istore_n (lv' := [(2, .int (0)), (1, .int ((lf5_allCoins_12 a6 6 0 ((f5_held s12 a18 a19 a20) + s10)))), (0, .ref (a 0))]) hx hb dX5_allCoins_34 rfl hl (by decide) rfl (fun ls hl => ?_)
  refine lt5_allCoins_35 l D ty a cI ht0 s0 s1 a2 a3 a4 a5 a6 a7 a8 a9 s10 s11 s12 a13 a14 a15 a16 a17 a18 a19 a20 a21 s22 hob hob2 hlk  hx hb hml hts hown 5 0 (lf5_allCoins_12 a6 6 0 ((f5_held s12 a18 a19 a20) + s10)) (by omega)  _ _ _ hw hl (fun H locs ls hw hl => ?_)
  refine lv_iload_n hx hb dX5_allCoins_55 rfl (lv_at hl 1 rfl) ?_
  have e9 : f5_allCoins a6 a8 s10 s12 a18 a19 a20 = (lf5_allCoins_35 a8 5 0 (lf5_allCoins_12 a6 6 0 ((f5_held s12 a18 a19 a20) + s10))) := by unfold f5_allCoins; rfl
  exact r_iret hx hb hr hlocks hw ⟨by rw [e9] <;> rfl, rfl⟩ dX5_allCoins_56
def lf5_digestOf_9 (a15 : Nat → Int32) (x : Nat) : Nat → Nat → Int32 → Int32
  | 0, _, v2 => v2
  | k + 1, j, v2 => lf5_digestOf_9 a15 x k (j + 1) ((31 * v2) + (a15 ((4 * x) + j)))
set_option maxHeartbeats 4000000 in
set_option maxRecDepth 100000 in
theorem lt5_digestOf_9 (l : Launch) (D : va_G) (ty : List (ClassId × FieldType)) (a : Nat → Nat) (cI : ClassId) (ht0 : ty[0]? = some (cI, .int)) (s0 : Int32) (s1 : Int32) (a2 : Nat → Int32) (a3 : Nat → Int32) (a4 : Nat → Int32) (a5 : Nat → Int32) (a6 : Nat → Int32) (a7 : Nat → Int32) (a8 : Nat → Int32) (a9 : Nat → Int32) (s10 : Int32) (s11 : Int32) (s12 : Int32) (a13 : Nat → Int32) (a14 : Nat → Int32) (a15 : Nat → Int32) (a16 : Nat → Int32) (a17 : Nat → Int32) (a18 : Nat → Int32) (a19 : Nat → Int32) (a20 : Nat → Int32) (a21 : Nat → Int32) (s22 : Int32) (x : Nat) (hx60 : x < 60)  {p : Program} {e : Env} {s : State} {m : MethodId} {args : Array Value} {below : List Frame} {meth : Method} {c : Code} {A : Nat → Prop} {H0 : Heap} {Q : State → Prop} (hx : p.tables.exec = Jvm.exec) (hb : c.code = cX5_digestOf) (hml : c.maxLocals = 4) (hts : ∀ w ∈ wsX5_digestOf, w.before args s = true) (hown : s.vm.findClass RX5 = some m.cls) : ∀ (k j : Nat) (v2 : Int32) (hj : j + k = 4) (H : Heap) (locs : List Loc) (ls : Array Slot) (hw : Wd D ty A H0 s (MW a cI s0 s1 a2 a3 a4 a5 a6 a7 a8 a9 s10 s11 s12 a13 a14 a15 a16 a17 a18 a19 a20 a21 s22) H locs) (hl : lv_has ls 4 [(3, .int (nI (j))), (2, .int (v2)), (0, .ref (a 0)), (1, .int (nI (x)))]) (kk : ∀ (H1 : Heap) (locs1 : List Loc) (ls1 : Array Slot), Wd D ty A H0 s (MW a cI s0 s1 a2 a3 a4 a5 a6 a7 a8 a9 s10 s11 s12 a13 a14 a15 a16 a17 a18 a19 a20 a21 s22) H1 locs1 → lv_has ls1 4 [(3, .int (nI (4))), (2, .int ((lf5_digestOf_9 a15 x k j v2))), (0, .ref (a 0)), (1, .int (nI (x)))] → W p l e ({ frames := 0, cells := 0, slots := 0, locals := 0 } : Room) s m args below meth c H1 locs1 0 0 Q (F0 m 36 ls1 [])), W p l e ({ frames := 0, cells := 0, slots := 0, locals := 0 } : Room) s m args below meth c H locs 0 0 Q (F0 m 9 ls []) := by
  have i5 : ∀ w ∈ wsX50, w ∈ wsX5_digestOf := fun _ h => List.mem_cons_of_mem _ (List.mem_append_right _ h)
  have lk40 := hts (.fieldLink RX5 40 "RentSizesModel" "words" "[I") (by decide +kernel)
  intro k
  induction k with
  | zero =>
    intro j v2 hj H locs ls hw hl kk
    have hj0 : j = 4 := by omega
    refine lv_iload_n hx hb dX5_digestOf_9 rfl (lv_at hl 0 rfl) ?_
    refine lv_iconst (v := 4) hx hb dX5_digestOf_10 (by decide) ?_
    refine r_top (nI 4) rfl ?_
    refine lv_icmp_ge (tgt := 36) hx hb dX5_digestOf_11 (by decide) (fun c_11 => ?_) (fun c_11 => ?_)
    · subst hj0
      exact kk _ _ _ hw (lv_sub hl [0, 1, 2, 3] rfl)
    · exact absurd (nI_le (by omega) (by omega)) c_11
  | succ k ih =>
    intro j v2 hj H locs ls hw hl kk
    have hjb : j < 4 := by omega
    refine lv_iload_n hx hb dX5_digestOf_9 rfl (lv_at hl 0 rfl) ?_
    refine lv_iconst (v := 4) hx hb dX5_digestOf_10 (by decide) ?_
    refine r_top (nI 4) rfl ?_
    refine lv_icmp_ge (tgt := 36) hx hb dX5_digestOf_11 (by decide) (fun c_11 => ?_) (fun c_11 => ?_)
    · exact absurd c_11 (nI_ge (by omega) (by omega))
    · refine lv_bipush (v := 31) hx hb dX5_digestOf_14 (by decide) ?_
      refine lv_iload_n hx hb dX5_digestOf_16 rfl (lv_at hl 1 rfl) ?_
      refine lv_imul hx hb dX5_digestOf_17 ?_
      refine lv_aload_n hx hb dX5_digestOf_18 rfl (lv_at hl 2 rfl) ?_
      refine r_get (C := RX5) (T := TX5) (v := .ref (a 15)) hx hb hts i5 hown hw 0 rfl rfl 15 (by decide) lk40 rfl dX5_digestOf_19 ?_
      refine lv_iconst (v := 4) hx hb dX5_digestOf_22 (by decide) ?_
      refine lv_iload_n hx hb dX5_digestOf_23 rfl (lv_at hl 3 rfl) ?_
      refine lv_imul hx hb dX5_digestOf_24 ?_
      refine r_top (nI (4 * x)) (show nI (4) * nI (x) = nI (4 * x) from pk_mul _ _) ?_
      refine lv_iload_n hx hb dX5_digestOf_25 rfl (lv_at hl 0 rfl) ?_
      refine lv_iadd hx hb dX5_digestOf_26 ?_
      refine r_top (nI ((4 * x) + j)) (show nI (4 * x) + nI (j) = nI ((4 * x) + j) from nI_add _ _) ?_
      refine r_ialdN (v := a15 ((4 * x) + j)) hx hb hw 11 rfl ht0 ((4 * x) + j) (by omega) (by decide) dX5_digestOf_27 rfl ?_
      refine lv_iadd hx hb dX5_digestOf_28 ?_
      refine lv_istore_n (lv' := [(2, .int ((31 * v2) + (a15 ((4 * x) + j)))), (3, .int (nI (j))), (0, .ref (a 0)), (1, .int (nI (x)))]) hx hb dX5_digestOf_29 rfl hl (by decide) rfl (fun ls hl => ?_)
      refine lv_iinc (v := nI (j + 1)) (lv' := [(3, .int (nI (j + 1))), (2, .int ((31 * v2) + (a15 ((4 * x) + j)))), (0, .ref (a 0)), (1, .int (nI (x)))]) hx hb dX5_digestOf_30 hl (k := 1) rfl (by show nI (j) + 1 = _; exact nI_1 _) (by decide) rfl (fun ls hl => ?_)
      refine lv_goto (tgt := 9) hx hb dX5_digestOf_33 (by decide) ?_
      have e9 : lf5_digestOf_9 a15 x (k + 1) j v2 = lf5_digestOf_9 a15 x k (j + 1) ((31 * v2) + (a15 ((4 * x) + j))) := rfl
      rw [e9] at kk
      exact ih (j + 1) ((31 * v2) + (a15 ((4 * x) + j))) (by omega)  _ _ _ hw (lv_sub hl [0, 1, 2, 3] rfl) kk
def f5_digestOf (a14 : Nat → Int32) (a15 : Nat → Int32) (x : Nat) : Int32 :=
  (lf5_digestOf_9 a15 x 4 0 (a14 x)) ^^^ (((lf5_digestOf_9 a15 x 4 0 (a14 x)).toUInt32 >>> ((13 : Int32).toUInt32 &&& Int32.toUInt32 31)).toInt32)
set_option maxHeartbeats 4000000 in
set_option maxRecDepth 100000 in
theorem k5_digestOf (l : Launch) (D : va_G) (ty : List (ClassId × FieldType)) (a : Nat → Nat) (cI : ClassId) (ht0 : ty[0]? = some (cI, .int)) (s0 : Int32) (s1 : Int32) (a2 : Nat → Int32) (a3 : Nat → Int32) (a4 : Nat → Int32) (a5 : Nat → Int32) (a6 : Nat → Int32) (a7 : Nat → Int32) (a8 : Nat → Int32) (a9 : Nat → Int32) (s10 : Int32) (s11 : Int32) (s12 : Int32) (a13 : Nat → Int32) (a14 : Nat → Int32) (a15 : Nat → Int32) (a16 : Nat → Int32) (a17 : Nat → Int32) (a18 : Nat → Int32) (a19 : Nat → Int32) (a20 : Nat → Int32) (a21 : Nat → Int32) (s22 : Int32) (x : Nat) (hx60 : x < 60) : MetG l yX5_digestOf wsX5_digestOf { frames := 0, cells := 0, slots := 0, locals := 0 } D ty [.ref (a 0), .int (nI (x))] (MW a cI s0 s1 a2 a3 a4 a5 a6 a7 a8 a9 s10 s11 s12 a13 a14 a15 a16 a17 a18 a19 a20 a21 s22) (va_Qi (fun r w => r = f5_digestOf a14 a15 x ∧ w = MW a cI s0 s1 a2 a3 a4 a5 a6 a7 a8 a9 s10 s11 s12 a13 a14 a15 a16 a17 a18 a19 a20 a21 s22)) 0 0 := by
  refine Met_start cX5_digestOf 4 (some .int) (by decide) rfl (Nat.le_of_ble_eq_true rfl) ?_
  intro p e s m below meth c A ls hx hb hr hlocks hml hnm hts hown hw hl
  have hl : lv_has ls 4 [(0, .ref (a 0)), (1, .int (nI (x)))] := hl
  have i5 : ∀ w ∈ wsX50, w ∈ wsX5_digestOf := fun _ h => List.mem_cons_of_mem _ (List.mem_append_right _ h)
  have lk37 := hts (.fieldLink RX5 37 "RentSizesModel" "size" "[I") (by decide +kernel)
  refine lv_aload_n hx hb dX5_digestOf_0 rfl (lv_at hl 0 rfl) ?_
  refine r_get (C := RX5) (T := TX5) (v := .ref (a 14)) hx hb hts i5 hown hw 0 rfl rfl 14 (by decide) lk37 rfl dX5_digestOf_1 ?_
  refine lv_iload_n hx hb dX5_digestOf_4 rfl (lv_at hl 1 rfl) ?_
  refine r_ialdN (v := a14 x) hx hb hw 10 rfl ht0 x (by omega) (by decide) dX5_digestOf_5 rfl ?_
  refine lv_istore_n (lv' := [(2, .int (a14 x)), (0, .ref (a 0)), (1, .int (nI (x)))]) hx hb dX5_digestOf_6 rfl hl (by decide) rfl (fun ls hl => ?_)
  refine lv_iconst (v := 0) hx hb dX5_digestOf_7 (by decide) ?_
  refine lv_istore_n (lv' := [(3, .int (0)), (2, .int (a14 x)), (0, .ref (a 0)), (1, .int (nI (x)))]) hx hb dX5_digestOf_8 rfl hl (by decide) rfl (fun ls hl => ?_)
  refine lt5_digestOf_9 l D ty a cI ht0 s0 s1 a2 a3 a4 a5 a6 a7 a8 a9 s10 s11 s12 a13 a14 a15 a16 a17 a18 a19 a20 a21 s22 x hx60  hx hb hml hts hown 4 0 (a14 x) (by omega)  _ _ _ hw hl (fun H locs ls hw hl => ?_)
  refine lv_iload_n hx hb dX5_digestOf_36 rfl (lv_at hl 1 rfl) ?_
  refine lv_iload_n hx hb dX5_digestOf_37 rfl (lv_at hl 1 rfl) ?_
  refine lv_bipush (v := 13) hx hb dX5_digestOf_38 (by decide) ?_
  refine lv_iushr (v := ((lf5_digestOf_9 a15 x 4 0 (a14 x)).toUInt32 >>> ((13 : Int32).toUInt32 &&& Int32.toUInt32 31)).toInt32) hx hb dX5_digestOf_40 rfl ?_
  refine lv_ixor hx hb dX5_digestOf_41 ?_
  have e9 : f5_digestOf a14 a15 x = (lf5_digestOf_9 a15 x 4 0 (a14 x)) ^^^ (((lf5_digestOf_9 a15 x 4 0 (a14 x)).toUInt32 >>> ((13 : Int32).toUInt32 &&& Int32.toUInt32 31)).toInt32) := by unfold f5_digestOf; rfl
  exact r_iret hx hb hr hlocks hw ⟨by rw [e9] <;> rfl, rfl⟩ dX5_digestOf_42
def f5_digest (s12 : Int32) (a14 : Nat → Int32) (a15 : Nat → Int32) (p1 : Int32) : Int32 :=
  if (f5_noObject s12 p1) = 0 then f5_digestOf a14 a15 (tn p1)
  else (-109)
set_option maxHeartbeats 4000000 in
set_option maxRecDepth 100000 in
theorem k5_digest (l : Launch) (D : va_G) (ty : List (ClassId × FieldType)) (a : Nat → Nat) (cI : ClassId) (ht0 : ty[0]? = some (cI, .int)) (s0 : Int32) (s1 : Int32) (a2 : Nat → Int32) (a3 : Nat → Int32) (a4 : Nat → Int32) (a5 : Nat → Int32) (a6 : Nat → Int32) (a7 : Nat → Int32) (a8 : Nat → Int32) (a9 : Nat → Int32) (s10 : Int32) (s11 : Int32) (s12 : Int32) (a13 : Nat → Int32) (a14 : Nat → Int32) (a15 : Nat → Int32) (a16 : Nat → Int32) (a17 : Nat → Int32) (a18 : Nat → Int32) (a19 : Nat → Int32) (a20 : Nat → Int32) (a21 : Nat → Int32) (s22 : Int32) (p1 : Int32) (hob : s12 = nI (tn s12)) (hob2 : tn s12 ≤ 60) : MetG l yX5_digest wsX5_digest { frames := 2, cells := 0, slots := 0, locals := 46 } D ty [.ref (a 0), .int (p1)] (MW a cI s0 s1 a2 a3 a4 a5 a6 a7 a8 a9 s10 s11 s12 a13 a14 a15 a16 a17 a18 a19 a20 a21 s22) (va_Qi (fun r w => r = f5_digest s12 a14 a15 p1 ∧ w = MW a cI s0 s1 a2 a3 a4 a5 a6 a7 a8 a9 s10 s11 s12 a13 a14 a15 a16 a17 a18 a19 a20 a21 s22)) 0 0 := by
  refine Met_start cX5_digest 2 (some .int) (by decide) rfl (Nat.le_of_ble_eq_true rfl) ?_
  intro p e s m below meth c A ls hx hb hr hlocks hml hnm hts hown hw hl
  have hl : lv_has ls 2 [(0, .ref (a 0)), (1, .int (p1))] := hl
  refine lv_aload_n hx hb dX5_digest_0 rfl (lv_at hl 0 rfl) ?_
  refine lv_iload_n hx hb dX5_digest_1 rfl (lv_at hl 1 rfl) ?_
  refine r_callVi 0 rfl rfl (rest := []) ⟨hx, hb, hml, hown, hts⟩ hw [.int (p1)] (k5_noObject l D ty a cI ht0 s0 s1 a2 a3 a4 a5 a6 a7 a8 a9 s10 s11 s12 a13 a14 a15 a16 a17 a18 a19 a20 a21 s22 p1) (cwV 1 hts gX5_digest_X5_noObject rfl rfl rfl (by decide +kernel) ⟨Nat.le_of_ble_eq_true rfl, Nat.le_of_ble_eq_true rfl⟩) rfl hl.1 rfl (Nat.le_of_ble_eq_true rfl) dX5_digest_2 ⟨Nat.le_of_ble_eq_true rfl, Nat.le_of_ble_eq_true rfl⟩ (fun r w H locs hp hw => ?_)
  obtain ⟨rfl, rfl⟩ := hp
  refine lv_if_eq (tgt := 13) hx hb dX5_digest_5 (by decide) (fun c_5 => ?_) (fun c_5 => ?_)
  · obtain ⟨x, hxx, rfl⟩ := (no_in c_5 hob hob2)
    refine lv_aload_n hx hb dX5_digest_13 rfl (lv_at hl 0 rfl) ?_
    refine lv_iload_n hx hb dX5_digest_14 rfl (lv_at hl 1 rfl) ?_
    refine r_callVi 0 rfl rfl (rest := []) ⟨hx, hb, hml, hown, hts⟩ hw [.int (nI (x))] (k5_digestOf l D ty a cI ht0 s0 s1 a2 a3 a4 a5 a6 a7 a8 a9 s10 s11 s12 a13 a14 a15 a16 a17 a18 a19 a20 a21 s22 x (by first | assumption | omega)) (cwV 1 hts gX5_digest_X5_digestOf rfl rfl rfl (by decide +kernel) ⟨Nat.le_of_ble_eq_true rfl, Nat.le_of_ble_eq_true rfl⟩) rfl hl.1 rfl (Nat.le_of_ble_eq_true rfl) dX5_digest_15 ⟨Nat.le_of_ble_eq_true rfl, Nat.le_of_ble_eq_true rfl⟩ (fun r w H locs hp hw => ?_)
    obtain ⟨rfl, rfl⟩ := hp
    have e9 : f5_digest s12 a14 a15 (nI x) = f5_digestOf a14 a15 x := by unfold f5_digest; simp only [nI_clamp (show x < 2 ^ 31 by omega)]; rw [if_pos c_5]
    exact r_iret hx hb hr hlocks hw ⟨by rw [e9] <;> rfl, rfl⟩ dX5_digest_18
  · refine lv_bipush (v := (-109)) hx hb dX5_digest_8 (by decide) ?_
    refine lv_goto (tgt := 18) hx hb dX5_digest_10 (by decide) ?_
    have e9 : f5_digest s12 a14 a15 p1 = (-109) := by unfold f5_digest; rw [if_neg c_5]
    exact r_iret hx hb hr hlocks hw ⟨by rw [e9] <;> rfl, rfl⟩ dX5_digest_18
def f5_thrown (s22 : Int32) : Int32 :=
  s22
set_option maxHeartbeats 4000000 in
set_option maxRecDepth 100000 in
theorem k5_thrown (l : Launch) (D : va_G) (ty : List (ClassId × FieldType)) (a : Nat → Nat) (cI : ClassId) (ht0 : ty[0]? = some (cI, .int)) (s0 : Int32) (s1 : Int32) (a2 : Nat → Int32) (a3 : Nat → Int32) (a4 : Nat → Int32) (a5 : Nat → Int32) (a6 : Nat → Int32) (a7 : Nat → Int32) (a8 : Nat → Int32) (a9 : Nat → Int32) (s10 : Int32) (s11 : Int32) (s12 : Int32) (a13 : Nat → Int32) (a14 : Nat → Int32) (a15 : Nat → Int32) (a16 : Nat → Int32) (a17 : Nat → Int32) (a18 : Nat → Int32) (a19 : Nat → Int32) (a20 : Nat → Int32) (a21 : Nat → Int32) (s22 : Int32) : MetG l yX5_thrown wsX5_thrown { frames := 0, cells := 0, slots := 0, locals := 0 } D ty [.ref (a 0)] (MW a cI s0 s1 a2 a3 a4 a5 a6 a7 a8 a9 s10 s11 s12 a13 a14 a15 a16 a17 a18 a19 a20 a21 s22) (va_Qi (fun r w => r = f5_thrown s22 ∧ w = MW a cI s0 s1 a2 a3 a4 a5 a6 a7 a8 a9 s10 s11 s12 a13 a14 a15 a16 a17 a18 a19 a20 a21 s22)) 0 0 := by
  refine Met_start cX5_thrown 1 (some .int) (by decide) rfl (Nat.le_of_ble_eq_true rfl) ?_
  intro p e s m below meth c A ls hx hb hr hlocks hml hnm hts hown hw hl
  have hl : lv_has ls 1 [(0, .ref (a 0))] := hl
  have i5 : ∀ w ∈ wsX50, w ∈ wsX5_thrown := fun _ h => List.mem_cons_of_mem _ (List.mem_append_right _ h)
  have lk168 := hts (.fieldLink RX5 168 "RentSizesModel" "thrownNow" "I") (by decide +kernel)
  refine lv_aload_n hx hb dX5_thrown_0 rfl (lv_at hl 0 rfl) ?_
  refine r_get (C := RX5) (T := TX5) (v := .int (s22)) hx hb hts i5 hown hw 0 rfl rfl 22 (by decide) lk168 rfl dX5_thrown_1 ?_
  have e9 : f5_thrown s22 = s22 := by unfold f5_thrown; rfl
  exact r_iret hx hb hr hlocks hw ⟨by rw [e9] <;> rfl, rfl⟩ dX5_thrown_4
def f5_exact (p1 : Int64) (p2 : Int64) : Int64 × Int32 :=
  if (lg_cmp p1 0) = 0 then (0, 0)
  else if (lg_cmp p2 0) = 0 then (0, 0)
  else if (lg_cmp ((p1 * p2) / p2) p1) = 0 then (if (lg_cmp p1 (-1)) = 0 then (if (lg_cmp p2 (-9223372036854775808)) = 0 then (0, 1)
      else if (lg_cmp p2 (-1)) = 0 then (if (lg_cmp p1 (-9223372036854775808)) = 0 then (0, 1)
        else (p1 * p2, 0))
      else (p1 * p2, 0))
    else if (lg_cmp p2 (-1)) = 0 then (if (lg_cmp p1 (-9223372036854775808)) = 0 then (0, 1)
      else (p1 * p2, 0))
    else (p1 * p2, 0))
  else (0, 1)
set_option maxHeartbeats 4000000 in
set_option maxRecDepth 100000 in
theorem k5_exact (l : Launch) (D : va_G) (ty : List (ClassId × FieldType)) (a : Nat → Nat) (cI : ClassId) (ht0 : ty[0]? = some (cI, .int)) (s0 : Int32) (s1 : Int32) (a2 : Nat → Int32) (a3 : Nat → Int32) (a4 : Nat → Int32) (a5 : Nat → Int32) (a6 : Nat → Int32) (a7 : Nat → Int32) (a8 : Nat → Int32) (a9 : Nat → Int32) (s10 : Int32) (s11 : Int32) (s12 : Int32) (a13 : Nat → Int32) (a14 : Nat → Int32) (a15 : Nat → Int32) (a16 : Nat → Int32) (a17 : Nat → Int32) (a18 : Nat → Int32) (a19 : Nat → Int32) (a20 : Nat → Int32) (a21 : Nat → Int32) (s22 : Int32) (p1 : Int64) (p2 : Int64) : MetG l yX5_exact wsX5_exact { frames := 0, cells := 0, slots := 0, locals := 0 } D ty [.ref (a 0), .long (p1), .long (p2)] (MW a cI s0 s1 a2 a3 a4 a5 a6 a7 a8 a9 s10 s11 s12 a13 a14 a15 a16 a17 a18 a19 a20 a21 s22) (va_Ql (fun r w => r = (f5_exact p1 p2).1 ∧ w = MW a cI s0 s1 a2 a3 a4 a5 a6 a7 a8 a9 s10 s11 s12 a13 a14 a15 a16 a17 a18 a19 a20 a21 ((f5_exact p1 p2).2))) 0 0 := by
  refine Met_start cX5_exact 8 (some .long) (by decide) rfl (Nat.le_of_ble_eq_true rfl) ?_
  intro p e s m below meth c A ls hx hb hr hlocks hml hnm hts hown hw hl
  have hl : lv_has ls 8 [(0, .ref (a 0)), (1, .long (p1)), (3, .long (p2))] := hl
  have i5 : ∀ w ∈ wsX50, w ∈ wsX5_exact := fun _ h => List.mem_cons_of_mem _ (List.mem_append_right _ h)
  have lk168 := hts (.fieldLink RX5 168 "RentSizesModel" "thrownNow" "I") (by decide +kernel)
  have ci171 := hts (.constantLong RX5 171 (-1)) (by decide +kernel)
  have ci173 := hts (.constantLong RX5 173 (-9223372036854775808)) (by decide +kernel)
  refine lv_aload_n hx hb dX5_exact_0 rfl (lv_at hl 0 rfl) ?_
  refine lv_iconst (v := 0) hx hb dX5_exact_1 (by decide) ?_
  refine r_put (C := RX5) (T := TX5) (ws' := MW a cI s0 s1 a2 a3 a4 a5 a6 a7 a8 a9 s10 s11 s12 a13 a14 a15 a16 a17 a18 a19 a20 a21 0) hx hb hts i5 tyX5 tyX5_ok nmX5 hown hw 0 rfl rfl 22 (by decide) lk168 rfl (by decide +kernel) (Nat.le_of_ble_eq_true rfl) (MW_s22 _) dX5_exact_2 (fun H locs hw => ?_)
  refine lv_lload_n hx hb dX5_exact_5 rfl (lv_at hl 1 rfl) ?_
  refine lv_lconst (v := 0) hx hb dX5_exact_6 (by decide) ?_
  refine W.lcmp hx hb dX5_exact_7 ?_
  refine lv_if_eq (tgt := 17) hx hb dX5_exact_8 (by decide) (fun c_8 => ?_) (fun c_8 => ?_)
  · refine lv_lconst (v := 0) hx hb dX5_exact_17 (by decide) ?_
    have e9 : f5_exact p1 p2 = (0, 0) := by unfold f5_exact; rw [if_pos c_8]
    exact r_lret hx hb hr hlocks hw ⟨by rw [e9] <;> rfl, by rw [e9] <;> rfl⟩ dX5_exact_18
  · refine lv_lload_n hx hb dX5_exact_11 rfl (lv_at hl 2 rfl) ?_
    refine lv_lconst (v := 0) hx hb dX5_exact_12 (by decide) ?_
    refine W.lcmp hx hb dX5_exact_13 ?_
    refine lv_if_ne (tgt := 19) hx hb dX5_exact_14 (by decide) (fun c_14 => ?_) (fun c_14 => ?_)
    · refine lv_lload_n hx hb dX5_exact_19 rfl (lv_at hl 1 rfl) ?_
      refine lv_lload_n hx hb dX5_exact_20 rfl (lv_at hl 2 rfl) ?_
      refine lv_lmul hx hb dX5_exact_21 ?_
      refine lv_lstore (lv' := [(5, .long (p1 * p2)), (0, .ref (a 0)), (1, .long (p1)), (3, .long (p2))]) hx hb dX5_exact_22 hl (by decide) rfl (fun ls hl => ?_)
      refine lv_lload hx hb dX5_exact_24 (lv_at hl 0 rfl) ?_
      refine lv_lload_n hx hb dX5_exact_26 rfl (lv_at hl 3 rfl) ?_
      refine lv_ldiv hx hb dX5_exact_27 (fun h => c_14 ((lg_cmp_eq _ _).mpr h)) ?_
      refine lv_lload_n hx hb dX5_exact_28 rfl (lv_at hl 2 rfl) ?_
      refine W.lcmp hx hb dX5_exact_29 ?_
      refine lv_if_ne (tgt := 65) hx hb dX5_exact_30 (by decide) (fun c_30 => ?_) (fun c_30 => ?_)
      · refine lv_iconst (v := 1) hx hb dX5_exact_65 (by decide) ?_
        refine lv_goto (tgt := 70) hx hb dX5_exact_66 (by decide) ?_
        refine lv_istore (lv' := [(7, .int (1)), (5, .long (p1 * p2)), (0, .ref (a 0)), (1, .long (p1)), (3, .long (p2))]) hx hb dX5_exact_70 hl (by decide) rfl (fun ls hl => ?_)
        refine lv_aload_n hx hb dX5_exact_72 rfl (lv_at hl 2 rfl) ?_
        refine lv_iload hx hb dX5_exact_73 (lv_at hl 0 rfl) ?_
        refine lv_if_eq (tgt := 82) hx hb dX5_exact_75 (by decide) (fun c_75 => ?_) (fun c_75 => ?_)
        · exact absurd c_75 (by decide)
        · refine lv_iconst (v := 1) hx hb dX5_exact_78 (by decide) ?_
          refine lv_goto (tgt := 83) hx hb dX5_exact_79 (by decide) ?_
          refine r_put (C := RX5) (T := TX5) (ws' := MW a cI s0 s1 a2 a3 a4 a5 a6 a7 a8 a9 s10 s11 s12 a13 a14 a15 a16 a17 a18 a19 a20 a21 1) hx hb hts i5 tyX5 tyX5_ok nmX5 hown hw 0 rfl rfl 22 (by decide) lk168 rfl (by decide +kernel) (Nat.le_of_ble_eq_true rfl) (MW_s22 _) dX5_exact_83 (fun H locs hw => ?_)
          refine lv_iload hx hb dX5_exact_86 (lv_at hl 0 rfl) ?_
          refine lv_if_eq (tgt := 95) hx hb dX5_exact_88 (by decide) (fun c_88 => ?_) (fun c_88 => ?_)
          · exact absurd c_88 (by decide)
          · refine lv_lconst (v := 0) hx hb dX5_exact_91 (by decide) ?_
            refine lv_goto (tgt := 97) hx hb dX5_exact_92 (by decide) ?_
            have e9 : f5_exact p1 p2 = (0, 1) := by unfold f5_exact; rw [if_neg c_8, if_neg c_14, if_neg c_30]
            exact r_lret hx hb hr hlocks hw ⟨by rw [e9] <;> rfl, by rw [e9] <;> rfl⟩ dX5_exact_97
      · refine lv_lload_n hx hb dX5_exact_33 rfl (lv_at hl 2 rfl) ?_
        refine lv_ldc2 (v := (-1)) hx hb hown ci171 dX5_exact_34 ?_
        refine W.lcmp hx hb dX5_exact_37 ?_
        refine lv_if_ne (tgt := 49) hx hb dX5_exact_38 (by decide) (fun c_38 => ?_) (fun c_38 => ?_)
        · refine lv_lload_n hx hb dX5_exact_49 rfl (lv_at hl 3 rfl) ?_
          refine lv_ldc2 (v := (-1)) hx hb hown ci171 dX5_exact_50 ?_
          refine W.lcmp hx hb dX5_exact_53 ?_
          refine lv_if_ne (tgt := 69) hx hb dX5_exact_54 (by decide) (fun c_54 => ?_) (fun c_54 => ?_)
          · refine lv_iconst (v := 0) hx hb dX5_exact_69 (by decide) ?_
            refine lv_istore (lv' := [(7, .int (0)), (5, .long (p1 * p2)), (0, .ref (a 0)), (1, .long (p1)), (3, .long (p2))]) hx hb dX5_exact_70 hl (by decide) rfl (fun ls hl => ?_)
            refine lv_aload_n hx hb dX5_exact_72 rfl (lv_at hl 2 rfl) ?_
            refine lv_iload hx hb dX5_exact_73 (lv_at hl 0 rfl) ?_
            refine lv_if_eq (tgt := 82) hx hb dX5_exact_75 (by decide) (fun c_75 => ?_) (fun c_75 => ?_)
            · refine lv_iconst (v := 0) hx hb dX5_exact_82 (by decide) ?_
              refine r_put (C := RX5) (T := TX5) (ws' := MW a cI s0 s1 a2 a3 a4 a5 a6 a7 a8 a9 s10 s11 s12 a13 a14 a15 a16 a17 a18 a19 a20 a21 0) hx hb hts i5 tyX5 tyX5_ok nmX5 hown hw 0 rfl rfl 22 (by decide) lk168 rfl (by decide +kernel) (Nat.le_of_ble_eq_true rfl) (MW_s22 _) dX5_exact_83 (fun H locs hw => ?_)
              refine lv_iload hx hb dX5_exact_86 (lv_at hl 0 rfl) ?_
              refine lv_if_eq (tgt := 95) hx hb dX5_exact_88 (by decide) (fun c_88 => ?_) (fun c_88 => ?_)
              · refine lv_lload hx hb dX5_exact_95 (lv_at hl 1 rfl) ?_
                have e9 : f5_exact p1 p2 = (p1 * p2, 0) := by unfold f5_exact; rw [if_neg c_8, if_neg c_14, if_pos c_30, if_neg c_38, if_neg c_54]
                exact r_lret hx hb hr hlocks hw ⟨by rw [e9] <;> rfl, by rw [e9] <;> rfl⟩ dX5_exact_97
              · exact absurd c_88 (by decide)
            · exact absurd c_75 (by decide)
          · refine lv_lload_n hx hb dX5_exact_57 rfl (lv_at hl 2 rfl) ?_
            refine lv_ldc2 (v := (-9223372036854775808)) hx hb hown ci173 dX5_exact_58 ?_
            refine W.lcmp hx hb dX5_exact_61 ?_
            refine lv_if_ne (tgt := 69) hx hb dX5_exact_62 (by decide) (fun c_62 => ?_) (fun c_62 => ?_)
            · refine lv_iconst (v := 0) hx hb dX5_exact_69 (by decide) ?_
              refine lv_istore (lv' := [(7, .int (0)), (5, .long (p1 * p2)), (0, .ref (a 0)), (1, .long (p1)), (3, .long (p2))]) hx hb dX5_exact_70 hl (by decide) rfl (fun ls hl => ?_)
              refine lv_aload_n hx hb dX5_exact_72 rfl (lv_at hl 2 rfl) ?_
              refine lv_iload hx hb dX5_exact_73 (lv_at hl 0 rfl) ?_
              refine lv_if_eq (tgt := 82) hx hb dX5_exact_75 (by decide) (fun c_75 => ?_) (fun c_75 => ?_)
              · refine lv_iconst (v := 0) hx hb dX5_exact_82 (by decide) ?_
                refine r_put (C := RX5) (T := TX5) (ws' := MW a cI s0 s1 a2 a3 a4 a5 a6 a7 a8 a9 s10 s11 s12 a13 a14 a15 a16 a17 a18 a19 a20 a21 0) hx hb hts i5 tyX5 tyX5_ok nmX5 hown hw 0 rfl rfl 22 (by decide) lk168 rfl (by decide +kernel) (Nat.le_of_ble_eq_true rfl) (MW_s22 _) dX5_exact_83 (fun H locs hw => ?_)
                refine lv_iload hx hb dX5_exact_86 (lv_at hl 0 rfl) ?_
                refine lv_if_eq (tgt := 95) hx hb dX5_exact_88 (by decide) (fun c_88 => ?_) (fun c_88 => ?_)
                · refine lv_lload hx hb dX5_exact_95 (lv_at hl 1 rfl) ?_
                  have e9 : f5_exact p1 p2 = (p1 * p2, 0) := by unfold f5_exact; rw [if_neg c_8, if_neg c_14, if_pos c_30, if_neg c_38, if_pos c_54, if_neg c_62]
                  exact r_lret hx hb hr hlocks hw ⟨by rw [e9] <;> rfl, by rw [e9] <;> rfl⟩ dX5_exact_97
                · exact absurd c_88 (by decide)
              · exact absurd c_75 (by decide)
            · refine lv_iconst (v := 1) hx hb dX5_exact_65 (by decide) ?_
              refine lv_goto (tgt := 70) hx hb dX5_exact_66 (by decide) ?_
              refine lv_istore (lv' := [(7, .int (1)), (5, .long (p1 * p2)), (0, .ref (a 0)), (1, .long (p1)), (3, .long (p2))]) hx hb dX5_exact_70 hl (by decide) rfl (fun ls hl => ?_)
              refine lv_aload_n hx hb dX5_exact_72 rfl (lv_at hl 2 rfl) ?_
              refine lv_iload hx hb dX5_exact_73 (lv_at hl 0 rfl) ?_
              refine lv_if_eq (tgt := 82) hx hb dX5_exact_75 (by decide) (fun c_75 => ?_) (fun c_75 => ?_)
              · exact absurd c_75 (by decide)
              · refine lv_iconst (v := 1) hx hb dX5_exact_78 (by decide) ?_
                refine lv_goto (tgt := 83) hx hb dX5_exact_79 (by decide) ?_
                refine r_put (C := RX5) (T := TX5) (ws' := MW a cI s0 s1 a2 a3 a4 a5 a6 a7 a8 a9 s10 s11 s12 a13 a14 a15 a16 a17 a18 a19 a20 a21 1) hx hb hts i5 tyX5 tyX5_ok nmX5 hown hw 0 rfl rfl 22 (by decide) lk168 rfl (by decide +kernel) (Nat.le_of_ble_eq_true rfl) (MW_s22 _) dX5_exact_83 (fun H locs hw => ?_)
                refine lv_iload hx hb dX5_exact_86 (lv_at hl 0 rfl) ?_
                refine lv_if_eq (tgt := 95) hx hb dX5_exact_88 (by decide) (fun c_88 => ?_) (fun c_88 => ?_)
                · exact absurd c_88 (by decide)
                · refine lv_lconst (v := 0) hx hb dX5_exact_91 (by decide) ?_
                  refine lv_goto (tgt := 97) hx hb dX5_exact_92 (by decide) ?_
                  have e9 : f5_exact p1 p2 = (0, 1) := by unfold f5_exact; rw [if_neg c_8, if_neg c_14, if_pos c_30, if_neg c_38, if_pos c_54, if_pos c_62]
                  exact r_lret hx hb hr hlocks hw ⟨by rw [e9] <;> rfl, by rw [e9] <;> rfl⟩ dX5_exact_97
        · refine lv_lload_n hx hb dX5_exact_41 rfl (lv_at hl 3 rfl) ?_
          refine lv_ldc2 (v := (-9223372036854775808)) hx hb hown ci173 dX5_exact_42 ?_
          refine W.lcmp hx hb dX5_exact_45 ?_
          refine lv_if_eq (tgt := 65) hx hb dX5_exact_46 (by decide) (fun c_46 => ?_) (fun c_46 => ?_)
          · refine lv_iconst (v := 1) hx hb dX5_exact_65 (by decide) ?_
            refine lv_goto (tgt := 70) hx hb dX5_exact_66 (by decide) ?_
            refine lv_istore (lv' := [(7, .int (1)), (5, .long (p1 * p2)), (0, .ref (a 0)), (1, .long (p1)), (3, .long (p2))]) hx hb dX5_exact_70 hl (by decide) rfl (fun ls hl => ?_)
            refine lv_aload_n hx hb dX5_exact_72 rfl (lv_at hl 2 rfl) ?_
            refine lv_iload hx hb dX5_exact_73 (lv_at hl 0 rfl) ?_
            refine lv_if_eq (tgt := 82) hx hb dX5_exact_75 (by decide) (fun c_75 => ?_) (fun c_75 => ?_)
            · exact absurd c_75 (by decide)
            · refine lv_iconst (v := 1) hx hb dX5_exact_78 (by decide) ?_
              refine lv_goto (tgt := 83) hx hb dX5_exact_79 (by decide) ?_
              refine r_put (C := RX5) (T := TX5) (ws' := MW a cI s0 s1 a2 a3 a4 a5 a6 a7 a8 a9 s10 s11 s12 a13 a14 a15 a16 a17 a18 a19 a20 a21 1) hx hb hts i5 tyX5 tyX5_ok nmX5 hown hw 0 rfl rfl 22 (by decide) lk168 rfl (by decide +kernel) (Nat.le_of_ble_eq_true rfl) (MW_s22 _) dX5_exact_83 (fun H locs hw => ?_)
              refine lv_iload hx hb dX5_exact_86 (lv_at hl 0 rfl) ?_
              refine lv_if_eq (tgt := 95) hx hb dX5_exact_88 (by decide) (fun c_88 => ?_) (fun c_88 => ?_)
              · exact absurd c_88 (by decide)
              · refine lv_lconst (v := 0) hx hb dX5_exact_91 (by decide) ?_
                refine lv_goto (tgt := 97) hx hb dX5_exact_92 (by decide) ?_
                have e9 : f5_exact p1 p2 = (0, 1) := by unfold f5_exact; rw [if_neg c_8, if_neg c_14, if_pos c_30, if_pos c_38, if_pos c_46]
                exact r_lret hx hb hr hlocks hw ⟨by rw [e9] <;> rfl, by rw [e9] <;> rfl⟩ dX5_exact_97
          · refine lv_lload_n hx hb dX5_exact_49 rfl (lv_at hl 3 rfl) ?_
            refine lv_ldc2 (v := (-1)) hx hb hown ci171 dX5_exact_50 ?_
            refine W.lcmp hx hb dX5_exact_53 ?_
            refine lv_if_ne (tgt := 69) hx hb dX5_exact_54 (by decide) (fun c_54 => ?_) (fun c_54 => ?_)
            · refine lv_iconst (v := 0) hx hb dX5_exact_69 (by decide) ?_
              refine lv_istore (lv' := [(7, .int (0)), (5, .long (p1 * p2)), (0, .ref (a 0)), (1, .long (p1)), (3, .long (p2))]) hx hb dX5_exact_70 hl (by decide) rfl (fun ls hl => ?_)
              refine lv_aload_n hx hb dX5_exact_72 rfl (lv_at hl 2 rfl) ?_
              refine lv_iload hx hb dX5_exact_73 (lv_at hl 0 rfl) ?_
              refine lv_if_eq (tgt := 82) hx hb dX5_exact_75 (by decide) (fun c_75 => ?_) (fun c_75 => ?_)
              · refine lv_iconst (v := 0) hx hb dX5_exact_82 (by decide) ?_
                refine r_put (C := RX5) (T := TX5) (ws' := MW a cI s0 s1 a2 a3 a4 a5 a6 a7 a8 a9 s10 s11 s12 a13 a14 a15 a16 a17 a18 a19 a20 a21 0) hx hb hts i5 tyX5 tyX5_ok nmX5 hown hw 0 rfl rfl 22 (by decide) lk168 rfl (by decide +kernel) (Nat.le_of_ble_eq_true rfl) (MW_s22 _) dX5_exact_83 (fun H locs hw => ?_)
                refine lv_iload hx hb dX5_exact_86 (lv_at hl 0 rfl) ?_
                refine lv_if_eq (tgt := 95) hx hb dX5_exact_88 (by decide) (fun c_88 => ?_) (fun c_88 => ?_)
                · refine lv_lload hx hb dX5_exact_95 (lv_at hl 1 rfl) ?_
                  have e9 : f5_exact p1 p2 = (p1 * p2, 0) := by unfold f5_exact; rw [if_neg c_8, if_neg c_14, if_pos c_30, if_pos c_38, if_neg c_46, if_neg c_54]
                  exact r_lret hx hb hr hlocks hw ⟨by rw [e9] <;> rfl, by rw [e9] <;> rfl⟩ dX5_exact_97
                · exact absurd c_88 (by decide)
              · exact absurd c_75 (by decide)
            · refine lv_lload_n hx hb dX5_exact_57 rfl (lv_at hl 2 rfl) ?_
              refine lv_ldc2 (v := (-9223372036854775808)) hx hb hown ci173 dX5_exact_58 ?_
              refine W.lcmp hx hb dX5_exact_61 ?_
              refine lv_if_ne (tgt := 69) hx hb dX5_exact_62 (by decide) (fun c_62 => ?_) (fun c_62 => ?_)
              · refine lv_iconst (v := 0) hx hb dX5_exact_69 (by decide) ?_
                refine lv_istore (lv' := [(7, .int (0)), (5, .long (p1 * p2)), (0, .ref (a 0)), (1, .long (p1)), (3, .long (p2))]) hx hb dX5_exact_70 hl (by decide) rfl (fun ls hl => ?_)
                refine lv_aload_n hx hb dX5_exact_72 rfl (lv_at hl 2 rfl) ?_
                refine lv_iload hx hb dX5_exact_73 (lv_at hl 0 rfl) ?_
                refine lv_if_eq (tgt := 82) hx hb dX5_exact_75 (by decide) (fun c_75 => ?_) (fun c_75 => ?_)
                · refine lv_iconst (v := 0) hx hb dX5_exact_82 (by decide) ?_
                  refine r_put (C := RX5) (T := TX5) (ws' := MW a cI s0 s1 a2 a3 a4 a5 a6 a7 a8 a9 s10 s11 s12 a13 a14 a15 a16 a17 a18 a19 a20 a21 0) hx hb hts i5 tyX5 tyX5_ok nmX5 hown hw 0 rfl rfl 22 (by decide) lk168 rfl (by decide +kernel) (Nat.le_of_ble_eq_true rfl) (MW_s22 _) dX5_exact_83 (fun H locs hw => ?_)
                  refine lv_iload hx hb dX5_exact_86 (lv_at hl 0 rfl) ?_
                  refine lv_if_eq (tgt := 95) hx hb dX5_exact_88 (by decide) (fun c_88 => ?_) (fun c_88 => ?_)
                  · refine lv_lload hx hb dX5_exact_95 (lv_at hl 1 rfl) ?_
                    have e9 : f5_exact p1 p2 = (p1 * p2, 0) := by unfold f5_exact; rw [if_neg c_8, if_neg c_14, if_pos c_30, if_pos c_38, if_neg c_46, if_pos c_54, if_neg c_62]
                    exact r_lret hx hb hr hlocks hw ⟨by rw [e9] <;> rfl, by rw [e9] <;> rfl⟩ dX5_exact_97
                  · exact absurd c_88 (by decide)
                · exact absurd c_75 (by decide)
              · refine lv_iconst (v := 1) hx hb dX5_exact_65 (by decide) ?_
                refine lv_goto (tgt := 70) hx hb dX5_exact_66 (by decide) ?_
                refine lv_istore (lv' := [(7, .int (1)), (5, .long (p1 * p2)), (0, .ref (a 0)), (1, .long (p1)), (3, .long (p2))]) hx hb dX5_exact_70 hl (by decide) rfl (fun ls hl => ?_)
                refine lv_aload_n hx hb dX5_exact_72 rfl (lv_at hl 2 rfl) ?_
                refine lv_iload hx hb dX5_exact_73 (lv_at hl 0 rfl) ?_
                refine lv_if_eq (tgt := 82) hx hb dX5_exact_75 (by decide) (fun c_75 => ?_) (fun c_75 => ?_)
                · exact absurd c_75 (by decide)
                · refine lv_iconst (v := 1) hx hb dX5_exact_78 (by decide) ?_
                  refine lv_goto (tgt := 83) hx hb dX5_exact_79 (by decide) ?_
                  refine r_put (C := RX5) (T := TX5) (ws' := MW a cI s0 s1 a2 a3 a4 a5 a6 a7 a8 a9 s10 s11 s12 a13 a14 a15 a16 a17 a18 a19 a20 a21 1) hx hb hts i5 tyX5 tyX5_ok nmX5 hown hw 0 rfl rfl 22 (by decide) lk168 rfl (by decide +kernel) (Nat.le_of_ble_eq_true rfl) (MW_s22 _) dX5_exact_83 (fun H locs hw => ?_)
                  refine lv_iload hx hb dX5_exact_86 (lv_at hl 0 rfl) ?_
                  refine lv_if_eq (tgt := 95) hx hb dX5_exact_88 (by decide) (fun c_88 => ?_) (fun c_88 => ?_)
                  · exact absurd c_88 (by decide)
                  · refine lv_lconst (v := 0) hx hb dX5_exact_91 (by decide) ?_
                    refine lv_goto (tgt := 97) hx hb dX5_exact_92 (by decide) ?_
                    have e9 : f5_exact p1 p2 = (0, 1) := by unfold f5_exact; rw [if_neg c_8, if_neg c_14, if_pos c_30, if_pos c_38, if_neg c_46, if_pos c_54, if_pos c_62]
                    exact r_lret hx hb hr hlocks hw ⟨by rw [e9] <;> rfl, by rw [e9] <;> rfl⟩ dX5_exact_97
    · refine lv_lconst (v := 0) hx hb dX5_exact_17 (by decide) ?_
      have e9 : f5_exact p1 p2 = (0, 0) := by unfold f5_exact; rw [if_neg c_8, if_pos c_14]
      exact r_lret hx hb hr hlocks hw ⟨by rw [e9] <;> rfl, by rw [e9] <;> rfl⟩ dX5_exact_18
def f5_told (s0 : Int32) (s1 : Int32) (a6 : Nat → Int32) (a8 : Nat → Int32) (s10 : Int32) (s11 : Int32) (s12 : Int32) (a13 : Nat → Int32) (a14 : Nat → Int32) (a17 : Nat → Int32) (a18 : Nat → Int32) (a19 : Nat → Int32) (a20 : Nat → Int32) (p1 : Int32) : Int32 :=
  if p1 = 0 then s0
  else if p1 = 1 then s12
  else if p1 = 2 then f5_manyOf s12 a17 0
  else if p1 = 3 then f5_manyOf s12 a17 1
  else if p1 = 4 then f5_liveSizes s12 a13 a14 a17 (-109)
  else if p1 = 5 then f5_held s12 a18 a19 a20
  else if p1 = 6 then s10
  else if p1 = 7 then f5_allCoins a6 a8 s10 s12 a18 a19 a20
  else if p1 = 8 then s1
  else if p1 = 9 then s11
  else (-102)
set_option maxHeartbeats 4000000 in
set_option maxRecDepth 100000 in
theorem k5_told (l : Launch) (D : va_G) (ty : List (ClassId × FieldType)) (a : Nat → Nat) (cI : ClassId) (ht0 : ty[0]? = some (cI, .int)) (s0 : Int32) (s1 : Int32) (a2 : Nat → Int32) (a3 : Nat → Int32) (a4 : Nat → Int32) (a5 : Nat → Int32) (a6 : Nat → Int32) (a7 : Nat → Int32) (a8 : Nat → Int32) (a9 : Nat → Int32) (s10 : Int32) (s11 : Int32) (s12 : Int32) (a13 : Nat → Int32) (a14 : Nat → Int32) (a15 : Nat → Int32) (a16 : Nat → Int32) (a17 : Nat → Int32) (a18 : Nat → Int32) (a19 : Nat → Int32) (a20 : Nat → Int32) (a21 : Nat → Int32) (s22 : Int32) (p1 : Int32) (hob : s12 = nI (tn s12)) (hob2 : tn s12 ≤ 60) (hlk : ∀ x, x < tn s12 → a18 x = nI (tn (a18 x)) ∧ tn (a18 x) ≤ 16) : MetG l yX5_told wsX5_told { frames := 3, cells := 0, slots := 0, locals := 67 } D ty [.ref (a 0), .int (p1)] (MW a cI s0 s1 a2 a3 a4 a5 a6 a7 a8 a9 s10 s11 s12 a13 a14 a15 a16 a17 a18 a19 a20 a21 s22) (va_Qi (fun r w => r = f5_told s0 s1 a6 a8 s10 s11 s12 a13 a14 a17 a18 a19 a20 p1 ∧ w = MW a cI s0 s1 a2 a3 a4 a5 a6 a7 a8 a9 s10 s11 s12 a13 a14 a15 a16 a17 a18 a19 a20 a21 s22)) 0 0 := by
  refine Met_start cX5_told 2 (some .int) (by decide) rfl (Nat.le_of_ble_eq_true rfl) ?_
  intro p e s m below meth c A ls hx hb hr hlocks hml hnm hts hown hw hl
  have hl : lv_has ls 2 [(0, .ref (a 0)), (1, .int (p1))] := hl
  have i5 : ∀ w ∈ wsX50, w ∈ wsX5_told := fun _ h => List.mem_cons_of_mem _ (List.mem_append_right _ h)
  have lk64 := hts (.fieldLink RX5 64 "RentSizesModel" "height" "I") (by decide +kernel)
  have lk78 := hts (.fieldLink RX5 78 "RentSizesModel" "objects" "I") (by decide +kernel)
  have lk72 := hts (.fieldLink RX5 72 "RentSizesModel" "pool" "I") (by decide +kernel)
  have lk68 := hts (.fieldLink RX5 68 "RentSizesModel" "editions" "I") (by decide +kernel)
  have lk75 := hts (.fieldLink RX5 75 "RentSizesModel" "paidOut" "I") (by decide +kernel)
  refine lv_iload_n hx hb dX5_told_0 rfl (lv_at hl 1 rfl) ?_
  by_cases c_1_0 : p1 = 0
  · refine lv_tableIn (off := 55) (tgt := 56) hx hb dX5_told_1 (by rw [c_1_0]; decide) (by rw [c_1_0]; decide) (by rw [c_1_0]; rfl) (by decide) ?_
    refine lv_aload_n hx hb dX5_told_56 rfl (lv_at hl 0 rfl) ?_
    refine r_get (C := RX5) (T := TX5) (v := .int (s0)) hx hb hts i5 hown hw 0 rfl rfl 0 (by decide) lk64 rfl dX5_told_57 ?_
    have e9 : f5_told s0 s1 a6 a8 s10 s11 s12 a13 a14 a17 a18 a19 a20 p1 = s0 := by unfold f5_told; rw [if_pos c_1_0]
    exact r_iret hx hb hr hlocks hw ⟨by rw [e9] <;> rfl, rfl⟩ dX5_told_60
  by_cases c_1_1 : p1 = 1
  · refine lv_tableIn (off := 60) (tgt := 61) hx hb dX5_told_1 (by rw [c_1_1]; decide) (by rw [c_1_1]; decide) (by rw [c_1_1]; rfl) (by decide) ?_
    refine lv_aload_n hx hb dX5_told_61 rfl (lv_at hl 0 rfl) ?_
    refine r_get (C := RX5) (T := TX5) (v := .int (s12)) hx hb hts i5 hown hw 0 rfl rfl 12 (by decide) lk78 rfl dX5_told_62 ?_
    have e9 : f5_told s0 s1 a6 a8 s10 s11 s12 a13 a14 a17 a18 a19 a20 p1 = s12 := by unfold f5_told; rw [if_neg c_1_0, if_pos c_1_1]
    exact r_iret hx hb hr hlocks hw ⟨by rw [e9] <;> rfl, rfl⟩ dX5_told_65
  by_cases c_1_2 : p1 = 2
  · refine lv_tableIn (off := 65) (tgt := 66) hx hb dX5_told_1 (by rw [c_1_2]; decide) (by rw [c_1_2]; decide) (by rw [c_1_2]; rfl) (by decide) ?_
    refine lv_aload_n hx hb dX5_told_66 rfl (lv_at hl 0 rfl) ?_
    refine lv_iconst (v := 0) hx hb dX5_told_67 (by decide) ?_
    refine r_callVi 0 rfl rfl (rest := []) ⟨hx, hb, hml, hown, hts⟩ hw [.int (0)] (k5_manyOf l D ty a cI ht0 s0 s1 a2 a3 a4 a5 a6 a7 a8 a9 s10 s11 s12 a13 a14 a15 a16 a17 a18 a19 a20 a21 s22 0 (by first | assumption | omega) (by first | assumption | omega)) (cwV 1 hts gX5_told_X5_manyOf rfl rfl rfl (by decide +kernel) ⟨Nat.le_of_ble_eq_true rfl, Nat.le_of_ble_eq_true rfl⟩) rfl hl.1 rfl (Nat.le_of_ble_eq_true rfl) dX5_told_68 ⟨Nat.le_of_ble_eq_true rfl, Nat.le_of_ble_eq_true rfl⟩ (fun r w H locs hp hw => ?_)
    obtain ⟨rfl, rfl⟩ := hp
    have e9 : f5_told s0 s1 a6 a8 s10 s11 s12 a13 a14 a17 a18 a19 a20 p1 = f5_manyOf s12 a17 0 := by unfold f5_told; rw [if_neg c_1_0, if_neg c_1_1, if_pos c_1_2]
    exact r_iret hx hb hr hlocks hw ⟨by rw [e9] <;> rfl, rfl⟩ dX5_told_71
  by_cases c_1_3 : p1 = 3
  · refine lv_tableIn (off := 71) (tgt := 72) hx hb dX5_told_1 (by rw [c_1_3]; decide) (by rw [c_1_3]; decide) (by rw [c_1_3]; rfl) (by decide) ?_
    refine lv_aload_n hx hb dX5_told_72 rfl (lv_at hl 0 rfl) ?_
    refine lv_iconst (v := 1) hx hb dX5_told_73 (by decide) ?_
    refine r_callVi 0 rfl rfl (rest := []) ⟨hx, hb, hml, hown, hts⟩ hw [.int (1)] (k5_manyOf l D ty a cI ht0 s0 s1 a2 a3 a4 a5 a6 a7 a8 a9 s10 s11 s12 a13 a14 a15 a16 a17 a18 a19 a20 a21 s22 1 (by first | assumption | omega) (by first | assumption | omega)) (cwV 1 hts gX5_told_X5_manyOf rfl rfl rfl (by decide +kernel) ⟨Nat.le_of_ble_eq_true rfl, Nat.le_of_ble_eq_true rfl⟩) rfl hl.1 rfl (Nat.le_of_ble_eq_true rfl) dX5_told_74 ⟨Nat.le_of_ble_eq_true rfl, Nat.le_of_ble_eq_true rfl⟩ (fun r w H locs hp hw => ?_)
    obtain ⟨rfl, rfl⟩ := hp
    have e9 : f5_told s0 s1 a6 a8 s10 s11 s12 a13 a14 a17 a18 a19 a20 p1 = f5_manyOf s12 a17 1 := by unfold f5_told; rw [if_neg c_1_0, if_neg c_1_1, if_neg c_1_2, if_pos c_1_3]
    exact r_iret hx hb hr hlocks hw ⟨by rw [e9] <;> rfl, rfl⟩ dX5_told_77
  by_cases c_1_4 : p1 = 4
  · refine lv_tableIn (off := 77) (tgt := 78) hx hb dX5_told_1 (by rw [c_1_4]; decide) (by rw [c_1_4]; decide) (by rw [c_1_4]; rfl) (by decide) ?_
    refine lv_aload_n hx hb dX5_told_78 rfl (lv_at hl 0 rfl) ?_
    refine lv_bipush (v := (-109)) hx hb dX5_told_79 (by decide) ?_
    refine r_callVi 0 rfl rfl (rest := []) ⟨hx, hb, hml, hown, hts⟩ hw [.int ((-109))] (k5_liveSizes l D ty a cI ht0 s0 s1 a2 a3 a4 a5 a6 a7 a8 a9 s10 s11 s12 a13 a14 a15 a16 a17 a18 a19 a20 a21 s22 (-109) (by first | assumption | omega) (by first | assumption | omega)) (cwV 1 hts gX5_told_X5_liveSizes rfl rfl rfl (by decide +kernel) ⟨Nat.le_of_ble_eq_true rfl, Nat.le_of_ble_eq_true rfl⟩) rfl hl.1 rfl (Nat.le_of_ble_eq_true rfl) dX5_told_81 ⟨Nat.le_of_ble_eq_true rfl, Nat.le_of_ble_eq_true rfl⟩ (fun r w H locs hp hw => ?_)
    obtain ⟨rfl, rfl⟩ := hp
    have e9 : f5_told s0 s1 a6 a8 s10 s11 s12 a13 a14 a17 a18 a19 a20 p1 = f5_liveSizes s12 a13 a14 a17 (-109) := by unfold f5_told; rw [if_neg c_1_0, if_neg c_1_1, if_neg c_1_2, if_neg c_1_3, if_pos c_1_4]
    exact r_iret hx hb hr hlocks hw ⟨by rw [e9] <;> rfl, rfl⟩ dX5_told_84
  by_cases c_1_5 : p1 = 5
  · refine lv_tableIn (off := 84) (tgt := 85) hx hb dX5_told_1 (by rw [c_1_5]; decide) (by rw [c_1_5]; decide) (by rw [c_1_5]; rfl) (by decide) ?_
    refine lv_aload_n hx hb dX5_told_85 rfl (lv_at hl 0 rfl) ?_
    refine r_callVi 0 rfl rfl (rest := []) ⟨hx, hb, hml, hown, hts⟩ hw [] (k5_held l D ty a cI ht0 s0 s1 a2 a3 a4 a5 a6 a7 a8 a9 s10 s11 s12 a13 a14 a15 a16 a17 a18 a19 a20 a21 s22 (by first | assumption | omega) (by first | assumption | omega) (by first | assumption | omega)) (cwV 0 hts gX5_told_X5_held rfl rfl rfl (by decide +kernel) ⟨Nat.le_of_ble_eq_true rfl, Nat.le_of_ble_eq_true rfl⟩) rfl hl.1 rfl (Nat.le_of_ble_eq_true rfl) dX5_told_86 ⟨Nat.le_of_ble_eq_true rfl, Nat.le_of_ble_eq_true rfl⟩ (fun r w H locs hp hw => ?_)
    obtain ⟨rfl, rfl⟩ := hp
    have e9 : f5_told s0 s1 a6 a8 s10 s11 s12 a13 a14 a17 a18 a19 a20 p1 = f5_held s12 a18 a19 a20 := by unfold f5_told; rw [if_neg c_1_0, if_neg c_1_1, if_neg c_1_2, if_neg c_1_3, if_neg c_1_4, if_pos c_1_5]
    exact r_iret hx hb hr hlocks hw ⟨by rw [e9] <;> rfl, rfl⟩ dX5_told_89
  by_cases c_1_6 : p1 = 6
  · refine lv_tableIn (off := 89) (tgt := 90) hx hb dX5_told_1 (by rw [c_1_6]; decide) (by rw [c_1_6]; decide) (by rw [c_1_6]; rfl) (by decide) ?_
    refine lv_aload_n hx hb dX5_told_90 rfl (lv_at hl 0 rfl) ?_
    refine r_get (C := RX5) (T := TX5) (v := .int (s10)) hx hb hts i5 hown hw 0 rfl rfl 10 (by decide) lk72 rfl dX5_told_91 ?_
    have e9 : f5_told s0 s1 a6 a8 s10 s11 s12 a13 a14 a17 a18 a19 a20 p1 = s10 := by unfold f5_told; rw [if_neg c_1_0, if_neg c_1_1, if_neg c_1_2, if_neg c_1_3, if_neg c_1_4, if_neg c_1_5, if_pos c_1_6]
    exact r_iret hx hb hr hlocks hw ⟨by rw [e9] <;> rfl, rfl⟩ dX5_told_94
  by_cases c_1_7 : p1 = 7
  · refine lv_tableIn (off := 94) (tgt := 95) hx hb dX5_told_1 (by rw [c_1_7]; decide) (by rw [c_1_7]; decide) (by rw [c_1_7]; rfl) (by decide) ?_
    refine lv_aload_n hx hb dX5_told_95 rfl (lv_at hl 0 rfl) ?_
    refine r_callVi 0 rfl rfl (rest := []) ⟨hx, hb, hml, hown, hts⟩ hw [] (k5_allCoins l D ty a cI ht0 s0 s1 a2 a3 a4 a5 a6 a7 a8 a9 s10 s11 s12 a13 a14 a15 a16 a17 a18 a19 a20 a21 s22 (by first | assumption | omega) (by first | assumption | omega) (by first | assumption | omega)) (cwV 0 hts gX5_told_X5_allCoins rfl rfl rfl (by decide +kernel) ⟨Nat.le_of_ble_eq_true rfl, Nat.le_of_ble_eq_true rfl⟩) rfl hl.1 rfl (Nat.le_of_ble_eq_true rfl) dX5_told_96 ⟨Nat.le_of_ble_eq_true rfl, Nat.le_of_ble_eq_true rfl⟩ (fun r w H locs hp hw => ?_)
    obtain ⟨rfl, rfl⟩ := hp
    have e9 : f5_told s0 s1 a6 a8 s10 s11 s12 a13 a14 a17 a18 a19 a20 p1 = f5_allCoins a6 a8 s10 s12 a18 a19 a20 := by unfold f5_told; rw [if_neg c_1_0, if_neg c_1_1, if_neg c_1_2, if_neg c_1_3, if_neg c_1_4, if_neg c_1_5, if_neg c_1_6, if_pos c_1_7]
    exact r_iret hx hb hr hlocks hw ⟨by rw [e9] <;> rfl, rfl⟩ dX5_told_99
  by_cases c_1_8 : p1 = 8
  · refine lv_tableIn (off := 99) (tgt := 100) hx hb dX5_told_1 (by rw [c_1_8]; decide) (by rw [c_1_8]; decide) (by rw [c_1_8]; rfl) (by decide) ?_
    refine lv_aload_n hx hb dX5_told_100 rfl (lv_at hl 0 rfl) ?_
    refine r_get (C := RX5) (T := TX5) (v := .int (s1)) hx hb hts i5 hown hw 0 rfl rfl 1 (by decide) lk68 rfl dX5_told_101 ?_
    have e9 : f5_told s0 s1 a6 a8 s10 s11 s12 a13 a14 a17 a18 a19 a20 p1 = s1 := by unfold f5_told; rw [if_neg c_1_0, if_neg c_1_1, if_neg c_1_2, if_neg c_1_3, if_neg c_1_4, if_neg c_1_5, if_neg c_1_6, if_neg c_1_7, if_pos c_1_8]
    exact r_iret hx hb hr hlocks hw ⟨by rw [e9] <;> rfl, rfl⟩ dX5_told_104
  by_cases c_1_9 : p1 = 9
  · refine lv_tableIn (off := 104) (tgt := 105) hx hb dX5_told_1 (by rw [c_1_9]; decide) (by rw [c_1_9]; decide) (by rw [c_1_9]; rfl) (by decide) ?_
    refine lv_aload_n hx hb dX5_told_105 rfl (lv_at hl 0 rfl) ?_
    refine r_get (C := RX5) (T := TX5) (v := .int (s11)) hx hb hts i5 hown hw 0 rfl rfl 11 (by decide) lk75 rfl dX5_told_106 ?_
    have e9 : f5_told s0 s1 a6 a8 s10 s11 s12 a13 a14 a17 a18 a19 a20 p1 = s11 := by unfold f5_told; rw [if_neg c_1_0, if_neg c_1_1, if_neg c_1_2, if_neg c_1_3, if_neg c_1_4, if_neg c_1_5, if_neg c_1_6, if_neg c_1_7, if_neg c_1_8, if_pos c_1_9]
    exact r_iret hx hb hr hlocks hw ⟨by rw [e9] <;> rfl, rfl⟩ dX5_told_109
  refine lv_tableOut (tgt := 110) hx hb dX5_told_1 (by have := lv_neT c_1_0 (show (0 : Int32).toInt = 0 from rfl); have := lv_neT c_1_1 (show (1 : Int32).toInt = 1 from rfl); have := lv_neT c_1_2 (show (2 : Int32).toInt = 2 from rfl); have := lv_neT c_1_3 (show (3 : Int32).toInt = 3 from rfl); have := lv_neT c_1_4 (show (4 : Int32).toInt = 4 from rfl); have := lv_neT c_1_5 (show (5 : Int32).toInt = 5 from rfl); have := lv_neT c_1_6 (show (6 : Int32).toInt = 6 from rfl); have := lv_neT c_1_7 (show (7 : Int32).toInt = 7 from rfl); have := lv_neT c_1_8 (show (8 : Int32).toInt = 8 from rfl); have := lv_neT c_1_9 (show (9 : Int32).toInt = 9 from rfl); omega) (by decide) ?_
  refine lv_bipush (v := (-102)) hx hb dX5_told_110 (by decide) ?_
  have e9 : f5_told s0 s1 a6 a8 s10 s11 s12 a13 a14 a17 a18 a19 a20 p1 = (-102) := by unfold f5_told; rw [if_neg c_1_0, if_neg c_1_1, if_neg c_1_2, if_neg c_1_3, if_neg c_1_4, if_neg c_1_5, if_neg c_1_6, if_neg c_1_7, if_neg c_1_8, if_neg c_1_9]
  exact r_iret hx hb hr hlocks hw ⟨by rw [e9] <;> rfl, rfl⟩ dX5_told_112
end
section
theorem nI_pos1 {n : Nat} (h : ¬ nI n = 0) : 1 ≤ n := by
  cases n with
  | zero => exact absurd rfl h
  | succ n => omega
theorem sub_toInt {a b : Int32} (h1 : -2147483648 ≤ a.toInt - b.toInt) (h2 : a.toInt - b.toInt < 2147483648) : (a - b).toInt = a.toInt - b.toInt := by
  rw [Int32.toInt_sub]
  exact Int.bmod_eq_of_le (by omega) (by omega)
theorem add_toInt {a b : Int32} (h1 : -2147483648 ≤ a.toInt + b.toInt) (h2 : a.toInt + b.toInt < 2147483648) : (a + b).toInt = a.toInt + b.toInt := by
  rw [Int32.toInt_add]
  exact Int.bmod_eq_of_le (by omega) (by omega)
theorem i32_lo (a : Int32) : -2147483648 ≤ a.toInt := Int32.le_toInt a
theorem i32_hi (a : Int32) : a.toInt < 2147483648 := Int32.toInt_lt a
/-- the bytes of the first layers together -/
def sB (f : Nat → Int32) (o : Nat) : Nat → Int
  | 0 => 0
  | k + 1 => sB f o k + (f (o + k)).toInt
theorem sB_same {f g : Nat → Int32} {o : Nat} : ∀ k, (∀ i, i < k → f (o + i) = g (o + i)) → sB f o k = sB g o k
  | 0, _ => rfl
  | k + 1, h => by simp only [sB]; rw [sB_same k (fun i hi => h i (by omega)), h k (by omega)]
theorem sB_nn {f : Nat → Int32} {o : Nat} : ∀ k, (∀ i, i < k → 0 < (f (o + i)).toInt) → 0 ≤ sB f o k
  | 0, _ => by simp [sB]
  | k + 1, h => by
    have h1 := sB_nn k (fun i hi => h i (by omega))
    have h2 := h k (by omega)
    simp only [sB]; omega
end
section
def f5_needsLayer (s0 : Int32) (s1 : Int32) (a2 : Nat → Int32) (a3 : Nat → Int32) (a18 : Nat → Int32) (a20 : Nat → Int32) (a21 : Nat → Int32) (x : Nat) (p2 : Int32) : Int32 :=
  if (nI (tn (a18 x))) = 0 then 1
  else if (a20 (16 * x + (tn (a18 x) - 1))) = (f5_price s0 s1 a2 a3) then (if (a21 (16 * x + (tn (a18 x) - 1))) = p2 then 0
    else 1)
  else 1
set_option maxHeartbeats 4000000 in
set_option maxRecDepth 100000 in
theorem k5_needsLayer (l : Launch) (D : va_G) (ty : List (ClassId × FieldType)) (a : Nat → Nat) (cI : ClassId) (ht0 : ty[0]? = some (cI, .int)) (s0 : Int32) (s1 : Int32) (a2 : Nat → Int32) (a3 : Nat → Int32) (a4 : Nat → Int32) (a5 : Nat → Int32) (a6 : Nat → Int32) (a7 : Nat → Int32) (a8 : Nat → Int32) (a9 : Nat → Int32) (s10 : Int32) (s11 : Int32) (s12 : Int32) (a13 : Nat → Int32) (a14 : Nat → Int32) (a15 : Nat → Int32) (a16 : Nat → Int32) (a17 : Nat → Int32) (a18 : Nat → Int32) (a19 : Nat → Int32) (a20 : Nat → Int32) (a21 : Nat → Int32) (s22 : Int32) (x : Nat) (p2 : Int32) (hx60 : x < 60) (hl0 : a18 x = nI (tn (a18 x))) (hl1 : tn (a18 x) ≤ 16) (he0 : s1 = nI (tn s1)) (he1 : tn s1 ≤ 10) : MetG l yX5_needsLayer wsX5_needsLayer { frames := 2, cells := 0, slots := 0, locals := 43 } D ty [.ref (a 0), .int (nI (x)), .int (p2)] (MW a cI s0 s1 a2 a3 a4 a5 a6 a7 a8 a9 s10 s11 s12 a13 a14 a15 a16 a17 a18 a19 a20 a21 s22) (va_Qi (fun r w => r = f5_needsLayer s0 s1 a2 a3 a18 a20 a21 x p2 ∧ w = MW a cI s0 s1 a2 a3 a4 a5 a6 a7 a8 a9 s10 s11 s12 a13 a14 a15 a16 a17 a18 a19 a20 a21 s22)) 0 0 := by
  refine Met_start cX5_needsLayer 4 (some .boolean) (by decide) rfl (Nat.le_of_ble_eq_true rfl) ?_
  intro p e s m below meth c A ls hx hb hr hlocks hml hnm hts hown hw hl
  have hl : lv_has ls 4 [(0, .ref (a 0)), (1, .int (nI (x))), (2, .int (p2))] := hl
  have i5 : ∀ w ∈ wsX50, w ∈ wsX5_needsLayer := fun _ h => List.mem_cons_of_mem _ (List.mem_append_right _ h)
  have lk49 := hts (.fieldLink RX5 49 "RentSizesModel" "layers" "[I") (by decide +kernel)
  have lk55 := hts (.fieldLink RX5 55 "RentSizesModel" "layerPrice" "[I") (by decide +kernel)
  have lk58 := hts (.fieldLink RX5 58 "RentSizesModel" "layerFrom" "[I") (by decide +kernel)
  refine lv_bipush (v := 16) hx hb dX5_needsLayer_0 (by decide) ?_
  refine lv_iload_n hx hb dX5_needsLayer_2 rfl (lv_at hl 1 rfl) ?_
  refine lv_imul hx hb dX5_needsLayer_3 ?_
  refine r_top (nI (16 * x)) (show nI (16) * nI (x) = nI (16 * x) from pk_mul _ _) ?_
  refine lv_aload_n hx hb dX5_needsLayer_4 rfl (lv_at hl 0 rfl) ?_
  refine r_get (C := RX5) (T := TX5) (v := .ref (a 18)) hx hb hts i5 hown hw 0 rfl rfl 18 (by decide) lk49 rfl dX5_needsLayer_5 ?_
  refine lv_iload_n hx hb dX5_needsLayer_8 rfl (lv_at hl 1 rfl) ?_
  refine r_ialdN (v := a18 x) hx hb hw 14 rfl ht0 x (by omega) (by decide) dX5_needsLayer_9 rfl ?_
  refine r_top (nI (tn (a18 x))) hl0 ?_
  refine lv_iadd hx hb dX5_needsLayer_10 ?_
  refine r_top (nI ((16 * x) + (tn (a18 x)))) (show nI (16 * x) + nI (tn (a18 x)) = nI ((16 * x) + (tn (a18 x))) from nI_add _ _) ?_
  refine lv_iconst (v := 1) hx hb dX5_needsLayer_11 (by decide) ?_
  refine lv_isub hx hb dX5_needsLayer_12 ?_
  refine lv_istore_n (lv' := [(3, .int ((nI ((16 * x) + (tn (a18 x)))) - 1)), (0, .ref (a 0)), (1, .int (nI (x))), (2, .int (p2))]) hx hb dX5_needsLayer_13 rfl hl (by decide) rfl (fun ls hl => ?_)
  refine lv_aload_n hx hb dX5_needsLayer_14 rfl (lv_at hl 1 rfl) ?_
  refine r_get (C := RX5) (T := TX5) (v := .ref (a 18)) hx hb hts i5 hown hw 0 rfl rfl 18 (by decide) lk49 rfl dX5_needsLayer_15 ?_
  refine lv_iload_n hx hb dX5_needsLayer_18 rfl (lv_at hl 2 rfl) ?_
  refine r_ialdN (v := a18 x) hx hb hw 14 rfl ht0 x (by omega) (by decide) dX5_needsLayer_19 rfl ?_
  refine r_top (nI (tn (a18 x))) hl0 ?_
  refine lv_if_eq (tgt := 46) hx hb dX5_needsLayer_20 (by decide) (fun c_20 => ?_) (fun c_20 => ?_)
  · refine lv_iconst (v := 1) hx hb dX5_needsLayer_46 (by decide) ?_
    refine lv_goto (tgt := 51) hx hb dX5_needsLayer_47 (by decide) ?_
    have e9 : f5_needsLayer s0 s1 a2 a3 a18 a20 a21 x p2 = 1 := by unfold f5_needsLayer; rw [if_pos c_20]
    exact r_zret hx hb hr hlocks (Or.inr rfl) hw ⟨by rw [e9] <;> rfl, rfl⟩ dX5_needsLayer_51
  · have hL : 1 ≤ tn (a18 x) := nI_pos1 c_20
    have hl : lv_has ls 4 [(3, .int (nI (16 * x + (tn (a18 x) - 1)))), (0, .ref (a 0)), (1, .int (nI (x))), (2, .int (p2))] := by have q := (show nI (16 * x + tn (a18 x)) - 1 = nI (16 * x + (tn (a18 x) - 1)) by rw [nI_sub1 (by omega), show 16 * x + tn (a18 x) - 1 = 16 * x + (tn (a18 x) - 1) by omega]); rw [q] at hl; exact hl
    refine lv_aload_n hx hb dX5_needsLayer_23 rfl (lv_at hl 1 rfl) ?_
    refine r_get (C := RX5) (T := TX5) (v := .ref (a 20)) hx hb hts i5 hown hw 0 rfl rfl 20 (by decide) lk55 rfl dX5_needsLayer_24 ?_
    refine lv_iload_n hx hb dX5_needsLayer_27 rfl (lv_at hl 0 rfl) ?_
    refine r_ialdN (v := a20 (16 * x + (tn (a18 x) - 1))) hx hb hw 16 rfl ht0 (16 * x + (tn (a18 x) - 1)) (by omega) (by decide) dX5_needsLayer_28 rfl ?_
    refine lv_aload_n hx hb dX5_needsLayer_29 rfl (lv_at hl 1 rfl) ?_
    refine r_callVi 0 rfl rfl (rest := [.int (a20 (16 * x + (tn (a18 x) - 1)))]) ⟨hx, hb, hml, hown, hts⟩ hw [] (k5_price l D ty a cI ht0 s0 s1 a2 a3 a4 a5 a6 a7 a8 a9 s10 s11 s12 a13 a14 a15 a16 a17 a18 a19 a20 a21 s22 (by first | assumption | omega) (by first | assumption | omega)) (cwV 0 hts gX5_needsLayer_X5_price rfl rfl rfl (by decide +kernel) ⟨Nat.le_of_ble_eq_true rfl, Nat.le_of_ble_eq_true rfl⟩) rfl hl.1 rfl (Nat.le_of_ble_eq_true rfl) dX5_needsLayer_30 ⟨Nat.le_of_ble_eq_true rfl, Nat.le_of_ble_eq_true rfl⟩ (fun r w H locs hp hw => ?_)
    obtain ⟨rfl, rfl⟩ := hp
    refine lv_icmp_ne (tgt := 46) hx hb dX5_needsLayer_33 (by decide) (fun c_33 => ?_) (fun c_33 => ?_)
    · refine lv_iconst (v := 1) hx hb dX5_needsLayer_46 (by decide) ?_
      refine lv_goto (tgt := 51) hx hb dX5_needsLayer_47 (by decide) ?_
      have e9 : f5_needsLayer s0 s1 a2 a3 a18 a20 a21 x p2 = 1 := by unfold f5_needsLayer; rw [if_neg c_20, if_neg c_33]
      exact r_zret hx hb hr hlocks (Or.inr rfl) hw ⟨by rw [e9] <;> rfl, rfl⟩ dX5_needsLayer_51
    · refine lv_aload_n hx hb dX5_needsLayer_36 rfl (lv_at hl 1 rfl) ?_
      refine r_get (C := RX5) (T := TX5) (v := .ref (a 21)) hx hb hts i5 hown hw 0 rfl rfl 21 (by decide) lk58 rfl dX5_needsLayer_37 ?_
      refine lv_iload_n hx hb dX5_needsLayer_40 rfl (lv_at hl 0 rfl) ?_
      refine r_ialdN (v := a21 (16 * x + (tn (a18 x) - 1))) hx hb hw 17 rfl ht0 (16 * x + (tn (a18 x) - 1)) (by omega) (by decide) dX5_needsLayer_41 rfl ?_
      refine lv_iload_n hx hb dX5_needsLayer_42 rfl (lv_at hl 3 rfl) ?_
      refine lv_icmp_eq (tgt := 50) hx hb dX5_needsLayer_43 (by decide) (fun c_43 => ?_) (fun c_43 => ?_)
      · refine lv_iconst (v := 0) hx hb dX5_needsLayer_50 (by decide) ?_
        have e9 : f5_needsLayer s0 s1 a2 a3 a18 a20 a21 x p2 = 0 := by unfold f5_needsLayer; rw [if_neg c_20, if_pos c_33, if_pos c_43]
        exact r_zret hx hb hr hlocks (Or.inl rfl) hw ⟨by rw [e9] <;> rfl, rfl⟩ dX5_needsLayer_51
      · refine lv_iconst (v := 1) hx hb dX5_needsLayer_46 (by decide) ?_
        refine lv_goto (tgt := 51) hx hb dX5_needsLayer_47 (by decide) ?_
        have e9 : f5_needsLayer s0 s1 a2 a3 a18 a20 a21 x p2 = 1 := by unfold f5_needsLayer; rw [if_neg c_20, if_pos c_33, if_neg c_43]
        exact r_zret hx hb hr hlocks (Or.inr rfl) hw ⟨by rw [e9] <;> rfl, rfl⟩ dX5_needsLayer_51
theorem nl_pos {s0 s1 : Int32} {a2 a3 a18 a20 a21 : Nat → Int32} {x : Nat} {p2 : Int32} (h : f5_needsLayer s0 s1 a2 a3 a18 a20 a21 x p2 = 0) : 1 ≤ tn (a18 x) := by
  unfold f5_needsLayer at h
  by_cases c : nI (tn (a18 x)) = 0
  · rw [if_pos c] at h; exact absurd h (by decide)
  · exact nI_pos1 c
def f5_comes (s0 : Int32) (s1 : Int32) (a2 : Nat → Int32) (a3 : Nat → Int32) (a18 : Nat → Int32) (a19 : Nat → Int32) (a20 : Nat → Int32) (a21 : Nat → Int32) (x : Nat) (p2 : Int32) (p3 : Int32) : (Nat → Int32) × (Nat → Int32) × (Nat → Int32) × (Nat → Int32) :=
  if (f5_needsLayer s0 s1 a2 a3 a18 a20 a21 x p2) = 0 then (a18, upd a19 (16 * x + (tn (a18 x) - 1)) ((a19 (16 * x + (tn (a18 x) - 1))) + p3), a20, a21)
  else (upd a18 x (nI ((tn (a18 x)) + 1)), upd (upd a19 ((16 * x) + (tn (a18 x))) 0) (16 * x + tn (a18 x)) (((upd a19 ((16 * x) + (tn (a18 x))) 0) (16 * x + tn (a18 x))) + p3), upd a20 ((16 * x) + (tn (a18 x))) (f5_price s0 s1 a2 a3), upd a21 ((16 * x) + (tn (a18 x))) p2)
set_option maxHeartbeats 4000000 in
set_option maxRecDepth 100000 in
theorem k5_comes (l : Launch) (D : va_G) (ty : List (ClassId × FieldType)) (a : Nat → Nat) (cI : ClassId) (ht0 : ty[0]? = some (cI, .int)) (s0 : Int32) (s1 : Int32) (a2 : Nat → Int32) (a3 : Nat → Int32) (a4 : Nat → Int32) (a5 : Nat → Int32) (a6 : Nat → Int32) (a7 : Nat → Int32) (a8 : Nat → Int32) (a9 : Nat → Int32) (s10 : Int32) (s11 : Int32) (s12 : Int32) (a13 : Nat → Int32) (a14 : Nat → Int32) (a15 : Nat → Int32) (a16 : Nat → Int32) (a17 : Nat → Int32) (a18 : Nat → Int32) (a19 : Nat → Int32) (a20 : Nat → Int32) (a21 : Nat → Int32) (s22 : Int32) (x : Nat) (p2 : Int32) (p3 : Int32) (hx60 : x < 60) (hl0 : a18 x = nI (tn (a18 x))) (hl1 : tn (a18 x) ≤ 16) (he0 : s1 = nI (tn s1)) (he1 : tn s1 ≤ 10) (hrm : ¬ f5_needsLayer s0 s1 a2 a3 a18 a20 a21 x p2 = 0 → tn (a18 x) < 16) : MetG l yX5_comes wsX5_comes { frames := 3, cells := 0, slots := 0, locals := 66 } D ty [.ref (a 0), .int (nI (x)), .int (p2), .int (p3)] (MW a cI s0 s1 a2 a3 a4 a5 a6 a7 a8 a9 s10 s11 s12 a13 a14 a15 a16 a17 a18 a19 a20 a21 s22) (va_Qv (fun w => w = MW a cI s0 s1 a2 a3 a4 a5 a6 a7 a8 a9 s10 s11 s12 a13 a14 a15 a16 a17 ((f5_comes s0 s1 a2 a3 a18 a19 a20 a21 x p2 p3).1) ((f5_comes s0 s1 a2 a3 a18 a19 a20 a21 x p2 p3).2.1) ((f5_comes s0 s1 a2 a3 a18 a19 a20 a21 x p2 p3).2.2.1) ((f5_comes s0 s1 a2 a3 a18 a19 a20 a21 x p2 p3).2.2.2) s22)) 0 0 := by
  refine Met_start cX5_comes 5 none (by decide) rfl (Nat.le_of_ble_eq_true rfl) ?_
  intro p e s m below meth c A ls hx hb hr hlocks hml hnm hts hown hw hl
  have hl : lv_has ls 5 [(0, .ref (a 0)), (1, .int (nI (x))), (2, .int (p2)), (3, .int (p3))] := hl
  have i5 : ∀ w ∈ wsX50, w ∈ wsX5_comes := fun _ h => List.mem_cons_of_mem _ (List.mem_append_right _ h)
  have lk52 := hts (.fieldLink RX5 52 "RentSizesModel" "layerBytes" "[I") (by decide +kernel)
  have lk49 := hts (.fieldLink RX5 49 "RentSizesModel" "layers" "[I") (by decide +kernel)
  have lk55 := hts (.fieldLink RX5 55 "RentSizesModel" "layerPrice" "[I") (by decide +kernel)
  have lk58 := hts (.fieldLink RX5 58 "RentSizesModel" "layerFrom" "[I") (by decide +kernel)
  refine lv_aload_n hx hb dX5_comes_0 rfl (lv_at hl 0 rfl) ?_
  refine lv_iload_n hx hb dX5_comes_1 rfl (lv_at hl 1 rfl) ?_
  refine lv_iload_n hx hb dX5_comes_2 rfl (lv_at hl 2 rfl) ?_
  refine r_callVi 0 rfl rfl (rest := []) ⟨hx, hb, hml, hown, hts⟩ hw [.int (nI (x)), .int (p2)] (k5_needsLayer l D ty a cI ht0 s0 s1 a2 a3 a4 a5 a6 a7 a8 a9 s10 s11 s12 a13 a14 a15 a16 a17 a18 a19 a20 a21 s22 x p2 (by first | assumption | omega) (by first | assumption | omega) (by first | assumption | omega) (by first | assumption | omega) (by first | assumption | omega)) (cwV 2 hts gX5_comes_X5_needsLayer rfl rfl rfl (by decide +kernel) ⟨Nat.le_of_ble_eq_true rfl, Nat.le_of_ble_eq_true rfl⟩) rfl hl.1 rfl (Nat.le_of_ble_eq_true rfl) dX5_comes_3 ⟨Nat.le_of_ble_eq_true rfl, Nat.le_of_ble_eq_true rfl⟩ (fun r w H locs hp hw => ?_)
  obtain ⟨rfl, rfl⟩ := hp
  refine lv_if_eq (tgt := 59) hx hb dX5_comes_6 (by decide) (fun c_6 => ?_) (fun c_6 => ?_)
  · refine lv_aload_n hx hb dX5_comes_59 rfl (lv_at hl 0 rfl) ?_
    refine r_get (C := RX5) (T := TX5) (v := .ref (a 19)) hx hb hts i5 hown hw 0 rfl rfl 19 (by decide) lk52 rfl dX5_comes_60 ?_
    refine lv_bipush (v := 16) hx hb dX5_comes_63 (by decide) ?_
    refine lv_iload_n hx hb dX5_comes_65 rfl (lv_at hl 1 rfl) ?_
    refine lv_imul hx hb dX5_comes_66 ?_
    refine r_top (nI (16 * x)) (show nI (16) * nI (x) = nI (16 * x) from pk_mul _ _) ?_
    refine lv_aload_n hx hb dX5_comes_67 rfl (lv_at hl 0 rfl) ?_
    refine r_get (C := RX5) (T := TX5) (v := .ref (a 18)) hx hb hts i5 hown hw 0 rfl rfl 18 (by decide) lk49 rfl dX5_comes_68 ?_
    refine lv_iload_n hx hb dX5_comes_71 rfl (lv_at hl 1 rfl) ?_
    refine r_ialdN (v := a18 x) hx hb hw 14 rfl ht0 x (by omega) (by decide) dX5_comes_72 rfl ?_
    refine r_top (nI (tn (a18 x))) hl0 ?_
    refine lv_iadd hx hb dX5_comes_73 ?_
    refine r_top (nI ((16 * x) + (tn (a18 x)))) (show nI (16 * x) + nI (tn (a18 x)) = nI ((16 * x) + (tn (a18 x))) from nI_add _ _) ?_
    refine lv_iconst (v := 1) hx hb dX5_comes_74 (by decide) ?_
    refine lv_isub hx hb dX5_comes_75 ?_
    have hL := nl_pos c_6
    refine r_top (nI (16 * x + (tn (a18 x) - 1))) (show nI (16 * x + tn (a18 x)) - 1 = nI (16 * x + (tn (a18 x) - 1)) by rw [nI_sub1 (by omega), show 16 * x + tn (a18 x) - 1 = 16 * x + (tn (a18 x) - 1) by omega]) ?_
    refine lv_dup2_11 hx hb dX5_comes_76 rfl rfl ?_
    refine r_ialdN (v := a19 (16 * x + (tn (a18 x) - 1))) hx hb hw 15 rfl ht0 (16 * x + (tn (a18 x) - 1)) (by omega) (by decide) dX5_comes_77 rfl ?_
    refine lv_iload_n hx hb dX5_comes_78 rfl (lv_at hl 3 rfl) ?_
    refine lv_iadd hx hb dX5_comes_79 ?_
    refine r_iastN (ws' := MW a cI s0 s1 a2 a3 a4 a5 a6 a7 a8 a9 s10 s11 s12 a13 a14 a15 a16 a17 a18 (upd a19 (16 * x + (tn (a18 x) - 1)) ((a19 (16 * x + (tn (a18 x) - 1))) + p3)) a20 a21 s22) hx hb hw 15 rfl ht0 (16 * x + (tn (a18 x) - 1)) (by omega) (by decide) (MW_u19 _) dX5_comes_80 (fun H locs hw => ?_)
    have e9 : f5_comes s0 s1 a2 a3 a18 a19 a20 a21 x p2 p3 = (a18, upd a19 (16 * x + (tn (a18 x) - 1)) ((a19 (16 * x + (tn (a18 x) - 1))) + p3), a20, a21) := by unfold f5_comes; rw [if_pos c_6]
    exact r_vret hx hb hr hlocks hw (by rw [e9] <;> rfl) dX5_comes_81
  · have hL16 := hrm c_6
    refine lv_bipush (v := 16) hx hb dX5_comes_9 (by decide) ?_
    refine lv_iload_n hx hb dX5_comes_11 rfl (lv_at hl 1 rfl) ?_
    refine lv_imul hx hb dX5_comes_12 ?_
    refine r_top (nI (16 * x)) (show nI (16) * nI (x) = nI (16 * x) from pk_mul _ _) ?_
    refine lv_aload_n hx hb dX5_comes_13 rfl (lv_at hl 0 rfl) ?_
    refine r_get (C := RX5) (T := TX5) (v := .ref (a 18)) hx hb hts i5 hown hw 0 rfl rfl 18 (by decide) lk49 rfl dX5_comes_14 ?_
    refine lv_iload_n hx hb dX5_comes_17 rfl (lv_at hl 1 rfl) ?_
    refine r_ialdN (v := a18 x) hx hb hw 14 rfl ht0 x (by omega) (by decide) dX5_comes_18 rfl ?_
    refine r_top (nI (tn (a18 x))) hl0 ?_
    refine lv_iadd hx hb dX5_comes_19 ?_
    refine r_top (nI ((16 * x) + (tn (a18 x)))) (show nI (16 * x) + nI (tn (a18 x)) = nI ((16 * x) + (tn (a18 x))) from nI_add _ _) ?_
    refine lv_istore (lv' := [(4, .int (nI ((16 * x) + (tn (a18 x))))), (0, .ref (a 0)), (1, .int (nI (x))), (2, .int (p2)), (3, .int (p3))]) hx hb dX5_comes_20 hl (by decide) rfl (fun ls hl => ?_)
    refine lv_aload_n hx hb dX5_comes_22 rfl (lv_at hl 1 rfl) ?_
    refine r_get (C := RX5) (T := TX5) (v := .ref (a 19)) hx hb hts i5 hown hw 0 rfl rfl 19 (by decide) lk52 rfl dX5_comes_23 ?_
    refine lv_iload hx hb dX5_comes_26 (lv_at hl 0 rfl) ?_
    refine lv_iconst (v := 0) hx hb dX5_comes_28 (by decide) ?_
    refine r_iastN (ws' := MW a cI s0 s1 a2 a3 a4 a5 a6 a7 a8 a9 s10 s11 s12 a13 a14 a15 a16 a17 a18 (upd a19 ((16 * x) + (tn (a18 x))) 0) a20 a21 s22) hx hb hw 15 rfl ht0 ((16 * x) + (tn (a18 x))) (by omega) (by decide) (MW_u19 _) dX5_comes_29 (fun H locs hw => ?_)
    refine lv_aload_n hx hb dX5_comes_30 rfl (lv_at hl 1 rfl) ?_
    refine r_get (C := RX5) (T := TX5) (v := .ref (a 20)) hx hb hts i5 hown hw 0 rfl rfl 20 (by decide) lk55 rfl dX5_comes_31 ?_
    refine lv_iload hx hb dX5_comes_34 (lv_at hl 0 rfl) ?_
    refine lv_aload_n hx hb dX5_comes_36 rfl (lv_at hl 1 rfl) ?_
    refine r_callVi 0 rfl rfl (rest := [.int (nI ((16 * x) + (tn (a18 x)))), .ref (a 20)]) ⟨hx, hb, hml, hown, hts⟩ hw [] (k5_price l D ty a cI ht0 s0 s1 a2 a3 a4 a5 a6 a7 a8 a9 s10 s11 s12 a13 a14 a15 a16 a17 a18 (upd a19 ((16 * x) + (tn (a18 x))) 0) a20 a21 s22 (by first | assumption | omega) (by first | assumption | omega)) (cwV 0 hts gX5_comes_X5_price rfl rfl rfl (by decide +kernel) ⟨Nat.le_of_ble_eq_true rfl, Nat.le_of_ble_eq_true rfl⟩) rfl hl.1 rfl (Nat.le_of_ble_eq_true rfl) dX5_comes_37 ⟨Nat.le_of_ble_eq_true rfl, Nat.le_of_ble_eq_true rfl⟩ (fun r w H locs hp hw => ?_)
    obtain ⟨rfl, rfl⟩ := hp
    refine r_iastN (ws' := MW a cI s0 s1 a2 a3 a4 a5 a6 a7 a8 a9 s10 s11 s12 a13 a14 a15 a16 a17 a18 (upd a19 ((16 * x) + (tn (a18 x))) 0) (upd a20 ((16 * x) + (tn (a18 x))) (f5_price s0 s1 a2 a3)) a21 s22) hx hb hw 16 rfl ht0 ((16 * x) + (tn (a18 x))) (by omega) (by decide) (MW_u20 _) dX5_comes_40 (fun H locs hw => ?_)
    refine lv_aload_n hx hb dX5_comes_41 rfl (lv_at hl 1 rfl) ?_
    refine r_get (C := RX5) (T := TX5) (v := .ref (a 21)) hx hb hts i5 hown hw 0 rfl rfl 21 (by decide) lk58 rfl dX5_comes_42 ?_
    refine lv_iload hx hb dX5_comes_45 (lv_at hl 0 rfl) ?_
    refine lv_iload_n hx hb dX5_comes_47 rfl (lv_at hl 3 rfl) ?_
    refine r_iastN (ws' := MW a cI s0 s1 a2 a3 a4 a5 a6 a7 a8 a9 s10 s11 s12 a13 a14 a15 a16 a17 a18 (upd a19 ((16 * x) + (tn (a18 x))) 0) (upd a20 ((16 * x) + (tn (a18 x))) (f5_price s0 s1 a2 a3)) (upd a21 ((16 * x) + (tn (a18 x))) p2) s22) hx hb hw 17 rfl ht0 ((16 * x) + (tn (a18 x))) (by omega) (by decide) (MW_u21 _) dX5_comes_48 (fun H locs hw => ?_)
    refine lv_aload_n hx hb dX5_comes_49 rfl (lv_at hl 1 rfl) ?_
    refine r_get (C := RX5) (T := TX5) (v := .ref (a 18)) hx hb hts i5 hown hw 0 rfl rfl 18 (by decide) lk49 rfl dX5_comes_50 ?_
    refine lv_iload_n hx hb dX5_comes_53 rfl (lv_at hl 2 rfl) ?_
    refine lv_dup2_11 hx hb dX5_comes_54 rfl rfl ?_
    refine r_ialdN (v := a18 x) hx hb hw 14 rfl ht0 x (by omega) (by decide) dX5_comes_55 rfl ?_
    refine r_top (nI (tn (a18 x))) hl0 ?_
    refine lv_iconst (v := 1) hx hb dX5_comes_56 (by decide) ?_
    refine lv_iadd hx hb dX5_comes_57 ?_
    refine r_top (nI ((tn (a18 x)) + 1)) (show nI (tn (a18 x)) + nI (1) = nI ((tn (a18 x)) + 1) from nI_add _ _) ?_
    refine r_iastN (ws' := MW a cI s0 s1 a2 a3 a4 a5 a6 a7 a8 a9 s10 s11 s12 a13 a14 a15 a16 a17 (upd a18 x (nI ((tn (a18 x)) + 1))) (upd a19 ((16 * x) + (tn (a18 x))) 0) (upd a20 ((16 * x) + (tn (a18 x))) (f5_price s0 s1 a2 a3)) (upd a21 ((16 * x) + (tn (a18 x))) p2) s22) hx hb hw 14 rfl ht0 x (by omega) (by decide) (MW_u18 _) dX5_comes_58 (fun H locs hw => ?_)
    refine lv_aload_n hx hb dX5_comes_59 rfl (lv_at hl 1 rfl) ?_
    refine r_get (C := RX5) (T := TX5) (v := .ref (a 19)) hx hb hts i5 hown hw 0 rfl rfl 19 (by decide) lk52 rfl dX5_comes_60 ?_
    refine lv_bipush (v := 16) hx hb dX5_comes_63 (by decide) ?_
    refine lv_iload_n hx hb dX5_comes_65 rfl (lv_at hl 2 rfl) ?_
    refine lv_imul hx hb dX5_comes_66 ?_
    refine r_top (nI (16 * x)) (show nI (16) * nI (x) = nI (16 * x) from pk_mul _ _) ?_
    refine lv_aload_n hx hb dX5_comes_67 rfl (lv_at hl 1 rfl) ?_
    refine r_get (C := RX5) (T := TX5) (v := .ref (a 18)) hx hb hts i5 hown hw 0 rfl rfl 18 (by decide) lk49 rfl dX5_comes_68 ?_
    refine lv_iload_n hx hb dX5_comes_71 rfl (lv_at hl 2 rfl) ?_
    refine r_ialdN (v := (upd a18 x (nI ((tn (a18 x)) + 1))) x) hx hb hw 14 rfl ht0 x (by omega) (by decide) dX5_comes_72 rfl ?_
    refine r_top (nI (tn (a18 x) + 1)) pk_us ?_
    refine lv_iadd hx hb dX5_comes_73 ?_
    refine r_top (nI ((16 * x) + (tn (a18 x) + 1))) (show nI (16 * x) + nI (tn (a18 x) + 1) = nI ((16 * x) + (tn (a18 x) + 1)) from nI_add _ _) ?_
    refine lv_iconst (v := 1) hx hb dX5_comes_74 (by decide) ?_
    refine lv_isub hx hb dX5_comes_75 ?_
    refine r_top (nI (16 * x + tn (a18 x))) (nI_pred (16 * x + tn (a18 x))) ?_
    refine lv_dup2_11 hx hb dX5_comes_76 rfl rfl ?_
    refine r_ialdN (v := (upd a19 ((16 * x) + (tn (a18 x))) 0) (16 * x + tn (a18 x))) hx hb hw 15 rfl ht0 (16 * x + tn (a18 x)) (by omega) (by decide) dX5_comes_77 rfl ?_
    refine lv_iload_n hx hb dX5_comes_78 rfl (lv_at hl 4 rfl) ?_
    refine lv_iadd hx hb dX5_comes_79 ?_
    refine r_iastN (ws' := MW a cI s0 s1 a2 a3 a4 a5 a6 a7 a8 a9 s10 s11 s12 a13 a14 a15 a16 a17 (upd a18 x (nI ((tn (a18 x)) + 1))) (upd (upd a19 ((16 * x) + (tn (a18 x))) 0) (16 * x + tn (a18 x)) (((upd a19 ((16 * x) + (tn (a18 x))) 0) (16 * x + tn (a18 x))) + p3)) (upd a20 ((16 * x) + (tn (a18 x))) (f5_price s0 s1 a2 a3)) (upd a21 ((16 * x) + (tn (a18 x))) p2) s22) hx hb hw 15 rfl ht0 (16 * x + tn (a18 x)) (by omega) (by decide) (MW_u19 _) dX5_comes_80 (fun H locs hw => ?_)
    have e9 : f5_comes s0 s1 a2 a3 a18 a19 a20 a21 x p2 p3 = (upd a18 x (nI ((tn (a18 x)) + 1)), upd (upd a19 ((16 * x) + (tn (a18 x))) 0) (16 * x + tn (a18 x)) (((upd a19 ((16 * x) + (tn (a18 x))) 0) (16 * x + tn (a18 x))) + p3), upd a20 ((16 * x) + (tn (a18 x))) (f5_price s0 s1 a2 a3), upd a21 ((16 * x) + (tn (a18 x))) p2) := by unfold f5_comes; rw [if_neg c_6]
    exact r_vret hx hb hr hlocks hw (by rw [e9] <;> rfl) dX5_comes_81
def lf5_gives_16 (a19 : Nat → Int32) (a20 : Nat → Int32) (a21 : Nat → Int32) (x : Nat) (p2 : Int32) (p3 : Int32) : Nat → Int32 → Int32 → Int32 × Int32
  | 0, v4, v5 => (v4, v5)
  | j + 1, v4, v5 => if v4 ≤ (a19 ((16 * x) + j)) then (if p3 = (-109) then lf5_gives_16 a19 a20 a21 x p2 p3 j (v4 - v4) (v5 + (v4 * (a20 ((16 * x) + j))))
      else if (a21 ((16 * x) + j)) = p3 then lf5_gives_16 a19 a20 a21 x p2 p3 j (v4 - v4) (v5 + (v4 * (a20 ((16 * x) + j))))
      else lf5_gives_16 a19 a20 a21 x p2 p3 j (v4 - v4) (v5 + 0))
    else if p3 = (-109) then lf5_gives_16 a19 a20 a21 x p2 p3 j (v4 - (a19 ((16 * x) + j))) (v5 + ((a19 ((16 * x) + j)) * (a20 ((16 * x) + j))))
    else if (a21 ((16 * x) + j)) = p3 then lf5_gives_16 a19 a20 a21 x p2 p3 j (v4 - (a19 ((16 * x) + j))) (v5 + ((a19 ((16 * x) + j)) * (a20 ((16 * x) + j))))
    else lf5_gives_16 a19 a20 a21 x p2 p3 j (v4 - (a19 ((16 * x) + j))) (v5 + 0)
set_option maxHeartbeats 4000000 in
set_option maxRecDepth 100000 in
theorem lt5_gives_16 (l : Launch) (D : va_G) (ty : List (ClassId × FieldType)) (a : Nat → Nat) (cI : ClassId) (ht0 : ty[0]? = some (cI, .int)) (s0 : Int32) (s1 : Int32) (a2 : Nat → Int32) (a3 : Nat → Int32) (a4 : Nat → Int32) (a5 : Nat → Int32) (a6 : Nat → Int32) (a7 : Nat → Int32) (a8 : Nat → Int32) (a9 : Nat → Int32) (s10 : Int32) (s11 : Int32) (s12 : Int32) (a13 : Nat → Int32) (a14 : Nat → Int32) (a15 : Nat → Int32) (a16 : Nat → Int32) (a17 : Nat → Int32) (a18 : Nat → Int32) (a19 : Nat → Int32) (a20 : Nat → Int32) (a21 : Nat → Int32) (s22 : Int32) (x : Nat) (p2 : Int32) (p3 : Int32) (hx60 : x < 60) (hl0 : a18 x = nI (tn (a18 x))) (hl1 : tn (a18 x) ≤ 16)  {p : Program} {e : Env} {s : State} {m : MethodId} {args : Array Value} {below : List Frame} {meth : Method} {c : Code} {A : Nat → Prop} {H0 : Heap} {Q : State → Prop} (hx : p.tables.exec = Jvm.exec) (hb : c.code = cX5_gives) (hml : c.maxLocals = 9) (hts : ∀ w ∈ wsX5_gives, w.before args s = true) (hown : s.vm.findClass RX5 = some m.cls) : ∀ (j : Nat) (v4 : Int32) (v5 : Int32) (hj : j ≤ tn (a18 x)) (H : Heap) (locs : List Loc) (ls : Array Slot) (hw : Wd D ty A H0 s (MW a cI s0 s1 a2 a3 a4 a5 a6 a7 a8 a9 s10 s11 s12 a13 a14 a15 a16 a17 a18 a19 a20 a21 s22) H locs) (hl : lv_has ls 9 [(6, .int (nI j - 1)), (5, .int (v5)), (4, .int (v4)), (0, .ref (a 0)), (1, .int (nI (x))), (2, .int (p2)), (3, .int (p3))]) (kk : ∀ (H1 : Heap) (locs1 : List Loc) (ls1 : Array Slot), Wd D ty A H0 s (MW a cI s0 s1 a2 a3 a4 a5 a6 a7 a8 a9 s10 s11 s12 a13 a14 a15 a16 a17 a18 a19 a20 a21 s22) H1 locs1 → lv_has ls1 9 [(6, .int (nI 0 - 1)), (5, .int ((lf5_gives_16 a19 a20 a21 x p2 p3 j v4 v5).2)), (4, .int ((lf5_gives_16 a19 a20 a21 x p2 p3 j v4 v5).1)), (0, .ref (a 0)), (1, .int (nI (x))), (2, .int (p2)), (3, .int (p3))] → W p l e ({ frames := 0, cells := 0, slots := 0, locals := 0 } : Room) s m args below meth c H1 locs1 0 0 Q (F0 m 105 ls1 [])), W p l e ({ frames := 0, cells := 0, slots := 0, locals := 0 } : Room) s m args below meth c H locs 0 0 Q (F0 m 16 ls []) := by
  have i5 : ∀ w ∈ wsX50, w ∈ wsX5_gives := fun _ h => List.mem_cons_of_mem _ (List.mem_append_right _ h)
  have lk52 := hts (.fieldLink RX5 52 "RentSizesModel" "layerBytes" "[I") (by decide +kernel)
  have lk55 := hts (.fieldLink RX5 55 "RentSizesModel" "layerPrice" "[I") (by decide +kernel)
  have lk58 := hts (.fieldLink RX5 58 "RentSizesModel" "layerFrom" "[I") (by decide +kernel)
  intro j
  induction j with
  | zero =>
    intro v4 v5 hj H locs ls hw hl kk
    refine lv_iload hx hb dX5_gives_16 (lv_at hl 0 rfl) ?_
    refine lv_if_lt (tgt := 105) hx hb dX5_gives_18 (by decide) (fun c_18 => ?_) (fun c_18 => ?_)
    · exact kk _ _ _ hw (lv_sub hl [0, 1, 2, 3, 4, 5, 6] rfl)
    · exact absurd (by decide) c_18
  | succ j ih =>
    intro v4 v5 hj H locs ls hw hl kk
    have hl : lv_has ls 9 [(6, .int (nI (j))), (5, .int (v5)), (4, .int (v4)), (0, .ref (a 0)), (1, .int (nI (x))), (2, .int (p2)), (3, .int (p3))] := by rw [nI_pred] at hl; exact hl
    refine lv_iload hx hb dX5_gives_16 (lv_at hl 0 rfl) ?_
    refine lv_if_lt (tgt := 105) hx hb dX5_gives_18 (by decide) (fun c_18 => ?_) (fun c_18 => ?_)
    · exact absurd c_18 (nI_pos (by omega))
    · refine lv_bipush (v := 16) hx hb dX5_gives_21 (by decide) ?_
      refine lv_iload_n hx hb dX5_gives_23 rfl (lv_at hl 4 rfl) ?_
      refine lv_imul hx hb dX5_gives_24 ?_
      refine r_top (nI (16 * x)) (show nI (16) * nI (x) = nI (16 * x) from pk_mul _ _) ?_
      refine lv_iload hx hb dX5_gives_25 (lv_at hl 0 rfl) ?_
      refine lv_iadd hx hb dX5_gives_27 ?_
      refine r_top (nI ((16 * x) + j)) (show nI (16 * x) + nI (j) = nI ((16 * x) + j) from nI_add _ _) ?_
      refine lv_istore (lv' := [(7, .int (nI ((16 * x) + j))), (6, .int (nI (j))), (5, .int (v5)), (4, .int (v4)), (0, .ref (a 0)), (1, .int (nI (x))), (2, .int (p2)), (3, .int (p3))]) hx hb dX5_gives_28 hl (by decide) rfl (fun ls hl => ?_)
      refine lv_aload_n hx hb dX5_gives_30 rfl (lv_at hl 4 rfl) ?_
      refine r_get (C := RX5) (T := TX5) (v := .ref (a 19)) hx hb hts i5 hown hw 0 rfl rfl 19 (by decide) lk52 rfl dX5_gives_31 ?_
      refine lv_iload hx hb dX5_gives_34 (lv_at hl 0 rfl) ?_
      refine r_ialdN (v := a19 ((16 * x) + j)) hx hb hw 15 rfl ht0 ((16 * x) + j) (by omega) (by decide) dX5_gives_36 rfl ?_
      refine lv_iload hx hb dX5_gives_37 (lv_at hl 3 rfl) ?_
      refine lv_icmp_ge (tgt := 52) hx hb dX5_gives_39 (by decide) (fun c_39 => ?_) (fun c_39 => ?_)
      · refine lv_iload hx hb dX5_gives_52 (lv_at hl 3 rfl) ?_
        refine lv_istore (lv' := [(8, .int (v4)), (7, .int (nI ((16 * x) + j))), (6, .int (nI (j))), (5, .int (v5)), (4, .int (v4)), (0, .ref (a 0)), (1, .int (nI (x))), (2, .int (p2)), (3, .int (p3))]) hx hb dX5_gives_54 hl (by decide) rfl (fun ls hl => ?_)
        refine lv_iload hx hb dX5_gives_56 (lv_at hl 3 rfl) ?_
        refine lv_iload_n hx hb dX5_gives_58 rfl (lv_at hl 8 rfl) ?_
        refine lv_bipush (v := (-109)) hx hb dX5_gives_59 (by decide) ?_
        refine lv_icmp_eq (tgt := 75) hx hb dX5_gives_61 (by decide) (fun c_61 => ?_) (fun c_61 => ?_)
        · refine lv_iload hx hb dX5_gives_75 (lv_at hl 0 rfl) ?_
          refine lv_aload_n hx hb dX5_gives_77 rfl (lv_at hl 5 rfl) ?_
          refine r_get (C := RX5) (T := TX5) (v := .ref (a 20)) hx hb hts i5 hown hw 0 rfl rfl 20 (by decide) lk55 rfl dX5_gives_78 ?_
          refine lv_iload hx hb dX5_gives_81 (lv_at hl 1 rfl) ?_
          refine r_ialdN (v := a20 ((16 * x) + j)) hx hb hw 16 rfl ht0 ((16 * x) + j) (by omega) (by decide) dX5_gives_83 rfl ?_
          refine lv_imul hx hb dX5_gives_84 ?_
          refine lv_goto (tgt := 89) hx hb dX5_gives_85 (by decide) ?_
          refine lv_iadd hx hb dX5_gives_89 ?_
          refine lv_istore (lv' := [(5, .int (v5 + (v4 * (a20 ((16 * x) + j))))), (8, .int (v4)), (7, .int (nI ((16 * x) + j))), (6, .int (nI (j))), (4, .int (v4)), (0, .ref (a 0)), (1, .int (nI (x))), (2, .int (p2)), (3, .int (p3))]) hx hb dX5_gives_90 hl (by decide) rfl (fun ls hl => ?_)
          refine lv_iload hx hb dX5_gives_92 (lv_at hl 4 rfl) ?_
          refine lv_iload hx hb dX5_gives_94 (lv_at hl 1 rfl) ?_
          refine lv_isub hx hb dX5_gives_96 ?_
          refine lv_istore (lv' := [(4, .int (v4 - v4)), (5, .int (v5 + (v4 * (a20 ((16 * x) + j))))), (8, .int (v4)), (7, .int (nI ((16 * x) + j))), (6, .int (nI (j))), (0, .ref (a 0)), (1, .int (nI (x))), (2, .int (p2)), (3, .int (p3))]) hx hb dX5_gives_97 hl (by decide) rfl (fun ls hl => ?_)
          refine lv_iinc (v := (nI (j)) - 1) (lv' := [(6, .int ((nI (j)) - 1)), (4, .int (v4 - v4)), (5, .int (v5 + (v4 * (a20 ((16 * x) + j))))), (8, .int (v4)), (7, .int (nI ((16 * x) + j))), (0, .ref (a 0)), (1, .int (nI (x))), (2, .int (p2)), (3, .int (p3))]) hx hb dX5_gives_99 hl (k := 4) rfl (am1 _) (by decide) rfl (fun ls hl => ?_)
          refine lv_goto (tgt := 16) hx hb dX5_gives_102 (by decide) ?_
          have e9 : lf5_gives_16 a19 a20 a21 x p2 p3 (j + 1) v4 v5 = lf5_gives_16 a19 a20 a21 x p2 p3 j (v4 - v4) (v5 + (v4 * (a20 ((16 * x) + j)))) := by rw [lf5_gives_16]; rw [if_pos c_39, if_pos c_61]
          rw [e9] at kk
          exact ih (v4 - v4) (v5 + (v4 * (a20 ((16 * x) + j)))) (by omega)  _ _ _ hw (lv_sub hl [0, 2, 1, 5, 6, 7, 8] rfl) kk
        · refine lv_aload_n hx hb dX5_gives_64 rfl (lv_at hl 5 rfl) ?_
          refine r_get (C := RX5) (T := TX5) (v := .ref (a 21)) hx hb hts i5 hown hw 0 rfl rfl 21 (by decide) lk58 rfl dX5_gives_65 ?_
          refine lv_iload hx hb dX5_gives_68 (lv_at hl 1 rfl) ?_
          refine r_ialdN (v := a21 ((16 * x) + j)) hx hb hw 17 rfl ht0 ((16 * x) + j) (by omega) (by decide) dX5_gives_70 rfl ?_
          refine lv_iload_n hx hb dX5_gives_71 rfl (lv_at hl 8 rfl) ?_
          refine lv_icmp_ne (tgt := 88) hx hb dX5_gives_72 (by decide) (fun c_72 => ?_) (fun c_72 => ?_)
          · refine lv_iconst (v := 0) hx hb dX5_gives_88 (by decide) ?_
            refine lv_iadd hx hb dX5_gives_89 ?_
            refine lv_istore (lv' := [(5, .int (v5 + 0)), (8, .int (v4)), (7, .int (nI ((16 * x) + j))), (6, .int (nI (j))), (4, .int (v4)), (0, .ref (a 0)), (1, .int (nI (x))), (2, .int (p2)), (3, .int (p3))]) hx hb dX5_gives_90 hl (by decide) rfl (fun ls hl => ?_)
            refine lv_iload hx hb dX5_gives_92 (lv_at hl 4 rfl) ?_
            refine lv_iload hx hb dX5_gives_94 (lv_at hl 1 rfl) ?_
            refine lv_isub hx hb dX5_gives_96 ?_
            refine lv_istore (lv' := [(4, .int (v4 - v4)), (5, .int (v5 + 0)), (8, .int (v4)), (7, .int (nI ((16 * x) + j))), (6, .int (nI (j))), (0, .ref (a 0)), (1, .int (nI (x))), (2, .int (p2)), (3, .int (p3))]) hx hb dX5_gives_97 hl (by decide) rfl (fun ls hl => ?_)
            refine lv_iinc (v := (nI (j)) - 1) (lv' := [(6, .int ((nI (j)) - 1)), (4, .int (v4 - v4)), (5, .int (v5 + 0)), (8, .int (v4)), (7, .int (nI ((16 * x) + j))), (0, .ref (a 0)), (1, .int (nI (x))), (2, .int (p2)), (3, .int (p3))]) hx hb dX5_gives_99 hl (k := 4) rfl (am1 _) (by decide) rfl (fun ls hl => ?_)
            refine lv_goto (tgt := 16) hx hb dX5_gives_102 (by decide) ?_
            have e9 : lf5_gives_16 a19 a20 a21 x p2 p3 (j + 1) v4 v5 = lf5_gives_16 a19 a20 a21 x p2 p3 j (v4 - v4) (v5 + 0) := by rw [lf5_gives_16]; rw [if_pos c_39, if_neg c_61, if_neg c_72]
            rw [e9] at kk
            exact ih (v4 - v4) (v5 + 0) (by omega)  _ _ _ hw (lv_sub hl [0, 2, 1, 5, 6, 7, 8] rfl) kk
          · refine lv_iload hx hb dX5_gives_75 (lv_at hl 0 rfl) ?_
            refine lv_aload_n hx hb dX5_gives_77 rfl (lv_at hl 5 rfl) ?_
            refine r_get (C := RX5) (T := TX5) (v := .ref (a 20)) hx hb hts i5 hown hw 0 rfl rfl 20 (by decide) lk55 rfl dX5_gives_78 ?_
            refine lv_iload hx hb dX5_gives_81 (lv_at hl 1 rfl) ?_
            refine r_ialdN (v := a20 ((16 * x) + j)) hx hb hw 16 rfl ht0 ((16 * x) + j) (by omega) (by decide) dX5_gives_83 rfl ?_
            refine lv_imul hx hb dX5_gives_84 ?_
            refine lv_goto (tgt := 89) hx hb dX5_gives_85 (by decide) ?_
            refine lv_iadd hx hb dX5_gives_89 ?_
            refine lv_istore (lv' := [(5, .int (v5 + (v4 * (a20 ((16 * x) + j))))), (8, .int (v4)), (7, .int (nI ((16 * x) + j))), (6, .int (nI (j))), (4, .int (v4)), (0, .ref (a 0)), (1, .int (nI (x))), (2, .int (p2)), (3, .int (p3))]) hx hb dX5_gives_90 hl (by decide) rfl (fun ls hl => ?_)
            refine lv_iload hx hb dX5_gives_92 (lv_at hl 4 rfl) ?_
            refine lv_iload hx hb dX5_gives_94 (lv_at hl 1 rfl) ?_
            refine lv_isub hx hb dX5_gives_96 ?_
            refine lv_istore (lv' := [(4, .int (v4 - v4)), (5, .int (v5 + (v4 * (a20 ((16 * x) + j))))), (8, .int (v4)), (7, .int (nI ((16 * x) + j))), (6, .int (nI (j))), (0, .ref (a 0)), (1, .int (nI (x))), (2, .int (p2)), (3, .int (p3))]) hx hb dX5_gives_97 hl (by decide) rfl (fun ls hl => ?_)
            refine lv_iinc (v := (nI (j)) - 1) (lv' := [(6, .int ((nI (j)) - 1)), (4, .int (v4 - v4)), (5, .int (v5 + (v4 * (a20 ((16 * x) + j))))), (8, .int (v4)), (7, .int (nI ((16 * x) + j))), (0, .ref (a 0)), (1, .int (nI (x))), (2, .int (p2)), (3, .int (p3))]) hx hb dX5_gives_99 hl (k := 4) rfl (am1 _) (by decide) rfl (fun ls hl => ?_)
            refine lv_goto (tgt := 16) hx hb dX5_gives_102 (by decide) ?_
            have e9 : lf5_gives_16 a19 a20 a21 x p2 p3 (j + 1) v4 v5 = lf5_gives_16 a19 a20 a21 x p2 p3 j (v4 - v4) (v5 + (v4 * (a20 ((16 * x) + j)))) := by rw [lf5_gives_16]; rw [if_pos c_39, if_neg c_61, if_pos c_72]
            rw [e9] at kk
            exact ih (v4 - v4) (v5 + (v4 * (a20 ((16 * x) + j)))) (by omega)  _ _ _ hw (lv_sub hl [0, 2, 1, 5, 6, 7, 8] rfl) kk
      · refine lv_aload_n hx hb dX5_gives_42 rfl (lv_at hl 4 rfl) ?_
        refine r_get (C := RX5) (T := TX5) (v := .ref (a 19)) hx hb hts i5 hown hw 0 rfl rfl 19 (by decide) lk52 rfl dX5_gives_43 ?_
        refine lv_iload hx hb dX5_gives_46 (lv_at hl 0 rfl) ?_
        refine r_ialdN (v := a19 ((16 * x) + j)) hx hb hw 15 rfl ht0 ((16 * x) + j) (by omega) (by decide) dX5_gives_48 rfl ?_
        refine lv_goto (tgt := 54) hx hb dX5_gives_49 (by decide) ?_
        refine lv_istore (lv' := [(8, .int (a19 ((16 * x) + j))), (7, .int (nI ((16 * x) + j))), (6, .int (nI (j))), (5, .int (v5)), (4, .int (v4)), (0, .ref (a 0)), (1, .int (nI (x))), (2, .int (p2)), (3, .int (p3))]) hx hb dX5_gives_54 hl (by decide) rfl (fun ls hl => ?_)
        refine lv_iload hx hb dX5_gives_56 (lv_at hl 3 rfl) ?_
        refine lv_iload_n hx hb dX5_gives_58 rfl (lv_at hl 8 rfl) ?_
        refine lv_bipush (v := (-109)) hx hb dX5_gives_59 (by decide) ?_
        refine lv_icmp_eq (tgt := 75) hx hb dX5_gives_61 (by decide) (fun c_61 => ?_) (fun c_61 => ?_)
        · refine lv_iload hx hb dX5_gives_75 (lv_at hl 0 rfl) ?_
          refine lv_aload_n hx hb dX5_gives_77 rfl (lv_at hl 5 rfl) ?_
          refine r_get (C := RX5) (T := TX5) (v := .ref (a 20)) hx hb hts i5 hown hw 0 rfl rfl 20 (by decide) lk55 rfl dX5_gives_78 ?_
          refine lv_iload hx hb dX5_gives_81 (lv_at hl 1 rfl) ?_
          refine r_ialdN (v := a20 ((16 * x) + j)) hx hb hw 16 rfl ht0 ((16 * x) + j) (by omega) (by decide) dX5_gives_83 rfl ?_
          refine lv_imul hx hb dX5_gives_84 ?_
          refine lv_goto (tgt := 89) hx hb dX5_gives_85 (by decide) ?_
          refine lv_iadd hx hb dX5_gives_89 ?_
          refine lv_istore (lv' := [(5, .int (v5 + ((a19 ((16 * x) + j)) * (a20 ((16 * x) + j))))), (8, .int (a19 ((16 * x) + j))), (7, .int (nI ((16 * x) + j))), (6, .int (nI (j))), (4, .int (v4)), (0, .ref (a 0)), (1, .int (nI (x))), (2, .int (p2)), (3, .int (p3))]) hx hb dX5_gives_90 hl (by decide) rfl (fun ls hl => ?_)
          refine lv_iload hx hb dX5_gives_92 (lv_at hl 4 rfl) ?_
          refine lv_iload hx hb dX5_gives_94 (lv_at hl 1 rfl) ?_
          refine lv_isub hx hb dX5_gives_96 ?_
          refine lv_istore (lv' := [(4, .int (v4 - (a19 ((16 * x) + j)))), (5, .int (v5 + ((a19 ((16 * x) + j)) * (a20 ((16 * x) + j))))), (8, .int (a19 ((16 * x) + j))), (7, .int (nI ((16 * x) + j))), (6, .int (nI (j))), (0, .ref (a 0)), (1, .int (nI (x))), (2, .int (p2)), (3, .int (p3))]) hx hb dX5_gives_97 hl (by decide) rfl (fun ls hl => ?_)
          refine lv_iinc (v := (nI (j)) - 1) (lv' := [(6, .int ((nI (j)) - 1)), (4, .int (v4 - (a19 ((16 * x) + j)))), (5, .int (v5 + ((a19 ((16 * x) + j)) * (a20 ((16 * x) + j))))), (8, .int (a19 ((16 * x) + j))), (7, .int (nI ((16 * x) + j))), (0, .ref (a 0)), (1, .int (nI (x))), (2, .int (p2)), (3, .int (p3))]) hx hb dX5_gives_99 hl (k := 4) rfl (am1 _) (by decide) rfl (fun ls hl => ?_)
          refine lv_goto (tgt := 16) hx hb dX5_gives_102 (by decide) ?_
          have e9 : lf5_gives_16 a19 a20 a21 x p2 p3 (j + 1) v4 v5 = lf5_gives_16 a19 a20 a21 x p2 p3 j (v4 - (a19 ((16 * x) + j))) (v5 + ((a19 ((16 * x) + j)) * (a20 ((16 * x) + j)))) := by rw [lf5_gives_16]; rw [if_neg c_39, if_pos c_61]
          rw [e9] at kk
          exact ih (v4 - (a19 ((16 * x) + j))) (v5 + ((a19 ((16 * x) + j)) * (a20 ((16 * x) + j)))) (by omega)  _ _ _ hw (lv_sub hl [0, 2, 1, 5, 6, 7, 8] rfl) kk
        · refine lv_aload_n hx hb dX5_gives_64 rfl (lv_at hl 5 rfl) ?_
          refine r_get (C := RX5) (T := TX5) (v := .ref (a 21)) hx hb hts i5 hown hw 0 rfl rfl 21 (by decide) lk58 rfl dX5_gives_65 ?_
          refine lv_iload hx hb dX5_gives_68 (lv_at hl 1 rfl) ?_
          refine r_ialdN (v := a21 ((16 * x) + j)) hx hb hw 17 rfl ht0 ((16 * x) + j) (by omega) (by decide) dX5_gives_70 rfl ?_
          refine lv_iload_n hx hb dX5_gives_71 rfl (lv_at hl 8 rfl) ?_
          refine lv_icmp_ne (tgt := 88) hx hb dX5_gives_72 (by decide) (fun c_72 => ?_) (fun c_72 => ?_)
          · refine lv_iconst (v := 0) hx hb dX5_gives_88 (by decide) ?_
            refine lv_iadd hx hb dX5_gives_89 ?_
            refine lv_istore (lv' := [(5, .int (v5 + 0)), (8, .int (a19 ((16 * x) + j))), (7, .int (nI ((16 * x) + j))), (6, .int (nI (j))), (4, .int (v4)), (0, .ref (a 0)), (1, .int (nI (x))), (2, .int (p2)), (3, .int (p3))]) hx hb dX5_gives_90 hl (by decide) rfl (fun ls hl => ?_)
            refine lv_iload hx hb dX5_gives_92 (lv_at hl 4 rfl) ?_
            refine lv_iload hx hb dX5_gives_94 (lv_at hl 1 rfl) ?_
            refine lv_isub hx hb dX5_gives_96 ?_
            refine lv_istore (lv' := [(4, .int (v4 - (a19 ((16 * x) + j)))), (5, .int (v5 + 0)), (8, .int (a19 ((16 * x) + j))), (7, .int (nI ((16 * x) + j))), (6, .int (nI (j))), (0, .ref (a 0)), (1, .int (nI (x))), (2, .int (p2)), (3, .int (p3))]) hx hb dX5_gives_97 hl (by decide) rfl (fun ls hl => ?_)
            refine lv_iinc (v := (nI (j)) - 1) (lv' := [(6, .int ((nI (j)) - 1)), (4, .int (v4 - (a19 ((16 * x) + j)))), (5, .int (v5 + 0)), (8, .int (a19 ((16 * x) + j))), (7, .int (nI ((16 * x) + j))), (0, .ref (a 0)), (1, .int (nI (x))), (2, .int (p2)), (3, .int (p3))]) hx hb dX5_gives_99 hl (k := 4) rfl (am1 _) (by decide) rfl (fun ls hl => ?_)
            refine lv_goto (tgt := 16) hx hb dX5_gives_102 (by decide) ?_
            have e9 : lf5_gives_16 a19 a20 a21 x p2 p3 (j + 1) v4 v5 = lf5_gives_16 a19 a20 a21 x p2 p3 j (v4 - (a19 ((16 * x) + j))) (v5 + 0) := by rw [lf5_gives_16]; rw [if_neg c_39, if_neg c_61, if_neg c_72]
            rw [e9] at kk
            exact ih (v4 - (a19 ((16 * x) + j))) (v5 + 0) (by omega)  _ _ _ hw (lv_sub hl [0, 2, 1, 5, 6, 7, 8] rfl) kk
          · refine lv_iload hx hb dX5_gives_75 (lv_at hl 0 rfl) ?_
            refine lv_aload_n hx hb dX5_gives_77 rfl (lv_at hl 5 rfl) ?_
            refine r_get (C := RX5) (T := TX5) (v := .ref (a 20)) hx hb hts i5 hown hw 0 rfl rfl 20 (by decide) lk55 rfl dX5_gives_78 ?_
            refine lv_iload hx hb dX5_gives_81 (lv_at hl 1 rfl) ?_
            refine r_ialdN (v := a20 ((16 * x) + j)) hx hb hw 16 rfl ht0 ((16 * x) + j) (by omega) (by decide) dX5_gives_83 rfl ?_
            refine lv_imul hx hb dX5_gives_84 ?_
            refine lv_goto (tgt := 89) hx hb dX5_gives_85 (by decide) ?_
            refine lv_iadd hx hb dX5_gives_89 ?_
            refine lv_istore (lv' := [(5, .int (v5 + ((a19 ((16 * x) + j)) * (a20 ((16 * x) + j))))), (8, .int (a19 ((16 * x) + j))), (7, .int (nI ((16 * x) + j))), (6, .int (nI (j))), (4, .int (v4)), (0, .ref (a 0)), (1, .int (nI (x))), (2, .int (p2)), (3, .int (p3))]) hx hb dX5_gives_90 hl (by decide) rfl (fun ls hl => ?_)
            refine lv_iload hx hb dX5_gives_92 (lv_at hl 4 rfl) ?_
            refine lv_iload hx hb dX5_gives_94 (lv_at hl 1 rfl) ?_
            refine lv_isub hx hb dX5_gives_96 ?_
            refine lv_istore (lv' := [(4, .int (v4 - (a19 ((16 * x) + j)))), (5, .int (v5 + ((a19 ((16 * x) + j)) * (a20 ((16 * x) + j))))), (8, .int (a19 ((16 * x) + j))), (7, .int (nI ((16 * x) + j))), (6, .int (nI (j))), (0, .ref (a 0)), (1, .int (nI (x))), (2, .int (p2)), (3, .int (p3))]) hx hb dX5_gives_97 hl (by decide) rfl (fun ls hl => ?_)
            refine lv_iinc (v := (nI (j)) - 1) (lv' := [(6, .int ((nI (j)) - 1)), (4, .int (v4 - (a19 ((16 * x) + j)))), (5, .int (v5 + ((a19 ((16 * x) + j)) * (a20 ((16 * x) + j))))), (8, .int (a19 ((16 * x) + j))), (7, .int (nI ((16 * x) + j))), (0, .ref (a 0)), (1, .int (nI (x))), (2, .int (p2)), (3, .int (p3))]) hx hb dX5_gives_99 hl (k := 4) rfl (am1 _) (by decide) rfl (fun ls hl => ?_)
            refine lv_goto (tgt := 16) hx hb dX5_gives_102 (by decide) ?_
            have e9 : lf5_gives_16 a19 a20 a21 x p2 p3 (j + 1) v4 v5 = lf5_gives_16 a19 a20 a21 x p2 p3 j (v4 - (a19 ((16 * x) + j))) (v5 + ((a19 ((16 * x) + j)) * (a20 ((16 * x) + j)))) := by rw [lf5_gives_16]; rw [if_neg c_39, if_neg c_61, if_pos c_72]
            rw [e9] at kk
            exact ih (v4 - (a19 ((16 * x) + j))) (v5 + ((a19 ((16 * x) + j)) * (a20 ((16 * x) + j)))) (by omega)  _ _ _ hw (lv_sub hl [0, 2, 1, 5, 6, 7, 8] rfl) kk
def f5_gives (a18 : Nat → Int32) (a19 : Nat → Int32) (a20 : Nat → Int32) (a21 : Nat → Int32) (x : Nat) (p2 : Int32) (p3 : Int32) : Int32 :=
  (lf5_gives_16 a19 a20 a21 x p2 p3 (tn (a18 x)) p2 0).2
set_option maxHeartbeats 4000000 in
set_option maxRecDepth 100000 in
theorem k5_gives (l : Launch) (D : va_G) (ty : List (ClassId × FieldType)) (a : Nat → Nat) (cI : ClassId) (ht0 : ty[0]? = some (cI, .int)) (s0 : Int32) (s1 : Int32) (a2 : Nat → Int32) (a3 : Nat → Int32) (a4 : Nat → Int32) (a5 : Nat → Int32) (a6 : Nat → Int32) (a7 : Nat → Int32) (a8 : Nat → Int32) (a9 : Nat → Int32) (s10 : Int32) (s11 : Int32) (s12 : Int32) (a13 : Nat → Int32) (a14 : Nat → Int32) (a15 : Nat → Int32) (a16 : Nat → Int32) (a17 : Nat → Int32) (a18 : Nat → Int32) (a19 : Nat → Int32) (a20 : Nat → Int32) (a21 : Nat → Int32) (s22 : Int32) (x : Nat) (p2 : Int32) (p3 : Int32) (hx60 : x < 60) (hl0 : a18 x = nI (tn (a18 x))) (hl1 : tn (a18 x) ≤ 16) : MetG l yX5_gives wsX5_gives { frames := 0, cells := 0, slots := 0, locals := 0 } D ty [.ref (a 0), .int (nI (x)), .int (p2), .int (p3)] (MW a cI s0 s1 a2 a3 a4 a5 a6 a7 a8 a9 s10 s11 s12 a13 a14 a15 a16 a17 a18 a19 a20 a21 s22) (va_Qi (fun r w => r = f5_gives a18 a19 a20 a21 x p2 p3 ∧ w = MW a cI s0 s1 a2 a3 a4 a5 a6 a7 a8 a9 s10 s11 s12 a13 a14 a15 a16 a17 a18 a19 a20 a21 s22)) 0 0 := by
  refine Met_start cX5_gives 9 (some .int) (by decide) rfl (Nat.le_of_ble_eq_true rfl) ?_
  intro p e s m below meth c A ls hx hb hr hlocks hml hnm hts hown hw hl
  have hl : lv_has ls 9 [(0, .ref (a 0)), (1, .int (nI (x))), (2, .int (p2)), (3, .int (p3))] := hl
  have i5 : ∀ w ∈ wsX50, w ∈ wsX5_gives := fun _ h => List.mem_cons_of_mem _ (List.mem_append_right _ h)
  have lk49 := hts (.fieldLink RX5 49 "RentSizesModel" "layers" "[I") (by decide +kernel)
  refine lv_iload_n hx hb dX5_gives_0 rfl (lv_at hl 2 rfl) ?_
  refine lv_istore (lv' := [(4, .int (p2)), (0, .ref (a 0)), (1, .int (nI (x))), (2, .int (p2)), (3, .int (p3))]) hx hb dX5_gives_1 hl (by decide) rfl (fun ls hl => ?_)
  refine lv_iconst (v := 0) hx hb dX5_gives_3 (by decide) ?_
  refine lv_istore (lv' := [(5, .int (0)), (4, .int (p2)), (0, .ref (a 0)), (1, .int (nI (x))), (2, .int (p2)), (3, .int (p3))]) hx hb dX5_gives_4 hl (by decide) rfl (fun ls hl => ?_)
  refine lv_aload_n hx hb dX5_gives_6 rfl (lv_at hl 2 rfl) ?_
  refine r_get (C := RX5) (T := TX5) (v := .ref (a 18)) hx hb hts i5 hown hw 0 rfl rfl 18 (by decide) lk49 rfl dX5_gives_7 ?_
  refine lv_iload_n hx hb dX5_gives_10 rfl (lv_at hl 3 rfl) ?_
  refine r_ialdN (v := a18 x) hx hb hw 14 rfl ht0 x (by omega) (by decide) dX5_gives_11 rfl ?_
  refine r_top (nI (tn (a18 x))) hl0 ?_
  refine lv_iconst (v := 1) hx hb dX5_gives_12 (by decide) ?_
  refine lv_isub hx hb dX5_gives_13 ?_
  refine lv_istore (lv' := [(6, .int ((nI (tn (a18 x))) - 1)), (5, .int (0)), (4, .int (p2)), (0, .ref (a 0)), (1, .int (nI (x))), (2, .int (p2)), (3, .int (p3))]) hx hb dX5_gives_14 hl (by decide) rfl (fun ls hl => ?_)
  refine lt5_gives_16 l D ty a cI ht0 s0 s1 a2 a3 a4 a5 a6 a7 a8 a9 s10 s11 s12 a13 a14 a15 a16 a17 a18 a19 a20 a21 s22 x p2 p3 hx60 hl0 hl1  hx hb hml hts hown (tn (a18 x)) p2 0 (by omega)  _ _ _ hw hl (fun H locs ls hw hl => ?_)
  refine lv_iload hx hb dX5_gives_105 (lv_at hl 1 rfl) ?_
  have e9 : f5_gives a18 a19 a20 a21 x p2 p3 = (lf5_gives_16 a19 a20 a21 x p2 p3 (tn (a18 x)) p2 0).2 := by unfold f5_gives; rfl
  exact r_iret hx hb hr hlocks hw ⟨by rw [e9] <;> rfl, rfl⟩ dX5_gives_107
def gINV (x k : Nat) (v4 : Int32) (f18 f19 : Nat → Int32) : Prop := f18 x = nI (tn (f18 x)) ∧ tn (f18 x) ≤ 16 ∧ (∀ i, i < tn (f18 x) → 0 < (f19 (16 * x + i)).toInt) ∧ v4.toInt ≤ sB f19 (16 * x) (tn (f18 x)) ∧ (0 < v4.toInt → tn (f18 x) + 1 ≤ k) ∧ 0 ≤ v4.toInt
theorem g_v {v : Int32} : ¬ v ≤ 0 ↔ 0 < v.toInt := by
  rw [Int32.le_iff_toInt_le]; show ¬ v.toInt ≤ 0 ↔ _; omega
theorem g_pos {x k : Nat} {v4 : Int32} {f18 f19 : Nat → Int32} (h : gINV x k v4 f18 f19) (h0 : ¬ v4 ≤ 0) : 1 ≤ tn (f18 x) := by
  obtain ⟨h1, h2, h3, h4, h5, h6⟩ := h
  have := g_v.mp h0
  by_cases c : tn (f18 x) = 0
  · rw [c] at h4; simp only [sB] at h4; omega
  · omega
theorem g_step {x k : Nat} {v4 go d : Int32} {f18 f19 : Nat → Int32} (h : gINV x (k + 1) v4 f18 f19) (h0 : ¬ v4 ≤ 0)
    (hgo : (go = v4 ∧ v4 ≤ f19 (16 * x + (tn (f18 x) - 1))) ∨ (go = f19 (16 * x + (tn (f18 x) - 1)) ∧ ¬ v4 ≤ f19 (16 * x + (tn (f18 x) - 1))))
    (hd : (d = 0 ∧ ¬ (upd f19 (16 * x + (tn (f18 x) - 1)) (f19 (16 * x + (tn (f18 x) - 1)) - go)) (16 * x + (tn (f18 x) - 1)) = 0) ∨ (d = 1 ∧ (upd f19 (16 * x + (tn (f18 x) - 1)) (f19 (16 * x + (tn (f18 x) - 1)) - go)) (16 * x + (tn (f18 x) - 1)) = 0)) :
    gINV x k (v4 - go) (upd f18 x (nI (tn (f18 x)) - d)) (upd f19 (16 * x + (tn (f18 x) - 1)) (f19 (16 * x + (tn (f18 x) - 1)) - go)) := by
  have hp := g_pos h h0
  obtain ⟨h1, h2, h3, h4, h5, h6⟩ := h
  have hv := g_v.mp h0
  obtain ⟨L, hL⟩ : ∃ L, tn (f18 x) = L + 1 := ⟨tn (f18 x) - 1, by omega⟩
  rw [hL] at h2 h3 h4 h5 hgo hd ⊢
  simp only [Nat.add_sub_cancel] at hgo hd ⊢
  have hb := h3 L (by omega)
  have hbl := i32_hi (f19 (16 * x + L))
  have hvl := i32_hi v4
  rw [pk_us] at hd
  simp only [sB] at h4
  have hsame : sB (upd f19 (16 * x + L) (f19 (16 * x + L) - go)) (16 * x) L = sB f19 (16 * x) L := sB_same L (fun i hi => pk_un (by omega))
  have hnn := sB_nn (f := f19) (o := 16 * x) L (fun i hi => h3 i (by omega))
  have hz : (0 : Int32).toInt = 0 := rfl
  have hle : (go.toInt = v4.toInt ∧ v4.toInt ≤ (f19 (16 * x + L)).toInt) ∨ (go.toInt = (f19 (16 * x + L)).toInt ∧ (f19 (16 * x + L)).toInt < v4.toInt) := by
    rcases hgo with ⟨rfl, q⟩ | ⟨rfl, q⟩
    · exact Or.inl ⟨rfl, Int32.le_iff_toInt_le.mp q⟩
    · rw [Int32.le_iff_toInt_le] at q; exact Or.inr ⟨rfl, by omega⟩
  have e1 : (v4 - go).toInt = v4.toInt - go.toInt := sub_toInt (by omega) (by omega)
  have e2 : (f19 (16 * x + L) - go).toInt = (f19 (16 * x + L)).toInt - go.toInt := sub_toInt (by omega) (by omega)
  rcases hd with ⟨rfl, q⟩ | ⟨rfl, q⟩
  · have q2 : ¬ (f19 (16 * x + L) - go).toInt = 0 := fun e => q (Int32.toInt_inj.mp (e.trans hz.symm))
    have ev : v4.toInt - go.toInt = 0 := by omega
    have ed : nI (L + 1) - (0 : Int32) = nI (L + 1) := Int32.sub_zero _
    have et : tn (upd f18 x (nI (L + 1) - 0) x) = L + 1 := by rw [pk_us, ed]; exact tn_nI (by omega)
    refine ⟨by rw [et, pk_us, ed], by rw [et]; omega, ?_, ?_, ?_, by omega⟩
    · rw [et]; intro i hi
      by_cases c : i = L
      · subst c; rw [pk_us]; omega
      · rw [pk_un (by omega)]; exact h3 i (by omega)
    · rw [et]; simp only [sB]; rw [hsame, pk_us]; omega
    · intro q3; omega
  · have q2 : (f19 (16 * x + L) - go).toInt = 0 := by rw [q]; rfl
    have ed : nI (L + 1) - (1 : Int32) = nI L := nI_pred L
    have et : tn (upd f18 x (nI (L + 1) - 1) x) = L := by rw [pk_us, ed]; exact tn_nI (by omega)
    refine ⟨by rw [et, pk_us, ed], by rw [et]; omega, ?_, ?_, ?_, by omega⟩
    · rw [et]; intro i hi
      rw [pk_un (by omega)]; exact h3 i (by omega)
    · rw [et, hsame]; omega
    · intro q3; rw [et]; have := h5 hv; omega
def lf5_goes_12 (a18 : Nat → Int32) (a19 : Nat → Int32) (a20 : Nat → Int32) (a21 : Nat → Int32) (x : Nat) (p2 : Int32) (v3 : Int32) : Nat → Nat → (Nat → Int32) → (Nat → Int32)
  | 0, _, f6 => f6
  | k + 1, j, f6 => lf5_goes_12 a18 a19 a20 a21 x p2 v3 k (j + 1) (upd f6 j ((f6 j) + (f5_gives a18 a19 a20 a21 x p2 (nI (j)))))
set_option maxHeartbeats 4000000 in
set_option maxRecDepth 100000 in
theorem lt5_goes_12 (l : Launch) (D : va_G) (ty : List (ClassId × FieldType)) (a : Nat → Nat) (cI : ClassId) (ht0 : ty[0]? = some (cI, .int)) (s0 : Int32) (s1 : Int32) (a2 : Nat → Int32) (a3 : Nat → Int32) (a4 : Nat → Int32) (a5 : Nat → Int32) (a6 : Nat → Int32) (a7 : Nat → Int32) (a8 : Nat → Int32) (a9 : Nat → Int32) (s10 : Int32) (s11 : Int32) (s12 : Int32) (a13 : Nat → Int32) (a14 : Nat → Int32) (a15 : Nat → Int32) (a16 : Nat → Int32) (a17 : Nat → Int32) (a18 : Nat → Int32) (a19 : Nat → Int32) (a20 : Nat → Int32) (a21 : Nat → Int32) (s22 : Int32) (x : Nat) (p2 : Int32) (hx60 : x < 60) (hl0 : a18 x = nI (tn (a18 x))) (hl1 : tn (a18 x) ≤ 16) (hpos : ∀ i, i < tn (a18 x) → 0 < (a19 (16 * x + i)).toInt) (hsum : p2.toInt ≤ sB a19 (16 * x) (tn (a18 x))) (h0p : 0 ≤ p2.toInt) (v3 : Int32) {p : Program} {e : Env} {s : State} {m : MethodId} {args : Array Value} {below : List Frame} {meth : Method} {c : Code} {A : Nat → Prop} {H0 : Heap} {Q : State → Prop} (hx : p.tables.exec = Jvm.exec) (hb : c.code = cX5_goes) (hml : c.maxLocals = 7) (hts : ∀ w ∈ wsX5_goes, w.before args s = true) (hown : s.vm.findClass RX5 = some m.cls) : ∀ (k j : Nat) (f6 : (Nat → Int32)) (hj : j + k = 6) (H : Heap) (locs : List Loc) (ls : Array Slot) (hw : Wd D ty A H0 s (MW a cI s0 s1 a2 a3 a4 a5 f6 a7 a8 a9 s10 s11 s12 a13 a14 a15 a16 a17 a18 a19 a20 a21 s22) H locs) (hl : lv_has ls 7 [(4, .int (nI (j))), (3, .int (v3)), (0, .ref (a 0)), (1, .int (nI (x))), (2, .int (p2))]) (kk : ∀ (H1 : Heap) (locs1 : List Loc) (ls1 : Array Slot), Wd D ty A H0 s (MW a cI s0 s1 a2 a3 a4 a5 (lf5_goes_12 a18 a19 a20 a21 x p2 v3 k j f6) a7 a8 a9 s10 s11 s12 a13 a14 a15 a16 a17 a18 a19 a20 a21 s22) H1 locs1 → lv_has ls1 7 [(4, .int (nI (6))), (3, .int (v3)), (0, .ref (a 0)), (1, .int (nI (x))), (2, .int (p2))] → W p l e ({ frames := 1, cells := 0, slots := 0, locals := 28 } : Room) s m args below meth c H1 locs1 0 0 Q (F0 m 43 ls1 [])), W p l e ({ frames := 1, cells := 0, slots := 0, locals := 28 } : Room) s m args below meth c H locs 0 0 Q (F0 m 12 ls []) := by
  have i5 : ∀ w ∈ wsX50, w ∈ wsX5_goes := fun _ h => List.mem_cons_of_mem _ (List.mem_append_right _ h)
  have lk22 := hts (.fieldLink RX5 22 "RentSizesModel" "accountCoins" "[I") (by decide +kernel)
  intro k
  induction k with
  | zero =>
    intro j f6 hj H locs ls hw hl kk
    have hj0 : j = 6 := by omega
    refine lv_iload hx hb dX5_goes_12 (lv_at hl 0 rfl) ?_
    refine lv_bipush (v := 6) hx hb dX5_goes_14 (by decide) ?_
    refine r_top (nI 6) rfl ?_
    refine lv_icmp_ge (tgt := 43) hx hb dX5_goes_16 (by decide) (fun c_16 => ?_) (fun c_16 => ?_)
    · subst hj0
      exact kk _ _ _ hw (lv_sub hl [0, 1, 2, 3, 4] rfl)
    · exact absurd (nI_le (by omega) (by omega)) c_16
  | succ k ih =>
    intro j f6 hj H locs ls hw hl kk
    have hjb : j < 6 := by omega
    refine lv_iload hx hb dX5_goes_12 (lv_at hl 0 rfl) ?_
    refine lv_bipush (v := 6) hx hb dX5_goes_14 (by decide) ?_
    refine r_top (nI 6) rfl ?_
    refine lv_icmp_ge (tgt := 43) hx hb dX5_goes_16 (by decide) (fun c_16 => ?_) (fun c_16 => ?_)
    · exact absurd c_16 (nI_ge (by omega) (by omega))
    · refine lv_aload_n hx hb dX5_goes_19 rfl (lv_at hl 2 rfl) ?_
      refine r_get (C := RX5) (T := TX5) (v := .ref (a 6)) hx hb hts i5 hown hw 0 rfl rfl 6 (by decide) lk22 rfl dX5_goes_20 ?_
      refine lv_iload hx hb dX5_goes_23 (lv_at hl 0 rfl) ?_
      refine lv_dup2_11 hx hb dX5_goes_25 rfl rfl ?_
      refine r_ialdN (v := f6 j) hx hb hw 5 rfl ht0 j (by omega) (by decide) dX5_goes_26 rfl ?_
      refine lv_aload_n hx hb dX5_goes_27 rfl (lv_at hl 2 rfl) ?_
      refine lv_iload_n hx hb dX5_goes_28 rfl (lv_at hl 3 rfl) ?_
      refine lv_iload_n hx hb dX5_goes_29 rfl (lv_at hl 4 rfl) ?_
      refine lv_iload hx hb dX5_goes_30 (lv_at hl 0 rfl) ?_
      refine r_callVi 0 rfl rfl (rest := [.int (f6 j), .int (nI (j)), .ref (a 6)]) ⟨hx, hb, hml, hown, hts⟩ hw [.int (nI (x)), .int (p2), .int (nI (j))] (k5_gives l D ty a cI ht0 s0 s1 a2 a3 a4 a5 f6 a7 a8 a9 s10 s11 s12 a13 a14 a15 a16 a17 a18 a19 a20 a21 s22 x p2 (nI (j)) (by first | assumption | omega) (by first | assumption | omega) (by first | assumption | omega)) (cwV 3 hts gX5_goes_X5_gives rfl rfl rfl (by decide +kernel) ⟨Nat.le_of_ble_eq_true rfl, Nat.le_of_ble_eq_true rfl⟩) rfl hl.1 rfl (Nat.le_of_ble_eq_true rfl) dX5_goes_32 ⟨Nat.le_of_ble_eq_true rfl, Nat.le_of_ble_eq_true rfl⟩ (fun r w H locs hp hw => ?_)
      obtain ⟨rfl, rfl⟩ := hp
      refine lv_iadd hx hb dX5_goes_35 ?_
      refine r_iastN (ws' := MW a cI s0 s1 a2 a3 a4 a5 (upd f6 j ((f6 j) + (f5_gives a18 a19 a20 a21 x p2 (nI (j))))) a7 a8 a9 s10 s11 s12 a13 a14 a15 a16 a17 a18 a19 a20 a21 s22) hx hb hw 5 rfl ht0 j (by omega) (by decide) (MW_u6 _) dX5_goes_36 (fun H locs hw => ?_)
      refine lv_iinc (v := nI (j + 1)) (lv' := [(4, .int (nI (j + 1))), (3, .int (v3)), (0, .ref (a 0)), (1, .int (nI (x))), (2, .int (p2))]) hx hb dX5_goes_37 hl (k := 0) rfl (by show nI (j) + 1 = _; exact nI_1 _) (by decide) rfl (fun ls hl => ?_)
      refine lv_goto (tgt := 12) hx hb dX5_goes_40 (by decide) ?_
      have e9 : lf5_goes_12 a18 a19 a20 a21 x p2 v3 (k + 1) j f6 = lf5_goes_12 a18 a19 a20 a21 x p2 v3 k (j + 1) (upd f6 j ((f6 j) + (f5_gives a18 a19 a20 a21 x p2 (nI (j))))) := rfl
      rw [e9] at kk
      exact ih (j + 1) (upd f6 j ((f6 j) + (f5_gives a18 a19 a20 a21 x p2 (nI (j))))) (by omega)  _ _ _ hw (lv_sub hl [0, 1, 2, 3, 4] rfl) kk
def lf5_goes_46 (x : Nat) (p2 : Int32) (v3 : Int32) (f6 : Nat → Int32) : Nat → Int32 → (Nat → Int32) → (Nat → Int32) → Int32 × (Nat → Int32) × (Nat → Int32)
  | 0, v4, f18, f19 => (v4, f18, f19)
  | j + 1, v4, f18, f19 => if v4 ≤ 0 then (v4, f18, f19)
    else if v4 ≤ (f19 (16 * x + (tn (f18 x) - 1))) then (if ((upd f19 (16 * x + (tn (f18 x) - 1)) ((f19 (16 * x + (tn (f18 x) - 1))) - v4)) (16 * x + (tn (f18 x) - 1))) = 0 then lf5_goes_46 x p2 v3 f6 j (v4 - v4) (upd f18 x ((nI (tn (f18 x))) - 1)) (upd f19 (16 * x + (tn (f18 x) - 1)) ((f19 (16 * x + (tn (f18 x) - 1))) - v4))
      else lf5_goes_46 x p2 v3 f6 j (v4 - v4) (upd f18 x ((nI (tn (f18 x))) - 0)) (upd f19 (16 * x + (tn (f18 x) - 1)) ((f19 (16 * x + (tn (f18 x) - 1))) - v4)))
    else if ((upd f19 (16 * x + (tn (f18 x) - 1)) ((f19 (16 * x + (tn (f18 x) - 1))) - (f19 (16 * x + (tn (f18 x) - 1))))) (16 * x + (tn (f18 x) - 1))) = 0 then lf5_goes_46 x p2 v3 f6 j (v4 - (f19 (16 * x + (tn (f18 x) - 1)))) (upd f18 x ((nI (tn (f18 x))) - 1)) (upd f19 (16 * x + (tn (f18 x) - 1)) ((f19 (16 * x + (tn (f18 x) - 1))) - (f19 (16 * x + (tn (f18 x) - 1)))))
    else lf5_goes_46 x p2 v3 f6 j (v4 - (f19 (16 * x + (tn (f18 x) - 1)))) (upd f18 x ((nI (tn (f18 x))) - 0)) (upd f19 (16 * x + (tn (f18 x) - 1)) ((f19 (16 * x + (tn (f18 x) - 1))) - (f19 (16 * x + (tn (f18 x) - 1)))))
set_option maxHeartbeats 4000000 in
set_option maxRecDepth 100000 in
theorem lt5_goes_46 (l : Launch) (D : va_G) (ty : List (ClassId × FieldType)) (a : Nat → Nat) (cI : ClassId) (ht0 : ty[0]? = some (cI, .int)) (s0 : Int32) (s1 : Int32) (a2 : Nat → Int32) (a3 : Nat → Int32) (a4 : Nat → Int32) (a5 : Nat → Int32) (a6 : Nat → Int32) (a7 : Nat → Int32) (a8 : Nat → Int32) (a9 : Nat → Int32) (s10 : Int32) (s11 : Int32) (s12 : Int32) (a13 : Nat → Int32) (a14 : Nat → Int32) (a15 : Nat → Int32) (a16 : Nat → Int32) (a17 : Nat → Int32) (a18 : Nat → Int32) (a19 : Nat → Int32) (a20 : Nat → Int32) (a21 : Nat → Int32) (s22 : Int32) (x : Nat) (p2 : Int32) (hx60 : x < 60) (hl0 : a18 x = nI (tn (a18 x))) (hl1 : tn (a18 x) ≤ 16) (hpos : ∀ i, i < tn (a18 x) → 0 < (a19 (16 * x + i)).toInt) (hsum : p2.toInt ≤ sB a19 (16 * x) (tn (a18 x))) (h0p : 0 ≤ p2.toInt) (v3 : Int32) (f6 : Nat → Int32) {p : Program} {e : Env} {s : State} {m : MethodId} {args : Array Value} {below : List Frame} {meth : Method} {c : Code} {A : Nat → Prop} {H0 : Heap} {Q : State → Prop} (hx : p.tables.exec = Jvm.exec) (hb : c.code = cX5_goes) (hml : c.maxLocals = 7) (hts : ∀ w ∈ wsX5_goes, w.before args s = true) (hown : s.vm.findClass RX5 = some m.cls) : ∀ (j : Nat) (v4 : Int32) (f18 : (Nat → Int32)) (f19 : (Nat → Int32)) (hinv : gINV x j v4 f18 f19) (H : Heap) (locs : List Loc) (ls : Array Slot) (hw : Wd D ty A H0 s (MW a cI s0 s1 a2 a3 a4 a5 f6 a7 a8 a9 s10 s11 s12 a13 a14 a15 a16 a17 f18 f19 a20 a21 s22) H locs) (hl : lv_has ls 7 [(4, .int (v4)), (3, .int (v3)), (0, .ref (a 0)), (1, .int (nI (x))), (2, .int (p2))]) (kk : ∀ (H1 : Heap) (locs1 : List Loc) (ls1 : Array Slot), Wd D ty A H0 s (MW a cI s0 s1 a2 a3 a4 a5 f6 a7 a8 a9 s10 s11 s12 a13 a14 a15 a16 a17 ((lf5_goes_46 x p2 v3 f6 j v4 f18 f19).2.1) ((lf5_goes_46 x p2 v3 f6 j v4 f18 f19).2.2) a20 a21 s22) H1 locs1 → lv_has ls1 7 [(4, .int ((lf5_goes_46 x p2 v3 f6 j v4 f18 f19).1)), (3, .int (v3)), (0, .ref (a 0)), (1, .int (nI (x))), (2, .int (p2))] → W p l e ({ frames := 1, cells := 0, slots := 0, locals := 28 } : Room) s m args below meth c H1 locs1 0 0 Q (F0 m 138 ls1 [])), W p l e ({ frames := 1, cells := 0, slots := 0, locals := 28 } : Room) s m args below meth c H locs 0 0 Q (F0 m 46 ls []) := by
  have i5 : ∀ w ∈ wsX50, w ∈ wsX5_goes := fun _ h => List.mem_cons_of_mem _ (List.mem_append_right _ h)
  have lk49 := hts (.fieldLink RX5 49 "RentSizesModel" "layers" "[I") (by decide +kernel)
  have lk52 := hts (.fieldLink RX5 52 "RentSizesModel" "layerBytes" "[I") (by decide +kernel)
  intro j
  induction j with
  | zero =>
    intro v4 f18 f19 hinv H locs ls hw hl kk
    refine lv_iload hx hb dX5_goes_46 (lv_at hl 0 rfl) ?_
    refine lv_if_le (tgt := 138) hx hb dX5_goes_48 (by decide) (fun c_48 => ?_) (fun c_48 => ?_)
    · exact kk _ _ _ hw (lv_sub hl [0, 1, 2, 3, 4] rfl)
    · exact absurd (hinv.2.2.2.2.1 (g_v.mp c_48)) (by omega)
  | succ j ih =>
    intro v4 f18 f19 hinv H locs ls hw hl kk
    refine lv_iload hx hb dX5_goes_46 (lv_at hl 0 rfl) ?_
    refine lv_if_le (tgt := 138) hx hb dX5_goes_48 (by decide) (fun c_48 => ?_) (fun c_48 => ?_)
    · have e9 : lf5_goes_46 x p2 v3 f6 (j + 1) v4 f18 f19 = (v4, f18, f19) := by rw [lf5_goes_46]; rw [if_pos c_48]
      rw [e9] at kk
      exact kk _ _ _ hw (lv_sub hl [0, 1, 2, 3, 4] rfl)
    · refine lv_bipush (v := 16) hx hb dX5_goes_51 (by decide) ?_
      refine lv_iload_n hx hb dX5_goes_53 rfl (lv_at hl 3 rfl) ?_
      refine lv_imul hx hb dX5_goes_54 ?_
      refine r_top (nI (16 * x)) (show nI (16) * nI (x) = nI (16 * x) from pk_mul _ _) ?_
      refine lv_aload_n hx hb dX5_goes_55 rfl (lv_at hl 2 rfl) ?_
      refine r_get (C := RX5) (T := TX5) (v := .ref (a 18)) hx hb hts i5 hown hw 0 rfl rfl 18 (by decide) lk49 rfl dX5_goes_56 ?_
      refine lv_iload_n hx hb dX5_goes_59 rfl (lv_at hl 3 rfl) ?_
      refine r_ialdN (v := f18 x) hx hb hw 14 rfl ht0 x (by omega) (by decide) dX5_goes_60 rfl ?_
      refine r_top (nI (tn (f18 x))) hinv.1 ?_
      refine lv_iadd hx hb dX5_goes_61 ?_
      refine r_top (nI ((16 * x) + (tn (f18 x)))) (show nI (16 * x) + nI (tn (f18 x)) = nI ((16 * x) + (tn (f18 x))) from nI_add _ _) ?_
      refine lv_iconst (v := 1) hx hb dX5_goes_62 (by decide) ?_
      refine lv_isub hx hb dX5_goes_63 ?_
      refine lv_istore (lv' := [(5, .int ((nI ((16 * x) + (tn (f18 x)))) - 1)), (4, .int (v4)), (3, .int (v3)), (0, .ref (a 0)), (1, .int (nI (x))), (2, .int (p2))]) hx hb dX5_goes_64 hl (by decide) rfl (fun ls hl => ?_)
      have hL := g_pos hinv c_48
      have h16 := hinv.2.1
      have hl : lv_has ls 7 [(5, .int (nI (16 * x + (tn (f18 x) - 1)))), (4, .int (v4)), (3, .int (v3)), (0, .ref (a 0)), (1, .int (nI (x))), (2, .int (p2))] := by have q := (show nI (16 * x + tn (f18 x)) - 1 = nI (16 * x + (tn (f18 x) - 1)) by rw [nI_sub1 (by omega), show 16 * x + tn (f18 x) - 1 = 16 * x + (tn (f18 x) - 1) by omega]); rw [q] at hl; exact hl
      refine lv_aload_n hx hb dX5_goes_66 rfl (lv_at hl 3 rfl) ?_
      refine r_get (C := RX5) (T := TX5) (v := .ref (a 19)) hx hb hts i5 hown hw 0 rfl rfl 19 (by decide) lk52 rfl dX5_goes_67 ?_
      refine lv_iload hx hb dX5_goes_70 (lv_at hl 0 rfl) ?_
      refine r_ialdN (v := f19 (16 * x + (tn (f18 x) - 1))) hx hb hw 15 rfl ht0 (16 * x + (tn (f18 x) - 1)) (by omega) (by decide) dX5_goes_72 rfl ?_
      refine lv_iload hx hb dX5_goes_73 (lv_at hl 1 rfl) ?_
      refine lv_icmp_ge (tgt := 88) hx hb dX5_goes_75 (by decide) (fun c_75 => ?_) (fun c_75 => ?_)
      · refine lv_iload hx hb dX5_goes_88 (lv_at hl 1 rfl) ?_
        refine lv_istore (lv' := [(6, .int (v4)), (5, .int (nI (16 * x + (tn (f18 x) - 1)))), (4, .int (v4)), (3, .int (v3)), (0, .ref (a 0)), (1, .int (nI (x))), (2, .int (p2))]) hx hb dX5_goes_90 hl (by decide) rfl (fun ls hl => ?_)
        refine lv_aload_n hx hb dX5_goes_92 rfl (lv_at hl 4 rfl) ?_
        refine r_get (C := RX5) (T := TX5) (v := .ref (a 19)) hx hb hts i5 hown hw 0 rfl rfl 19 (by decide) lk52 rfl dX5_goes_93 ?_
        refine lv_iload hx hb dX5_goes_96 (lv_at hl 1 rfl) ?_
        refine lv_dup2_11 hx hb dX5_goes_98 rfl rfl ?_
        refine r_ialdN (v := f19 (16 * x + (tn (f18 x) - 1))) hx hb hw 15 rfl ht0 (16 * x + (tn (f18 x) - 1)) (by omega) (by decide) dX5_goes_99 rfl ?_
        refine lv_iload hx hb dX5_goes_100 (lv_at hl 0 rfl) ?_
        refine lv_isub hx hb dX5_goes_102 ?_
        refine r_iastN (ws' := MW a cI s0 s1 a2 a3 a4 a5 f6 a7 a8 a9 s10 s11 s12 a13 a14 a15 a16 a17 f18 (upd f19 (16 * x + (tn (f18 x) - 1)) ((f19 (16 * x + (tn (f18 x) - 1))) - v4)) a20 a21 s22) hx hb hw 15 rfl ht0 (16 * x + (tn (f18 x) - 1)) (by omega) (by decide) (MW_u19 _) dX5_goes_103 (fun H locs hw => ?_)
        refine lv_iload hx hb dX5_goes_104 (lv_at hl 2 rfl) ?_
        refine lv_iload hx hb dX5_goes_106 (lv_at hl 0 rfl) ?_
        refine lv_isub hx hb dX5_goes_108 ?_
        refine lv_istore (lv' := [(4, .int (v4 - v4)), (6, .int (v4)), (5, .int (nI (16 * x + (tn (f18 x) - 1)))), (3, .int (v3)), (0, .ref (a 0)), (1, .int (nI (x))), (2, .int (p2))]) hx hb dX5_goes_109 hl (by decide) rfl (fun ls hl => ?_)
        refine lv_aload_n hx hb dX5_goes_111 rfl (lv_at hl 4 rfl) ?_
        refine r_get (C := RX5) (T := TX5) (v := .ref (a 18)) hx hb hts i5 hown hw 0 rfl rfl 18 (by decide) lk49 rfl dX5_goes_112 ?_
        refine lv_iload_n hx hb dX5_goes_115 rfl (lv_at hl 5 rfl) ?_
        refine lv_dup2_11 hx hb dX5_goes_116 rfl rfl ?_
        refine r_ialdN (v := f18 x) hx hb hw 14 rfl ht0 x (by omega) (by decide) dX5_goes_117 rfl ?_
        refine r_top (nI (tn (f18 x))) hinv.1 ?_
        refine lv_aload_n hx hb dX5_goes_118 rfl (lv_at hl 4 rfl) ?_
        refine r_get (C := RX5) (T := TX5) (v := .ref (a 19)) hx hb hts i5 hown hw 0 rfl rfl 19 (by decide) lk52 rfl dX5_goes_119 ?_
        refine lv_iload hx hb dX5_goes_122 (lv_at hl 2 rfl) ?_
        refine r_ialdN (v := (upd f19 (16 * x + (tn (f18 x) - 1)) ((f19 (16 * x + (tn (f18 x) - 1))) - v4)) (16 * x + (tn (f18 x) - 1))) hx hb hw 15 rfl ht0 (16 * x + (tn (f18 x) - 1)) (by omega) (by decide) dX5_goes_124 rfl ?_
        refine lv_if_ne (tgt := 132) hx hb dX5_goes_125 (by decide) (fun c_125 => ?_) (fun c_125 => ?_)
        · refine lv_iconst (v := 0) hx hb dX5_goes_132 (by decide) ?_
          refine lv_isub hx hb dX5_goes_133 ?_
          refine r_iastN (ws' := MW a cI s0 s1 a2 a3 a4 a5 f6 a7 a8 a9 s10 s11 s12 a13 a14 a15 a16 a17 (upd f18 x ((nI (tn (f18 x))) - 0)) (upd f19 (16 * x + (tn (f18 x) - 1)) ((f19 (16 * x + (tn (f18 x) - 1))) - v4)) a20 a21 s22) hx hb hw 14 rfl ht0 x (by omega) (by decide) (MW_u18 _) dX5_goes_134 (fun H locs hw => ?_)
          refine lv_goto (tgt := 46) hx hb dX5_goes_135 (by decide) ?_
          have e9 : lf5_goes_46 x p2 v3 f6 (j + 1) v4 f18 f19 = lf5_goes_46 x p2 v3 f6 j (v4 - v4) (upd f18 x ((nI (tn (f18 x))) - 0)) (upd f19 (16 * x + (tn (f18 x) - 1)) ((f19 (16 * x + (tn (f18 x) - 1))) - v4)) := by rw [lf5_goes_46]; rw [if_neg c_48, if_pos c_75, if_neg c_125]
          rw [e9] at kk
          exact ih (v4 - v4) (upd f18 x ((nI (tn (f18 x))) - 0)) (upd f19 (16 * x + (tn (f18 x) - 1)) ((f19 (16 * x + (tn (f18 x) - 1))) - v4))  (g_step hinv c_48 (by first | exact Or.inl ⟨rfl, c_75⟩ | exact Or.inr ⟨rfl, c_75⟩) (by first | exact Or.inl ⟨rfl, c_125⟩ | exact Or.inr ⟨rfl, c_125⟩)) _ _ _ hw (lv_sub hl [0, 3, 4, 5, 6] rfl) kk
        · refine lv_iconst (v := 1) hx hb dX5_goes_128 (by decide) ?_
          refine lv_goto (tgt := 133) hx hb dX5_goes_129 (by decide) ?_
          refine lv_isub hx hb dX5_goes_133 ?_
          refine r_iastN (ws' := MW a cI s0 s1 a2 a3 a4 a5 f6 a7 a8 a9 s10 s11 s12 a13 a14 a15 a16 a17 (upd f18 x ((nI (tn (f18 x))) - 1)) (upd f19 (16 * x + (tn (f18 x) - 1)) ((f19 (16 * x + (tn (f18 x) - 1))) - v4)) a20 a21 s22) hx hb hw 14 rfl ht0 x (by omega) (by decide) (MW_u18 _) dX5_goes_134 (fun H locs hw => ?_)
          refine lv_goto (tgt := 46) hx hb dX5_goes_135 (by decide) ?_
          have e9 : lf5_goes_46 x p2 v3 f6 (j + 1) v4 f18 f19 = lf5_goes_46 x p2 v3 f6 j (v4 - v4) (upd f18 x ((nI (tn (f18 x))) - 1)) (upd f19 (16 * x + (tn (f18 x) - 1)) ((f19 (16 * x + (tn (f18 x) - 1))) - v4)) := by rw [lf5_goes_46]; rw [if_neg c_48, if_pos c_75, if_pos c_125]
          rw [e9] at kk
          exact ih (v4 - v4) (upd f18 x ((nI (tn (f18 x))) - 1)) (upd f19 (16 * x + (tn (f18 x) - 1)) ((f19 (16 * x + (tn (f18 x) - 1))) - v4))  (g_step hinv c_48 (by first | exact Or.inl ⟨rfl, c_75⟩ | exact Or.inr ⟨rfl, c_75⟩) (by first | exact Or.inl ⟨rfl, c_125⟩ | exact Or.inr ⟨rfl, c_125⟩)) _ _ _ hw (lv_sub hl [0, 3, 4, 5, 6] rfl) kk
      · refine lv_aload_n hx hb dX5_goes_78 rfl (lv_at hl 3 rfl) ?_
        refine r_get (C := RX5) (T := TX5) (v := .ref (a 19)) hx hb hts i5 hown hw 0 rfl rfl 19 (by decide) lk52 rfl dX5_goes_79 ?_
        refine lv_iload hx hb dX5_goes_82 (lv_at hl 0 rfl) ?_
        refine r_ialdN (v := f19 (16 * x + (tn (f18 x) - 1))) hx hb hw 15 rfl ht0 (16 * x + (tn (f18 x) - 1)) (by omega) (by decide) dX5_goes_84 rfl ?_
        refine lv_goto (tgt := 90) hx hb dX5_goes_85 (by decide) ?_
        refine lv_istore (lv' := [(6, .int (f19 (16 * x + (tn (f18 x) - 1)))), (5, .int (nI (16 * x + (tn (f18 x) - 1)))), (4, .int (v4)), (3, .int (v3)), (0, .ref (a 0)), (1, .int (nI (x))), (2, .int (p2))]) hx hb dX5_goes_90 hl (by decide) rfl (fun ls hl => ?_)
        refine lv_aload_n hx hb dX5_goes_92 rfl (lv_at hl 4 rfl) ?_
        refine r_get (C := RX5) (T := TX5) (v := .ref (a 19)) hx hb hts i5 hown hw 0 rfl rfl 19 (by decide) lk52 rfl dX5_goes_93 ?_
        refine lv_iload hx hb dX5_goes_96 (lv_at hl 1 rfl) ?_
        refine lv_dup2_11 hx hb dX5_goes_98 rfl rfl ?_
        refine r_ialdN (v := f19 (16 * x + (tn (f18 x) - 1))) hx hb hw 15 rfl ht0 (16 * x + (tn (f18 x) - 1)) (by omega) (by decide) dX5_goes_99 rfl ?_
        refine lv_iload hx hb dX5_goes_100 (lv_at hl 0 rfl) ?_
        refine lv_isub hx hb dX5_goes_102 ?_
        refine r_iastN (ws' := MW a cI s0 s1 a2 a3 a4 a5 f6 a7 a8 a9 s10 s11 s12 a13 a14 a15 a16 a17 f18 (upd f19 (16 * x + (tn (f18 x) - 1)) ((f19 (16 * x + (tn (f18 x) - 1))) - (f19 (16 * x + (tn (f18 x) - 1))))) a20 a21 s22) hx hb hw 15 rfl ht0 (16 * x + (tn (f18 x) - 1)) (by omega) (by decide) (MW_u19 _) dX5_goes_103 (fun H locs hw => ?_)
        refine lv_iload hx hb dX5_goes_104 (lv_at hl 2 rfl) ?_
        refine lv_iload hx hb dX5_goes_106 (lv_at hl 0 rfl) ?_
        refine lv_isub hx hb dX5_goes_108 ?_
        refine lv_istore (lv' := [(4, .int (v4 - (f19 (16 * x + (tn (f18 x) - 1))))), (6, .int (f19 (16 * x + (tn (f18 x) - 1)))), (5, .int (nI (16 * x + (tn (f18 x) - 1)))), (3, .int (v3)), (0, .ref (a 0)), (1, .int (nI (x))), (2, .int (p2))]) hx hb dX5_goes_109 hl (by decide) rfl (fun ls hl => ?_)
        refine lv_aload_n hx hb dX5_goes_111 rfl (lv_at hl 4 rfl) ?_
        refine r_get (C := RX5) (T := TX5) (v := .ref (a 18)) hx hb hts i5 hown hw 0 rfl rfl 18 (by decide) lk49 rfl dX5_goes_112 ?_
        refine lv_iload_n hx hb dX5_goes_115 rfl (lv_at hl 5 rfl) ?_
        refine lv_dup2_11 hx hb dX5_goes_116 rfl rfl ?_
        refine r_ialdN (v := f18 x) hx hb hw 14 rfl ht0 x (by omega) (by decide) dX5_goes_117 rfl ?_
        refine r_top (nI (tn (f18 x))) hinv.1 ?_
        refine lv_aload_n hx hb dX5_goes_118 rfl (lv_at hl 4 rfl) ?_
        refine r_get (C := RX5) (T := TX5) (v := .ref (a 19)) hx hb hts i5 hown hw 0 rfl rfl 19 (by decide) lk52 rfl dX5_goes_119 ?_
        refine lv_iload hx hb dX5_goes_122 (lv_at hl 2 rfl) ?_
        refine r_ialdN (v := (upd f19 (16 * x + (tn (f18 x) - 1)) ((f19 (16 * x + (tn (f18 x) - 1))) - (f19 (16 * x + (tn (f18 x) - 1))))) (16 * x + (tn (f18 x) - 1))) hx hb hw 15 rfl ht0 (16 * x + (tn (f18 x) - 1)) (by omega) (by decide) dX5_goes_124 rfl ?_
        refine lv_if_ne (tgt := 132) hx hb dX5_goes_125 (by decide) (fun c_125 => ?_) (fun c_125 => ?_)
        · refine lv_iconst (v := 0) hx hb dX5_goes_132 (by decide) ?_
          refine lv_isub hx hb dX5_goes_133 ?_
          refine r_iastN (ws' := MW a cI s0 s1 a2 a3 a4 a5 f6 a7 a8 a9 s10 s11 s12 a13 a14 a15 a16 a17 (upd f18 x ((nI (tn (f18 x))) - 0)) (upd f19 (16 * x + (tn (f18 x) - 1)) ((f19 (16 * x + (tn (f18 x) - 1))) - (f19 (16 * x + (tn (f18 x) - 1))))) a20 a21 s22) hx hb hw 14 rfl ht0 x (by omega) (by decide) (MW_u18 _) dX5_goes_134 (fun H locs hw => ?_)
          refine lv_goto (tgt := 46) hx hb dX5_goes_135 (by decide) ?_
          have e9 : lf5_goes_46 x p2 v3 f6 (j + 1) v4 f18 f19 = lf5_goes_46 x p2 v3 f6 j (v4 - (f19 (16 * x + (tn (f18 x) - 1)))) (upd f18 x ((nI (tn (f18 x))) - 0)) (upd f19 (16 * x + (tn (f18 x) - 1)) ((f19 (16 * x + (tn (f18 x) - 1))) - (f19 (16 * x + (tn (f18 x) - 1))))) := by rw [lf5_goes_46]; rw [if_neg c_48, if_neg c_75, if_neg c_125]
          rw [e9] at kk
          exact ih (v4 - (f19 (16 * x + (tn (f18 x) - 1)))) (upd f18 x ((nI (tn (f18 x))) - 0)) (upd f19 (16 * x + (tn (f18 x) - 1)) ((f19 (16 * x + (tn (f18 x) - 1))) - (f19 (16 * x + (tn (f18 x) - 1)))))  (g_step hinv c_48 (by first | exact Or.inl ⟨rfl, c_75⟩ | exact Or.inr ⟨rfl, c_75⟩) (by first | exact Or.inl ⟨rfl, c_125⟩ | exact Or.inr ⟨rfl, c_125⟩)) _ _ _ hw (lv_sub hl [0, 3, 4, 5, 6] rfl) kk
        · refine lv_iconst (v := 1) hx hb dX5_goes_128 (by decide) ?_
          refine lv_goto (tgt := 133) hx hb dX5_goes_129 (by decide) ?_
          refine lv_isub hx hb dX5_goes_133 ?_
          refine r_iastN (ws' := MW a cI s0 s1 a2 a3 a4 a5 f6 a7 a8 a9 s10 s11 s12 a13 a14 a15 a16 a17 (upd f18 x ((nI (tn (f18 x))) - 1)) (upd f19 (16 * x + (tn (f18 x) - 1)) ((f19 (16 * x + (tn (f18 x) - 1))) - (f19 (16 * x + (tn (f18 x) - 1))))) a20 a21 s22) hx hb hw 14 rfl ht0 x (by omega) (by decide) (MW_u18 _) dX5_goes_134 (fun H locs hw => ?_)
          refine lv_goto (tgt := 46) hx hb dX5_goes_135 (by decide) ?_
          have e9 : lf5_goes_46 x p2 v3 f6 (j + 1) v4 f18 f19 = lf5_goes_46 x p2 v3 f6 j (v4 - (f19 (16 * x + (tn (f18 x) - 1)))) (upd f18 x ((nI (tn (f18 x))) - 1)) (upd f19 (16 * x + (tn (f18 x) - 1)) ((f19 (16 * x + (tn (f18 x) - 1))) - (f19 (16 * x + (tn (f18 x) - 1))))) := by rw [lf5_goes_46]; rw [if_neg c_48, if_neg c_75, if_pos c_125]
          rw [e9] at kk
          exact ih (v4 - (f19 (16 * x + (tn (f18 x) - 1)))) (upd f18 x ((nI (tn (f18 x))) - 1)) (upd f19 (16 * x + (tn (f18 x) - 1)) ((f19 (16 * x + (tn (f18 x) - 1))) - (f19 (16 * x + (tn (f18 x) - 1)))))  (g_step hinv c_48 (by first | exact Or.inl ⟨rfl, c_75⟩ | exact Or.inr ⟨rfl, c_75⟩) (by first | exact Or.inl ⟨rfl, c_125⟩ | exact Or.inr ⟨rfl, c_125⟩)) _ _ _ hw (lv_sub hl [0, 3, 4, 5, 6] rfl) kk
def f5_goes (a6 : Nat → Int32) (a18 : Nat → Int32) (a19 : Nat → Int32) (a20 : Nat → Int32) (a21 : Nat → Int32) (x : Nat) (p2 : Int32) : Int32 × (Nat → Int32) × (Nat → Int32) × (Nat → Int32) :=
  (f5_gives a18 a19 a20 a21 x p2 (-109), (lf5_goes_12 a18 a19 a20 a21 x p2 (f5_gives a18 a19 a20 a21 x p2 (-109)) 6 0 a6), (lf5_goes_46 x p2 (f5_gives a18 a19 a20 a21 x p2 (-109)) (lf5_goes_12 a18 a19 a20 a21 x p2 (f5_gives a18 a19 a20 a21 x p2 (-109)) 6 0 a6) (tn (a18 x) + 1) p2 a18 a19).2.1, (lf5_goes_46 x p2 (f5_gives a18 a19 a20 a21 x p2 (-109)) (lf5_goes_12 a18 a19 a20 a21 x p2 (f5_gives a18 a19 a20 a21 x p2 (-109)) 6 0 a6) (tn (a18 x) + 1) p2 a18 a19).2.2)
set_option maxHeartbeats 4000000 in
set_option maxRecDepth 100000 in
theorem k5_goes (l : Launch) (D : va_G) (ty : List (ClassId × FieldType)) (a : Nat → Nat) (cI : ClassId) (ht0 : ty[0]? = some (cI, .int)) (s0 : Int32) (s1 : Int32) (a2 : Nat → Int32) (a3 : Nat → Int32) (a4 : Nat → Int32) (a5 : Nat → Int32) (a6 : Nat → Int32) (a7 : Nat → Int32) (a8 : Nat → Int32) (a9 : Nat → Int32) (s10 : Int32) (s11 : Int32) (s12 : Int32) (a13 : Nat → Int32) (a14 : Nat → Int32) (a15 : Nat → Int32) (a16 : Nat → Int32) (a17 : Nat → Int32) (a18 : Nat → Int32) (a19 : Nat → Int32) (a20 : Nat → Int32) (a21 : Nat → Int32) (s22 : Int32) (x : Nat) (p2 : Int32) (hx60 : x < 60) (hl0 : a18 x = nI (tn (a18 x))) (hl1 : tn (a18 x) ≤ 16) (hpos : ∀ i, i < tn (a18 x) → 0 < (a19 (16 * x + i)).toInt) (hsum : p2.toInt ≤ sB a19 (16 * x) (tn (a18 x))) (h0p : 0 ≤ p2.toInt) : MetG l yX5_goes wsX5_goes { frames := 1, cells := 0, slots := 0, locals := 28 } D ty [.ref (a 0), .int (nI (x)), .int (p2)] (MW a cI s0 s1 a2 a3 a4 a5 a6 a7 a8 a9 s10 s11 s12 a13 a14 a15 a16 a17 a18 a19 a20 a21 s22) (va_Qi (fun r w => r = (f5_goes a6 a18 a19 a20 a21 x p2).1 ∧ w = MW a cI s0 s1 a2 a3 a4 a5 ((f5_goes a6 a18 a19 a20 a21 x p2).2.1) a7 a8 a9 s10 s11 s12 a13 a14 a15 a16 a17 ((f5_goes a6 a18 a19 a20 a21 x p2).2.2.1) ((f5_goes a6 a18 a19 a20 a21 x p2).2.2.2) a20 a21 s22)) 0 0 := by
  refine Met_start cX5_goes 7 (some .int) (by decide) rfl (Nat.le_of_ble_eq_true rfl) ?_
  intro p e s m below meth c A ls hx hb hr hlocks hml hnm hts hown hw hl
  have hl : lv_has ls 7 [(0, .ref (a 0)), (1, .int (nI (x))), (2, .int (p2))] := hl
  refine lv_aload_n hx hb dX5_goes_0 rfl (lv_at hl 0 rfl) ?_
  refine lv_iload_n hx hb dX5_goes_1 rfl (lv_at hl 1 rfl) ?_
  refine lv_iload_n hx hb dX5_goes_2 rfl (lv_at hl 2 rfl) ?_
  refine lv_bipush (v := (-109)) hx hb dX5_goes_3 (by decide) ?_
  refine r_callVi 0 rfl rfl (rest := []) ⟨hx, hb, hml, hown, hts⟩ hw [.int (nI (x)), .int (p2), .int ((-109))] (k5_gives l D ty a cI ht0 s0 s1 a2 a3 a4 a5 a6 a7 a8 a9 s10 s11 s12 a13 a14 a15 a16 a17 a18 a19 a20 a21 s22 x p2 (-109) (by first | assumption | omega) (by first | assumption | omega) (by first | assumption | omega)) (cwV 3 hts gX5_goes_X5_gives rfl rfl rfl (by decide +kernel) ⟨Nat.le_of_ble_eq_true rfl, Nat.le_of_ble_eq_true rfl⟩) rfl hl.1 rfl (Nat.le_of_ble_eq_true rfl) dX5_goes_5 ⟨Nat.le_of_ble_eq_true rfl, Nat.le_of_ble_eq_true rfl⟩ (fun r w H locs hp hw => ?_)
  obtain ⟨rfl, rfl⟩ := hp
  refine lv_istore_n (lv' := [(3, .int (f5_gives a18 a19 a20 a21 x p2 (-109))), (0, .ref (a 0)), (1, .int (nI (x))), (2, .int (p2))]) hx hb dX5_goes_8 rfl hl (by decide) rfl (fun ls hl => ?_)
  refine lv_iconst (v := 0) hx hb dX5_goes_9 (by decide) ?_
  refine lv_istore (lv' := [(4, .int (0)), (3, .int (f5_gives a18 a19 a20 a21 x p2 (-109))), (0, .ref (a 0)), (1, .int (nI (x))), (2, .int (p2))]) hx hb dX5_goes_10 hl (by decide) rfl (fun ls hl => ?_)
  refine lt5_goes_12 l D ty a cI ht0 s0 s1 a2 a3 a4 a5 a6 a7 a8 a9 s10 s11 s12 a13 a14 a15 a16 a17 a18 a19 a20 a21 s22 x p2 hx60 hl0 hl1 hpos hsum h0p (f5_gives a18 a19 a20 a21 x p2 (-109)) hx hb hml hts hown 6 0 a6 (by omega)  _ _ _ hw hl (fun H locs ls hw hl => ?_)
  refine lv_iload_n hx hb dX5_goes_43 rfl (lv_at hl 4 rfl) ?_
  refine lv_istore (lv' := [(4, .int (p2)), (3, .int (f5_gives a18 a19 a20 a21 x p2 (-109))), (0, .ref (a 0)), (1, .int (nI (x))), (2, .int (p2))]) hx hb dX5_goes_44 hl (by decide) rfl (fun ls hl => ?_)
  refine lt5_goes_46 l D ty a cI ht0 s0 s1 a2 a3 a4 a5 a6 a7 a8 a9 s10 s11 s12 a13 a14 a15 a16 a17 a18 a19 a20 a21 s22 x p2 hx60 hl0 hl1 hpos hsum h0p (f5_gives a18 a19 a20 a21 x p2 (-109)) (lf5_goes_12 a18 a19 a20 a21 x p2 (f5_gives a18 a19 a20 a21 x p2 (-109)) 6 0 a6) hx hb hml hts hown (tn (a18 x) + 1) p2 a18 a19  ⟨hl0, hl1, hpos, hsum, fun _ => Nat.le_refl _, h0p⟩ _ _ _ hw hl (fun H locs ls hw hl => ?_)
  refine lv_iload_n hx hb dX5_goes_138 rfl (lv_at hl 1 rfl) ?_
  have e9 : f5_goes a6 a18 a19 a20 a21 x p2 = (f5_gives a18 a19 a20 a21 x p2 (-109), (lf5_goes_12 a18 a19 a20 a21 x p2 (f5_gives a18 a19 a20 a21 x p2 (-109)) 6 0 a6), (lf5_goes_46 x p2 (f5_gives a18 a19 a20 a21 x p2 (-109)) (lf5_goes_12 a18 a19 a20 a21 x p2 (f5_gives a18 a19 a20 a21 x p2 (-109)) 6 0 a6) (tn (a18 x) + 1) p2 a18 a19).2.1, (lf5_goes_46 x p2 (f5_gives a18 a19 a20 a21 x p2 (-109)) (lf5_goes_12 a18 a19 a20 a21 x p2 (f5_gives a18 a19 a20 a21 x p2 (-109)) 6 0 a6) (tn (a18 x) + 1) p2 a18 a19).2.2) := by unfold f5_goes; rfl
  exact r_iret hx hb hr hlocks hw ⟨by rw [e9] <;> rfl, by rw [e9] <;> rfl⟩ dX5_goes_139
end
